section
-- ===== PART A: goes FIRST, ahead of the names: the tables' words, and 'selects' of the private methods out of them =====
/-- a private method of a class that the tables say can be made, by its rows of tables_1 -/
def lw_okq (q : MethodName × Nat) : Prop := (q.1.cls ≠ "java/lang/invoke/MethodHandle" ∧ q.1.cls ≠ "java/lang/invoke/VarHandle") ∧ Cond.instantiable q.1.cls q.2 ∈ tables_1 ∧ Cond.privateMethod q.1 ∈ tables_1 ∧ Cond.instanceMethod q.1 ∈ tables_1
theorem lw_p0 : lw_okq (⟨"java/lang/Throwable", "fillInStackTrace", "(I)Ljava/lang/Throwable;"⟩, 6) := ⟨⟨by decide +kernel, by decide +kernel⟩, List.mem_of_getElem? (i := 199) (by decide +kernel), List.mem_of_getElem? (i := 197) (by decide +kernel), List.mem_of_getElem? (i := 198) (by decide +kernel)⟩
theorem lw_p1 : lw_okq (⟨"Beamrow", "isElement", "(I)Z"⟩, 9) := ⟨⟨by decide +kernel, by decide +kernel⟩, List.mem_of_getElem? (i := 16) (by decide +kernel), List.mem_of_getElem? (i := 261) (by decide +kernel), List.mem_of_getElem? (i := 262) (by decide +kernel)⟩
theorem lw_p2 : lw_okq (⟨"Beamrow", "hearOneTick", "()V"⟩, 9) := ⟨⟨by decide +kernel, by decide +kernel⟩, List.mem_of_getElem? (i := 16) (by decide +kernel), List.mem_of_getElem? (i := 331) (by decide +kernel), List.mem_of_getElem? (i := 332) (by decide +kernel)⟩
theorem lw_p3 : lw_okq (⟨"Beamrow", "wavesAt", "(LBeamrow$Element;)I"⟩, 9) := ⟨⟨by decide +kernel, by decide +kernel⟩, List.mem_of_getElem? (i := 16) (by decide +kernel), List.mem_of_getElem? (i := 344) (by decide +kernel), List.mem_of_getElem? (i := 345) (by decide +kernel)⟩
theorem lw_p4 : lw_okq (⟨"Beamrow", "lowestLiving", "()LBeamrow$Element;"⟩, 9) := ⟨⟨by decide +kernel, by decide +kernel⟩, List.mem_of_getElem? (i := 16) (by decide +kernel), List.mem_of_getElem? (i := 400) (by decide +kernel), List.mem_of_getElem? (i := 401) (by decide +kernel)⟩
theorem lw_p5 : lw_okq (⟨"Beamrow", "layAll", "()J"⟩, 9) := ⟨⟨by decide +kernel, by decide +kernel⟩, List.mem_of_getElem? (i := 16) (by decide +kernel), List.mem_of_getElem? (i := 405) (by decide +kernel), List.mem_of_getElem? (i := 406) (by decide +kernel)⟩
theorem lw_p6 : lw_okq (⟨"Beamrow", "weightOf", "(II)I"⟩, 9) := ⟨⟨by decide +kernel, by decide +kernel⟩, List.mem_of_getElem? (i := 16) (by decide +kernel), List.mem_of_getElem? (i := 409) (by decide +kernel), List.mem_of_getElem? (i := 410) (by decide +kernel)⟩
theorem lw_p7 : lw_okq (⟨"Beamrow$Element", "laidAt", "(I)J"⟩, 11) := ⟨⟨by decide +kernel, by decide +kernel⟩, List.mem_of_getElem? (i := 40) (by decide +kernel), List.mem_of_getElem? (i := 441) (by decide +kernel), List.mem_of_getElem? (i := 442) (by decide +kernel)⟩
theorem lw_p8 : lw_okq (⟨"Beamrow", "holdTo", "(LBeamrow$Element;JI)I"⟩, 9) := ⟨⟨by decide +kernel, by decide +kernel⟩, List.mem_of_getElem? (i := 16) (by decide +kernel), List.mem_of_getElem? (i := 446) (by decide +kernel), List.mem_of_getElem? (i := 447) (by decide +kernel)⟩
theorem lw_p9 : lw_okq (⟨"Beamrow", "steer", "(I)V"⟩, 9) := ⟨⟨by decide +kernel, by decide +kernel⟩, List.mem_of_getElem? (i := 16) (by decide +kernel), List.mem_of_getElem? (i := 487) (by decide +kernel), List.mem_of_getElem? (i := 488) (by decide +kernel)⟩
theorem lw_p10 : lw_okq (⟨"Beamrow$Element", "firstTold", "(I)I"⟩, 11) := ⟨⟨by decide +kernel, by decide +kernel⟩, List.mem_of_getElem? (i := 40) (by decide +kernel), List.mem_of_getElem? (i := 498) (by decide +kernel), List.mem_of_getElem? (i := 499) (by decide +kernel)⟩
theorem lw_p11 : lw_okq (⟨"Beamrow$Element", "toldAt", "(I)J"⟩, 11) := ⟨⟨by decide +kernel, by decide +kernel⟩, List.mem_of_getElem? (i := 40) (by decide +kernel), List.mem_of_getElem? (i := 502) (by decide +kernel), List.mem_of_getElem? (i := 503) (by decide +kernel)⟩
theorem lw_p12 : lw_okq (⟨"Beamrow", "powerBySums", "(I)J"⟩, 9) := ⟨⟨by decide +kernel, by decide +kernel⟩, List.mem_of_getElem? (i := 16) (by decide +kernel), List.mem_of_getElem? (i := 513) (by decide +kernel), List.mem_of_getElem? (i := 514) (by decide +kernel)⟩
theorem lw_p13 : lw_okq (⟨"Beamrow", "powerByPairs", "(I)J"⟩, 9) := ⟨⟨by decide +kernel, by decide +kernel⟩, List.mem_of_getElem? (i := 16) (by decide +kernel), List.mem_of_getElem? (i := 524) (by decide +kernel), List.mem_of_getElem? (i := 525) (by decide +kernel)⟩
theorem lw_p14 : lw_okq (⟨"Beamrow", "fillPowers", "()J"⟩, 9) := ⟨⟨by decide +kernel, by decide +kernel⟩, List.mem_of_getElem? (i := 16) (by decide +kernel), List.mem_of_getElem? (i := 540) (by decide +kernel), List.mem_of_getElem? (i := 541) (by decide +kernel)⟩
theorem lw_p15 : lw_okq (⟨"Beamrow", "isPeak", "(I)Z"⟩, 9) := ⟨⟨by decide +kernel, by decide +kernel⟩, List.mem_of_getElem? (i := 16) (by decide +kernel), List.mem_of_getElem? (i := 544) (by decide +kernel), List.mem_of_getElem? (i := 545) (by decide +kernel)⟩
def lw_privs_1 : List (MethodName × Nat) := [(⟨"java/lang/Throwable", "fillInStackTrace", "(I)Ljava/lang/Throwable;"⟩, 6), (⟨"Beamrow", "isElement", "(I)Z"⟩, 9), (⟨"Beamrow", "hearOneTick", "()V"⟩, 9), (⟨"Beamrow", "wavesAt", "(LBeamrow$Element;)I"⟩, 9), (⟨"Beamrow", "lowestLiving", "()LBeamrow$Element;"⟩, 9), (⟨"Beamrow", "layAll", "()J"⟩, 9), (⟨"Beamrow", "weightOf", "(II)I"⟩, 9), (⟨"Beamrow$Element", "laidAt", "(I)J"⟩, 11), (⟨"Beamrow", "holdTo", "(LBeamrow$Element;JI)I"⟩, 9), (⟨"Beamrow", "steer", "(I)V"⟩, 9), (⟨"Beamrow$Element", "firstTold", "(I)I"⟩, 11), (⟨"Beamrow$Element", "toldAt", "(I)J"⟩, 11), (⟨"Beamrow", "powerBySums", "(I)J"⟩, 9), (⟨"Beamrow", "powerByPairs", "(I)J"⟩, 9), (⟨"Beamrow", "fillPowers", "()J"⟩, 9), (⟨"Beamrow", "isPeak", "(I)Z"⟩, 9)]
theorem lw_r1 : ∀ q ∈ lw_privs_1, lw_okq q := List.forall_mem_cons.mpr ⟨lw_p0, List.forall_mem_cons.mpr ⟨lw_p1, List.forall_mem_cons.mpr ⟨lw_p2, List.forall_mem_cons.mpr ⟨lw_p3, List.forall_mem_cons.mpr ⟨lw_p4, List.forall_mem_cons.mpr ⟨lw_p5, List.forall_mem_cons.mpr ⟨lw_p6, List.forall_mem_cons.mpr ⟨lw_p7, List.forall_mem_cons.mpr ⟨lw_p8, List.forall_mem_cons.mpr ⟨lw_p9, List.forall_mem_cons.mpr ⟨lw_p10, List.forall_mem_cons.mpr ⟨lw_p11, List.forall_mem_cons.mpr ⟨lw_p12, List.forall_mem_cons.mpr ⟨lw_p13, List.forall_mem_cons.mpr ⟨lw_p14, List.forall_mem_cons.mpr ⟨lw_p15, fun _ h => absurd h List.not_mem_nil⟩⟩⟩⟩⟩⟩⟩⟩⟩⟩⟩⟩⟩⟩⟩⟩
theorem lw_p16 : lw_okq (⟨"Beamrow", "powerAt", "(I)J"⟩, 9) := ⟨⟨by decide +kernel, by decide +kernel⟩, List.mem_of_getElem? (i := 16) (by decide +kernel), List.mem_of_getElem? (i := 548) (by decide +kernel), List.mem_of_getElem? (i := 549) (by decide +kernel)⟩
theorem lw_p17 : lw_okq (⟨"Beamrow", "strongest", "()I"⟩, 9) := ⟨⟨by decide +kernel, by decide +kernel⟩, List.mem_of_getElem? (i := 16) (by decide +kernel), List.mem_of_getElem? (i := 561) (by decide +kernel), List.mem_of_getElem? (i := 562) (by decide +kernel)⟩
theorem lw_p18 : lw_okq (⟨"Beamrow", "takeAway", "(IJ)V"⟩, 9) := ⟨⟨by decide +kernel, by decide +kernel⟩, List.mem_of_getElem? (i := 16) (by decide +kernel), List.mem_of_getElem? (i := 565) (by decide +kernel), List.mem_of_getElem? (i := 566) (by decide +kernel)⟩
theorem lw_p19 : lw_okq (⟨"BeamrowModel", "goes", "(I)Z"⟩, 21) := ⟨⟨by decide +kernel, by decide +kernel⟩, List.mem_of_getElem? (i := 590) (by decide +kernel), List.mem_of_getElem? (i := 672) (by decide +kernel), List.mem_of_getElem? (i := 673) (by decide +kernel)⟩
theorem lw_p20 : lw_okq (⟨"BeamrowModel", "isElement", "(I)Z"⟩, 21) := ⟨⟨by decide +kernel, by decide +kernel⟩, List.mem_of_getElem? (i := 590) (by decide +kernel), List.mem_of_getElem? (i := 680) (by decide +kernel), List.mem_of_getElem? (i := 681) (by decide +kernel)⟩
theorem lw_p21 : lw_okq (⟨"BeamrowModel", "hears", "(I)V"⟩, 21) := ⟨⟨by decide +kernel, by decide +kernel⟩, List.mem_of_getElem? (i := 590) (by decide +kernel), List.mem_of_getElem? (i := 704) (by decide +kernel), List.mem_of_getElem? (i := 705) (by decide +kernel)⟩
theorem lw_p22 : lw_okq (⟨"BeamrowModel", "delay", "(II)I"⟩, 21) := ⟨⟨by decide +kernel, by decide +kernel⟩, List.mem_of_getElem? (i := 590) (by decide +kernel), List.mem_of_getElem? (i := 708) (by decide +kernel), List.mem_of_getElem? (i := 709) (by decide +kernel)⟩
theorem lw_p23 : lw_okq (⟨"BeamrowModel", "wave", "(II)I"⟩, 21) := ⟨⟨by decide +kernel, by decide +kernel⟩, List.mem_of_getElem? (i := 590) (by decide +kernel), List.mem_of_getElem? (i := 716) (by decide +kernel), List.mem_of_getElem? (i := 717) (by decide +kernel)⟩
theorem lw_p24 : lw_okq (⟨"BeamrowModel", "lowest", "()I"⟩, 21) := ⟨⟨by decide +kernel, by decide +kernel⟩, List.mem_of_getElem? (i := 590) (by decide +kernel), List.mem_of_getElem? (i := 730) (by decide +kernel), List.mem_of_getElem? (i := 731) (by decide +kernel)⟩
theorem lw_p25 : lw_okq (⟨"BeamrowModel", "agreement", "(IIII)J"⟩, 21) := ⟨⟨by decide +kernel, by decide +kernel⟩, List.mem_of_getElem? (i := 590) (by decide +kernel), List.mem_of_getElem? (i := 734) (by decide +kernel), List.mem_of_getElem? (i := 735) (by decide +kernel)⟩
theorem lw_p26 : lw_okq (⟨"BeamrowModel", "kept", "([III)I"⟩, 21) := ⟨⟨by decide +kernel, by decide +kernel⟩, List.mem_of_getElem? (i := 590) (by decide +kernel), List.mem_of_getElem? (i := 738) (by decide +kernel), List.mem_of_getElem? (i := 739) (by decide +kernel)⟩
theorem lw_p27 : lw_okq (⟨"BeamrowModel", "isKept", "(II)Z"⟩, 21) := ⟨⟨by decide +kernel, by decide +kernel⟩, List.mem_of_getElem? (i := 590) (by decide +kernel), List.mem_of_getElem? (i := 742) (by decide +kernel), List.mem_of_getElem? (i := 743) (by decide +kernel)⟩
theorem lw_p28 : lw_okq (⟨"BeamrowModel", "becomes", "(III)Z"⟩, 21) := ⟨⟨by decide +kernel, by decide +kernel⟩, List.mem_of_getElem? (i := 590) (by decide +kernel), List.mem_of_getElem? (i := 746) (by decide +kernel), List.mem_of_getElem? (i := 747) (by decide +kernel)⟩
theorem lw_p29 : lw_okq (⟨"BeamrowModel", "isFitted", "(IIIJ)Z"⟩, 21) := ⟨⟨by decide +kernel, by decide +kernel⟩, List.mem_of_getElem? (i := 590) (by decide +kernel), List.mem_of_getElem? (i := 750) (by decide +kernel), List.mem_of_getElem? (i := 751) (by decide +kernel)⟩
theorem lw_p30 : lw_okq (⟨"BeamrowModel", "sumOf", "([III)J"⟩, 21) := ⟨⟨by decide +kernel, by decide +kernel⟩, List.mem_of_getElem? (i := 590) (by decide +kernel), List.mem_of_getElem? (i := 764) (by decide +kernel), List.mem_of_getElem? (i := 765) (by decide +kernel)⟩
theorem lw_p31 : lw_okq (⟨"BeamrowModel", "weight", "(I)I"⟩, 21) := ⟨⟨by decide +kernel, by decide +kernel⟩, List.mem_of_getElem? (i := 590) (by decide +kernel), List.mem_of_getElem? (i := 768) (by decide +kernel), List.mem_of_getElem? (i := 769) (by decide +kernel)⟩
def lw_privs_2 : List (MethodName × Nat) := [(⟨"Beamrow", "powerAt", "(I)J"⟩, 9), (⟨"Beamrow", "strongest", "()I"⟩, 9), (⟨"Beamrow", "takeAway", "(IJ)V"⟩, 9), (⟨"BeamrowModel", "goes", "(I)Z"⟩, 21), (⟨"BeamrowModel", "isElement", "(I)Z"⟩, 21), (⟨"BeamrowModel", "hears", "(I)V"⟩, 21), (⟨"BeamrowModel", "delay", "(II)I"⟩, 21), (⟨"BeamrowModel", "wave", "(II)I"⟩, 21), (⟨"BeamrowModel", "lowest", "()I"⟩, 21), (⟨"BeamrowModel", "agreement", "(IIII)J"⟩, 21), (⟨"BeamrowModel", "kept", "([III)I"⟩, 21), (⟨"BeamrowModel", "isKept", "(II)Z"⟩, 21), (⟨"BeamrowModel", "becomes", "(III)Z"⟩, 21), (⟨"BeamrowModel", "isFitted", "(IIIJ)Z"⟩, 21), (⟨"BeamrowModel", "sumOf", "([III)J"⟩, 21), (⟨"BeamrowModel", "weight", "(I)I"⟩, 21)]
theorem lw_r2 : ∀ q ∈ lw_privs_2, lw_okq q := List.forall_mem_cons.mpr ⟨lw_p16, List.forall_mem_cons.mpr ⟨lw_p17, List.forall_mem_cons.mpr ⟨lw_p18, List.forall_mem_cons.mpr ⟨lw_p19, List.forall_mem_cons.mpr ⟨lw_p20, List.forall_mem_cons.mpr ⟨lw_p21, List.forall_mem_cons.mpr ⟨lw_p22, List.forall_mem_cons.mpr ⟨lw_p23, List.forall_mem_cons.mpr ⟨lw_p24, List.forall_mem_cons.mpr ⟨lw_p25, List.forall_mem_cons.mpr ⟨lw_p26, List.forall_mem_cons.mpr ⟨lw_p27, List.forall_mem_cons.mpr ⟨lw_p28, List.forall_mem_cons.mpr ⟨lw_p29, List.forall_mem_cons.mpr ⟨lw_p30, List.forall_mem_cons.mpr ⟨lw_p31, fun _ h => absurd h List.not_mem_nil⟩⟩⟩⟩⟩⟩⟩⟩⟩⟩⟩⟩⟩⟩⟩⟩
theorem lw_p32 : lw_okq (⟨"BeamrowModel", "powerOf", "([II)J"⟩, 21) := ⟨⟨by decide +kernel, by decide +kernel⟩, List.mem_of_getElem? (i := 590) (by decide +kernel), List.mem_of_getElem? (i := 776) (by decide +kernel), List.mem_of_getElem? (i := 777) (by decide +kernel)⟩
theorem lw_p33 : lw_okq (⟨"BeamrowModel", "findsPowers", "([I)V"⟩, 21) := ⟨⟨by decide +kernel, by decide +kernel⟩, List.mem_of_getElem? (i := 590) (by decide +kernel), List.mem_of_getElem? (i := 788) (by decide +kernel), List.mem_of_getElem? (i := 789) (by decide +kernel)⟩
theorem lw_p34 : lw_okq (⟨"BeamrowModel", "greatest", "()I"⟩, 21) := ⟨⟨by decide +kernel, by decide +kernel⟩, List.mem_of_getElem? (i := 590) (by decide +kernel), List.mem_of_getElem? (i := 792) (by decide +kernel), List.mem_of_getElem? (i := 793) (by decide +kernel)⟩
theorem lw_p35 : lw_okq (⟨"BeamrowModel", "takes", "(I)V"⟩, 21) := ⟨⟨by decide +kernel, by decide +kernel⟩, List.mem_of_getElem? (i := 590) (by decide +kernel), List.mem_of_getElem? (i := 801) (by decide +kernel), List.mem_of_getElem? (i := 802) (by decide +kernel)⟩
def lw_privs_3 : List (MethodName × Nat) := [(⟨"BeamrowModel", "powerOf", "([II)J"⟩, 21), (⟨"BeamrowModel", "findsPowers", "([I)V"⟩, 21), (⟨"BeamrowModel", "greatest", "()I"⟩, 21), (⟨"BeamrowModel", "takes", "(I)V"⟩, 21)]
theorem lw_r3 : ∀ q ∈ lw_privs_3, lw_okq q := List.forall_mem_cons.mpr ⟨lw_p32, List.forall_mem_cons.mpr ⟨lw_p33, List.forall_mem_cons.mpr ⟨lw_p34, List.forall_mem_cons.mpr ⟨lw_p35, fun _ h => absurd h List.not_mem_nil⟩⟩⟩⟩
def lw_privs : List (MethodName × Nat) := lw_privs_1 ++ (lw_privs_2 ++ (lw_privs_3))
def lw_tbl : List Cond := k2_sels lw_privs ++ tables_1
theorem lw_privs_ok : ∀ q ∈ lw_privs, lw_okq q := by
  show ∀ q ∈ lw_privs_1 ++ (lw_privs_2 ++ (lw_privs_3)), lw_okq q
  exact List.forall_mem_append.mpr ⟨lw_r1, List.forall_mem_append.mpr ⟨lw_r2, lw_r3⟩⟩
-- ===== end of PART A; then your names; then what follows =====
end
section
/-! ===== BEGIN words of one list among another's, by their places ===== -/
theorem goodIn_r {big : List Cond} (ws : List Cond) (ps : List Nat) (hp : ws = ps.filterMap (fun i => big[i]?)) (h : ws.all goodWord = true) : GoodIn big ws := by
  intro w hw
  have h1 := List.all_eq_true.mp h w hw
  rw [hp] at hw
  obtain ⟨i, -, hi⟩ := List.mem_filterMap.mp hw
  have hm : w ∈ big := by first | exact List.mem_of_getElem? hi | exact List.getElem?_mem hi
  exact ⟨hm, good_of_word h1⟩
theorem goodIn_app {big a b : List Cond} (ha : GoodIn big a) (hb : GoodIn big b) : GoodIn big (a ++ b) := fun w h => (List.mem_append.mp h).elim (ha w) (hb w)
theorem goodIn_ca {big a b : List Cond} {c : Cond} (ha : GoodIn big (c :: a)) (hb : GoodIn big b) : GoodIn big (c :: (a ++ b)) := fun w h => (List.mem_cons.mp h).elim (fun e => ha w (List.mem_cons.mpr (Or.inl e))) (fun h => (List.mem_append.mp h).elim (fun h => ha w (List.mem_cons.mpr (Or.inr h))) (hb w))
theorem goodIn_sub {big ws : List Cond} (hm : ∀ w ∈ ws, w ∈ big) (h : ws.all goodWord = true) : GoodIn big ws := fun w hw => ⟨hm w hw, good_of_word (List.all_eq_true.mp h w hw)⟩
/-! ===== END ===== -/

/-! ===== BEGIN exceptions that leave a method, and their catching by the caller (launches without stack traces) ===== -/
section VXA
/-! The laws vx_back, vx_callV, vx_callS, vx_callSW, vx_throw0, vx_throwS follow proofs of the library, with one case more: JvmDerived/Free/Laws.lean (Back.of_free), Shelf42/LK1.lean (callV, callS), Shelf/KitTraced.lean (throwNew0V, throwNewS). -/
/-- where a method has thrown q: the class by its name, the cell, what was written, the world -/
def vx_T (XC : String → State → State → Prop) (st : State) (q : Addr) (t : State) (mc ms : Nat) (free : Addr → Prop) : Prop :=
  ∃ (E : String) (ce : Cell) (L : List Loc), XC E st t ∧ t.heap[q]? = some ce ∧ ce.vm = .none ∧ st.vm.findClass E = some ce.cls ∧ st.WarmedH t.vm ∧ st.sameButNew ({ t with vm := st.vm } : State) L mc ms ∧ ∀ z ∈ L, free z.base
def vx_Q (Qc : Array Value → State → Outcome → State → Prop) (XC : String → State → State → Prop) (mc ms : Nat) (free : Addr → Prop) : Array Value → State → Outcome → State → Prop := fun a st o t =>
  (Qc a st o t ∧ ∃ L, FrameEnd st o t L mc ms ∧ ∀ q ∈ L, free q.base) ∨ ∃ q, o = .threw q ∧ vx_T XC st q t mc ms free
/-- a callee that returns or throws -/
def vx_Met (l : Launch) (y : MethodName) (ws : List Cond) (rm : Room) (Pc : Array Value → State → Prop) (Qc : Array Value → State → Outcome → State → Prop) (XC : String → State → State → Prop) (mc ms : Nat) (free : Addr → Prop) : Prop :=
  MetFree l y (headSpec ws rm) Pc (fun _ _ _ _ _ => True) (vx_Q Qc XC mc ms free)
def vx_Post (XC : String → State → State → Prop) (mc ms : Nat) (free : Addr → Prop) : Pt → Array Value → Addr → Pt → Prop := fun A a q B =>
  ∃ (g : JFrame) (mk : MethodId) (t : State) (L : List Loc) (E : String) (ce : Cell), B.U.heap = t.heap ∧ B.U.vm = t.vm ∧ XC E (A.U.calling g mk a) t ∧ t.heap[q]? = some ce ∧ ce.vm = .none ∧ A.U.vm.findClass E = some ce.cls ∧ B.locs = A.locs ++ L ∧ (∀ z ∈ L, free z.base) ∧ B.cells = A.cells + mc ∧ B.slots = A.slots + ms
def vx_Back (l : Launch) (R : Room) (p : Program) (e : Env) (below : List Frame) (s : State) (sargs : Array Value) (y : MethodName) (len W9 : Nat)
    (Pre : Pt → Array Value → Prop) (Post : Pt → Array Value → Option Value → Pt → Prop) (PostX : Pt → Array Value → Addr → Pt → Prop) : Prop :=
  ∀ (m : MethodId) (meth : Method) (c : Code) (A : Pt) (g : JFrame) (ig : Instr) (mk : MethodId) (a : Array Value),
    Stand p l e R s m sargs below meth c A.U A.locs A.cells A.slots → g.method = m → g.locals.size = c.maxLocals → decode c.code g.pc = .ok (ig, len) →
    2 * g.monitorRoom + (g.stack.map fun v => v.category).sum ≤ W9 → A.U.methodNamed? y = some mk → Pre A a →
    (∃ (v : Option Value) (B : Pt), Stand p l e R s m sargs below meth c B.U B.locs B.cells B.slots ∧ Post A a v B ∧
      Steps p.tables e below (doInvoke e (A.U.setTop g) [] mk a).1 (B.U.setTop { g with pc := g.pc + len, stack := v.toList ++ g.stack })) ∨
    (∃ (q : Addr) (B : Pt), Stand p l e R s m sargs below meth c B.U B.locs B.cells B.slots ∧ PostX A a q B ∧
      Steps p.tables e below (doInvoke e (A.U.setTop g) [] mk a).1 ((B.U.setTop g).pushFrame (.throwing q)))
section Payer
variable {l : Launch} {R : Room} {p : Program} {e : Env} {below : List Frame} {s : State} {sargs : Array Value} {y : MethodName} {len W9 : Nat}
theorem vx_back {ws : List Cond} {rm : Room} {Pc : Array Value → State → Prop} {Qc : Array Value → State → Outcome → State → Prop} {XC : String → State → State → Prop} {mc ms : Nat} {free : Addr → Prop} {bytes : ByteArray} {maxL : Nat} {ret : Option FieldType}
    (hM : vx_Met l y ws rm Pc Qc XC mc ms free) (hblind : FrameBlind Pc) (hrc : rm.cells = mc) (hrs : rm.slots = ms)
    (hframes : rm.frames + 1 ≤ R.frames) (hlocals : W9 + (maxL + 11) + rm.locals ≤ R.locals)
    (hws : ∀ w ∈ ws, ∀ a' U, s.WarmedH U.vm → w.before a' U = true) (hcode : Cond.code y bytes maxL ret ∈ ws) (hinit : ∀ a' U, s.WarmedH U.vm → (Cond.initialized y.cls).before a' U = true) :
    vx_Back l R p e below s sargs y len W9 (PreOf R mc ms Pc) (PostOf Qc mc ms free) (vx_Post XC mc ms free) := by
  intro m meth c A g ig mk a X hg hsize hdg hW hn hp
  have h1 : (headSpec ws rm).pre.before a A.U = true := atoms_intro fun w hw => hws w hw _ _ X.warmed
  have h2 : (Cond.code y bytes maxL ret).before a A.U = true := hws _ hcode _ _ X.warmed
  have h3 : (Cond.initialized y.cls).before a A.U = true := hinit _ _ X.warmed
  have h4 : A.cells + (headSpec ws rm).room.cells ≤ R.cells := by rw [show (headSpec ws rm).room.cells = mc from hrc]; exact hp.1
  have h5 : A.slots + (headSpec ws rm).room.slots ≤ R.slots := by rw [show (headSpec ws rm).room.slots = ms from hrs]; exact hp.2.1
  have hPc : Pc a (A.U.calling g mk a) := hblind _ _ _ _ hp.2.2
  obtain ⟨U, Ls, c0, s0⟩ := A
  dsimp only [Pt.U, Pt.locs, Pt.cells, Pt.slots] at h1 h2 h3 h4 h5 X hn hPc ⊢
  obtain ⟨methY, cY, hmY, hcY, -, hlY, -, -, -, -⟩ := Cond.code_spec hn h2
  obtain ⟨kY, hkY, -⟩ := className_of_methodNamed hn
  have hinitY : kY.init = .initialized := Cond.initialized_spec (findClass_of_methodNamed hn) hkY h3
  have h : At U g.method c below := by rw [hg]; exact X.here
  have hlocals9 : W9 + (maxL + 11) + (headSpec ws rm).room.locals ≤ R.locals := hlocals
  have happ : (headSpec ws rm).appliesLoose y e.platform (U.calling g mk a) = true :=
    Spec.appliesLoose_calling (g := g) h hdg hn hkY hinitY
      (X.room_calling (g := g) (R' := (headSpec ws rm).room) hsize hmY hcY hframes (by rw [hlY]; omega) h4 h5) h1
  obtain ⟨mid, hmid⟩ := h.above
  have hfr : (U.setTop g).frames = (.java g :: mid) ++ below := by rw [State.frames_setTop' g h.top, hmid]; rfl
  obtain ⟨o, s₂, hsteps, -, hend, hq⟩ := Steps.callFree hM p X.admits X.cas X.clock (acts := []) hfr happ hPc trivial
  have hq' : vx_Q Qc XC mc ms free a (U.calling g mk a) o s₂ := hq
  rw [State.frames_setTop' g h.top] at hend
  obtain ⟨g₀, hg0⟩ := Option.isSome_iff_exists.mp h.top
  obtain ⟨r, hr⟩ := State.topJava?_eq_some.mp hg0
  have hr' : (({ U with heap := s₂.heap, slotsUsed := s₂.slotsUsed } : State).setVm s₂.vm).frames = .java g₀ :: r := hr
  rcases hq' with ⟨hqc, L, hfe, hL⟩ | ⟨q, rfl, E, ce, L, hx, hce, hcv, hcl, hW₂, hsm, hL⟩
  · obtain ⟨⟨v, rfl⟩, hW₂, e2, q2, q3, q4, q5, q6⟩ := id hfe
    have e3 : s₂ = ({ (U.calling g mk a).setFrames s₂.frames with heap := s₂.heap, slotsUsed := s₂.slotsUsed } : State).setVm s₂.vm := by
      have : s₂ = ({ s₂ with vm := (U.calling g mk a).vm } : State).setVm s₂.vm := rfl
      rw [e2] at this
      exact this
    obtain ⟨c₂, i₂, len₂, hc₂, hd₂, hf₂⟩ := hend
    have hW' : U.WarmedH s₂.vm := hW₂
    have hcc : c₂ = c := by
      have h1 : s₂.code? g.method = U.code? g.method := by
        rw [State.code?_eq, State.code?_eq, hW'.alike.method?]
      exact Option.some.inj (hc₂.symm.trans (h1.trans h.code))
    subst hcc
    have hlen : len₂ = len := by rw [hdg] at hd₂; cases hd₂; rfl
    subst hlen
    have hs₂ : s₂ = (({ U with heap := s₂.heap, slotsUsed := s₂.slotsUsed } : State).setVm s₂.vm).setTop { g with pc := g.pc + len₂, stack := v.toList ++ g.stack } := by
      refine e3.trans ?_
      rw [hf₂, State.calling_eq h.top, State.setFrames_setFrames, State.setTop_of_frames _ hr', hr]
      rfl
    have hsame : U.sameButNew ({ U with heap := s₂.heap, slotsUsed := s₂.slotsUsed } : State) L mc ms := by
      refine ⟨?_, q2, q3, q4, q5, q6⟩
      obtain ⟨t, ht, -⟩ := State.frames_cons hr
      show ({ U with heap := s₂.heap, slotsUsed := s₂.slotsUsed } : State) = { U.setFrames U.frames with heap := s₂.heap, slotsUsed := s₂.slotsUsed }
      rw [State.setFrames_self ht]
    subst hg
    refine Or.inl ⟨v, ⟨(({ U with heap := s₂.heap, slotsUsed := s₂.slotsUsed } : State).setVm s₂.vm), Ls ++ L, c0 + mc, s0 + ms⟩,
      ⟨X.admits, X.cas, X.clock, X.frames, X.room, X.hears, X.method, X.code, (X.here.setHeapUsed s₂.heap s₂.slotsUsed).setVm hW'.alike, X.tail, State.WarmedH.trans X.warmed hW', X.limits, X.bytes, X.same.trans (hsame.setVm s.vm)⟩,
      ⟨g, mk, s₂, L, rfl, rfl, hqc, rfl, hL, rfl, rfl⟩, ?_⟩
    show Steps p.tables e below _ ((({ U with heap := s₂.heap, slotsUsed := s₂.slotsUsed } : State).setVm s₂.vm).setTop { g with pc := g.pc + len₂, stack := v.toList ++ g.stack })
    rw [← hs₂]
    exact hsteps
  · obtain ⟨e2, q2, q3, q4, q5, q6⟩ := id hsm
    have e3 : s₂ = ({ (U.calling g mk a).setFrames s₂.frames with heap := s₂.heap, slotsUsed := s₂.slotsUsed } : State).setVm s₂.vm := by
      have : s₂ = ({ s₂ with vm := (U.calling g mk a).vm } : State).setVm s₂.vm := rfl
      rw [e2] at this
      exact this
    have hf₂ : s₂.frames = .throwing q :: .java g :: U.frames.tail := hend
    have hW' : U.WarmedH s₂.vm := hW₂
    have hs₂ : s₂ = ((({ U with heap := s₂.heap, slotsUsed := s₂.slotsUsed } : State).setVm s₂.vm).setTop g).pushFrame (.throwing q) := by
      refine e3.trans ?_
      rw [hf₂, State.calling_eq h.top, State.setFrames_setFrames, State.pushFrame, State.frames_setTop _ hr', State.setTop_of_frames _ hr', State.setFrames_setFrames, hr]
      rfl
    have hsame : U.sameButNew ({ U with heap := s₂.heap, slotsUsed := s₂.slotsUsed } : State) L mc ms := by
      refine ⟨?_, q2, q3, q4, q5, q6⟩
      obtain ⟨t, ht, -⟩ := State.frames_cons hr
      show ({ U with heap := s₂.heap, slotsUsed := s₂.slotsUsed } : State) = { U.setFrames U.frames with heap := s₂.heap, slotsUsed := s₂.slotsUsed }
      rw [State.setFrames_self ht]
    subst hg
    refine Or.inr ⟨q, ⟨(({ U with heap := s₂.heap, slotsUsed := s₂.slotsUsed } : State).setVm s₂.vm), Ls ++ L, c0 + mc, s0 + ms⟩,
      ⟨X.admits, X.cas, X.clock, X.frames, X.room, X.hears, X.method, X.code, (X.here.setHeapUsed s₂.heap s₂.slotsUsed).setVm hW'.alike, X.tail, State.WarmedH.trans X.warmed hW', X.limits, X.bytes, X.same.trans (hsame.setVm s.vm)⟩,
      ⟨g, mk, s₂, L, E, ce, rfl, rfl, hx, hce, hcv, hcl, rfl, hL, rfl, rfl⟩, ?_⟩
    show Steps p.tables e below _ (((({ U with heap := s₂.heap, slotsUsed := s₂.slotsUsed } : State).setVm s₂.vm).setTop g).pushFrame (.throwing q))
    rw [← hs₂]
    exact hsteps
end Payer
section Calls
variable {p : Program} {l : Launch} {e : Env} {R : Room} {s : State} {m : MethodId} {args : Array Value} {below : List Frame} {meth : Method} {c : Code} {T : State} {locs : List Loc} {cells slots : Nat}
theorem vx_callV (X : Stand p l e R s m args below meth c T locs cells slots) (hexec : p.tables.exec = Jvm.exec) {own C : String} {index : Nat} {y : MethodName} {bytes : ByteArray} {maxL : Nat} {ret : Option FieldType}
    (hown : s.vm.findClass own = some m.cls) (hlink : (Cond.methodLink own index y).before args s = true) (hinst : (Cond.instanceMethod y).before args s = true) (hsel : (Cond.selects C y y).before args s = true)
    (hcode : (Cond.code y bytes maxL ret).before args s = true) (hy : y.cls ≠ "java/lang/invoke/MethodHandle" ∧ y.cls ≠ "java/lang/invoke/VarHandle")
    {W9 : Nat} {Pre : Pt → Array Value → Prop} {Post : Pt → Array Value → Option Value → Pt → Prop} {PostX : Pt → Array Value → Addr → Pt → Prop} (hK : vx_Back l R p e below s args y 3 W9 Pre Post PostX)
    {b : Addr} {cellB : Cell} (hcell : T.heap[b]? = some cellB) (hobj : cellB.vm.isStatics = false) (hcls : s.vm.findClass C = some cellB.cls)
    {g : JFrame} (hg : g.method = m) (hsize : g.locals.size = c.maxLocals) {argsL rest : List Value} (hlen : ∀ sig, parseMethodDescriptor y.desc = some sig → argsL.length = sig.parameters.length)
    (hstack : g.stack = argsL.reverse ++ .ref b :: rest) (hW : 2 * g.monitorRoom + (rest.map fun v => v.category).sum ≤ W9) (hdg : decode c.code g.pc = .ok (.invokevirtual index, 3))
    (hpre : ∀ vm₁, s.WarmedH vm₁ → Pre ⟨T.setVm vm₁, locs, cells, slots⟩ (Value.ref b :: argsL).toArray) :
    (∃ (v : Option Value) (vm₁ : Vm) (B : Pt), s.WarmedH vm₁ ∧ Stand p l e R s m args below meth c B.U B.locs B.cells B.slots ∧ Post ⟨T.setVm vm₁, locs, cells, slots⟩ (Value.ref b :: argsL).toArray v B ∧
      ∀ target, Steps p.tables e below (B.U.setTop { g with pc := g.pc + 3, stack := v.toList ++ rest }) target → Steps p.tables e below (T.setTop g) target) ∨
    (∃ (q : Addr) (vm₁ : Vm) (B : Pt), s.WarmedH vm₁ ∧ Stand p l e R s m args below meth c B.U B.locs B.cells B.slots ∧ PostX ⟨T.setVm vm₁, locs, cells, slots⟩ (Value.ref b :: argsL).toArray q B ∧
      Steps p.tables e below (T.setTop g) ((B.U.setTop { g with stack := rest }).pushFrame (.throwing q))) := by
  obtain ⟨mk, methM, hnamed, hmethM, hstM, habM⟩ := Cond.instanceMethod_spec hinst
  obtain ⟨methM', cM, hmethM', -, -, -, -, -, -, hsigM⟩ := Cond.code_spec hnamed hcode
  cases hmethM.symm.trans hmethM'
  obtain ⟨c2, r2, m2, q1, q2, q3, q4, kP, hkP, hkPi⟩ := Cond.selects_spec hsel
  cases hcls.symm.trans q1
  cases (State.methodFound?_of_named hnamed hy).symm.trans q2
  cases hnamed.symm.trans q3
  have hselP : selectMethod e.platform s.vm cellB.cls mk = .method mk := by rw [Launch.admits_selectMethod X.admits]; exact q4
  obtain ⟨vm₁, X₁, hstep₁⟩ := X.invokevirtual hexec hown hlink hnamed hmethM hstM hkP hkPi hy (a := b) (cell := cellB) hcell
    (fun z h => by rw [h] at hobj; cases hobj) hselP hmethM habM hkP hkPi (g := g) hg (argsL := argsL) (rest := rest) (hlen _ hsigM) hstack hdg
  rcases hK m meth c ⟨T.setVm vm₁, locs, cells, slots⟩ { g with stack := rest } (.invokevirtual index) mk (Value.ref b :: argsL).toArray X₁ hg hsize hdg hW (X₁.named hnamed) (hpre vm₁ X₁.warmed) with ⟨v, B, X', hpost, hsteps⟩ | ⟨q, B, X', hpost, hsteps⟩
  · exact Or.inl ⟨v, vm₁, B, X₁.warmed, X', hpost, fun target h => hstep₁ _ fun acts => by rw [doInvoke_state]; exact hsteps.trans h⟩
  · exact Or.inr ⟨q, vm₁, B, X₁.warmed, X', hpost, hstep₁ _ fun acts => by rw [doInvoke_state]; exact hsteps⟩
theorem vx_callS (X : Stand p l e R s m args below meth c T locs cells slots) (hexec : p.tables.exec = Jvm.exec) {own : String} {index : Nat} {y : MethodName} {bytes : ByteArray} {maxL : Nat} {ret : Option FieldType}
    (hown : s.vm.findClass own = some m.cls) (hlink : (Cond.methodLink own index y).before args s = true) (hstat : (Cond.static y).before args s = true) (hinit : (Cond.initialized y.cls).before args s = true)
    (hcode : (Cond.code y bytes maxL ret).before args s = true) (hy : y.cls ≠ "java/lang/invoke/MethodHandle" ∧ y.cls ≠ "java/lang/invoke/VarHandle")
    {W9 : Nat} {Pre : Pt → Array Value → Prop} {Post : Pt → Array Value → Option Value → Pt → Prop} {PostX : Pt → Array Value → Addr → Pt → Prop} (hK : vx_Back l R p e below s args y 3 W9 Pre Post PostX)
    {g : JFrame} (hg : g.method = m) (hsize : g.locals.size = c.maxLocals) {argsL rest : List Value} (hlen : ∀ sig, parseMethodDescriptor y.desc = some sig → argsL.length = sig.parameters.length)
    (hstack : g.stack = argsL.reverse ++ rest) (hW : 2 * g.monitorRoom + (rest.map fun v => v.category).sum ≤ W9) (hdg : decode c.code g.pc = .ok (.invokestatic index, 3))
    (hpre : ∀ vm₁, s.WarmedH vm₁ → Pre ⟨T.setVm vm₁, locs, cells, slots⟩ argsL.toArray) :
    (∃ (v : Option Value) (vm₁ : Vm) (B : Pt), s.WarmedH vm₁ ∧ Stand p l e R s m args below meth c B.U B.locs B.cells B.slots ∧ Post ⟨T.setVm vm₁, locs, cells, slots⟩ argsL.toArray v B ∧
      ∀ target, Steps p.tables e below (B.U.setTop { g with pc := g.pc + 3, stack := v.toList ++ rest }) target → Steps p.tables e below (T.setTop g) target) ∨
    (∃ (q : Addr) (vm₁ : Vm) (B : Pt), s.WarmedH vm₁ ∧ Stand p l e R s m args below meth c B.U B.locs B.cells B.slots ∧ PostX ⟨T.setVm vm₁, locs, cells, slots⟩ argsL.toArray q B ∧
      Steps p.tables e below (T.setTop g) ((B.U.setTop { g with stack := rest }).pushFrame (.throwing q))) := by
  obtain ⟨mk, hnamed⟩ := Cond.code_named hcode
  obtain ⟨methM, cM, hmethM, -, -, -, -, -, -, hsigM⟩ := Cond.code_spec hnamed hcode
  have hstatic : methM.isStatic = true := Cond.static_spec hnamed hmethM hstat
  obtain ⟨kP, hkP, -⟩ := className_of_methodNamed hnamed
  have hinitP : kP.init = .initialized := Cond.initialized_spec (findClass_of_methodNamed hnamed) hkP hinit
  obtain ⟨vm₁, X₁, hstep₁⟩ := X.invokestatic hexec hown hlink hnamed hmethM hstatic hkP hinitP hy (g := g) hg (argsL := argsL) (rest := rest) (hlen _ hsigM) hstack hdg
  rcases hK m meth c ⟨T.setVm vm₁, locs, cells, slots⟩ { g with stack := rest } (.invokestatic index) mk argsL.toArray X₁ hg hsize hdg hW (X₁.named hnamed) (hpre vm₁ X₁.warmed) with ⟨v, B, X', hpost, hsteps⟩ | ⟨q, B, X', hpost, hsteps⟩
  · exact Or.inl ⟨v, vm₁, B, X₁.warmed, X', hpost, fun target h => hstep₁ _ fun acts => by rw [doInvoke_state]; exact hsteps.trans h⟩
  · exact Or.inr ⟨q, vm₁, B, X₁.warmed, X', hpost, hstep₁ _ fun acts => by rw [doInvoke_state]; exact hsteps⟩
end Calls
theorem vx_cls {s : State} {T : State} {vm₁ : Vm} {E : String} {k : ClassId} (hW : s.WarmedH vm₁) (h : (T.setVm vm₁).vm.findClass E = some k) : s.vm.findClass E = some k := by
  have h1 : vm₁.findClass E = some k := h
  rw [hW.alike.findClass] at h1
  exact h1
/-- the method's frame g, with q thrown over it -/
def vx_W (p : Program) (l : Launch) (e : Env) (R : Room) (s : State) (m : MethodId) (args : Array Value) (below : List Frame) (meth : Method) (c : Code) (H : Heap) (locs : List Loc) (cells slots : Nat) (Q : State → Prop) (g : JFrame) (q : Addr) : Prop :=
  ∀ T : State, T.heap = H → Stand p l e R s m args below meth c T locs cells slots → ∃ t, Steps p.tables e below ((T.setTop g).pushFrame (.throwing q)) t ∧ Q t
def vx_Run (p : Program) (l : Launch) (e : Env) (R : Room) (s : State) (m : MethodId) (args : Array Value) (below : List Frame) (meth : Method) (c : Code) (H : Heap) (locs : List Loc) (cells slots mc ms : Nat) (g : JFrame) (rest : List Value) (Qa : State → Outcome → State → Prop) (XC : String → State → State → Prop) (free : Addr → Prop) : Prop :=
  ∀ T : State, T.heap = H → Stand p l e R s m args below meth c T locs cells slots →
    (∃ (v : Option Value) (st₀ t T' : State) (L : List Loc), st₀.heap = H ∧ Stand p l e R s m args below meth c T' (locs ++ L) (cells + mc) (slots + ms) ∧ (∀ q ∈ L, free q.base) ∧ T'.heap = t.heap ∧ T'.vm = t.vm ∧ Qa st₀ (.returned v) t ∧
      Goes p e below T g T' { g with pc := g.pc + 3, stack := v.toList ++ rest }) ∨
    (∃ (q : Addr) (st₀ t T' : State) (L : List Loc) (E : String) (ce : Cell), st₀.heap = H ∧ Stand p l e R s m args below meth c T' (locs ++ L) (cells + mc) (slots + ms) ∧ (∀ z ∈ L, free z.base) ∧ T'.heap = t.heap ∧ T'.vm = t.vm ∧ XC E st₀ t ∧ t.heap[q]? = some ce ∧ ce.vm = .none ∧ s.vm.findClass E = some ce.cls ∧
      Steps p.tables e below (T.setTop g) ((T'.setTop { g with stack := rest }).pushFrame (.throwing q)))
def vx_X {S : Type} (px : S → Prop) (B : String → S → State → Prop) (A : Nat → Prop) : String → State → State → Prop := fun E st t => ∃ u : S, px u ∧ B E u t ∧ va_F A st t
section Runs
variable {p : Program} {l : Launch} {e : Env} {R : Room} {s : State} {m : MethodId} {args : Array Value} {below : List Frame} {meth : Method} {c : Code} {H : Heap} {locs : List Loc} {cells slots : Nat}
variable {y : MethodName} {bytes cc : ByteArray} {maxL nL mc ms n index : Nat} {ret : Option FieldType} {ws : List Cond} {rm : Room} {Pc : Array Value → State → Prop} {Qc : Array Value → State → Outcome → State → Prop} {XC : String → State → State → Prop} {free : Addr → Prop} {Ts : List Cond} {own C : String} {b : Addr} {As rest : List Value} {g : JFrame}
theorem vx_callBack (cb : CallB R s args own index y bytes maxL ret ws rm mc ms n) (hM : vx_Met l y ws rm Pc Qc XC mc ms free) (hbl : FrameBlind Pc) : vx_Back l R p e below s args y 3 8 (PreOf R mc ms Pc) (PostOf Qc mc ms free) (vx_Post XC mc ms free) := by
  obtain ⟨hrc, hrs, hfr, hlo, hws, hcw, -, hini, -⟩ := cb
  exact vx_back (bytes := bytes) (maxL := maxL) (ret := ret) hM hbl hrc hrs hfr hlo hws hcw (fun a' U hW => word_at hW (Or.inl (by first | rfl | simp [Cond.onTables, Cond.keeps, Cond.steady])) hini)
theorem vx_runV (S : CallFix p m c cc nL s args Ts own) (hM : vx_Met l y ws rm Pc Qc XC mc ms free) (cw : CallW R s args own C index y bytes maxL ret ws rm mc ms n) (hp : PreV s H C b Pc As)
    (hg : g.method = m) (hn : As.length = n) (hsize : g.locals.size = nL) (hstack : g.stack = As.reverse ++ .ref b :: rest) (hW : 2 * g.monitorRoom + (rest.map fun v => v.category).sum ≤ 8) (hdg : decode cc g.pc = .ok (.invokevirtual index, 3)) (hf : cells + mc ≤ R.cells ∧ slots + ms ≤ R.slots) :
    vx_Run p l e R s m args below meth c H locs cells slots mc ms g rest (Qc (Value.ref b :: As).toArray) XC free := by
  have hK : vx_Back l R p e below s args y 3 8 (PreOf R mc ms Pc) (PostOf Qc mc ms free) (vx_Post XC mc ms free) := vx_callBack cw.1 hM hp.1
  obtain ⟨⟨-, -, -, -, -, -, hcode, -, hy, hlen, hl⟩, hin, hse⟩ := cw
  obtain ⟨hx, hb, hml, ho, -⟩ := S
  obtain ⟨-, ⟨cellB, hcB, hoB, hclB⟩, hPc⟩ := hp
  intro T hT X
  rcases vx_callV X hx (C := C) (bytes := bytes) (maxL := maxL) (ret := ret) ho hl hin hse hcode hy hK (by rw [hT]; exact hcB) hoB hclB hg (hsize.trans hml.symm) (argsL := As) (rest := rest) (fun sig h => hn.trans (hlen sig h)) hstack hW (by rw [hb]; exact hdg)
    (fun vm₁ hW₁ => ⟨hf.1, hf.2, hPc (T.setVm vm₁) hT hW₁⟩) with ⟨v, vm₁, ⟨U', l2, c2, s2⟩, hW₁, X', ⟨g', mk, t, L, e1, e2, hq, h1, hL, h2, h3⟩, st⟩ | ⟨q, vm₁, ⟨U', l2, c2, s2⟩, hW₁, X', ⟨g', mk, t, L, E, ce, e1, e2, hq, hce, hcv, hcl, h1, hL, h2, h3⟩, st⟩
  · dsimp only [Pt.U, Pt.locs, Pt.cells, Pt.slots] at X' e1 e2 h1 h2 h3 st
    subst h1; subst h2; subst h3
    exact Or.inl ⟨v, (T.setVm vm₁).calling g' mk (Value.ref b :: As).toArray, t, U', L, hT, X', hL, e1, e2, hq, st⟩
  · dsimp only [Pt.U, Pt.locs, Pt.cells, Pt.slots] at X' e1 e2 h1 h2 h3 st hcl
    subst h1; subst h2; subst h3
    exact Or.inr ⟨q, (T.setVm vm₁).calling g' mk (Value.ref b :: As).toArray, t, U', L, E, ce, hT, X', hL, e1, e2, hq, hce, hcv, vx_cls hW₁ hcl, st⟩
theorem vx_runS (S : CallFix p m c cc nL s args Ts own) (hM : vx_Met l y ws rm Pc Qc XC mc ms free) (cw : CallB R s args own index y bytes maxL ret ws rm mc ms n ∧ (Cond.static y).before args s = true) (hp : PreS s H Pc As)
    (hg : g.method = m) (hn : As.length = n) (hsize : g.locals.size = nL) (hstack : g.stack = As.reverse ++ rest) (hW : 2 * g.monitorRoom + (rest.map fun v => v.category).sum ≤ 8) (hdg : decode cc g.pc = .ok (.invokestatic index, 3)) (hf : cells + mc ≤ R.cells ∧ slots + ms ≤ R.slots) :
    vx_Run p l e R s m args below meth c H locs cells slots mc ms g rest (Qc As.toArray) XC free := by
  have hK : vx_Back l R p e below s args y 3 8 (PreOf R mc ms Pc) (PostOf Qc mc ms free) (vx_Post XC mc ms free) := vx_callBack cw.1 hM hp.1
  obtain ⟨⟨-, -, -, -, -, -, hcode, hini, hy, hlen, hl⟩, hstt⟩ := cw
  obtain ⟨hx, hb, hml, ho, -⟩ := S
  intro T hT X
  rcases vx_callS X hx (bytes := bytes) (maxL := maxL) (ret := ret) ho hl hstt hini hcode hy hK hg (hsize.trans hml.symm) (argsL := As) (rest := rest) (fun sig h => hn.trans (hlen sig h)) hstack hW (by rw [hb]; exact hdg)
    (fun vm₁ hW₁ => ⟨hf.1, hf.2, hp.2 (T.setVm vm₁) hT hW₁⟩) with ⟨v, vm₁, ⟨U', l2, c2, s2⟩, hW₁, X', ⟨g', mk, t, L, e1, e2, hq, h1, hL, h2, h3⟩, st⟩ | ⟨q, vm₁, ⟨U', l2, c2, s2⟩, hW₁, X', ⟨g', mk, t, L, E, ce, e1, e2, hq, hce, hcv, hcl, h1, hL, h2, h3⟩, st⟩
  · dsimp only [Pt.U, Pt.locs, Pt.cells, Pt.slots] at X' e1 e2 h1 h2 h3 st
    subst h1; subst h2; subst h3
    exact Or.inl ⟨v, (T.setVm vm₁).calling g' mk As.toArray, t, U', L, hT, X', hL, e1, e2, hq, st⟩
  · dsimp only [Pt.U, Pt.locs, Pt.cells, Pt.slots] at X' e1 e2 h1 h2 h3 st hcl
    subst h1; subst h2; subst h3
    exact Or.inr ⟨q, (T.setVm vm₁).calling g' mk As.toArray, t, U', L, E, ce, hT, X', hL, e1, e2, hq, hce, hcv, vx_cls hW₁ hcl, st⟩
end Runs
section Rows
variable {p : Program} {l : Launch} {e : Env} {R : Room} {s : State} {m : MethodId} {args : Array Value} {below : List Frame} {meth : Method} {c : Code} {H : Heap} {locs : List Loc} {cells slots : Nat} {Q : State → Prop}
variable {mc ms : Nat} {free : Addr → Prop} {A0 A1 : Nat → Prop} {H0 : Heap} {a : Array Value} {pc : Nat} {ls : Array Slot} {st0 rest : List Value}
theorem vx_keep {st₀ t T' : State} {L : List Loc} (h0 : st₀.heap = H) (e1 : T'.heap = t.heap) (hS : va_S A0 H0 H locs) (hA : ∀ q, q < H.size → A1 q → A0 q) (hf : ∀ q, free q → A0 q) (hL : ∀ q ∈ L, free q.base) (hF : va_F A1 st₀ t) :
    H.size ≤ T'.heap.size ∧ (∀ q : Nat, q < H.size → ¬ A1 q → T'.heap[q]? = H[q]?) ∧ va_S A0 H0 T'.heap (locs ++ L) := by
  obtain ⟨hz, hk⟩ := hF
  rw [h0] at hz hk
  exact ⟨by rw [e1]; exact hz, fun q h1 h2 => by rw [e1]; exact hk q h1 h2,
    ⟨Nat.le_trans hS.1 (by rw [e1]; exact hz), fun q h1 h2 => by rw [e1, hk q (Nat.lt_of_lt_of_le h1 hS.1) (fun z => h2 (hA q (Nat.lt_of_lt_of_le h1 hS.1) z))]; exact hS.2.1 q h1 h2, fun q hq => by
      rcases List.mem_append.mp hq with h | h
      · exact hS.2.2 q h
      · exact hf _ (hL q h)⟩⟩
theorem vx_calli {S SX : Type} {post : Int32 → S → Prop} {px : SX → Prop} {B : S → State → Prop} {BX : String → SX → State → Prop} {AX : Nat → Prop} (hr : vx_Run p l e R s m args below meth c H locs cells slots mc ms (F0 m pc ls st0) rest (va_Qi post B A1 a) (vx_X px BX AX) free) (hS : va_S A0 H0 H locs) (hA : ∀ q, q < H.size → A1 q → A0 q) (hf : ∀ q, free q → A0 q) (hAX : ∀ q, q < H.size → AX q → A0 q)
    (kx : ∀ (E : String) (ce : Cell) (q9 : Addr) (u : SX) (t : State) (H1 : Heap) (locs1 : List Loc), t.heap = H1 → s.vm.Alike t.vm → px u → BX E u t → H.size ≤ H1.size → (∀ q : Nat, q < H.size → ¬ AX q → H1[q]? = H[q]?) → va_S A0 H0 H1 locs1 → H1[q9]? = some ce → ce.vm = .none → s.vm.findClass E = some ce.cls → vx_W p l e R s m args below meth c H1 locs1 (cells + mc) (slots + ms) Q (F0 m pc ls rest) q9)
    (kk : ∀ (r : Int32) (u : S) (t : State) (H1 : Heap) (locs1 : List Loc), t.heap = H1 → s.vm.Alike t.vm → post r u → B u t → H.size ≤ H1.size → (∀ q : Nat, q < H.size → ¬ A1 q → H1[q]? = H[q]?) → va_S A0 H0 H1 locs1 → W p l e R s m args below meth c H1 locs1 (cells + mc) (slots + ms) Q (F0 m (pc + 3) ls (.int r :: rest))) : W p l e R s m args below meth c H locs cells slots Q (F0 m pc ls st0) := by
  intro T hT X
  rcases hr T hT X with ⟨v, st₀, t, T', L, h0, X', hL, e1, e2, ⟨⟨r, u, hv, hp, hb⟩, hF⟩, st⟩ | ⟨q, st₀, t, T', L, E, ce, h0, X', hL, e1, e2, ⟨u, hp, hb, hF⟩, hce, hcv, hcl, st⟩
  · cases hv
    obtain ⟨k1, k2, k3⟩ := vx_keep h0 e1 hS hA hf hL hF
    obtain ⟨t2, a1, b1⟩ := kk r u t T'.heap (locs ++ L) e1.symm (by rw [← e2]; exact X'.warmed.alike) hp hb k1 k2 k3 T' rfl X'
    exact ⟨t2, st t2 a1, b1⟩
  · obtain ⟨k1, k2, k3⟩ := vx_keep h0 e1 hS hAX hf hL hF
    obtain ⟨t2, a1, b1⟩ := kx E ce q u t T'.heap (locs ++ L) e1.symm (by rw [← e2]; exact X'.warmed.alike) hp hb k1 k2 k3 (by rw [e1]; exact hce) hcv hcl T' rfl X'
    exact ⟨t2, st.trans a1, b1⟩
theorem vx_calll {S SX : Type} {post : Int64 → S → Prop} {px : SX → Prop} {B : S → State → Prop} {BX : String → SX → State → Prop} {AX : Nat → Prop} (hr : vx_Run p l e R s m args below meth c H locs cells slots mc ms (F0 m pc ls st0) rest (va_Ql post B A1 a) (vx_X px BX AX) free) (hS : va_S A0 H0 H locs) (hA : ∀ q, q < H.size → A1 q → A0 q) (hf : ∀ q, free q → A0 q) (hAX : ∀ q, q < H.size → AX q → A0 q)
    (kx : ∀ (E : String) (ce : Cell) (q9 : Addr) (u : SX) (t : State) (H1 : Heap) (locs1 : List Loc), t.heap = H1 → s.vm.Alike t.vm → px u → BX E u t → H.size ≤ H1.size → (∀ q : Nat, q < H.size → ¬ AX q → H1[q]? = H[q]?) → va_S A0 H0 H1 locs1 → H1[q9]? = some ce → ce.vm = .none → s.vm.findClass E = some ce.cls → vx_W p l e R s m args below meth c H1 locs1 (cells + mc) (slots + ms) Q (F0 m pc ls rest) q9)
    (kk : ∀ (r : Int64) (u : S) (t : State) (H1 : Heap) (locs1 : List Loc), t.heap = H1 → s.vm.Alike t.vm → post r u → B u t → H.size ≤ H1.size → (∀ q : Nat, q < H.size → ¬ A1 q → H1[q]? = H[q]?) → va_S A0 H0 H1 locs1 → W p l e R s m args below meth c H1 locs1 (cells + mc) (slots + ms) Q (F0 m (pc + 3) ls (.long r :: rest))) : W p l e R s m args below meth c H locs cells slots Q (F0 m pc ls st0) := by
  intro T hT X
  rcases hr T hT X with ⟨v, st₀, t, T', L, h0, X', hL, e1, e2, ⟨⟨r, u, hv, hp, hb⟩, hF⟩, st⟩ | ⟨q, st₀, t, T', L, E, ce, h0, X', hL, e1, e2, ⟨u, hp, hb, hF⟩, hce, hcv, hcl, st⟩
  · cases hv
    obtain ⟨k1, k2, k3⟩ := vx_keep h0 e1 hS hA hf hL hF
    obtain ⟨t2, a1, b1⟩ := kk r u t T'.heap (locs ++ L) e1.symm (by rw [← e2]; exact X'.warmed.alike) hp hb k1 k2 k3 T' rfl X'
    exact ⟨t2, st t2 a1, b1⟩
  · obtain ⟨k1, k2, k3⟩ := vx_keep h0 e1 hS hAX hf hL hF
    obtain ⟨t2, a1, b1⟩ := kx E ce q u t T'.heap (locs ++ L) e1.symm (by rw [← e2]; exact X'.warmed.alike) hp hb k1 k2 k3 (by rw [e1]; exact hce) hcv hcl T' rfl X'
    exact ⟨t2, st.trans a1, b1⟩
theorem vx_callf {S SX : Type} {post : UInt32 → S → Prop} {px : SX → Prop} {B : S → State → Prop} {BX : String → SX → State → Prop} {AX : Nat → Prop} (hr : vx_Run p l e R s m args below meth c H locs cells slots mc ms (F0 m pc ls st0) rest (va_Qf post B A1 a) (vx_X px BX AX) free) (hS : va_S A0 H0 H locs) (hA : ∀ q, q < H.size → A1 q → A0 q) (hf : ∀ q, free q → A0 q) (hAX : ∀ q, q < H.size → AX q → A0 q)
    (kx : ∀ (E : String) (ce : Cell) (q9 : Addr) (u : SX) (t : State) (H1 : Heap) (locs1 : List Loc), t.heap = H1 → s.vm.Alike t.vm → px u → BX E u t → H.size ≤ H1.size → (∀ q : Nat, q < H.size → ¬ AX q → H1[q]? = H[q]?) → va_S A0 H0 H1 locs1 → H1[q9]? = some ce → ce.vm = .none → s.vm.findClass E = some ce.cls → vx_W p l e R s m args below meth c H1 locs1 (cells + mc) (slots + ms) Q (F0 m pc ls rest) q9)
    (kk : ∀ (r : UInt32) (u : S) (t : State) (H1 : Heap) (locs1 : List Loc), t.heap = H1 → s.vm.Alike t.vm → post r u → B u t → H.size ≤ H1.size → (∀ q : Nat, q < H.size → ¬ A1 q → H1[q]? = H[q]?) → va_S A0 H0 H1 locs1 → W p l e R s m args below meth c H1 locs1 (cells + mc) (slots + ms) Q (F0 m (pc + 3) ls (.float r :: rest))) : W p l e R s m args below meth c H locs cells slots Q (F0 m pc ls st0) := by
  intro T hT X
  rcases hr T hT X with ⟨v, st₀, t, T', L, h0, X', hL, e1, e2, ⟨⟨r, u, hv, hp, hb⟩, hF⟩, st⟩ | ⟨q, st₀, t, T', L, E, ce, h0, X', hL, e1, e2, ⟨u, hp, hb, hF⟩, hce, hcv, hcl, st⟩
  · cases hv
    obtain ⟨k1, k2, k3⟩ := vx_keep h0 e1 hS hA hf hL hF
    obtain ⟨t2, a1, b1⟩ := kk r u t T'.heap (locs ++ L) e1.symm (by rw [← e2]; exact X'.warmed.alike) hp hb k1 k2 k3 T' rfl X'
    exact ⟨t2, st t2 a1, b1⟩
  · obtain ⟨k1, k2, k3⟩ := vx_keep h0 e1 hS hAX hf hL hF
    obtain ⟨t2, a1, b1⟩ := kx E ce q u t T'.heap (locs ++ L) e1.symm (by rw [← e2]; exact X'.warmed.alike) hp hb k1 k2 k3 (by rw [e1]; exact hce) hcv hcl T' rfl X'
    exact ⟨t2, st.trans a1, b1⟩
theorem vx_calld {S SX : Type} {post : UInt64 → S → Prop} {px : SX → Prop} {B : S → State → Prop} {BX : String → SX → State → Prop} {AX : Nat → Prop} (hr : vx_Run p l e R s m args below meth c H locs cells slots mc ms (F0 m pc ls st0) rest (va_Qd post B A1 a) (vx_X px BX AX) free) (hS : va_S A0 H0 H locs) (hA : ∀ q, q < H.size → A1 q → A0 q) (hf : ∀ q, free q → A0 q) (hAX : ∀ q, q < H.size → AX q → A0 q)
    (kx : ∀ (E : String) (ce : Cell) (q9 : Addr) (u : SX) (t : State) (H1 : Heap) (locs1 : List Loc), t.heap = H1 → s.vm.Alike t.vm → px u → BX E u t → H.size ≤ H1.size → (∀ q : Nat, q < H.size → ¬ AX q → H1[q]? = H[q]?) → va_S A0 H0 H1 locs1 → H1[q9]? = some ce → ce.vm = .none → s.vm.findClass E = some ce.cls → vx_W p l e R s m args below meth c H1 locs1 (cells + mc) (slots + ms) Q (F0 m pc ls rest) q9)
    (kk : ∀ (r : UInt64) (u : S) (t : State) (H1 : Heap) (locs1 : List Loc), t.heap = H1 → s.vm.Alike t.vm → post r u → B u t → H.size ≤ H1.size → (∀ q : Nat, q < H.size → ¬ A1 q → H1[q]? = H[q]?) → va_S A0 H0 H1 locs1 → W p l e R s m args below meth c H1 locs1 (cells + mc) (slots + ms) Q (F0 m (pc + 3) ls (.double r :: rest))) : W p l e R s m args below meth c H locs cells slots Q (F0 m pc ls st0) := by
  intro T hT X
  rcases hr T hT X with ⟨v, st₀, t, T', L, h0, X', hL, e1, e2, ⟨⟨r, u, hv, hp, hb⟩, hF⟩, st⟩ | ⟨q, st₀, t, T', L, E, ce, h0, X', hL, e1, e2, ⟨u, hp, hb, hF⟩, hce, hcv, hcl, st⟩
  · cases hv
    obtain ⟨k1, k2, k3⟩ := vx_keep h0 e1 hS hA hf hL hF
    obtain ⟨t2, a1, b1⟩ := kk r u t T'.heap (locs ++ L) e1.symm (by rw [← e2]; exact X'.warmed.alike) hp hb k1 k2 k3 T' rfl X'
    exact ⟨t2, st t2 a1, b1⟩
  · obtain ⟨k1, k2, k3⟩ := vx_keep h0 e1 hS hAX hf hL hF
    obtain ⟨t2, a1, b1⟩ := kx E ce q u t T'.heap (locs ++ L) e1.symm (by rw [← e2]; exact X'.warmed.alike) hp hb k1 k2 k3 (by rw [e1]; exact hce) hcv hcl T' rfl X'
    exact ⟨t2, st.trans a1, b1⟩
theorem vx_callv {S SX : Type} {post : S → Prop} {px : SX → Prop} {B : S → State → Prop} {BX : String → SX → State → Prop} {AX : Nat → Prop} (hr : vx_Run p l e R s m args below meth c H locs cells slots mc ms (F0 m pc ls st0) rest (va_Qv post B A1 a) (vx_X px BX AX) free) (hS : va_S A0 H0 H locs) (hA : ∀ q, q < H.size → A1 q → A0 q) (hf : ∀ q, free q → A0 q) (hAX : ∀ q, q < H.size → AX q → A0 q)
    (kx : ∀ (E : String) (ce : Cell) (q9 : Addr) (u : SX) (t : State) (H1 : Heap) (locs1 : List Loc), t.heap = H1 → s.vm.Alike t.vm → px u → BX E u t → H.size ≤ H1.size → (∀ q : Nat, q < H.size → ¬ AX q → H1[q]? = H[q]?) → va_S A0 H0 H1 locs1 → H1[q9]? = some ce → ce.vm = .none → s.vm.findClass E = some ce.cls → vx_W p l e R s m args below meth c H1 locs1 (cells + mc) (slots + ms) Q (F0 m pc ls rest) q9)
    (kk : ∀ (u : S) (t : State) (H1 : Heap) (locs1 : List Loc), t.heap = H1 → s.vm.Alike t.vm → post u → B u t → H.size ≤ H1.size → (∀ q : Nat, q < H.size → ¬ A1 q → H1[q]? = H[q]?) → va_S A0 H0 H1 locs1 → W p l e R s m args below meth c H1 locs1 (cells + mc) (slots + ms) Q (F0 m (pc + 3) ls (rest))) : W p l e R s m args below meth c H locs cells slots Q (F0 m pc ls st0) := by
  intro T hT X
  rcases hr T hT X with ⟨v, st₀, t, T', L, h0, X', hL, e1, e2, ⟨⟨u, hv, hp, hb⟩, hF⟩, st⟩ | ⟨q, st₀, t, T', L, E, ce, h0, X', hL, e1, e2, ⟨u, hp, hb, hF⟩, hce, hcv, hcl, st⟩
  · cases hv
    obtain ⟨k1, k2, k3⟩ := vx_keep h0 e1 hS hA hf hL hF
    obtain ⟨t2, a1, b1⟩ := kk u t T'.heap (locs ++ L) e1.symm (by rw [← e2]; exact X'.warmed.alike) hp hb k1 k2 k3 T' rfl X'
    exact ⟨t2, st t2 a1, b1⟩
  · obtain ⟨k1, k2, k3⟩ := vx_keep h0 e1 hS hAX hf hL hF
    obtain ⟨t2, a1, b1⟩ := kx E ce q u t T'.heap (locs ++ L) e1.symm (by rw [← e2]; exact X'.warmed.alike) hp hb k1 k2 k3 (by rw [e1]; exact hce) hcv hcl T' rfl X'
    exact ⟨t2, st.trans a1, b1⟩
/-- caught by the row x of this method's table; the rows ahead don't take it -/
theorem vx_catch {own name : String} {E : String} {ce : Cell} {q : Addr} (hown : s.vm.findClass own = some m.cls) (pre : List ExceptionTableEntry) (x : ExceptionTableEntry) (suf : List ExceptionTableEntry) (hsplit : c.exceptionTable.toList = pre ++ x :: suf)
    (hpass : ∀ z ∈ pre, covers z pc = false ∨ (z.catchType ≠ 0 ∧ ∃ nm : String, (Cond.classLink own z.catchType nm).before args s = true ∧ va_Nc E nm s)) (hx : covers x pc = true) (h0 : x.catchType ≠ 0)
    (hlink : (Cond.classLink own x.catchType name).before args s = true) (hcast : (Cond.castable E name).before args s = true) (hcell : H[q]? = some ce) (hv : ce.vm = .none) (hcl : s.vm.findClass E = some ce.cls)
    (kk : W p l e R s m args below meth c H locs cells slots Q (F0 m x.handlerPc ls [.ref q])) : vx_W p l e R s m args below meth c H locs cells slots Q (F0 m pc ls rest) q := by
  intro T hT X
  have hpl : e.platform.magicAccessors = ({} : Platform).magicAccessors := by rw [X.admits.platform]
  obtain ⟨c3, c4, hc3, hc4, hasg⟩ := Cond.castable_spec hcast
  cases Option.some.inj (hc3.symm.trans hcl)
  obtain ⟨c5, hc5, hcl5⟩ := Cond.classLink_spec hown hlink e.platform hpl
  cases Option.some.inj (hc4.symm.trans hc5)
  obtain ⟨vm', X', st⟩ := X.thenCaughtThrough q (g := F0 m pc ls rest) rfl (Steps.refl _) (by rw [hT]; exact hcell) (by rw [hv]; rfl) (by obtain ⟨k9, h9, -⟩ := Vm.findClass_spec hcl; exact ⟨k9, h9⟩) pre x suf hsplit
    (fun z hz => by
      rcases hpass z hz with h | ⟨hz0, nm, hl1, hn1⟩
      · exact Or.inl h
      · obtain ⟨c6, hc6, hcl6⟩ := Cond.classLink_spec hown hl1 e.platform hpl
        obtain ⟨a8, b8, h1, h2, h3⟩ := hn1
        cases Option.some.inj (h1.symm.trans hcl)
        cases Option.some.inj (h2.symm.trans hc6)
        exact Or.inr ⟨hz0, _, hcl6, h3⟩) hx (Or.inr ⟨h0, c4, hcl5, hasg⟩)
  obtain ⟨t, a1, b1⟩ := kk (T.setVm vm') hT X'
  exact ⟨t, st.trans a1, b1⟩
end Rows
section Ends
variable {p : Program} {l : Launch} {e : Env} {R : Room} {s : State} {m : MethodId} {args : Array Value} {below : List Frame} {meth : Method} {c : Code} {H : Heap} {locs : List Loc} {cells slots : Nat} {Q : State → Prop}
variable {mc ms : Nat} {free : Addr → Prop} {A0 A1 : Nat → Prop} {H0 : Heap} {a : Array Value} {ls : Array Slot} {st0 rest : List Value}
variable {Qc : Array Value → State → Outcome → State → Prop} {XC : String → State → State → Prop}
/-- what a body that may throw owes at its end -/
def vx_MQ (below : List Frame) (Qc : Array Value → State → Outcome → State → Prop) (XC : String → State → State → Prop) (a : Array Value) (s : State) (mc ms : Nat) (free : Addr → Prop) : State → Prop := fun t =>
  ∃ o, t.status = .running ∧ Ended t below o ∧ vx_Q Qc XC mc ms free a s o t
theorem vx_ret {g : JFrame} {mc ms : Nat} (k : W p l e R s m args below meth c H locs cells slots (MQ below Qc args s mc ms free) g) : W p l e R s m args below meth c H locs cells slots (vx_MQ below Qc XC args s mc ms free) g := by
  intro T hT X
  obtain ⟨t, a1, o, b1, b2, b3, b4⟩ := k T hT X
  exact ⟨t, a1, o, b1, b2, Or.inl ⟨b3, b4⟩⟩
/-- not caught here: it goes on to the caller -/
theorem vx_widen {g : JFrame} {q : Addr} {k n : Nat} (h1 : cells ≤ k) (h2 : slots ≤ n) (kk : vx_W p l e R s m args below meth c H locs k n Q g q) : vx_W p l e R s m args below meth c H locs cells slots Q g q := fun T hT X => kk T hT (stand_widen X h1 h2)
theorem vx_out {pc : Nat} {E : String} {ce : Cell} {q : Addr} {mc ms : Nat} (hout : ∀ x ∈ c.exceptionTable.toList, covers x pc = false) (hlocks : meth.locks = false) (hcell : H[q]? = some ce) (hv : ce.vm = .none) (hcl : s.vm.findClass E = some ce.cls)
    (hx : ∀ t : State, t.heap = H → s.vm.Alike t.vm → XC E s t) (hf : ∀ z ∈ locs, free z.base) (hc : cells ≤ mc) (hs : slots ≤ ms) :
    vx_W p l e R s m args below meth c H locs cells slots (vx_MQ below Qc XC args s mc ms free) (F0 m pc ls rest) q := by
  intro T hT X
  obtain ⟨st1, hrun, hend, hW, hsm⟩ := X.leaveThrown q (g := F0 m pc ls rest) rfl rfl rfl hout hlocks
  have hcell9 : (T.setFrames (.throwing q :: below)).heap[q]? = some ce := by
    show T.heap[q]? = some ce
    rw [hT]; exact hcell
  exact ⟨_, st1, .threw q, hrun, hend, Or.inr ⟨q, rfl, E, ce, locs, hx _ hT hW.alike, hcell9, hv, hcl, hW, hsm.mono hc hs, hf⟩⟩
theorem vx_frame {U : State} {k n : Nat} (h : s.sameButNew ({ U with vm := s.vm } : State) locs k n) : s.heap.size ≤ U.heap.size ∧ ∀ q : Nat, q < s.heap.size → (∀ z ∈ locs, z.base ≠ q) → U.heap[q]? = s.heap[q]? := by
  obtain ⟨-, h2, -, -, -, h6⟩ := h
  refine ⟨h2, fun q hq hz => ?_⟩
  obtain ⟨c9, e1, e2, e3, e4⟩ := h6 q _ (Array.getElem?_eq_getElem hq)
  have hs : c9.slots = (s.heap[q]).slots := Array.ext_getElem? fun i => e4 i fun hm => hz _ hm rfl
  have h9 : c9 = s.heap[q] := by
    rw [hs] at e2
    exact e2
  have e5 : U.heap[q]? = some c9 := e1
  rw [e5, h9, Array.getElem?_eq_getElem hq]
/-- the words of a throw but the four that speak of the heap -/
def vx_no (w : Cond) : Bool := decide (w ≠ .isRef (.static Bundle.tN "UNASSIGNED_STACK" Bundle.steD)) && decide (w ≠ .isRef (.static Bundle.tN "SUPPRESSED_SENTINEL" Bundle.listD)) && decide (w ≠ .laysStatic Bundle.tN "UNASSIGNED_STACK" Bundle.steD) && decide (w ≠ .laysStatic Bundle.tN "SUPPRESSED_SENTINEL" Bundle.listD)
def vx_at0 (own : String) (ic : Nat) (X : String) (names : List String) : List Cond := (Bundle.ownAtoms0 own ic X names).filter vx_no
def vx_atS (own : String) (ic : Nat) (X : String) (names : List String) : List Cond := (Bundle.ownAtoms own ic X names).filter vx_no
/-- a word that the tables alone decide, or a good one -/
def vx_ot (w : Cond) : Bool := w.onTables || goodWord w
theorem vx_ot_at {args a' : Array Value} {s U : State} {w : Cond} (hW : s.WarmedH U.vm) (hvm : s.vm = U.vm) (hg : vx_ot w = true) (h : w.before args s = true) : w.before a' U = true := by
  simp only [vx_ot, Bool.or_eq_true] at hg
  rcases hg with hg | hg
  · exact va_tabs hg hvm h
  · exact word_at hW (good_of_word hg) h
/-- a list's words: the good ones out of the method's own list, the others by premises of their own -/
theorem vx_hat {args : Array Value} {s : State} {L B : List Cond} (h1 : ∀ w ∈ L.filter goodWord, w.before args s = true) (h2 : ∀ w ∈ L.filter (fun w => !goodWord w), w ∈ B) (h3 : ∀ w ∈ B, w.before args s = true) : ∀ w ∈ L, w.before args s = true := by
  intro w hw
  by_cases g : goodWord w = true
  · exact h1 w (List.mem_filter.mpr ⟨hw, g⟩)
  · refine h3 w (h2 w (List.mem_filter.mpr ⟨hw, ?_⟩))
    show (!goodWord w) = true
    cases hgw : goodWord w
    · rfl
    · exact absurd hgw g
theorem vx_c {args : Array Value} {s : State} {w : Cond} {B : List Cond} (h : w.before args s = true) (t : ∀ w ∈ B, w.before args s = true) : ∀ w' ∈ w :: B, w'.before args s = true := fun w' h' => (List.mem_cons.mp h').elim (fun e => by rw [e]; exact h) (t w')
theorem vx_n {args : Array Value} {s : State} : ∀ w ∈ ([] : List Cond), w.before args s = true := fun _ h => nomatch h
theorem vx_own {args : Array Value} {s : State} {L : List Cond} (h1 : ∀ w ∈ L.filter vx_no, w.before args s = true)
    (hU : (Cond.isRef (.static Bundle.tN "UNASSIGNED_STACK" Bundle.steD)).before args s = true) (hN : (Cond.isRef (.static Bundle.tN "SUPPRESSED_SENTINEL" Bundle.listD)).before args s = true)
    (lU : (Cond.laysStatic Bundle.tN "UNASSIGNED_STACK" Bundle.steD).before args s = true) (lN : (Cond.laysStatic Bundle.tN "SUPPRESSED_SENTINEL" Bundle.listD).before args s = true) : ∀ w ∈ L, w.before args s = true := by
  intro w hw
  by_cases e1 : w = .isRef (.static Bundle.tN "UNASSIGNED_STACK" Bundle.steD)
  · rw [e1]; exact hU
  · by_cases e2 : w = .isRef (.static Bundle.tN "SUPPRESSED_SENTINEL" Bundle.listD)
    · rw [e2]; exact hN
    · by_cases e3 : w = .laysStatic Bundle.tN "UNASSIGNED_STACK" Bundle.steD
      · rw [e3]; exact lU
      · by_cases e4 : w = .laysStatic Bundle.tN "SUPPRESSED_SENTINEL" Bundle.listD
        · rw [e4]; exact lN
        · exact h1 w (List.mem_filter.mpr ⟨hw, by unfold vx_no; rw [decide_eq_true e1, decide_eq_true e2, decide_eq_true e3, decide_eq_true e4]; rfl⟩)
/-- where a static field lies, its class's statics cell in H -/
def vx_L (C n d : String) (A : Nat → Prop) (U : State) (H : Heap) : Prop := ∃ (c : ClassId) (k : Class) (i : Nat) (f : Field) (a : Nat) (cell : Cell), U.vm.findClass C = some c ∧ U.fieldFound? C n d = some (c, k, i, f) ∧ f.isStatic = true ∧ k.statics = some a ∧ H[a]? = some cell ∧ cell.vm.isStatics = true ∧ cell.cls = c ∧ f.slot < cell.slots.size ∧ k.staticTypes[f.slot]? = some f.type ∧ ¬ A a
theorem vx_L.moved {C n d : String} {A : Nat → Prop} {u U : State} {H : Heap} (hvm : u.vm.Alike U.vm) (h : vx_L C n d A u H) : vx_L C n d A U H := by
  obtain ⟨c, k, i, f, a, cell, h1, h2, h3, h4, h5, h6, h7, h8, h9, h10⟩ := h
  obtain ⟨k', hi', he⟩ := State.fieldFound?_setVm hvm h2
  exact ⟨c, k', i, f, a, cell, by rw [hvm.findClass]; exact h1, hi', h3, by rw [he]; exact h4, h5, h6, h7, h8, by rw [he]; exact h9, h10⟩
theorem vx_L.kept {C n d : String} {A : Nat → Prop} {U : State} {H H1 : Heap} (h : vx_L C n d A U H) (hq : ∀ a : Nat, a < H.size → ¬ A a → H1[a]? = H[a]?) : vx_L C n d A U H1 := by
  obtain ⟨c, k, i, f, a, cell, h1, h2, h3, h4, h5, h6, h7, h8, h9, h10⟩ := h
  exact ⟨c, k, i, f, a, cell, h1, h2, h3, h4, by rw [hq a (Array.getElem?_eq_some_iff.mp h5).1 h10]; exact h5, h6, h7, h8, h9, h10⟩
theorem vx_L.narrow {C n d : String} {A B : Nat → Prop} {U : State} {H : Heap} (h : vx_L C n d A U H) (hAB : ∀ q, B q → A q) : vx_L C n d B U H := by
  obtain ⟨c, k, i, f, a, cell, h1, h2, h3, h4, h5, h6, h7, h8, h9, h10⟩ := h
  exact ⟨c, k, i, f, a, cell, h1, h2, h3, h4, h5, h6, h7, h8, h9, fun z => h10 (hAB _ z)⟩
theorem vx_L.word {C n d : String} {A : Nat → Prop} {s : State} {args : Array Value} (h : vx_L C n d A s s.heap) : (Cond.laysStatic C n d).before args s = true := by
  obtain ⟨c, k, i, f, a, cell, h1, h2, h3, h4, h5, h6, h7, h8, h9, -⟩ := h
  show (Cond.laysStatic C n d).holds args s none s [] = true
  exact Cond.laysStatic_of h1 h2 h3 h4 h5 h6 h7 h8 h9
/-- .. and what it holds: null or some reference -/
def vx_Zq (C n d : String) (A : Nat → Prop) (U : State) (H : Heap) : Prop := va_Zq C n d A U H ∧ vx_L C n d A U H
theorem vx_Zq.moved {C n d : String} {A : Nat → Prop} {u U : State} {H : Heap} (hvm : u.vm.Alike U.vm) (h : vx_Zq C n d A u H) : vx_Zq C n d A U H := ⟨va_Zq.moved hvm h.1, vx_L.moved hvm h.2⟩
theorem vx_Zq.kept {C n d : String} {A : Nat → Prop} {U : State} {H H1 : Heap} (h : vx_Zq C n d A U H) (hq : ∀ a : Nat, a < H.size → ¬ A a → H1[a]? = H[a]?) : vx_Zq C n d A U H1 := ⟨va_Zq.kept h.1 hq, vx_L.kept h.2 hq⟩
theorem vx_Zq.narrow {C n d : String} {A B : Nat → Prop} {U : State} {H : Heap} (h : vx_Zq C n d A U H) (hAB : ∀ q, B q → A q) : vx_Zq C n d B U H := ⟨va_Zq.narrow h.1 hAB, vx_L.narrow h.2 hAB⟩
theorem vx_Zqof {args : Array Value} {s : State} {C n d : String} {A : Nat → Prop} (hl : (Cond.laysStatic C n d).before args s = true) (hini : (Cond.initialized C).before args s = true) (h : (Cond.isRef (.static C n d)).before args s = true) (hA : ∀ a : Nat, a < s.heap.size → ¬ A a) : vx_Zq C n d A s s.heap := by
  refine ⟨va_Zqof hl hini h hA, ?_⟩
  obtain ⟨c, k, i, f, a, cell, h1, h2, h3, h4, h5, h6, h7, h8, h9⟩ := Cond.laysStatic_spec hl
  exact ⟨c, k, i, f, a, cell, h1, h2, h3, h4, h5, h6, h7, h8, h9, hA a (Array.getElem?_eq_some_iff.mp h5).1⟩
theorem vx_isRef {C n d : String} {v : Value} {A : Nat → Prop} {s : State} {args : Array Value} (h : va_Z C n d v A s s.heap) (hv : v.isRef = true) : (Cond.isRef (.static C n d)).before args s = true := by
  obtain ⟨cf, kf, fi, f, a, cell, h1, h2, h3, h4, h5, h6, h7, -⟩ := h
  have he : (Term.static C n d).eval args s none [] s = some v := by
    simp [Term.eval, State.fieldNamed?, h1, h2, h4, h5, h6, h7]
  simp only [Cond.before, Cond.holds, Cond.value, he]
  cases v <;> simp_all [Value.isRef]
theorem vx_isRefq {C n d : String} {A : Nat → Prop} {s : State} {args : Array Value} (h : va_Zq C n d A s s.heap) : (Cond.isRef (.static C n d)).before args s = true := by
  rcases h with h | ⟨t, h⟩
  · exact vx_isRef h rfl
  · exact vx_isRef h rfl
/-- the same frame, seen from here: as if the method were called anew in this heap -/
theorem vx_rebase {T : State} (X : Stand p l e R s m args below meth c T locs cells slots) {R' : Room} (hf : R'.frames ≤ R.frames) (hl : R'.locals ≤ R.locals) (hc : cells + R'.cells ≤ R.cells) (hs : slots + R'.slots ≤ R.slots) :
    Stand p l e R' ((T.setVm s.vm).setFrames (.invoking m args :: below)) m args below meth c T [] 0 0 := by
  have htop : (T.setVm s.vm).topJava?.isSome := X.here.top
  have hF : ((T.setVm s.vm).setFrames (.invoking m args :: below)).frames = .invoking m args :: below := State.frames_setFrames _ (State.cur_lt_of_top htop)
  obtain ⟨g₀, hg0⟩ := Option.isSome_iff_exists.mp htop
  obtain ⟨r, hr⟩ := State.topJava?_eq_some.mp hg0
  have hl9 : e.platform.stackLimits (T.setVm s.vm).me = e.platform.stackLimits s.me := X.limits
  have hb9 : (T.setVm s.vm).me.stackBytes = s.me.stackBytes := X.bytes
  refine ⟨X.admits, X.cas, X.clock, hF, ?_, X.hears, X.method, X.code, X.here, X.tail, X.warmed, ?_, ?_, ?_⟩
  · have h := X.room
    have hU : ((T.setVm s.vm).setFrames (.invoking m args :: below)).localsInUse = s.localsInUse := by
      rw [State.localsInUse_invoking hF (meth := meth) (c := c) X.method X.code, State.localsInUse_invoking X.frames X.method X.code]
    simp only [State.hasRoom, Bool.and_eq_true, decide_eq_true_eq] at h ⊢
    obtain ⟨⟨⟨⟨h1, h2, h3, h4, h5, h6⟩, h7⟩, h8⟩, h9⟩ := h
    rw [X.frames, List.length_cons] at h2 h3
    have q1 := X.heapSize
    have q2 := X.used
    simp only [hF, hU, List.length_cons, State.stackLimits_setFrames, State.stackBytes_setFrames, hl9, hb9]
    refine ⟨⟨⟨⟨by omega, by omega, by omega, by omega, by omega, h6⟩, ?_⟩, ?_⟩, X.book⟩
    · show T.heap.size + R'.cells ≤ e.platform.maxCells
      omega
    · show T.slotsUsed + R'.slots ≤ e.platform.maxSlots
      omega
  · rw [State.stackLimits_setFrames]; rfl
  · rw [State.stackBytes_setFrames]; rfl
  · refine ⟨?_, Nat.le_refl _, Nat.le_refl _, ?_, ?_, fun a c9 h9 => ⟨c9, h9, rfl, rfl, fun _ _ => rfl⟩⟩
    · obtain ⟨t, ht, -⟩ := State.frames_cons hr
      show T.setVm s.vm = { ((T.setVm s.vm).setFrames (.invoking m args :: below)).setFrames (T.setVm s.vm).frames with heap := T.heap, slotsUsed := T.slotsUsed }
      rw [State.setFrames_setFrames, State.setFrames_self ht]
      rfl
    · show T.slotsUsed = T.slotsUsed + ((T.heap.toList.drop T.heap.size).map (·.slots.size)).sum
      rw [List.drop_eq_nil_of_le (Nat.le_of_eq Array.length_toList)]
      rfl
    · show ((T.heap.toList.drop T.heap.size).map (·.slots.size)).sum ≤ 0
      rw [List.drop_eq_nil_of_le (Nat.le_of_eq Array.length_toList)]
      exact Nat.le_refl _
/-- 'throw new E()': new; dup; invokespecial; athrow -/
theorem vx_throw0 {cc : ByteArray} {pc : Nat} (hexec : p.tables.exec = Jvm.exec) (hb : c.code = cc) (hl : l.stackTraces = false) {own cls : String} {names : List String} {ik ic mc ms : Nat} {A : Nat → Prop}
    (hown : s.vm.findClass own = some m.cls) (hcls : Bundle.fit cls = true) (hnames : ∀ n ∈ names, Bundle.fit n = true)
    (hk : (Cond.classLink own ik cls).before args s = true) (hini : (Cond.initialized cls).before args s = true) (hat : ∀ w ∈ vx_at0 own ic cls names, w.before args s = true)
    (hgood : ∀ w ∈ Cond.classLink own ik cls :: Cond.initialized cls :: vx_at0 own ic cls names, vx_ot w = true)
    (hU : vx_Zq Bundle.tN "UNASSIGNED_STACK" Bundle.steD A s s.heap) (hN : vx_Zq Bundle.tN "SUPPRESSED_SENTINEL" Bundle.listD A s s.heap) (hS : va_S A s.heap H locs) (hsize : ls.size = c.maxLocals)
    (d0 : decode cc pc = .ok (.new ik, 3)) (d3 : decode cc (pc + 3) = .ok (.dup, 1)) (d4 : decode cc (pc + 4) = .ok (.invokespecial ic, 3)) (d7 : decode cc (pc + 7) = .ok (.athrow, 1))
    (hout : ∀ x ∈ c.exceptionTable.toList, covers x (pc + 7) = false)
    (hRframes : names.length + 3 < R.frames) (hRlocals : (rest.map fun v => v.category).sum + (13 * (names.length + 1) + 42) ≤ R.locals) (hRcells : cells + 1 ≤ R.cells) (hRslots : slots + 6 ≤ R.slots) (hlocks : meth.locks = false)
    (hx : ∀ t : State, s.vm.Alike t.vm → H.size ≤ t.heap.size → (∀ q : Nat, q < H.size → t.heap[q]? = H[q]?) → XC cls s t)
    (hf : ∀ z ∈ locs, free z.base) (hc : cells + 1 ≤ mc) (hs : slots + 6 ≤ ms) :
    W p l e R s m args below meth c H locs cells slots (vx_MQ below Qc XC args s mc ms free) (F0 m pc ls rest) := by
  intro T hT X
  have htr : e.platform.stackTraces = false := (show e.platform.stackTraces = l.stackTraces by rw [X.admits.platform]).trans hl
  have Y := vx_rebase X (R' := { frames := R.frames, locals := R.locals, cells := 1, slots := 6 }) (Nat.le_refl _) (Nat.le_refl _) hRcells hRslots
  obtain ⟨s', hA⟩ : ∃ z, z = (T.setVm s.vm).setFrames (.invoking m args :: below) := ⟨_, rfl⟩
  rw [← hA] at Y
  have hvm : s'.vm = s.vm := by rw [hA]; rfl
  have hhp : s'.heap = H := by rw [hA]; exact hT
  have hW0 : s.WarmedH s'.vm := by rw [hvm]; exact State.WarmedH.refl s
  have hat' : ∀ w ∈ vx_at0 own ic cls names, w.before args s' = true := fun w hw => vx_ot_at hW0 hvm.symm (hgood w (List.mem_cons_of_mem _ (List.mem_cons_of_mem _ hw))) (hat w hw)
  have hk' : (Cond.classLink own ik cls).before args s' = true := vx_ot_at hW0 hvm.symm (hgood _ List.mem_cons_self) hk
  have hini' : (Cond.initialized cls).before args s' = true := vx_ot_at hW0 hvm.symm (hgood _ (List.mem_cons_of_mem _ List.mem_cons_self)) hini
  have hU' : vx_Zq Bundle.tN "UNASSIGNED_STACK" Bundle.steD A s' s'.heap := by rw [hhp]; exact vx_Zq.moved hW0.alike (hU.kept hS.2.1)
  have hN' : vx_Zq Bundle.tN "SUPPRESSED_SENTINEL" Bundle.listD A s' s'.heap := by rw [hhp]; exact vx_Zq.moved hW0.alike (hN.kept hS.2.1)
  have h : ∀ w ∈ Bundle.ownAtoms0 own ic cls names, w.before args s' = true := vx_own hat' (vx_isRefq hU'.1) (vx_isRefq hN'.1) hU'.2.word hN'.2.word
  have hown' : s'.vm.findClass own = some m.cls := by rw [hvm]; exact hown
  have hins : (Cond.instantiable cls 6).before args s' = true := h _ (by simp [Bundle.ownAtoms0])
  obtain ⟨vm₁, cX, kX, hfX, hkX, -, -, X₁, st1⟩ := Y.newCold hexec (own := own) (C := cls) (index := ik) (n := 6) hown' hk' hins hini'
    (g := F0 m pc ls rest) rfl (by rw [hb]; exact d0) (Nat.le_refl _) (Nat.le_refl _)
  generalize hT1 : (T.setVm vm₁).pushCell { cls := cX, slots := kX.instanceTypes.map defaultValue, vm := .none } = T1 at X₁ st1
  have hcat : (Value.ref T.heap.size).category = 1 := rfl
  have hcellA : T1.heap[T.heap.size]? = some (freshCell cX kX) := by rw [← hT1]; exact State.heap_pushCell_size _ _
  have d3' : decode c.code (pc + 3) = .ok (.dup, 1) := by rw [hb]; exact d3
  obtain ⟨U, hsteps, hrun, hend, hW, hsame, ce, hce, hO⟩ := X₁.ctorThrow0 hexec htr (own := own) (cls := cls) (names := names) (ic := ic) hown' hcls hnames h (fun x hx => nomatch hx) hfX hkX hcellA (by rw [hhp, hT]; exact Nat.le_refl _)
    (g := { method := m, pc := pc + 4, locals := ls, stack := .ref T.heap.size :: .ref T.heap.size :: rest, locked := none }) rfl hsize rfl rfl (rest := rest) rfl
    (by rw [hb]; exact d4) (by rw [hb]; exact d7) hout hRframes (by simp only [List.map_cons, List.sum_cons, hcat]; omega) hlocks
  obtain ⟨f1, f2⟩ := vx_frame hsame
  rw [hhp] at f1 f2
  have hWs : s.WarmedH U.vm := State.WarmedH.trans hW0 hW
  have hcl : s.vm.findClass cls = some ce.cls := by
    have h9 := hO.cls
    rw [hvm] at h9
    exact h9
  have hall : s.sameButNew ({ U with vm := s.vm } : State) locs mc ms := by
    subst hA
    obtain ⟨e1, e2⟩ := hsame
    rw [State.setFrames_setFrames] at e1
    have h2 : (T.setVm s.vm).sameButNew ({ U with vm := s.vm } : State) [] (0 + 1) (0 + 6) := ⟨e1, e2⟩
    have h3 := X.same.trans h2
    rw [List.append_nil] at h3
    exact h3.mono hc hs
  refine ⟨U, ?_, .threw T.heap.size, hrun, hend, Or.inr ⟨T.heap.size, rfl, cls, ce, locs, hx U hWs.alike f1 (fun q hq => f2 q hq (fun z hz => nomatch hz)), hce, hO.vm, hcl, hWs, hall, hf⟩⟩
  refine st1 _ ?_
  show Steps p.tables e below (T1.setTop { method := m, pc := pc + 3, locals := ls, stack := .ref T.heap.size :: rest, locked := none }) _
  jvm_step X₁.here [X₁.here.top, hexec, d3', Value.category]
  exact hsteps
/-- 'throw new E("text")': new; dup; ldc; invokespecial; athrow -/
theorem vx_throwS {cc : ByteArray} {pc : Nat} (hexec : p.tables.exec = Jvm.exec) (hb : c.code = cc) (hl : l.stackTraces = false) {own cls text : String} {names : List String} {ik is ic mc ms sa : Nat} {A : Nat → Prop}
    (hown : s.vm.findClass own = some m.cls) (hcls : Bundle.fit cls = true) (hnames : ∀ n ∈ names, Bundle.fit n = true)
    (hk : (Cond.classLink own ik cls).before args s = true) (hini : (Cond.initialized cls).before args s = true) (hstr : vk_R own is text sa s) (hat : ∀ w ∈ vx_atS own ic cls names, w.before args s = true)
    (hgood : ∀ w ∈ Cond.classLink own ik cls :: Cond.initialized cls :: vx_atS own ic cls names, vx_ot w = true)
    (hU : vx_Zq Bundle.tN "UNASSIGNED_STACK" Bundle.steD A s s.heap) (hN : vx_Zq Bundle.tN "SUPPRESSED_SENTINEL" Bundle.listD A s s.heap) (hS : va_S A s.heap H locs) (hsize : ls.size = c.maxLocals)
    (d0 : decode cc pc = .ok (.new ik, 3)) (d3 : decode cc (pc + 3) = .ok (.dup, 1)) (d4 : decode cc (pc + 4) = .ok (.ldc is, 2)) (d6 : decode cc (pc + 6) = .ok (.invokespecial ic, 3)) (d9 : decode cc (pc + 9) = .ok (.athrow, 1))
    (hout : ∀ x ∈ c.exceptionTable.toList, covers x (pc + 9) = false)
    (hRframes : names.length + 3 < R.frames) (hRlocals : (rest.map fun v => v.category).sum + (13 * (names.length + 1) + 43) ≤ R.locals) (hRcells : cells + 1 ≤ R.cells) (hRslots : slots + 6 ≤ R.slots) (hlocks : meth.locks = false)
    (hx : ∀ t : State, s.vm.Alike t.vm → H.size ≤ t.heap.size → (∀ q : Nat, q < H.size → t.heap[q]? = H[q]?) → XC cls s t)
    (hf : ∀ z ∈ locs, free z.base) (hc : cells + 1 ≤ mc) (hs : slots + 6 ≤ ms) :
    W p l e R s m args below meth c H locs cells slots (vx_MQ below Qc XC args s mc ms free) (F0 m pc ls rest) := by
  intro T hT X
  have htr : e.platform.stackTraces = false := (show e.platform.stackTraces = l.stackTraces by rw [X.admits.platform]).trans hl
  have Y := vx_rebase X (R' := { frames := R.frames, locals := R.locals, cells := 1, slots := 6 }) (Nat.le_refl _) (Nat.le_refl _) hRcells hRslots
  obtain ⟨s', hA⟩ : ∃ z, z = (T.setVm s.vm).setFrames (.invoking m args :: below) := ⟨_, rfl⟩
  rw [← hA] at Y
  have hvm : s'.vm = s.vm := by rw [hA]; rfl
  have hhp : s'.heap = H := by rw [hA]; exact hT
  have hW0 : s.WarmedH s'.vm := by rw [hvm]; exact State.WarmedH.refl s
  have hat' : ∀ w ∈ vx_atS own ic cls names, w.before args s' = true := fun w hw => vx_ot_at hW0 hvm.symm (hgood w (List.mem_cons_of_mem _ (List.mem_cons_of_mem _ hw))) (hat w hw)
  have hk' : (Cond.classLink own ik cls).before args s' = true := vx_ot_at hW0 hvm.symm (hgood _ List.mem_cons_self) hk
  have hini' : (Cond.initialized cls).before args s' = true := vx_ot_at hW0 hvm.symm (hgood _ (List.mem_cons_of_mem _ List.mem_cons_self)) hini
  have hU' : vx_Zq Bundle.tN "UNASSIGNED_STACK" Bundle.steD A s' s'.heap := by rw [hhp]; exact vx_Zq.moved hW0.alike (hU.kept hS.2.1)
  have hN' : vx_Zq Bundle.tN "SUPPRESSED_SENTINEL" Bundle.listD A s' s'.heap := by rw [hhp]; exact vx_Zq.moved hW0.alike (hN.kept hS.2.1)
  have h : ∀ w ∈ Bundle.ownAtoms own ic cls names, w.before args s' = true := vx_own hat' (vx_isRefq hU'.1) (vx_isRefq hN'.1) hU'.2.word hN'.2.word
  have hown' : s'.vm.findClass own = some m.cls := by rw [hvm]; exact hown
  have hins : (Cond.instantiable cls 6).before args s' = true := h _ (by simp [Bundle.ownAtoms])
  obtain ⟨vm₁, cX, kX, hfX, hkX, -, -, X₁, st1⟩ := Y.newCold hexec (own := own) (C := cls) (index := ik) (n := 6) hown' hk' hins hini'
    (g := F0 m pc ls rest) rfl (by rw [hb]; exact d0) (Nat.le_refl _) (Nat.le_refl _)
  generalize hT1 : (T.setVm vm₁).pushCell { cls := cX, slots := kX.instanceTypes.map defaultValue, vm := .none } = T1 at X₁ st1
  have hcat : (Value.ref T.heap.size).category = 1 := rfl
  have hcellA : T1.heap[T.heap.size]? = some (freshCell cX kX) := by rw [← hT1]; exact State.heap_pushCell_size _ _
  have d3' : decode c.code (pc + 3) = .ok (.dup, 1) := by rw [hb]; exact d3
  have d4' : decode c.code (pc + 4) = .ok (.ldc is, 2) := by rw [hb]; exact d4
  have hstr' : vk_R own is text sa s' := vk_R.warm hW0 hstr
  obtain ⟨U, hsteps, hrun, hend, hW, hsame, ce, hce, hO⟩ := X₁.ctorThrowS hexec htr (own := own) (cls := cls) (names := names) (ic := ic) hown' hcls hnames h (fun x hx => nomatch hx) hfX hkX hcellA (by rw [hhp, hT]; exact Nat.le_refl _) (msg := .ref sa) rfl
    (g := { method := m, pc := pc + 6, locals := ls, stack := .ref sa :: .ref T.heap.size :: .ref T.heap.size :: rest, locked := none }) rfl hsize rfl rfl (rest := rest) rfl
    (by rw [hb]; exact d6) (by rw [hb]; exact d9) hout hRframes (by simp only [List.map_cons, List.sum_cons, hcat]; omega) hlocks
  obtain ⟨f1, f2⟩ := vx_frame hsame
  rw [hhp] at f1 f2
  have hWs : s.WarmedH U.vm := State.WarmedH.trans hW0 hW
  have hcl : s.vm.findClass cls = some ce.cls := by
    have h9 := hO.cls
    rw [hvm] at h9
    exact h9
  have hall : s.sameButNew ({ U with vm := s.vm } : State) locs mc ms := by
    subst hA
    obtain ⟨e1, e2⟩ := hsame
    rw [State.setFrames_setFrames] at e1
    have h2 : (T.setVm s.vm).sameButNew ({ U with vm := s.vm } : State) [] (0 + 1) (0 + 6) := ⟨e1, e2⟩
    have h3 := X.same.trans h2
    rw [List.append_nil] at h3
    exact h3.mono hc hs
  refine ⟨U, ?_, .threw T.heap.size, hrun, hend, Or.inr ⟨T.heap.size, rfl, cls, ce, locs, hx U hWs.alike f1 (fun q hq => f2 q hq (fun z hz => nomatch hz)), hce, hO.vm, hcl, hWs, hall, hf⟩⟩
  refine st1 _ ?_
  show Steps p.tables e below (T1.setTop { method := m, pc := pc + 3, locals := ls, stack := .ref T.heap.size :: rest, locked := none }) _
  jvm_step X₁.here [X₁.here.top, hexec, d3', Value.category]
  exact X₁.ldcString hexec (own := own) (text := text) (index := is) (a := sa) hown' hstr'.1 hstr'.2
    (g := { method := m, pc := pc + 4, locals := ls, stack := .ref T.heap.size :: .ref T.heap.size :: rest, locked := none }) rfl d4' _ hsteps
/-- 'throw new E("text")', the text by a wide index -/
theorem vx_throwSW {cc : ByteArray} {pc : Nat} (hexec : p.tables.exec = Jvm.exec) (hb : c.code = cc) (hl : l.stackTraces = false) {own cls text : String} {names : List String} {ik is ic mc ms sa : Nat} {A : Nat → Prop}
    (hown : s.vm.findClass own = some m.cls) (hcls : Bundle.fit cls = true) (hnames : ∀ n ∈ names, Bundle.fit n = true)
    (hk : (Cond.classLink own ik cls).before args s = true) (hini : (Cond.initialized cls).before args s = true) (hstr : vk_R own is text sa s) (hat : ∀ w ∈ vx_atS own ic cls names, w.before args s = true)
    (hgood : ∀ w ∈ Cond.classLink own ik cls :: Cond.initialized cls :: vx_atS own ic cls names, vx_ot w = true)
    (hU : vx_Zq Bundle.tN "UNASSIGNED_STACK" Bundle.steD A s s.heap) (hN : vx_Zq Bundle.tN "SUPPRESSED_SENTINEL" Bundle.listD A s s.heap) (hS : va_S A s.heap H locs) (hsize : ls.size = c.maxLocals)
    (d0 : decode cc pc = .ok (.new ik, 3)) (d3 : decode cc (pc + 3) = .ok (.dup, 1)) (d4 : decode cc (pc + 4) = .ok (.ldc_w is, 3)) (d7 : decode cc (pc + 7) = .ok (.invokespecial ic, 3)) (d10 : decode cc (pc + 10) = .ok (.athrow, 1))
    (hout : ∀ x ∈ c.exceptionTable.toList, covers x (pc + 10) = false)
    (hRframes : names.length + 3 < R.frames) (hRlocals : (rest.map fun v => v.category).sum + (13 * (names.length + 1) + 43) ≤ R.locals) (hRcells : cells + 1 ≤ R.cells) (hRslots : slots + 6 ≤ R.slots) (hlocks : meth.locks = false)
    (hx : ∀ t : State, s.vm.Alike t.vm → H.size ≤ t.heap.size → (∀ q : Nat, q < H.size → t.heap[q]? = H[q]?) → XC cls s t)
    (hf : ∀ z ∈ locs, free z.base) (hc : cells + 1 ≤ mc) (hs : slots + 6 ≤ ms) :
    W p l e R s m args below meth c H locs cells slots (vx_MQ below Qc XC args s mc ms free) (F0 m pc ls rest) := by
  intro T hT X
  have htr : e.platform.stackTraces = false := (show e.platform.stackTraces = l.stackTraces by rw [X.admits.platform]).trans hl
  have Y := vx_rebase X (R' := { frames := R.frames, locals := R.locals, cells := 1, slots := 6 }) (Nat.le_refl _) (Nat.le_refl _) hRcells hRslots
  obtain ⟨s', hA⟩ : ∃ z, z = (T.setVm s.vm).setFrames (.invoking m args :: below) := ⟨_, rfl⟩
  rw [← hA] at Y
  have hvm : s'.vm = s.vm := by rw [hA]; rfl
  have hhp : s'.heap = H := by rw [hA]; exact hT
  have hW0 : s.WarmedH s'.vm := by rw [hvm]; exact State.WarmedH.refl s
  have hat' : ∀ w ∈ vx_atS own ic cls names, w.before args s' = true := fun w hw => vx_ot_at hW0 hvm.symm (hgood w (List.mem_cons_of_mem _ (List.mem_cons_of_mem _ hw))) (hat w hw)
  have hk' : (Cond.classLink own ik cls).before args s' = true := vx_ot_at hW0 hvm.symm (hgood _ List.mem_cons_self) hk
  have hini' : (Cond.initialized cls).before args s' = true := vx_ot_at hW0 hvm.symm (hgood _ (List.mem_cons_of_mem _ List.mem_cons_self)) hini
  have hU' : vx_Zq Bundle.tN "UNASSIGNED_STACK" Bundle.steD A s' s'.heap := by rw [hhp]; exact vx_Zq.moved hW0.alike (hU.kept hS.2.1)
  have hN' : vx_Zq Bundle.tN "SUPPRESSED_SENTINEL" Bundle.listD A s' s'.heap := by rw [hhp]; exact vx_Zq.moved hW0.alike (hN.kept hS.2.1)
  have h : ∀ w ∈ Bundle.ownAtoms own ic cls names, w.before args s' = true := vx_own hat' (vx_isRefq hU'.1) (vx_isRefq hN'.1) hU'.2.word hN'.2.word
  have hown' : s'.vm.findClass own = some m.cls := by rw [hvm]; exact hown
  have hins : (Cond.instantiable cls 6).before args s' = true := h _ (by simp [Bundle.ownAtoms])
  obtain ⟨vm₁, cX, kX, hfX, hkX, -, -, X₁, st1⟩ := Y.newCold hexec (own := own) (C := cls) (index := ik) (n := 6) hown' hk' hins hini'
    (g := F0 m pc ls rest) rfl (by rw [hb]; exact d0) (Nat.le_refl _) (Nat.le_refl _)
  generalize hT1 : (T.setVm vm₁).pushCell { cls := cX, slots := kX.instanceTypes.map defaultValue, vm := .none } = T1 at X₁ st1
  have hcat : (Value.ref T.heap.size).category = 1 := rfl
  have hcellA : T1.heap[T.heap.size]? = some (freshCell cX kX) := by rw [← hT1]; exact State.heap_pushCell_size _ _
  have d3' : decode c.code (pc + 3) = .ok (.dup, 1) := by rw [hb]; exact d3
  have d4' : decode c.code (pc + 4) = .ok (.ldc_w is, 3) := by rw [hb]; exact d4
  have hstr' : vk_R own is text sa s' := vk_R.warm hW0 hstr
  obtain ⟨U, hsteps, hrun, hend, hW, hsame, ce, hce, hO⟩ := X₁.ctorThrowS hexec htr (own := own) (cls := cls) (names := names) (ic := ic) hown' hcls hnames h (fun x hx => nomatch hx) hfX hkX hcellA (by rw [hhp, hT]; exact Nat.le_refl _) (msg := .ref sa) rfl
    (g := { method := m, pc := pc + 7, locals := ls, stack := .ref sa :: .ref T.heap.size :: .ref T.heap.size :: rest, locked := none }) rfl hsize rfl rfl (rest := rest) rfl
    (by rw [hb]; exact d7) (by rw [hb]; exact d10) hout hRframes (by simp only [List.map_cons, List.sum_cons, hcat]; omega) hlocks
  obtain ⟨f1, f2⟩ := vx_frame hsame
  rw [hhp] at f1 f2
  have hWs : s.WarmedH U.vm := State.WarmedH.trans hW0 hW
  have hcl : s.vm.findClass cls = some ce.cls := by
    have h9 := hO.cls
    rw [hvm] at h9
    exact h9
  have hall : s.sameButNew ({ U with vm := s.vm } : State) locs mc ms := by
    subst hA
    obtain ⟨e1, e2⟩ := hsame
    rw [State.setFrames_setFrames] at e1
    have h2 : (T.setVm s.vm).sameButNew ({ U with vm := s.vm } : State) [] (0 + 1) (0 + 6) := ⟨e1, e2⟩
    have h3 := X.same.trans h2
    rw [List.append_nil] at h3
    exact h3.mono hc hs
  refine ⟨U, ?_, .threw T.heap.size, hrun, hend, Or.inr ⟨T.heap.size, rfl, cls, ce, locs, hx U hWs.alike f1 (fun q hq => f2 q hq (fun z hz => nomatch hz)), hce, hO.vm, hcl, hWs, hall, hf⟩⟩
  refine st1 _ ?_
  show Steps p.tables e below (T1.setTop { method := m, pc := pc + 3, locals := ls, stack := .ref T.heap.size :: rest, locked := none }) _
  jvm_step X₁.here [X₁.here.top, hexec, d3', Value.category]
  exact X₁.ldcStringW hexec (own := own) (text := text) (index := is) (a := sa) hown' hstr'.1 hstr'.2
    (g := { method := m, pc := pc + 4, locals := ls, stack := .ref T.heap.size :: .ref T.heap.size :: rest, locked := none }) rfl d4' _ hsteps
end Ends
section Bodies
variable {l : Launch}
theorem vx_ofW {y : MethodName} {ws ws' : List Cond} {rm : Room} {Pc : Array Value → State → Prop} {Qc : Array Value → State → Outcome → State → Prop} {XC : String → State → State → Prop} {mc ms : Nat} {free : Addr → Prop} {cc : ByteArray} {maxL : Nat} {ret : Option FieldType}
    (hy : plainName y.cls = true) (hw : ws = Cond.code y cc maxL ret :: ws')
    (body : ∀ p e s m args below meth c s₁, BodyLoose p l y (headSpec ws rm) cc maxL ret e s m args below meth c s₁ → c.maxLocals = maxL → (∀ x ∈ c.exceptionTable.toList, False) → Pc args s →
      W p l e (headSpec ws rm).room s m args below meth c s.heap [] 0 0 (vx_MQ below Qc XC args s mc ms free) (entryFrame m args maxL)) : vx_Met l y ws rm Pc Qc XC mc ms free := by
  refine MetFree.of_bodyS (code := cc) (maxLocals := maxL) (ret := ret) hy ?_ ?_
  · intro args s m h hn
    obtain ⟨meth, c, h1, h2, h3, h4, h5, h6, -, -⟩ := Cond.code_spec hn (atoms_spec (ws := ws) h _ (by rw [hw]; exact List.mem_cons_self))
    exact ⟨meth, c, h1, h2, h3, h4, h5, h6⟩
  · intro p e s m args below meth c s₁ B hml hP _
    have hh0 : s₁.heap = s.heap := by rw [B.state]; rfl
    have ht : ∀ x ∈ c.exceptionTable.toList, False := by
      obtain ⟨meth9, c9, h1, h2, -, -, -, -, h7, -⟩ := Cond.code_spec B.named (atoms_spec (ws := ws) B.pre _ (by rw [hw]; exact List.mem_cons_self))
      cases Option.some.inj (h1.symm.trans B.method)
      cases Option.some.inj (h2.symm.trans (Stand.of_body B).code)
      intro x hx
      rw [Array.isEmpty_iff.mp h7] at hx
      cases hx
    obtain ⟨t, a1, o, b1, b2, b3⟩ := body p e s m args below meth c s₁ B hml ht hP s₁ hh0 (Stand.of_body B)
    exact ⟨t, o, a1, b1, b2, b3⟩
/-- the table of a body with handlers -/
theorem vx_table {p : Program} {x y : MethodName} {S : Spec} {cc bytes : ByteArray} {maxL maxL' : Nat} {ret ret' : Option FieldType} {e : Env} {s s₁ : State} {m : MethodId} {args : Array Value} {below : List Frame} {meth : Method} {c : Code} {hh : List (Nat × Nat × Nat × Nat)}
    (B : BodyLoose p l y S cc maxL ret e s m args below meth c s₁) (h : (Cond.codeWith y bytes maxL' ret' hh).before args s = true) : c.exceptionTable.toList = tableOf hh := by
  obtain ⟨m9, meth9, c9, hn9, h1, h2, -, -, h6, -⟩ := Cond.codeWith_spec h
  cases Option.some.inj (hn9.symm.trans B.named)
  cases Option.some.inj (h1.symm.trans B.method)
  cases Option.some.inj (h2.symm.trans (Stand.of_body B).code)
  rw [← h6, table_eq]
end Bodies
end VXA
/-! ===== END ===== -/
/-! ===== BEGIN a static call of a method with an exception table ===== -/
section VXS
variable {p : Program} {l : Launch} {e : Env} {R : Room} {s : State} {m : MethodId} {args : Array Value} {below : List Frame} {meth : Method} {c : Code} {T : State} {H : Heap} {locs : List Loc} {cells slots : Nat}
abbrev vx_CSW (R : Room) (s : State) (args : Array Value) (own : String) (index : Nat) (y : MethodName) (bytes : ByteArray) (maxL : Nat) (ret : Option FieldType) (hh : List (Nat × Nat × Nat × Nat)) (ws : List Cond) (rm : Room) (mc ms n : Nat) : Prop :=
  (rm.cells = mc ∧ rm.slots = ms ∧ rm.frames + 1 ≤ R.frames ∧ 8 + (maxL + 11) + rm.locals ≤ R.locals ∧ (∀ w ∈ ws, ∀ (a' : Array Value) (U : State), s.WarmedH U.vm → w.before a' U = true) ∧ Cond.codeWith y bytes maxL ret hh ∈ ws) ∧
  (Cond.codeWith y bytes maxL ret hh).before args s = true ∧ (Cond.initialized y.cls).before args s = true ∧ (y.cls ≠ "java/lang/invoke/MethodHandle" ∧ y.cls ≠ "java/lang/invoke/VarHandle") ∧
  (∀ sig, parseMethodDescriptor y.desc = some sig → n = sig.parameters.length) ∧ (Cond.methodLink own index y).before args s = true ∧ (Cond.static y).before args s = true
theorem vx_cwSW {own : String} {index maxL mc ms : Nat} {y : MethodName} {bytes : ByteArray} {ret : Option FieldType} {hh : List (Nat × Nat × Nat × Nat)} {Ts ws ws' : List Cond} {rm : Room} (n : Nat) (ht : ∀ w ∈ Ts, w.before args s = true) (hT : GoodIn Ts (va_wsS own index y ws)) (hw : ws = Cond.codeWith y bytes maxL ret hh :: ws') (hrc : rm.cells = mc) (hrs : rm.slots = ms)
    (hd : y.cls ≠ "java/lang/invoke/MethodHandle" ∧ y.cls ≠ "java/lang/invoke/VarHandle" ∧ (parseMethodDescriptor y.desc).map (fun d => d.parameters.length) = some n) (hR : rm.frames + 1 ≤ R.frames ∧ 8 + (maxL + 11) + rm.locals ≤ R.locals) :
    vx_CSW R s args own index y bytes maxL ret hh ws rm mc ms n := by
  have ok : ∀ w ∈ va_wsS own index y ws, w.before args s = true := fun w h => ht w (hT w h).1
  have hG : GoodIn Ts ws := fun w h => hT w (by unfold va_wsS; exact List.mem_append_right _ h)
  have hc : Cond.codeWith y bytes maxL ret hh ∈ ws := by rw [hw]; exact List.mem_cons_self
  refine ⟨⟨hrc, hrs, hR.1, hR.2, pay_in ht hG, hc⟩, ht _ (hG _ hc).1, ok _ (by simp [va_wsS]), ⟨hd.1, hd.2.1⟩, fun sig h => ?_, ok _ (by simp [va_wsS]), ok _ (by simp [va_wsS])⟩
  have h2 := hd.2.2
  rw [h] at h2
  exact (Option.some.inj h2).symm
theorem vx_callSW (X : Stand p l e R s m args below meth c T locs cells slots) (hexec : p.tables.exec = Jvm.exec) {own : String} {index : Nat} {y : MethodName} {bytes : ByteArray} {maxL : Nat} {ret : Option FieldType} {hh : List (Nat × Nat × Nat × Nat)}
    (hown : s.vm.findClass own = some m.cls) (hlink : (Cond.methodLink own index y).before args s = true) (hstat : (Cond.static y).before args s = true) (hinit : (Cond.initialized y.cls).before args s = true)
    (hcode : (Cond.codeWith y bytes maxL ret hh).before args s = true) (hy : y.cls ≠ "java/lang/invoke/MethodHandle" ∧ y.cls ≠ "java/lang/invoke/VarHandle")
    {W9 : Nat} {Pre : Pt → Array Value → Prop} {Post : Pt → Array Value → Option Value → Pt → Prop} (hK : Back l R p e below s args y 3 W9 Pre Post)
    {g : JFrame} (hg : g.method = m) (hsize : g.locals.size = c.maxLocals) {argsL rest : List Value} (hlen : ∀ sig, parseMethodDescriptor y.desc = some sig → argsL.length = sig.parameters.length)
    (hstack : g.stack = argsL.reverse ++ rest) (hW : 2 * g.monitorRoom + (rest.map fun v => v.category).sum ≤ W9) (hdg : decode c.code g.pc = .ok (.invokestatic index, 3))
    (hpre : ∀ vm₁, s.WarmedH vm₁ → Pre ⟨T.setVm vm₁, locs, cells, slots⟩ argsL.toArray) :
    ∃ (v : Option Value) (vm₁ : Vm) (B : Pt), s.WarmedH vm₁ ∧ Stand p l e R s m args below meth c B.U B.locs B.cells B.slots ∧ Post ⟨T.setVm vm₁, locs, cells, slots⟩ argsL.toArray v B ∧
      ∀ target, Steps p.tables e below (B.U.setTop { g with pc := g.pc + 3, stack := v.toList ++ rest }) target → Steps p.tables e below (T.setTop g) target := by
  obtain ⟨mk, methM, cM, hnamed, hmethM, -, -, -, -, -, -, hsigM⟩ := Cond.codeWith_spec hcode
  have hstatic : methM.isStatic = true := Cond.static_spec hnamed hmethM hstat
  obtain ⟨kP, hkP, -⟩ := className_of_methodNamed hnamed
  have hinitP : kP.init = .initialized := Cond.initialized_spec (findClass_of_methodNamed hnamed) hkP hinit
  obtain ⟨vm₁, X₁, hstep₁⟩ := X.invokestatic hexec hown hlink hnamed hmethM hstatic hkP hinitP hy (g := g) hg (argsL := argsL) (rest := rest) (hlen _ hsigM) hstack hdg
  obtain ⟨v, B, X', hpost, hsteps⟩ := hK m meth c ⟨T.setVm vm₁, locs, cells, slots⟩ { g with stack := rest } (.invokestatic index) mk argsL.toArray X₁ hg hsize hdg hW (X₁.named hnamed) (hpre vm₁ X₁.warmed)
  exact ⟨v, vm₁, B, X₁.warmed, X', hpost, fun target h => hstep₁ _ fun acts => by rw [doInvoke_state]; exact hsteps.trans h⟩
theorem vx_runSW {y : MethodName} {bytes cc : ByteArray} {maxL nL mc ms n index : Nat} {ret : Option FieldType} {hh : List (Nat × Nat × Nat × Nat)} {ws : List Cond} {rm : Room} {Pc : Array Value → State → Prop} {Qc : Array Value → State → Outcome → State → Prop} {free : Addr → Prop} {Ts : List Cond} {own : String} {As rest : List Value} {g : JFrame}
    (S : CallFix p m c cc nL s args Ts own) (hM : Met l y ws rm Pc Qc mc ms free) (cw : vx_CSW R s args own index y bytes maxL ret hh ws rm mc ms n) (hp : PreS s H Pc As)
    (hg : g.method = m) (hn : As.length = n) (hsize : g.locals.size = nL) (hstack : g.stack = As.reverse ++ rest) (hW : 2 * g.monitorRoom + (rest.map fun v => v.category).sum ≤ 8) (hdg : decode cc g.pc = .ok (.invokestatic index, 3)) (hf : cells + mc ≤ R.cells ∧ slots + ms ≤ R.slots) :
    va_Run p l e R s m args below meth c H locs cells slots mc ms g rest (Qc As.toArray) (free) := by
  obtain ⟨⟨hrc, hrs, hfr, hlo, hws, hcw⟩, hcode, hini, hy, hlen, hl, hstt⟩ := cw
  have hK : Back l R p e below s args y 3 8 (PreOf R mc ms Pc) (PostOf Qc mc ms free) := va_backW (hh := hh) (bytes := bytes) (maxL := maxL) (ret := ret) hM hp.1 hrc hrs hfr hlo hws hcw (fun a' U hW => word_at hW (Or.inl (by first | rfl | simp [Cond.onTables, Cond.keeps, Cond.steady])) hini)
  obtain ⟨hx, hb, hml, ho, -⟩ := S
  intro T hT X
  obtain ⟨v, vm₁, ⟨U', l2, c2, s2⟩, hW₁, X', ⟨g', mk, t, L, e1, e2, hq, h1, hL, h2, h3⟩, st⟩ := vx_callSW X hx (hh := hh) (bytes := bytes) (maxL := maxL) (ret := ret) ho hl hstt hini hcode hy hK hg (hsize.trans hml.symm) (argsL := As) (rest := rest) (fun sig h => hn.trans (hlen sig h)) hstack hW (by rw [hb]; exact hdg)
    (fun vm₁ hW₁ => ⟨hf.1, hf.2, hp.2 (T.setVm vm₁) hT hW₁⟩)
  dsimp only [Pt.U, Pt.locs, Pt.cells, Pt.slots] at X' e1 e2 h1 h2 h3 st
  subst h1; subst h2; subst h3
  exact ⟨v, (T.setVm vm₁).calling g' mk As.toArray, t, U', L, hT, X', hL, e1, e2, hq, st⟩
/-- not caught here, past rows that name other classes: it goes on to the caller -/
theorem vx_outP {p : Program} {l : Launch} {e : Env} {R : Room} {s : State} {m : MethodId} {args : Array Value} {below : List Frame} {meth : Method} {c : Code} {H : Heap} {locs : List Loc} {cells slots : Nat} {free : Addr → Prop} {ls : Array Slot} {rest : List Value} {Qc : Array Value → State → Outcome → State → Prop} {XC : String → State → State → Prop}
    {pc : Nat} {own E : String} {ce : Cell} {q : Addr} {mc ms : Nat} (hown : s.vm.findClass own = some m.cls) (hlocks : meth.locks = false)
    (hpass : ∀ z ∈ c.exceptionTable.toList, covers z pc = false ∨ (z.catchType ≠ 0 ∧ ∃ nm : String, (Cond.classLink own z.catchType nm).before args s = true ∧ va_Nc E nm s)) (hcell : H[q]? = some ce) (hv : ce.vm = .none) (hcl : s.vm.findClass E = some ce.cls)
    (hx : ∀ t : State, t.heap = H → s.vm.Alike t.vm → XC E s t) (hf : ∀ z ∈ locs, free z.base) (hc : cells ≤ mc) (hs : slots ≤ ms) :
    vx_W p l e R s m args below meth c H locs cells slots (vx_MQ below Qc XC args s mc ms free) (F0 m pc ls rest) q := by
  intro T hT X
  have hpl : e.platform.magicAccessors = ({} : Platform).magicAccessors := by rw [X.admits.platform]
  obtain ⟨vm', hW', X', st⟩ := X.outThrough hlocks q (g := F0 m pc ls rest) rfl rfl rfl (cell := ce) (by rw [hT]; exact hcell) (by rw [hv]; rfl)
    (by obtain ⟨k9, h9, -⟩ := Vm.findClass_spec hcl; exact ⟨k9, h9⟩) (fun z hz => by
      rcases hpass z hz with h | ⟨hz0, nm, hl1, hn1⟩
      · exact Or.inl h
      · obtain ⟨c6, hc6, hcl6⟩ := Cond.classLink_spec hown hl1 e.platform hpl
        obtain ⟨a8, b8, h1, h2, h3⟩ := hn1
        cases Option.some.inj (h1.symm.trans hcl)
        cases Option.some.inj (h2.symm.trans hc6)
        exact Or.inr ⟨hz0, _, hcl6, h3⟩)
  obtain ⟨g₀, hfr⟩ := X'.frames_eq
  have hcell9 : ((T.setVm vm').setFrames (.throwing q :: below)).heap[q]? = some ce := by
    show T.heap[q]? = some ce
    rw [hT]; exact hcell
  have hend : Ended ((T.setVm vm').setFrames (.throwing q :: below)) below (.threw q) := State.frames_setFrames _ (State.cur_lt_of_frames hfr)
  refine ⟨(T.setVm vm').setFrames (.throwing q :: below), ?_, .threw q, X'.here.running, hend, Or.inr ⟨q, rfl, E, ce, locs, hx _ hT (X'.ends _).1.alike, hcell9, hv, hcl, (X'.ends _).1, (X'.ends _).2.mono hc hs, hf⟩⟩
  rw [X.pushThrowing_eq]
  exact st
/-- a thing of a world lies in the heap -/
theorem vx_lt {D : va_G} {cl : List vw_C} {ws : va_W} {H1 : Heap} (h : va_P D cl ws H1) {k : Nat} {q : Nat × va_E} (hk : ws[k]? = some q) : q.1 < H1.size := (h k q hk).lt
end VXS
/-! ===== END ===== -/
/-! ===== BEGIN methods with a table of their own: called by a name, returning or throwing ===== -/
section VXH
/-! vx_backW, vx_callVX, vx_callSX, vx_callVW, vx_runVW, vx_runVX, vx_runSX, vx_ofWH follow the same proofs as their sisters above (Free/Laws.lean, Shelf42/LK1.lean); vx_outP calls Shelf42/NT130.lean (outThrough). -/
section
variable {l : Launch} {R : Room} {p : Program} {e : Env} {below : List Frame} {s : State} {sargs : Array Value} {y : MethodName} {len W9 : Nat}
theorem vx_backW {ws : List Cond} {rm : Room} {Pc : Array Value → State → Prop} {Qc : Array Value → State → Outcome → State → Prop} {XC : String → State → State → Prop} {mc ms : Nat} {free : Addr → Prop} {bytes : ByteArray} {maxL : Nat} {ret : Option FieldType} {hh : List (Nat × Nat × Nat × Nat)}
    (hM : vx_Met l y ws rm Pc Qc XC mc ms free) (hblind : FrameBlind Pc) (hrc : rm.cells = mc) (hrs : rm.slots = ms)
    (hframes : rm.frames + 1 ≤ R.frames) (hlocals : W9 + (maxL + 11) + rm.locals ≤ R.locals)
    (hws : ∀ w ∈ ws, ∀ a' U, s.WarmedH U.vm → w.before a' U = true) (hcode : Cond.codeWith y bytes maxL ret hh ∈ ws) (hinit : ∀ a' U, s.WarmedH U.vm → (Cond.initialized y.cls).before a' U = true) :
    vx_Back l R p e below s sargs y len W9 (PreOf R mc ms Pc) (PostOf Qc mc ms free) (vx_Post XC mc ms free) := by
  intro m meth c A g ig mk a X hg hsize hdg hW hn hp
  have h1 : (headSpec ws rm).pre.before a A.U = true := atoms_intro fun w hw => hws w hw _ _ X.warmed
  have h2 : (Cond.codeWith y bytes maxL ret hh).before a A.U = true := hws _ hcode _ _ X.warmed
  have h3 : (Cond.initialized y.cls).before a A.U = true := hinit _ _ X.warmed
  have h4 : A.cells + (headSpec ws rm).room.cells ≤ R.cells := by rw [show (headSpec ws rm).room.cells = mc from hrc]; exact hp.1
  have h5 : A.slots + (headSpec ws rm).room.slots ≤ R.slots := by rw [show (headSpec ws rm).room.slots = ms from hrs]; exact hp.2.1
  have hPc : Pc a (A.U.calling g mk a) := hblind _ _ _ _ hp.2.2
  obtain ⟨U, Ls, c0, s0⟩ := A
  dsimp only [Pt.U, Pt.locs, Pt.cells, Pt.slots] at h1 h2 h3 h4 h5 X hn hPc ⊢
  obtain ⟨m9, methY, cY, hn9, hmY, hcY, -, hlY, -⟩ := Cond.codeWith_spec h2
  cases Option.some.inj (hn9.symm.trans hn)
  obtain ⟨kY, hkY, -⟩ := className_of_methodNamed hn
  have hinitY : kY.init = .initialized := Cond.initialized_spec (findClass_of_methodNamed hn) hkY h3
  have h : At U g.method c below := by rw [hg]; exact X.here
  have hlocals9 : W9 + (maxL + 11) + (headSpec ws rm).room.locals ≤ R.locals := hlocals
  have happ : (headSpec ws rm).appliesLoose y e.platform (U.calling g mk a) = true :=
    Spec.appliesLoose_calling (g := g) h hdg hn hkY hinitY
      (X.room_calling (g := g) (R' := (headSpec ws rm).room) hsize hmY hcY hframes (by rw [hlY]; omega) h4 h5) h1
  obtain ⟨mid, hmid⟩ := h.above
  have hfr : (U.setTop g).frames = (.java g :: mid) ++ below := by rw [State.frames_setTop' g h.top, hmid]; rfl
  obtain ⟨o, s₂, hsteps, -, hend, hq⟩ := Steps.callFree hM p X.admits X.cas X.clock (acts := []) hfr happ hPc trivial
  have hq' : vx_Q Qc XC mc ms free a (U.calling g mk a) o s₂ := hq
  rw [State.frames_setTop' g h.top] at hend
  obtain ⟨g₀, hg0⟩ := Option.isSome_iff_exists.mp h.top
  obtain ⟨r, hr⟩ := State.topJava?_eq_some.mp hg0
  have hr' : (({ U with heap := s₂.heap, slotsUsed := s₂.slotsUsed } : State).setVm s₂.vm).frames = .java g₀ :: r := hr
  rcases hq' with ⟨hqc, L, hfe, hL⟩ | ⟨q, rfl, E, ce, L, hx, hce, hcv, hcl, hW₂, hsm, hL⟩
  · obtain ⟨⟨v, rfl⟩, hW₂, e2, q2, q3, q4, q5, q6⟩ := id hfe
    have e3 : s₂ = ({ (U.calling g mk a).setFrames s₂.frames with heap := s₂.heap, slotsUsed := s₂.slotsUsed } : State).setVm s₂.vm := by
      have : s₂ = ({ s₂ with vm := (U.calling g mk a).vm } : State).setVm s₂.vm := rfl
      rw [e2] at this
      exact this
    obtain ⟨c₂, i₂, len₂, hc₂, hd₂, hf₂⟩ := hend
    have hW' : U.WarmedH s₂.vm := hW₂
    have hcc : c₂ = c := by
      have h1 : s₂.code? g.method = U.code? g.method := by
        rw [State.code?_eq, State.code?_eq, hW'.alike.method?]
      exact Option.some.inj (hc₂.symm.trans (h1.trans h.code))
    subst hcc
    have hlen : len₂ = len := by rw [hdg] at hd₂; cases hd₂; rfl
    subst hlen
    have hs₂ : s₂ = (({ U with heap := s₂.heap, slotsUsed := s₂.slotsUsed } : State).setVm s₂.vm).setTop { g with pc := g.pc + len₂, stack := v.toList ++ g.stack } := by
      refine e3.trans ?_
      rw [hf₂, State.calling_eq h.top, State.setFrames_setFrames, State.setTop_of_frames _ hr', hr]
      rfl
    have hsame : U.sameButNew ({ U with heap := s₂.heap, slotsUsed := s₂.slotsUsed } : State) L mc ms := by
      refine ⟨?_, q2, q3, q4, q5, q6⟩
      obtain ⟨t, ht, -⟩ := State.frames_cons hr
      show ({ U with heap := s₂.heap, slotsUsed := s₂.slotsUsed } : State) = { U.setFrames U.frames with heap := s₂.heap, slotsUsed := s₂.slotsUsed }
      rw [State.setFrames_self ht]
    subst hg
    refine Or.inl ⟨v, ⟨(({ U with heap := s₂.heap, slotsUsed := s₂.slotsUsed } : State).setVm s₂.vm), Ls ++ L, c0 + mc, s0 + ms⟩,
      ⟨X.admits, X.cas, X.clock, X.frames, X.room, X.hears, X.method, X.code, (X.here.setHeapUsed s₂.heap s₂.slotsUsed).setVm hW'.alike, X.tail, State.WarmedH.trans X.warmed hW', X.limits, X.bytes, X.same.trans (hsame.setVm s.vm)⟩,
      ⟨g, mk, s₂, L, rfl, rfl, hqc, rfl, hL, rfl, rfl⟩, ?_⟩
    show Steps p.tables e below _ ((({ U with heap := s₂.heap, slotsUsed := s₂.slotsUsed } : State).setVm s₂.vm).setTop { g with pc := g.pc + len₂, stack := v.toList ++ g.stack })
    rw [← hs₂]
    exact hsteps
  · obtain ⟨e2, q2, q3, q4, q5, q6⟩ := id hsm
    have e3 : s₂ = ({ (U.calling g mk a).setFrames s₂.frames with heap := s₂.heap, slotsUsed := s₂.slotsUsed } : State).setVm s₂.vm := by
      have : s₂ = ({ s₂ with vm := (U.calling g mk a).vm } : State).setVm s₂.vm := rfl
      rw [e2] at this
      exact this
    have hf₂ : s₂.frames = .throwing q :: .java g :: U.frames.tail := hend
    have hW' : U.WarmedH s₂.vm := hW₂
    have hs₂ : s₂ = ((({ U with heap := s₂.heap, slotsUsed := s₂.slotsUsed } : State).setVm s₂.vm).setTop g).pushFrame (.throwing q) := by
      refine e3.trans ?_
      rw [hf₂, State.calling_eq h.top, State.setFrames_setFrames, State.pushFrame, State.frames_setTop _ hr', State.setTop_of_frames _ hr', State.setFrames_setFrames, hr]
      rfl
    have hsame : U.sameButNew ({ U with heap := s₂.heap, slotsUsed := s₂.slotsUsed } : State) L mc ms := by
      refine ⟨?_, q2, q3, q4, q5, q6⟩
      obtain ⟨t, ht, -⟩ := State.frames_cons hr
      show ({ U with heap := s₂.heap, slotsUsed := s₂.slotsUsed } : State) = { U.setFrames U.frames with heap := s₂.heap, slotsUsed := s₂.slotsUsed }
      rw [State.setFrames_self ht]
    subst hg
    refine Or.inr ⟨q, ⟨(({ U with heap := s₂.heap, slotsUsed := s₂.slotsUsed } : State).setVm s₂.vm), Ls ++ L, c0 + mc, s0 + ms⟩,
      ⟨X.admits, X.cas, X.clock, X.frames, X.room, X.hears, X.method, X.code, (X.here.setHeapUsed s₂.heap s₂.slotsUsed).setVm hW'.alike, X.tail, State.WarmedH.trans X.warmed hW', X.limits, X.bytes, X.same.trans (hsame.setVm s.vm)⟩,
      ⟨g, mk, s₂, L, E, ce, rfl, rfl, hx, hce, hcv, hcl, rfl, hL, rfl, rfl⟩, ?_⟩
    show Steps p.tables e below _ (((({ U with heap := s₂.heap, slotsUsed := s₂.slotsUsed } : State).setVm s₂.vm).setTop g).pushFrame (.throwing q))
    rw [← hs₂]
    exact hsteps
end
variable {p : Program} {l : Launch} {e : Env} {R : Room} {s : State} {m : MethodId} {args : Array Value} {below : List Frame} {meth : Method} {c : Code} {T : State} {H : Heap} {locs : List Loc} {cells slots : Nat}
theorem vx_callVX (X : Stand p l e R s m args below meth c T locs cells slots) (hexec : p.tables.exec = Jvm.exec) {own C : String} {index : Nat} {y : MethodName} {bytes : ByteArray} {maxL : Nat} {ret : Option FieldType} {hh : List (Nat × Nat × Nat × Nat)}
    (hown : s.vm.findClass own = some m.cls) (hlink : (Cond.methodLink own index y).before args s = true) (hinst : (Cond.instanceMethod y).before args s = true) (hsel : (Cond.selects C y y).before args s = true)
    (hcode : (Cond.codeWith y bytes maxL ret hh).before args s = true) (hy : y.cls ≠ "java/lang/invoke/MethodHandle" ∧ y.cls ≠ "java/lang/invoke/VarHandle")
    {W9 : Nat} {Pre : Pt → Array Value → Prop} {Post : Pt → Array Value → Option Value → Pt → Prop} {PostX : Pt → Array Value → Addr → Pt → Prop} (hK : vx_Back l R p e below s args y 3 W9 Pre Post PostX)
    {b : Addr} {cellB : Cell} (hcell : T.heap[b]? = some cellB) (hobj : cellB.vm.isStatics = false) (hcls : s.vm.findClass C = some cellB.cls)
    {g : JFrame} (hg : g.method = m) (hsize : g.locals.size = c.maxLocals) {argsL rest : List Value} (hlen : ∀ sig, parseMethodDescriptor y.desc = some sig → argsL.length = sig.parameters.length)
    (hstack : g.stack = argsL.reverse ++ .ref b :: rest) (hW : 2 * g.monitorRoom + (rest.map fun v => v.category).sum ≤ W9) (hdg : decode c.code g.pc = .ok (.invokevirtual index, 3))
    (hpre : ∀ vm₁, s.WarmedH vm₁ → Pre ⟨T.setVm vm₁, locs, cells, slots⟩ (Value.ref b :: argsL).toArray) :
    (∃ (v : Option Value) (vm₁ : Vm) (B : Pt), s.WarmedH vm₁ ∧ Stand p l e R s m args below meth c B.U B.locs B.cells B.slots ∧ Post ⟨T.setVm vm₁, locs, cells, slots⟩ (Value.ref b :: argsL).toArray v B ∧
      ∀ target, Steps p.tables e below (B.U.setTop { g with pc := g.pc + 3, stack := v.toList ++ rest }) target → Steps p.tables e below (T.setTop g) target) ∨
    (∃ (q : Addr) (vm₁ : Vm) (B : Pt), s.WarmedH vm₁ ∧ Stand p l e R s m args below meth c B.U B.locs B.cells B.slots ∧ PostX ⟨T.setVm vm₁, locs, cells, slots⟩ (Value.ref b :: argsL).toArray q B ∧
      Steps p.tables e below (T.setTop g) ((B.U.setTop { g with stack := rest }).pushFrame (.throwing q))) := by
  obtain ⟨mk, methM, hnamed, hmethM, hstM, habM⟩ := Cond.instanceMethod_spec hinst
  obtain ⟨m8, methM', cM, hn8, hmethM', -, -, -, -, -, -, hsigM⟩ := Cond.codeWith_spec hcode
  cases Option.some.inj (hn8.symm.trans hnamed)
  cases hmethM.symm.trans hmethM'
  obtain ⟨c2, r2, m2, q1, q2, q3, q4, kP, hkP, hkPi⟩ := Cond.selects_spec hsel
  cases hcls.symm.trans q1
  cases (State.methodFound?_of_named hnamed hy).symm.trans q2
  cases hnamed.symm.trans q3
  have hselP : selectMethod e.platform s.vm cellB.cls mk = .method mk := by rw [Launch.admits_selectMethod X.admits]; exact q4
  obtain ⟨vm₁, X₁, hstep₁⟩ := X.invokevirtual hexec hown hlink hnamed hmethM hstM hkP hkPi hy (a := b) (cell := cellB) hcell
    (fun z h => by rw [h] at hobj; cases hobj) hselP hmethM habM hkP hkPi (g := g) hg (argsL := argsL) (rest := rest) (hlen _ hsigM) hstack hdg
  rcases hK m meth c ⟨T.setVm vm₁, locs, cells, slots⟩ { g with stack := rest } (.invokevirtual index) mk (Value.ref b :: argsL).toArray X₁ hg hsize hdg hW (X₁.named hnamed) (hpre vm₁ X₁.warmed) with ⟨v, B, X', hpost, hsteps⟩ | ⟨q, B, X', hpost, hsteps⟩
  · exact Or.inl ⟨v, vm₁, B, X₁.warmed, X', hpost, fun target h => hstep₁ _ fun acts => by rw [doInvoke_state]; exact hsteps.trans h⟩
  · exact Or.inr ⟨q, vm₁, B, X₁.warmed, X', hpost, hstep₁ _ fun acts => by rw [doInvoke_state]; exact hsteps⟩
theorem vx_callSX (X : Stand p l e R s m args below meth c T locs cells slots) (hexec : p.tables.exec = Jvm.exec) {own : String} {index : Nat} {y : MethodName} {bytes : ByteArray} {maxL : Nat} {ret : Option FieldType} {hh : List (Nat × Nat × Nat × Nat)}
    (hown : s.vm.findClass own = some m.cls) (hlink : (Cond.methodLink own index y).before args s = true) (hstat : (Cond.static y).before args s = true) (hinit : (Cond.initialized y.cls).before args s = true)
    (hcode : (Cond.codeWith y bytes maxL ret hh).before args s = true) (hy : y.cls ≠ "java/lang/invoke/MethodHandle" ∧ y.cls ≠ "java/lang/invoke/VarHandle")
    {W9 : Nat} {Pre : Pt → Array Value → Prop} {Post : Pt → Array Value → Option Value → Pt → Prop} {PostX : Pt → Array Value → Addr → Pt → Prop} (hK : vx_Back l R p e below s args y 3 W9 Pre Post PostX)
    {g : JFrame} (hg : g.method = m) (hsize : g.locals.size = c.maxLocals) {argsL rest : List Value} (hlen : ∀ sig, parseMethodDescriptor y.desc = some sig → argsL.length = sig.parameters.length)
    (hstack : g.stack = argsL.reverse ++ rest) (hW : 2 * g.monitorRoom + (rest.map fun v => v.category).sum ≤ W9) (hdg : decode c.code g.pc = .ok (.invokestatic index, 3))
    (hpre : ∀ vm₁, s.WarmedH vm₁ → Pre ⟨T.setVm vm₁, locs, cells, slots⟩ argsL.toArray) :
    (∃ (v : Option Value) (vm₁ : Vm) (B : Pt), s.WarmedH vm₁ ∧ Stand p l e R s m args below meth c B.U B.locs B.cells B.slots ∧ Post ⟨T.setVm vm₁, locs, cells, slots⟩ argsL.toArray v B ∧
      ∀ target, Steps p.tables e below (B.U.setTop { g with pc := g.pc + 3, stack := v.toList ++ rest }) target → Steps p.tables e below (T.setTop g) target) ∨
    (∃ (q : Addr) (vm₁ : Vm) (B : Pt), s.WarmedH vm₁ ∧ Stand p l e R s m args below meth c B.U B.locs B.cells B.slots ∧ PostX ⟨T.setVm vm₁, locs, cells, slots⟩ argsL.toArray q B ∧
      Steps p.tables e below (T.setTop g) ((B.U.setTop { g with stack := rest }).pushFrame (.throwing q))) := by
  obtain ⟨mk, methM, cM, hnamed, hmethM, -, -, -, -, -, -, hsigM⟩ := Cond.codeWith_spec hcode
  have hstatic : methM.isStatic = true := Cond.static_spec hnamed hmethM hstat
  obtain ⟨kP, hkP, -⟩ := className_of_methodNamed hnamed
  have hinitP : kP.init = .initialized := Cond.initialized_spec (findClass_of_methodNamed hnamed) hkP hinit
  obtain ⟨vm₁, X₁, hstep₁⟩ := X.invokestatic hexec hown hlink hnamed hmethM hstatic hkP hinitP hy (g := g) hg (argsL := argsL) (rest := rest) (hlen _ hsigM) hstack hdg
  rcases hK m meth c ⟨T.setVm vm₁, locs, cells, slots⟩ { g with stack := rest } (.invokestatic index) mk argsL.toArray X₁ hg hsize hdg hW (X₁.named hnamed) (hpre vm₁ X₁.warmed) with ⟨v, B, X', hpost, hsteps⟩ | ⟨q, B, X', hpost, hsteps⟩
  · exact Or.inl ⟨v, vm₁, B, X₁.warmed, X', hpost, fun target h => hstep₁ _ fun acts => by rw [doInvoke_state]; exact hsteps.trans h⟩
  · exact Or.inr ⟨q, vm₁, B, X₁.warmed, X', hpost, hstep₁ _ fun acts => by rw [doInvoke_state]; exact hsteps⟩
theorem vx_callVW (X : Stand p l e R s m args below meth c T locs cells slots) (hexec : p.tables.exec = Jvm.exec) {own C : String} {index : Nat} {y : MethodName} {bytes : ByteArray} {maxL : Nat} {ret : Option FieldType} {hh : List (Nat × Nat × Nat × Nat)}
    (hown : s.vm.findClass own = some m.cls) (hlink : (Cond.methodLink own index y).before args s = true) (hinst : (Cond.instanceMethod y).before args s = true) (hsel : (Cond.selects C y y).before args s = true)
    (hcode : (Cond.codeWith y bytes maxL ret hh).before args s = true) (hy : y.cls ≠ "java/lang/invoke/MethodHandle" ∧ y.cls ≠ "java/lang/invoke/VarHandle")
    {W9 : Nat} {Pre : Pt → Array Value → Prop} {Post : Pt → Array Value → Option Value → Pt → Prop} (hK : Back l R p e below s args y 3 W9 Pre Post)
    {b : Addr} {cellB : Cell} (hcell : T.heap[b]? = some cellB) (hobj : cellB.vm.isStatics = false) (hcls : s.vm.findClass C = some cellB.cls)
    {g : JFrame} (hg : g.method = m) (hsize : g.locals.size = c.maxLocals) {argsL rest : List Value} (hlen : ∀ sig, parseMethodDescriptor y.desc = some sig → argsL.length = sig.parameters.length)
    (hstack : g.stack = argsL.reverse ++ .ref b :: rest) (hW : 2 * g.monitorRoom + (rest.map fun v => v.category).sum ≤ W9) (hdg : decode c.code g.pc = .ok (.invokevirtual index, 3))
    (hpre : ∀ vm₁, s.WarmedH vm₁ → Pre ⟨T.setVm vm₁, locs, cells, slots⟩ (Value.ref b :: argsL).toArray) :
    ∃ (v : Option Value) (vm₁ : Vm) (B : Pt), s.WarmedH vm₁ ∧ Stand p l e R s m args below meth c B.U B.locs B.cells B.slots ∧ Post ⟨T.setVm vm₁, locs, cells, slots⟩ (Value.ref b :: argsL).toArray v B ∧
      ∀ target, Steps p.tables e below (B.U.setTop { g with pc := g.pc + 3, stack := v.toList ++ rest }) target → Steps p.tables e below (T.setTop g) target := by
  obtain ⟨mk, methM, hnamed, hmethM, hstM, habM⟩ := Cond.instanceMethod_spec hinst
  obtain ⟨m8, methM', cM, hn8, hmethM', -, -, -, -, -, -, hsigM⟩ := Cond.codeWith_spec hcode
  cases Option.some.inj (hn8.symm.trans hnamed)
  cases hmethM.symm.trans hmethM'
  obtain ⟨c2, r2, m2, q1, q2, q3, q4, kP, hkP, hkPi⟩ := Cond.selects_spec hsel
  cases hcls.symm.trans q1
  cases (State.methodFound?_of_named hnamed hy).symm.trans q2
  cases hnamed.symm.trans q3
  have hselP : selectMethod e.platform s.vm cellB.cls mk = .method mk := by rw [Launch.admits_selectMethod X.admits]; exact q4
  obtain ⟨vm₁, X₁, hstep₁⟩ := X.invokevirtual hexec hown hlink hnamed hmethM hstM hkP hkPi hy (a := b) (cell := cellB) hcell
    (fun z h => by rw [h] at hobj; cases hobj) hselP hmethM habM hkP hkPi (g := g) hg (argsL := argsL) (rest := rest) (hlen _ hsigM) hstack hdg
  obtain ⟨v, B, X', hpost, hsteps⟩ := hK m meth c ⟨T.setVm vm₁, locs, cells, slots⟩ { g with stack := rest } (.invokevirtual index) mk (Value.ref b :: argsL).toArray X₁ hg hsize hdg hW (X₁.named hnamed) (hpre vm₁ X₁.warmed)
  exact ⟨v, vm₁, B, X₁.warmed, X', hpost, fun target h => hstep₁ _ fun acts => by rw [doInvoke_state]; exact hsteps.trans h⟩
abbrev vx_CVW (R : Room) (s : State) (args : Array Value) (own C : String) (index : Nat) (y : MethodName) (bytes : ByteArray) (maxL : Nat) (ret : Option FieldType) (hh : List (Nat × Nat × Nat × Nat)) (ws : List Cond) (rm : Room) (mc ms n : Nat) : Prop :=
  (rm.cells = mc ∧ rm.slots = ms ∧ rm.frames + 1 ≤ R.frames ∧ 8 + (maxL + 11) + rm.locals ≤ R.locals ∧ (∀ w ∈ ws, ∀ (a' : Array Value) (U : State), s.WarmedH U.vm → w.before a' U = true) ∧ Cond.codeWith y bytes maxL ret hh ∈ ws) ∧
  (Cond.codeWith y bytes maxL ret hh).before args s = true ∧ (Cond.initialized y.cls).before args s = true ∧ (y.cls ≠ "java/lang/invoke/MethodHandle" ∧ y.cls ≠ "java/lang/invoke/VarHandle") ∧
  (∀ sig, parseMethodDescriptor y.desc = some sig → n = sig.parameters.length) ∧ (Cond.methodLink own index y).before args s = true ∧ (Cond.instanceMethod y).before args s = true ∧ (Cond.selects C y y).before args s = true
theorem vx_cwVW {own C : String} {index maxL mc ms : Nat} {y : MethodName} {bytes : ByteArray} {ret : Option FieldType} {hh : List (Nat × Nat × Nat × Nat)} {Ts ws ws' : List Cond} {rm : Room} (n : Nat) (ht : ∀ w ∈ Ts, w.before args s = true) (hT : GoodIn Ts (wsV own index C y ws)) (hw : ws = Cond.codeWith y bytes maxL ret hh :: ws') (hrc : rm.cells = mc) (hrs : rm.slots = ms)
    (hd : y.cls = C ∧ y.cls ≠ "java/lang/invoke/MethodHandle" ∧ y.cls ≠ "java/lang/invoke/VarHandle" ∧ (parseMethodDescriptor y.desc).map (fun d => d.parameters.length) = some n) (hR : rm.frames + 1 ≤ R.frames ∧ 8 + (maxL + 11) + rm.locals ≤ R.locals) :
    vx_CVW R s args own C index y bytes maxL ret hh ws rm mc ms n := by
  obtain ⟨hC, hd⟩ := hd
  subst hC
  have ok : ∀ w ∈ wsV own index y.cls y ws, w.before args s = true := fun w h => ht w (hT w h).1
  have hG : GoodIn Ts ws := fun w h => hT w (by unfold wsV; exact List.mem_append_right _ h)
  have hc : Cond.codeWith y bytes maxL ret hh ∈ ws := by rw [hw]; exact List.mem_cons_self
  refine ⟨⟨hrc, hrs, hR.1, hR.2, pay_in ht hG, hc⟩, ht _ (hG _ hc).1, ok _ (by simp [wsV]), ⟨hd.1, hd.2.1⟩, fun sig h => ?_, ok _ (by simp [wsV]), ok _ (by simp [wsV]), ok _ (by simp [wsV])⟩
  have h2 := hd.2.2
  rw [h] at h2
  exact (Option.some.inj h2).symm
theorem vx_runVW {y : MethodName} {bytes cc : ByteArray} {maxL nL mc ms n index : Nat} {ret : Option FieldType} {hh : List (Nat × Nat × Nat × Nat)} {ws : List Cond} {rm : Room} {Pc : Array Value → State → Prop} {Qc : Array Value → State → Outcome → State → Prop} {free : Addr → Prop} {Ts : List Cond} {own C : String} {b : Addr} {As rest : List Value} {g : JFrame}
    (S : CallFix p m c cc nL s args Ts own) (hM : Met l y ws rm Pc Qc mc ms free) (cw : vx_CVW R s args own C index y bytes maxL ret hh ws rm mc ms n) (hp : PreV s H C b Pc As)
    (hg : g.method = m) (hn : As.length = n) (hsize : g.locals.size = nL) (hstack : g.stack = As.reverse ++ .ref b :: rest) (hW : 2 * g.monitorRoom + (rest.map fun v => v.category).sum ≤ 8) (hdg : decode cc g.pc = .ok (.invokevirtual index, 3)) (hf : cells + mc ≤ R.cells ∧ slots + ms ≤ R.slots) :
    va_Run p l e R s m args below meth c H locs cells slots mc ms g rest (Qc (Value.ref b :: As).toArray) free := by
  obtain ⟨⟨hrc, hrs, hfr, hlo, hws, hcw⟩, hcode, hini, hy, hlen, hl, hin, hse⟩ := cw
  have hK : Back l R p e below s args y 3 8 (PreOf R mc ms Pc) (PostOf Qc mc ms free) := va_backW (hh := hh) (bytes := bytes) (maxL := maxL) (ret := ret) hM hp.1 hrc hrs hfr hlo hws hcw (fun a' U hW => word_at hW (Or.inl (by first | rfl | simp [Cond.onTables, Cond.keeps, Cond.steady])) hini)
  obtain ⟨hx, hb, hml, ho, -⟩ := S
  obtain ⟨-, ⟨cellB, hcB, hoB, hclB⟩, hPc⟩ := hp
  intro T hT X
  obtain ⟨v, vm₁, ⟨U', l2, c2, s2⟩, hW₁, X', ⟨g', mk, t, L, e1, e2, hq, h1, hL, h2, h3⟩, st⟩ := vx_callVW X hx (C := C) (hh := hh) (bytes := bytes) (maxL := maxL) (ret := ret) ho hl hin hse hcode hy hK (by rw [hT]; exact hcB) hoB hclB hg (hsize.trans hml.symm) (argsL := As) (rest := rest) (fun sig h => hn.trans (hlen sig h)) hstack hW (by rw [hb]; exact hdg)
    (fun vm₁ hW₁ => ⟨hf.1, hf.2, hPc (T.setVm vm₁) hT hW₁⟩)
  dsimp only [Pt.U, Pt.locs, Pt.cells, Pt.slots] at X' e1 e2 h1 h2 h3 st
  subst h1; subst h2; subst h3
  exact ⟨v, (T.setVm vm₁).calling g' mk (Value.ref b :: As).toArray, t, U', L, hT, X', hL, e1, e2, hq, st⟩
section
variable {y : MethodName} {bytes cc : ByteArray} {maxL nL mc ms n index : Nat} {ret : Option FieldType} {ws : List Cond} {rm : Room} {Pc : Array Value → State → Prop} {Qc : Array Value → State → Outcome → State → Prop} {XC : String → State → State → Prop} {free : Addr → Prop} {Ts : List Cond} {own C : String} {b : Addr} {As rest : List Value} {g : JFrame}
theorem vx_runVX {hh : List (Nat × Nat × Nat × Nat)} (S : CallFix p m c cc nL s args Ts own) (hM : vx_Met l y ws rm Pc Qc XC mc ms free) (cw : vx_CVW R s args own C index y bytes maxL ret hh ws rm mc ms n) (hp : PreV s H C b Pc As)
    (hg : g.method = m) (hn : As.length = n) (hsize : g.locals.size = nL) (hstack : g.stack = As.reverse ++ .ref b :: rest) (hW : 2 * g.monitorRoom + (rest.map fun v => v.category).sum ≤ 8) (hdg : decode cc g.pc = .ok (.invokevirtual index, 3)) (hf : cells + mc ≤ R.cells ∧ slots + ms ≤ R.slots) :
    vx_Run p l e R s m args below meth c H locs cells slots mc ms g rest (Qc (Value.ref b :: As).toArray) XC free := by
  obtain ⟨⟨hrc, hrs, hfr, hlo, hws, hcw⟩, hcode, hini, hy, hlen, hl, hin, hse⟩ := cw
  have hK : vx_Back l R p e below s args y 3 8 (PreOf R mc ms Pc) (PostOf Qc mc ms free) (vx_Post XC mc ms free) := vx_backW (hh := hh) (bytes := bytes) (maxL := maxL) (ret := ret) hM hp.1 hrc hrs hfr hlo hws hcw (fun a' U hW => word_at hW (Or.inl (by first | rfl | simp [Cond.onTables, Cond.keeps, Cond.steady])) hini)
  obtain ⟨hx, hb, hml, ho, -⟩ := S
  obtain ⟨-, ⟨cellB, hcB, hoB, hclB⟩, hPc⟩ := hp
  intro T hT X
  rcases vx_callVX X hx (C := C) (hh := hh) (bytes := bytes) (maxL := maxL) (ret := ret) ho hl hin hse hcode hy hK (by rw [hT]; exact hcB) hoB hclB hg (hsize.trans hml.symm) (argsL := As) (rest := rest) (fun sig h => hn.trans (hlen sig h)) hstack hW (by rw [hb]; exact hdg)
    (fun vm₁ hW₁ => ⟨hf.1, hf.2, hPc (T.setVm vm₁) hT hW₁⟩) with ⟨v, vm₁, ⟨U', l2, c2, s2⟩, hW₁, X', ⟨g', mk, t, L, e1, e2, hq, h1, hL, h2, h3⟩, st⟩ | ⟨q, vm₁, ⟨U', l2, c2, s2⟩, hW₁, X', ⟨g', mk, t, L, E, ce, e1, e2, hq, hce, hcv, hcl, h1, hL, h2, h3⟩, st⟩
  · dsimp only [Pt.U, Pt.locs, Pt.cells, Pt.slots] at X' e1 e2 h1 h2 h3 st
    subst h1; subst h2; subst h3
    exact Or.inl ⟨v, (T.setVm vm₁).calling g' mk (Value.ref b :: As).toArray, t, U', L, hT, X', hL, e1, e2, hq, st⟩
  · dsimp only [Pt.U, Pt.locs, Pt.cells, Pt.slots] at X' e1 e2 h1 h2 h3 st hcl
    subst h1; subst h2; subst h3
    exact Or.inr ⟨q, (T.setVm vm₁).calling g' mk (Value.ref b :: As).toArray, t, U', L, E, ce, hT, X', hL, e1, e2, hq, hce, hcv, vx_cls hW₁ hcl, st⟩
theorem vx_runSX {hh : List (Nat × Nat × Nat × Nat)} (S : CallFix p m c cc nL s args Ts own) (hM : vx_Met l y ws rm Pc Qc XC mc ms free) (cw : vx_CSW R s args own index y bytes maxL ret hh ws rm mc ms n) (hp : PreS s H Pc As)
    (hg : g.method = m) (hn : As.length = n) (hsize : g.locals.size = nL) (hstack : g.stack = As.reverse ++ rest) (hW : 2 * g.monitorRoom + (rest.map fun v => v.category).sum ≤ 8) (hdg : decode cc g.pc = .ok (.invokestatic index, 3)) (hf : cells + mc ≤ R.cells ∧ slots + ms ≤ R.slots) :
    vx_Run p l e R s m args below meth c H locs cells slots mc ms g rest (Qc As.toArray) XC free := by
  obtain ⟨⟨hrc, hrs, hfr, hlo, hws, hcw⟩, hcode, hini, hy, hlen, hl, hstt⟩ := cw
  have hK : vx_Back l R p e below s args y 3 8 (PreOf R mc ms Pc) (PostOf Qc mc ms free) (vx_Post XC mc ms free) := vx_backW (hh := hh) (bytes := bytes) (maxL := maxL) (ret := ret) hM hp.1 hrc hrs hfr hlo hws hcw (fun a' U hW => word_at hW (Or.inl (by first | rfl | simp [Cond.onTables, Cond.keeps, Cond.steady])) hini)
  obtain ⟨hx, hb, hml, ho, -⟩ := S
  intro T hT X
  rcases vx_callSX X hx (hh := hh) (bytes := bytes) (maxL := maxL) (ret := ret) ho hl hstt hini hcode hy hK hg (hsize.trans hml.symm) (argsL := As) (rest := rest) (fun sig h => hn.trans (hlen sig h)) hstack hW (by rw [hb]; exact hdg)
    (fun vm₁ hW₁ => ⟨hf.1, hf.2, hp.2 (T.setVm vm₁) hT hW₁⟩) with ⟨v, vm₁, ⟨U', l2, c2, s2⟩, hW₁, X', ⟨g', mk, t, L, e1, e2, hq, h1, hL, h2, h3⟩, st⟩ | ⟨q, vm₁, ⟨U', l2, c2, s2⟩, hW₁, X', ⟨g', mk, t, L, E, ce, e1, e2, hq, hce, hcv, hcl, h1, hL, h2, h3⟩, st⟩
  · dsimp only [Pt.U, Pt.locs, Pt.cells, Pt.slots] at X' e1 e2 h1 h2 h3 st
    subst h1; subst h2; subst h3
    exact Or.inl ⟨v, (T.setVm vm₁).calling g' mk As.toArray, t, U', L, hT, X', hL, e1, e2, hq, st⟩
  · dsimp only [Pt.U, Pt.locs, Pt.cells, Pt.slots] at X' e1 e2 h1 h2 h3 st hcl
    subst h1; subst h2; subst h3
    exact Or.inr ⟨q, (T.setVm vm₁).calling g' mk As.toArray, t, U', L, E, ce, hT, X', hL, e1, e2, hq, hce, hcv, vx_cls hW₁ hcl, st⟩
end
end VXH
theorem vx_ofWH {l : Launch} {y : MethodName} {ws ws' : List Cond} {rm : Room} {Pc : Array Value → State → Prop} {Qc : Array Value → State → Outcome → State → Prop} {XC : String → State → State → Prop} {mc ms : Nat} {free : Addr → Prop} {cc : ByteArray} {maxL : Nat} {ret : Option FieldType} {hh : List (Nat × Nat × Nat × Nat)}
    (hy : plainName y.cls = true) (hw : ws = Cond.codeWith y cc maxL ret hh :: ws')
    (body : ∀ p e s m args below meth c s₁, BodyLoose p l y (headSpec ws rm) cc maxL ret e s m args below meth c s₁ → c.maxLocals = maxL → Pc args s →
      W p l e (headSpec ws rm).room s m args below meth c s.heap [] 0 0 (vx_MQ below Qc XC args s mc ms free) (entryFrame m args maxL)) : vx_Met l y ws rm Pc Qc XC mc ms free := by
  refine MetFree.of_bodyS (code := cc) (maxLocals := maxL) (ret := ret) hy ?_ ?_
  · intro args s m h hn
    obtain ⟨m9, meth, c, hn9, h1, h2, h3, h4, -, h5, h6, -⟩ := Cond.codeWith_spec (atoms_spec (ws := ws) h _ (by rw [hw]; exact List.mem_cons_self))
    cases hn.symm.trans hn9
    exact ⟨meth, c, h1, h2, h3, h4, h5, h6⟩
  · intro p e s m args below meth c s₁ B hml hP _
    have hh0 : s₁.heap = s.heap := by rw [B.state]; rfl
    obtain ⟨t, a1, o, b1, b2, b3⟩ := body p e s m args below meth c s₁ B hml hP s₁ hh0 (Stand.of_body B)
    exact ⟨t, o, a1, b1, b2, b3⟩
/-! ===== END ===== -/
end
section
/-! ===== BEGIN printed: names, fields, word lists, decode rows ===== -/
def RX0 : String := "Beamrow$Element"
def TX0 : u_T := fun k => match k with
  | 0 => ("Beamrow$Element", "tape", "LBeamrow$Tape;", true)
  | 1 => ("Beamrow$Element", "laid", "[J", true)
  | 2 => ("Beamrow$Element", "turned", "[J", true)
  | 3 => ("Beamrow$Element", "up", "Z", false)
  | 4 => ("Beamrow$Element", "living", "Z", false)
  | 5 => ("Beamrow$Element", "position", "I", false)
  | 6 => ("Beamrow$Element", "gain", "I", false)
  | 7 => ("Beamrow$Element", "lag", "I", false)
  | 8 => ("Beamrow$Element", "trimGain", "I", false)
  | 9 => ("Beamrow$Element", "trimLag", "I", false)
  | _ => ("Beamrow$Element", "weight", "J", false)
def tyX0 : Nat → FieldType := fun k => match k with
  | 0 => .object "Beamrow$Tape"
  | 1 => .array .long
  | 2 => .array .long
  | 3 => .boolean
  | 4 => .boolean
  | 5 => .int
  | 6 => .int
  | 7 => .int
  | 8 => .int
  | 9 => .int
  | _ => .long
abbrev wsX00 : List Cond := u_ws RX0 TX0 11
theorem nmX0 : ∀ a, a < 11 → ∀ b, b < 11 → a ≠ b → (TX0 a).2.1 ≠ (TX0 b).2.1 := by decide +kernel
theorem tyX0_ok : ∀ k, k < 11 → parseFieldDescriptor (TX0 k).2.2.1 = some (tyX0 k) := by decide +kernel
abbrev cX0_init : ByteArray := prog_2_method_1_code
def yX0_init : MethodName := ⟨RX0, "<init>", "()V"⟩
abbrev cX0_putUp : ByteArray := prog_2_method_2_code
def yX0_putUp : MethodName := ⟨RX0, "putUp", "(IIII)V"⟩
abbrev cX0_isUp : ByteArray := prog_2_method_3_code
def yX0_isUp : MethodName := ⟨RX0, "isUp", "()Z"⟩
abbrev cX0_isLiving : ByteArray := prog_2_method_4_code
def yX0_isLiving : MethodName := ⟨RX0, "isLiving", "()Z"⟩
abbrev cX0_setLiving : ByteArray := prog_2_method_5_code
def yX0_setLiving : MethodName := ⟨RX0, "setLiving", "(Z)V"⟩
abbrev cX0_getLag : ByteArray := prog_2_method_6_code
def yX0_getLag : MethodName := ⟨RX0, "getLag", "()I"⟩
abbrev cX0_getTrimGain : ByteArray := prog_2_method_7_code
def yX0_getTrimGain : MethodName := ⟨RX0, "getTrimGain", "()I"⟩
abbrev cX0_getTrimLag : ByteArray := prog_2_method_8_code
def yX0_getTrimLag : MethodName := ⟨RX0, "getTrimLag", "()I"⟩
abbrev cX0_trim : ByteArray := prog_2_method_9_code
def yX0_trim : MethodName := ⟨RX0, "trim", "(II)Z"⟩
abbrev cX0_delayFor : ByteArray := prog_2_method_10_code
def yX0_delayFor : MethodName := ⟨RX0, "delayFor", "(I)I"⟩
abbrev cX0_heardOf : ByteArray := prog_2_method_11_code
def yX0_heardOf : MethodName := ⟨RX0, "heardOf", "(I)I"⟩
abbrev cX0_keep : ByteArray := prog_2_method_12_code
def yX0_keep : MethodName := ⟨RX0, "keep", "(I)V"⟩
abbrev cX0_keptAt : ByteArray := prog_2_method_13_code
def yX0_keptAt : MethodName := ⟨RX0, "keptAt", "(I)I"⟩
abbrev cX0_layOut : ByteArray := prog_2_method_14_code
def yX0_layOut : MethodName := ⟨RX0, "layOut", "(I)V"⟩
abbrev cX0_turnAll : ByteArray := prog_2_method_15_code
def yX0_turnAll : MethodName := ⟨RX0, "turnAll", "()V"⟩
abbrev cX0_firstTold : ByteArray := prog_2_method_16_code
def yX0_firstTold : MethodName := ⟨RX0, "firstTold", "(I)I"⟩
abbrev cX0_toldAt : ByteArray := prog_2_method_17_code
def yX0_toldAt : MethodName := ⟨RX0, "toldAt", "(I)J"⟩
abbrev cX0_laidAt : ByteArray := prog_2_method_18_code
def yX0_laidAt : MethodName := ⟨RX0, "laidAt", "(I)J"⟩
abbrev cX0_tellTo : ByteArray := prog_2_method_19_code
def yX0_tellTo : MethodName := ⟨RX0, "tellTo", "([JI)V"⟩
abbrev cX0_toldWith : ByteArray := prog_2_method_20_code
def yX0_toldWith : MethodName := ⟨RX0, "toldWith", "(LBeamrow$Element;I)J"⟩
abbrev cX0_takeAway : ByteArray := prog_2_method_21_code
def yX0_takeAway : MethodName := ⟨RX0, "takeAway", "(IIJ)V"⟩
abbrev cX0_agreement : ByteArray := prog_2_method_22_code
def yX0_agreement : MethodName := ⟨RX0, "agreement", "(LBeamrow$Element;II)J"⟩
def RX1 : String := "Beamrow$Hiss"
def TX1 : u_T := fun k => match k with
  | 0 => ("Beamrow$Hiss", "loudness", "I", false)
  | _ => ("Beamrow$Hiss", "number", "I", false)
def tyX1 : Nat → FieldType := fun k => match k with
  | 0 => .int
  | _ => .int
abbrev wsX10 : List Cond := u_ws RX1 TX1 2
theorem nmX1 : ∀ a, a < 2 → ∀ b, b < 2 → a ≠ b → (TX1 a).2.1 ≠ (TX1 b).2.1 := by decide +kernel
theorem tyX1_ok : ∀ k, k < 2 → parseFieldDescriptor (TX1 k).2.2.1 = some (tyX1 k) := by decide +kernel
abbrev cX1_init : ByteArray := prog_3_method_1_code
def yX1_init : MethodName := ⟨RX1, "<init>", "()V"⟩
abbrev cX1_set : ByteArray := prog_3_method_2_code
def yX1_set : MethodName := ⟨RX1, "set", "(II)V"⟩
abbrev cX1_getLoudness : ByteArray := prog_3_method_3_code
def yX1_getLoudness : MethodName := ⟨RX1, "getLoudness", "()I"⟩
abbrev cX1_draw : ByteArray := prog_3_method_4_code
def yX1_draw : MethodName := ⟨RX1, "draw", "()I"⟩
def RX2 : String := "Beamrow$Source"
def TX2 : u_T := fun k => match k with
  | 0 => ("Beamrow$Source", "bearing", "I", false)
  | 1 => ("Beamrow$Source", "strength", "I", false)
  | _ => ("Beamrow$Source", "period", "I", false)
def tyX2 : Nat → FieldType := fun k => match k with
  | 0 => .int
  | 1 => .int
  | _ => .int
abbrev wsX20 : List Cond := u_ws RX2 TX2 3
theorem nmX2 : ∀ a, a < 3 → ∀ b, b < 3 → a ≠ b → (TX2 a).2.1 ≠ (TX2 b).2.1 := by decide +kernel
theorem tyX2_ok : ∀ k, k < 3 → parseFieldDescriptor (TX2 k).2.2.1 = some (tyX2 k) := by decide +kernel
abbrev cX2_init : ByteArray := prog_4_method_1_code
def yX2_init : MethodName := ⟨RX2, "<init>", "()V"⟩
abbrev cX2_setUp : ByteArray := prog_4_method_2_code
def yX2_setUp : MethodName := ⟨RX2, "setUp", "(III)V"⟩
abbrev cX2_getBearing : ByteArray := prog_4_method_3_code
def yX2_getBearing : MethodName := ⟨RX2, "getBearing", "()I"⟩
abbrev cX2_waveAt : ByteArray := prog_4_method_4_code
def yX2_waveAt : MethodName := ⟨RX2, "waveAt", "(I)I"⟩
def RX3 : String := "Beamrow$Tape"
def TX3 : u_T := fun k => match k with
  | 0 => ("Beamrow$Tape", "slots", "[I", true)
  | 1 => ("Beamrow$Tape", "begin", "I", false)
  | _ => ("Beamrow$Tape", "end", "I", false)
def tyX3 : Nat → FieldType := fun k => match k with
  | 0 => .array .int
  | 1 => .int
  | _ => .int
abbrev wsX30 : List Cond := u_ws RX3 TX3 3
theorem nmX3 : ∀ a, a < 3 → ∀ b, b < 3 → a ≠ b → (TX3 a).2.1 ≠ (TX3 b).2.1 := by decide +kernel
theorem tyX3_ok : ∀ k, k < 3 → parseFieldDescriptor (TX3 k).2.2.1 = some (tyX3 k) := by decide +kernel
abbrev cX3_init : ByteArray := prog_5_method_1_code
def yX3_init : MethodName := ⟨RX3, "<init>", "()V"⟩
abbrev cX3_beginAt : ByteArray := prog_5_method_2_code
def yX3_beginAt : MethodName := ⟨RX3, "beginAt", "(I)V"⟩
abbrev cX3_add : ByteArray := prog_5_method_3_code
def yX3_add : MethodName := ⟨RX3, "add", "(I)V"⟩
abbrev cX3_at : ByteArray := prog_5_method_4_code
def yX3_at : MethodName := ⟨RX3, "at", "(I)I"⟩
abbrev cX3_keeps : ByteArray := prog_5_method_5_code
def yX3_keeps : MethodName := ⟨RX3, "keeps", "(I)Z"⟩
abbrev cX3_slotOf : ByteArray := prog_5_method_6_code
def yX3_slotOf : MethodName := ⟨RX3, "slotOf", "(I)I"⟩
def RX4 : String := "Beamrow"
def TX4 : u_T := fun k => match k with
  | 0 => ("Beamrow", "elements", "[LBeamrow$Element;", true)
  | 1 => ("Beamrow", "sources", "[LBeamrow$Source;", true)
  | 2 => ("Beamrow", "hiss", "LBeamrow$Hiss;", true)
  | 3 => ("Beamrow", "sums", "[J", true)
  | 4 => ("Beamrow", "powers", "[J", true)
  | 5 => ("Beamrow", "elementCount", "I", false)
  | 6 => ("Beamrow", "sourceCount", "I", false)
  | 7 => ("Beamrow", "shape", "I", false)
  | _ => ("Beamrow", "nextTick", "I", false)
def tyX4 : Nat → FieldType := fun k => match k with
  | 0 => .array (.object "Beamrow$Element")
  | 1 => .array (.object "Beamrow$Source")
  | 2 => .object "Beamrow$Hiss"
  | 3 => .array .long
  | 4 => .array .long
  | 5 => .int
  | 6 => .int
  | 7 => .int
  | _ => .int
abbrev wsX40 : List Cond := u_ws RX4 TX4 9
theorem nmX4 : ∀ a, a < 9 → ∀ b, b < 9 → a ≠ b → (TX4 a).2.1 ≠ (TX4 b).2.1 := by decide +kernel
theorem tyX4_ok : ∀ k, k < 9 → parseFieldDescriptor (TX4 k).2.2.1 = some (tyX4 k) := by decide +kernel
abbrev cX4_init : ByteArray := prog_1_method_1_code
def yX4_init : MethodName := ⟨RX4, "<init>", "()V"⟩
abbrev cX4_element : ByteArray := prog_1_method_2_code
def yX4_element : MethodName := ⟨RX4, "element", "(III)I"⟩
abbrev cX4_alive : ByteArray := prog_1_method_3_code
def yX4_alive : MethodName := ⟨RX4, "alive", "(IZ)Z"⟩
abbrev cX4_source : ByteArray := prog_1_method_4_code
def yX4_source : MethodName := ⟨RX4, "source", "(III)I"⟩
abbrev cX4_silence : ByteArray := prog_1_method_5_code
def yX4_silence : MethodName := ⟨RX4, "silence", "()I"⟩
abbrev cX4_noise : ByteArray := prog_1_method_6_code
def yX4_noise : MethodName := ⟨RX4, "noise", "(II)I"⟩
abbrev cX4_hear : ByteArray := prog_1_method_7_code
def yX4_hear : MethodName := ⟨RX4, "hear", "(I)I"⟩
abbrev cX4_window : ByteArray := prog_1_method_8_code
def yX4_window : MethodName := ⟨RX4, "window", "(I)I"⟩
abbrev cX4_calibrate : ByteArray := prog_1_method_9_code
def yX4_calibrate : MethodName := ⟨RX4, "calibrate", "(I)I"⟩
abbrev cX4_sample : ByteArray := prog_1_method_10_code
def yX4_sample : MethodName := ⟨RX4, "sample", "(II)I"⟩
abbrev cX4_sum : ByteArray := prog_1_method_11_code
def yX4_sum : MethodName := ⟨RX4, "sum", "(II)J"⟩
abbrev cX4_power : ByteArray := prog_1_method_12_code
def yX4_power : MethodName := ⟨RX4, "power", "(I)J"⟩
abbrev cX4_powerAnew : ByteArray := prog_1_method_13_code
def yX4_powerAnew : MethodName := ⟨RX4, "powerAnew", "(I)J"⟩
abbrev cX4_peaks : ByteArray := prog_1_method_14_code
def yX4_peaks : MethodName := ⟨RX4, "peaks", "(I)I"⟩
abbrev cX4_found : ByteArray := prog_1_method_15_code
def yX4_found : MethodName := ⟨RX4, "found", "(I)I"⟩
abbrev cX4_calibrated : ByteArray := prog_1_method_16_code
def yX4_calibrated : MethodName := ⟨RX4, "calibrated", "(IZ)I"⟩
abbrev cX4_tick : ByteArray := prog_1_method_17_code
def yX4_tick : MethodName := ⟨RX4, "tick", "()I"⟩
abbrev cX4_isWithin : ByteArray := prog_1_method_18_code
def yX4_isWithin : MethodName := ⟨RX4, "isWithin", "(III)Z"⟩
abbrev cX4_isBearing : ByteArray := prog_1_method_19_code
def yX4_isBearing : MethodName := ⟨RX4, "isBearing", "(I)Z"⟩
abbrev cX4_isElement : ByteArray := prog_1_method_20_code
def yX4_isElement : MethodName := ⟨RX4, "isElement", "(I)Z"⟩
abbrev cX4_hearOneTick : ByteArray := prog_1_method_21_code
def yX4_hearOneTick : MethodName := ⟨RX4, "hearOneTick", "()V"⟩
abbrev cX4_wavesAt : ByteArray := prog_1_method_22_code
def yX4_wavesAt : MethodName := ⟨RX4, "wavesAt", "(LBeamrow$Element;)I"⟩
abbrev cX4_layAll : ByteArray := prog_1_method_23_code
def yX4_layAll : MethodName := ⟨RX4, "layAll", "()J"⟩
abbrev cX4_weightOf : ByteArray := prog_1_method_24_code
def yX4_weightOf : MethodName := ⟨RX4, "weightOf", "(II)I"⟩
abbrev cX4_steer : ByteArray := prog_1_method_25_code
def yX4_steer : MethodName := ⟨RX4, "steer", "(I)V"⟩
abbrev cX4_powerBySums : ByteArray := prog_1_method_26_code
def yX4_powerBySums : MethodName := ⟨RX4, "powerBySums", "(I)J"⟩
abbrev cX4_powerByPairs : ByteArray := prog_1_method_27_code
def yX4_powerByPairs : MethodName := ⟨RX4, "powerByPairs", "(I)J"⟩
abbrev cX4_fillPowers : ByteArray := prog_1_method_28_code
def yX4_fillPowers : MethodName := ⟨RX4, "fillPowers", "()J"⟩
abbrev cX4_isPeak : ByteArray := prog_1_method_29_code
def yX4_isPeak : MethodName := ⟨RX4, "isPeak", "(I)Z"⟩
abbrev cX4_powerAt : ByteArray := prog_1_method_30_code
def yX4_powerAt : MethodName := ⟨RX4, "powerAt", "(I)J"⟩
abbrev cX4_strongest : ByteArray := prog_1_method_31_code
def yX4_strongest : MethodName := ⟨RX4, "strongest", "()I"⟩
abbrev cX4_takeAway : ByteArray := prog_1_method_32_code
def yX4_takeAway : MethodName := ⟨RX4, "takeAway", "(IJ)V"⟩
abbrev cX4_lowestLiving : ByteArray := prog_1_method_33_code
def yX4_lowestLiving : MethodName := ⟨RX4, "lowestLiving", "()LBeamrow$Element;"⟩
abbrev cX4_holdTo : ByteArray := prog_1_method_34_code
def yX4_holdTo : MethodName := ⟨RX4, "holdTo", "(LBeamrow$Element;JI)I"⟩
abbrev cX4_fit : ByteArray := prog_1_method_35_code
def yX4_fit : MethodName := ⟨RX4, "fit", "(LBeamrow$Element;LBeamrow$Element;JI)Z"⟩
def RX5 : String := "BeamrowModel"
def TX5 : u_T := fun k => match k with
  | 0 => ("BeamrowModel", "next", "I", false)
  | 1 => ("BeamrowModel", "elements", "I", false)
  | 2 => ("BeamrowModel", "positions", "[I", true)
  | 3 => ("BeamrowModel", "gains", "[I", true)
  | 4 => ("BeamrowModel", "lags", "[I", true)
  | 5 => ("BeamrowModel", "began", "[I", true)
  | 6 => ("BeamrowModel", "isAlive", "[Z", true)
  | 7 => ("BeamrowModel", "byGain", "[I", true)
  | 8 => ("BeamrowModel", "byLag", "[I", true)
  | 9 => ("BeamrowModel", "sources", "I", false)
  | 10 => ("BeamrowModel", "bearings", "[I", true)
  | 11 => ("BeamrowModel", "strengths", "[I", true)
  | 12 => ("BeamrowModel", "periods", "[I", true)
  | 13 => ("BeamrowModel", "loudness", "I", false)
  | 14 => ("BeamrowModel", "number", "I", false)
  | 15 => ("BeamrowModel", "window", "I", false)
  | 16 => ("BeamrowModel", "samples", "[I", true)
  | 17 => ("BeamrowModel", "left", "[I", true)
  | 18 => ("BeamrowModel", "means", "[I", true)
  | 19 => ("BeamrowModel", "powers", "[J", true)
  | _ => ("BeamrowModel", "thrown", "I", false)
def tyX5 : Nat → FieldType := fun k => match k with
  | 0 => .int
  | 1 => .int
  | 2 => .array .int
  | 3 => .array .int
  | 4 => .array .int
  | 5 => .array .int
  | 6 => .array .boolean
  | 7 => .array .int
  | 8 => .array .int
  | 9 => .int
  | 10 => .array .int
  | 11 => .array .int
  | 12 => .array .int
  | 13 => .int
  | 14 => .int
  | 15 => .int
  | 16 => .array .int
  | 17 => .array .int
  | 18 => .array .int
  | 19 => .array .long
  | _ => .int
abbrev wsX50 : List Cond := u_ws RX5 TX5 21
theorem nmX5 : ∀ a, a < 21 → ∀ b, b < 21 → a ≠ b → (TX5 a).2.1 ≠ (TX5 b).2.1 := by decide +kernel
theorem tyX5_ok : ∀ k, k < 21 → parseFieldDescriptor (TX5 k).2.2.1 = some (tyX5 k) := by decide +kernel
abbrev cX5_init : ByteArray := prog_7_method_1_code
def yX5_init : MethodName := ⟨RX5, "<init>", "()V"⟩
abbrev cX5_thrown : ByteArray := prog_7_method_2_code
def yX5_thrown : MethodName := ⟨RX5, "thrown", "()I"⟩
abbrev cX5_goes : ByteArray := prog_7_method_3_code
def yX5_goes : MethodName := ⟨RX5, "goes", "(I)Z"⟩
abbrev cX5_isIn : ByteArray := prog_7_method_4_code
def yX5_isIn : MethodName := ⟨RX5, "isIn", "(III)Z"⟩
abbrev cX5_isElement : ByteArray := prog_7_method_5_code
def yX5_isElement : MethodName := ⟨RX5, "isElement", "(I)Z"⟩
abbrev cX5_isBearing : ByteArray := prog_7_method_6_code
def yX5_isBearing : MethodName := ⟨RX5, "isBearing", "(I)Z"⟩
abbrev cX5_down : ByteArray := prog_7_method_7_code
def yX5_down : MethodName := ⟨RX5, "down", "(JJ)J"⟩
abbrev cX5_delay : ByteArray := prog_7_method_8_code
def yX5_delay : MethodName := ⟨RX5, "delay", "(II)I"⟩
abbrev cX5_element : ByteArray := prog_7_method_9_code
def yX5_element : MethodName := ⟨RX5, "element", "(III)I"⟩
abbrev cX5_alive : ByteArray := prog_7_method_10_code
def yX5_alive : MethodName := ⟨RX5, "alive", "(IZ)Z"⟩
abbrev cX5_source : ByteArray := prog_7_method_11_code
def yX5_source : MethodName := ⟨RX5, "source", "(III)I"⟩
abbrev cX5_silence : ByteArray := prog_7_method_12_code
def yX5_silence : MethodName := ⟨RX5, "silence", "()I"⟩
abbrev cX5_noise : ByteArray := prog_7_method_13_code
def yX5_noise : MethodName := ⟨RX5, "noise", "(II)I"⟩
abbrev cX5_wave : ByteArray := prog_7_method_14_code
def yX5_wave : MethodName := ⟨RX5, "wave", "(II)I"⟩
abbrev cX5_hears : ByteArray := prog_7_method_15_code
def yX5_hears : MethodName := ⟨RX5, "hears", "(I)V"⟩
abbrev cX5_hear : ByteArray := prog_7_method_16_code
def yX5_hear : MethodName := ⟨RX5, "hear", "(I)I"⟩
abbrev cX5_window : ByteArray := prog_7_method_17_code
def yX5_window : MethodName := ⟨RX5, "window", "(I)I"⟩
abbrev cX5_isKept : ByteArray := prog_7_method_18_code
def yX5_isKept : MethodName := ⟨RX5, "isKept", "(II)Z"⟩
abbrev cX5_kept : ByteArray := prog_7_method_19_code
def yX5_kept : MethodName := ⟨RX5, "kept", "([III)I"⟩
abbrev cX5_weight : ByteArray := prog_7_method_20_code
def yX5_weight : MethodName := ⟨RX5, "weight", "(I)I"⟩
abbrev cX5_sumOf : ByteArray := prog_7_method_21_code
def yX5_sumOf : MethodName := ⟨RX5, "sumOf", "([III)J"⟩
abbrev cX5_powerOf : ByteArray := prog_7_method_22_code
def yX5_powerOf : MethodName := ⟨RX5, "powerOf", "([II)J"⟩
abbrev cX5_lowest : ByteArray := prog_7_method_23_code
def yX5_lowest : MethodName := ⟨RX5, "lowest", "()I"⟩
abbrev cX5_agreement : ByteArray := prog_7_method_24_code
def yX5_agreement : MethodName := ⟨RX5, "agreement", "(IIII)J"⟩
abbrev cX5_becomes : ByteArray := prog_7_method_25_code
def yX5_becomes : MethodName := ⟨RX5, "becomes", "(III)Z"⟩
abbrev cX5_isFitted : ByteArray := prog_7_method_26_code
def yX5_isFitted : MethodName := ⟨RX5, "isFitted", "(IIIJ)Z"⟩
abbrev cX5_calibrate : ByteArray := prog_7_method_27_code
def yX5_calibrate : MethodName := ⟨RX5, "calibrate", "(I)I"⟩
abbrev cX5_sample : ByteArray := prog_7_method_28_code
def yX5_sample : MethodName := ⟨RX5, "sample", "(II)I"⟩
abbrev cX5_sum : ByteArray := prog_7_method_29_code
def yX5_sum : MethodName := ⟨RX5, "sum", "(II)J"⟩
abbrev cX5_power : ByteArray := prog_7_method_30_code
def yX5_power : MethodName := ⟨RX5, "power", "(I)J"⟩
abbrev cX5_powerAnew : ByteArray := prog_7_method_31_code
def yX5_powerAnew : MethodName := ⟨RX5, "powerAnew", "(I)J"⟩
abbrev cX5_findsPowers : ByteArray := prog_7_method_32_code
def yX5_findsPowers : MethodName := ⟨RX5, "findsPowers", "([I)V"⟩
abbrev cX5_greatest : ByteArray := prog_7_method_33_code
def yX5_greatest : MethodName := ⟨RX5, "greatest", "()I"⟩
abbrev cX5_peaks : ByteArray := prog_7_method_34_code
def yX5_peaks : MethodName := ⟨RX5, "peaks", "(I)I"⟩
abbrev cX5_takes : ByteArray := prog_7_method_35_code
def yX5_takes : MethodName := ⟨RX5, "takes", "(I)V"⟩
abbrev cX5_found : ByteArray := prog_7_method_36_code
def yX5_found : MethodName := ⟨RX5, "found", "(I)I"⟩
abbrev cX5_calibrated : ByteArray := prog_7_method_37_code
def yX5_calibrated : MethodName := ⟨RX5, "calibrated", "(IZ)I"⟩
abbrev cX5_tick : ByteArray := prog_7_method_38_code
def yX5_tick : MethodName := ⟨RX5, "tick", "()I"⟩
def RJx145de : String := "java/io/Serializable"
def TJx145de : u_T := fun k => match k with
  | _ => ("", "", "", false)
def tyJx145de : Nat → FieldType := fun k => match k with
  | _ => .int
abbrev wsJx145de0 : List Cond := u_ws RJx145de TJx145de 0
theorem nmJx145de : ∀ a, a < 0 → ∀ b, b < 0 → a ≠ b → (TJx145de a).2.1 ≠ (TJx145de b).2.1 := by decide +kernel
theorem tyJx145de_ok : ∀ k, k < 0 → parseFieldDescriptor (TJx145de k).2.2.1 = some (tyJx145de k) := by decide +kernel
def RJ9 : String := "java/lang/Math"
def TJ9 : u_T := fun k => match k with
  | _ => ("", "", "", false)
def tyJ9 : Nat → FieldType := fun k => match k with
  | _ => .int
abbrev wsJ90 : List Cond := u_ws RJ9 TJ9 0
theorem nmJ9 : ∀ a, a < 0 → ∀ b, b < 0 → a ≠ b → (TJ9 a).2.1 ≠ (TJ9 b).2.1 := by decide +kernel
theorem tyJ9_ok : ∀ k, k < 0 → parseFieldDescriptor (TJ9 k).2.2.1 = some (tyJ9 k) := by decide +kernel
abbrev cJ9_floorDiv_7cf53 : ByteArray := prog_12_method_47_code
def yJ9_floorDiv_7cf53 : MethodName := ⟨RJ9, "floorDiv", "(II)I"⟩
abbrev cJ9_floorDiv_f86c9 : ByteArray := prog_12_method_49_code
def yJ9_floorDiv_f86c9 : MethodName := ⟨RJ9, "floorDiv", "(JJ)J"⟩
abbrev cJ9_floorMod_7cf53 : ByteArray := prog_12_method_50_code
def yJ9_floorMod_7cf53 : MethodName := ⟨RJ9, "floorMod", "(II)I"⟩
abbrev cJ9_max_f86c9 : ByteArray := prog_12_method_66_code
def yJ9_max_f86c9 : MethodName := ⟨RJ9, "max", "(JJ)J"⟩
abbrev cJ9_min_7cf53 : ByteArray := prog_12_method_69_code
def yJ9_min_7cf53 : MethodName := ⟨RJ9, "min", "(II)I"⟩
abbrev cJ9_min_f86c9 : ByteArray := prog_12_method_70_code
def yJ9_min_f86c9 : MethodName := ⟨RJ9, "min", "(JJ)J"⟩
def RJ0 : String := "java/lang/String"
def TJ0 : u_T := fun k => match k with
  | _ => ("", "", "", false)
def tyJ0 : Nat → FieldType := fun k => match k with
  | _ => .int
abbrev wsJ00 : List Cond := u_ws RJ0 TJ0 0
theorem nmJ0 : ∀ a, a < 0 → ∀ b, b < 0 → a ≠ b → (TJ0 a).2.1 ≠ (TJ0 b).2.1 := by decide +kernel
theorem tyJ0_ok : ∀ k, k < 0 → parseFieldDescriptor (TJ0 k).2.2.1 = some (tyJ0 k) := by decide +kernel
def RJ7 : String := "java/util/Arrays"
def TJ7 : u_T := fun k => match k with
  | _ => ("", "", "", false)
def tyJ7 : Nat → FieldType := fun k => match k with
  | _ => .int
abbrev wsJ70 : List Cond := u_ws RJ7 TJ7 0
theorem nmJ7 : ∀ a, a < 0 → ∀ b, b < 0 → a ≠ b → (TJ7 a).2.1 ≠ (TJ7 b).2.1 := by decide +kernel
theorem tyJ7_ok : ∀ k, k < 0 → parseFieldDescriptor (TJ7 k).2.2.1 = some (tyJ7 k) := by decide +kernel
abbrev cJ7_fill_d0a16 : ByteArray := prog_16_method_101_code
def yJ7_fill_d0a16 : MethodName := ⟨RJ7, "fill", "([JJ)V"⟩
def RL : String := "BeamrowLaw"
abbrev cL_element : ByteArray := method_3_code
def yL_element : MethodName := ⟨RL, "element", "(LBeamrow;III[J)I"⟩
abbrev cL_alive : ByteArray := method_4_code
def yL_alive : MethodName := ⟨RL, "alive", "(LBeamrow;IZ[J)I"⟩
abbrev cL_source : ByteArray := method_5_code
def yL_source : MethodName := ⟨RL, "source", "(LBeamrow;III[J)I"⟩
abbrev cL_noise : ByteArray := method_6_code
def yL_noise : MethodName := ⟨RL, "noise", "(LBeamrow;II[J)I"⟩
abbrev cL_hear : ByteArray := method_7_code
def yL_hear : MethodName := ⟨RL, "hear", "(LBeamrow;I[J)I"⟩
abbrev cL_window : ByteArray := method_8_code
def yL_window : MethodName := ⟨RL, "window", "(LBeamrow;I[J)I"⟩
abbrev cL_calibrate : ByteArray := method_9_code
def yL_calibrate : MethodName := ⟨RL, "calibrate", "(LBeamrow;I[J)I"⟩
abbrev cL_sample : ByteArray := method_10_code
def yL_sample : MethodName := ⟨RL, "sample", "(LBeamrow;II[J)I"⟩
abbrev cL_sum : ByteArray := method_11_code
def yL_sum : MethodName := ⟨RL, "sum", "(LBeamrow;II[J)I"⟩
abbrev cL_power : ByteArray := method_12_code
def yL_power : MethodName := ⟨RL, "power", "(LBeamrow;I[J)I"⟩
abbrev cL_powerAnew : ByteArray := method_13_code
def yL_powerAnew : MethodName := ⟨RL, "powerAnew", "(LBeamrow;I[J)I"⟩
abbrev cL_peaks : ByteArray := method_14_code
def yL_peaks : MethodName := ⟨RL, "peaks", "(LBeamrow;I[J)I"⟩
abbrev cL_found : ByteArray := method_15_code
def yL_found : MethodName := ⟨RL, "found", "(LBeamrow;I[J)I"⟩
abbrev cL_calibrated : ByteArray := method_16_code
def yL_calibrated : MethodName := ⟨RL, "calibrated", "(LBeamrow;IZ[J)I"⟩
abbrev cL_law : ByteArray := code
def yL_law : MethodName := ⟨RL, "law", "([I)Z"⟩
def wsX3_init : List Cond := .code yX3_init cX3_init 1 none :: ([.methodLink RX3 3 objectInit, .instanceMethod objectInit, .code objectInit ⟨#[0xb1]⟩ 1 none, .arrayClass .int, .fieldLink RX3 9 "Beamrow$Tape" "slots" "[I"] ++ wsX30)
def wsX0_init : List Cond := .code yX0_init cX0_init 1 none :: ([.methodLink RX0 3 objectInit, .instanceMethod objectInit, .code objectInit ⟨#[0xb1]⟩ 1 none, .classLink RX0 9 RX3, .instantiable RX3 3, .initialized RX3, .fieldLink RX0 12 "Beamrow$Element" "tape" "LBeamrow$Tape;", .arrayClass .long, .fieldLink RX0 18 "Beamrow$Element" "laid" "[J", .fieldLink RX0 22 "Beamrow$Element" "turned" "[J", .fieldLink RX0 25 "Beamrow$Element" "trimGain" "I", .instanceMethod yX3_init, .code yX3_init cX3_init 1 none, .methodLink RX3 3 objectInit, .arrayClass .int, .fieldLink RX3 9 "Beamrow$Tape" "slots" "[I"] ++ wsX30 ++ wsX00)
def wsX3_beginAt : List Cond := .code yX3_beginAt cX3_beginAt 2 none :: ([.fieldLink RX3 15 "Beamrow$Tape" "begin" "I", .fieldLink RX3 19 "Beamrow$Tape" "end" "I"] ++ wsX30)
def wsX0_putUp : List Cond := .code yX0_putUp cX0_putUp 5 none :: ([.fieldLink RX0 29 "Beamrow$Element" "up" "Z", .fieldLink RX0 33 "Beamrow$Element" "living" "Z", .fieldLink RX0 36 "Beamrow$Element" "position" "I", .fieldLink RX0 39 "Beamrow$Element" "gain" "I", .fieldLink RX0 42 "Beamrow$Element" "lag" "I", .fieldLink RX0 12 "Beamrow$Element" "tape" "LBeamrow$Tape;", .methodLink RX0 45 yX3_beginAt, .instanceMethod yX3_beginAt, .selects RX3 yX3_beginAt yX3_beginAt, .initialized RX3, .code yX3_beginAt cX3_beginAt 2 none, .fieldLink RX3 15 "Beamrow$Tape" "begin" "I", .fieldLink RX3 19 "Beamrow$Tape" "end" "I"] ++ wsX00 ++ wsX30)
def wsX0_isUp : List Cond := .code yX0_isUp cX0_isUp 1 (some .boolean) :: ([.fieldLink RX0 29 "Beamrow$Element" "up" "Z"] ++ wsX00)
def wsX0_isLiving : List Cond := .code yX0_isLiving cX0_isLiving 1 (some .boolean) :: ([.fieldLink RX0 33 "Beamrow$Element" "living" "Z"] ++ wsX00)
def wsX0_setLiving : List Cond := .code yX0_setLiving cX0_setLiving 2 none :: ([.fieldLink RX0 33 "Beamrow$Element" "living" "Z"] ++ wsX00)
def wsX0_getLag : List Cond := .code yX0_getLag cX0_getLag 1 (some .int) :: ([.fieldLink RX0 42 "Beamrow$Element" "lag" "I"] ++ wsX00)
def wsX0_getTrimGain : List Cond := .code yX0_getTrimGain cX0_getTrimGain 1 (some .int) :: ([.fieldLink RX0 25 "Beamrow$Element" "trimGain" "I"] ++ wsX00)
def wsX0_getTrimLag : List Cond := .code yX0_getTrimLag cX0_getTrimLag 1 (some .int) :: ([.fieldLink RX0 49 "Beamrow$Element" "trimLag" "I"] ++ wsX00)
def wsX0_trim : List Cond := .code yX0_trim cX0_trim 4 (some .boolean) :: ([.fieldLink RX0 25 "Beamrow$Element" "trimGain" "I", .fieldLink RX0 49 "Beamrow$Element" "trimLag" "I"] ++ wsX00)
def wsJ9_floorDiv_7cf53 : List Cond := .code yJ9_floorDiv_7cf53 cJ9_floorDiv_7cf53 3 (some .int) :: ([])
def wsX0_delayFor : List Cond := .code yX0_delayFor cX0_delayFor 2 (some .int) :: ([.fieldLink RX0 36 "Beamrow$Element" "position" "I", .methodLink RX0 52 yJ9_floorDiv_7cf53, .static yJ9_floorDiv_7cf53, .initialized RJ9, .code yJ9_floorDiv_7cf53 cJ9_floorDiv_7cf53 3 (some .int)] ++ wsX00)
def wsX0_heardOf : List Cond := .code yX0_heardOf cX0_heardOf 2 (some .int) :: ([.fieldLink RX0 39 "Beamrow$Element" "gain" "I", .methodLink RX0 52 yJ9_floorDiv_7cf53, .static yJ9_floorDiv_7cf53, .initialized RJ9, .code yJ9_floorDiv_7cf53 cJ9_floorDiv_7cf53 3 (some .int)] ++ wsX00)
def wsX3_slotOf : List Cond := .code yX3_slotOf cX3_slotOf 1 (some .int) :: ([])
def wsX3_add : List Cond := .code yX3_add cX3_add 3 none :: ([.fieldLink RX3 19 "Beamrow$Tape" "end" "I", .fieldLink RX3 9 "Beamrow$Tape" "slots" "[I", .methodLink RX3 22 yX3_slotOf, .static yX3_slotOf, .initialized RX3, .code yX3_slotOf cX3_slotOf 1 (some .int)] ++ wsX30)
def wsX0_keep : List Cond := .code yX0_keep cX0_keep 2 none :: ([.fieldLink RX0 12 "Beamrow$Element" "tape" "LBeamrow$Tape;", .methodLink RX0 58 yX3_add, .instanceMethod yX3_add, .selects RX3 yX3_add yX3_add, .initialized RX3, .code yX3_add cX3_add 3 none, .fieldLink RX3 19 "Beamrow$Tape" "end" "I", .fieldLink RX3 9 "Beamrow$Tape" "slots" "[I", .methodLink RX3 22 yX3_slotOf, .static yX3_slotOf, .code yX3_slotOf cX3_slotOf 1 (some .int)] ++ wsX00 ++ wsX30)
def wsX3_keeps : List Cond := .code yX3_keeps cX3_keeps 2 (some .boolean) :: ([.fieldLink RX3 19 "Beamrow$Tape" "end" "I", .fieldLink RX3 15 "Beamrow$Tape" "begin" "I"] ++ wsX30)
def wsX3_at : List Cond := .code yX3_at cX3_at 3 (some .int) :: ([.fieldLink RX3 19 "Beamrow$Tape" "end" "I", .fieldLink RX3 9 "Beamrow$Tape" "slots" "[I", .methodLink RX3 22 yX3_slotOf, .static yX3_slotOf, .initialized RX3, .code yX3_slotOf cX3_slotOf 1 (some .int), .methodLink RX3 26 yX3_keeps, .instanceMethod yX3_keeps, .selects RX3 yX3_keeps yX3_keeps, .code yX3_keeps cX3_keeps 2 (some .boolean), .fieldLink RX3 15 "Beamrow$Tape" "begin" "I"] ++ wsX30)
def wsX0_keptAt : List Cond := .code yX0_keptAt cX0_keptAt 2 (some .int) :: ([.fieldLink RX0 12 "Beamrow$Element" "tape" "LBeamrow$Tape;", .methodLink RX0 61 yX3_at, .instanceMethod yX3_at, .selects RX3 yX3_at yX3_at, .initialized RX3, .code yX3_at cX3_at 3 (some .int), .fieldLink RX3 19 "Beamrow$Tape" "end" "I", .fieldLink RX3 9 "Beamrow$Tape" "slots" "[I", .methodLink RX3 22 yX3_slotOf, .static yX3_slotOf, .code yX3_slotOf cX3_slotOf 1 (some .int), .methodLink RX3 26 yX3_keeps, .instanceMethod yX3_keeps, .selects RX3 yX3_keeps yX3_keeps, .code yX3_keeps cX3_keeps 2 (some .boolean), .fieldLink RX3 15 "Beamrow$Tape" "begin" "I"] ++ wsX00 ++ wsX30)
def wsJ9_floorDiv_f86c9 : List Cond := .code yJ9_floorDiv_f86c9 cJ9_floorDiv_f86c9 6 (some .long) :: ([])
def wsX0_turnAll : List Cond := .code yX0_turnAll cX0_turnAll 2 none :: ([.fieldLink RX0 65 "Beamrow$Element" "weight" "J", .fieldLink RX0 25 "Beamrow$Element" "trimGain" "I", .fieldLink RX0 22 "Beamrow$Element" "turned" "[J", .fieldLink RX0 18 "Beamrow$Element" "laid" "[J", .constantLong RX0 72 (64), .methodLink RX0 74 yJ9_floorDiv_f86c9, .static yJ9_floorDiv_f86c9, .initialized RJ9, .code yJ9_floorDiv_f86c9 cJ9_floorDiv_f86c9 6 (some .long)] ++ wsX00)
def wsX0_layOut_r1 : List Cond := [Cond.fieldLink RX0 65 "Beamrow$Element" "weight" "J", Cond.fieldLink RX0 18 "Beamrow$Element" "laid" "[J", Cond.fieldLink RX0 12 "Beamrow$Element" "tape" "LBeamrow$Tape;", Cond.methodLink RX0 61 yX3_at, Cond.instanceMethod yX3_at, Cond.selects RX3 yX3_at yX3_at, Cond.initialized RX3, Cond.code yX3_at cX3_at 3 (some .int), Cond.fieldLink RX3 19 "Beamrow$Tape" "end" "I", Cond.fieldLink RX3 9 "Beamrow$Tape" "slots" "[I", Cond.methodLink RX3 22 yX3_slotOf, Cond.static yX3_slotOf, Cond.code yX3_slotOf cX3_slotOf 1 (some .int), Cond.methodLink RX3 26 yX3_keeps, Cond.instanceMethod yX3_keeps, Cond.selects RX3 yX3_keeps yX3_keeps, Cond.code yX3_keeps cX3_keeps 2 (some .boolean), Cond.fieldLink RX3 15 "Beamrow$Tape" "begin" "I", Cond.methodLink RX0 69 yX0_turnAll, Cond.instanceMethod yX0_turnAll, Cond.selects RX0 yX0_turnAll yX0_turnAll, Cond.initialized RX0, Cond.code yX0_turnAll cX0_turnAll 2 none, Cond.fieldLink RX0 25 "Beamrow$Element" "trimGain" "I"]
def wsX0_layOut_r2 : List Cond := [Cond.fieldLink RX0 22 "Beamrow$Element" "turned" "[J", Cond.constantLong RX0 72 (64), Cond.methodLink RX0 74 yJ9_floorDiv_f86c9, Cond.static yJ9_floorDiv_f86c9, Cond.initialized RJ9, Cond.code yJ9_floorDiv_f86c9 cJ9_floorDiv_f86c9 6 (some .long)]
def wsX0_layOut : List Cond := .code yX0_layOut cX0_layOut 3 none :: ((wsX0_layOut_r1 ++ wsX0_layOut_r2) ++ wsX00 ++ wsX30)
def wsX0_firstTold : List Cond := .code yX0_firstTold cX0_firstTold 2 (some .int) :: ([.fieldLink RX0 49 "Beamrow$Element" "trimLag" "I", .methodLink RX0 77 yX0_delayFor, .instanceMethod yX0_delayFor, .selects RX0 yX0_delayFor yX0_delayFor, .initialized RX0, .code yX0_delayFor cX0_delayFor 2 (some .int), .fieldLink RX0 36 "Beamrow$Element" "position" "I", .methodLink RX0 52 yJ9_floorDiv_7cf53, .static yJ9_floorDiv_7cf53, .initialized RJ9, .code yJ9_floorDiv_7cf53 cJ9_floorDiv_7cf53 3 (some .int)] ++ wsX00)
def wsX0_toldAt : List Cond := .code yX0_toldAt cX0_toldAt 2 (some .long) :: ([.fieldLink RX0 22 "Beamrow$Element" "turned" "[J"] ++ wsX00)
def wsX0_laidAt : List Cond := .code yX0_laidAt cX0_laidAt 2 (some .long) :: ([.fieldLink RX0 18 "Beamrow$Element" "laid" "[J"] ++ wsX00)
def wsX0_tellTo : List Cond := .code yX0_tellTo cX0_tellTo 5 none :: ([.fieldLink RX0 65 "Beamrow$Element" "weight" "J", .methodLink RX0 80 yX0_firstTold, .instanceMethod yX0_firstTold, .selects RX0 yX0_firstTold yX0_firstTold, .initialized RX0, .code yX0_firstTold cX0_firstTold 2 (some .int), .fieldLink RX0 49 "Beamrow$Element" "trimLag" "I", .methodLink RX0 77 yX0_delayFor, .instanceMethod yX0_delayFor, .selects RX0 yX0_delayFor yX0_delayFor, .code yX0_delayFor cX0_delayFor 2 (some .int), .fieldLink RX0 36 "Beamrow$Element" "position" "I", .methodLink RX0 52 yJ9_floorDiv_7cf53, .static yJ9_floorDiv_7cf53, .initialized RJ9, .code yJ9_floorDiv_7cf53 cJ9_floorDiv_7cf53 3 (some .int), .methodLink RX0 83 yX0_toldAt, .instanceMethod yX0_toldAt, .selects RX0 yX0_toldAt yX0_toldAt, .code yX0_toldAt cX0_toldAt 2 (some .long), .fieldLink RX0 22 "Beamrow$Element" "turned" "[J"] ++ wsX00)
def wsX0_toldWith : List Cond := .code yX0_toldWith cX0_toldWith 8 (some .long) :: ([.fieldLink RX0 65 "Beamrow$Element" "weight" "J", .methodLink RX0 80 yX0_firstTold, .instanceMethod yX0_firstTold, .selects RX0 yX0_firstTold yX0_firstTold, .initialized RX0, .code yX0_firstTold cX0_firstTold 2 (some .int), .fieldLink RX0 49 "Beamrow$Element" "trimLag" "I", .methodLink RX0 77 yX0_delayFor, .instanceMethod yX0_delayFor, .selects RX0 yX0_delayFor yX0_delayFor, .code yX0_delayFor cX0_delayFor 2 (some .int), .fieldLink RX0 36 "Beamrow$Element" "position" "I", .methodLink RX0 52 yJ9_floorDiv_7cf53, .static yJ9_floorDiv_7cf53, .initialized RJ9, .code yJ9_floorDiv_7cf53 cJ9_floorDiv_7cf53 3 (some .int), .methodLink RX0 83 yX0_toldAt, .instanceMethod yX0_toldAt, .selects RX0 yX0_toldAt yX0_toldAt, .code yX0_toldAt cX0_toldAt 2 (some .long), .fieldLink RX0 22 "Beamrow$Element" "turned" "[J"] ++ wsX00)
def wsX0_takeAway_r1 : List Cond := [Cond.fieldLink RX0 65 "Beamrow$Element" "weight" "J", Cond.fieldLink RX0 12 "Beamrow$Element" "tape" "LBeamrow$Tape;", Cond.fieldLink RX0 18 "Beamrow$Element" "laid" "[J", Cond.methodLink RX0 80 yX0_firstTold, Cond.instanceMethod yX0_firstTold, Cond.selects RX0 yX0_firstTold yX0_firstTold, Cond.initialized RX0, Cond.code yX0_firstTold cX0_firstTold 2 (some .int), Cond.fieldLink RX0 49 "Beamrow$Element" "trimLag" "I", Cond.methodLink RX0 77 yX0_delayFor, Cond.instanceMethod yX0_delayFor, Cond.selects RX0 yX0_delayFor yX0_delayFor, Cond.code yX0_delayFor cX0_delayFor 2 (some .int), Cond.fieldLink RX0 36 "Beamrow$Element" "position" "I", Cond.methodLink RX0 52 yJ9_floorDiv_7cf53, Cond.static yJ9_floorDiv_7cf53, Cond.initialized RJ9, Cond.code yJ9_floorDiv_7cf53 cJ9_floorDiv_7cf53 3 (some .int), Cond.methodLink RX0 87 yX3_keeps, Cond.instanceMethod yX3_keeps, Cond.selects RX3 yX3_keeps yX3_keeps, Cond.initialized RX3, Cond.code yX3_keeps cX3_keeps 2 (some .boolean), Cond.fieldLink RX3 19 "Beamrow$Tape" "end" "I"]
def wsX0_takeAway_r2 : List Cond := [Cond.fieldLink RX3 15 "Beamrow$Tape" "begin" "I"]
def wsX0_takeAway : List Cond := .code yX0_takeAway cX0_takeAway 6 none :: ((wsX0_takeAway_r1 ++ wsX0_takeAway_r2) ++ wsX00 ++ wsX30)
def wsX0_agreement : List Cond := .code yX0_agreement cX0_agreement 9 (some .long) :: ([.methodLink RX0 77 yX0_delayFor, .instanceMethod yX0_delayFor, .selects RX0 yX0_delayFor yX0_delayFor, .initialized RX0, .code yX0_delayFor cX0_delayFor 2 (some .int), .fieldLink RX0 36 "Beamrow$Element" "position" "I", .methodLink RX0 52 yJ9_floorDiv_7cf53, .static yJ9_floorDiv_7cf53, .initialized RJ9, .code yJ9_floorDiv_7cf53 cJ9_floorDiv_7cf53 3 (some .int), .methodLink RX0 91 yX0_laidAt, .instanceMethod yX0_laidAt, .selects RX0 yX0_laidAt yX0_laidAt, .code yX0_laidAt cX0_laidAt 2 (some .long), .fieldLink RX0 18 "Beamrow$Element" "laid" "[J"] ++ wsX00)
def wsX1_init : List Cond := .code yX1_init cX1_init 1 none :: ([.methodLink RX1 1 objectInit, .instanceMethod objectInit, .code objectInit ⟨#[0xb1]⟩ 1 none, .fieldLink RX1 7 "Beamrow$Hiss" "number" "I"] ++ wsX10)
def wsX1_set : List Cond := .code yX1_set cX1_set 3 none :: ([.fieldLink RX1 13 "Beamrow$Hiss" "loudness" "I", .fieldLink RX1 7 "Beamrow$Hiss" "number" "I"] ++ wsX10)
def wsX1_getLoudness : List Cond := .code yX1_getLoudness cX1_getLoudness 1 (some .int) :: ([.fieldLink RX1 13 "Beamrow$Hiss" "loudness" "I"] ++ wsX10)
def wsX1_draw : List Cond := .code yX1_draw cX1_draw 2 (some .int) :: ([.fieldLink RX1 7 "Beamrow$Hiss" "number" "I", .constant RX1 16 (65537), .fieldLink RX1 13 "Beamrow$Hiss" "loudness" "I"] ++ wsX10)
def wsX2_init : List Cond := .code yX2_init cX2_init 1 none :: ([.methodLink RX2 1 objectInit, .instanceMethod objectInit, .code objectInit ⟨#[0xb1]⟩ 1 none, .fieldLink RX2 7 "Beamrow$Source" "period" "I"] ++ wsX20)
def wsX2_setUp : List Cond := .code yX2_setUp cX2_setUp 4 none :: ([.fieldLink RX2 13 "Beamrow$Source" "bearing" "I", .fieldLink RX2 16 "Beamrow$Source" "strength" "I", .fieldLink RX2 7 "Beamrow$Source" "period" "I"] ++ wsX20)
def wsX2_getBearing : List Cond := .code yX2_getBearing cX2_getBearing 1 (some .int) :: ([.fieldLink RX2 13 "Beamrow$Source" "bearing" "I"] ++ wsX20)
def wsJ9_floorMod_7cf53 : List Cond := .code yJ9_floorMod_7cf53 cJ9_floorMod_7cf53 3 (some .int) :: ([])
def wsX2_waveAt : List Cond := .code yX2_waveAt cX2_waveAt 2 (some .int) :: ([.fieldLink RX2 7 "Beamrow$Source" "period" "I", .fieldLink RX2 16 "Beamrow$Source" "strength" "I", .methodLink RX2 19 yJ9_floorMod_7cf53, .static yJ9_floorMod_7cf53, .initialized RJ9, .code yJ9_floorMod_7cf53 cJ9_floorMod_7cf53 3 (some .int)] ++ wsX20)
def wsX4_init_r1 : List Cond := [Cond.methodLink RX4 3 objectInit, Cond.instanceMethod objectInit, Cond.code objectInit ⟨#[0xb1]⟩ 1 none, Cond.classLink RX4 9 RX0, Cond.fieldLink RX4 11 "Beamrow" "elements" "[LBeamrow$Element;", Cond.classLink RX4 15 RX2, Cond.fieldLink RX4 17 "Beamrow" "sources" "[LBeamrow$Source;", Cond.classLink RX4 21 RX1, Cond.instantiable RX1 2, Cond.initialized RX1, Cond.fieldLink RX4 24 "Beamrow" "hiss" "LBeamrow$Hiss;", Cond.arrayClass .long, Cond.fieldLink RX4 28 "Beamrow" "sums" "[J", Cond.fieldLink RX4 32 "Beamrow" "powers" "[J", Cond.instantiable RX0 11, Cond.initialized RX0, Cond.instantiable RX2 3, Cond.initialized RX2, Cond.fieldLink RX4 37 "Beamrow" "shape" "I", Cond.instanceMethod yX1_init, Cond.code yX1_init cX1_init 1 none, Cond.methodLink RX1 1 objectInit, Cond.fieldLink RX1 7 "Beamrow$Hiss" "number" "I", Cond.instanceMethod yX0_init]
def wsX4_init_r2 : List Cond := [Cond.code yX0_init cX0_init 1 none, Cond.methodLink RX0 3 objectInit, Cond.classLink RX0 9 RX3, Cond.instantiable RX3 3, Cond.initialized RX3, Cond.fieldLink RX0 12 "Beamrow$Element" "tape" "LBeamrow$Tape;", Cond.fieldLink RX0 18 "Beamrow$Element" "laid" "[J", Cond.fieldLink RX0 22 "Beamrow$Element" "turned" "[J", Cond.fieldLink RX0 25 "Beamrow$Element" "trimGain" "I", Cond.instanceMethod yX3_init, Cond.code yX3_init cX3_init 1 none, Cond.methodLink RX3 3 objectInit, Cond.arrayClass .int, Cond.fieldLink RX3 9 "Beamrow$Tape" "slots" "[I", Cond.instanceMethod yX2_init, Cond.code yX2_init cX2_init 1 none, Cond.methodLink RX2 1 objectInit, Cond.fieldLink RX2 7 "Beamrow$Source" "period" "I"]
def wsX4_init : List Cond := .code yX4_init cX4_init 2 none :: ((wsX4_init_r1 ++ wsX4_init_r2) ++ wsX40 ++ wsX10 ++ wsX00 ++ wsX20 ++ wsX30)
def wsX4_isWithin : List Cond := .code yX4_isWithin cX4_isWithin 3 (some .boolean) :: ([])
def wsX4_element_r1 : List Cond := [Cond.classLink RX4 45 "java/lang/IllegalArgumentException", Cond.initialized "java/lang/IllegalArgumentException", Cond.classLink RX4 55 "java/lang/IllegalStateException", Cond.initialized "java/lang/IllegalStateException", Cond.fieldLink RX4 52 "Beamrow" "elementCount" "I", Cond.fieldLink RX4 11 "Beamrow" "elements" "[LBeamrow$Element;", Cond.fieldLink RX4 60 "Beamrow" "nextTick" "I", Cond.methodLink RX4 41 yX4_isWithin, Cond.static yX4_isWithin, Cond.initialized RX4, Cond.code yX4_isWithin cX4_isWithin 3 (some .boolean), Cond.methodLink RX4 63 yX0_putUp, Cond.instanceMethod yX0_putUp, Cond.selects RX0 yX0_putUp yX0_putUp, Cond.initialized RX0, Cond.code yX0_putUp cX0_putUp 5 none, Cond.fieldLink RX0 29 "Beamrow$Element" "up" "Z", Cond.fieldLink RX0 33 "Beamrow$Element" "living" "Z", Cond.fieldLink RX0 36 "Beamrow$Element" "position" "I", Cond.fieldLink RX0 39 "Beamrow$Element" "gain" "I", Cond.fieldLink RX0 42 "Beamrow$Element" "lag" "I", Cond.fieldLink RX0 12 "Beamrow$Element" "tape" "LBeamrow$Tape;", Cond.methodLink RX0 45 yX3_beginAt, Cond.instanceMethod yX3_beginAt]
def wsX4_element_r2 : List Cond := [Cond.selects RX3 yX3_beginAt yX3_beginAt, Cond.initialized RX3, Cond.code yX3_beginAt cX3_beginAt 2 none, Cond.fieldLink RX3 15 "Beamrow$Tape" "begin" "I", Cond.fieldLink RX3 19 "Beamrow$Tape" "end" "I"]
def wsX4_element : List Cond := .code yX4_element cX4_element 5 (some .int) :: ((wsX4_element_r1 ++ wsX4_element_r2) ++ wsX40 ++ wsX00 ++ wsX30 ++ (vx_atS RX4 49 "java/lang/IllegalArgumentException" ["java/lang/RuntimeException", "java/lang/Exception"]).filter goodWord ++ (vx_atS RX4 59 "java/lang/IllegalStateException" ["java/lang/RuntimeException", "java/lang/Exception"]).filter goodWord)
def wsX4_isElement : List Cond := .code yX4_isElement cX4_isElement 2 (some .boolean) :: ([.fieldLink RX4 52 "Beamrow" "elementCount" "I", .fieldLink RX4 11 "Beamrow" "elements" "[LBeamrow$Element;"] ++ wsX40)
def wsX4_alive : List Cond := .code yX4_alive cX4_alive 4 (some .boolean) :: ([.classLink RX4 71 "java/lang/IndexOutOfBoundsException", .initialized "java/lang/IndexOutOfBoundsException", .fieldLink RX4 11 "Beamrow" "elements" "[LBeamrow$Element;", .methodLink RX4 67 yX4_isElement, .instanceMethod yX4_isElement, .selects RX4 yX4_isElement yX4_isElement, .initialized RX4, .code yX4_isElement cX4_isElement 2 (some .boolean), .fieldLink RX4 52 "Beamrow" "elementCount" "I", .methodLink RX4 76 yX0_isLiving, .instanceMethod yX0_isLiving, .selects RX0 yX0_isLiving yX0_isLiving, .initialized RX0, .code yX0_isLiving cX0_isLiving 1 (some .boolean), .fieldLink RX0 33 "Beamrow$Element" "living" "Z", .methodLink RX4 80 yX0_setLiving, .instanceMethod yX0_setLiving, .selects RX0 yX0_setLiving yX0_setLiving, .code yX0_setLiving cX0_setLiving 2 none] ++ wsX40 ++ wsX00 ++ (vx_atS RX4 75 "java/lang/IndexOutOfBoundsException" ["java/lang/RuntimeException", "java/lang/Exception"]).filter goodWord)
def wsX4_isBearing : List Cond := .code yX4_isBearing cX4_isBearing 1 (some .boolean) :: ([.methodLink RX4 41 yX4_isWithin, .static yX4_isWithin, .initialized RX4, .code yX4_isWithin cX4_isWithin 3 (some .boolean)])
def wsX4_source : List Cond := .code yX4_source cX4_source 5 (some .int) :: ([.classLink RX4 71 "java/lang/IndexOutOfBoundsException", .initialized "java/lang/IndexOutOfBoundsException", .classLink RX4 45 "java/lang/IllegalArgumentException", .initialized "java/lang/IllegalArgumentException", .classLink RX4 55 "java/lang/IllegalStateException", .initialized "java/lang/IllegalStateException", .fieldLink RX4 91 "Beamrow" "sourceCount" "I", .fieldLink RX4 17 "Beamrow" "sources" "[LBeamrow$Source;", .methodLink RX4 84 yX4_isBearing, .static yX4_isBearing, .initialized RX4, .code yX4_isBearing cX4_isBearing 1 (some .boolean), .methodLink RX4 41 yX4_isWithin, .static yX4_isWithin, .code yX4_isWithin cX4_isWithin 3 (some .boolean), .methodLink RX4 96 yX2_setUp, .instanceMethod yX2_setUp, .selects RX2 yX2_setUp yX2_setUp, .initialized RX2, .code yX2_setUp cX2_setUp 4 none, .fieldLink RX2 13 "Beamrow$Source" "bearing" "I", .fieldLink RX2 16 "Beamrow$Source" "strength" "I", .fieldLink RX2 7 "Beamrow$Source" "period" "I"] ++ wsX40 ++ wsX20 ++ (vx_atS RX4 75 "java/lang/IndexOutOfBoundsException" ["java/lang/RuntimeException", "java/lang/Exception"]).filter goodWord ++ (vx_atS RX4 49 "java/lang/IllegalArgumentException" ["java/lang/RuntimeException", "java/lang/Exception"]).filter goodWord ++ (vx_atS RX4 59 "java/lang/IllegalStateException" ["java/lang/RuntimeException", "java/lang/Exception"]).filter goodWord)
def wsX4_silence : List Cond := .code yX4_silence cX4_silence 2 (some .int) :: ([.fieldLink RX4 91 "Beamrow" "sourceCount" "I"] ++ wsX40)
def wsX4_noise : List Cond := .code yX4_noise cX4_noise 4 (some .int) :: ([.classLink RX4 45 "java/lang/IllegalArgumentException", .initialized "java/lang/IllegalArgumentException", .constant RX4 100 (65536), .fieldLink RX4 24 "Beamrow" "hiss" "LBeamrow$Hiss;", .methodLink RX4 41 yX4_isWithin, .static yX4_isWithin, .initialized RX4, .code yX4_isWithin cX4_isWithin 3 (some .boolean), .methodLink RX4 103 yX1_getLoudness, .instanceMethod yX1_getLoudness, .selects RX1 yX1_getLoudness yX1_getLoudness, .initialized RX1, .code yX1_getLoudness cX1_getLoudness 1 (some .int), .fieldLink RX1 13 "Beamrow$Hiss" "loudness" "I", .methodLink RX4 107 yX1_set, .instanceMethod yX1_set, .selects RX1 yX1_set yX1_set, .code yX1_set cX1_set 3 none, .fieldLink RX1 7 "Beamrow$Hiss" "number" "I"] ++ wsX40 ++ wsX10 ++ (vx_atS RX4 49 "java/lang/IllegalArgumentException" ["java/lang/RuntimeException", "java/lang/Exception"]).filter goodWord)
def wsX4_wavesAt_r1 : List Cond := [Cond.fieldLink RX4 91 "Beamrow" "sourceCount" "I", Cond.fieldLink RX4 17 "Beamrow" "sources" "[LBeamrow$Source;", Cond.fieldLink RX4 60 "Beamrow" "nextTick" "I", Cond.methodLink RX4 198 yX2_getBearing, Cond.instanceMethod yX2_getBearing, Cond.selects RX2 yX2_getBearing yX2_getBearing, Cond.initialized RX2, Cond.code yX2_getBearing cX2_getBearing 1 (some .int), Cond.fieldLink RX2 13 "Beamrow$Source" "bearing" "I", Cond.methodLink RX4 201 yX0_delayFor, Cond.instanceMethod yX0_delayFor, Cond.selects RX0 yX0_delayFor yX0_delayFor, Cond.initialized RX0, Cond.code yX0_delayFor cX0_delayFor 2 (some .int), Cond.fieldLink RX0 36 "Beamrow$Element" "position" "I", Cond.methodLink RX0 52 yJ9_floorDiv_7cf53, Cond.static yJ9_floorDiv_7cf53, Cond.initialized RJ9, Cond.code yJ9_floorDiv_7cf53 cJ9_floorDiv_7cf53 3 (some .int), Cond.methodLink RX4 204 yX0_getLag, Cond.instanceMethod yX0_getLag, Cond.selects RX0 yX0_getLag yX0_getLag, Cond.code yX0_getLag cX0_getLag 1 (some .int), Cond.fieldLink RX0 42 "Beamrow$Element" "lag" "I"]
def wsX4_wavesAt_r2 : List Cond := [Cond.methodLink RX4 207 yX2_waveAt, Cond.instanceMethod yX2_waveAt, Cond.selects RX2 yX2_waveAt yX2_waveAt, Cond.code yX2_waveAt cX2_waveAt 2 (some .int), Cond.fieldLink RX2 7 "Beamrow$Source" "period" "I", Cond.fieldLink RX2 16 "Beamrow$Source" "strength" "I", Cond.methodLink RX2 19 yJ9_floorMod_7cf53, Cond.static yJ9_floorMod_7cf53, Cond.code yJ9_floorMod_7cf53 cJ9_floorMod_7cf53 3 (some .int)]
def wsX4_wavesAt : List Cond := .code yX4_wavesAt cX4_wavesAt 5 (some .int) :: ((wsX4_wavesAt_r1 ++ wsX4_wavesAt_r2) ++ wsX40 ++ wsX20 ++ wsX00)
def wsX4_hearOneTick_r1 : List Cond := [Cond.fieldLink RX4 11 "Beamrow" "elements" "[LBeamrow$Element;", Cond.fieldLink RX4 24 "Beamrow" "hiss" "LBeamrow$Hiss;", Cond.fieldLink RX4 60 "Beamrow" "nextTick" "I", Cond.methodLink RX4 182 yX0_isUp, Cond.instanceMethod yX0_isUp, Cond.selects RX0 yX0_isUp yX0_isUp, Cond.initialized RX0, Cond.code yX0_isUp cX0_isUp 1 (some .boolean), Cond.fieldLink RX0 29 "Beamrow$Element" "up" "Z", Cond.methodLink RX4 185 yX1_draw, Cond.instanceMethod yX1_draw, Cond.selects RX1 yX1_draw yX1_draw, Cond.initialized RX1, Cond.code yX1_draw cX1_draw 2 (some .int), Cond.fieldLink RX1 7 "Beamrow$Hiss" "number" "I", Cond.constant RX1 16 (65537), Cond.fieldLink RX1 13 "Beamrow$Hiss" "loudness" "I", Cond.methodLink RX4 76 yX0_isLiving, Cond.instanceMethod yX0_isLiving, Cond.selects RX0 yX0_isLiving yX0_isLiving, Cond.code yX0_isLiving cX0_isLiving 1 (some .boolean), Cond.fieldLink RX0 33 "Beamrow$Element" "living" "Z", Cond.methodLink RX4 188 yX4_wavesAt, Cond.instanceMethod yX4_wavesAt]
def wsX4_hearOneTick_r2 : List Cond := [Cond.selects RX4 yX4_wavesAt yX4_wavesAt, Cond.initialized RX4, Cond.code yX4_wavesAt cX4_wavesAt 5 (some .int), Cond.fieldLink RX4 91 "Beamrow" "sourceCount" "I", Cond.fieldLink RX4 17 "Beamrow" "sources" "[LBeamrow$Source;", Cond.methodLink RX4 198 yX2_getBearing, Cond.instanceMethod yX2_getBearing, Cond.selects RX2 yX2_getBearing yX2_getBearing, Cond.initialized RX2, Cond.code yX2_getBearing cX2_getBearing 1 (some .int), Cond.fieldLink RX2 13 "Beamrow$Source" "bearing" "I", Cond.methodLink RX4 201 yX0_delayFor, Cond.instanceMethod yX0_delayFor, Cond.selects RX0 yX0_delayFor yX0_delayFor, Cond.code yX0_delayFor cX0_delayFor 2 (some .int), Cond.fieldLink RX0 36 "Beamrow$Element" "position" "I", Cond.methodLink RX0 52 yJ9_floorDiv_7cf53, Cond.static yJ9_floorDiv_7cf53, Cond.initialized RJ9, Cond.code yJ9_floorDiv_7cf53 cJ9_floorDiv_7cf53 3 (some .int), Cond.methodLink RX4 204 yX0_getLag, Cond.instanceMethod yX0_getLag, Cond.selects RX0 yX0_getLag yX0_getLag, Cond.code yX0_getLag cX0_getLag 1 (some .int)]
def wsX4_hearOneTick_r3 : List Cond := [Cond.fieldLink RX0 42 "Beamrow$Element" "lag" "I", Cond.methodLink RX4 207 yX2_waveAt, Cond.instanceMethod yX2_waveAt, Cond.selects RX2 yX2_waveAt yX2_waveAt, Cond.code yX2_waveAt cX2_waveAt 2 (some .int), Cond.fieldLink RX2 7 "Beamrow$Source" "period" "I", Cond.fieldLink RX2 16 "Beamrow$Source" "strength" "I", Cond.methodLink RX2 19 yJ9_floorMod_7cf53, Cond.static yJ9_floorMod_7cf53, Cond.code yJ9_floorMod_7cf53 cJ9_floorMod_7cf53 3 (some .int), Cond.methodLink RX4 192 yX0_heardOf, Cond.instanceMethod yX0_heardOf, Cond.selects RX0 yX0_heardOf yX0_heardOf, Cond.code yX0_heardOf cX0_heardOf 2 (some .int), Cond.fieldLink RX0 39 "Beamrow$Element" "gain" "I", Cond.methodLink RX4 195 yX0_keep, Cond.instanceMethod yX0_keep, Cond.selects RX0 yX0_keep yX0_keep, Cond.code yX0_keep cX0_keep 2 none, Cond.fieldLink RX0 12 "Beamrow$Element" "tape" "LBeamrow$Tape;", Cond.methodLink RX0 58 yX3_add, Cond.instanceMethod yX3_add, Cond.selects RX3 yX3_add yX3_add, Cond.initialized RX3]
def wsX4_hearOneTick_r4 : List Cond := [Cond.code yX3_add cX3_add 3 none, Cond.fieldLink RX3 19 "Beamrow$Tape" "end" "I", Cond.fieldLink RX3 9 "Beamrow$Tape" "slots" "[I", Cond.methodLink RX3 22 yX3_slotOf, Cond.static yX3_slotOf, Cond.code yX3_slotOf cX3_slotOf 1 (some .int)]
def wsX4_hearOneTick : List Cond := .code yX4_hearOneTick cX4_hearOneTick 6 none :: ((wsX4_hearOneTick_r1 ++ (wsX4_hearOneTick_r2 ++ (wsX4_hearOneTick_r3 ++ wsX4_hearOneTick_r4))) ++ wsX40 ++ wsX00 ++ wsX10 ++ wsX20 ++ wsX30)
def wsX4_hear_r1 : List Cond := [Cond.classLink RX4 45 "java/lang/IllegalArgumentException", Cond.initialized "java/lang/IllegalArgumentException", Cond.fieldLink RX4 60 "Beamrow" "nextTick" "I", Cond.methodLink RX4 41 yX4_isWithin, Cond.static yX4_isWithin, Cond.initialized RX4, Cond.code yX4_isWithin cX4_isWithin 3 (some .boolean), Cond.methodLink RX4 113 yX4_hearOneTick, Cond.instanceMethod yX4_hearOneTick, Cond.selects RX4 yX4_hearOneTick yX4_hearOneTick, Cond.code yX4_hearOneTick cX4_hearOneTick 6 none, Cond.fieldLink RX4 11 "Beamrow" "elements" "[LBeamrow$Element;", Cond.fieldLink RX4 24 "Beamrow" "hiss" "LBeamrow$Hiss;", Cond.methodLink RX4 182 yX0_isUp, Cond.instanceMethod yX0_isUp, Cond.selects RX0 yX0_isUp yX0_isUp, Cond.initialized RX0, Cond.code yX0_isUp cX0_isUp 1 (some .boolean), Cond.fieldLink RX0 29 "Beamrow$Element" "up" "Z", Cond.methodLink RX4 185 yX1_draw, Cond.instanceMethod yX1_draw, Cond.selects RX1 yX1_draw yX1_draw, Cond.initialized RX1, Cond.code yX1_draw cX1_draw 2 (some .int)]
def wsX4_hear_r2 : List Cond := [Cond.fieldLink RX1 7 "Beamrow$Hiss" "number" "I", Cond.constant RX1 16 (65537), Cond.fieldLink RX1 13 "Beamrow$Hiss" "loudness" "I", Cond.methodLink RX4 76 yX0_isLiving, Cond.instanceMethod yX0_isLiving, Cond.selects RX0 yX0_isLiving yX0_isLiving, Cond.code yX0_isLiving cX0_isLiving 1 (some .boolean), Cond.fieldLink RX0 33 "Beamrow$Element" "living" "Z", Cond.methodLink RX4 188 yX4_wavesAt, Cond.instanceMethod yX4_wavesAt, Cond.selects RX4 yX4_wavesAt yX4_wavesAt, Cond.code yX4_wavesAt cX4_wavesAt 5 (some .int), Cond.fieldLink RX4 91 "Beamrow" "sourceCount" "I", Cond.fieldLink RX4 17 "Beamrow" "sources" "[LBeamrow$Source;", Cond.methodLink RX4 198 yX2_getBearing, Cond.instanceMethod yX2_getBearing, Cond.selects RX2 yX2_getBearing yX2_getBearing, Cond.initialized RX2, Cond.code yX2_getBearing cX2_getBearing 1 (some .int), Cond.fieldLink RX2 13 "Beamrow$Source" "bearing" "I", Cond.methodLink RX4 201 yX0_delayFor, Cond.instanceMethod yX0_delayFor, Cond.selects RX0 yX0_delayFor yX0_delayFor, Cond.code yX0_delayFor cX0_delayFor 2 (some .int)]
def wsX4_hear_r3 : List Cond := [Cond.fieldLink RX0 36 "Beamrow$Element" "position" "I", Cond.methodLink RX0 52 yJ9_floorDiv_7cf53, Cond.static yJ9_floorDiv_7cf53, Cond.initialized RJ9, Cond.code yJ9_floorDiv_7cf53 cJ9_floorDiv_7cf53 3 (some .int), Cond.methodLink RX4 204 yX0_getLag, Cond.instanceMethod yX0_getLag, Cond.selects RX0 yX0_getLag yX0_getLag, Cond.code yX0_getLag cX0_getLag 1 (some .int), Cond.fieldLink RX0 42 "Beamrow$Element" "lag" "I", Cond.methodLink RX4 207 yX2_waveAt, Cond.instanceMethod yX2_waveAt, Cond.selects RX2 yX2_waveAt yX2_waveAt, Cond.code yX2_waveAt cX2_waveAt 2 (some .int), Cond.fieldLink RX2 7 "Beamrow$Source" "period" "I", Cond.fieldLink RX2 16 "Beamrow$Source" "strength" "I", Cond.methodLink RX2 19 yJ9_floorMod_7cf53, Cond.static yJ9_floorMod_7cf53, Cond.code yJ9_floorMod_7cf53 cJ9_floorMod_7cf53 3 (some .int), Cond.methodLink RX4 192 yX0_heardOf, Cond.instanceMethod yX0_heardOf, Cond.selects RX0 yX0_heardOf yX0_heardOf, Cond.code yX0_heardOf cX0_heardOf 2 (some .int), Cond.fieldLink RX0 39 "Beamrow$Element" "gain" "I"]
def wsX4_hear_r4 : List Cond := [Cond.methodLink RX4 195 yX0_keep, Cond.instanceMethod yX0_keep, Cond.selects RX0 yX0_keep yX0_keep, Cond.code yX0_keep cX0_keep 2 none, Cond.fieldLink RX0 12 "Beamrow$Element" "tape" "LBeamrow$Tape;", Cond.methodLink RX0 58 yX3_add, Cond.instanceMethod yX3_add, Cond.selects RX3 yX3_add yX3_add, Cond.initialized RX3, Cond.code yX3_add cX3_add 3 none, Cond.fieldLink RX3 19 "Beamrow$Tape" "end" "I", Cond.fieldLink RX3 9 "Beamrow$Tape" "slots" "[I", Cond.methodLink RX3 22 yX3_slotOf, Cond.static yX3_slotOf, Cond.code yX3_slotOf cX3_slotOf 1 (some .int)]
def wsX4_hear : List Cond := .code yX4_hear cX4_hear 3 (some .int) :: ((wsX4_hear_r1 ++ (wsX4_hear_r2 ++ (wsX4_hear_r3 ++ wsX4_hear_r4))) ++ wsX40 ++ wsX00 ++ wsX10 ++ wsX20 ++ wsX30 ++ (vx_atS RX4 49 "java/lang/IllegalArgumentException" ["java/lang/RuntimeException", "java/lang/Exception"]).filter goodWord)
def wsX4_window : List Cond := .code yX4_window cX4_window 3 (some .int) :: ([.classLink RX4 45 "java/lang/IllegalArgumentException", .initialized "java/lang/IllegalArgumentException", .fieldLink RX4 37 "Beamrow" "shape" "I", .methodLink RX4 41 yX4_isWithin, .static yX4_isWithin, .initialized RX4, .code yX4_isWithin cX4_isWithin 3 (some .boolean)] ++ wsX40 ++ (vx_atS RX4 49 "java/lang/IllegalArgumentException" ["java/lang/RuntimeException", "java/lang/Exception"]).filter goodWord)
def wsX4_lowestLiving : List Cond := .code yX4_lowestLiving cX4_lowestLiving 5 (some (.object "Beamrow$Element")) :: ([.fieldLink RX4 11 "Beamrow" "elements" "[LBeamrow$Element;", .methodLink RX4 76 yX0_isLiving, .instanceMethod yX0_isLiving, .selects RX0 yX0_isLiving yX0_isLiving, .initialized RX0, .code yX0_isLiving cX0_isLiving 1 (some .boolean), .fieldLink RX0 33 "Beamrow$Element" "living" "Z"] ++ wsX40 ++ wsX00)
def wsX4_weightOf : List Cond := .code yX4_weightOf cX4_weightOf 4 (some .int) :: ([.fieldLink RX4 37 "Beamrow" "shape" "I", .methodLink RX4 217 Lib.Math.min.name, .static Lib.Math.min.name, .initialized "java/lang/Math", .code Lib.Math.min.name Lib.Math.min.code 2 (some .int)] ++ wsX40)
def wsX4_layAll_r1 : List Cond := [Cond.fieldLink RX4 11 "Beamrow" "elements" "[LBeamrow$Element;", Cond.methodLink RX4 76 yX0_isLiving, Cond.instanceMethod yX0_isLiving, Cond.selects RX0 yX0_isLiving yX0_isLiving, Cond.initialized RX0, Cond.code yX0_isLiving cX0_isLiving 1 (some .boolean), Cond.fieldLink RX0 33 "Beamrow$Element" "living" "Z", Cond.methodLink RX4 210 yX4_weightOf, Cond.instanceMethod yX4_weightOf, Cond.selects RX4 yX4_weightOf yX4_weightOf, Cond.initialized RX4, Cond.code yX4_weightOf cX4_weightOf 4 (some .int), Cond.fieldLink RX4 37 "Beamrow" "shape" "I", Cond.methodLink RX4 217 Lib.Math.min.name, Cond.static Lib.Math.min.name, Cond.initialized "java/lang/Math", Cond.code Lib.Math.min.name Lib.Math.min.code 2 (some .int), Cond.methodLink RX4 214 yX0_layOut, Cond.instanceMethod yX0_layOut, Cond.selects RX0 yX0_layOut yX0_layOut, Cond.code yX0_layOut cX0_layOut 3 none, Cond.fieldLink RX0 65 "Beamrow$Element" "weight" "J", Cond.fieldLink RX0 18 "Beamrow$Element" "laid" "[J", Cond.fieldLink RX0 12 "Beamrow$Element" "tape" "LBeamrow$Tape;"]
def wsX4_layAll_r2 : List Cond := [Cond.methodLink RX0 61 yX3_at, Cond.instanceMethod yX3_at, Cond.selects RX3 yX3_at yX3_at, Cond.initialized RX3, Cond.code yX3_at cX3_at 3 (some .int), Cond.fieldLink RX3 19 "Beamrow$Tape" "end" "I", Cond.fieldLink RX3 9 "Beamrow$Tape" "slots" "[I", Cond.methodLink RX3 22 yX3_slotOf, Cond.static yX3_slotOf, Cond.code yX3_slotOf cX3_slotOf 1 (some .int), Cond.methodLink RX3 26 yX3_keeps, Cond.instanceMethod yX3_keeps, Cond.selects RX3 yX3_keeps yX3_keeps, Cond.code yX3_keeps cX3_keeps 2 (some .boolean), Cond.fieldLink RX3 15 "Beamrow$Tape" "begin" "I", Cond.methodLink RX0 69 yX0_turnAll, Cond.instanceMethod yX0_turnAll, Cond.selects RX0 yX0_turnAll yX0_turnAll, Cond.code yX0_turnAll cX0_turnAll 2 none, Cond.fieldLink RX0 25 "Beamrow$Element" "trimGain" "I", Cond.fieldLink RX0 22 "Beamrow$Element" "turned" "[J", Cond.constantLong RX0 72 (64), Cond.methodLink RX0 74 yJ9_floorDiv_f86c9, Cond.static yJ9_floorDiv_f86c9]
def wsX4_layAll_r3 : List Cond := [Cond.initialized RJ9, Cond.code yJ9_floorDiv_f86c9 cJ9_floorDiv_f86c9 6 (some .long)]
def wsX4_layAll : List Cond := .code yX4_layAll cX4_layAll 10 (some .long) :: ((wsX4_layAll_r1 ++ (wsX4_layAll_r2 ++ wsX4_layAll_r3)) ++ wsX40 ++ wsX00 ++ wsX30)
def wsX4_fit_r1 : List Cond := [Cond.constantLong RX4 260 (64), Cond.constantLong RX4 262 (16), Cond.constantLong RX4 264 (255), Cond.methodLink RX4 266 Lib.MathLoose.min_long.x, Cond.static Lib.MathLoose.min_long.x, Cond.initialized "java/lang/Math", Cond.code Lib.MathLoose.min_long.x Lib.MathLoose.min_long.code 4 (some .long), Cond.methodLink RX4 236 Lib.MathLoose.max_long.x, Cond.static Lib.MathLoose.max_long.x, Cond.code Lib.MathLoose.max_long.x Lib.MathLoose.max_long.code 4 (some .long), Cond.methodLink RX4 128 yX0_agreement, Cond.instanceMethod yX0_agreement, Cond.selects RX0 yX0_agreement yX0_agreement, Cond.initialized RX0, Cond.code yX0_agreement cX0_agreement 9 (some .long), Cond.methodLink RX0 77 yX0_delayFor, Cond.instanceMethod yX0_delayFor, Cond.selects RX0 yX0_delayFor yX0_delayFor, Cond.code yX0_delayFor cX0_delayFor 2 (some .int), Cond.fieldLink RX0 36 "Beamrow$Element" "position" "I", Cond.methodLink RX0 52 yJ9_floorDiv_7cf53, Cond.static yJ9_floorDiv_7cf53, Cond.initialized RJ9, Cond.code yJ9_floorDiv_7cf53 cJ9_floorDiv_7cf53 3 (some .int)]
def wsX4_fit_r2 : List Cond := [Cond.methodLink RX0 91 yX0_laidAt, Cond.instanceMethod yX0_laidAt, Cond.selects RX0 yX0_laidAt yX0_laidAt, Cond.code yX0_laidAt cX0_laidAt 2 (some .long), Cond.fieldLink RX0 18 "Beamrow$Element" "laid" "[J", Cond.methodLink RX4 243 yJ9_floorDiv_f86c9, Cond.static yJ9_floorDiv_f86c9, Cond.code yJ9_floorDiv_f86c9 cJ9_floorDiv_f86c9 6 (some .long), Cond.methodLink RX4 252 yX0_trim, Cond.instanceMethod yX0_trim, Cond.selects RX0 yX0_trim yX0_trim, Cond.code yX0_trim cX0_trim 4 (some .boolean), Cond.fieldLink RX0 25 "Beamrow$Element" "trimGain" "I", Cond.fieldLink RX0 49 "Beamrow$Element" "trimLag" "I"]
def wsX4_fit : List Cond := .code yX4_fit cX4_fit 11 (some .boolean) :: ((wsX4_fit_r1 ++ wsX4_fit_r2) ++ wsX00)
def wsX4_holdTo_r1 : List Cond := [Cond.fieldLink RX4 11 "Beamrow" "elements" "[LBeamrow$Element;", Cond.methodLink RX4 252 yX0_trim, Cond.instanceMethod yX0_trim, Cond.selects RX0 yX0_trim yX0_trim, Cond.initialized RX0, Cond.code yX0_trim cX0_trim 4 (some .boolean), Cond.fieldLink RX0 25 "Beamrow$Element" "trimGain" "I", Cond.fieldLink RX0 49 "Beamrow$Element" "trimLag" "I", Cond.methodLink RX4 76 yX0_isLiving, Cond.instanceMethod yX0_isLiving, Cond.selects RX0 yX0_isLiving yX0_isLiving, Cond.code yX0_isLiving cX0_isLiving 1 (some .boolean), Cond.fieldLink RX0 33 "Beamrow$Element" "living" "Z", Cond.methodLink RX4 256 yX4_fit, Cond.static yX4_fit, Cond.initialized RX4, Cond.code yX4_fit cX4_fit 11 (some .boolean), Cond.constantLong RX4 260 (64), Cond.constantLong RX4 262 (16), Cond.constantLong RX4 264 (255), Cond.methodLink RX4 266 Lib.MathLoose.min_long.x, Cond.static Lib.MathLoose.min_long.x, Cond.initialized "java/lang/Math", Cond.code Lib.MathLoose.min_long.x Lib.MathLoose.min_long.code 4 (some .long)]
def wsX4_holdTo_r2 : List Cond := [Cond.methodLink RX4 236 Lib.MathLoose.max_long.x, Cond.static Lib.MathLoose.max_long.x, Cond.code Lib.MathLoose.max_long.x Lib.MathLoose.max_long.code 4 (some .long), Cond.methodLink RX4 128 yX0_agreement, Cond.instanceMethod yX0_agreement, Cond.selects RX0 yX0_agreement yX0_agreement, Cond.code yX0_agreement cX0_agreement 9 (some .long), Cond.methodLink RX0 77 yX0_delayFor, Cond.instanceMethod yX0_delayFor, Cond.selects RX0 yX0_delayFor yX0_delayFor, Cond.code yX0_delayFor cX0_delayFor 2 (some .int), Cond.fieldLink RX0 36 "Beamrow$Element" "position" "I", Cond.methodLink RX0 52 yJ9_floorDiv_7cf53, Cond.static yJ9_floorDiv_7cf53, Cond.initialized RJ9, Cond.code yJ9_floorDiv_7cf53 cJ9_floorDiv_7cf53 3 (some .int), Cond.methodLink RX0 91 yX0_laidAt, Cond.instanceMethod yX0_laidAt, Cond.selects RX0 yX0_laidAt yX0_laidAt, Cond.code yX0_laidAt cX0_laidAt 2 (some .long), Cond.fieldLink RX0 18 "Beamrow$Element" "laid" "[J", Cond.methodLink RX4 243 yJ9_floorDiv_f86c9, Cond.static yJ9_floorDiv_f86c9, Cond.code yJ9_floorDiv_f86c9 cJ9_floorDiv_f86c9 6 (some .long)]
def wsX4_holdTo : List Cond := .code yX4_holdTo cX4_holdTo 10 (some .int) :: ((wsX4_holdTo_r1 ++ wsX4_holdTo_r2) ++ wsX40 ++ wsX00)
def wsX4_calibrate_r1 : List Cond := [Cond.classLink RX4 71 "java/lang/IndexOutOfBoundsException", Cond.initialized "java/lang/IndexOutOfBoundsException", Cond.classLink RX4 55 "java/lang/IllegalStateException", Cond.initialized "java/lang/IllegalStateException", Cond.methodLink RX4 84 yX4_isBearing, Cond.static yX4_isBearing, Cond.initialized RX4, Cond.code yX4_isBearing cX4_isBearing 1 (some .boolean), Cond.methodLink RX4 41 yX4_isWithin, Cond.static yX4_isWithin, Cond.code yX4_isWithin cX4_isWithin 3 (some .boolean), Cond.methodLink RX4 118 yX4_lowestLiving, Cond.instanceMethod yX4_lowestLiving, Cond.selects RX4 yX4_lowestLiving yX4_lowestLiving, Cond.code yX4_lowestLiving cX4_lowestLiving 5 (some (.object "Beamrow$Element")), Cond.fieldLink RX4 11 "Beamrow" "elements" "[LBeamrow$Element;", Cond.methodLink RX4 76 yX0_isLiving, Cond.instanceMethod yX0_isLiving, Cond.selects RX0 yX0_isLiving yX0_isLiving, Cond.initialized RX0, Cond.code yX0_isLiving cX0_isLiving 1 (some .boolean), Cond.fieldLink RX0 33 "Beamrow$Element" "living" "Z", Cond.methodLink RX4 124 yX4_layAll, Cond.instanceMethod yX4_layAll]
def wsX4_calibrate_r2 : List Cond := [Cond.selects RX4 yX4_layAll yX4_layAll, Cond.code yX4_layAll cX4_layAll 10 (some .long), Cond.methodLink RX4 210 yX4_weightOf, Cond.instanceMethod yX4_weightOf, Cond.selects RX4 yX4_weightOf yX4_weightOf, Cond.code yX4_weightOf cX4_weightOf 4 (some .int), Cond.fieldLink RX4 37 "Beamrow" "shape" "I", Cond.methodLink RX4 217 Lib.Math.min.name, Cond.static Lib.Math.min.name, Cond.initialized "java/lang/Math", Cond.code Lib.Math.min.name Lib.Math.min.code 2 (some .int), Cond.methodLink RX4 214 yX0_layOut, Cond.instanceMethod yX0_layOut, Cond.selects RX0 yX0_layOut yX0_layOut, Cond.code yX0_layOut cX0_layOut 3 none, Cond.fieldLink RX0 65 "Beamrow$Element" "weight" "J", Cond.fieldLink RX0 18 "Beamrow$Element" "laid" "[J", Cond.fieldLink RX0 12 "Beamrow$Element" "tape" "LBeamrow$Tape;", Cond.methodLink RX0 61 yX3_at, Cond.instanceMethod yX3_at, Cond.selects RX3 yX3_at yX3_at, Cond.initialized RX3, Cond.code yX3_at cX3_at 3 (some .int), Cond.fieldLink RX3 19 "Beamrow$Tape" "end" "I"]
def wsX4_calibrate_r3 : List Cond := [Cond.fieldLink RX3 9 "Beamrow$Tape" "slots" "[I", Cond.methodLink RX3 22 yX3_slotOf, Cond.static yX3_slotOf, Cond.code yX3_slotOf cX3_slotOf 1 (some .int), Cond.methodLink RX3 26 yX3_keeps, Cond.instanceMethod yX3_keeps, Cond.selects RX3 yX3_keeps yX3_keeps, Cond.code yX3_keeps cX3_keeps 2 (some .boolean), Cond.fieldLink RX3 15 "Beamrow$Tape" "begin" "I", Cond.methodLink RX0 69 yX0_turnAll, Cond.instanceMethod yX0_turnAll, Cond.selects RX0 yX0_turnAll yX0_turnAll, Cond.code yX0_turnAll cX0_turnAll 2 none, Cond.fieldLink RX0 25 "Beamrow$Element" "trimGain" "I", Cond.fieldLink RX0 22 "Beamrow$Element" "turned" "[J", Cond.constantLong RX0 72 (64), Cond.methodLink RX0 74 yJ9_floorDiv_f86c9, Cond.static yJ9_floorDiv_f86c9, Cond.initialized RJ9, Cond.code yJ9_floorDiv_f86c9 cJ9_floorDiv_f86c9 6 (some .long), Cond.methodLink RX4 128 yX0_agreement, Cond.instanceMethod yX0_agreement, Cond.selects RX0 yX0_agreement yX0_agreement, Cond.code yX0_agreement cX0_agreement 9 (some .long)]
def wsX4_calibrate_r4 : List Cond := [Cond.methodLink RX0 77 yX0_delayFor, Cond.instanceMethod yX0_delayFor, Cond.selects RX0 yX0_delayFor yX0_delayFor, Cond.code yX0_delayFor cX0_delayFor 2 (some .int), Cond.fieldLink RX0 36 "Beamrow$Element" "position" "I", Cond.methodLink RX0 52 yJ9_floorDiv_7cf53, Cond.static yJ9_floorDiv_7cf53, Cond.code yJ9_floorDiv_7cf53 cJ9_floorDiv_7cf53 3 (some .int), Cond.methodLink RX0 91 yX0_laidAt, Cond.instanceMethod yX0_laidAt, Cond.selects RX0 yX0_laidAt yX0_laidAt, Cond.code yX0_laidAt cX0_laidAt 2 (some .long), Cond.methodLink RX4 134 yX4_holdTo, Cond.instanceMethod yX4_holdTo, Cond.selects RX4 yX4_holdTo yX4_holdTo, Cond.code yX4_holdTo cX4_holdTo 10 (some .int), Cond.methodLink RX4 252 yX0_trim, Cond.instanceMethod yX0_trim, Cond.selects RX0 yX0_trim yX0_trim, Cond.code yX0_trim cX0_trim 4 (some .boolean), Cond.fieldLink RX0 49 "Beamrow$Element" "trimLag" "I", Cond.methodLink RX4 256 yX4_fit, Cond.static yX4_fit, Cond.code yX4_fit cX4_fit 11 (some .boolean)]
def wsX4_calibrate_r5 : List Cond := [Cond.constantLong RX4 260 (64), Cond.constantLong RX4 262 (16), Cond.constantLong RX4 264 (255), Cond.methodLink RX4 266 Lib.MathLoose.min_long.x, Cond.static Lib.MathLoose.min_long.x, Cond.code Lib.MathLoose.min_long.x Lib.MathLoose.min_long.code 4 (some .long), Cond.methodLink RX4 236 Lib.MathLoose.max_long.x, Cond.static Lib.MathLoose.max_long.x, Cond.code Lib.MathLoose.max_long.x Lib.MathLoose.max_long.code 4 (some .long), Cond.methodLink RX4 243 yJ9_floorDiv_f86c9]
def wsX4_calibrate : List Cond := .code yX4_calibrate cX4_calibrate 5 (some .int) :: ((wsX4_calibrate_r1 ++ (wsX4_calibrate_r2 ++ (wsX4_calibrate_r3 ++ (wsX4_calibrate_r4 ++ wsX4_calibrate_r5)))) ++ wsX40 ++ wsX00 ++ wsX30 ++ (vx_atS RX4 75 "java/lang/IndexOutOfBoundsException" ["java/lang/RuntimeException", "java/lang/Exception"]).filter goodWord ++ (vx_atS RX4 59 "java/lang/IllegalStateException" ["java/lang/RuntimeException", "java/lang/Exception"]).filter goodWord)
def wsX4_sample_r1 : List Cond := [Cond.classLink RX4 71 "java/lang/IndexOutOfBoundsException", Cond.initialized "java/lang/IndexOutOfBoundsException", Cond.fieldLink RX4 11 "Beamrow" "elements" "[LBeamrow$Element;", Cond.methodLink RX4 67 yX4_isElement, Cond.instanceMethod yX4_isElement, Cond.selects RX4 yX4_isElement yX4_isElement, Cond.initialized RX4, Cond.code yX4_isElement cX4_isElement 2 (some .boolean), Cond.fieldLink RX4 52 "Beamrow" "elementCount" "I", Cond.methodLink RX4 41 yX4_isWithin, Cond.static yX4_isWithin, Cond.code yX4_isWithin cX4_isWithin 3 (some .boolean), Cond.methodLink RX4 140 yX0_keptAt, Cond.instanceMethod yX0_keptAt, Cond.selects RX0 yX0_keptAt yX0_keptAt, Cond.initialized RX0, Cond.code yX0_keptAt cX0_keptAt 2 (some .int), Cond.fieldLink RX0 12 "Beamrow$Element" "tape" "LBeamrow$Tape;", Cond.methodLink RX0 61 yX3_at, Cond.instanceMethod yX3_at, Cond.selects RX3 yX3_at yX3_at, Cond.initialized RX3, Cond.code yX3_at cX3_at 3 (some .int), Cond.fieldLink RX3 19 "Beamrow$Tape" "end" "I"]
def wsX4_sample_r2 : List Cond := [Cond.fieldLink RX3 9 "Beamrow$Tape" "slots" "[I", Cond.methodLink RX3 22 yX3_slotOf, Cond.static yX3_slotOf, Cond.code yX3_slotOf cX3_slotOf 1 (some .int), Cond.methodLink RX3 26 yX3_keeps, Cond.instanceMethod yX3_keeps, Cond.selects RX3 yX3_keeps yX3_keeps, Cond.code yX3_keeps cX3_keeps 2 (some .boolean), Cond.fieldLink RX3 15 "Beamrow$Tape" "begin" "I"]
def wsX4_sample : List Cond := .code yX4_sample cX4_sample 3 (some .int) :: ((wsX4_sample_r1 ++ wsX4_sample_r2) ++ wsX40 ++ wsX00 ++ wsX30 ++ (vx_atS RX4 75 "java/lang/IndexOutOfBoundsException" ["java/lang/RuntimeException", "java/lang/Exception"]).filter goodWord)
def wsJ7_fill_d0a16 : List Cond := .code yJ7_fill_d0a16 cJ7_fill_d0a16 5 none :: ([])
def wsX4_steer_r1 : List Cond := [Cond.fieldLink RX4 28 "Beamrow" "sums" "[J", Cond.fieldLink RX4 11 "Beamrow" "elements" "[LBeamrow$Element;", Cond.methodLink RX4 222 yJ7_fill_d0a16, Cond.static yJ7_fill_d0a16, Cond.initialized RJ7, Cond.code yJ7_fill_d0a16 cJ7_fill_d0a16 5 none, Cond.methodLink RX4 228 yX0_tellTo, Cond.instanceMethod yX0_tellTo, Cond.selects RX0 yX0_tellTo yX0_tellTo, Cond.initialized RX0, Cond.code yX0_tellTo cX0_tellTo 5 none, Cond.fieldLink RX0 65 "Beamrow$Element" "weight" "J", Cond.methodLink RX0 80 yX0_firstTold, Cond.instanceMethod yX0_firstTold, Cond.selects RX0 yX0_firstTold yX0_firstTold, Cond.code yX0_firstTold cX0_firstTold 2 (some .int), Cond.fieldLink RX0 49 "Beamrow$Element" "trimLag" "I", Cond.methodLink RX0 77 yX0_delayFor, Cond.instanceMethod yX0_delayFor, Cond.selects RX0 yX0_delayFor yX0_delayFor, Cond.code yX0_delayFor cX0_delayFor 2 (some .int), Cond.fieldLink RX0 36 "Beamrow$Element" "position" "I", Cond.methodLink RX0 52 yJ9_floorDiv_7cf53, Cond.static yJ9_floorDiv_7cf53]
def wsX4_steer_r2 : List Cond := [Cond.initialized RJ9, Cond.code yJ9_floorDiv_7cf53 cJ9_floorDiv_7cf53 3 (some .int), Cond.methodLink RX0 83 yX0_toldAt, Cond.instanceMethod yX0_toldAt, Cond.selects RX0 yX0_toldAt yX0_toldAt, Cond.code yX0_toldAt cX0_toldAt 2 (some .long), Cond.fieldLink RX0 22 "Beamrow$Element" "turned" "[J"]
def wsX4_steer : List Cond := .code yX4_steer cX4_steer 6 none :: ((wsX4_steer_r1 ++ wsX4_steer_r2) ++ wsX40 ++ wsX00)
def wsX4_sum_r1 : List Cond := [Cond.classLink RX4 71 "java/lang/IndexOutOfBoundsException", Cond.initialized "java/lang/IndexOutOfBoundsException", Cond.fieldLink RX4 28 "Beamrow" "sums" "[J", Cond.methodLink RX4 84 yX4_isBearing, Cond.static yX4_isBearing, Cond.initialized RX4, Cond.code yX4_isBearing cX4_isBearing 1 (some .boolean), Cond.methodLink RX4 41 yX4_isWithin, Cond.static yX4_isWithin, Cond.code yX4_isWithin cX4_isWithin 3 (some .boolean), Cond.methodLink RX4 124 yX4_layAll, Cond.instanceMethod yX4_layAll, Cond.selects RX4 yX4_layAll yX4_layAll, Cond.code yX4_layAll cX4_layAll 10 (some .long), Cond.fieldLink RX4 11 "Beamrow" "elements" "[LBeamrow$Element;", Cond.methodLink RX4 76 yX0_isLiving, Cond.instanceMethod yX0_isLiving, Cond.selects RX0 yX0_isLiving yX0_isLiving, Cond.initialized RX0, Cond.code yX0_isLiving cX0_isLiving 1 (some .boolean), Cond.fieldLink RX0 33 "Beamrow$Element" "living" "Z", Cond.methodLink RX4 210 yX4_weightOf, Cond.instanceMethod yX4_weightOf, Cond.selects RX4 yX4_weightOf yX4_weightOf]
def wsX4_sum_r2 : List Cond := [Cond.code yX4_weightOf cX4_weightOf 4 (some .int), Cond.fieldLink RX4 37 "Beamrow" "shape" "I", Cond.methodLink RX4 217 Lib.Math.min.name, Cond.static Lib.Math.min.name, Cond.initialized "java/lang/Math", Cond.code Lib.Math.min.name Lib.Math.min.code 2 (some .int), Cond.methodLink RX4 214 yX0_layOut, Cond.instanceMethod yX0_layOut, Cond.selects RX0 yX0_layOut yX0_layOut, Cond.code yX0_layOut cX0_layOut 3 none, Cond.fieldLink RX0 65 "Beamrow$Element" "weight" "J", Cond.fieldLink RX0 18 "Beamrow$Element" "laid" "[J", Cond.fieldLink RX0 12 "Beamrow$Element" "tape" "LBeamrow$Tape;", Cond.methodLink RX0 61 yX3_at, Cond.instanceMethod yX3_at, Cond.selects RX3 yX3_at yX3_at, Cond.initialized RX3, Cond.code yX3_at cX3_at 3 (some .int), Cond.fieldLink RX3 19 "Beamrow$Tape" "end" "I", Cond.fieldLink RX3 9 "Beamrow$Tape" "slots" "[I", Cond.methodLink RX3 22 yX3_slotOf, Cond.static yX3_slotOf, Cond.code yX3_slotOf cX3_slotOf 1 (some .int), Cond.methodLink RX3 26 yX3_keeps]
def wsX4_sum_r3 : List Cond := [Cond.instanceMethod yX3_keeps, Cond.selects RX3 yX3_keeps yX3_keeps, Cond.code yX3_keeps cX3_keeps 2 (some .boolean), Cond.fieldLink RX3 15 "Beamrow$Tape" "begin" "I", Cond.methodLink RX0 69 yX0_turnAll, Cond.instanceMethod yX0_turnAll, Cond.selects RX0 yX0_turnAll yX0_turnAll, Cond.code yX0_turnAll cX0_turnAll 2 none, Cond.fieldLink RX0 25 "Beamrow$Element" "trimGain" "I", Cond.fieldLink RX0 22 "Beamrow$Element" "turned" "[J", Cond.constantLong RX0 72 (64), Cond.methodLink RX0 74 yJ9_floorDiv_f86c9, Cond.static yJ9_floorDiv_f86c9, Cond.initialized RJ9, Cond.code yJ9_floorDiv_f86c9 cJ9_floorDiv_f86c9 6 (some .long), Cond.methodLink RX4 146 yX4_steer, Cond.instanceMethod yX4_steer, Cond.selects RX4 yX4_steer yX4_steer, Cond.code yX4_steer cX4_steer 6 none, Cond.methodLink RX4 222 yJ7_fill_d0a16, Cond.static yJ7_fill_d0a16, Cond.initialized RJ7, Cond.code yJ7_fill_d0a16 cJ7_fill_d0a16 5 none, Cond.methodLink RX4 228 yX0_tellTo]
def wsX4_sum_r4 : List Cond := [Cond.instanceMethod yX0_tellTo, Cond.selects RX0 yX0_tellTo yX0_tellTo, Cond.code yX0_tellTo cX0_tellTo 5 none, Cond.methodLink RX0 80 yX0_firstTold, Cond.instanceMethod yX0_firstTold, Cond.selects RX0 yX0_firstTold yX0_firstTold, Cond.code yX0_firstTold cX0_firstTold 2 (some .int), Cond.fieldLink RX0 49 "Beamrow$Element" "trimLag" "I", Cond.methodLink RX0 77 yX0_delayFor, Cond.instanceMethod yX0_delayFor, Cond.selects RX0 yX0_delayFor yX0_delayFor, Cond.code yX0_delayFor cX0_delayFor 2 (some .int), Cond.fieldLink RX0 36 "Beamrow$Element" "position" "I", Cond.methodLink RX0 52 yJ9_floorDiv_7cf53, Cond.static yJ9_floorDiv_7cf53, Cond.code yJ9_floorDiv_7cf53 cJ9_floorDiv_7cf53 3 (some .int), Cond.methodLink RX0 83 yX0_toldAt, Cond.instanceMethod yX0_toldAt, Cond.selects RX0 yX0_toldAt yX0_toldAt, Cond.code yX0_toldAt cX0_toldAt 2 (some .long)]
def wsX4_sum : List Cond := .code yX4_sum cX4_sum 4 (some .long) :: ((wsX4_sum_r1 ++ (wsX4_sum_r2 ++ (wsX4_sum_r3 ++ wsX4_sum_r4))) ++ wsX40 ++ wsX00 ++ wsX30 ++ (vx_atS RX4 75 "java/lang/IndexOutOfBoundsException" ["java/lang/RuntimeException", "java/lang/Exception"]).filter goodWord)
def wsX4_powerBySums_r1 : List Cond := [Cond.fieldLink RX4 28 "Beamrow" "sums" "[J", Cond.methodLink RX4 146 yX4_steer, Cond.instanceMethod yX4_steer, Cond.selects RX4 yX4_steer yX4_steer, Cond.initialized RX4, Cond.code yX4_steer cX4_steer 6 none, Cond.fieldLink RX4 11 "Beamrow" "elements" "[LBeamrow$Element;", Cond.methodLink RX4 222 yJ7_fill_d0a16, Cond.static yJ7_fill_d0a16, Cond.initialized RJ7, Cond.code yJ7_fill_d0a16 cJ7_fill_d0a16 5 none, Cond.methodLink RX4 228 yX0_tellTo, Cond.instanceMethod yX0_tellTo, Cond.selects RX0 yX0_tellTo yX0_tellTo, Cond.initialized RX0, Cond.code yX0_tellTo cX0_tellTo 5 none, Cond.fieldLink RX0 65 "Beamrow$Element" "weight" "J", Cond.methodLink RX0 80 yX0_firstTold, Cond.instanceMethod yX0_firstTold, Cond.selects RX0 yX0_firstTold yX0_firstTold, Cond.code yX0_firstTold cX0_firstTold 2 (some .int), Cond.fieldLink RX0 49 "Beamrow$Element" "trimLag" "I", Cond.methodLink RX0 77 yX0_delayFor, Cond.instanceMethod yX0_delayFor]
def wsX4_powerBySums_r2 : List Cond := [Cond.selects RX0 yX0_delayFor yX0_delayFor, Cond.code yX0_delayFor cX0_delayFor 2 (some .int), Cond.fieldLink RX0 36 "Beamrow$Element" "position" "I", Cond.methodLink RX0 52 yJ9_floorDiv_7cf53, Cond.static yJ9_floorDiv_7cf53, Cond.initialized RJ9, Cond.code yJ9_floorDiv_7cf53 cJ9_floorDiv_7cf53 3 (some .int), Cond.methodLink RX0 83 yX0_toldAt, Cond.instanceMethod yX0_toldAt, Cond.selects RX0 yX0_toldAt yX0_toldAt, Cond.code yX0_toldAt cX0_toldAt 2 (some .long), Cond.fieldLink RX0 22 "Beamrow$Element" "turned" "[J"]
def wsX4_powerBySums : List Cond := .code yX4_powerBySums cX4_powerBySums 9 (some .long) :: ((wsX4_powerBySums_r1 ++ wsX4_powerBySums_r2) ++ wsX40 ++ wsX00)
def wsX4_power_r1 : List Cond := [Cond.classLink RX4 71 "java/lang/IndexOutOfBoundsException", Cond.initialized "java/lang/IndexOutOfBoundsException", Cond.methodLink RX4 84 yX4_isBearing, Cond.static yX4_isBearing, Cond.initialized RX4, Cond.code yX4_isBearing cX4_isBearing 1 (some .boolean), Cond.methodLink RX4 41 yX4_isWithin, Cond.static yX4_isWithin, Cond.code yX4_isWithin cX4_isWithin 3 (some .boolean), Cond.methodLink RX4 124 yX4_layAll, Cond.instanceMethod yX4_layAll, Cond.selects RX4 yX4_layAll yX4_layAll, Cond.code yX4_layAll cX4_layAll 10 (some .long), Cond.fieldLink RX4 11 "Beamrow" "elements" "[LBeamrow$Element;", Cond.methodLink RX4 76 yX0_isLiving, Cond.instanceMethod yX0_isLiving, Cond.selects RX0 yX0_isLiving yX0_isLiving, Cond.initialized RX0, Cond.code yX0_isLiving cX0_isLiving 1 (some .boolean), Cond.fieldLink RX0 33 "Beamrow$Element" "living" "Z", Cond.methodLink RX4 210 yX4_weightOf, Cond.instanceMethod yX4_weightOf, Cond.selects RX4 yX4_weightOf yX4_weightOf, Cond.code yX4_weightOf cX4_weightOf 4 (some .int)]
def wsX4_power_r2 : List Cond := [Cond.fieldLink RX4 37 "Beamrow" "shape" "I", Cond.methodLink RX4 217 Lib.Math.min.name, Cond.static Lib.Math.min.name, Cond.initialized "java/lang/Math", Cond.code Lib.Math.min.name Lib.Math.min.code 2 (some .int), Cond.methodLink RX4 214 yX0_layOut, Cond.instanceMethod yX0_layOut, Cond.selects RX0 yX0_layOut yX0_layOut, Cond.code yX0_layOut cX0_layOut 3 none, Cond.fieldLink RX0 65 "Beamrow$Element" "weight" "J", Cond.fieldLink RX0 18 "Beamrow$Element" "laid" "[J", Cond.fieldLink RX0 12 "Beamrow$Element" "tape" "LBeamrow$Tape;", Cond.methodLink RX0 61 yX3_at, Cond.instanceMethod yX3_at, Cond.selects RX3 yX3_at yX3_at, Cond.initialized RX3, Cond.code yX3_at cX3_at 3 (some .int), Cond.fieldLink RX3 19 "Beamrow$Tape" "end" "I", Cond.fieldLink RX3 9 "Beamrow$Tape" "slots" "[I", Cond.methodLink RX3 22 yX3_slotOf, Cond.static yX3_slotOf, Cond.code yX3_slotOf cX3_slotOf 1 (some .int), Cond.methodLink RX3 26 yX3_keeps, Cond.instanceMethod yX3_keeps]
def wsX4_power_r3 : List Cond := [Cond.selects RX3 yX3_keeps yX3_keeps, Cond.code yX3_keeps cX3_keeps 2 (some .boolean), Cond.fieldLink RX3 15 "Beamrow$Tape" "begin" "I", Cond.methodLink RX0 69 yX0_turnAll, Cond.instanceMethod yX0_turnAll, Cond.selects RX0 yX0_turnAll yX0_turnAll, Cond.code yX0_turnAll cX0_turnAll 2 none, Cond.fieldLink RX0 25 "Beamrow$Element" "trimGain" "I", Cond.fieldLink RX0 22 "Beamrow$Element" "turned" "[J", Cond.constantLong RX0 72 (64), Cond.methodLink RX0 74 yJ9_floorDiv_f86c9, Cond.static yJ9_floorDiv_f86c9, Cond.initialized RJ9, Cond.code yJ9_floorDiv_f86c9 cJ9_floorDiv_f86c9 6 (some .long), Cond.methodLink RX4 150 yX4_powerBySums, Cond.instanceMethod yX4_powerBySums, Cond.selects RX4 yX4_powerBySums yX4_powerBySums, Cond.code yX4_powerBySums cX4_powerBySums 9 (some .long), Cond.fieldLink RX4 28 "Beamrow" "sums" "[J", Cond.methodLink RX4 146 yX4_steer, Cond.instanceMethod yX4_steer, Cond.selects RX4 yX4_steer yX4_steer, Cond.code yX4_steer cX4_steer 6 none, Cond.methodLink RX4 222 yJ7_fill_d0a16]
def wsX4_power_r4 : List Cond := [Cond.static yJ7_fill_d0a16, Cond.initialized RJ7, Cond.code yJ7_fill_d0a16 cJ7_fill_d0a16 5 none, Cond.methodLink RX4 228 yX0_tellTo, Cond.instanceMethod yX0_tellTo, Cond.selects RX0 yX0_tellTo yX0_tellTo, Cond.code yX0_tellTo cX0_tellTo 5 none, Cond.methodLink RX0 80 yX0_firstTold, Cond.instanceMethod yX0_firstTold, Cond.selects RX0 yX0_firstTold yX0_firstTold, Cond.code yX0_firstTold cX0_firstTold 2 (some .int), Cond.fieldLink RX0 49 "Beamrow$Element" "trimLag" "I", Cond.methodLink RX0 77 yX0_delayFor, Cond.instanceMethod yX0_delayFor, Cond.selects RX0 yX0_delayFor yX0_delayFor, Cond.code yX0_delayFor cX0_delayFor 2 (some .int), Cond.fieldLink RX0 36 "Beamrow$Element" "position" "I", Cond.methodLink RX0 52 yJ9_floorDiv_7cf53, Cond.static yJ9_floorDiv_7cf53, Cond.code yJ9_floorDiv_7cf53 cJ9_floorDiv_7cf53 3 (some .int), Cond.methodLink RX0 83 yX0_toldAt, Cond.instanceMethod yX0_toldAt, Cond.selects RX0 yX0_toldAt yX0_toldAt, Cond.code yX0_toldAt cX0_toldAt 2 (some .long)]
def wsX4_power : List Cond := .code yX4_power cX4_power 2 (some .long) :: ((wsX4_power_r1 ++ (wsX4_power_r2 ++ (wsX4_power_r3 ++ wsX4_power_r4))) ++ wsX40 ++ wsX00 ++ wsX30 ++ (vx_atS RX4 75 "java/lang/IndexOutOfBoundsException" ["java/lang/RuntimeException", "java/lang/Exception"]).filter goodWord)
def wsX4_powerByPairs_r1 : List Cond := [Cond.fieldLink RX4 11 "Beamrow" "elements" "[LBeamrow$Element;", Cond.methodLink RX4 232 yX0_toldWith, Cond.instanceMethod yX0_toldWith, Cond.selects RX0 yX0_toldWith yX0_toldWith, Cond.initialized RX0, Cond.code yX0_toldWith cX0_toldWith 8 (some .long), Cond.fieldLink RX0 65 "Beamrow$Element" "weight" "J", Cond.methodLink RX0 80 yX0_firstTold, Cond.instanceMethod yX0_firstTold, Cond.selects RX0 yX0_firstTold yX0_firstTold, Cond.code yX0_firstTold cX0_firstTold 2 (some .int), Cond.fieldLink RX0 49 "Beamrow$Element" "trimLag" "I", Cond.methodLink RX0 77 yX0_delayFor, Cond.instanceMethod yX0_delayFor, Cond.selects RX0 yX0_delayFor yX0_delayFor, Cond.code yX0_delayFor cX0_delayFor 2 (some .int), Cond.fieldLink RX0 36 "Beamrow$Element" "position" "I", Cond.methodLink RX0 52 yJ9_floorDiv_7cf53, Cond.static yJ9_floorDiv_7cf53, Cond.initialized RJ9, Cond.code yJ9_floorDiv_7cf53 cJ9_floorDiv_7cf53 3 (some .int), Cond.methodLink RX0 83 yX0_toldAt, Cond.instanceMethod yX0_toldAt, Cond.selects RX0 yX0_toldAt yX0_toldAt]
def wsX4_powerByPairs_r2 : List Cond := [Cond.code yX0_toldAt cX0_toldAt 2 (some .long), Cond.fieldLink RX0 22 "Beamrow$Element" "turned" "[J"]
def wsX4_powerByPairs : List Cond := .code yX4_powerByPairs cX4_powerByPairs 12 (some .long) :: ((wsX4_powerByPairs_r1 ++ wsX4_powerByPairs_r2) ++ wsX40 ++ wsX00)
def wsX4_powerAnew_r1 : List Cond := [Cond.classLink RX4 71 "java/lang/IndexOutOfBoundsException", Cond.initialized "java/lang/IndexOutOfBoundsException", Cond.methodLink RX4 84 yX4_isBearing, Cond.static yX4_isBearing, Cond.initialized RX4, Cond.code yX4_isBearing cX4_isBearing 1 (some .boolean), Cond.methodLink RX4 41 yX4_isWithin, Cond.static yX4_isWithin, Cond.code yX4_isWithin cX4_isWithin 3 (some .boolean), Cond.methodLink RX4 124 yX4_layAll, Cond.instanceMethod yX4_layAll, Cond.selects RX4 yX4_layAll yX4_layAll, Cond.code yX4_layAll cX4_layAll 10 (some .long), Cond.fieldLink RX4 11 "Beamrow" "elements" "[LBeamrow$Element;", Cond.methodLink RX4 76 yX0_isLiving, Cond.instanceMethod yX0_isLiving, Cond.selects RX0 yX0_isLiving yX0_isLiving, Cond.initialized RX0, Cond.code yX0_isLiving cX0_isLiving 1 (some .boolean), Cond.fieldLink RX0 33 "Beamrow$Element" "living" "Z", Cond.methodLink RX4 210 yX4_weightOf, Cond.instanceMethod yX4_weightOf, Cond.selects RX4 yX4_weightOf yX4_weightOf, Cond.code yX4_weightOf cX4_weightOf 4 (some .int)]
def wsX4_powerAnew_r2 : List Cond := [Cond.fieldLink RX4 37 "Beamrow" "shape" "I", Cond.methodLink RX4 217 Lib.Math.min.name, Cond.static Lib.Math.min.name, Cond.initialized "java/lang/Math", Cond.code Lib.Math.min.name Lib.Math.min.code 2 (some .int), Cond.methodLink RX4 214 yX0_layOut, Cond.instanceMethod yX0_layOut, Cond.selects RX0 yX0_layOut yX0_layOut, Cond.code yX0_layOut cX0_layOut 3 none, Cond.fieldLink RX0 65 "Beamrow$Element" "weight" "J", Cond.fieldLink RX0 18 "Beamrow$Element" "laid" "[J", Cond.fieldLink RX0 12 "Beamrow$Element" "tape" "LBeamrow$Tape;", Cond.methodLink RX0 61 yX3_at, Cond.instanceMethod yX3_at, Cond.selects RX3 yX3_at yX3_at, Cond.initialized RX3, Cond.code yX3_at cX3_at 3 (some .int), Cond.fieldLink RX3 19 "Beamrow$Tape" "end" "I", Cond.fieldLink RX3 9 "Beamrow$Tape" "slots" "[I", Cond.methodLink RX3 22 yX3_slotOf, Cond.static yX3_slotOf, Cond.code yX3_slotOf cX3_slotOf 1 (some .int), Cond.methodLink RX3 26 yX3_keeps, Cond.instanceMethod yX3_keeps]
def wsX4_powerAnew_r3 : List Cond := [Cond.selects RX3 yX3_keeps yX3_keeps, Cond.code yX3_keeps cX3_keeps 2 (some .boolean), Cond.fieldLink RX3 15 "Beamrow$Tape" "begin" "I", Cond.methodLink RX0 69 yX0_turnAll, Cond.instanceMethod yX0_turnAll, Cond.selects RX0 yX0_turnAll yX0_turnAll, Cond.code yX0_turnAll cX0_turnAll 2 none, Cond.fieldLink RX0 25 "Beamrow$Element" "trimGain" "I", Cond.fieldLink RX0 22 "Beamrow$Element" "turned" "[J", Cond.constantLong RX0 72 (64), Cond.methodLink RX0 74 yJ9_floorDiv_f86c9, Cond.static yJ9_floorDiv_f86c9, Cond.initialized RJ9, Cond.code yJ9_floorDiv_f86c9 cJ9_floorDiv_f86c9 6 (some .long), Cond.methodLink RX4 154 yX4_powerByPairs, Cond.instanceMethod yX4_powerByPairs, Cond.selects RX4 yX4_powerByPairs yX4_powerByPairs, Cond.code yX4_powerByPairs cX4_powerByPairs 12 (some .long), Cond.methodLink RX4 232 yX0_toldWith, Cond.instanceMethod yX0_toldWith, Cond.selects RX0 yX0_toldWith yX0_toldWith, Cond.code yX0_toldWith cX0_toldWith 8 (some .long), Cond.methodLink RX0 80 yX0_firstTold, Cond.instanceMethod yX0_firstTold]
def wsX4_powerAnew_r4 : List Cond := [Cond.selects RX0 yX0_firstTold yX0_firstTold, Cond.code yX0_firstTold cX0_firstTold 2 (some .int), Cond.fieldLink RX0 49 "Beamrow$Element" "trimLag" "I", Cond.methodLink RX0 77 yX0_delayFor, Cond.instanceMethod yX0_delayFor, Cond.selects RX0 yX0_delayFor yX0_delayFor, Cond.code yX0_delayFor cX0_delayFor 2 (some .int), Cond.fieldLink RX0 36 "Beamrow$Element" "position" "I", Cond.methodLink RX0 52 yJ9_floorDiv_7cf53, Cond.static yJ9_floorDiv_7cf53, Cond.code yJ9_floorDiv_7cf53 cJ9_floorDiv_7cf53 3 (some .int), Cond.methodLink RX0 83 yX0_toldAt, Cond.instanceMethod yX0_toldAt, Cond.selects RX0 yX0_toldAt yX0_toldAt, Cond.code yX0_toldAt cX0_toldAt 2 (some .long)]
def wsX4_powerAnew : List Cond := .code yX4_powerAnew cX4_powerAnew 2 (some .long) :: ((wsX4_powerAnew_r1 ++ (wsX4_powerAnew_r2 ++ (wsX4_powerAnew_r3 ++ wsX4_powerAnew_r4))) ++ wsX40 ++ wsX00 ++ wsX30 ++ (vx_atS RX4 75 "java/lang/IndexOutOfBoundsException" ["java/lang/RuntimeException", "java/lang/Exception"]).filter goodWord)
def wsX4_fillPowers_r1 : List Cond := [Cond.fieldLink RX4 32 "Beamrow" "powers" "[J", Cond.methodLink RX4 236 Lib.MathLoose.max_long.x, Cond.static Lib.MathLoose.max_long.x, Cond.initialized "java/lang/Math", Cond.code Lib.MathLoose.max_long.x Lib.MathLoose.max_long.code 4 (some .long), Cond.methodLink RX4 150 yX4_powerBySums, Cond.instanceMethod yX4_powerBySums, Cond.selects RX4 yX4_powerBySums yX4_powerBySums, Cond.initialized RX4, Cond.code yX4_powerBySums cX4_powerBySums 9 (some .long), Cond.fieldLink RX4 28 "Beamrow" "sums" "[J", Cond.methodLink RX4 146 yX4_steer, Cond.instanceMethod yX4_steer, Cond.selects RX4 yX4_steer yX4_steer, Cond.code yX4_steer cX4_steer 6 none, Cond.fieldLink RX4 11 "Beamrow" "elements" "[LBeamrow$Element;", Cond.methodLink RX4 222 yJ7_fill_d0a16, Cond.static yJ7_fill_d0a16, Cond.initialized RJ7, Cond.code yJ7_fill_d0a16 cJ7_fill_d0a16 5 none, Cond.methodLink RX4 228 yX0_tellTo, Cond.instanceMethod yX0_tellTo, Cond.selects RX0 yX0_tellTo yX0_tellTo, Cond.initialized RX0]
def wsX4_fillPowers_r2 : List Cond := [Cond.code yX0_tellTo cX0_tellTo 5 none, Cond.fieldLink RX0 65 "Beamrow$Element" "weight" "J", Cond.methodLink RX0 80 yX0_firstTold, Cond.instanceMethod yX0_firstTold, Cond.selects RX0 yX0_firstTold yX0_firstTold, Cond.code yX0_firstTold cX0_firstTold 2 (some .int), Cond.fieldLink RX0 49 "Beamrow$Element" "trimLag" "I", Cond.methodLink RX0 77 yX0_delayFor, Cond.instanceMethod yX0_delayFor, Cond.selects RX0 yX0_delayFor yX0_delayFor, Cond.code yX0_delayFor cX0_delayFor 2 (some .int), Cond.fieldLink RX0 36 "Beamrow$Element" "position" "I", Cond.methodLink RX0 52 yJ9_floorDiv_7cf53, Cond.static yJ9_floorDiv_7cf53, Cond.initialized RJ9, Cond.code yJ9_floorDiv_7cf53 cJ9_floorDiv_7cf53 3 (some .int), Cond.methodLink RX0 83 yX0_toldAt, Cond.instanceMethod yX0_toldAt, Cond.selects RX0 yX0_toldAt yX0_toldAt, Cond.code yX0_toldAt cX0_toldAt 2 (some .long), Cond.fieldLink RX0 22 "Beamrow$Element" "turned" "[J"]
def wsX4_fillPowers : List Cond := .code yX4_fillPowers cX4_fillPowers 4 (some .long) :: ((wsX4_fillPowers_r1 ++ wsX4_fillPowers_r2) ++ wsX40 ++ wsX00)
def wsX4_powerAt : List Cond := .code yX4_powerAt cX4_powerAt 2 (some .long) :: ([.fieldLink RX4 32 "Beamrow" "powers" "[J"] ++ wsX40)
def wsX4_isPeak : List Cond := .code yX4_isPeak cX4_isPeak 4 (some .boolean) :: ([.methodLink RX4 240 yX4_powerAt, .instanceMethod yX4_powerAt, .selects RX4 yX4_powerAt yX4_powerAt, .initialized RX4, .code yX4_powerAt cX4_powerAt 2 (some .long), .fieldLink RX4 32 "Beamrow" "powers" "[J"] ++ wsX40)
def wsX4_peaks_r1 : List Cond := [Cond.classLink RX4 45 "java/lang/IllegalArgumentException", Cond.initialized "java/lang/IllegalArgumentException", Cond.fieldLink RX4 32 "Beamrow" "powers" "[J", Cond.constantLong RX4 165 (100), Cond.methodLink RX4 41 yX4_isWithin, Cond.static yX4_isWithin, Cond.initialized RX4, Cond.code yX4_isWithin cX4_isWithin 3 (some .boolean), Cond.methodLink RX4 124 yX4_layAll, Cond.instanceMethod yX4_layAll, Cond.selects RX4 yX4_layAll yX4_layAll, Cond.code yX4_layAll cX4_layAll 10 (some .long), Cond.fieldLink RX4 11 "Beamrow" "elements" "[LBeamrow$Element;", Cond.methodLink RX4 76 yX0_isLiving, Cond.instanceMethod yX0_isLiving, Cond.selects RX0 yX0_isLiving yX0_isLiving, Cond.initialized RX0, Cond.code yX0_isLiving cX0_isLiving 1 (some .boolean), Cond.fieldLink RX0 33 "Beamrow$Element" "living" "Z", Cond.methodLink RX4 210 yX4_weightOf, Cond.instanceMethod yX4_weightOf, Cond.selects RX4 yX4_weightOf yX4_weightOf, Cond.code yX4_weightOf cX4_weightOf 4 (some .int), Cond.fieldLink RX4 37 "Beamrow" "shape" "I"]
def wsX4_peaks_r2 : List Cond := [Cond.methodLink RX4 217 Lib.Math.min.name, Cond.static Lib.Math.min.name, Cond.initialized "java/lang/Math", Cond.code Lib.Math.min.name Lib.Math.min.code 2 (some .int), Cond.methodLink RX4 214 yX0_layOut, Cond.instanceMethod yX0_layOut, Cond.selects RX0 yX0_layOut yX0_layOut, Cond.code yX0_layOut cX0_layOut 3 none, Cond.fieldLink RX0 65 "Beamrow$Element" "weight" "J", Cond.fieldLink RX0 18 "Beamrow$Element" "laid" "[J", Cond.fieldLink RX0 12 "Beamrow$Element" "tape" "LBeamrow$Tape;", Cond.methodLink RX0 61 yX3_at, Cond.instanceMethod yX3_at, Cond.selects RX3 yX3_at yX3_at, Cond.initialized RX3, Cond.code yX3_at cX3_at 3 (some .int), Cond.fieldLink RX3 19 "Beamrow$Tape" "end" "I", Cond.fieldLink RX3 9 "Beamrow$Tape" "slots" "[I", Cond.methodLink RX3 22 yX3_slotOf, Cond.static yX3_slotOf, Cond.code yX3_slotOf cX3_slotOf 1 (some .int), Cond.methodLink RX3 26 yX3_keeps, Cond.instanceMethod yX3_keeps, Cond.selects RX3 yX3_keeps yX3_keeps]
def wsX4_peaks_r3 : List Cond := [Cond.code yX3_keeps cX3_keeps 2 (some .boolean), Cond.fieldLink RX3 15 "Beamrow$Tape" "begin" "I", Cond.methodLink RX0 69 yX0_turnAll, Cond.instanceMethod yX0_turnAll, Cond.selects RX0 yX0_turnAll yX0_turnAll, Cond.code yX0_turnAll cX0_turnAll 2 none, Cond.fieldLink RX0 25 "Beamrow$Element" "trimGain" "I", Cond.fieldLink RX0 22 "Beamrow$Element" "turned" "[J", Cond.constantLong RX0 72 (64), Cond.methodLink RX0 74 yJ9_floorDiv_f86c9, Cond.static yJ9_floorDiv_f86c9, Cond.initialized RJ9, Cond.code yJ9_floorDiv_f86c9 cJ9_floorDiv_f86c9 6 (some .long), Cond.methodLink RX4 159 yX4_fillPowers, Cond.instanceMethod yX4_fillPowers, Cond.selects RX4 yX4_fillPowers yX4_fillPowers, Cond.code yX4_fillPowers cX4_fillPowers 4 (some .long), Cond.methodLink RX4 236 Lib.MathLoose.max_long.x, Cond.static Lib.MathLoose.max_long.x, Cond.code Lib.MathLoose.max_long.x Lib.MathLoose.max_long.code 4 (some .long), Cond.methodLink RX4 150 yX4_powerBySums, Cond.instanceMethod yX4_powerBySums, Cond.selects RX4 yX4_powerBySums yX4_powerBySums, Cond.code yX4_powerBySums cX4_powerBySums 9 (some .long)]
def wsX4_peaks_r4 : List Cond := [Cond.fieldLink RX4 28 "Beamrow" "sums" "[J", Cond.methodLink RX4 146 yX4_steer, Cond.instanceMethod yX4_steer, Cond.selects RX4 yX4_steer yX4_steer, Cond.code yX4_steer cX4_steer 6 none, Cond.methodLink RX4 222 yJ7_fill_d0a16, Cond.static yJ7_fill_d0a16, Cond.initialized RJ7, Cond.code yJ7_fill_d0a16 cJ7_fill_d0a16 5 none, Cond.methodLink RX4 228 yX0_tellTo, Cond.instanceMethod yX0_tellTo, Cond.selects RX0 yX0_tellTo yX0_tellTo, Cond.code yX0_tellTo cX0_tellTo 5 none, Cond.methodLink RX0 80 yX0_firstTold, Cond.instanceMethod yX0_firstTold, Cond.selects RX0 yX0_firstTold yX0_firstTold, Cond.code yX0_firstTold cX0_firstTold 2 (some .int), Cond.fieldLink RX0 49 "Beamrow$Element" "trimLag" "I", Cond.methodLink RX0 77 yX0_delayFor, Cond.instanceMethod yX0_delayFor, Cond.selects RX0 yX0_delayFor yX0_delayFor, Cond.code yX0_delayFor cX0_delayFor 2 (some .int), Cond.fieldLink RX0 36 "Beamrow$Element" "position" "I", Cond.methodLink RX0 52 yJ9_floorDiv_7cf53]
def wsX4_peaks_r5 : List Cond := [Cond.static yJ9_floorDiv_7cf53, Cond.code yJ9_floorDiv_7cf53 cJ9_floorDiv_7cf53 3 (some .int), Cond.methodLink RX0 83 yX0_toldAt, Cond.instanceMethod yX0_toldAt, Cond.selects RX0 yX0_toldAt yX0_toldAt, Cond.code yX0_toldAt cX0_toldAt 2 (some .long), Cond.methodLink RX4 162 yX4_isPeak, Cond.instanceMethod yX4_isPeak, Cond.selects RX4 yX4_isPeak yX4_isPeak, Cond.code yX4_isPeak cX4_isPeak 4 (some .boolean), Cond.methodLink RX4 240 yX4_powerAt, Cond.instanceMethod yX4_powerAt, Cond.selects RX4 yX4_powerAt yX4_powerAt, Cond.code yX4_powerAt cX4_powerAt 2 (some .long)]
def wsX4_peaks : List Cond := .code yX4_peaks cX4_peaks 6 (some .int) :: ((wsX4_peaks_r1 ++ (wsX4_peaks_r2 ++ (wsX4_peaks_r3 ++ (wsX4_peaks_r4 ++ wsX4_peaks_r5)))) ++ wsX40 ++ wsX00 ++ wsX30 ++ (vx_atS RX4 49 "java/lang/IllegalArgumentException" ["java/lang/RuntimeException", "java/lang/Exception"]).filter goodWord)
def wsX4_strongest_r1 : List Cond := [Cond.fieldLink RX4 32 "Beamrow" "powers" "[J", Cond.methodLink RX4 159 yX4_fillPowers, Cond.instanceMethod yX4_fillPowers, Cond.selects RX4 yX4_fillPowers yX4_fillPowers, Cond.initialized RX4, Cond.code yX4_fillPowers cX4_fillPowers 4 (some .long), Cond.methodLink RX4 236 Lib.MathLoose.max_long.x, Cond.static Lib.MathLoose.max_long.x, Cond.initialized "java/lang/Math", Cond.code Lib.MathLoose.max_long.x Lib.MathLoose.max_long.code 4 (some .long), Cond.methodLink RX4 150 yX4_powerBySums, Cond.instanceMethod yX4_powerBySums, Cond.selects RX4 yX4_powerBySums yX4_powerBySums, Cond.code yX4_powerBySums cX4_powerBySums 9 (some .long), Cond.fieldLink RX4 28 "Beamrow" "sums" "[J", Cond.methodLink RX4 146 yX4_steer, Cond.instanceMethod yX4_steer, Cond.selects RX4 yX4_steer yX4_steer, Cond.code yX4_steer cX4_steer 6 none, Cond.fieldLink RX4 11 "Beamrow" "elements" "[LBeamrow$Element;", Cond.methodLink RX4 222 yJ7_fill_d0a16, Cond.static yJ7_fill_d0a16, Cond.initialized RJ7, Cond.code yJ7_fill_d0a16 cJ7_fill_d0a16 5 none]
def wsX4_strongest_r2 : List Cond := [Cond.methodLink RX4 228 yX0_tellTo, Cond.instanceMethod yX0_tellTo, Cond.selects RX0 yX0_tellTo yX0_tellTo, Cond.initialized RX0, Cond.code yX0_tellTo cX0_tellTo 5 none, Cond.fieldLink RX0 65 "Beamrow$Element" "weight" "J", Cond.methodLink RX0 80 yX0_firstTold, Cond.instanceMethod yX0_firstTold, Cond.selects RX0 yX0_firstTold yX0_firstTold, Cond.code yX0_firstTold cX0_firstTold 2 (some .int), Cond.fieldLink RX0 49 "Beamrow$Element" "trimLag" "I", Cond.methodLink RX0 77 yX0_delayFor, Cond.instanceMethod yX0_delayFor, Cond.selects RX0 yX0_delayFor yX0_delayFor, Cond.code yX0_delayFor cX0_delayFor 2 (some .int), Cond.fieldLink RX0 36 "Beamrow$Element" "position" "I", Cond.methodLink RX0 52 yJ9_floorDiv_7cf53, Cond.static yJ9_floorDiv_7cf53, Cond.initialized RJ9, Cond.code yJ9_floorDiv_7cf53 cJ9_floorDiv_7cf53 3 (some .int), Cond.methodLink RX0 83 yX0_toldAt, Cond.instanceMethod yX0_toldAt, Cond.selects RX0 yX0_toldAt yX0_toldAt, Cond.code yX0_toldAt cX0_toldAt 2 (some .long)]
def wsX4_strongest_r3 : List Cond := [Cond.fieldLink RX0 22 "Beamrow$Element" "turned" "[J"]
def wsX4_strongest : List Cond := .code yX4_strongest cX4_strongest 4 (some .int) :: ((wsX4_strongest_r1 ++ (wsX4_strongest_r2 ++ wsX4_strongest_r3)) ++ wsX40 ++ wsX00)
def wsX4_takeAway_r1 : List Cond := [Cond.fieldLink RX4 28 "Beamrow" "sums" "[J", Cond.fieldLink RX4 11 "Beamrow" "elements" "[LBeamrow$Element;", Cond.methodLink RX4 146 yX4_steer, Cond.instanceMethod yX4_steer, Cond.selects RX4 yX4_steer yX4_steer, Cond.initialized RX4, Cond.code yX4_steer cX4_steer 6 none, Cond.methodLink RX4 222 yJ7_fill_d0a16, Cond.static yJ7_fill_d0a16, Cond.initialized RJ7, Cond.code yJ7_fill_d0a16 cJ7_fill_d0a16 5 none, Cond.methodLink RX4 228 yX0_tellTo, Cond.instanceMethod yX0_tellTo, Cond.selects RX0 yX0_tellTo yX0_tellTo, Cond.initialized RX0, Cond.code yX0_tellTo cX0_tellTo 5 none, Cond.fieldLink RX0 65 "Beamrow$Element" "weight" "J", Cond.methodLink RX0 80 yX0_firstTold, Cond.instanceMethod yX0_firstTold, Cond.selects RX0 yX0_firstTold yX0_firstTold, Cond.code yX0_firstTold cX0_firstTold 2 (some .int), Cond.fieldLink RX0 49 "Beamrow$Element" "trimLag" "I", Cond.methodLink RX0 77 yX0_delayFor, Cond.instanceMethod yX0_delayFor]
def wsX4_takeAway_r2 : List Cond := [Cond.selects RX0 yX0_delayFor yX0_delayFor, Cond.code yX0_delayFor cX0_delayFor 2 (some .int), Cond.fieldLink RX0 36 "Beamrow$Element" "position" "I", Cond.methodLink RX0 52 yJ9_floorDiv_7cf53, Cond.static yJ9_floorDiv_7cf53, Cond.initialized RJ9, Cond.code yJ9_floorDiv_7cf53 cJ9_floorDiv_7cf53 3 (some .int), Cond.methodLink RX0 83 yX0_toldAt, Cond.instanceMethod yX0_toldAt, Cond.selects RX0 yX0_toldAt yX0_toldAt, Cond.code yX0_toldAt cX0_toldAt 2 (some .long), Cond.fieldLink RX0 22 "Beamrow$Element" "turned" "[J", Cond.methodLink RX4 243 yJ9_floorDiv_f86c9, Cond.static yJ9_floorDiv_f86c9, Cond.code yJ9_floorDiv_f86c9 cJ9_floorDiv_f86c9 6 (some .long), Cond.methodLink RX4 246 yX0_takeAway, Cond.instanceMethod yX0_takeAway, Cond.selects RX0 yX0_takeAway yX0_takeAway, Cond.code yX0_takeAway cX0_takeAway 6 none, Cond.fieldLink RX0 12 "Beamrow$Element" "tape" "LBeamrow$Tape;", Cond.fieldLink RX0 18 "Beamrow$Element" "laid" "[J", Cond.methodLink RX0 87 yX3_keeps, Cond.instanceMethod yX3_keeps, Cond.selects RX3 yX3_keeps yX3_keeps]
def wsX4_takeAway_r3 : List Cond := [Cond.initialized RX3, Cond.code yX3_keeps cX3_keeps 2 (some .boolean), Cond.fieldLink RX3 19 "Beamrow$Tape" "end" "I", Cond.fieldLink RX3 15 "Beamrow$Tape" "begin" "I", Cond.methodLink RX4 249 yX0_turnAll, Cond.instanceMethod yX0_turnAll, Cond.selects RX0 yX0_turnAll yX0_turnAll, Cond.code yX0_turnAll cX0_turnAll 2 none, Cond.fieldLink RX0 25 "Beamrow$Element" "trimGain" "I", Cond.constantLong RX0 72 (64), Cond.methodLink RX0 74 yJ9_floorDiv_f86c9]
def wsX4_takeAway : List Cond := .code yX4_takeAway cX4_takeAway 11 none :: ((wsX4_takeAway_r1 ++ (wsX4_takeAway_r2 ++ wsX4_takeAway_r3)) ++ wsX40 ++ wsX00 ++ wsX30)
def wsX4_found_r1 : List Cond := [Cond.classLink RX4 71 "java/lang/IndexOutOfBoundsException", Cond.initialized "java/lang/IndexOutOfBoundsException", Cond.methodLink RX4 41 yX4_isWithin, Cond.static yX4_isWithin, Cond.initialized RX4, Cond.code yX4_isWithin cX4_isWithin 3 (some .boolean), Cond.methodLink RX4 124 yX4_layAll, Cond.instanceMethod yX4_layAll, Cond.selects RX4 yX4_layAll yX4_layAll, Cond.code yX4_layAll cX4_layAll 10 (some .long), Cond.fieldLink RX4 11 "Beamrow" "elements" "[LBeamrow$Element;", Cond.methodLink RX4 76 yX0_isLiving, Cond.instanceMethod yX0_isLiving, Cond.selects RX0 yX0_isLiving yX0_isLiving, Cond.initialized RX0, Cond.code yX0_isLiving cX0_isLiving 1 (some .boolean), Cond.fieldLink RX0 33 "Beamrow$Element" "living" "Z", Cond.methodLink RX4 210 yX4_weightOf, Cond.instanceMethod yX4_weightOf, Cond.selects RX4 yX4_weightOf yX4_weightOf, Cond.code yX4_weightOf cX4_weightOf 4 (some .int), Cond.fieldLink RX4 37 "Beamrow" "shape" "I", Cond.methodLink RX4 217 Lib.Math.min.name, Cond.static Lib.Math.min.name]
def wsX4_found_r2 : List Cond := [Cond.initialized "java/lang/Math", Cond.code Lib.Math.min.name Lib.Math.min.code 2 (some .int), Cond.methodLink RX4 214 yX0_layOut, Cond.instanceMethod yX0_layOut, Cond.selects RX0 yX0_layOut yX0_layOut, Cond.code yX0_layOut cX0_layOut 3 none, Cond.fieldLink RX0 65 "Beamrow$Element" "weight" "J", Cond.fieldLink RX0 18 "Beamrow$Element" "laid" "[J", Cond.fieldLink RX0 12 "Beamrow$Element" "tape" "LBeamrow$Tape;", Cond.methodLink RX0 61 yX3_at, Cond.instanceMethod yX3_at, Cond.selects RX3 yX3_at yX3_at, Cond.initialized RX3, Cond.code yX3_at cX3_at 3 (some .int), Cond.fieldLink RX3 19 "Beamrow$Tape" "end" "I", Cond.fieldLink RX3 9 "Beamrow$Tape" "slots" "[I", Cond.methodLink RX3 22 yX3_slotOf, Cond.static yX3_slotOf, Cond.code yX3_slotOf cX3_slotOf 1 (some .int), Cond.methodLink RX3 26 yX3_keeps, Cond.instanceMethod yX3_keeps, Cond.selects RX3 yX3_keeps yX3_keeps, Cond.code yX3_keeps cX3_keeps 2 (some .boolean), Cond.fieldLink RX3 15 "Beamrow$Tape" "begin" "I"]
def wsX4_found_r3 : List Cond := [Cond.methodLink RX0 69 yX0_turnAll, Cond.instanceMethod yX0_turnAll, Cond.selects RX0 yX0_turnAll yX0_turnAll, Cond.code yX0_turnAll cX0_turnAll 2 none, Cond.fieldLink RX0 25 "Beamrow$Element" "trimGain" "I", Cond.fieldLink RX0 22 "Beamrow$Element" "turned" "[J", Cond.constantLong RX0 72 (64), Cond.methodLink RX0 74 yJ9_floorDiv_f86c9, Cond.static yJ9_floorDiv_f86c9, Cond.initialized RJ9, Cond.code yJ9_floorDiv_f86c9 cJ9_floorDiv_f86c9 6 (some .long), Cond.methodLink RX4 169 yX4_strongest, Cond.instanceMethod yX4_strongest, Cond.selects RX4 yX4_strongest yX4_strongest, Cond.code yX4_strongest cX4_strongest 4 (some .int), Cond.fieldLink RX4 32 "Beamrow" "powers" "[J", Cond.methodLink RX4 159 yX4_fillPowers, Cond.instanceMethod yX4_fillPowers, Cond.selects RX4 yX4_fillPowers yX4_fillPowers, Cond.code yX4_fillPowers cX4_fillPowers 4 (some .long), Cond.methodLink RX4 236 Lib.MathLoose.max_long.x, Cond.static Lib.MathLoose.max_long.x, Cond.code Lib.MathLoose.max_long.x Lib.MathLoose.max_long.code 4 (some .long), Cond.methodLink RX4 150 yX4_powerBySums]
def wsX4_found_r4 : List Cond := [Cond.instanceMethod yX4_powerBySums, Cond.selects RX4 yX4_powerBySums yX4_powerBySums, Cond.code yX4_powerBySums cX4_powerBySums 9 (some .long), Cond.fieldLink RX4 28 "Beamrow" "sums" "[J", Cond.methodLink RX4 146 yX4_steer, Cond.instanceMethod yX4_steer, Cond.selects RX4 yX4_steer yX4_steer, Cond.code yX4_steer cX4_steer 6 none, Cond.methodLink RX4 222 yJ7_fill_d0a16, Cond.static yJ7_fill_d0a16, Cond.initialized RJ7, Cond.code yJ7_fill_d0a16 cJ7_fill_d0a16 5 none, Cond.methodLink RX4 228 yX0_tellTo, Cond.instanceMethod yX0_tellTo, Cond.selects RX0 yX0_tellTo yX0_tellTo, Cond.code yX0_tellTo cX0_tellTo 5 none, Cond.methodLink RX0 80 yX0_firstTold, Cond.instanceMethod yX0_firstTold, Cond.selects RX0 yX0_firstTold yX0_firstTold, Cond.code yX0_firstTold cX0_firstTold 2 (some .int), Cond.fieldLink RX0 49 "Beamrow$Element" "trimLag" "I", Cond.methodLink RX0 77 yX0_delayFor, Cond.instanceMethod yX0_delayFor, Cond.selects RX0 yX0_delayFor yX0_delayFor]
def wsX4_found_r5 : List Cond := [Cond.code yX0_delayFor cX0_delayFor 2 (some .int), Cond.fieldLink RX0 36 "Beamrow$Element" "position" "I", Cond.methodLink RX0 52 yJ9_floorDiv_7cf53, Cond.static yJ9_floorDiv_7cf53, Cond.code yJ9_floorDiv_7cf53 cJ9_floorDiv_7cf53 3 (some .int), Cond.methodLink RX0 83 yX0_toldAt, Cond.instanceMethod yX0_toldAt, Cond.selects RX0 yX0_toldAt yX0_toldAt, Cond.code yX0_toldAt cX0_toldAt 2 (some .long), Cond.methodLink RX4 172 yX4_takeAway, Cond.instanceMethod yX4_takeAway, Cond.selects RX4 yX4_takeAway yX4_takeAway, Cond.code yX4_takeAway cX4_takeAway 11 none, Cond.methodLink RX4 243 yJ9_floorDiv_f86c9, Cond.methodLink RX4 246 yX0_takeAway, Cond.instanceMethod yX0_takeAway, Cond.selects RX0 yX0_takeAway yX0_takeAway, Cond.code yX0_takeAway cX0_takeAway 6 none, Cond.methodLink RX0 87 yX3_keeps, Cond.methodLink RX4 249 yX0_turnAll]
def wsX4_found : List Cond := .code yX4_found cX4_found 6 (some .int) :: ((wsX4_found_r1 ++ (wsX4_found_r2 ++ (wsX4_found_r3 ++ (wsX4_found_r4 ++ wsX4_found_r5)))) ++ wsX40 ++ wsX00 ++ wsX30 ++ (vx_atS RX4 75 "java/lang/IndexOutOfBoundsException" ["java/lang/RuntimeException", "java/lang/Exception"]).filter goodWord)
def wsX4_calibrated : List Cond := .code yX4_calibrated cX4_calibrated 3 (some .int) :: ([.classLink RX4 71 "java/lang/IndexOutOfBoundsException", .initialized "java/lang/IndexOutOfBoundsException", .fieldLink RX4 11 "Beamrow" "elements" "[LBeamrow$Element;", .methodLink RX4 67 yX4_isElement, .instanceMethod yX4_isElement, .selects RX4 yX4_isElement yX4_isElement, .initialized RX4, .code yX4_isElement cX4_isElement 2 (some .boolean), .fieldLink RX4 52 "Beamrow" "elementCount" "I", .methodLink RX4 176 yX0_getTrimLag, .instanceMethod yX0_getTrimLag, .selects RX0 yX0_getTrimLag yX0_getTrimLag, .initialized RX0, .code yX0_getTrimLag cX0_getTrimLag 1 (some .int), .fieldLink RX0 49 "Beamrow$Element" "trimLag" "I", .methodLink RX4 179 yX0_getTrimGain, .instanceMethod yX0_getTrimGain, .selects RX0 yX0_getTrimGain yX0_getTrimGain, .code yX0_getTrimGain cX0_getTrimGain 1 (some .int), .fieldLink RX0 25 "Beamrow$Element" "trimGain" "I"] ++ wsX40 ++ wsX00 ++ (vx_atS RX4 75 "java/lang/IndexOutOfBoundsException" ["java/lang/RuntimeException", "java/lang/Exception"]).filter goodWord)
def wsX4_tick : List Cond := .code yX4_tick cX4_tick 1 (some .int) :: ([.fieldLink RX4 60 "Beamrow" "nextTick" "I"] ++ wsX40)
def wsX5_init : List Cond := .code yX5_init cX5_init 1 none :: ([.methodLink RX5 1 objectInit, .instanceMethod objectInit, .code objectInit ⟨#[0xb1]⟩ 1 none, .arrayClass .int, .fieldLink RX5 7 "BeamrowModel" "positions" "[I", .fieldLink RX5 13 "BeamrowModel" "gains" "[I", .fieldLink RX5 16 "BeamrowModel" "lags" "[I", .fieldLink RX5 19 "BeamrowModel" "began" "[I", .arrayClass .boolean, .fieldLink RX5 22 "BeamrowModel" "isAlive" "[Z", .fieldLink RX5 26 "BeamrowModel" "byGain" "[I", .fieldLink RX5 29 "BeamrowModel" "byLag" "[I", .fieldLink RX5 32 "BeamrowModel" "bearings" "[I", .fieldLink RX5 35 "BeamrowModel" "strengths" "[I", .fieldLink RX5 38 "BeamrowModel" "periods" "[I", .fieldLink RX5 41 "BeamrowModel" "samples" "[I", .fieldLink RX5 44 "BeamrowModel" "left" "[I", .fieldLink RX5 47 "BeamrowModel" "means" "[I", .arrayClass .long, .fieldLink RX5 50 "BeamrowModel" "powers" "[J", .fieldLink RX5 54 "BeamrowModel" "number" "I"] ++ wsX50)
def wsX5_thrown : List Cond := .code yX5_thrown cX5_thrown 1 (some .int) :: ([.fieldLink RX5 58 "BeamrowModel" "thrown" "I"] ++ wsX50)
def wsX5_goes : List Cond := .code yX5_goes cX5_goes 2 (some .boolean) :: ([.fieldLink RX5 58 "BeamrowModel" "thrown" "I"] ++ wsX50)
def wsX5_isIn : List Cond := .code yX5_isIn cX5_isIn 3 (some .boolean) :: ([])
def wsX5_isElement : List Cond := .code yX5_isElement cX5_isElement 2 (some .boolean) :: ([.fieldLink RX5 61 "BeamrowModel" "elements" "I", .methodLink RX5 64 yX5_isIn, .static yX5_isIn, .initialized RX5, .code yX5_isIn cX5_isIn 3 (some .boolean)] ++ wsX50)
def wsX5_isBearing : List Cond := .code yX5_isBearing cX5_isBearing 1 (some .boolean) :: ([.methodLink RX5 64 yX5_isIn, .static yX5_isIn, .initialized RX5, .code yX5_isIn cX5_isIn 3 (some .boolean)])
def wsX5_down : List Cond := .code yX5_down cX5_down 6 (some .long) :: ([])
def wsX5_delay : List Cond := .code yX5_delay cX5_delay 3 (some .int) :: ([.fieldLink RX5 7 "BeamrowModel" "positions" "[I", .constantLong RX5 68 (4), .methodLink RX5 70 yX5_down, .static yX5_down, .initialized RX5, .code yX5_down cX5_down 6 (some .long)] ++ wsX50)
def wsX5_element : List Cond := .code yX5_element cX5_element 5 (some .int) :: ([.fieldLink RX5 61 "BeamrowModel" "elements" "I", .fieldLink RX5 7 "BeamrowModel" "positions" "[I", .fieldLink RX5 13 "BeamrowModel" "gains" "[I", .fieldLink RX5 16 "BeamrowModel" "lags" "[I", .fieldLink RX5 19 "BeamrowModel" "began" "[I", .fieldLink RX5 78 "BeamrowModel" "next" "I", .fieldLink RX5 22 "BeamrowModel" "isAlive" "[Z", .fieldLink RX5 26 "BeamrowModel" "byGain" "[I", .fieldLink RX5 29 "BeamrowModel" "byLag" "[I", .methodLink RX5 64 yX5_isIn, .static yX5_isIn, .initialized RX5, .code yX5_isIn cX5_isIn 3 (some .boolean), .methodLink RX5 74 yX5_goes, .instanceMethod yX5_goes, .selects RX5 yX5_goes yX5_goes, .code yX5_goes cX5_goes 2 (some .boolean), .fieldLink RX5 58 "BeamrowModel" "thrown" "I"] ++ wsX50)
def wsX5_alive : List Cond := .code yX5_alive cX5_alive 4 (some .boolean) :: ([.fieldLink RX5 22 "BeamrowModel" "isAlive" "[Z", .methodLink RX5 81 yX5_isElement, .instanceMethod yX5_isElement, .selects RX5 yX5_isElement yX5_isElement, .initialized RX5, .code yX5_isElement cX5_isElement 2 (some .boolean), .fieldLink RX5 61 "BeamrowModel" "elements" "I", .methodLink RX5 64 yX5_isIn, .static yX5_isIn, .code yX5_isIn cX5_isIn 3 (some .boolean), .methodLink RX5 74 yX5_goes, .instanceMethod yX5_goes, .selects RX5 yX5_goes yX5_goes, .code yX5_goes cX5_goes 2 (some .boolean), .fieldLink RX5 58 "BeamrowModel" "thrown" "I"] ++ wsX50)
def wsX5_source : List Cond := .code yX5_source cX5_source 5 (some .int) :: ([.fieldLink RX5 87 "BeamrowModel" "sources" "I", .fieldLink RX5 32 "BeamrowModel" "bearings" "[I", .fieldLink RX5 35 "BeamrowModel" "strengths" "[I", .fieldLink RX5 38 "BeamrowModel" "periods" "[I", .methodLink RX5 64 yX5_isIn, .static yX5_isIn, .initialized RX5, .code yX5_isIn cX5_isIn 3 (some .boolean), .methodLink RX5 84 yX5_isBearing, .static yX5_isBearing, .code yX5_isBearing cX5_isBearing 1 (some .boolean), .methodLink RX5 74 yX5_goes, .instanceMethod yX5_goes, .selects RX5 yX5_goes yX5_goes, .code yX5_goes cX5_goes 2 (some .boolean), .fieldLink RX5 58 "BeamrowModel" "thrown" "I"] ++ wsX50)
def wsX5_silence : List Cond := .code yX5_silence cX5_silence 2 (some .int) :: ([.fieldLink RX5 58 "BeamrowModel" "thrown" "I", .fieldLink RX5 87 "BeamrowModel" "sources" "I"] ++ wsX50)
def wsX5_noise : List Cond := .code yX5_noise cX5_noise 4 (some .int) :: ([.constant RX5 90 (65536), .fieldLink RX5 91 "BeamrowModel" "loudness" "I", .fieldLink RX5 54 "BeamrowModel" "number" "I", .methodLink RX5 64 yX5_isIn, .static yX5_isIn, .initialized RX5, .code yX5_isIn cX5_isIn 3 (some .boolean), .methodLink RX5 74 yX5_goes, .instanceMethod yX5_goes, .selects RX5 yX5_goes yX5_goes, .code yX5_goes cX5_goes 2 (some .boolean), .fieldLink RX5 58 "BeamrowModel" "thrown" "I"] ++ wsX50)
def wsX5_wave : List Cond := .code yX5_wave cX5_wave 4 (some .int) :: ([.fieldLink RX5 38 "BeamrowModel" "periods" "[I", .fieldLink RX5 35 "BeamrowModel" "strengths" "[I"] ++ wsX50)
def wsX5_hears_r1 : List Cond := [Cond.fieldLink RX5 87 "BeamrowModel" "sources" "I", Cond.fieldLink RX5 78 "BeamrowModel" "next" "I", Cond.fieldLink RX5 32 "BeamrowModel" "bearings" "[I", Cond.fieldLink RX5 16 "BeamrowModel" "lags" "[I", Cond.fieldLink RX5 54 "BeamrowModel" "number" "I", Cond.constant RX5 101 (65537), Cond.fieldLink RX5 91 "BeamrowModel" "loudness" "I", Cond.fieldLink RX5 13 "BeamrowModel" "gains" "[I", Cond.constantLong RX5 102 (64), Cond.fieldLink RX5 41 "BeamrowModel" "samples" "[I", Cond.fieldLink RX5 22 "BeamrowModel" "isAlive" "[Z", Cond.methodLink RX5 94 yX5_delay, Cond.instanceMethod yX5_delay, Cond.selects RX5 yX5_delay yX5_delay, Cond.initialized RX5, Cond.code yX5_delay cX5_delay 3 (some .int), Cond.fieldLink RX5 7 "BeamrowModel" "positions" "[I", Cond.constantLong RX5 68 (4), Cond.methodLink RX5 70 yX5_down, Cond.static yX5_down, Cond.code yX5_down cX5_down 6 (some .long), Cond.methodLink RX5 98 yX5_wave, Cond.instanceMethod yX5_wave, Cond.selects RX5 yX5_wave yX5_wave]
def wsX5_hears_r2 : List Cond := [Cond.code yX5_wave cX5_wave 4 (some .int), Cond.fieldLink RX5 38 "BeamrowModel" "periods" "[I", Cond.fieldLink RX5 35 "BeamrowModel" "strengths" "[I"]
def wsX5_hears : List Cond := .code yX5_hears cX5_hears 5 none :: ((wsX5_hears_r1 ++ wsX5_hears_r2) ++ wsX50)
def wsX5_hear_r1 : List Cond := [Cond.fieldLink RX5 61 "BeamrowModel" "elements" "I", Cond.fieldLink RX5 78 "BeamrowModel" "next" "I", Cond.methodLink RX5 64 yX5_isIn, Cond.static yX5_isIn, Cond.initialized RX5, Cond.code yX5_isIn cX5_isIn 3 (some .boolean), Cond.methodLink RX5 74 yX5_goes, Cond.instanceMethod yX5_goes, Cond.selects RX5 yX5_goes yX5_goes, Cond.code yX5_goes cX5_goes 2 (some .boolean), Cond.fieldLink RX5 58 "BeamrowModel" "thrown" "I", Cond.methodLink RX5 104 yX5_hears, Cond.instanceMethod yX5_hears, Cond.selects RX5 yX5_hears yX5_hears, Cond.code yX5_hears cX5_hears 5 none, Cond.fieldLink RX5 87 "BeamrowModel" "sources" "I", Cond.fieldLink RX5 32 "BeamrowModel" "bearings" "[I", Cond.fieldLink RX5 16 "BeamrowModel" "lags" "[I", Cond.fieldLink RX5 54 "BeamrowModel" "number" "I", Cond.constant RX5 101 (65537), Cond.fieldLink RX5 91 "BeamrowModel" "loudness" "I", Cond.fieldLink RX5 13 "BeamrowModel" "gains" "[I", Cond.constantLong RX5 102 (64), Cond.fieldLink RX5 41 "BeamrowModel" "samples" "[I"]
def wsX5_hear_r2 : List Cond := [Cond.fieldLink RX5 22 "BeamrowModel" "isAlive" "[Z", Cond.methodLink RX5 94 yX5_delay, Cond.instanceMethod yX5_delay, Cond.selects RX5 yX5_delay yX5_delay, Cond.code yX5_delay cX5_delay 3 (some .int), Cond.fieldLink RX5 7 "BeamrowModel" "positions" "[I", Cond.constantLong RX5 68 (4), Cond.methodLink RX5 70 yX5_down, Cond.static yX5_down, Cond.code yX5_down cX5_down 6 (some .long), Cond.methodLink RX5 98 yX5_wave, Cond.instanceMethod yX5_wave, Cond.selects RX5 yX5_wave yX5_wave, Cond.code yX5_wave cX5_wave 4 (some .int), Cond.fieldLink RX5 38 "BeamrowModel" "periods" "[I", Cond.fieldLink RX5 35 "BeamrowModel" "strengths" "[I"]
def wsX5_hear : List Cond := .code yX5_hear cX5_hear 4 (some .int) :: ((wsX5_hear_r1 ++ wsX5_hear_r2) ++ wsX50)
def wsX5_window : List Cond := .code yX5_window cX5_window 3 (some .int) :: ([.fieldLink RX5 108 "BeamrowModel" "window" "I", .methodLink RX5 64 yX5_isIn, .static yX5_isIn, .initialized RX5, .code yX5_isIn cX5_isIn 3 (some .boolean), .methodLink RX5 74 yX5_goes, .instanceMethod yX5_goes, .selects RX5 yX5_goes yX5_goes, .code yX5_goes cX5_goes 2 (some .boolean), .fieldLink RX5 58 "BeamrowModel" "thrown" "I"] ++ wsX50)
def wsX5_isKept : List Cond := .code yX5_isKept cX5_isKept 3 (some .boolean) :: ([.fieldLink RX5 19 "BeamrowModel" "began" "[I", .fieldLink RX5 78 "BeamrowModel" "next" "I", .methodLink RX5 64 yX5_isIn, .static yX5_isIn, .initialized RX5, .code yX5_isIn cX5_isIn 3 (some .boolean)] ++ wsX50)
def wsX5_kept : List Cond := .code yX5_kept cX5_kept 4 (some .int) :: ([.methodLink RX5 111 yX5_isKept, .instanceMethod yX5_isKept, .selects RX5 yX5_isKept yX5_isKept, .initialized RX5, .code yX5_isKept cX5_isKept 3 (some .boolean), .fieldLink RX5 19 "BeamrowModel" "began" "[I", .fieldLink RX5 78 "BeamrowModel" "next" "I", .methodLink RX5 64 yX5_isIn, .static yX5_isIn, .code yX5_isIn cX5_isIn 3 (some .boolean)] ++ wsX50)
def wsX5_weight : List Cond := .code yX5_weight cX5_weight 5 (some .int) :: ([.fieldLink RX5 61 "BeamrowModel" "elements" "I", .fieldLink RX5 22 "BeamrowModel" "isAlive" "[Z", .fieldLink RX5 108 "BeamrowModel" "window" "I"] ++ wsX50)
def wsX5_sumOf_r1 : List Cond := [Cond.fieldLink RX5 61 "BeamrowModel" "elements" "I", Cond.fieldLink RX5 29 "BeamrowModel" "byLag" "[I", Cond.constantLong RX5 102 (64), Cond.fieldLink RX5 26 "BeamrowModel" "byGain" "[I", Cond.methodLink RX5 94 yX5_delay, Cond.instanceMethod yX5_delay, Cond.selects RX5 yX5_delay yX5_delay, Cond.initialized RX5, Cond.code yX5_delay cX5_delay 3 (some .int), Cond.fieldLink RX5 7 "BeamrowModel" "positions" "[I", Cond.constantLong RX5 68 (4), Cond.methodLink RX5 70 yX5_down, Cond.static yX5_down, Cond.code yX5_down cX5_down 6 (some .long), Cond.methodLink RX5 115 yX5_kept, Cond.instanceMethod yX5_kept, Cond.selects RX5 yX5_kept yX5_kept, Cond.code yX5_kept cX5_kept 4 (some .int), Cond.methodLink RX5 111 yX5_isKept, Cond.instanceMethod yX5_isKept, Cond.selects RX5 yX5_isKept yX5_isKept, Cond.code yX5_isKept cX5_isKept 3 (some .boolean), Cond.fieldLink RX5 19 "BeamrowModel" "began" "[I", Cond.fieldLink RX5 78 "BeamrowModel" "next" "I"]
def wsX5_sumOf_r2 : List Cond := [Cond.methodLink RX5 64 yX5_isIn, Cond.static yX5_isIn, Cond.code yX5_isIn cX5_isIn 3 (some .boolean), Cond.methodLink RX5 119 yX5_weight, Cond.instanceMethod yX5_weight, Cond.selects RX5 yX5_weight yX5_weight, Cond.code yX5_weight cX5_weight 5 (some .int), Cond.fieldLink RX5 22 "BeamrowModel" "isAlive" "[Z", Cond.fieldLink RX5 108 "BeamrowModel" "window" "I"]
def wsX5_sumOf : List Cond := .code yX5_sumOf cX5_sumOf 8 (some .long) :: ((wsX5_sumOf_r1 ++ wsX5_sumOf_r2) ++ wsX50)
def wsX5_powerOf_r1 : List Cond := [Cond.fieldLink RX5 78 "BeamrowModel" "next" "I", Cond.methodLink RX5 123 yX5_sumOf, Cond.instanceMethod yX5_sumOf, Cond.selects RX5 yX5_sumOf yX5_sumOf, Cond.initialized RX5, Cond.code yX5_sumOf cX5_sumOf 8 (some .long), Cond.fieldLink RX5 61 "BeamrowModel" "elements" "I", Cond.fieldLink RX5 29 "BeamrowModel" "byLag" "[I", Cond.constantLong RX5 102 (64), Cond.fieldLink RX5 26 "BeamrowModel" "byGain" "[I", Cond.methodLink RX5 94 yX5_delay, Cond.instanceMethod yX5_delay, Cond.selects RX5 yX5_delay yX5_delay, Cond.code yX5_delay cX5_delay 3 (some .int), Cond.fieldLink RX5 7 "BeamrowModel" "positions" "[I", Cond.constantLong RX5 68 (4), Cond.methodLink RX5 70 yX5_down, Cond.static yX5_down, Cond.code yX5_down cX5_down 6 (some .long), Cond.methodLink RX5 115 yX5_kept, Cond.instanceMethod yX5_kept, Cond.selects RX5 yX5_kept yX5_kept, Cond.code yX5_kept cX5_kept 4 (some .int), Cond.methodLink RX5 111 yX5_isKept]
def wsX5_powerOf_r2 : List Cond := [Cond.instanceMethod yX5_isKept, Cond.selects RX5 yX5_isKept yX5_isKept, Cond.code yX5_isKept cX5_isKept 3 (some .boolean), Cond.fieldLink RX5 19 "BeamrowModel" "began" "[I", Cond.methodLink RX5 64 yX5_isIn, Cond.static yX5_isIn, Cond.code yX5_isIn cX5_isIn 3 (some .boolean), Cond.methodLink RX5 119 yX5_weight, Cond.instanceMethod yX5_weight, Cond.selects RX5 yX5_weight yX5_weight, Cond.code yX5_weight cX5_weight 5 (some .int), Cond.fieldLink RX5 22 "BeamrowModel" "isAlive" "[Z", Cond.fieldLink RX5 108 "BeamrowModel" "window" "I"]
def wsX5_powerOf : List Cond := .code yX5_powerOf cX5_powerOf 8 (some .long) :: ((wsX5_powerOf_r1 ++ wsX5_powerOf_r2) ++ wsX50)
def wsX5_lowest : List Cond := .code yX5_lowest cX5_lowest 2 (some .int) :: ([.fieldLink RX5 61 "BeamrowModel" "elements" "I", .fieldLink RX5 22 "BeamrowModel" "isAlive" "[Z"] ++ wsX50)
def wsX5_agreement : List Cond := .code yX5_agreement cX5_agreement 9 (some .long) :: ([.fieldLink RX5 78 "BeamrowModel" "next" "I", .fieldLink RX5 41 "BeamrowModel" "samples" "[I", .methodLink RX5 94 yX5_delay, .instanceMethod yX5_delay, .selects RX5 yX5_delay yX5_delay, .initialized RX5, .code yX5_delay cX5_delay 3 (some .int), .fieldLink RX5 7 "BeamrowModel" "positions" "[I", .constantLong RX5 68 (4), .methodLink RX5 70 yX5_down, .static yX5_down, .code yX5_down cX5_down 6 (some .long), .methodLink RX5 115 yX5_kept, .instanceMethod yX5_kept, .selects RX5 yX5_kept yX5_kept, .code yX5_kept cX5_kept 4 (some .int), .methodLink RX5 111 yX5_isKept, .instanceMethod yX5_isKept, .selects RX5 yX5_isKept yX5_isKept, .code yX5_isKept cX5_isKept 3 (some .boolean), .fieldLink RX5 19 "BeamrowModel" "began" "[I", .methodLink RX5 64 yX5_isIn, .static yX5_isIn, .code yX5_isIn cX5_isIn 3 (some .boolean)] ++ wsX50)
def wsX5_becomes : List Cond := .code yX5_becomes cX5_becomes 5 (some .boolean) :: ([.fieldLink RX5 26 "BeamrowModel" "byGain" "[I", .fieldLink RX5 29 "BeamrowModel" "byLag" "[I"] ++ wsX50)
def wsX5_isFitted_r1 : List Cond := [Cond.constantLong RX5 102 (64), Cond.constantLong RX5 131 (16), Cond.constantLong RX5 133 (255), Cond.methodLink RX5 127 yX5_agreement, Cond.instanceMethod yX5_agreement, Cond.selects RX5 yX5_agreement yX5_agreement, Cond.initialized RX5, Cond.code yX5_agreement cX5_agreement 9 (some .long), Cond.fieldLink RX5 78 "BeamrowModel" "next" "I", Cond.fieldLink RX5 41 "BeamrowModel" "samples" "[I", Cond.methodLink RX5 94 yX5_delay, Cond.instanceMethod yX5_delay, Cond.selects RX5 yX5_delay yX5_delay, Cond.code yX5_delay cX5_delay 3 (some .int), Cond.fieldLink RX5 7 "BeamrowModel" "positions" "[I", Cond.constantLong RX5 68 (4), Cond.methodLink RX5 70 yX5_down, Cond.static yX5_down, Cond.code yX5_down cX5_down 6 (some .long), Cond.methodLink RX5 115 yX5_kept, Cond.instanceMethod yX5_kept, Cond.selects RX5 yX5_kept yX5_kept, Cond.code yX5_kept cX5_kept 4 (some .int), Cond.methodLink RX5 111 yX5_isKept]
def wsX5_isFitted_r2 : List Cond := [Cond.instanceMethod yX5_isKept, Cond.selects RX5 yX5_isKept yX5_isKept, Cond.code yX5_isKept cX5_isKept 3 (some .boolean), Cond.fieldLink RX5 19 "BeamrowModel" "began" "[I", Cond.methodLink RX5 64 yX5_isIn, Cond.static yX5_isIn, Cond.code yX5_isIn cX5_isIn 3 (some .boolean), Cond.methodLink RX5 135 yX5_becomes, Cond.instanceMethod yX5_becomes, Cond.selects RX5 yX5_becomes yX5_becomes, Cond.code yX5_becomes cX5_becomes 5 (some .boolean), Cond.fieldLink RX5 26 "BeamrowModel" "byGain" "[I", Cond.fieldLink RX5 29 "BeamrowModel" "byLag" "[I"]
def wsX5_isFitted : List Cond := .code yX5_isFitted cX5_isFitted 9 (some .boolean) :: ((wsX5_isFitted_r1 ++ wsX5_isFitted_r2) ++ wsX50)
def wsX5_calibrate_r1 : List Cond := [Cond.fieldLink RX5 61 "BeamrowModel" "elements" "I", Cond.fieldLink RX5 22 "BeamrowModel" "isAlive" "[Z", Cond.methodLink RX5 84 yX5_isBearing, Cond.static yX5_isBearing, Cond.initialized RX5, Cond.code yX5_isBearing cX5_isBearing 1 (some .boolean), Cond.methodLink RX5 64 yX5_isIn, Cond.static yX5_isIn, Cond.code yX5_isIn cX5_isIn 3 (some .boolean), Cond.methodLink RX5 138 yX5_lowest, Cond.instanceMethod yX5_lowest, Cond.selects RX5 yX5_lowest yX5_lowest, Cond.code yX5_lowest cX5_lowest 2 (some .int), Cond.methodLink RX5 127 yX5_agreement, Cond.instanceMethod yX5_agreement, Cond.selects RX5 yX5_agreement yX5_agreement, Cond.code yX5_agreement cX5_agreement 9 (some .long), Cond.fieldLink RX5 78 "BeamrowModel" "next" "I", Cond.fieldLink RX5 41 "BeamrowModel" "samples" "[I", Cond.methodLink RX5 94 yX5_delay, Cond.instanceMethod yX5_delay, Cond.selects RX5 yX5_delay yX5_delay, Cond.code yX5_delay cX5_delay 3 (some .int), Cond.fieldLink RX5 7 "BeamrowModel" "positions" "[I"]
def wsX5_calibrate_r2 : List Cond := [Cond.constantLong RX5 68 (4), Cond.methodLink RX5 70 yX5_down, Cond.static yX5_down, Cond.code yX5_down cX5_down 6 (some .long), Cond.methodLink RX5 115 yX5_kept, Cond.instanceMethod yX5_kept, Cond.selects RX5 yX5_kept yX5_kept, Cond.code yX5_kept cX5_kept 4 (some .int), Cond.methodLink RX5 111 yX5_isKept, Cond.instanceMethod yX5_isKept, Cond.selects RX5 yX5_isKept yX5_isKept, Cond.code yX5_isKept cX5_isKept 3 (some .boolean), Cond.fieldLink RX5 19 "BeamrowModel" "began" "[I", Cond.methodLink RX5 74 yX5_goes, Cond.instanceMethod yX5_goes, Cond.selects RX5 yX5_goes yX5_goes, Cond.code yX5_goes cX5_goes 2 (some .boolean), Cond.fieldLink RX5 58 "BeamrowModel" "thrown" "I", Cond.methodLink RX5 135 yX5_becomes, Cond.instanceMethod yX5_becomes, Cond.selects RX5 yX5_becomes yX5_becomes, Cond.code yX5_becomes cX5_becomes 5 (some .boolean), Cond.fieldLink RX5 26 "BeamrowModel" "byGain" "[I", Cond.fieldLink RX5 29 "BeamrowModel" "byLag" "[I"]
def wsX5_calibrate_r3 : List Cond := [Cond.methodLink RX5 142 yX5_isFitted, Cond.instanceMethod yX5_isFitted, Cond.selects RX5 yX5_isFitted yX5_isFitted, Cond.code yX5_isFitted cX5_isFitted 9 (some .boolean), Cond.constantLong RX5 102 (64), Cond.constantLong RX5 131 (16), Cond.constantLong RX5 133 (255)]
def wsX5_calibrate : List Cond := .code yX5_calibrate cX5_calibrate 8 (some .int) :: ((wsX5_calibrate_r1 ++ (wsX5_calibrate_r2 ++ wsX5_calibrate_r3)) ++ wsX50)
def wsX5_sample_r1 : List Cond := [Cond.fieldLink RX5 41 "BeamrowModel" "samples" "[I", Cond.fieldLink RX5 78 "BeamrowModel" "next" "I", Cond.methodLink RX5 81 yX5_isElement, Cond.instanceMethod yX5_isElement, Cond.selects RX5 yX5_isElement yX5_isElement, Cond.initialized RX5, Cond.code yX5_isElement cX5_isElement 2 (some .boolean), Cond.fieldLink RX5 61 "BeamrowModel" "elements" "I", Cond.methodLink RX5 64 yX5_isIn, Cond.static yX5_isIn, Cond.code yX5_isIn cX5_isIn 3 (some .boolean), Cond.methodLink RX5 74 yX5_goes, Cond.instanceMethod yX5_goes, Cond.selects RX5 yX5_goes yX5_goes, Cond.code yX5_goes cX5_goes 2 (some .boolean), Cond.fieldLink RX5 58 "BeamrowModel" "thrown" "I", Cond.methodLink RX5 115 yX5_kept, Cond.instanceMethod yX5_kept, Cond.selects RX5 yX5_kept yX5_kept, Cond.code yX5_kept cX5_kept 4 (some .int), Cond.methodLink RX5 111 yX5_isKept, Cond.instanceMethod yX5_isKept, Cond.selects RX5 yX5_isKept yX5_isKept, Cond.code yX5_isKept cX5_isKept 3 (some .boolean)]
def wsX5_sample_r2 : List Cond := [Cond.fieldLink RX5 19 "BeamrowModel" "began" "[I"]
def wsX5_sample : List Cond := .code yX5_sample cX5_sample 4 (some .int) :: ((wsX5_sample_r1 ++ wsX5_sample_r2) ++ wsX50)
def wsX5_sum_r1 : List Cond := [Cond.fieldLink RX5 41 "BeamrowModel" "samples" "[I", Cond.fieldLink RX5 78 "BeamrowModel" "next" "I", Cond.methodLink RX5 84 yX5_isBearing, Cond.static yX5_isBearing, Cond.initialized RX5, Cond.code yX5_isBearing cX5_isBearing 1 (some .boolean), Cond.methodLink RX5 64 yX5_isIn, Cond.static yX5_isIn, Cond.code yX5_isIn cX5_isIn 3 (some .boolean), Cond.methodLink RX5 74 yX5_goes, Cond.instanceMethod yX5_goes, Cond.selects RX5 yX5_goes yX5_goes, Cond.code yX5_goes cX5_goes 2 (some .boolean), Cond.fieldLink RX5 58 "BeamrowModel" "thrown" "I", Cond.methodLink RX5 123 yX5_sumOf, Cond.instanceMethod yX5_sumOf, Cond.selects RX5 yX5_sumOf yX5_sumOf, Cond.code yX5_sumOf cX5_sumOf 8 (some .long), Cond.fieldLink RX5 61 "BeamrowModel" "elements" "I", Cond.fieldLink RX5 29 "BeamrowModel" "byLag" "[I", Cond.constantLong RX5 102 (64), Cond.fieldLink RX5 26 "BeamrowModel" "byGain" "[I", Cond.methodLink RX5 94 yX5_delay, Cond.instanceMethod yX5_delay]
def wsX5_sum_r2 : List Cond := [Cond.selects RX5 yX5_delay yX5_delay, Cond.code yX5_delay cX5_delay 3 (some .int), Cond.fieldLink RX5 7 "BeamrowModel" "positions" "[I", Cond.constantLong RX5 68 (4), Cond.methodLink RX5 70 yX5_down, Cond.static yX5_down, Cond.code yX5_down cX5_down 6 (some .long), Cond.methodLink RX5 115 yX5_kept, Cond.instanceMethod yX5_kept, Cond.selects RX5 yX5_kept yX5_kept, Cond.code yX5_kept cX5_kept 4 (some .int), Cond.methodLink RX5 111 yX5_isKept, Cond.instanceMethod yX5_isKept, Cond.selects RX5 yX5_isKept yX5_isKept, Cond.code yX5_isKept cX5_isKept 3 (some .boolean), Cond.fieldLink RX5 19 "BeamrowModel" "began" "[I", Cond.methodLink RX5 119 yX5_weight, Cond.instanceMethod yX5_weight, Cond.selects RX5 yX5_weight yX5_weight, Cond.code yX5_weight cX5_weight 5 (some .int), Cond.fieldLink RX5 22 "BeamrowModel" "isAlive" "[Z", Cond.fieldLink RX5 108 "BeamrowModel" "window" "I"]
def wsX5_sum : List Cond := .code yX5_sum cX5_sum 4 (some .long) :: ((wsX5_sum_r1 ++ wsX5_sum_r2) ++ wsX50)
def wsX5_power_r1 : List Cond := [Cond.fieldLink RX5 41 "BeamrowModel" "samples" "[I", Cond.methodLink RX5 84 yX5_isBearing, Cond.static yX5_isBearing, Cond.initialized RX5, Cond.code yX5_isBearing cX5_isBearing 1 (some .boolean), Cond.methodLink RX5 64 yX5_isIn, Cond.static yX5_isIn, Cond.code yX5_isIn cX5_isIn 3 (some .boolean), Cond.methodLink RX5 74 yX5_goes, Cond.instanceMethod yX5_goes, Cond.selects RX5 yX5_goes yX5_goes, Cond.code yX5_goes cX5_goes 2 (some .boolean), Cond.fieldLink RX5 58 "BeamrowModel" "thrown" "I", Cond.methodLink RX5 146 yX5_powerOf, Cond.instanceMethod yX5_powerOf, Cond.selects RX5 yX5_powerOf yX5_powerOf, Cond.code yX5_powerOf cX5_powerOf 8 (some .long), Cond.fieldLink RX5 78 "BeamrowModel" "next" "I", Cond.methodLink RX5 123 yX5_sumOf, Cond.instanceMethod yX5_sumOf, Cond.selects RX5 yX5_sumOf yX5_sumOf, Cond.code yX5_sumOf cX5_sumOf 8 (some .long), Cond.fieldLink RX5 61 "BeamrowModel" "elements" "I", Cond.fieldLink RX5 29 "BeamrowModel" "byLag" "[I"]
def wsX5_power_r2 : List Cond := [Cond.constantLong RX5 102 (64), Cond.fieldLink RX5 26 "BeamrowModel" "byGain" "[I", Cond.methodLink RX5 94 yX5_delay, Cond.instanceMethod yX5_delay, Cond.selects RX5 yX5_delay yX5_delay, Cond.code yX5_delay cX5_delay 3 (some .int), Cond.fieldLink RX5 7 "BeamrowModel" "positions" "[I", Cond.constantLong RX5 68 (4), Cond.methodLink RX5 70 yX5_down, Cond.static yX5_down, Cond.code yX5_down cX5_down 6 (some .long), Cond.methodLink RX5 115 yX5_kept, Cond.instanceMethod yX5_kept, Cond.selects RX5 yX5_kept yX5_kept, Cond.code yX5_kept cX5_kept 4 (some .int), Cond.methodLink RX5 111 yX5_isKept, Cond.instanceMethod yX5_isKept, Cond.selects RX5 yX5_isKept yX5_isKept, Cond.code yX5_isKept cX5_isKept 3 (some .boolean), Cond.fieldLink RX5 19 "BeamrowModel" "began" "[I", Cond.methodLink RX5 119 yX5_weight, Cond.instanceMethod yX5_weight, Cond.selects RX5 yX5_weight yX5_weight, Cond.code yX5_weight cX5_weight 5 (some .int)]
def wsX5_power_r3 : List Cond := [Cond.fieldLink RX5 22 "BeamrowModel" "isAlive" "[Z", Cond.fieldLink RX5 108 "BeamrowModel" "window" "I"]
def wsX5_power : List Cond := .code yX5_power cX5_power 2 (some .long) :: ((wsX5_power_r1 ++ (wsX5_power_r2 ++ wsX5_power_r3)) ++ wsX50)
def wsX5_powerAnew_r1 : List Cond := [Cond.fieldLink RX5 41 "BeamrowModel" "samples" "[I", Cond.methodLink RX5 84 yX5_isBearing, Cond.static yX5_isBearing, Cond.initialized RX5, Cond.code yX5_isBearing cX5_isBearing 1 (some .boolean), Cond.methodLink RX5 64 yX5_isIn, Cond.static yX5_isIn, Cond.code yX5_isIn cX5_isIn 3 (some .boolean), Cond.methodLink RX5 74 yX5_goes, Cond.instanceMethod yX5_goes, Cond.selects RX5 yX5_goes yX5_goes, Cond.code yX5_goes cX5_goes 2 (some .boolean), Cond.fieldLink RX5 58 "BeamrowModel" "thrown" "I", Cond.methodLink RX5 146 yX5_powerOf, Cond.instanceMethod yX5_powerOf, Cond.selects RX5 yX5_powerOf yX5_powerOf, Cond.code yX5_powerOf cX5_powerOf 8 (some .long), Cond.fieldLink RX5 78 "BeamrowModel" "next" "I", Cond.methodLink RX5 123 yX5_sumOf, Cond.instanceMethod yX5_sumOf, Cond.selects RX5 yX5_sumOf yX5_sumOf, Cond.code yX5_sumOf cX5_sumOf 8 (some .long), Cond.fieldLink RX5 61 "BeamrowModel" "elements" "I", Cond.fieldLink RX5 29 "BeamrowModel" "byLag" "[I"]
def wsX5_powerAnew_r2 : List Cond := [Cond.constantLong RX5 102 (64), Cond.fieldLink RX5 26 "BeamrowModel" "byGain" "[I", Cond.methodLink RX5 94 yX5_delay, Cond.instanceMethod yX5_delay, Cond.selects RX5 yX5_delay yX5_delay, Cond.code yX5_delay cX5_delay 3 (some .int), Cond.fieldLink RX5 7 "BeamrowModel" "positions" "[I", Cond.constantLong RX5 68 (4), Cond.methodLink RX5 70 yX5_down, Cond.static yX5_down, Cond.code yX5_down cX5_down 6 (some .long), Cond.methodLink RX5 115 yX5_kept, Cond.instanceMethod yX5_kept, Cond.selects RX5 yX5_kept yX5_kept, Cond.code yX5_kept cX5_kept 4 (some .int), Cond.methodLink RX5 111 yX5_isKept, Cond.instanceMethod yX5_isKept, Cond.selects RX5 yX5_isKept yX5_isKept, Cond.code yX5_isKept cX5_isKept 3 (some .boolean), Cond.fieldLink RX5 19 "BeamrowModel" "began" "[I", Cond.methodLink RX5 119 yX5_weight, Cond.instanceMethod yX5_weight, Cond.selects RX5 yX5_weight yX5_weight, Cond.code yX5_weight cX5_weight 5 (some .int)]
def wsX5_powerAnew_r3 : List Cond := [Cond.fieldLink RX5 22 "BeamrowModel" "isAlive" "[Z", Cond.fieldLink RX5 108 "BeamrowModel" "window" "I"]
def wsX5_powerAnew : List Cond := .code yX5_powerAnew cX5_powerAnew 2 (some .long) :: ((wsX5_powerAnew_r1 ++ (wsX5_powerAnew_r2 ++ wsX5_powerAnew_r3)) ++ wsX50)
def wsX5_findsPowers_r1 : List Cond := [Cond.fieldLink RX5 50 "BeamrowModel" "powers" "[J", Cond.methodLink RX5 146 yX5_powerOf, Cond.instanceMethod yX5_powerOf, Cond.selects RX5 yX5_powerOf yX5_powerOf, Cond.initialized RX5, Cond.code yX5_powerOf cX5_powerOf 8 (some .long), Cond.fieldLink RX5 78 "BeamrowModel" "next" "I", Cond.methodLink RX5 123 yX5_sumOf, Cond.instanceMethod yX5_sumOf, Cond.selects RX5 yX5_sumOf yX5_sumOf, Cond.code yX5_sumOf cX5_sumOf 8 (some .long), Cond.fieldLink RX5 61 "BeamrowModel" "elements" "I", Cond.fieldLink RX5 29 "BeamrowModel" "byLag" "[I", Cond.constantLong RX5 102 (64), Cond.fieldLink RX5 26 "BeamrowModel" "byGain" "[I", Cond.methodLink RX5 94 yX5_delay, Cond.instanceMethod yX5_delay, Cond.selects RX5 yX5_delay yX5_delay, Cond.code yX5_delay cX5_delay 3 (some .int), Cond.fieldLink RX5 7 "BeamrowModel" "positions" "[I", Cond.constantLong RX5 68 (4), Cond.methodLink RX5 70 yX5_down, Cond.static yX5_down, Cond.code yX5_down cX5_down 6 (some .long)]
def wsX5_findsPowers_r2 : List Cond := [Cond.methodLink RX5 115 yX5_kept, Cond.instanceMethod yX5_kept, Cond.selects RX5 yX5_kept yX5_kept, Cond.code yX5_kept cX5_kept 4 (some .int), Cond.methodLink RX5 111 yX5_isKept, Cond.instanceMethod yX5_isKept, Cond.selects RX5 yX5_isKept yX5_isKept, Cond.code yX5_isKept cX5_isKept 3 (some .boolean), Cond.fieldLink RX5 19 "BeamrowModel" "began" "[I", Cond.methodLink RX5 64 yX5_isIn, Cond.static yX5_isIn, Cond.code yX5_isIn cX5_isIn 3 (some .boolean), Cond.methodLink RX5 119 yX5_weight, Cond.instanceMethod yX5_weight, Cond.selects RX5 yX5_weight yX5_weight, Cond.code yX5_weight cX5_weight 5 (some .int), Cond.fieldLink RX5 22 "BeamrowModel" "isAlive" "[Z", Cond.fieldLink RX5 108 "BeamrowModel" "window" "I"]
def wsX5_findsPowers : List Cond := .code yX5_findsPowers cX5_findsPowers 3 none :: ((wsX5_findsPowers_r1 ++ wsX5_findsPowers_r2) ++ wsX50)
def wsX5_greatest : List Cond := .code yX5_greatest cX5_greatest 3 (some .int) :: ([.fieldLink RX5 50 "BeamrowModel" "powers" "[J"] ++ wsX50)
def wsX5_peaks_r1 : List Cond := [Cond.fieldLink RX5 41 "BeamrowModel" "samples" "[I", Cond.fieldLink RX5 50 "BeamrowModel" "powers" "[J", Cond.constantLong RX5 157 (100), Cond.methodLink RX5 64 yX5_isIn, Cond.static yX5_isIn, Cond.initialized RX5, Cond.code yX5_isIn cX5_isIn 3 (some .boolean), Cond.methodLink RX5 74 yX5_goes, Cond.instanceMethod yX5_goes, Cond.selects RX5 yX5_goes yX5_goes, Cond.code yX5_goes cX5_goes 2 (some .boolean), Cond.fieldLink RX5 58 "BeamrowModel" "thrown" "I", Cond.methodLink RX5 150 yX5_findsPowers, Cond.instanceMethod yX5_findsPowers, Cond.selects RX5 yX5_findsPowers yX5_findsPowers, Cond.code yX5_findsPowers cX5_findsPowers 3 none, Cond.methodLink RX5 146 yX5_powerOf, Cond.instanceMethod yX5_powerOf, Cond.selects RX5 yX5_powerOf yX5_powerOf, Cond.code yX5_powerOf cX5_powerOf 8 (some .long), Cond.fieldLink RX5 78 "BeamrowModel" "next" "I", Cond.methodLink RX5 123 yX5_sumOf, Cond.instanceMethod yX5_sumOf, Cond.selects RX5 yX5_sumOf yX5_sumOf]
def wsX5_peaks_r2 : List Cond := [Cond.code yX5_sumOf cX5_sumOf 8 (some .long), Cond.fieldLink RX5 61 "BeamrowModel" "elements" "I", Cond.fieldLink RX5 29 "BeamrowModel" "byLag" "[I", Cond.constantLong RX5 102 (64), Cond.fieldLink RX5 26 "BeamrowModel" "byGain" "[I", Cond.methodLink RX5 94 yX5_delay, Cond.instanceMethod yX5_delay, Cond.selects RX5 yX5_delay yX5_delay, Cond.code yX5_delay cX5_delay 3 (some .int), Cond.fieldLink RX5 7 "BeamrowModel" "positions" "[I", Cond.constantLong RX5 68 (4), Cond.methodLink RX5 70 yX5_down, Cond.static yX5_down, Cond.code yX5_down cX5_down 6 (some .long), Cond.methodLink RX5 115 yX5_kept, Cond.instanceMethod yX5_kept, Cond.selects RX5 yX5_kept yX5_kept, Cond.code yX5_kept cX5_kept 4 (some .int), Cond.methodLink RX5 111 yX5_isKept, Cond.instanceMethod yX5_isKept, Cond.selects RX5 yX5_isKept yX5_isKept, Cond.code yX5_isKept cX5_isKept 3 (some .boolean), Cond.fieldLink RX5 19 "BeamrowModel" "began" "[I", Cond.methodLink RX5 119 yX5_weight]
def wsX5_peaks_r3 : List Cond := [Cond.instanceMethod yX5_weight, Cond.selects RX5 yX5_weight yX5_weight, Cond.code yX5_weight cX5_weight 5 (some .int), Cond.fieldLink RX5 22 "BeamrowModel" "isAlive" "[Z", Cond.fieldLink RX5 108 "BeamrowModel" "window" "I", Cond.methodLink RX5 154 yX5_greatest, Cond.instanceMethod yX5_greatest, Cond.selects RX5 yX5_greatest yX5_greatest, Cond.code yX5_greatest cX5_greatest 3 (some .int)]
def wsX5_peaks : List Cond := .code yX5_peaks cX5_peaks 7 (some .int) :: ((wsX5_peaks_r1 ++ (wsX5_peaks_r2 ++ wsX5_peaks_r3)) ++ wsX50)
def wsX5_takes_r1 : List Cond := [Cond.fieldLink RX5 61 "BeamrowModel" "elements" "I", Cond.fieldLink RX5 47 "BeamrowModel" "means" "[I", Cond.fieldLink RX5 44 "BeamrowModel" "left" "[I", Cond.fieldLink RX5 78 "BeamrowModel" "next" "I", Cond.fieldLink RX5 29 "BeamrowModel" "byLag" "[I", Cond.fieldLink RX5 22 "BeamrowModel" "isAlive" "[Z", Cond.methodLink RX5 119 yX5_weight, Cond.instanceMethod yX5_weight, Cond.selects RX5 yX5_weight yX5_weight, Cond.initialized RX5, Cond.code yX5_weight cX5_weight 5 (some .int), Cond.fieldLink RX5 108 "BeamrowModel" "window" "I", Cond.methodLink RX5 123 yX5_sumOf, Cond.instanceMethod yX5_sumOf, Cond.selects RX5 yX5_sumOf yX5_sumOf, Cond.code yX5_sumOf cX5_sumOf 8 (some .long), Cond.constantLong RX5 102 (64), Cond.fieldLink RX5 26 "BeamrowModel" "byGain" "[I", Cond.methodLink RX5 94 yX5_delay, Cond.instanceMethod yX5_delay, Cond.selects RX5 yX5_delay yX5_delay, Cond.code yX5_delay cX5_delay 3 (some .int), Cond.fieldLink RX5 7 "BeamrowModel" "positions" "[I", Cond.constantLong RX5 68 (4)]
def wsX5_takes_r2 : List Cond := [Cond.methodLink RX5 70 yX5_down, Cond.static yX5_down, Cond.code yX5_down cX5_down 6 (some .long), Cond.methodLink RX5 115 yX5_kept, Cond.instanceMethod yX5_kept, Cond.selects RX5 yX5_kept yX5_kept, Cond.code yX5_kept cX5_kept 4 (some .int), Cond.methodLink RX5 111 yX5_isKept, Cond.instanceMethod yX5_isKept, Cond.selects RX5 yX5_isKept yX5_isKept, Cond.code yX5_isKept cX5_isKept 3 (some .boolean), Cond.fieldLink RX5 19 "BeamrowModel" "began" "[I", Cond.methodLink RX5 64 yX5_isIn, Cond.static yX5_isIn, Cond.code yX5_isIn cX5_isIn 3 (some .boolean)]
def wsX5_takes : List Cond := .code yX5_takes cX5_takes 6 none :: ((wsX5_takes_r1 ++ wsX5_takes_r2) ++ wsX50)
def wsX5_found_r1 : List Cond := [Cond.fieldLink RX5 44 "BeamrowModel" "left" "[I", Cond.fieldLink RX5 41 "BeamrowModel" "samples" "[I", Cond.fieldLink RX5 50 "BeamrowModel" "powers" "[J", Cond.methodLink RX5 64 yX5_isIn, Cond.static yX5_isIn, Cond.initialized RX5, Cond.code yX5_isIn cX5_isIn 3 (some .boolean), Cond.methodLink RX5 74 yX5_goes, Cond.instanceMethod yX5_goes, Cond.selects RX5 yX5_goes yX5_goes, Cond.code yX5_goes cX5_goes 2 (some .boolean), Cond.fieldLink RX5 58 "BeamrowModel" "thrown" "I", Cond.methodLink RX5 150 yX5_findsPowers, Cond.instanceMethod yX5_findsPowers, Cond.selects RX5 yX5_findsPowers yX5_findsPowers, Cond.code yX5_findsPowers cX5_findsPowers 3 none, Cond.methodLink RX5 146 yX5_powerOf, Cond.instanceMethod yX5_powerOf, Cond.selects RX5 yX5_powerOf yX5_powerOf, Cond.code yX5_powerOf cX5_powerOf 8 (some .long), Cond.fieldLink RX5 78 "BeamrowModel" "next" "I", Cond.methodLink RX5 123 yX5_sumOf, Cond.instanceMethod yX5_sumOf, Cond.selects RX5 yX5_sumOf yX5_sumOf]
def wsX5_found_r2 : List Cond := [Cond.code yX5_sumOf cX5_sumOf 8 (some .long), Cond.fieldLink RX5 61 "BeamrowModel" "elements" "I", Cond.fieldLink RX5 29 "BeamrowModel" "byLag" "[I", Cond.constantLong RX5 102 (64), Cond.fieldLink RX5 26 "BeamrowModel" "byGain" "[I", Cond.methodLink RX5 94 yX5_delay, Cond.instanceMethod yX5_delay, Cond.selects RX5 yX5_delay yX5_delay, Cond.code yX5_delay cX5_delay 3 (some .int), Cond.fieldLink RX5 7 "BeamrowModel" "positions" "[I", Cond.constantLong RX5 68 (4), Cond.methodLink RX5 70 yX5_down, Cond.static yX5_down, Cond.code yX5_down cX5_down 6 (some .long), Cond.methodLink RX5 115 yX5_kept, Cond.instanceMethod yX5_kept, Cond.selects RX5 yX5_kept yX5_kept, Cond.code yX5_kept cX5_kept 4 (some .int), Cond.methodLink RX5 111 yX5_isKept, Cond.instanceMethod yX5_isKept, Cond.selects RX5 yX5_isKept yX5_isKept, Cond.code yX5_isKept cX5_isKept 3 (some .boolean), Cond.fieldLink RX5 19 "BeamrowModel" "began" "[I", Cond.methodLink RX5 119 yX5_weight]
def wsX5_found_r3 : List Cond := [Cond.instanceMethod yX5_weight, Cond.selects RX5 yX5_weight yX5_weight, Cond.code yX5_weight cX5_weight 5 (some .int), Cond.fieldLink RX5 22 "BeamrowModel" "isAlive" "[Z", Cond.fieldLink RX5 108 "BeamrowModel" "window" "I", Cond.methodLink RX5 154 yX5_greatest, Cond.instanceMethod yX5_greatest, Cond.selects RX5 yX5_greatest yX5_greatest, Cond.code yX5_greatest cX5_greatest 3 (some .int), Cond.methodLink RX5 159 yX5_takes, Cond.instanceMethod yX5_takes, Cond.selects RX5 yX5_takes yX5_takes, Cond.code yX5_takes cX5_takes 6 none, Cond.fieldLink RX5 47 "BeamrowModel" "means" "[I"]
def wsX5_found : List Cond := .code yX5_found cX5_found 4 (some .int) :: ((wsX5_found_r1 ++ (wsX5_found_r2 ++ wsX5_found_r3)) ++ wsX50)
def wsX5_calibrated : List Cond := .code yX5_calibrated cX5_calibrated 3 (some .int) :: ([.fieldLink RX5 29 "BeamrowModel" "byLag" "[I", .fieldLink RX5 26 "BeamrowModel" "byGain" "[I", .methodLink RX5 81 yX5_isElement, .instanceMethod yX5_isElement, .selects RX5 yX5_isElement yX5_isElement, .initialized RX5, .code yX5_isElement cX5_isElement 2 (some .boolean), .fieldLink RX5 61 "BeamrowModel" "elements" "I", .methodLink RX5 64 yX5_isIn, .static yX5_isIn, .code yX5_isIn cX5_isIn 3 (some .boolean), .methodLink RX5 74 yX5_goes, .instanceMethod yX5_goes, .selects RX5 yX5_goes yX5_goes, .code yX5_goes cX5_goes 2 (some .boolean), .fieldLink RX5 58 "BeamrowModel" "thrown" "I"] ++ wsX50)
def wsX5_tick : List Cond := .code yX5_tick cX5_tick 1 (some .int) :: ([.fieldLink RX5 58 "BeamrowModel" "thrown" "I", .fieldLink RX5 78 "BeamrowModel" "next" "I"] ++ wsX50)
def wsJ9_max_f86c9 : List Cond := .code yJ9_max_f86c9 cJ9_max_f86c9 4 (some .long) :: ([])
def wsJ9_min_7cf53 : List Cond := .code yJ9_min_7cf53 cJ9_min_7cf53 2 (some .int) :: ([])
def wsJ9_min_f86c9 : List Cond := .code yJ9_min_f86c9 cJ9_min_f86c9 4 (some .long) :: ([])
def wsL_element_r1 : List Cond := [Cond.classLink RL 13 "java/lang/IllegalArgumentException", Cond.classLink RL 15 "java/lang/IllegalStateException", Cond.methodLink RL 7 yX4_element, Cond.instanceMethod yX4_element, Cond.selects RX4 yX4_element yX4_element, Cond.initialized RX4, Cond.code yX4_element cX4_element 5 (some .int), Cond.classLink RX4 45 "java/lang/IllegalArgumentException", Cond.initialized "java/lang/IllegalArgumentException", Cond.classLink RX4 55 "java/lang/IllegalStateException", Cond.initialized "java/lang/IllegalStateException", Cond.fieldLink RX4 52 "Beamrow" "elementCount" "I", Cond.fieldLink RX4 11 "Beamrow" "elements" "[LBeamrow$Element;", Cond.fieldLink RX4 60 "Beamrow" "nextTick" "I", Cond.methodLink RX4 41 yX4_isWithin, Cond.static yX4_isWithin, Cond.code yX4_isWithin cX4_isWithin 3 (some .boolean), Cond.methodLink RX4 63 yX0_putUp, Cond.instanceMethod yX0_putUp, Cond.selects RX0 yX0_putUp yX0_putUp, Cond.initialized RX0, Cond.code yX0_putUp cX0_putUp 5 none, Cond.fieldLink RX0 29 "Beamrow$Element" "up" "Z", Cond.fieldLink RX0 33 "Beamrow$Element" "living" "Z"]
def wsL_element_r2 : List Cond := [Cond.fieldLink RX0 36 "Beamrow$Element" "position" "I", Cond.fieldLink RX0 39 "Beamrow$Element" "gain" "I", Cond.fieldLink RX0 42 "Beamrow$Element" "lag" "I", Cond.fieldLink RX0 12 "Beamrow$Element" "tape" "LBeamrow$Tape;", Cond.methodLink RX0 45 yX3_beginAt, Cond.instanceMethod yX3_beginAt, Cond.selects RX3 yX3_beginAt yX3_beginAt, Cond.initialized RX3, Cond.code yX3_beginAt cX3_beginAt 2 none, Cond.fieldLink RX3 15 "Beamrow$Tape" "begin" "I", Cond.fieldLink RX3 19 "Beamrow$Tape" "end" "I"]
def wsL_element : List Cond := .codeWith yL_element cL_element 6 (some .int) [(0, 12, 15, 13), (0, 12, 19, 15)] :: ((wsL_element_r1 ++ wsL_element_r2) ++ wsX40 ++ wsX00 ++ wsX30 ++ (vx_atS RX4 49 "java/lang/IllegalArgumentException" ["java/lang/RuntimeException", "java/lang/Exception"]).filter goodWord ++ (vx_atS RX4 59 "java/lang/IllegalStateException" ["java/lang/RuntimeException", "java/lang/Exception"]).filter goodWord)
def wsL_alive : List Cond := .codeWith yL_alive cL_alive 5 (some .int) [(0, 17, 20, 21)] :: ([.classLink RL 21 "java/lang/IndexOutOfBoundsException", .methodLink RL 17 yX4_alive, .instanceMethod yX4_alive, .selects RX4 yX4_alive yX4_alive, .initialized RX4, .code yX4_alive cX4_alive 4 (some .boolean), .classLink RX4 71 "java/lang/IndexOutOfBoundsException", .initialized "java/lang/IndexOutOfBoundsException", .fieldLink RX4 11 "Beamrow" "elements" "[LBeamrow$Element;", .methodLink RX4 67 yX4_isElement, .instanceMethod yX4_isElement, .selects RX4 yX4_isElement yX4_isElement, .code yX4_isElement cX4_isElement 2 (some .boolean), .fieldLink RX4 52 "Beamrow" "elementCount" "I", .methodLink RX4 76 yX0_isLiving, .instanceMethod yX0_isLiving, .selects RX0 yX0_isLiving yX0_isLiving, .initialized RX0, .code yX0_isLiving cX0_isLiving 1 (some .boolean), .fieldLink RX0 33 "Beamrow$Element" "living" "Z", .methodLink RX4 80 yX0_setLiving, .instanceMethod yX0_setLiving, .selects RX0 yX0_setLiving yX0_setLiving, .code yX0_setLiving cX0_setLiving 2 none] ++ wsX40 ++ wsX00 ++ (vx_atS RX4 75 "java/lang/IndexOutOfBoundsException" ["java/lang/RuntimeException", "java/lang/Exception"]).filter goodWord)
def wsL_source_r1 : List Cond := [Cond.classLink RL 21 "java/lang/IndexOutOfBoundsException", Cond.classLink RL 13 "java/lang/IllegalArgumentException", Cond.classLink RL 15 "java/lang/IllegalStateException", Cond.methodLink RL 23 yX4_source, Cond.instanceMethod yX4_source, Cond.selects RX4 yX4_source yX4_source, Cond.initialized RX4, Cond.code yX4_source cX4_source 5 (some .int), Cond.classLink RX4 71 "java/lang/IndexOutOfBoundsException", Cond.initialized "java/lang/IndexOutOfBoundsException", Cond.classLink RX4 45 "java/lang/IllegalArgumentException", Cond.initialized "java/lang/IllegalArgumentException", Cond.classLink RX4 55 "java/lang/IllegalStateException", Cond.initialized "java/lang/IllegalStateException", Cond.fieldLink RX4 91 "Beamrow" "sourceCount" "I", Cond.fieldLink RX4 17 "Beamrow" "sources" "[LBeamrow$Source;", Cond.methodLink RX4 84 yX4_isBearing, Cond.static yX4_isBearing, Cond.code yX4_isBearing cX4_isBearing 1 (some .boolean), Cond.methodLink RX4 41 yX4_isWithin, Cond.static yX4_isWithin, Cond.code yX4_isWithin cX4_isWithin 3 (some .boolean), Cond.methodLink RX4 96 yX2_setUp, Cond.instanceMethod yX2_setUp]
def wsL_source_r2 : List Cond := [Cond.selects RX2 yX2_setUp yX2_setUp, Cond.initialized RX2, Cond.code yX2_setUp cX2_setUp 4 none, Cond.fieldLink RX2 13 "Beamrow$Source" "bearing" "I", Cond.fieldLink RX2 16 "Beamrow$Source" "strength" "I", Cond.fieldLink RX2 7 "Beamrow$Source" "period" "I"]
def wsL_source : List Cond := .codeWith yL_source cL_source 6 (some .int) [(0, 12, 15, 21), (0, 12, 19, 13), (0, 12, 23, 15)] :: ((wsL_source_r1 ++ wsL_source_r2) ++ wsX40 ++ wsX20 ++ (vx_atS RX4 75 "java/lang/IndexOutOfBoundsException" ["java/lang/RuntimeException", "java/lang/Exception"]).filter goodWord ++ (vx_atS RX4 49 "java/lang/IllegalArgumentException" ["java/lang/RuntimeException", "java/lang/Exception"]).filter goodWord ++ (vx_atS RX4 59 "java/lang/IllegalStateException" ["java/lang/RuntimeException", "java/lang/Exception"]).filter goodWord)
def wsL_noise : List Cond := .codeWith yL_noise cL_noise 5 (some .int) [(0, 10, 13, 13)] :: ([.classLink RL 13 "java/lang/IllegalArgumentException", .methodLink RL 26 yX4_noise, .instanceMethod yX4_noise, .selects RX4 yX4_noise yX4_noise, .initialized RX4, .code yX4_noise cX4_noise 4 (some .int), .classLink RX4 45 "java/lang/IllegalArgumentException", .initialized "java/lang/IllegalArgumentException", .constant RX4 100 (65536), .fieldLink RX4 24 "Beamrow" "hiss" "LBeamrow$Hiss;", .methodLink RX4 41 yX4_isWithin, .static yX4_isWithin, .code yX4_isWithin cX4_isWithin 3 (some .boolean), .methodLink RX4 103 yX1_getLoudness, .instanceMethod yX1_getLoudness, .selects RX1 yX1_getLoudness yX1_getLoudness, .initialized RX1, .code yX1_getLoudness cX1_getLoudness 1 (some .int), .fieldLink RX1 13 "Beamrow$Hiss" "loudness" "I", .methodLink RX4 107 yX1_set, .instanceMethod yX1_set, .selects RX1 yX1_set yX1_set, .code yX1_set cX1_set 3 none, .fieldLink RX1 7 "Beamrow$Hiss" "number" "I"] ++ wsX40 ++ wsX10 ++ (vx_atS RX4 49 "java/lang/IllegalArgumentException" ["java/lang/RuntimeException", "java/lang/Exception"]).filter goodWord)
def wsL_hear_r1 : List Cond := [Cond.classLink RL 13 "java/lang/IllegalArgumentException", Cond.methodLink RL 30 yX4_hear, Cond.instanceMethod yX4_hear, Cond.selects RX4 yX4_hear yX4_hear, Cond.initialized RX4, Cond.code yX4_hear cX4_hear 3 (some .int), Cond.classLink RX4 45 "java/lang/IllegalArgumentException", Cond.initialized "java/lang/IllegalArgumentException", Cond.fieldLink RX4 60 "Beamrow" "nextTick" "I", Cond.methodLink RX4 41 yX4_isWithin, Cond.static yX4_isWithin, Cond.code yX4_isWithin cX4_isWithin 3 (some .boolean), Cond.methodLink RX4 113 yX4_hearOneTick, Cond.instanceMethod yX4_hearOneTick, Cond.selects RX4 yX4_hearOneTick yX4_hearOneTick, Cond.code yX4_hearOneTick cX4_hearOneTick 6 none, Cond.fieldLink RX4 11 "Beamrow" "elements" "[LBeamrow$Element;", Cond.fieldLink RX4 24 "Beamrow" "hiss" "LBeamrow$Hiss;", Cond.methodLink RX4 182 yX0_isUp, Cond.instanceMethod yX0_isUp, Cond.selects RX0 yX0_isUp yX0_isUp, Cond.initialized RX0, Cond.code yX0_isUp cX0_isUp 1 (some .boolean), Cond.fieldLink RX0 29 "Beamrow$Element" "up" "Z"]
def wsL_hear_r2 : List Cond := [Cond.methodLink RX4 185 yX1_draw, Cond.instanceMethod yX1_draw, Cond.selects RX1 yX1_draw yX1_draw, Cond.initialized RX1, Cond.code yX1_draw cX1_draw 2 (some .int), Cond.fieldLink RX1 7 "Beamrow$Hiss" "number" "I", Cond.constant RX1 16 (65537), Cond.fieldLink RX1 13 "Beamrow$Hiss" "loudness" "I", Cond.methodLink RX4 76 yX0_isLiving, Cond.instanceMethod yX0_isLiving, Cond.selects RX0 yX0_isLiving yX0_isLiving, Cond.code yX0_isLiving cX0_isLiving 1 (some .boolean), Cond.fieldLink RX0 33 "Beamrow$Element" "living" "Z", Cond.methodLink RX4 188 yX4_wavesAt, Cond.instanceMethod yX4_wavesAt, Cond.selects RX4 yX4_wavesAt yX4_wavesAt, Cond.code yX4_wavesAt cX4_wavesAt 5 (some .int), Cond.fieldLink RX4 91 "Beamrow" "sourceCount" "I", Cond.fieldLink RX4 17 "Beamrow" "sources" "[LBeamrow$Source;", Cond.methodLink RX4 198 yX2_getBearing, Cond.instanceMethod yX2_getBearing, Cond.selects RX2 yX2_getBearing yX2_getBearing, Cond.initialized RX2, Cond.code yX2_getBearing cX2_getBearing 1 (some .int)]
def wsL_hear_r3 : List Cond := [Cond.fieldLink RX2 13 "Beamrow$Source" "bearing" "I", Cond.methodLink RX4 201 yX0_delayFor, Cond.instanceMethod yX0_delayFor, Cond.selects RX0 yX0_delayFor yX0_delayFor, Cond.code yX0_delayFor cX0_delayFor 2 (some .int), Cond.fieldLink RX0 36 "Beamrow$Element" "position" "I", Cond.methodLink RX0 52 yJ9_floorDiv_7cf53, Cond.static yJ9_floorDiv_7cf53, Cond.initialized RJ9, Cond.code yJ9_floorDiv_7cf53 cJ9_floorDiv_7cf53 3 (some .int), Cond.methodLink RX4 204 yX0_getLag, Cond.instanceMethod yX0_getLag, Cond.selects RX0 yX0_getLag yX0_getLag, Cond.code yX0_getLag cX0_getLag 1 (some .int), Cond.fieldLink RX0 42 "Beamrow$Element" "lag" "I", Cond.methodLink RX4 207 yX2_waveAt, Cond.instanceMethod yX2_waveAt, Cond.selects RX2 yX2_waveAt yX2_waveAt, Cond.code yX2_waveAt cX2_waveAt 2 (some .int), Cond.fieldLink RX2 7 "Beamrow$Source" "period" "I", Cond.fieldLink RX2 16 "Beamrow$Source" "strength" "I", Cond.methodLink RX2 19 yJ9_floorMod_7cf53, Cond.static yJ9_floorMod_7cf53, Cond.code yJ9_floorMod_7cf53 cJ9_floorMod_7cf53 3 (some .int)]
def wsL_hear_r4 : List Cond := [Cond.methodLink RX4 192 yX0_heardOf, Cond.instanceMethod yX0_heardOf, Cond.selects RX0 yX0_heardOf yX0_heardOf, Cond.code yX0_heardOf cX0_heardOf 2 (some .int), Cond.fieldLink RX0 39 "Beamrow$Element" "gain" "I", Cond.methodLink RX4 195 yX0_keep, Cond.instanceMethod yX0_keep, Cond.selects RX0 yX0_keep yX0_keep, Cond.code yX0_keep cX0_keep 2 none, Cond.fieldLink RX0 12 "Beamrow$Element" "tape" "LBeamrow$Tape;", Cond.methodLink RX0 58 yX3_add, Cond.instanceMethod yX3_add, Cond.selects RX3 yX3_add yX3_add, Cond.initialized RX3, Cond.code yX3_add cX3_add 3 none, Cond.fieldLink RX3 19 "Beamrow$Tape" "end" "I", Cond.fieldLink RX3 9 "Beamrow$Tape" "slots" "[I", Cond.methodLink RX3 22 yX3_slotOf, Cond.static yX3_slotOf, Cond.code yX3_slotOf cX3_slotOf 1 (some .int)]
def wsL_hear : List Cond := .codeWith yL_hear cL_hear 4 (some .int) [(0, 9, 12, 13)] :: ((wsL_hear_r1 ++ (wsL_hear_r2 ++ (wsL_hear_r3 ++ wsL_hear_r4))) ++ wsX40 ++ wsX00 ++ wsX10 ++ wsX20 ++ wsX30 ++ (vx_atS RX4 49 "java/lang/IllegalArgumentException" ["java/lang/RuntimeException", "java/lang/Exception"]).filter goodWord)
def wsL_window : List Cond := .codeWith yL_window cL_window 4 (some .int) [(0, 9, 12, 13)] :: ([.classLink RL 13 "java/lang/IllegalArgumentException", .methodLink RL 34 yX4_window, .instanceMethod yX4_window, .selects RX4 yX4_window yX4_window, .initialized RX4, .code yX4_window cX4_window 3 (some .int), .classLink RX4 45 "java/lang/IllegalArgumentException", .initialized "java/lang/IllegalArgumentException", .fieldLink RX4 37 "Beamrow" "shape" "I", .methodLink RX4 41 yX4_isWithin, .static yX4_isWithin, .code yX4_isWithin cX4_isWithin 3 (some .boolean)] ++ wsX40 ++ (vx_atS RX4 49 "java/lang/IllegalArgumentException" ["java/lang/RuntimeException", "java/lang/Exception"]).filter goodWord)
def wsL_calibrate_r1 : List Cond := [Cond.classLink RL 21 "java/lang/IndexOutOfBoundsException", Cond.classLink RL 15 "java/lang/IllegalStateException", Cond.methodLink RL 37 yX4_calibrate, Cond.instanceMethod yX4_calibrate, Cond.selects RX4 yX4_calibrate yX4_calibrate, Cond.initialized RX4, Cond.code yX4_calibrate cX4_calibrate 5 (some .int), Cond.classLink RX4 71 "java/lang/IndexOutOfBoundsException", Cond.initialized "java/lang/IndexOutOfBoundsException", Cond.classLink RX4 55 "java/lang/IllegalStateException", Cond.initialized "java/lang/IllegalStateException", Cond.methodLink RX4 84 yX4_isBearing, Cond.static yX4_isBearing, Cond.code yX4_isBearing cX4_isBearing 1 (some .boolean), Cond.methodLink RX4 41 yX4_isWithin, Cond.static yX4_isWithin, Cond.code yX4_isWithin cX4_isWithin 3 (some .boolean), Cond.methodLink RX4 118 yX4_lowestLiving, Cond.instanceMethod yX4_lowestLiving, Cond.selects RX4 yX4_lowestLiving yX4_lowestLiving, Cond.code yX4_lowestLiving cX4_lowestLiving 5 (some (.object "Beamrow$Element")), Cond.fieldLink RX4 11 "Beamrow" "elements" "[LBeamrow$Element;", Cond.methodLink RX4 76 yX0_isLiving, Cond.instanceMethod yX0_isLiving]
def wsL_calibrate_r2 : List Cond := [Cond.selects RX0 yX0_isLiving yX0_isLiving, Cond.initialized RX0, Cond.code yX0_isLiving cX0_isLiving 1 (some .boolean), Cond.fieldLink RX0 33 "Beamrow$Element" "living" "Z", Cond.methodLink RX4 124 yX4_layAll, Cond.instanceMethod yX4_layAll, Cond.selects RX4 yX4_layAll yX4_layAll, Cond.code yX4_layAll cX4_layAll 10 (some .long), Cond.methodLink RX4 210 yX4_weightOf, Cond.instanceMethod yX4_weightOf, Cond.selects RX4 yX4_weightOf yX4_weightOf, Cond.code yX4_weightOf cX4_weightOf 4 (some .int), Cond.fieldLink RX4 37 "Beamrow" "shape" "I", Cond.methodLink RX4 217 Lib.Math.min.name, Cond.static Lib.Math.min.name, Cond.initialized "java/lang/Math", Cond.code Lib.Math.min.name Lib.Math.min.code 2 (some .int), Cond.methodLink RX4 214 yX0_layOut, Cond.instanceMethod yX0_layOut, Cond.selects RX0 yX0_layOut yX0_layOut, Cond.code yX0_layOut cX0_layOut 3 none, Cond.fieldLink RX0 65 "Beamrow$Element" "weight" "J", Cond.fieldLink RX0 18 "Beamrow$Element" "laid" "[J", Cond.fieldLink RX0 12 "Beamrow$Element" "tape" "LBeamrow$Tape;"]
def wsL_calibrate_r3 : List Cond := [Cond.methodLink RX0 61 yX3_at, Cond.instanceMethod yX3_at, Cond.selects RX3 yX3_at yX3_at, Cond.initialized RX3, Cond.code yX3_at cX3_at 3 (some .int), Cond.fieldLink RX3 19 "Beamrow$Tape" "end" "I", Cond.fieldLink RX3 9 "Beamrow$Tape" "slots" "[I", Cond.methodLink RX3 22 yX3_slotOf, Cond.static yX3_slotOf, Cond.code yX3_slotOf cX3_slotOf 1 (some .int), Cond.methodLink RX3 26 yX3_keeps, Cond.instanceMethod yX3_keeps, Cond.selects RX3 yX3_keeps yX3_keeps, Cond.code yX3_keeps cX3_keeps 2 (some .boolean), Cond.fieldLink RX3 15 "Beamrow$Tape" "begin" "I", Cond.methodLink RX0 69 yX0_turnAll, Cond.instanceMethod yX0_turnAll, Cond.selects RX0 yX0_turnAll yX0_turnAll, Cond.code yX0_turnAll cX0_turnAll 2 none, Cond.fieldLink RX0 25 "Beamrow$Element" "trimGain" "I", Cond.fieldLink RX0 22 "Beamrow$Element" "turned" "[J", Cond.constantLong RX0 72 (64), Cond.methodLink RX0 74 yJ9_floorDiv_f86c9, Cond.static yJ9_floorDiv_f86c9]
def wsL_calibrate_r4 : List Cond := [Cond.initialized RJ9, Cond.code yJ9_floorDiv_f86c9 cJ9_floorDiv_f86c9 6 (some .long), Cond.methodLink RX4 128 yX0_agreement, Cond.instanceMethod yX0_agreement, Cond.selects RX0 yX0_agreement yX0_agreement, Cond.code yX0_agreement cX0_agreement 9 (some .long), Cond.methodLink RX0 77 yX0_delayFor, Cond.instanceMethod yX0_delayFor, Cond.selects RX0 yX0_delayFor yX0_delayFor, Cond.code yX0_delayFor cX0_delayFor 2 (some .int), Cond.fieldLink RX0 36 "Beamrow$Element" "position" "I", Cond.methodLink RX0 52 yJ9_floorDiv_7cf53, Cond.static yJ9_floorDiv_7cf53, Cond.code yJ9_floorDiv_7cf53 cJ9_floorDiv_7cf53 3 (some .int), Cond.methodLink RX0 91 yX0_laidAt, Cond.instanceMethod yX0_laidAt, Cond.selects RX0 yX0_laidAt yX0_laidAt, Cond.code yX0_laidAt cX0_laidAt 2 (some .long), Cond.methodLink RX4 134 yX4_holdTo, Cond.instanceMethod yX4_holdTo, Cond.selects RX4 yX4_holdTo yX4_holdTo, Cond.code yX4_holdTo cX4_holdTo 10 (some .int), Cond.methodLink RX4 252 yX0_trim, Cond.instanceMethod yX0_trim]
def wsL_calibrate_r5 : List Cond := [Cond.selects RX0 yX0_trim yX0_trim, Cond.code yX0_trim cX0_trim 4 (some .boolean), Cond.fieldLink RX0 49 "Beamrow$Element" "trimLag" "I", Cond.methodLink RX4 256 yX4_fit, Cond.static yX4_fit, Cond.code yX4_fit cX4_fit 11 (some .boolean), Cond.constantLong RX4 260 (64), Cond.constantLong RX4 262 (16), Cond.constantLong RX4 264 (255), Cond.methodLink RX4 266 Lib.MathLoose.min_long.x, Cond.static Lib.MathLoose.min_long.x, Cond.code Lib.MathLoose.min_long.x Lib.MathLoose.min_long.code 4 (some .long), Cond.methodLink RX4 236 Lib.MathLoose.max_long.x, Cond.static Lib.MathLoose.max_long.x, Cond.code Lib.MathLoose.max_long.x Lib.MathLoose.max_long.code 4 (some .long), Cond.methodLink RX4 243 yJ9_floorDiv_f86c9]
def wsL_calibrate : List Cond := .codeWith yL_calibrate cL_calibrate 4 (some .int) [(0, 9, 12, 21), (0, 9, 15, 15)] :: ((wsL_calibrate_r1 ++ (wsL_calibrate_r2 ++ (wsL_calibrate_r3 ++ (wsL_calibrate_r4 ++ wsL_calibrate_r5)))) ++ wsX40 ++ wsX00 ++ wsX30 ++ (vx_atS RX4 75 "java/lang/IndexOutOfBoundsException" ["java/lang/RuntimeException", "java/lang/Exception"]).filter goodWord ++ (vx_atS RX4 59 "java/lang/IllegalStateException" ["java/lang/RuntimeException", "java/lang/Exception"]).filter goodWord)
def wsL_sample_r1 : List Cond := [Cond.classLink RL 21 "java/lang/IndexOutOfBoundsException", Cond.methodLink RL 40 yX4_sample, Cond.instanceMethod yX4_sample, Cond.selects RX4 yX4_sample yX4_sample, Cond.initialized RX4, Cond.code yX4_sample cX4_sample 3 (some .int), Cond.classLink RX4 71 "java/lang/IndexOutOfBoundsException", Cond.initialized "java/lang/IndexOutOfBoundsException", Cond.fieldLink RX4 11 "Beamrow" "elements" "[LBeamrow$Element;", Cond.methodLink RX4 67 yX4_isElement, Cond.instanceMethod yX4_isElement, Cond.selects RX4 yX4_isElement yX4_isElement, Cond.code yX4_isElement cX4_isElement 2 (some .boolean), Cond.fieldLink RX4 52 "Beamrow" "elementCount" "I", Cond.methodLink RX4 41 yX4_isWithin, Cond.static yX4_isWithin, Cond.code yX4_isWithin cX4_isWithin 3 (some .boolean), Cond.methodLink RX4 140 yX0_keptAt, Cond.instanceMethod yX0_keptAt, Cond.selects RX0 yX0_keptAt yX0_keptAt, Cond.initialized RX0, Cond.code yX0_keptAt cX0_keptAt 2 (some .int), Cond.fieldLink RX0 12 "Beamrow$Element" "tape" "LBeamrow$Tape;", Cond.methodLink RX0 61 yX3_at]
def wsL_sample_r2 : List Cond := [Cond.instanceMethod yX3_at, Cond.selects RX3 yX3_at yX3_at, Cond.initialized RX3, Cond.code yX3_at cX3_at 3 (some .int), Cond.fieldLink RX3 19 "Beamrow$Tape" "end" "I", Cond.fieldLink RX3 9 "Beamrow$Tape" "slots" "[I", Cond.methodLink RX3 22 yX3_slotOf, Cond.static yX3_slotOf, Cond.code yX3_slotOf cX3_slotOf 1 (some .int), Cond.methodLink RX3 26 yX3_keeps, Cond.instanceMethod yX3_keeps, Cond.selects RX3 yX3_keeps yX3_keeps, Cond.code yX3_keeps cX3_keeps 2 (some .boolean), Cond.fieldLink RX3 15 "Beamrow$Tape" "begin" "I"]
def wsL_sample : List Cond := .codeWith yL_sample cL_sample 5 (some .int) [(0, 10, 13, 21)] :: ((wsL_sample_r1 ++ wsL_sample_r2) ++ wsX40 ++ wsX00 ++ wsX30 ++ (vx_atS RX4 75 "java/lang/IndexOutOfBoundsException" ["java/lang/RuntimeException", "java/lang/Exception"]).filter goodWord)
def wsL_sum_r1 : List Cond := [Cond.classLink RL 21 "java/lang/IndexOutOfBoundsException", Cond.methodLink RL 43 yX4_sum, Cond.instanceMethod yX4_sum, Cond.selects RX4 yX4_sum yX4_sum, Cond.initialized RX4, Cond.code yX4_sum cX4_sum 4 (some .long), Cond.classLink RX4 71 "java/lang/IndexOutOfBoundsException", Cond.initialized "java/lang/IndexOutOfBoundsException", Cond.fieldLink RX4 28 "Beamrow" "sums" "[J", Cond.methodLink RX4 84 yX4_isBearing, Cond.static yX4_isBearing, Cond.code yX4_isBearing cX4_isBearing 1 (some .boolean), Cond.methodLink RX4 41 yX4_isWithin, Cond.static yX4_isWithin, Cond.code yX4_isWithin cX4_isWithin 3 (some .boolean), Cond.methodLink RX4 124 yX4_layAll, Cond.instanceMethod yX4_layAll, Cond.selects RX4 yX4_layAll yX4_layAll, Cond.code yX4_layAll cX4_layAll 10 (some .long), Cond.fieldLink RX4 11 "Beamrow" "elements" "[LBeamrow$Element;", Cond.methodLink RX4 76 yX0_isLiving, Cond.instanceMethod yX0_isLiving, Cond.selects RX0 yX0_isLiving yX0_isLiving, Cond.initialized RX0]
def wsL_sum_r2 : List Cond := [Cond.code yX0_isLiving cX0_isLiving 1 (some .boolean), Cond.fieldLink RX0 33 "Beamrow$Element" "living" "Z", Cond.methodLink RX4 210 yX4_weightOf, Cond.instanceMethod yX4_weightOf, Cond.selects RX4 yX4_weightOf yX4_weightOf, Cond.code yX4_weightOf cX4_weightOf 4 (some .int), Cond.fieldLink RX4 37 "Beamrow" "shape" "I", Cond.methodLink RX4 217 Lib.Math.min.name, Cond.static Lib.Math.min.name, Cond.initialized "java/lang/Math", Cond.code Lib.Math.min.name Lib.Math.min.code 2 (some .int), Cond.methodLink RX4 214 yX0_layOut, Cond.instanceMethod yX0_layOut, Cond.selects RX0 yX0_layOut yX0_layOut, Cond.code yX0_layOut cX0_layOut 3 none, Cond.fieldLink RX0 65 "Beamrow$Element" "weight" "J", Cond.fieldLink RX0 18 "Beamrow$Element" "laid" "[J", Cond.fieldLink RX0 12 "Beamrow$Element" "tape" "LBeamrow$Tape;", Cond.methodLink RX0 61 yX3_at, Cond.instanceMethod yX3_at, Cond.selects RX3 yX3_at yX3_at, Cond.initialized RX3, Cond.code yX3_at cX3_at 3 (some .int), Cond.fieldLink RX3 19 "Beamrow$Tape" "end" "I"]
def wsL_sum_r3 : List Cond := [Cond.fieldLink RX3 9 "Beamrow$Tape" "slots" "[I", Cond.methodLink RX3 22 yX3_slotOf, Cond.static yX3_slotOf, Cond.code yX3_slotOf cX3_slotOf 1 (some .int), Cond.methodLink RX3 26 yX3_keeps, Cond.instanceMethod yX3_keeps, Cond.selects RX3 yX3_keeps yX3_keeps, Cond.code yX3_keeps cX3_keeps 2 (some .boolean), Cond.fieldLink RX3 15 "Beamrow$Tape" "begin" "I", Cond.methodLink RX0 69 yX0_turnAll, Cond.instanceMethod yX0_turnAll, Cond.selects RX0 yX0_turnAll yX0_turnAll, Cond.code yX0_turnAll cX0_turnAll 2 none, Cond.fieldLink RX0 25 "Beamrow$Element" "trimGain" "I", Cond.fieldLink RX0 22 "Beamrow$Element" "turned" "[J", Cond.constantLong RX0 72 (64), Cond.methodLink RX0 74 yJ9_floorDiv_f86c9, Cond.static yJ9_floorDiv_f86c9, Cond.initialized RJ9, Cond.code yJ9_floorDiv_f86c9 cJ9_floorDiv_f86c9 6 (some .long), Cond.methodLink RX4 146 yX4_steer, Cond.instanceMethod yX4_steer, Cond.selects RX4 yX4_steer yX4_steer, Cond.code yX4_steer cX4_steer 6 none]
def wsL_sum_r4 : List Cond := [Cond.methodLink RX4 222 yJ7_fill_d0a16, Cond.static yJ7_fill_d0a16, Cond.initialized RJ7, Cond.code yJ7_fill_d0a16 cJ7_fill_d0a16 5 none, Cond.methodLink RX4 228 yX0_tellTo, Cond.instanceMethod yX0_tellTo, Cond.selects RX0 yX0_tellTo yX0_tellTo, Cond.code yX0_tellTo cX0_tellTo 5 none, Cond.methodLink RX0 80 yX0_firstTold, Cond.instanceMethod yX0_firstTold, Cond.selects RX0 yX0_firstTold yX0_firstTold, Cond.code yX0_firstTold cX0_firstTold 2 (some .int), Cond.fieldLink RX0 49 "Beamrow$Element" "trimLag" "I", Cond.methodLink RX0 77 yX0_delayFor, Cond.instanceMethod yX0_delayFor, Cond.selects RX0 yX0_delayFor yX0_delayFor, Cond.code yX0_delayFor cX0_delayFor 2 (some .int), Cond.fieldLink RX0 36 "Beamrow$Element" "position" "I", Cond.methodLink RX0 52 yJ9_floorDiv_7cf53, Cond.static yJ9_floorDiv_7cf53, Cond.code yJ9_floorDiv_7cf53 cJ9_floorDiv_7cf53 3 (some .int), Cond.methodLink RX0 83 yX0_toldAt, Cond.instanceMethod yX0_toldAt, Cond.selects RX0 yX0_toldAt yX0_toldAt]
def wsL_sum_r5 : List Cond := [Cond.code yX0_toldAt cX0_toldAt 2 (some .long)]
def wsL_sum : List Cond := .codeWith yL_sum cL_sum 5 (some .int) [(0, 9, 12, 21)] :: ((wsL_sum_r1 ++ (wsL_sum_r2 ++ (wsL_sum_r3 ++ (wsL_sum_r4 ++ wsL_sum_r5)))) ++ wsX40 ++ wsX00 ++ wsX30 ++ (vx_atS RX4 75 "java/lang/IndexOutOfBoundsException" ["java/lang/RuntimeException", "java/lang/Exception"]).filter goodWord)
def wsL_power_r1 : List Cond := [Cond.classLink RL 21 "java/lang/IndexOutOfBoundsException", Cond.methodLink RL 47 yX4_power, Cond.instanceMethod yX4_power, Cond.selects RX4 yX4_power yX4_power, Cond.initialized RX4, Cond.code yX4_power cX4_power 2 (some .long), Cond.classLink RX4 71 "java/lang/IndexOutOfBoundsException", Cond.initialized "java/lang/IndexOutOfBoundsException", Cond.methodLink RX4 84 yX4_isBearing, Cond.static yX4_isBearing, Cond.code yX4_isBearing cX4_isBearing 1 (some .boolean), Cond.methodLink RX4 41 yX4_isWithin, Cond.static yX4_isWithin, Cond.code yX4_isWithin cX4_isWithin 3 (some .boolean), Cond.methodLink RX4 124 yX4_layAll, Cond.instanceMethod yX4_layAll, Cond.selects RX4 yX4_layAll yX4_layAll, Cond.code yX4_layAll cX4_layAll 10 (some .long), Cond.fieldLink RX4 11 "Beamrow" "elements" "[LBeamrow$Element;", Cond.methodLink RX4 76 yX0_isLiving, Cond.instanceMethod yX0_isLiving, Cond.selects RX0 yX0_isLiving yX0_isLiving, Cond.initialized RX0, Cond.code yX0_isLiving cX0_isLiving 1 (some .boolean)]
def wsL_power_r2 : List Cond := [Cond.fieldLink RX0 33 "Beamrow$Element" "living" "Z", Cond.methodLink RX4 210 yX4_weightOf, Cond.instanceMethod yX4_weightOf, Cond.selects RX4 yX4_weightOf yX4_weightOf, Cond.code yX4_weightOf cX4_weightOf 4 (some .int), Cond.fieldLink RX4 37 "Beamrow" "shape" "I", Cond.methodLink RX4 217 Lib.Math.min.name, Cond.static Lib.Math.min.name, Cond.initialized "java/lang/Math", Cond.code Lib.Math.min.name Lib.Math.min.code 2 (some .int), Cond.methodLink RX4 214 yX0_layOut, Cond.instanceMethod yX0_layOut, Cond.selects RX0 yX0_layOut yX0_layOut, Cond.code yX0_layOut cX0_layOut 3 none, Cond.fieldLink RX0 65 "Beamrow$Element" "weight" "J", Cond.fieldLink RX0 18 "Beamrow$Element" "laid" "[J", Cond.fieldLink RX0 12 "Beamrow$Element" "tape" "LBeamrow$Tape;", Cond.methodLink RX0 61 yX3_at, Cond.instanceMethod yX3_at, Cond.selects RX3 yX3_at yX3_at, Cond.initialized RX3, Cond.code yX3_at cX3_at 3 (some .int), Cond.fieldLink RX3 19 "Beamrow$Tape" "end" "I", Cond.fieldLink RX3 9 "Beamrow$Tape" "slots" "[I"]
def wsL_power_r3 : List Cond := [Cond.methodLink RX3 22 yX3_slotOf, Cond.static yX3_slotOf, Cond.code yX3_slotOf cX3_slotOf 1 (some .int), Cond.methodLink RX3 26 yX3_keeps, Cond.instanceMethod yX3_keeps, Cond.selects RX3 yX3_keeps yX3_keeps, Cond.code yX3_keeps cX3_keeps 2 (some .boolean), Cond.fieldLink RX3 15 "Beamrow$Tape" "begin" "I", Cond.methodLink RX0 69 yX0_turnAll, Cond.instanceMethod yX0_turnAll, Cond.selects RX0 yX0_turnAll yX0_turnAll, Cond.code yX0_turnAll cX0_turnAll 2 none, Cond.fieldLink RX0 25 "Beamrow$Element" "trimGain" "I", Cond.fieldLink RX0 22 "Beamrow$Element" "turned" "[J", Cond.constantLong RX0 72 (64), Cond.methodLink RX0 74 yJ9_floorDiv_f86c9, Cond.static yJ9_floorDiv_f86c9, Cond.initialized RJ9, Cond.code yJ9_floorDiv_f86c9 cJ9_floorDiv_f86c9 6 (some .long), Cond.methodLink RX4 150 yX4_powerBySums, Cond.instanceMethod yX4_powerBySums, Cond.selects RX4 yX4_powerBySums yX4_powerBySums, Cond.code yX4_powerBySums cX4_powerBySums 9 (some .long), Cond.fieldLink RX4 28 "Beamrow" "sums" "[J"]
def wsL_power_r4 : List Cond := [Cond.methodLink RX4 146 yX4_steer, Cond.instanceMethod yX4_steer, Cond.selects RX4 yX4_steer yX4_steer, Cond.code yX4_steer cX4_steer 6 none, Cond.methodLink RX4 222 yJ7_fill_d0a16, Cond.static yJ7_fill_d0a16, Cond.initialized RJ7, Cond.code yJ7_fill_d0a16 cJ7_fill_d0a16 5 none, Cond.methodLink RX4 228 yX0_tellTo, Cond.instanceMethod yX0_tellTo, Cond.selects RX0 yX0_tellTo yX0_tellTo, Cond.code yX0_tellTo cX0_tellTo 5 none, Cond.methodLink RX0 80 yX0_firstTold, Cond.instanceMethod yX0_firstTold, Cond.selects RX0 yX0_firstTold yX0_firstTold, Cond.code yX0_firstTold cX0_firstTold 2 (some .int), Cond.fieldLink RX0 49 "Beamrow$Element" "trimLag" "I", Cond.methodLink RX0 77 yX0_delayFor, Cond.instanceMethod yX0_delayFor, Cond.selects RX0 yX0_delayFor yX0_delayFor, Cond.code yX0_delayFor cX0_delayFor 2 (some .int), Cond.fieldLink RX0 36 "Beamrow$Element" "position" "I", Cond.methodLink RX0 52 yJ9_floorDiv_7cf53, Cond.static yJ9_floorDiv_7cf53]
def wsL_power_r5 : List Cond := [Cond.code yJ9_floorDiv_7cf53 cJ9_floorDiv_7cf53 3 (some .int), Cond.methodLink RX0 83 yX0_toldAt, Cond.instanceMethod yX0_toldAt, Cond.selects RX0 yX0_toldAt yX0_toldAt, Cond.code yX0_toldAt cX0_toldAt 2 (some .long)]
def wsL_power : List Cond := .codeWith yL_power cL_power 4 (some .int) [(0, 8, 11, 21)] :: ((wsL_power_r1 ++ (wsL_power_r2 ++ (wsL_power_r3 ++ (wsL_power_r4 ++ wsL_power_r5)))) ++ wsX40 ++ wsX00 ++ wsX30 ++ (vx_atS RX4 75 "java/lang/IndexOutOfBoundsException" ["java/lang/RuntimeException", "java/lang/Exception"]).filter goodWord)
def wsL_powerAnew_r1 : List Cond := [Cond.classLink RL 21 "java/lang/IndexOutOfBoundsException", Cond.methodLink RL 51 yX4_powerAnew, Cond.instanceMethod yX4_powerAnew, Cond.selects RX4 yX4_powerAnew yX4_powerAnew, Cond.initialized RX4, Cond.code yX4_powerAnew cX4_powerAnew 2 (some .long), Cond.classLink RX4 71 "java/lang/IndexOutOfBoundsException", Cond.initialized "java/lang/IndexOutOfBoundsException", Cond.methodLink RX4 84 yX4_isBearing, Cond.static yX4_isBearing, Cond.code yX4_isBearing cX4_isBearing 1 (some .boolean), Cond.methodLink RX4 41 yX4_isWithin, Cond.static yX4_isWithin, Cond.code yX4_isWithin cX4_isWithin 3 (some .boolean), Cond.methodLink RX4 124 yX4_layAll, Cond.instanceMethod yX4_layAll, Cond.selects RX4 yX4_layAll yX4_layAll, Cond.code yX4_layAll cX4_layAll 10 (some .long), Cond.fieldLink RX4 11 "Beamrow" "elements" "[LBeamrow$Element;", Cond.methodLink RX4 76 yX0_isLiving, Cond.instanceMethod yX0_isLiving, Cond.selects RX0 yX0_isLiving yX0_isLiving, Cond.initialized RX0, Cond.code yX0_isLiving cX0_isLiving 1 (some .boolean)]
def wsL_powerAnew_r2 : List Cond := [Cond.fieldLink RX0 33 "Beamrow$Element" "living" "Z", Cond.methodLink RX4 210 yX4_weightOf, Cond.instanceMethod yX4_weightOf, Cond.selects RX4 yX4_weightOf yX4_weightOf, Cond.code yX4_weightOf cX4_weightOf 4 (some .int), Cond.fieldLink RX4 37 "Beamrow" "shape" "I", Cond.methodLink RX4 217 Lib.Math.min.name, Cond.static Lib.Math.min.name, Cond.initialized "java/lang/Math", Cond.code Lib.Math.min.name Lib.Math.min.code 2 (some .int), Cond.methodLink RX4 214 yX0_layOut, Cond.instanceMethod yX0_layOut, Cond.selects RX0 yX0_layOut yX0_layOut, Cond.code yX0_layOut cX0_layOut 3 none, Cond.fieldLink RX0 65 "Beamrow$Element" "weight" "J", Cond.fieldLink RX0 18 "Beamrow$Element" "laid" "[J", Cond.fieldLink RX0 12 "Beamrow$Element" "tape" "LBeamrow$Tape;", Cond.methodLink RX0 61 yX3_at, Cond.instanceMethod yX3_at, Cond.selects RX3 yX3_at yX3_at, Cond.initialized RX3, Cond.code yX3_at cX3_at 3 (some .int), Cond.fieldLink RX3 19 "Beamrow$Tape" "end" "I", Cond.fieldLink RX3 9 "Beamrow$Tape" "slots" "[I"]
def wsL_powerAnew_r3 : List Cond := [Cond.methodLink RX3 22 yX3_slotOf, Cond.static yX3_slotOf, Cond.code yX3_slotOf cX3_slotOf 1 (some .int), Cond.methodLink RX3 26 yX3_keeps, Cond.instanceMethod yX3_keeps, Cond.selects RX3 yX3_keeps yX3_keeps, Cond.code yX3_keeps cX3_keeps 2 (some .boolean), Cond.fieldLink RX3 15 "Beamrow$Tape" "begin" "I", Cond.methodLink RX0 69 yX0_turnAll, Cond.instanceMethod yX0_turnAll, Cond.selects RX0 yX0_turnAll yX0_turnAll, Cond.code yX0_turnAll cX0_turnAll 2 none, Cond.fieldLink RX0 25 "Beamrow$Element" "trimGain" "I", Cond.fieldLink RX0 22 "Beamrow$Element" "turned" "[J", Cond.constantLong RX0 72 (64), Cond.methodLink RX0 74 yJ9_floorDiv_f86c9, Cond.static yJ9_floorDiv_f86c9, Cond.initialized RJ9, Cond.code yJ9_floorDiv_f86c9 cJ9_floorDiv_f86c9 6 (some .long), Cond.methodLink RX4 154 yX4_powerByPairs, Cond.instanceMethod yX4_powerByPairs, Cond.selects RX4 yX4_powerByPairs yX4_powerByPairs, Cond.code yX4_powerByPairs cX4_powerByPairs 12 (some .long), Cond.methodLink RX4 232 yX0_toldWith]
def wsL_powerAnew_r4 : List Cond := [Cond.instanceMethod yX0_toldWith, Cond.selects RX0 yX0_toldWith yX0_toldWith, Cond.code yX0_toldWith cX0_toldWith 8 (some .long), Cond.methodLink RX0 80 yX0_firstTold, Cond.instanceMethod yX0_firstTold, Cond.selects RX0 yX0_firstTold yX0_firstTold, Cond.code yX0_firstTold cX0_firstTold 2 (some .int), Cond.fieldLink RX0 49 "Beamrow$Element" "trimLag" "I", Cond.methodLink RX0 77 yX0_delayFor, Cond.instanceMethod yX0_delayFor, Cond.selects RX0 yX0_delayFor yX0_delayFor, Cond.code yX0_delayFor cX0_delayFor 2 (some .int), Cond.fieldLink RX0 36 "Beamrow$Element" "position" "I", Cond.methodLink RX0 52 yJ9_floorDiv_7cf53, Cond.static yJ9_floorDiv_7cf53, Cond.code yJ9_floorDiv_7cf53 cJ9_floorDiv_7cf53 3 (some .int), Cond.methodLink RX0 83 yX0_toldAt, Cond.instanceMethod yX0_toldAt, Cond.selects RX0 yX0_toldAt yX0_toldAt, Cond.code yX0_toldAt cX0_toldAt 2 (some .long)]
def wsL_powerAnew : List Cond := .codeWith yL_powerAnew cL_powerAnew 4 (some .int) [(0, 8, 11, 21)] :: ((wsL_powerAnew_r1 ++ (wsL_powerAnew_r2 ++ (wsL_powerAnew_r3 ++ wsL_powerAnew_r4))) ++ wsX40 ++ wsX00 ++ wsX30 ++ (vx_atS RX4 75 "java/lang/IndexOutOfBoundsException" ["java/lang/RuntimeException", "java/lang/Exception"]).filter goodWord)
def wsL_peaks_r1 : List Cond := [Cond.classLink RL 13 "java/lang/IllegalArgumentException", Cond.methodLink RL 54 yX4_peaks, Cond.instanceMethod yX4_peaks, Cond.selects RX4 yX4_peaks yX4_peaks, Cond.initialized RX4, Cond.code yX4_peaks cX4_peaks 6 (some .int), Cond.classLink RX4 45 "java/lang/IllegalArgumentException", Cond.initialized "java/lang/IllegalArgumentException", Cond.fieldLink RX4 32 "Beamrow" "powers" "[J", Cond.constantLong RX4 165 (100), Cond.methodLink RX4 41 yX4_isWithin, Cond.static yX4_isWithin, Cond.code yX4_isWithin cX4_isWithin 3 (some .boolean), Cond.methodLink RX4 124 yX4_layAll, Cond.instanceMethod yX4_layAll, Cond.selects RX4 yX4_layAll yX4_layAll, Cond.code yX4_layAll cX4_layAll 10 (some .long), Cond.fieldLink RX4 11 "Beamrow" "elements" "[LBeamrow$Element;", Cond.methodLink RX4 76 yX0_isLiving, Cond.instanceMethod yX0_isLiving, Cond.selects RX0 yX0_isLiving yX0_isLiving, Cond.initialized RX0, Cond.code yX0_isLiving cX0_isLiving 1 (some .boolean), Cond.fieldLink RX0 33 "Beamrow$Element" "living" "Z"]
def wsL_peaks_r2 : List Cond := [Cond.methodLink RX4 210 yX4_weightOf, Cond.instanceMethod yX4_weightOf, Cond.selects RX4 yX4_weightOf yX4_weightOf, Cond.code yX4_weightOf cX4_weightOf 4 (some .int), Cond.fieldLink RX4 37 "Beamrow" "shape" "I", Cond.methodLink RX4 217 Lib.Math.min.name, Cond.static Lib.Math.min.name, Cond.initialized "java/lang/Math", Cond.code Lib.Math.min.name Lib.Math.min.code 2 (some .int), Cond.methodLink RX4 214 yX0_layOut, Cond.instanceMethod yX0_layOut, Cond.selects RX0 yX0_layOut yX0_layOut, Cond.code yX0_layOut cX0_layOut 3 none, Cond.fieldLink RX0 65 "Beamrow$Element" "weight" "J", Cond.fieldLink RX0 18 "Beamrow$Element" "laid" "[J", Cond.fieldLink RX0 12 "Beamrow$Element" "tape" "LBeamrow$Tape;", Cond.methodLink RX0 61 yX3_at, Cond.instanceMethod yX3_at, Cond.selects RX3 yX3_at yX3_at, Cond.initialized RX3, Cond.code yX3_at cX3_at 3 (some .int), Cond.fieldLink RX3 19 "Beamrow$Tape" "end" "I", Cond.fieldLink RX3 9 "Beamrow$Tape" "slots" "[I", Cond.methodLink RX3 22 yX3_slotOf]
def wsL_peaks_r3 : List Cond := [Cond.static yX3_slotOf, Cond.code yX3_slotOf cX3_slotOf 1 (some .int), Cond.methodLink RX3 26 yX3_keeps, Cond.instanceMethod yX3_keeps, Cond.selects RX3 yX3_keeps yX3_keeps, Cond.code yX3_keeps cX3_keeps 2 (some .boolean), Cond.fieldLink RX3 15 "Beamrow$Tape" "begin" "I", Cond.methodLink RX0 69 yX0_turnAll, Cond.instanceMethod yX0_turnAll, Cond.selects RX0 yX0_turnAll yX0_turnAll, Cond.code yX0_turnAll cX0_turnAll 2 none, Cond.fieldLink RX0 25 "Beamrow$Element" "trimGain" "I", Cond.fieldLink RX0 22 "Beamrow$Element" "turned" "[J", Cond.constantLong RX0 72 (64), Cond.methodLink RX0 74 yJ9_floorDiv_f86c9, Cond.static yJ9_floorDiv_f86c9, Cond.initialized RJ9, Cond.code yJ9_floorDiv_f86c9 cJ9_floorDiv_f86c9 6 (some .long), Cond.methodLink RX4 159 yX4_fillPowers, Cond.instanceMethod yX4_fillPowers, Cond.selects RX4 yX4_fillPowers yX4_fillPowers, Cond.code yX4_fillPowers cX4_fillPowers 4 (some .long), Cond.methodLink RX4 236 Lib.MathLoose.max_long.x, Cond.static Lib.MathLoose.max_long.x]
def wsL_peaks_r4 : List Cond := [Cond.code Lib.MathLoose.max_long.x Lib.MathLoose.max_long.code 4 (some .long), Cond.methodLink RX4 150 yX4_powerBySums, Cond.instanceMethod yX4_powerBySums, Cond.selects RX4 yX4_powerBySums yX4_powerBySums, Cond.code yX4_powerBySums cX4_powerBySums 9 (some .long), Cond.fieldLink RX4 28 "Beamrow" "sums" "[J", Cond.methodLink RX4 146 yX4_steer, Cond.instanceMethod yX4_steer, Cond.selects RX4 yX4_steer yX4_steer, Cond.code yX4_steer cX4_steer 6 none, Cond.methodLink RX4 222 yJ7_fill_d0a16, Cond.static yJ7_fill_d0a16, Cond.initialized RJ7, Cond.code yJ7_fill_d0a16 cJ7_fill_d0a16 5 none, Cond.methodLink RX4 228 yX0_tellTo, Cond.instanceMethod yX0_tellTo, Cond.selects RX0 yX0_tellTo yX0_tellTo, Cond.code yX0_tellTo cX0_tellTo 5 none, Cond.methodLink RX0 80 yX0_firstTold, Cond.instanceMethod yX0_firstTold, Cond.selects RX0 yX0_firstTold yX0_firstTold, Cond.code yX0_firstTold cX0_firstTold 2 (some .int), Cond.fieldLink RX0 49 "Beamrow$Element" "trimLag" "I", Cond.methodLink RX0 77 yX0_delayFor]
def wsL_peaks_r5 : List Cond := [Cond.instanceMethod yX0_delayFor, Cond.selects RX0 yX0_delayFor yX0_delayFor, Cond.code yX0_delayFor cX0_delayFor 2 (some .int), Cond.fieldLink RX0 36 "Beamrow$Element" "position" "I", Cond.methodLink RX0 52 yJ9_floorDiv_7cf53, Cond.static yJ9_floorDiv_7cf53, Cond.code yJ9_floorDiv_7cf53 cJ9_floorDiv_7cf53 3 (some .int), Cond.methodLink RX0 83 yX0_toldAt, Cond.instanceMethod yX0_toldAt, Cond.selects RX0 yX0_toldAt yX0_toldAt, Cond.code yX0_toldAt cX0_toldAt 2 (some .long), Cond.methodLink RX4 162 yX4_isPeak, Cond.instanceMethod yX4_isPeak, Cond.selects RX4 yX4_isPeak yX4_isPeak, Cond.code yX4_isPeak cX4_isPeak 4 (some .boolean), Cond.methodLink RX4 240 yX4_powerAt, Cond.instanceMethod yX4_powerAt, Cond.selects RX4 yX4_powerAt yX4_powerAt, Cond.code yX4_powerAt cX4_powerAt 2 (some .long)]
def wsL_peaks : List Cond := .codeWith yL_peaks cL_peaks 4 (some .int) [(0, 9, 12, 13)] :: ((wsL_peaks_r1 ++ (wsL_peaks_r2 ++ (wsL_peaks_r3 ++ (wsL_peaks_r4 ++ wsL_peaks_r5)))) ++ wsX40 ++ wsX00 ++ wsX30 ++ (vx_atS RX4 49 "java/lang/IllegalArgumentException" ["java/lang/RuntimeException", "java/lang/Exception"]).filter goodWord)
def wsL_found_r1 : List Cond := [Cond.classLink RL 21 "java/lang/IndexOutOfBoundsException", Cond.methodLink RL 57 yX4_found, Cond.instanceMethod yX4_found, Cond.selects RX4 yX4_found yX4_found, Cond.initialized RX4, Cond.code yX4_found cX4_found 6 (some .int), Cond.classLink RX4 71 "java/lang/IndexOutOfBoundsException", Cond.initialized "java/lang/IndexOutOfBoundsException", Cond.methodLink RX4 41 yX4_isWithin, Cond.static yX4_isWithin, Cond.code yX4_isWithin cX4_isWithin 3 (some .boolean), Cond.methodLink RX4 124 yX4_layAll, Cond.instanceMethod yX4_layAll, Cond.selects RX4 yX4_layAll yX4_layAll, Cond.code yX4_layAll cX4_layAll 10 (some .long), Cond.fieldLink RX4 11 "Beamrow" "elements" "[LBeamrow$Element;", Cond.methodLink RX4 76 yX0_isLiving, Cond.instanceMethod yX0_isLiving, Cond.selects RX0 yX0_isLiving yX0_isLiving, Cond.initialized RX0, Cond.code yX0_isLiving cX0_isLiving 1 (some .boolean), Cond.fieldLink RX0 33 "Beamrow$Element" "living" "Z", Cond.methodLink RX4 210 yX4_weightOf, Cond.instanceMethod yX4_weightOf]
def wsL_found_r2 : List Cond := [Cond.selects RX4 yX4_weightOf yX4_weightOf, Cond.code yX4_weightOf cX4_weightOf 4 (some .int), Cond.fieldLink RX4 37 "Beamrow" "shape" "I", Cond.methodLink RX4 217 Lib.Math.min.name, Cond.static Lib.Math.min.name, Cond.initialized "java/lang/Math", Cond.code Lib.Math.min.name Lib.Math.min.code 2 (some .int), Cond.methodLink RX4 214 yX0_layOut, Cond.instanceMethod yX0_layOut, Cond.selects RX0 yX0_layOut yX0_layOut, Cond.code yX0_layOut cX0_layOut 3 none, Cond.fieldLink RX0 65 "Beamrow$Element" "weight" "J", Cond.fieldLink RX0 18 "Beamrow$Element" "laid" "[J", Cond.fieldLink RX0 12 "Beamrow$Element" "tape" "LBeamrow$Tape;", Cond.methodLink RX0 61 yX3_at, Cond.instanceMethod yX3_at, Cond.selects RX3 yX3_at yX3_at, Cond.initialized RX3, Cond.code yX3_at cX3_at 3 (some .int), Cond.fieldLink RX3 19 "Beamrow$Tape" "end" "I", Cond.fieldLink RX3 9 "Beamrow$Tape" "slots" "[I", Cond.methodLink RX3 22 yX3_slotOf, Cond.static yX3_slotOf, Cond.code yX3_slotOf cX3_slotOf 1 (some .int)]
def wsL_found_r3 : List Cond := [Cond.methodLink RX3 26 yX3_keeps, Cond.instanceMethod yX3_keeps, Cond.selects RX3 yX3_keeps yX3_keeps, Cond.code yX3_keeps cX3_keeps 2 (some .boolean), Cond.fieldLink RX3 15 "Beamrow$Tape" "begin" "I", Cond.methodLink RX0 69 yX0_turnAll, Cond.instanceMethod yX0_turnAll, Cond.selects RX0 yX0_turnAll yX0_turnAll, Cond.code yX0_turnAll cX0_turnAll 2 none, Cond.fieldLink RX0 25 "Beamrow$Element" "trimGain" "I", Cond.fieldLink RX0 22 "Beamrow$Element" "turned" "[J", Cond.constantLong RX0 72 (64), Cond.methodLink RX0 74 yJ9_floorDiv_f86c9, Cond.static yJ9_floorDiv_f86c9, Cond.initialized RJ9, Cond.code yJ9_floorDiv_f86c9 cJ9_floorDiv_f86c9 6 (some .long), Cond.methodLink RX4 169 yX4_strongest, Cond.instanceMethod yX4_strongest, Cond.selects RX4 yX4_strongest yX4_strongest, Cond.code yX4_strongest cX4_strongest 4 (some .int), Cond.fieldLink RX4 32 "Beamrow" "powers" "[J", Cond.methodLink RX4 159 yX4_fillPowers, Cond.instanceMethod yX4_fillPowers, Cond.selects RX4 yX4_fillPowers yX4_fillPowers]
def wsL_found_r4 : List Cond := [Cond.code yX4_fillPowers cX4_fillPowers 4 (some .long), Cond.methodLink RX4 236 Lib.MathLoose.max_long.x, Cond.static Lib.MathLoose.max_long.x, Cond.code Lib.MathLoose.max_long.x Lib.MathLoose.max_long.code 4 (some .long), Cond.methodLink RX4 150 yX4_powerBySums, Cond.instanceMethod yX4_powerBySums, Cond.selects RX4 yX4_powerBySums yX4_powerBySums, Cond.code yX4_powerBySums cX4_powerBySums 9 (some .long), Cond.fieldLink RX4 28 "Beamrow" "sums" "[J", Cond.methodLink RX4 146 yX4_steer, Cond.instanceMethod yX4_steer, Cond.selects RX4 yX4_steer yX4_steer, Cond.code yX4_steer cX4_steer 6 none, Cond.methodLink RX4 222 yJ7_fill_d0a16, Cond.static yJ7_fill_d0a16, Cond.initialized RJ7, Cond.code yJ7_fill_d0a16 cJ7_fill_d0a16 5 none, Cond.methodLink RX4 228 yX0_tellTo, Cond.instanceMethod yX0_tellTo, Cond.selects RX0 yX0_tellTo yX0_tellTo, Cond.code yX0_tellTo cX0_tellTo 5 none, Cond.methodLink RX0 80 yX0_firstTold, Cond.instanceMethod yX0_firstTold, Cond.selects RX0 yX0_firstTold yX0_firstTold]
def wsL_found_r5 : List Cond := [Cond.code yX0_firstTold cX0_firstTold 2 (some .int), Cond.fieldLink RX0 49 "Beamrow$Element" "trimLag" "I", Cond.methodLink RX0 77 yX0_delayFor, Cond.instanceMethod yX0_delayFor, Cond.selects RX0 yX0_delayFor yX0_delayFor, Cond.code yX0_delayFor cX0_delayFor 2 (some .int), Cond.fieldLink RX0 36 "Beamrow$Element" "position" "I", Cond.methodLink RX0 52 yJ9_floorDiv_7cf53, Cond.static yJ9_floorDiv_7cf53, Cond.code yJ9_floorDiv_7cf53 cJ9_floorDiv_7cf53 3 (some .int), Cond.methodLink RX0 83 yX0_toldAt, Cond.instanceMethod yX0_toldAt, Cond.selects RX0 yX0_toldAt yX0_toldAt, Cond.code yX0_toldAt cX0_toldAt 2 (some .long), Cond.methodLink RX4 172 yX4_takeAway, Cond.instanceMethod yX4_takeAway, Cond.selects RX4 yX4_takeAway yX4_takeAway, Cond.code yX4_takeAway cX4_takeAway 11 none, Cond.methodLink RX4 243 yJ9_floorDiv_f86c9, Cond.methodLink RX4 246 yX0_takeAway, Cond.instanceMethod yX0_takeAway, Cond.selects RX0 yX0_takeAway yX0_takeAway, Cond.code yX0_takeAway cX0_takeAway 6 none, Cond.methodLink RX0 87 yX3_keeps]
def wsL_found_r6 : List Cond := [Cond.methodLink RX4 249 yX0_turnAll]
def wsL_found : List Cond := .codeWith yL_found cL_found 4 (some .int) [(0, 9, 12, 21)] :: ((wsL_found_r1 ++ (wsL_found_r2 ++ (wsL_found_r3 ++ (wsL_found_r4 ++ (wsL_found_r5 ++ wsL_found_r6))))) ++ wsX40 ++ wsX00 ++ wsX30 ++ (vx_atS RX4 75 "java/lang/IndexOutOfBoundsException" ["java/lang/RuntimeException", "java/lang/Exception"]).filter goodWord)
def wsL_calibrated_r1 : List Cond := [Cond.classLink RL 21 "java/lang/IndexOutOfBoundsException", Cond.methodLink RL 60 yX4_calibrated, Cond.instanceMethod yX4_calibrated, Cond.selects RX4 yX4_calibrated yX4_calibrated, Cond.initialized RX4, Cond.code yX4_calibrated cX4_calibrated 3 (some .int), Cond.classLink RX4 71 "java/lang/IndexOutOfBoundsException", Cond.initialized "java/lang/IndexOutOfBoundsException", Cond.fieldLink RX4 11 "Beamrow" "elements" "[LBeamrow$Element;", Cond.methodLink RX4 67 yX4_isElement, Cond.instanceMethod yX4_isElement, Cond.selects RX4 yX4_isElement yX4_isElement, Cond.code yX4_isElement cX4_isElement 2 (some .boolean), Cond.fieldLink RX4 52 "Beamrow" "elementCount" "I", Cond.methodLink RX4 176 yX0_getTrimLag, Cond.instanceMethod yX0_getTrimLag, Cond.selects RX0 yX0_getTrimLag yX0_getTrimLag, Cond.initialized RX0, Cond.code yX0_getTrimLag cX0_getTrimLag 1 (some .int), Cond.fieldLink RX0 49 "Beamrow$Element" "trimLag" "I", Cond.methodLink RX4 179 yX0_getTrimGain, Cond.instanceMethod yX0_getTrimGain, Cond.selects RX0 yX0_getTrimGain yX0_getTrimGain, Cond.code yX0_getTrimGain cX0_getTrimGain 1 (some .int)]
def wsL_calibrated_r2 : List Cond := [Cond.fieldLink RX0 25 "Beamrow$Element" "trimGain" "I"]
def wsL_calibrated : List Cond := .codeWith yL_calibrated cL_calibrated 5 (some .int) [(0, 10, 13, 21)] :: ((wsL_calibrated_r1 ++ wsL_calibrated_r2) ++ wsX40 ++ wsX00 ++ (vx_atS RX4 75 "java/lang/IndexOutOfBoundsException" ["java/lang/RuntimeException", "java/lang/Exception"]).filter goodWord)
def wsL_law0_r1 : List Cond := [Cond.classLink RL 8 RX4, Cond.instantiable RX4 9, Cond.initialized RX4, Cond.classLink RL 65 RX5, Cond.instantiable RX5 21, Cond.initialized RX5, Cond.arrayClass .long, Cond.methodLink RL 64 yX4_init, Cond.instanceMethod yX4_init, Cond.code yX4_init cX4_init 2 none, Cond.methodLink RX4 3 objectInit, Cond.instanceMethod objectInit, Cond.code objectInit ⟨#[0xb1]⟩ 1 none, Cond.classLink RX4 9 RX0, Cond.fieldLink RX4 11 "Beamrow" "elements" "[LBeamrow$Element;", Cond.classLink RX4 15 RX2, Cond.fieldLink RX4 17 "Beamrow" "sources" "[LBeamrow$Source;", Cond.classLink RX4 21 RX1, Cond.instantiable RX1 2, Cond.initialized RX1, Cond.fieldLink RX4 24 "Beamrow" "hiss" "LBeamrow$Hiss;", Cond.fieldLink RX4 28 "Beamrow" "sums" "[J", Cond.fieldLink RX4 32 "Beamrow" "powers" "[J", Cond.instantiable RX0 11]
def wsL_law0_r2 : List Cond := [Cond.initialized RX0, Cond.instantiable RX2 3, Cond.initialized RX2, Cond.fieldLink RX4 37 "Beamrow" "shape" "I", Cond.instanceMethod yX1_init, Cond.code yX1_init cX1_init 1 none, Cond.methodLink RX1 1 objectInit, Cond.fieldLink RX1 7 "Beamrow$Hiss" "number" "I", Cond.instanceMethod yX0_init, Cond.code yX0_init cX0_init 1 none, Cond.methodLink RX0 3 objectInit, Cond.classLink RX0 9 RX3, Cond.instantiable RX3 3, Cond.initialized RX3, Cond.fieldLink RX0 12 "Beamrow$Element" "tape" "LBeamrow$Tape;", Cond.fieldLink RX0 18 "Beamrow$Element" "laid" "[J", Cond.fieldLink RX0 22 "Beamrow$Element" "turned" "[J", Cond.fieldLink RX0 25 "Beamrow$Element" "trimGain" "I", Cond.instanceMethod yX3_init, Cond.code yX3_init cX3_init 1 none, Cond.methodLink RX3 3 objectInit, Cond.arrayClass .int, Cond.fieldLink RX3 9 "Beamrow$Tape" "slots" "[I", Cond.instanceMethod yX2_init]
def wsL_law0_r3 : List Cond := [Cond.code yX2_init cX2_init 1 none, Cond.methodLink RX2 1 objectInit, Cond.fieldLink RX2 7 "Beamrow$Source" "period" "I", Cond.methodLink RL 67 yX5_init, Cond.instanceMethod yX5_init, Cond.code yX5_init cX5_init 1 none, Cond.methodLink RX5 1 objectInit, Cond.fieldLink RX5 7 "BeamrowModel" "positions" "[I", Cond.fieldLink RX5 13 "BeamrowModel" "gains" "[I", Cond.fieldLink RX5 16 "BeamrowModel" "lags" "[I", Cond.fieldLink RX5 19 "BeamrowModel" "began" "[I", Cond.arrayClass .boolean, Cond.fieldLink RX5 22 "BeamrowModel" "isAlive" "[Z", Cond.fieldLink RX5 26 "BeamrowModel" "byGain" "[I", Cond.fieldLink RX5 29 "BeamrowModel" "byLag" "[I", Cond.fieldLink RX5 32 "BeamrowModel" "bearings" "[I", Cond.fieldLink RX5 35 "BeamrowModel" "strengths" "[I", Cond.fieldLink RX5 38 "BeamrowModel" "periods" "[I", Cond.fieldLink RX5 41 "BeamrowModel" "samples" "[I", Cond.fieldLink RX5 44 "BeamrowModel" "left" "[I", Cond.fieldLink RX5 47 "BeamrowModel" "means" "[I", Cond.fieldLink RX5 50 "BeamrowModel" "powers" "[J", Cond.fieldLink RX5 54 "BeamrowModel" "number" "I", Cond.methodLink RL 68 yL_element]
def wsL_law0_r4 : List Cond := [Cond.static yL_element, Cond.initialized RL, Cond.codeWith yL_element cL_element 6 (some .int) [(0, 12, 15, 13), (0, 12, 19, 15)], Cond.classLink RL 13 "java/lang/IllegalArgumentException", Cond.classLink RL 15 "java/lang/IllegalStateException", Cond.methodLink RL 7 yX4_element, Cond.instanceMethod yX4_element, Cond.selects RX4 yX4_element yX4_element, Cond.code yX4_element cX4_element 5 (some .int), Cond.classLink RX4 45 "java/lang/IllegalArgumentException", Cond.initialized "java/lang/IllegalArgumentException", Cond.classLink RX4 55 "java/lang/IllegalStateException", Cond.initialized "java/lang/IllegalStateException", Cond.fieldLink RX4 52 "Beamrow" "elementCount" "I", Cond.fieldLink RX4 60 "Beamrow" "nextTick" "I", Cond.methodLink RX4 41 yX4_isWithin, Cond.static yX4_isWithin, Cond.code yX4_isWithin cX4_isWithin 3 (some .boolean), Cond.methodLink RX4 63 yX0_putUp, Cond.instanceMethod yX0_putUp, Cond.selects RX0 yX0_putUp yX0_putUp, Cond.code yX0_putUp cX0_putUp 5 none, Cond.fieldLink RX0 29 "Beamrow$Element" "up" "Z", Cond.fieldLink RX0 33 "Beamrow$Element" "living" "Z"]
def wsL_law0_r5 : List Cond := [Cond.fieldLink RX0 36 "Beamrow$Element" "position" "I", Cond.fieldLink RX0 39 "Beamrow$Element" "gain" "I", Cond.fieldLink RX0 42 "Beamrow$Element" "lag" "I", Cond.methodLink RX0 45 yX3_beginAt, Cond.instanceMethod yX3_beginAt, Cond.selects RX3 yX3_beginAt yX3_beginAt, Cond.code yX3_beginAt cX3_beginAt 2 none, Cond.fieldLink RX3 15 "Beamrow$Tape" "begin" "I", Cond.fieldLink RX3 19 "Beamrow$Tape" "end" "I", Cond.methodLink RL 73 yX5_element, Cond.instanceMethod yX5_element, Cond.selects RX5 yX5_element yX5_element, Cond.code yX5_element cX5_element 5 (some .int), Cond.fieldLink RX5 61 "BeamrowModel" "elements" "I", Cond.fieldLink RX5 78 "BeamrowModel" "next" "I", Cond.methodLink RX5 64 yX5_isIn, Cond.static yX5_isIn, Cond.code yX5_isIn cX5_isIn 3 (some .boolean), Cond.methodLink RX5 74 yX5_goes, Cond.instanceMethod yX5_goes, Cond.selects RX5 yX5_goes yX5_goes, Cond.code yX5_goes cX5_goes 2 (some .boolean), Cond.fieldLink RX5 58 "BeamrowModel" "thrown" "I", Cond.methodLink RL 74 yX5_thrown]
def wsL_law0_r6 : List Cond := [Cond.instanceMethod yX5_thrown, Cond.selects RX5 yX5_thrown yX5_thrown, Cond.code yX5_thrown cX5_thrown 1 (some .int), Cond.methodLink RL 78 yL_alive, Cond.static yL_alive, Cond.codeWith yL_alive cL_alive 5 (some .int) [(0, 17, 20, 21)], Cond.classLink RL 21 "java/lang/IndexOutOfBoundsException", Cond.methodLink RL 17 yX4_alive, Cond.instanceMethod yX4_alive, Cond.selects RX4 yX4_alive yX4_alive, Cond.code yX4_alive cX4_alive 4 (some .boolean), Cond.classLink RX4 71 "java/lang/IndexOutOfBoundsException", Cond.initialized "java/lang/IndexOutOfBoundsException", Cond.methodLink RX4 67 yX4_isElement, Cond.instanceMethod yX4_isElement, Cond.selects RX4 yX4_isElement yX4_isElement, Cond.code yX4_isElement cX4_isElement 2 (some .boolean), Cond.methodLink RX4 76 yX0_isLiving, Cond.instanceMethod yX0_isLiving, Cond.selects RX0 yX0_isLiving yX0_isLiving, Cond.code yX0_isLiving cX0_isLiving 1 (some .boolean), Cond.methodLink RX4 80 yX0_setLiving, Cond.instanceMethod yX0_setLiving, Cond.selects RX0 yX0_setLiving yX0_setLiving]
def wsL_law0_r7 : List Cond := [Cond.code yX0_setLiving cX0_setLiving 2 none, Cond.methodLink RL 81 yX5_alive, Cond.instanceMethod yX5_alive, Cond.selects RX5 yX5_alive yX5_alive, Cond.code yX5_alive cX5_alive 4 (some .boolean), Cond.methodLink RX5 81 yX5_isElement, Cond.instanceMethod yX5_isElement, Cond.selects RX5 yX5_isElement yX5_isElement, Cond.code yX5_isElement cX5_isElement 2 (some .boolean), Cond.methodLink RL 82 yL_source, Cond.static yL_source, Cond.codeWith yL_source cL_source 6 (some .int) [(0, 12, 15, 21), (0, 12, 19, 13), (0, 12, 23, 15)], Cond.methodLink RL 23 yX4_source, Cond.instanceMethod yX4_source, Cond.selects RX4 yX4_source yX4_source, Cond.code yX4_source cX4_source 5 (some .int), Cond.fieldLink RX4 91 "Beamrow" "sourceCount" "I", Cond.methodLink RX4 84 yX4_isBearing, Cond.static yX4_isBearing, Cond.code yX4_isBearing cX4_isBearing 1 (some .boolean), Cond.methodLink RX4 96 yX2_setUp, Cond.instanceMethod yX2_setUp, Cond.selects RX2 yX2_setUp yX2_setUp, Cond.code yX2_setUp cX2_setUp 4 none]
def wsL_law0_r8 : List Cond := [Cond.fieldLink RX2 13 "Beamrow$Source" "bearing" "I", Cond.fieldLink RX2 16 "Beamrow$Source" "strength" "I", Cond.methodLink RL 84 yX5_source, Cond.instanceMethod yX5_source, Cond.selects RX5 yX5_source yX5_source, Cond.code yX5_source cX5_source 5 (some .int), Cond.fieldLink RX5 87 "BeamrowModel" "sources" "I", Cond.methodLink RX5 84 yX5_isBearing, Cond.static yX5_isBearing, Cond.code yX5_isBearing cX5_isBearing 1 (some .boolean), Cond.methodLink RL 85 yX4_silence, Cond.instanceMethod yX4_silence, Cond.selects RX4 yX4_silence yX4_silence, Cond.code yX4_silence cX4_silence 2 (some .int), Cond.methodLink RL 88 yX5_silence, Cond.instanceMethod yX5_silence, Cond.selects RX5 yX5_silence yX5_silence, Cond.code yX5_silence cX5_silence 2 (some .int), Cond.methodLink RL 89 yL_noise, Cond.static yL_noise, Cond.codeWith yL_noise cL_noise 5 (some .int) [(0, 10, 13, 13)], Cond.methodLink RL 26 yX4_noise, Cond.instanceMethod yX4_noise, Cond.selects RX4 yX4_noise yX4_noise]
def wsL_law0_r9 : List Cond := [Cond.code yX4_noise cX4_noise 4 (some .int), Cond.constant RX4 100 (65536), Cond.methodLink RX4 103 yX1_getLoudness, Cond.instanceMethod yX1_getLoudness, Cond.selects RX1 yX1_getLoudness yX1_getLoudness, Cond.code yX1_getLoudness cX1_getLoudness 1 (some .int), Cond.fieldLink RX1 13 "Beamrow$Hiss" "loudness" "I", Cond.methodLink RX4 107 yX1_set, Cond.instanceMethod yX1_set, Cond.selects RX1 yX1_set yX1_set, Cond.code yX1_set cX1_set 3 none, Cond.methodLink RL 92 yX5_noise, Cond.instanceMethod yX5_noise, Cond.selects RX5 yX5_noise yX5_noise, Cond.code yX5_noise cX5_noise 4 (some .int), Cond.constant RX5 90 (65536), Cond.fieldLink RX5 91 "BeamrowModel" "loudness" "I", Cond.methodLink RL 93 yL_hear, Cond.static yL_hear, Cond.codeWith yL_hear cL_hear 4 (some .int) [(0, 9, 12, 13)], Cond.methodLink RL 30 yX4_hear, Cond.instanceMethod yX4_hear, Cond.selects RX4 yX4_hear yX4_hear, Cond.code yX4_hear cX4_hear 3 (some .int)]
def wsL_law0_r10 : List Cond := [Cond.methodLink RX4 113 yX4_hearOneTick, Cond.instanceMethod yX4_hearOneTick, Cond.selects RX4 yX4_hearOneTick yX4_hearOneTick, Cond.code yX4_hearOneTick cX4_hearOneTick 6 none, Cond.methodLink RX4 182 yX0_isUp, Cond.instanceMethod yX0_isUp, Cond.selects RX0 yX0_isUp yX0_isUp, Cond.code yX0_isUp cX0_isUp 1 (some .boolean), Cond.methodLink RX4 185 yX1_draw, Cond.instanceMethod yX1_draw, Cond.selects RX1 yX1_draw yX1_draw, Cond.code yX1_draw cX1_draw 2 (some .int), Cond.constant RX1 16 (65537), Cond.methodLink RX4 188 yX4_wavesAt, Cond.instanceMethod yX4_wavesAt, Cond.selects RX4 yX4_wavesAt yX4_wavesAt, Cond.code yX4_wavesAt cX4_wavesAt 5 (some .int), Cond.methodLink RX4 198 yX2_getBearing, Cond.instanceMethod yX2_getBearing, Cond.selects RX2 yX2_getBearing yX2_getBearing, Cond.code yX2_getBearing cX2_getBearing 1 (some .int), Cond.methodLink RX4 201 yX0_delayFor, Cond.instanceMethod yX0_delayFor, Cond.selects RX0 yX0_delayFor yX0_delayFor]
def wsL_law0_r11 : List Cond := [Cond.code yX0_delayFor cX0_delayFor 2 (some .int), Cond.methodLink RX0 52 yJ9_floorDiv_7cf53, Cond.static yJ9_floorDiv_7cf53, Cond.initialized RJ9, Cond.code yJ9_floorDiv_7cf53 cJ9_floorDiv_7cf53 3 (some .int), Cond.methodLink RX4 204 yX0_getLag, Cond.instanceMethod yX0_getLag, Cond.selects RX0 yX0_getLag yX0_getLag, Cond.code yX0_getLag cX0_getLag 1 (some .int), Cond.methodLink RX4 207 yX2_waveAt, Cond.instanceMethod yX2_waveAt, Cond.selects RX2 yX2_waveAt yX2_waveAt, Cond.code yX2_waveAt cX2_waveAt 2 (some .int), Cond.methodLink RX2 19 yJ9_floorMod_7cf53, Cond.static yJ9_floorMod_7cf53, Cond.code yJ9_floorMod_7cf53 cJ9_floorMod_7cf53 3 (some .int), Cond.methodLink RX4 192 yX0_heardOf, Cond.instanceMethod yX0_heardOf, Cond.selects RX0 yX0_heardOf yX0_heardOf, Cond.code yX0_heardOf cX0_heardOf 2 (some .int), Cond.methodLink RX4 195 yX0_keep, Cond.instanceMethod yX0_keep, Cond.selects RX0 yX0_keep yX0_keep, Cond.code yX0_keep cX0_keep 2 none]
def wsL_law0_r12 : List Cond := [Cond.methodLink RX0 58 yX3_add, Cond.instanceMethod yX3_add, Cond.selects RX3 yX3_add yX3_add, Cond.code yX3_add cX3_add 3 none, Cond.methodLink RX3 22 yX3_slotOf, Cond.static yX3_slotOf, Cond.code yX3_slotOf cX3_slotOf 1 (some .int), Cond.methodLink RL 96 yX5_hear, Cond.instanceMethod yX5_hear, Cond.selects RX5 yX5_hear yX5_hear, Cond.code yX5_hear cX5_hear 4 (some .int), Cond.methodLink RX5 104 yX5_hears, Cond.instanceMethod yX5_hears, Cond.selects RX5 yX5_hears yX5_hears, Cond.code yX5_hears cX5_hears 5 none, Cond.constant RX5 101 (65537), Cond.constantLong RX5 102 (64), Cond.methodLink RX5 94 yX5_delay, Cond.instanceMethod yX5_delay, Cond.selects RX5 yX5_delay yX5_delay, Cond.code yX5_delay cX5_delay 3 (some .int), Cond.constantLong RX5 68 (4), Cond.methodLink RX5 70 yX5_down, Cond.static yX5_down]
def wsL_law0_r13 : List Cond := [Cond.code yX5_down cX5_down 6 (some .long), Cond.methodLink RX5 98 yX5_wave, Cond.instanceMethod yX5_wave, Cond.selects RX5 yX5_wave yX5_wave, Cond.code yX5_wave cX5_wave 4 (some .int), Cond.methodLink RL 97 yL_window, Cond.static yL_window, Cond.codeWith yL_window cL_window 4 (some .int) [(0, 9, 12, 13)], Cond.methodLink RL 34 yX4_window, Cond.instanceMethod yX4_window, Cond.selects RX4 yX4_window yX4_window, Cond.code yX4_window cX4_window 3 (some .int), Cond.methodLink RL 99 yX5_window, Cond.instanceMethod yX5_window, Cond.selects RX5 yX5_window yX5_window, Cond.code yX5_window cX5_window 3 (some .int), Cond.fieldLink RX5 108 "BeamrowModel" "window" "I", Cond.methodLink RL 100 yL_calibrate, Cond.static yL_calibrate, Cond.codeWith yL_calibrate cL_calibrate 4 (some .int) [(0, 9, 12, 21), (0, 9, 15, 15)], Cond.methodLink RL 37 yX4_calibrate, Cond.instanceMethod yX4_calibrate, Cond.selects RX4 yX4_calibrate yX4_calibrate, Cond.code yX4_calibrate cX4_calibrate 5 (some .int)]
def wsL_law0_r14 : List Cond := [Cond.methodLink RX4 118 yX4_lowestLiving, Cond.instanceMethod yX4_lowestLiving, Cond.selects RX4 yX4_lowestLiving yX4_lowestLiving, Cond.code yX4_lowestLiving cX4_lowestLiving 5 (some (.object "Beamrow$Element")), Cond.methodLink RX4 124 yX4_layAll, Cond.instanceMethod yX4_layAll, Cond.selects RX4 yX4_layAll yX4_layAll, Cond.code yX4_layAll cX4_layAll 10 (some .long), Cond.methodLink RX4 210 yX4_weightOf, Cond.instanceMethod yX4_weightOf, Cond.selects RX4 yX4_weightOf yX4_weightOf, Cond.code yX4_weightOf cX4_weightOf 4 (some .int), Cond.methodLink RX4 217 Lib.Math.min.name, Cond.static Lib.Math.min.name, Cond.initialized "java/lang/Math", Cond.code Lib.Math.min.name Lib.Math.min.code 2 (some .int), Cond.methodLink RX4 214 yX0_layOut, Cond.instanceMethod yX0_layOut, Cond.selects RX0 yX0_layOut yX0_layOut, Cond.code yX0_layOut cX0_layOut 3 none, Cond.fieldLink RX0 65 "Beamrow$Element" "weight" "J", Cond.methodLink RX0 61 yX3_at, Cond.instanceMethod yX3_at, Cond.selects RX3 yX3_at yX3_at]
def wsL_law0_r15 : List Cond := [Cond.code yX3_at cX3_at 3 (some .int), Cond.methodLink RX3 26 yX3_keeps, Cond.instanceMethod yX3_keeps, Cond.selects RX3 yX3_keeps yX3_keeps, Cond.code yX3_keeps cX3_keeps 2 (some .boolean), Cond.methodLink RX0 69 yX0_turnAll, Cond.instanceMethod yX0_turnAll, Cond.selects RX0 yX0_turnAll yX0_turnAll, Cond.code yX0_turnAll cX0_turnAll 2 none, Cond.constantLong RX0 72 (64), Cond.methodLink RX0 74 yJ9_floorDiv_f86c9, Cond.static yJ9_floorDiv_f86c9, Cond.code yJ9_floorDiv_f86c9 cJ9_floorDiv_f86c9 6 (some .long), Cond.methodLink RX4 128 yX0_agreement, Cond.instanceMethod yX0_agreement, Cond.selects RX0 yX0_agreement yX0_agreement, Cond.code yX0_agreement cX0_agreement 9 (some .long), Cond.methodLink RX0 77 yX0_delayFor, Cond.methodLink RX0 91 yX0_laidAt, Cond.instanceMethod yX0_laidAt, Cond.selects RX0 yX0_laidAt yX0_laidAt, Cond.code yX0_laidAt cX0_laidAt 2 (some .long), Cond.methodLink RX4 134 yX4_holdTo, Cond.instanceMethod yX4_holdTo]
def wsL_law0_r16 : List Cond := [Cond.selects RX4 yX4_holdTo yX4_holdTo, Cond.code yX4_holdTo cX4_holdTo 10 (some .int), Cond.methodLink RX4 252 yX0_trim, Cond.instanceMethod yX0_trim, Cond.selects RX0 yX0_trim yX0_trim, Cond.code yX0_trim cX0_trim 4 (some .boolean), Cond.fieldLink RX0 49 "Beamrow$Element" "trimLag" "I", Cond.methodLink RX4 256 yX4_fit, Cond.static yX4_fit, Cond.code yX4_fit cX4_fit 11 (some .boolean), Cond.constantLong RX4 260 (64), Cond.constantLong RX4 262 (16), Cond.constantLong RX4 264 (255), Cond.methodLink RX4 266 Lib.MathLoose.min_long.x, Cond.static Lib.MathLoose.min_long.x, Cond.code Lib.MathLoose.min_long.x Lib.MathLoose.min_long.code 4 (some .long), Cond.methodLink RX4 236 Lib.MathLoose.max_long.x, Cond.static Lib.MathLoose.max_long.x, Cond.code Lib.MathLoose.max_long.x Lib.MathLoose.max_long.code 4 (some .long), Cond.methodLink RX4 243 yJ9_floorDiv_f86c9, Cond.methodLink RL 102 yX5_calibrate, Cond.instanceMethod yX5_calibrate, Cond.selects RX5 yX5_calibrate yX5_calibrate, Cond.code yX5_calibrate cX5_calibrate 8 (some .int)]
def wsL_law0_r17 : List Cond := [Cond.methodLink RX5 138 yX5_lowest, Cond.instanceMethod yX5_lowest, Cond.selects RX5 yX5_lowest yX5_lowest, Cond.code yX5_lowest cX5_lowest 2 (some .int), Cond.methodLink RX5 127 yX5_agreement, Cond.instanceMethod yX5_agreement, Cond.selects RX5 yX5_agreement yX5_agreement, Cond.code yX5_agreement cX5_agreement 9 (some .long), Cond.methodLink RX5 115 yX5_kept, Cond.instanceMethod yX5_kept, Cond.selects RX5 yX5_kept yX5_kept, Cond.code yX5_kept cX5_kept 4 (some .int), Cond.methodLink RX5 111 yX5_isKept, Cond.instanceMethod yX5_isKept, Cond.selects RX5 yX5_isKept yX5_isKept, Cond.code yX5_isKept cX5_isKept 3 (some .boolean), Cond.methodLink RX5 135 yX5_becomes, Cond.instanceMethod yX5_becomes, Cond.selects RX5 yX5_becomes yX5_becomes, Cond.code yX5_becomes cX5_becomes 5 (some .boolean), Cond.methodLink RX5 142 yX5_isFitted, Cond.instanceMethod yX5_isFitted, Cond.selects RX5 yX5_isFitted yX5_isFitted, Cond.code yX5_isFitted cX5_isFitted 9 (some .boolean)]
def wsL_law0_r18 : List Cond := [Cond.constantLong RX5 131 (16), Cond.constantLong RX5 133 (255), Cond.methodLink RL 103 yL_sample, Cond.static yL_sample, Cond.codeWith yL_sample cL_sample 5 (some .int) [(0, 10, 13, 21)], Cond.methodLink RL 40 yX4_sample, Cond.instanceMethod yX4_sample, Cond.selects RX4 yX4_sample yX4_sample, Cond.code yX4_sample cX4_sample 3 (some .int), Cond.methodLink RX4 140 yX0_keptAt, Cond.instanceMethod yX0_keptAt, Cond.selects RX0 yX0_keptAt yX0_keptAt, Cond.code yX0_keptAt cX0_keptAt 2 (some .int), Cond.methodLink RL 105 yX5_sample, Cond.instanceMethod yX5_sample, Cond.selects RX5 yX5_sample yX5_sample, Cond.code yX5_sample cX5_sample 4 (some .int), Cond.methodLink RL 106 yL_sum, Cond.static yL_sum, Cond.codeWith yL_sum cL_sum 5 (some .int) [(0, 9, 12, 21)], Cond.methodLink RL 43 yX4_sum, Cond.instanceMethod yX4_sum, Cond.selects RX4 yX4_sum yX4_sum, Cond.code yX4_sum cX4_sum 4 (some .long)]
def wsL_law0_r19 : List Cond := [Cond.methodLink RX4 146 yX4_steer, Cond.instanceMethod yX4_steer, Cond.selects RX4 yX4_steer yX4_steer, Cond.code yX4_steer cX4_steer 6 none, Cond.methodLink RX4 222 yJ7_fill_d0a16, Cond.static yJ7_fill_d0a16, Cond.initialized RJ7, Cond.code yJ7_fill_d0a16 cJ7_fill_d0a16 5 none, Cond.methodLink RX4 228 yX0_tellTo, Cond.instanceMethod yX0_tellTo, Cond.selects RX0 yX0_tellTo yX0_tellTo, Cond.code yX0_tellTo cX0_tellTo 5 none, Cond.methodLink RX0 80 yX0_firstTold, Cond.instanceMethod yX0_firstTold, Cond.selects RX0 yX0_firstTold yX0_firstTold, Cond.code yX0_firstTold cX0_firstTold 2 (some .int), Cond.methodLink RX0 83 yX0_toldAt, Cond.instanceMethod yX0_toldAt, Cond.selects RX0 yX0_toldAt yX0_toldAt, Cond.code yX0_toldAt cX0_toldAt 2 (some .long), Cond.methodLink RL 108 yX5_sum, Cond.instanceMethod yX5_sum, Cond.selects RX5 yX5_sum yX5_sum, Cond.code yX5_sum cX5_sum 4 (some .long)]
def wsL_law0_r20 : List Cond := [Cond.methodLink RX5 123 yX5_sumOf, Cond.instanceMethod yX5_sumOf, Cond.selects RX5 yX5_sumOf yX5_sumOf, Cond.code yX5_sumOf cX5_sumOf 8 (some .long), Cond.methodLink RX5 119 yX5_weight, Cond.instanceMethod yX5_weight, Cond.selects RX5 yX5_weight yX5_weight, Cond.code yX5_weight cX5_weight 5 (some .int), Cond.methodLink RL 109 yL_power, Cond.static yL_power, Cond.codeWith yL_power cL_power 4 (some .int) [(0, 8, 11, 21)], Cond.methodLink RL 47 yX4_power, Cond.instanceMethod yX4_power, Cond.selects RX4 yX4_power yX4_power, Cond.code yX4_power cX4_power 2 (some .long), Cond.methodLink RX4 150 yX4_powerBySums, Cond.instanceMethod yX4_powerBySums, Cond.selects RX4 yX4_powerBySums yX4_powerBySums, Cond.code yX4_powerBySums cX4_powerBySums 9 (some .long), Cond.methodLink RL 111 yX5_power, Cond.instanceMethod yX5_power, Cond.selects RX5 yX5_power yX5_power, Cond.code yX5_power cX5_power 2 (some .long), Cond.methodLink RX5 146 yX5_powerOf]
def wsL_law0_r21 : List Cond := [Cond.instanceMethod yX5_powerOf, Cond.selects RX5 yX5_powerOf yX5_powerOf, Cond.code yX5_powerOf cX5_powerOf 8 (some .long), Cond.methodLink RL 112 yL_powerAnew, Cond.static yL_powerAnew, Cond.codeWith yL_powerAnew cL_powerAnew 4 (some .int) [(0, 8, 11, 21)], Cond.methodLink RL 51 yX4_powerAnew, Cond.instanceMethod yX4_powerAnew, Cond.selects RX4 yX4_powerAnew yX4_powerAnew, Cond.code yX4_powerAnew cX4_powerAnew 2 (some .long), Cond.methodLink RX4 154 yX4_powerByPairs, Cond.instanceMethod yX4_powerByPairs, Cond.selects RX4 yX4_powerByPairs yX4_powerByPairs, Cond.code yX4_powerByPairs cX4_powerByPairs 12 (some .long), Cond.methodLink RX4 232 yX0_toldWith, Cond.instanceMethod yX0_toldWith, Cond.selects RX0 yX0_toldWith yX0_toldWith, Cond.code yX0_toldWith cX0_toldWith 8 (some .long), Cond.methodLink RL 114 yX5_powerAnew, Cond.instanceMethod yX5_powerAnew, Cond.selects RX5 yX5_powerAnew yX5_powerAnew, Cond.code yX5_powerAnew cX5_powerAnew 2 (some .long), Cond.methodLink RL 115 yL_peaks, Cond.static yL_peaks]
def wsL_law0_r22 : List Cond := [Cond.codeWith yL_peaks cL_peaks 4 (some .int) [(0, 9, 12, 13)], Cond.methodLink RL 54 yX4_peaks, Cond.instanceMethod yX4_peaks, Cond.selects RX4 yX4_peaks yX4_peaks, Cond.code yX4_peaks cX4_peaks 6 (some .int), Cond.constantLong RX4 165 (100), Cond.methodLink RX4 159 yX4_fillPowers, Cond.instanceMethod yX4_fillPowers, Cond.selects RX4 yX4_fillPowers yX4_fillPowers, Cond.code yX4_fillPowers cX4_fillPowers 4 (some .long), Cond.methodLink RX4 162 yX4_isPeak, Cond.instanceMethod yX4_isPeak, Cond.selects RX4 yX4_isPeak yX4_isPeak, Cond.code yX4_isPeak cX4_isPeak 4 (some .boolean), Cond.methodLink RX4 240 yX4_powerAt, Cond.instanceMethod yX4_powerAt, Cond.selects RX4 yX4_powerAt yX4_powerAt, Cond.code yX4_powerAt cX4_powerAt 2 (some .long), Cond.methodLink RL 117 yX5_peaks, Cond.instanceMethod yX5_peaks, Cond.selects RX5 yX5_peaks yX5_peaks, Cond.code yX5_peaks cX5_peaks 7 (some .int), Cond.constantLong RX5 157 (100), Cond.methodLink RX5 150 yX5_findsPowers]
def wsL_law0_r23 : List Cond := [Cond.instanceMethod yX5_findsPowers, Cond.selects RX5 yX5_findsPowers yX5_findsPowers, Cond.code yX5_findsPowers cX5_findsPowers 3 none, Cond.methodLink RX5 154 yX5_greatest, Cond.instanceMethod yX5_greatest, Cond.selects RX5 yX5_greatest yX5_greatest, Cond.code yX5_greatest cX5_greatest 3 (some .int), Cond.methodLink RL 118 yL_found, Cond.static yL_found, Cond.codeWith yL_found cL_found 4 (some .int) [(0, 9, 12, 21)], Cond.methodLink RL 57 yX4_found, Cond.instanceMethod yX4_found, Cond.selects RX4 yX4_found yX4_found, Cond.code yX4_found cX4_found 6 (some .int), Cond.methodLink RX4 169 yX4_strongest, Cond.instanceMethod yX4_strongest, Cond.selects RX4 yX4_strongest yX4_strongest, Cond.code yX4_strongest cX4_strongest 4 (some .int), Cond.methodLink RX4 172 yX4_takeAway, Cond.instanceMethod yX4_takeAway, Cond.selects RX4 yX4_takeAway yX4_takeAway, Cond.code yX4_takeAway cX4_takeAway 11 none, Cond.methodLink RX4 246 yX0_takeAway, Cond.instanceMethod yX0_takeAway]
def wsL_law0_r24 : List Cond := [Cond.selects RX0 yX0_takeAway yX0_takeAway, Cond.code yX0_takeAway cX0_takeAway 6 none, Cond.methodLink RX0 87 yX3_keeps, Cond.methodLink RX4 249 yX0_turnAll, Cond.methodLink RL 120 yX5_found, Cond.instanceMethod yX5_found, Cond.selects RX5 yX5_found yX5_found, Cond.code yX5_found cX5_found 4 (some .int), Cond.methodLink RX5 159 yX5_takes, Cond.instanceMethod yX5_takes, Cond.selects RX5 yX5_takes yX5_takes, Cond.code yX5_takes cX5_takes 6 none, Cond.methodLink RL 121 yL_calibrated, Cond.static yL_calibrated, Cond.codeWith yL_calibrated cL_calibrated 5 (some .int) [(0, 10, 13, 21)], Cond.methodLink RL 60 yX4_calibrated, Cond.instanceMethod yX4_calibrated, Cond.selects RX4 yX4_calibrated yX4_calibrated, Cond.code yX4_calibrated cX4_calibrated 3 (some .int), Cond.methodLink RX4 176 yX0_getTrimLag, Cond.instanceMethod yX0_getTrimLag, Cond.selects RX0 yX0_getTrimLag yX0_getTrimLag, Cond.code yX0_getTrimLag cX0_getTrimLag 1 (some .int), Cond.methodLink RX4 179 yX0_getTrimGain]
def wsL_law0_r25 : List Cond := [Cond.instanceMethod yX0_getTrimGain, Cond.selects RX0 yX0_getTrimGain yX0_getTrimGain, Cond.code yX0_getTrimGain cX0_getTrimGain 1 (some .int), Cond.methodLink RL 123 yX5_calibrated, Cond.instanceMethod yX5_calibrated, Cond.selects RX5 yX5_calibrated yX5_calibrated, Cond.code yX5_calibrated cX5_calibrated 3 (some .int), Cond.methodLink RL 124 yX4_tick, Cond.instanceMethod yX4_tick, Cond.selects RX4 yX4_tick yX4_tick, Cond.code yX4_tick cX4_tick 1 (some .int), Cond.methodLink RL 127 yX5_tick, Cond.instanceMethod yX5_tick, Cond.selects RX5 yX5_tick yX5_tick, Cond.code yX5_tick cX5_tick 1 (some .int)]
def wsL_law0 : List Cond := (wsL_law0_r1 ++ (wsL_law0_r2 ++ (wsL_law0_r3 ++ (wsL_law0_r4 ++ (wsL_law0_r5 ++ (wsL_law0_r6 ++ (wsL_law0_r7 ++ (wsL_law0_r8 ++ (wsL_law0_r9 ++ (wsL_law0_r10 ++ (wsL_law0_r11 ++ (wsL_law0_r12 ++ (wsL_law0_r13 ++ (wsL_law0_r14 ++ (wsL_law0_r15 ++ (wsL_law0_r16 ++ (wsL_law0_r17 ++ (wsL_law0_r18 ++ (wsL_law0_r19 ++ (wsL_law0_r20 ++ (wsL_law0_r21 ++ (wsL_law0_r22 ++ (wsL_law0_r23 ++ (wsL_law0_r24 ++ wsL_law0_r25)))))))))))))))))))))))) ++ wsX40 ++ wsX50 ++ wsX10 ++ wsX00 ++ wsX20 ++ wsX30 ++ ([] : List Cond)
def wsL_law : List Cond := wsL_law0 ++ (vx_atS RX4 49 "java/lang/IllegalArgumentException" ["java/lang/RuntimeException", "java/lang/Exception"]).filter goodWord ++ (vx_atS RX4 59 "java/lang/IllegalStateException" ["java/lang/RuntimeException", "java/lang/Exception"]).filter goodWord ++ (vx_atS RX4 75 "java/lang/IndexOutOfBoundsException" ["java/lang/RuntimeException", "java/lang/Exception"]).filter goodWord
end
section
set_option maxRecDepth 20000 in
theorem wsL_law_i1 : ∀ w ∈ wsL_law0_r1, w ∈ lw_tbl := fun w h => (goodIn_p wsL_law0_r1 [55, 58] (by decide +kernel) (by decide +kernel) w h).1
set_option maxRecDepth 20000 in
theorem wsL_law_i2 : ∀ w ∈ wsL_law0_r2, w ∈ lw_tbl := fun w h => (goodIn_p wsL_law0_r2 [67, 79, 85] (by decide +kernel) (by decide +kernel) w h).1
set_option maxRecDepth 20000 in
theorem wsL_law_i3 : ∀ w ∈ wsL_law0_r3, w ∈ lw_tbl := fun w h => (goodIn_p wsL_law0_r3 [136, 629] (by decide +kernel) (by decide +kernel) w h).1
set_option maxRecDepth 20000 in
theorem wsL_law_i4 : ∀ w ∈ wsL_law0_r4, w ∈ lw_tbl := fun w h => (goodIn_p wsL_law0_r4 [192, 195, 283] (by decide +kernel) (by decide +kernel) w h).1
set_option maxRecDepth 20000 in
theorem wsL_law_i5 : ∀ w ∈ wsL_law0_r5, w ∈ lw_tbl := fun w h => (goodIn_p wsL_law0_r5 [287, 703, 706, 710] (by decide +kernel) (by decide +kernel) w h).1
set_option maxRecDepth 20000 in
theorem wsL_law_i6 : ∀ w ∈ wsL_law0_r6, w ∈ lw_tbl := fun w h => (goodIn_p wsL_law0_r6 [699, 295, 299, 319] (by decide +kernel) (by decide +kernel) w h).1
set_option maxRecDepth 20000 in
theorem wsL_law_i7 : ∀ w ∈ wsL_law0_r7, w ∈ lw_tbl := fun w h => (goodIn_p wsL_law0_r7 [323, 714, 718, 330, 333, 340] (by decide +kernel) (by decide +kernel) w h).1
set_option maxRecDepth 20000 in
theorem wsL_law_i8 : ∀ w ∈ wsL_law0_r8, w ∈ lw_tbl := fun w h => (goodIn_p wsL_law0_r8 [722, 725, 179, 729] (by decide +kernel) (by decide +kernel) w h).1
set_option maxRecDepth 20000 in
theorem wsL_law_i9 : ∀ w ∈ wsL_law0_r9, w ∈ lw_tbl := fun w h => (goodIn_p wsL_law0_r9 [347, 353, 357, 733, 364] (by decide +kernel) (by decide +kernel) w h).1
set_option maxRecDepth 20000 in
theorem wsL_law_i10 : ∀ w ∈ wsL_law0_r10, w ∈ lw_tbl := fun w h => (goodIn_p wsL_law0_r10 [369, 373, 377, 382, 386] (by decide +kernel) (by decide +kernel) w h).1
set_option maxRecDepth 20000 in
theorem wsL_law_i11 : ∀ w ∈ wsL_law0_r11, w ∈ lw_tbl := fun w h => (goodIn_p wsL_law0_r11 [390, 393, 397, 401, 404, 408, 412] (by decide +kernel) (by decide +kernel) w h).1
set_option maxRecDepth 20000 in
theorem wsL_law_i12 : ∀ w ∈ wsL_law0_r12, w ∈ lw_tbl := fun w h => (goodIn_p wsL_law0_r12 [416, 419, 738, 742, 746] (by decide +kernel) (by decide +kernel) w h).1
set_option maxRecDepth 20000 in
theorem wsL_law_i13 : ∀ w ∈ wsL_law0_r13, w ∈ lw_tbl := fun w h => (goodIn_p wsL_law0_r13 [750, 754, 426, 760, 434] (by decide +kernel) (by decide +kernel) w h).1
set_option maxRecDepth 20000 in
theorem wsL_law_i14 : ∀ w ∈ wsL_law0_r14, w ∈ lw_tbl := fun w h => (goodIn_p wsL_law0_r14 [438, 443, 447, 450, 454] (by decide +kernel) (by decide +kernel) w h).1
set_option maxRecDepth 20000 in
theorem wsL_law_i15 : ∀ w ∈ wsL_law0_r15, w ∈ lw_tbl := fun w h => (goodIn_p wsL_law0_r15 [458, 462, 466, 470, 474, 479] (by decide +kernel) (by decide +kernel) w h).1
set_option maxRecDepth 20000 in
theorem wsL_law_i16 : ∀ w ∈ wsL_law0_r16, w ∈ lw_tbl := fun w h => (goodIn_p wsL_law0_r16 [484, 488, 491, 498, 501, 764] (by decide +kernel) (by decide +kernel) w h).1
set_option maxRecDepth 20000 in
theorem wsL_law_i17 : ∀ w ∈ wsL_law0_r17, w ∈ lw_tbl := fun w h => (goodIn_p wsL_law0_r17 [768, 772, 776, 780, 784, 788] (by decide +kernel) (by decide +kernel) w h).1
set_option maxRecDepth 20000 in
theorem wsL_law_i18 : ∀ w ∈ wsL_law0_r18, w ∈ lw_tbl := fun w h => (goodIn_p wsL_law0_r18 [508, 513, 794, 520] (by decide +kernel) (by decide +kernel) w h).1
set_option maxRecDepth 20000 in
theorem wsL_law_i19 : ∀ w ∈ wsL_law0_r19, w ∈ lw_tbl := fun w h => (goodIn_p wsL_law0_r19 [525, 528, 532, 536, 540, 798] (by decide +kernel) (by decide +kernel) w h).1
set_option maxRecDepth 20000 in
theorem wsL_law_i20 : ∀ w ∈ wsL_law0_r20, w ∈ lw_tbl := fun w h => (goodIn_p wsL_law0_r20 [802, 806, 547, 551, 810] (by decide +kernel) (by decide +kernel) w h).1
set_option maxRecDepth 20000 in
theorem wsL_law_i21 : ∀ w ∈ wsL_law0_r21, w ∈ lw_tbl := fun w h => (goodIn_p wsL_law0_r21 [814, 558, 562, 566, 818] (by decide +kernel) (by decide +kernel) w h).1
set_option maxRecDepth 20000 in
theorem wsL_law_i22 : ∀ w ∈ wsL_law0_r22, w ∈ lw_tbl := fun w h => (goodIn_p wsL_law0_r22 [573, 578, 582, 586, 822] (by decide +kernel) (by decide +kernel) w h).1
set_option maxRecDepth 20000 in
theorem wsL_law_i23 : ∀ w ∈ wsL_law0_r23, w ∈ lw_tbl := fun w h => (goodIn_p wsL_law0_r23 [826, 830, 594, 599, 603] (by decide +kernel) (by decide +kernel) w h).1
set_option maxRecDepth 20000 in
theorem wsL_law_i24 : ∀ w ∈ wsL_law0_r24, w ∈ lw_tbl := fun w h => (goodIn_p wsL_law0_r24 [607, 835, 839, 616, 620] (by decide +kernel) (by decide +kernel) w h).1
set_option maxRecDepth 20000 in
theorem wsL_law_i25 : ∀ w ∈ wsL_law0_r25, w ∈ lw_tbl := fun w h => (goodIn_p wsL_law0_r25 [624, 843, 183, 847] (by decide +kernel) (by decide +kernel) w h).1
theorem wsL_law_awsX40 : ∀ w ∈ wsX40, w ∈ lw_tbl := by decide +kernel
theorem wsL_law_awsX50 : ∀ w ∈ wsX50, w ∈ lw_tbl := by decide +kernel
theorem wsL_law_awsX10 : ∀ w ∈ wsX10, w ∈ lw_tbl := by decide +kernel
theorem wsL_law_awsX00 : ∀ w ∈ wsX00, w ∈ lw_tbl := by decide +kernel
theorem wsL_law_awsX20 : ∀ w ∈ wsX20, w ∈ lw_tbl := by decide +kernel
theorem wsL_law_awsX30 : ∀ w ∈ wsX30, w ∈ lw_tbl := by decide +kernel
theorem wsL_law_in0 : ∀ w ∈ wsL_law0, w ∈ lw_tbl := fun w h => (List.mem_append.mp h).elim (fun h => (List.mem_append.mp h).elim (fun h => (List.mem_append.mp h).elim (fun h => (List.mem_append.mp h).elim (fun h => (List.mem_append.mp h).elim (fun h => (List.mem_append.mp h).elim (fun h => (List.mem_append.mp h).elim (fun h => (List.mem_append.mp h).elim (fun h => wsL_law_i1 w h) (fun h => (List.mem_append.mp h).elim (fun h => wsL_law_i2 w h) (fun h => (List.mem_append.mp h).elim (fun h => wsL_law_i3 w h) (fun h => (List.mem_append.mp h).elim (fun h => wsL_law_i4 w h) (fun h => (List.mem_append.mp h).elim (fun h => wsL_law_i5 w h) (fun h => (List.mem_append.mp h).elim (fun h => wsL_law_i6 w h) (fun h => (List.mem_append.mp h).elim (fun h => wsL_law_i7 w h) (fun h => (List.mem_append.mp h).elim (fun h => wsL_law_i8 w h) (fun h => (List.mem_append.mp h).elim (fun h => wsL_law_i9 w h) (fun h => (List.mem_append.mp h).elim (fun h => wsL_law_i10 w h) (fun h => (List.mem_append.mp h).elim (fun h => wsL_law_i11 w h) (fun h => (List.mem_append.mp h).elim (fun h => wsL_law_i12 w h) (fun h => (List.mem_append.mp h).elim (fun h => wsL_law_i13 w h) (fun h => (List.mem_append.mp h).elim (fun h => wsL_law_i14 w h) (fun h => (List.mem_append.mp h).elim (fun h => wsL_law_i15 w h) (fun h => (List.mem_append.mp h).elim (fun h => wsL_law_i16 w h) (fun h => (List.mem_append.mp h).elim (fun h => wsL_law_i17 w h) (fun h => (List.mem_append.mp h).elim (fun h => wsL_law_i18 w h) (fun h => (List.mem_append.mp h).elim (fun h => wsL_law_i19 w h) (fun h => (List.mem_append.mp h).elim (fun h => wsL_law_i20 w h) (fun h => (List.mem_append.mp h).elim (fun h => wsL_law_i21 w h) (fun h => (List.mem_append.mp h).elim (fun h => wsL_law_i22 w h) (fun h => (List.mem_append.mp h).elim (fun h => wsL_law_i23 w h) (fun h => (List.mem_append.mp h).elim (fun h => wsL_law_i24 w h) (fun h => wsL_law_i25 w h))))))))))))))))))))))))) (fun h => wsL_law_awsX40 w h)) (fun h => wsL_law_awsX50 w h)) (fun h => wsL_law_awsX10 w h)) (fun h => wsL_law_awsX00 w h)) (fun h => wsL_law_awsX20 w h)) (fun h => wsL_law_awsX30 w h)) (fun h => absurd h List.not_mem_nil)
theorem wsL_law_x0 : ∀ w ∈ (vx_atS RX4 49 "java/lang/IllegalArgumentException" ["java/lang/RuntimeException", "java/lang/Exception"]).filter goodWord, w ∈ lw_tbl := by decide +kernel
theorem wsL_law_x1 : ∀ w ∈ (vx_atS RX4 59 "java/lang/IllegalStateException" ["java/lang/RuntimeException", "java/lang/Exception"]).filter goodWord, w ∈ lw_tbl := by decide +kernel
theorem wsL_law_x2 : ∀ w ∈ (vx_atS RX4 75 "java/lang/IndexOutOfBoundsException" ["java/lang/RuntimeException", "java/lang/Exception"]).filter goodWord, w ∈ lw_tbl := by decide +kernel
theorem wsL_law_in : ∀ w ∈ wsL_law, w ∈ lw_tbl := fun w h => (List.mem_append.mp h).elim (fun h => (List.mem_append.mp h).elim (fun h => (List.mem_append.mp h).elim (fun h => wsL_law_in0 w h) (fun h => wsL_law_x0 w h)) (fun h => wsL_law_x1 w h)) (fun h => wsL_law_x2 w h)
theorem inlX0 : ∀ w ∈ wsX00, w ∈ wsL_law := fun _ h => List.mem_append_left _ (List.mem_append_left _ (List.mem_append_left _ (List.mem_append_left _ (List.mem_append_left _ (List.mem_append_left _ (List.mem_append_right _ h))))))
theorem inX0 : ∀ w ∈ wsX00, w ∈ lw_tbl := fun w h => wsL_law_in w (inlX0 w h)
theorem inlX1 : ∀ w ∈ wsX10, w ∈ wsL_law := fun _ h => List.mem_append_left _ (List.mem_append_left _ (List.mem_append_left _ (List.mem_append_left _ (List.mem_append_left _ (List.mem_append_left _ (List.mem_append_left _ (List.mem_append_right _ h)))))))
theorem inX1 : ∀ w ∈ wsX10, w ∈ lw_tbl := fun w h => wsL_law_in w (inlX1 w h)
theorem inlX2 : ∀ w ∈ wsX20, w ∈ wsL_law := fun _ h => List.mem_append_left _ (List.mem_append_left _ (List.mem_append_left _ (List.mem_append_left _ (List.mem_append_left _ (List.mem_append_right _ h)))))
theorem inX2 : ∀ w ∈ wsX20, w ∈ lw_tbl := fun w h => wsL_law_in w (inlX2 w h)
theorem inlX3 : ∀ w ∈ wsX30, w ∈ wsL_law := fun _ h => List.mem_append_left _ (List.mem_append_left _ (List.mem_append_left _ (List.mem_append_left _ (List.mem_append_right _ h))))
theorem inX3 : ∀ w ∈ wsX30, w ∈ lw_tbl := fun w h => wsL_law_in w (inlX3 w h)
theorem inlX4 : ∀ w ∈ wsX40, w ∈ wsL_law := fun _ h => List.mem_append_left _ (List.mem_append_left _ (List.mem_append_left _ (List.mem_append_left _ (List.mem_append_left _ (List.mem_append_left _ (List.mem_append_left _ (List.mem_append_left _ (List.mem_append_left _ (List.mem_append_right _ h)))))))))
theorem inX4 : ∀ w ∈ wsX40, w ∈ lw_tbl := fun w h => wsL_law_in w (inlX4 w h)
theorem inlX5 : ∀ w ∈ wsX50, w ∈ wsL_law := fun _ h => List.mem_append_left _ (List.mem_append_left _ (List.mem_append_left _ (List.mem_append_left _ (List.mem_append_left _ (List.mem_append_left _ (List.mem_append_left _ (List.mem_append_left _ (List.mem_append_right _ h))))))))
theorem inX5 : ∀ w ∈ wsX50, w ∈ lw_tbl := fun w h => wsL_law_in w (inlX5 w h)
theorem inJx145de : ∀ w ∈ wsJx145de0, w ∈ lw_tbl := by decide +kernel
theorem inJ9 : ∀ w ∈ wsJ90, w ∈ lw_tbl := by decide +kernel
theorem inJ0 : ∀ w ∈ wsJ00, w ∈ lw_tbl := by decide +kernel
theorem inJ7 : ∀ w ∈ wsJ70, w ∈ lw_tbl := by decide +kernel
abbrev vwCl : List vw_C := [(RX0, TX0, 11), (RX1, TX1, 2), (RX2, TX2, 3), (RX3, TX3, 3), (RX4, TX4, 9), (RX5, TX5, 21)]
end
section
set_option maxRecDepth 20000 in
theorem ggX0_init_X3_init : GoodIn wsX0_init wsX3_init := goodIn_r _ [13, 14, 2, 3, 15, 16, 17, 18, 19] (by decide +kernel) (by decide +kernel)
set_option maxRecDepth 20000 in
theorem gX0_init_X3_init_n11 : GoodIn wsX0_init (wsX3_init) := ggX0_init_X3_init
set_option maxRecDepth 20000 in
theorem ggX0_putUp_X3_beginAt : GoodIn wsX0_putUp wsX3_beginAt := goodIn_r _ [11, 12, 13, 25, 26, 27] (by decide +kernel) (by decide +kernel)
set_option maxRecDepth 20000 in
theorem gX0_putUp_X3_beginAt : GoodIn wsX0_putUp (wsV RX0 45 RX3 yX3_beginAt wsX3_beginAt) := goodIn_app (goodIn_of _ (by decide +kernel)) ggX0_putUp_X3_beginAt
set_option maxRecDepth 20000 in
theorem ggX0_delayFor_J9_floorDiv_7cf53 : GoodIn wsX0_delayFor wsJ9_floorDiv_7cf53 := goodIn_r _ [5] (by decide +kernel) (by decide +kernel)
set_option maxRecDepth 20000 in
theorem gX0_delayFor_J9_floorDiv_7cf53 : GoodIn wsX0_delayFor (va_wsS RX0 52 yJ9_floorDiv_7cf53 wsJ9_floorDiv_7cf53) := goodIn_app (goodIn_of _ (by decide +kernel)) ggX0_delayFor_J9_floorDiv_7cf53
set_option maxRecDepth 20000 in
theorem ggX0_heardOf_J9_floorDiv_7cf53 : GoodIn wsX0_heardOf wsJ9_floorDiv_7cf53 := goodIn_r _ [5] (by decide +kernel) (by decide +kernel)
set_option maxRecDepth 20000 in
theorem gX0_heardOf_J9_floorDiv_7cf53 : GoodIn wsX0_heardOf (va_wsS RX0 52 yJ9_floorDiv_7cf53 wsJ9_floorDiv_7cf53) := goodIn_app (goodIn_of _ (by decide +kernel)) ggX0_heardOf_J9_floorDiv_7cf53
set_option maxRecDepth 20000 in
theorem ggX0_keep_X3_add : GoodIn wsX0_keep wsX3_add := goodIn_r _ [6, 7, 8, 9, 10, 5, 11, 23, 24, 25] (by decide +kernel) (by decide +kernel)
set_option maxRecDepth 20000 in
theorem gX0_keep_X3_add : GoodIn wsX0_keep (wsV RX0 58 RX3 yX3_add wsX3_add) := goodIn_app (goodIn_of _ (by decide +kernel)) ggX0_keep_X3_add
set_option maxRecDepth 20000 in
theorem ggX0_keptAt_X3_at : GoodIn wsX0_keptAt wsX3_at := goodIn_r _ [6, 7, 8, 9, 10, 5, 11, 12, 13, 14, 15, 16, 28, 29, 30] (by decide +kernel) (by decide +kernel)
set_option maxRecDepth 20000 in
theorem gX0_keptAt_X3_at : GoodIn wsX0_keptAt (wsV RX0 61 RX3 yX3_at wsX3_at) := goodIn_app (goodIn_of _ (by decide +kernel)) ggX0_keptAt_X3_at
set_option maxRecDepth 20000 in
theorem ggX0_layOut_X3_at : GoodIn wsX0_layOut wsX3_at := goodIn_r _ [8, 9, 10, 11, 12, 7, 13, 14, 15, 16, 17, 18, 42, 43, 44] (by decide +kernel) (by decide +kernel)
set_option maxRecDepth 20000 in
theorem gX0_layOut_X3_at : GoodIn wsX0_layOut (wsV RX0 61 RX3 yX3_at wsX3_at) := goodIn_app (goodIn_of _ (by decide +kernel)) ggX0_layOut_X3_at
set_option maxRecDepth 20000 in
theorem ggX0_layOut_X0_turnAll : GoodIn wsX0_layOut wsX0_turnAll := goodIn_r _ [23, 1, 24, 25, 2, 26, 27, 28, 29, 30, 31, 32, 33, 34, 35, 36, 37, 38, 39, 40, 41] (by decide +kernel) (by decide +kernel)
set_option maxRecDepth 20000 in
theorem gX0_layOut_X0_turnAll : GoodIn wsX0_layOut (wsV RX0 69 RX0 yX0_turnAll wsX0_turnAll) := goodIn_app (goodIn_of _ (by decide +kernel)) ggX0_layOut_X0_turnAll
set_option maxRecDepth 20000 in
theorem ggX0_turnAll_J9_floorDiv_f86c9 : GoodIn wsX0_turnAll wsJ9_floorDiv_f86c9 := goodIn_r _ [9] (by decide +kernel) (by decide +kernel)
set_option maxRecDepth 20000 in
theorem gX0_turnAll_J9_floorDiv_f86c9 : GoodIn wsX0_turnAll (va_wsS RX0 74 yJ9_floorDiv_f86c9 wsJ9_floorDiv_f86c9) := goodIn_app (goodIn_of _ (by decide +kernel)) ggX0_turnAll_J9_floorDiv_f86c9
set_option maxRecDepth 20000 in
theorem ggX0_firstTold_X0_delayFor : GoodIn wsX0_firstTold wsX0_delayFor := goodIn_r _ [6, 7, 8, 9, 10, 11, 12, 13, 14, 15, 16, 17, 18, 19, 20, 21, 22] (by decide +kernel) (by decide +kernel)
set_option maxRecDepth 20000 in
theorem gX0_firstTold_X0_delayFor : GoodIn wsX0_firstTold (wsV RX0 77 RX0 yX0_delayFor wsX0_delayFor) := goodIn_app (goodIn_of _ (by decide +kernel)) ggX0_firstTold_X0_delayFor
set_option maxRecDepth 20000 in
theorem ggX0_tellTo_X0_firstTold : GoodIn wsX0_tellTo wsX0_firstTold := goodIn_r _ [6, 7, 8, 9, 10, 5, 11, 12, 13, 14, 15, 16, 22, 23, 24, 25, 26, 27, 28, 29, 30, 31, 32] (by decide +kernel) (by decide +kernel)
set_option maxRecDepth 20000 in
theorem gX0_tellTo_X0_firstTold : GoodIn wsX0_tellTo (wsV RX0 80 RX0 yX0_firstTold wsX0_firstTold) := goodIn_app (goodIn_of _ (by decide +kernel)) ggX0_tellTo_X0_firstTold
set_option maxRecDepth 20000 in
theorem ggX0_tellTo_X0_toldAt : GoodIn wsX0_tellTo wsX0_toldAt := goodIn_r _ [20, 21, 22, 23, 24, 25, 26, 27, 28, 29, 30, 31, 32] (by decide +kernel) (by decide +kernel)
set_option maxRecDepth 20000 in
theorem gX0_tellTo_X0_toldAt : GoodIn wsX0_tellTo (wsV RX0 83 RX0 yX0_toldAt wsX0_toldAt) := goodIn_app (goodIn_of _ (by decide +kernel)) ggX0_tellTo_X0_toldAt
set_option maxRecDepth 20000 in
theorem ggX0_toldWith_X0_firstTold : GoodIn wsX0_toldWith wsX0_firstTold := goodIn_r _ [6, 7, 8, 9, 10, 5, 11, 12, 13, 14, 15, 16, 22, 23, 24, 25, 26, 27, 28, 29, 30, 31, 32] (by decide +kernel) (by decide +kernel)
set_option maxRecDepth 20000 in
theorem gX0_toldWith_X0_firstTold : GoodIn wsX0_toldWith (wsV RX0 80 RX0 yX0_firstTold wsX0_firstTold) := goodIn_app (goodIn_of _ (by decide +kernel)) ggX0_toldWith_X0_firstTold
set_option maxRecDepth 20000 in
theorem ggX0_toldWith_X0_toldAt : GoodIn wsX0_toldWith wsX0_toldAt := goodIn_r _ [20, 21, 22, 23, 24, 25, 26, 27, 28, 29, 30, 31, 32] (by decide +kernel) (by decide +kernel)
set_option maxRecDepth 20000 in
theorem gX0_toldWith_X0_toldAt : GoodIn wsX0_toldWith (wsV RX0 83 RX0 yX0_toldAt wsX0_toldAt) := goodIn_app (goodIn_of _ (by decide +kernel)) ggX0_toldWith_X0_toldAt
set_option maxRecDepth 20000 in
theorem ggX0_takeAway_X0_firstTold : GoodIn wsX0_takeAway wsX0_firstTold := goodIn_r _ [8, 9, 10, 11, 12, 7, 13, 14, 15, 16, 17, 18, 26, 27, 28, 29, 30, 31, 32, 33, 34, 35, 36] (by decide +kernel) (by decide +kernel)
set_option maxRecDepth 20000 in
theorem gX0_takeAway_X0_firstTold : GoodIn wsX0_takeAway (wsV RX0 80 RX0 yX0_firstTold wsX0_firstTold) := goodIn_app (goodIn_of _ (by decide +kernel)) ggX0_takeAway_X0_firstTold
set_option maxRecDepth 20000 in
theorem ggX0_takeAway_X3_keeps : GoodIn wsX0_takeAway wsX3_keeps := goodIn_r _ [23, 24, 25, 37, 38, 39] (by decide +kernel) (by decide +kernel)
set_option maxRecDepth 20000 in
theorem gX0_takeAway_X3_keeps : GoodIn wsX0_takeAway (wsV RX0 87 RX3 yX3_keeps wsX3_keeps) := goodIn_app (goodIn_of _ (by decide +kernel)) ggX0_takeAway_X3_keeps
set_option maxRecDepth 20000 in
theorem ggX0_agreement_X0_delayFor : GoodIn wsX0_agreement wsX0_delayFor := goodIn_r _ [5, 6, 7, 8, 9, 10, 16, 17, 18, 19, 20, 21, 22, 23, 24, 25, 26] (by decide +kernel) (by decide +kernel)
set_option maxRecDepth 20000 in
theorem gX0_agreement_X0_delayFor : GoodIn wsX0_agreement (wsV RX0 77 RX0 yX0_delayFor wsX0_delayFor) := goodIn_app (goodIn_of _ (by decide +kernel)) ggX0_agreement_X0_delayFor
set_option maxRecDepth 20000 in
theorem ggX0_agreement_X0_laidAt : GoodIn wsX0_agreement wsX0_laidAt := goodIn_r _ [14, 15, 16, 17, 18, 19, 20, 21, 22, 23, 24, 25, 26] (by decide +kernel) (by decide +kernel)
set_option maxRecDepth 20000 in
theorem gX0_agreement_X0_laidAt : GoodIn wsX0_agreement (wsV RX0 91 RX0 yX0_laidAt wsX0_laidAt) := goodIn_app (goodIn_of _ (by decide +kernel)) ggX0_agreement_X0_laidAt
set_option maxRecDepth 20000 in
theorem ggX2_waveAt_J9_floorMod_7cf53 : GoodIn wsX2_waveAt wsJ9_floorMod_7cf53 := goodIn_r _ [6] (by decide +kernel) (by decide +kernel)
set_option maxRecDepth 20000 in
theorem gX2_waveAt_J9_floorMod_7cf53 : GoodIn wsX2_waveAt (va_wsS RX2 19 yJ9_floorMod_7cf53 wsJ9_floorMod_7cf53) := goodIn_app (goodIn_of _ (by decide +kernel)) ggX2_waveAt_J9_floorMod_7cf53
set_option maxRecDepth 20000 in
theorem ggX3_add_X3_slotOf : GoodIn wsX3_add wsX3_slotOf := goodIn_r _ [6] (by decide +kernel) (by decide +kernel)
set_option maxRecDepth 20000 in
theorem gX3_add_X3_slotOf : GoodIn wsX3_add (va_wsS RX3 22 yX3_slotOf wsX3_slotOf) := goodIn_app (goodIn_of _ (by decide +kernel)) ggX3_add_X3_slotOf
set_option maxRecDepth 20000 in
theorem ggX3_at_X3_slotOf : GoodIn wsX3_at wsX3_slotOf := goodIn_r _ [6] (by decide +kernel) (by decide +kernel)
set_option maxRecDepth 20000 in
theorem gX3_at_X3_slotOf : GoodIn wsX3_at (va_wsS RX3 22 yX3_slotOf wsX3_slotOf) := goodIn_app (goodIn_of _ (by decide +kernel)) ggX3_at_X3_slotOf
set_option maxRecDepth 20000 in
theorem ggX3_at_X3_keeps : GoodIn wsX3_at wsX3_keeps := goodIn_r _ [10, 1, 11, 12, 13, 14] (by decide +kernel) (by decide +kernel)
set_option maxRecDepth 20000 in
theorem gX3_at_X3_keeps : GoodIn wsX3_at (wsV RX3 26 RX3 yX3_keeps wsX3_keeps) := goodIn_app (goodIn_of _ (by decide +kernel)) ggX3_at_X3_keeps
set_option maxRecDepth 20000 in
theorem ggX4_init_X1_init : GoodIn wsX4_init wsX1_init := goodIn_r _ [21, 22, 2, 3, 23, 52, 53] (by decide +kernel) (by decide +kernel)
set_option maxRecDepth 20000 in
theorem gX4_init_X1_init_n23 : GoodIn wsX4_init (wsX1_init) := ggX4_init_X1_init
set_option maxRecDepth 20000 in
theorem ggX4_init_X0_init : GoodIn wsX4_init wsX0_init := goodIn_r _ [25, 26, 2, 3, 27, 28, 29, 30, 12, 31, 32, 33, 34, 35, 36, 37, 38, 68, 69, 70, 54, 55, 56, 57, 58, 59, 60, 61, 62, 63, 64] (by decide +kernel) (by decide +kernel)
set_option maxRecDepth 20000 in
theorem gX4_init_X0_init_n35 : GoodIn wsX4_init (wsX0_init) := ggX4_init_X0_init
set_option maxRecDepth 20000 in
theorem ggX4_init_X2_init : GoodIn wsX4_init wsX2_init := goodIn_r _ [40, 41, 2, 3, 42, 65, 66, 67] (by decide +kernel) (by decide +kernel)
set_option maxRecDepth 20000 in
theorem gX4_init_X2_init_n36 : GoodIn wsX4_init (wsX2_init) := ggX4_init_X2_init
set_option maxRecDepth 20000 in
theorem ggX4_element_X4_isWithin : GoodIn wsX4_element wsX4_isWithin := goodIn_r _ [11] (by decide +kernel) (by decide +kernel)
set_option maxRecDepth 20000 in
theorem gX4_element_X4_isWithin : GoodIn wsX4_element (va_wsS RX4 41 yX4_isWithin wsX4_isWithin) := goodIn_app (goodIn_of _ (by decide +kernel)) ggX4_element_X4_isWithin
set_option maxRecDepth 20000 in
theorem ggX4_element_X0_putUp : GoodIn wsX4_element wsX0_putUp := goodIn_r _ [16, 17, 18, 19, 20, 21, 22, 23, 24, 25, 26, 27, 28, 29, 39, 40, 41, 42, 43, 44, 45, 46, 47, 48, 49, 50, 51, 52] (by decide +kernel) (by decide +kernel)
set_option maxRecDepth 20000 in
theorem gX4_element_X0_putUp : GoodIn wsX4_element (wsV RX4 63 RX0 yX0_putUp wsX0_putUp) := goodIn_app (goodIn_of _ (by decide +kernel)) ggX4_element_X0_putUp
set_option maxRecDepth 20000 in
theorem ggX4_alive_X4_isElement : GoodIn wsX4_alive wsX4_isElement := goodIn_r _ [8, 9, 3, 20, 21, 22, 23, 24, 25, 26, 27, 28] (by decide +kernel) (by decide +kernel)
set_option maxRecDepth 20000 in
theorem gX4_alive_X4_isElement : GoodIn wsX4_alive (wsV RX4 67 RX4 yX4_isElement wsX4_isElement) := goodIn_app (goodIn_of _ (by decide +kernel)) ggX4_alive_X4_isElement
set_option maxRecDepth 20000 in
theorem ggX4_alive_X0_isLiving : GoodIn wsX4_alive wsX0_isLiving := goodIn_r _ [14, 15, 29, 30, 31, 32, 33, 34, 35, 36, 37, 38, 39] (by decide +kernel) (by decide +kernel)
set_option maxRecDepth 20000 in
theorem gX4_alive_X0_isLiving : GoodIn wsX4_alive (wsV RX4 76 RX0 yX0_isLiving wsX0_isLiving) := goodIn_app (goodIn_of _ (by decide +kernel)) ggX4_alive_X0_isLiving
set_option maxRecDepth 20000 in
theorem ggX4_alive_X0_setLiving : GoodIn wsX4_alive wsX0_setLiving := goodIn_r _ [19, 15, 29, 30, 31, 32, 33, 34, 35, 36, 37, 38, 39] (by decide +kernel) (by decide +kernel)
set_option maxRecDepth 20000 in
theorem gX4_alive_X0_setLiving : GoodIn wsX4_alive (wsV RX4 80 RX0 yX0_setLiving wsX0_setLiving) := goodIn_app (goodIn_of _ (by decide +kernel)) ggX4_alive_X0_setLiving
set_option maxRecDepth 20000 in
theorem ggX4_source_X4_isBearing : GoodIn wsX4_source wsX4_isBearing := goodIn_r _ [12, 13, 14, 11, 15] (by decide +kernel) (by decide +kernel)
set_option maxRecDepth 20000 in
theorem gX4_source_X4_isBearing : GoodIn wsX4_source (va_wsS RX4 84 yX4_isBearing wsX4_isBearing) := goodIn_app (goodIn_of _ (by decide +kernel)) ggX4_source_X4_isBearing
set_option maxRecDepth 20000 in
theorem ggX4_source_X4_isWithin : GoodIn wsX4_source wsX4_isWithin := goodIn_r _ [15] (by decide +kernel) (by decide +kernel)
set_option maxRecDepth 20000 in
theorem gX4_source_X4_isWithin : GoodIn wsX4_source (va_wsS RX4 41 yX4_isWithin wsX4_isWithin) := goodIn_app (goodIn_of _ (by decide +kernel)) ggX4_source_X4_isWithin
set_option maxRecDepth 20000 in
theorem ggX4_source_X2_setUp : GoodIn wsX4_source wsX2_setUp := goodIn_r _ [20, 21, 22, 23, 33, 34, 35] (by decide +kernel) (by decide +kernel)
set_option maxRecDepth 20000 in
theorem gX4_source_X2_setUp : GoodIn wsX4_source (wsV RX4 96 RX2 yX2_setUp wsX2_setUp) := goodIn_app (goodIn_of _ (by decide +kernel)) ggX4_source_X2_setUp
set_option maxRecDepth 20000 in
theorem ggX4_noise_X4_isWithin : GoodIn wsX4_noise wsX4_isWithin := goodIn_r _ [8] (by decide +kernel) (by decide +kernel)
set_option maxRecDepth 20000 in
theorem gX4_noise_X4_isWithin : GoodIn wsX4_noise (va_wsS RX4 41 yX4_isWithin wsX4_isWithin) := goodIn_app (goodIn_of _ (by decide +kernel)) ggX4_noise_X4_isWithin
set_option maxRecDepth 20000 in
theorem ggX4_noise_X1_getLoudness : GoodIn wsX4_noise wsX1_getLoudness := goodIn_r _ [13, 14, 29, 30] (by decide +kernel) (by decide +kernel)
set_option maxRecDepth 20000 in
theorem gX4_noise_X1_getLoudness : GoodIn wsX4_noise (wsV RX4 103 RX1 yX1_getLoudness wsX1_getLoudness) := goodIn_app (goodIn_of _ (by decide +kernel)) ggX4_noise_X1_getLoudness
set_option maxRecDepth 20000 in
theorem ggX4_noise_X1_set : GoodIn wsX4_noise wsX1_set := goodIn_r _ [18, 14, 19, 29, 30] (by decide +kernel) (by decide +kernel)
set_option maxRecDepth 20000 in
theorem gX4_noise_X1_set : GoodIn wsX4_noise (wsV RX4 107 RX1 yX1_set wsX1_set) := goodIn_app (goodIn_of _ (by decide +kernel)) ggX4_noise_X1_set
set_option maxRecDepth 20000 in
theorem ggX4_hear_X4_isWithin : GoodIn wsX4_hear wsX4_isWithin := goodIn_r _ [7] (by decide +kernel) (by decide +kernel)
set_option maxRecDepth 20000 in
theorem gX4_hear_X4_isWithin : GoodIn wsX4_hear (va_wsS RX4 41 yX4_isWithin wsX4_isWithin) := goodIn_app (goodIn_of _ (by decide +kernel)) ggX4_hear_X4_isWithin
set_option maxRecDepth 20000 in
theorem ggX4_hear_X4_hearOneTick : GoodIn wsX4_hear wsX4_hearOneTick := goodIn_r _ [11, 12, 13, 3, 14, 15, 16, 17, 18, 19, 20, 21, 22, 23, 24, 25, 26, 27, 28, 29, 30, 31, 32, 33, 34, 35, 6, 36, 37, 38, 39, 40, 41, 42, 43, 44, 45, 46, 47, 48, 49, 50, 51, 52, 53, 54, 55, 56, 57, 58, 59, 60, 61, 62, 63, 64, 65, 66, 67, 68, 69, 70, 71, 72, 73, 74, 75, 76, 77, 78, 79, 80, 81, 82, 83, 84, 85, 86, 87, 88, 89, 90, 91, 92, 93, 94, 95, 96, 97, 98, 99, 100, 101, 102, 103, 104, 105, 106, 107, 108, 109, 110, 111, 112, 113, 114, 115] (by decide +kernel) (by decide +kernel)
set_option maxRecDepth 20000 in
theorem gX4_hear_X4_hearOneTick : GoodIn wsX4_hear (wsV RX4 113 RX4 yX4_hearOneTick wsX4_hearOneTick) := goodIn_app (goodIn_of _ (by decide +kernel)) ggX4_hear_X4_hearOneTick
set_option maxRecDepth 20000 in
theorem ggX4_window_X4_isWithin : GoodIn wsX4_window wsX4_isWithin := goodIn_r _ [7] (by decide +kernel) (by decide +kernel)
set_option maxRecDepth 20000 in
theorem gX4_window_X4_isWithin : GoodIn wsX4_window (va_wsS RX4 41 yX4_isWithin wsX4_isWithin) := goodIn_app (goodIn_of _ (by decide +kernel)) ggX4_window_X4_isWithin
set_option maxRecDepth 20000 in
theorem ggX4_calibrate_X4_isBearing : GoodIn wsX4_calibrate wsX4_isBearing := goodIn_r _ [8, 9, 10, 7, 11] (by decide +kernel) (by decide +kernel)
set_option maxRecDepth 20000 in
theorem gX4_calibrate_X4_isBearing : GoodIn wsX4_calibrate (va_wsS RX4 84 yX4_isBearing wsX4_isBearing) := goodIn_app (goodIn_of _ (by decide +kernel)) ggX4_calibrate_X4_isBearing
set_option maxRecDepth 20000 in
theorem ggX4_calibrate_X4_lowestLiving : GoodIn wsX4_calibrate wsX4_lowestLiving := goodIn_r _ [15, 16, 17, 18, 19, 20, 21, 22, 107, 108, 109, 110, 111, 112, 113, 114, 115, 116, 117, 118, 119, 120, 121, 122, 123, 124, 125, 126] (by decide +kernel) (by decide +kernel)
set_option maxRecDepth 20000 in
theorem gX4_calibrate_X4_lowestLiving : GoodIn wsX4_calibrate (wsV RX4 118 RX4 yX4_lowestLiving wsX4_lowestLiving) := goodIn_app (goodIn_of _ (by decide +kernel)) ggX4_calibrate_X4_lowestLiving
set_option maxRecDepth 20000 in
theorem ggX4_calibrate_X4_layAll : GoodIn wsX4_calibrate wsX4_layAll := goodIn_r _ [26, 16, 17, 18, 19, 20, 21, 22, 27, 28, 29, 7, 30, 31, 32, 33, 34, 35, 36, 37, 38, 39, 40, 41, 42, 43, 44, 45, 46, 47, 48, 49, 50, 51, 52, 53, 54, 55, 56, 57, 58, 59, 60, 61, 62, 63, 64, 65, 66, 67, 68, 107, 108, 109, 110, 111, 112, 113, 114, 115, 116, 117, 118, 119, 120, 121, 122, 123, 124, 125, 126, 127, 128, 129] (by decide +kernel) (by decide +kernel)
set_option maxRecDepth 20000 in
theorem gX4_calibrate_X4_layAll : GoodIn wsX4_calibrate (wsV RX4 124 RX4 yX4_layAll wsX4_layAll) := goodIn_app (goodIn_of _ (by decide +kernel)) ggX4_calibrate_X4_layAll
set_option maxRecDepth 20000 in
theorem ggX4_calibrate_X0_agreement : GoodIn wsX4_calibrate wsX0_agreement := goodIn_r _ [72, 73, 74, 75, 20, 76, 77, 78, 79, 67, 80, 81, 82, 83, 84, 41, 116, 117, 118, 119, 120, 121, 122, 123, 124, 125, 126] (by decide +kernel) (by decide +kernel)
set_option maxRecDepth 20000 in
theorem gX4_calibrate_X0_agreement : GoodIn wsX4_calibrate (wsV RX4 128 RX0 yX0_agreement wsX0_agreement) := goodIn_app (goodIn_of _ (by decide +kernel)) ggX4_calibrate_X0_agreement
set_option maxRecDepth 20000 in
theorem ggX4_calibrate_X4_holdTo : GoodIn wsX4_calibrate wsX4_holdTo := goodIn_r _ [88, 16, 89, 90, 91, 20, 92, 62, 93, 17, 18, 19, 21, 22, 94, 95, 7, 96, 97, 98, 99, 100, 101, 34, 102, 103, 104, 105, 69, 70, 71, 72, 73, 74, 75, 76, 77, 78, 79, 67, 80, 81, 82, 83, 84, 41, 106, 66, 68, 107, 108, 109, 110, 111, 112, 113, 114, 115, 116, 117, 118, 119, 120, 121, 122, 123, 124, 125, 126] (by decide +kernel) (by decide +kernel)
set_option maxRecDepth 20000 in
theorem gX4_calibrate_X4_holdTo : GoodIn wsX4_calibrate (wsV RX4 134 RX4 yX4_holdTo wsX4_holdTo) := goodIn_app (goodIn_of _ (by decide +kernel)) ggX4_calibrate_X4_holdTo
set_option maxRecDepth 20000 in
theorem ggX4_sample_X4_isElement : GoodIn wsX4_sample wsX4_isElement := goodIn_r _ [8, 9, 3, 34, 35, 36, 37, 38, 39, 40, 41, 42] (by decide +kernel) (by decide +kernel)
set_option maxRecDepth 20000 in
theorem gX4_sample_X4_isElement : GoodIn wsX4_sample (wsV RX4 67 RX4 yX4_isElement wsX4_isElement) := goodIn_app (goodIn_of _ (by decide +kernel)) ggX4_sample_X4_isElement
set_option maxRecDepth 20000 in
theorem ggX4_sample_X4_isWithin : GoodIn wsX4_sample wsX4_isWithin := goodIn_r _ [12] (by decide +kernel) (by decide +kernel)
set_option maxRecDepth 20000 in
theorem gX4_sample_X4_isWithin : GoodIn wsX4_sample (va_wsS RX4 41 yX4_isWithin wsX4_isWithin) := goodIn_app (goodIn_of _ (by decide +kernel)) ggX4_sample_X4_isWithin
set_option maxRecDepth 20000 in
theorem ggX4_sample_X0_keptAt : GoodIn wsX4_sample wsX0_keptAt := goodIn_r _ [17, 18, 19, 20, 21, 22, 23, 24, 25, 26, 27, 28, 29, 30, 31, 32, 33, 43, 44, 45, 46, 47, 48, 49, 50, 51, 52, 53, 54, 55, 56] (by decide +kernel) (by decide +kernel)
set_option maxRecDepth 20000 in
theorem gX4_sample_X0_keptAt : GoodIn wsX4_sample (wsV RX4 140 RX0 yX0_keptAt wsX0_keptAt) := goodIn_app (goodIn_of _ (by decide +kernel)) ggX4_sample_X0_keptAt
set_option maxRecDepth 20000 in
theorem ggX4_sum_X4_isBearing : GoodIn wsX4_sum wsX4_isBearing := goodIn_r _ [7, 8, 9, 6, 10] (by decide +kernel) (by decide +kernel)
set_option maxRecDepth 20000 in
theorem gX4_sum_X4_isBearing : GoodIn wsX4_sum (va_wsS RX4 84 yX4_isBearing wsX4_isBearing) := goodIn_app (goodIn_of _ (by decide +kernel)) ggX4_sum_X4_isBearing
set_option maxRecDepth 20000 in
theorem ggX4_sum_X4_isWithin : GoodIn wsX4_sum wsX4_isWithin := goodIn_r _ [10] (by decide +kernel) (by decide +kernel)
set_option maxRecDepth 20000 in
theorem gX4_sum_X4_isWithin : GoodIn wsX4_sum (va_wsS RX4 41 yX4_isWithin wsX4_isWithin) := goodIn_app (goodIn_of _ (by decide +kernel)) ggX4_sum_X4_isWithin
set_option maxRecDepth 20000 in
theorem ggX4_sum_X4_layAll : GoodIn wsX4_sum wsX4_layAll := goodIn_r _ [14, 15, 16, 17, 18, 19, 20, 21, 22, 23, 24, 6, 25, 26, 27, 28, 29, 30, 31, 32, 33, 34, 35, 36, 37, 38, 39, 40, 41, 42, 43, 44, 45, 46, 47, 48, 49, 50, 51, 52, 53, 54, 55, 56, 57, 58, 59, 60, 61, 62, 63, 93, 94, 95, 96, 97, 98, 99, 100, 101, 102, 103, 104, 105, 106, 107, 108, 109, 110, 111, 112, 113, 114, 115] (by decide +kernel) (by decide +kernel)
set_option maxRecDepth 20000 in
theorem gX4_sum_X4_layAll : GoodIn wsX4_sum (wsV RX4 124 RX4 yX4_layAll wsX4_layAll) := goodIn_app (goodIn_of _ (by decide +kernel)) ggX4_sum_X4_layAll
set_option maxRecDepth 20000 in
theorem ggX4_sum_X4_steer : GoodIn wsX4_sum wsX4_steer := goodIn_r _ [67, 3, 15, 68, 69, 70, 71, 72, 73, 74, 19, 75, 35, 76, 77, 78, 79, 80, 81, 82, 83, 84, 85, 86, 87, 62, 88, 89, 90, 91, 92, 58, 93, 94, 95, 96, 97, 98, 99, 100, 101, 102, 103, 104, 105, 106, 107, 108, 109, 110, 111, 112] (by decide +kernel) (by decide +kernel)
set_option maxRecDepth 20000 in
theorem gX4_sum_X4_steer : GoodIn wsX4_sum (wsV RX4 146 RX4 yX4_steer wsX4_steer) := goodIn_app (goodIn_of _ (by decide +kernel)) ggX4_sum_X4_steer
set_option maxRecDepth 20000 in
theorem ggX4_power_X4_isBearing : GoodIn wsX4_power wsX4_isBearing := goodIn_r _ [6, 7, 8, 5, 9] (by decide +kernel) (by decide +kernel)
set_option maxRecDepth 20000 in
theorem gX4_power_X4_isBearing : GoodIn wsX4_power (va_wsS RX4 84 yX4_isBearing wsX4_isBearing) := goodIn_app (goodIn_of _ (by decide +kernel)) ggX4_power_X4_isBearing
set_option maxRecDepth 20000 in
theorem ggX4_power_X4_layAll : GoodIn wsX4_power wsX4_layAll := goodIn_r _ [13, 14, 15, 16, 17, 18, 19, 20, 21, 22, 23, 5, 24, 25, 26, 27, 28, 29, 30, 31, 32, 33, 34, 35, 36, 37, 38, 39, 40, 41, 42, 43, 44, 45, 46, 47, 48, 49, 50, 51, 52, 53, 54, 55, 56, 57, 58, 59, 60, 61, 62, 97, 98, 99, 100, 101, 102, 103, 104, 105, 106, 107, 108, 109, 110, 111, 112, 113, 114, 115, 116, 117, 118, 119] (by decide +kernel) (by decide +kernel)
set_option maxRecDepth 20000 in
theorem gX4_power_X4_layAll : GoodIn wsX4_power (wsV RX4 124 RX4 yX4_layAll wsX4_layAll) := goodIn_app (goodIn_of _ (by decide +kernel)) ggX4_power_X4_layAll
set_option maxRecDepth 20000 in
theorem ggX4_power_X4_powerBySums : GoodIn wsX4_power wsX4_powerBySums := goodIn_r _ [66, 67, 68, 69, 70, 5, 71, 14, 72, 73, 74, 75, 76, 77, 78, 18, 79, 34, 80, 81, 82, 83, 84, 85, 86, 87, 88, 89, 90, 91, 61, 92, 93, 94, 95, 96, 57, 97, 98, 99, 100, 101, 102, 103, 104, 105, 106, 107, 108, 109, 110, 111, 112, 113, 114, 115, 116] (by decide +kernel) (by decide +kernel)
set_option maxRecDepth 20000 in
theorem gX4_power_X4_powerBySums : GoodIn wsX4_power (wsV RX4 150 RX4 yX4_powerBySums wsX4_powerBySums) := goodIn_app (goodIn_of _ (by decide +kernel)) ggX4_power_X4_powerBySums
set_option maxRecDepth 20000 in
theorem ggX4_powerAnew_X4_isBearing : GoodIn wsX4_powerAnew wsX4_isBearing := goodIn_r _ [6, 7, 8, 5, 9] (by decide +kernel) (by decide +kernel)
set_option maxRecDepth 20000 in
theorem gX4_powerAnew_X4_isBearing : GoodIn wsX4_powerAnew (va_wsS RX4 84 yX4_isBearing wsX4_isBearing) := goodIn_app (goodIn_of _ (by decide +kernel)) ggX4_powerAnew_X4_isBearing
set_option maxRecDepth 20000 in
theorem ggX4_powerAnew_X4_layAll : GoodIn wsX4_powerAnew wsX4_layAll := goodIn_r _ [13, 14, 15, 16, 17, 18, 19, 20, 21, 22, 23, 5, 24, 25, 26, 27, 28, 29, 30, 31, 32, 33, 34, 35, 36, 37, 38, 39, 40, 41, 42, 43, 44, 45, 46, 47, 48, 49, 50, 51, 52, 53, 54, 55, 56, 57, 58, 59, 60, 61, 62, 88, 89, 90, 91, 92, 93, 94, 95, 96, 97, 98, 99, 100, 101, 102, 103, 104, 105, 106, 107, 108, 109, 110] (by decide +kernel) (by decide +kernel)
set_option maxRecDepth 20000 in
theorem gX4_powerAnew_X4_layAll : GoodIn wsX4_powerAnew (wsV RX4 124 RX4 yX4_layAll wsX4_layAll) := goodIn_app (goodIn_of _ (by decide +kernel)) ggX4_powerAnew_X4_layAll
set_option maxRecDepth 20000 in
theorem ggX4_powerAnew_X4_powerByPairs : GoodIn wsX4_powerAnew wsX4_powerByPairs := goodIn_r _ [66, 14, 67, 68, 69, 18, 70, 34, 71, 72, 73, 74, 75, 76, 77, 78, 79, 80, 81, 82, 61, 83, 84, 85, 86, 87, 57, 88, 89, 90, 91, 92, 93, 94, 95, 96, 97, 98, 99, 100, 101, 102, 103, 104, 105, 106, 107] (by decide +kernel) (by decide +kernel)
set_option maxRecDepth 20000 in
theorem gX4_powerAnew_X4_powerByPairs : GoodIn wsX4_powerAnew (wsV RX4 154 RX4 yX4_powerByPairs wsX4_powerByPairs) := goodIn_app (goodIn_of _ (by decide +kernel)) ggX4_powerAnew_X4_powerByPairs
set_option maxRecDepth 20000 in
theorem ggX4_peaks_X4_isWithin : GoodIn wsX4_peaks wsX4_isWithin := goodIn_r _ [8] (by decide +kernel) (by decide +kernel)
set_option maxRecDepth 20000 in
theorem gX4_peaks_X4_isWithin : GoodIn wsX4_peaks (va_wsS RX4 41 yX4_isWithin wsX4_isWithin) := goodIn_app (goodIn_of _ (by decide +kernel)) ggX4_peaks_X4_isWithin
set_option maxRecDepth 20000 in
theorem ggX4_peaks_X4_layAll : GoodIn wsX4_peaks wsX4_layAll := goodIn_r _ [12, 13, 14, 15, 16, 17, 18, 19, 20, 21, 22, 7, 23, 24, 25, 26, 27, 28, 29, 30, 31, 32, 33, 34, 35, 36, 37, 38, 39, 40, 41, 42, 43, 44, 45, 46, 47, 48, 49, 50, 51, 52, 53, 54, 55, 56, 57, 58, 59, 60, 61, 111, 112, 113, 114, 115, 116, 117, 118, 119, 120, 121, 122, 123, 124, 125, 126, 127, 128, 129, 130, 131, 132, 133] (by decide +kernel) (by decide +kernel)
set_option maxRecDepth 20000 in
theorem gX4_peaks_X4_layAll : GoodIn wsX4_peaks (wsV RX4 124 RX4 yX4_layAll wsX4_layAll) := goodIn_app (goodIn_of _ (by decide +kernel)) ggX4_peaks_X4_layAll
set_option maxRecDepth 20000 in
theorem ggX4_peaks_X4_fillPowers : GoodIn wsX4_peaks wsX4_fillPowers := goodIn_r _ [65, 3, 66, 67, 27, 68, 69, 70, 71, 7, 72, 73, 74, 75, 76, 77, 13, 78, 79, 80, 81, 82, 83, 84, 17, 85, 33, 86, 87, 88, 89, 90, 91, 92, 93, 94, 95, 96, 97, 60, 98, 99, 100, 101, 102, 56, 111, 112, 113, 114, 115, 116, 117, 118, 119, 120, 121, 122, 123, 124, 125, 126, 127, 128, 129, 130] (by decide +kernel) (by decide +kernel)
set_option maxRecDepth 20000 in
theorem gX4_peaks_X4_fillPowers : GoodIn wsX4_peaks (wsV RX4 159 RX4 yX4_fillPowers wsX4_fillPowers) := goodIn_app (goodIn_of _ (by decide +kernel)) ggX4_peaks_X4_fillPowers
set_option maxRecDepth 20000 in
theorem ggX4_peaks_X4_isPeak : GoodIn wsX4_peaks wsX4_isPeak := goodIn_r _ [106, 107, 108, 109, 7, 110, 3, 111, 112, 113, 114, 115, 116, 117, 118, 119] (by decide +kernel) (by decide +kernel)
set_option maxRecDepth 20000 in
theorem gX4_peaks_X4_isPeak : GoodIn wsX4_peaks (wsV RX4 162 RX4 yX4_isPeak wsX4_isPeak) := goodIn_app (goodIn_of _ (by decide +kernel)) ggX4_peaks_X4_isPeak
set_option maxRecDepth 20000 in
theorem ggX4_found_X4_isWithin : GoodIn wsX4_found wsX4_isWithin := goodIn_r _ [6] (by decide +kernel) (by decide +kernel)
set_option maxRecDepth 20000 in
theorem gX4_found_X4_isWithin : GoodIn wsX4_found (va_wsS RX4 41 yX4_isWithin wsX4_isWithin) := goodIn_app (goodIn_of _ (by decide +kernel)) ggX4_found_X4_isWithin
set_option maxRecDepth 20000 in
theorem ggX4_found_X4_layAll : GoodIn wsX4_found wsX4_layAll := goodIn_r _ [10, 11, 12, 13, 14, 15, 16, 17, 18, 19, 20, 5, 21, 22, 23, 24, 25, 26, 27, 28, 29, 30, 31, 32, 33, 34, 35, 36, 37, 38, 39, 40, 41, 42, 43, 44, 45, 46, 47, 48, 49, 50, 51, 52, 53, 54, 55, 56, 57, 58, 59, 117, 118, 119, 120, 121, 122, 123, 124, 125, 126, 127, 128, 129, 130, 131, 132, 133, 134, 135, 136, 137, 138, 139] (by decide +kernel) (by decide +kernel)
set_option maxRecDepth 20000 in
theorem gX4_found_X4_layAll : GoodIn wsX4_found (wsV RX4 124 RX4 yX4_layAll wsX4_layAll) := goodIn_app (goodIn_of _ (by decide +kernel)) ggX4_found_X4_layAll
set_option maxRecDepth 20000 in
theorem ggX4_found_X4_strongest : GoodIn wsX4_found wsX4_strongest := goodIn_r _ [63, 64, 65, 66, 67, 5, 68, 69, 70, 25, 71, 72, 73, 74, 75, 76, 77, 78, 79, 80, 11, 81, 82, 83, 84, 85, 86, 87, 15, 88, 31, 89, 90, 91, 92, 93, 94, 95, 96, 97, 98, 99, 100, 58, 101, 102, 103, 104, 105, 54, 117, 118, 119, 120, 121, 122, 123, 124, 125, 126, 127, 128, 129, 130, 131, 132, 133, 134, 135, 136] (by decide +kernel) (by decide +kernel)
set_option maxRecDepth 20000 in
theorem gX4_found_X4_strongest : GoodIn wsX4_found (wsV RX4 169 RX4 yX4_strongest wsX4_strongest) := goodIn_app (goodIn_of _ (by decide +kernel)) ggX4_found_X4_strongest
set_option maxRecDepth 20000 in
theorem ggX4_found_X4_takeAway : GoodIn wsX4_found wsX4_takeAway := goodIn_r _ [109, 76, 11, 77, 78, 79, 5, 80, 81, 82, 83, 84, 85, 86, 87, 15, 88, 31, 89, 90, 91, 92, 93, 94, 95, 96, 97, 98, 99, 100, 58, 101, 102, 103, 104, 105, 54, 110, 57, 59, 111, 112, 113, 114, 33, 32, 115, 45, 46, 37, 47, 39, 48, 116, 50, 51, 52, 53, 55, 56, 117, 118, 119, 120, 121, 122, 123, 124, 125, 126, 127, 128, 129, 130, 131, 132, 133, 134, 135, 136, 137, 138, 139] (by decide +kernel) (by decide +kernel)
set_option maxRecDepth 20000 in
theorem gX4_found_X4_takeAway : GoodIn wsX4_found (wsV RX4 172 RX4 yX4_takeAway wsX4_takeAway) := goodIn_app (goodIn_of _ (by decide +kernel)) ggX4_found_X4_takeAway
set_option maxRecDepth 20000 in
theorem ggX4_calibrated_X4_isElement : GoodIn wsX4_calibrated wsX4_isElement := goodIn_r _ [8, 9, 3, 21, 22, 23, 24, 25, 26, 27, 28, 29] (by decide +kernel) (by decide +kernel)
set_option maxRecDepth 20000 in
theorem gX4_calibrated_X4_isElement : GoodIn wsX4_calibrated (wsV RX4 67 RX4 yX4_isElement wsX4_isElement) := goodIn_app (goodIn_of _ (by decide +kernel)) ggX4_calibrated_X4_isElement
set_option maxRecDepth 20000 in
theorem ggX4_calibrated_X0_getTrimLag : GoodIn wsX4_calibrated wsX0_getTrimLag := goodIn_r _ [14, 15, 30, 31, 32, 33, 34, 35, 36, 37, 38, 39, 40] (by decide +kernel) (by decide +kernel)
set_option maxRecDepth 20000 in
theorem gX4_calibrated_X0_getTrimLag : GoodIn wsX4_calibrated (wsV RX4 176 RX0 yX0_getTrimLag wsX0_getTrimLag) := goodIn_app (goodIn_of _ (by decide +kernel)) ggX4_calibrated_X0_getTrimLag
set_option maxRecDepth 20000 in
theorem ggX4_calibrated_X0_getTrimGain : GoodIn wsX4_calibrated wsX0_getTrimGain := goodIn_r _ [19, 20, 30, 31, 32, 33, 34, 35, 36, 37, 38, 39, 40] (by decide +kernel) (by decide +kernel)
set_option maxRecDepth 20000 in
theorem gX4_calibrated_X0_getTrimGain : GoodIn wsX4_calibrated (wsV RX4 179 RX0 yX0_getTrimGain wsX0_getTrimGain) := goodIn_app (goodIn_of _ (by decide +kernel)) ggX4_calibrated_X0_getTrimGain
set_option maxRecDepth 20000 in
theorem ggX4_isBearing_X4_isWithin : GoodIn wsX4_isBearing wsX4_isWithin := goodIn_r _ [4] (by decide +kernel) (by decide +kernel)
set_option maxRecDepth 20000 in
theorem gX4_isBearing_X4_isWithin : GoodIn wsX4_isBearing (va_wsS RX4 41 yX4_isWithin wsX4_isWithin) := goodIn_app (goodIn_of _ (by decide +kernel)) ggX4_isBearing_X4_isWithin
set_option maxRecDepth 20000 in
theorem ggX4_hearOneTick_X0_isUp : GoodIn wsX4_hearOneTick wsX0_isUp := goodIn_r _ [8, 9, 88, 89, 90, 91, 92, 93, 94, 95, 96, 97, 98] (by decide +kernel) (by decide +kernel)
set_option maxRecDepth 20000 in
theorem gX4_hearOneTick_X0_isUp : GoodIn wsX4_hearOneTick (wsV RX4 182 RX0 yX0_isUp wsX0_isUp) := goodIn_app (goodIn_of _ (by decide +kernel)) ggX4_hearOneTick_X0_isUp
set_option maxRecDepth 20000 in
theorem ggX4_hearOneTick_X1_draw : GoodIn wsX4_hearOneTick wsX1_draw := goodIn_r _ [14, 15, 16, 17, 99, 100] (by decide +kernel) (by decide +kernel)
set_option maxRecDepth 20000 in
theorem gX4_hearOneTick_X1_draw : GoodIn wsX4_hearOneTick (wsV RX4 185 RX1 yX1_draw wsX1_draw) := goodIn_app (goodIn_of _ (by decide +kernel)) ggX4_hearOneTick_X1_draw
set_option maxRecDepth 20000 in
theorem ggX4_hearOneTick_X0_isLiving : GoodIn wsX4_hearOneTick wsX0_isLiving := goodIn_r _ [21, 22, 88, 89, 90, 91, 92, 93, 94, 95, 96, 97, 98] (by decide +kernel) (by decide +kernel)
set_option maxRecDepth 20000 in
theorem gX4_hearOneTick_X0_isLiving : GoodIn wsX4_hearOneTick (wsV RX4 76 RX0 yX0_isLiving wsX0_isLiving) := goodIn_app (goodIn_of _ (by decide +kernel)) ggX4_hearOneTick_X0_isLiving
set_option maxRecDepth 20000 in
theorem ggX4_hearOneTick_X4_wavesAt : GoodIn wsX4_hearOneTick wsX4_wavesAt := goodIn_r _ [27, 28, 29, 3, 30, 31, 32, 33, 34, 35, 36, 37, 38, 7, 39, 40, 41, 42, 43, 44, 45, 46, 47, 48, 49, 50, 51, 52, 53, 54, 55, 56, 57, 58, 79, 80, 81, 82, 83, 84, 85, 86, 87, 101, 102, 103, 88, 89, 90, 91, 92, 93, 94, 95, 96, 97, 98] (by decide +kernel) (by decide +kernel)
set_option maxRecDepth 20000 in
theorem gX4_hearOneTick_X4_wavesAt : GoodIn wsX4_hearOneTick (wsV RX4 188 RX4 yX4_wavesAt wsX4_wavesAt) := goodIn_app (goodIn_of _ (by decide +kernel)) ggX4_hearOneTick_X4_wavesAt
set_option maxRecDepth 20000 in
theorem ggX4_hearOneTick_X0_heardOf : GoodIn wsX4_hearOneTick wsX0_heardOf := goodIn_r _ [62, 63, 41, 42, 43, 44, 88, 89, 90, 91, 92, 93, 94, 95, 96, 97, 98] (by decide +kernel) (by decide +kernel)
set_option maxRecDepth 20000 in
theorem gX4_hearOneTick_X0_heardOf : GoodIn wsX4_hearOneTick (wsV RX4 192 RX0 yX0_heardOf wsX0_heardOf) := goodIn_app (goodIn_of _ (by decide +kernel)) ggX4_hearOneTick_X0_heardOf
set_option maxRecDepth 20000 in
theorem ggX4_hearOneTick_X0_keep : GoodIn wsX4_hearOneTick wsX0_keep := goodIn_r _ [67, 68, 69, 70, 71, 72, 73, 74, 75, 76, 77, 78, 88, 89, 90, 91, 92, 93, 94, 95, 96, 97, 98, 104, 105, 106] (by decide +kernel) (by decide +kernel)
set_option maxRecDepth 20000 in
theorem gX4_hearOneTick_X0_keep : GoodIn wsX4_hearOneTick (wsV RX4 195 RX0 yX0_keep wsX0_keep) := goodIn_app (goodIn_of _ (by decide +kernel)) ggX4_hearOneTick_X0_keep
set_option maxRecDepth 20000 in
theorem ggX4_wavesAt_X2_getBearing : GoodIn wsX4_wavesAt wsX2_getBearing := goodIn_r _ [8, 9, 43, 44, 45] (by decide +kernel) (by decide +kernel)
set_option maxRecDepth 20000 in
theorem gX4_wavesAt_X2_getBearing : GoodIn wsX4_wavesAt (wsV RX4 198 RX2 yX2_getBearing wsX2_getBearing) := goodIn_app (goodIn_of _ (by decide +kernel)) ggX4_wavesAt_X2_getBearing
set_option maxRecDepth 20000 in
theorem ggX4_wavesAt_X0_delayFor : GoodIn wsX4_wavesAt wsX0_delayFor := goodIn_r _ [14, 15, 16, 17, 18, 19, 46, 47, 48, 49, 50, 51, 52, 53, 54, 55, 56] (by decide +kernel) (by decide +kernel)
set_option maxRecDepth 20000 in
theorem gX4_wavesAt_X0_delayFor : GoodIn wsX4_wavesAt (wsV RX4 201 RX0 yX0_delayFor wsX0_delayFor) := goodIn_app (goodIn_of _ (by decide +kernel)) ggX4_wavesAt_X0_delayFor
set_option maxRecDepth 20000 in
theorem ggX4_wavesAt_X0_getLag : GoodIn wsX4_wavesAt wsX0_getLag := goodIn_r _ [23, 24, 46, 47, 48, 49, 50, 51, 52, 53, 54, 55, 56] (by decide +kernel) (by decide +kernel)
set_option maxRecDepth 20000 in
theorem gX4_wavesAt_X0_getLag : GoodIn wsX4_wavesAt (wsV RX4 204 RX0 yX0_getLag wsX0_getLag) := goodIn_app (goodIn_of _ (by decide +kernel)) ggX4_wavesAt_X0_getLag
set_option maxRecDepth 20000 in
theorem ggX4_wavesAt_X2_waveAt : GoodIn wsX4_wavesAt wsX2_waveAt := goodIn_r _ [28, 29, 30, 31, 32, 18, 33, 43, 44, 45] (by decide +kernel) (by decide +kernel)
set_option maxRecDepth 20000 in
theorem gX4_wavesAt_X2_waveAt : GoodIn wsX4_wavesAt (wsV RX4 207 RX2 yX2_waveAt wsX2_waveAt) := goodIn_app (goodIn_of _ (by decide +kernel)) ggX4_wavesAt_X2_waveAt
set_option maxRecDepth 20000 in
theorem ggX4_layAll_X0_isLiving : GoodIn wsX4_layAll wsX0_isLiving := goodIn_r _ [6, 7, 60, 61, 62, 63, 64, 65, 66, 67, 68, 69, 70] (by decide +kernel) (by decide +kernel)
set_option maxRecDepth 20000 in
theorem gX4_layAll_X0_isLiving : GoodIn wsX4_layAll (wsV RX4 76 RX0 yX0_isLiving wsX0_isLiving) := goodIn_app (goodIn_of _ (by decide +kernel)) ggX4_layAll_X0_isLiving
set_option maxRecDepth 20000 in
theorem ggX4_layAll_X4_weightOf : GoodIn wsX4_layAll wsX4_weightOf := goodIn_r _ [12, 13, 14, 15, 16, 17, 51, 52, 53, 54, 55, 56, 57, 58, 59] (by decide +kernel) (by decide +kernel)
set_option maxRecDepth 20000 in
theorem gX4_layAll_X4_weightOf : GoodIn wsX4_layAll (wsV RX4 210 RX4 yX4_weightOf wsX4_weightOf) := goodIn_app (goodIn_of _ (by decide +kernel)) ggX4_layAll_X4_weightOf
set_option maxRecDepth 20000 in
theorem ggX4_layAll_X0_layOut : GoodIn wsX4_layAll wsX0_layOut := goodIn_r _ [21, 22, 23, 24, 25, 26, 27, 28, 29, 30, 31, 32, 33, 34, 35, 36, 37, 38, 39, 40, 41, 42, 5, 43, 44, 45, 46, 47, 48, 49, 50, 60, 61, 62, 63, 64, 65, 66, 67, 68, 69, 70, 71, 72, 73] (by decide +kernel) (by decide +kernel)
set_option maxRecDepth 20000 in
theorem gX4_layAll_X0_layOut : GoodIn wsX4_layAll (wsV RX4 214 RX0 yX0_layOut wsX0_layOut) := goodIn_app (goodIn_of _ (by decide +kernel)) ggX4_layAll_X0_layOut
set_option maxRecDepth 20000 in
theorem ggX4_steer_J7_fill_d0a16 : GoodIn wsX4_steer wsJ7_fill_d0a16 := goodIn_r _ [6] (by decide +kernel) (by decide +kernel)
set_option maxRecDepth 20000 in
theorem gX4_steer_J7_fill_d0a16 : GoodIn wsX4_steer (va_wsS RX4 222 yJ7_fill_d0a16 wsJ7_fill_d0a16) := goodIn_app (goodIn_of _ (by decide +kernel)) ggX4_steer_J7_fill_d0a16
set_option maxRecDepth 20000 in
theorem ggX4_steer_X0_tellTo : GoodIn wsX4_steer wsX0_tellTo := goodIn_r _ [11, 12, 13, 14, 15, 10, 16, 17, 18, 19, 20, 21, 22, 23, 24, 25, 26, 27, 28, 29, 30, 31, 41, 42, 43, 44, 45, 46, 47, 48, 49, 50, 51] (by decide +kernel) (by decide +kernel)
set_option maxRecDepth 20000 in
theorem gX4_steer_X0_tellTo : GoodIn wsX4_steer (wsV RX4 228 RX0 yX0_tellTo wsX0_tellTo) := goodIn_app (goodIn_of _ (by decide +kernel)) ggX4_steer_X0_tellTo
set_option maxRecDepth 20000 in
theorem ggX4_powerBySums_X4_steer : GoodIn wsX4_powerBySums wsX4_steer := goodIn_r _ [6, 1, 7, 8, 9, 10, 11, 12, 13, 14, 15, 16, 17, 18, 19, 20, 21, 22, 23, 24, 25, 26, 27, 28, 29, 30, 31, 32, 33, 34, 35, 36, 37, 38, 39, 40, 41, 42, 43, 44, 45, 46, 47, 48, 49, 50, 51, 52, 53, 54, 55, 56] (by decide +kernel) (by decide +kernel)
set_option maxRecDepth 20000 in
theorem gX4_powerBySums_X4_steer : GoodIn wsX4_powerBySums (wsV RX4 146 RX4 yX4_steer wsX4_steer) := goodIn_app (goodIn_of _ (by decide +kernel)) ggX4_powerBySums_X4_steer
set_option maxRecDepth 20000 in
theorem ggX4_powerByPairs_X0_toldWith : GoodIn wsX4_powerByPairs wsX0_toldWith := goodIn_r _ [6, 7, 8, 9, 10, 5, 11, 12, 13, 14, 15, 16, 17, 18, 19, 20, 21, 22, 23, 24, 25, 26, 36, 37, 38, 39, 40, 41, 42, 43, 44, 45, 46] (by decide +kernel) (by decide +kernel)
set_option maxRecDepth 20000 in
theorem gX4_powerByPairs_X0_toldWith : GoodIn wsX4_powerByPairs (wsV RX4 232 RX0 yX0_toldWith wsX0_toldWith) := goodIn_app (goodIn_of _ (by decide +kernel)) ggX4_powerByPairs_X0_toldWith
set_option maxRecDepth 20000 in
theorem ggX4_fillPowers_X4_powerBySums : GoodIn wsX4_fillPowers wsX4_powerBySums := goodIn_r _ [10, 11, 12, 13, 14, 9, 15, 16, 17, 18, 19, 20, 21, 22, 23, 24, 25, 26, 27, 28, 29, 30, 31, 32, 33, 34, 35, 36, 37, 38, 39, 40, 41, 42, 43, 44, 45, 46, 47, 48, 49, 50, 51, 52, 53, 54, 55, 56, 57, 58, 59, 60, 61, 62, 63, 64, 65] (by decide +kernel) (by decide +kernel)
set_option maxRecDepth 20000 in
theorem gX4_fillPowers_X4_powerBySums : GoodIn wsX4_fillPowers (wsV RX4 150 RX4 yX4_powerBySums wsX4_powerBySums) := goodIn_app (goodIn_of _ (by decide +kernel)) ggX4_fillPowers_X4_powerBySums
set_option maxRecDepth 20000 in
theorem ggX4_isPeak_X4_powerAt : GoodIn wsX4_isPeak wsX4_powerAt := goodIn_r _ [5, 6, 7, 8, 9, 10, 11, 12, 13, 14, 15] (by decide +kernel) (by decide +kernel)
set_option maxRecDepth 20000 in
theorem gX4_isPeak_X4_powerAt : GoodIn wsX4_isPeak (wsV RX4 240 RX4 yX4_powerAt wsX4_powerAt) := goodIn_app (goodIn_of _ (by decide +kernel)) ggX4_isPeak_X4_powerAt
set_option maxRecDepth 20000 in
theorem ggX4_strongest_X4_fillPowers : GoodIn wsX4_strongest wsX4_fillPowers := goodIn_r _ [6, 1, 7, 8, 9, 10, 11, 12, 13, 5, 14, 15, 16, 17, 18, 19, 20, 21, 22, 23, 24, 25, 26, 27, 28, 29, 30, 31, 32, 33, 34, 35, 36, 37, 38, 39, 40, 41, 42, 43, 44, 45, 46, 47, 48, 49, 50, 51, 52, 53, 54, 55, 56, 57, 58, 59, 60, 61, 62, 63, 64, 65, 66, 67, 68, 69] (by decide +kernel) (by decide +kernel)
set_option maxRecDepth 20000 in
theorem gX4_strongest_X4_fillPowers : GoodIn wsX4_strongest (wsV RX4 159 RX4 yX4_fillPowers wsX4_fillPowers) := goodIn_app (goodIn_of _ (by decide +kernel)) ggX4_strongest_X4_fillPowers
set_option maxRecDepth 20000 in
theorem ggX4_takeAway_X4_steer : GoodIn wsX4_takeAway wsX4_steer := goodIn_r _ [7, 1, 2, 8, 9, 10, 11, 12, 13, 14, 15, 16, 17, 18, 19, 20, 21, 22, 23, 24, 25, 26, 27, 28, 29, 30, 31, 32, 33, 34, 35, 36, 60, 61, 62, 63, 64, 65, 66, 67, 68, 69, 70, 71, 72, 73, 74, 75, 76, 77, 78, 79] (by decide +kernel) (by decide +kernel)
set_option maxRecDepth 20000 in
theorem gX4_takeAway_X4_steer : GoodIn wsX4_takeAway (wsV RX4 146 RX4 yX4_steer wsX4_steer) := goodIn_app (goodIn_of _ (by decide +kernel)) ggX4_takeAway_X4_steer
set_option maxRecDepth 20000 in
theorem ggX4_takeAway_J9_floorDiv_f86c9 : GoodIn wsX4_takeAway wsJ9_floorDiv_f86c9 := goodIn_r _ [39] (by decide +kernel) (by decide +kernel)
set_option maxRecDepth 20000 in
theorem gX4_takeAway_J9_floorDiv_f86c9 : GoodIn wsX4_takeAway (va_wsS RX4 243 yJ9_floorDiv_f86c9 wsJ9_floorDiv_f86c9) := goodIn_app (goodIn_of _ (by decide +kernel)) ggX4_takeAway_J9_floorDiv_f86c9
set_option maxRecDepth 20000 in
theorem ggX4_takeAway_X0_takeAway : GoodIn wsX4_takeAway wsX0_takeAway := goodIn_r _ [43, 17, 44, 45, 18, 19, 20, 15, 21, 22, 23, 24, 25, 26, 27, 28, 29, 30, 31, 46, 47, 48, 49, 50, 51, 52, 69, 70, 71, 72, 73, 74, 75, 76, 77, 78, 79, 80, 81, 82] (by decide +kernel) (by decide +kernel)
set_option maxRecDepth 20000 in
theorem gX4_takeAway_X0_takeAway : GoodIn wsX4_takeAway (wsV RX4 246 RX0 yX0_takeAway wsX0_takeAway) := goodIn_app (goodIn_of _ (by decide +kernel)) ggX4_takeAway_X0_takeAway
set_option maxRecDepth 20000 in
theorem ggX4_takeAway_X0_turnAll : GoodIn wsX4_takeAway wsX0_turnAll := goodIn_r _ [56, 17, 57, 36, 45, 58, 59, 38, 30, 39, 69, 70, 71, 72, 73, 74, 75, 76, 77, 78, 79] (by decide +kernel) (by decide +kernel)
set_option maxRecDepth 20000 in
theorem gX4_takeAway_X0_turnAll : GoodIn wsX4_takeAway (wsV RX4 249 RX0 yX0_turnAll wsX0_turnAll) := goodIn_app (goodIn_of _ (by decide +kernel)) ggX4_takeAway_X0_turnAll
set_option maxRecDepth 20000 in
theorem ggX4_lowestLiving_X0_isLiving : GoodIn wsX4_lowestLiving wsX0_isLiving := goodIn_r _ [6, 7, 17, 18, 19, 20, 21, 22, 23, 24, 25, 26, 27] (by decide +kernel) (by decide +kernel)
set_option maxRecDepth 20000 in
theorem gX4_lowestLiving_X0_isLiving : GoodIn wsX4_lowestLiving (wsV RX4 76 RX0 yX0_isLiving wsX0_isLiving) := goodIn_app (goodIn_of _ (by decide +kernel)) ggX4_lowestLiving_X0_isLiving
set_option maxRecDepth 20000 in
theorem ggX4_holdTo_X0_trim : GoodIn wsX4_holdTo wsX0_trim := goodIn_r _ [6, 7, 8, 58, 59, 60, 61, 62, 63, 64, 65, 66, 67, 68] (by decide +kernel) (by decide +kernel)
set_option maxRecDepth 20000 in
theorem gX4_holdTo_X0_trim : GoodIn wsX4_holdTo (wsV RX4 252 RX0 yX0_trim wsX0_trim) := goodIn_app (goodIn_of _ (by decide +kernel)) ggX4_holdTo_X0_trim
set_option maxRecDepth 20000 in
theorem ggX4_holdTo_X0_isLiving : GoodIn wsX4_holdTo wsX0_isLiving := goodIn_r _ [12, 13, 58, 59, 60, 61, 62, 63, 64, 65, 66, 67, 68] (by decide +kernel) (by decide +kernel)
set_option maxRecDepth 20000 in
theorem gX4_holdTo_X0_isLiving : GoodIn wsX4_holdTo (wsV RX4 76 RX0 yX0_isLiving wsX0_isLiving) := goodIn_app (goodIn_of _ (by decide +kernel)) ggX4_holdTo_X0_isLiving
set_option maxRecDepth 20000 in
theorem ggX4_holdTo_X4_fit : GoodIn wsX4_holdTo wsX4_fit := goodIn_r _ [17, 18, 19, 20, 21, 22, 23, 24, 25, 26, 27, 28, 29, 30, 5, 31, 32, 33, 34, 35, 36, 37, 38, 39, 40, 41, 42, 43, 44, 45, 46, 47, 48, 2, 3, 4, 6, 7, 8, 58, 59, 60, 61, 62, 63, 64, 65, 66, 67, 68] (by decide +kernel) (by decide +kernel)
set_option maxRecDepth 20000 in
theorem gX4_holdTo_X4_fit : GoodIn wsX4_holdTo (va_wsS RX4 256 yX4_fit wsX4_fit) := goodIn_app (goodIn_of _ (by decide +kernel)) ggX4_holdTo_X4_fit
set_option maxRecDepth 20000 in
theorem ggX4_fit_X0_agreement : GoodIn wsX4_fit wsX0_agreement := goodIn_r _ [15, 16, 17, 18, 14, 19, 20, 21, 22, 23, 24, 25, 26, 27, 28, 29, 39, 40, 41, 42, 43, 44, 45, 46, 47, 48, 49] (by decide +kernel) (by decide +kernel)
set_option maxRecDepth 20000 in
theorem gX4_fit_X0_agreement : GoodIn wsX4_fit (wsV RX4 128 RX0 yX0_agreement wsX0_agreement) := goodIn_app (goodIn_of _ (by decide +kernel)) ggX4_fit_X0_agreement
set_option maxRecDepth 20000 in
theorem ggX4_fit_J9_floorDiv_f86c9 : GoodIn wsX4_fit wsJ9_floorDiv_f86c9 := goodIn_r _ [32] (by decide +kernel) (by decide +kernel)
set_option maxRecDepth 20000 in
theorem gX4_fit_J9_floorDiv_f86c9 : GoodIn wsX4_fit (va_wsS RX4 243 yJ9_floorDiv_f86c9 wsJ9_floorDiv_f86c9) := goodIn_app (goodIn_of _ (by decide +kernel)) ggX4_fit_J9_floorDiv_f86c9
set_option maxRecDepth 20000 in
theorem ggX4_fit_X0_trim : GoodIn wsX4_fit wsX0_trim := goodIn_r _ [36, 37, 38, 39, 40, 41, 42, 43, 44, 45, 46, 47, 48, 49] (by decide +kernel) (by decide +kernel)
set_option maxRecDepth 20000 in
theorem gX4_fit_X0_trim : GoodIn wsX4_fit (wsV RX4 252 RX0 yX0_trim wsX0_trim) := goodIn_app (goodIn_of _ (by decide +kernel)) ggX4_fit_X0_trim
set_option maxRecDepth 20000 in
theorem ggX5_isElement_X5_isIn : GoodIn wsX5_isElement wsX5_isIn := goodIn_r _ [5] (by decide +kernel) (by decide +kernel)
set_option maxRecDepth 20000 in
theorem gX5_isElement_X5_isIn : GoodIn wsX5_isElement (va_wsS RX5 64 yX5_isIn wsX5_isIn) := goodIn_app (goodIn_of _ (by decide +kernel)) ggX5_isElement_X5_isIn
set_option maxRecDepth 20000 in
theorem ggX5_isBearing_X5_isIn : GoodIn wsX5_isBearing wsX5_isIn := goodIn_r _ [4] (by decide +kernel) (by decide +kernel)
set_option maxRecDepth 20000 in
theorem gX5_isBearing_X5_isIn : GoodIn wsX5_isBearing (va_wsS RX5 64 yX5_isIn wsX5_isIn) := goodIn_app (goodIn_of _ (by decide +kernel)) ggX5_isBearing_X5_isIn
set_option maxRecDepth 20000 in
theorem ggX5_delay_X5_down : GoodIn wsX5_delay wsX5_down := goodIn_r _ [6] (by decide +kernel) (by decide +kernel)
set_option maxRecDepth 20000 in
theorem gX5_delay_X5_down : GoodIn wsX5_delay (va_wsS RX5 70 yX5_down wsX5_down) := goodIn_app (goodIn_of _ (by decide +kernel)) ggX5_delay_X5_down
set_option maxRecDepth 20000 in
theorem ggX5_element_X5_isIn : GoodIn wsX5_element wsX5_isIn := goodIn_r _ [13] (by decide +kernel) (by decide +kernel)
set_option maxRecDepth 20000 in
theorem gX5_element_X5_isIn : GoodIn wsX5_element (va_wsS RX5 64 yX5_isIn wsX5_isIn) := goodIn_app (goodIn_of _ (by decide +kernel)) ggX5_element_X5_isIn
set_option maxRecDepth 20000 in
theorem ggX5_element_X5_goes : GoodIn wsX5_element wsX5_goes := goodIn_r _ [17, 18, 19, 20, 21, 22, 23, 24, 25, 26, 27, 28, 29, 30, 31, 32, 33, 34, 35, 36, 37, 38, 39] (by decide +kernel) (by decide +kernel)
set_option maxRecDepth 20000 in
theorem gX5_element_X5_goes : GoodIn wsX5_element (wsV RX5 74 RX5 yX5_goes wsX5_goes) := goodIn_app (goodIn_of _ (by decide +kernel)) ggX5_element_X5_goes
set_option maxRecDepth 20000 in
theorem ggX5_alive_X5_isElement : GoodIn wsX5_alive wsX5_isElement := goodIn_r _ [6, 7, 8, 9, 5, 10, 16, 17, 18, 19, 20, 21, 22, 23, 24, 25, 26, 27, 28, 29, 30, 31, 32, 33, 34, 35, 36] (by decide +kernel) (by decide +kernel)
set_option maxRecDepth 20000 in
theorem gX5_alive_X5_isElement : GoodIn wsX5_alive (wsV RX5 81 RX5 yX5_isElement wsX5_isElement) := goodIn_app (goodIn_of _ (by decide +kernel)) ggX5_alive_X5_isElement
set_option maxRecDepth 20000 in
theorem ggX5_alive_X5_goes : GoodIn wsX5_alive wsX5_goes := goodIn_r _ [14, 15, 16, 17, 18, 19, 20, 21, 22, 23, 24, 25, 26, 27, 28, 29, 30, 31, 32, 33, 34, 35, 36] (by decide +kernel) (by decide +kernel)
set_option maxRecDepth 20000 in
theorem gX5_alive_X5_goes : GoodIn wsX5_alive (wsV RX5 74 RX5 yX5_goes wsX5_goes) := goodIn_app (goodIn_of _ (by decide +kernel)) ggX5_alive_X5_goes
set_option maxRecDepth 20000 in
theorem ggX5_source_X5_isIn : GoodIn wsX5_source wsX5_isIn := goodIn_r _ [8] (by decide +kernel) (by decide +kernel)
set_option maxRecDepth 20000 in
theorem gX5_source_X5_isIn : GoodIn wsX5_source (va_wsS RX5 64 yX5_isIn wsX5_isIn) := goodIn_app (goodIn_of _ (by decide +kernel)) ggX5_source_X5_isIn
set_option maxRecDepth 20000 in
theorem ggX5_source_X5_isBearing : GoodIn wsX5_source wsX5_isBearing := goodIn_r _ [11, 5, 6, 7, 8] (by decide +kernel) (by decide +kernel)
set_option maxRecDepth 20000 in
theorem gX5_source_X5_isBearing : GoodIn wsX5_source (va_wsS RX5 84 yX5_isBearing wsX5_isBearing) := goodIn_app (goodIn_of _ (by decide +kernel)) ggX5_source_X5_isBearing
set_option maxRecDepth 20000 in
theorem ggX5_source_X5_goes : GoodIn wsX5_source wsX5_goes := goodIn_r _ [15, 16, 17, 18, 19, 20, 21, 22, 23, 24, 25, 26, 27, 28, 29, 30, 31, 32, 33, 34, 35, 36, 37] (by decide +kernel) (by decide +kernel)
set_option maxRecDepth 20000 in
theorem gX5_source_X5_goes : GoodIn wsX5_source (wsV RX5 74 RX5 yX5_goes wsX5_goes) := goodIn_app (goodIn_of _ (by decide +kernel)) ggX5_source_X5_goes
set_option maxRecDepth 20000 in
theorem ggX5_noise_X5_isIn : GoodIn wsX5_noise wsX5_isIn := goodIn_r _ [7] (by decide +kernel) (by decide +kernel)
set_option maxRecDepth 20000 in
theorem gX5_noise_X5_isIn : GoodIn wsX5_noise (va_wsS RX5 64 yX5_isIn wsX5_isIn) := goodIn_app (goodIn_of _ (by decide +kernel)) ggX5_noise_X5_isIn
set_option maxRecDepth 20000 in
theorem ggX5_noise_X5_goes : GoodIn wsX5_noise wsX5_goes := goodIn_r _ [11, 12, 13, 14, 15, 16, 17, 18, 19, 20, 21, 22, 23, 24, 25, 26, 27, 28, 29, 30, 31, 32, 33] (by decide +kernel) (by decide +kernel)
set_option maxRecDepth 20000 in
theorem gX5_noise_X5_goes : GoodIn wsX5_noise (wsV RX5 74 RX5 yX5_goes wsX5_goes) := goodIn_app (goodIn_of _ (by decide +kernel)) ggX5_noise_X5_goes
set_option maxRecDepth 20000 in
theorem ggX5_hears_X5_delay : GoodIn wsX5_hears wsX5_delay := goodIn_r _ [16, 17, 18, 19, 20, 15, 21, 28, 29, 30, 31, 32, 33, 34, 35, 36, 37, 38, 39, 40, 41, 42, 43, 44, 45, 46, 47, 48] (by decide +kernel) (by decide +kernel)
set_option maxRecDepth 20000 in
theorem gX5_hears_X5_delay : GoodIn wsX5_hears (wsV RX5 94 RX5 yX5_delay wsX5_delay) := goodIn_app (goodIn_of _ (by decide +kernel)) ggX5_hears_X5_delay
set_option maxRecDepth 20000 in
theorem ggX5_hears_X5_wave : GoodIn wsX5_hears wsX5_wave := goodIn_r _ [25, 26, 27, 28, 29, 30, 31, 32, 33, 34, 35, 36, 37, 38, 39, 40, 41, 42, 43, 44, 45, 46, 47, 48] (by decide +kernel) (by decide +kernel)
set_option maxRecDepth 20000 in
theorem gX5_hears_X5_wave : GoodIn wsX5_hears (wsV RX5 98 RX5 yX5_wave wsX5_wave) := goodIn_app (goodIn_of _ (by decide +kernel)) ggX5_hears_X5_wave
set_option maxRecDepth 20000 in
theorem ggX5_hears_X5_down : GoodIn wsX5_hears wsX5_down := goodIn_r _ [21] (by decide +kernel) (by decide +kernel)
set_option maxRecDepth 20000 in
theorem gX5_hears_X5_down : GoodIn wsX5_hears (va_wsS RX5 70 yX5_down wsX5_down) := goodIn_app (goodIn_of _ (by decide +kernel)) ggX5_hears_X5_down
set_option maxRecDepth 20000 in
theorem ggX5_hear_X5_isIn : GoodIn wsX5_hear wsX5_isIn := goodIn_r _ [6] (by decide +kernel) (by decide +kernel)
set_option maxRecDepth 20000 in
theorem gX5_hear_X5_isIn : GoodIn wsX5_hear (va_wsS RX5 64 yX5_isIn wsX5_isIn) := goodIn_app (goodIn_of _ (by decide +kernel)) ggX5_hear_X5_isIn
set_option maxRecDepth 20000 in
theorem ggX5_hear_X5_goes : GoodIn wsX5_hear wsX5_goes := goodIn_r _ [10, 11, 41, 42, 43, 44, 45, 46, 47, 48, 49, 50, 51, 52, 53, 54, 55, 56, 57, 58, 59, 60, 61] (by decide +kernel) (by decide +kernel)
set_option maxRecDepth 20000 in
theorem gX5_hear_X5_goes : GoodIn wsX5_hear (wsV RX5 74 RX5 yX5_goes wsX5_goes) := goodIn_app (goodIn_of _ (by decide +kernel)) ggX5_hear_X5_goes
set_option maxRecDepth 20000 in
theorem ggX5_hear_X5_hears : GoodIn wsX5_hear wsX5_hears := goodIn_r _ [15, 16, 2, 17, 18, 19, 20, 21, 22, 23, 24, 25, 26, 27, 28, 5, 29, 30, 31, 32, 33, 34, 35, 36, 37, 38, 39, 40, 41, 42, 43, 44, 45, 46, 47, 48, 49, 50, 51, 52, 53, 54, 55, 56, 57, 58, 59, 60, 61] (by decide +kernel) (by decide +kernel)
set_option maxRecDepth 20000 in
theorem gX5_hear_X5_hears : GoodIn wsX5_hear (wsV RX5 104 RX5 yX5_hears wsX5_hears) := goodIn_app (goodIn_of _ (by decide +kernel)) ggX5_hear_X5_hears
set_option maxRecDepth 20000 in
theorem ggX5_window_X5_isIn : GoodIn wsX5_window wsX5_isIn := goodIn_r _ [5] (by decide +kernel) (by decide +kernel)
set_option maxRecDepth 20000 in
theorem gX5_window_X5_isIn : GoodIn wsX5_window (va_wsS RX5 64 yX5_isIn wsX5_isIn) := goodIn_app (goodIn_of _ (by decide +kernel)) ggX5_window_X5_isIn
set_option maxRecDepth 20000 in
theorem ggX5_window_X5_goes : GoodIn wsX5_window wsX5_goes := goodIn_r _ [9, 10, 11, 12, 13, 14, 15, 16, 17, 18, 19, 20, 21, 22, 23, 24, 25, 26, 27, 28, 29, 30, 31] (by decide +kernel) (by decide +kernel)
set_option maxRecDepth 20000 in
theorem gX5_window_X5_goes : GoodIn wsX5_window (wsV RX5 74 RX5 yX5_goes wsX5_goes) := goodIn_app (goodIn_of _ (by decide +kernel)) ggX5_window_X5_goes
set_option maxRecDepth 20000 in
theorem ggX5_isKept_X5_isIn : GoodIn wsX5_isKept wsX5_isIn := goodIn_r _ [6] (by decide +kernel) (by decide +kernel)
set_option maxRecDepth 20000 in
theorem gX5_isKept_X5_isIn : GoodIn wsX5_isKept (va_wsS RX5 64 yX5_isIn wsX5_isIn) := goodIn_app (goodIn_of _ (by decide +kernel)) ggX5_isKept_X5_isIn
set_option maxRecDepth 20000 in
theorem ggX5_kept_X5_isKept : GoodIn wsX5_kept wsX5_isKept := goodIn_r _ [5, 6, 7, 8, 9, 4, 10, 11, 12, 13, 14, 15, 16, 17, 18, 19, 20, 21, 22, 23, 24, 25, 26, 27, 28, 29, 30, 31] (by decide +kernel) (by decide +kernel)
set_option maxRecDepth 20000 in
theorem gX5_kept_X5_isKept : GoodIn wsX5_kept (wsV RX5 111 RX5 yX5_isKept wsX5_isKept) := goodIn_app (goodIn_of _ (by decide +kernel)) ggX5_kept_X5_isKept
set_option maxRecDepth 20000 in
theorem ggX5_sumOf_X5_delay : GoodIn wsX5_sumOf wsX5_delay := goodIn_r _ [9, 10, 11, 12, 13, 8, 14, 34, 35, 36, 37, 38, 39, 40, 41, 42, 43, 44, 45, 46, 47, 48, 49, 50, 51, 52, 53, 54] (by decide +kernel) (by decide +kernel)
set_option maxRecDepth 20000 in
theorem gX5_sumOf_X5_delay : GoodIn wsX5_sumOf (wsV RX5 94 RX5 yX5_delay wsX5_delay) := goodIn_app (goodIn_of _ (by decide +kernel)) ggX5_sumOf_X5_delay
set_option maxRecDepth 20000 in
theorem ggX5_sumOf_X5_kept : GoodIn wsX5_sumOf wsX5_kept := goodIn_r _ [18, 19, 20, 21, 8, 22, 23, 24, 25, 26, 27, 34, 35, 36, 37, 38, 39, 40, 41, 42, 43, 44, 45, 46, 47, 48, 49, 50, 51, 52, 53, 54] (by decide +kernel) (by decide +kernel)
set_option maxRecDepth 20000 in
theorem gX5_sumOf_X5_kept : GoodIn wsX5_sumOf (wsV RX5 115 RX5 yX5_kept wsX5_kept) := goodIn_app (goodIn_of _ (by decide +kernel)) ggX5_sumOf_X5_kept
set_option maxRecDepth 20000 in
theorem ggX5_sumOf_X5_weight : GoodIn wsX5_sumOf wsX5_weight := goodIn_r _ [31, 1, 32, 33, 34, 35, 36, 37, 38, 39, 40, 41, 42, 43, 44, 45, 46, 47, 48, 49, 50, 51, 52, 53, 54] (by decide +kernel) (by decide +kernel)
set_option maxRecDepth 20000 in
theorem gX5_sumOf_X5_weight : GoodIn wsX5_sumOf (wsV RX5 119 RX5 yX5_weight wsX5_weight) := goodIn_app (goodIn_of _ (by decide +kernel)) ggX5_sumOf_X5_weight
set_option maxRecDepth 20000 in
theorem ggX5_sumOf_X5_down : GoodIn wsX5_sumOf wsX5_down := goodIn_r _ [14] (by decide +kernel) (by decide +kernel)
set_option maxRecDepth 20000 in
theorem gX5_sumOf_X5_down : GoodIn wsX5_sumOf (va_wsS RX5 70 yX5_down wsX5_down) := goodIn_app (goodIn_of _ (by decide +kernel)) ggX5_sumOf_X5_down
set_option maxRecDepth 20000 in
theorem ggX5_powerOf_X5_sumOf : GoodIn wsX5_powerOf wsX5_sumOf := goodIn_r _ [6, 7, 8, 9, 10, 11, 12, 13, 5, 14, 15, 16, 17, 18, 19, 20, 21, 22, 23, 24, 25, 26, 27, 28, 1, 29, 30, 31, 32, 33, 34, 35, 36, 37, 38, 39, 40, 41, 42, 43, 44, 45, 46, 47, 48, 49, 50, 51, 52, 53, 54, 55, 56, 57, 58] (by decide +kernel) (by decide +kernel)
set_option maxRecDepth 20000 in
theorem gX5_powerOf_X5_sumOf : GoodIn wsX5_powerOf (wsV RX5 123 RX5 yX5_sumOf wsX5_sumOf) := goodIn_app (goodIn_of _ (by decide +kernel)) ggX5_powerOf_X5_sumOf
set_option maxRecDepth 20000 in
theorem ggX5_agreement_X5_delay : GoodIn wsX5_agreement wsX5_delay := goodIn_r _ [7, 8, 9, 10, 11, 6, 12, 25, 26, 27, 28, 29, 30, 31, 32, 33, 34, 35, 36, 37, 38, 39, 40, 41, 42, 43, 44, 45] (by decide +kernel) (by decide +kernel)
set_option maxRecDepth 20000 in
theorem gX5_agreement_X5_delay : GoodIn wsX5_agreement (wsV RX5 94 RX5 yX5_delay wsX5_delay) := goodIn_app (goodIn_of _ (by decide +kernel)) ggX5_agreement_X5_delay
set_option maxRecDepth 20000 in
theorem ggX5_agreement_X5_kept : GoodIn wsX5_agreement wsX5_kept := goodIn_r _ [16, 17, 18, 19, 6, 20, 21, 1, 22, 23, 24, 25, 26, 27, 28, 29, 30, 31, 32, 33, 34, 35, 36, 37, 38, 39, 40, 41, 42, 43, 44, 45] (by decide +kernel) (by decide +kernel)
set_option maxRecDepth 20000 in
theorem gX5_agreement_X5_kept : GoodIn wsX5_agreement (wsV RX5 115 RX5 yX5_kept wsX5_kept) := goodIn_app (goodIn_of _ (by decide +kernel)) ggX5_agreement_X5_kept
set_option maxRecDepth 20000 in
theorem ggX5_isFitted_X5_agreement : GoodIn wsX5_isFitted wsX5_agreement := goodIn_r _ [8, 9, 10, 11, 12, 13, 7, 14, 15, 16, 17, 18, 19, 20, 21, 22, 23, 24, 25, 26, 27, 28, 29, 30, 31, 38, 39, 40, 41, 42, 43, 44, 45, 46, 47, 48, 49, 50, 51, 52, 53, 54, 55, 56, 57, 58] (by decide +kernel) (by decide +kernel)
set_option maxRecDepth 20000 in
theorem gX5_isFitted_X5_agreement : GoodIn wsX5_isFitted (wsV RX5 127 RX5 yX5_agreement wsX5_agreement) := goodIn_app (goodIn_of _ (by decide +kernel)) ggX5_isFitted_X5_agreement
set_option maxRecDepth 20000 in
theorem ggX5_isFitted_X5_down : GoodIn wsX5_isFitted wsX5_down := goodIn_r _ [19] (by decide +kernel) (by decide +kernel)
set_option maxRecDepth 20000 in
theorem gX5_isFitted_X5_down : GoodIn wsX5_isFitted (va_wsS RX5 70 yX5_down wsX5_down) := goodIn_app (goodIn_of _ (by decide +kernel)) ggX5_isFitted_X5_down
set_option maxRecDepth 20000 in
theorem ggX5_isFitted_X5_becomes : GoodIn wsX5_isFitted wsX5_becomes := goodIn_r _ [35, 36, 37, 38, 39, 40, 41, 42, 43, 44, 45, 46, 47, 48, 49, 50, 51, 52, 53, 54, 55, 56, 57, 58] (by decide +kernel) (by decide +kernel)
set_option maxRecDepth 20000 in
theorem gX5_isFitted_X5_becomes : GoodIn wsX5_isFitted (wsV RX5 135 RX5 yX5_becomes wsX5_becomes) := goodIn_app (goodIn_of _ (by decide +kernel)) ggX5_isFitted_X5_becomes
set_option maxRecDepth 20000 in
theorem ggX5_calibrate_X5_isBearing : GoodIn wsX5_calibrate wsX5_isBearing := goodIn_r _ [6, 7, 8, 5, 9] (by decide +kernel) (by decide +kernel)
set_option maxRecDepth 20000 in
theorem gX5_calibrate_X5_isBearing : GoodIn wsX5_calibrate (va_wsS RX5 84 yX5_isBearing wsX5_isBearing) := goodIn_app (goodIn_of _ (by decide +kernel)) ggX5_calibrate_X5_isBearing
set_option maxRecDepth 20000 in
theorem ggX5_calibrate_X5_lowest : GoodIn wsX5_calibrate wsX5_lowest := goodIn_r _ [13, 1, 2, 56, 57, 58, 59, 60, 61, 62, 63, 64, 65, 66, 67, 68, 69, 70, 71, 72, 73, 74, 75, 76] (by decide +kernel) (by decide +kernel)
set_option maxRecDepth 20000 in
theorem gX5_calibrate_X5_lowest : GoodIn wsX5_calibrate (wsV RX5 138 RX5 yX5_lowest wsX5_lowest) := goodIn_app (goodIn_of _ (by decide +kernel)) ggX5_calibrate_X5_lowest
set_option maxRecDepth 20000 in
theorem ggX5_calibrate_X5_agreement : GoodIn wsX5_calibrate wsX5_agreement := goodIn_r _ [17, 18, 19, 20, 21, 22, 5, 23, 24, 25, 26, 27, 28, 29, 30, 31, 32, 33, 34, 35, 36, 37, 7, 8, 9, 56, 57, 58, 59, 60, 61, 62, 63, 64, 65, 66, 67, 68, 69, 70, 71, 72, 73, 74, 75, 76] (by decide +kernel) (by decide +kernel)
set_option maxRecDepth 20000 in
theorem gX5_calibrate_X5_agreement : GoodIn wsX5_calibrate (wsV RX5 127 RX5 yX5_agreement wsX5_agreement) := goodIn_app (goodIn_of _ (by decide +kernel)) ggX5_calibrate_X5_agreement
set_option maxRecDepth 20000 in
theorem ggX5_calibrate_X5_goes : GoodIn wsX5_calibrate wsX5_goes := goodIn_r _ [41, 42, 56, 57, 58, 59, 60, 61, 62, 63, 64, 65, 66, 67, 68, 69, 70, 71, 72, 73, 74, 75, 76] (by decide +kernel) (by decide +kernel)
set_option maxRecDepth 20000 in
theorem gX5_calibrate_X5_goes : GoodIn wsX5_calibrate (wsV RX5 74 RX5 yX5_goes wsX5_goes) := goodIn_app (goodIn_of _ (by decide +kernel)) ggX5_calibrate_X5_goes
set_option maxRecDepth 20000 in
theorem ggX5_calibrate_X5_becomes : GoodIn wsX5_calibrate wsX5_becomes := goodIn_r _ [46, 47, 48, 56, 57, 58, 59, 60, 61, 62, 63, 64, 65, 66, 67, 68, 69, 70, 71, 72, 73, 74, 75, 76] (by decide +kernel) (by decide +kernel)
set_option maxRecDepth 20000 in
theorem gX5_calibrate_X5_becomes : GoodIn wsX5_calibrate (wsV RX5 135 RX5 yX5_becomes wsX5_becomes) := goodIn_app (goodIn_of _ (by decide +kernel)) ggX5_calibrate_X5_becomes
set_option maxRecDepth 20000 in
theorem ggX5_calibrate_X5_isFitted : GoodIn wsX5_calibrate wsX5_isFitted := goodIn_r _ [52, 53, 54, 55, 14, 15, 16, 5, 17, 18, 19, 20, 21, 22, 23, 24, 25, 26, 27, 28, 29, 30, 31, 32, 33, 34, 35, 36, 37, 7, 8, 9, 43, 44, 45, 46, 47, 48, 56, 57, 58, 59, 60, 61, 62, 63, 64, 65, 66, 67, 68, 69, 70, 71, 72, 73, 74, 75, 76] (by decide +kernel) (by decide +kernel)
set_option maxRecDepth 20000 in
theorem gX5_calibrate_X5_isFitted : GoodIn wsX5_calibrate (wsV RX5 142 RX5 yX5_isFitted wsX5_isFitted) := goodIn_app (goodIn_of _ (by decide +kernel)) ggX5_calibrate_X5_isFitted
set_option maxRecDepth 20000 in
theorem ggX5_sample_X5_isElement : GoodIn wsX5_sample wsX5_isElement := goodIn_r _ [7, 8, 9, 10, 6, 11, 26, 27, 28, 29, 30, 31, 32, 33, 34, 35, 36, 37, 38, 39, 40, 41, 42, 43, 44, 45, 46] (by decide +kernel) (by decide +kernel)
set_option maxRecDepth 20000 in
theorem gX5_sample_X5_isElement : GoodIn wsX5_sample (wsV RX5 81 RX5 yX5_isElement wsX5_isElement) := goodIn_app (goodIn_of _ (by decide +kernel)) ggX5_sample_X5_isElement
set_option maxRecDepth 20000 in
theorem ggX5_sample_X5_isIn : GoodIn wsX5_sample wsX5_isIn := goodIn_r _ [11] (by decide +kernel) (by decide +kernel)
set_option maxRecDepth 20000 in
theorem gX5_sample_X5_isIn : GoodIn wsX5_sample (va_wsS RX5 64 yX5_isIn wsX5_isIn) := goodIn_app (goodIn_of _ (by decide +kernel)) ggX5_sample_X5_isIn
set_option maxRecDepth 20000 in
theorem ggX5_sample_X5_goes : GoodIn wsX5_sample wsX5_goes := goodIn_r _ [15, 16, 26, 27, 28, 29, 30, 31, 32, 33, 34, 35, 36, 37, 38, 39, 40, 41, 42, 43, 44, 45, 46] (by decide +kernel) (by decide +kernel)
set_option maxRecDepth 20000 in
theorem gX5_sample_X5_goes : GoodIn wsX5_sample (wsV RX5 74 RX5 yX5_goes wsX5_goes) := goodIn_app (goodIn_of _ (by decide +kernel)) ggX5_sample_X5_goes
set_option maxRecDepth 20000 in
theorem ggX5_sample_X5_kept : GoodIn wsX5_sample wsX5_kept := goodIn_r _ [20, 21, 22, 23, 6, 24, 25, 2, 9, 10, 11, 26, 27, 28, 29, 30, 31, 32, 33, 34, 35, 36, 37, 38, 39, 40, 41, 42, 43, 44, 45, 46] (by decide +kernel) (by decide +kernel)
set_option maxRecDepth 20000 in
theorem gX5_sample_X5_kept : GoodIn wsX5_sample (wsV RX5 115 RX5 yX5_kept wsX5_kept) := goodIn_app (goodIn_of _ (by decide +kernel)) ggX5_sample_X5_kept
set_option maxRecDepth 20000 in
theorem ggX5_sum_X5_isBearing : GoodIn wsX5_sum wsX5_isBearing := goodIn_r _ [6, 7, 8, 5, 9] (by decide +kernel) (by decide +kernel)
set_option maxRecDepth 20000 in
theorem gX5_sum_X5_isBearing : GoodIn wsX5_sum (va_wsS RX5 84 yX5_isBearing wsX5_isBearing) := goodIn_app (goodIn_of _ (by decide +kernel)) ggX5_sum_X5_isBearing
set_option maxRecDepth 20000 in
theorem ggX5_sum_X5_isIn : GoodIn wsX5_sum wsX5_isIn := goodIn_r _ [9] (by decide +kernel) (by decide +kernel)
set_option maxRecDepth 20000 in
theorem gX5_sum_X5_isIn : GoodIn wsX5_sum (va_wsS RX5 64 yX5_isIn wsX5_isIn) := goodIn_app (goodIn_of _ (by decide +kernel)) ggX5_sum_X5_isIn
set_option maxRecDepth 20000 in
theorem ggX5_sum_X5_goes : GoodIn wsX5_sum wsX5_goes := goodIn_r _ [13, 14, 47, 48, 49, 50, 51, 52, 53, 54, 55, 56, 57, 58, 59, 60, 61, 62, 63, 64, 65, 66, 67] (by decide +kernel) (by decide +kernel)
set_option maxRecDepth 20000 in
theorem gX5_sum_X5_goes : GoodIn wsX5_sum (wsV RX5 74 RX5 yX5_goes wsX5_goes) := goodIn_app (goodIn_of _ (by decide +kernel)) ggX5_sum_X5_goes
set_option maxRecDepth 20000 in
theorem ggX5_sum_X5_sumOf : GoodIn wsX5_sum wsX5_sumOf := goodIn_r _ [18, 19, 20, 21, 22, 23, 24, 25, 5, 26, 27, 28, 29, 30, 31, 32, 33, 34, 35, 36, 37, 38, 39, 40, 2, 7, 8, 9, 41, 42, 43, 44, 45, 46, 47, 48, 49, 50, 51, 52, 53, 54, 55, 56, 57, 58, 59, 60, 61, 62, 63, 64, 65, 66, 67] (by decide +kernel) (by decide +kernel)
set_option maxRecDepth 20000 in
theorem gX5_sum_X5_sumOf : GoodIn wsX5_sum (wsV RX5 123 RX5 yX5_sumOf wsX5_sumOf) := goodIn_app (goodIn_of _ (by decide +kernel)) ggX5_sum_X5_sumOf
set_option maxRecDepth 20000 in
theorem ggX5_power_X5_isBearing : GoodIn wsX5_power wsX5_isBearing := goodIn_r _ [5, 6, 7, 4, 8] (by decide +kernel) (by decide +kernel)
set_option maxRecDepth 20000 in
theorem gX5_power_X5_isBearing : GoodIn wsX5_power (va_wsS RX5 84 yX5_isBearing wsX5_isBearing) := goodIn_app (goodIn_of _ (by decide +kernel)) ggX5_power_X5_isBearing
set_option maxRecDepth 20000 in
theorem ggX5_power_X5_goes : GoodIn wsX5_power wsX5_goes := goodIn_r _ [12, 13, 51, 52, 53, 54, 55, 56, 57, 58, 59, 60, 61, 62, 63, 64, 65, 66, 67, 68, 69, 70, 71] (by decide +kernel) (by decide +kernel)
set_option maxRecDepth 20000 in
theorem gX5_power_X5_goes : GoodIn wsX5_power (wsV RX5 74 RX5 yX5_goes wsX5_goes) := goodIn_app (goodIn_of _ (by decide +kernel)) ggX5_power_X5_goes
set_option maxRecDepth 20000 in
theorem ggX5_power_X5_powerOf : GoodIn wsX5_power wsX5_powerOf := goodIn_r _ [17, 18, 19, 20, 21, 4, 22, 23, 24, 25, 26, 27, 28, 29, 30, 31, 32, 33, 34, 35, 36, 37, 38, 39, 40, 41, 42, 43, 44, 6, 7, 8, 45, 46, 47, 48, 49, 50, 51, 52, 53, 54, 55, 56, 57, 58, 59, 60, 61, 62, 63, 64, 65, 66, 67, 68, 69, 70, 71] (by decide +kernel) (by decide +kernel)
set_option maxRecDepth 20000 in
theorem gX5_power_X5_powerOf : GoodIn wsX5_power (wsV RX5 146 RX5 yX5_powerOf wsX5_powerOf) := goodIn_app (goodIn_of _ (by decide +kernel)) ggX5_power_X5_powerOf
set_option maxRecDepth 20000 in
theorem ggX5_powerAnew_X5_isBearing : GoodIn wsX5_powerAnew wsX5_isBearing := goodIn_r _ [5, 6, 7, 4, 8] (by decide +kernel) (by decide +kernel)
set_option maxRecDepth 20000 in
theorem gX5_powerAnew_X5_isBearing : GoodIn wsX5_powerAnew (va_wsS RX5 84 yX5_isBearing wsX5_isBearing) := goodIn_app (goodIn_of _ (by decide +kernel)) ggX5_powerAnew_X5_isBearing
set_option maxRecDepth 20000 in
theorem ggX5_powerAnew_X5_goes : GoodIn wsX5_powerAnew wsX5_goes := goodIn_r _ [12, 13, 51, 52, 53, 54, 55, 56, 57, 58, 59, 60, 61, 62, 63, 64, 65, 66, 67, 68, 69, 70, 71] (by decide +kernel) (by decide +kernel)
set_option maxRecDepth 20000 in
theorem gX5_powerAnew_X5_goes : GoodIn wsX5_powerAnew (wsV RX5 74 RX5 yX5_goes wsX5_goes) := goodIn_app (goodIn_of _ (by decide +kernel)) ggX5_powerAnew_X5_goes
set_option maxRecDepth 20000 in
theorem ggX5_powerAnew_X5_powerOf : GoodIn wsX5_powerAnew wsX5_powerOf := goodIn_r _ [17, 18, 19, 20, 21, 4, 22, 23, 24, 25, 26, 27, 28, 29, 30, 31, 32, 33, 34, 35, 36, 37, 38, 39, 40, 41, 42, 43, 44, 6, 7, 8, 45, 46, 47, 48, 49, 50, 51, 52, 53, 54, 55, 56, 57, 58, 59, 60, 61, 62, 63, 64, 65, 66, 67, 68, 69, 70, 71] (by decide +kernel) (by decide +kernel)
set_option maxRecDepth 20000 in
theorem gX5_powerAnew_X5_powerOf : GoodIn wsX5_powerAnew (wsV RX5 146 RX5 yX5_powerOf wsX5_powerOf) := goodIn_app (goodIn_of _ (by decide +kernel)) ggX5_powerAnew_X5_powerOf
set_option maxRecDepth 20000 in
theorem ggX5_findsPowers_X5_powerOf : GoodIn wsX5_findsPowers wsX5_powerOf := goodIn_r _ [6, 7, 8, 9, 10, 5, 11, 12, 13, 14, 15, 16, 17, 18, 19, 20, 21, 22, 23, 24, 25, 26, 27, 28, 29, 30, 31, 32, 33, 34, 35, 36, 37, 38, 39, 40, 41, 42, 43, 44, 45, 46, 47, 48, 49, 50, 51, 52, 53, 54, 55, 56, 57, 58, 59, 60, 61, 62, 63] (by decide +kernel) (by decide +kernel)
set_option maxRecDepth 20000 in
theorem gX5_findsPowers_X5_powerOf : GoodIn wsX5_findsPowers (wsV RX5 146 RX5 yX5_powerOf wsX5_powerOf) := goodIn_app (goodIn_of _ (by decide +kernel)) ggX5_findsPowers_X5_powerOf
set_option maxRecDepth 20000 in
theorem ggX5_peaks_X5_isIn : GoodIn wsX5_peaks wsX5_isIn := goodIn_r _ [7] (by decide +kernel) (by decide +kernel)
set_option maxRecDepth 20000 in
theorem gX5_peaks_X5_isIn : GoodIn wsX5_peaks (va_wsS RX5 64 yX5_isIn wsX5_isIn) := goodIn_app (goodIn_of _ (by decide +kernel)) ggX5_peaks_X5_isIn
set_option maxRecDepth 20000 in
theorem ggX5_peaks_X5_goes : GoodIn wsX5_peaks wsX5_goes := goodIn_r _ [11, 12, 58, 59, 60, 61, 62, 63, 64, 65, 66, 67, 68, 69, 70, 71, 72, 73, 74, 75, 76, 77, 78] (by decide +kernel) (by decide +kernel)
set_option maxRecDepth 20000 in
theorem gX5_peaks_X5_goes : GoodIn wsX5_peaks (wsV RX5 74 RX5 yX5_goes wsX5_goes) := goodIn_app (goodIn_of _ (by decide +kernel)) ggX5_peaks_X5_goes
set_option maxRecDepth 20000 in
theorem ggX5_peaks_X5_findsPowers : GoodIn wsX5_peaks wsX5_findsPowers := goodIn_r _ [16, 2, 17, 18, 19, 6, 20, 21, 22, 23, 24, 25, 26, 27, 28, 29, 30, 31, 32, 33, 34, 35, 36, 37, 38, 39, 40, 41, 42, 43, 44, 45, 46, 47, 4, 5, 7, 48, 49, 50, 51, 52, 53, 58, 59, 60, 61, 62, 63, 64, 65, 66, 67, 68, 69, 70, 71, 72, 73, 74, 75, 76, 77, 78] (by decide +kernel) (by decide +kernel)
set_option maxRecDepth 20000 in
theorem gX5_peaks_X5_findsPowers : GoodIn wsX5_peaks (wsV RX5 150 RX5 yX5_findsPowers wsX5_findsPowers) := goodIn_app (goodIn_of _ (by decide +kernel)) ggX5_peaks_X5_findsPowers
set_option maxRecDepth 20000 in
theorem ggX5_peaks_X5_greatest : GoodIn wsX5_peaks wsX5_greatest := goodIn_r _ [57, 2, 58, 59, 60, 61, 62, 63, 64, 65, 66, 67, 68, 69, 70, 71, 72, 73, 74, 75, 76, 77, 78] (by decide +kernel) (by decide +kernel)
set_option maxRecDepth 20000 in
theorem gX5_peaks_X5_greatest : GoodIn wsX5_peaks (wsV RX5 154 RX5 yX5_greatest wsX5_greatest) := goodIn_app (goodIn_of _ (by decide +kernel)) ggX5_peaks_X5_greatest
set_option maxRecDepth 20000 in
theorem ggX5_takes_X5_weight : GoodIn wsX5_takes wsX5_weight := goodIn_r _ [11, 1, 6, 12, 40, 41, 42, 43, 44, 45, 46, 47, 48, 49, 50, 51, 52, 53, 54, 55, 56, 57, 58, 59, 60] (by decide +kernel) (by decide +kernel)
set_option maxRecDepth 20000 in
theorem gX5_takes_X5_weight : GoodIn wsX5_takes (wsV RX5 119 RX5 yX5_weight wsX5_weight) := goodIn_app (goodIn_of _ (by decide +kernel)) ggX5_takes_X5_weight
set_option maxRecDepth 20000 in
theorem ggX5_takes_X5_sumOf : GoodIn wsX5_takes wsX5_sumOf := goodIn_r _ [16, 1, 5, 17, 18, 19, 20, 21, 10, 22, 23, 24, 25, 26, 27, 28, 29, 30, 31, 32, 33, 34, 35, 36, 4, 37, 38, 39, 7, 8, 9, 11, 6, 12, 40, 41, 42, 43, 44, 45, 46, 47, 48, 49, 50, 51, 52, 53, 54, 55, 56, 57, 58, 59, 60] (by decide +kernel) (by decide +kernel)
set_option maxRecDepth 20000 in
theorem gX5_takes_X5_sumOf : GoodIn wsX5_takes (wsV RX5 123 RX5 yX5_sumOf wsX5_sumOf) := goodIn_app (goodIn_of _ (by decide +kernel)) ggX5_takes_X5_sumOf
set_option maxRecDepth 20000 in
theorem ggX5_takes_X5_down : GoodIn wsX5_takes wsX5_down := goodIn_r _ [27] (by decide +kernel) (by decide +kernel)
set_option maxRecDepth 20000 in
theorem gX5_takes_X5_down : GoodIn wsX5_takes (va_wsS RX5 70 yX5_down wsX5_down) := goodIn_app (goodIn_of _ (by decide +kernel)) ggX5_takes_X5_down
set_option maxRecDepth 20000 in
theorem ggX5_takes_X5_delay : GoodIn wsX5_takes wsX5_delay := goodIn_r _ [22, 23, 24, 25, 26, 10, 27, 40, 41, 42, 43, 44, 45, 46, 47, 48, 49, 50, 51, 52, 53, 54, 55, 56, 57, 58, 59, 60] (by decide +kernel) (by decide +kernel)
set_option maxRecDepth 20000 in
theorem gX5_takes_X5_delay : GoodIn wsX5_takes (wsV RX5 94 RX5 yX5_delay wsX5_delay) := goodIn_app (goodIn_of _ (by decide +kernel)) ggX5_takes_X5_delay
set_option maxRecDepth 20000 in
theorem ggX5_takes_X5_isKept : GoodIn wsX5_takes wsX5_isKept := goodIn_r _ [35, 36, 4, 37, 38, 10, 39, 40, 41, 42, 43, 44, 45, 46, 47, 48, 49, 50, 51, 52, 53, 54, 55, 56, 57, 58, 59, 60] (by decide +kernel) (by decide +kernel)
set_option maxRecDepth 20000 in
theorem gX5_takes_X5_isKept : GoodIn wsX5_takes (wsV RX5 111 RX5 yX5_isKept wsX5_isKept) := goodIn_app (goodIn_of _ (by decide +kernel)) ggX5_takes_X5_isKept
set_option maxRecDepth 20000 in
theorem ggX5_found_X5_isIn : GoodIn wsX5_found wsX5_isIn := goodIn_r _ [7] (by decide +kernel) (by decide +kernel)
set_option maxRecDepth 20000 in
theorem gX5_found_X5_isIn : GoodIn wsX5_found (va_wsS RX5 64 yX5_isIn wsX5_isIn) := goodIn_app (goodIn_of _ (by decide +kernel)) ggX5_found_X5_isIn
set_option maxRecDepth 20000 in
theorem ggX5_found_X5_goes : GoodIn wsX5_found wsX5_goes := goodIn_r _ [11, 12, 63, 64, 65, 66, 67, 68, 69, 70, 71, 72, 73, 74, 75, 76, 77, 78, 79, 80, 81, 82, 83] (by decide +kernel) (by decide +kernel)
set_option maxRecDepth 20000 in
theorem gX5_found_X5_goes : GoodIn wsX5_found (wsV RX5 74 RX5 yX5_goes wsX5_goes) := goodIn_app (goodIn_of _ (by decide +kernel)) ggX5_found_X5_goes
set_option maxRecDepth 20000 in
theorem ggX5_found_X5_findsPowers : GoodIn wsX5_found wsX5_findsPowers := goodIn_r _ [16, 3, 17, 18, 19, 6, 20, 21, 22, 23, 24, 25, 26, 27, 28, 29, 30, 31, 32, 33, 34, 35, 36, 37, 38, 39, 40, 41, 42, 43, 44, 45, 46, 47, 4, 5, 7, 48, 49, 50, 51, 52, 53, 63, 64, 65, 66, 67, 68, 69, 70, 71, 72, 73, 74, 75, 76, 77, 78, 79, 80, 81, 82, 83] (by decide +kernel) (by decide +kernel)
set_option maxRecDepth 20000 in
theorem gX5_found_X5_findsPowers : GoodIn wsX5_found (wsV RX5 150 RX5 yX5_findsPowers wsX5_findsPowers) := goodIn_app (goodIn_of _ (by decide +kernel)) ggX5_found_X5_findsPowers
set_option maxRecDepth 20000 in
theorem ggX5_found_X5_greatest : GoodIn wsX5_found wsX5_greatest := goodIn_r _ [57, 3, 63, 64, 65, 66, 67, 68, 69, 70, 71, 72, 73, 74, 75, 76, 77, 78, 79, 80, 81, 82, 83] (by decide +kernel) (by decide +kernel)
set_option maxRecDepth 20000 in
theorem gX5_found_X5_greatest : GoodIn wsX5_found (wsV RX5 154 RX5 yX5_greatest wsX5_greatest) := goodIn_app (goodIn_of _ (by decide +kernel)) ggX5_found_X5_greatest
set_option maxRecDepth 20000 in
theorem ggX5_found_X5_takes : GoodIn wsX5_found wsX5_takes := goodIn_r _ [61, 26, 62, 1, 21, 27, 52, 48, 49, 50, 6, 51, 53, 22, 23, 24, 25, 28, 29, 30, 31, 32, 33, 34, 35, 36, 37, 38, 39, 40, 41, 42, 43, 44, 45, 46, 47, 4, 5, 7, 63, 64, 65, 66, 67, 68, 69, 70, 71, 72, 73, 74, 75, 76, 77, 78, 79, 80, 81, 82, 83] (by decide +kernel) (by decide +kernel)
set_option maxRecDepth 20000 in
theorem gX5_found_X5_takes : GoodIn wsX5_found (wsV RX5 159 RX5 yX5_takes wsX5_takes) := goodIn_app (goodIn_of _ (by decide +kernel)) ggX5_found_X5_takes
set_option maxRecDepth 20000 in
theorem ggX5_calibrated_X5_isElement : GoodIn wsX5_calibrated wsX5_isElement := goodIn_r _ [7, 8, 9, 10, 6, 11, 17, 18, 19, 20, 21, 22, 23, 24, 25, 26, 27, 28, 29, 30, 31, 32, 33, 34, 35, 36, 37] (by decide +kernel) (by decide +kernel)
set_option maxRecDepth 20000 in
theorem gX5_calibrated_X5_isElement : GoodIn wsX5_calibrated (wsV RX5 81 RX5 yX5_isElement wsX5_isElement) := goodIn_app (goodIn_of _ (by decide +kernel)) ggX5_calibrated_X5_isElement
set_option maxRecDepth 20000 in
theorem ggX5_calibrated_X5_goes : GoodIn wsX5_calibrated wsX5_goes := goodIn_r _ [15, 16, 17, 18, 19, 20, 21, 22, 23, 24, 25, 26, 27, 28, 29, 30, 31, 32, 33, 34, 35, 36, 37] (by decide +kernel) (by decide +kernel)
set_option maxRecDepth 20000 in
theorem gX5_calibrated_X5_goes : GoodIn wsX5_calibrated (wsV RX5 74 RX5 yX5_goes wsX5_goes) := goodIn_app (goodIn_of _ (by decide +kernel)) ggX5_calibrated_X5_goes
set_option maxRecDepth 20000 in
theorem ggL_element_X4_element : GoodIn wsL_element wsX4_element := goodIn_ca (goodIn_ca (goodIn_r _ [7, 8, 9, 10, 11, 12, 13, 14, 15, 16, 6, 17, 18, 19, 20, 21, 22, 23, 24, 25, 26, 27, 28, 29, 30, 31, 32, 33, 34, 35, 36, 37, 38, 39, 40, 41, 42, 43, 44, 45, 46, 47, 48, 49, 50, 51, 52, 53, 54, 55, 56, 57, 58] (by decide +kernel) (by decide +kernel)) (goodIn_sub (fun _ h => List.mem_cons_of_mem _ (List.mem_append_left _ (List.mem_append_right _ h))) (by decide +kernel))) (goodIn_sub (fun _ h => List.mem_cons_of_mem _ (List.mem_append_right _ h)) (by decide +kernel))
set_option maxRecDepth 20000 in
theorem gL_element_X4_element : GoodIn wsL_element (wsV RL 7 RX4 yX4_element wsX4_element) := goodIn_app (goodIn_of _ (by decide +kernel)) ggL_element_X4_element
set_option maxRecDepth 20000 in
theorem ggL_alive_X4_alive : GoodIn wsL_alive wsX4_alive := goodIn_ca (goodIn_r _ [6, 7, 8, 9, 10, 11, 12, 5, 13, 14, 15, 16, 17, 18, 19, 20, 21, 22, 23, 24, 25, 26, 27, 28, 29, 30, 31, 32, 33, 34, 35, 36, 37, 38, 39, 40, 41, 42, 43, 44] (by decide +kernel) (by decide +kernel)) (goodIn_sub (fun _ h => List.mem_cons_of_mem _ (List.mem_append_right _ h)) (by decide +kernel))
set_option maxRecDepth 20000 in
theorem gL_alive_X4_alive : GoodIn wsL_alive (wsV RL 17 RX4 yX4_alive wsX4_alive) := goodIn_app (goodIn_of _ (by decide +kernel)) ggL_alive_X4_alive
set_option maxRecDepth 20000 in
theorem ggL_source_X4_source : GoodIn wsL_source wsX4_source := goodIn_ca (goodIn_ca (goodIn_ca (goodIn_r _ [8, 9, 10, 11, 12, 13, 14, 15, 16, 17, 18, 7, 19, 20, 21, 22, 23, 24, 25, 26, 27, 28, 29, 30, 31, 32, 33, 34, 35, 36, 37, 38, 39, 40, 41, 42] (by decide +kernel) (by decide +kernel)) (goodIn_sub (fun _ h => List.mem_cons_of_mem _ (List.mem_append_left _ (List.mem_append_left _ (List.mem_append_right _ h)))) (by decide +kernel))) (goodIn_sub (fun _ h => List.mem_cons_of_mem _ (List.mem_append_left _ (List.mem_append_right _ h))) (by decide +kernel))) (goodIn_sub (fun _ h => List.mem_cons_of_mem _ (List.mem_append_right _ h)) (by decide +kernel))
set_option maxRecDepth 20000 in
theorem gL_source_X4_source : GoodIn wsL_source (wsV RL 23 RX4 yX4_source wsX4_source) := goodIn_app (goodIn_of _ (by decide +kernel)) ggL_source_X4_source
set_option maxRecDepth 20000 in
theorem ggL_noise_X4_noise : GoodIn wsL_noise wsX4_noise := goodIn_ca (goodIn_r _ [6, 7, 8, 9, 10, 11, 12, 5, 13, 14, 15, 16, 17, 18, 19, 20, 21, 22, 23, 24, 25, 26, 27, 28, 29, 30, 31, 32, 33, 34, 35] (by decide +kernel) (by decide +kernel)) (goodIn_sub (fun _ h => List.mem_cons_of_mem _ (List.mem_append_right _ h)) (by decide +kernel))
set_option maxRecDepth 20000 in
theorem gL_noise_X4_noise : GoodIn wsL_noise (wsV RL 26 RX4 yX4_noise wsX4_noise) := goodIn_app (goodIn_of _ (by decide +kernel)) ggL_noise_X4_noise
set_option maxRecDepth 20000 in
theorem ggL_hear_X4_hear : GoodIn wsL_hear wsX4_hear := goodIn_ca (goodIn_r _ [6, 7, 8, 9, 10, 11, 5, 12, 13, 14, 15, 16, 17, 18, 19, 20, 21, 22, 23, 24, 25, 26, 27, 28, 29, 30, 31, 32, 33, 34, 35, 36, 37, 38, 39, 40, 41, 42, 43, 44, 45, 46, 47, 48, 49, 50, 51, 52, 53, 54, 55, 56, 57, 58, 59, 60, 61, 62, 63, 64, 65, 66, 67, 68, 69, 70, 71, 72, 73, 74, 75, 76, 77, 78, 79, 80, 81, 82, 83, 84, 85, 86, 87, 88, 89, 90, 91, 92, 93, 94, 95, 96, 97, 98, 99, 100, 101, 102, 103, 104, 105, 106, 107, 108, 109, 110, 111, 112, 113, 114, 115, 116, 117, 118, 119, 120] (by decide +kernel) (by decide +kernel)) (goodIn_sub (fun _ h => List.mem_cons_of_mem _ (List.mem_append_right _ h)) (by decide +kernel))
set_option maxRecDepth 20000 in
theorem gL_hear_X4_hear : GoodIn wsL_hear (wsV RL 30 RX4 yX4_hear wsX4_hear) := goodIn_app (goodIn_of _ (by decide +kernel)) ggL_hear_X4_hear
set_option maxRecDepth 20000 in
theorem ggL_window_X4_window : GoodIn wsL_window wsX4_window := goodIn_ca (goodIn_r _ [6, 7, 8, 9, 10, 11, 5, 12, 13, 14, 15, 16, 17, 18, 19, 20, 21] (by decide +kernel) (by decide +kernel)) (goodIn_sub (fun _ h => List.mem_cons_of_mem _ (List.mem_append_right _ h)) (by decide +kernel))
set_option maxRecDepth 20000 in
theorem gL_window_X4_window : GoodIn wsL_window (wsV RL 34 RX4 yX4_window wsX4_window) := goodIn_app (goodIn_of _ (by decide +kernel)) ggL_window_X4_window
set_option maxRecDepth 20000 in
theorem ggL_calibrate_X4_calibrate : GoodIn wsL_calibrate wsX4_calibrate := goodIn_ca (goodIn_ca (goodIn_r _ [7, 8, 9, 10, 11, 12, 13, 6, 14, 15, 16, 17, 18, 19, 20, 21, 22, 23, 24, 25, 26, 27, 28, 29, 30, 31, 32, 33, 34, 35, 36, 37, 38, 39, 40, 41, 42, 43, 44, 45, 46, 47, 48, 49, 50, 51, 52, 53, 54, 55, 56, 57, 58, 59, 60, 61, 62, 63, 64, 65, 66, 67, 68, 69, 70, 71, 72, 73, 74, 75, 76, 77, 78, 79, 80, 81, 82, 83, 84, 85, 86, 87, 88, 89, 90, 91, 92, 93, 94, 95, 96, 97, 98, 99, 100, 101, 102, 103, 104, 105, 106, 107, 108, 109, 110, 111, 112, 113, 114, 115, 116, 117, 118, 119, 120, 121, 122, 123, 124, 125, 126, 127, 128, 129, 130, 131, 132, 133, 134, 135] (by decide +kernel) (by decide +kernel)) (goodIn_sub (fun _ h => List.mem_cons_of_mem _ (List.mem_append_left _ (List.mem_append_right _ h))) (by decide +kernel))) (goodIn_sub (fun _ h => List.mem_cons_of_mem _ (List.mem_append_right _ h)) (by decide +kernel))
set_option maxRecDepth 20000 in
theorem gL_calibrate_X4_calibrate : GoodIn wsL_calibrate (wsV RL 37 RX4 yX4_calibrate wsX4_calibrate) := goodIn_app (goodIn_of _ (by decide +kernel)) ggL_calibrate_X4_calibrate
set_option maxRecDepth 20000 in
theorem ggL_sample_X4_sample : GoodIn wsL_sample wsX4_sample := goodIn_ca (goodIn_r _ [6, 7, 8, 9, 10, 11, 12, 5, 13, 14, 15, 16, 17, 18, 19, 20, 21, 22, 23, 24, 25, 26, 27, 28, 29, 30, 31, 32, 33, 34, 35, 36, 37, 38, 39, 40, 41, 42, 43, 44, 45, 46, 47, 48, 49, 50, 51, 52, 53, 54, 55, 56, 57, 58, 59, 60, 61] (by decide +kernel) (by decide +kernel)) (goodIn_sub (fun _ h => List.mem_cons_of_mem _ (List.mem_append_right _ h)) (by decide +kernel))
set_option maxRecDepth 20000 in
theorem gL_sample_X4_sample : GoodIn wsL_sample (wsV RL 40 RX4 yX4_sample wsX4_sample) := goodIn_app (goodIn_of _ (by decide +kernel)) ggL_sample_X4_sample
set_option maxRecDepth 20000 in
theorem ggL_sum_X4_sum : GoodIn wsL_sum wsX4_sum := goodIn_ca (goodIn_r _ [6, 7, 8, 9, 10, 11, 5, 12, 13, 14, 15, 16, 17, 18, 19, 20, 21, 22, 23, 24, 25, 26, 27, 28, 29, 30, 31, 32, 33, 34, 35, 36, 37, 38, 39, 40, 41, 42, 43, 44, 45, 46, 47, 48, 49, 50, 51, 52, 53, 54, 55, 56, 57, 58, 59, 60, 61, 62, 63, 64, 65, 66, 67, 68, 69, 70, 71, 72, 73, 74, 75, 76, 77, 78, 79, 80, 81, 82, 83, 84, 85, 86, 87, 88, 89, 90, 91, 92, 93, 94, 95, 96, 97, 98, 99, 100, 101, 102, 103, 104, 105, 106, 107, 108, 109, 110, 111, 112, 113, 114, 115, 116, 117, 118, 119, 120] (by decide +kernel) (by decide +kernel)) (goodIn_sub (fun _ h => List.mem_cons_of_mem _ (List.mem_append_right _ h)) (by decide +kernel))
set_option maxRecDepth 20000 in
theorem gL_sum_X4_sum : GoodIn wsL_sum (wsV RL 43 RX4 yX4_sum wsX4_sum) := goodIn_app (goodIn_of _ (by decide +kernel)) ggL_sum_X4_sum
set_option maxRecDepth 20000 in
theorem ggL_power_X4_power : GoodIn wsL_power wsX4_power := goodIn_ca (goodIn_r _ [6, 7, 8, 9, 10, 5, 11, 12, 13, 14, 15, 16, 17, 18, 19, 20, 21, 22, 23, 24, 25, 26, 27, 28, 29, 30, 31, 32, 33, 34, 35, 36, 37, 38, 39, 40, 41, 42, 43, 44, 45, 46, 47, 48, 49, 50, 51, 52, 53, 54, 55, 56, 57, 58, 59, 60, 61, 62, 63, 64, 65, 66, 67, 68, 69, 70, 71, 72, 73, 74, 75, 76, 77, 78, 79, 80, 81, 82, 83, 84, 85, 86, 87, 88, 89, 90, 91, 92, 93, 94, 95, 96, 97, 98, 99, 100, 101, 102, 103, 104, 105, 106, 107, 108, 109, 110, 111, 112, 113, 114, 115, 116, 117, 118, 119, 120, 121, 122, 123, 124] (by decide +kernel) (by decide +kernel)) (goodIn_sub (fun _ h => List.mem_cons_of_mem _ (List.mem_append_right _ h)) (by decide +kernel))
set_option maxRecDepth 20000 in
theorem gL_power_X4_power : GoodIn wsL_power (wsV RL 47 RX4 yX4_power wsX4_power) := goodIn_app (goodIn_of _ (by decide +kernel)) ggL_power_X4_power
set_option maxRecDepth 20000 in
theorem ggL_powerAnew_X4_powerAnew : GoodIn wsL_powerAnew wsX4_powerAnew := goodIn_ca (goodIn_r _ [6, 7, 8, 9, 10, 5, 11, 12, 13, 14, 15, 16, 17, 18, 19, 20, 21, 22, 23, 24, 25, 26, 27, 28, 29, 30, 31, 32, 33, 34, 35, 36, 37, 38, 39, 40, 41, 42, 43, 44, 45, 46, 47, 48, 49, 50, 51, 52, 53, 54, 55, 56, 57, 58, 59, 60, 61, 62, 63, 64, 65, 66, 67, 68, 69, 70, 71, 72, 73, 74, 75, 76, 77, 78, 79, 80, 81, 82, 83, 84, 85, 86, 87, 88, 89, 90, 91, 92, 93, 94, 95, 96, 97, 98, 99, 100, 101, 102, 103, 104, 105, 106, 107, 108, 109, 110, 111, 112, 113, 114, 115] (by decide +kernel) (by decide +kernel)) (goodIn_sub (fun _ h => List.mem_cons_of_mem _ (List.mem_append_right _ h)) (by decide +kernel))
set_option maxRecDepth 20000 in
theorem gL_powerAnew_X4_powerAnew : GoodIn wsL_powerAnew (wsV RL 51 RX4 yX4_powerAnew wsX4_powerAnew) := goodIn_app (goodIn_of _ (by decide +kernel)) ggL_powerAnew_X4_powerAnew
set_option maxRecDepth 20000 in
theorem ggL_peaks_X4_peaks : GoodIn wsL_peaks wsX4_peaks := goodIn_ca (goodIn_r _ [6, 7, 8, 9, 10, 11, 12, 5, 13, 14, 15, 16, 17, 18, 19, 20, 21, 22, 23, 24, 25, 26, 27, 28, 29, 30, 31, 32, 33, 34, 35, 36, 37, 38, 39, 40, 41, 42, 43, 44, 45, 46, 47, 48, 49, 50, 51, 52, 53, 54, 55, 56, 57, 58, 59, 60, 61, 62, 63, 64, 65, 66, 67, 68, 69, 70, 71, 72, 73, 74, 75, 76, 77, 78, 79, 80, 81, 82, 83, 84, 85, 86, 87, 88, 89, 90, 91, 92, 93, 94, 95, 96, 97, 98, 99, 100, 101, 102, 103, 104, 105, 106, 107, 108, 109, 110, 111, 112, 113, 114, 115, 116, 117, 118, 119, 120, 121, 122, 123, 124, 125, 126, 127, 128, 129, 130, 131, 132, 133, 134, 135, 136, 137, 138] (by decide +kernel) (by decide +kernel)) (goodIn_sub (fun _ h => List.mem_cons_of_mem _ (List.mem_append_right _ h)) (by decide +kernel))
set_option maxRecDepth 20000 in
theorem gL_peaks_X4_peaks : GoodIn wsL_peaks (wsV RL 54 RX4 yX4_peaks wsX4_peaks) := goodIn_app (goodIn_of _ (by decide +kernel)) ggL_peaks_X4_peaks
set_option maxRecDepth 20000 in
theorem ggL_found_X4_found : GoodIn wsL_found wsX4_found := goodIn_ca (goodIn_r _ [6, 7, 8, 9, 10, 5, 11, 12, 13, 14, 15, 16, 17, 18, 19, 20, 21, 22, 23, 24, 25, 26, 27, 28, 29, 30, 31, 32, 33, 34, 35, 36, 37, 38, 39, 40, 41, 42, 43, 44, 45, 46, 47, 48, 49, 50, 51, 52, 53, 54, 55, 56, 57, 58, 59, 60, 61, 62, 63, 64, 65, 66, 67, 68, 69, 70, 71, 72, 73, 74, 75, 76, 77, 78, 79, 80, 81, 82, 83, 84, 85, 86, 87, 88, 89, 90, 91, 92, 93, 94, 95, 96, 97, 98, 99, 100, 101, 102, 103, 104, 105, 106, 107, 108, 109, 110, 111, 112, 113, 114, 115, 116, 117, 118, 119, 120, 121, 122, 123, 124, 125, 126, 127, 128, 129, 130, 131, 132, 133, 134, 135, 136, 137, 138, 139, 140, 141, 142, 143, 144] (by decide +kernel) (by decide +kernel)) (goodIn_sub (fun _ h => List.mem_cons_of_mem _ (List.mem_append_right _ h)) (by decide +kernel))
set_option maxRecDepth 20000 in
theorem gL_found_X4_found : GoodIn wsL_found (wsV RL 57 RX4 yX4_found wsX4_found) := goodIn_app (goodIn_of _ (by decide +kernel)) ggL_found_X4_found
set_option maxRecDepth 20000 in
theorem ggL_calibrated_X4_calibrated : GoodIn wsL_calibrated wsX4_calibrated := goodIn_ca (goodIn_r _ [6, 7, 8, 9, 10, 11, 12, 5, 13, 14, 15, 16, 17, 18, 19, 20, 21, 22, 23, 24, 25, 26, 27, 28, 29, 30, 31, 32, 33, 34, 35, 36, 37, 38, 39, 40, 41, 42, 43, 44, 45] (by decide +kernel) (by decide +kernel)) (goodIn_sub (fun _ h => List.mem_cons_of_mem _ (List.mem_append_right _ h)) (by decide +kernel))
set_option maxRecDepth 20000 in
theorem gL_calibrated_X4_calibrated : GoodIn wsL_calibrated (wsV RL 60 RX4 yX4_calibrated wsX4_calibrated) := goodIn_app (goodIn_of _ (by decide +kernel)) ggL_calibrated_X4_calibrated
set_option maxRecDepth 20000 in
theorem ggL_law_X4_init : GoodIn wsL_law wsX4_init := goodIn_r _ [9, 10, 11, 12, 13, 14, 15, 16, 17, 18, 19, 20, 6, 21, 22, 23, 24, 25, 26, 27, 28, 29, 30, 31, 32, 33, 34, 35, 36, 37, 38, 39, 40, 41, 42, 43, 44, 45, 46, 47, 48, 49, 50, 591, 592, 593, 594, 595, 596, 597, 598, 599, 621, 622, 623, 624, 625, 626, 627, 628, 629, 630, 631, 632, 633, 634, 635, 636, 637, 638, 639] (by decide +kernel) (by decide +kernel)
set_option maxRecDepth 20000 in
theorem gL_law_X4_init : GoodIn wsL_law (wsX4_init) := ggL_law_X4_init
set_option maxRecDepth 20000 in
theorem ggL_law_X5_init : GoodIn wsL_law wsX5_init := goodIn_r _ [53, 54, 11, 12, 45, 55, 56, 57, 58, 59, 60, 61, 62, 63, 64, 65, 66, 67, 68, 6, 69, 70, 600, 601, 602, 603, 604, 605, 606, 607, 608, 609, 610, 611, 612, 613, 614, 615, 616, 617, 618, 619, 620] (by decide +kernel) (by decide +kernel)
set_option maxRecDepth 20000 in
theorem gL_law_X5_init : GoodIn wsL_law (wsX5_init) := ggL_law_X5_init
set_option maxRecDepth 20000 in
theorem ggL_law_L_element : GoodIn wsL_law wsL_element := goodIn_ca (goodIn_ca (goodIn_r _ [74, 75, 76, 77, 78, 79, 2, 80, 81, 82, 83, 84, 85, 14, 86, 87, 88, 89, 90, 91, 92, 24, 93, 94, 95, 96, 97, 98, 38, 99, 100, 101, 37, 102, 103, 104, 591, 592, 593, 594, 595, 596, 597, 598, 599, 623, 624, 625, 626, 627, 628, 629, 630, 631, 632, 633, 637, 638, 639] (by decide +kernel) (by decide +kernel)) (goodIn_sub (fun _ h => List.mem_append_left _ (List.mem_append_left _ (List.mem_append_right _ h))) (by decide +kernel))) (goodIn_sub (fun _ h => List.mem_append_left _ (List.mem_append_right _ h)) (by decide +kernel))
set_option maxRecDepth 20000 in
theorem gL_law_L_element : GoodIn wsL_law (va_wsS RL 68 yL_element wsL_element) := goodIn_app (goodIn_of _ (by decide +kernel)) ggL_law_L_element
set_option maxRecDepth 20000 in
theorem ggL_law_X5_element : GoodIn wsL_law wsX5_element := goodIn_r _ [108, 109, 55, 56, 57, 58, 110, 60, 61, 62, 111, 112, 5, 113, 114, 115, 116, 117, 118, 600, 601, 602, 603, 604, 605, 606, 607, 608, 609, 610, 611, 612, 613, 614, 615, 616, 617, 618, 619, 620] (by decide +kernel) (by decide +kernel)
set_option maxRecDepth 20000 in
theorem gL_law_X5_element : GoodIn wsL_law (wsV RL 73 RX5 yX5_element wsX5_element) := goodIn_app (goodIn_of _ (by decide +kernel)) ggL_law_X5_element
set_option maxRecDepth 20000 in
theorem ggL_law_X5_thrown : GoodIn wsL_law wsX5_thrown := goodIn_r _ [122, 118, 600, 601, 602, 603, 604, 605, 606, 607, 608, 609, 610, 611, 612, 613, 614, 615, 616, 617, 618, 619, 620] (by decide +kernel) (by decide +kernel)
set_option maxRecDepth 20000 in
theorem gL_law_X5_thrown : GoodIn wsL_law (wsV RL 74 RX5 yX5_thrown wsX5_thrown) := goodIn_app (goodIn_of _ (by decide +kernel)) ggL_law_X5_thrown
set_option maxRecDepth 20000 in
theorem ggL_law_L_alive : GoodIn wsL_law wsL_alive := goodIn_ca (goodIn_r _ [125, 126, 127, 128, 129, 2, 130, 131, 132, 14, 133, 134, 135, 136, 85, 137, 138, 139, 24, 140, 95, 141, 142, 143, 144, 591, 592, 593, 594, 595, 596, 597, 598, 599, 623, 624, 625, 626, 627, 628, 629, 630, 631, 632, 633] (by decide +kernel) (by decide +kernel)) (goodIn_sub (fun _ h => List.mem_append_right _ h) (by decide +kernel))
set_option maxRecDepth 20000 in
theorem gL_law_L_alive : GoodIn wsL_law (va_wsS RL 78 yL_alive wsL_alive) := goodIn_app (goodIn_of _ (by decide +kernel)) ggL_law_L_alive
set_option maxRecDepth 20000 in
theorem ggL_law_X5_alive : GoodIn wsL_law wsX5_alive := goodIn_r _ [148, 60, 149, 150, 151, 5, 152, 109, 111, 112, 113, 114, 115, 116, 117, 118, 600, 601, 602, 603, 604, 605, 606, 607, 608, 609, 610, 611, 612, 613, 614, 615, 616, 617, 618, 619, 620] (by decide +kernel) (by decide +kernel)
set_option maxRecDepth 20000 in
theorem gL_law_X5_alive : GoodIn wsL_law (wsV RL 81 RX5 yX5_alive wsX5_alive) := goodIn_app (goodIn_of _ (by decide +kernel)) ggL_law_X5_alive
set_option maxRecDepth 20000 in
theorem ggL_law_L_source : GoodIn wsL_law wsL_source := goodIn_ca (goodIn_ca (goodIn_ca (goodIn_r _ [155, 126, 75, 76, 156, 157, 158, 2, 159, 131, 132, 81, 82, 83, 84, 160, 16, 161, 162, 163, 87, 88, 89, 164, 165, 166, 26, 167, 168, 169, 50, 591, 592, 593, 594, 595, 596, 597, 598, 599, 634, 635, 636] (by decide +kernel) (by decide +kernel)) (goodIn_sub (fun _ h => List.mem_append_right _ h) (by decide +kernel))) (goodIn_sub (fun _ h => List.mem_append_left _ (List.mem_append_left _ (List.mem_append_right _ h))) (by decide +kernel))) (goodIn_sub (fun _ h => List.mem_append_left _ (List.mem_append_right _ h)) (by decide +kernel))
set_option maxRecDepth 20000 in
theorem gL_law_L_source : GoodIn wsL_law (va_wsS RL 82 yL_source wsL_source) := goodIn_app (goodIn_of _ (by decide +kernel)) ggL_law_L_source
set_option maxRecDepth 20000 in
theorem ggL_law_X5_source : GoodIn wsL_law wsX5_source := goodIn_r _ [173, 174, 63, 64, 65, 111, 112, 5, 113, 175, 176, 177, 114, 115, 116, 117, 118, 600, 601, 602, 603, 604, 605, 606, 607, 608, 609, 610, 611, 612, 613, 614, 615, 616, 617, 618, 619, 620] (by decide +kernel) (by decide +kernel)
set_option maxRecDepth 20000 in
theorem gL_law_X5_source : GoodIn wsL_law (wsV RL 84 RX5 yX5_source wsX5_source) := goodIn_app (goodIn_of _ (by decide +kernel)) ggL_law_X5_source
set_option maxRecDepth 20000 in
theorem ggL_law_X4_silence : GoodIn wsL_law wsX4_silence := goodIn_r _ [181, 160, 591, 592, 593, 594, 595, 596, 597, 598, 599] (by decide +kernel) (by decide +kernel)
set_option maxRecDepth 20000 in
theorem gL_law_X4_silence : GoodIn wsL_law (wsV RL 85 RX4 yX4_silence wsX4_silence) := goodIn_app (goodIn_of _ (by decide +kernel)) ggL_law_X4_silence
set_option maxRecDepth 20000 in
theorem ggL_law_X5_silence : GoodIn wsL_law wsX5_silence := goodIn_r _ [185, 118, 174, 600, 601, 602, 603, 604, 605, 606, 607, 608, 609, 610, 611, 612, 613, 614, 615, 616, 617, 618, 619, 620] (by decide +kernel) (by decide +kernel)
set_option maxRecDepth 20000 in
theorem gL_law_X5_silence : GoodIn wsL_law (wsV RL 88 RX5 yX5_silence wsX5_silence) := goodIn_app (goodIn_of _ (by decide +kernel)) ggL_law_X5_silence
set_option maxRecDepth 20000 in
theorem ggL_law_L_noise : GoodIn wsL_law wsL_noise := goodIn_ca (goodIn_r _ [188, 75, 189, 190, 191, 2, 192, 81, 82, 193, 20, 87, 88, 89, 194, 195, 196, 19, 197, 198, 199, 200, 201, 202, 31, 591, 592, 593, 594, 595, 596, 597, 598, 599, 621, 622] (by decide +kernel) (by decide +kernel)) (goodIn_sub (fun _ h => List.mem_append_left _ (List.mem_append_left _ (List.mem_append_right _ h))) (by decide +kernel))
set_option maxRecDepth 20000 in
theorem gL_law_L_noise : GoodIn wsL_law (va_wsS RL 89 yL_noise wsL_noise) := goodIn_app (goodIn_of _ (by decide +kernel)) ggL_law_L_noise
set_option maxRecDepth 20000 in
theorem ggL_law_X5_noise : GoodIn wsL_law wsX5_noise := goodIn_r _ [206, 207, 208, 70, 111, 112, 5, 113, 114, 115, 116, 117, 118, 600, 601, 602, 603, 604, 605, 606, 607, 608, 609, 610, 611, 612, 613, 614, 615, 616, 617, 618, 619, 620] (by decide +kernel) (by decide +kernel)
set_option maxRecDepth 20000 in
theorem gL_law_X5_noise : GoodIn wsL_law (wsV RL 92 RX5 yX5_noise wsX5_noise) := goodIn_app (goodIn_of _ (by decide +kernel)) ggL_law_X5_noise
set_option maxRecDepth 20000 in
theorem ggL_law_L_hear : GoodIn wsL_law wsL_hear := goodIn_ca (goodIn_r _ [211, 75, 212, 213, 214, 2, 215, 81, 82, 86, 87, 88, 89, 216, 217, 218, 219, 14, 20, 220, 221, 222, 24, 223, 94, 224, 225, 226, 19, 227, 31, 228, 198, 137, 138, 139, 140, 95, 229, 230, 231, 232, 160, 16, 233, 234, 235, 26, 236, 168, 237, 238, 239, 240, 96, 241, 242, 243, 244, 245, 246, 247, 248, 98, 249, 250, 251, 252, 50, 169, 253, 254, 255, 256, 257, 258, 259, 97, 260, 261, 262, 263, 38, 264, 265, 266, 37, 267, 104, 46, 268, 269, 270, 591, 592, 593, 594, 595, 596, 597, 598, 599, 623, 624, 625, 626, 627, 628, 629, 630, 631, 632, 633, 621, 622, 634, 635, 636, 637, 638, 639] (by decide +kernel) (by decide +kernel)) (goodIn_sub (fun _ h => List.mem_append_left _ (List.mem_append_left _ (List.mem_append_right _ h))) (by decide +kernel))
set_option maxRecDepth 20000 in
theorem gL_law_L_hear : GoodIn wsL_law (va_wsS RL 93 yL_hear wsL_hear) := goodIn_app (goodIn_of _ (by decide +kernel)) ggL_law_L_hear
set_option maxRecDepth 20000 in
theorem ggL_law_X5_hear : GoodIn wsL_law wsX5_hear := goodIn_r _ [274, 109, 110, 111, 112, 5, 113, 114, 115, 116, 117, 118, 275, 276, 277, 278, 174, 63, 57, 70, 279, 208, 56, 280, 66, 60, 281, 282, 283, 284, 55, 285, 286, 287, 288, 289, 290, 291, 292, 65, 64, 600, 601, 602, 603, 604, 605, 606, 607, 608, 609, 610, 611, 612, 613, 614, 615, 616, 617, 618, 619, 620] (by decide +kernel) (by decide +kernel)
set_option maxRecDepth 20000 in
theorem gL_law_X5_hear : GoodIn wsL_law (wsV RL 96 RX5 yX5_hear wsX5_hear) := goodIn_app (goodIn_of _ (by decide +kernel)) ggL_law_X5_hear
set_option maxRecDepth 20000 in
theorem ggL_law_L_window : GoodIn wsL_law wsL_window := goodIn_ca (goodIn_r _ [295, 75, 296, 297, 298, 2, 299, 81, 82, 27, 87, 88, 89, 591, 592, 593, 594, 595, 596, 597, 598, 599] (by decide +kernel) (by decide +kernel)) (goodIn_sub (fun _ h => List.mem_append_left _ (List.mem_append_left _ (List.mem_append_right _ h))) (by decide +kernel))
set_option maxRecDepth 20000 in
theorem gL_law_L_window : GoodIn wsL_law (va_wsS RL 97 yL_window wsL_window) := goodIn_app (goodIn_of _ (by decide +kernel)) ggL_law_L_window
set_option maxRecDepth 20000 in
theorem ggL_law_X5_window : GoodIn wsL_law wsX5_window := goodIn_r _ [303, 304, 111, 112, 5, 113, 114, 115, 116, 117, 118, 600, 601, 602, 603, 604, 605, 606, 607, 608, 609, 610, 611, 612, 613, 614, 615, 616, 617, 618, 619, 620] (by decide +kernel) (by decide +kernel)
set_option maxRecDepth 20000 in
theorem gL_law_X5_window : GoodIn wsL_law (wsV RL 99 RX5 yX5_window wsX5_window) := goodIn_app (goodIn_of _ (by decide +kernel)) ggL_law_X5_window
set_option maxRecDepth 20000 in
theorem ggL_law_L_calibrate : GoodIn wsL_law wsL_calibrate := goodIn_ca (goodIn_ca (goodIn_r _ [307, 126, 76, 308, 309, 310, 2, 311, 131, 132, 83, 84, 161, 162, 163, 87, 88, 89, 312, 313, 314, 315, 14, 137, 138, 139, 24, 140, 95, 316, 317, 318, 319, 320, 321, 322, 323, 27, 324, 325, 326, 327, 328, 329, 330, 331, 332, 39, 38, 333, 334, 335, 37, 336, 104, 46, 268, 269, 270, 337, 338, 339, 340, 103, 341, 342, 343, 344, 41, 40, 345, 346, 347, 243, 348, 349, 350, 351, 352, 353, 238, 239, 240, 96, 241, 242, 244, 354, 355, 356, 357, 358, 359, 360, 361, 362, 363, 364, 365, 366, 367, 368, 369, 370, 371, 372, 373, 374, 375, 376, 377, 378, 379, 591, 592, 593, 594, 595, 596, 597, 598, 599, 623, 624, 625, 626, 627, 628, 629, 630, 631, 632, 633, 637, 638, 639] (by decide +kernel) (by decide +kernel)) (goodIn_sub (fun _ h => List.mem_append_right _ h) (by decide +kernel))) (goodIn_sub (fun _ h => List.mem_append_left _ (List.mem_append_right _ h)) (by decide +kernel))
set_option maxRecDepth 20000 in
theorem gL_law_L_calibrate : GoodIn wsL_law (va_wsS RL 100 yL_calibrate wsL_calibrate) := goodIn_app (goodIn_of _ (by decide +kernel)) ggL_law_L_calibrate
set_option maxRecDepth 20000 in
theorem ggL_law_X5_calibrate : GoodIn wsL_law wsX5_calibrate := goodIn_r _ [383, 109, 60, 175, 176, 5, 177, 111, 112, 113, 384, 385, 386, 387, 388, 389, 390, 391, 110, 66, 281, 282, 283, 284, 55, 285, 286, 287, 288, 392, 393, 394, 395, 396, 397, 398, 399, 58, 114, 115, 116, 117, 118, 400, 401, 402, 403, 61, 62, 404, 405, 406, 407, 280, 408, 409, 600, 601, 602, 603, 604, 605, 606, 607, 608, 609, 610, 611, 612, 613, 614, 615, 616, 617, 618, 619, 620] (by decide +kernel) (by decide +kernel)
set_option maxRecDepth 20000 in
theorem gL_law_X5_calibrate : GoodIn wsL_law (wsV RL 102 RX5 yX5_calibrate wsX5_calibrate) := goodIn_app (goodIn_of _ (by decide +kernel)) ggL_law_X5_calibrate
set_option maxRecDepth 20000 in
theorem ggL_law_L_sample : GoodIn wsL_law wsL_sample := goodIn_ca (goodIn_r _ [412, 126, 413, 414, 415, 2, 416, 131, 132, 14, 133, 134, 135, 136, 85, 87, 88, 89, 417, 418, 419, 24, 420, 38, 333, 334, 335, 37, 336, 104, 46, 268, 269, 270, 337, 338, 339, 340, 103, 591, 592, 593, 594, 595, 596, 597, 598, 599, 623, 624, 625, 626, 627, 628, 629, 630, 631, 632, 633, 637, 638, 639] (by decide +kernel) (by decide +kernel)) (goodIn_sub (fun _ h => List.mem_append_right _ h) (by decide +kernel))
set_option maxRecDepth 20000 in
theorem gL_law_L_sample : GoodIn wsL_law (va_wsS RL 103 yL_sample wsL_sample) := goodIn_app (goodIn_of _ (by decide +kernel)) ggL_law_L_sample
set_option maxRecDepth 20000 in
theorem ggL_law_X5_sample : GoodIn wsL_law wsX5_sample := goodIn_r _ [424, 66, 110, 149, 150, 151, 5, 152, 109, 111, 112, 113, 114, 115, 116, 117, 118, 392, 393, 394, 395, 396, 397, 398, 399, 58, 600, 601, 602, 603, 604, 605, 606, 607, 608, 609, 610, 611, 612, 613, 614, 615, 616, 617, 618, 619, 620] (by decide +kernel) (by decide +kernel)
set_option maxRecDepth 20000 in
theorem gL_law_X5_sample : GoodIn wsL_law (wsV RL 105 RX5 yX5_sample wsX5_sample) := goodIn_app (goodIn_of _ (by decide +kernel)) ggL_law_X5_sample
set_option maxRecDepth 20000 in
theorem ggL_law_L_sum : GoodIn wsL_law wsL_sum := goodIn_ca (goodIn_r _ [427, 126, 428, 429, 430, 2, 431, 131, 132, 21, 161, 162, 163, 87, 88, 89, 316, 317, 318, 319, 14, 137, 138, 139, 24, 140, 95, 320, 321, 322, 323, 27, 324, 325, 326, 327, 328, 329, 330, 331, 332, 39, 38, 333, 334, 335, 37, 336, 104, 46, 268, 269, 270, 337, 338, 339, 340, 103, 341, 342, 343, 344, 41, 40, 345, 346, 347, 243, 348, 432, 433, 434, 435, 436, 437, 438, 439, 440, 441, 442, 443, 444, 445, 446, 447, 366, 353, 238, 239, 240, 96, 241, 242, 244, 448, 449, 450, 451, 591, 592, 593, 594, 595, 596, 597, 598, 599, 623, 624, 625, 626, 627, 628, 629, 630, 631, 632, 633, 637, 638, 639] (by decide +kernel) (by decide +kernel)) (goodIn_sub (fun _ h => List.mem_append_right _ h) (by decide +kernel))
set_option maxRecDepth 20000 in
theorem gL_law_L_sum : GoodIn wsL_law (va_wsS RL 106 yL_sum wsL_sum) := goodIn_app (goodIn_of _ (by decide +kernel)) ggL_law_L_sum
set_option maxRecDepth 20000 in
theorem ggL_law_X5_sum : GoodIn wsL_law wsX5_sum := goodIn_r _ [455, 66, 110, 175, 176, 5, 177, 111, 112, 113, 114, 115, 116, 117, 118, 456, 457, 458, 459, 109, 62, 280, 61, 281, 282, 283, 284, 55, 285, 286, 287, 288, 392, 393, 394, 395, 396, 397, 398, 399, 58, 460, 461, 462, 463, 60, 304, 600, 601, 602, 603, 604, 605, 606, 607, 608, 609, 610, 611, 612, 613, 614, 615, 616, 617, 618, 619, 620] (by decide +kernel) (by decide +kernel)
set_option maxRecDepth 20000 in
theorem gL_law_X5_sum : GoodIn wsL_law (wsV RL 108 RX5 yX5_sum wsX5_sum) := goodIn_app (goodIn_of _ (by decide +kernel)) ggL_law_X5_sum
set_option maxRecDepth 20000 in
theorem ggL_law_L_power : GoodIn wsL_law wsL_power := goodIn_ca (goodIn_r _ [466, 126, 467, 468, 469, 2, 470, 131, 132, 161, 162, 163, 87, 88, 89, 316, 317, 318, 319, 14, 137, 138, 139, 24, 140, 95, 320, 321, 322, 323, 27, 324, 325, 326, 327, 328, 329, 330, 331, 332, 39, 38, 333, 334, 335, 37, 336, 104, 46, 268, 269, 270, 337, 338, 339, 340, 103, 341, 342, 343, 344, 41, 40, 345, 346, 347, 243, 348, 471, 472, 473, 474, 21, 432, 433, 434, 435, 436, 437, 438, 439, 440, 441, 442, 443, 444, 445, 446, 447, 366, 353, 238, 239, 240, 96, 241, 242, 244, 448, 449, 450, 451, 591, 592, 593, 594, 595, 596, 597, 598, 599, 623, 624, 625, 626, 627, 628, 629, 630, 631, 632, 633, 637, 638, 639] (by decide +kernel) (by decide +kernel)) (goodIn_sub (fun _ h => List.mem_append_right _ h) (by decide +kernel))
set_option maxRecDepth 20000 in
theorem gL_law_L_power : GoodIn wsL_law (va_wsS RL 109 yL_power wsL_power) := goodIn_app (goodIn_of _ (by decide +kernel)) ggL_law_L_power
set_option maxRecDepth 20000 in
theorem ggL_law_X5_power : GoodIn wsL_law wsX5_power := goodIn_r _ [478, 66, 175, 176, 5, 177, 111, 112, 113, 114, 115, 116, 117, 118, 479, 480, 481, 482, 110, 456, 457, 458, 459, 109, 62, 280, 61, 281, 282, 283, 284, 55, 285, 286, 287, 288, 392, 393, 394, 395, 396, 397, 398, 399, 58, 460, 461, 462, 463, 60, 304, 600, 601, 602, 603, 604, 605, 606, 607, 608, 609, 610, 611, 612, 613, 614, 615, 616, 617, 618, 619, 620] (by decide +kernel) (by decide +kernel)
set_option maxRecDepth 20000 in
theorem gL_law_X5_power : GoodIn wsL_law (wsV RL 111 RX5 yX5_power wsX5_power) := goodIn_app (goodIn_of _ (by decide +kernel)) ggL_law_X5_power
set_option maxRecDepth 20000 in
theorem ggL_law_L_powerAnew : GoodIn wsL_law wsL_powerAnew := goodIn_ca (goodIn_r _ [485, 126, 486, 487, 488, 2, 489, 131, 132, 161, 162, 163, 87, 88, 89, 316, 317, 318, 319, 14, 137, 138, 139, 24, 140, 95, 320, 321, 322, 323, 27, 324, 325, 326, 327, 328, 329, 330, 331, 332, 39, 38, 333, 334, 335, 37, 336, 104, 46, 268, 269, 270, 337, 338, 339, 340, 103, 341, 342, 343, 344, 41, 40, 345, 346, 347, 243, 348, 490, 491, 492, 493, 494, 495, 496, 497, 444, 445, 446, 447, 366, 353, 238, 239, 240, 96, 241, 242, 244, 448, 449, 450, 451, 591, 592, 593, 594, 595, 596, 597, 598, 599, 623, 624, 625, 626, 627, 628, 629, 630, 631, 632, 633, 637, 638, 639] (by decide +kernel) (by decide +kernel)) (goodIn_sub (fun _ h => List.mem_append_right _ h) (by decide +kernel))
set_option maxRecDepth 20000 in
theorem gL_law_L_powerAnew : GoodIn wsL_law (va_wsS RL 112 yL_powerAnew wsL_powerAnew) := goodIn_app (goodIn_of _ (by decide +kernel)) ggL_law_L_powerAnew
set_option maxRecDepth 20000 in
theorem ggL_law_X5_powerAnew : GoodIn wsL_law wsX5_powerAnew := goodIn_r _ [501, 66, 175, 176, 5, 177, 111, 112, 113, 114, 115, 116, 117, 118, 479, 480, 481, 482, 110, 456, 457, 458, 459, 109, 62, 280, 61, 281, 282, 283, 284, 55, 285, 286, 287, 288, 392, 393, 394, 395, 396, 397, 398, 399, 58, 460, 461, 462, 463, 60, 304, 600, 601, 602, 603, 604, 605, 606, 607, 608, 609, 610, 611, 612, 613, 614, 615, 616, 617, 618, 619, 620] (by decide +kernel) (by decide +kernel)
set_option maxRecDepth 20000 in
theorem gL_law_X5_powerAnew : GoodIn wsL_law (wsV RL 114 RX5 yX5_powerAnew wsX5_powerAnew) := goodIn_app (goodIn_of _ (by decide +kernel)) ggL_law_X5_powerAnew
set_option maxRecDepth 20000 in
theorem ggL_law_L_peaks : GoodIn wsL_law wsL_peaks := goodIn_ca (goodIn_r _ [504, 75, 505, 506, 507, 2, 508, 81, 82, 22, 509, 87, 88, 89, 316, 317, 318, 319, 14, 137, 138, 139, 24, 140, 95, 320, 321, 322, 323, 27, 324, 325, 326, 327, 328, 329, 330, 331, 332, 39, 38, 333, 334, 335, 37, 336, 104, 46, 268, 269, 270, 337, 338, 339, 340, 103, 341, 342, 343, 344, 41, 40, 345, 346, 347, 243, 348, 510, 511, 512, 513, 376, 377, 378, 471, 472, 473, 474, 21, 432, 433, 434, 435, 436, 437, 438, 439, 440, 441, 442, 443, 444, 445, 446, 447, 366, 353, 238, 239, 240, 96, 241, 242, 244, 448, 449, 450, 451, 514, 515, 516, 517, 518, 519, 520, 521, 591, 592, 593, 594, 595, 596, 597, 598, 599, 623, 624, 625, 626, 627, 628, 629, 630, 631, 632, 633, 637, 638, 639] (by decide +kernel) (by decide +kernel)) (goodIn_sub (fun _ h => List.mem_append_left _ (List.mem_append_left _ (List.mem_append_right _ h))) (by decide +kernel))
set_option maxRecDepth 20000 in
theorem gL_law_L_peaks : GoodIn wsL_law (va_wsS RL 115 yL_peaks wsL_peaks) := goodIn_app (goodIn_of _ (by decide +kernel)) ggL_law_L_peaks
set_option maxRecDepth 20000 in
theorem ggL_law_X5_peaks : GoodIn wsL_law wsX5_peaks := goodIn_r _ [525, 66, 69, 526, 111, 112, 5, 113, 114, 115, 116, 117, 118, 527, 528, 529, 530, 479, 480, 481, 482, 110, 456, 457, 458, 459, 109, 62, 280, 61, 281, 282, 283, 284, 55, 285, 286, 287, 288, 392, 393, 394, 395, 396, 397, 398, 399, 58, 460, 461, 462, 463, 60, 304, 531, 532, 533, 534, 600, 601, 602, 603, 604, 605, 606, 607, 608, 609, 610, 611, 612, 613, 614, 615, 616, 617, 618, 619, 620] (by decide +kernel) (by decide +kernel)
set_option maxRecDepth 20000 in
theorem gL_law_X5_peaks : GoodIn wsL_law (wsV RL 117 RX5 yX5_peaks wsX5_peaks) := goodIn_app (goodIn_of _ (by decide +kernel)) ggL_law_X5_peaks
set_option maxRecDepth 20000 in
theorem ggL_law_L_found : GoodIn wsL_law wsL_found := goodIn_ca (goodIn_r _ [537, 126, 538, 539, 540, 2, 541, 131, 132, 87, 88, 89, 316, 317, 318, 319, 14, 137, 138, 139, 24, 140, 95, 320, 321, 322, 323, 27, 324, 325, 326, 327, 328, 329, 330, 331, 332, 39, 38, 333, 334, 335, 37, 336, 104, 46, 268, 269, 270, 337, 338, 339, 340, 103, 341, 342, 343, 344, 41, 40, 345, 346, 347, 243, 348, 542, 543, 544, 545, 22, 510, 511, 512, 513, 376, 377, 378, 471, 472, 473, 474, 21, 432, 433, 434, 435, 436, 437, 438, 439, 440, 441, 442, 443, 444, 445, 446, 447, 366, 353, 238, 239, 240, 96, 241, 242, 244, 448, 449, 450, 451, 546, 547, 548, 549, 379, 550, 551, 552, 553, 554, 555, 591, 592, 593, 594, 595, 596, 597, 598, 599, 623, 624, 625, 626, 627, 628, 629, 630, 631, 632, 633, 637, 638, 639] (by decide +kernel) (by decide +kernel)) (goodIn_sub (fun _ h => List.mem_append_right _ h) (by decide +kernel))
set_option maxRecDepth 20000 in
theorem gL_law_L_found : GoodIn wsL_law (va_wsS RL 118 yL_found wsL_found) := goodIn_app (goodIn_of _ (by decide +kernel)) ggL_law_L_found
set_option maxRecDepth 20000 in
theorem ggL_law_X5_found : GoodIn wsL_law wsX5_found := goodIn_r _ [559, 67, 66, 69, 111, 112, 5, 113, 114, 115, 116, 117, 118, 527, 528, 529, 530, 479, 480, 481, 482, 110, 456, 457, 458, 459, 109, 62, 280, 61, 281, 282, 283, 284, 55, 285, 286, 287, 288, 392, 393, 394, 395, 396, 397, 398, 399, 58, 460, 461, 462, 463, 60, 304, 531, 532, 533, 534, 560, 561, 562, 563, 68, 600, 601, 602, 603, 604, 605, 606, 607, 608, 609, 610, 611, 612, 613, 614, 615, 616, 617, 618, 619, 620] (by decide +kernel) (by decide +kernel)
set_option maxRecDepth 20000 in
theorem gL_law_X5_found : GoodIn wsL_law (wsV RL 120 RX5 yX5_found wsX5_found) := goodIn_app (goodIn_of _ (by decide +kernel)) ggL_law_X5_found
set_option maxRecDepth 20000 in
theorem ggL_law_L_calibrated : GoodIn wsL_law wsL_calibrated := goodIn_ca (goodIn_r _ [566, 126, 567, 568, 569, 2, 570, 131, 132, 14, 133, 134, 135, 136, 85, 571, 572, 573, 24, 574, 366, 575, 576, 577, 578, 41, 591, 592, 593, 594, 595, 596, 597, 598, 599, 623, 624, 625, 626, 627, 628, 629, 630, 631, 632, 633] (by decide +kernel) (by decide +kernel)) (goodIn_sub (fun _ h => List.mem_append_right _ h) (by decide +kernel))
set_option maxRecDepth 20000 in
theorem gL_law_L_calibrated : GoodIn wsL_law (va_wsS RL 121 yL_calibrated wsL_calibrated) := goodIn_app (goodIn_of _ (by decide +kernel)) ggL_law_L_calibrated
set_option maxRecDepth 20000 in
theorem ggL_law_X5_calibrated : GoodIn wsL_law wsX5_calibrated := goodIn_r _ [582, 62, 61, 149, 150, 151, 5, 152, 109, 111, 112, 113, 114, 115, 116, 117, 118, 600, 601, 602, 603, 604, 605, 606, 607, 608, 609, 610, 611, 612, 613, 614, 615, 616, 617, 618, 619, 620] (by decide +kernel) (by decide +kernel)
set_option maxRecDepth 20000 in
theorem gL_law_X5_calibrated : GoodIn wsL_law (wsV RL 123 RX5 yX5_calibrated wsX5_calibrated) := goodIn_app (goodIn_of _ (by decide +kernel)) ggL_law_X5_calibrated
set_option maxRecDepth 20000 in
theorem ggL_law_X4_tick : GoodIn wsL_law wsX4_tick := goodIn_r _ [586, 86, 591, 592, 593, 594, 595, 596, 597, 598, 599] (by decide +kernel) (by decide +kernel)
set_option maxRecDepth 20000 in
theorem gL_law_X4_tick : GoodIn wsL_law (wsV RL 124 RX4 yX4_tick wsX4_tick) := goodIn_app (goodIn_of _ (by decide +kernel)) ggL_law_X4_tick
set_option maxRecDepth 20000 in
theorem ggL_law_X5_tick : GoodIn wsL_law wsX5_tick := goodIn_r _ [590, 118, 110, 600, 601, 602, 603, 604, 605, 606, 607, 608, 609, 610, 611, 612, 613, 614, 615, 616, 617, 618, 619, 620] (by decide +kernel) (by decide +kernel)
set_option maxRecDepth 20000 in
theorem gL_law_X5_tick : GoodIn wsL_law (wsV RL 127 RX5 yX5_tick wsX5_tick) := goodIn_app (goodIn_of _ (by decide +kernel)) ggL_law_X5_tick
end
section
theorem dX0_init_0 : decode cX0_init 0 = .ok (.aload_n 0, 1) := by decide +kernel
theorem dX0_init_1 : decode cX0_init 1 = .ok (.invokespecial 3, 3) := by decide +kernel
theorem dX0_init_4 : decode cX0_init 4 = .ok (.aload_n 0, 1) := by decide +kernel
theorem dX0_init_5 : decode cX0_init 5 = .ok (.new 9, 3) := by decide +kernel
theorem dX0_init_8 : decode cX0_init 8 = .ok (.dup, 1) := by decide +kernel
theorem dX0_init_9 : decode cX0_init 9 = .ok (.invokespecial 11, 3) := by decide +kernel
theorem dX0_init_12 : decode cX0_init 12 = .ok (.putfield 12, 3) := by decide +kernel
theorem dX0_init_15 : decode cX0_init 15 = .ok (.aload_n 0, 1) := by decide +kernel
theorem dX0_init_16 : decode cX0_init 16 = .ok (.bipush 64, 2) := by decide +kernel
theorem dX0_init_18 : decode cX0_init 18 = .ok (.newarray .long, 2) := by decide +kernel
theorem dX0_init_20 : decode cX0_init 20 = .ok (.putfield 18, 3) := by decide +kernel
theorem dX0_init_23 : decode cX0_init 23 = .ok (.aload_n 0, 1) := by decide +kernel
theorem dX0_init_24 : decode cX0_init 24 = .ok (.bipush 64, 2) := by decide +kernel
theorem dX0_init_26 : decode cX0_init 26 = .ok (.newarray .long, 2) := by decide +kernel
theorem dX0_init_28 : decode cX0_init 28 = .ok (.putfield 22, 3) := by decide +kernel
theorem dX0_init_31 : decode cX0_init 31 = .ok (.aload_n 0, 1) := by decide +kernel
theorem dX0_init_32 : decode cX0_init 32 = .ok (.bipush 64, 2) := by decide +kernel
theorem dX0_init_34 : decode cX0_init 34 = .ok (.putfield 25, 3) := by decide +kernel
theorem dX0_init_37 : decode cX0_init 37 = .ok (.return_, 1) := by decide +kernel
theorem dX0_putUp_0 : decode cX0_putUp 0 = .ok (.aload_n 0, 1) := by decide +kernel
theorem dX0_putUp_1 : decode cX0_putUp 1 = .ok (.iconst 1, 1) := by decide +kernel
theorem dX0_putUp_2 : decode cX0_putUp 2 = .ok (.putfield 29, 3) := by decide +kernel
theorem dX0_putUp_5 : decode cX0_putUp 5 = .ok (.aload_n 0, 1) := by decide +kernel
theorem dX0_putUp_6 : decode cX0_putUp 6 = .ok (.iconst 1, 1) := by decide +kernel
theorem dX0_putUp_7 : decode cX0_putUp 7 = .ok (.putfield 33, 3) := by decide +kernel
theorem dX0_putUp_10 : decode cX0_putUp 10 = .ok (.aload_n 0, 1) := by decide +kernel
theorem dX0_putUp_11 : decode cX0_putUp 11 = .ok (.iload_n 1, 1) := by decide +kernel
theorem dX0_putUp_12 : decode cX0_putUp 12 = .ok (.putfield 36, 3) := by decide +kernel
theorem dX0_putUp_15 : decode cX0_putUp 15 = .ok (.aload_n 0, 1) := by decide +kernel
theorem dX0_putUp_16 : decode cX0_putUp 16 = .ok (.iload_n 2, 1) := by decide +kernel
theorem dX0_putUp_17 : decode cX0_putUp 17 = .ok (.putfield 39, 3) := by decide +kernel
theorem dX0_putUp_20 : decode cX0_putUp 20 = .ok (.aload_n 0, 1) := by decide +kernel
theorem dX0_putUp_21 : decode cX0_putUp 21 = .ok (.iload_n 3, 1) := by decide +kernel
theorem dX0_putUp_22 : decode cX0_putUp 22 = .ok (.putfield 42, 3) := by decide +kernel
theorem dX0_putUp_25 : decode cX0_putUp 25 = .ok (.aload_n 0, 1) := by decide +kernel
theorem dX0_putUp_26 : decode cX0_putUp 26 = .ok (.getfield 12, 3) := by decide +kernel
theorem dX0_putUp_29 : decode cX0_putUp 29 = .ok (.iload 4, 2) := by decide +kernel
theorem dX0_putUp_31 : decode cX0_putUp 31 = .ok (.invokevirtual 45, 3) := by decide +kernel
theorem dX0_putUp_34 : decode cX0_putUp 34 = .ok (.return_, 1) := by decide +kernel
theorem dX0_isUp_0 : decode cX0_isUp 0 = .ok (.aload_n 0, 1) := by decide +kernel
theorem dX0_isUp_1 : decode cX0_isUp 1 = .ok (.getfield 29, 3) := by decide +kernel
theorem dX0_isUp_4 : decode cX0_isUp 4 = .ok (.ireturn, 1) := by decide +kernel
theorem dX0_isLiving_0 : decode cX0_isLiving 0 = .ok (.aload_n 0, 1) := by decide +kernel
theorem dX0_isLiving_1 : decode cX0_isLiving 1 = .ok (.getfield 33, 3) := by decide +kernel
theorem dX0_isLiving_4 : decode cX0_isLiving 4 = .ok (.ireturn, 1) := by decide +kernel
theorem dX0_setLiving_0 : decode cX0_setLiving 0 = .ok (.aload_n 0, 1) := by decide +kernel
theorem dX0_setLiving_1 : decode cX0_setLiving 1 = .ok (.iload_n 1, 1) := by decide +kernel
theorem dX0_setLiving_2 : decode cX0_setLiving 2 = .ok (.putfield 33, 3) := by decide +kernel
theorem dX0_setLiving_5 : decode cX0_setLiving 5 = .ok (.return_, 1) := by decide +kernel
theorem dX0_getLag_0 : decode cX0_getLag 0 = .ok (.aload_n 0, 1) := by decide +kernel
theorem dX0_getLag_1 : decode cX0_getLag 1 = .ok (.getfield 42, 3) := by decide +kernel
theorem dX0_getLag_4 : decode cX0_getLag 4 = .ok (.ireturn, 1) := by decide +kernel
theorem dX0_getTrimGain_0 : decode cX0_getTrimGain 0 = .ok (.aload_n 0, 1) := by decide +kernel
theorem dX0_getTrimGain_1 : decode cX0_getTrimGain 1 = .ok (.getfield 25, 3) := by decide +kernel
theorem dX0_getTrimGain_4 : decode cX0_getTrimGain 4 = .ok (.ireturn, 1) := by decide +kernel
theorem dX0_getTrimLag_0 : decode cX0_getTrimLag 0 = .ok (.aload_n 0, 1) := by decide +kernel
theorem dX0_getTrimLag_1 : decode cX0_getTrimLag 1 = .ok (.getfield 49, 3) := by decide +kernel
theorem dX0_getTrimLag_4 : decode cX0_getTrimLag 4 = .ok (.ireturn, 1) := by decide +kernel
theorem dX0_trim_0 : decode cX0_trim 0 = .ok (.iload_n 1, 1) := by decide +kernel
theorem dX0_trim_1 : decode cX0_trim 1 = .ok (.aload_n 0, 1) := by decide +kernel
theorem dX0_trim_2 : decode cX0_trim 2 = .ok (.getfield 25, 3) := by decide +kernel
theorem dX0_trim_5 : decode cX0_trim 5 = .ok (.if_icmp .ne 11, 3) := by decide +kernel
theorem dX0_trim_8 : decode cX0_trim 8 = .ok (.iload_n 2, 1) := by decide +kernel
theorem dX0_trim_9 : decode cX0_trim 9 = .ok (.aload_n 0, 1) := by decide +kernel
theorem dX0_trim_10 : decode cX0_trim 10 = .ok (.getfield 49, 3) := by decide +kernel
theorem dX0_trim_13 : decode cX0_trim 13 = .ok (.if_icmp .eq 7, 3) := by decide +kernel
theorem dX0_trim_16 : decode cX0_trim 16 = .ok (.iconst 1, 1) := by decide +kernel
theorem dX0_trim_17 : decode cX0_trim 17 = .ok (.goto 4, 3) := by decide +kernel
theorem dX0_trim_20 : decode cX0_trim 20 = .ok (.iconst 0, 1) := by decide +kernel
theorem dX0_trim_21 : decode cX0_trim 21 = .ok (.istore_n 3, 1) := by decide +kernel
theorem dX0_trim_22 : decode cX0_trim 22 = .ok (.aload_n 0, 1) := by decide +kernel
theorem dX0_trim_23 : decode cX0_trim 23 = .ok (.iload_n 1, 1) := by decide +kernel
theorem dX0_trim_24 : decode cX0_trim 24 = .ok (.putfield 25, 3) := by decide +kernel
theorem dX0_trim_27 : decode cX0_trim 27 = .ok (.aload_n 0, 1) := by decide +kernel
theorem dX0_trim_28 : decode cX0_trim 28 = .ok (.iload_n 2, 1) := by decide +kernel
theorem dX0_trim_29 : decode cX0_trim 29 = .ok (.putfield 49, 3) := by decide +kernel
theorem dX0_trim_32 : decode cX0_trim 32 = .ok (.iload_n 3, 1) := by decide +kernel
theorem dX0_trim_33 : decode cX0_trim 33 = .ok (.ireturn, 1) := by decide +kernel
theorem dX0_delayFor_0 : decode cX0_delayFor 0 = .ok (.aload_n 0, 1) := by decide +kernel
theorem dX0_delayFor_1 : decode cX0_delayFor 1 = .ok (.getfield 36, 3) := by decide +kernel
theorem dX0_delayFor_4 : decode cX0_delayFor 4 = .ok (.iload_n 1, 1) := by decide +kernel
theorem dX0_delayFor_5 : decode cX0_delayFor 5 = .ok (.imul, 1) := by decide +kernel
theorem dX0_delayFor_6 : decode cX0_delayFor 6 = .ok (.iconst 4, 1) := by decide +kernel
theorem dX0_delayFor_7 : decode cX0_delayFor 7 = .ok (.invokestatic 52, 3) := by decide +kernel
theorem dX0_delayFor_10 : decode cX0_delayFor 10 = .ok (.ireturn, 1) := by decide +kernel
theorem dX0_heardOf_0 : decode cX0_heardOf 0 = .ok (.iload_n 1, 1) := by decide +kernel
theorem dX0_heardOf_1 : decode cX0_heardOf 1 = .ok (.aload_n 0, 1) := by decide +kernel
theorem dX0_heardOf_2 : decode cX0_heardOf 2 = .ok (.getfield 39, 3) := by decide +kernel
theorem dX0_heardOf_5 : decode cX0_heardOf 5 = .ok (.imul, 1) := by decide +kernel
theorem dX0_heardOf_6 : decode cX0_heardOf 6 = .ok (.bipush 64, 2) := by decide +kernel
theorem dX0_heardOf_8 : decode cX0_heardOf 8 = .ok (.invokestatic 52, 3) := by decide +kernel
theorem dX0_heardOf_11 : decode cX0_heardOf 11 = .ok (.ireturn, 1) := by decide +kernel
theorem dX0_keep_0 : decode cX0_keep 0 = .ok (.aload_n 0, 1) := by decide +kernel
theorem dX0_keep_1 : decode cX0_keep 1 = .ok (.getfield 12, 3) := by decide +kernel
theorem dX0_keep_4 : decode cX0_keep 4 = .ok (.iload_n 1, 1) := by decide +kernel
theorem dX0_keep_5 : decode cX0_keep 5 = .ok (.invokevirtual 58, 3) := by decide +kernel
theorem dX0_keep_8 : decode cX0_keep 8 = .ok (.return_, 1) := by decide +kernel
theorem dX0_keptAt_0 : decode cX0_keptAt 0 = .ok (.aload_n 0, 1) := by decide +kernel
theorem dX0_keptAt_1 : decode cX0_keptAt 1 = .ok (.getfield 12, 3) := by decide +kernel
theorem dX0_keptAt_4 : decode cX0_keptAt 4 = .ok (.bipush 63, 2) := by decide +kernel
theorem dX0_keptAt_6 : decode cX0_keptAt 6 = .ok (.iload_n 1, 1) := by decide +kernel
theorem dX0_keptAt_7 : decode cX0_keptAt 7 = .ok (.isub, 1) := by decide +kernel
theorem dX0_keptAt_8 : decode cX0_keptAt 8 = .ok (.invokevirtual 61, 3) := by decide +kernel
theorem dX0_keptAt_11 : decode cX0_keptAt 11 = .ok (.ireturn, 1) := by decide +kernel
theorem dX0_layOut_0 : decode cX0_layOut 0 = .ok (.aload_n 0, 1) := by decide +kernel
theorem dX0_layOut_1 : decode cX0_layOut 1 = .ok (.iload_n 1, 1) := by decide +kernel
theorem dX0_layOut_2 : decode cX0_layOut 2 = .ok (.i2l, 1) := by decide +kernel
theorem dX0_layOut_3 : decode cX0_layOut 3 = .ok (.putfield 65, 3) := by decide +kernel
theorem dX0_layOut_6 : decode cX0_layOut 6 = .ok (.aload_n 0, 1) := by decide +kernel
theorem dX0_layOut_7 : decode cX0_layOut 7 = .ok (.getfield 65, 3) := by decide +kernel
theorem dX0_layOut_10 : decode cX0_layOut 10 = .ok (.lconst 0, 1) := by decide +kernel
theorem dX0_layOut_11 : decode cX0_layOut 11 = .ok (.lcmp, 1) := by decide +kernel
theorem dX0_layOut_12 : decode cX0_layOut 12 = .ok (.ifCond .le 39, 3) := by decide +kernel
theorem dX0_layOut_15 : decode cX0_layOut 15 = .ok (.iconst 0, 1) := by decide +kernel
theorem dX0_layOut_16 : decode cX0_layOut 16 = .ok (.istore_n 2, 1) := by decide +kernel
theorem dX0_layOut_17 : decode cX0_layOut 17 = .ok (.iload_n 2, 1) := by decide +kernel
theorem dX0_layOut_18 : decode cX0_layOut 18 = .ok (.aload_n 0, 1) := by decide +kernel
theorem dX0_layOut_19 : decode cX0_layOut 19 = .ok (.getfield 18, 3) := by decide +kernel
theorem dX0_layOut_22 : decode cX0_layOut 22 = .ok (.arraylength, 1) := by decide +kernel
theorem dX0_layOut_23 : decode cX0_layOut 23 = .ok (.if_icmp .ge 24, 3) := by decide +kernel
theorem dX0_layOut_26 : decode cX0_layOut 26 = .ok (.aload_n 0, 1) := by decide +kernel
theorem dX0_layOut_27 : decode cX0_layOut 27 = .ok (.getfield 18, 3) := by decide +kernel
theorem dX0_layOut_30 : decode cX0_layOut 30 = .ok (.iload_n 2, 1) := by decide +kernel
theorem dX0_layOut_31 : decode cX0_layOut 31 = .ok (.aload_n 0, 1) := by decide +kernel
theorem dX0_layOut_32 : decode cX0_layOut 32 = .ok (.getfield 12, 3) := by decide +kernel
theorem dX0_layOut_35 : decode cX0_layOut 35 = .ok (.iload_n 2, 1) := by decide +kernel
theorem dX0_layOut_36 : decode cX0_layOut 36 = .ok (.invokevirtual 61, 3) := by decide +kernel
theorem dX0_layOut_39 : decode cX0_layOut 39 = .ok (.i2l, 1) := by decide +kernel
theorem dX0_layOut_40 : decode cX0_layOut 40 = .ok (.lastore, 1) := by decide +kernel
theorem dX0_layOut_41 : decode cX0_layOut 41 = .ok (.iinc 2 1, 3) := by decide +kernel
theorem dX0_layOut_44 : decode cX0_layOut 44 = .ok (.goto (-27), 3) := by decide +kernel
theorem dX0_layOut_47 : decode cX0_layOut 47 = .ok (.aload_n 0, 1) := by decide +kernel
theorem dX0_layOut_48 : decode cX0_layOut 48 = .ok (.invokevirtual 69, 3) := by decide +kernel
theorem dX0_layOut_51 : decode cX0_layOut 51 = .ok (.return_, 1) := by decide +kernel
theorem dX0_turnAll_0 : decode cX0_turnAll 0 = .ok (.aload_n 0, 1) := by decide +kernel
theorem dX0_turnAll_1 : decode cX0_turnAll 1 = .ok (.getfield 65, 3) := by decide +kernel
theorem dX0_turnAll_4 : decode cX0_turnAll 4 = .ok (.lconst 0, 1) := by decide +kernel
theorem dX0_turnAll_5 : decode cX0_turnAll 5 = .ok (.lcmp, 1) := by decide +kernel
theorem dX0_turnAll_6 : decode cX0_turnAll 6 = .ok (.ifCond .le 60, 3) := by decide +kernel
theorem dX0_turnAll_9 : decode cX0_turnAll 9 = .ok (.aload_n 0, 1) := by decide +kernel
theorem dX0_turnAll_10 : decode cX0_turnAll 10 = .ok (.getfield 25, 3) := by decide +kernel
theorem dX0_turnAll_13 : decode cX0_turnAll 13 = .ok (.ifCond .le 53, 3) := by decide +kernel
theorem dX0_turnAll_16 : decode cX0_turnAll 16 = .ok (.iconst 0, 1) := by decide +kernel
theorem dX0_turnAll_17 : decode cX0_turnAll 17 = .ok (.istore_n 1, 1) := by decide +kernel
theorem dX0_turnAll_18 : decode cX0_turnAll 18 = .ok (.iload_n 1, 1) := by decide +kernel
theorem dX0_turnAll_19 : decode cX0_turnAll 19 = .ok (.aload_n 0, 1) := by decide +kernel
theorem dX0_turnAll_20 : decode cX0_turnAll 20 = .ok (.getfield 22, 3) := by decide +kernel
theorem dX0_turnAll_23 : decode cX0_turnAll 23 = .ok (.arraylength, 1) := by decide +kernel
theorem dX0_turnAll_24 : decode cX0_turnAll 24 = .ok (.if_icmp .ge 42, 3) := by decide +kernel
theorem dX0_turnAll_27 : decode cX0_turnAll 27 = .ok (.iload_n 1, 1) := by decide +kernel
theorem dX0_turnAll_28 : decode cX0_turnAll 28 = .ok (.aload_n 0, 1) := by decide +kernel
theorem dX0_turnAll_29 : decode cX0_turnAll 29 = .ok (.getfield 18, 3) := by decide +kernel
theorem dX0_turnAll_32 : decode cX0_turnAll 32 = .ok (.arraylength, 1) := by decide +kernel
theorem dX0_turnAll_33 : decode cX0_turnAll 33 = .ok (.if_icmp .ge 33, 3) := by decide +kernel
theorem dX0_turnAll_36 : decode cX0_turnAll 36 = .ok (.aload_n 0, 1) := by decide +kernel
theorem dX0_turnAll_37 : decode cX0_turnAll 37 = .ok (.getfield 22, 3) := by decide +kernel
theorem dX0_turnAll_40 : decode cX0_turnAll 40 = .ok (.iload_n 1, 1) := by decide +kernel
theorem dX0_turnAll_41 : decode cX0_turnAll 41 = .ok (.aload_n 0, 1) := by decide +kernel
theorem dX0_turnAll_42 : decode cX0_turnAll 42 = .ok (.getfield 18, 3) := by decide +kernel
theorem dX0_turnAll_45 : decode cX0_turnAll 45 = .ok (.iload_n 1, 1) := by decide +kernel
theorem dX0_turnAll_46 : decode cX0_turnAll 46 = .ok (.laload, 1) := by decide +kernel
theorem dX0_turnAll_47 : decode cX0_turnAll 47 = .ok (.ldc2_w 72, 3) := by decide +kernel
theorem dX0_turnAll_50 : decode cX0_turnAll 50 = .ok (.lmul, 1) := by decide +kernel
theorem dX0_turnAll_51 : decode cX0_turnAll 51 = .ok (.aload_n 0, 1) := by decide +kernel
theorem dX0_turnAll_52 : decode cX0_turnAll 52 = .ok (.getfield 25, 3) := by decide +kernel
theorem dX0_turnAll_55 : decode cX0_turnAll 55 = .ok (.i2l, 1) := by decide +kernel
theorem dX0_turnAll_56 : decode cX0_turnAll 56 = .ok (.invokestatic 74, 3) := by decide +kernel
theorem dX0_turnAll_59 : decode cX0_turnAll 59 = .ok (.lastore, 1) := by decide +kernel
theorem dX0_turnAll_60 : decode cX0_turnAll 60 = .ok (.iinc 1 1, 3) := by decide +kernel
theorem dX0_turnAll_63 : decode cX0_turnAll 63 = .ok (.goto (-45), 3) := by decide +kernel
theorem dX0_turnAll_66 : decode cX0_turnAll 66 = .ok (.return_, 1) := by decide +kernel
theorem dX0_firstTold_0 : decode cX0_firstTold 0 = .ok (.bipush 16, 2) := by decide +kernel
theorem dX0_firstTold_2 : decode cX0_firstTold 2 = .ok (.aload_n 0, 1) := by decide +kernel
theorem dX0_firstTold_3 : decode cX0_firstTold 3 = .ok (.iload_n 1, 1) := by decide +kernel
theorem dX0_firstTold_4 : decode cX0_firstTold 4 = .ok (.invokevirtual 77, 3) := by decide +kernel
theorem dX0_firstTold_7 : decode cX0_firstTold 7 = .ok (.iadd, 1) := by decide +kernel
theorem dX0_firstTold_8 : decode cX0_firstTold 8 = .ok (.aload_n 0, 1) := by decide +kernel
theorem dX0_firstTold_9 : decode cX0_firstTold 9 = .ok (.getfield 49, 3) := by decide +kernel
theorem dX0_firstTold_12 : decode cX0_firstTold 12 = .ok (.iadd, 1) := by decide +kernel
theorem dX0_firstTold_13 : decode cX0_firstTold 13 = .ok (.ireturn, 1) := by decide +kernel
theorem dX0_toldAt_0 : decode cX0_toldAt 0 = .ok (.iload_n 1, 1) := by decide +kernel
theorem dX0_toldAt_1 : decode cX0_toldAt 1 = .ok (.ifCond .lt 21, 3) := by decide +kernel
theorem dX0_toldAt_4 : decode cX0_toldAt 4 = .ok (.iload_n 1, 1) := by decide +kernel
theorem dX0_toldAt_5 : decode cX0_toldAt 5 = .ok (.aload_n 0, 1) := by decide +kernel
theorem dX0_toldAt_6 : decode cX0_toldAt 6 = .ok (.getfield 22, 3) := by decide +kernel
theorem dX0_toldAt_9 : decode cX0_toldAt 9 = .ok (.arraylength, 1) := by decide +kernel
theorem dX0_toldAt_10 : decode cX0_toldAt 10 = .ok (.if_icmp .ge 12, 3) := by decide +kernel
theorem dX0_toldAt_13 : decode cX0_toldAt 13 = .ok (.aload_n 0, 1) := by decide +kernel
theorem dX0_toldAt_14 : decode cX0_toldAt 14 = .ok (.getfield 22, 3) := by decide +kernel
theorem dX0_toldAt_17 : decode cX0_toldAt 17 = .ok (.iload_n 1, 1) := by decide +kernel
theorem dX0_toldAt_18 : decode cX0_toldAt 18 = .ok (.laload, 1) := by decide +kernel
theorem dX0_toldAt_19 : decode cX0_toldAt 19 = .ok (.goto 4, 3) := by decide +kernel
theorem dX0_toldAt_22 : decode cX0_toldAt 22 = .ok (.lconst 0, 1) := by decide +kernel
theorem dX0_toldAt_23 : decode cX0_toldAt 23 = .ok (.lreturn, 1) := by decide +kernel
theorem dX0_laidAt_0 : decode cX0_laidAt 0 = .ok (.iload_n 1, 1) := by decide +kernel
theorem dX0_laidAt_1 : decode cX0_laidAt 1 = .ok (.ifCond .lt 21, 3) := by decide +kernel
theorem dX0_laidAt_4 : decode cX0_laidAt 4 = .ok (.iload_n 1, 1) := by decide +kernel
theorem dX0_laidAt_5 : decode cX0_laidAt 5 = .ok (.aload_n 0, 1) := by decide +kernel
theorem dX0_laidAt_6 : decode cX0_laidAt 6 = .ok (.getfield 18, 3) := by decide +kernel
theorem dX0_laidAt_9 : decode cX0_laidAt 9 = .ok (.arraylength, 1) := by decide +kernel
theorem dX0_laidAt_10 : decode cX0_laidAt 10 = .ok (.if_icmp .ge 12, 3) := by decide +kernel
theorem dX0_laidAt_13 : decode cX0_laidAt 13 = .ok (.aload_n 0, 1) := by decide +kernel
theorem dX0_laidAt_14 : decode cX0_laidAt 14 = .ok (.getfield 18, 3) := by decide +kernel
theorem dX0_laidAt_17 : decode cX0_laidAt 17 = .ok (.iload_n 1, 1) := by decide +kernel
theorem dX0_laidAt_18 : decode cX0_laidAt 18 = .ok (.laload, 1) := by decide +kernel
theorem dX0_laidAt_19 : decode cX0_laidAt 19 = .ok (.goto 4, 3) := by decide +kernel
theorem dX0_laidAt_22 : decode cX0_laidAt 22 = .ok (.lconst 0, 1) := by decide +kernel
theorem dX0_laidAt_23 : decode cX0_laidAt 23 = .ok (.lreturn, 1) := by decide +kernel
theorem dX0_tellTo_0 : decode cX0_tellTo 0 = .ok (.aload_n 0, 1) := by decide +kernel
theorem dX0_tellTo_1 : decode cX0_tellTo 1 = .ok (.getfield 65, 3) := by decide +kernel
theorem dX0_tellTo_4 : decode cX0_tellTo 4 = .ok (.lconst 0, 1) := by decide +kernel
theorem dX0_tellTo_5 : decode cX0_tellTo 5 = .ok (.lcmp, 1) := by decide +kernel
theorem dX0_tellTo_6 : decode cX0_tellTo 6 = .ok (.ifCond .le 45, 3) := by decide +kernel
theorem dX0_tellTo_9 : decode cX0_tellTo 9 = .ok (.aload_n 0, 1) := by decide +kernel
theorem dX0_tellTo_10 : decode cX0_tellTo 10 = .ok (.iload_n 2, 1) := by decide +kernel
theorem dX0_tellTo_11 : decode cX0_tellTo 11 = .ok (.invokevirtual 80, 3) := by decide +kernel
theorem dX0_tellTo_14 : decode cX0_tellTo 14 = .ok (.istore_n 3, 1) := by decide +kernel
theorem dX0_tellTo_15 : decode cX0_tellTo 15 = .ok (.iconst 0, 1) := by decide +kernel
theorem dX0_tellTo_16 : decode cX0_tellTo 16 = .ok (.istore 4, 2) := by decide +kernel
theorem dX0_tellTo_18 : decode cX0_tellTo 18 = .ok (.iload 4, 2) := by decide +kernel
theorem dX0_tellTo_20 : decode cX0_tellTo 20 = .ok (.aload_n 1, 1) := by decide +kernel
theorem dX0_tellTo_21 : decode cX0_tellTo 21 = .ok (.arraylength, 1) := by decide +kernel
theorem dX0_tellTo_22 : decode cX0_tellTo 22 = .ok (.if_icmp .ge 29, 3) := by decide +kernel
theorem dX0_tellTo_25 : decode cX0_tellTo 25 = .ok (.aload_n 1, 1) := by decide +kernel
theorem dX0_tellTo_26 : decode cX0_tellTo 26 = .ok (.iload 4, 2) := by decide +kernel
theorem dX0_tellTo_28 : decode cX0_tellTo 28 = .ok (.dup2, 1) := by decide +kernel
theorem dX0_tellTo_29 : decode cX0_tellTo 29 = .ok (.laload, 1) := by decide +kernel
theorem dX0_tellTo_30 : decode cX0_tellTo 30 = .ok (.aload_n 0, 1) := by decide +kernel
theorem dX0_tellTo_31 : decode cX0_tellTo 31 = .ok (.getfield 65, 3) := by decide +kernel
theorem dX0_tellTo_34 : decode cX0_tellTo 34 = .ok (.aload_n 0, 1) := by decide +kernel
theorem dX0_tellTo_35 : decode cX0_tellTo 35 = .ok (.iload_n 3, 1) := by decide +kernel
theorem dX0_tellTo_36 : decode cX0_tellTo 36 = .ok (.iload 4, 2) := by decide +kernel
theorem dX0_tellTo_38 : decode cX0_tellTo 38 = .ok (.iadd, 1) := by decide +kernel
theorem dX0_tellTo_39 : decode cX0_tellTo 39 = .ok (.invokevirtual 83, 3) := by decide +kernel
theorem dX0_tellTo_42 : decode cX0_tellTo 42 = .ok (.lmul, 1) := by decide +kernel
theorem dX0_tellTo_43 : decode cX0_tellTo 43 = .ok (.ladd, 1) := by decide +kernel
theorem dX0_tellTo_44 : decode cX0_tellTo 44 = .ok (.lastore, 1) := by decide +kernel
theorem dX0_tellTo_45 : decode cX0_tellTo 45 = .ok (.iinc 4 1, 3) := by decide +kernel
theorem dX0_tellTo_48 : decode cX0_tellTo 48 = .ok (.goto (-30), 3) := by decide +kernel
theorem dX0_tellTo_51 : decode cX0_tellTo 51 = .ok (.return_, 1) := by decide +kernel
theorem dX0_toldWith_0 : decode cX0_toldWith 0 = .ok (.lconst 0, 1) := by decide +kernel
theorem dX0_toldWith_1 : decode cX0_toldWith 1 = .ok (.lstore_n 3, 1) := by decide +kernel
theorem dX0_toldWith_2 : decode cX0_toldWith 2 = .ok (.aload_n 0, 1) := by decide +kernel
theorem dX0_toldWith_3 : decode cX0_toldWith 3 = .ok (.getfield 65, 3) := by decide +kernel
theorem dX0_toldWith_6 : decode cX0_toldWith 6 = .ok (.lconst 0, 1) := by decide +kernel
theorem dX0_toldWith_7 : decode cX0_toldWith 7 = .ok (.lcmp, 1) := by decide +kernel
theorem dX0_toldWith_8 : decode cX0_toldWith 8 = .ok (.ifCond .le 64, 3) := by decide +kernel
theorem dX0_toldWith_11 : decode cX0_toldWith 11 = .ok (.aload_n 1, 1) := by decide +kernel
theorem dX0_toldWith_12 : decode cX0_toldWith 12 = .ok (.getfield 65, 3) := by decide +kernel
theorem dX0_toldWith_15 : decode cX0_toldWith 15 = .ok (.lconst 0, 1) := by decide +kernel
theorem dX0_toldWith_16 : decode cX0_toldWith 16 = .ok (.lcmp, 1) := by decide +kernel
theorem dX0_toldWith_17 : decode cX0_toldWith 17 = .ok (.ifCond .le 55, 3) := by decide +kernel
theorem dX0_toldWith_20 : decode cX0_toldWith 20 = .ok (.aload_n 0, 1) := by decide +kernel
theorem dX0_toldWith_21 : decode cX0_toldWith 21 = .ok (.iload_n 2, 1) := by decide +kernel
theorem dX0_toldWith_22 : decode cX0_toldWith 22 = .ok (.invokevirtual 80, 3) := by decide +kernel
theorem dX0_toldWith_25 : decode cX0_toldWith 25 = .ok (.istore 5, 2) := by decide +kernel
theorem dX0_toldWith_27 : decode cX0_toldWith 27 = .ok (.aload_n 1, 1) := by decide +kernel
theorem dX0_toldWith_28 : decode cX0_toldWith 28 = .ok (.iload_n 2, 1) := by decide +kernel
theorem dX0_toldWith_29 : decode cX0_toldWith 29 = .ok (.invokevirtual 80, 3) := by decide +kernel
theorem dX0_toldWith_32 : decode cX0_toldWith 32 = .ok (.istore 6, 2) := by decide +kernel
theorem dX0_toldWith_34 : decode cX0_toldWith 34 = .ok (.iconst 0, 1) := by decide +kernel
theorem dX0_toldWith_35 : decode cX0_toldWith 35 = .ok (.istore 7, 2) := by decide +kernel
theorem dX0_toldWith_37 : decode cX0_toldWith 37 = .ok (.iload 7, 2) := by decide +kernel
theorem dX0_toldWith_39 : decode cX0_toldWith 39 = .ok (.bipush 32, 2) := by decide +kernel
theorem dX0_toldWith_41 : decode cX0_toldWith 41 = .ok (.if_icmp .ge 31, 3) := by decide +kernel
theorem dX0_toldWith_44 : decode cX0_toldWith 44 = .ok (.lload_n 3, 1) := by decide +kernel
theorem dX0_toldWith_45 : decode cX0_toldWith 45 = .ok (.aload_n 0, 1) := by decide +kernel
theorem dX0_toldWith_46 : decode cX0_toldWith 46 = .ok (.iload 5, 2) := by decide +kernel
theorem dX0_toldWith_48 : decode cX0_toldWith 48 = .ok (.iload 7, 2) := by decide +kernel
theorem dX0_toldWith_50 : decode cX0_toldWith 50 = .ok (.iadd, 1) := by decide +kernel
theorem dX0_toldWith_51 : decode cX0_toldWith 51 = .ok (.invokevirtual 83, 3) := by decide +kernel
theorem dX0_toldWith_54 : decode cX0_toldWith 54 = .ok (.aload_n 1, 1) := by decide +kernel
theorem dX0_toldWith_55 : decode cX0_toldWith 55 = .ok (.iload 6, 2) := by decide +kernel
theorem dX0_toldWith_57 : decode cX0_toldWith 57 = .ok (.iload 7, 2) := by decide +kernel
theorem dX0_toldWith_59 : decode cX0_toldWith 59 = .ok (.iadd, 1) := by decide +kernel
theorem dX0_toldWith_60 : decode cX0_toldWith 60 = .ok (.invokevirtual 83, 3) := by decide +kernel
theorem dX0_toldWith_63 : decode cX0_toldWith 63 = .ok (.lmul, 1) := by decide +kernel
theorem dX0_toldWith_64 : decode cX0_toldWith 64 = .ok (.ladd, 1) := by decide +kernel
theorem dX0_toldWith_65 : decode cX0_toldWith 65 = .ok (.lstore_n 3, 1) := by decide +kernel
theorem dX0_toldWith_66 : decode cX0_toldWith 66 = .ok (.iinc 7 1, 3) := by decide +kernel
theorem dX0_toldWith_69 : decode cX0_toldWith 69 = .ok (.goto (-32), 3) := by decide +kernel
theorem dX0_toldWith_72 : decode cX0_toldWith 72 = .ok (.lload_n 3, 1) := by decide +kernel
theorem dX0_toldWith_73 : decode cX0_toldWith 73 = .ok (.aload_n 0, 1) := by decide +kernel
theorem dX0_toldWith_74 : decode cX0_toldWith 74 = .ok (.getfield 65, 3) := by decide +kernel
theorem dX0_toldWith_77 : decode cX0_toldWith 77 = .ok (.lmul, 1) := by decide +kernel
theorem dX0_toldWith_78 : decode cX0_toldWith 78 = .ok (.aload_n 1, 1) := by decide +kernel
theorem dX0_toldWith_79 : decode cX0_toldWith 79 = .ok (.getfield 65, 3) := by decide +kernel
theorem dX0_toldWith_82 : decode cX0_toldWith 82 = .ok (.lmul, 1) := by decide +kernel
theorem dX0_toldWith_83 : decode cX0_toldWith 83 = .ok (.lreturn, 1) := by decide +kernel
theorem dX0_takeAway_0 : decode cX0_takeAway 0 = .ok (.aload_n 0, 1) := by decide +kernel
theorem dX0_takeAway_1 : decode cX0_takeAway 1 = .ok (.iload_n 2, 1) := by decide +kernel
theorem dX0_takeAway_2 : decode cX0_takeAway 2 = .ok (.invokevirtual 80, 3) := by decide +kernel
theorem dX0_takeAway_5 : decode cX0_takeAway 5 = .ok (.iload_n 1, 1) := by decide +kernel
theorem dX0_takeAway_6 : decode cX0_takeAway 6 = .ok (.iadd, 1) := by decide +kernel
theorem dX0_takeAway_7 : decode cX0_takeAway 7 = .ok (.istore 5, 2) := by decide +kernel
theorem dX0_takeAway_9 : decode cX0_takeAway 9 = .ok (.aload_n 0, 1) := by decide +kernel
theorem dX0_takeAway_10 : decode cX0_takeAway 10 = .ok (.getfield 65, 3) := by decide +kernel
theorem dX0_takeAway_13 : decode cX0_takeAway 13 = .ok (.lconst 0, 1) := by decide +kernel
theorem dX0_takeAway_14 : decode cX0_takeAway 14 = .ok (.lcmp, 1) := by decide +kernel
theorem dX0_takeAway_15 : decode cX0_takeAway 15 = .ok (.ifCond .le 41, 3) := by decide +kernel
theorem dX0_takeAway_18 : decode cX0_takeAway 18 = .ok (.aload_n 0, 1) := by decide +kernel
theorem dX0_takeAway_19 : decode cX0_takeAway 19 = .ok (.getfield 12, 3) := by decide +kernel
theorem dX0_takeAway_22 : decode cX0_takeAway 22 = .ok (.iload 5, 2) := by decide +kernel
theorem dX0_takeAway_24 : decode cX0_takeAway 24 = .ok (.invokevirtual 87, 3) := by decide +kernel
theorem dX0_takeAway_27 : decode cX0_takeAway 27 = .ok (.ifCond .eq 29, 3) := by decide +kernel
theorem dX0_takeAway_30 : decode cX0_takeAway 30 = .ok (.iload 5, 2) := by decide +kernel
theorem dX0_takeAway_32 : decode cX0_takeAway 32 = .ok (.ifCond .lt 24, 3) := by decide +kernel
theorem dX0_takeAway_35 : decode cX0_takeAway 35 = .ok (.iload 5, 2) := by decide +kernel
theorem dX0_takeAway_37 : decode cX0_takeAway 37 = .ok (.aload_n 0, 1) := by decide +kernel
theorem dX0_takeAway_38 : decode cX0_takeAway 38 = .ok (.getfield 18, 3) := by decide +kernel
theorem dX0_takeAway_41 : decode cX0_takeAway 41 = .ok (.arraylength, 1) := by decide +kernel
theorem dX0_takeAway_42 : decode cX0_takeAway 42 = .ok (.if_icmp .ge 14, 3) := by decide +kernel
theorem dX0_takeAway_45 : decode cX0_takeAway 45 = .ok (.aload_n 0, 1) := by decide +kernel
theorem dX0_takeAway_46 : decode cX0_takeAway 46 = .ok (.getfield 18, 3) := by decide +kernel
theorem dX0_takeAway_49 : decode cX0_takeAway 49 = .ok (.iload 5, 2) := by decide +kernel
theorem dX0_takeAway_51 : decode cX0_takeAway 51 = .ok (.dup2, 1) := by decide +kernel
theorem dX0_takeAway_52 : decode cX0_takeAway 52 = .ok (.laload, 1) := by decide +kernel
theorem dX0_takeAway_53 : decode cX0_takeAway 53 = .ok (.lload_n 3, 1) := by decide +kernel
theorem dX0_takeAway_54 : decode cX0_takeAway 54 = .ok (.lsub, 1) := by decide +kernel
theorem dX0_takeAway_55 : decode cX0_takeAway 55 = .ok (.lastore, 1) := by decide +kernel
theorem dX0_takeAway_56 : decode cX0_takeAway 56 = .ok (.return_, 1) := by decide +kernel
theorem dX0_agreement_0 : decode cX0_agreement 0 = .ok (.bipush 16, 2) := by decide +kernel
theorem dX0_agreement_2 : decode cX0_agreement 2 = .ok (.aload_n 0, 1) := by decide +kernel
theorem dX0_agreement_3 : decode cX0_agreement 3 = .ok (.iload_n 2, 1) := by decide +kernel
theorem dX0_agreement_4 : decode cX0_agreement 4 = .ok (.invokevirtual 77, 3) := by decide +kernel
theorem dX0_agreement_7 : decode cX0_agreement 7 = .ok (.iadd, 1) := by decide +kernel
theorem dX0_agreement_8 : decode cX0_agreement 8 = .ok (.iload_n 3, 1) := by decide +kernel
theorem dX0_agreement_9 : decode cX0_agreement 9 = .ok (.iadd, 1) := by decide +kernel
theorem dX0_agreement_10 : decode cX0_agreement 10 = .ok (.istore 4, 2) := by decide +kernel
theorem dX0_agreement_12 : decode cX0_agreement 12 = .ok (.bipush 16, 2) := by decide +kernel
theorem dX0_agreement_14 : decode cX0_agreement 14 = .ok (.aload_n 1, 1) := by decide +kernel
theorem dX0_agreement_15 : decode cX0_agreement 15 = .ok (.iload_n 2, 1) := by decide +kernel
theorem dX0_agreement_16 : decode cX0_agreement 16 = .ok (.invokevirtual 77, 3) := by decide +kernel
theorem dX0_agreement_19 : decode cX0_agreement 19 = .ok (.iadd, 1) := by decide +kernel
theorem dX0_agreement_20 : decode cX0_agreement 20 = .ok (.istore 5, 2) := by decide +kernel
theorem dX0_agreement_22 : decode cX0_agreement 22 = .ok (.lconst 0, 1) := by decide +kernel
theorem dX0_agreement_23 : decode cX0_agreement 23 = .ok (.lstore 6, 2) := by decide +kernel
theorem dX0_agreement_25 : decode cX0_agreement 25 = .ok (.iconst 0, 1) := by decide +kernel
theorem dX0_agreement_26 : decode cX0_agreement 26 = .ok (.istore 8, 2) := by decide +kernel
theorem dX0_agreement_28 : decode cX0_agreement 28 = .ok (.iload 8, 2) := by decide +kernel
theorem dX0_agreement_30 : decode cX0_agreement 30 = .ok (.bipush 32, 2) := by decide +kernel
theorem dX0_agreement_32 : decode cX0_agreement 32 = .ok (.if_icmp .ge 33, 3) := by decide +kernel
theorem dX0_agreement_35 : decode cX0_agreement 35 = .ok (.lload 6, 2) := by decide +kernel
theorem dX0_agreement_37 : decode cX0_agreement 37 = .ok (.aload_n 0, 1) := by decide +kernel
theorem dX0_agreement_38 : decode cX0_agreement 38 = .ok (.iload 4, 2) := by decide +kernel
theorem dX0_agreement_40 : decode cX0_agreement 40 = .ok (.iload 8, 2) := by decide +kernel
theorem dX0_agreement_42 : decode cX0_agreement 42 = .ok (.iadd, 1) := by decide +kernel
theorem dX0_agreement_43 : decode cX0_agreement 43 = .ok (.invokevirtual 91, 3) := by decide +kernel
theorem dX0_agreement_46 : decode cX0_agreement 46 = .ok (.aload_n 1, 1) := by decide +kernel
theorem dX0_agreement_47 : decode cX0_agreement 47 = .ok (.iload 5, 2) := by decide +kernel
theorem dX0_agreement_49 : decode cX0_agreement 49 = .ok (.iload 8, 2) := by decide +kernel
theorem dX0_agreement_51 : decode cX0_agreement 51 = .ok (.iadd, 1) := by decide +kernel
theorem dX0_agreement_52 : decode cX0_agreement 52 = .ok (.invokevirtual 91, 3) := by decide +kernel
theorem dX0_agreement_55 : decode cX0_agreement 55 = .ok (.lmul, 1) := by decide +kernel
theorem dX0_agreement_56 : decode cX0_agreement 56 = .ok (.ladd, 1) := by decide +kernel
theorem dX0_agreement_57 : decode cX0_agreement 57 = .ok (.lstore 6, 2) := by decide +kernel
theorem dX0_agreement_59 : decode cX0_agreement 59 = .ok (.iinc 8 1, 3) := by decide +kernel
theorem dX0_agreement_62 : decode cX0_agreement 62 = .ok (.goto (-34), 3) := by decide +kernel
theorem dX0_agreement_65 : decode cX0_agreement 65 = .ok (.lload 6, 2) := by decide +kernel
theorem dX0_agreement_67 : decode cX0_agreement 67 = .ok (.lreturn, 1) := by decide +kernel
theorem dX1_init_0 : decode cX1_init 0 = .ok (.aload_n 0, 1) := by decide +kernel
theorem dX1_init_1 : decode cX1_init 1 = .ok (.invokespecial 1, 3) := by decide +kernel
theorem dX1_init_4 : decode cX1_init 4 = .ok (.aload_n 0, 1) := by decide +kernel
theorem dX1_init_5 : decode cX1_init 5 = .ok (.iconst 1, 1) := by decide +kernel
theorem dX1_init_6 : decode cX1_init 6 = .ok (.putfield 7, 3) := by decide +kernel
theorem dX1_init_9 : decode cX1_init 9 = .ok (.return_, 1) := by decide +kernel
theorem dX1_set_0 : decode cX1_set 0 = .ok (.aload_n 0, 1) := by decide +kernel
theorem dX1_set_1 : decode cX1_set 1 = .ok (.iload_n 1, 1) := by decide +kernel
theorem dX1_set_2 : decode cX1_set 2 = .ok (.putfield 13, 3) := by decide +kernel
theorem dX1_set_5 : decode cX1_set 5 = .ok (.aload_n 0, 1) := by decide +kernel
theorem dX1_set_6 : decode cX1_set 6 = .ok (.iload_n 2, 1) := by decide +kernel
theorem dX1_set_7 : decode cX1_set 7 = .ok (.putfield 7, 3) := by decide +kernel
theorem dX1_set_10 : decode cX1_set 10 = .ok (.return_, 1) := by decide +kernel
theorem dX1_getLoudness_0 : decode cX1_getLoudness 0 = .ok (.aload_n 0, 1) := by decide +kernel
theorem dX1_getLoudness_1 : decode cX1_getLoudness 1 = .ok (.getfield 13, 3) := by decide +kernel
theorem dX1_getLoudness_4 : decode cX1_getLoudness 4 = .ok (.ireturn, 1) := by decide +kernel
theorem dX1_draw_0 : decode cX1_draw 0 = .ok (.aload_n 0, 1) := by decide +kernel
theorem dX1_draw_1 : decode cX1_draw 1 = .ok (.bipush 75, 2) := by decide +kernel
theorem dX1_draw_3 : decode cX1_draw 3 = .ok (.aload_n 0, 1) := by decide +kernel
theorem dX1_draw_4 : decode cX1_draw 4 = .ok (.getfield 7, 3) := by decide +kernel
theorem dX1_draw_7 : decode cX1_draw 7 = .ok (.imul, 1) := by decide +kernel
theorem dX1_draw_8 : decode cX1_draw 8 = .ok (.bipush 74, 2) := by decide +kernel
theorem dX1_draw_10 : decode cX1_draw 10 = .ok (.iadd, 1) := by decide +kernel
theorem dX1_draw_11 : decode cX1_draw 11 = .ok (.ldc 16, 2) := by decide +kernel
theorem dX1_draw_13 : decode cX1_draw 13 = .ok (.irem, 1) := by decide +kernel
theorem dX1_draw_14 : decode cX1_draw 14 = .ok (.putfield 7, 3) := by decide +kernel
theorem dX1_draw_17 : decode cX1_draw 17 = .ok (.iconst 2, 1) := by decide +kernel
theorem dX1_draw_18 : decode cX1_draw 18 = .ok (.aload_n 0, 1) := by decide +kernel
theorem dX1_draw_19 : decode cX1_draw 19 = .ok (.getfield 13, 3) := by decide +kernel
theorem dX1_draw_22 : decode cX1_draw 22 = .ok (.imul, 1) := by decide +kernel
theorem dX1_draw_23 : decode cX1_draw 23 = .ok (.iconst 1, 1) := by decide +kernel
theorem dX1_draw_24 : decode cX1_draw 24 = .ok (.iadd, 1) := by decide +kernel
theorem dX1_draw_25 : decode cX1_draw 25 = .ok (.istore_n 1, 1) := by decide +kernel
theorem dX1_draw_26 : decode cX1_draw 26 = .ok (.iload_n 1, 1) := by decide +kernel
theorem dX1_draw_27 : decode cX1_draw 27 = .ok (.ifCond .le 17, 3) := by decide +kernel
theorem dX1_draw_30 : decode cX1_draw 30 = .ok (.aload_n 0, 1) := by decide +kernel
theorem dX1_draw_31 : decode cX1_draw 31 = .ok (.getfield 7, 3) := by decide +kernel
theorem dX1_draw_34 : decode cX1_draw 34 = .ok (.iload_n 1, 1) := by decide +kernel
theorem dX1_draw_35 : decode cX1_draw 35 = .ok (.irem, 1) := by decide +kernel
theorem dX1_draw_36 : decode cX1_draw 36 = .ok (.aload_n 0, 1) := by decide +kernel
theorem dX1_draw_37 : decode cX1_draw 37 = .ok (.getfield 13, 3) := by decide +kernel
theorem dX1_draw_40 : decode cX1_draw 40 = .ok (.isub, 1) := by decide +kernel
theorem dX1_draw_41 : decode cX1_draw 41 = .ok (.goto 4, 3) := by decide +kernel
theorem dX1_draw_44 : decode cX1_draw 44 = .ok (.iconst 0, 1) := by decide +kernel
theorem dX1_draw_45 : decode cX1_draw 45 = .ok (.ireturn, 1) := by decide +kernel
theorem dX2_init_0 : decode cX2_init 0 = .ok (.aload_n 0, 1) := by decide +kernel
theorem dX2_init_1 : decode cX2_init 1 = .ok (.invokespecial 1, 3) := by decide +kernel
theorem dX2_init_4 : decode cX2_init 4 = .ok (.aload_n 0, 1) := by decide +kernel
theorem dX2_init_5 : decode cX2_init 5 = .ok (.iconst 2, 1) := by decide +kernel
theorem dX2_init_6 : decode cX2_init 6 = .ok (.putfield 7, 3) := by decide +kernel
theorem dX2_init_9 : decode cX2_init 9 = .ok (.return_, 1) := by decide +kernel
theorem dX2_setUp_0 : decode cX2_setUp 0 = .ok (.aload_n 0, 1) := by decide +kernel
theorem dX2_setUp_1 : decode cX2_setUp 1 = .ok (.iload_n 1, 1) := by decide +kernel
theorem dX2_setUp_2 : decode cX2_setUp 2 = .ok (.putfield 13, 3) := by decide +kernel
theorem dX2_setUp_5 : decode cX2_setUp 5 = .ok (.aload_n 0, 1) := by decide +kernel
theorem dX2_setUp_6 : decode cX2_setUp 6 = .ok (.iload_n 2, 1) := by decide +kernel
theorem dX2_setUp_7 : decode cX2_setUp 7 = .ok (.putfield 16, 3) := by decide +kernel
theorem dX2_setUp_10 : decode cX2_setUp 10 = .ok (.aload_n 0, 1) := by decide +kernel
theorem dX2_setUp_11 : decode cX2_setUp 11 = .ok (.iload_n 3, 1) := by decide +kernel
theorem dX2_setUp_12 : decode cX2_setUp 12 = .ok (.putfield 7, 3) := by decide +kernel
theorem dX2_setUp_15 : decode cX2_setUp 15 = .ok (.return_, 1) := by decide +kernel
theorem dX2_getBearing_0 : decode cX2_getBearing 0 = .ok (.aload_n 0, 1) := by decide +kernel
theorem dX2_getBearing_1 : decode cX2_getBearing 1 = .ok (.getfield 13, 3) := by decide +kernel
theorem dX2_getBearing_4 : decode cX2_getBearing 4 = .ok (.ireturn, 1) := by decide +kernel
theorem dX2_waveAt_0 : decode cX2_waveAt 0 = .ok (.aload_n 0, 1) := by decide +kernel
theorem dX2_waveAt_1 : decode cX2_waveAt 1 = .ok (.getfield 7, 3) := by decide +kernel
theorem dX2_waveAt_4 : decode cX2_waveAt 4 = .ok (.ifCond .gt 5, 3) := by decide +kernel
theorem dX2_waveAt_7 : decode cX2_waveAt 7 = .ok (.iconst 0, 1) := by decide +kernel
theorem dX2_waveAt_8 : decode cX2_waveAt 8 = .ok (.ireturn, 1) := by decide +kernel
theorem dX2_waveAt_9 : decode cX2_waveAt 9 = .ok (.iload_n 1, 1) := by decide +kernel
theorem dX2_waveAt_10 : decode cX2_waveAt 10 = .ok (.aload_n 0, 1) := by decide +kernel
theorem dX2_waveAt_11 : decode cX2_waveAt 11 = .ok (.getfield 7, 3) := by decide +kernel
theorem dX2_waveAt_14 : decode cX2_waveAt 14 = .ok (.invokestatic 19, 3) := by decide +kernel
theorem dX2_waveAt_17 : decode cX2_waveAt 17 = .ok (.aload_n 0, 1) := by decide +kernel
theorem dX2_waveAt_18 : decode cX2_waveAt 18 = .ok (.getfield 7, 3) := by decide +kernel
theorem dX2_waveAt_21 : decode cX2_waveAt 21 = .ok (.iconst 2, 1) := by decide +kernel
theorem dX2_waveAt_22 : decode cX2_waveAt 22 = .ok (.idiv, 1) := by decide +kernel
theorem dX2_waveAt_23 : decode cX2_waveAt 23 = .ok (.if_icmp .ge 10, 3) := by decide +kernel
theorem dX2_waveAt_26 : decode cX2_waveAt 26 = .ok (.aload_n 0, 1) := by decide +kernel
theorem dX2_waveAt_27 : decode cX2_waveAt 27 = .ok (.getfield 16, 3) := by decide +kernel
theorem dX2_waveAt_30 : decode cX2_waveAt 30 = .ok (.goto 8, 3) := by decide +kernel
theorem dX2_waveAt_33 : decode cX2_waveAt 33 = .ok (.aload_n 0, 1) := by decide +kernel
theorem dX2_waveAt_34 : decode cX2_waveAt 34 = .ok (.getfield 16, 3) := by decide +kernel
theorem dX2_waveAt_37 : decode cX2_waveAt 37 = .ok (.ineg, 1) := by decide +kernel
theorem dX2_waveAt_38 : decode cX2_waveAt 38 = .ok (.ireturn, 1) := by decide +kernel
theorem dX3_init_0 : decode cX3_init 0 = .ok (.aload_n 0, 1) := by decide +kernel
theorem dX3_init_1 : decode cX3_init 1 = .ok (.invokespecial 3, 3) := by decide +kernel
theorem dX3_init_4 : decode cX3_init 4 = .ok (.aload_n 0, 1) := by decide +kernel
theorem dX3_init_5 : decode cX3_init 5 = .ok (.bipush 64, 2) := by decide +kernel
theorem dX3_init_7 : decode cX3_init 7 = .ok (.newarray .int, 2) := by decide +kernel
theorem dX3_init_9 : decode cX3_init 9 = .ok (.putfield 9, 3) := by decide +kernel
theorem dX3_init_12 : decode cX3_init 12 = .ok (.return_, 1) := by decide +kernel
theorem dX3_beginAt_0 : decode cX3_beginAt 0 = .ok (.aload_n 0, 1) := by decide +kernel
theorem dX3_beginAt_1 : decode cX3_beginAt 1 = .ok (.iload_n 1, 1) := by decide +kernel
theorem dX3_beginAt_2 : decode cX3_beginAt 2 = .ok (.putfield 15, 3) := by decide +kernel
theorem dX3_beginAt_5 : decode cX3_beginAt 5 = .ok (.aload_n 0, 1) := by decide +kernel
theorem dX3_beginAt_6 : decode cX3_beginAt 6 = .ok (.iload_n 1, 1) := by decide +kernel
theorem dX3_beginAt_7 : decode cX3_beginAt 7 = .ok (.putfield 19, 3) := by decide +kernel
theorem dX3_beginAt_10 : decode cX3_beginAt 10 = .ok (.return_, 1) := by decide +kernel
theorem dX3_add_0 : decode cX3_add 0 = .ok (.aload_n 0, 1) := by decide +kernel
theorem dX3_add_1 : decode cX3_add 1 = .ok (.getfield 19, 3) := by decide +kernel
theorem dX3_add_4 : decode cX3_add 4 = .ok (.invokestatic 22, 3) := by decide +kernel
theorem dX3_add_7 : decode cX3_add 7 = .ok (.istore_n 2, 1) := by decide +kernel
theorem dX3_add_8 : decode cX3_add 8 = .ok (.iload_n 2, 1) := by decide +kernel
theorem dX3_add_9 : decode cX3_add 9 = .ok (.aload_n 0, 1) := by decide +kernel
theorem dX3_add_10 : decode cX3_add 10 = .ok (.getfield 9, 3) := by decide +kernel
theorem dX3_add_13 : decode cX3_add 13 = .ok (.arraylength, 1) := by decide +kernel
theorem dX3_add_14 : decode cX3_add 14 = .ok (.if_icmp .ge 10, 3) := by decide +kernel
theorem dX3_add_17 : decode cX3_add 17 = .ok (.aload_n 0, 1) := by decide +kernel
theorem dX3_add_18 : decode cX3_add 18 = .ok (.getfield 9, 3) := by decide +kernel
theorem dX3_add_21 : decode cX3_add 21 = .ok (.iload_n 2, 1) := by decide +kernel
theorem dX3_add_22 : decode cX3_add 22 = .ok (.iload_n 1, 1) := by decide +kernel
theorem dX3_add_23 : decode cX3_add 23 = .ok (.iastore, 1) := by decide +kernel
theorem dX3_add_24 : decode cX3_add 24 = .ok (.aload_n 0, 1) := by decide +kernel
theorem dX3_add_25 : decode cX3_add 25 = .ok (.dup, 1) := by decide +kernel
theorem dX3_add_26 : decode cX3_add 26 = .ok (.getfield 19, 3) := by decide +kernel
theorem dX3_add_29 : decode cX3_add 29 = .ok (.iconst 1, 1) := by decide +kernel
theorem dX3_add_30 : decode cX3_add 30 = .ok (.iadd, 1) := by decide +kernel
theorem dX3_add_31 : decode cX3_add 31 = .ok (.putfield 19, 3) := by decide +kernel
theorem dX3_add_34 : decode cX3_add 34 = .ok (.return_, 1) := by decide +kernel
theorem dX3_at_0 : decode cX3_at 0 = .ok (.aload_n 0, 1) := by decide +kernel
theorem dX3_at_1 : decode cX3_at 1 = .ok (.getfield 19, 3) := by decide +kernel
theorem dX3_at_4 : decode cX3_at 4 = .ok (.bipush 64, 2) := by decide +kernel
theorem dX3_at_6 : decode cX3_at 6 = .ok (.isub, 1) := by decide +kernel
theorem dX3_at_7 : decode cX3_at 7 = .ok (.iload_n 1, 1) := by decide +kernel
theorem dX3_at_8 : decode cX3_at 8 = .ok (.iadd, 1) := by decide +kernel
theorem dX3_at_9 : decode cX3_at 9 = .ok (.invokestatic 22, 3) := by decide +kernel
theorem dX3_at_12 : decode cX3_at 12 = .ok (.istore_n 2, 1) := by decide +kernel
theorem dX3_at_13 : decode cX3_at 13 = .ok (.aload_n 0, 1) := by decide +kernel
theorem dX3_at_14 : decode cX3_at 14 = .ok (.iload_n 1, 1) := by decide +kernel
theorem dX3_at_15 : decode cX3_at 15 = .ok (.invokevirtual 26, 3) := by decide +kernel
theorem dX3_at_18 : decode cX3_at 18 = .ok (.ifCond .eq 21, 3) := by decide +kernel
theorem dX3_at_21 : decode cX3_at 21 = .ok (.iload_n 2, 1) := by decide +kernel
theorem dX3_at_22 : decode cX3_at 22 = .ok (.aload_n 0, 1) := by decide +kernel
theorem dX3_at_23 : decode cX3_at 23 = .ok (.getfield 9, 3) := by decide +kernel
theorem dX3_at_26 : decode cX3_at 26 = .ok (.arraylength, 1) := by decide +kernel
theorem dX3_at_27 : decode cX3_at 27 = .ok (.if_icmp .ge 12, 3) := by decide +kernel
theorem dX3_at_30 : decode cX3_at 30 = .ok (.aload_n 0, 1) := by decide +kernel
theorem dX3_at_31 : decode cX3_at 31 = .ok (.getfield 9, 3) := by decide +kernel
theorem dX3_at_34 : decode cX3_at 34 = .ok (.iload_n 2, 1) := by decide +kernel
theorem dX3_at_35 : decode cX3_at 35 = .ok (.iaload, 1) := by decide +kernel
theorem dX3_at_36 : decode cX3_at 36 = .ok (.goto 4, 3) := by decide +kernel
theorem dX3_at_39 : decode cX3_at 39 = .ok (.iconst 0, 1) := by decide +kernel
theorem dX3_at_40 : decode cX3_at 40 = .ok (.ireturn, 1) := by decide +kernel
theorem dX3_keeps_0 : decode cX3_keeps 0 = .ok (.iload_n 1, 1) := by decide +kernel
theorem dX3_keeps_1 : decode cX3_keeps 1 = .ok (.ifCond .lt 29, 3) := by decide +kernel
theorem dX3_keeps_4 : decode cX3_keeps 4 = .ok (.iload_n 1, 1) := by decide +kernel
theorem dX3_keeps_5 : decode cX3_keeps 5 = .ok (.bipush 64, 2) := by decide +kernel
theorem dX3_keeps_7 : decode cX3_keeps 7 = .ok (.if_icmp .ge 23, 3) := by decide +kernel
theorem dX3_keeps_10 : decode cX3_keeps 10 = .ok (.aload_n 0, 1) := by decide +kernel
theorem dX3_keeps_11 : decode cX3_keeps 11 = .ok (.getfield 19, 3) := by decide +kernel
theorem dX3_keeps_14 : decode cX3_keeps 14 = .ok (.bipush 64, 2) := by decide +kernel
theorem dX3_keeps_16 : decode cX3_keeps 16 = .ok (.isub, 1) := by decide +kernel
theorem dX3_keeps_17 : decode cX3_keeps 17 = .ok (.iload_n 1, 1) := by decide +kernel
theorem dX3_keeps_18 : decode cX3_keeps 18 = .ok (.iadd, 1) := by decide +kernel
theorem dX3_keeps_19 : decode cX3_keeps 19 = .ok (.aload_n 0, 1) := by decide +kernel
theorem dX3_keeps_20 : decode cX3_keeps 20 = .ok (.getfield 15, 3) := by decide +kernel
theorem dX3_keeps_23 : decode cX3_keeps 23 = .ok (.if_icmp .lt 7, 3) := by decide +kernel
theorem dX3_keeps_26 : decode cX3_keeps 26 = .ok (.iconst 1, 1) := by decide +kernel
theorem dX3_keeps_27 : decode cX3_keeps 27 = .ok (.goto 4, 3) := by decide +kernel
theorem dX3_keeps_30 : decode cX3_keeps 30 = .ok (.iconst 0, 1) := by decide +kernel
theorem dX3_keeps_31 : decode cX3_keeps 31 = .ok (.ireturn, 1) := by decide +kernel
theorem dX3_slotOf_0 : decode cX3_slotOf 0 = .ok (.iload_n 0, 1) := by decide +kernel
theorem dX3_slotOf_1 : decode cX3_slotOf 1 = .ok (.bipush 63, 2) := by decide +kernel
theorem dX3_slotOf_3 : decode cX3_slotOf 3 = .ok (.iand, 1) := by decide +kernel
theorem dX3_slotOf_4 : decode cX3_slotOf 4 = .ok (.ireturn, 1) := by decide +kernel
theorem dX4_init_0 : decode cX4_init 0 = .ok (.aload_n 0, 1) := by decide +kernel
theorem dX4_init_1 : decode cX4_init 1 = .ok (.invokespecial 3, 3) := by decide +kernel
theorem dX4_init_4 : decode cX4_init 4 = .ok (.aload_n 0, 1) := by decide +kernel
theorem dX4_init_5 : decode cX4_init 5 = .ok (.bipush 8, 2) := by decide +kernel
theorem dX4_init_7 : decode cX4_init 7 = .ok (.anewarray 9, 3) := by decide +kernel
theorem dX4_init_10 : decode cX4_init 10 = .ok (.putfield 11, 3) := by decide +kernel
theorem dX4_init_13 : decode cX4_init 13 = .ok (.aload_n 0, 1) := by decide +kernel
theorem dX4_init_14 : decode cX4_init 14 = .ok (.iconst 4, 1) := by decide +kernel
theorem dX4_init_15 : decode cX4_init 15 = .ok (.anewarray 15, 3) := by decide +kernel
theorem dX4_init_18 : decode cX4_init 18 = .ok (.putfield 17, 3) := by decide +kernel
theorem dX4_init_21 : decode cX4_init 21 = .ok (.aload_n 0, 1) := by decide +kernel
theorem dX4_init_22 : decode cX4_init 22 = .ok (.new 21, 3) := by decide +kernel
theorem dX4_init_25 : decode cX4_init 25 = .ok (.dup, 1) := by decide +kernel
theorem dX4_init_26 : decode cX4_init 26 = .ok (.invokespecial 23, 3) := by decide +kernel
theorem dX4_init_29 : decode cX4_init 29 = .ok (.putfield 24, 3) := by decide +kernel
theorem dX4_init_32 : decode cX4_init 32 = .ok (.aload_n 0, 1) := by decide +kernel
theorem dX4_init_33 : decode cX4_init 33 = .ok (.bipush 32, 2) := by decide +kernel
theorem dX4_init_35 : decode cX4_init 35 = .ok (.newarray .long, 2) := by decide +kernel
theorem dX4_init_37 : decode cX4_init 37 = .ok (.putfield 28, 3) := by decide +kernel
theorem dX4_init_40 : decode cX4_init 40 = .ok (.aload_n 0, 1) := by decide +kernel
theorem dX4_init_41 : decode cX4_init 41 = .ok (.bipush 9, 2) := by decide +kernel
theorem dX4_init_43 : decode cX4_init 43 = .ok (.newarray .long, 2) := by decide +kernel
theorem dX4_init_45 : decode cX4_init 45 = .ok (.putfield 32, 3) := by decide +kernel
theorem dX4_init_48 : decode cX4_init 48 = .ok (.iconst 0, 1) := by decide +kernel
theorem dX4_init_49 : decode cX4_init 49 = .ok (.istore_n 1, 1) := by decide +kernel
theorem dX4_init_50 : decode cX4_init 50 = .ok (.iload_n 1, 1) := by decide +kernel
theorem dX4_init_51 : decode cX4_init 51 = .ok (.aload_n 0, 1) := by decide +kernel
theorem dX4_init_52 : decode cX4_init 52 = .ok (.getfield 11, 3) := by decide +kernel
theorem dX4_init_55 : decode cX4_init 55 = .ok (.arraylength, 1) := by decide +kernel
theorem dX4_init_56 : decode cX4_init 56 = .ok (.if_icmp .ge 22, 3) := by decide +kernel
theorem dX4_init_59 : decode cX4_init 59 = .ok (.aload_n 0, 1) := by decide +kernel
theorem dX4_init_60 : decode cX4_init 60 = .ok (.getfield 11, 3) := by decide +kernel
theorem dX4_init_63 : decode cX4_init 63 = .ok (.iload_n 1, 1) := by decide +kernel
theorem dX4_init_64 : decode cX4_init 64 = .ok (.new 9, 3) := by decide +kernel
theorem dX4_init_67 : decode cX4_init 67 = .ok (.dup, 1) := by decide +kernel
theorem dX4_init_68 : decode cX4_init 68 = .ok (.invokespecial 35, 3) := by decide +kernel
theorem dX4_init_71 : decode cX4_init 71 = .ok (.aastore, 1) := by decide +kernel
theorem dX4_init_72 : decode cX4_init 72 = .ok (.iinc 1 1, 3) := by decide +kernel
theorem dX4_init_75 : decode cX4_init 75 = .ok (.goto (-25), 3) := by decide +kernel
theorem dX4_init_78 : decode cX4_init 78 = .ok (.iconst 0, 1) := by decide +kernel
theorem dX4_init_79 : decode cX4_init 79 = .ok (.istore_n 1, 1) := by decide +kernel
theorem dX4_init_80 : decode cX4_init 80 = .ok (.iload_n 1, 1) := by decide +kernel
theorem dX4_init_81 : decode cX4_init 81 = .ok (.aload_n 0, 1) := by decide +kernel
theorem dX4_init_82 : decode cX4_init 82 = .ok (.getfield 17, 3) := by decide +kernel
theorem dX4_init_85 : decode cX4_init 85 = .ok (.arraylength, 1) := by decide +kernel
theorem dX4_init_86 : decode cX4_init 86 = .ok (.if_icmp .ge 22, 3) := by decide +kernel
theorem dX4_init_89 : decode cX4_init 89 = .ok (.aload_n 0, 1) := by decide +kernel
theorem dX4_init_90 : decode cX4_init 90 = .ok (.getfield 17, 3) := by decide +kernel
theorem dX4_init_93 : decode cX4_init 93 = .ok (.iload_n 1, 1) := by decide +kernel
theorem dX4_init_94 : decode cX4_init 94 = .ok (.new 15, 3) := by decide +kernel
theorem dX4_init_97 : decode cX4_init 97 = .ok (.dup, 1) := by decide +kernel
theorem dX4_init_98 : decode cX4_init 98 = .ok (.invokespecial 36, 3) := by decide +kernel
theorem dX4_init_101 : decode cX4_init 101 = .ok (.aastore, 1) := by decide +kernel
theorem dX4_init_102 : decode cX4_init 102 = .ok (.iinc 1 1, 3) := by decide +kernel
theorem dX4_init_105 : decode cX4_init 105 = .ok (.goto (-25), 3) := by decide +kernel
theorem dX4_init_108 : decode cX4_init 108 = .ok (.aload_n 0, 1) := by decide +kernel
theorem dX4_init_109 : decode cX4_init 109 = .ok (.iconst 0, 1) := by decide +kernel
theorem dX4_init_110 : decode cX4_init 110 = .ok (.putfield 37, 3) := by decide +kernel
theorem dX4_init_113 : decode cX4_init 113 = .ok (.return_, 1) := by decide +kernel
theorem dX4_element_0 : decode cX4_element 0 = .ok (.iload_n 1, 1) := by decide +kernel
theorem dX4_element_1 : decode cX4_element 1 = .ok (.iconst 0, 1) := by decide +kernel
theorem dX4_element_2 : decode cX4_element 2 = .ok (.bipush 12, 2) := by decide +kernel
theorem dX4_element_4 : decode cX4_element 4 = .ok (.invokestatic 41, 3) := by decide +kernel
theorem dX4_element_7 : decode cX4_element 7 = .ok (.ifCond .eq 24, 3) := by decide +kernel
theorem dX4_element_10 : decode cX4_element 10 = .ok (.iload_n 2, 1) := by decide +kernel
theorem dX4_element_11 : decode cX4_element 11 = .ok (.bipush 32, 2) := by decide +kernel
theorem dX4_element_13 : decode cX4_element 13 = .ok (.bipush 96, 2) := by decide +kernel
theorem dX4_element_15 : decode cX4_element 15 = .ok (.invokestatic 41, 3) := by decide +kernel
theorem dX4_element_18 : decode cX4_element 18 = .ok (.ifCond .eq 13, 3) := by decide +kernel
theorem dX4_element_21 : decode cX4_element 21 = .ok (.iload_n 3, 1) := by decide +kernel
theorem dX4_element_22 : decode cX4_element 22 = .ok (.bipush (-3), 2) := by decide +kernel
theorem dX4_element_24 : decode cX4_element 24 = .ok (.iconst 3, 1) := by decide +kernel
theorem dX4_element_25 : decode cX4_element 25 = .ok (.invokestatic 41, 3) := by decide +kernel
theorem dX4_element_28 : decode cX4_element 28 = .ok (.ifCond .ne 13, 3) := by decide +kernel
theorem dX4_element_31 : decode cX4_element 31 = .ok (.new 45, 3) := by decide +kernel
theorem dX4_element_34 : decode cX4_element 34 = .ok (.dup, 1) := by decide +kernel
theorem dX4_element_35 : decode cX4_element 35 = .ok (.ldc 47, 2) := by decide +kernel
theorem dX4_element_37 : decode cX4_element 37 = .ok (.invokespecial 49, 3) := by decide +kernel
theorem dX4_element_40 : decode cX4_element 40 = .ok (.athrow, 1) := by decide +kernel
theorem dX4_element_41 : decode cX4_element 41 = .ok (.aload_n 0, 1) := by decide +kernel
theorem dX4_element_42 : decode cX4_element 42 = .ok (.getfield 52, 3) := by decide +kernel
theorem dX4_element_45 : decode cX4_element 45 = .ok (.istore 4, 2) := by decide +kernel
theorem dX4_element_47 : decode cX4_element 47 = .ok (.iload 4, 2) := by decide +kernel
theorem dX4_element_49 : decode cX4_element 49 = .ok (.ifCond .lt 13, 3) := by decide +kernel
theorem dX4_element_52 : decode cX4_element 52 = .ok (.iload 4, 2) := by decide +kernel
theorem dX4_element_54 : decode cX4_element 54 = .ok (.aload_n 0, 1) := by decide +kernel
theorem dX4_element_55 : decode cX4_element 55 = .ok (.getfield 11, 3) := by decide +kernel
theorem dX4_element_58 : decode cX4_element 58 = .ok (.arraylength, 1) := by decide +kernel
theorem dX4_element_59 : decode cX4_element 59 = .ok (.if_icmp .lt 13, 3) := by decide +kernel
theorem dX4_element_62 : decode cX4_element 62 = .ok (.new 55, 3) := by decide +kernel
theorem dX4_element_65 : decode cX4_element 65 = .ok (.dup, 1) := by decide +kernel
theorem dX4_element_66 : decode cX4_element 66 = .ok (.ldc 57, 2) := by decide +kernel
theorem dX4_element_68 : decode cX4_element 68 = .ok (.invokespecial 59, 3) := by decide +kernel
theorem dX4_element_71 : decode cX4_element 71 = .ok (.athrow, 1) := by decide +kernel
theorem dX4_element_72 : decode cX4_element 72 = .ok (.aload_n 0, 1) := by decide +kernel
theorem dX4_element_73 : decode cX4_element 73 = .ok (.getfield 11, 3) := by decide +kernel
theorem dX4_element_76 : decode cX4_element 76 = .ok (.iload 4, 2) := by decide +kernel
theorem dX4_element_78 : decode cX4_element 78 = .ok (.aaload, 1) := by decide +kernel
theorem dX4_element_79 : decode cX4_element 79 = .ok (.iload_n 1, 1) := by decide +kernel
theorem dX4_element_80 : decode cX4_element 80 = .ok (.iload_n 2, 1) := by decide +kernel
theorem dX4_element_81 : decode cX4_element 81 = .ok (.iload_n 3, 1) := by decide +kernel
theorem dX4_element_82 : decode cX4_element 82 = .ok (.aload_n 0, 1) := by decide +kernel
theorem dX4_element_83 : decode cX4_element 83 = .ok (.getfield 60, 3) := by decide +kernel
theorem dX4_element_86 : decode cX4_element 86 = .ok (.invokevirtual 63, 3) := by decide +kernel
theorem dX4_element_89 : decode cX4_element 89 = .ok (.aload_n 0, 1) := by decide +kernel
theorem dX4_element_90 : decode cX4_element 90 = .ok (.iload 4, 2) := by decide +kernel
theorem dX4_element_92 : decode cX4_element 92 = .ok (.iconst 1, 1) := by decide +kernel
theorem dX4_element_93 : decode cX4_element 93 = .ok (.iadd, 1) := by decide +kernel
theorem dX4_element_94 : decode cX4_element 94 = .ok (.putfield 52, 3) := by decide +kernel
theorem dX4_element_97 : decode cX4_element 97 = .ok (.iload 4, 2) := by decide +kernel
theorem dX4_element_99 : decode cX4_element 99 = .ok (.ireturn, 1) := by decide +kernel
theorem dX4_alive_0 : decode cX4_alive 0 = .ok (.aload_n 0, 1) := by decide +kernel
theorem dX4_alive_1 : decode cX4_alive 1 = .ok (.iload_n 1, 1) := by decide +kernel
theorem dX4_alive_2 : decode cX4_alive 2 = .ok (.invokevirtual 67, 3) := by decide +kernel
theorem dX4_alive_5 : decode cX4_alive 5 = .ok (.ifCond .ne 13, 3) := by decide +kernel
theorem dX4_alive_8 : decode cX4_alive 8 = .ok (.new 71, 3) := by decide +kernel
theorem dX4_alive_11 : decode cX4_alive 11 = .ok (.dup, 1) := by decide +kernel
theorem dX4_alive_12 : decode cX4_alive 12 = .ok (.ldc 73, 2) := by decide +kernel
theorem dX4_alive_14 : decode cX4_alive 14 = .ok (.invokespecial 75, 3) := by decide +kernel
theorem dX4_alive_17 : decode cX4_alive 17 = .ok (.athrow, 1) := by decide +kernel
theorem dX4_alive_18 : decode cX4_alive 18 = .ok (.aload_n 0, 1) := by decide +kernel
theorem dX4_alive_19 : decode cX4_alive 19 = .ok (.getfield 11, 3) := by decide +kernel
theorem dX4_alive_22 : decode cX4_alive 22 = .ok (.iload_n 1, 1) := by decide +kernel
theorem dX4_alive_23 : decode cX4_alive 23 = .ok (.aaload, 1) := by decide +kernel
theorem dX4_alive_24 : decode cX4_alive 24 = .ok (.invokevirtual 76, 3) := by decide +kernel
theorem dX4_alive_27 : decode cX4_alive 27 = .ok (.istore_n 3, 1) := by decide +kernel
theorem dX4_alive_28 : decode cX4_alive 28 = .ok (.aload_n 0, 1) := by decide +kernel
theorem dX4_alive_29 : decode cX4_alive 29 = .ok (.getfield 11, 3) := by decide +kernel
theorem dX4_alive_32 : decode cX4_alive 32 = .ok (.iload_n 1, 1) := by decide +kernel
theorem dX4_alive_33 : decode cX4_alive 33 = .ok (.aaload, 1) := by decide +kernel
theorem dX4_alive_34 : decode cX4_alive 34 = .ok (.iload_n 2, 1) := by decide +kernel
theorem dX4_alive_35 : decode cX4_alive 35 = .ok (.invokevirtual 80, 3) := by decide +kernel
theorem dX4_alive_38 : decode cX4_alive 38 = .ok (.iload_n 3, 1) := by decide +kernel
theorem dX4_alive_39 : decode cX4_alive 39 = .ok (.ireturn, 1) := by decide +kernel
theorem dX4_source_0 : decode cX4_source 0 = .ok (.iload_n 1, 1) := by decide +kernel
theorem dX4_source_1 : decode cX4_source 1 = .ok (.invokestatic 84, 3) := by decide +kernel
theorem dX4_source_4 : decode cX4_source 4 = .ok (.ifCond .ne 13, 3) := by decide +kernel
theorem dX4_source_7 : decode cX4_source 7 = .ok (.new 71, 3) := by decide +kernel
theorem dX4_source_10 : decode cX4_source 10 = .ok (.dup, 1) := by decide +kernel
theorem dX4_source_11 : decode cX4_source 11 = .ok (.ldc 87, 2) := by decide +kernel
theorem dX4_source_13 : decode cX4_source 13 = .ok (.invokespecial 75, 3) := by decide +kernel
theorem dX4_source_16 : decode cX4_source 16 = .ok (.athrow, 1) := by decide +kernel
theorem dX4_source_17 : decode cX4_source 17 = .ok (.iload_n 2, 1) := by decide +kernel
theorem dX4_source_18 : decode cX4_source 18 = .ok (.iconst 1, 1) := by decide +kernel
theorem dX4_source_19 : decode cX4_source 19 = .ok (.bipush 100, 2) := by decide +kernel
theorem dX4_source_21 : decode cX4_source 21 = .ok (.invokestatic 41, 3) := by decide +kernel
theorem dX4_source_24 : decode cX4_source 24 = .ok (.ifCond .eq 13, 3) := by decide +kernel
theorem dX4_source_27 : decode cX4_source 27 = .ok (.iload_n 3, 1) := by decide +kernel
theorem dX4_source_28 : decode cX4_source 28 = .ok (.iconst 2, 1) := by decide +kernel
theorem dX4_source_29 : decode cX4_source 29 = .ok (.bipush 16, 2) := by decide +kernel
theorem dX4_source_31 : decode cX4_source 31 = .ok (.invokestatic 41, 3) := by decide +kernel
theorem dX4_source_34 : decode cX4_source 34 = .ok (.ifCond .ne 13, 3) := by decide +kernel
theorem dX4_source_37 : decode cX4_source 37 = .ok (.new 45, 3) := by decide +kernel
theorem dX4_source_40 : decode cX4_source 40 = .ok (.dup, 1) := by decide +kernel
theorem dX4_source_41 : decode cX4_source 41 = .ok (.ldc 89, 2) := by decide +kernel
theorem dX4_source_43 : decode cX4_source 43 = .ok (.invokespecial 49, 3) := by decide +kernel
theorem dX4_source_46 : decode cX4_source 46 = .ok (.athrow, 1) := by decide +kernel
theorem dX4_source_47 : decode cX4_source 47 = .ok (.aload_n 0, 1) := by decide +kernel
theorem dX4_source_48 : decode cX4_source 48 = .ok (.getfield 91, 3) := by decide +kernel
theorem dX4_source_51 : decode cX4_source 51 = .ok (.istore 4, 2) := by decide +kernel
theorem dX4_source_53 : decode cX4_source 53 = .ok (.iload 4, 2) := by decide +kernel
theorem dX4_source_55 : decode cX4_source 55 = .ok (.ifCond .lt 13, 3) := by decide +kernel
theorem dX4_source_58 : decode cX4_source 58 = .ok (.iload 4, 2) := by decide +kernel
theorem dX4_source_60 : decode cX4_source 60 = .ok (.aload_n 0, 1) := by decide +kernel
theorem dX4_source_61 : decode cX4_source 61 = .ok (.getfield 17, 3) := by decide +kernel
theorem dX4_source_64 : decode cX4_source 64 = .ok (.arraylength, 1) := by decide +kernel
theorem dX4_source_65 : decode cX4_source 65 = .ok (.if_icmp .lt 13, 3) := by decide +kernel
theorem dX4_source_68 : decode cX4_source 68 = .ok (.new 55, 3) := by decide +kernel
theorem dX4_source_71 : decode cX4_source 71 = .ok (.dup, 1) := by decide +kernel
theorem dX4_source_72 : decode cX4_source 72 = .ok (.ldc 94, 2) := by decide +kernel
theorem dX4_source_74 : decode cX4_source 74 = .ok (.invokespecial 59, 3) := by decide +kernel
theorem dX4_source_77 : decode cX4_source 77 = .ok (.athrow, 1) := by decide +kernel
theorem dX4_source_78 : decode cX4_source 78 = .ok (.aload_n 0, 1) := by decide +kernel
theorem dX4_source_79 : decode cX4_source 79 = .ok (.getfield 17, 3) := by decide +kernel
theorem dX4_source_82 : decode cX4_source 82 = .ok (.iload 4, 2) := by decide +kernel
theorem dX4_source_84 : decode cX4_source 84 = .ok (.aaload, 1) := by decide +kernel
theorem dX4_source_85 : decode cX4_source 85 = .ok (.iload_n 1, 1) := by decide +kernel
theorem dX4_source_86 : decode cX4_source 86 = .ok (.iload_n 2, 1) := by decide +kernel
theorem dX4_source_87 : decode cX4_source 87 = .ok (.iload_n 3, 1) := by decide +kernel
theorem dX4_source_88 : decode cX4_source 88 = .ok (.invokevirtual 96, 3) := by decide +kernel
theorem dX4_source_91 : decode cX4_source 91 = .ok (.aload_n 0, 1) := by decide +kernel
theorem dX4_source_92 : decode cX4_source 92 = .ok (.iload 4, 2) := by decide +kernel
theorem dX4_source_94 : decode cX4_source 94 = .ok (.iconst 1, 1) := by decide +kernel
theorem dX4_source_95 : decode cX4_source 95 = .ok (.iadd, 1) := by decide +kernel
theorem dX4_source_96 : decode cX4_source 96 = .ok (.putfield 91, 3) := by decide +kernel
theorem dX4_source_99 : decode cX4_source 99 = .ok (.iload 4, 2) := by decide +kernel
theorem dX4_source_101 : decode cX4_source 101 = .ok (.ireturn, 1) := by decide +kernel
theorem dX4_silence_0 : decode cX4_silence 0 = .ok (.aload_n 0, 1) := by decide +kernel
theorem dX4_silence_1 : decode cX4_silence 1 = .ok (.getfield 91, 3) := by decide +kernel
theorem dX4_silence_4 : decode cX4_silence 4 = .ok (.istore_n 1, 1) := by decide +kernel
theorem dX4_silence_5 : decode cX4_silence 5 = .ok (.aload_n 0, 1) := by decide +kernel
theorem dX4_silence_6 : decode cX4_silence 6 = .ok (.iconst 0, 1) := by decide +kernel
theorem dX4_silence_7 : decode cX4_silence 7 = .ok (.putfield 91, 3) := by decide +kernel
theorem dX4_silence_10 : decode cX4_silence 10 = .ok (.iload_n 1, 1) := by decide +kernel
theorem dX4_silence_11 : decode cX4_silence 11 = .ok (.ireturn, 1) := by decide +kernel
theorem dX4_noise_0 : decode cX4_noise 0 = .ok (.iload_n 1, 1) := by decide +kernel
theorem dX4_noise_1 : decode cX4_noise 1 = .ok (.iconst 0, 1) := by decide +kernel
theorem dX4_noise_2 : decode cX4_noise 2 = .ok (.bipush 50, 2) := by decide +kernel
theorem dX4_noise_4 : decode cX4_noise 4 = .ok (.invokestatic 41, 3) := by decide +kernel
theorem dX4_noise_7 : decode cX4_noise 7 = .ok (.ifCond .eq 13, 3) := by decide +kernel
theorem dX4_noise_10 : decode cX4_noise 10 = .ok (.iload_n 2, 1) := by decide +kernel
theorem dX4_noise_11 : decode cX4_noise 11 = .ok (.iconst 1, 1) := by decide +kernel
theorem dX4_noise_12 : decode cX4_noise 12 = .ok (.ldc 100, 2) := by decide +kernel
theorem dX4_noise_14 : decode cX4_noise 14 = .ok (.invokestatic 41, 3) := by decide +kernel
theorem dX4_noise_17 : decode cX4_noise 17 = .ok (.ifCond .ne 13, 3) := by decide +kernel
theorem dX4_noise_20 : decode cX4_noise 20 = .ok (.new 45, 3) := by decide +kernel
theorem dX4_noise_23 : decode cX4_noise 23 = .ok (.dup, 1) := by decide +kernel
theorem dX4_noise_24 : decode cX4_noise 24 = .ok (.ldc 101, 2) := by decide +kernel
theorem dX4_noise_26 : decode cX4_noise 26 = .ok (.invokespecial 49, 3) := by decide +kernel
theorem dX4_noise_29 : decode cX4_noise 29 = .ok (.athrow, 1) := by decide +kernel
theorem dX4_noise_30 : decode cX4_noise 30 = .ok (.aload_n 0, 1) := by decide +kernel
theorem dX4_noise_31 : decode cX4_noise 31 = .ok (.getfield 24, 3) := by decide +kernel
theorem dX4_noise_34 : decode cX4_noise 34 = .ok (.invokevirtual 103, 3) := by decide +kernel
theorem dX4_noise_37 : decode cX4_noise 37 = .ok (.istore_n 3, 1) := by decide +kernel
theorem dX4_noise_38 : decode cX4_noise 38 = .ok (.aload_n 0, 1) := by decide +kernel
theorem dX4_noise_39 : decode cX4_noise 39 = .ok (.getfield 24, 3) := by decide +kernel
theorem dX4_noise_42 : decode cX4_noise 42 = .ok (.iload_n 1, 1) := by decide +kernel
theorem dX4_noise_43 : decode cX4_noise 43 = .ok (.iload_n 2, 1) := by decide +kernel
theorem dX4_noise_44 : decode cX4_noise 44 = .ok (.invokevirtual 107, 3) := by decide +kernel
theorem dX4_noise_47 : decode cX4_noise 47 = .ok (.iload_n 3, 1) := by decide +kernel
theorem dX4_noise_48 : decode cX4_noise 48 = .ok (.ireturn, 1) := by decide +kernel
theorem dX4_hear_0 : decode cX4_hear 0 = .ok (.iload_n 1, 1) := by decide +kernel
theorem dX4_hear_1 : decode cX4_hear 1 = .ok (.iconst 1, 1) := by decide +kernel
theorem dX4_hear_2 : decode cX4_hear 2 = .ok (.bipush 100, 2) := by decide +kernel
theorem dX4_hear_4 : decode cX4_hear 4 = .ok (.invokestatic 41, 3) := by decide +kernel
theorem dX4_hear_7 : decode cX4_hear 7 = .ok (.ifCond .ne 13, 3) := by decide +kernel
theorem dX4_hear_10 : decode cX4_hear 10 = .ok (.new 45, 3) := by decide +kernel
theorem dX4_hear_13 : decode cX4_hear 13 = .ok (.dup, 1) := by decide +kernel
theorem dX4_hear_14 : decode cX4_hear 14 = .ok (.ldc 111, 2) := by decide +kernel
theorem dX4_hear_16 : decode cX4_hear 16 = .ok (.invokespecial 49, 3) := by decide +kernel
theorem dX4_hear_19 : decode cX4_hear 19 = .ok (.athrow, 1) := by decide +kernel
theorem dX4_hear_20 : decode cX4_hear 20 = .ok (.iconst 0, 1) := by decide +kernel
theorem dX4_hear_21 : decode cX4_hear 21 = .ok (.istore_n 2, 1) := by decide +kernel
theorem dX4_hear_22 : decode cX4_hear 22 = .ok (.iload_n 2, 1) := by decide +kernel
theorem dX4_hear_23 : decode cX4_hear 23 = .ok (.iload_n 1, 1) := by decide +kernel
theorem dX4_hear_24 : decode cX4_hear 24 = .ok (.if_icmp .ge 13, 3) := by decide +kernel
theorem dX4_hear_27 : decode cX4_hear 27 = .ok (.aload_n 0, 1) := by decide +kernel
theorem dX4_hear_28 : decode cX4_hear 28 = .ok (.invokevirtual 113, 3) := by decide +kernel
theorem dX4_hear_31 : decode cX4_hear 31 = .ok (.iinc 2 1, 3) := by decide +kernel
theorem dX4_hear_34 : decode cX4_hear 34 = .ok (.goto (-12), 3) := by decide +kernel
theorem dX4_hear_37 : decode cX4_hear 37 = .ok (.aload_n 0, 1) := by decide +kernel
theorem dX4_hear_38 : decode cX4_hear 38 = .ok (.getfield 60, 3) := by decide +kernel
theorem dX4_hear_41 : decode cX4_hear 41 = .ok (.ireturn, 1) := by decide +kernel
theorem dX4_window_0 : decode cX4_window 0 = .ok (.iload_n 1, 1) := by decide +kernel
theorem dX4_window_1 : decode cX4_window 1 = .ok (.iconst 0, 1) := by decide +kernel
theorem dX4_window_2 : decode cX4_window 2 = .ok (.iconst 2, 1) := by decide +kernel
theorem dX4_window_3 : decode cX4_window 3 = .ok (.invokestatic 41, 3) := by decide +kernel
theorem dX4_window_6 : decode cX4_window 6 = .ok (.ifCond .ne 13, 3) := by decide +kernel
theorem dX4_window_9 : decode cX4_window 9 = .ok (.new 45, 3) := by decide +kernel
theorem dX4_window_12 : decode cX4_window 12 = .ok (.dup, 1) := by decide +kernel
theorem dX4_window_13 : decode cX4_window 13 = .ok (.ldc 116, 2) := by decide +kernel
theorem dX4_window_15 : decode cX4_window 15 = .ok (.invokespecial 49, 3) := by decide +kernel
theorem dX4_window_18 : decode cX4_window 18 = .ok (.athrow, 1) := by decide +kernel
theorem dX4_window_19 : decode cX4_window 19 = .ok (.aload_n 0, 1) := by decide +kernel
theorem dX4_window_20 : decode cX4_window 20 = .ok (.getfield 37, 3) := by decide +kernel
theorem dX4_window_23 : decode cX4_window 23 = .ok (.istore_n 2, 1) := by decide +kernel
theorem dX4_window_24 : decode cX4_window 24 = .ok (.aload_n 0, 1) := by decide +kernel
theorem dX4_window_25 : decode cX4_window 25 = .ok (.iload_n 1, 1) := by decide +kernel
theorem dX4_window_26 : decode cX4_window 26 = .ok (.putfield 37, 3) := by decide +kernel
theorem dX4_window_29 : decode cX4_window 29 = .ok (.iload_n 2, 1) := by decide +kernel
theorem dX4_window_30 : decode cX4_window 30 = .ok (.ireturn, 1) := by decide +kernel
theorem dX4_calibrate_0 : decode cX4_calibrate 0 = .ok (.iload_n 1, 1) := by decide +kernel
theorem dX4_calibrate_1 : decode cX4_calibrate 1 = .ok (.invokestatic 84, 3) := by decide +kernel
theorem dX4_calibrate_4 : decode cX4_calibrate 4 = .ok (.ifCond .ne 13, 3) := by decide +kernel
theorem dX4_calibrate_7 : decode cX4_calibrate 7 = .ok (.new 71, 3) := by decide +kernel
theorem dX4_calibrate_10 : decode cX4_calibrate 10 = .ok (.dup, 1) := by decide +kernel
theorem dX4_calibrate_11 : decode cX4_calibrate 11 = .ok (.ldc 87, 2) := by decide +kernel
theorem dX4_calibrate_13 : decode cX4_calibrate 13 = .ok (.invokespecial 75, 3) := by decide +kernel
theorem dX4_calibrate_16 : decode cX4_calibrate 16 = .ok (.athrow, 1) := by decide +kernel
theorem dX4_calibrate_17 : decode cX4_calibrate 17 = .ok (.aload_n 0, 1) := by decide +kernel
theorem dX4_calibrate_18 : decode cX4_calibrate 18 = .ok (.invokevirtual 118, 3) := by decide +kernel
theorem dX4_calibrate_21 : decode cX4_calibrate 21 = .ok (.astore_n 2, 1) := by decide +kernel
theorem dX4_calibrate_22 : decode cX4_calibrate 22 = .ok (.aload_n 2, 1) := by decide +kernel
theorem dX4_calibrate_23 : decode cX4_calibrate 23 = .ok (.ifnonnull 13, 3) := by decide +kernel
theorem dX4_calibrate_26 : decode cX4_calibrate 26 = .ok (.new 55, 3) := by decide +kernel
theorem dX4_calibrate_29 : decode cX4_calibrate 29 = .ok (.dup, 1) := by decide +kernel
theorem dX4_calibrate_30 : decode cX4_calibrate 30 = .ok (.ldc 122, 2) := by decide +kernel
theorem dX4_calibrate_32 : decode cX4_calibrate 32 = .ok (.invokespecial 59, 3) := by decide +kernel
theorem dX4_calibrate_35 : decode cX4_calibrate 35 = .ok (.athrow, 1) := by decide +kernel
theorem dX4_calibrate_36 : decode cX4_calibrate 36 = .ok (.aload_n 0, 1) := by decide +kernel
theorem dX4_calibrate_37 : decode cX4_calibrate 37 = .ok (.invokevirtual 124, 3) := by decide +kernel
theorem dX4_calibrate_40 : decode cX4_calibrate 40 = .ok (.pop2, 1) := by decide +kernel
theorem dX4_calibrate_41 : decode cX4_calibrate 41 = .ok (.aload_n 2, 1) := by decide +kernel
theorem dX4_calibrate_42 : decode cX4_calibrate 42 = .ok (.aload_n 2, 1) := by decide +kernel
theorem dX4_calibrate_43 : decode cX4_calibrate 43 = .ok (.iload_n 1, 1) := by decide +kernel
theorem dX4_calibrate_44 : decode cX4_calibrate 44 = .ok (.iconst 0, 1) := by decide +kernel
theorem dX4_calibrate_45 : decode cX4_calibrate 45 = .ok (.invokevirtual 128, 3) := by decide +kernel
theorem dX4_calibrate_48 : decode cX4_calibrate 48 = .ok (.lstore_n 3, 1) := by decide +kernel
theorem dX4_calibrate_49 : decode cX4_calibrate 49 = .ok (.lload_n 3, 1) := by decide +kernel
theorem dX4_calibrate_50 : decode cX4_calibrate 50 = .ok (.lconst 0, 1) := by decide +kernel
theorem dX4_calibrate_51 : decode cX4_calibrate 51 = .ok (.lcmp, 1) := by decide +kernel
theorem dX4_calibrate_52 : decode cX4_calibrate 52 = .ok (.ifCond .gt 13, 3) := by decide +kernel
theorem dX4_calibrate_55 : decode cX4_calibrate 55 = .ok (.new 55, 3) := by decide +kernel
theorem dX4_calibrate_58 : decode cX4_calibrate 58 = .ok (.dup, 1) := by decide +kernel
theorem dX4_calibrate_59 : decode cX4_calibrate 59 = .ok (.ldc 132, 2) := by decide +kernel
theorem dX4_calibrate_61 : decode cX4_calibrate 61 = .ok (.invokespecial 59, 3) := by decide +kernel
theorem dX4_calibrate_64 : decode cX4_calibrate 64 = .ok (.athrow, 1) := by decide +kernel
theorem dX4_calibrate_65 : decode cX4_calibrate 65 = .ok (.aload_n 0, 1) := by decide +kernel
theorem dX4_calibrate_66 : decode cX4_calibrate 66 = .ok (.aload_n 2, 1) := by decide +kernel
theorem dX4_calibrate_67 : decode cX4_calibrate 67 = .ok (.lload_n 3, 1) := by decide +kernel
theorem dX4_calibrate_68 : decode cX4_calibrate 68 = .ok (.iload_n 1, 1) := by decide +kernel
theorem dX4_calibrate_69 : decode cX4_calibrate 69 = .ok (.invokevirtual 134, 3) := by decide +kernel
theorem dX4_calibrate_72 : decode cX4_calibrate 72 = .ok (.ireturn, 1) := by decide +kernel
theorem dX4_sample_0 : decode cX4_sample 0 = .ok (.aload_n 0, 1) := by decide +kernel
theorem dX4_sample_1 : decode cX4_sample 1 = .ok (.iload_n 1, 1) := by decide +kernel
theorem dX4_sample_2 : decode cX4_sample 2 = .ok (.invokevirtual 67, 3) := by decide +kernel
theorem dX4_sample_5 : decode cX4_sample 5 = .ok (.ifCond .eq 13, 3) := by decide +kernel
theorem dX4_sample_8 : decode cX4_sample 8 = .ok (.iload_n 2, 1) := by decide +kernel
theorem dX4_sample_9 : decode cX4_sample 9 = .ok (.iconst 0, 1) := by decide +kernel
theorem dX4_sample_10 : decode cX4_sample 10 = .ok (.bipush 63, 2) := by decide +kernel
theorem dX4_sample_12 : decode cX4_sample 12 = .ok (.invokestatic 41, 3) := by decide +kernel
theorem dX4_sample_15 : decode cX4_sample 15 = .ok (.ifCond .ne 13, 3) := by decide +kernel
theorem dX4_sample_18 : decode cX4_sample 18 = .ok (.new 71, 3) := by decide +kernel
theorem dX4_sample_21 : decode cX4_sample 21 = .ok (.dup, 1) := by decide +kernel
theorem dX4_sample_22 : decode cX4_sample 22 = .ok (.ldc 138, 2) := by decide +kernel
theorem dX4_sample_24 : decode cX4_sample 24 = .ok (.invokespecial 75, 3) := by decide +kernel
theorem dX4_sample_27 : decode cX4_sample 27 = .ok (.athrow, 1) := by decide +kernel
theorem dX4_sample_28 : decode cX4_sample 28 = .ok (.aload_n 0, 1) := by decide +kernel
theorem dX4_sample_29 : decode cX4_sample 29 = .ok (.getfield 11, 3) := by decide +kernel
theorem dX4_sample_32 : decode cX4_sample 32 = .ok (.iload_n 1, 1) := by decide +kernel
theorem dX4_sample_33 : decode cX4_sample 33 = .ok (.aaload, 1) := by decide +kernel
theorem dX4_sample_34 : decode cX4_sample 34 = .ok (.iload_n 2, 1) := by decide +kernel
theorem dX4_sample_35 : decode cX4_sample 35 = .ok (.invokevirtual 140, 3) := by decide +kernel
theorem dX4_sample_38 : decode cX4_sample 38 = .ok (.ireturn, 1) := by decide +kernel
theorem dX4_sum_0 : decode cX4_sum 0 = .ok (.iload_n 1, 1) := by decide +kernel
theorem dX4_sum_1 : decode cX4_sum 1 = .ok (.invokestatic 84, 3) := by decide +kernel
theorem dX4_sum_4 : decode cX4_sum 4 = .ok (.ifCond .eq 14, 3) := by decide +kernel
theorem dX4_sum_7 : decode cX4_sum 7 = .ok (.iload_n 2, 1) := by decide +kernel
theorem dX4_sum_8 : decode cX4_sum 8 = .ok (.bipush 16, 2) := by decide +kernel
theorem dX4_sum_10 : decode cX4_sum 10 = .ok (.bipush 47, 2) := by decide +kernel
theorem dX4_sum_12 : decode cX4_sum 12 = .ok (.invokestatic 41, 3) := by decide +kernel
theorem dX4_sum_15 : decode cX4_sum 15 = .ok (.ifCond .ne 13, 3) := by decide +kernel
theorem dX4_sum_18 : decode cX4_sum 18 = .ok (.new 71, 3) := by decide +kernel
theorem dX4_sum_21 : decode cX4_sum 21 = .ok (.dup, 1) := by decide +kernel
theorem dX4_sum_22 : decode cX4_sum 22 = .ok (.ldc 144, 2) := by decide +kernel
theorem dX4_sum_24 : decode cX4_sum 24 = .ok (.invokespecial 75, 3) := by decide +kernel
theorem dX4_sum_27 : decode cX4_sum 27 = .ok (.athrow, 1) := by decide +kernel
theorem dX4_sum_28 : decode cX4_sum 28 = .ok (.aload_n 0, 1) := by decide +kernel
theorem dX4_sum_29 : decode cX4_sum 29 = .ok (.invokevirtual 124, 3) := by decide +kernel
theorem dX4_sum_32 : decode cX4_sum 32 = .ok (.pop2, 1) := by decide +kernel
theorem dX4_sum_33 : decode cX4_sum 33 = .ok (.aload_n 0, 1) := by decide +kernel
theorem dX4_sum_34 : decode cX4_sum 34 = .ok (.iload_n 1, 1) := by decide +kernel
theorem dX4_sum_35 : decode cX4_sum 35 = .ok (.invokevirtual 146, 3) := by decide +kernel
theorem dX4_sum_38 : decode cX4_sum 38 = .ok (.bipush 47, 2) := by decide +kernel
theorem dX4_sum_40 : decode cX4_sum 40 = .ok (.iload_n 2, 1) := by decide +kernel
theorem dX4_sum_41 : decode cX4_sum 41 = .ok (.isub, 1) := by decide +kernel
theorem dX4_sum_42 : decode cX4_sum 42 = .ok (.istore_n 3, 1) := by decide +kernel
theorem dX4_sum_43 : decode cX4_sum 43 = .ok (.iload_n 3, 1) := by decide +kernel
theorem dX4_sum_44 : decode cX4_sum 44 = .ok (.ifCond .lt 21, 3) := by decide +kernel
theorem dX4_sum_47 : decode cX4_sum 47 = .ok (.iload_n 3, 1) := by decide +kernel
theorem dX4_sum_48 : decode cX4_sum 48 = .ok (.aload_n 0, 1) := by decide +kernel
theorem dX4_sum_49 : decode cX4_sum 49 = .ok (.getfield 28, 3) := by decide +kernel
theorem dX4_sum_52 : decode cX4_sum 52 = .ok (.arraylength, 1) := by decide +kernel
theorem dX4_sum_53 : decode cX4_sum 53 = .ok (.if_icmp .ge 12, 3) := by decide +kernel
theorem dX4_sum_56 : decode cX4_sum 56 = .ok (.aload_n 0, 1) := by decide +kernel
theorem dX4_sum_57 : decode cX4_sum 57 = .ok (.getfield 28, 3) := by decide +kernel
theorem dX4_sum_60 : decode cX4_sum 60 = .ok (.iload_n 3, 1) := by decide +kernel
theorem dX4_sum_61 : decode cX4_sum 61 = .ok (.laload, 1) := by decide +kernel
theorem dX4_sum_62 : decode cX4_sum 62 = .ok (.goto 4, 3) := by decide +kernel
theorem dX4_sum_65 : decode cX4_sum 65 = .ok (.lconst 0, 1) := by decide +kernel
theorem dX4_sum_66 : decode cX4_sum 66 = .ok (.lreturn, 1) := by decide +kernel
theorem dX4_power_0 : decode cX4_power 0 = .ok (.iload_n 1, 1) := by decide +kernel
theorem dX4_power_1 : decode cX4_power 1 = .ok (.invokestatic 84, 3) := by decide +kernel
theorem dX4_power_4 : decode cX4_power 4 = .ok (.ifCond .ne 13, 3) := by decide +kernel
theorem dX4_power_7 : decode cX4_power 7 = .ok (.new 71, 3) := by decide +kernel
theorem dX4_power_10 : decode cX4_power 10 = .ok (.dup, 1) := by decide +kernel
theorem dX4_power_11 : decode cX4_power 11 = .ok (.ldc 87, 2) := by decide +kernel
theorem dX4_power_13 : decode cX4_power 13 = .ok (.invokespecial 75, 3) := by decide +kernel
theorem dX4_power_16 : decode cX4_power 16 = .ok (.athrow, 1) := by decide +kernel
theorem dX4_power_17 : decode cX4_power 17 = .ok (.aload_n 0, 1) := by decide +kernel
theorem dX4_power_18 : decode cX4_power 18 = .ok (.invokevirtual 124, 3) := by decide +kernel
theorem dX4_power_21 : decode cX4_power 21 = .ok (.pop2, 1) := by decide +kernel
theorem dX4_power_22 : decode cX4_power 22 = .ok (.aload_n 0, 1) := by decide +kernel
theorem dX4_power_23 : decode cX4_power 23 = .ok (.iload_n 1, 1) := by decide +kernel
theorem dX4_power_24 : decode cX4_power 24 = .ok (.invokevirtual 150, 3) := by decide +kernel
theorem dX4_power_27 : decode cX4_power 27 = .ok (.lreturn, 1) := by decide +kernel
theorem dX4_powerAnew_0 : decode cX4_powerAnew 0 = .ok (.iload_n 1, 1) := by decide +kernel
theorem dX4_powerAnew_1 : decode cX4_powerAnew 1 = .ok (.invokestatic 84, 3) := by decide +kernel
theorem dX4_powerAnew_4 : decode cX4_powerAnew 4 = .ok (.ifCond .ne 13, 3) := by decide +kernel
theorem dX4_powerAnew_7 : decode cX4_powerAnew 7 = .ok (.new 71, 3) := by decide +kernel
theorem dX4_powerAnew_10 : decode cX4_powerAnew 10 = .ok (.dup, 1) := by decide +kernel
theorem dX4_powerAnew_11 : decode cX4_powerAnew 11 = .ok (.ldc 87, 2) := by decide +kernel
theorem dX4_powerAnew_13 : decode cX4_powerAnew 13 = .ok (.invokespecial 75, 3) := by decide +kernel
theorem dX4_powerAnew_16 : decode cX4_powerAnew 16 = .ok (.athrow, 1) := by decide +kernel
theorem dX4_powerAnew_17 : decode cX4_powerAnew 17 = .ok (.aload_n 0, 1) := by decide +kernel
theorem dX4_powerAnew_18 : decode cX4_powerAnew 18 = .ok (.invokevirtual 124, 3) := by decide +kernel
theorem dX4_powerAnew_21 : decode cX4_powerAnew 21 = .ok (.pop2, 1) := by decide +kernel
theorem dX4_powerAnew_22 : decode cX4_powerAnew 22 = .ok (.aload_n 0, 1) := by decide +kernel
theorem dX4_powerAnew_23 : decode cX4_powerAnew 23 = .ok (.iload_n 1, 1) := by decide +kernel
theorem dX4_powerAnew_24 : decode cX4_powerAnew 24 = .ok (.invokevirtual 154, 3) := by decide +kernel
theorem dX4_powerAnew_27 : decode cX4_powerAnew 27 = .ok (.lreturn, 1) := by decide +kernel
theorem dX4_peaks_0 : decode cX4_peaks 0 = .ok (.iload_n 1, 1) := by decide +kernel
theorem dX4_peaks_1 : decode cX4_peaks 1 = .ok (.iconst 1, 1) := by decide +kernel
theorem dX4_peaks_2 : decode cX4_peaks 2 = .ok (.bipush 100, 2) := by decide +kernel
theorem dX4_peaks_4 : decode cX4_peaks 4 = .ok (.invokestatic 41, 3) := by decide +kernel
theorem dX4_peaks_7 : decode cX4_peaks 7 = .ok (.ifCond .ne 13, 3) := by decide +kernel
theorem dX4_peaks_10 : decode cX4_peaks 10 = .ok (.new 45, 3) := by decide +kernel
theorem dX4_peaks_13 : decode cX4_peaks 13 = .ok (.dup, 1) := by decide +kernel
theorem dX4_peaks_14 : decode cX4_peaks 14 = .ok (.ldc 157, 2) := by decide +kernel
theorem dX4_peaks_16 : decode cX4_peaks 16 = .ok (.invokespecial 49, 3) := by decide +kernel
theorem dX4_peaks_19 : decode cX4_peaks 19 = .ok (.athrow, 1) := by decide +kernel
theorem dX4_peaks_20 : decode cX4_peaks 20 = .ok (.aload_n 0, 1) := by decide +kernel
theorem dX4_peaks_21 : decode cX4_peaks 21 = .ok (.invokevirtual 124, 3) := by decide +kernel
theorem dX4_peaks_24 : decode cX4_peaks 24 = .ok (.pop2, 1) := by decide +kernel
theorem dX4_peaks_25 : decode cX4_peaks 25 = .ok (.aload_n 0, 1) := by decide +kernel
theorem dX4_peaks_26 : decode cX4_peaks 26 = .ok (.invokevirtual 159, 3) := by decide +kernel
theorem dX4_peaks_29 : decode cX4_peaks 29 = .ok (.lstore_n 2, 1) := by decide +kernel
theorem dX4_peaks_30 : decode cX4_peaks 30 = .ok (.iconst 0, 1) := by decide +kernel
theorem dX4_peaks_31 : decode cX4_peaks 31 = .ok (.istore 4, 2) := by decide +kernel
theorem dX4_peaks_33 : decode cX4_peaks 33 = .ok (.iconst 0, 1) := by decide +kernel
theorem dX4_peaks_34 : decode cX4_peaks 34 = .ok (.istore 5, 2) := by decide +kernel
theorem dX4_peaks_36 : decode cX4_peaks 36 = .ok (.iload 5, 2) := by decide +kernel
theorem dX4_peaks_38 : decode cX4_peaks 38 = .ok (.aload_n 0, 1) := by decide +kernel
theorem dX4_peaks_39 : decode cX4_peaks 39 = .ok (.getfield 32, 3) := by decide +kernel
theorem dX4_peaks_42 : decode cX4_peaks 42 = .ok (.arraylength, 1) := by decide +kernel
theorem dX4_peaks_43 : decode cX4_peaks 43 = .ok (.if_icmp .ge 40, 3) := by decide +kernel
theorem dX4_peaks_46 : decode cX4_peaks 46 = .ok (.aload_n 0, 1) := by decide +kernel
theorem dX4_peaks_47 : decode cX4_peaks 47 = .ok (.iload 5, 2) := by decide +kernel
theorem dX4_peaks_49 : decode cX4_peaks 49 = .ok (.invokevirtual 162, 3) := by decide +kernel
theorem dX4_peaks_52 : decode cX4_peaks 52 = .ok (.ifCond .eq 25, 3) := by decide +kernel
theorem dX4_peaks_55 : decode cX4_peaks 55 = .ok (.aload_n 0, 1) := by decide +kernel
theorem dX4_peaks_56 : decode cX4_peaks 56 = .ok (.getfield 32, 3) := by decide +kernel
theorem dX4_peaks_59 : decode cX4_peaks 59 = .ok (.iload 5, 2) := by decide +kernel
theorem dX4_peaks_61 : decode cX4_peaks 61 = .ok (.laload, 1) := by decide +kernel
theorem dX4_peaks_62 : decode cX4_peaks 62 = .ok (.ldc2_w 165, 3) := by decide +kernel
theorem dX4_peaks_65 : decode cX4_peaks 65 = .ok (.lmul, 1) := by decide +kernel
theorem dX4_peaks_66 : decode cX4_peaks 66 = .ok (.lload_n 2, 1) := by decide +kernel
theorem dX4_peaks_67 : decode cX4_peaks 67 = .ok (.iload_n 1, 1) := by decide +kernel
theorem dX4_peaks_68 : decode cX4_peaks 68 = .ok (.i2l, 1) := by decide +kernel
theorem dX4_peaks_69 : decode cX4_peaks 69 = .ok (.lmul, 1) := by decide +kernel
theorem dX4_peaks_70 : decode cX4_peaks 70 = .ok (.lcmp, 1) := by decide +kernel
theorem dX4_peaks_71 : decode cX4_peaks 71 = .ok (.ifCond .lt 6, 3) := by decide +kernel
theorem dX4_peaks_74 : decode cX4_peaks 74 = .ok (.iinc 4 1, 3) := by decide +kernel
theorem dX4_peaks_77 : decode cX4_peaks 77 = .ok (.iinc 5 1, 3) := by decide +kernel
theorem dX4_peaks_80 : decode cX4_peaks 80 = .ok (.goto (-44), 3) := by decide +kernel
theorem dX4_peaks_83 : decode cX4_peaks 83 = .ok (.iload 4, 2) := by decide +kernel
theorem dX4_peaks_85 : decode cX4_peaks 85 = .ok (.ireturn, 1) := by decide +kernel
theorem dX4_found_0 : decode cX4_found 0 = .ok (.iload_n 1, 1) := by decide +kernel
theorem dX4_found_1 : decode cX4_found 1 = .ok (.iconst 0, 1) := by decide +kernel
theorem dX4_found_2 : decode cX4_found 2 = .ok (.iconst 5, 1) := by decide +kernel
theorem dX4_found_3 : decode cX4_found 3 = .ok (.invokestatic 41, 3) := by decide +kernel
theorem dX4_found_6 : decode cX4_found 6 = .ok (.ifCond .ne 13, 3) := by decide +kernel
theorem dX4_found_9 : decode cX4_found 9 = .ok (.new 71, 3) := by decide +kernel
theorem dX4_found_12 : decode cX4_found 12 = .ok (.dup, 1) := by decide +kernel
theorem dX4_found_13 : decode cX4_found 13 = .ok (.ldc 167, 2) := by decide +kernel
theorem dX4_found_15 : decode cX4_found 15 = .ok (.invokespecial 75, 3) := by decide +kernel
theorem dX4_found_18 : decode cX4_found 18 = .ok (.athrow, 1) := by decide +kernel
theorem dX4_found_19 : decode cX4_found 19 = .ok (.aload_n 0, 1) := by decide +kernel
theorem dX4_found_20 : decode cX4_found 20 = .ok (.invokevirtual 124, 3) := by decide +kernel
theorem dX4_found_23 : decode cX4_found 23 = .ok (.lstore_n 2, 1) := by decide +kernel
theorem dX4_found_24 : decode cX4_found 24 = .ok (.aload_n 0, 1) := by decide +kernel
theorem dX4_found_25 : decode cX4_found 25 = .ok (.invokevirtual 169, 3) := by decide +kernel
theorem dX4_found_28 : decode cX4_found 28 = .ok (.istore 4, 2) := by decide +kernel
theorem dX4_found_30 : decode cX4_found 30 = .ok (.iconst 0, 1) := by decide +kernel
theorem dX4_found_31 : decode cX4_found 31 = .ok (.istore 5, 2) := by decide +kernel
theorem dX4_found_33 : decode cX4_found 33 = .ok (.iload 5, 2) := by decide +kernel
theorem dX4_found_35 : decode cX4_found 35 = .ok (.iload_n 1, 1) := by decide +kernel
theorem dX4_found_36 : decode cX4_found 36 = .ok (.if_icmp .ge 29, 3) := by decide +kernel
theorem dX4_found_39 : decode cX4_found 39 = .ok (.iload 4, 2) := by decide +kernel
theorem dX4_found_41 : decode cX4_found 41 = .ok (.bipush (-99), 2) := by decide +kernel
theorem dX4_found_43 : decode cX4_found 43 = .ok (.if_icmp .eq 22, 3) := by decide +kernel
end
section
theorem dX4_found_46 : decode cX4_found 46 = .ok (.aload_n 0, 1) := by decide +kernel
theorem dX4_found_47 : decode cX4_found 47 = .ok (.iload 4, 2) := by decide +kernel
theorem dX4_found_49 : decode cX4_found 49 = .ok (.lload_n 2, 1) := by decide +kernel
theorem dX4_found_50 : decode cX4_found 50 = .ok (.invokevirtual 172, 3) := by decide +kernel
theorem dX4_found_53 : decode cX4_found 53 = .ok (.aload_n 0, 1) := by decide +kernel
theorem dX4_found_54 : decode cX4_found 54 = .ok (.invokevirtual 169, 3) := by decide +kernel
theorem dX4_found_57 : decode cX4_found 57 = .ok (.istore 4, 2) := by decide +kernel
theorem dX4_found_59 : decode cX4_found 59 = .ok (.iinc 5 1, 3) := by decide +kernel
theorem dX4_found_62 : decode cX4_found 62 = .ok (.goto (-29), 3) := by decide +kernel
theorem dX4_found_65 : decode cX4_found 65 = .ok (.iload 4, 2) := by decide +kernel
theorem dX4_found_67 : decode cX4_found 67 = .ok (.ireturn, 1) := by decide +kernel
theorem dX4_calibrated_0 : decode cX4_calibrated 0 = .ok (.aload_n 0, 1) := by decide +kernel
theorem dX4_calibrated_1 : decode cX4_calibrated 1 = .ok (.iload_n 1, 1) := by decide +kernel
theorem dX4_calibrated_2 : decode cX4_calibrated 2 = .ok (.invokevirtual 67, 3) := by decide +kernel
theorem dX4_calibrated_5 : decode cX4_calibrated 5 = .ok (.ifCond .ne 13, 3) := by decide +kernel
theorem dX4_calibrated_8 : decode cX4_calibrated 8 = .ok (.new 71, 3) := by decide +kernel
theorem dX4_calibrated_11 : decode cX4_calibrated 11 = .ok (.dup, 1) := by decide +kernel
theorem dX4_calibrated_12 : decode cX4_calibrated 12 = .ok (.ldc 73, 2) := by decide +kernel
theorem dX4_calibrated_14 : decode cX4_calibrated 14 = .ok (.invokespecial 75, 3) := by decide +kernel
theorem dX4_calibrated_17 : decode cX4_calibrated 17 = .ok (.athrow, 1) := by decide +kernel
theorem dX4_calibrated_18 : decode cX4_calibrated 18 = .ok (.iload_n 2, 1) := by decide +kernel
theorem dX4_calibrated_19 : decode cX4_calibrated 19 = .ok (.ifCond .eq 15, 3) := by decide +kernel
theorem dX4_calibrated_22 : decode cX4_calibrated 22 = .ok (.aload_n 0, 1) := by decide +kernel
theorem dX4_calibrated_23 : decode cX4_calibrated 23 = .ok (.getfield 11, 3) := by decide +kernel
theorem dX4_calibrated_26 : decode cX4_calibrated 26 = .ok (.iload_n 1, 1) := by decide +kernel
theorem dX4_calibrated_27 : decode cX4_calibrated 27 = .ok (.aaload, 1) := by decide +kernel
theorem dX4_calibrated_28 : decode cX4_calibrated 28 = .ok (.invokevirtual 176, 3) := by decide +kernel
theorem dX4_calibrated_31 : decode cX4_calibrated 31 = .ok (.goto 12, 3) := by decide +kernel
theorem dX4_calibrated_34 : decode cX4_calibrated 34 = .ok (.aload_n 0, 1) := by decide +kernel
theorem dX4_calibrated_35 : decode cX4_calibrated 35 = .ok (.getfield 11, 3) := by decide +kernel
theorem dX4_calibrated_38 : decode cX4_calibrated 38 = .ok (.iload_n 1, 1) := by decide +kernel
theorem dX4_calibrated_39 : decode cX4_calibrated 39 = .ok (.aaload, 1) := by decide +kernel
theorem dX4_calibrated_40 : decode cX4_calibrated 40 = .ok (.invokevirtual 179, 3) := by decide +kernel
theorem dX4_calibrated_43 : decode cX4_calibrated 43 = .ok (.ireturn, 1) := by decide +kernel
theorem dX4_tick_0 : decode cX4_tick 0 = .ok (.aload_n 0, 1) := by decide +kernel
theorem dX4_tick_1 : decode cX4_tick 1 = .ok (.getfield 60, 3) := by decide +kernel
theorem dX4_tick_4 : decode cX4_tick 4 = .ok (.ireturn, 1) := by decide +kernel
theorem dX4_isWithin_0 : decode cX4_isWithin 0 = .ok (.iload_n 0, 1) := by decide +kernel
theorem dX4_isWithin_1 : decode cX4_isWithin 1 = .ok (.iload_n 1, 1) := by decide +kernel
theorem dX4_isWithin_2 : decode cX4_isWithin 2 = .ok (.if_icmp .lt 12, 3) := by decide +kernel
theorem dX4_isWithin_5 : decode cX4_isWithin 5 = .ok (.iload_n 0, 1) := by decide +kernel
theorem dX4_isWithin_6 : decode cX4_isWithin 6 = .ok (.iload_n 2, 1) := by decide +kernel
theorem dX4_isWithin_7 : decode cX4_isWithin 7 = .ok (.if_icmp .gt 7, 3) := by decide +kernel
theorem dX4_isWithin_10 : decode cX4_isWithin 10 = .ok (.iconst 1, 1) := by decide +kernel
theorem dX4_isWithin_11 : decode cX4_isWithin 11 = .ok (.goto 4, 3) := by decide +kernel
theorem dX4_isWithin_14 : decode cX4_isWithin 14 = .ok (.iconst 0, 1) := by decide +kernel
theorem dX4_isWithin_15 : decode cX4_isWithin 15 = .ok (.ireturn, 1) := by decide +kernel
theorem dX4_isBearing_0 : decode cX4_isBearing 0 = .ok (.iload_n 0, 1) := by decide +kernel
theorem dX4_isBearing_1 : decode cX4_isBearing 1 = .ok (.bipush (-4), 2) := by decide +kernel
theorem dX4_isBearing_3 : decode cX4_isBearing 3 = .ok (.iconst 4, 1) := by decide +kernel
theorem dX4_isBearing_4 : decode cX4_isBearing 4 = .ok (.invokestatic 41, 3) := by decide +kernel
theorem dX4_isBearing_7 : decode cX4_isBearing 7 = .ok (.ireturn, 1) := by decide +kernel
theorem dX4_isElement_0 : decode cX4_isElement 0 = .ok (.iload_n 1, 1) := by decide +kernel
theorem dX4_isElement_1 : decode cX4_isElement 1 = .ok (.ifCond .lt 24, 3) := by decide +kernel
theorem dX4_isElement_4 : decode cX4_isElement 4 = .ok (.iload_n 1, 1) := by decide +kernel
theorem dX4_isElement_5 : decode cX4_isElement 5 = .ok (.aload_n 0, 1) := by decide +kernel
theorem dX4_isElement_6 : decode cX4_isElement 6 = .ok (.getfield 52, 3) := by decide +kernel
theorem dX4_isElement_9 : decode cX4_isElement 9 = .ok (.if_icmp .ge 16, 3) := by decide +kernel
theorem dX4_isElement_12 : decode cX4_isElement 12 = .ok (.iload_n 1, 1) := by decide +kernel
theorem dX4_isElement_13 : decode cX4_isElement 13 = .ok (.aload_n 0, 1) := by decide +kernel
theorem dX4_isElement_14 : decode cX4_isElement 14 = .ok (.getfield 11, 3) := by decide +kernel
theorem dX4_isElement_17 : decode cX4_isElement 17 = .ok (.arraylength, 1) := by decide +kernel
theorem dX4_isElement_18 : decode cX4_isElement 18 = .ok (.if_icmp .ge 7, 3) := by decide +kernel
theorem dX4_isElement_21 : decode cX4_isElement 21 = .ok (.iconst 1, 1) := by decide +kernel
theorem dX4_isElement_22 : decode cX4_isElement 22 = .ok (.goto 4, 3) := by decide +kernel
theorem dX4_isElement_25 : decode cX4_isElement 25 = .ok (.iconst 0, 1) := by decide +kernel
theorem dX4_isElement_26 : decode cX4_isElement 26 = .ok (.ireturn, 1) := by decide +kernel
theorem dX4_hearOneTick_0 : decode cX4_hearOneTick 0 = .ok (.aload_n 0, 1) := by decide +kernel
theorem dX4_hearOneTick_1 : decode cX4_hearOneTick 1 = .ok (.getfield 11, 3) := by decide +kernel
theorem dX4_hearOneTick_4 : decode cX4_hearOneTick 4 = .ok (.astore_n 1, 1) := by decide +kernel
theorem dX4_hearOneTick_5 : decode cX4_hearOneTick 5 = .ok (.aload_n 1, 1) := by decide +kernel
theorem dX4_hearOneTick_6 : decode cX4_hearOneTick 6 = .ok (.arraylength, 1) := by decide +kernel
theorem dX4_hearOneTick_7 : decode cX4_hearOneTick 7 = .ok (.istore_n 2, 1) := by decide +kernel
theorem dX4_hearOneTick_8 : decode cX4_hearOneTick 8 = .ok (.iconst 0, 1) := by decide +kernel
theorem dX4_hearOneTick_9 : decode cX4_hearOneTick 9 = .ok (.istore_n 3, 1) := by decide +kernel
theorem dX4_hearOneTick_10 : decode cX4_hearOneTick 10 = .ok (.iload_n 3, 1) := by decide +kernel
theorem dX4_hearOneTick_11 : decode cX4_hearOneTick 11 = .ok (.iload_n 2, 1) := by decide +kernel
theorem dX4_hearOneTick_12 : decode cX4_hearOneTick 12 = .ok (.if_icmp .ge 62, 3) := by decide +kernel
theorem dX4_hearOneTick_15 : decode cX4_hearOneTick 15 = .ok (.aload_n 1, 1) := by decide +kernel
theorem dX4_hearOneTick_16 : decode cX4_hearOneTick 16 = .ok (.iload_n 3, 1) := by decide +kernel
theorem dX4_hearOneTick_17 : decode cX4_hearOneTick 17 = .ok (.aaload, 1) := by decide +kernel
theorem dX4_hearOneTick_18 : decode cX4_hearOneTick 18 = .ok (.astore 4, 2) := by decide +kernel
theorem dX4_hearOneTick_20 : decode cX4_hearOneTick 20 = .ok (.aload 4, 2) := by decide +kernel
theorem dX4_hearOneTick_22 : decode cX4_hearOneTick 22 = .ok (.invokevirtual 182, 3) := by decide +kernel
theorem dX4_hearOneTick_25 : decode cX4_hearOneTick 25 = .ok (.ifCond .eq 43, 3) := by decide +kernel
theorem dX4_hearOneTick_28 : decode cX4_hearOneTick 28 = .ok (.aload_n 0, 1) := by decide +kernel
theorem dX4_hearOneTick_29 : decode cX4_hearOneTick 29 = .ok (.getfield 24, 3) := by decide +kernel
theorem dX4_hearOneTick_32 : decode cX4_hearOneTick 32 = .ok (.invokevirtual 185, 3) := by decide +kernel
theorem dX4_hearOneTick_35 : decode cX4_hearOneTick 35 = .ok (.istore 5, 2) := by decide +kernel
theorem dX4_hearOneTick_37 : decode cX4_hearOneTick 37 = .ok (.aload 4, 2) := by decide +kernel
theorem dX4_hearOneTick_39 : decode cX4_hearOneTick 39 = .ok (.aload 4, 2) := by decide +kernel
theorem dX4_hearOneTick_41 : decode cX4_hearOneTick 41 = .ok (.invokevirtual 76, 3) := by decide +kernel
theorem dX4_hearOneTick_44 : decode cX4_hearOneTick 44 = .ok (.ifCond .eq 20, 3) := by decide +kernel
theorem dX4_hearOneTick_47 : decode cX4_hearOneTick 47 = .ok (.aload 4, 2) := by decide +kernel
theorem dX4_hearOneTick_49 : decode cX4_hearOneTick 49 = .ok (.aload_n 0, 1) := by decide +kernel
theorem dX4_hearOneTick_50 : decode cX4_hearOneTick 50 = .ok (.aload 4, 2) := by decide +kernel
theorem dX4_hearOneTick_52 : decode cX4_hearOneTick 52 = .ok (.invokevirtual 188, 3) := by decide +kernel
theorem dX4_hearOneTick_55 : decode cX4_hearOneTick 55 = .ok (.invokevirtual 192, 3) := by decide +kernel
theorem dX4_hearOneTick_58 : decode cX4_hearOneTick 58 = .ok (.iload 5, 2) := by decide +kernel
theorem dX4_hearOneTick_60 : decode cX4_hearOneTick 60 = .ok (.iadd, 1) := by decide +kernel
theorem dX4_hearOneTick_61 : decode cX4_hearOneTick 61 = .ok (.goto 4, 3) := by decide +kernel
theorem dX4_hearOneTick_64 : decode cX4_hearOneTick 64 = .ok (.iconst 0, 1) := by decide +kernel
theorem dX4_hearOneTick_65 : decode cX4_hearOneTick 65 = .ok (.invokevirtual 195, 3) := by decide +kernel
theorem dX4_hearOneTick_68 : decode cX4_hearOneTick 68 = .ok (.iinc 3 1, 3) := by decide +kernel
theorem dX4_hearOneTick_71 : decode cX4_hearOneTick 71 = .ok (.goto (-61), 3) := by decide +kernel
theorem dX4_hearOneTick_74 : decode cX4_hearOneTick 74 = .ok (.aload_n 0, 1) := by decide +kernel
theorem dX4_hearOneTick_75 : decode cX4_hearOneTick 75 = .ok (.dup, 1) := by decide +kernel
theorem dX4_hearOneTick_76 : decode cX4_hearOneTick 76 = .ok (.getfield 60, 3) := by decide +kernel
theorem dX4_hearOneTick_79 : decode cX4_hearOneTick 79 = .ok (.iconst 1, 1) := by decide +kernel
theorem dX4_hearOneTick_80 : decode cX4_hearOneTick 80 = .ok (.iadd, 1) := by decide +kernel
theorem dX4_hearOneTick_81 : decode cX4_hearOneTick 81 = .ok (.putfield 60, 3) := by decide +kernel
theorem dX4_hearOneTick_84 : decode cX4_hearOneTick 84 = .ok (.return_, 1) := by decide +kernel
theorem dX4_wavesAt_0 : decode cX4_wavesAt 0 = .ok (.iconst 0, 1) := by decide +kernel
theorem dX4_wavesAt_1 : decode cX4_wavesAt 1 = .ok (.istore_n 2, 1) := by decide +kernel
theorem dX4_wavesAt_2 : decode cX4_wavesAt 2 = .ok (.iconst 0, 1) := by decide +kernel
theorem dX4_wavesAt_3 : decode cX4_wavesAt 3 = .ok (.istore_n 3, 1) := by decide +kernel
theorem dX4_wavesAt_4 : decode cX4_wavesAt 4 = .ok (.iload_n 3, 1) := by decide +kernel
theorem dX4_wavesAt_5 : decode cX4_wavesAt 5 = .ok (.aload_n 0, 1) := by decide +kernel
theorem dX4_wavesAt_6 : decode cX4_wavesAt 6 = .ok (.getfield 91, 3) := by decide +kernel
theorem dX4_wavesAt_9 : decode cX4_wavesAt 9 = .ok (.if_icmp .ge 53, 3) := by decide +kernel
theorem dX4_wavesAt_12 : decode cX4_wavesAt 12 = .ok (.iload_n 3, 1) := by decide +kernel
theorem dX4_wavesAt_13 : decode cX4_wavesAt 13 = .ok (.aload_n 0, 1) := by decide +kernel
theorem dX4_wavesAt_14 : decode cX4_wavesAt 14 = .ok (.getfield 17, 3) := by decide +kernel
theorem dX4_wavesAt_17 : decode cX4_wavesAt 17 = .ok (.arraylength, 1) := by decide +kernel
theorem dX4_wavesAt_18 : decode cX4_wavesAt 18 = .ok (.if_icmp .ge 44, 3) := by decide +kernel
theorem dX4_wavesAt_21 : decode cX4_wavesAt 21 = .ok (.aload_n 0, 1) := by decide +kernel
theorem dX4_wavesAt_22 : decode cX4_wavesAt 22 = .ok (.getfield 17, 3) := by decide +kernel
theorem dX4_wavesAt_25 : decode cX4_wavesAt 25 = .ok (.iload_n 3, 1) := by decide +kernel
theorem dX4_wavesAt_26 : decode cX4_wavesAt 26 = .ok (.aaload, 1) := by decide +kernel
theorem dX4_wavesAt_27 : decode cX4_wavesAt 27 = .ok (.astore 4, 2) := by decide +kernel
theorem dX4_wavesAt_29 : decode cX4_wavesAt 29 = .ok (.iload_n 2, 1) := by decide +kernel
theorem dX4_wavesAt_30 : decode cX4_wavesAt 30 = .ok (.aload 4, 2) := by decide +kernel
theorem dX4_wavesAt_32 : decode cX4_wavesAt 32 = .ok (.aload_n 0, 1) := by decide +kernel
theorem dX4_wavesAt_33 : decode cX4_wavesAt 33 = .ok (.getfield 60, 3) := by decide +kernel
theorem dX4_wavesAt_36 : decode cX4_wavesAt 36 = .ok (.aload_n 1, 1) := by decide +kernel
theorem dX4_wavesAt_37 : decode cX4_wavesAt 37 = .ok (.aload 4, 2) := by decide +kernel
theorem dX4_wavesAt_39 : decode cX4_wavesAt 39 = .ok (.invokevirtual 198, 3) := by decide +kernel
theorem dX4_wavesAt_42 : decode cX4_wavesAt 42 = .ok (.invokevirtual 201, 3) := by decide +kernel
theorem dX4_wavesAt_45 : decode cX4_wavesAt 45 = .ok (.isub, 1) := by decide +kernel
theorem dX4_wavesAt_46 : decode cX4_wavesAt 46 = .ok (.aload_n 1, 1) := by decide +kernel
theorem dX4_wavesAt_47 : decode cX4_wavesAt 47 = .ok (.invokevirtual 204, 3) := by decide +kernel
theorem dX4_wavesAt_50 : decode cX4_wavesAt 50 = .ok (.isub, 1) := by decide +kernel
theorem dX4_wavesAt_51 : decode cX4_wavesAt 51 = .ok (.invokevirtual 207, 3) := by decide +kernel
theorem dX4_wavesAt_54 : decode cX4_wavesAt 54 = .ok (.iadd, 1) := by decide +kernel
theorem dX4_wavesAt_55 : decode cX4_wavesAt 55 = .ok (.istore_n 2, 1) := by decide +kernel
theorem dX4_wavesAt_56 : decode cX4_wavesAt 56 = .ok (.iinc 3 1, 3) := by decide +kernel
theorem dX4_wavesAt_59 : decode cX4_wavesAt 59 = .ok (.goto (-55), 3) := by decide +kernel
theorem dX4_wavesAt_62 : decode cX4_wavesAt 62 = .ok (.iload_n 2, 1) := by decide +kernel
theorem dX4_wavesAt_63 : decode cX4_wavesAt 63 = .ok (.ireturn, 1) := by decide +kernel
theorem dX4_layAll_0 : decode cX4_layAll 0 = .ok (.iconst 0, 1) := by decide +kernel
theorem dX4_layAll_1 : decode cX4_layAll 1 = .ok (.istore_n 1, 1) := by decide +kernel
theorem dX4_layAll_2 : decode cX4_layAll 2 = .ok (.aload_n 0, 1) := by decide +kernel
theorem dX4_layAll_3 : decode cX4_layAll 3 = .ok (.getfield 11, 3) := by decide +kernel
theorem dX4_layAll_6 : decode cX4_layAll 6 = .ok (.astore_n 2, 1) := by decide +kernel
theorem dX4_layAll_7 : decode cX4_layAll 7 = .ok (.aload_n 2, 1) := by decide +kernel
theorem dX4_layAll_8 : decode cX4_layAll 8 = .ok (.arraylength, 1) := by decide +kernel
theorem dX4_layAll_9 : decode cX4_layAll 9 = .ok (.istore_n 3, 1) := by decide +kernel
theorem dX4_layAll_10 : decode cX4_layAll 10 = .ok (.iconst 0, 1) := by decide +kernel
theorem dX4_layAll_11 : decode cX4_layAll 11 = .ok (.istore 4, 2) := by decide +kernel
theorem dX4_layAll_13 : decode cX4_layAll 13 = .ok (.iload 4, 2) := by decide +kernel
theorem dX4_layAll_15 : decode cX4_layAll 15 = .ok (.iload_n 3, 1) := by decide +kernel
theorem dX4_layAll_16 : decode cX4_layAll 16 = .ok (.if_icmp .ge 31, 3) := by decide +kernel
theorem dX4_layAll_19 : decode cX4_layAll 19 = .ok (.aload_n 2, 1) := by decide +kernel
theorem dX4_layAll_20 : decode cX4_layAll 20 = .ok (.iload 4, 2) := by decide +kernel
theorem dX4_layAll_22 : decode cX4_layAll 22 = .ok (.aaload, 1) := by decide +kernel
theorem dX4_layAll_23 : decode cX4_layAll 23 = .ok (.astore 5, 2) := by decide +kernel
theorem dX4_layAll_25 : decode cX4_layAll 25 = .ok (.iload_n 1, 1) := by decide +kernel
theorem dX4_layAll_26 : decode cX4_layAll 26 = .ok (.aload 5, 2) := by decide +kernel
theorem dX4_layAll_28 : decode cX4_layAll 28 = .ok (.invokevirtual 76, 3) := by decide +kernel
theorem dX4_layAll_31 : decode cX4_layAll 31 = .ok (.ifCond .eq 7, 3) := by decide +kernel
theorem dX4_layAll_34 : decode cX4_layAll 34 = .ok (.iconst 1, 1) := by decide +kernel
theorem dX4_layAll_35 : decode cX4_layAll 35 = .ok (.goto 4, 3) := by decide +kernel
theorem dX4_layAll_38 : decode cX4_layAll 38 = .ok (.iconst 0, 1) := by decide +kernel
theorem dX4_layAll_39 : decode cX4_layAll 39 = .ok (.iadd, 1) := by decide +kernel
theorem dX4_layAll_40 : decode cX4_layAll 40 = .ok (.istore_n 1, 1) := by decide +kernel
theorem dX4_layAll_41 : decode cX4_layAll 41 = .ok (.iinc 4 1, 3) := by decide +kernel
theorem dX4_layAll_44 : decode cX4_layAll 44 = .ok (.goto (-31), 3) := by decide +kernel
theorem dX4_layAll_47 : decode cX4_layAll 47 = .ok (.iconst 0, 1) := by decide +kernel
theorem dX4_layAll_48 : decode cX4_layAll 48 = .ok (.istore_n 2, 1) := by decide +kernel
theorem dX4_layAll_49 : decode cX4_layAll 49 = .ok (.lconst 0, 1) := by decide +kernel
theorem dX4_layAll_50 : decode cX4_layAll 50 = .ok (.lstore_n 3, 1) := by decide +kernel
theorem dX4_layAll_51 : decode cX4_layAll 51 = .ok (.aload_n 0, 1) := by decide +kernel
theorem dX4_layAll_52 : decode cX4_layAll 52 = .ok (.getfield 11, 3) := by decide +kernel
theorem dX4_layAll_55 : decode cX4_layAll 55 = .ok (.astore 5, 2) := by decide +kernel
theorem dX4_layAll_57 : decode cX4_layAll 57 = .ok (.aload 5, 2) := by decide +kernel
theorem dX4_layAll_59 : decode cX4_layAll 59 = .ok (.arraylength, 1) := by decide +kernel
theorem dX4_layAll_60 : decode cX4_layAll 60 = .ok (.istore 6, 2) := by decide +kernel
theorem dX4_layAll_62 : decode cX4_layAll 62 = .ok (.iconst 0, 1) := by decide +kernel
theorem dX4_layAll_63 : decode cX4_layAll 63 = .ok (.istore 7, 2) := by decide +kernel
theorem dX4_layAll_65 : decode cX4_layAll 65 = .ok (.iload 7, 2) := by decide +kernel
theorem dX4_layAll_67 : decode cX4_layAll 67 = .ok (.iload 6, 2) := by decide +kernel
theorem dX4_layAll_69 : decode cX4_layAll 69 = .ok (.if_icmp .ge 51, 3) := by decide +kernel
theorem dX4_layAll_72 : decode cX4_layAll 72 = .ok (.aload 5, 2) := by decide +kernel
theorem dX4_layAll_74 : decode cX4_layAll 74 = .ok (.iload 7, 2) := by decide +kernel
theorem dX4_layAll_76 : decode cX4_layAll 76 = .ok (.aaload, 1) := by decide +kernel
theorem dX4_layAll_77 : decode cX4_layAll 77 = .ok (.astore 8, 2) := by decide +kernel
theorem dX4_layAll_79 : decode cX4_layAll 79 = .ok (.iconst 0, 1) := by decide +kernel
theorem dX4_layAll_80 : decode cX4_layAll 80 = .ok (.istore 9, 2) := by decide +kernel
theorem dX4_layAll_82 : decode cX4_layAll 82 = .ok (.aload 8, 2) := by decide +kernel
theorem dX4_layAll_84 : decode cX4_layAll 84 = .ok (.invokevirtual 76, 3) := by decide +kernel
theorem dX4_layAll_87 : decode cX4_layAll 87 = .ok (.ifCond .eq 14, 3) := by decide +kernel
theorem dX4_layAll_90 : decode cX4_layAll 90 = .ok (.aload_n 0, 1) := by decide +kernel
theorem dX4_layAll_91 : decode cX4_layAll 91 = .ok (.iload_n 2, 1) := by decide +kernel
theorem dX4_layAll_92 : decode cX4_layAll 92 = .ok (.iload_n 1, 1) := by decide +kernel
theorem dX4_layAll_93 : decode cX4_layAll 93 = .ok (.invokevirtual 210, 3) := by decide +kernel
theorem dX4_layAll_96 : decode cX4_layAll 96 = .ok (.istore 9, 2) := by decide +kernel
theorem dX4_layAll_98 : decode cX4_layAll 98 = .ok (.iinc 2 1, 3) := by decide +kernel
theorem dX4_layAll_101 : decode cX4_layAll 101 = .ok (.aload 8, 2) := by decide +kernel
theorem dX4_layAll_103 : decode cX4_layAll 103 = .ok (.iload 9, 2) := by decide +kernel
theorem dX4_layAll_105 : decode cX4_layAll 105 = .ok (.invokevirtual 214, 3) := by decide +kernel
theorem dX4_layAll_108 : decode cX4_layAll 108 = .ok (.lload_n 3, 1) := by decide +kernel
theorem dX4_layAll_109 : decode cX4_layAll 109 = .ok (.iload 9, 2) := by decide +kernel
theorem dX4_layAll_111 : decode cX4_layAll 111 = .ok (.i2l, 1) := by decide +kernel
theorem dX4_layAll_112 : decode cX4_layAll 112 = .ok (.ladd, 1) := by decide +kernel
theorem dX4_layAll_113 : decode cX4_layAll 113 = .ok (.lstore_n 3, 1) := by decide +kernel
theorem dX4_layAll_114 : decode cX4_layAll 114 = .ok (.iinc 7 1, 3) := by decide +kernel
theorem dX4_layAll_117 : decode cX4_layAll 117 = .ok (.goto (-52), 3) := by decide +kernel
theorem dX4_layAll_120 : decode cX4_layAll 120 = .ok (.lload_n 3, 1) := by decide +kernel
theorem dX4_layAll_121 : decode cX4_layAll 121 = .ok (.lreturn, 1) := by decide +kernel
theorem dX4_weightOf_0 : decode cX4_weightOf 0 = .ok (.iload_n 2, 1) := by decide +kernel
theorem dX4_weightOf_1 : decode cX4_weightOf 1 = .ok (.iconst 1, 1) := by decide +kernel
theorem dX4_weightOf_2 : decode cX4_weightOf 2 = .ok (.isub, 1) := by decide +kernel
theorem dX4_weightOf_3 : decode cX4_weightOf 3 = .ok (.iload_n 1, 1) := by decide +kernel
theorem dX4_weightOf_4 : decode cX4_weightOf 4 = .ok (.isub, 1) := by decide +kernel
theorem dX4_weightOf_5 : decode cX4_weightOf 5 = .ok (.istore_n 3, 1) := by decide +kernel
theorem dX4_weightOf_6 : decode cX4_weightOf 6 = .ok (.aload_n 0, 1) := by decide +kernel
theorem dX4_weightOf_7 : decode cX4_weightOf 7 = .ok (.getfield 37, 3) := by decide +kernel
theorem dX4_weightOf_10 : decode cX4_weightOf 10 = .ok (.iconst 1, 1) := by decide +kernel
theorem dX4_weightOf_11 : decode cX4_weightOf 11 = .ok (.if_icmp .ne 11, 3) := by decide +kernel
theorem dX4_weightOf_14 : decode cX4_weightOf 14 = .ok (.iconst 1, 1) := by decide +kernel
theorem dX4_weightOf_15 : decode cX4_weightOf 15 = .ok (.iload_n 1, 1) := by decide +kernel
theorem dX4_weightOf_16 : decode cX4_weightOf 16 = .ok (.iload_n 3, 1) := by decide +kernel
theorem dX4_weightOf_17 : decode cX4_weightOf 17 = .ok (.invokestatic 217, 3) := by decide +kernel
theorem dX4_weightOf_20 : decode cX4_weightOf 20 = .ok (.iadd, 1) := by decide +kernel
theorem dX4_weightOf_21 : decode cX4_weightOf 21 = .ok (.ireturn, 1) := by decide +kernel
theorem dX4_weightOf_22 : decode cX4_weightOf 22 = .ok (.aload_n 0, 1) := by decide +kernel
theorem dX4_weightOf_23 : decode cX4_weightOf 23 = .ok (.getfield 37, 3) := by decide +kernel
theorem dX4_weightOf_26 : decode cX4_weightOf 26 = .ok (.iconst 2, 1) := by decide +kernel
theorem dX4_weightOf_27 : decode cX4_weightOf 27 = .ok (.if_icmp .ne 17, 3) := by decide +kernel
theorem dX4_weightOf_30 : decode cX4_weightOf 30 = .ok (.iload_n 1, 1) := by decide +kernel
theorem dX4_weightOf_31 : decode cX4_weightOf 31 = .ok (.ifCond .eq 7, 3) := by decide +kernel
theorem dX4_weightOf_34 : decode cX4_weightOf 34 = .ok (.iload_n 3, 1) := by decide +kernel
theorem dX4_weightOf_35 : decode cX4_weightOf 35 = .ok (.ifCond .ne 7, 3) := by decide +kernel
theorem dX4_weightOf_38 : decode cX4_weightOf 38 = .ok (.iconst 3, 1) := by decide +kernel
theorem dX4_weightOf_39 : decode cX4_weightOf 39 = .ok (.goto 4, 3) := by decide +kernel
theorem dX4_weightOf_42 : decode cX4_weightOf 42 = .ok (.iconst 1, 1) := by decide +kernel
theorem dX4_weightOf_43 : decode cX4_weightOf 43 = .ok (.ireturn, 1) := by decide +kernel
theorem dX4_weightOf_44 : decode cX4_weightOf 44 = .ok (.iconst 1, 1) := by decide +kernel
theorem dX4_weightOf_45 : decode cX4_weightOf 45 = .ok (.ireturn, 1) := by decide +kernel
theorem dX4_steer_0 : decode cX4_steer 0 = .ok (.aload_n 0, 1) := by decide +kernel
theorem dX4_steer_1 : decode cX4_steer 1 = .ok (.getfield 28, 3) := by decide +kernel
theorem dX4_steer_4 : decode cX4_steer 4 = .ok (.lconst 0, 1) := by decide +kernel
theorem dX4_steer_5 : decode cX4_steer 5 = .ok (.invokestatic 222, 3) := by decide +kernel
theorem dX4_steer_8 : decode cX4_steer 8 = .ok (.aload_n 0, 1) := by decide +kernel
theorem dX4_steer_9 : decode cX4_steer 9 = .ok (.getfield 11, 3) := by decide +kernel
theorem dX4_steer_12 : decode cX4_steer 12 = .ok (.astore_n 2, 1) := by decide +kernel
theorem dX4_steer_13 : decode cX4_steer 13 = .ok (.aload_n 2, 1) := by decide +kernel
theorem dX4_steer_14 : decode cX4_steer 14 = .ok (.arraylength, 1) := by decide +kernel
theorem dX4_steer_15 : decode cX4_steer 15 = .ok (.istore_n 3, 1) := by decide +kernel
theorem dX4_steer_16 : decode cX4_steer 16 = .ok (.iconst 0, 1) := by decide +kernel
theorem dX4_steer_17 : decode cX4_steer 17 = .ok (.istore 4, 2) := by decide +kernel
theorem dX4_steer_19 : decode cX4_steer 19 = .ok (.iload 4, 2) := by decide +kernel
theorem dX4_steer_21 : decode cX4_steer 21 = .ok (.iload_n 3, 1) := by decide +kernel
theorem dX4_steer_22 : decode cX4_steer 22 = .ok (.if_icmp .ge 25, 3) := by decide +kernel
theorem dX4_steer_25 : decode cX4_steer 25 = .ok (.aload_n 2, 1) := by decide +kernel
theorem dX4_steer_26 : decode cX4_steer 26 = .ok (.iload 4, 2) := by decide +kernel
theorem dX4_steer_28 : decode cX4_steer 28 = .ok (.aaload, 1) := by decide +kernel
theorem dX4_steer_29 : decode cX4_steer 29 = .ok (.astore 5, 2) := by decide +kernel
theorem dX4_steer_31 : decode cX4_steer 31 = .ok (.aload 5, 2) := by decide +kernel
theorem dX4_steer_33 : decode cX4_steer 33 = .ok (.aload_n 0, 1) := by decide +kernel
theorem dX4_steer_34 : decode cX4_steer 34 = .ok (.getfield 28, 3) := by decide +kernel
theorem dX4_steer_37 : decode cX4_steer 37 = .ok (.iload_n 1, 1) := by decide +kernel
theorem dX4_steer_38 : decode cX4_steer 38 = .ok (.invokevirtual 228, 3) := by decide +kernel
theorem dX4_steer_41 : decode cX4_steer 41 = .ok (.iinc 4 1, 3) := by decide +kernel
theorem dX4_steer_44 : decode cX4_steer 44 = .ok (.goto (-25), 3) := by decide +kernel
theorem dX4_steer_47 : decode cX4_steer 47 = .ok (.return_, 1) := by decide +kernel
theorem dX4_powerBySums_0 : decode cX4_powerBySums 0 = .ok (.aload_n 0, 1) := by decide +kernel
theorem dX4_powerBySums_1 : decode cX4_powerBySums 1 = .ok (.iload_n 1, 1) := by decide +kernel
theorem dX4_powerBySums_2 : decode cX4_powerBySums 2 = .ok (.invokevirtual 146, 3) := by decide +kernel
theorem dX4_powerBySums_5 : decode cX4_powerBySums 5 = .ok (.lconst 0, 1) := by decide +kernel
theorem dX4_powerBySums_6 : decode cX4_powerBySums 6 = .ok (.lstore_n 2, 1) := by decide +kernel
theorem dX4_powerBySums_7 : decode cX4_powerBySums 7 = .ok (.aload_n 0, 1) := by decide +kernel
theorem dX4_powerBySums_8 : decode cX4_powerBySums 8 = .ok (.getfield 28, 3) := by decide +kernel
theorem dX4_powerBySums_11 : decode cX4_powerBySums 11 = .ok (.astore 4, 2) := by decide +kernel
theorem dX4_powerBySums_13 : decode cX4_powerBySums 13 = .ok (.aload 4, 2) := by decide +kernel
theorem dX4_powerBySums_15 : decode cX4_powerBySums 15 = .ok (.arraylength, 1) := by decide +kernel
theorem dX4_powerBySums_16 : decode cX4_powerBySums 16 = .ok (.istore 5, 2) := by decide +kernel
theorem dX4_powerBySums_18 : decode cX4_powerBySums 18 = .ok (.iconst 0, 1) := by decide +kernel
theorem dX4_powerBySums_19 : decode cX4_powerBySums 19 = .ok (.istore 6, 2) := by decide +kernel
theorem dX4_powerBySums_21 : decode cX4_powerBySums 21 = .ok (.iload 6, 2) := by decide +kernel
theorem dX4_powerBySums_23 : decode cX4_powerBySums 23 = .ok (.iload 5, 2) := by decide +kernel
theorem dX4_powerBySums_25 : decode cX4_powerBySums 25 = .ok (.if_icmp .ge 24, 3) := by decide +kernel
theorem dX4_powerBySums_28 : decode cX4_powerBySums 28 = .ok (.aload 4, 2) := by decide +kernel
theorem dX4_powerBySums_30 : decode cX4_powerBySums 30 = .ok (.iload 6, 2) := by decide +kernel
theorem dX4_powerBySums_32 : decode cX4_powerBySums 32 = .ok (.laload, 1) := by decide +kernel
theorem dX4_powerBySums_33 : decode cX4_powerBySums 33 = .ok (.lstore 7, 2) := by decide +kernel
theorem dX4_powerBySums_35 : decode cX4_powerBySums 35 = .ok (.lload_n 2, 1) := by decide +kernel
theorem dX4_powerBySums_36 : decode cX4_powerBySums 36 = .ok (.lload 7, 2) := by decide +kernel
theorem dX4_powerBySums_38 : decode cX4_powerBySums 38 = .ok (.lload 7, 2) := by decide +kernel
theorem dX4_powerBySums_40 : decode cX4_powerBySums 40 = .ok (.lmul, 1) := by decide +kernel
theorem dX4_powerBySums_41 : decode cX4_powerBySums 41 = .ok (.ladd, 1) := by decide +kernel
theorem dX4_powerBySums_42 : decode cX4_powerBySums 42 = .ok (.lstore_n 2, 1) := by decide +kernel
theorem dX4_powerBySums_43 : decode cX4_powerBySums 43 = .ok (.iinc 6 1, 3) := by decide +kernel
theorem dX4_powerBySums_46 : decode cX4_powerBySums 46 = .ok (.goto (-25), 3) := by decide +kernel
theorem dX4_powerBySums_49 : decode cX4_powerBySums 49 = .ok (.lload_n 2, 1) := by decide +kernel
theorem dX4_powerBySums_50 : decode cX4_powerBySums 50 = .ok (.lreturn, 1) := by decide +kernel
theorem dX4_powerByPairs_0 : decode cX4_powerByPairs 0 = .ok (.lconst 0, 1) := by decide +kernel
theorem dX4_powerByPairs_1 : decode cX4_powerByPairs 1 = .ok (.lstore_n 2, 1) := by decide +kernel
theorem dX4_powerByPairs_2 : decode cX4_powerByPairs 2 = .ok (.aload_n 0, 1) := by decide +kernel
theorem dX4_powerByPairs_3 : decode cX4_powerByPairs 3 = .ok (.getfield 11, 3) := by decide +kernel
theorem dX4_powerByPairs_6 : decode cX4_powerByPairs 6 = .ok (.astore 4, 2) := by decide +kernel
theorem dX4_powerByPairs_8 : decode cX4_powerByPairs 8 = .ok (.aload 4, 2) := by decide +kernel
theorem dX4_powerByPairs_10 : decode cX4_powerByPairs 10 = .ok (.arraylength, 1) := by decide +kernel
theorem dX4_powerByPairs_11 : decode cX4_powerByPairs 11 = .ok (.istore 5, 2) := by decide +kernel
theorem dX4_powerByPairs_13 : decode cX4_powerByPairs 13 = .ok (.iconst 0, 1) := by decide +kernel
theorem dX4_powerByPairs_14 : decode cX4_powerByPairs 14 = .ok (.istore 6, 2) := by decide +kernel
theorem dX4_powerByPairs_16 : decode cX4_powerByPairs 16 = .ok (.iload 6, 2) := by decide +kernel
theorem dX4_powerByPairs_18 : decode cX4_powerByPairs 18 = .ok (.iload 5, 2) := by decide +kernel
theorem dX4_powerByPairs_20 : decode cX4_powerByPairs 20 = .ok (.if_icmp .ge 61, 3) := by decide +kernel
theorem dX4_powerByPairs_23 : decode cX4_powerByPairs 23 = .ok (.aload 4, 2) := by decide +kernel
theorem dX4_powerByPairs_25 : decode cX4_powerByPairs 25 = .ok (.iload 6, 2) := by decide +kernel
theorem dX4_powerByPairs_27 : decode cX4_powerByPairs 27 = .ok (.aaload, 1) := by decide +kernel
theorem dX4_powerByPairs_28 : decode cX4_powerByPairs 28 = .ok (.astore 7, 2) := by decide +kernel
theorem dX4_powerByPairs_30 : decode cX4_powerByPairs 30 = .ok (.aload_n 0, 1) := by decide +kernel
theorem dX4_powerByPairs_31 : decode cX4_powerByPairs 31 = .ok (.getfield 11, 3) := by decide +kernel
theorem dX4_powerByPairs_34 : decode cX4_powerByPairs 34 = .ok (.astore 8, 2) := by decide +kernel
theorem dX4_powerByPairs_36 : decode cX4_powerByPairs 36 = .ok (.aload 8, 2) := by decide +kernel
theorem dX4_powerByPairs_38 : decode cX4_powerByPairs 38 = .ok (.arraylength, 1) := by decide +kernel
theorem dX4_powerByPairs_39 : decode cX4_powerByPairs 39 = .ok (.istore 9, 2) := by decide +kernel
theorem dX4_powerByPairs_41 : decode cX4_powerByPairs 41 = .ok (.iconst 0, 1) := by decide +kernel
theorem dX4_powerByPairs_42 : decode cX4_powerByPairs 42 = .ok (.istore 10, 2) := by decide +kernel
theorem dX4_powerByPairs_44 : decode cX4_powerByPairs 44 = .ok (.iload 10, 2) := by decide +kernel
theorem dX4_powerByPairs_46 : decode cX4_powerByPairs 46 = .ok (.iload 9, 2) := by decide +kernel
theorem dX4_powerByPairs_48 : decode cX4_powerByPairs 48 = .ok (.if_icmp .ge 27, 3) := by decide +kernel
theorem dX4_powerByPairs_51 : decode cX4_powerByPairs 51 = .ok (.aload 8, 2) := by decide +kernel
theorem dX4_powerByPairs_53 : decode cX4_powerByPairs 53 = .ok (.iload 10, 2) := by decide +kernel
theorem dX4_powerByPairs_55 : decode cX4_powerByPairs 55 = .ok (.aaload, 1) := by decide +kernel
theorem dX4_powerByPairs_56 : decode cX4_powerByPairs 56 = .ok (.astore 11, 2) := by decide +kernel
theorem dX4_powerByPairs_58 : decode cX4_powerByPairs 58 = .ok (.lload_n 2, 1) := by decide +kernel
theorem dX4_powerByPairs_59 : decode cX4_powerByPairs 59 = .ok (.aload 7, 2) := by decide +kernel
theorem dX4_powerByPairs_61 : decode cX4_powerByPairs 61 = .ok (.aload 11, 2) := by decide +kernel
theorem dX4_powerByPairs_63 : decode cX4_powerByPairs 63 = .ok (.iload_n 1, 1) := by decide +kernel
theorem dX4_powerByPairs_64 : decode cX4_powerByPairs 64 = .ok (.invokevirtual 232, 3) := by decide +kernel
theorem dX4_powerByPairs_67 : decode cX4_powerByPairs 67 = .ok (.ladd, 1) := by decide +kernel
theorem dX4_powerByPairs_68 : decode cX4_powerByPairs 68 = .ok (.lstore_n 2, 1) := by decide +kernel
theorem dX4_powerByPairs_69 : decode cX4_powerByPairs 69 = .ok (.iinc 10 1, 3) := by decide +kernel
theorem dX4_powerByPairs_72 : decode cX4_powerByPairs 72 = .ok (.goto (-28), 3) := by decide +kernel
theorem dX4_powerByPairs_75 : decode cX4_powerByPairs 75 = .ok (.iinc 6 1, 3) := by decide +kernel
theorem dX4_powerByPairs_78 : decode cX4_powerByPairs 78 = .ok (.goto (-62), 3) := by decide +kernel
theorem dX4_powerByPairs_81 : decode cX4_powerByPairs 81 = .ok (.lload_n 2, 1) := by decide +kernel
theorem dX4_powerByPairs_82 : decode cX4_powerByPairs 82 = .ok (.lreturn, 1) := by decide +kernel
theorem dX4_fillPowers_0 : decode cX4_fillPowers 0 = .ok (.lconst 0, 1) := by decide +kernel
theorem dX4_fillPowers_1 : decode cX4_fillPowers 1 = .ok (.lstore_n 1, 1) := by decide +kernel
theorem dX4_fillPowers_2 : decode cX4_fillPowers 2 = .ok (.iconst 0, 1) := by decide +kernel
theorem dX4_fillPowers_3 : decode cX4_fillPowers 3 = .ok (.istore_n 3, 1) := by decide +kernel
theorem dX4_fillPowers_4 : decode cX4_fillPowers 4 = .ok (.iload_n 3, 1) := by decide +kernel
theorem dX4_fillPowers_5 : decode cX4_fillPowers 5 = .ok (.aload_n 0, 1) := by decide +kernel
theorem dX4_fillPowers_6 : decode cX4_fillPowers 6 = .ok (.getfield 32, 3) := by decide +kernel
theorem dX4_fillPowers_9 : decode cX4_fillPowers 9 = .ok (.arraylength, 1) := by decide +kernel
theorem dX4_fillPowers_10 : decode cX4_fillPowers 10 = .ok (.if_icmp .ge 33, 3) := by decide +kernel
theorem dX4_fillPowers_13 : decode cX4_fillPowers 13 = .ok (.aload_n 0, 1) := by decide +kernel
theorem dX4_fillPowers_14 : decode cX4_fillPowers 14 = .ok (.getfield 32, 3) := by decide +kernel
theorem dX4_fillPowers_17 : decode cX4_fillPowers 17 = .ok (.iload_n 3, 1) := by decide +kernel
theorem dX4_fillPowers_18 : decode cX4_fillPowers 18 = .ok (.aload_n 0, 1) := by decide +kernel
theorem dX4_fillPowers_19 : decode cX4_fillPowers 19 = .ok (.iload_n 3, 1) := by decide +kernel
theorem dX4_fillPowers_20 : decode cX4_fillPowers 20 = .ok (.iconst 4, 1) := by decide +kernel
theorem dX4_fillPowers_21 : decode cX4_fillPowers 21 = .ok (.isub, 1) := by decide +kernel
theorem dX4_fillPowers_22 : decode cX4_fillPowers 22 = .ok (.invokevirtual 150, 3) := by decide +kernel
theorem dX4_fillPowers_25 : decode cX4_fillPowers 25 = .ok (.lastore, 1) := by decide +kernel
theorem dX4_fillPowers_26 : decode cX4_fillPowers 26 = .ok (.lload_n 1, 1) := by decide +kernel
theorem dX4_fillPowers_27 : decode cX4_fillPowers 27 = .ok (.aload_n 0, 1) := by decide +kernel
theorem dX4_fillPowers_28 : decode cX4_fillPowers 28 = .ok (.getfield 32, 3) := by decide +kernel
theorem dX4_fillPowers_31 : decode cX4_fillPowers 31 = .ok (.iload_n 3, 1) := by decide +kernel
theorem dX4_fillPowers_32 : decode cX4_fillPowers 32 = .ok (.laload, 1) := by decide +kernel
theorem dX4_fillPowers_33 : decode cX4_fillPowers 33 = .ok (.invokestatic 236, 3) := by decide +kernel
theorem dX4_fillPowers_36 : decode cX4_fillPowers 36 = .ok (.lstore_n 1, 1) := by decide +kernel
theorem dX4_fillPowers_37 : decode cX4_fillPowers 37 = .ok (.iinc 3 1, 3) := by decide +kernel
theorem dX4_fillPowers_40 : decode cX4_fillPowers 40 = .ok (.goto (-36), 3) := by decide +kernel
theorem dX4_fillPowers_43 : decode cX4_fillPowers 43 = .ok (.lload_n 1, 1) := by decide +kernel
theorem dX4_fillPowers_44 : decode cX4_fillPowers 44 = .ok (.lreturn, 1) := by decide +kernel
theorem dX4_isPeak_0 : decode cX4_isPeak 0 = .ok (.aload_n 0, 1) := by decide +kernel
theorem dX4_isPeak_1 : decode cX4_isPeak 1 = .ok (.iload_n 1, 1) := by decide +kernel
theorem dX4_isPeak_2 : decode cX4_isPeak 2 = .ok (.invokevirtual 240, 3) := by decide +kernel
theorem dX4_isPeak_5 : decode cX4_isPeak 5 = .ok (.lstore_n 2, 1) := by decide +kernel
theorem dX4_isPeak_6 : decode cX4_isPeak 6 = .ok (.lload_n 2, 1) := by decide +kernel
theorem dX4_isPeak_7 : decode cX4_isPeak 7 = .ok (.lconst 0, 1) := by decide +kernel
theorem dX4_isPeak_8 : decode cX4_isPeak 8 = .ok (.lcmp, 1) := by decide +kernel
theorem dX4_isPeak_9 : decode cX4_isPeak 9 = .ok (.ifCond .le 31, 3) := by decide +kernel
theorem dX4_isPeak_12 : decode cX4_isPeak 12 = .ok (.lload_n 2, 1) := by decide +kernel
theorem dX4_isPeak_13 : decode cX4_isPeak 13 = .ok (.aload_n 0, 1) := by decide +kernel
theorem dX4_isPeak_14 : decode cX4_isPeak 14 = .ok (.iload_n 1, 1) := by decide +kernel
theorem dX4_isPeak_15 : decode cX4_isPeak 15 = .ok (.iconst 1, 1) := by decide +kernel
theorem dX4_isPeak_16 : decode cX4_isPeak 16 = .ok (.isub, 1) := by decide +kernel
theorem dX4_isPeak_17 : decode cX4_isPeak 17 = .ok (.invokevirtual 240, 3) := by decide +kernel
theorem dX4_isPeak_20 : decode cX4_isPeak 20 = .ok (.lcmp, 1) := by decide +kernel
theorem dX4_isPeak_21 : decode cX4_isPeak 21 = .ok (.ifCond .le 19, 3) := by decide +kernel
theorem dX4_isPeak_24 : decode cX4_isPeak 24 = .ok (.lload_n 2, 1) := by decide +kernel
theorem dX4_isPeak_25 : decode cX4_isPeak 25 = .ok (.aload_n 0, 1) := by decide +kernel
theorem dX4_isPeak_26 : decode cX4_isPeak 26 = .ok (.iload_n 1, 1) := by decide +kernel
theorem dX4_isPeak_27 : decode cX4_isPeak 27 = .ok (.iconst 1, 1) := by decide +kernel
theorem dX4_isPeak_28 : decode cX4_isPeak 28 = .ok (.iadd, 1) := by decide +kernel
theorem dX4_isPeak_29 : decode cX4_isPeak 29 = .ok (.invokevirtual 240, 3) := by decide +kernel
theorem dX4_isPeak_32 : decode cX4_isPeak 32 = .ok (.lcmp, 1) := by decide +kernel
theorem dX4_isPeak_33 : decode cX4_isPeak 33 = .ok (.ifCond .le 7, 3) := by decide +kernel
theorem dX4_isPeak_36 : decode cX4_isPeak 36 = .ok (.iconst 1, 1) := by decide +kernel
theorem dX4_isPeak_37 : decode cX4_isPeak 37 = .ok (.goto 4, 3) := by decide +kernel
theorem dX4_isPeak_40 : decode cX4_isPeak 40 = .ok (.iconst 0, 1) := by decide +kernel
theorem dX4_isPeak_41 : decode cX4_isPeak 41 = .ok (.ireturn, 1) := by decide +kernel
theorem dX4_powerAt_0 : decode cX4_powerAt 0 = .ok (.iload_n 1, 1) := by decide +kernel
theorem dX4_powerAt_1 : decode cX4_powerAt 1 = .ok (.ifCond .lt 21, 3) := by decide +kernel
theorem dX4_powerAt_4 : decode cX4_powerAt 4 = .ok (.iload_n 1, 1) := by decide +kernel
theorem dX4_powerAt_5 : decode cX4_powerAt 5 = .ok (.aload_n 0, 1) := by decide +kernel
theorem dX4_powerAt_6 : decode cX4_powerAt 6 = .ok (.getfield 32, 3) := by decide +kernel
theorem dX4_powerAt_9 : decode cX4_powerAt 9 = .ok (.arraylength, 1) := by decide +kernel
theorem dX4_powerAt_10 : decode cX4_powerAt 10 = .ok (.if_icmp .ge 12, 3) := by decide +kernel
theorem dX4_powerAt_13 : decode cX4_powerAt 13 = .ok (.aload_n 0, 1) := by decide +kernel
theorem dX4_powerAt_14 : decode cX4_powerAt 14 = .ok (.getfield 32, 3) := by decide +kernel
theorem dX4_powerAt_17 : decode cX4_powerAt 17 = .ok (.iload_n 1, 1) := by decide +kernel
theorem dX4_powerAt_18 : decode cX4_powerAt 18 = .ok (.laload, 1) := by decide +kernel
theorem dX4_powerAt_19 : decode cX4_powerAt 19 = .ok (.goto 4, 3) := by decide +kernel
theorem dX4_powerAt_22 : decode cX4_powerAt 22 = .ok (.lconst 0, 1) := by decide +kernel
theorem dX4_powerAt_23 : decode cX4_powerAt 23 = .ok (.lreturn, 1) := by decide +kernel
theorem dX4_strongest_0 : decode cX4_strongest 0 = .ok (.aload_n 0, 1) := by decide +kernel
theorem dX4_strongest_1 : decode cX4_strongest 1 = .ok (.invokevirtual 159, 3) := by decide +kernel
theorem dX4_strongest_4 : decode cX4_strongest 4 = .ok (.lstore_n 1, 1) := by decide +kernel
theorem dX4_strongest_5 : decode cX4_strongest 5 = .ok (.lload_n 1, 1) := by decide +kernel
theorem dX4_strongest_6 : decode cX4_strongest 6 = .ok (.lconst 0, 1) := by decide +kernel
theorem dX4_strongest_7 : decode cX4_strongest 7 = .ok (.lcmp, 1) := by decide +kernel
theorem dX4_strongest_8 : decode cX4_strongest 8 = .ok (.ifCond .gt 6, 3) := by decide +kernel
theorem dX4_strongest_11 : decode cX4_strongest 11 = .ok (.bipush (-99), 2) := by decide +kernel
theorem dX4_strongest_13 : decode cX4_strongest 13 = .ok (.ireturn, 1) := by decide +kernel
theorem dX4_strongest_14 : decode cX4_strongest 14 = .ok (.iconst 0, 1) := by decide +kernel
theorem dX4_strongest_15 : decode cX4_strongest 15 = .ok (.istore_n 3, 1) := by decide +kernel
theorem dX4_strongest_16 : decode cX4_strongest 16 = .ok (.iload_n 3, 1) := by decide +kernel
theorem dX4_strongest_17 : decode cX4_strongest 17 = .ok (.aload_n 0, 1) := by decide +kernel
theorem dX4_strongest_18 : decode cX4_strongest 18 = .ok (.getfield 32, 3) := by decide +kernel
theorem dX4_strongest_21 : decode cX4_strongest 21 = .ok (.arraylength, 1) := by decide +kernel
theorem dX4_strongest_22 : decode cX4_strongest 22 = .ok (.if_icmp .ge 24, 3) := by decide +kernel
theorem dX4_strongest_25 : decode cX4_strongest 25 = .ok (.aload_n 0, 1) := by decide +kernel
theorem dX4_strongest_26 : decode cX4_strongest 26 = .ok (.getfield 32, 3) := by decide +kernel
theorem dX4_strongest_29 : decode cX4_strongest 29 = .ok (.iload_n 3, 1) := by decide +kernel
theorem dX4_strongest_30 : decode cX4_strongest 30 = .ok (.laload, 1) := by decide +kernel
theorem dX4_strongest_31 : decode cX4_strongest 31 = .ok (.lload_n 1, 1) := by decide +kernel
theorem dX4_strongest_32 : decode cX4_strongest 32 = .ok (.lcmp, 1) := by decide +kernel
theorem dX4_strongest_33 : decode cX4_strongest 33 = .ok (.ifCond .ne 7, 3) := by decide +kernel
theorem dX4_strongest_36 : decode cX4_strongest 36 = .ok (.iload_n 3, 1) := by decide +kernel
theorem dX4_strongest_37 : decode cX4_strongest 37 = .ok (.iconst 4, 1) := by decide +kernel
theorem dX4_strongest_38 : decode cX4_strongest 38 = .ok (.isub, 1) := by decide +kernel
theorem dX4_strongest_39 : decode cX4_strongest 39 = .ok (.ireturn, 1) := by decide +kernel
theorem dX4_strongest_40 : decode cX4_strongest 40 = .ok (.iinc 3 1, 3) := by decide +kernel
theorem dX4_strongest_43 : decode cX4_strongest 43 = .ok (.goto (-27), 3) := by decide +kernel
theorem dX4_strongest_46 : decode cX4_strongest 46 = .ok (.bipush (-99), 2) := by decide +kernel
theorem dX4_strongest_48 : decode cX4_strongest 48 = .ok (.ireturn, 1) := by decide +kernel
theorem dX4_takeAway_0 : decode cX4_takeAway 0 = .ok (.lload_n 2, 1) := by decide +kernel
theorem dX4_takeAway_1 : decode cX4_takeAway 1 = .ok (.lconst 0, 1) := by decide +kernel
theorem dX4_takeAway_2 : decode cX4_takeAway 2 = .ok (.lcmp, 1) := by decide +kernel
theorem dX4_takeAway_3 : decode cX4_takeAway 3 = .ok (.ifCond .gt 4, 3) := by decide +kernel
theorem dX4_takeAway_6 : decode cX4_takeAway 6 = .ok (.return_, 1) := by decide +kernel
theorem dX4_takeAway_7 : decode cX4_takeAway 7 = .ok (.aload_n 0, 1) := by decide +kernel
theorem dX4_takeAway_8 : decode cX4_takeAway 8 = .ok (.iload_n 1, 1) := by decide +kernel
theorem dX4_takeAway_9 : decode cX4_takeAway 9 = .ok (.invokevirtual 146, 3) := by decide +kernel
theorem dX4_takeAway_12 : decode cX4_takeAway 12 = .ok (.iconst 0, 1) := by decide +kernel
theorem dX4_takeAway_13 : decode cX4_takeAway 13 = .ok (.istore 4, 2) := by decide +kernel
theorem dX4_takeAway_15 : decode cX4_takeAway 15 = .ok (.iload 4, 2) := by decide +kernel
theorem dX4_takeAway_17 : decode cX4_takeAway 17 = .ok (.aload_n 0, 1) := by decide +kernel
theorem dX4_takeAway_18 : decode cX4_takeAway 18 = .ok (.getfield 28, 3) := by decide +kernel
theorem dX4_takeAway_21 : decode cX4_takeAway 21 = .ok (.arraylength, 1) := by decide +kernel
theorem dX4_takeAway_22 : decode cX4_takeAway 22 = .ok (.if_icmp .ge 66, 3) := by decide +kernel
theorem dX4_takeAway_25 : decode cX4_takeAway 25 = .ok (.aload_n 0, 1) := by decide +kernel
theorem dX4_takeAway_26 : decode cX4_takeAway 26 = .ok (.getfield 28, 3) := by decide +kernel
theorem dX4_takeAway_29 : decode cX4_takeAway 29 = .ok (.iload 4, 2) := by decide +kernel
theorem dX4_takeAway_31 : decode cX4_takeAway 31 = .ok (.laload, 1) := by decide +kernel
theorem dX4_takeAway_32 : decode cX4_takeAway 32 = .ok (.lload_n 2, 1) := by decide +kernel
theorem dX4_takeAway_33 : decode cX4_takeAway 33 = .ok (.invokestatic 243, 3) := by decide +kernel
theorem dX4_takeAway_36 : decode cX4_takeAway 36 = .ok (.lstore 5, 2) := by decide +kernel
theorem dX4_takeAway_38 : decode cX4_takeAway 38 = .ok (.aload_n 0, 1) := by decide +kernel
theorem dX4_takeAway_39 : decode cX4_takeAway 39 = .ok (.getfield 11, 3) := by decide +kernel
theorem dX4_takeAway_42 : decode cX4_takeAway 42 = .ok (.astore 7, 2) := by decide +kernel
theorem dX4_takeAway_44 : decode cX4_takeAway 44 = .ok (.aload 7, 2) := by decide +kernel
theorem dX4_takeAway_46 : decode cX4_takeAway 46 = .ok (.arraylength, 1) := by decide +kernel
theorem dX4_takeAway_47 : decode cX4_takeAway 47 = .ok (.istore 8, 2) := by decide +kernel
theorem dX4_takeAway_49 : decode cX4_takeAway 49 = .ok (.iconst 0, 1) := by decide +kernel
theorem dX4_takeAway_50 : decode cX4_takeAway 50 = .ok (.istore 9, 2) := by decide +kernel
theorem dX4_takeAway_52 : decode cX4_takeAway 52 = .ok (.iload 9, 2) := by decide +kernel
theorem dX4_takeAway_54 : decode cX4_takeAway 54 = .ok (.iload 8, 2) := by decide +kernel
theorem dX4_takeAway_56 : decode cX4_takeAway 56 = .ok (.if_icmp .ge 26, 3) := by decide +kernel
theorem dX4_takeAway_59 : decode cX4_takeAway 59 = .ok (.aload 7, 2) := by decide +kernel
theorem dX4_takeAway_61 : decode cX4_takeAway 61 = .ok (.iload 9, 2) := by decide +kernel
theorem dX4_takeAway_63 : decode cX4_takeAway 63 = .ok (.aaload, 1) := by decide +kernel
theorem dX4_takeAway_64 : decode cX4_takeAway 64 = .ok (.astore 10, 2) := by decide +kernel
theorem dX4_takeAway_66 : decode cX4_takeAway 66 = .ok (.aload 10, 2) := by decide +kernel
theorem dX4_takeAway_68 : decode cX4_takeAway 68 = .ok (.iload 4, 2) := by decide +kernel
theorem dX4_takeAway_70 : decode cX4_takeAway 70 = .ok (.iload_n 1, 1) := by decide +kernel
theorem dX4_takeAway_71 : decode cX4_takeAway 71 = .ok (.lload 5, 2) := by decide +kernel
theorem dX4_takeAway_73 : decode cX4_takeAway 73 = .ok (.invokevirtual 246, 3) := by decide +kernel
theorem dX4_takeAway_76 : decode cX4_takeAway 76 = .ok (.iinc 9 1, 3) := by decide +kernel
theorem dX4_takeAway_79 : decode cX4_takeAway 79 = .ok (.goto (-27), 3) := by decide +kernel
theorem dX4_takeAway_82 : decode cX4_takeAway 82 = .ok (.iinc 4 1, 3) := by decide +kernel
theorem dX4_takeAway_85 : decode cX4_takeAway 85 = .ok (.goto (-70), 3) := by decide +kernel
theorem dX4_takeAway_88 : decode cX4_takeAway 88 = .ok (.aload_n 0, 1) := by decide +kernel
theorem dX4_takeAway_89 : decode cX4_takeAway 89 = .ok (.getfield 11, 3) := by decide +kernel
theorem dX4_takeAway_92 : decode cX4_takeAway 92 = .ok (.astore 4, 2) := by decide +kernel
theorem dX4_takeAway_94 : decode cX4_takeAway 94 = .ok (.aload 4, 2) := by decide +kernel
theorem dX4_takeAway_96 : decode cX4_takeAway 96 = .ok (.arraylength, 1) := by decide +kernel
theorem dX4_takeAway_97 : decode cX4_takeAway 97 = .ok (.istore 5, 2) := by decide +kernel
theorem dX4_takeAway_99 : decode cX4_takeAway 99 = .ok (.iconst 0, 1) := by decide +kernel
theorem dX4_takeAway_100 : decode cX4_takeAway 100 = .ok (.istore 6, 2) := by decide +kernel
theorem dX4_takeAway_102 : decode cX4_takeAway 102 = .ok (.iload 6, 2) := by decide +kernel
theorem dX4_takeAway_104 : decode cX4_takeAway 104 = .ok (.iload 5, 2) := by decide +kernel
theorem dX4_takeAway_106 : decode cX4_takeAway 106 = .ok (.if_icmp .ge 21, 3) := by decide +kernel
theorem dX4_takeAway_109 : decode cX4_takeAway 109 = .ok (.aload 4, 2) := by decide +kernel
theorem dX4_takeAway_111 : decode cX4_takeAway 111 = .ok (.iload 6, 2) := by decide +kernel
theorem dX4_takeAway_113 : decode cX4_takeAway 113 = .ok (.aaload, 1) := by decide +kernel
theorem dX4_takeAway_114 : decode cX4_takeAway 114 = .ok (.astore 7, 2) := by decide +kernel
theorem dX4_takeAway_116 : decode cX4_takeAway 116 = .ok (.aload 7, 2) := by decide +kernel
theorem dX4_takeAway_118 : decode cX4_takeAway 118 = .ok (.invokevirtual 249, 3) := by decide +kernel
theorem dX4_takeAway_121 : decode cX4_takeAway 121 = .ok (.iinc 6 1, 3) := by decide +kernel
theorem dX4_takeAway_124 : decode cX4_takeAway 124 = .ok (.goto (-22), 3) := by decide +kernel
theorem dX4_takeAway_127 : decode cX4_takeAway 127 = .ok (.return_, 1) := by decide +kernel
theorem dX4_lowestLiving_0 : decode cX4_lowestLiving 0 = .ok (.aload_n 0, 1) := by decide +kernel
theorem dX4_lowestLiving_1 : decode cX4_lowestLiving 1 = .ok (.getfield 11, 3) := by decide +kernel
theorem dX4_lowestLiving_4 : decode cX4_lowestLiving 4 = .ok (.astore_n 1, 1) := by decide +kernel
theorem dX4_lowestLiving_5 : decode cX4_lowestLiving 5 = .ok (.aload_n 1, 1) := by decide +kernel
theorem dX4_lowestLiving_6 : decode cX4_lowestLiving 6 = .ok (.arraylength, 1) := by decide +kernel
theorem dX4_lowestLiving_7 : decode cX4_lowestLiving 7 = .ok (.istore_n 2, 1) := by decide +kernel
theorem dX4_lowestLiving_8 : decode cX4_lowestLiving 8 = .ok (.iconst 0, 1) := by decide +kernel
theorem dX4_lowestLiving_9 : decode cX4_lowestLiving 9 = .ok (.istore_n 3, 1) := by decide +kernel
theorem dX4_lowestLiving_10 : decode cX4_lowestLiving 10 = .ok (.iload_n 3, 1) := by decide +kernel
theorem dX4_lowestLiving_11 : decode cX4_lowestLiving 11 = .ok (.iload_n 2, 1) := by decide +kernel
theorem dX4_lowestLiving_12 : decode cX4_lowestLiving 12 = .ok (.if_icmp .ge 25, 3) := by decide +kernel
theorem dX4_lowestLiving_15 : decode cX4_lowestLiving 15 = .ok (.aload_n 1, 1) := by decide +kernel
theorem dX4_lowestLiving_16 : decode cX4_lowestLiving 16 = .ok (.iload_n 3, 1) := by decide +kernel
theorem dX4_lowestLiving_17 : decode cX4_lowestLiving 17 = .ok (.aaload, 1) := by decide +kernel
theorem dX4_lowestLiving_18 : decode cX4_lowestLiving 18 = .ok (.astore 4, 2) := by decide +kernel
theorem dX4_lowestLiving_20 : decode cX4_lowestLiving 20 = .ok (.aload 4, 2) := by decide +kernel
theorem dX4_lowestLiving_22 : decode cX4_lowestLiving 22 = .ok (.invokevirtual 76, 3) := by decide +kernel
theorem dX4_lowestLiving_25 : decode cX4_lowestLiving 25 = .ok (.ifCond .eq 6, 3) := by decide +kernel
theorem dX4_lowestLiving_28 : decode cX4_lowestLiving 28 = .ok (.aload 4, 2) := by decide +kernel
theorem dX4_lowestLiving_30 : decode cX4_lowestLiving 30 = .ok (.areturn, 1) := by decide +kernel
theorem dX4_lowestLiving_31 : decode cX4_lowestLiving 31 = .ok (.iinc 3 1, 3) := by decide +kernel
theorem dX4_lowestLiving_34 : decode cX4_lowestLiving 34 = .ok (.goto (-24), 3) := by decide +kernel
theorem dX4_lowestLiving_37 : decode cX4_lowestLiving 37 = .ok (.aconst_null, 1) := by decide +kernel
theorem dX4_lowestLiving_38 : decode cX4_lowestLiving 38 = .ok (.areturn, 1) := by decide +kernel
theorem dX4_holdTo_0 : decode cX4_holdTo 0 = .ok (.aload_n 1, 1) := by decide +kernel
theorem dX4_holdTo_1 : decode cX4_holdTo 1 = .ok (.bipush 64, 2) := by decide +kernel
theorem dX4_holdTo_3 : decode cX4_holdTo 3 = .ok (.iconst 0, 1) := by decide +kernel
theorem dX4_holdTo_4 : decode cX4_holdTo 4 = .ok (.invokevirtual 252, 3) := by decide +kernel
theorem dX4_holdTo_7 : decode cX4_holdTo 7 = .ok (.ifCond .eq 7, 3) := by decide +kernel
theorem dX4_holdTo_10 : decode cX4_holdTo 10 = .ok (.iconst 1, 1) := by decide +kernel
theorem dX4_holdTo_11 : decode cX4_holdTo 11 = .ok (.goto 4, 3) := by decide +kernel
theorem dX4_holdTo_14 : decode cX4_holdTo 14 = .ok (.iconst 0, 1) := by decide +kernel
theorem dX4_holdTo_15 : decode cX4_holdTo 15 = .ok (.istore 5, 2) := by decide +kernel
theorem dX4_holdTo_17 : decode cX4_holdTo 17 = .ok (.aload_n 0, 1) := by decide +kernel
theorem dX4_holdTo_18 : decode cX4_holdTo 18 = .ok (.getfield 11, 3) := by decide +kernel
theorem dX4_holdTo_21 : decode cX4_holdTo 21 = .ok (.astore 6, 2) := by decide +kernel
theorem dX4_holdTo_23 : decode cX4_holdTo 23 = .ok (.aload 6, 2) := by decide +kernel
theorem dX4_holdTo_25 : decode cX4_holdTo 25 = .ok (.arraylength, 1) := by decide +kernel
theorem dX4_holdTo_26 : decode cX4_holdTo 26 = .ok (.istore 7, 2) := by decide +kernel
theorem dX4_holdTo_28 : decode cX4_holdTo 28 = .ok (.iconst 0, 1) := by decide +kernel
theorem dX4_holdTo_29 : decode cX4_holdTo 29 = .ok (.istore 8, 2) := by decide +kernel
theorem dX4_holdTo_31 : decode cX4_holdTo 31 = .ok (.iload 8, 2) := by decide +kernel
theorem dX4_holdTo_33 : decode cX4_holdTo 33 = .ok (.iload 7, 2) := by decide +kernel
theorem dX4_holdTo_35 : decode cX4_holdTo 35 = .ok (.if_icmp .ge 45, 3) := by decide +kernel
theorem dX4_holdTo_38 : decode cX4_holdTo 38 = .ok (.aload 6, 2) := by decide +kernel
theorem dX4_holdTo_40 : decode cX4_holdTo 40 = .ok (.iload 8, 2) := by decide +kernel
theorem dX4_holdTo_42 : decode cX4_holdTo 42 = .ok (.aaload, 1) := by decide +kernel
theorem dX4_holdTo_43 : decode cX4_holdTo 43 = .ok (.astore 9, 2) := by decide +kernel
theorem dX4_holdTo_45 : decode cX4_holdTo 45 = .ok (.aload 9, 2) := by decide +kernel
theorem dX4_holdTo_47 : decode cX4_holdTo 47 = .ok (.aload_n 1, 1) := by decide +kernel
theorem dX4_holdTo_48 : decode cX4_holdTo 48 = .ok (.if_acmp .eq 26, 3) := by decide +kernel
theorem dX4_holdTo_51 : decode cX4_holdTo 51 = .ok (.aload 9, 2) := by decide +kernel
theorem dX4_holdTo_53 : decode cX4_holdTo 53 = .ok (.invokevirtual 76, 3) := by decide +kernel
theorem dX4_holdTo_56 : decode cX4_holdTo 56 = .ok (.ifCond .eq 18, 3) := by decide +kernel
theorem dX4_holdTo_59 : decode cX4_holdTo 59 = .ok (.aload 9, 2) := by decide +kernel
theorem dX4_holdTo_61 : decode cX4_holdTo 61 = .ok (.aload_n 1, 1) := by decide +kernel
theorem dX4_holdTo_62 : decode cX4_holdTo 62 = .ok (.lload_n 2, 1) := by decide +kernel
theorem dX4_holdTo_63 : decode cX4_holdTo 63 = .ok (.iload 4, 2) := by decide +kernel
theorem dX4_holdTo_65 : decode cX4_holdTo 65 = .ok (.invokestatic 256, 3) := by decide +kernel
theorem dX4_holdTo_68 : decode cX4_holdTo 68 = .ok (.ifCond .eq 6, 3) := by decide +kernel
theorem dX4_holdTo_71 : decode cX4_holdTo 71 = .ok (.iinc 5 1, 3) := by decide +kernel
theorem dX4_holdTo_74 : decode cX4_holdTo 74 = .ok (.iinc 8 1, 3) := by decide +kernel
theorem dX4_holdTo_77 : decode cX4_holdTo 77 = .ok (.goto (-46), 3) := by decide +kernel
theorem dX4_holdTo_80 : decode cX4_holdTo 80 = .ok (.iload 5, 2) := by decide +kernel
theorem dX4_holdTo_82 : decode cX4_holdTo 82 = .ok (.ireturn, 1) := by decide +kernel
theorem dX4_fit_0 : decode cX4_fit 0 = .ok (.lload_n 2, 1) := by decide +kernel
theorem dX4_fit_1 : decode cX4_fit 1 = .ok (.lconst 0, 1) := by decide +kernel
theorem dX4_fit_2 : decode cX4_fit 2 = .ok (.lcmp, 1) := by decide +kernel
theorem dX4_fit_3 : decode cX4_fit 3 = .ok (.ifCond .gt 5, 3) := by decide +kernel
theorem dX4_fit_6 : decode cX4_fit 6 = .ok (.iconst 0, 1) := by decide +kernel
theorem dX4_fit_7 : decode cX4_fit 7 = .ok (.ireturn, 1) := by decide +kernel
theorem dX4_fit_8 : decode cX4_fit 8 = .ok (.bipush (-3), 2) := by decide +kernel
theorem dX4_fit_10 : decode cX4_fit 10 = .ok (.istore 5, 2) := by decide +kernel
theorem dX4_fit_12 : decode cX4_fit 12 = .ok (.aload_n 0, 1) := by decide +kernel
theorem dX4_fit_13 : decode cX4_fit 13 = .ok (.aload_n 1, 1) := by decide +kernel
theorem dX4_fit_14 : decode cX4_fit 14 = .ok (.iload 4, 2) := by decide +kernel
theorem dX4_fit_16 : decode cX4_fit 16 = .ok (.iload 5, 2) := by decide +kernel
theorem dX4_fit_18 : decode cX4_fit 18 = .ok (.invokevirtual 128, 3) := by decide +kernel
theorem dX4_fit_21 : decode cX4_fit 21 = .ok (.lstore 6, 2) := by decide +kernel
theorem dX4_fit_23 : decode cX4_fit 23 = .ok (.iload 5, 2) := by decide +kernel
theorem dX4_fit_25 : decode cX4_fit 25 = .ok (.iconst 1, 1) := by decide +kernel
theorem dX4_fit_26 : decode cX4_fit 26 = .ok (.iadd, 1) := by decide +kernel
theorem dX4_fit_27 : decode cX4_fit 27 = .ok (.istore 8, 2) := by decide +kernel
theorem dX4_fit_29 : decode cX4_fit 29 = .ok (.iload 8, 2) := by decide +kernel
theorem dX4_fit_31 : decode cX4_fit 31 = .ok (.iconst 3, 1) := by decide +kernel
theorem dX4_fit_32 : decode cX4_fit 32 = .ok (.if_icmp .gt 36, 3) := by decide +kernel
theorem dX4_fit_35 : decode cX4_fit 35 = .ok (.aload_n 0, 1) := by decide +kernel
theorem dX4_fit_36 : decode cX4_fit 36 = .ok (.aload_n 1, 1) := by decide +kernel
theorem dX4_fit_37 : decode cX4_fit 37 = .ok (.iload 4, 2) := by decide +kernel
theorem dX4_fit_39 : decode cX4_fit 39 = .ok (.iload 8, 2) := by decide +kernel
theorem dX4_fit_41 : decode cX4_fit 41 = .ok (.invokevirtual 128, 3) := by decide +kernel
theorem dX4_fit_44 : decode cX4_fit 44 = .ok (.lstore 9, 2) := by decide +kernel
theorem dX4_fit_46 : decode cX4_fit 46 = .ok (.lload 9, 2) := by decide +kernel
theorem dX4_fit_48 : decode cX4_fit 48 = .ok (.lload 6, 2) := by decide +kernel
theorem dX4_fit_50 : decode cX4_fit 50 = .ok (.lcmp, 1) := by decide +kernel
theorem dX4_fit_51 : decode cX4_fit 51 = .ok (.ifCond .le 11, 3) := by decide +kernel
theorem dX4_fit_54 : decode cX4_fit 54 = .ok (.lload 9, 2) := by decide +kernel
theorem dX4_fit_56 : decode cX4_fit 56 = .ok (.lstore 6, 2) := by decide +kernel
theorem dX4_fit_58 : decode cX4_fit 58 = .ok (.iload 8, 2) := by decide +kernel
theorem dX4_fit_60 : decode cX4_fit 60 = .ok (.istore 5, 2) := by decide +kernel
theorem dX4_fit_62 : decode cX4_fit 62 = .ok (.iinc 8 1, 3) := by decide +kernel
theorem dX4_fit_65 : decode cX4_fit 65 = .ok (.goto (-36), 3) := by decide +kernel
theorem dX4_fit_68 : decode cX4_fit 68 = .ok (.ldc2_w 260, 3) := by decide +kernel
theorem dX4_fit_71 : decode cX4_fit 71 = .ok (.lload 6, 2) := by decide +kernel
theorem dX4_fit_73 : decode cX4_fit 73 = .ok (.lmul, 1) := by decide +kernel
theorem dX4_fit_74 : decode cX4_fit 74 = .ok (.lload_n 2, 1) := by decide +kernel
theorem dX4_fit_75 : decode cX4_fit 75 = .ok (.invokestatic 243, 3) := by decide +kernel
theorem dX4_fit_78 : decode cX4_fit 78 = .ok (.lstore 8, 2) := by decide +kernel
theorem dX4_fit_80 : decode cX4_fit 80 = .ok (.aload_n 0, 1) := by decide +kernel
theorem dX4_fit_81 : decode cX4_fit 81 = .ok (.ldc2_w 262, 3) := by decide +kernel
theorem dX4_fit_84 : decode cX4_fit 84 = .ok (.ldc2_w 264, 3) := by decide +kernel
theorem dX4_fit_87 : decode cX4_fit 87 = .ok (.lload 8, 2) := by decide +kernel
theorem dX4_fit_89 : decode cX4_fit 89 = .ok (.invokestatic 266, 3) := by decide +kernel
theorem dX4_fit_92 : decode cX4_fit 92 = .ok (.invokestatic 236, 3) := by decide +kernel
theorem dX4_fit_95 : decode cX4_fit 95 = .ok (.l2i, 1) := by decide +kernel
theorem dX4_fit_96 : decode cX4_fit 96 = .ok (.iload 5, 2) := by decide +kernel
theorem dX4_fit_98 : decode cX4_fit 98 = .ok (.invokevirtual 252, 3) := by decide +kernel
theorem dX4_fit_101 : decode cX4_fit 101 = .ok (.ireturn, 1) := by decide +kernel
theorem dX5_init_0 : decode cX5_init 0 = .ok (.aload_n 0, 1) := by decide +kernel
theorem dX5_init_1 : decode cX5_init 1 = .ok (.invokespecial 1, 3) := by decide +kernel
theorem dX5_init_4 : decode cX5_init 4 = .ok (.aload_n 0, 1) := by decide +kernel
theorem dX5_init_5 : decode cX5_init 5 = .ok (.bipush 8, 2) := by decide +kernel
theorem dX5_init_7 : decode cX5_init 7 = .ok (.newarray .int, 2) := by decide +kernel
theorem dX5_init_9 : decode cX5_init 9 = .ok (.putfield 7, 3) := by decide +kernel
theorem dX5_init_12 : decode cX5_init 12 = .ok (.aload_n 0, 1) := by decide +kernel
theorem dX5_init_13 : decode cX5_init 13 = .ok (.bipush 8, 2) := by decide +kernel
theorem dX5_init_15 : decode cX5_init 15 = .ok (.newarray .int, 2) := by decide +kernel
theorem dX5_init_17 : decode cX5_init 17 = .ok (.putfield 13, 3) := by decide +kernel
theorem dX5_init_20 : decode cX5_init 20 = .ok (.aload_n 0, 1) := by decide +kernel
theorem dX5_init_21 : decode cX5_init 21 = .ok (.bipush 8, 2) := by decide +kernel
theorem dX5_init_23 : decode cX5_init 23 = .ok (.newarray .int, 2) := by decide +kernel
theorem dX5_init_25 : decode cX5_init 25 = .ok (.putfield 16, 3) := by decide +kernel
theorem dX5_init_28 : decode cX5_init 28 = .ok (.aload_n 0, 1) := by decide +kernel
theorem dX5_init_29 : decode cX5_init 29 = .ok (.bipush 8, 2) := by decide +kernel
theorem dX5_init_31 : decode cX5_init 31 = .ok (.newarray .int, 2) := by decide +kernel
theorem dX5_init_33 : decode cX5_init 33 = .ok (.putfield 19, 3) := by decide +kernel
theorem dX5_init_36 : decode cX5_init 36 = .ok (.aload_n 0, 1) := by decide +kernel
theorem dX5_init_37 : decode cX5_init 37 = .ok (.bipush 8, 2) := by decide +kernel
theorem dX5_init_39 : decode cX5_init 39 = .ok (.newarray .boolean, 2) := by decide +kernel
theorem dX5_init_41 : decode cX5_init 41 = .ok (.putfield 22, 3) := by decide +kernel
theorem dX5_init_44 : decode cX5_init 44 = .ok (.aload_n 0, 1) := by decide +kernel
theorem dX5_init_45 : decode cX5_init 45 = .ok (.bipush 8, 2) := by decide +kernel
theorem dX5_init_47 : decode cX5_init 47 = .ok (.newarray .int, 2) := by decide +kernel
theorem dX5_init_49 : decode cX5_init 49 = .ok (.putfield 26, 3) := by decide +kernel
theorem dX5_init_52 : decode cX5_init 52 = .ok (.aload_n 0, 1) := by decide +kernel
theorem dX5_init_53 : decode cX5_init 53 = .ok (.bipush 8, 2) := by decide +kernel
theorem dX5_init_55 : decode cX5_init 55 = .ok (.newarray .int, 2) := by decide +kernel
theorem dX5_init_57 : decode cX5_init 57 = .ok (.putfield 29, 3) := by decide +kernel
theorem dX5_init_60 : decode cX5_init 60 = .ok (.aload_n 0, 1) := by decide +kernel
theorem dX5_init_61 : decode cX5_init 61 = .ok (.iconst 4, 1) := by decide +kernel
theorem dX5_init_62 : decode cX5_init 62 = .ok (.newarray .int, 2) := by decide +kernel
theorem dX5_init_64 : decode cX5_init 64 = .ok (.putfield 32, 3) := by decide +kernel
theorem dX5_init_67 : decode cX5_init 67 = .ok (.aload_n 0, 1) := by decide +kernel
theorem dX5_init_68 : decode cX5_init 68 = .ok (.iconst 4, 1) := by decide +kernel
theorem dX5_init_69 : decode cX5_init 69 = .ok (.newarray .int, 2) := by decide +kernel
theorem dX5_init_71 : decode cX5_init 71 = .ok (.putfield 35, 3) := by decide +kernel
theorem dX5_init_74 : decode cX5_init 74 = .ok (.aload_n 0, 1) := by decide +kernel
theorem dX5_init_75 : decode cX5_init 75 = .ok (.iconst 4, 1) := by decide +kernel
theorem dX5_init_76 : decode cX5_init 76 = .ok (.newarray .int, 2) := by decide +kernel
theorem dX5_init_78 : decode cX5_init 78 = .ok (.putfield 38, 3) := by decide +kernel
theorem dX5_init_81 : decode cX5_init 81 = .ok (.aload_n 0, 1) := by decide +kernel
theorem dX5_init_82 : decode cX5_init 82 = .ok (.sipush 512, 3) := by decide +kernel
theorem dX5_init_85 : decode cX5_init 85 = .ok (.newarray .int, 2) := by decide +kernel
theorem dX5_init_87 : decode cX5_init 87 = .ok (.putfield 41, 3) := by decide +kernel
theorem dX5_init_90 : decode cX5_init 90 = .ok (.aload_n 0, 1) := by decide +kernel
theorem dX5_init_91 : decode cX5_init 91 = .ok (.sipush 512, 3) := by decide +kernel
theorem dX5_init_94 : decode cX5_init 94 = .ok (.newarray .int, 2) := by decide +kernel
theorem dX5_init_96 : decode cX5_init 96 = .ok (.putfield 44, 3) := by decide +kernel
theorem dX5_init_99 : decode cX5_init 99 = .ok (.aload_n 0, 1) := by decide +kernel
theorem dX5_init_100 : decode cX5_init 100 = .ok (.bipush 32, 2) := by decide +kernel
theorem dX5_init_102 : decode cX5_init 102 = .ok (.newarray .int, 2) := by decide +kernel
theorem dX5_init_104 : decode cX5_init 104 = .ok (.putfield 47, 3) := by decide +kernel
theorem dX5_init_107 : decode cX5_init 107 = .ok (.aload_n 0, 1) := by decide +kernel
theorem dX5_init_108 : decode cX5_init 108 = .ok (.bipush 9, 2) := by decide +kernel
theorem dX5_init_110 : decode cX5_init 110 = .ok (.newarray .long, 2) := by decide +kernel
theorem dX5_init_112 : decode cX5_init 112 = .ok (.putfield 50, 3) := by decide +kernel
theorem dX5_init_115 : decode cX5_init 115 = .ok (.aload_n 0, 1) := by decide +kernel
theorem dX5_init_116 : decode cX5_init 116 = .ok (.iconst 1, 1) := by decide +kernel
theorem dX5_init_117 : decode cX5_init 117 = .ok (.putfield 54, 3) := by decide +kernel
theorem dX5_init_120 : decode cX5_init 120 = .ok (.return_, 1) := by decide +kernel
theorem dX5_thrown_0 : decode cX5_thrown 0 = .ok (.aload_n 0, 1) := by decide +kernel
theorem dX5_thrown_1 : decode cX5_thrown 1 = .ok (.getfield 58, 3) := by decide +kernel
theorem dX5_thrown_4 : decode cX5_thrown 4 = .ok (.ireturn, 1) := by decide +kernel
theorem dX5_goes_0 : decode cX5_goes 0 = .ok (.aload_n 0, 1) := by decide +kernel
theorem dX5_goes_1 : decode cX5_goes 1 = .ok (.iload_n 1, 1) := by decide +kernel
theorem dX5_goes_2 : decode cX5_goes 2 = .ok (.putfield 58, 3) := by decide +kernel
theorem dX5_goes_5 : decode cX5_goes 5 = .ok (.iload_n 1, 1) := by decide +kernel
theorem dX5_goes_6 : decode cX5_goes 6 = .ok (.ifCond .ne 7, 3) := by decide +kernel
theorem dX5_goes_9 : decode cX5_goes 9 = .ok (.iconst 1, 1) := by decide +kernel
theorem dX5_goes_10 : decode cX5_goes 10 = .ok (.goto 4, 3) := by decide +kernel
theorem dX5_goes_13 : decode cX5_goes 13 = .ok (.iconst 0, 1) := by decide +kernel
theorem dX5_goes_14 : decode cX5_goes 14 = .ok (.ireturn, 1) := by decide +kernel
theorem dX5_isIn_0 : decode cX5_isIn 0 = .ok (.iload_n 0, 1) := by decide +kernel
theorem dX5_isIn_1 : decode cX5_isIn 1 = .ok (.iload_n 1, 1) := by decide +kernel
theorem dX5_isIn_2 : decode cX5_isIn 2 = .ok (.if_icmp .lt 12, 3) := by decide +kernel
theorem dX5_isIn_5 : decode cX5_isIn 5 = .ok (.iload_n 0, 1) := by decide +kernel
theorem dX5_isIn_6 : decode cX5_isIn 6 = .ok (.iload_n 2, 1) := by decide +kernel
theorem dX5_isIn_7 : decode cX5_isIn 7 = .ok (.if_icmp .gt 7, 3) := by decide +kernel
theorem dX5_isIn_10 : decode cX5_isIn 10 = .ok (.iconst 1, 1) := by decide +kernel
theorem dX5_isIn_11 : decode cX5_isIn 11 = .ok (.goto 4, 3) := by decide +kernel
theorem dX5_isIn_14 : decode cX5_isIn 14 = .ok (.iconst 0, 1) := by decide +kernel
theorem dX5_isIn_15 : decode cX5_isIn 15 = .ok (.ireturn, 1) := by decide +kernel
theorem dX5_isElement_0 : decode cX5_isElement 0 = .ok (.iload_n 1, 1) := by decide +kernel
theorem dX5_isElement_1 : decode cX5_isElement 1 = .ok (.iconst 0, 1) := by decide +kernel
theorem dX5_isElement_2 : decode cX5_isElement 2 = .ok (.aload_n 0, 1) := by decide +kernel
theorem dX5_isElement_3 : decode cX5_isElement 3 = .ok (.getfield 61, 3) := by decide +kernel
theorem dX5_isElement_6 : decode cX5_isElement 6 = .ok (.iconst 1, 1) := by decide +kernel
theorem dX5_isElement_7 : decode cX5_isElement 7 = .ok (.isub, 1) := by decide +kernel
theorem dX5_isElement_8 : decode cX5_isElement 8 = .ok (.invokestatic 64, 3) := by decide +kernel
theorem dX5_isElement_11 : decode cX5_isElement 11 = .ok (.ireturn, 1) := by decide +kernel
theorem dX5_isBearing_0 : decode cX5_isBearing 0 = .ok (.iload_n 0, 1) := by decide +kernel
theorem dX5_isBearing_1 : decode cX5_isBearing 1 = .ok (.bipush (-4), 2) := by decide +kernel
theorem dX5_isBearing_3 : decode cX5_isBearing 3 = .ok (.iconst 4, 1) := by decide +kernel
theorem dX5_isBearing_4 : decode cX5_isBearing 4 = .ok (.invokestatic 64, 3) := by decide +kernel
theorem dX5_isBearing_7 : decode cX5_isBearing 7 = .ok (.ireturn, 1) := by decide +kernel
theorem dX5_down_0 : decode cX5_down 0 = .ok (.lload_n 0, 1) := by decide +kernel
theorem dX5_down_1 : decode cX5_down 1 = .ok (.lload_n 2, 1) := by decide +kernel
theorem dX5_down_2 : decode cX5_down 2 = .ok (.ldiv, 1) := by decide +kernel
theorem dX5_down_3 : decode cX5_down 3 = .ok (.lstore 4, 2) := by decide +kernel
theorem dX5_down_5 : decode cX5_down 5 = .ok (.lload_n 0, 1) := by decide +kernel
theorem dX5_down_6 : decode cX5_down 6 = .ok (.lconst 0, 1) := by decide +kernel
theorem dX5_down_7 : decode cX5_down 7 = .ok (.lcmp, 1) := by decide +kernel
theorem dX5_down_8 : decode cX5_down 8 = .ok (.ifCond .ge 19, 3) := by decide +kernel
theorem dX5_down_11 : decode cX5_down 11 = .ok (.lload 4, 2) := by decide +kernel
theorem dX5_down_13 : decode cX5_down 13 = .ok (.lload_n 2, 1) := by decide +kernel
theorem dX5_down_14 : decode cX5_down 14 = .ok (.lmul, 1) := by decide +kernel
theorem dX5_down_15 : decode cX5_down 15 = .ok (.lload_n 0, 1) := by decide +kernel
theorem dX5_down_16 : decode cX5_down 16 = .ok (.lcmp, 1) := by decide +kernel
theorem dX5_down_17 : decode cX5_down 17 = .ok (.ifCond .eq 10, 3) := by decide +kernel
theorem dX5_down_20 : decode cX5_down 20 = .ok (.lload 4, 2) := by decide +kernel
theorem dX5_down_22 : decode cX5_down 22 = .ok (.lconst 1, 1) := by decide +kernel
theorem dX5_down_23 : decode cX5_down 23 = .ok (.lsub, 1) := by decide +kernel
theorem dX5_down_24 : decode cX5_down 24 = .ok (.goto 5, 3) := by decide +kernel
theorem dX5_down_27 : decode cX5_down 27 = .ok (.lload 4, 2) := by decide +kernel
theorem dX5_down_29 : decode cX5_down 29 = .ok (.lreturn, 1) := by decide +kernel
theorem dX5_delay_0 : decode cX5_delay 0 = .ok (.aload_n 0, 1) := by decide +kernel
theorem dX5_delay_1 : decode cX5_delay 1 = .ok (.getfield 7, 3) := by decide +kernel
theorem dX5_delay_4 : decode cX5_delay 4 = .ok (.iload_n 1, 1) := by decide +kernel
theorem dX5_delay_5 : decode cX5_delay 5 = .ok (.iaload, 1) := by decide +kernel
theorem dX5_delay_6 : decode cX5_delay 6 = .ok (.iload_n 2, 1) := by decide +kernel
theorem dX5_delay_7 : decode cX5_delay 7 = .ok (.imul, 1) := by decide +kernel
theorem dX5_delay_8 : decode cX5_delay 8 = .ok (.i2l, 1) := by decide +kernel
theorem dX5_delay_9 : decode cX5_delay 9 = .ok (.ldc2_w 68, 3) := by decide +kernel
theorem dX5_delay_12 : decode cX5_delay 12 = .ok (.invokestatic 70, 3) := by decide +kernel
theorem dX5_delay_15 : decode cX5_delay 15 = .ok (.l2i, 1) := by decide +kernel
theorem dX5_delay_16 : decode cX5_delay 16 = .ok (.ireturn, 1) := by decide +kernel
theorem dX5_element_0 : decode cX5_element 0 = .ok (.iload_n 1, 1) := by decide +kernel
theorem dX5_element_1 : decode cX5_element 1 = .ok (.iconst 0, 1) := by decide +kernel
theorem dX5_element_2 : decode cX5_element 2 = .ok (.bipush 12, 2) := by decide +kernel
theorem dX5_element_4 : decode cX5_element 4 = .ok (.invokestatic 64, 3) := by decide +kernel
theorem dX5_element_7 : decode cX5_element 7 = .ok (.ifCond .eq 28, 3) := by decide +kernel
theorem dX5_element_10 : decode cX5_element 10 = .ok (.iload_n 2, 1) := by decide +kernel
theorem dX5_element_11 : decode cX5_element 11 = .ok (.bipush 32, 2) := by decide +kernel
theorem dX5_element_13 : decode cX5_element 13 = .ok (.bipush 96, 2) := by decide +kernel
theorem dX5_element_15 : decode cX5_element 15 = .ok (.invokestatic 64, 3) := by decide +kernel
theorem dX5_element_18 : decode cX5_element 18 = .ok (.ifCond .eq 17, 3) := by decide +kernel
theorem dX5_element_21 : decode cX5_element 21 = .ok (.iload_n 3, 1) := by decide +kernel
theorem dX5_element_22 : decode cX5_element 22 = .ok (.bipush (-3), 2) := by decide +kernel
theorem dX5_element_24 : decode cX5_element 24 = .ok (.iconst 3, 1) := by decide +kernel
theorem dX5_element_25 : decode cX5_element 25 = .ok (.invokestatic 64, 3) := by decide +kernel
theorem dX5_element_28 : decode cX5_element 28 = .ok (.ifCond .eq 7, 3) := by decide +kernel
theorem dX5_element_31 : decode cX5_element 31 = .ok (.iconst 1, 1) := by decide +kernel
theorem dX5_element_32 : decode cX5_element 32 = .ok (.goto 4, 3) := by decide +kernel
theorem dX5_element_35 : decode cX5_element 35 = .ok (.iconst 0, 1) := by decide +kernel
theorem dX5_element_36 : decode cX5_element 36 = .ok (.istore 4, 2) := by decide +kernel
theorem dX5_element_38 : decode cX5_element 38 = .ok (.aload_n 0, 1) := by decide +kernel
theorem dX5_element_39 : decode cX5_element 39 = .ok (.iload 4, 2) := by decide +kernel
theorem dX5_element_41 : decode cX5_element 41 = .ok (.ifCond .ne 7, 3) := by decide +kernel
theorem dX5_element_44 : decode cX5_element 44 = .ok (.iconst 1, 1) := by decide +kernel
theorem dX5_element_45 : decode cX5_element 45 = .ok (.goto 17, 3) := by decide +kernel
theorem dX5_element_48 : decode cX5_element 48 = .ok (.aload_n 0, 1) := by decide +kernel
theorem dX5_element_49 : decode cX5_element 49 = .ok (.getfield 61, 3) := by decide +kernel
theorem dX5_element_52 : decode cX5_element 52 = .ok (.bipush 8, 2) := by decide +kernel
theorem dX5_element_54 : decode cX5_element 54 = .ok (.if_icmp .ne 7, 3) := by decide +kernel
theorem dX5_element_57 : decode cX5_element 57 = .ok (.iconst 2, 1) := by decide +kernel
theorem dX5_element_58 : decode cX5_element 58 = .ok (.goto 4, 3) := by decide +kernel
theorem dX5_element_61 : decode cX5_element 61 = .ok (.iconst 0, 1) := by decide +kernel
theorem dX5_element_62 : decode cX5_element 62 = .ok (.invokevirtual 74, 3) := by decide +kernel
theorem dX5_element_65 : decode cX5_element 65 = .ok (.ifCond .ne 5, 3) := by decide +kernel
theorem dX5_element_68 : decode cX5_element 68 = .ok (.iconst 0, 1) := by decide +kernel
theorem dX5_element_69 : decode cX5_element 69 = .ok (.ireturn, 1) := by decide +kernel
theorem dX5_element_70 : decode cX5_element 70 = .ok (.aload_n 0, 1) := by decide +kernel
theorem dX5_element_71 : decode cX5_element 71 = .ok (.getfield 7, 3) := by decide +kernel
theorem dX5_element_74 : decode cX5_element 74 = .ok (.aload_n 0, 1) := by decide +kernel
theorem dX5_element_75 : decode cX5_element 75 = .ok (.getfield 61, 3) := by decide +kernel
theorem dX5_element_78 : decode cX5_element 78 = .ok (.iload_n 1, 1) := by decide +kernel
theorem dX5_element_79 : decode cX5_element 79 = .ok (.iastore, 1) := by decide +kernel
theorem dX5_element_80 : decode cX5_element 80 = .ok (.aload_n 0, 1) := by decide +kernel
theorem dX5_element_81 : decode cX5_element 81 = .ok (.getfield 13, 3) := by decide +kernel
theorem dX5_element_84 : decode cX5_element 84 = .ok (.aload_n 0, 1) := by decide +kernel
theorem dX5_element_85 : decode cX5_element 85 = .ok (.getfield 61, 3) := by decide +kernel
theorem dX5_element_88 : decode cX5_element 88 = .ok (.iload_n 2, 1) := by decide +kernel
theorem dX5_element_89 : decode cX5_element 89 = .ok (.iastore, 1) := by decide +kernel
theorem dX5_element_90 : decode cX5_element 90 = .ok (.aload_n 0, 1) := by decide +kernel
theorem dX5_element_91 : decode cX5_element 91 = .ok (.getfield 16, 3) := by decide +kernel
theorem dX5_element_94 : decode cX5_element 94 = .ok (.aload_n 0, 1) := by decide +kernel
theorem dX5_element_95 : decode cX5_element 95 = .ok (.getfield 61, 3) := by decide +kernel
theorem dX5_element_98 : decode cX5_element 98 = .ok (.iload_n 3, 1) := by decide +kernel
theorem dX5_element_99 : decode cX5_element 99 = .ok (.iastore, 1) := by decide +kernel
theorem dX5_element_100 : decode cX5_element 100 = .ok (.aload_n 0, 1) := by decide +kernel
theorem dX5_element_101 : decode cX5_element 101 = .ok (.getfield 19, 3) := by decide +kernel
theorem dX5_element_104 : decode cX5_element 104 = .ok (.aload_n 0, 1) := by decide +kernel
theorem dX5_element_105 : decode cX5_element 105 = .ok (.getfield 61, 3) := by decide +kernel
theorem dX5_element_108 : decode cX5_element 108 = .ok (.aload_n 0, 1) := by decide +kernel
theorem dX5_element_109 : decode cX5_element 109 = .ok (.getfield 78, 3) := by decide +kernel
theorem dX5_element_112 : decode cX5_element 112 = .ok (.iastore, 1) := by decide +kernel
theorem dX5_element_113 : decode cX5_element 113 = .ok (.aload_n 0, 1) := by decide +kernel
theorem dX5_element_114 : decode cX5_element 114 = .ok (.getfield 22, 3) := by decide +kernel
theorem dX5_element_117 : decode cX5_element 117 = .ok (.aload_n 0, 1) := by decide +kernel
theorem dX5_element_118 : decode cX5_element 118 = .ok (.getfield 61, 3) := by decide +kernel
theorem dX5_element_121 : decode cX5_element 121 = .ok (.iconst 1, 1) := by decide +kernel
theorem dX5_element_122 : decode cX5_element 122 = .ok (.bastore, 1) := by decide +kernel
theorem dX5_element_123 : decode cX5_element 123 = .ok (.aload_n 0, 1) := by decide +kernel
theorem dX5_element_124 : decode cX5_element 124 = .ok (.getfield 26, 3) := by decide +kernel
theorem dX5_element_127 : decode cX5_element 127 = .ok (.aload_n 0, 1) := by decide +kernel
theorem dX5_element_128 : decode cX5_element 128 = .ok (.getfield 61, 3) := by decide +kernel
theorem dX5_element_131 : decode cX5_element 131 = .ok (.bipush 64, 2) := by decide +kernel
theorem dX5_element_133 : decode cX5_element 133 = .ok (.iastore, 1) := by decide +kernel
theorem dX5_element_134 : decode cX5_element 134 = .ok (.aload_n 0, 1) := by decide +kernel
theorem dX5_element_135 : decode cX5_element 135 = .ok (.getfield 29, 3) := by decide +kernel
theorem dX5_element_138 : decode cX5_element 138 = .ok (.aload_n 0, 1) := by decide +kernel
theorem dX5_element_139 : decode cX5_element 139 = .ok (.getfield 61, 3) := by decide +kernel
theorem dX5_element_142 : decode cX5_element 142 = .ok (.iconst 0, 1) := by decide +kernel
theorem dX5_element_143 : decode cX5_element 143 = .ok (.iastore, 1) := by decide +kernel
theorem dX5_element_144 : decode cX5_element 144 = .ok (.aload_n 0, 1) := by decide +kernel
theorem dX5_element_145 : decode cX5_element 145 = .ok (.dup, 1) := by decide +kernel
theorem dX5_element_146 : decode cX5_element 146 = .ok (.getfield 61, 3) := by decide +kernel
theorem dX5_element_149 : decode cX5_element 149 = .ok (.iconst 1, 1) := by decide +kernel
theorem dX5_element_150 : decode cX5_element 150 = .ok (.iadd, 1) := by decide +kernel
theorem dX5_element_151 : decode cX5_element 151 = .ok (.putfield 61, 3) := by decide +kernel
theorem dX5_element_154 : decode cX5_element 154 = .ok (.aload_n 0, 1) := by decide +kernel
theorem dX5_element_155 : decode cX5_element 155 = .ok (.getfield 61, 3) := by decide +kernel
theorem dX5_element_158 : decode cX5_element 158 = .ok (.iconst 1, 1) := by decide +kernel
theorem dX5_element_159 : decode cX5_element 159 = .ok (.isub, 1) := by decide +kernel
theorem dX5_element_160 : decode cX5_element 160 = .ok (.ireturn, 1) := by decide +kernel
theorem dX5_alive_0 : decode cX5_alive 0 = .ok (.aload_n 0, 1) := by decide +kernel
theorem dX5_alive_1 : decode cX5_alive 1 = .ok (.aload_n 0, 1) := by decide +kernel
theorem dX5_alive_2 : decode cX5_alive 2 = .ok (.iload_n 1, 1) := by decide +kernel
theorem dX5_alive_3 : decode cX5_alive 3 = .ok (.invokevirtual 81, 3) := by decide +kernel
theorem dX5_alive_6 : decode cX5_alive 6 = .ok (.ifCond .eq 7, 3) := by decide +kernel
theorem dX5_alive_9 : decode cX5_alive 9 = .ok (.iconst 0, 1) := by decide +kernel
theorem dX5_alive_10 : decode cX5_alive 10 = .ok (.goto 4, 3) := by decide +kernel
theorem dX5_alive_13 : decode cX5_alive 13 = .ok (.iconst 1, 1) := by decide +kernel
theorem dX5_alive_14 : decode cX5_alive 14 = .ok (.invokevirtual 74, 3) := by decide +kernel
theorem dX5_alive_17 : decode cX5_alive 17 = .ok (.ifCond .ne 5, 3) := by decide +kernel
theorem dX5_alive_20 : decode cX5_alive 20 = .ok (.iconst 0, 1) := by decide +kernel
theorem dX5_alive_21 : decode cX5_alive 21 = .ok (.ireturn, 1) := by decide +kernel
theorem dX5_alive_22 : decode cX5_alive 22 = .ok (.aload_n 0, 1) := by decide +kernel
theorem dX5_alive_23 : decode cX5_alive 23 = .ok (.getfield 22, 3) := by decide +kernel
theorem dX5_alive_26 : decode cX5_alive 26 = .ok (.iload_n 1, 1) := by decide +kernel
theorem dX5_alive_27 : decode cX5_alive 27 = .ok (.baload, 1) := by decide +kernel
theorem dX5_alive_28 : decode cX5_alive 28 = .ok (.istore_n 3, 1) := by decide +kernel
theorem dX5_alive_29 : decode cX5_alive 29 = .ok (.aload_n 0, 1) := by decide +kernel
theorem dX5_alive_30 : decode cX5_alive 30 = .ok (.getfield 22, 3) := by decide +kernel
theorem dX5_alive_33 : decode cX5_alive 33 = .ok (.iload_n 1, 1) := by decide +kernel
theorem dX5_alive_34 : decode cX5_alive 34 = .ok (.iload_n 2, 1) := by decide +kernel
theorem dX5_alive_35 : decode cX5_alive 35 = .ok (.bastore, 1) := by decide +kernel
theorem dX5_alive_36 : decode cX5_alive 36 = .ok (.iload_n 3, 1) := by decide +kernel
theorem dX5_alive_37 : decode cX5_alive 37 = .ok (.ireturn, 1) := by decide +kernel
theorem dX5_source_0 : decode cX5_source 0 = .ok (.iload_n 2, 1) := by decide +kernel
theorem dX5_source_1 : decode cX5_source 1 = .ok (.iconst 1, 1) := by decide +kernel
theorem dX5_source_2 : decode cX5_source 2 = .ok (.bipush 100, 2) := by decide +kernel
theorem dX5_source_4 : decode cX5_source 4 = .ok (.invokestatic 64, 3) := by decide +kernel
theorem dX5_source_7 : decode cX5_source 7 = .ok (.ifCond .eq 17, 3) := by decide +kernel
theorem dX5_source_10 : decode cX5_source 10 = .ok (.iload_n 3, 1) := by decide +kernel
theorem dX5_source_11 : decode cX5_source 11 = .ok (.iconst 2, 1) := by decide +kernel
theorem dX5_source_12 : decode cX5_source 12 = .ok (.bipush 16, 2) := by decide +kernel
theorem dX5_source_14 : decode cX5_source 14 = .ok (.invokestatic 64, 3) := by decide +kernel
theorem dX5_source_17 : decode cX5_source 17 = .ok (.ifCond .eq 7, 3) := by decide +kernel
theorem dX5_source_20 : decode cX5_source 20 = .ok (.iconst 1, 1) := by decide +kernel
theorem dX5_source_21 : decode cX5_source 21 = .ok (.goto 4, 3) := by decide +kernel
theorem dX5_source_24 : decode cX5_source 24 = .ok (.iconst 0, 1) := by decide +kernel
theorem dX5_source_25 : decode cX5_source 25 = .ok (.istore 4, 2) := by decide +kernel
theorem dX5_source_27 : decode cX5_source 27 = .ok (.aload_n 0, 1) := by decide +kernel
theorem dX5_source_28 : decode cX5_source 28 = .ok (.iload_n 1, 1) := by decide +kernel
theorem dX5_source_29 : decode cX5_source 29 = .ok (.invokestatic 84, 3) := by decide +kernel
theorem dX5_source_32 : decode cX5_source 32 = .ok (.ifCond .ne 7, 3) := by decide +kernel
theorem dX5_source_35 : decode cX5_source 35 = .ok (.iconst 1, 1) := by decide +kernel
theorem dX5_source_36 : decode cX5_source 36 = .ok (.goto 25, 3) := by decide +kernel
theorem dX5_source_39 : decode cX5_source 39 = .ok (.iload 4, 2) := by decide +kernel
theorem dX5_source_41 : decode cX5_source 41 = .ok (.ifCond .ne 7, 3) := by decide +kernel
theorem dX5_source_44 : decode cX5_source 44 = .ok (.iconst 2, 1) := by decide +kernel
theorem dX5_source_45 : decode cX5_source 45 = .ok (.goto 16, 3) := by decide +kernel
theorem dX5_source_48 : decode cX5_source 48 = .ok (.aload_n 0, 1) := by decide +kernel
theorem dX5_source_49 : decode cX5_source 49 = .ok (.getfield 87, 3) := by decide +kernel
theorem dX5_source_52 : decode cX5_source 52 = .ok (.iconst 4, 1) := by decide +kernel
theorem dX5_source_53 : decode cX5_source 53 = .ok (.if_icmp .ne 7, 3) := by decide +kernel
theorem dX5_source_56 : decode cX5_source 56 = .ok (.iconst 3, 1) := by decide +kernel
theorem dX5_source_57 : decode cX5_source 57 = .ok (.goto 4, 3) := by decide +kernel
theorem dX5_source_60 : decode cX5_source 60 = .ok (.iconst 0, 1) := by decide +kernel
theorem dX5_source_61 : decode cX5_source 61 = .ok (.invokevirtual 74, 3) := by decide +kernel
theorem dX5_source_64 : decode cX5_source 64 = .ok (.ifCond .ne 5, 3) := by decide +kernel
theorem dX5_source_67 : decode cX5_source 67 = .ok (.iconst 0, 1) := by decide +kernel
theorem dX5_source_68 : decode cX5_source 68 = .ok (.ireturn, 1) := by decide +kernel
theorem dX5_source_69 : decode cX5_source 69 = .ok (.aload_n 0, 1) := by decide +kernel
theorem dX5_source_70 : decode cX5_source 70 = .ok (.getfield 32, 3) := by decide +kernel
theorem dX5_source_73 : decode cX5_source 73 = .ok (.aload_n 0, 1) := by decide +kernel
theorem dX5_source_74 : decode cX5_source 74 = .ok (.getfield 87, 3) := by decide +kernel
theorem dX5_source_77 : decode cX5_source 77 = .ok (.iload_n 1, 1) := by decide +kernel
theorem dX5_source_78 : decode cX5_source 78 = .ok (.iastore, 1) := by decide +kernel
theorem dX5_source_79 : decode cX5_source 79 = .ok (.aload_n 0, 1) := by decide +kernel
theorem dX5_source_80 : decode cX5_source 80 = .ok (.getfield 35, 3) := by decide +kernel
theorem dX5_source_83 : decode cX5_source 83 = .ok (.aload_n 0, 1) := by decide +kernel
theorem dX5_source_84 : decode cX5_source 84 = .ok (.getfield 87, 3) := by decide +kernel
theorem dX5_source_87 : decode cX5_source 87 = .ok (.iload_n 2, 1) := by decide +kernel
theorem dX5_source_88 : decode cX5_source 88 = .ok (.iastore, 1) := by decide +kernel
theorem dX5_source_89 : decode cX5_source 89 = .ok (.aload_n 0, 1) := by decide +kernel
theorem dX5_source_90 : decode cX5_source 90 = .ok (.getfield 38, 3) := by decide +kernel
theorem dX5_source_93 : decode cX5_source 93 = .ok (.aload_n 0, 1) := by decide +kernel
theorem dX5_source_94 : decode cX5_source 94 = .ok (.getfield 87, 3) := by decide +kernel
theorem dX5_source_97 : decode cX5_source 97 = .ok (.iload_n 3, 1) := by decide +kernel
theorem dX5_source_98 : decode cX5_source 98 = .ok (.iastore, 1) := by decide +kernel
theorem dX5_source_99 : decode cX5_source 99 = .ok (.aload_n 0, 1) := by decide +kernel
theorem dX5_source_100 : decode cX5_source 100 = .ok (.dup, 1) := by decide +kernel
theorem dX5_source_101 : decode cX5_source 101 = .ok (.getfield 87, 3) := by decide +kernel
theorem dX5_source_104 : decode cX5_source 104 = .ok (.iconst 1, 1) := by decide +kernel
theorem dX5_source_105 : decode cX5_source 105 = .ok (.iadd, 1) := by decide +kernel
theorem dX5_source_106 : decode cX5_source 106 = .ok (.putfield 87, 3) := by decide +kernel
theorem dX5_source_109 : decode cX5_source 109 = .ok (.aload_n 0, 1) := by decide +kernel
theorem dX5_source_110 : decode cX5_source 110 = .ok (.getfield 87, 3) := by decide +kernel
theorem dX5_source_113 : decode cX5_source 113 = .ok (.iconst 1, 1) := by decide +kernel
theorem dX5_source_114 : decode cX5_source 114 = .ok (.isub, 1) := by decide +kernel
theorem dX5_source_115 : decode cX5_source 115 = .ok (.ireturn, 1) := by decide +kernel
theorem dX5_silence_0 : decode cX5_silence 0 = .ok (.aload_n 0, 1) := by decide +kernel
theorem dX5_silence_1 : decode cX5_silence 1 = .ok (.iconst 0, 1) := by decide +kernel
theorem dX5_silence_2 : decode cX5_silence 2 = .ok (.putfield 58, 3) := by decide +kernel
theorem dX5_silence_5 : decode cX5_silence 5 = .ok (.aload_n 0, 1) := by decide +kernel
theorem dX5_silence_6 : decode cX5_silence 6 = .ok (.getfield 87, 3) := by decide +kernel
theorem dX5_silence_9 : decode cX5_silence 9 = .ok (.istore_n 1, 1) := by decide +kernel
theorem dX5_silence_10 : decode cX5_silence 10 = .ok (.aload_n 0, 1) := by decide +kernel
theorem dX5_silence_11 : decode cX5_silence 11 = .ok (.iconst 0, 1) := by decide +kernel
theorem dX5_silence_12 : decode cX5_silence 12 = .ok (.putfield 87, 3) := by decide +kernel
theorem dX5_silence_15 : decode cX5_silence 15 = .ok (.iload_n 1, 1) := by decide +kernel
theorem dX5_silence_16 : decode cX5_silence 16 = .ok (.ireturn, 1) := by decide +kernel
theorem dX5_noise_0 : decode cX5_noise 0 = .ok (.aload_n 0, 1) := by decide +kernel
theorem dX5_noise_1 : decode cX5_noise 1 = .ok (.iload_n 1, 1) := by decide +kernel
theorem dX5_noise_2 : decode cX5_noise 2 = .ok (.iconst 0, 1) := by decide +kernel
theorem dX5_noise_3 : decode cX5_noise 3 = .ok (.bipush 50, 2) := by decide +kernel
theorem dX5_noise_5 : decode cX5_noise 5 = .ok (.invokestatic 64, 3) := by decide +kernel
theorem dX5_noise_8 : decode cX5_noise 8 = .ok (.ifCond .eq 17, 3) := by decide +kernel
theorem dX5_noise_11 : decode cX5_noise 11 = .ok (.iload_n 2, 1) := by decide +kernel
theorem dX5_noise_12 : decode cX5_noise 12 = .ok (.iconst 1, 1) := by decide +kernel
theorem dX5_noise_13 : decode cX5_noise 13 = .ok (.ldc 90, 2) := by decide +kernel
theorem dX5_noise_15 : decode cX5_noise 15 = .ok (.invokestatic 64, 3) := by decide +kernel
theorem dX5_noise_18 : decode cX5_noise 18 = .ok (.ifCond .eq 7, 3) := by decide +kernel
theorem dX5_noise_21 : decode cX5_noise 21 = .ok (.iconst 0, 1) := by decide +kernel
theorem dX5_noise_22 : decode cX5_noise 22 = .ok (.goto 4, 3) := by decide +kernel
theorem dX5_noise_25 : decode cX5_noise 25 = .ok (.iconst 1, 1) := by decide +kernel
theorem dX5_noise_26 : decode cX5_noise 26 = .ok (.invokevirtual 74, 3) := by decide +kernel
theorem dX5_noise_29 : decode cX5_noise 29 = .ok (.ifCond .ne 5, 3) := by decide +kernel
theorem dX5_noise_32 : decode cX5_noise 32 = .ok (.iconst 0, 1) := by decide +kernel
theorem dX5_noise_33 : decode cX5_noise 33 = .ok (.ireturn, 1) := by decide +kernel
theorem dX5_noise_34 : decode cX5_noise 34 = .ok (.aload_n 0, 1) := by decide +kernel
theorem dX5_noise_35 : decode cX5_noise 35 = .ok (.getfield 91, 3) := by decide +kernel
theorem dX5_noise_38 : decode cX5_noise 38 = .ok (.istore_n 3, 1) := by decide +kernel
theorem dX5_noise_39 : decode cX5_noise 39 = .ok (.aload_n 0, 1) := by decide +kernel
theorem dX5_noise_40 : decode cX5_noise 40 = .ok (.iload_n 1, 1) := by decide +kernel
theorem dX5_noise_41 : decode cX5_noise 41 = .ok (.putfield 91, 3) := by decide +kernel
theorem dX5_noise_44 : decode cX5_noise 44 = .ok (.aload_n 0, 1) := by decide +kernel
theorem dX5_noise_45 : decode cX5_noise 45 = .ok (.iload_n 2, 1) := by decide +kernel
theorem dX5_noise_46 : decode cX5_noise 46 = .ok (.putfield 54, 3) := by decide +kernel
theorem dX5_noise_49 : decode cX5_noise 49 = .ok (.iload_n 3, 1) := by decide +kernel
theorem dX5_noise_50 : decode cX5_noise 50 = .ok (.ireturn, 1) := by decide +kernel
theorem dX5_wave_0 : decode cX5_wave 0 = .ok (.iload_n 2, 1) := by decide +kernel
theorem dX5_wave_1 : decode cX5_wave 1 = .ok (.aload_n 0, 1) := by decide +kernel
theorem dX5_wave_2 : decode cX5_wave 2 = .ok (.getfield 38, 3) := by decide +kernel
theorem dX5_wave_5 : decode cX5_wave 5 = .ok (.iload_n 1, 1) := by decide +kernel
theorem dX5_wave_6 : decode cX5_wave 6 = .ok (.iaload, 1) := by decide +kernel
end
section
theorem dX5_wave_7 : decode cX5_wave 7 = .ok (.irem, 1) := by decide +kernel
theorem dX5_wave_8 : decode cX5_wave 8 = .ok (.istore_n 3, 1) := by decide +kernel
theorem dX5_wave_9 : decode cX5_wave 9 = .ok (.iload_n 3, 1) := by decide +kernel
theorem dX5_wave_10 : decode cX5_wave 10 = .ok (.iload_n 3, 1) := by decide +kernel
theorem dX5_wave_11 : decode cX5_wave 11 = .ok (.ifCond .ge 12, 3) := by decide +kernel
theorem dX5_wave_14 : decode cX5_wave 14 = .ok (.aload_n 0, 1) := by decide +kernel
theorem dX5_wave_15 : decode cX5_wave 15 = .ok (.getfield 38, 3) := by decide +kernel
theorem dX5_wave_18 : decode cX5_wave 18 = .ok (.iload_n 1, 1) := by decide +kernel
theorem dX5_wave_19 : decode cX5_wave 19 = .ok (.iaload, 1) := by decide +kernel
theorem dX5_wave_20 : decode cX5_wave 20 = .ok (.goto 4, 3) := by decide +kernel
theorem dX5_wave_23 : decode cX5_wave 23 = .ok (.iconst 0, 1) := by decide +kernel
theorem dX5_wave_24 : decode cX5_wave 24 = .ok (.iadd, 1) := by decide +kernel
theorem dX5_wave_25 : decode cX5_wave 25 = .ok (.istore_n 3, 1) := by decide +kernel
theorem dX5_wave_26 : decode cX5_wave 26 = .ok (.iload_n 3, 1) := by decide +kernel
theorem dX5_wave_27 : decode cX5_wave 27 = .ok (.aload_n 0, 1) := by decide +kernel
theorem dX5_wave_28 : decode cX5_wave 28 = .ok (.getfield 38, 3) := by decide +kernel
theorem dX5_wave_31 : decode cX5_wave 31 = .ok (.iload_n 1, 1) := by decide +kernel
theorem dX5_wave_32 : decode cX5_wave 32 = .ok (.iaload, 1) := by decide +kernel
theorem dX5_wave_33 : decode cX5_wave 33 = .ok (.iconst 2, 1) := by decide +kernel
theorem dX5_wave_34 : decode cX5_wave 34 = .ok (.idiv, 1) := by decide +kernel
theorem dX5_wave_35 : decode cX5_wave 35 = .ok (.if_icmp .ge 12, 3) := by decide +kernel
theorem dX5_wave_38 : decode cX5_wave 38 = .ok (.aload_n 0, 1) := by decide +kernel
theorem dX5_wave_39 : decode cX5_wave 39 = .ok (.getfield 35, 3) := by decide +kernel
theorem dX5_wave_42 : decode cX5_wave 42 = .ok (.iload_n 1, 1) := by decide +kernel
theorem dX5_wave_43 : decode cX5_wave 43 = .ok (.iaload, 1) := by decide +kernel
theorem dX5_wave_44 : decode cX5_wave 44 = .ok (.goto 10, 3) := by decide +kernel
theorem dX5_wave_47 : decode cX5_wave 47 = .ok (.aload_n 0, 1) := by decide +kernel
theorem dX5_wave_48 : decode cX5_wave 48 = .ok (.getfield 35, 3) := by decide +kernel
theorem dX5_wave_51 : decode cX5_wave 51 = .ok (.iload_n 1, 1) := by decide +kernel
theorem dX5_wave_52 : decode cX5_wave 52 = .ok (.iaload, 1) := by decide +kernel
theorem dX5_wave_53 : decode cX5_wave 53 = .ok (.ineg, 1) := by decide +kernel
theorem dX5_wave_54 : decode cX5_wave 54 = .ok (.ireturn, 1) := by decide +kernel
theorem dX5_hears_0 : decode cX5_hears 0 = .ok (.iconst 0, 1) := by decide +kernel
theorem dX5_hears_1 : decode cX5_hears 1 = .ok (.istore_n 2, 1) := by decide +kernel
theorem dX5_hears_2 : decode cX5_hears 2 = .ok (.iconst 0, 1) := by decide +kernel
theorem dX5_hears_3 : decode cX5_hears 3 = .ok (.istore_n 3, 1) := by decide +kernel
theorem dX5_hears_4 : decode cX5_hears 4 = .ok (.iload_n 3, 1) := by decide +kernel
theorem dX5_hears_5 : decode cX5_hears 5 = .ok (.aload_n 0, 1) := by decide +kernel
theorem dX5_hears_6 : decode cX5_hears 6 = .ok (.getfield 87, 3) := by decide +kernel
theorem dX5_hears_9 : decode cX5_hears 9 = .ok (.if_icmp .ge 40, 3) := by decide +kernel
theorem dX5_hears_12 : decode cX5_hears 12 = .ok (.iload_n 2, 1) := by decide +kernel
theorem dX5_hears_13 : decode cX5_hears 13 = .ok (.aload_n 0, 1) := by decide +kernel
theorem dX5_hears_14 : decode cX5_hears 14 = .ok (.iload_n 3, 1) := by decide +kernel
theorem dX5_hears_15 : decode cX5_hears 15 = .ok (.aload_n 0, 1) := by decide +kernel
theorem dX5_hears_16 : decode cX5_hears 16 = .ok (.getfield 78, 3) := by decide +kernel
theorem dX5_hears_19 : decode cX5_hears 19 = .ok (.aload_n 0, 1) := by decide +kernel
theorem dX5_hears_20 : decode cX5_hears 20 = .ok (.iload_n 1, 1) := by decide +kernel
theorem dX5_hears_21 : decode cX5_hears 21 = .ok (.aload_n 0, 1) := by decide +kernel
theorem dX5_hears_22 : decode cX5_hears 22 = .ok (.getfield 32, 3) := by decide +kernel
theorem dX5_hears_25 : decode cX5_hears 25 = .ok (.iload_n 3, 1) := by decide +kernel
theorem dX5_hears_26 : decode cX5_hears 26 = .ok (.iaload, 1) := by decide +kernel
theorem dX5_hears_27 : decode cX5_hears 27 = .ok (.invokevirtual 94, 3) := by decide +kernel
theorem dX5_hears_30 : decode cX5_hears 30 = .ok (.isub, 1) := by decide +kernel
theorem dX5_hears_31 : decode cX5_hears 31 = .ok (.aload_n 0, 1) := by decide +kernel
theorem dX5_hears_32 : decode cX5_hears 32 = .ok (.getfield 16, 3) := by decide +kernel
theorem dX5_hears_35 : decode cX5_hears 35 = .ok (.iload_n 1, 1) := by decide +kernel
theorem dX5_hears_36 : decode cX5_hears 36 = .ok (.iaload, 1) := by decide +kernel
theorem dX5_hears_37 : decode cX5_hears 37 = .ok (.isub, 1) := by decide +kernel
theorem dX5_hears_38 : decode cX5_hears 38 = .ok (.invokevirtual 98, 3) := by decide +kernel
theorem dX5_hears_41 : decode cX5_hears 41 = .ok (.iadd, 1) := by decide +kernel
theorem dX5_hears_42 : decode cX5_hears 42 = .ok (.istore_n 2, 1) := by decide +kernel
theorem dX5_hears_43 : decode cX5_hears 43 = .ok (.iinc 3 1, 3) := by decide +kernel
theorem dX5_hears_46 : decode cX5_hears 46 = .ok (.goto (-42), 3) := by decide +kernel
theorem dX5_hears_49 : decode cX5_hears 49 = .ok (.aload_n 0, 1) := by decide +kernel
theorem dX5_hears_50 : decode cX5_hears 50 = .ok (.bipush 75, 2) := by decide +kernel
theorem dX5_hears_52 : decode cX5_hears 52 = .ok (.aload_n 0, 1) := by decide +kernel
theorem dX5_hears_53 : decode cX5_hears 53 = .ok (.getfield 54, 3) := by decide +kernel
theorem dX5_hears_56 : decode cX5_hears 56 = .ok (.imul, 1) := by decide +kernel
theorem dX5_hears_57 : decode cX5_hears 57 = .ok (.bipush 74, 2) := by decide +kernel
theorem dX5_hears_59 : decode cX5_hears 59 = .ok (.iadd, 1) := by decide +kernel
theorem dX5_hears_60 : decode cX5_hears 60 = .ok (.ldc 101, 2) := by decide +kernel
theorem dX5_hears_62 : decode cX5_hears 62 = .ok (.irem, 1) := by decide +kernel
theorem dX5_hears_63 : decode cX5_hears 63 = .ok (.putfield 54, 3) := by decide +kernel
theorem dX5_hears_66 : decode cX5_hears 66 = .ok (.aload_n 0, 1) := by decide +kernel
theorem dX5_hears_67 : decode cX5_hears 67 = .ok (.getfield 54, 3) := by decide +kernel
theorem dX5_hears_70 : decode cX5_hears 70 = .ok (.iconst 2, 1) := by decide +kernel
theorem dX5_hears_71 : decode cX5_hears 71 = .ok (.aload_n 0, 1) := by decide +kernel
theorem dX5_hears_72 : decode cX5_hears 72 = .ok (.getfield 91, 3) := by decide +kernel
theorem dX5_hears_75 : decode cX5_hears 75 = .ok (.imul, 1) := by decide +kernel
theorem dX5_hears_76 : decode cX5_hears 76 = .ok (.iconst 1, 1) := by decide +kernel
theorem dX5_hears_77 : decode cX5_hears 77 = .ok (.iadd, 1) := by decide +kernel
theorem dX5_hears_78 : decode cX5_hears 78 = .ok (.irem, 1) := by decide +kernel
theorem dX5_hears_79 : decode cX5_hears 79 = .ok (.aload_n 0, 1) := by decide +kernel
theorem dX5_hears_80 : decode cX5_hears 80 = .ok (.getfield 91, 3) := by decide +kernel
theorem dX5_hears_83 : decode cX5_hears 83 = .ok (.isub, 1) := by decide +kernel
theorem dX5_hears_84 : decode cX5_hears 84 = .ok (.istore_n 3, 1) := by decide +kernel
theorem dX5_hears_85 : decode cX5_hears 85 = .ok (.iload_n 2, 1) := by decide +kernel
theorem dX5_hears_86 : decode cX5_hears 86 = .ok (.i2l, 1) := by decide +kernel
theorem dX5_hears_87 : decode cX5_hears 87 = .ok (.aload_n 0, 1) := by decide +kernel
theorem dX5_hears_88 : decode cX5_hears 88 = .ok (.getfield 13, 3) := by decide +kernel
theorem dX5_hears_91 : decode cX5_hears 91 = .ok (.iload_n 1, 1) := by decide +kernel
theorem dX5_hears_92 : decode cX5_hears 92 = .ok (.iaload, 1) := by decide +kernel
theorem dX5_hears_93 : decode cX5_hears 93 = .ok (.i2l, 1) := by decide +kernel
theorem dX5_hears_94 : decode cX5_hears 94 = .ok (.lmul, 1) := by decide +kernel
theorem dX5_hears_95 : decode cX5_hears 95 = .ok (.ldc2_w 102, 3) := by decide +kernel
theorem dX5_hears_98 : decode cX5_hears 98 = .ok (.invokestatic 70, 3) := by decide +kernel
theorem dX5_hears_101 : decode cX5_hears 101 = .ok (.l2i, 1) := by decide +kernel
theorem dX5_hears_102 : decode cX5_hears 102 = .ok (.iload_n 3, 1) := by decide +kernel
theorem dX5_hears_103 : decode cX5_hears 103 = .ok (.iadd, 1) := by decide +kernel
theorem dX5_hears_104 : decode cX5_hears 104 = .ok (.istore 4, 2) := by decide +kernel
theorem dX5_hears_106 : decode cX5_hears 106 = .ok (.aload_n 0, 1) := by decide +kernel
theorem dX5_hears_107 : decode cX5_hears 107 = .ok (.getfield 41, 3) := by decide +kernel
theorem dX5_hears_110 : decode cX5_hears 110 = .ok (.bipush 64, 2) := by decide +kernel
theorem dX5_hears_112 : decode cX5_hears 112 = .ok (.iload_n 1, 1) := by decide +kernel
theorem dX5_hears_113 : decode cX5_hears 113 = .ok (.imul, 1) := by decide +kernel
theorem dX5_hears_114 : decode cX5_hears 114 = .ok (.aload_n 0, 1) := by decide +kernel
theorem dX5_hears_115 : decode cX5_hears 115 = .ok (.getfield 78, 3) := by decide +kernel
theorem dX5_hears_118 : decode cX5_hears 118 = .ok (.bipush 64, 2) := by decide +kernel
theorem dX5_hears_120 : decode cX5_hears 120 = .ok (.irem, 1) := by decide +kernel
theorem dX5_hears_121 : decode cX5_hears 121 = .ok (.iadd, 1) := by decide +kernel
theorem dX5_hears_122 : decode cX5_hears 122 = .ok (.aload_n 0, 1) := by decide +kernel
theorem dX5_hears_123 : decode cX5_hears 123 = .ok (.getfield 22, 3) := by decide +kernel
theorem dX5_hears_126 : decode cX5_hears 126 = .ok (.iload_n 1, 1) := by decide +kernel
theorem dX5_hears_127 : decode cX5_hears 127 = .ok (.baload, 1) := by decide +kernel
theorem dX5_hears_128 : decode cX5_hears 128 = .ok (.ifCond .eq 8, 3) := by decide +kernel
theorem dX5_hears_131 : decode cX5_hears 131 = .ok (.iload 4, 2) := by decide +kernel
theorem dX5_hears_133 : decode cX5_hears 133 = .ok (.goto 4, 3) := by decide +kernel
theorem dX5_hears_136 : decode cX5_hears 136 = .ok (.iconst 0, 1) := by decide +kernel
theorem dX5_hears_137 : decode cX5_hears 137 = .ok (.iastore, 1) := by decide +kernel
theorem dX5_hears_138 : decode cX5_hears 138 = .ok (.return_, 1) := by decide +kernel
theorem dX5_hear_0 : decode cX5_hear 0 = .ok (.aload_n 0, 1) := by decide +kernel
theorem dX5_hear_1 : decode cX5_hear 1 = .ok (.iload_n 1, 1) := by decide +kernel
theorem dX5_hear_2 : decode cX5_hear 2 = .ok (.iconst 1, 1) := by decide +kernel
theorem dX5_hear_3 : decode cX5_hear 3 = .ok (.bipush 100, 2) := by decide +kernel
theorem dX5_hear_5 : decode cX5_hear 5 = .ok (.invokestatic 64, 3) := by decide +kernel
theorem dX5_hear_8 : decode cX5_hear 8 = .ok (.ifCond .eq 7, 3) := by decide +kernel
theorem dX5_hear_11 : decode cX5_hear 11 = .ok (.iconst 0, 1) := by decide +kernel
theorem dX5_hear_12 : decode cX5_hear 12 = .ok (.goto 4, 3) := by decide +kernel
theorem dX5_hear_15 : decode cX5_hear 15 = .ok (.iconst 1, 1) := by decide +kernel
theorem dX5_hear_16 : decode cX5_hear 16 = .ok (.invokevirtual 74, 3) := by decide +kernel
theorem dX5_hear_19 : decode cX5_hear 19 = .ok (.ifCond .ne 5, 3) := by decide +kernel
theorem dX5_hear_22 : decode cX5_hear 22 = .ok (.iconst 0, 1) := by decide +kernel
theorem dX5_hear_23 : decode cX5_hear 23 = .ok (.ireturn, 1) := by decide +kernel
theorem dX5_hear_24 : decode cX5_hear 24 = .ok (.iconst 0, 1) := by decide +kernel
theorem dX5_hear_25 : decode cX5_hear 25 = .ok (.istore_n 2, 1) := by decide +kernel
theorem dX5_hear_26 : decode cX5_hear 26 = .ok (.iload_n 2, 1) := by decide +kernel
theorem dX5_hear_27 : decode cX5_hear 27 = .ok (.iload_n 1, 1) := by decide +kernel
theorem dX5_hear_28 : decode cX5_hear 28 = .ok (.if_icmp .ge 40, 3) := by decide +kernel
theorem dX5_hear_31 : decode cX5_hear 31 = .ok (.iconst 0, 1) := by decide +kernel
theorem dX5_hear_32 : decode cX5_hear 32 = .ok (.istore_n 3, 1) := by decide +kernel
theorem dX5_hear_33 : decode cX5_hear 33 = .ok (.iload_n 3, 1) := by decide +kernel
theorem dX5_hear_34 : decode cX5_hear 34 = .ok (.aload_n 0, 1) := by decide +kernel
theorem dX5_hear_35 : decode cX5_hear 35 = .ok (.getfield 61, 3) := by decide +kernel
theorem dX5_hear_38 : decode cX5_hear 38 = .ok (.if_icmp .ge 14, 3) := by decide +kernel
theorem dX5_hear_41 : decode cX5_hear 41 = .ok (.aload_n 0, 1) := by decide +kernel
theorem dX5_hear_42 : decode cX5_hear 42 = .ok (.iload_n 3, 1) := by decide +kernel
theorem dX5_hear_43 : decode cX5_hear 43 = .ok (.invokevirtual 104, 3) := by decide +kernel
theorem dX5_hear_46 : decode cX5_hear 46 = .ok (.iinc 3 1, 3) := by decide +kernel
theorem dX5_hear_49 : decode cX5_hear 49 = .ok (.goto (-16), 3) := by decide +kernel
theorem dX5_hear_52 : decode cX5_hear 52 = .ok (.aload_n 0, 1) := by decide +kernel
theorem dX5_hear_53 : decode cX5_hear 53 = .ok (.dup, 1) := by decide +kernel
theorem dX5_hear_54 : decode cX5_hear 54 = .ok (.getfield 78, 3) := by decide +kernel
theorem dX5_hear_57 : decode cX5_hear 57 = .ok (.iconst 1, 1) := by decide +kernel
theorem dX5_hear_58 : decode cX5_hear 58 = .ok (.iadd, 1) := by decide +kernel
theorem dX5_hear_59 : decode cX5_hear 59 = .ok (.putfield 78, 3) := by decide +kernel
theorem dX5_hear_62 : decode cX5_hear 62 = .ok (.iinc 2 1, 3) := by decide +kernel
theorem dX5_hear_65 : decode cX5_hear 65 = .ok (.goto (-39), 3) := by decide +kernel
theorem dX5_hear_68 : decode cX5_hear 68 = .ok (.aload_n 0, 1) := by decide +kernel
theorem dX5_hear_69 : decode cX5_hear 69 = .ok (.getfield 78, 3) := by decide +kernel
theorem dX5_hear_72 : decode cX5_hear 72 = .ok (.ireturn, 1) := by decide +kernel
theorem dX5_window_0 : decode cX5_window 0 = .ok (.aload_n 0, 1) := by decide +kernel
theorem dX5_window_1 : decode cX5_window 1 = .ok (.iload_n 1, 1) := by decide +kernel
theorem dX5_window_2 : decode cX5_window 2 = .ok (.iconst 0, 1) := by decide +kernel
theorem dX5_window_3 : decode cX5_window 3 = .ok (.iconst 2, 1) := by decide +kernel
theorem dX5_window_4 : decode cX5_window 4 = .ok (.invokestatic 64, 3) := by decide +kernel
theorem dX5_window_7 : decode cX5_window 7 = .ok (.ifCond .eq 7, 3) := by decide +kernel
theorem dX5_window_10 : decode cX5_window 10 = .ok (.iconst 0, 1) := by decide +kernel
theorem dX5_window_11 : decode cX5_window 11 = .ok (.goto 4, 3) := by decide +kernel
theorem dX5_window_14 : decode cX5_window 14 = .ok (.iconst 1, 1) := by decide +kernel
theorem dX5_window_15 : decode cX5_window 15 = .ok (.invokevirtual 74, 3) := by decide +kernel
theorem dX5_window_18 : decode cX5_window 18 = .ok (.ifCond .ne 5, 3) := by decide +kernel
theorem dX5_window_21 : decode cX5_window 21 = .ok (.iconst 0, 1) := by decide +kernel
theorem dX5_window_22 : decode cX5_window 22 = .ok (.ireturn, 1) := by decide +kernel
theorem dX5_window_23 : decode cX5_window 23 = .ok (.aload_n 0, 1) := by decide +kernel
theorem dX5_window_24 : decode cX5_window 24 = .ok (.getfield 108, 3) := by decide +kernel
theorem dX5_window_27 : decode cX5_window 27 = .ok (.istore_n 2, 1) := by decide +kernel
theorem dX5_window_28 : decode cX5_window 28 = .ok (.aload_n 0, 1) := by decide +kernel
theorem dX5_window_29 : decode cX5_window 29 = .ok (.iload_n 1, 1) := by decide +kernel
theorem dX5_window_30 : decode cX5_window 30 = .ok (.putfield 108, 3) := by decide +kernel
theorem dX5_window_33 : decode cX5_window 33 = .ok (.iload_n 2, 1) := by decide +kernel
theorem dX5_window_34 : decode cX5_window 34 = .ok (.ireturn, 1) := by decide +kernel
theorem dX5_isKept_0 : decode cX5_isKept 0 = .ok (.iload_n 2, 1) := by decide +kernel
theorem dX5_isKept_1 : decode cX5_isKept 1 = .ok (.aload_n 0, 1) := by decide +kernel
theorem dX5_isKept_2 : decode cX5_isKept 2 = .ok (.getfield 19, 3) := by decide +kernel
theorem dX5_isKept_5 : decode cX5_isKept 5 = .ok (.iload_n 1, 1) := by decide +kernel
theorem dX5_isKept_6 : decode cX5_isKept 6 = .ok (.iaload, 1) := by decide +kernel
theorem dX5_isKept_7 : decode cX5_isKept 7 = .ok (.if_icmp .lt 31, 3) := by decide +kernel
theorem dX5_isKept_10 : decode cX5_isKept 10 = .ok (.iload_n 2, 1) := by decide +kernel
theorem dX5_isKept_11 : decode cX5_isKept 11 = .ok (.aload_n 0, 1) := by decide +kernel
theorem dX5_isKept_12 : decode cX5_isKept 12 = .ok (.getfield 78, 3) := by decide +kernel
theorem dX5_isKept_15 : decode cX5_isKept 15 = .ok (.bipush 64, 2) := by decide +kernel
theorem dX5_isKept_17 : decode cX5_isKept 17 = .ok (.isub, 1) := by decide +kernel
theorem dX5_isKept_18 : decode cX5_isKept 18 = .ok (.aload_n 0, 1) := by decide +kernel
theorem dX5_isKept_19 : decode cX5_isKept 19 = .ok (.getfield 78, 3) := by decide +kernel
theorem dX5_isKept_22 : decode cX5_isKept 22 = .ok (.iconst 1, 1) := by decide +kernel
theorem dX5_isKept_23 : decode cX5_isKept 23 = .ok (.isub, 1) := by decide +kernel
theorem dX5_isKept_24 : decode cX5_isKept 24 = .ok (.invokestatic 64, 3) := by decide +kernel
theorem dX5_isKept_27 : decode cX5_isKept 27 = .ok (.ifCond .eq 11, 3) := by decide +kernel
theorem dX5_isKept_30 : decode cX5_isKept 30 = .ok (.iload_n 2, 1) := by decide +kernel
theorem dX5_isKept_31 : decode cX5_isKept 31 = .ok (.ifCond .lt 7, 3) := by decide +kernel
theorem dX5_isKept_34 : decode cX5_isKept 34 = .ok (.iconst 1, 1) := by decide +kernel
theorem dX5_isKept_35 : decode cX5_isKept 35 = .ok (.goto 4, 3) := by decide +kernel
theorem dX5_isKept_38 : decode cX5_isKept 38 = .ok (.iconst 0, 1) := by decide +kernel
theorem dX5_isKept_39 : decode cX5_isKept 39 = .ok (.ireturn, 1) := by decide +kernel
theorem dX5_kept_0 : decode cX5_kept 0 = .ok (.aload_n 0, 1) := by decide +kernel
theorem dX5_kept_1 : decode cX5_kept 1 = .ok (.iload_n 2, 1) := by decide +kernel
theorem dX5_kept_2 : decode cX5_kept 2 = .ok (.iload_n 3, 1) := by decide +kernel
theorem dX5_kept_3 : decode cX5_kept 3 = .ok (.invokevirtual 111, 3) := by decide +kernel
theorem dX5_kept_6 : decode cX5_kept 6 = .ok (.ifCond .eq 17, 3) := by decide +kernel
theorem dX5_kept_9 : decode cX5_kept 9 = .ok (.aload_n 1, 1) := by decide +kernel
theorem dX5_kept_10 : decode cX5_kept 10 = .ok (.bipush 64, 2) := by decide +kernel
theorem dX5_kept_12 : decode cX5_kept 12 = .ok (.iload_n 2, 1) := by decide +kernel
theorem dX5_kept_13 : decode cX5_kept 13 = .ok (.imul, 1) := by decide +kernel
theorem dX5_kept_14 : decode cX5_kept 14 = .ok (.iload_n 3, 1) := by decide +kernel
theorem dX5_kept_15 : decode cX5_kept 15 = .ok (.bipush 64, 2) := by decide +kernel
theorem dX5_kept_17 : decode cX5_kept 17 = .ok (.irem, 1) := by decide +kernel
theorem dX5_kept_18 : decode cX5_kept 18 = .ok (.iadd, 1) := by decide +kernel
theorem dX5_kept_19 : decode cX5_kept 19 = .ok (.iaload, 1) := by decide +kernel
theorem dX5_kept_20 : decode cX5_kept 20 = .ok (.goto 4, 3) := by decide +kernel
theorem dX5_kept_23 : decode cX5_kept 23 = .ok (.iconst 0, 1) := by decide +kernel
theorem dX5_kept_24 : decode cX5_kept 24 = .ok (.ireturn, 1) := by decide +kernel
theorem dX5_weight_0 : decode cX5_weight 0 = .ok (.iconst 0, 1) := by decide +kernel
theorem dX5_weight_1 : decode cX5_weight 1 = .ok (.istore_n 2, 1) := by decide +kernel
theorem dX5_weight_2 : decode cX5_weight 2 = .ok (.iconst 0, 1) := by decide +kernel
theorem dX5_weight_3 : decode cX5_weight 3 = .ok (.istore_n 3, 1) := by decide +kernel
theorem dX5_weight_4 : decode cX5_weight 4 = .ok (.iconst 0, 1) := by decide +kernel
theorem dX5_weight_5 : decode cX5_weight 5 = .ok (.istore 4, 2) := by decide +kernel
theorem dX5_weight_7 : decode cX5_weight 7 = .ok (.iload 4, 2) := by decide +kernel
theorem dX5_weight_9 : decode cX5_weight 9 = .ok (.aload_n 0, 1) := by decide +kernel
theorem dX5_weight_10 : decode cX5_weight 10 = .ok (.getfield 61, 3) := by decide +kernel
theorem dX5_weight_13 : decode cX5_weight 13 = .ok (.if_icmp .ge 57, 3) := by decide +kernel
theorem dX5_weight_16 : decode cX5_weight 16 = .ok (.iload_n 2, 1) := by decide +kernel
theorem dX5_weight_17 : decode cX5_weight 17 = .ok (.aload_n 0, 1) := by decide +kernel
theorem dX5_weight_18 : decode cX5_weight 18 = .ok (.getfield 22, 3) := by decide +kernel
theorem dX5_weight_21 : decode cX5_weight 21 = .ok (.iload 4, 2) := by decide +kernel
theorem dX5_weight_23 : decode cX5_weight 23 = .ok (.baload, 1) := by decide +kernel
theorem dX5_weight_24 : decode cX5_weight 24 = .ok (.ifCond .eq 13, 3) := by decide +kernel
theorem dX5_weight_27 : decode cX5_weight 27 = .ok (.iload 4, 2) := by decide +kernel
theorem dX5_weight_29 : decode cX5_weight 29 = .ok (.iload_n 1, 1) := by decide +kernel
theorem dX5_weight_30 : decode cX5_weight 30 = .ok (.if_icmp .ge 7, 3) := by decide +kernel
theorem dX5_weight_33 : decode cX5_weight 33 = .ok (.iconst 1, 1) := by decide +kernel
theorem dX5_weight_34 : decode cX5_weight 34 = .ok (.goto 4, 3) := by decide +kernel
theorem dX5_weight_37 : decode cX5_weight 37 = .ok (.iconst 0, 1) := by decide +kernel
theorem dX5_weight_38 : decode cX5_weight 38 = .ok (.iadd, 1) := by decide +kernel
theorem dX5_weight_39 : decode cX5_weight 39 = .ok (.istore_n 2, 1) := by decide +kernel
theorem dX5_weight_40 : decode cX5_weight 40 = .ok (.iload_n 3, 1) := by decide +kernel
theorem dX5_weight_41 : decode cX5_weight 41 = .ok (.aload_n 0, 1) := by decide +kernel
theorem dX5_weight_42 : decode cX5_weight 42 = .ok (.getfield 22, 3) := by decide +kernel
theorem dX5_weight_45 : decode cX5_weight 45 = .ok (.iload 4, 2) := by decide +kernel
theorem dX5_weight_47 : decode cX5_weight 47 = .ok (.baload, 1) := by decide +kernel
theorem dX5_weight_48 : decode cX5_weight 48 = .ok (.ifCond .eq 13, 3) := by decide +kernel
theorem dX5_weight_51 : decode cX5_weight 51 = .ok (.iload 4, 2) := by decide +kernel
theorem dX5_weight_53 : decode cX5_weight 53 = .ok (.iload_n 1, 1) := by decide +kernel
theorem dX5_weight_54 : decode cX5_weight 54 = .ok (.if_icmp .le 7, 3) := by decide +kernel
theorem dX5_weight_57 : decode cX5_weight 57 = .ok (.iconst 1, 1) := by decide +kernel
theorem dX5_weight_58 : decode cX5_weight 58 = .ok (.goto 4, 3) := by decide +kernel
theorem dX5_weight_61 : decode cX5_weight 61 = .ok (.iconst 0, 1) := by decide +kernel
theorem dX5_weight_62 : decode cX5_weight 62 = .ok (.iadd, 1) := by decide +kernel
theorem dX5_weight_63 : decode cX5_weight 63 = .ok (.istore_n 3, 1) := by decide +kernel
theorem dX5_weight_64 : decode cX5_weight 64 = .ok (.iinc 4 1, 3) := by decide +kernel
theorem dX5_weight_67 : decode cX5_weight 67 = .ok (.goto (-60), 3) := by decide +kernel
theorem dX5_weight_70 : decode cX5_weight 70 = .ok (.iload_n 2, 1) := by decide +kernel
theorem dX5_weight_71 : decode cX5_weight 71 = .ok (.iload_n 3, 1) := by decide +kernel
theorem dX5_weight_72 : decode cX5_weight 72 = .ok (.if_icmp .ge 7, 3) := by decide +kernel
theorem dX5_weight_75 : decode cX5_weight 75 = .ok (.iload_n 2, 1) := by decide +kernel
theorem dX5_weight_76 : decode cX5_weight 76 = .ok (.goto 4, 3) := by decide +kernel
theorem dX5_weight_79 : decode cX5_weight 79 = .ok (.iload_n 3, 1) := by decide +kernel
theorem dX5_weight_80 : decode cX5_weight 80 = .ok (.istore 4, 2) := by decide +kernel
theorem dX5_weight_82 : decode cX5_weight 82 = .ok (.aload_n 0, 1) := by decide +kernel
theorem dX5_weight_83 : decode cX5_weight 83 = .ok (.getfield 22, 3) := by decide +kernel
theorem dX5_weight_86 : decode cX5_weight 86 = .ok (.iload_n 1, 1) := by decide +kernel
theorem dX5_weight_87 : decode cX5_weight 87 = .ok (.baload, 1) := by decide +kernel
theorem dX5_weight_88 : decode cX5_weight 88 = .ok (.ifCond .ne 7, 3) := by decide +kernel
theorem dX5_weight_91 : decode cX5_weight 91 = .ok (.iconst 0, 1) := by decide +kernel
theorem dX5_weight_92 : decode cX5_weight 92 = .ok (.goto 39, 3) := by decide +kernel
theorem dX5_weight_95 : decode cX5_weight 95 = .ok (.aload_n 0, 1) := by decide +kernel
theorem dX5_weight_96 : decode cX5_weight 96 = .ok (.getfield 108, 3) := by decide +kernel
theorem dX5_weight_99 : decode cX5_weight 99 = .ok (.ifCond .ne 7, 3) := by decide +kernel
theorem dX5_weight_102 : decode cX5_weight 102 = .ok (.iconst 1, 1) := by decide +kernel
theorem dX5_weight_103 : decode cX5_weight 103 = .ok (.goto 28, 3) := by decide +kernel
theorem dX5_weight_106 : decode cX5_weight 106 = .ok (.aload_n 0, 1) := by decide +kernel
theorem dX5_weight_107 : decode cX5_weight 107 = .ok (.getfield 108, 3) := by decide +kernel
theorem dX5_weight_110 : decode cX5_weight 110 = .ok (.iconst 1, 1) := by decide +kernel
theorem dX5_weight_111 : decode cX5_weight 111 = .ok (.if_icmp .ne 10, 3) := by decide +kernel
theorem dX5_weight_114 : decode cX5_weight 114 = .ok (.iconst 1, 1) := by decide +kernel
theorem dX5_weight_115 : decode cX5_weight 115 = .ok (.iload 4, 2) := by decide +kernel
theorem dX5_weight_117 : decode cX5_weight 117 = .ok (.iadd, 1) := by decide +kernel
theorem dX5_weight_118 : decode cX5_weight 118 = .ok (.goto 13, 3) := by decide +kernel
theorem dX5_weight_121 : decode cX5_weight 121 = .ok (.iload 4, 2) := by decide +kernel
theorem dX5_weight_123 : decode cX5_weight 123 = .ok (.ifCond .ne 7, 3) := by decide +kernel
theorem dX5_weight_126 : decode cX5_weight 126 = .ok (.iconst 3, 1) := by decide +kernel
theorem dX5_weight_127 : decode cX5_weight 127 = .ok (.goto 4, 3) := by decide +kernel
theorem dX5_weight_130 : decode cX5_weight 130 = .ok (.iconst 1, 1) := by decide +kernel
theorem dX5_weight_131 : decode cX5_weight 131 = .ok (.ireturn, 1) := by decide +kernel
theorem dX5_sumOf_0 : decode cX5_sumOf 0 = .ok (.lconst 0, 1) := by decide +kernel
theorem dX5_sumOf_1 : decode cX5_sumOf 1 = .ok (.lstore 4, 2) := by decide +kernel
theorem dX5_sumOf_3 : decode cX5_sumOf 3 = .ok (.iconst 0, 1) := by decide +kernel
theorem dX5_sumOf_4 : decode cX5_sumOf 4 = .ok (.istore 6, 2) := by decide +kernel
theorem dX5_sumOf_6 : decode cX5_sumOf 6 = .ok (.iload 6, 2) := by decide +kernel
theorem dX5_sumOf_8 : decode cX5_sumOf 8 = .ok (.aload_n 0, 1) := by decide +kernel
theorem dX5_sumOf_9 : decode cX5_sumOf 9 = .ok (.getfield 61, 3) := by decide +kernel
theorem dX5_sumOf_12 : decode cX5_sumOf 12 = .ok (.if_icmp .ge 66, 3) := by decide +kernel
theorem dX5_sumOf_15 : decode cX5_sumOf 15 = .ok (.aload_n 0, 1) := by decide +kernel
theorem dX5_sumOf_16 : decode cX5_sumOf 16 = .ok (.aload_n 1, 1) := by decide +kernel
theorem dX5_sumOf_17 : decode cX5_sumOf 17 = .ok (.iload 6, 2) := by decide +kernel
theorem dX5_sumOf_19 : decode cX5_sumOf 19 = .ok (.iload_n 3, 1) := by decide +kernel
theorem dX5_sumOf_20 : decode cX5_sumOf 20 = .ok (.aload_n 0, 1) := by decide +kernel
theorem dX5_sumOf_21 : decode cX5_sumOf 21 = .ok (.iload 6, 2) := by decide +kernel
theorem dX5_sumOf_23 : decode cX5_sumOf 23 = .ok (.iload_n 2, 1) := by decide +kernel
theorem dX5_sumOf_24 : decode cX5_sumOf 24 = .ok (.invokevirtual 94, 3) := by decide +kernel
theorem dX5_sumOf_27 : decode cX5_sumOf 27 = .ok (.iadd, 1) := by decide +kernel
theorem dX5_sumOf_28 : decode cX5_sumOf 28 = .ok (.aload_n 0, 1) := by decide +kernel
theorem dX5_sumOf_29 : decode cX5_sumOf 29 = .ok (.getfield 29, 3) := by decide +kernel
theorem dX5_sumOf_32 : decode cX5_sumOf 32 = .ok (.iload 6, 2) := by decide +kernel
theorem dX5_sumOf_34 : decode cX5_sumOf 34 = .ok (.iaload, 1) := by decide +kernel
theorem dX5_sumOf_35 : decode cX5_sumOf 35 = .ok (.iadd, 1) := by decide +kernel
theorem dX5_sumOf_36 : decode cX5_sumOf 36 = .ok (.invokevirtual 115, 3) := by decide +kernel
theorem dX5_sumOf_39 : decode cX5_sumOf 39 = .ok (.istore 7, 2) := by decide +kernel
theorem dX5_sumOf_41 : decode cX5_sumOf 41 = .ok (.lload 4, 2) := by decide +kernel
theorem dX5_sumOf_43 : decode cX5_sumOf 43 = .ok (.aload_n 0, 1) := by decide +kernel
theorem dX5_sumOf_44 : decode cX5_sumOf 44 = .ok (.iload 6, 2) := by decide +kernel
theorem dX5_sumOf_46 : decode cX5_sumOf 46 = .ok (.invokevirtual 119, 3) := by decide +kernel
theorem dX5_sumOf_49 : decode cX5_sumOf 49 = .ok (.i2l, 1) := by decide +kernel
theorem dX5_sumOf_50 : decode cX5_sumOf 50 = .ok (.ldc2_w 102, 3) := by decide +kernel
theorem dX5_sumOf_53 : decode cX5_sumOf 53 = .ok (.iload 7, 2) := by decide +kernel
theorem dX5_sumOf_55 : decode cX5_sumOf 55 = .ok (.i2l, 1) := by decide +kernel
theorem dX5_sumOf_56 : decode cX5_sumOf 56 = .ok (.lmul, 1) := by decide +kernel
theorem dX5_sumOf_57 : decode cX5_sumOf 57 = .ok (.aload_n 0, 1) := by decide +kernel
theorem dX5_sumOf_58 : decode cX5_sumOf 58 = .ok (.getfield 26, 3) := by decide +kernel
theorem dX5_sumOf_61 : decode cX5_sumOf 61 = .ok (.iload 6, 2) := by decide +kernel
theorem dX5_sumOf_63 : decode cX5_sumOf 63 = .ok (.iaload, 1) := by decide +kernel
theorem dX5_sumOf_64 : decode cX5_sumOf 64 = .ok (.i2l, 1) := by decide +kernel
theorem dX5_sumOf_65 : decode cX5_sumOf 65 = .ok (.invokestatic 70, 3) := by decide +kernel
theorem dX5_sumOf_68 : decode cX5_sumOf 68 = .ok (.lmul, 1) := by decide +kernel
theorem dX5_sumOf_69 : decode cX5_sumOf 69 = .ok (.ladd, 1) := by decide +kernel
theorem dX5_sumOf_70 : decode cX5_sumOf 70 = .ok (.lstore 4, 2) := by decide +kernel
theorem dX5_sumOf_72 : decode cX5_sumOf 72 = .ok (.iinc 6 1, 3) := by decide +kernel
theorem dX5_sumOf_75 : decode cX5_sumOf 75 = .ok (.goto (-69), 3) := by decide +kernel
theorem dX5_sumOf_78 : decode cX5_sumOf 78 = .ok (.lload 4, 2) := by decide +kernel
theorem dX5_sumOf_80 : decode cX5_sumOf 80 = .ok (.lreturn, 1) := by decide +kernel
theorem dX5_powerOf_0 : decode cX5_powerOf 0 = .ok (.lconst 0, 1) := by decide +kernel
theorem dX5_powerOf_1 : decode cX5_powerOf 1 = .ok (.lstore_n 3, 1) := by decide +kernel
theorem dX5_powerOf_2 : decode cX5_powerOf 2 = .ok (.bipush 47, 2) := by decide +kernel
theorem dX5_powerOf_4 : decode cX5_powerOf 4 = .ok (.istore 5, 2) := by decide +kernel
theorem dX5_powerOf_6 : decode cX5_powerOf 6 = .ok (.iload 5, 2) := by decide +kernel
theorem dX5_powerOf_8 : decode cX5_powerOf 8 = .ok (.bipush 16, 2) := by decide +kernel
theorem dX5_powerOf_10 : decode cX5_powerOf 10 = .ok (.if_icmp .lt 34, 3) := by decide +kernel
theorem dX5_powerOf_13 : decode cX5_powerOf 13 = .ok (.aload_n 0, 1) := by decide +kernel
theorem dX5_powerOf_14 : decode cX5_powerOf 14 = .ok (.aload_n 1, 1) := by decide +kernel
theorem dX5_powerOf_15 : decode cX5_powerOf 15 = .ok (.iload_n 2, 1) := by decide +kernel
theorem dX5_powerOf_16 : decode cX5_powerOf 16 = .ok (.aload_n 0, 1) := by decide +kernel
theorem dX5_powerOf_17 : decode cX5_powerOf 17 = .ok (.getfield 78, 3) := by decide +kernel
theorem dX5_powerOf_20 : decode cX5_powerOf 20 = .ok (.iconst 1, 1) := by decide +kernel
theorem dX5_powerOf_21 : decode cX5_powerOf 21 = .ok (.isub, 1) := by decide +kernel
theorem dX5_powerOf_22 : decode cX5_powerOf 22 = .ok (.iload 5, 2) := by decide +kernel
theorem dX5_powerOf_24 : decode cX5_powerOf 24 = .ok (.isub, 1) := by decide +kernel
theorem dX5_powerOf_25 : decode cX5_powerOf 25 = .ok (.invokevirtual 123, 3) := by decide +kernel
theorem dX5_powerOf_28 : decode cX5_powerOf 28 = .ok (.lstore 6, 2) := by decide +kernel
theorem dX5_powerOf_30 : decode cX5_powerOf 30 = .ok (.lload_n 3, 1) := by decide +kernel
theorem dX5_powerOf_31 : decode cX5_powerOf 31 = .ok (.lload 6, 2) := by decide +kernel
theorem dX5_powerOf_33 : decode cX5_powerOf 33 = .ok (.lload 6, 2) := by decide +kernel
theorem dX5_powerOf_35 : decode cX5_powerOf 35 = .ok (.lmul, 1) := by decide +kernel
theorem dX5_powerOf_36 : decode cX5_powerOf 36 = .ok (.ladd, 1) := by decide +kernel
theorem dX5_powerOf_37 : decode cX5_powerOf 37 = .ok (.lstore_n 3, 1) := by decide +kernel
theorem dX5_powerOf_38 : decode cX5_powerOf 38 = .ok (.iinc 5 (-1), 3) := by decide +kernel
theorem dX5_powerOf_41 : decode cX5_powerOf 41 = .ok (.goto (-35), 3) := by decide +kernel
theorem dX5_powerOf_44 : decode cX5_powerOf 44 = .ok (.lload_n 3, 1) := by decide +kernel
theorem dX5_powerOf_45 : decode cX5_powerOf 45 = .ok (.lreturn, 1) := by decide +kernel
theorem dX5_lowest_0 : decode cX5_lowest 0 = .ok (.iconst 0, 1) := by decide +kernel
theorem dX5_lowest_1 : decode cX5_lowest 1 = .ok (.istore_n 1, 1) := by decide +kernel
theorem dX5_lowest_2 : decode cX5_lowest 2 = .ok (.iload_n 1, 1) := by decide +kernel
theorem dX5_lowest_3 : decode cX5_lowest 3 = .ok (.aload_n 0, 1) := by decide +kernel
theorem dX5_lowest_4 : decode cX5_lowest 4 = .ok (.getfield 61, 3) := by decide +kernel
theorem dX5_lowest_7 : decode cX5_lowest 7 = .ok (.if_icmp .ge 20, 3) := by decide +kernel
theorem dX5_lowest_10 : decode cX5_lowest 10 = .ok (.aload_n 0, 1) := by decide +kernel
theorem dX5_lowest_11 : decode cX5_lowest 11 = .ok (.getfield 22, 3) := by decide +kernel
theorem dX5_lowest_14 : decode cX5_lowest 14 = .ok (.iload_n 1, 1) := by decide +kernel
theorem dX5_lowest_15 : decode cX5_lowest 15 = .ok (.baload, 1) := by decide +kernel
theorem dX5_lowest_16 : decode cX5_lowest 16 = .ok (.ifCond .eq 5, 3) := by decide +kernel
theorem dX5_lowest_19 : decode cX5_lowest 19 = .ok (.iload_n 1, 1) := by decide +kernel
theorem dX5_lowest_20 : decode cX5_lowest 20 = .ok (.ireturn, 1) := by decide +kernel
theorem dX5_lowest_21 : decode cX5_lowest 21 = .ok (.iinc 1 1, 3) := by decide +kernel
theorem dX5_lowest_24 : decode cX5_lowest 24 = .ok (.goto (-22), 3) := by decide +kernel
theorem dX5_lowest_27 : decode cX5_lowest 27 = .ok (.bipush (-99), 2) := by decide +kernel
theorem dX5_lowest_29 : decode cX5_lowest 29 = .ok (.ireturn, 1) := by decide +kernel
theorem dX5_agreement_0 : decode cX5_agreement 0 = .ok (.lconst 0, 1) := by decide +kernel
theorem dX5_agreement_1 : decode cX5_agreement 1 = .ok (.lstore 5, 2) := by decide +kernel
theorem dX5_agreement_3 : decode cX5_agreement 3 = .ok (.bipush 47, 2) := by decide +kernel
theorem dX5_agreement_5 : decode cX5_agreement 5 = .ok (.istore 7, 2) := by decide +kernel
theorem dX5_agreement_7 : decode cX5_agreement 7 = .ok (.iload 7, 2) := by decide +kernel
theorem dX5_agreement_9 : decode cX5_agreement 9 = .ok (.bipush 16, 2) := by decide +kernel
theorem dX5_agreement_11 : decode cX5_agreement 11 = .ok (.if_icmp .lt 68, 3) := by decide +kernel
theorem dX5_agreement_14 : decode cX5_agreement 14 = .ok (.aload_n 0, 1) := by decide +kernel
theorem dX5_agreement_15 : decode cX5_agreement 15 = .ok (.getfield 78, 3) := by decide +kernel
theorem dX5_agreement_18 : decode cX5_agreement 18 = .ok (.iconst 1, 1) := by decide +kernel
theorem dX5_agreement_19 : decode cX5_agreement 19 = .ok (.isub, 1) := by decide +kernel
theorem dX5_agreement_20 : decode cX5_agreement 20 = .ok (.iload 7, 2) := by decide +kernel
theorem dX5_agreement_22 : decode cX5_agreement 22 = .ok (.isub, 1) := by decide +kernel
theorem dX5_agreement_23 : decode cX5_agreement 23 = .ok (.istore 8, 2) := by decide +kernel
theorem dX5_agreement_25 : decode cX5_agreement 25 = .ok (.lload 5, 2) := by decide +kernel
theorem dX5_agreement_27 : decode cX5_agreement 27 = .ok (.aload_n 0, 1) := by decide +kernel
theorem dX5_agreement_28 : decode cX5_agreement 28 = .ok (.aload_n 0, 1) := by decide +kernel
theorem dX5_agreement_29 : decode cX5_agreement 29 = .ok (.getfield 41, 3) := by decide +kernel
theorem dX5_agreement_32 : decode cX5_agreement 32 = .ok (.iload_n 1, 1) := by decide +kernel
theorem dX5_agreement_33 : decode cX5_agreement 33 = .ok (.iload 8, 2) := by decide +kernel
theorem dX5_agreement_35 : decode cX5_agreement 35 = .ok (.aload_n 0, 1) := by decide +kernel
theorem dX5_agreement_36 : decode cX5_agreement 36 = .ok (.iload_n 1, 1) := by decide +kernel
theorem dX5_agreement_37 : decode cX5_agreement 37 = .ok (.iload 4, 2) := by decide +kernel
theorem dX5_agreement_39 : decode cX5_agreement 39 = .ok (.invokevirtual 94, 3) := by decide +kernel
theorem dX5_agreement_42 : decode cX5_agreement 42 = .ok (.iadd, 1) := by decide +kernel
theorem dX5_agreement_43 : decode cX5_agreement 43 = .ok (.iload_n 2, 1) := by decide +kernel
theorem dX5_agreement_44 : decode cX5_agreement 44 = .ok (.iadd, 1) := by decide +kernel
theorem dX5_agreement_45 : decode cX5_agreement 45 = .ok (.invokevirtual 115, 3) := by decide +kernel
theorem dX5_agreement_48 : decode cX5_agreement 48 = .ok (.i2l, 1) := by decide +kernel
theorem dX5_agreement_49 : decode cX5_agreement 49 = .ok (.aload_n 0, 1) := by decide +kernel
theorem dX5_agreement_50 : decode cX5_agreement 50 = .ok (.aload_n 0, 1) := by decide +kernel
theorem dX5_agreement_51 : decode cX5_agreement 51 = .ok (.getfield 41, 3) := by decide +kernel
theorem dX5_agreement_54 : decode cX5_agreement 54 = .ok (.iload_n 3, 1) := by decide +kernel
theorem dX5_agreement_55 : decode cX5_agreement 55 = .ok (.iload 8, 2) := by decide +kernel
theorem dX5_agreement_57 : decode cX5_agreement 57 = .ok (.aload_n 0, 1) := by decide +kernel
theorem dX5_agreement_58 : decode cX5_agreement 58 = .ok (.iload_n 3, 1) := by decide +kernel
theorem dX5_agreement_59 : decode cX5_agreement 59 = .ok (.iload 4, 2) := by decide +kernel
theorem dX5_agreement_61 : decode cX5_agreement 61 = .ok (.invokevirtual 94, 3) := by decide +kernel
theorem dX5_agreement_64 : decode cX5_agreement 64 = .ok (.iadd, 1) := by decide +kernel
theorem dX5_agreement_65 : decode cX5_agreement 65 = .ok (.invokevirtual 115, 3) := by decide +kernel
theorem dX5_agreement_68 : decode cX5_agreement 68 = .ok (.i2l, 1) := by decide +kernel
theorem dX5_agreement_69 : decode cX5_agreement 69 = .ok (.lmul, 1) := by decide +kernel
theorem dX5_agreement_70 : decode cX5_agreement 70 = .ok (.ladd, 1) := by decide +kernel
theorem dX5_agreement_71 : decode cX5_agreement 71 = .ok (.lstore 5, 2) := by decide +kernel
theorem dX5_agreement_73 : decode cX5_agreement 73 = .ok (.iinc 7 (-1), 3) := by decide +kernel
theorem dX5_agreement_76 : decode cX5_agreement 76 = .ok (.goto (-69), 3) := by decide +kernel
theorem dX5_agreement_79 : decode cX5_agreement 79 = .ok (.lload 5, 2) := by decide +kernel
theorem dX5_agreement_81 : decode cX5_agreement 81 = .ok (.lreturn, 1) := by decide +kernel
theorem dX5_becomes_0 : decode cX5_becomes 0 = .ok (.aload_n 0, 1) := by decide +kernel
theorem dX5_becomes_1 : decode cX5_becomes 1 = .ok (.getfield 26, 3) := by decide +kernel
theorem dX5_becomes_4 : decode cX5_becomes 4 = .ok (.iload_n 1, 1) := by decide +kernel
theorem dX5_becomes_5 : decode cX5_becomes 5 = .ok (.iaload, 1) := by decide +kernel
theorem dX5_becomes_6 : decode cX5_becomes 6 = .ok (.iload_n 2, 1) := by decide +kernel
theorem dX5_becomes_7 : decode cX5_becomes 7 = .ok (.if_icmp .ne 13, 3) := by decide +kernel
theorem dX5_becomes_10 : decode cX5_becomes 10 = .ok (.aload_n 0, 1) := by decide +kernel
theorem dX5_becomes_11 : decode cX5_becomes 11 = .ok (.getfield 29, 3) := by decide +kernel
theorem dX5_becomes_14 : decode cX5_becomes 14 = .ok (.iload_n 1, 1) := by decide +kernel
theorem dX5_becomes_15 : decode cX5_becomes 15 = .ok (.iaload, 1) := by decide +kernel
theorem dX5_becomes_16 : decode cX5_becomes 16 = .ok (.iload_n 3, 1) := by decide +kernel
theorem dX5_becomes_17 : decode cX5_becomes 17 = .ok (.if_icmp .eq 7, 3) := by decide +kernel
theorem dX5_becomes_20 : decode cX5_becomes 20 = .ok (.iconst 1, 1) := by decide +kernel
theorem dX5_becomes_21 : decode cX5_becomes 21 = .ok (.goto 4, 3) := by decide +kernel
theorem dX5_becomes_24 : decode cX5_becomes 24 = .ok (.iconst 0, 1) := by decide +kernel
theorem dX5_becomes_25 : decode cX5_becomes 25 = .ok (.istore 4, 2) := by decide +kernel
theorem dX5_becomes_27 : decode cX5_becomes 27 = .ok (.aload_n 0, 1) := by decide +kernel
theorem dX5_becomes_28 : decode cX5_becomes 28 = .ok (.getfield 26, 3) := by decide +kernel
theorem dX5_becomes_31 : decode cX5_becomes 31 = .ok (.iload_n 1, 1) := by decide +kernel
theorem dX5_becomes_32 : decode cX5_becomes 32 = .ok (.iload_n 2, 1) := by decide +kernel
theorem dX5_becomes_33 : decode cX5_becomes 33 = .ok (.iastore, 1) := by decide +kernel
theorem dX5_becomes_34 : decode cX5_becomes 34 = .ok (.aload_n 0, 1) := by decide +kernel
theorem dX5_becomes_35 : decode cX5_becomes 35 = .ok (.getfield 29, 3) := by decide +kernel
theorem dX5_becomes_38 : decode cX5_becomes 38 = .ok (.iload_n 1, 1) := by decide +kernel
theorem dX5_becomes_39 : decode cX5_becomes 39 = .ok (.iload_n 3, 1) := by decide +kernel
theorem dX5_becomes_40 : decode cX5_becomes 40 = .ok (.iastore, 1) := by decide +kernel
theorem dX5_becomes_41 : decode cX5_becomes 41 = .ok (.iload 4, 2) := by decide +kernel
theorem dX5_becomes_43 : decode cX5_becomes 43 = .ok (.ireturn, 1) := by decide +kernel
theorem dX5_isFitted_0 : decode cX5_isFitted 0 = .ok (.bipush (-3), 2) := by decide +kernel
theorem dX5_isFitted_2 : decode cX5_isFitted 2 = .ok (.istore 6, 2) := by decide +kernel
theorem dX5_isFitted_4 : decode cX5_isFitted 4 = .ok (.bipush (-2), 2) := by decide +kernel
theorem dX5_isFitted_6 : decode cX5_isFitted 6 = .ok (.istore 7, 2) := by decide +kernel
theorem dX5_isFitted_8 : decode cX5_isFitted 8 = .ok (.iload 7, 2) := by decide +kernel
theorem dX5_isFitted_10 : decode cX5_isFitted 10 = .ok (.iconst 3, 1) := by decide +kernel
theorem dX5_isFitted_11 : decode cX5_isFitted 11 = .ok (.if_icmp .gt 40, 3) := by decide +kernel
theorem dX5_isFitted_14 : decode cX5_isFitted 14 = .ok (.aload_n 0, 1) := by decide +kernel
theorem dX5_isFitted_15 : decode cX5_isFitted 15 = .ok (.iload_n 1, 1) := by decide +kernel
theorem dX5_isFitted_16 : decode cX5_isFitted 16 = .ok (.iload 7, 2) := by decide +kernel
theorem dX5_isFitted_18 : decode cX5_isFitted 18 = .ok (.iload_n 2, 1) := by decide +kernel
theorem dX5_isFitted_19 : decode cX5_isFitted 19 = .ok (.iload_n 3, 1) := by decide +kernel
theorem dX5_isFitted_20 : decode cX5_isFitted 20 = .ok (.invokevirtual 127, 3) := by decide +kernel
theorem dX5_isFitted_23 : decode cX5_isFitted 23 = .ok (.aload_n 0, 1) := by decide +kernel
theorem dX5_isFitted_24 : decode cX5_isFitted 24 = .ok (.iload_n 1, 1) := by decide +kernel
theorem dX5_isFitted_25 : decode cX5_isFitted 25 = .ok (.iload 6, 2) := by decide +kernel
theorem dX5_isFitted_27 : decode cX5_isFitted 27 = .ok (.iload_n 2, 1) := by decide +kernel
theorem dX5_isFitted_28 : decode cX5_isFitted 28 = .ok (.iload_n 3, 1) := by decide +kernel
theorem dX5_isFitted_29 : decode cX5_isFitted 29 = .ok (.invokevirtual 127, 3) := by decide +kernel
theorem dX5_isFitted_32 : decode cX5_isFitted 32 = .ok (.lcmp, 1) := by decide +kernel
theorem dX5_isFitted_33 : decode cX5_isFitted 33 = .ok (.ifCond .le 8, 3) := by decide +kernel
theorem dX5_isFitted_36 : decode cX5_isFitted 36 = .ok (.iload 7, 2) := by decide +kernel
theorem dX5_isFitted_38 : decode cX5_isFitted 38 = .ok (.goto 5, 3) := by decide +kernel
theorem dX5_isFitted_41 : decode cX5_isFitted 41 = .ok (.iload 6, 2) := by decide +kernel
theorem dX5_isFitted_43 : decode cX5_isFitted 43 = .ok (.istore 6, 2) := by decide +kernel
theorem dX5_isFitted_45 : decode cX5_isFitted 45 = .ok (.iinc 7 1, 3) := by decide +kernel
theorem dX5_isFitted_48 : decode cX5_isFitted 48 = .ok (.goto (-40), 3) := by decide +kernel
theorem dX5_isFitted_51 : decode cX5_isFitted 51 = .ok (.ldc2_w 102, 3) := by decide +kernel
theorem dX5_isFitted_54 : decode cX5_isFitted 54 = .ok (.aload_n 0, 1) := by decide +kernel
theorem dX5_isFitted_55 : decode cX5_isFitted 55 = .ok (.iload_n 1, 1) := by decide +kernel
theorem dX5_isFitted_56 : decode cX5_isFitted 56 = .ok (.iload 6, 2) := by decide +kernel
theorem dX5_isFitted_58 : decode cX5_isFitted 58 = .ok (.iload_n 2, 1) := by decide +kernel
theorem dX5_isFitted_59 : decode cX5_isFitted 59 = .ok (.iload_n 3, 1) := by decide +kernel
theorem dX5_isFitted_60 : decode cX5_isFitted 60 = .ok (.invokevirtual 127, 3) := by decide +kernel
theorem dX5_isFitted_63 : decode cX5_isFitted 63 = .ok (.lmul, 1) := by decide +kernel
theorem dX5_isFitted_64 : decode cX5_isFitted 64 = .ok (.lload 4, 2) := by decide +kernel
theorem dX5_isFitted_66 : decode cX5_isFitted 66 = .ok (.invokestatic 70, 3) := by decide +kernel
theorem dX5_isFitted_69 : decode cX5_isFitted 69 = .ok (.lstore 7, 2) := by decide +kernel
theorem dX5_isFitted_71 : decode cX5_isFitted 71 = .ok (.aload_n 0, 1) := by decide +kernel
theorem dX5_isFitted_72 : decode cX5_isFitted 72 = .ok (.iload_n 1, 1) := by decide +kernel
theorem dX5_isFitted_73 : decode cX5_isFitted 73 = .ok (.lload 7, 2) := by decide +kernel
theorem dX5_isFitted_75 : decode cX5_isFitted 75 = .ok (.ldc2_w 131, 3) := by decide +kernel
theorem dX5_isFitted_78 : decode cX5_isFitted 78 = .ok (.lcmp, 1) := by decide +kernel
theorem dX5_isFitted_79 : decode cX5_isFitted 79 = .ok (.ifCond .ge 8, 3) := by decide +kernel
theorem dX5_isFitted_82 : decode cX5_isFitted 82 = .ok (.bipush 16, 2) := by decide +kernel
theorem dX5_isFitted_84 : decode cX5_isFitted 84 = .ok (.goto 21, 3) := by decide +kernel
theorem dX5_isFitted_87 : decode cX5_isFitted 87 = .ok (.lload 7, 2) := by decide +kernel
theorem dX5_isFitted_89 : decode cX5_isFitted 89 = .ok (.ldc2_w 133, 3) := by decide +kernel
theorem dX5_isFitted_92 : decode cX5_isFitted 92 = .ok (.lcmp, 1) := by decide +kernel
theorem dX5_isFitted_93 : decode cX5_isFitted 93 = .ok (.ifCond .le 9, 3) := by decide +kernel
theorem dX5_isFitted_96 : decode cX5_isFitted 96 = .ok (.sipush 255, 3) := by decide +kernel
theorem dX5_isFitted_99 : decode cX5_isFitted 99 = .ok (.goto 6, 3) := by decide +kernel
theorem dX5_isFitted_102 : decode cX5_isFitted 102 = .ok (.lload 7, 2) := by decide +kernel
theorem dX5_isFitted_104 : decode cX5_isFitted 104 = .ok (.l2i, 1) := by decide +kernel
theorem dX5_isFitted_105 : decode cX5_isFitted 105 = .ok (.iload 6, 2) := by decide +kernel
theorem dX5_isFitted_107 : decode cX5_isFitted 107 = .ok (.invokevirtual 135, 3) := by decide +kernel
theorem dX5_isFitted_110 : decode cX5_isFitted 110 = .ok (.ireturn, 1) := by decide +kernel
theorem dX5_calibrate_0 : decode cX5_calibrate 0 = .ok (.iload_n 1, 1) := by decide +kernel
theorem dX5_calibrate_1 : decode cX5_calibrate 1 = .ok (.invokestatic 84, 3) := by decide +kernel
theorem dX5_calibrate_4 : decode cX5_calibrate 4 = .ok (.istore_n 2, 1) := by decide +kernel
theorem dX5_calibrate_5 : decode cX5_calibrate 5 = .ok (.aload_n 0, 1) := by decide +kernel
theorem dX5_calibrate_6 : decode cX5_calibrate 6 = .ok (.invokevirtual 138, 3) := by decide +kernel
theorem dX5_calibrate_9 : decode cX5_calibrate 9 = .ok (.istore_n 3, 1) := by decide +kernel
theorem dX5_calibrate_10 : decode cX5_calibrate 10 = .ok (.iload_n 2, 1) := by decide +kernel
theorem dX5_calibrate_11 : decode cX5_calibrate 11 = .ok (.ifCond .eq 20, 3) := by decide +kernel
theorem dX5_calibrate_14 : decode cX5_calibrate 14 = .ok (.iload_n 3, 1) := by decide +kernel
theorem dX5_calibrate_15 : decode cX5_calibrate 15 = .ok (.bipush (-99), 2) := by decide +kernel
theorem dX5_calibrate_17 : decode cX5_calibrate 17 = .ok (.if_icmp .eq 14, 3) := by decide +kernel
theorem dX5_calibrate_20 : decode cX5_calibrate 20 = .ok (.aload_n 0, 1) := by decide +kernel
theorem dX5_calibrate_21 : decode cX5_calibrate 21 = .ok (.iload_n 3, 1) := by decide +kernel
theorem dX5_calibrate_22 : decode cX5_calibrate 22 = .ok (.iconst 0, 1) := by decide +kernel
theorem dX5_calibrate_23 : decode cX5_calibrate 23 = .ok (.iload_n 3, 1) := by decide +kernel
theorem dX5_calibrate_24 : decode cX5_calibrate 24 = .ok (.iload_n 1, 1) := by decide +kernel
theorem dX5_calibrate_25 : decode cX5_calibrate 25 = .ok (.invokevirtual 127, 3) := by decide +kernel
theorem dX5_calibrate_28 : decode cX5_calibrate 28 = .ok (.goto 4, 3) := by decide +kernel
theorem dX5_calibrate_31 : decode cX5_calibrate 31 = .ok (.lconst 0, 1) := by decide +kernel
theorem dX5_calibrate_32 : decode cX5_calibrate 32 = .ok (.lstore 4, 2) := by decide +kernel
theorem dX5_calibrate_34 : decode cX5_calibrate 34 = .ok (.aload_n 0, 1) := by decide +kernel
theorem dX5_calibrate_35 : decode cX5_calibrate 35 = .ok (.iload_n 2, 1) := by decide +kernel
theorem dX5_calibrate_36 : decode cX5_calibrate 36 = .ok (.ifCond .ne 7, 3) := by decide +kernel
theorem dX5_calibrate_39 : decode cX5_calibrate 39 = .ok (.iconst 1, 1) := by decide +kernel
theorem dX5_calibrate_40 : decode cX5_calibrate 40 = .ok (.goto 15, 3) := by decide +kernel
theorem dX5_calibrate_43 : decode cX5_calibrate 43 = .ok (.lload 4, 2) := by decide +kernel
theorem dX5_calibrate_45 : decode cX5_calibrate 45 = .ok (.lconst 0, 1) := by decide +kernel
theorem dX5_calibrate_46 : decode cX5_calibrate 46 = .ok (.lcmp, 1) := by decide +kernel
theorem dX5_calibrate_47 : decode cX5_calibrate 47 = .ok (.ifCond .ne 7, 3) := by decide +kernel
theorem dX5_calibrate_50 : decode cX5_calibrate 50 = .ok (.iconst 2, 1) := by decide +kernel
theorem dX5_calibrate_51 : decode cX5_calibrate 51 = .ok (.goto 4, 3) := by decide +kernel
theorem dX5_calibrate_54 : decode cX5_calibrate 54 = .ok (.iconst 0, 1) := by decide +kernel
theorem dX5_calibrate_55 : decode cX5_calibrate 55 = .ok (.invokevirtual 74, 3) := by decide +kernel
theorem dX5_calibrate_58 : decode cX5_calibrate 58 = .ok (.ifCond .ne 5, 3) := by decide +kernel
theorem dX5_calibrate_61 : decode cX5_calibrate 61 = .ok (.iconst 0, 1) := by decide +kernel
theorem dX5_calibrate_62 : decode cX5_calibrate 62 = .ok (.ireturn, 1) := by decide +kernel
theorem dX5_calibrate_63 : decode cX5_calibrate 63 = .ok (.aload_n 0, 1) := by decide +kernel
theorem dX5_calibrate_64 : decode cX5_calibrate 64 = .ok (.iload_n 3, 1) := by decide +kernel
theorem dX5_calibrate_65 : decode cX5_calibrate 65 = .ok (.bipush 64, 2) := by decide +kernel
theorem dX5_calibrate_67 : decode cX5_calibrate 67 = .ok (.iconst 0, 1) := by decide +kernel
theorem dX5_calibrate_68 : decode cX5_calibrate 68 = .ok (.invokevirtual 135, 3) := by decide +kernel
theorem dX5_calibrate_71 : decode cX5_calibrate 71 = .ok (.ifCond .eq 7, 3) := by decide +kernel
theorem dX5_calibrate_74 : decode cX5_calibrate 74 = .ok (.iconst 1, 1) := by decide +kernel
theorem dX5_calibrate_75 : decode cX5_calibrate 75 = .ok (.goto 4, 3) := by decide +kernel
theorem dX5_calibrate_78 : decode cX5_calibrate 78 = .ok (.iconst 0, 1) := by decide +kernel
theorem dX5_calibrate_79 : decode cX5_calibrate 79 = .ok (.istore 6, 2) := by decide +kernel
theorem dX5_calibrate_81 : decode cX5_calibrate 81 = .ok (.iload_n 3, 1) := by decide +kernel
theorem dX5_calibrate_82 : decode cX5_calibrate 82 = .ok (.iconst 1, 1) := by decide +kernel
theorem dX5_calibrate_83 : decode cX5_calibrate 83 = .ok (.iadd, 1) := by decide +kernel
theorem dX5_calibrate_84 : decode cX5_calibrate 84 = .ok (.istore 7, 2) := by decide +kernel
theorem dX5_calibrate_86 : decode cX5_calibrate 86 = .ok (.iload 7, 2) := by decide +kernel
theorem dX5_calibrate_88 : decode cX5_calibrate 88 = .ok (.aload_n 0, 1) := by decide +kernel
theorem dX5_calibrate_89 : decode cX5_calibrate 89 = .ok (.getfield 61, 3) := by decide +kernel
theorem dX5_calibrate_92 : decode cX5_calibrate 92 = .ok (.if_icmp .ge 42, 3) := by decide +kernel
theorem dX5_calibrate_95 : decode cX5_calibrate 95 = .ok (.iload 6, 2) := by decide +kernel
theorem dX5_calibrate_97 : decode cX5_calibrate 97 = .ok (.aload_n 0, 1) := by decide +kernel
theorem dX5_calibrate_98 : decode cX5_calibrate 98 = .ok (.getfield 22, 3) := by decide +kernel
theorem dX5_calibrate_101 : decode cX5_calibrate 101 = .ok (.iload 7, 2) := by decide +kernel
theorem dX5_calibrate_103 : decode cX5_calibrate 103 = .ok (.baload, 1) := by decide +kernel
theorem dX5_calibrate_104 : decode cX5_calibrate 104 = .ok (.ifCond .eq 20, 3) := by decide +kernel
theorem dX5_calibrate_107 : decode cX5_calibrate 107 = .ok (.aload_n 0, 1) := by decide +kernel
theorem dX5_calibrate_108 : decode cX5_calibrate 108 = .ok (.iload 7, 2) := by decide +kernel
theorem dX5_calibrate_110 : decode cX5_calibrate 110 = .ok (.iload_n 3, 1) := by decide +kernel
theorem dX5_calibrate_111 : decode cX5_calibrate 111 = .ok (.iload_n 1, 1) := by decide +kernel
theorem dX5_calibrate_112 : decode cX5_calibrate 112 = .ok (.lload 4, 2) := by decide +kernel
theorem dX5_calibrate_114 : decode cX5_calibrate 114 = .ok (.invokevirtual 142, 3) := by decide +kernel
theorem dX5_calibrate_117 : decode cX5_calibrate 117 = .ok (.ifCond .eq 7, 3) := by decide +kernel
theorem dX5_calibrate_120 : decode cX5_calibrate 120 = .ok (.iconst 1, 1) := by decide +kernel
theorem dX5_calibrate_121 : decode cX5_calibrate 121 = .ok (.goto 4, 3) := by decide +kernel
theorem dX5_calibrate_124 : decode cX5_calibrate 124 = .ok (.iconst 0, 1) := by decide +kernel
theorem dX5_calibrate_125 : decode cX5_calibrate 125 = .ok (.iadd, 1) := by decide +kernel
theorem dX5_calibrate_126 : decode cX5_calibrate 126 = .ok (.istore 6, 2) := by decide +kernel
theorem dX5_calibrate_128 : decode cX5_calibrate 128 = .ok (.iinc 7 1, 3) := by decide +kernel
theorem dX5_calibrate_131 : decode cX5_calibrate 131 = .ok (.goto (-45), 3) := by decide +kernel
theorem dX5_calibrate_134 : decode cX5_calibrate 134 = .ok (.iload 6, 2) := by decide +kernel
theorem dX5_calibrate_136 : decode cX5_calibrate 136 = .ok (.ireturn, 1) := by decide +kernel
theorem dX5_sample_0 : decode cX5_sample 0 = .ok (.aload_n 0, 1) := by decide +kernel
theorem dX5_sample_1 : decode cX5_sample 1 = .ok (.iload_n 1, 1) := by decide +kernel
theorem dX5_sample_2 : decode cX5_sample 2 = .ok (.invokevirtual 81, 3) := by decide +kernel
theorem dX5_sample_5 : decode cX5_sample 5 = .ok (.ifCond .eq 17, 3) := by decide +kernel
theorem dX5_sample_8 : decode cX5_sample 8 = .ok (.iload_n 2, 1) := by decide +kernel
theorem dX5_sample_9 : decode cX5_sample 9 = .ok (.iconst 0, 1) := by decide +kernel
theorem dX5_sample_10 : decode cX5_sample 10 = .ok (.bipush 63, 2) := by decide +kernel
theorem dX5_sample_12 : decode cX5_sample 12 = .ok (.invokestatic 64, 3) := by decide +kernel
theorem dX5_sample_15 : decode cX5_sample 15 = .ok (.ifCond .eq 7, 3) := by decide +kernel
theorem dX5_sample_18 : decode cX5_sample 18 = .ok (.iconst 1, 1) := by decide +kernel
theorem dX5_sample_19 : decode cX5_sample 19 = .ok (.goto 4, 3) := by decide +kernel
theorem dX5_sample_22 : decode cX5_sample 22 = .ok (.iconst 0, 1) := by decide +kernel
theorem dX5_sample_23 : decode cX5_sample 23 = .ok (.istore_n 3, 1) := by decide +kernel
theorem dX5_sample_24 : decode cX5_sample 24 = .ok (.aload_n 0, 1) := by decide +kernel
theorem dX5_sample_25 : decode cX5_sample 25 = .ok (.iload_n 3, 1) := by decide +kernel
theorem dX5_sample_26 : decode cX5_sample 26 = .ok (.ifCond .eq 7, 3) := by decide +kernel
theorem dX5_sample_29 : decode cX5_sample 29 = .ok (.iconst 0, 1) := by decide +kernel
theorem dX5_sample_30 : decode cX5_sample 30 = .ok (.goto 4, 3) := by decide +kernel
theorem dX5_sample_33 : decode cX5_sample 33 = .ok (.iconst 1, 1) := by decide +kernel
theorem dX5_sample_34 : decode cX5_sample 34 = .ok (.invokevirtual 74, 3) := by decide +kernel
theorem dX5_sample_37 : decode cX5_sample 37 = .ok (.ifCond .eq 23, 3) := by decide +kernel
theorem dX5_sample_40 : decode cX5_sample 40 = .ok (.aload_n 0, 1) := by decide +kernel
theorem dX5_sample_41 : decode cX5_sample 41 = .ok (.aload_n 0, 1) := by decide +kernel
theorem dX5_sample_42 : decode cX5_sample 42 = .ok (.getfield 41, 3) := by decide +kernel
theorem dX5_sample_45 : decode cX5_sample 45 = .ok (.iload_n 1, 1) := by decide +kernel
theorem dX5_sample_46 : decode cX5_sample 46 = .ok (.aload_n 0, 1) := by decide +kernel
theorem dX5_sample_47 : decode cX5_sample 47 = .ok (.getfield 78, 3) := by decide +kernel
theorem dX5_sample_50 : decode cX5_sample 50 = .ok (.iconst 1, 1) := by decide +kernel
theorem dX5_sample_51 : decode cX5_sample 51 = .ok (.isub, 1) := by decide +kernel
theorem dX5_sample_52 : decode cX5_sample 52 = .ok (.iload_n 2, 1) := by decide +kernel
theorem dX5_sample_53 : decode cX5_sample 53 = .ok (.isub, 1) := by decide +kernel
theorem dX5_sample_54 : decode cX5_sample 54 = .ok (.invokevirtual 115, 3) := by decide +kernel
theorem dX5_sample_57 : decode cX5_sample 57 = .ok (.goto 4, 3) := by decide +kernel
theorem dX5_sample_60 : decode cX5_sample 60 = .ok (.iconst 0, 1) := by decide +kernel
theorem dX5_sample_61 : decode cX5_sample 61 = .ok (.ireturn, 1) := by decide +kernel
theorem dX5_sum_0 : decode cX5_sum 0 = .ok (.iload_n 1, 1) := by decide +kernel
theorem dX5_sum_1 : decode cX5_sum 1 = .ok (.invokestatic 84, 3) := by decide +kernel
theorem dX5_sum_4 : decode cX5_sum 4 = .ok (.ifCond .eq 18, 3) := by decide +kernel
theorem dX5_sum_7 : decode cX5_sum 7 = .ok (.iload_n 2, 1) := by decide +kernel
theorem dX5_sum_8 : decode cX5_sum 8 = .ok (.bipush 16, 2) := by decide +kernel
theorem dX5_sum_10 : decode cX5_sum 10 = .ok (.bipush 47, 2) := by decide +kernel
theorem dX5_sum_12 : decode cX5_sum 12 = .ok (.invokestatic 64, 3) := by decide +kernel
theorem dX5_sum_15 : decode cX5_sum 15 = .ok (.ifCond .eq 7, 3) := by decide +kernel
theorem dX5_sum_18 : decode cX5_sum 18 = .ok (.iconst 1, 1) := by decide +kernel
theorem dX5_sum_19 : decode cX5_sum 19 = .ok (.goto 4, 3) := by decide +kernel
theorem dX5_sum_22 : decode cX5_sum 22 = .ok (.iconst 0, 1) := by decide +kernel
theorem dX5_sum_23 : decode cX5_sum 23 = .ok (.istore_n 3, 1) := by decide +kernel
theorem dX5_sum_24 : decode cX5_sum 24 = .ok (.aload_n 0, 1) := by decide +kernel
theorem dX5_sum_25 : decode cX5_sum 25 = .ok (.iload_n 3, 1) := by decide +kernel
theorem dX5_sum_26 : decode cX5_sum 26 = .ok (.ifCond .eq 7, 3) := by decide +kernel
theorem dX5_sum_29 : decode cX5_sum 29 = .ok (.iconst 0, 1) := by decide +kernel
theorem dX5_sum_30 : decode cX5_sum 30 = .ok (.goto 4, 3) := by decide +kernel
theorem dX5_sum_33 : decode cX5_sum 33 = .ok (.iconst 1, 1) := by decide +kernel
theorem dX5_sum_34 : decode cX5_sum 34 = .ok (.invokevirtual 74, 3) := by decide +kernel
theorem dX5_sum_37 : decode cX5_sum 37 = .ok (.ifCond .eq 23, 3) := by decide +kernel
theorem dX5_sum_40 : decode cX5_sum 40 = .ok (.aload_n 0, 1) := by decide +kernel
theorem dX5_sum_41 : decode cX5_sum 41 = .ok (.aload_n 0, 1) := by decide +kernel
theorem dX5_sum_42 : decode cX5_sum 42 = .ok (.getfield 41, 3) := by decide +kernel
theorem dX5_sum_45 : decode cX5_sum 45 = .ok (.iload_n 1, 1) := by decide +kernel
theorem dX5_sum_46 : decode cX5_sum 46 = .ok (.aload_n 0, 1) := by decide +kernel
theorem dX5_sum_47 : decode cX5_sum 47 = .ok (.getfield 78, 3) := by decide +kernel
theorem dX5_sum_50 : decode cX5_sum 50 = .ok (.iconst 1, 1) := by decide +kernel
theorem dX5_sum_51 : decode cX5_sum 51 = .ok (.isub, 1) := by decide +kernel
theorem dX5_sum_52 : decode cX5_sum 52 = .ok (.iload_n 2, 1) := by decide +kernel
theorem dX5_sum_53 : decode cX5_sum 53 = .ok (.isub, 1) := by decide +kernel
theorem dX5_sum_54 : decode cX5_sum 54 = .ok (.invokevirtual 123, 3) := by decide +kernel
theorem dX5_sum_57 : decode cX5_sum 57 = .ok (.goto 4, 3) := by decide +kernel
theorem dX5_sum_60 : decode cX5_sum 60 = .ok (.lconst 0, 1) := by decide +kernel
theorem dX5_sum_61 : decode cX5_sum 61 = .ok (.lreturn, 1) := by decide +kernel
theorem dX5_power_0 : decode cX5_power 0 = .ok (.aload_n 0, 1) := by decide +kernel
theorem dX5_power_1 : decode cX5_power 1 = .ok (.iload_n 1, 1) := by decide +kernel
theorem dX5_power_2 : decode cX5_power 2 = .ok (.invokestatic 84, 3) := by decide +kernel
theorem dX5_power_5 : decode cX5_power 5 = .ok (.ifCond .eq 7, 3) := by decide +kernel
theorem dX5_power_8 : decode cX5_power 8 = .ok (.iconst 0, 1) := by decide +kernel
theorem dX5_power_9 : decode cX5_power 9 = .ok (.goto 4, 3) := by decide +kernel
theorem dX5_power_12 : decode cX5_power 12 = .ok (.iconst 1, 1) := by decide +kernel
theorem dX5_power_13 : decode cX5_power 13 = .ok (.invokevirtual 74, 3) := by decide +kernel
theorem dX5_power_16 : decode cX5_power 16 = .ok (.ifCond .eq 15, 3) := by decide +kernel
theorem dX5_power_19 : decode cX5_power 19 = .ok (.aload_n 0, 1) := by decide +kernel
theorem dX5_power_20 : decode cX5_power 20 = .ok (.aload_n 0, 1) := by decide +kernel
theorem dX5_power_21 : decode cX5_power 21 = .ok (.getfield 41, 3) := by decide +kernel
theorem dX5_power_24 : decode cX5_power 24 = .ok (.iload_n 1, 1) := by decide +kernel
theorem dX5_power_25 : decode cX5_power 25 = .ok (.invokevirtual 146, 3) := by decide +kernel
theorem dX5_power_28 : decode cX5_power 28 = .ok (.goto 4, 3) := by decide +kernel
theorem dX5_power_31 : decode cX5_power 31 = .ok (.lconst 0, 1) := by decide +kernel
theorem dX5_power_32 : decode cX5_power 32 = .ok (.lreturn, 1) := by decide +kernel
theorem dX5_powerAnew_0 : decode cX5_powerAnew 0 = .ok (.aload_n 0, 1) := by decide +kernel
theorem dX5_powerAnew_1 : decode cX5_powerAnew 1 = .ok (.iload_n 1, 1) := by decide +kernel
theorem dX5_powerAnew_2 : decode cX5_powerAnew 2 = .ok (.invokestatic 84, 3) := by decide +kernel
theorem dX5_powerAnew_5 : decode cX5_powerAnew 5 = .ok (.ifCond .eq 7, 3) := by decide +kernel
theorem dX5_powerAnew_8 : decode cX5_powerAnew 8 = .ok (.iconst 0, 1) := by decide +kernel
theorem dX5_powerAnew_9 : decode cX5_powerAnew 9 = .ok (.goto 4, 3) := by decide +kernel
theorem dX5_powerAnew_12 : decode cX5_powerAnew 12 = .ok (.iconst 1, 1) := by decide +kernel
theorem dX5_powerAnew_13 : decode cX5_powerAnew 13 = .ok (.invokevirtual 74, 3) := by decide +kernel
theorem dX5_powerAnew_16 : decode cX5_powerAnew 16 = .ok (.ifCond .eq 15, 3) := by decide +kernel
theorem dX5_powerAnew_19 : decode cX5_powerAnew 19 = .ok (.aload_n 0, 1) := by decide +kernel
theorem dX5_powerAnew_20 : decode cX5_powerAnew 20 = .ok (.aload_n 0, 1) := by decide +kernel
theorem dX5_powerAnew_21 : decode cX5_powerAnew 21 = .ok (.getfield 41, 3) := by decide +kernel
theorem dX5_powerAnew_24 : decode cX5_powerAnew 24 = .ok (.iload_n 1, 1) := by decide +kernel
theorem dX5_powerAnew_25 : decode cX5_powerAnew 25 = .ok (.invokevirtual 146, 3) := by decide +kernel
theorem dX5_powerAnew_28 : decode cX5_powerAnew 28 = .ok (.goto 4, 3) := by decide +kernel
theorem dX5_powerAnew_31 : decode cX5_powerAnew 31 = .ok (.lconst 0, 1) := by decide +kernel
theorem dX5_powerAnew_32 : decode cX5_powerAnew 32 = .ok (.lreturn, 1) := by decide +kernel
theorem dX5_findsPowers_0 : decode cX5_findsPowers 0 = .ok (.iconst 0, 1) := by decide +kernel
theorem dX5_findsPowers_1 : decode cX5_findsPowers 1 = .ok (.istore_n 2, 1) := by decide +kernel
theorem dX5_findsPowers_2 : decode cX5_findsPowers 2 = .ok (.iload_n 2, 1) := by decide +kernel
theorem dX5_findsPowers_3 : decode cX5_findsPowers 3 = .ok (.bipush 9, 2) := by decide +kernel
theorem dX5_findsPowers_5 : decode cX5_findsPowers 5 = .ok (.if_icmp .ge 23, 3) := by decide +kernel
theorem dX5_findsPowers_8 : decode cX5_findsPowers 8 = .ok (.aload_n 0, 1) := by decide +kernel
theorem dX5_findsPowers_9 : decode cX5_findsPowers 9 = .ok (.getfield 50, 3) := by decide +kernel
theorem dX5_findsPowers_12 : decode cX5_findsPowers 12 = .ok (.iload_n 2, 1) := by decide +kernel
theorem dX5_findsPowers_13 : decode cX5_findsPowers 13 = .ok (.aload_n 0, 1) := by decide +kernel
theorem dX5_findsPowers_14 : decode cX5_findsPowers 14 = .ok (.aload_n 1, 1) := by decide +kernel
theorem dX5_findsPowers_15 : decode cX5_findsPowers 15 = .ok (.iload_n 2, 1) := by decide +kernel
theorem dX5_findsPowers_16 : decode cX5_findsPowers 16 = .ok (.iconst 4, 1) := by decide +kernel
theorem dX5_findsPowers_17 : decode cX5_findsPowers 17 = .ok (.isub, 1) := by decide +kernel
theorem dX5_findsPowers_18 : decode cX5_findsPowers 18 = .ok (.invokevirtual 146, 3) := by decide +kernel
theorem dX5_findsPowers_21 : decode cX5_findsPowers 21 = .ok (.lastore, 1) := by decide +kernel
theorem dX5_findsPowers_22 : decode cX5_findsPowers 22 = .ok (.iinc 2 1, 3) := by decide +kernel
theorem dX5_findsPowers_25 : decode cX5_findsPowers 25 = .ok (.goto (-23), 3) := by decide +kernel
theorem dX5_findsPowers_28 : decode cX5_findsPowers 28 = .ok (.return_, 1) := by decide +kernel
theorem dX5_greatest_0 : decode cX5_greatest 0 = .ok (.iconst 0, 1) := by decide +kernel
theorem dX5_greatest_1 : decode cX5_greatest 1 = .ok (.istore_n 1, 1) := by decide +kernel
theorem dX5_greatest_2 : decode cX5_greatest 2 = .ok (.iconst 1, 1) := by decide +kernel
theorem dX5_greatest_3 : decode cX5_greatest 3 = .ok (.istore_n 2, 1) := by decide +kernel
theorem dX5_greatest_4 : decode cX5_greatest 4 = .ok (.iload_n 2, 1) := by decide +kernel
theorem dX5_greatest_5 : decode cX5_greatest 5 = .ok (.bipush 9, 2) := by decide +kernel
theorem dX5_greatest_7 : decode cX5_greatest 7 = .ok (.if_icmp .ge 31, 3) := by decide +kernel
theorem dX5_greatest_10 : decode cX5_greatest 10 = .ok (.aload_n 0, 1) := by decide +kernel
theorem dX5_greatest_11 : decode cX5_greatest 11 = .ok (.getfield 50, 3) := by decide +kernel
theorem dX5_greatest_14 : decode cX5_greatest 14 = .ok (.iload_n 2, 1) := by decide +kernel
theorem dX5_greatest_15 : decode cX5_greatest 15 = .ok (.laload, 1) := by decide +kernel
theorem dX5_greatest_16 : decode cX5_greatest 16 = .ok (.aload_n 0, 1) := by decide +kernel
theorem dX5_greatest_17 : decode cX5_greatest 17 = .ok (.getfield 50, 3) := by decide +kernel
theorem dX5_greatest_20 : decode cX5_greatest 20 = .ok (.iload_n 1, 1) := by decide +kernel
theorem dX5_greatest_21 : decode cX5_greatest 21 = .ok (.laload, 1) := by decide +kernel
theorem dX5_greatest_22 : decode cX5_greatest 22 = .ok (.lcmp, 1) := by decide +kernel
theorem dX5_greatest_23 : decode cX5_greatest 23 = .ok (.ifCond .le 7, 3) := by decide +kernel
theorem dX5_greatest_26 : decode cX5_greatest 26 = .ok (.iload_n 2, 1) := by decide +kernel
theorem dX5_greatest_27 : decode cX5_greatest 27 = .ok (.goto 4, 3) := by decide +kernel
theorem dX5_greatest_30 : decode cX5_greatest 30 = .ok (.iload_n 1, 1) := by decide +kernel
theorem dX5_greatest_31 : decode cX5_greatest 31 = .ok (.istore_n 1, 1) := by decide +kernel
theorem dX5_greatest_32 : decode cX5_greatest 32 = .ok (.iinc 2 1, 3) := by decide +kernel
theorem dX5_greatest_35 : decode cX5_greatest 35 = .ok (.goto (-31), 3) := by decide +kernel
theorem dX5_greatest_38 : decode cX5_greatest 38 = .ok (.iload_n 1, 1) := by decide +kernel
theorem dX5_greatest_39 : decode cX5_greatest 39 = .ok (.ireturn, 1) := by decide +kernel
theorem dX5_peaks_0 : decode cX5_peaks 0 = .ok (.aload_n 0, 1) := by decide +kernel
theorem dX5_peaks_1 : decode cX5_peaks 1 = .ok (.iload_n 1, 1) := by decide +kernel
theorem dX5_peaks_2 : decode cX5_peaks 2 = .ok (.iconst 1, 1) := by decide +kernel
theorem dX5_peaks_3 : decode cX5_peaks 3 = .ok (.bipush 100, 2) := by decide +kernel
theorem dX5_peaks_5 : decode cX5_peaks 5 = .ok (.invokestatic 64, 3) := by decide +kernel
theorem dX5_peaks_8 : decode cX5_peaks 8 = .ok (.ifCond .eq 7, 3) := by decide +kernel
theorem dX5_peaks_11 : decode cX5_peaks 11 = .ok (.iconst 0, 1) := by decide +kernel
theorem dX5_peaks_12 : decode cX5_peaks 12 = .ok (.goto 4, 3) := by decide +kernel
theorem dX5_peaks_15 : decode cX5_peaks 15 = .ok (.iconst 1, 1) := by decide +kernel
theorem dX5_peaks_16 : decode cX5_peaks 16 = .ok (.invokevirtual 74, 3) := by decide +kernel
theorem dX5_peaks_19 : decode cX5_peaks 19 = .ok (.ifCond .ne 5, 3) := by decide +kernel
theorem dX5_peaks_22 : decode cX5_peaks 22 = .ok (.iconst 0, 1) := by decide +kernel
theorem dX5_peaks_23 : decode cX5_peaks 23 = .ok (.ireturn, 1) := by decide +kernel
theorem dX5_peaks_24 : decode cX5_peaks 24 = .ok (.aload_n 0, 1) := by decide +kernel
theorem dX5_peaks_25 : decode cX5_peaks 25 = .ok (.aload_n 0, 1) := by decide +kernel
theorem dX5_peaks_26 : decode cX5_peaks 26 = .ok (.getfield 41, 3) := by decide +kernel
theorem dX5_peaks_29 : decode cX5_peaks 29 = .ok (.invokevirtual 150, 3) := by decide +kernel
theorem dX5_peaks_32 : decode cX5_peaks 32 = .ok (.aload_n 0, 1) := by decide +kernel
theorem dX5_peaks_33 : decode cX5_peaks 33 = .ok (.getfield 50, 3) := by decide +kernel
theorem dX5_peaks_36 : decode cX5_peaks 36 = .ok (.aload_n 0, 1) := by decide +kernel
theorem dX5_peaks_37 : decode cX5_peaks 37 = .ok (.invokevirtual 154, 3) := by decide +kernel
theorem dX5_peaks_40 : decode cX5_peaks 40 = .ok (.laload, 1) := by decide +kernel
theorem dX5_peaks_41 : decode cX5_peaks 41 = .ok (.lstore_n 2, 1) := by decide +kernel
theorem dX5_peaks_42 : decode cX5_peaks 42 = .ok (.iconst 0, 1) := by decide +kernel
theorem dX5_peaks_43 : decode cX5_peaks 43 = .ok (.istore 4, 2) := by decide +kernel
theorem dX5_peaks_45 : decode cX5_peaks 45 = .ok (.iconst 0, 1) := by decide +kernel
theorem dX5_peaks_46 : decode cX5_peaks 46 = .ok (.istore 5, 2) := by decide +kernel
theorem dX5_peaks_48 : decode cX5_peaks 48 = .ok (.iload 5, 2) := by decide +kernel
theorem dX5_peaks_50 : decode cX5_peaks 50 = .ok (.bipush 9, 2) := by decide +kernel
theorem dX5_peaks_52 : decode cX5_peaks 52 = .ok (.if_icmp .ge 114, 3) := by decide +kernel
theorem dX5_peaks_55 : decode cX5_peaks 55 = .ok (.iload 5, 2) := by decide +kernel
theorem dX5_peaks_57 : decode cX5_peaks 57 = .ok (.ifCond .eq 23, 3) := by decide +kernel
theorem dX5_peaks_60 : decode cX5_peaks 60 = .ok (.aload_n 0, 1) := by decide +kernel
theorem dX5_peaks_61 : decode cX5_peaks 61 = .ok (.getfield 50, 3) := by decide +kernel
theorem dX5_peaks_64 : decode cX5_peaks 64 = .ok (.iload 5, 2) := by decide +kernel
theorem dX5_peaks_66 : decode cX5_peaks 66 = .ok (.laload, 1) := by decide +kernel
theorem dX5_peaks_67 : decode cX5_peaks 67 = .ok (.aload_n 0, 1) := by decide +kernel
theorem dX5_peaks_68 : decode cX5_peaks 68 = .ok (.getfield 50, 3) := by decide +kernel
theorem dX5_peaks_71 : decode cX5_peaks 71 = .ok (.iload 5, 2) := by decide +kernel
theorem dX5_peaks_73 : decode cX5_peaks 73 = .ok (.iconst 1, 1) := by decide +kernel
theorem dX5_peaks_74 : decode cX5_peaks 74 = .ok (.isub, 1) := by decide +kernel
theorem dX5_peaks_75 : decode cX5_peaks 75 = .ok (.laload, 1) := by decide +kernel
theorem dX5_peaks_76 : decode cX5_peaks 76 = .ok (.lcmp, 1) := by decide +kernel
theorem dX5_peaks_77 : decode cX5_peaks 77 = .ok (.ifCond .le 34, 3) := by decide +kernel
theorem dX5_peaks_80 : decode cX5_peaks 80 = .ok (.iload 5, 2) := by decide +kernel
theorem dX5_peaks_82 : decode cX5_peaks 82 = .ok (.bipush 8, 2) := by decide +kernel
theorem dX5_peaks_84 : decode cX5_peaks 84 = .ok (.if_icmp .eq 23, 3) := by decide +kernel
theorem dX5_peaks_87 : decode cX5_peaks 87 = .ok (.aload_n 0, 1) := by decide +kernel
theorem dX5_peaks_88 : decode cX5_peaks 88 = .ok (.getfield 50, 3) := by decide +kernel
theorem dX5_peaks_91 : decode cX5_peaks 91 = .ok (.iload 5, 2) := by decide +kernel
theorem dX5_peaks_93 : decode cX5_peaks 93 = .ok (.laload, 1) := by decide +kernel
theorem dX5_peaks_94 : decode cX5_peaks 94 = .ok (.aload_n 0, 1) := by decide +kernel
theorem dX5_peaks_95 : decode cX5_peaks 95 = .ok (.getfield 50, 3) := by decide +kernel
theorem dX5_peaks_98 : decode cX5_peaks 98 = .ok (.iload 5, 2) := by decide +kernel
theorem dX5_peaks_100 : decode cX5_peaks 100 = .ok (.iconst 1, 1) := by decide +kernel
theorem dX5_peaks_101 : decode cX5_peaks 101 = .ok (.iadd, 1) := by decide +kernel
theorem dX5_peaks_102 : decode cX5_peaks 102 = .ok (.laload, 1) := by decide +kernel
theorem dX5_peaks_103 : decode cX5_peaks 103 = .ok (.lcmp, 1) := by decide +kernel
theorem dX5_peaks_104 : decode cX5_peaks 104 = .ok (.ifCond .le 7, 3) := by decide +kernel
theorem dX5_peaks_107 : decode cX5_peaks 107 = .ok (.iconst 1, 1) := by decide +kernel
theorem dX5_peaks_108 : decode cX5_peaks 108 = .ok (.goto 4, 3) := by decide +kernel
theorem dX5_peaks_111 : decode cX5_peaks 111 = .ok (.iconst 0, 1) := by decide +kernel
theorem dX5_peaks_112 : decode cX5_peaks 112 = .ok (.istore 6, 2) := by decide +kernel
theorem dX5_peaks_114 : decode cX5_peaks 114 = .ok (.iload 4, 2) := by decide +kernel
theorem dX5_peaks_116 : decode cX5_peaks 116 = .ok (.aload_n 0, 1) := by decide +kernel
theorem dX5_peaks_117 : decode cX5_peaks 117 = .ok (.getfield 50, 3) := by decide +kernel
theorem dX5_peaks_120 : decode cX5_peaks 120 = .ok (.iload 5, 2) := by decide +kernel
theorem dX5_peaks_122 : decode cX5_peaks 122 = .ok (.laload, 1) := by decide +kernel
theorem dX5_peaks_123 : decode cX5_peaks 123 = .ok (.lconst 0, 1) := by decide +kernel
theorem dX5_peaks_124 : decode cX5_peaks 124 = .ok (.lcmp, 1) := by decide +kernel
theorem dX5_peaks_125 : decode cX5_peaks 125 = .ok (.ifCond .le 31, 3) := by decide +kernel
theorem dX5_peaks_128 : decode cX5_peaks 128 = .ok (.iload 6, 2) := by decide +kernel
theorem dX5_peaks_130 : decode cX5_peaks 130 = .ok (.ifCond .eq 26, 3) := by decide +kernel
theorem dX5_peaks_133 : decode cX5_peaks 133 = .ok (.ldc2_w 157, 3) := by decide +kernel
theorem dX5_peaks_136 : decode cX5_peaks 136 = .ok (.aload_n 0, 1) := by decide +kernel
theorem dX5_peaks_137 : decode cX5_peaks 137 = .ok (.getfield 50, 3) := by decide +kernel
theorem dX5_peaks_140 : decode cX5_peaks 140 = .ok (.iload 5, 2) := by decide +kernel
theorem dX5_peaks_142 : decode cX5_peaks 142 = .ok (.laload, 1) := by decide +kernel
theorem dX5_peaks_143 : decode cX5_peaks 143 = .ok (.lmul, 1) := by decide +kernel
theorem dX5_peaks_144 : decode cX5_peaks 144 = .ok (.iload_n 1, 1) := by decide +kernel
theorem dX5_peaks_145 : decode cX5_peaks 145 = .ok (.i2l, 1) := by decide +kernel
theorem dX5_peaks_146 : decode cX5_peaks 146 = .ok (.lload_n 2, 1) := by decide +kernel
theorem dX5_peaks_147 : decode cX5_peaks 147 = .ok (.lmul, 1) := by decide +kernel
theorem dX5_peaks_148 : decode cX5_peaks 148 = .ok (.lcmp, 1) := by decide +kernel
theorem dX5_peaks_149 : decode cX5_peaks 149 = .ok (.ifCond .lt 7, 3) := by decide +kernel
theorem dX5_peaks_152 : decode cX5_peaks 152 = .ok (.iconst 1, 1) := by decide +kernel
theorem dX5_peaks_153 : decode cX5_peaks 153 = .ok (.goto 4, 3) := by decide +kernel
theorem dX5_peaks_156 : decode cX5_peaks 156 = .ok (.iconst 0, 1) := by decide +kernel
theorem dX5_peaks_157 : decode cX5_peaks 157 = .ok (.iadd, 1) := by decide +kernel
theorem dX5_peaks_158 : decode cX5_peaks 158 = .ok (.istore 4, 2) := by decide +kernel
theorem dX5_peaks_160 : decode cX5_peaks 160 = .ok (.iinc 5 1, 3) := by decide +kernel
theorem dX5_peaks_163 : decode cX5_peaks 163 = .ok (.goto (-115), 3) := by decide +kernel
theorem dX5_peaks_166 : decode cX5_peaks 166 = .ok (.iload 4, 2) := by decide +kernel
theorem dX5_peaks_168 : decode cX5_peaks 168 = .ok (.ireturn, 1) := by decide +kernel
theorem dX5_takes_0 : decode cX5_takes 0 = .ok (.iconst 0, 1) := by decide +kernel
theorem dX5_takes_1 : decode cX5_takes 1 = .ok (.istore_n 2, 1) := by decide +kernel
theorem dX5_takes_2 : decode cX5_takes 2 = .ok (.iconst 0, 1) := by decide +kernel
theorem dX5_takes_3 : decode cX5_takes 3 = .ok (.istore_n 3, 1) := by decide +kernel
theorem dX5_takes_4 : decode cX5_takes 4 = .ok (.iload_n 3, 1) := by decide +kernel
theorem dX5_takes_5 : decode cX5_takes 5 = .ok (.aload_n 0, 1) := by decide +kernel
theorem dX5_takes_6 : decode cX5_takes 6 = .ok (.getfield 61, 3) := by decide +kernel
theorem dX5_takes_9 : decode cX5_takes 9 = .ok (.if_icmp .ge 17, 3) := by decide +kernel
theorem dX5_takes_12 : decode cX5_takes 12 = .ok (.iload_n 2, 1) := by decide +kernel
theorem dX5_takes_13 : decode cX5_takes 13 = .ok (.aload_n 0, 1) := by decide +kernel
theorem dX5_takes_14 : decode cX5_takes 14 = .ok (.iload_n 3, 1) := by decide +kernel
theorem dX5_takes_15 : decode cX5_takes 15 = .ok (.invokevirtual 119, 3) := by decide +kernel
theorem dX5_takes_18 : decode cX5_takes 18 = .ok (.iadd, 1) := by decide +kernel
theorem dX5_takes_19 : decode cX5_takes 19 = .ok (.istore_n 2, 1) := by decide +kernel
theorem dX5_takes_20 : decode cX5_takes 20 = .ok (.iinc 3 1, 3) := by decide +kernel
theorem dX5_takes_23 : decode cX5_takes 23 = .ok (.goto (-19), 3) := by decide +kernel
theorem dX5_takes_26 : decode cX5_takes 26 = .ok (.iconst 0, 1) := by decide +kernel
theorem dX5_takes_27 : decode cX5_takes 27 = .ok (.istore_n 3, 1) := by decide +kernel
theorem dX5_takes_28 : decode cX5_takes 28 = .ok (.iload_n 3, 1) := by decide +kernel
theorem dX5_takes_29 : decode cX5_takes 29 = .ok (.bipush 32, 2) := by decide +kernel
theorem dX5_takes_31 : decode cX5_takes 31 = .ok (.if_icmp .ge 41, 3) := by decide +kernel
theorem dX5_takes_34 : decode cX5_takes 34 = .ok (.aload_n 0, 1) := by decide +kernel
theorem dX5_takes_35 : decode cX5_takes 35 = .ok (.getfield 47, 3) := by decide +kernel
theorem dX5_takes_38 : decode cX5_takes 38 = .ok (.iload_n 3, 1) := by decide +kernel
theorem dX5_takes_39 : decode cX5_takes 39 = .ok (.aload_n 0, 1) := by decide +kernel
theorem dX5_takes_40 : decode cX5_takes 40 = .ok (.aload_n 0, 1) := by decide +kernel
theorem dX5_takes_41 : decode cX5_takes 41 = .ok (.getfield 44, 3) := by decide +kernel
theorem dX5_takes_44 : decode cX5_takes 44 = .ok (.iload_n 1, 1) := by decide +kernel
theorem dX5_takes_45 : decode cX5_takes 45 = .ok (.aload_n 0, 1) := by decide +kernel
theorem dX5_takes_46 : decode cX5_takes 46 = .ok (.getfield 78, 3) := by decide +kernel
theorem dX5_takes_49 : decode cX5_takes 49 = .ok (.iconst 1, 1) := by decide +kernel
theorem dX5_takes_50 : decode cX5_takes 50 = .ok (.isub, 1) := by decide +kernel
theorem dX5_takes_51 : decode cX5_takes 51 = .ok (.bipush 47, 2) := by decide +kernel
theorem dX5_takes_53 : decode cX5_takes 53 = .ok (.isub, 1) := by decide +kernel
theorem dX5_takes_54 : decode cX5_takes 54 = .ok (.iload_n 3, 1) := by decide +kernel
theorem dX5_takes_55 : decode cX5_takes 55 = .ok (.iadd, 1) := by decide +kernel
theorem dX5_takes_56 : decode cX5_takes 56 = .ok (.invokevirtual 123, 3) := by decide +kernel
theorem dX5_takes_59 : decode cX5_takes 59 = .ok (.iload_n 2, 1) := by decide +kernel
theorem dX5_takes_60 : decode cX5_takes 60 = .ok (.i2l, 1) := by decide +kernel
theorem dX5_takes_61 : decode cX5_takes 61 = .ok (.invokestatic 70, 3) := by decide +kernel
theorem dX5_takes_64 : decode cX5_takes 64 = .ok (.l2i, 1) := by decide +kernel
theorem dX5_takes_65 : decode cX5_takes 65 = .ok (.iastore, 1) := by decide +kernel
theorem dX5_takes_66 : decode cX5_takes 66 = .ok (.iinc 3 1, 3) := by decide +kernel
theorem dX5_takes_69 : decode cX5_takes 69 = .ok (.goto (-41), 3) := by decide +kernel
theorem dX5_takes_72 : decode cX5_takes 72 = .ok (.iconst 0, 1) := by decide +kernel
theorem dX5_takes_73 : decode cX5_takes 73 = .ok (.istore_n 3, 1) := by decide +kernel
theorem dX5_takes_74 : decode cX5_takes 74 = .ok (.iload_n 3, 1) := by decide +kernel
theorem dX5_takes_75 : decode cX5_takes 75 = .ok (.bipush 32, 2) := by decide +kernel
theorem dX5_takes_77 : decode cX5_takes 77 = .ok (.if_icmp .ge 102, 3) := by decide +kernel
theorem dX5_takes_80 : decode cX5_takes 80 = .ok (.iconst 0, 1) := by decide +kernel
theorem dX5_takes_81 : decode cX5_takes 81 = .ok (.istore 4, 2) := by decide +kernel
theorem dX5_takes_83 : decode cX5_takes 83 = .ok (.iload 4, 2) := by decide +kernel
theorem dX5_takes_85 : decode cX5_takes 85 = .ok (.aload_n 0, 1) := by decide +kernel
theorem dX5_takes_86 : decode cX5_takes 86 = .ok (.getfield 61, 3) := by decide +kernel
theorem dX5_takes_89 : decode cX5_takes 89 = .ok (.if_icmp .ge 84, 3) := by decide +kernel
theorem dX5_takes_92 : decode cX5_takes 92 = .ok (.aload_n 0, 1) := by decide +kernel
theorem dX5_takes_93 : decode cX5_takes 93 = .ok (.getfield 78, 3) := by decide +kernel
theorem dX5_takes_96 : decode cX5_takes 96 = .ok (.iconst 1, 1) := by decide +kernel
theorem dX5_takes_97 : decode cX5_takes 97 = .ok (.isub, 1) := by decide +kernel
theorem dX5_takes_98 : decode cX5_takes 98 = .ok (.bipush 47, 2) := by decide +kernel
theorem dX5_takes_100 : decode cX5_takes 100 = .ok (.isub, 1) := by decide +kernel
theorem dX5_takes_101 : decode cX5_takes 101 = .ok (.iload_n 3, 1) := by decide +kernel
theorem dX5_takes_102 : decode cX5_takes 102 = .ok (.iadd, 1) := by decide +kernel
theorem dX5_takes_103 : decode cX5_takes 103 = .ok (.aload_n 0, 1) := by decide +kernel
theorem dX5_takes_104 : decode cX5_takes 104 = .ok (.iload 4, 2) := by decide +kernel
theorem dX5_takes_106 : decode cX5_takes 106 = .ok (.iload_n 1, 1) := by decide +kernel
theorem dX5_takes_107 : decode cX5_takes 107 = .ok (.invokevirtual 94, 3) := by decide +kernel
theorem dX5_takes_110 : decode cX5_takes 110 = .ok (.iadd, 1) := by decide +kernel
theorem dX5_takes_111 : decode cX5_takes 111 = .ok (.aload_n 0, 1) := by decide +kernel
theorem dX5_takes_112 : decode cX5_takes 112 = .ok (.getfield 29, 3) := by decide +kernel
theorem dX5_takes_115 : decode cX5_takes 115 = .ok (.iload 4, 2) := by decide +kernel
theorem dX5_takes_117 : decode cX5_takes 117 = .ok (.iaload, 1) := by decide +kernel
theorem dX5_takes_118 : decode cX5_takes 118 = .ok (.iadd, 1) := by decide +kernel
theorem dX5_takes_119 : decode cX5_takes 119 = .ok (.istore 5, 2) := by decide +kernel
theorem dX5_takes_121 : decode cX5_takes 121 = .ok (.aload_n 0, 1) := by decide +kernel
theorem dX5_takes_122 : decode cX5_takes 122 = .ok (.getfield 22, 3) := by decide +kernel
theorem dX5_takes_125 : decode cX5_takes 125 = .ok (.iload 4, 2) := by decide +kernel
theorem dX5_takes_127 : decode cX5_takes 127 = .ok (.baload, 1) := by decide +kernel
theorem dX5_takes_128 : decode cX5_takes 128 = .ok (.ifCond .eq 39, 3) := by decide +kernel
theorem dX5_takes_131 : decode cX5_takes 131 = .ok (.aload_n 0, 1) := by decide +kernel
theorem dX5_takes_132 : decode cX5_takes 132 = .ok (.iload 4, 2) := by decide +kernel
theorem dX5_takes_134 : decode cX5_takes 134 = .ok (.iload 5, 2) := by decide +kernel
theorem dX5_takes_136 : decode cX5_takes 136 = .ok (.invokevirtual 111, 3) := by decide +kernel
theorem dX5_takes_139 : decode cX5_takes 139 = .ok (.ifCond .eq 28, 3) := by decide +kernel
theorem dX5_takes_142 : decode cX5_takes 142 = .ok (.aload_n 0, 1) := by decide +kernel
theorem dX5_takes_143 : decode cX5_takes 143 = .ok (.getfield 44, 3) := by decide +kernel
theorem dX5_takes_146 : decode cX5_takes 146 = .ok (.bipush 64, 2) := by decide +kernel
theorem dX5_takes_148 : decode cX5_takes 148 = .ok (.iload 4, 2) := by decide +kernel
theorem dX5_takes_150 : decode cX5_takes 150 = .ok (.imul, 1) := by decide +kernel
theorem dX5_takes_151 : decode cX5_takes 151 = .ok (.iload 5, 2) := by decide +kernel
theorem dX5_takes_153 : decode cX5_takes 153 = .ok (.bipush 64, 2) := by decide +kernel
theorem dX5_takes_155 : decode cX5_takes 155 = .ok (.irem, 1) := by decide +kernel
theorem dX5_takes_156 : decode cX5_takes 156 = .ok (.iadd, 1) := by decide +kernel
theorem dX5_takes_157 : decode cX5_takes 157 = .ok (.dup2, 1) := by decide +kernel
theorem dX5_takes_158 : decode cX5_takes 158 = .ok (.iaload, 1) := by decide +kernel
theorem dX5_takes_159 : decode cX5_takes 159 = .ok (.aload_n 0, 1) := by decide +kernel
theorem dX5_takes_160 : decode cX5_takes 160 = .ok (.getfield 47, 3) := by decide +kernel
theorem dX5_takes_163 : decode cX5_takes 163 = .ok (.iload_n 3, 1) := by decide +kernel
theorem dX5_takes_164 : decode cX5_takes 164 = .ok (.iaload, 1) := by decide +kernel
theorem dX5_takes_165 : decode cX5_takes 165 = .ok (.isub, 1) := by decide +kernel
theorem dX5_takes_166 : decode cX5_takes 166 = .ok (.iastore, 1) := by decide +kernel
theorem dX5_takes_167 : decode cX5_takes 167 = .ok (.iinc 4 1, 3) := by decide +kernel
theorem dX5_takes_170 : decode cX5_takes 170 = .ok (.goto (-87), 3) := by decide +kernel
theorem dX5_takes_173 : decode cX5_takes 173 = .ok (.iinc 3 1, 3) := by decide +kernel
theorem dX5_takes_176 : decode cX5_takes 176 = .ok (.goto (-102), 3) := by decide +kernel
theorem dX5_takes_179 : decode cX5_takes 179 = .ok (.return_, 1) := by decide +kernel
theorem dX5_found_0 : decode cX5_found 0 = .ok (.aload_n 0, 1) := by decide +kernel
theorem dX5_found_1 : decode cX5_found 1 = .ok (.iload_n 1, 1) := by decide +kernel
theorem dX5_found_2 : decode cX5_found 2 = .ok (.iconst 0, 1) := by decide +kernel
theorem dX5_found_3 : decode cX5_found 3 = .ok (.iconst 5, 1) := by decide +kernel
theorem dX5_found_4 : decode cX5_found 4 = .ok (.invokestatic 64, 3) := by decide +kernel
theorem dX5_found_7 : decode cX5_found 7 = .ok (.ifCond .eq 7, 3) := by decide +kernel
theorem dX5_found_10 : decode cX5_found 10 = .ok (.iconst 0, 1) := by decide +kernel
theorem dX5_found_11 : decode cX5_found 11 = .ok (.goto 4, 3) := by decide +kernel
theorem dX5_found_14 : decode cX5_found 14 = .ok (.iconst 1, 1) := by decide +kernel
theorem dX5_found_15 : decode cX5_found 15 = .ok (.invokevirtual 74, 3) := by decide +kernel
theorem dX5_found_18 : decode cX5_found 18 = .ok (.ifCond .ne 5, 3) := by decide +kernel
theorem dX5_found_21 : decode cX5_found 21 = .ok (.iconst 0, 1) := by decide +kernel
theorem dX5_found_22 : decode cX5_found 22 = .ok (.ireturn, 1) := by decide +kernel
theorem dX5_found_23 : decode cX5_found 23 = .ok (.iconst 0, 1) := by decide +kernel
theorem dX5_found_24 : decode cX5_found 24 = .ok (.istore_n 2, 1) := by decide +kernel
theorem dX5_found_25 : decode cX5_found 25 = .ok (.iload_n 2, 1) := by decide +kernel
theorem dX5_found_26 : decode cX5_found 26 = .ok (.sipush 512, 3) := by decide +kernel
theorem dX5_found_29 : decode cX5_found 29 = .ok (.if_icmp .ge 21, 3) := by decide +kernel
theorem dX5_found_32 : decode cX5_found 32 = .ok (.aload_n 0, 1) := by decide +kernel
theorem dX5_found_33 : decode cX5_found 33 = .ok (.getfield 44, 3) := by decide +kernel
theorem dX5_found_36 : decode cX5_found 36 = .ok (.iload_n 2, 1) := by decide +kernel
theorem dX5_found_37 : decode cX5_found 37 = .ok (.aload_n 0, 1) := by decide +kernel
theorem dX5_found_38 : decode cX5_found 38 = .ok (.getfield 41, 3) := by decide +kernel
theorem dX5_found_41 : decode cX5_found 41 = .ok (.iload_n 2, 1) := by decide +kernel
theorem dX5_found_42 : decode cX5_found 42 = .ok (.iaload, 1) := by decide +kernel
theorem dX5_found_43 : decode cX5_found 43 = .ok (.iastore, 1) := by decide +kernel
theorem dX5_found_44 : decode cX5_found 44 = .ok (.iinc 2 1, 3) := by decide +kernel
theorem dX5_found_47 : decode cX5_found 47 = .ok (.goto (-22), 3) := by decide +kernel
theorem dX5_found_50 : decode cX5_found 50 = .ok (.iconst 0, 1) := by decide +kernel
theorem dX5_found_51 : decode cX5_found 51 = .ok (.istore_n 2, 1) := by decide +kernel
theorem dX5_found_52 : decode cX5_found 52 = .ok (.iload_n 2, 1) := by decide +kernel
theorem dX5_found_53 : decode cX5_found 53 = .ok (.iload_n 1, 1) := by decide +kernel
theorem dX5_found_54 : decode cX5_found 54 = .ok (.if_icmp .gt 52, 3) := by decide +kernel
theorem dX5_found_57 : decode cX5_found 57 = .ok (.aload_n 0, 1) := by decide +kernel
theorem dX5_found_58 : decode cX5_found 58 = .ok (.aload_n 0, 1) := by decide +kernel
theorem dX5_found_59 : decode cX5_found 59 = .ok (.getfield 44, 3) := by decide +kernel
theorem dX5_found_62 : decode cX5_found 62 = .ok (.invokevirtual 150, 3) := by decide +kernel
theorem dX5_found_65 : decode cX5_found 65 = .ok (.aload_n 0, 1) := by decide +kernel
theorem dX5_found_66 : decode cX5_found 66 = .ok (.invokevirtual 154, 3) := by decide +kernel
theorem dX5_found_69 : decode cX5_found 69 = .ok (.istore_n 3, 1) := by decide +kernel
theorem dX5_found_70 : decode cX5_found 70 = .ok (.aload_n 0, 1) := by decide +kernel
theorem dX5_found_71 : decode cX5_found 71 = .ok (.getfield 50, 3) := by decide +kernel
theorem dX5_found_74 : decode cX5_found 74 = .ok (.iload_n 3, 1) := by decide +kernel
theorem dX5_found_75 : decode cX5_found 75 = .ok (.laload, 1) := by decide +kernel
theorem dX5_found_76 : decode cX5_found 76 = .ok (.lconst 0, 1) := by decide +kernel
theorem dX5_found_77 : decode cX5_found 77 = .ok (.lcmp, 1) := by decide +kernel
theorem dX5_found_78 : decode cX5_found 78 = .ok (.ifCond .ne 6, 3) := by decide +kernel
end
section
theorem dX5_found_81 : decode cX5_found 81 = .ok (.bipush (-99), 2) := by decide +kernel
theorem dX5_found_83 : decode cX5_found 83 = .ok (.ireturn, 1) := by decide +kernel
theorem dX5_found_84 : decode cX5_found 84 = .ok (.iload_n 2, 1) := by decide +kernel
theorem dX5_found_85 : decode cX5_found 85 = .ok (.iload_n 1, 1) := by decide +kernel
theorem dX5_found_86 : decode cX5_found 86 = .ok (.if_icmp .ne 7, 3) := by decide +kernel
theorem dX5_found_89 : decode cX5_found 89 = .ok (.iload_n 3, 1) := by decide +kernel
theorem dX5_found_90 : decode cX5_found 90 = .ok (.iconst 4, 1) := by decide +kernel
theorem dX5_found_91 : decode cX5_found 91 = .ok (.isub, 1) := by decide +kernel
theorem dX5_found_92 : decode cX5_found 92 = .ok (.ireturn, 1) := by decide +kernel
theorem dX5_found_93 : decode cX5_found 93 = .ok (.aload_n 0, 1) := by decide +kernel
theorem dX5_found_94 : decode cX5_found 94 = .ok (.iload_n 3, 1) := by decide +kernel
theorem dX5_found_95 : decode cX5_found 95 = .ok (.iconst 4, 1) := by decide +kernel
theorem dX5_found_96 : decode cX5_found 96 = .ok (.isub, 1) := by decide +kernel
theorem dX5_found_97 : decode cX5_found 97 = .ok (.invokevirtual 159, 3) := by decide +kernel
theorem dX5_found_100 : decode cX5_found 100 = .ok (.iinc 2 1, 3) := by decide +kernel
theorem dX5_found_103 : decode cX5_found 103 = .ok (.goto (-51), 3) := by decide +kernel
theorem dX5_found_106 : decode cX5_found 106 = .ok (.bipush (-99), 2) := by decide +kernel
theorem dX5_found_108 : decode cX5_found 108 = .ok (.ireturn, 1) := by decide +kernel
theorem dX5_calibrated_0 : decode cX5_calibrated 0 = .ok (.aload_n 0, 1) := by decide +kernel
theorem dX5_calibrated_1 : decode cX5_calibrated 1 = .ok (.aload_n 0, 1) := by decide +kernel
theorem dX5_calibrated_2 : decode cX5_calibrated 2 = .ok (.iload_n 1, 1) := by decide +kernel
theorem dX5_calibrated_3 : decode cX5_calibrated 3 = .ok (.invokevirtual 81, 3) := by decide +kernel
theorem dX5_calibrated_6 : decode cX5_calibrated 6 = .ok (.ifCond .eq 7, 3) := by decide +kernel
theorem dX5_calibrated_9 : decode cX5_calibrated 9 = .ok (.iconst 0, 1) := by decide +kernel
theorem dX5_calibrated_10 : decode cX5_calibrated 10 = .ok (.goto 4, 3) := by decide +kernel
theorem dX5_calibrated_13 : decode cX5_calibrated 13 = .ok (.iconst 1, 1) := by decide +kernel
theorem dX5_calibrated_14 : decode cX5_calibrated 14 = .ok (.invokevirtual 74, 3) := by decide +kernel
theorem dX5_calibrated_17 : decode cX5_calibrated 17 = .ok (.ifCond .eq 25, 3) := by decide +kernel
theorem dX5_calibrated_20 : decode cX5_calibrated 20 = .ok (.iload_n 2, 1) := by decide +kernel
theorem dX5_calibrated_21 : decode cX5_calibrated 21 = .ok (.ifCond .eq 12, 3) := by decide +kernel
theorem dX5_calibrated_24 : decode cX5_calibrated 24 = .ok (.aload_n 0, 1) := by decide +kernel
theorem dX5_calibrated_25 : decode cX5_calibrated 25 = .ok (.getfield 29, 3) := by decide +kernel
theorem dX5_calibrated_28 : decode cX5_calibrated 28 = .ok (.iload_n 1, 1) := by decide +kernel
theorem dX5_calibrated_29 : decode cX5_calibrated 29 = .ok (.iaload, 1) := by decide +kernel
theorem dX5_calibrated_30 : decode cX5_calibrated 30 = .ok (.goto 13, 3) := by decide +kernel
theorem dX5_calibrated_33 : decode cX5_calibrated 33 = .ok (.aload_n 0, 1) := by decide +kernel
theorem dX5_calibrated_34 : decode cX5_calibrated 34 = .ok (.getfield 26, 3) := by decide +kernel
theorem dX5_calibrated_37 : decode cX5_calibrated 37 = .ok (.iload_n 1, 1) := by decide +kernel
theorem dX5_calibrated_38 : decode cX5_calibrated 38 = .ok (.iaload, 1) := by decide +kernel
theorem dX5_calibrated_39 : decode cX5_calibrated 39 = .ok (.goto 4, 3) := by decide +kernel
theorem dX5_calibrated_42 : decode cX5_calibrated 42 = .ok (.iconst 0, 1) := by decide +kernel
theorem dX5_calibrated_43 : decode cX5_calibrated 43 = .ok (.ireturn, 1) := by decide +kernel
theorem dX5_tick_0 : decode cX5_tick 0 = .ok (.aload_n 0, 1) := by decide +kernel
theorem dX5_tick_1 : decode cX5_tick 1 = .ok (.iconst 0, 1) := by decide +kernel
theorem dX5_tick_2 : decode cX5_tick 2 = .ok (.putfield 58, 3) := by decide +kernel
theorem dX5_tick_5 : decode cX5_tick 5 = .ok (.aload_n 0, 1) := by decide +kernel
theorem dX5_tick_6 : decode cX5_tick 6 = .ok (.getfield 78, 3) := by decide +kernel
theorem dX5_tick_9 : decode cX5_tick 9 = .ok (.ireturn, 1) := by decide +kernel
theorem dJ9_floorDiv_7cf53_0 : decode cJ9_floorDiv_7cf53 0 = .ok (.iload_n 0, 1) := by decide +kernel
theorem dJ9_floorDiv_7cf53_1 : decode cJ9_floorDiv_7cf53 1 = .ok (.iload_n 1, 1) := by decide +kernel
theorem dJ9_floorDiv_7cf53_2 : decode cJ9_floorDiv_7cf53 2 = .ok (.idiv, 1) := by decide +kernel
theorem dJ9_floorDiv_7cf53_3 : decode cJ9_floorDiv_7cf53 3 = .ok (.istore_n 2, 1) := by decide +kernel
theorem dJ9_floorDiv_7cf53_4 : decode cJ9_floorDiv_7cf53 4 = .ok (.iload_n 0, 1) := by decide +kernel
theorem dJ9_floorDiv_7cf53_5 : decode cJ9_floorDiv_7cf53 5 = .ok (.iload_n 1, 1) := by decide +kernel
theorem dJ9_floorDiv_7cf53_6 : decode cJ9_floorDiv_7cf53 6 = .ok (.ixor, 1) := by decide +kernel
theorem dJ9_floorDiv_7cf53_7 : decode cJ9_floorDiv_7cf53 7 = .ok (.ifCond .ge 14, 3) := by decide +kernel
theorem dJ9_floorDiv_7cf53_10 : decode cJ9_floorDiv_7cf53 10 = .ok (.iload_n 2, 1) := by decide +kernel
theorem dJ9_floorDiv_7cf53_11 : decode cJ9_floorDiv_7cf53 11 = .ok (.iload_n 1, 1) := by decide +kernel
theorem dJ9_floorDiv_7cf53_12 : decode cJ9_floorDiv_7cf53 12 = .ok (.imul, 1) := by decide +kernel
theorem dJ9_floorDiv_7cf53_13 : decode cJ9_floorDiv_7cf53 13 = .ok (.iload_n 0, 1) := by decide +kernel
theorem dJ9_floorDiv_7cf53_14 : decode cJ9_floorDiv_7cf53 14 = .ok (.if_icmp .eq 7, 3) := by decide +kernel
theorem dJ9_floorDiv_7cf53_17 : decode cJ9_floorDiv_7cf53 17 = .ok (.iload_n 2, 1) := by decide +kernel
theorem dJ9_floorDiv_7cf53_18 : decode cJ9_floorDiv_7cf53 18 = .ok (.iconst 1, 1) := by decide +kernel
theorem dJ9_floorDiv_7cf53_19 : decode cJ9_floorDiv_7cf53 19 = .ok (.isub, 1) := by decide +kernel
theorem dJ9_floorDiv_7cf53_20 : decode cJ9_floorDiv_7cf53 20 = .ok (.ireturn, 1) := by decide +kernel
theorem dJ9_floorDiv_7cf53_21 : decode cJ9_floorDiv_7cf53 21 = .ok (.iload_n 2, 1) := by decide +kernel
theorem dJ9_floorDiv_7cf53_22 : decode cJ9_floorDiv_7cf53 22 = .ok (.ireturn, 1) := by decide +kernel
theorem dJ9_floorDiv_f86c9_0 : decode cJ9_floorDiv_f86c9 0 = .ok (.lload_n 0, 1) := by decide +kernel
theorem dJ9_floorDiv_f86c9_1 : decode cJ9_floorDiv_f86c9 1 = .ok (.lload_n 2, 1) := by decide +kernel
theorem dJ9_floorDiv_f86c9_2 : decode cJ9_floorDiv_f86c9 2 = .ok (.ldiv, 1) := by decide +kernel
theorem dJ9_floorDiv_f86c9_3 : decode cJ9_floorDiv_f86c9 3 = .ok (.lstore 4, 2) := by decide +kernel
theorem dJ9_floorDiv_f86c9_5 : decode cJ9_floorDiv_f86c9 5 = .ok (.lload_n 0, 1) := by decide +kernel
theorem dJ9_floorDiv_f86c9_6 : decode cJ9_floorDiv_f86c9 6 = .ok (.lload_n 2, 1) := by decide +kernel
theorem dJ9_floorDiv_f86c9_7 : decode cJ9_floorDiv_f86c9 7 = .ok (.lxor, 1) := by decide +kernel
theorem dJ9_floorDiv_f86c9_8 : decode cJ9_floorDiv_f86c9 8 = .ok (.lconst 0, 1) := by decide +kernel
theorem dJ9_floorDiv_f86c9_9 : decode cJ9_floorDiv_f86c9 9 = .ok (.lcmp, 1) := by decide +kernel
theorem dJ9_floorDiv_f86c9_10 : decode cJ9_floorDiv_f86c9 10 = .ok (.ifCond .ge 17, 3) := by decide +kernel
theorem dJ9_floorDiv_f86c9_13 : decode cJ9_floorDiv_f86c9 13 = .ok (.lload 4, 2) := by decide +kernel
theorem dJ9_floorDiv_f86c9_15 : decode cJ9_floorDiv_f86c9 15 = .ok (.lload_n 2, 1) := by decide +kernel
theorem dJ9_floorDiv_f86c9_16 : decode cJ9_floorDiv_f86c9 16 = .ok (.lmul, 1) := by decide +kernel
theorem dJ9_floorDiv_f86c9_17 : decode cJ9_floorDiv_f86c9 17 = .ok (.lload_n 0, 1) := by decide +kernel
theorem dJ9_floorDiv_f86c9_18 : decode cJ9_floorDiv_f86c9 18 = .ok (.lcmp, 1) := by decide +kernel
theorem dJ9_floorDiv_f86c9_19 : decode cJ9_floorDiv_f86c9 19 = .ok (.ifCond .eq 8, 3) := by decide +kernel
theorem dJ9_floorDiv_f86c9_22 : decode cJ9_floorDiv_f86c9 22 = .ok (.lload 4, 2) := by decide +kernel
theorem dJ9_floorDiv_f86c9_24 : decode cJ9_floorDiv_f86c9 24 = .ok (.lconst 1, 1) := by decide +kernel
theorem dJ9_floorDiv_f86c9_25 : decode cJ9_floorDiv_f86c9 25 = .ok (.lsub, 1) := by decide +kernel
theorem dJ9_floorDiv_f86c9_26 : decode cJ9_floorDiv_f86c9 26 = .ok (.lreturn, 1) := by decide +kernel
theorem dJ9_floorDiv_f86c9_27 : decode cJ9_floorDiv_f86c9 27 = .ok (.lload 4, 2) := by decide +kernel
theorem dJ9_floorDiv_f86c9_29 : decode cJ9_floorDiv_f86c9 29 = .ok (.lreturn, 1) := by decide +kernel
theorem dJ9_floorMod_7cf53_0 : decode cJ9_floorMod_7cf53 0 = .ok (.iload_n 0, 1) := by decide +kernel
theorem dJ9_floorMod_7cf53_1 : decode cJ9_floorMod_7cf53 1 = .ok (.iload_n 1, 1) := by decide +kernel
theorem dJ9_floorMod_7cf53_2 : decode cJ9_floorMod_7cf53 2 = .ok (.irem, 1) := by decide +kernel
theorem dJ9_floorMod_7cf53_3 : decode cJ9_floorMod_7cf53 3 = .ok (.istore_n 2, 1) := by decide +kernel
theorem dJ9_floorMod_7cf53_4 : decode cJ9_floorMod_7cf53 4 = .ok (.iload_n 0, 1) := by decide +kernel
theorem dJ9_floorMod_7cf53_5 : decode cJ9_floorMod_7cf53 5 = .ok (.iload_n 1, 1) := by decide +kernel
theorem dJ9_floorMod_7cf53_6 : decode cJ9_floorMod_7cf53 6 = .ok (.ixor, 1) := by decide +kernel
theorem dJ9_floorMod_7cf53_7 : decode cJ9_floorMod_7cf53 7 = .ok (.ifCond .ge 11, 3) := by decide +kernel
theorem dJ9_floorMod_7cf53_10 : decode cJ9_floorMod_7cf53 10 = .ok (.iload_n 2, 1) := by decide +kernel
theorem dJ9_floorMod_7cf53_11 : decode cJ9_floorMod_7cf53 11 = .ok (.ifCond .eq 7, 3) := by decide +kernel
theorem dJ9_floorMod_7cf53_14 : decode cJ9_floorMod_7cf53 14 = .ok (.iload_n 2, 1) := by decide +kernel
theorem dJ9_floorMod_7cf53_15 : decode cJ9_floorMod_7cf53 15 = .ok (.iload_n 1, 1) := by decide +kernel
theorem dJ9_floorMod_7cf53_16 : decode cJ9_floorMod_7cf53 16 = .ok (.iadd, 1) := by decide +kernel
theorem dJ9_floorMod_7cf53_17 : decode cJ9_floorMod_7cf53 17 = .ok (.ireturn, 1) := by decide +kernel
theorem dJ9_floorMod_7cf53_18 : decode cJ9_floorMod_7cf53 18 = .ok (.iload_n 2, 1) := by decide +kernel
theorem dJ9_floorMod_7cf53_19 : decode cJ9_floorMod_7cf53 19 = .ok (.ireturn, 1) := by decide +kernel
theorem dJ9_max_f86c9_0 : decode cJ9_max_f86c9 0 = .ok (.lload_n 0, 1) := by decide +kernel
theorem dJ9_max_f86c9_1 : decode cJ9_max_f86c9 1 = .ok (.lload_n 2, 1) := by decide +kernel
theorem dJ9_max_f86c9_2 : decode cJ9_max_f86c9 2 = .ok (.lcmp, 1) := by decide +kernel
theorem dJ9_max_f86c9_3 : decode cJ9_max_f86c9 3 = .ok (.ifCond .lt 7, 3) := by decide +kernel
theorem dJ9_max_f86c9_6 : decode cJ9_max_f86c9 6 = .ok (.lload_n 0, 1) := by decide +kernel
theorem dJ9_max_f86c9_7 : decode cJ9_max_f86c9 7 = .ok (.goto 4, 3) := by decide +kernel
theorem dJ9_max_f86c9_10 : decode cJ9_max_f86c9 10 = .ok (.lload_n 2, 1) := by decide +kernel
theorem dJ9_max_f86c9_11 : decode cJ9_max_f86c9 11 = .ok (.lreturn, 1) := by decide +kernel
theorem dJ9_min_7cf53_0 : decode cJ9_min_7cf53 0 = .ok (.iload_n 0, 1) := by decide +kernel
theorem dJ9_min_7cf53_1 : decode cJ9_min_7cf53 1 = .ok (.iload_n 1, 1) := by decide +kernel
theorem dJ9_min_7cf53_2 : decode cJ9_min_7cf53 2 = .ok (.if_icmp .gt 7, 3) := by decide +kernel
theorem dJ9_min_7cf53_5 : decode cJ9_min_7cf53 5 = .ok (.iload_n 0, 1) := by decide +kernel
theorem dJ9_min_7cf53_6 : decode cJ9_min_7cf53 6 = .ok (.goto 4, 3) := by decide +kernel
theorem dJ9_min_7cf53_9 : decode cJ9_min_7cf53 9 = .ok (.iload_n 1, 1) := by decide +kernel
theorem dJ9_min_7cf53_10 : decode cJ9_min_7cf53 10 = .ok (.ireturn, 1) := by decide +kernel
theorem dJ9_min_f86c9_0 : decode cJ9_min_f86c9 0 = .ok (.lload_n 0, 1) := by decide +kernel
theorem dJ9_min_f86c9_1 : decode cJ9_min_f86c9 1 = .ok (.lload_n 2, 1) := by decide +kernel
theorem dJ9_min_f86c9_2 : decode cJ9_min_f86c9 2 = .ok (.lcmp, 1) := by decide +kernel
theorem dJ9_min_f86c9_3 : decode cJ9_min_f86c9 3 = .ok (.ifCond .gt 7, 3) := by decide +kernel
theorem dJ9_min_f86c9_6 : decode cJ9_min_f86c9 6 = .ok (.lload_n 0, 1) := by decide +kernel
theorem dJ9_min_f86c9_7 : decode cJ9_min_f86c9 7 = .ok (.goto 4, 3) := by decide +kernel
theorem dJ9_min_f86c9_10 : decode cJ9_min_f86c9 10 = .ok (.lload_n 2, 1) := by decide +kernel
theorem dJ9_min_f86c9_11 : decode cJ9_min_f86c9 11 = .ok (.lreturn, 1) := by decide +kernel
theorem dJ7_fill_d0a16_0 : decode cJ7_fill_d0a16 0 = .ok (.iconst 0, 1) := by decide +kernel
theorem dJ7_fill_d0a16_1 : decode cJ7_fill_d0a16 1 = .ok (.istore_n 3, 1) := by decide +kernel
theorem dJ7_fill_d0a16_2 : decode cJ7_fill_d0a16 2 = .ok (.aload_n 0, 1) := by decide +kernel
theorem dJ7_fill_d0a16_3 : decode cJ7_fill_d0a16 3 = .ok (.arraylength, 1) := by decide +kernel
theorem dJ7_fill_d0a16_4 : decode cJ7_fill_d0a16 4 = .ok (.istore 4, 2) := by decide +kernel
theorem dJ7_fill_d0a16_6 : decode cJ7_fill_d0a16 6 = .ok (.iload_n 3, 1) := by decide +kernel
theorem dJ7_fill_d0a16_7 : decode cJ7_fill_d0a16 7 = .ok (.iload 4, 2) := by decide +kernel
theorem dJ7_fill_d0a16_9 : decode cJ7_fill_d0a16 9 = .ok (.if_icmp .ge 13, 3) := by decide +kernel
theorem dJ7_fill_d0a16_12 : decode cJ7_fill_d0a16 12 = .ok (.aload_n 0, 1) := by decide +kernel
theorem dJ7_fill_d0a16_13 : decode cJ7_fill_d0a16 13 = .ok (.iload_n 3, 1) := by decide +kernel
theorem dJ7_fill_d0a16_14 : decode cJ7_fill_d0a16 14 = .ok (.lload_n 1, 1) := by decide +kernel
theorem dJ7_fill_d0a16_15 : decode cJ7_fill_d0a16 15 = .ok (.lastore, 1) := by decide +kernel
theorem dJ7_fill_d0a16_16 : decode cJ7_fill_d0a16 16 = .ok (.iinc 3 1, 3) := by decide +kernel
theorem dJ7_fill_d0a16_19 : decode cJ7_fill_d0a16 19 = .ok (.goto (-13), 3) := by decide +kernel
theorem dJ7_fill_d0a16_22 : decode cJ7_fill_d0a16 22 = .ok (.return_, 1) := by decide +kernel
theorem dL_element_0 : decode cL_element 0 = .ok (.aload 4, 2) := by decide +kernel
theorem dL_element_2 : decode cL_element 2 = .ok (.iconst 0, 1) := by decide +kernel
theorem dL_element_3 : decode cL_element 3 = .ok (.aload_n 0, 1) := by decide +kernel
theorem dL_element_4 : decode cL_element 4 = .ok (.iload_n 1, 1) := by decide +kernel
theorem dL_element_5 : decode cL_element 5 = .ok (.iload_n 2, 1) := by decide +kernel
theorem dL_element_6 : decode cL_element 6 = .ok (.iload_n 3, 1) := by decide +kernel
theorem dL_element_7 : decode cL_element 7 = .ok (.invokevirtual 7, 3) := by decide +kernel
theorem dL_element_10 : decode cL_element 10 = .ok (.i2l, 1) := by decide +kernel
theorem dL_element_11 : decode cL_element 11 = .ok (.lastore, 1) := by decide +kernel
theorem dL_element_12 : decode cL_element 12 = .ok (.goto 11, 3) := by decide +kernel
theorem dL_element_15 : decode cL_element 15 = .ok (.astore 5, 2) := by decide +kernel
theorem dL_element_17 : decode cL_element 17 = .ok (.iconst 1, 1) := by decide +kernel
theorem dL_element_18 : decode cL_element 18 = .ok (.ireturn, 1) := by decide +kernel
theorem dL_element_19 : decode cL_element 19 = .ok (.astore 5, 2) := by decide +kernel
theorem dL_element_21 : decode cL_element 21 = .ok (.iconst 2, 1) := by decide +kernel
theorem dL_element_22 : decode cL_element 22 = .ok (.ireturn, 1) := by decide +kernel
theorem dL_element_23 : decode cL_element 23 = .ok (.iconst 0, 1) := by decide +kernel
theorem dL_element_24 : decode cL_element 24 = .ok (.ireturn, 1) := by decide +kernel
theorem dL_alive_0 : decode cL_alive 0 = .ok (.aload_n 3, 1) := by decide +kernel
theorem dL_alive_1 : decode cL_alive 1 = .ok (.iconst 0, 1) := by decide +kernel
theorem dL_alive_2 : decode cL_alive 2 = .ok (.aload_n 0, 1) := by decide +kernel
theorem dL_alive_3 : decode cL_alive 3 = .ok (.iload_n 1, 1) := by decide +kernel
theorem dL_alive_4 : decode cL_alive 4 = .ok (.iload_n 2, 1) := by decide +kernel
theorem dL_alive_5 : decode cL_alive 5 = .ok (.invokevirtual 17, 3) := by decide +kernel
theorem dL_alive_8 : decode cL_alive 8 = .ok (.ifCond .eq 7, 3) := by decide +kernel
theorem dL_alive_11 : decode cL_alive 11 = .ok (.lconst 1, 1) := by decide +kernel
theorem dL_alive_12 : decode cL_alive 12 = .ok (.goto 4, 3) := by decide +kernel
theorem dL_alive_15 : decode cL_alive 15 = .ok (.lconst 0, 1) := by decide +kernel
theorem dL_alive_16 : decode cL_alive 16 = .ok (.lastore, 1) := by decide +kernel
theorem dL_alive_17 : decode cL_alive 17 = .ok (.goto 7, 3) := by decide +kernel
theorem dL_alive_20 : decode cL_alive 20 = .ok (.astore 4, 2) := by decide +kernel
theorem dL_alive_22 : decode cL_alive 22 = .ok (.iconst 1, 1) := by decide +kernel
theorem dL_alive_23 : decode cL_alive 23 = .ok (.ireturn, 1) := by decide +kernel
theorem dL_alive_24 : decode cL_alive 24 = .ok (.iconst 0, 1) := by decide +kernel
theorem dL_alive_25 : decode cL_alive 25 = .ok (.ireturn, 1) := by decide +kernel
theorem dL_source_0 : decode cL_source 0 = .ok (.aload 4, 2) := by decide +kernel
theorem dL_source_2 : decode cL_source 2 = .ok (.iconst 0, 1) := by decide +kernel
theorem dL_source_3 : decode cL_source 3 = .ok (.aload_n 0, 1) := by decide +kernel
theorem dL_source_4 : decode cL_source 4 = .ok (.iload_n 1, 1) := by decide +kernel
theorem dL_source_5 : decode cL_source 5 = .ok (.iload_n 2, 1) := by decide +kernel
theorem dL_source_6 : decode cL_source 6 = .ok (.iload_n 3, 1) := by decide +kernel
theorem dL_source_7 : decode cL_source 7 = .ok (.invokevirtual 23, 3) := by decide +kernel
theorem dL_source_10 : decode cL_source 10 = .ok (.i2l, 1) := by decide +kernel
theorem dL_source_11 : decode cL_source 11 = .ok (.lastore, 1) := by decide +kernel
theorem dL_source_12 : decode cL_source 12 = .ok (.goto 15, 3) := by decide +kernel
theorem dL_source_15 : decode cL_source 15 = .ok (.astore 5, 2) := by decide +kernel
theorem dL_source_17 : decode cL_source 17 = .ok (.iconst 1, 1) := by decide +kernel
theorem dL_source_18 : decode cL_source 18 = .ok (.ireturn, 1) := by decide +kernel
theorem dL_source_19 : decode cL_source 19 = .ok (.astore 5, 2) := by decide +kernel
theorem dL_source_21 : decode cL_source 21 = .ok (.iconst 2, 1) := by decide +kernel
theorem dL_source_22 : decode cL_source 22 = .ok (.ireturn, 1) := by decide +kernel
theorem dL_source_23 : decode cL_source 23 = .ok (.astore 5, 2) := by decide +kernel
theorem dL_source_25 : decode cL_source 25 = .ok (.iconst 3, 1) := by decide +kernel
theorem dL_source_26 : decode cL_source 26 = .ok (.ireturn, 1) := by decide +kernel
theorem dL_source_27 : decode cL_source 27 = .ok (.iconst 0, 1) := by decide +kernel
theorem dL_source_28 : decode cL_source 28 = .ok (.ireturn, 1) := by decide +kernel
theorem dL_noise_0 : decode cL_noise 0 = .ok (.aload_n 3, 1) := by decide +kernel
theorem dL_noise_1 : decode cL_noise 1 = .ok (.iconst 0, 1) := by decide +kernel
theorem dL_noise_2 : decode cL_noise 2 = .ok (.aload_n 0, 1) := by decide +kernel
theorem dL_noise_3 : decode cL_noise 3 = .ok (.iload_n 1, 1) := by decide +kernel
theorem dL_noise_4 : decode cL_noise 4 = .ok (.iload_n 2, 1) := by decide +kernel
theorem dL_noise_5 : decode cL_noise 5 = .ok (.invokevirtual 26, 3) := by decide +kernel
theorem dL_noise_8 : decode cL_noise 8 = .ok (.i2l, 1) := by decide +kernel
theorem dL_noise_9 : decode cL_noise 9 = .ok (.lastore, 1) := by decide +kernel
theorem dL_noise_10 : decode cL_noise 10 = .ok (.goto 7, 3) := by decide +kernel
theorem dL_noise_13 : decode cL_noise 13 = .ok (.astore 4, 2) := by decide +kernel
theorem dL_noise_15 : decode cL_noise 15 = .ok (.iconst 1, 1) := by decide +kernel
theorem dL_noise_16 : decode cL_noise 16 = .ok (.ireturn, 1) := by decide +kernel
theorem dL_noise_17 : decode cL_noise 17 = .ok (.iconst 0, 1) := by decide +kernel
theorem dL_noise_18 : decode cL_noise 18 = .ok (.ireturn, 1) := by decide +kernel
theorem dL_hear_0 : decode cL_hear 0 = .ok (.aload_n 2, 1) := by decide +kernel
theorem dL_hear_1 : decode cL_hear 1 = .ok (.iconst 0, 1) := by decide +kernel
theorem dL_hear_2 : decode cL_hear 2 = .ok (.aload_n 0, 1) := by decide +kernel
theorem dL_hear_3 : decode cL_hear 3 = .ok (.iload_n 1, 1) := by decide +kernel
theorem dL_hear_4 : decode cL_hear 4 = .ok (.invokevirtual 30, 3) := by decide +kernel
theorem dL_hear_7 : decode cL_hear 7 = .ok (.i2l, 1) := by decide +kernel
theorem dL_hear_8 : decode cL_hear 8 = .ok (.lastore, 1) := by decide +kernel
theorem dL_hear_9 : decode cL_hear 9 = .ok (.goto 6, 3) := by decide +kernel
theorem dL_hear_12 : decode cL_hear 12 = .ok (.astore_n 3, 1) := by decide +kernel
theorem dL_hear_13 : decode cL_hear 13 = .ok (.iconst 1, 1) := by decide +kernel
theorem dL_hear_14 : decode cL_hear 14 = .ok (.ireturn, 1) := by decide +kernel
theorem dL_hear_15 : decode cL_hear 15 = .ok (.iconst 0, 1) := by decide +kernel
theorem dL_hear_16 : decode cL_hear 16 = .ok (.ireturn, 1) := by decide +kernel
theorem dL_window_0 : decode cL_window 0 = .ok (.aload_n 2, 1) := by decide +kernel
theorem dL_window_1 : decode cL_window 1 = .ok (.iconst 0, 1) := by decide +kernel
theorem dL_window_2 : decode cL_window 2 = .ok (.aload_n 0, 1) := by decide +kernel
theorem dL_window_3 : decode cL_window 3 = .ok (.iload_n 1, 1) := by decide +kernel
theorem dL_window_4 : decode cL_window 4 = .ok (.invokevirtual 34, 3) := by decide +kernel
theorem dL_window_7 : decode cL_window 7 = .ok (.i2l, 1) := by decide +kernel
theorem dL_window_8 : decode cL_window 8 = .ok (.lastore, 1) := by decide +kernel
theorem dL_window_9 : decode cL_window 9 = .ok (.goto 6, 3) := by decide +kernel
theorem dL_window_12 : decode cL_window 12 = .ok (.astore_n 3, 1) := by decide +kernel
theorem dL_window_13 : decode cL_window 13 = .ok (.iconst 1, 1) := by decide +kernel
theorem dL_window_14 : decode cL_window 14 = .ok (.ireturn, 1) := by decide +kernel
theorem dL_window_15 : decode cL_window 15 = .ok (.iconst 0, 1) := by decide +kernel
theorem dL_window_16 : decode cL_window 16 = .ok (.ireturn, 1) := by decide +kernel
theorem dL_calibrate_0 : decode cL_calibrate 0 = .ok (.aload_n 2, 1) := by decide +kernel
theorem dL_calibrate_1 : decode cL_calibrate 1 = .ok (.iconst 0, 1) := by decide +kernel
theorem dL_calibrate_2 : decode cL_calibrate 2 = .ok (.aload_n 0, 1) := by decide +kernel
theorem dL_calibrate_3 : decode cL_calibrate 3 = .ok (.iload_n 1, 1) := by decide +kernel
theorem dL_calibrate_4 : decode cL_calibrate 4 = .ok (.invokevirtual 37, 3) := by decide +kernel
theorem dL_calibrate_7 : decode cL_calibrate 7 = .ok (.i2l, 1) := by decide +kernel
theorem dL_calibrate_8 : decode cL_calibrate 8 = .ok (.lastore, 1) := by decide +kernel
theorem dL_calibrate_9 : decode cL_calibrate 9 = .ok (.goto 9, 3) := by decide +kernel
theorem dL_calibrate_12 : decode cL_calibrate 12 = .ok (.astore_n 3, 1) := by decide +kernel
theorem dL_calibrate_13 : decode cL_calibrate 13 = .ok (.iconst 1, 1) := by decide +kernel
theorem dL_calibrate_14 : decode cL_calibrate 14 = .ok (.ireturn, 1) := by decide +kernel
theorem dL_calibrate_15 : decode cL_calibrate 15 = .ok (.astore_n 3, 1) := by decide +kernel
theorem dL_calibrate_16 : decode cL_calibrate 16 = .ok (.iconst 2, 1) := by decide +kernel
theorem dL_calibrate_17 : decode cL_calibrate 17 = .ok (.ireturn, 1) := by decide +kernel
theorem dL_calibrate_18 : decode cL_calibrate 18 = .ok (.iconst 0, 1) := by decide +kernel
theorem dL_calibrate_19 : decode cL_calibrate 19 = .ok (.ireturn, 1) := by decide +kernel
theorem dL_sample_0 : decode cL_sample 0 = .ok (.aload_n 3, 1) := by decide +kernel
theorem dL_sample_1 : decode cL_sample 1 = .ok (.iconst 0, 1) := by decide +kernel
theorem dL_sample_2 : decode cL_sample 2 = .ok (.aload_n 0, 1) := by decide +kernel
theorem dL_sample_3 : decode cL_sample 3 = .ok (.iload_n 1, 1) := by decide +kernel
theorem dL_sample_4 : decode cL_sample 4 = .ok (.iload_n 2, 1) := by decide +kernel
theorem dL_sample_5 : decode cL_sample 5 = .ok (.invokevirtual 40, 3) := by decide +kernel
theorem dL_sample_8 : decode cL_sample 8 = .ok (.i2l, 1) := by decide +kernel
theorem dL_sample_9 : decode cL_sample 9 = .ok (.lastore, 1) := by decide +kernel
theorem dL_sample_10 : decode cL_sample 10 = .ok (.goto 7, 3) := by decide +kernel
theorem dL_sample_13 : decode cL_sample 13 = .ok (.astore 4, 2) := by decide +kernel
theorem dL_sample_15 : decode cL_sample 15 = .ok (.iconst 1, 1) := by decide +kernel
theorem dL_sample_16 : decode cL_sample 16 = .ok (.ireturn, 1) := by decide +kernel
theorem dL_sample_17 : decode cL_sample 17 = .ok (.iconst 0, 1) := by decide +kernel
theorem dL_sample_18 : decode cL_sample 18 = .ok (.ireturn, 1) := by decide +kernel
theorem dL_sum_0 : decode cL_sum 0 = .ok (.aload_n 3, 1) := by decide +kernel
theorem dL_sum_1 : decode cL_sum 1 = .ok (.iconst 0, 1) := by decide +kernel
theorem dL_sum_2 : decode cL_sum 2 = .ok (.aload_n 0, 1) := by decide +kernel
theorem dL_sum_3 : decode cL_sum 3 = .ok (.iload_n 1, 1) := by decide +kernel
theorem dL_sum_4 : decode cL_sum 4 = .ok (.iload_n 2, 1) := by decide +kernel
theorem dL_sum_5 : decode cL_sum 5 = .ok (.invokevirtual 43, 3) := by decide +kernel
theorem dL_sum_8 : decode cL_sum 8 = .ok (.lastore, 1) := by decide +kernel
theorem dL_sum_9 : decode cL_sum 9 = .ok (.goto 7, 3) := by decide +kernel
theorem dL_sum_12 : decode cL_sum 12 = .ok (.astore 4, 2) := by decide +kernel
theorem dL_sum_14 : decode cL_sum 14 = .ok (.iconst 1, 1) := by decide +kernel
theorem dL_sum_15 : decode cL_sum 15 = .ok (.ireturn, 1) := by decide +kernel
theorem dL_sum_16 : decode cL_sum 16 = .ok (.iconst 0, 1) := by decide +kernel
theorem dL_sum_17 : decode cL_sum 17 = .ok (.ireturn, 1) := by decide +kernel
theorem dL_power_0 : decode cL_power 0 = .ok (.aload_n 2, 1) := by decide +kernel
theorem dL_power_1 : decode cL_power 1 = .ok (.iconst 0, 1) := by decide +kernel
theorem dL_power_2 : decode cL_power 2 = .ok (.aload_n 0, 1) := by decide +kernel
theorem dL_power_3 : decode cL_power 3 = .ok (.iload_n 1, 1) := by decide +kernel
theorem dL_power_4 : decode cL_power 4 = .ok (.invokevirtual 47, 3) := by decide +kernel
theorem dL_power_7 : decode cL_power 7 = .ok (.lastore, 1) := by decide +kernel
theorem dL_power_8 : decode cL_power 8 = .ok (.goto 6, 3) := by decide +kernel
theorem dL_power_11 : decode cL_power 11 = .ok (.astore_n 3, 1) := by decide +kernel
theorem dL_power_12 : decode cL_power 12 = .ok (.iconst 1, 1) := by decide +kernel
theorem dL_power_13 : decode cL_power 13 = .ok (.ireturn, 1) := by decide +kernel
theorem dL_power_14 : decode cL_power 14 = .ok (.iconst 0, 1) := by decide +kernel
theorem dL_power_15 : decode cL_power 15 = .ok (.ireturn, 1) := by decide +kernel
theorem dL_powerAnew_0 : decode cL_powerAnew 0 = .ok (.aload_n 2, 1) := by decide +kernel
theorem dL_powerAnew_1 : decode cL_powerAnew 1 = .ok (.iconst 0, 1) := by decide +kernel
theorem dL_powerAnew_2 : decode cL_powerAnew 2 = .ok (.aload_n 0, 1) := by decide +kernel
theorem dL_powerAnew_3 : decode cL_powerAnew 3 = .ok (.iload_n 1, 1) := by decide +kernel
theorem dL_powerAnew_4 : decode cL_powerAnew 4 = .ok (.invokevirtual 51, 3) := by decide +kernel
theorem dL_powerAnew_7 : decode cL_powerAnew 7 = .ok (.lastore, 1) := by decide +kernel
theorem dL_powerAnew_8 : decode cL_powerAnew 8 = .ok (.goto 6, 3) := by decide +kernel
theorem dL_powerAnew_11 : decode cL_powerAnew 11 = .ok (.astore_n 3, 1) := by decide +kernel
theorem dL_powerAnew_12 : decode cL_powerAnew 12 = .ok (.iconst 1, 1) := by decide +kernel
theorem dL_powerAnew_13 : decode cL_powerAnew 13 = .ok (.ireturn, 1) := by decide +kernel
theorem dL_powerAnew_14 : decode cL_powerAnew 14 = .ok (.iconst 0, 1) := by decide +kernel
theorem dL_powerAnew_15 : decode cL_powerAnew 15 = .ok (.ireturn, 1) := by decide +kernel
theorem dL_peaks_0 : decode cL_peaks 0 = .ok (.aload_n 2, 1) := by decide +kernel
theorem dL_peaks_1 : decode cL_peaks 1 = .ok (.iconst 0, 1) := by decide +kernel
theorem dL_peaks_2 : decode cL_peaks 2 = .ok (.aload_n 0, 1) := by decide +kernel
theorem dL_peaks_3 : decode cL_peaks 3 = .ok (.iload_n 1, 1) := by decide +kernel
theorem dL_peaks_4 : decode cL_peaks 4 = .ok (.invokevirtual 54, 3) := by decide +kernel
theorem dL_peaks_7 : decode cL_peaks 7 = .ok (.i2l, 1) := by decide +kernel
theorem dL_peaks_8 : decode cL_peaks 8 = .ok (.lastore, 1) := by decide +kernel
theorem dL_peaks_9 : decode cL_peaks 9 = .ok (.goto 6, 3) := by decide +kernel
theorem dL_peaks_12 : decode cL_peaks 12 = .ok (.astore_n 3, 1) := by decide +kernel
theorem dL_peaks_13 : decode cL_peaks 13 = .ok (.iconst 1, 1) := by decide +kernel
theorem dL_peaks_14 : decode cL_peaks 14 = .ok (.ireturn, 1) := by decide +kernel
theorem dL_peaks_15 : decode cL_peaks 15 = .ok (.iconst 0, 1) := by decide +kernel
theorem dL_peaks_16 : decode cL_peaks 16 = .ok (.ireturn, 1) := by decide +kernel
theorem dL_found_0 : decode cL_found 0 = .ok (.aload_n 2, 1) := by decide +kernel
theorem dL_found_1 : decode cL_found 1 = .ok (.iconst 0, 1) := by decide +kernel
theorem dL_found_2 : decode cL_found 2 = .ok (.aload_n 0, 1) := by decide +kernel
theorem dL_found_3 : decode cL_found 3 = .ok (.iload_n 1, 1) := by decide +kernel
theorem dL_found_4 : decode cL_found 4 = .ok (.invokevirtual 57, 3) := by decide +kernel
theorem dL_found_7 : decode cL_found 7 = .ok (.i2l, 1) := by decide +kernel
theorem dL_found_8 : decode cL_found 8 = .ok (.lastore, 1) := by decide +kernel
theorem dL_found_9 : decode cL_found 9 = .ok (.goto 6, 3) := by decide +kernel
theorem dL_found_12 : decode cL_found 12 = .ok (.astore_n 3, 1) := by decide +kernel
theorem dL_found_13 : decode cL_found 13 = .ok (.iconst 1, 1) := by decide +kernel
theorem dL_found_14 : decode cL_found 14 = .ok (.ireturn, 1) := by decide +kernel
theorem dL_found_15 : decode cL_found 15 = .ok (.iconst 0, 1) := by decide +kernel
theorem dL_found_16 : decode cL_found 16 = .ok (.ireturn, 1) := by decide +kernel
theorem dL_calibrated_0 : decode cL_calibrated 0 = .ok (.aload_n 3, 1) := by decide +kernel
theorem dL_calibrated_1 : decode cL_calibrated 1 = .ok (.iconst 0, 1) := by decide +kernel
theorem dL_calibrated_2 : decode cL_calibrated 2 = .ok (.aload_n 0, 1) := by decide +kernel
theorem dL_calibrated_3 : decode cL_calibrated 3 = .ok (.iload_n 1, 1) := by decide +kernel
theorem dL_calibrated_4 : decode cL_calibrated 4 = .ok (.iload_n 2, 1) := by decide +kernel
theorem dL_calibrated_5 : decode cL_calibrated 5 = .ok (.invokevirtual 60, 3) := by decide +kernel
theorem dL_calibrated_8 : decode cL_calibrated 8 = .ok (.i2l, 1) := by decide +kernel
theorem dL_calibrated_9 : decode cL_calibrated 9 = .ok (.lastore, 1) := by decide +kernel
theorem dL_calibrated_10 : decode cL_calibrated 10 = .ok (.goto 7, 3) := by decide +kernel
theorem dL_calibrated_13 : decode cL_calibrated 13 = .ok (.astore 4, 2) := by decide +kernel
theorem dL_calibrated_15 : decode cL_calibrated 15 = .ok (.iconst 1, 1) := by decide +kernel
theorem dL_calibrated_16 : decode cL_calibrated 16 = .ok (.ireturn, 1) := by decide +kernel
theorem dL_calibrated_17 : decode cL_calibrated 17 = .ok (.iconst 0, 1) := by decide +kernel
theorem dL_calibrated_18 : decode cL_calibrated 18 = .ok (.ireturn, 1) := by decide +kernel
theorem dL_law_0 : decode cL_law 0 = .ok (.new 8, 3) := by decide +kernel
theorem dL_law_3 : decode cL_law 3 = .ok (.dup, 1) := by decide +kernel
theorem dL_law_4 : decode cL_law 4 = .ok (.invokespecial 64, 3) := by decide +kernel
theorem dL_law_7 : decode cL_law 7 = .ok (.astore_n 1, 1) := by decide +kernel
theorem dL_law_8 : decode cL_law 8 = .ok (.new 65, 3) := by decide +kernel
theorem dL_law_11 : decode cL_law 11 = .ok (.dup, 1) := by decide +kernel
theorem dL_law_12 : decode cL_law 12 = .ok (.invokespecial 67, 3) := by decide +kernel
theorem dL_law_15 : decode cL_law 15 = .ok (.astore_n 2, 1) := by decide +kernel
theorem dL_law_16 : decode cL_law 16 = .ok (.iconst 1, 1) := by decide +kernel
theorem dL_law_17 : decode cL_law 17 = .ok (.newarray .long, 2) := by decide +kernel
theorem dL_law_19 : decode cL_law 19 = .ok (.astore_n 3, 1) := by decide +kernel
theorem dL_law_20 : decode cL_law 20 = .ok (.iconst 0, 1) := by decide +kernel
theorem dL_law_21 : decode cL_law 21 = .ok (.istore 4, 2) := by decide +kernel
theorem dL_law_23 : decode cL_law 23 = .ok (.iload 4, 2) := by decide +kernel
theorem dL_law_25 : decode cL_law 25 = .ok (.aload_n 0, 1) := by decide +kernel
theorem dL_law_26 : decode cL_law 26 = .ok (.arraylength, 1) := by decide +kernel
theorem dL_law_27 : decode cL_law 27 = .ok (.iconst 4, 1) := by decide +kernel
theorem dL_law_28 : decode cL_law 28 = .ok (.isub, 1) := by decide +kernel
theorem dL_law_29 : decode cL_law 29 = .ok (.if_icmp .gt 1047, 3) := by decide +kernel
theorem dL_law_32 : decode cL_law 32 = .ok (.aload_n 0, 1) := by decide +kernel
theorem dL_law_33 : decode cL_law 33 = .ok (.iload 4, 2) := by decide +kernel
theorem dL_law_35 : decode cL_law 35 = .ok (.iaload, 1) := by decide +kernel
theorem dL_law_36 : decode cL_law 36 = .ok (.bipush 15, 2) := by decide +kernel
theorem dL_law_38 : decode cL_law 38 = .ok (.iand, 1) := by decide +kernel
theorem dL_law_39 : decode cL_law 39 = .ok (.tableswitch 1031 0 15 #[77, 157, 248, 328, 341, 409, 465, 521, 577, 645, 712, 767, 822, 878, 934, 1018], 77) := by decide +kernel
theorem dL_law_116 : decode cL_law 116 = .ok (.aload_n 1, 1) := by decide +kernel
theorem dL_law_117 : decode cL_law 117 = .ok (.aload_n 0, 1) := by decide +kernel
theorem dL_law_118 : decode cL_law 118 = .ok (.iload 4, 2) := by decide +kernel
theorem dL_law_120 : decode cL_law 120 = .ok (.iconst 1, 1) := by decide +kernel
theorem dL_law_121 : decode cL_law 121 = .ok (.iadd, 1) := by decide +kernel
theorem dL_law_122 : decode cL_law 122 = .ok (.iaload, 1) := by decide +kernel
theorem dL_law_123 : decode cL_law 123 = .ok (.aload_n 0, 1) := by decide +kernel
theorem dL_law_124 : decode cL_law 124 = .ok (.iload 4, 2) := by decide +kernel
theorem dL_law_126 : decode cL_law 126 = .ok (.iconst 2, 1) := by decide +kernel
theorem dL_law_127 : decode cL_law 127 = .ok (.iadd, 1) := by decide +kernel
theorem dL_law_128 : decode cL_law 128 = .ok (.iaload, 1) := by decide +kernel
theorem dL_law_129 : decode cL_law 129 = .ok (.aload_n 0, 1) := by decide +kernel
theorem dL_law_130 : decode cL_law 130 = .ok (.iload 4, 2) := by decide +kernel
theorem dL_law_132 : decode cL_law 132 = .ok (.iconst 3, 1) := by decide +kernel
theorem dL_law_133 : decode cL_law 133 = .ok (.iadd, 1) := by decide +kernel
theorem dL_law_134 : decode cL_law 134 = .ok (.iaload, 1) := by decide +kernel
theorem dL_law_135 : decode cL_law 135 = .ok (.aload_n 3, 1) := by decide +kernel
theorem dL_law_136 : decode cL_law 136 = .ok (.invokestatic 68, 3) := by decide +kernel
theorem dL_law_139 : decode cL_law 139 = .ok (.istore 5, 2) := by decide +kernel
theorem dL_law_141 : decode cL_law 141 = .ok (.aload_n 2, 1) := by decide +kernel
theorem dL_law_142 : decode cL_law 142 = .ok (.aload_n 0, 1) := by decide +kernel
theorem dL_law_143 : decode cL_law 143 = .ok (.iload 4, 2) := by decide +kernel
theorem dL_law_145 : decode cL_law 145 = .ok (.iconst 1, 1) := by decide +kernel
theorem dL_law_146 : decode cL_law 146 = .ok (.iadd, 1) := by decide +kernel
theorem dL_law_147 : decode cL_law 147 = .ok (.iaload, 1) := by decide +kernel
theorem dL_law_148 : decode cL_law 148 = .ok (.aload_n 0, 1) := by decide +kernel
theorem dL_law_149 : decode cL_law 149 = .ok (.iload 4, 2) := by decide +kernel
theorem dL_law_151 : decode cL_law 151 = .ok (.iconst 2, 1) := by decide +kernel
theorem dL_law_152 : decode cL_law 152 = .ok (.iadd, 1) := by decide +kernel
theorem dL_law_153 : decode cL_law 153 = .ok (.iaload, 1) := by decide +kernel
theorem dL_law_154 : decode cL_law 154 = .ok (.aload_n 0, 1) := by decide +kernel
theorem dL_law_155 : decode cL_law 155 = .ok (.iload 4, 2) := by decide +kernel
theorem dL_law_157 : decode cL_law 157 = .ok (.iconst 3, 1) := by decide +kernel
theorem dL_law_158 : decode cL_law 158 = .ok (.iadd, 1) := by decide +kernel
theorem dL_law_159 : decode cL_law 159 = .ok (.iaload, 1) := by decide +kernel
theorem dL_law_160 : decode cL_law 160 = .ok (.invokevirtual 73, 3) := by decide +kernel
theorem dL_law_163 : decode cL_law 163 = .ok (.istore 6, 2) := by decide +kernel
theorem dL_law_165 : decode cL_law 165 = .ok (.aload_n 2, 1) := by decide +kernel
theorem dL_law_166 : decode cL_law 166 = .ok (.invokevirtual 74, 3) := by decide +kernel
theorem dL_law_169 : decode cL_law 169 = .ok (.iload 5, 2) := by decide +kernel
theorem dL_law_171 : decode cL_law 171 = .ok (.if_icmp .eq 5, 3) := by decide +kernel
theorem dL_law_174 : decode cL_law 174 = .ok (.iconst 0, 1) := by decide +kernel
theorem dL_law_175 : decode cL_law 175 = .ok (.ireturn, 1) := by decide +kernel
theorem dL_law_176 : decode cL_law 176 = .ok (.iload 5, 2) := by decide +kernel
theorem dL_law_178 : decode cL_law 178 = .ok (.ifCond .ne 15, 3) := by decide +kernel
theorem dL_law_181 : decode cL_law 181 = .ok (.aload_n 3, 1) := by decide +kernel
theorem dL_law_182 : decode cL_law 182 = .ok (.iconst 0, 1) := by decide +kernel
theorem dL_law_183 : decode cL_law 183 = .ok (.laload, 1) := by decide +kernel
theorem dL_law_184 : decode cL_law 184 = .ok (.iload 6, 2) := by decide +kernel
theorem dL_law_186 : decode cL_law 186 = .ok (.i2l, 1) := by decide +kernel
theorem dL_law_187 : decode cL_law 187 = .ok (.lcmp, 1) := by decide +kernel
theorem dL_law_188 : decode cL_law 188 = .ok (.ifCond .eq 5, 3) := by decide +kernel
theorem dL_law_191 : decode cL_law 191 = .ok (.iconst 0, 1) := by decide +kernel
theorem dL_law_192 : decode cL_law 192 = .ok (.ireturn, 1) := by decide +kernel
theorem dL_law_193 : decode cL_law 193 = .ok (.goto 877, 3) := by decide +kernel
theorem dL_law_196 : decode cL_law 196 = .ok (.aload_n 1, 1) := by decide +kernel
theorem dL_law_197 : decode cL_law 197 = .ok (.aload_n 0, 1) := by decide +kernel
theorem dL_law_198 : decode cL_law 198 = .ok (.iload 4, 2) := by decide +kernel
theorem dL_law_200 : decode cL_law 200 = .ok (.iconst 1, 1) := by decide +kernel
theorem dL_law_201 : decode cL_law 201 = .ok (.iadd, 1) := by decide +kernel
theorem dL_law_202 : decode cL_law 202 = .ok (.iaload, 1) := by decide +kernel
theorem dL_law_203 : decode cL_law 203 = .ok (.aload_n 0, 1) := by decide +kernel
theorem dL_law_204 : decode cL_law 204 = .ok (.iload 4, 2) := by decide +kernel
theorem dL_law_206 : decode cL_law 206 = .ok (.iconst 2, 1) := by decide +kernel
theorem dL_law_207 : decode cL_law 207 = .ok (.iadd, 1) := by decide +kernel
theorem dL_law_208 : decode cL_law 208 = .ok (.iaload, 1) := by decide +kernel
theorem dL_law_209 : decode cL_law 209 = .ok (.ifCond .eq 7, 3) := by decide +kernel
theorem dL_law_212 : decode cL_law 212 = .ok (.iconst 1, 1) := by decide +kernel
theorem dL_law_213 : decode cL_law 213 = .ok (.goto 4, 3) := by decide +kernel
theorem dL_law_216 : decode cL_law 216 = .ok (.iconst 0, 1) := by decide +kernel
theorem dL_law_217 : decode cL_law 217 = .ok (.aload_n 3, 1) := by decide +kernel
theorem dL_law_218 : decode cL_law 218 = .ok (.invokestatic 78, 3) := by decide +kernel
theorem dL_law_221 : decode cL_law 221 = .ok (.istore 5, 2) := by decide +kernel
theorem dL_law_223 : decode cL_law 223 = .ok (.aload_n 2, 1) := by decide +kernel
theorem dL_law_224 : decode cL_law 224 = .ok (.aload_n 0, 1) := by decide +kernel
theorem dL_law_225 : decode cL_law 225 = .ok (.iload 4, 2) := by decide +kernel
theorem dL_law_227 : decode cL_law 227 = .ok (.iconst 1, 1) := by decide +kernel
theorem dL_law_228 : decode cL_law 228 = .ok (.iadd, 1) := by decide +kernel
theorem dL_law_229 : decode cL_law 229 = .ok (.iaload, 1) := by decide +kernel
theorem dL_law_230 : decode cL_law 230 = .ok (.aload_n 0, 1) := by decide +kernel
theorem dL_law_231 : decode cL_law 231 = .ok (.iload 4, 2) := by decide +kernel
theorem dL_law_233 : decode cL_law 233 = .ok (.iconst 2, 1) := by decide +kernel
theorem dL_law_234 : decode cL_law 234 = .ok (.iadd, 1) := by decide +kernel
theorem dL_law_235 : decode cL_law 235 = .ok (.iaload, 1) := by decide +kernel
theorem dL_law_236 : decode cL_law 236 = .ok (.ifCond .eq 7, 3) := by decide +kernel
theorem dL_law_239 : decode cL_law 239 = .ok (.iconst 1, 1) := by decide +kernel
theorem dL_law_240 : decode cL_law 240 = .ok (.goto 4, 3) := by decide +kernel
theorem dL_law_243 : decode cL_law 243 = .ok (.iconst 0, 1) := by decide +kernel
theorem dL_law_244 : decode cL_law 244 = .ok (.invokevirtual 81, 3) := by decide +kernel
theorem dL_law_247 : decode cL_law 247 = .ok (.istore 6, 2) := by decide +kernel
theorem dL_law_249 : decode cL_law 249 = .ok (.aload_n 2, 1) := by decide +kernel
theorem dL_law_250 : decode cL_law 250 = .ok (.invokevirtual 74, 3) := by decide +kernel
theorem dL_law_253 : decode cL_law 253 = .ok (.iload 5, 2) := by decide +kernel
theorem dL_law_255 : decode cL_law 255 = .ok (.if_icmp .eq 5, 3) := by decide +kernel
theorem dL_law_258 : decode cL_law 258 = .ok (.iconst 0, 1) := by decide +kernel
theorem dL_law_259 : decode cL_law 259 = .ok (.ireturn, 1) := by decide +kernel
theorem dL_law_260 : decode cL_law 260 = .ok (.iload 5, 2) := by decide +kernel
theorem dL_law_262 : decode cL_law 262 = .ok (.ifCond .ne 22, 3) := by decide +kernel
theorem dL_law_265 : decode cL_law 265 = .ok (.aload_n 3, 1) := by decide +kernel
theorem dL_law_266 : decode cL_law 266 = .ok (.iconst 0, 1) := by decide +kernel
theorem dL_law_267 : decode cL_law 267 = .ok (.laload, 1) := by decide +kernel
theorem dL_law_268 : decode cL_law 268 = .ok (.iload 6, 2) := by decide +kernel
theorem dL_law_270 : decode cL_law 270 = .ok (.ifCond .eq 7, 3) := by decide +kernel
theorem dL_law_273 : decode cL_law 273 = .ok (.lconst 1, 1) := by decide +kernel
theorem dL_law_274 : decode cL_law 274 = .ok (.goto 4, 3) := by decide +kernel
theorem dL_law_277 : decode cL_law 277 = .ok (.lconst 0, 1) := by decide +kernel
theorem dL_law_278 : decode cL_law 278 = .ok (.lcmp, 1) := by decide +kernel
theorem dL_law_279 : decode cL_law 279 = .ok (.ifCond .eq 5, 3) := by decide +kernel
theorem dL_law_282 : decode cL_law 282 = .ok (.iconst 0, 1) := by decide +kernel
theorem dL_law_283 : decode cL_law 283 = .ok (.ireturn, 1) := by decide +kernel
theorem dL_law_284 : decode cL_law 284 = .ok (.goto 786, 3) := by decide +kernel
theorem dL_law_287 : decode cL_law 287 = .ok (.aload_n 1, 1) := by decide +kernel
theorem dL_law_288 : decode cL_law 288 = .ok (.aload_n 0, 1) := by decide +kernel
theorem dL_law_289 : decode cL_law 289 = .ok (.iload 4, 2) := by decide +kernel
theorem dL_law_291 : decode cL_law 291 = .ok (.iconst 1, 1) := by decide +kernel
theorem dL_law_292 : decode cL_law 292 = .ok (.iadd, 1) := by decide +kernel
theorem dL_law_293 : decode cL_law 293 = .ok (.iaload, 1) := by decide +kernel
theorem dL_law_294 : decode cL_law 294 = .ok (.aload_n 0, 1) := by decide +kernel
theorem dL_law_295 : decode cL_law 295 = .ok (.iload 4, 2) := by decide +kernel
theorem dL_law_297 : decode cL_law 297 = .ok (.iconst 2, 1) := by decide +kernel
theorem dL_law_298 : decode cL_law 298 = .ok (.iadd, 1) := by decide +kernel
theorem dL_law_299 : decode cL_law 299 = .ok (.iaload, 1) := by decide +kernel
theorem dL_law_300 : decode cL_law 300 = .ok (.aload_n 0, 1) := by decide +kernel
theorem dL_law_301 : decode cL_law 301 = .ok (.iload 4, 2) := by decide +kernel
theorem dL_law_303 : decode cL_law 303 = .ok (.iconst 3, 1) := by decide +kernel
theorem dL_law_304 : decode cL_law 304 = .ok (.iadd, 1) := by decide +kernel
theorem dL_law_305 : decode cL_law 305 = .ok (.iaload, 1) := by decide +kernel
theorem dL_law_306 : decode cL_law 306 = .ok (.aload_n 3, 1) := by decide +kernel
theorem dL_law_307 : decode cL_law 307 = .ok (.invokestatic 82, 3) := by decide +kernel
theorem dL_law_310 : decode cL_law 310 = .ok (.istore 5, 2) := by decide +kernel
theorem dL_law_312 : decode cL_law 312 = .ok (.aload_n 2, 1) := by decide +kernel
theorem dL_law_313 : decode cL_law 313 = .ok (.aload_n 0, 1) := by decide +kernel
theorem dL_law_314 : decode cL_law 314 = .ok (.iload 4, 2) := by decide +kernel
theorem dL_law_316 : decode cL_law 316 = .ok (.iconst 1, 1) := by decide +kernel
theorem dL_law_317 : decode cL_law 317 = .ok (.iadd, 1) := by decide +kernel
theorem dL_law_318 : decode cL_law 318 = .ok (.iaload, 1) := by decide +kernel
theorem dL_law_319 : decode cL_law 319 = .ok (.aload_n 0, 1) := by decide +kernel
theorem dL_law_320 : decode cL_law 320 = .ok (.iload 4, 2) := by decide +kernel
theorem dL_law_322 : decode cL_law 322 = .ok (.iconst 2, 1) := by decide +kernel
theorem dL_law_323 : decode cL_law 323 = .ok (.iadd, 1) := by decide +kernel
theorem dL_law_324 : decode cL_law 324 = .ok (.iaload, 1) := by decide +kernel
theorem dL_law_325 : decode cL_law 325 = .ok (.aload_n 0, 1) := by decide +kernel
theorem dL_law_326 : decode cL_law 326 = .ok (.iload 4, 2) := by decide +kernel
theorem dL_law_328 : decode cL_law 328 = .ok (.iconst 3, 1) := by decide +kernel
theorem dL_law_329 : decode cL_law 329 = .ok (.iadd, 1) := by decide +kernel
theorem dL_law_330 : decode cL_law 330 = .ok (.iaload, 1) := by decide +kernel
theorem dL_law_331 : decode cL_law 331 = .ok (.invokevirtual 84, 3) := by decide +kernel
theorem dL_law_334 : decode cL_law 334 = .ok (.istore 6, 2) := by decide +kernel
theorem dL_law_336 : decode cL_law 336 = .ok (.aload_n 2, 1) := by decide +kernel
theorem dL_law_337 : decode cL_law 337 = .ok (.invokevirtual 74, 3) := by decide +kernel
theorem dL_law_340 : decode cL_law 340 = .ok (.iload 5, 2) := by decide +kernel
theorem dL_law_342 : decode cL_law 342 = .ok (.if_icmp .eq 5, 3) := by decide +kernel
theorem dL_law_345 : decode cL_law 345 = .ok (.iconst 0, 1) := by decide +kernel
theorem dL_law_346 : decode cL_law 346 = .ok (.ireturn, 1) := by decide +kernel
theorem dL_law_347 : decode cL_law 347 = .ok (.iload 5, 2) := by decide +kernel
theorem dL_law_349 : decode cL_law 349 = .ok (.ifCond .ne 15, 3) := by decide +kernel
theorem dL_law_352 : decode cL_law 352 = .ok (.aload_n 3, 1) := by decide +kernel
theorem dL_law_353 : decode cL_law 353 = .ok (.iconst 0, 1) := by decide +kernel
theorem dL_law_354 : decode cL_law 354 = .ok (.laload, 1) := by decide +kernel
theorem dL_law_355 : decode cL_law 355 = .ok (.iload 6, 2) := by decide +kernel
theorem dL_law_357 : decode cL_law 357 = .ok (.i2l, 1) := by decide +kernel
theorem dL_law_358 : decode cL_law 358 = .ok (.lcmp, 1) := by decide +kernel
theorem dL_law_359 : decode cL_law 359 = .ok (.ifCond .eq 5, 3) := by decide +kernel
theorem dL_law_362 : decode cL_law 362 = .ok (.iconst 0, 1) := by decide +kernel
theorem dL_law_363 : decode cL_law 363 = .ok (.ireturn, 1) := by decide +kernel
theorem dL_law_364 : decode cL_law 364 = .ok (.goto 706, 3) := by decide +kernel
theorem dL_law_367 : decode cL_law 367 = .ok (.aload_n 1, 1) := by decide +kernel
theorem dL_law_368 : decode cL_law 368 = .ok (.invokevirtual 85, 3) := by decide +kernel
theorem dL_law_371 : decode cL_law 371 = .ok (.aload_n 2, 1) := by decide +kernel
theorem dL_law_372 : decode cL_law 372 = .ok (.invokevirtual 88, 3) := by decide +kernel
theorem dL_law_375 : decode cL_law 375 = .ok (.if_icmp .eq 695, 3) := by decide +kernel
theorem dL_law_378 : decode cL_law 378 = .ok (.iconst 0, 1) := by decide +kernel
theorem dL_law_379 : decode cL_law 379 = .ok (.ireturn, 1) := by decide +kernel
theorem dL_law_380 : decode cL_law 380 = .ok (.aload_n 1, 1) := by decide +kernel
theorem dL_law_381 : decode cL_law 381 = .ok (.aload_n 0, 1) := by decide +kernel
theorem dL_law_382 : decode cL_law 382 = .ok (.iload 4, 2) := by decide +kernel
theorem dL_law_384 : decode cL_law 384 = .ok (.iconst 1, 1) := by decide +kernel
theorem dL_law_385 : decode cL_law 385 = .ok (.iadd, 1) := by decide +kernel
theorem dL_law_386 : decode cL_law 386 = .ok (.iaload, 1) := by decide +kernel
theorem dL_law_387 : decode cL_law 387 = .ok (.aload_n 0, 1) := by decide +kernel
theorem dL_law_388 : decode cL_law 388 = .ok (.iload 4, 2) := by decide +kernel
theorem dL_law_390 : decode cL_law 390 = .ok (.iconst 2, 1) := by decide +kernel
theorem dL_law_391 : decode cL_law 391 = .ok (.iadd, 1) := by decide +kernel
theorem dL_law_392 : decode cL_law 392 = .ok (.iaload, 1) := by decide +kernel
theorem dL_law_393 : decode cL_law 393 = .ok (.aload_n 3, 1) := by decide +kernel
theorem dL_law_394 : decode cL_law 394 = .ok (.invokestatic 89, 3) := by decide +kernel
theorem dL_law_397 : decode cL_law 397 = .ok (.istore 5, 2) := by decide +kernel
theorem dL_law_399 : decode cL_law 399 = .ok (.aload_n 2, 1) := by decide +kernel
theorem dL_law_400 : decode cL_law 400 = .ok (.aload_n 0, 1) := by decide +kernel
theorem dL_law_401 : decode cL_law 401 = .ok (.iload 4, 2) := by decide +kernel
theorem dL_law_403 : decode cL_law 403 = .ok (.iconst 1, 1) := by decide +kernel
theorem dL_law_404 : decode cL_law 404 = .ok (.iadd, 1) := by decide +kernel
theorem dL_law_405 : decode cL_law 405 = .ok (.iaload, 1) := by decide +kernel
theorem dL_law_406 : decode cL_law 406 = .ok (.aload_n 0, 1) := by decide +kernel
theorem dL_law_407 : decode cL_law 407 = .ok (.iload 4, 2) := by decide +kernel
theorem dL_law_409 : decode cL_law 409 = .ok (.iconst 2, 1) := by decide +kernel
theorem dL_law_410 : decode cL_law 410 = .ok (.iadd, 1) := by decide +kernel
theorem dL_law_411 : decode cL_law 411 = .ok (.iaload, 1) := by decide +kernel
theorem dL_law_412 : decode cL_law 412 = .ok (.invokevirtual 92, 3) := by decide +kernel
theorem dL_law_415 : decode cL_law 415 = .ok (.istore 6, 2) := by decide +kernel
theorem dL_law_417 : decode cL_law 417 = .ok (.aload_n 2, 1) := by decide +kernel
theorem dL_law_418 : decode cL_law 418 = .ok (.invokevirtual 74, 3) := by decide +kernel
theorem dL_law_421 : decode cL_law 421 = .ok (.iload 5, 2) := by decide +kernel
theorem dL_law_423 : decode cL_law 423 = .ok (.if_icmp .eq 5, 3) := by decide +kernel
theorem dL_law_426 : decode cL_law 426 = .ok (.iconst 0, 1) := by decide +kernel
theorem dL_law_427 : decode cL_law 427 = .ok (.ireturn, 1) := by decide +kernel
theorem dL_law_428 : decode cL_law 428 = .ok (.iload 5, 2) := by decide +kernel
theorem dL_law_430 : decode cL_law 430 = .ok (.ifCond .ne 15, 3) := by decide +kernel
theorem dL_law_433 : decode cL_law 433 = .ok (.aload_n 3, 1) := by decide +kernel
theorem dL_law_434 : decode cL_law 434 = .ok (.iconst 0, 1) := by decide +kernel
theorem dL_law_435 : decode cL_law 435 = .ok (.laload, 1) := by decide +kernel
theorem dL_law_436 : decode cL_law 436 = .ok (.iload 6, 2) := by decide +kernel
theorem dL_law_438 : decode cL_law 438 = .ok (.i2l, 1) := by decide +kernel
theorem dL_law_439 : decode cL_law 439 = .ok (.lcmp, 1) := by decide +kernel
theorem dL_law_440 : decode cL_law 440 = .ok (.ifCond .eq 5, 3) := by decide +kernel
theorem dL_law_443 : decode cL_law 443 = .ok (.iconst 0, 1) := by decide +kernel
theorem dL_law_444 : decode cL_law 444 = .ok (.ireturn, 1) := by decide +kernel
theorem dL_law_445 : decode cL_law 445 = .ok (.goto 625, 3) := by decide +kernel
theorem dL_law_448 : decode cL_law 448 = .ok (.aload_n 1, 1) := by decide +kernel
theorem dL_law_449 : decode cL_law 449 = .ok (.aload_n 0, 1) := by decide +kernel
theorem dL_law_450 : decode cL_law 450 = .ok (.iload 4, 2) := by decide +kernel
theorem dL_law_452 : decode cL_law 452 = .ok (.iconst 1, 1) := by decide +kernel
theorem dL_law_453 : decode cL_law 453 = .ok (.iadd, 1) := by decide +kernel
theorem dL_law_454 : decode cL_law 454 = .ok (.iaload, 1) := by decide +kernel
theorem dL_law_455 : decode cL_law 455 = .ok (.aload_n 3, 1) := by decide +kernel
theorem dL_law_456 : decode cL_law 456 = .ok (.invokestatic 93, 3) := by decide +kernel
theorem dL_law_459 : decode cL_law 459 = .ok (.istore 5, 2) := by decide +kernel
theorem dL_law_461 : decode cL_law 461 = .ok (.aload_n 2, 1) := by decide +kernel
theorem dL_law_462 : decode cL_law 462 = .ok (.aload_n 0, 1) := by decide +kernel
theorem dL_law_463 : decode cL_law 463 = .ok (.iload 4, 2) := by decide +kernel
theorem dL_law_465 : decode cL_law 465 = .ok (.iconst 1, 1) := by decide +kernel
theorem dL_law_466 : decode cL_law 466 = .ok (.iadd, 1) := by decide +kernel
theorem dL_law_467 : decode cL_law 467 = .ok (.iaload, 1) := by decide +kernel
theorem dL_law_468 : decode cL_law 468 = .ok (.invokevirtual 96, 3) := by decide +kernel
theorem dL_law_471 : decode cL_law 471 = .ok (.istore 6, 2) := by decide +kernel
theorem dL_law_473 : decode cL_law 473 = .ok (.aload_n 2, 1) := by decide +kernel
theorem dL_law_474 : decode cL_law 474 = .ok (.invokevirtual 74, 3) := by decide +kernel
theorem dL_law_477 : decode cL_law 477 = .ok (.iload 5, 2) := by decide +kernel
theorem dL_law_479 : decode cL_law 479 = .ok (.if_icmp .eq 5, 3) := by decide +kernel
theorem dL_law_482 : decode cL_law 482 = .ok (.iconst 0, 1) := by decide +kernel
theorem dL_law_483 : decode cL_law 483 = .ok (.ireturn, 1) := by decide +kernel
theorem dL_law_484 : decode cL_law 484 = .ok (.iload 5, 2) := by decide +kernel
theorem dL_law_486 : decode cL_law 486 = .ok (.ifCond .ne 15, 3) := by decide +kernel
theorem dL_law_489 : decode cL_law 489 = .ok (.aload_n 3, 1) := by decide +kernel
theorem dL_law_490 : decode cL_law 490 = .ok (.iconst 0, 1) := by decide +kernel
theorem dL_law_491 : decode cL_law 491 = .ok (.laload, 1) := by decide +kernel
theorem dL_law_492 : decode cL_law 492 = .ok (.iload 6, 2) := by decide +kernel
theorem dL_law_494 : decode cL_law 494 = .ok (.i2l, 1) := by decide +kernel
theorem dL_law_495 : decode cL_law 495 = .ok (.lcmp, 1) := by decide +kernel
theorem dL_law_496 : decode cL_law 496 = .ok (.ifCond .eq 5, 3) := by decide +kernel
theorem dL_law_499 : decode cL_law 499 = .ok (.iconst 0, 1) := by decide +kernel
theorem dL_law_500 : decode cL_law 500 = .ok (.ireturn, 1) := by decide +kernel
theorem dL_law_501 : decode cL_law 501 = .ok (.goto 569, 3) := by decide +kernel
theorem dL_law_504 : decode cL_law 504 = .ok (.aload_n 1, 1) := by decide +kernel
theorem dL_law_505 : decode cL_law 505 = .ok (.aload_n 0, 1) := by decide +kernel
theorem dL_law_506 : decode cL_law 506 = .ok (.iload 4, 2) := by decide +kernel
theorem dL_law_508 : decode cL_law 508 = .ok (.iconst 1, 1) := by decide +kernel
theorem dL_law_509 : decode cL_law 509 = .ok (.iadd, 1) := by decide +kernel
theorem dL_law_510 : decode cL_law 510 = .ok (.iaload, 1) := by decide +kernel
theorem dL_law_511 : decode cL_law 511 = .ok (.aload_n 3, 1) := by decide +kernel
theorem dL_law_512 : decode cL_law 512 = .ok (.invokestatic 97, 3) := by decide +kernel
theorem dL_law_515 : decode cL_law 515 = .ok (.istore 5, 2) := by decide +kernel
theorem dL_law_517 : decode cL_law 517 = .ok (.aload_n 2, 1) := by decide +kernel
theorem dL_law_518 : decode cL_law 518 = .ok (.aload_n 0, 1) := by decide +kernel
theorem dL_law_519 : decode cL_law 519 = .ok (.iload 4, 2) := by decide +kernel
theorem dL_law_521 : decode cL_law 521 = .ok (.iconst 1, 1) := by decide +kernel
theorem dL_law_522 : decode cL_law 522 = .ok (.iadd, 1) := by decide +kernel
theorem dL_law_523 : decode cL_law 523 = .ok (.iaload, 1) := by decide +kernel
theorem dL_law_524 : decode cL_law 524 = .ok (.invokevirtual 99, 3) := by decide +kernel
theorem dL_law_527 : decode cL_law 527 = .ok (.istore 6, 2) := by decide +kernel
theorem dL_law_529 : decode cL_law 529 = .ok (.aload_n 2, 1) := by decide +kernel
theorem dL_law_530 : decode cL_law 530 = .ok (.invokevirtual 74, 3) := by decide +kernel
theorem dL_law_533 : decode cL_law 533 = .ok (.iload 5, 2) := by decide +kernel
theorem dL_law_535 : decode cL_law 535 = .ok (.if_icmp .eq 5, 3) := by decide +kernel
theorem dL_law_538 : decode cL_law 538 = .ok (.iconst 0, 1) := by decide +kernel
theorem dL_law_539 : decode cL_law 539 = .ok (.ireturn, 1) := by decide +kernel
theorem dL_law_540 : decode cL_law 540 = .ok (.iload 5, 2) := by decide +kernel
theorem dL_law_542 : decode cL_law 542 = .ok (.ifCond .ne 15, 3) := by decide +kernel
theorem dL_law_545 : decode cL_law 545 = .ok (.aload_n 3, 1) := by decide +kernel
theorem dL_law_546 : decode cL_law 546 = .ok (.iconst 0, 1) := by decide +kernel
theorem dL_law_547 : decode cL_law 547 = .ok (.laload, 1) := by decide +kernel
theorem dL_law_548 : decode cL_law 548 = .ok (.iload 6, 2) := by decide +kernel
theorem dL_law_550 : decode cL_law 550 = .ok (.i2l, 1) := by decide +kernel
theorem dL_law_551 : decode cL_law 551 = .ok (.lcmp, 1) := by decide +kernel
theorem dL_law_552 : decode cL_law 552 = .ok (.ifCond .eq 5, 3) := by decide +kernel
theorem dL_law_555 : decode cL_law 555 = .ok (.iconst 0, 1) := by decide +kernel
theorem dL_law_556 : decode cL_law 556 = .ok (.ireturn, 1) := by decide +kernel
theorem dL_law_557 : decode cL_law 557 = .ok (.goto 513, 3) := by decide +kernel
theorem dL_law_560 : decode cL_law 560 = .ok (.aload_n 1, 1) := by decide +kernel
theorem dL_law_561 : decode cL_law 561 = .ok (.aload_n 0, 1) := by decide +kernel
theorem dL_law_562 : decode cL_law 562 = .ok (.iload 4, 2) := by decide +kernel
theorem dL_law_564 : decode cL_law 564 = .ok (.iconst 1, 1) := by decide +kernel
theorem dL_law_565 : decode cL_law 565 = .ok (.iadd, 1) := by decide +kernel
theorem dL_law_566 : decode cL_law 566 = .ok (.iaload, 1) := by decide +kernel
theorem dL_law_567 : decode cL_law 567 = .ok (.aload_n 3, 1) := by decide +kernel
theorem dL_law_568 : decode cL_law 568 = .ok (.invokestatic 100, 3) := by decide +kernel
theorem dL_law_571 : decode cL_law 571 = .ok (.istore 5, 2) := by decide +kernel
theorem dL_law_573 : decode cL_law 573 = .ok (.aload_n 2, 1) := by decide +kernel
theorem dL_law_574 : decode cL_law 574 = .ok (.aload_n 0, 1) := by decide +kernel
theorem dL_law_575 : decode cL_law 575 = .ok (.iload 4, 2) := by decide +kernel
theorem dL_law_577 : decode cL_law 577 = .ok (.iconst 1, 1) := by decide +kernel
theorem dL_law_578 : decode cL_law 578 = .ok (.iadd, 1) := by decide +kernel
theorem dL_law_579 : decode cL_law 579 = .ok (.iaload, 1) := by decide +kernel
theorem dL_law_580 : decode cL_law 580 = .ok (.invokevirtual 102, 3) := by decide +kernel
theorem dL_law_583 : decode cL_law 583 = .ok (.istore 6, 2) := by decide +kernel
theorem dL_law_585 : decode cL_law 585 = .ok (.aload_n 2, 1) := by decide +kernel
theorem dL_law_586 : decode cL_law 586 = .ok (.invokevirtual 74, 3) := by decide +kernel
theorem dL_law_589 : decode cL_law 589 = .ok (.iload 5, 2) := by decide +kernel
theorem dL_law_591 : decode cL_law 591 = .ok (.if_icmp .eq 5, 3) := by decide +kernel
theorem dL_law_594 : decode cL_law 594 = .ok (.iconst 0, 1) := by decide +kernel
theorem dL_law_595 : decode cL_law 595 = .ok (.ireturn, 1) := by decide +kernel
theorem dL_law_596 : decode cL_law 596 = .ok (.iload 5, 2) := by decide +kernel
theorem dL_law_598 : decode cL_law 598 = .ok (.ifCond .ne 15, 3) := by decide +kernel
theorem dL_law_601 : decode cL_law 601 = .ok (.aload_n 3, 1) := by decide +kernel
theorem dL_law_602 : decode cL_law 602 = .ok (.iconst 0, 1) := by decide +kernel
theorem dL_law_603 : decode cL_law 603 = .ok (.laload, 1) := by decide +kernel
theorem dL_law_604 : decode cL_law 604 = .ok (.iload 6, 2) := by decide +kernel
theorem dL_law_606 : decode cL_law 606 = .ok (.i2l, 1) := by decide +kernel
theorem dL_law_607 : decode cL_law 607 = .ok (.lcmp, 1) := by decide +kernel
theorem dL_law_608 : decode cL_law 608 = .ok (.ifCond .eq 5, 3) := by decide +kernel
theorem dL_law_611 : decode cL_law 611 = .ok (.iconst 0, 1) := by decide +kernel
theorem dL_law_612 : decode cL_law 612 = .ok (.ireturn, 1) := by decide +kernel
theorem dL_law_613 : decode cL_law 613 = .ok (.goto 457, 3) := by decide +kernel
theorem dL_law_616 : decode cL_law 616 = .ok (.aload_n 1, 1) := by decide +kernel
theorem dL_law_617 : decode cL_law 617 = .ok (.aload_n 0, 1) := by decide +kernel
theorem dL_law_618 : decode cL_law 618 = .ok (.iload 4, 2) := by decide +kernel
theorem dL_law_620 : decode cL_law 620 = .ok (.iconst 1, 1) := by decide +kernel
theorem dL_law_621 : decode cL_law 621 = .ok (.iadd, 1) := by decide +kernel
theorem dL_law_622 : decode cL_law 622 = .ok (.iaload, 1) := by decide +kernel
theorem dL_law_623 : decode cL_law 623 = .ok (.aload_n 0, 1) := by decide +kernel
theorem dL_law_624 : decode cL_law 624 = .ok (.iload 4, 2) := by decide +kernel
theorem dL_law_626 : decode cL_law 626 = .ok (.iconst 2, 1) := by decide +kernel
theorem dL_law_627 : decode cL_law 627 = .ok (.iadd, 1) := by decide +kernel
theorem dL_law_628 : decode cL_law 628 = .ok (.iaload, 1) := by decide +kernel
theorem dL_law_629 : decode cL_law 629 = .ok (.aload_n 3, 1) := by decide +kernel
theorem dL_law_630 : decode cL_law 630 = .ok (.invokestatic 103, 3) := by decide +kernel
theorem dL_law_633 : decode cL_law 633 = .ok (.istore 5, 2) := by decide +kernel
theorem dL_law_635 : decode cL_law 635 = .ok (.aload_n 2, 1) := by decide +kernel
theorem dL_law_636 : decode cL_law 636 = .ok (.aload_n 0, 1) := by decide +kernel
theorem dL_law_637 : decode cL_law 637 = .ok (.iload 4, 2) := by decide +kernel
theorem dL_law_639 : decode cL_law 639 = .ok (.iconst 1, 1) := by decide +kernel
theorem dL_law_640 : decode cL_law 640 = .ok (.iadd, 1) := by decide +kernel
theorem dL_law_641 : decode cL_law 641 = .ok (.iaload, 1) := by decide +kernel
theorem dL_law_642 : decode cL_law 642 = .ok (.aload_n 0, 1) := by decide +kernel
theorem dL_law_643 : decode cL_law 643 = .ok (.iload 4, 2) := by decide +kernel
theorem dL_law_645 : decode cL_law 645 = .ok (.iconst 2, 1) := by decide +kernel
theorem dL_law_646 : decode cL_law 646 = .ok (.iadd, 1) := by decide +kernel
theorem dL_law_647 : decode cL_law 647 = .ok (.iaload, 1) := by decide +kernel
theorem dL_law_648 : decode cL_law 648 = .ok (.invokevirtual 105, 3) := by decide +kernel
theorem dL_law_651 : decode cL_law 651 = .ok (.istore 6, 2) := by decide +kernel
theorem dL_law_653 : decode cL_law 653 = .ok (.aload_n 2, 1) := by decide +kernel
theorem dL_law_654 : decode cL_law 654 = .ok (.invokevirtual 74, 3) := by decide +kernel
theorem dL_law_657 : decode cL_law 657 = .ok (.iload 5, 2) := by decide +kernel
theorem dL_law_659 : decode cL_law 659 = .ok (.if_icmp .eq 5, 3) := by decide +kernel
theorem dL_law_662 : decode cL_law 662 = .ok (.iconst 0, 1) := by decide +kernel
theorem dL_law_663 : decode cL_law 663 = .ok (.ireturn, 1) := by decide +kernel
theorem dL_law_664 : decode cL_law 664 = .ok (.iload 5, 2) := by decide +kernel
theorem dL_law_666 : decode cL_law 666 = .ok (.ifCond .ne 15, 3) := by decide +kernel
theorem dL_law_669 : decode cL_law 669 = .ok (.aload_n 3, 1) := by decide +kernel
theorem dL_law_670 : decode cL_law 670 = .ok (.iconst 0, 1) := by decide +kernel
theorem dL_law_671 : decode cL_law 671 = .ok (.laload, 1) := by decide +kernel
theorem dL_law_672 : decode cL_law 672 = .ok (.iload 6, 2) := by decide +kernel
theorem dL_law_674 : decode cL_law 674 = .ok (.i2l, 1) := by decide +kernel
theorem dL_law_675 : decode cL_law 675 = .ok (.lcmp, 1) := by decide +kernel
theorem dL_law_676 : decode cL_law 676 = .ok (.ifCond .eq 5, 3) := by decide +kernel
theorem dL_law_679 : decode cL_law 679 = .ok (.iconst 0, 1) := by decide +kernel
theorem dL_law_680 : decode cL_law 680 = .ok (.ireturn, 1) := by decide +kernel
theorem dL_law_681 : decode cL_law 681 = .ok (.goto 389, 3) := by decide +kernel
theorem dL_law_684 : decode cL_law 684 = .ok (.aload_n 1, 1) := by decide +kernel
theorem dL_law_685 : decode cL_law 685 = .ok (.aload_n 0, 1) := by decide +kernel
theorem dL_law_686 : decode cL_law 686 = .ok (.iload 4, 2) := by decide +kernel
theorem dL_law_688 : decode cL_law 688 = .ok (.iconst 1, 1) := by decide +kernel
theorem dL_law_689 : decode cL_law 689 = .ok (.iadd, 1) := by decide +kernel
theorem dL_law_690 : decode cL_law 690 = .ok (.iaload, 1) := by decide +kernel
theorem dL_law_691 : decode cL_law 691 = .ok (.aload_n 0, 1) := by decide +kernel
theorem dL_law_692 : decode cL_law 692 = .ok (.iload 4, 2) := by decide +kernel
theorem dL_law_694 : decode cL_law 694 = .ok (.iconst 2, 1) := by decide +kernel
theorem dL_law_695 : decode cL_law 695 = .ok (.iadd, 1) := by decide +kernel
theorem dL_law_696 : decode cL_law 696 = .ok (.iaload, 1) := by decide +kernel
theorem dL_law_697 : decode cL_law 697 = .ok (.aload_n 3, 1) := by decide +kernel
theorem dL_law_698 : decode cL_law 698 = .ok (.invokestatic 106, 3) := by decide +kernel
theorem dL_law_701 : decode cL_law 701 = .ok (.istore 5, 2) := by decide +kernel
theorem dL_law_703 : decode cL_law 703 = .ok (.aload_n 2, 1) := by decide +kernel
theorem dL_law_704 : decode cL_law 704 = .ok (.aload_n 0, 1) := by decide +kernel
theorem dL_law_705 : decode cL_law 705 = .ok (.iload 4, 2) := by decide +kernel
theorem dL_law_707 : decode cL_law 707 = .ok (.iconst 1, 1) := by decide +kernel
theorem dL_law_708 : decode cL_law 708 = .ok (.iadd, 1) := by decide +kernel
theorem dL_law_709 : decode cL_law 709 = .ok (.iaload, 1) := by decide +kernel
theorem dL_law_710 : decode cL_law 710 = .ok (.aload_n 0, 1) := by decide +kernel
theorem dL_law_711 : decode cL_law 711 = .ok (.iload 4, 2) := by decide +kernel
theorem dL_law_713 : decode cL_law 713 = .ok (.iconst 2, 1) := by decide +kernel
theorem dL_law_714 : decode cL_law 714 = .ok (.iadd, 1) := by decide +kernel
theorem dL_law_715 : decode cL_law 715 = .ok (.iaload, 1) := by decide +kernel
theorem dL_law_716 : decode cL_law 716 = .ok (.invokevirtual 108, 3) := by decide +kernel
theorem dL_law_719 : decode cL_law 719 = .ok (.lstore 6, 2) := by decide +kernel
theorem dL_law_721 : decode cL_law 721 = .ok (.aload_n 2, 1) := by decide +kernel
theorem dL_law_722 : decode cL_law 722 = .ok (.invokevirtual 74, 3) := by decide +kernel
theorem dL_law_725 : decode cL_law 725 = .ok (.iload 5, 2) := by decide +kernel
theorem dL_law_727 : decode cL_law 727 = .ok (.if_icmp .eq 5, 3) := by decide +kernel
theorem dL_law_730 : decode cL_law 730 = .ok (.iconst 0, 1) := by decide +kernel
theorem dL_law_731 : decode cL_law 731 = .ok (.ireturn, 1) := by decide +kernel
theorem dL_law_732 : decode cL_law 732 = .ok (.iload 5, 2) := by decide +kernel
theorem dL_law_734 : decode cL_law 734 = .ok (.ifCond .ne 14, 3) := by decide +kernel
theorem dL_law_737 : decode cL_law 737 = .ok (.aload_n 3, 1) := by decide +kernel
theorem dL_law_738 : decode cL_law 738 = .ok (.iconst 0, 1) := by decide +kernel
theorem dL_law_739 : decode cL_law 739 = .ok (.laload, 1) := by decide +kernel
theorem dL_law_740 : decode cL_law 740 = .ok (.lload 6, 2) := by decide +kernel
theorem dL_law_742 : decode cL_law 742 = .ok (.lcmp, 1) := by decide +kernel
theorem dL_law_743 : decode cL_law 743 = .ok (.ifCond .eq 5, 3) := by decide +kernel
theorem dL_law_746 : decode cL_law 746 = .ok (.iconst 0, 1) := by decide +kernel
theorem dL_law_747 : decode cL_law 747 = .ok (.ireturn, 1) := by decide +kernel
theorem dL_law_748 : decode cL_law 748 = .ok (.goto 322, 3) := by decide +kernel
theorem dL_law_751 : decode cL_law 751 = .ok (.aload_n 1, 1) := by decide +kernel
theorem dL_law_752 : decode cL_law 752 = .ok (.aload_n 0, 1) := by decide +kernel
theorem dL_law_753 : decode cL_law 753 = .ok (.iload 4, 2) := by decide +kernel
theorem dL_law_755 : decode cL_law 755 = .ok (.iconst 1, 1) := by decide +kernel
theorem dL_law_756 : decode cL_law 756 = .ok (.iadd, 1) := by decide +kernel
theorem dL_law_757 : decode cL_law 757 = .ok (.iaload, 1) := by decide +kernel
theorem dL_law_758 : decode cL_law 758 = .ok (.aload_n 3, 1) := by decide +kernel
theorem dL_law_759 : decode cL_law 759 = .ok (.invokestatic 109, 3) := by decide +kernel
theorem dL_law_762 : decode cL_law 762 = .ok (.istore 5, 2) := by decide +kernel
theorem dL_law_764 : decode cL_law 764 = .ok (.aload_n 2, 1) := by decide +kernel
theorem dL_law_765 : decode cL_law 765 = .ok (.aload_n 0, 1) := by decide +kernel
theorem dL_law_766 : decode cL_law 766 = .ok (.iload 4, 2) := by decide +kernel
theorem dL_law_768 : decode cL_law 768 = .ok (.iconst 1, 1) := by decide +kernel
theorem dL_law_769 : decode cL_law 769 = .ok (.iadd, 1) := by decide +kernel
theorem dL_law_770 : decode cL_law 770 = .ok (.iaload, 1) := by decide +kernel
theorem dL_law_771 : decode cL_law 771 = .ok (.invokevirtual 111, 3) := by decide +kernel
theorem dL_law_774 : decode cL_law 774 = .ok (.lstore 6, 2) := by decide +kernel
theorem dL_law_776 : decode cL_law 776 = .ok (.aload_n 2, 1) := by decide +kernel
theorem dL_law_777 : decode cL_law 777 = .ok (.invokevirtual 74, 3) := by decide +kernel
theorem dL_law_780 : decode cL_law 780 = .ok (.iload 5, 2) := by decide +kernel
theorem dL_law_782 : decode cL_law 782 = .ok (.if_icmp .eq 5, 3) := by decide +kernel
theorem dL_law_785 : decode cL_law 785 = .ok (.iconst 0, 1) := by decide +kernel
theorem dL_law_786 : decode cL_law 786 = .ok (.ireturn, 1) := by decide +kernel
theorem dL_law_787 : decode cL_law 787 = .ok (.iload 5, 2) := by decide +kernel
theorem dL_law_789 : decode cL_law 789 = .ok (.ifCond .ne 14, 3) := by decide +kernel
theorem dL_law_792 : decode cL_law 792 = .ok (.aload_n 3, 1) := by decide +kernel
theorem dL_law_793 : decode cL_law 793 = .ok (.iconst 0, 1) := by decide +kernel
theorem dL_law_794 : decode cL_law 794 = .ok (.laload, 1) := by decide +kernel
theorem dL_law_795 : decode cL_law 795 = .ok (.lload 6, 2) := by decide +kernel
theorem dL_law_797 : decode cL_law 797 = .ok (.lcmp, 1) := by decide +kernel
theorem dL_law_798 : decode cL_law 798 = .ok (.ifCond .eq 5, 3) := by decide +kernel
theorem dL_law_801 : decode cL_law 801 = .ok (.iconst 0, 1) := by decide +kernel
theorem dL_law_802 : decode cL_law 802 = .ok (.ireturn, 1) := by decide +kernel
theorem dL_law_803 : decode cL_law 803 = .ok (.goto 267, 3) := by decide +kernel
theorem dL_law_806 : decode cL_law 806 = .ok (.aload_n 1, 1) := by decide +kernel
theorem dL_law_807 : decode cL_law 807 = .ok (.aload_n 0, 1) := by decide +kernel
theorem dL_law_808 : decode cL_law 808 = .ok (.iload 4, 2) := by decide +kernel
theorem dL_law_810 : decode cL_law 810 = .ok (.iconst 1, 1) := by decide +kernel
theorem dL_law_811 : decode cL_law 811 = .ok (.iadd, 1) := by decide +kernel
theorem dL_law_812 : decode cL_law 812 = .ok (.iaload, 1) := by decide +kernel
theorem dL_law_813 : decode cL_law 813 = .ok (.aload_n 3, 1) := by decide +kernel
theorem dL_law_814 : decode cL_law 814 = .ok (.invokestatic 112, 3) := by decide +kernel
theorem dL_law_817 : decode cL_law 817 = .ok (.istore 5, 2) := by decide +kernel
theorem dL_law_819 : decode cL_law 819 = .ok (.aload_n 2, 1) := by decide +kernel
theorem dL_law_820 : decode cL_law 820 = .ok (.aload_n 0, 1) := by decide +kernel
theorem dL_law_821 : decode cL_law 821 = .ok (.iload 4, 2) := by decide +kernel
theorem dL_law_823 : decode cL_law 823 = .ok (.iconst 1, 1) := by decide +kernel
theorem dL_law_824 : decode cL_law 824 = .ok (.iadd, 1) := by decide +kernel
theorem dL_law_825 : decode cL_law 825 = .ok (.iaload, 1) := by decide +kernel
theorem dL_law_826 : decode cL_law 826 = .ok (.invokevirtual 114, 3) := by decide +kernel
theorem dL_law_829 : decode cL_law 829 = .ok (.lstore 6, 2) := by decide +kernel
theorem dL_law_831 : decode cL_law 831 = .ok (.aload_n 2, 1) := by decide +kernel
theorem dL_law_832 : decode cL_law 832 = .ok (.invokevirtual 74, 3) := by decide +kernel
theorem dL_law_835 : decode cL_law 835 = .ok (.iload 5, 2) := by decide +kernel
theorem dL_law_837 : decode cL_law 837 = .ok (.if_icmp .eq 5, 3) := by decide +kernel
theorem dL_law_840 : decode cL_law 840 = .ok (.iconst 0, 1) := by decide +kernel
theorem dL_law_841 : decode cL_law 841 = .ok (.ireturn, 1) := by decide +kernel
theorem dL_law_842 : decode cL_law 842 = .ok (.iload 5, 2) := by decide +kernel
theorem dL_law_844 : decode cL_law 844 = .ok (.ifCond .ne 14, 3) := by decide +kernel
theorem dL_law_847 : decode cL_law 847 = .ok (.aload_n 3, 1) := by decide +kernel
theorem dL_law_848 : decode cL_law 848 = .ok (.iconst 0, 1) := by decide +kernel
theorem dL_law_849 : decode cL_law 849 = .ok (.laload, 1) := by decide +kernel
theorem dL_law_850 : decode cL_law 850 = .ok (.lload 6, 2) := by decide +kernel
theorem dL_law_852 : decode cL_law 852 = .ok (.lcmp, 1) := by decide +kernel
theorem dL_law_853 : decode cL_law 853 = .ok (.ifCond .eq 5, 3) := by decide +kernel
theorem dL_law_856 : decode cL_law 856 = .ok (.iconst 0, 1) := by decide +kernel
theorem dL_law_857 : decode cL_law 857 = .ok (.ireturn, 1) := by decide +kernel
theorem dL_law_858 : decode cL_law 858 = .ok (.goto 212, 3) := by decide +kernel
theorem dL_law_861 : decode cL_law 861 = .ok (.aload_n 1, 1) := by decide +kernel
theorem dL_law_862 : decode cL_law 862 = .ok (.aload_n 0, 1) := by decide +kernel
theorem dL_law_863 : decode cL_law 863 = .ok (.iload 4, 2) := by decide +kernel
theorem dL_law_865 : decode cL_law 865 = .ok (.iconst 1, 1) := by decide +kernel
theorem dL_law_866 : decode cL_law 866 = .ok (.iadd, 1) := by decide +kernel
theorem dL_law_867 : decode cL_law 867 = .ok (.iaload, 1) := by decide +kernel
theorem dL_law_868 : decode cL_law 868 = .ok (.aload_n 3, 1) := by decide +kernel
theorem dL_law_869 : decode cL_law 869 = .ok (.invokestatic 115, 3) := by decide +kernel
theorem dL_law_872 : decode cL_law 872 = .ok (.istore 5, 2) := by decide +kernel
theorem dL_law_874 : decode cL_law 874 = .ok (.aload_n 2, 1) := by decide +kernel
theorem dL_law_875 : decode cL_law 875 = .ok (.aload_n 0, 1) := by decide +kernel
theorem dL_law_876 : decode cL_law 876 = .ok (.iload 4, 2) := by decide +kernel
theorem dL_law_878 : decode cL_law 878 = .ok (.iconst 1, 1) := by decide +kernel
theorem dL_law_879 : decode cL_law 879 = .ok (.iadd, 1) := by decide +kernel
theorem dL_law_880 : decode cL_law 880 = .ok (.iaload, 1) := by decide +kernel
theorem dL_law_881 : decode cL_law 881 = .ok (.invokevirtual 117, 3) := by decide +kernel
theorem dL_law_884 : decode cL_law 884 = .ok (.istore 6, 2) := by decide +kernel
theorem dL_law_886 : decode cL_law 886 = .ok (.aload_n 2, 1) := by decide +kernel
theorem dL_law_887 : decode cL_law 887 = .ok (.invokevirtual 74, 3) := by decide +kernel
theorem dL_law_890 : decode cL_law 890 = .ok (.iload 5, 2) := by decide +kernel
theorem dL_law_892 : decode cL_law 892 = .ok (.if_icmp .eq 5, 3) := by decide +kernel
theorem dL_law_895 : decode cL_law 895 = .ok (.iconst 0, 1) := by decide +kernel
theorem dL_law_896 : decode cL_law 896 = .ok (.ireturn, 1) := by decide +kernel
theorem dL_law_897 : decode cL_law 897 = .ok (.iload 5, 2) := by decide +kernel
theorem dL_law_899 : decode cL_law 899 = .ok (.ifCond .ne 15, 3) := by decide +kernel
theorem dL_law_902 : decode cL_law 902 = .ok (.aload_n 3, 1) := by decide +kernel
theorem dL_law_903 : decode cL_law 903 = .ok (.iconst 0, 1) := by decide +kernel
theorem dL_law_904 : decode cL_law 904 = .ok (.laload, 1) := by decide +kernel
theorem dL_law_905 : decode cL_law 905 = .ok (.iload 6, 2) := by decide +kernel
theorem dL_law_907 : decode cL_law 907 = .ok (.i2l, 1) := by decide +kernel
theorem dL_law_908 : decode cL_law 908 = .ok (.lcmp, 1) := by decide +kernel
theorem dL_law_909 : decode cL_law 909 = .ok (.ifCond .eq 5, 3) := by decide +kernel
theorem dL_law_912 : decode cL_law 912 = .ok (.iconst 0, 1) := by decide +kernel
theorem dL_law_913 : decode cL_law 913 = .ok (.ireturn, 1) := by decide +kernel
theorem dL_law_914 : decode cL_law 914 = .ok (.goto 156, 3) := by decide +kernel
theorem dL_law_917 : decode cL_law 917 = .ok (.aload_n 1, 1) := by decide +kernel
theorem dL_law_918 : decode cL_law 918 = .ok (.aload_n 0, 1) := by decide +kernel
theorem dL_law_919 : decode cL_law 919 = .ok (.iload 4, 2) := by decide +kernel
theorem dL_law_921 : decode cL_law 921 = .ok (.iconst 1, 1) := by decide +kernel
theorem dL_law_922 : decode cL_law 922 = .ok (.iadd, 1) := by decide +kernel
theorem dL_law_923 : decode cL_law 923 = .ok (.iaload, 1) := by decide +kernel
theorem dL_law_924 : decode cL_law 924 = .ok (.aload_n 3, 1) := by decide +kernel
theorem dL_law_925 : decode cL_law 925 = .ok (.invokestatic 118, 3) := by decide +kernel
theorem dL_law_928 : decode cL_law 928 = .ok (.istore 5, 2) := by decide +kernel
theorem dL_law_930 : decode cL_law 930 = .ok (.aload_n 2, 1) := by decide +kernel
theorem dL_law_931 : decode cL_law 931 = .ok (.aload_n 0, 1) := by decide +kernel
theorem dL_law_932 : decode cL_law 932 = .ok (.iload 4, 2) := by decide +kernel
theorem dL_law_934 : decode cL_law 934 = .ok (.iconst 1, 1) := by decide +kernel
theorem dL_law_935 : decode cL_law 935 = .ok (.iadd, 1) := by decide +kernel
theorem dL_law_936 : decode cL_law 936 = .ok (.iaload, 1) := by decide +kernel
theorem dL_law_937 : decode cL_law 937 = .ok (.invokevirtual 120, 3) := by decide +kernel
theorem dL_law_940 : decode cL_law 940 = .ok (.istore 6, 2) := by decide +kernel
theorem dL_law_942 : decode cL_law 942 = .ok (.aload_n 2, 1) := by decide +kernel
theorem dL_law_943 : decode cL_law 943 = .ok (.invokevirtual 74, 3) := by decide +kernel
theorem dL_law_946 : decode cL_law 946 = .ok (.iload 5, 2) := by decide +kernel
theorem dL_law_948 : decode cL_law 948 = .ok (.if_icmp .eq 5, 3) := by decide +kernel
theorem dL_law_951 : decode cL_law 951 = .ok (.iconst 0, 1) := by decide +kernel
theorem dL_law_952 : decode cL_law 952 = .ok (.ireturn, 1) := by decide +kernel
theorem dL_law_953 : decode cL_law 953 = .ok (.iload 5, 2) := by decide +kernel
theorem dL_law_955 : decode cL_law 955 = .ok (.ifCond .ne 15, 3) := by decide +kernel
theorem dL_law_958 : decode cL_law 958 = .ok (.aload_n 3, 1) := by decide +kernel
theorem dL_law_959 : decode cL_law 959 = .ok (.iconst 0, 1) := by decide +kernel
theorem dL_law_960 : decode cL_law 960 = .ok (.laload, 1) := by decide +kernel
theorem dL_law_961 : decode cL_law 961 = .ok (.iload 6, 2) := by decide +kernel
theorem dL_law_963 : decode cL_law 963 = .ok (.i2l, 1) := by decide +kernel
theorem dL_law_964 : decode cL_law 964 = .ok (.lcmp, 1) := by decide +kernel
theorem dL_law_965 : decode cL_law 965 = .ok (.ifCond .eq 5, 3) := by decide +kernel
theorem dL_law_968 : decode cL_law 968 = .ok (.iconst 0, 1) := by decide +kernel
theorem dL_law_969 : decode cL_law 969 = .ok (.ireturn, 1) := by decide +kernel
theorem dL_law_970 : decode cL_law 970 = .ok (.goto 100, 3) := by decide +kernel
theorem dL_law_973 : decode cL_law 973 = .ok (.aload_n 1, 1) := by decide +kernel
theorem dL_law_974 : decode cL_law 974 = .ok (.aload_n 0, 1) := by decide +kernel
theorem dL_law_975 : decode cL_law 975 = .ok (.iload 4, 2) := by decide +kernel
theorem dL_law_977 : decode cL_law 977 = .ok (.iconst 1, 1) := by decide +kernel
theorem dL_law_978 : decode cL_law 978 = .ok (.iadd, 1) := by decide +kernel
theorem dL_law_979 : decode cL_law 979 = .ok (.iaload, 1) := by decide +kernel
theorem dL_law_980 : decode cL_law 980 = .ok (.aload_n 0, 1) := by decide +kernel
theorem dL_law_981 : decode cL_law 981 = .ok (.iload 4, 2) := by decide +kernel
theorem dL_law_983 : decode cL_law 983 = .ok (.iconst 2, 1) := by decide +kernel
theorem dL_law_984 : decode cL_law 984 = .ok (.iadd, 1) := by decide +kernel
theorem dL_law_985 : decode cL_law 985 = .ok (.iaload, 1) := by decide +kernel
theorem dL_law_986 : decode cL_law 986 = .ok (.ifCond .eq 7, 3) := by decide +kernel
theorem dL_law_989 : decode cL_law 989 = .ok (.iconst 1, 1) := by decide +kernel
theorem dL_law_990 : decode cL_law 990 = .ok (.goto 4, 3) := by decide +kernel
theorem dL_law_993 : decode cL_law 993 = .ok (.iconst 0, 1) := by decide +kernel
theorem dL_law_994 : decode cL_law 994 = .ok (.aload_n 3, 1) := by decide +kernel
theorem dL_law_995 : decode cL_law 995 = .ok (.invokestatic 121, 3) := by decide +kernel
theorem dL_law_998 : decode cL_law 998 = .ok (.istore 5, 2) := by decide +kernel
theorem dL_law_1000 : decode cL_law 1000 = .ok (.aload_n 2, 1) := by decide +kernel
theorem dL_law_1001 : decode cL_law 1001 = .ok (.aload_n 0, 1) := by decide +kernel
theorem dL_law_1002 : decode cL_law 1002 = .ok (.iload 4, 2) := by decide +kernel
theorem dL_law_1004 : decode cL_law 1004 = .ok (.iconst 1, 1) := by decide +kernel
theorem dL_law_1005 : decode cL_law 1005 = .ok (.iadd, 1) := by decide +kernel
theorem dL_law_1006 : decode cL_law 1006 = .ok (.iaload, 1) := by decide +kernel
theorem dL_law_1007 : decode cL_law 1007 = .ok (.aload_n 0, 1) := by decide +kernel
theorem dL_law_1008 : decode cL_law 1008 = .ok (.iload 4, 2) := by decide +kernel
theorem dL_law_1010 : decode cL_law 1010 = .ok (.iconst 2, 1) := by decide +kernel
theorem dL_law_1011 : decode cL_law 1011 = .ok (.iadd, 1) := by decide +kernel
theorem dL_law_1012 : decode cL_law 1012 = .ok (.iaload, 1) := by decide +kernel
theorem dL_law_1013 : decode cL_law 1013 = .ok (.ifCond .eq 7, 3) := by decide +kernel
theorem dL_law_1016 : decode cL_law 1016 = .ok (.iconst 1, 1) := by decide +kernel
theorem dL_law_1017 : decode cL_law 1017 = .ok (.goto 4, 3) := by decide +kernel
theorem dL_law_1020 : decode cL_law 1020 = .ok (.iconst 0, 1) := by decide +kernel
theorem dL_law_1021 : decode cL_law 1021 = .ok (.invokevirtual 123, 3) := by decide +kernel
theorem dL_law_1024 : decode cL_law 1024 = .ok (.istore 6, 2) := by decide +kernel
theorem dL_law_1026 : decode cL_law 1026 = .ok (.aload_n 2, 1) := by decide +kernel
theorem dL_law_1027 : decode cL_law 1027 = .ok (.invokevirtual 74, 3) := by decide +kernel
theorem dL_law_1030 : decode cL_law 1030 = .ok (.iload 5, 2) := by decide +kernel
theorem dL_law_1032 : decode cL_law 1032 = .ok (.if_icmp .eq 5, 3) := by decide +kernel
theorem dL_law_1035 : decode cL_law 1035 = .ok (.iconst 0, 1) := by decide +kernel
theorem dL_law_1036 : decode cL_law 1036 = .ok (.ireturn, 1) := by decide +kernel
theorem dL_law_1037 : decode cL_law 1037 = .ok (.iload 5, 2) := by decide +kernel
theorem dL_law_1039 : decode cL_law 1039 = .ok (.ifCond .ne 15, 3) := by decide +kernel
theorem dL_law_1042 : decode cL_law 1042 = .ok (.aload_n 3, 1) := by decide +kernel
theorem dL_law_1043 : decode cL_law 1043 = .ok (.iconst 0, 1) := by decide +kernel
theorem dL_law_1044 : decode cL_law 1044 = .ok (.laload, 1) := by decide +kernel
theorem dL_law_1045 : decode cL_law 1045 = .ok (.iload 6, 2) := by decide +kernel
theorem dL_law_1047 : decode cL_law 1047 = .ok (.i2l, 1) := by decide +kernel
theorem dL_law_1048 : decode cL_law 1048 = .ok (.lcmp, 1) := by decide +kernel
theorem dL_law_1049 : decode cL_law 1049 = .ok (.ifCond .eq 5, 3) := by decide +kernel
theorem dL_law_1052 : decode cL_law 1052 = .ok (.iconst 0, 1) := by decide +kernel
theorem dL_law_1053 : decode cL_law 1053 = .ok (.ireturn, 1) := by decide +kernel
theorem dL_law_1054 : decode cL_law 1054 = .ok (.goto 16, 3) := by decide +kernel
theorem dL_law_1057 : decode cL_law 1057 = .ok (.aload_n 1, 1) := by decide +kernel
theorem dL_law_1058 : decode cL_law 1058 = .ok (.invokevirtual 124, 3) := by decide +kernel
theorem dL_law_1061 : decode cL_law 1061 = .ok (.aload_n 2, 1) := by decide +kernel
theorem dL_law_1062 : decode cL_law 1062 = .ok (.invokevirtual 127, 3) := by decide +kernel
theorem dL_law_1065 : decode cL_law 1065 = .ok (.if_icmp .eq 5, 3) := by decide +kernel
theorem dL_law_1068 : decode cL_law 1068 = .ok (.iconst 0, 1) := by decide +kernel
theorem dL_law_1069 : decode cL_law 1069 = .ok (.ireturn, 1) := by decide +kernel
theorem dL_law_1070 : decode cL_law 1070 = .ok (.iinc 4 4, 3) := by decide +kernel
theorem dL_law_1073 : decode cL_law 1073 = .ok (.goto (-1050), 3) := by decide +kernel
theorem dL_law_1076 : decode cL_law 1076 = .ok (.iconst 1, 1) := by decide +kernel
theorem dL_law_1077 : decode cL_law 1077 = .ok (.ireturn, 1) := by decide +kernel
end
section
/-! ONE MEMORY FOR THE WHOLE SYSTEM: 66 cells by number (class: 0..49, reference: 50..64, the law's row: 65), each at the address ad k; M.1 k j is the int at place j of cell k, M.2 k j the long -/
abbrev mm_M : Type := (Nat → Nat → Int32) × (Nat → Nat → Int64)
def mm_sI (M : mm_M) (k j : Nat) (x : Int32) : mm_M := (fun a b => if a = k ∧ b = j then x else M.1 a b, M.2)
def mm_sL (M : mm_M) (k j : Nat) (x : Int64) : mm_M := (M.1, fun a b => if a = k ∧ b = j then x else M.2 a b)
theorem mm_sI_1 {M : mm_M} {k j : Nat} {x : Int32} (a b : Nat) : (mm_sI M k j x).1 a b = if a = k ∧ b = j then x else M.1 a b := rfl
theorem mm_sI_2 {M : mm_M} {k j : Nat} {x : Int32} : (mm_sI M k j x).2 = M.2 := rfl
theorem mm_sL_1 {M : mm_M} {k j : Nat} {x : Int64} : (mm_sL M k j x).1 = M.1 := rfl
theorem mm_sL_2 {M : mm_M} {k j : Nat} {x : Int64} (a b : Nat) : (mm_sL M k j x).2 a b = if a = k ∧ b = j then x else M.2 a b := rfl
theorem mm_ext {M M' : mm_M} (h1 : ∀ a b, M.1 a b = M'.1 a b) (h2 : ∀ a b, M.2 a b = M'.2 a b) : M = M' := Prod.ext (funext fun a => funext fun b => h1 a b) (funext fun a => funext fun b => h2 a b)
abbrev mm_f4 (ad : Nat → Nat) (M : mm_M) : List Value := [.ref (ad 1), .ref (ad 2), .ref (ad 3), .ref (ad 4), .ref (ad 5), .int (M.1 0 5), .int (M.1 0 6), .int (M.1 0 7), .int (M.1 0 8)]
abbrev mm_f1 (M : mm_M) : List Value := [.int (M.1 3 0), .int (M.1 3 1)]
abbrev mm_f2 (M : mm_M) (i : Nat) : List Value := [.int (M.1 (6 + i) 0), .int (M.1 (6 + i) 1), .int (M.1 (6 + i) 2)]
abbrev mm_f0 (ad : Nat → Nat) (M : mm_M) (i : Nat) : List Value := [.ref (ad (18 + i)), .ref (ad (34 + i)), .ref (ad (42 + i)), .int (M.1 (10 + i) 3), .int (M.1 (10 + i) 4), .int (M.1 (10 + i) 5), .int (M.1 (10 + i) 6), .int (M.1 (10 + i) 7), .int (M.1 (10 + i) 8), .int (M.1 (10 + i) 9), .long (M.2 (10 + i) 10)]
abbrev mm_f3 (ad : Nat → Nat) (M : mm_M) (i : Nat) : List Value := [.ref (ad (26 + i)), .int (M.1 (18 + i) 1), .int (M.1 (18 + i) 2)]
abbrev mm_f5 (ad : Nat → Nat) (M : mm_M) : List Value := [.int (M.1 50 0), .int (M.1 50 1), .ref (ad 51), .ref (ad 52), .ref (ad 53), .ref (ad 54), .ref (ad 55), .ref (ad 56), .ref (ad 57), .int (M.1 50 9), .ref (ad 58), .ref (ad 59), .ref (ad 60), .int (M.1 50 13), .int (M.1 50 14), .int (M.1 50 15), .ref (ad 61), .ref (ad 62), .ref (ad 63), .ref (ad 64), .int (M.1 50 20)]
def mm_rE (ad : Nat → Nat) : Nat → Option Nat := fun j => some (ad (10 + j))
def mm_rS (ad : Nat → Nat) : Nat → Option Nat := fun j => some (ad (6 + j))
def mm_ct (ad : Nat → Nat) (q : Nat → ClassId) (M : mm_M) (k : Nat) : va_E :=
  if k = 0 then .inr (4, mm_f4 ad M) else if k = 1 then .inl (q 3, 8, .inr (.inr (.inr (.inr (mm_rE ad))))) else if k = 2 then .inl (q 4, 4, .inr (.inr (.inr (.inr (mm_rS ad)))))
  else if k = 3 then .inr (1, mm_f1 M) else if k = 4 then .inl (q 1, 32, .inr (.inl (M.2 4))) else if k = 5 then .inl (q 1, 9, .inr (.inl (M.2 5)))
  else if k < 10 then .inr (2, mm_f2 M (k - 6)) else if k < 18 then .inr (0, mm_f0 ad M (k - 10)) else if k < 26 then .inr (3, mm_f3 ad M (k - 18))
  else if k < 34 then .inl (q 0, 64, .inl (M.1 k)) else if k < 50 then .inl (q 1, 64, .inr (.inl (M.2 k))) else if k = 50 then .inr (5, mm_f5 ad M)
  else if k = 55 then .inl (q 2, 8, .inl (M.1 k)) else if k < 58 then .inl (q 0, 8, .inl (M.1 k)) else if k < 61 then .inl (q 0, 4, .inl (M.1 k)) else if k < 63 then .inl (q 0, 512, .inl (M.1 k))
  else if k = 63 then .inl (q 0, 32, .inl (M.1 k)) else if k = 64 then .inl (q 1, 9, .inr (.inl (M.2 k))) else .inl (q 1, 1, .inr (.inl (M.2 k)))
theorem mm_ct_cong {ad : Nat → Nat} {q : Nat → ClassId} {M M' : mm_M} {k : Nat} (h1 : M.1 k = M'.1 k) (h2 : M.2 k = M'.2 k) : mm_ct ad q M k = mm_ct ad q M' k := by
  by_cases c0 : k = 0
  · subst c0; simp only [mm_ct, if_pos, mm_f4, h1]
  by_cases c1 : k = 3
  · subst c1; simp only [mm_ct, mm_f1, h1]; rfl
  by_cases c2 : k = 4
  · subst c2; exact congrArg (fun f => (Sum.inl (q 1, 32, Sum.inr (Sum.inl f)) : va_E)) h2
  by_cases c3 : k = 5
  · subst c3; exact congrArg (fun f => (Sum.inl (q 1, 9, Sum.inr (Sum.inl f)) : va_E)) h2
  by_cases c4 : k = 50
  · subst c4; simp only [mm_ct, mm_f5, h1]; rfl
  by_cases c5 : k = 1
  · subst c5; rfl
  by_cases c6 : k = 2
  · subst c6; rfl
  by_cases d1 : k < 10
  · obtain ⟨i, rfl⟩ : ∃ i, k = 6 + i := ⟨k - 6, by omega⟩
    have e : 6 + i - 6 = i := by omega
    simp only [mm_ct, if_neg c0, if_neg c1, if_neg c2, if_neg c3, if_neg c5, if_neg c6, if_pos d1, e, mm_f2, h1]
  by_cases d2 : k < 18
  · obtain ⟨i, rfl⟩ : ∃ i, k = 10 + i := ⟨k - 10, by omega⟩
    have e : 10 + i - 10 = i := by omega
    simp only [mm_ct, if_neg c0, if_neg c1, if_neg c2, if_neg c3, if_neg c5, if_neg c6, if_neg d1, if_pos d2, e, mm_f0, h1, h2]
  by_cases d3 : k < 26
  · obtain ⟨i, rfl⟩ : ∃ i, k = 18 + i := ⟨k - 18, by omega⟩
    have e : 18 + i - 18 = i := by omega
    simp only [mm_ct, if_neg c0, if_neg c1, if_neg c2, if_neg c3, if_neg c5, if_neg c6, if_neg d1, if_neg d2, if_pos d3, e, mm_f3, h1]
  simp only [mm_ct, if_neg c0, if_neg c1, if_neg c2, if_neg c3, if_neg c5, if_neg c6, if_neg d1, if_neg d2, if_neg d3, if_neg c4, h1, h2]
def mm_w (ad : Nat → Nat) (q : Nat → ClassId) (M : mm_M) : va_W := (List.range 66).map (fun k => (ad k, mm_ct ad q M k))
theorem mm_w_at {ad : Nat → Nat} {q : Nat → ClassId} {M : mm_M} {k : Nat} (hk : k < 66) : (mm_w ad q M)[k]? = some (ad k, mm_ct ad q M k) := by
  simp only [mm_w, List.getElem?_map, List.getElem?_range hk, Option.map_some]
theorem mm_w_len {ad : Nat → Nat} {q : Nat → ClassId} {M : mm_M} : (mm_w ad q M).length = 66 := by simp [mm_w]
theorem mm_w_of {ad : Nat → Nat} {q : Nat → ClassId} {M : mm_M} {k : Nat} {x : Nat × va_E} (h : (mm_w ad q M)[k]? = some x) : k < 66 ∧ x = (ad k, mm_ct ad q M k) := by
  have hk : k < 66 := by have := (List.getElem?_eq_some_iff.mp h).1; rw [mm_w_len] at this; exact this
  rw [mm_w_at hk] at h
  exact ⟨hk, (Option.some.inj h).symm⟩
theorem mm_w_set {ad : Nat → Nat} {q : Nat → ClassId} {M M' : mm_M} {k : Nat} {e : va_E} (he : mm_ct ad q M' k = e) (ho : ∀ k', k' ≠ k → M'.1 k' = M.1 k' ∧ M'.2 k' = M.2 k') : (mm_w ad q M).set k (ad k, e) = mm_w ad q M' := by
  refine List.ext_getElem? fun j => ?_
  by_cases hj : j < 66
  · rw [mm_w_at hj]
    by_cases hjk : j = k
    · subst hjk
      rw [List.getElem?_set_self (by rw [mm_w_len]; exact hj), he]
    · rw [List.getElem?_set_ne (Ne.symm hjk), mm_w_at hj, mm_ct_cong (ho j hjk).1.symm (ho j hjk).2.symm]
  · rw [List.getElem?_eq_none (by rw [List.length_set, mm_w_len]; omega), List.getElem?_eq_none (by rw [mm_w_len]; omega)]
theorem mm_sI_o {M : mm_M} {k j : Nat} {x : Int32} : ∀ k', k' ≠ k → (mm_sI M k j x).1 k' = M.1 k' ∧ (mm_sI M k j x).2 k' = M.2 k' := fun k' h => ⟨funext fun b => by rw [mm_sI_1, if_neg (fun z => h z.1)], rfl⟩
theorem mm_sL_o {M : mm_M} {k j : Nat} {x : Int64} : ∀ k', k' ≠ k → (mm_sL M k j x).1 k' = M.1 k' ∧ (mm_sL M k j x).2 k' = M.2 k' := fun k' h => ⟨rfl, funext fun b => by rw [mm_sL_2, if_neg (fun z => h z.1)]⟩
theorem mm_sI_row {M : mm_M} {k j : Nat} {x : Int32} : (mm_sI M k j x).1 k = upd (M.1 k) j x := funext fun b => by
  rw [mm_sI_1]
  by_cases h : b = j
  · rw [if_pos ⟨rfl, h⟩, h, pk_us]
  · rw [if_neg (fun z => h z.2), pk_un h]
theorem mm_sL_row {M : mm_M} {k j : Nat} {x : Int64} : (mm_sL M k j x).2 k = vp_updL (M.2 k) j x := funext fun b => by
  rw [mm_sL_2]
  by_cases h : b = j
  · rw [if_pos ⟨rfl, h⟩, h, pk_uLs]
  · rw [if_neg (fun z => h z.2), pk_uLn h]
/-- the addresses: apart, and the method's to write -/
def mm_AD (ad : Nat → Nat) (A : Nat → Prop) : Prop := (∀ i j : Nat, i < 66 → j < 66 → ad i = ad j → i = j) ∧ ∀ i : Nat, i < 66 → A (ad i)
theorem mm_w_D {ad : Nat → Nat} {q : Nat → ClassId} {A : Nat → Prop} (h : mm_AD ad A) (M : mm_M) : va_D A (mm_w ad q M) := by
  refine ⟨fun i j x y hx hy e => ?_, fun k x hx => ?_⟩
  · obtain ⟨hi, rfl⟩ := mm_w_of hx
    obtain ⟨hj, rfl⟩ := mm_w_of hy
    exact h.1 i j hi hj e
  · obtain ⟨hi, rfl⟩ := mm_w_of hx
    exact h.2 k hi
abbrev mm_t (q : Nat → ClassId) : List (ClassId × FieldType) := [(q 0, .int), (q 1, .long), (q 2, .boolean), (q 3, .object "Beamrow$Element"), (q 4, .object "Beamrow$Source")]
/-- the heap holds the memory M -/
def mm_PW (D : va_G) (ad : Nat → Nat) (q : Nat → ClassId) (M : mm_M) (U : State) : Prop := va_P D vwCl (mm_w ad q M) U.heap ∧ va_K D vwCl (mm_t q) U
/-- what a method's text may use -/
def mm_C (p : Program) (s : State) (m : MethodId) (args : Array Value) (c : Code) (cc : ByteArray) (nL : Nat) (Ts : List Cond) (own : String) (D : va_G) (ad : Nat → Nat) (q : Nat → ClassId) (A : Nat → Prop) : Prop :=
  (p.tables.exec = Jvm.exec ∧ c.code = cc ∧ c.maxLocals = nL ∧ s.vm.findClass own = some m.cls ∧ ∀ w ∈ Ts, w.before args s = true) ∧ va_K D vwCl (mm_t q) s ∧ mm_AD ad A
/-- the machine, at pc with the locals lv, the stack st, in any heap that holds M, comes to Q -/
def mm_G (p : Program) (l : Launch) (e : Env) (R : Room) (s : State) (m : MethodId) (args : Array Value) (below : List Frame) (meth : Method) (c : Code) (cells slots : Nat) (Q : State → Prop) (nL : Nat) (D : va_G) (ad : Nat → Nat) (q : Nat → ClassId) (A : Nat → Prop) (M : mm_M) (pc : Nat) (lv : List (Nat × Value)) (st : List Value) : Prop :=
  ∀ (H : Heap) (locs : List Loc) (ls : Array Slot), va_P D vwCl (mm_w ad q M) H → va_S A s.heap H locs → lv_has ls nL lv → W p l e R s m args below meth c H locs cells slots Q (F0 m pc ls st)
/-- a method's end: its answer and the memory -/
def mm_Q (D : va_G) (ad : Nat → Nat) (q : Nat → ClassId) (A : Nat → Prop) (post : Option Value → mm_M → Prop) : Array Value → State → Outcome → State → Prop := fun _ st oc t => (∃ (v : Option Value) (u : mm_M), oc = .returned v ∧ post v u ∧ mm_PW D ad q u t) ∧ va_F A st t
/-- THE CONTRACT: with these arguments, in any heap that holds M, the method returns, its answer and the memory behind it are as post says -/
def mm_K (l : Launch) (D : va_G) (ad : Nat → Nat) (q : Nat → ClassId) (A : Nat → Prop) (y : MethodName) (ws : List Cond) (rm : Room) (av : List Value) (M : mm_M) (post : Option Value → mm_M → Prop) : Prop :=
  Met l y ws rm (va_Pc av (fun U => mm_PW D ad q M U)) (mm_Q D ad q A post) rm.cells rm.slots A
/-- the same where answer and memory are told -/
abbrev mm_Kd (l : Launch) (D : va_G) (ad : Nat → Nat) (q : Nat → ClassId) (A : Nat → Prop) (y : MethodName) (ws : List Cond) (rm : Room) (av : List Value) (M : mm_M) (v : Option Value) (M' : mm_M) : Prop :=
  mm_K l D ad q A y ws rm av M (fun v' u => v' = v ∧ u = M')
def mm_ps : Option Value → List Value → List Value
  | none, r => r
  | some v, r => v :: r
theorem mm_ps_eq (v : Option Value) (r : List Value) : v.toList ++ r = mm_ps v r := by cases v <;> rfl
theorem mm_blind {D : va_G} {ad : Nat → Nat} {q : Nat → ClassId} {av : List Value} {M : mm_M} : FrameBlind (va_Pc av (fun U => mm_PW D ad q M U)) := fun a U g mk h => ⟨h.1, h.2.1, va_K.moved (u := U) (U := U.calling g mk a) (Vm.Alike.refl U.vm) h.2.2⟩
section MR
variable {p : Program} {l : Launch} {e : Env} {R : Room} {s : State} {m : MethodId} {args : Array Value} {below : List Frame} {meth : Method} {c : Code} {cells slots : Nat} {Q : State → Prop} {nL : Nat} {D : va_G} {ad : Nat → Nat} {q : Nat → ClassId} {A : Nat → Prop} {M : mm_M} {pc : Nat} {lv : List (Nat × Value)} {st : List Value} {cc : ByteArray} {Ts : List Cond} {own : String}
theorem r_iadd (C : mm_C p s m args c cc nL Ts own D ad q A) {x y : Int32} (hd : decode cc pc = .ok (.iadd, 1)) (k : mm_G p l e R s m args below meth c cells slots Q nL D ad q A M (pc + 1) lv (.int (x + y) :: st)) : mm_G p l e R s m args below meth c cells slots Q nL D ad q A M pc lv (.int y :: .int x :: st) := fun H locs ls hP hS hl => lv_iadd C.1.1 C.1.2.1 hd (k H locs ls hP hS hl)
theorem r_isub (C : mm_C p s m args c cc nL Ts own D ad q A) {x y : Int32} (hd : decode cc pc = .ok (.isub, 1)) (k : mm_G p l e R s m args below meth c cells slots Q nL D ad q A M (pc + 1) lv (.int (x - y) :: st)) : mm_G p l e R s m args below meth c cells slots Q nL D ad q A M pc lv (.int y :: .int x :: st) := fun H locs ls hP hS hl => lv_isub C.1.1 C.1.2.1 hd (k H locs ls hP hS hl)
theorem r_imul (C : mm_C p s m args c cc nL Ts own D ad q A) {x y : Int32} (hd : decode cc pc = .ok (.imul, 1)) (k : mm_G p l e R s m args below meth c cells slots Q nL D ad q A M (pc + 1) lv (.int (x * y) :: st)) : mm_G p l e R s m args below meth c cells slots Q nL D ad q A M pc lv (.int y :: .int x :: st) := fun H locs ls hP hS hl => lv_imul C.1.1 C.1.2.1 hd (k H locs ls hP hS hl)
theorem r_iand (C : mm_C p s m args c cc nL Ts own D ad q A) {x y : Int32} (hd : decode cc pc = .ok (.iand, 1)) (k : mm_G p l e R s m args below meth c cells slots Q nL D ad q A M (pc + 1) lv (.int (x &&& y) :: st)) : mm_G p l e R s m args below meth c cells slots Q nL D ad q A M pc lv (.int y :: .int x :: st) := fun H locs ls hP hS hl => lv_iand C.1.1 C.1.2.1 hd (k H locs ls hP hS hl)
theorem r_ixor (C : mm_C p s m args c cc nL Ts own D ad q A) {x y : Int32} (hd : decode cc pc = .ok (.ixor, 1)) (k : mm_G p l e R s m args below meth c cells slots Q nL D ad q A M (pc + 1) lv (.int (x ^^^ y) :: st)) : mm_G p l e R s m args below meth c cells slots Q nL D ad q A M pc lv (.int y :: .int x :: st) := fun H locs ls hP hS hl => lv_ixor C.1.1 C.1.2.1 hd (k H locs ls hP hS hl)
theorem r_ladd (C : mm_C p s m args c cc nL Ts own D ad q A) {x y : Int64} (hd : decode cc pc = .ok (.ladd, 1)) (k : mm_G p l e R s m args below meth c cells slots Q nL D ad q A M (pc + 1) lv (.long (x + y) :: st)) : mm_G p l e R s m args below meth c cells slots Q nL D ad q A M pc lv (.long y :: .long x :: st) := fun H locs ls hP hS hl => lv_ladd C.1.1 C.1.2.1 hd (k H locs ls hP hS hl)
theorem r_lsub (C : mm_C p s m args c cc nL Ts own D ad q A) {x y : Int64} (hd : decode cc pc = .ok (.lsub, 1)) (k : mm_G p l e R s m args below meth c cells slots Q nL D ad q A M (pc + 1) lv (.long (x - y) :: st)) : mm_G p l e R s m args below meth c cells slots Q nL D ad q A M pc lv (.long y :: .long x :: st) := fun H locs ls hP hS hl => lv_lsub C.1.1 C.1.2.1 hd (k H locs ls hP hS hl)
theorem r_lmul (C : mm_C p s m args c cc nL Ts own D ad q A) {x y : Int64} (hd : decode cc pc = .ok (.lmul, 1)) (k : mm_G p l e R s m args below meth c cells slots Q nL D ad q A M (pc + 1) lv (.long (x * y) :: st)) : mm_G p l e R s m args below meth c cells slots Q nL D ad q A M pc lv (.long y :: .long x :: st) := fun H locs ls hP hS hl => lv_lmul C.1.1 C.1.2.1 hd (k H locs ls hP hS hl)
theorem r_lxor (C : mm_C p s m args c cc nL Ts own D ad q A) {x y : Int64} (hd : decode cc pc = .ok (.lxor, 1)) (k : mm_G p l e R s m args below meth c cells slots Q nL D ad q A M (pc + 1) lv (.long (x ^^^ y) :: st)) : mm_G p l e R s m args below meth c cells slots Q nL D ad q A M pc lv (.long y :: .long x :: st) := fun H locs ls hP hS hl => lv_lxor C.1.1 C.1.2.1 hd (k H locs ls hP hS hl)
theorem r_idiv (C : mm_C p s m args c cc nL Ts own D ad q A) {x y : Int32} (hd : decode cc pc = .ok (.idiv, 1)) (hne : ¬ y = 0) (k : mm_G p l e R s m args below meth c cells slots Q nL D ad q A M (pc + 1) lv (.int (x / y) :: st)) : mm_G p l e R s m args below meth c cells slots Q nL D ad q A M pc lv (.int y :: .int x :: st) := fun H locs ls hP hS hl => lv_idiv C.1.1 C.1.2.1 hd hne (k H locs ls hP hS hl)
theorem r_irem (C : mm_C p s m args c cc nL Ts own D ad q A) {x y : Int32} (hd : decode cc pc = .ok (.irem, 1)) (hne : ¬ y = 0) (k : mm_G p l e R s m args below meth c cells slots Q nL D ad q A M (pc + 1) lv (.int (x - x / y * y) :: st)) : mm_G p l e R s m args below meth c cells slots Q nL D ad q A M pc lv (.int y :: .int x :: st) := fun H locs ls hP hS hl => lv_irem C.1.1 C.1.2.1 hd hne (k H locs ls hP hS hl)
theorem r_ldiv (C : mm_C p s m args c cc nL Ts own D ad q A) {x y : Int64} (hd : decode cc pc = .ok (.ldiv, 1)) (hne : ¬ y = 0) (k : mm_G p l e R s m args below meth c cells slots Q nL D ad q A M (pc + 1) lv (.long (x / y) :: st)) : mm_G p l e R s m args below meth c cells slots Q nL D ad q A M pc lv (.long y :: .long x :: st) := fun H locs ls hP hS hl => lv_ldiv C.1.1 C.1.2.1 hd hne (k H locs ls hP hS hl)
theorem r_ineg (C : mm_C p s m args c cc nL Ts own D ad q A) {x : Int32} (hd : decode cc pc = .ok (.ineg, 1)) (k : mm_G p l e R s m args below meth c cells slots Q nL D ad q A M (pc + 1) lv (.int (-x) :: st)) : mm_G p l e R s m args below meth c cells slots Q nL D ad q A M pc lv (.int x :: st) := fun H locs ls hP hS hl => lv_ineg C.1.1 C.1.2.1 hd (k H locs ls hP hS hl)
theorem r_i2l (C : mm_C p s m args c cc nL Ts own D ad q A) {x : Int32} (hd : decode cc pc = .ok (.i2l, 1)) (k : mm_G p l e R s m args below meth c cells slots Q nL D ad q A M (pc + 1) lv (.long x.toInt64 :: st)) : mm_G p l e R s m args below meth c cells slots Q nL D ad q A M pc lv (.int x :: st) := fun H locs ls hP hS hl => lv_i2l C.1.1 C.1.2.1 hd rfl (k H locs ls hP hS hl)
theorem r_l2i (C : mm_C p s m args c cc nL Ts own D ad q A) {x : Int64} (hd : decode cc pc = .ok (.l2i, 1)) (k : mm_G p l e R s m args below meth c cells slots Q nL D ad q A M (pc + 1) lv (.int x.toInt32 :: st)) : mm_G p l e R s m args below meth c cells slots Q nL D ad q A M pc lv (.long x :: st) := fun H locs ls hP hS hl => lv_l2i C.1.1 C.1.2.1 hd rfl (k H locs ls hP hS hl)
theorem r_lcmp (C : mm_C p s m args c cc nL Ts own D ad q A) {x y : Int64} (hd : decode cc pc = .ok (.lcmp, 1)) (k : mm_G p l e R s m args below meth c cells slots Q nL D ad q A M (pc + 1) lv (.int (lg_cmp x y) :: st)) : mm_G p l e R s m args below meth c cells slots Q nL D ad q A M pc lv (.long y :: .long x :: st) := fun H locs ls hP hS hl => W.lcmp C.1.1 C.1.2.1 hd (k H locs ls hP hS hl)
theorem r_iconst (C : mm_C p s m args c cc nL Ts own D ad q A) {n : Int} {v : Int32} (hd : decode cc pc = .ok (.iconst n, 1)) (hv : Int32.ofInt n = v) (k : mm_G p l e R s m args below meth c cells slots Q nL D ad q A M (pc + 1) lv (.int v :: st)) : mm_G p l e R s m args below meth c cells slots Q nL D ad q A M pc lv st := fun H locs ls hP hS hl => lv_iconst C.1.1 C.1.2.1 hd hv (k H locs ls hP hS hl)
theorem r_bipush (C : mm_C p s m args c cc nL Ts own D ad q A) {n : Int} {v : Int32} (hd : decode cc pc = .ok (.bipush n, 2)) (hv : (Int8.ofInt n).toInt32 = v) (k : mm_G p l e R s m args below meth c cells slots Q nL D ad q A M (pc + 2) lv (.int v :: st)) : mm_G p l e R s m args below meth c cells slots Q nL D ad q A M pc lv st := fun H locs ls hP hS hl => lv_bipush C.1.1 C.1.2.1 hd hv (k H locs ls hP hS hl)
theorem r_sipush (C : mm_C p s m args c cc nL Ts own D ad q A) {n : Int} {v : Int32} (hd : decode cc pc = .ok (.sipush n, 3)) (hv : (Int16.ofInt n).toInt32 = v) (k : mm_G p l e R s m args below meth c cells slots Q nL D ad q A M (pc + 3) lv (.int v :: st)) : mm_G p l e R s m args below meth c cells slots Q nL D ad q A M pc lv st := fun H locs ls hP hS hl => lv_sipush C.1.1 C.1.2.1 hd hv (k H locs ls hP hS hl)
theorem r_lconst (C : mm_C p s m args c cc nL Ts own D ad q A) {n : Fin 2} {v : Int64} (hd : decode cc pc = .ok (.lconst n, 1)) (hv : Int64.ofNat (n : Nat) = v) (k : mm_G p l e R s m args below meth c cells slots Q nL D ad q A M (pc + 1) lv (.long v :: st)) : mm_G p l e R s m args below meth c cells slots Q nL D ad q A M pc lv st := fun H locs ls hP hS hl => lv_lconst C.1.1 C.1.2.1 hd hv (k H locs ls hP hS hl)
theorem r_ldc (C : mm_C p s m args c cc nL Ts own D ad q A) {ix : Nat} {v : Int32} (hc : Cond.constant own ix v ∈ Ts) (hd : decode cc pc = .ok (.ldc ix, 2)) (k : mm_G p l e R s m args below meth c cells slots Q nL D ad q A M (pc + 2) lv (.int v :: st)) : mm_G p l e R s m args below meth c cells slots Q nL D ad q A M pc lv st := fun H locs ls hP hS hl => lv_ldc C.1.1 C.1.2.1 C.1.2.2.2.1 (C.1.2.2.2.2 _ hc) hd (k H locs ls hP hS hl)
theorem r_ldc2 (C : mm_C p s m args c cc nL Ts own D ad q A) {ix : Nat} {v : Int64} (hc : Cond.constantLong own ix v ∈ Ts) (hd : decode cc pc = .ok (.ldc2_w ix, 3)) (k : mm_G p l e R s m args below meth c cells slots Q nL D ad q A M (pc + 3) lv (.long v :: st)) : mm_G p l e R s m args below meth c cells slots Q nL D ad q A M pc lv st := fun H locs ls hP hS hl => lv_ldc2 C.1.1 C.1.2.1 C.1.2.2.2.1 (C.1.2.2.2.2 _ hc) hd (k H locs ls hP hS hl)
theorem r_iload_n (C : mm_C p s m args c cc nL Ts own D ad q A) {x : Int32} {i : Nat} {j : Fin 4} (hd : decode cc pc = .ok (.iload_n j, 1)) (hi : (j : Nat) = i) (n : Nat) (hn : lv[n]? = some (i, .int x)) (k : mm_G p l e R s m args below meth c cells slots Q nL D ad q A M (pc + 1) lv (.int x :: st)) : mm_G p l e R s m args below meth c cells slots Q nL D ad q A M pc lv st := fun H locs ls hP hS hl => lv_iload_n C.1.1 C.1.2.1 hd hi (lv_at hl n hn) (k H locs ls hP hS hl)
theorem r_iload (C : mm_C p s m args c cc nL Ts own D ad q A) {x : Int32} {i : Nat} (hd : decode cc pc = .ok (.iload i, 2)) (n : Nat) (hn : lv[n]? = some (i, .int x)) (k : mm_G p l e R s m args below meth c cells slots Q nL D ad q A M (pc + 2) lv (.int x :: st)) : mm_G p l e R s m args below meth c cells slots Q nL D ad q A M pc lv st := fun H locs ls hP hS hl => lv_iload C.1.1 C.1.2.1 hd (lv_at hl n hn) (k H locs ls hP hS hl)
theorem r_lload_n (C : mm_C p s m args c cc nL Ts own D ad q A) {x : Int64} {i : Nat} {j : Fin 4} (hd : decode cc pc = .ok (.lload_n j, 1)) (hi : (j : Nat) = i) (n : Nat) (hn : lv[n]? = some (i, .long x)) (k : mm_G p l e R s m args below meth c cells slots Q nL D ad q A M (pc + 1) lv (.long x :: st)) : mm_G p l e R s m args below meth c cells slots Q nL D ad q A M pc lv st := fun H locs ls hP hS hl => lv_lload_n C.1.1 C.1.2.1 hd hi (lv_at hl n hn) (k H locs ls hP hS hl)
theorem r_lload (C : mm_C p s m args c cc nL Ts own D ad q A) {x : Int64} {i : Nat} (hd : decode cc pc = .ok (.lload i, 2)) (n : Nat) (hn : lv[n]? = some (i, .long x)) (k : mm_G p l e R s m args below meth c cells slots Q nL D ad q A M (pc + 2) lv (.long x :: st)) : mm_G p l e R s m args below meth c cells slots Q nL D ad q A M pc lv st := fun H locs ls hP hS hl => lv_lload C.1.1 C.1.2.1 hd (lv_at hl n hn) (k H locs ls hP hS hl)
theorem r_aload_n (C : mm_C p s m args c cc nL Ts own D ad q A) {x : Nat} {i : Nat} {j : Fin 4} (hd : decode cc pc = .ok (.aload_n j, 1)) (hi : (j : Nat) = i) (n : Nat) (hn : lv[n]? = some (i, .ref x)) (k : mm_G p l e R s m args below meth c cells slots Q nL D ad q A M (pc + 1) lv (.ref x :: st)) : mm_G p l e R s m args below meth c cells slots Q nL D ad q A M pc lv st := fun H locs ls hP hS hl => lv_aload_n C.1.1 C.1.2.1 hd hi (lv_at hl n hn) (k H locs ls hP hS hl)
theorem r_aload (C : mm_C p s m args c cc nL Ts own D ad q A) {x : Nat} {i : Nat} (hd : decode cc pc = .ok (.aload i, 2)) (n : Nat) (hn : lv[n]? = some (i, .ref x)) (k : mm_G p l e R s m args below meth c cells slots Q nL D ad q A M (pc + 2) lv (.ref x :: st)) : mm_G p l e R s m args below meth c cells slots Q nL D ad q A M pc lv st := fun H locs ls hP hS hl => lv_aload C.1.1 C.1.2.1 hd (lv_at hl n hn) (k H locs ls hP hS hl)
theorem r_istore_n (C : mm_C p s m args c cc nL Ts own D ad q A) {x : Int32} {i : Nat} {j : Fin 4} {lv' : List (Nat × Value)} (hd : decode cc pc = .ok (.istore_n j, 1)) (hi : (j : Nat) = i) (hn : i < nL) (hl9 : (i, Value.int x) :: lv.filter (fun q => !(q.1 == i) && !(q.1 + 1 == i && q.2.category == 2)) = lv') (k : mm_G p l e R s m args below meth c cells slots Q nL D ad q A M (pc + 1) lv' st) : mm_G p l e R s m args below meth c cells slots Q nL D ad q A M pc lv (.int x :: st) := fun H locs ls hP hS hl => lv_istore_n C.1.1 C.1.2.1 hd hi hl hn hl9 (fun ls9 h9 => k H locs ls9 hP hS h9)
theorem r_istore (C : mm_C p s m args c cc nL Ts own D ad q A) {x : Int32} {i : Nat} {lv' : List (Nat × Value)} (hd : decode cc pc = .ok (.istore i, 2)) (hn : i < nL) (hl9 : (i, Value.int x) :: lv.filter (fun q => !(q.1 == i) && !(q.1 + 1 == i && q.2.category == 2)) = lv') (k : mm_G p l e R s m args below meth c cells slots Q nL D ad q A M (pc + 2) lv' st) : mm_G p l e R s m args below meth c cells slots Q nL D ad q A M pc lv (.int x :: st) := fun H locs ls hP hS hl => lv_istore C.1.1 C.1.2.1 hd hl hn hl9 (fun ls9 h9 => k H locs ls9 hP hS h9)
theorem r_lstore_n (C : mm_C p s m args c cc nL Ts own D ad q A) {x : Int64} {i : Nat} {j : Fin 4} {lv' : List (Nat × Value)} (hd : decode cc pc = .ok (.lstore_n j, 1)) (hi : (j : Nat) = i) (hn : i + 1 < nL) (hl9 : (i, Value.long x) :: lv.filter (fun q => !(q.1 == i) && (!(q.1 == i + 1) && !(q.1 + 1 == i && q.2.category == 2))) = lv') (k : mm_G p l e R s m args below meth c cells slots Q nL D ad q A M (pc + 1) lv' st) : mm_G p l e R s m args below meth c cells slots Q nL D ad q A M pc lv (.long x :: st) := fun H locs ls hP hS hl => lv_lstore_n C.1.1 C.1.2.1 hd hi hl hn hl9 (fun ls9 h9 => k H locs ls9 hP hS h9)
theorem r_lstore (C : mm_C p s m args c cc nL Ts own D ad q A) {x : Int64} {i : Nat} {lv' : List (Nat × Value)} (hd : decode cc pc = .ok (.lstore i, 2)) (hn : i + 1 < nL) (hl9 : (i, Value.long x) :: lv.filter (fun q => !(q.1 == i) && (!(q.1 == i + 1) && !(q.1 + 1 == i && q.2.category == 2))) = lv') (k : mm_G p l e R s m args below meth c cells slots Q nL D ad q A M (pc + 2) lv' st) : mm_G p l e R s m args below meth c cells slots Q nL D ad q A M pc lv (.long x :: st) := fun H locs ls hP hS hl => lv_lstore C.1.1 C.1.2.1 hd hl hn hl9 (fun ls9 h9 => k H locs ls9 hP hS h9)
theorem r_astore_n (C : mm_C p s m args c cc nL Ts own D ad q A) {x : Nat} {i : Nat} {j : Fin 4} {lv' : List (Nat × Value)} (hd : decode cc pc = .ok (.astore_n j, 1)) (hi : (j : Nat) = i) (hn : i < nL) (hl9 : (i, Value.ref x) :: lv.filter (fun q => !(q.1 == i) && !(q.1 + 1 == i && q.2.category == 2)) = lv') (k : mm_G p l e R s m args below meth c cells slots Q nL D ad q A M (pc + 1) lv' st) : mm_G p l e R s m args below meth c cells slots Q nL D ad q A M pc lv (.ref x :: st) := fun H locs ls hP hS hl => lv_astore_n C.1.1 C.1.2.1 hd hi hl hn hl9 (fun ls9 h9 => k H locs ls9 hP hS h9)
theorem r_astore (C : mm_C p s m args c cc nL Ts own D ad q A) {x : Nat} {i : Nat} {lv' : List (Nat × Value)} (hd : decode cc pc = .ok (.astore i, 2)) (hn : i < nL) (hl9 : (i, Value.ref x) :: lv.filter (fun q => !(q.1 == i) && !(q.1 + 1 == i && q.2.category == 2)) = lv') (k : mm_G p l e R s m args below meth c cells slots Q nL D ad q A M (pc + 2) lv' st) : mm_G p l e R s m args below meth c cells slots Q nL D ad q A M pc lv (.ref x :: st) := fun H locs ls hP hS hl => lv_astore C.1.1 C.1.2.1 hd hl hn hl9 (fun ls9 h9 => k H locs ls9 hP hS h9)
theorem r_iinc (C : mm_C p s m args c cc nL Ts own D ad q A) {x v : Int32} {i : Nat} {z : Int} {lv' : List (Nat × Value)} (hd : decode cc pc = .ok (.iinc i z, 3)) (n : Nat) (hk : lv[n]? = some (i, .int x)) (hv : x + Int32.ofInt z = v) (hn : i < nL) (hl9 : (i, Value.int v) :: lv.filter (fun q => !(q.1 == i) && !(q.1 + 1 == i && q.2.category == 2)) = lv') (k : mm_G p l e R s m args below meth c cells slots Q nL D ad q A M (pc + 3) lv' st) : mm_G p l e R s m args below meth c cells slots Q nL D ad q A M pc lv st := fun H locs ls hP hS hl => lv_iinc C.1.1 C.1.2.1 hd hl hk hv hn hl9 (fun ls9 h9 => k H locs ls9 hP hS h9)
theorem r_topi {x : Int32} (k : ∀ y : Int32, y = x → mm_G p l e R s m args below meth c cells slots Q nL D ad q A M pc lv (.int y :: st)) : mm_G p l e R s m args below meth c cells slots Q nL D ad q A M pc lv (.int x :: st) := k x rfl
theorem r_topl {x : Int64} (k : ∀ y : Int64, y = x → mm_G p l e R s m args below meth c cells slots Q nL D ad q A M pc lv (.long y :: st)) : mm_G p l e R s m args below meth c cells slots Q nL D ad q A M pc lv (.long x :: st) := k x rfl
theorem r_cast {M' : mm_M} {lv' : List (Nat × Value)} {st' : List Value} (hM : M = M') (hlv : lv = lv') (hst : st = st') (k : mm_G p l e R s m args below meth c cells slots Q nL D ad q A M' pc lv' st') : mm_G p l e R s m args below meth c cells slots Q nL D ad q A M pc lv st := by
  subst hM; subst hlv; subst hst; exact k
theorem r_mem (k : ∀ u : mm_M, u = M → mm_G p l e R s m args below meth c cells slots Q nL D ad q A u pc lv st) : mm_G p l e R s m args below meth c cells slots Q nL D ad q A M pc lv st := k M rfl
theorem r_sub {lv' : List (Nat × Value)} (ks : List Nat) (hl9 : lv_pick lv ks = lv') (k : mm_G p l e R s m args below meth c cells slots Q nL D ad q A M pc lv' st) : mm_G p l e R s m args below meth c cells slots Q nL D ad q A M pc lv st := fun H locs ls hP hS hl => k H locs ls hP hS (lv_sub hl ks hl9)
theorem r_goto (C : mm_C p s m args c cc nL Ts own D ad q A) {off : Int} {tgt : Nat} (hd : decode cc pc = .ok (.goto off, 3)) (ht : (pc : Int) + off = (tgt : Int)) (k : mm_G p l e R s m args below meth c cells slots Q nL D ad q A M tgt lv st) : mm_G p l e R s m args below meth c cells slots Q nL D ad q A M pc lv st := fun H locs ls hP hS hl => lv_goto C.1.1 C.1.2.1 hd ht (k H locs ls hP hS hl)
theorem r_if_eq (C : mm_C p s m args c cc nL Ts own D ad q A) {x : Int32} {off : Int} {tgt : Nat} (hd : decode cc pc = .ok (.ifCond .eq off, 3)) (ht : (pc : Int) + off = (tgt : Int)) (kt : x = 0 → mm_G p l e R s m args below meth c cells slots Q nL D ad q A M tgt lv st) (kf : ¬ x = 0 → mm_G p l e R s m args below meth c cells slots Q nL D ad q A M (pc + 3) lv st) : mm_G p l e R s m args below meth c cells slots Q nL D ad q A M pc lv (.int x :: st) := fun H locs ls hP hS hl => lv_if_eq C.1.1 C.1.2.1 hd ht (fun z => kt z H locs ls hP hS hl) (fun z => kf z H locs ls hP hS hl)
theorem r_if_ne (C : mm_C p s m args c cc nL Ts own D ad q A) {x : Int32} {off : Int} {tgt : Nat} (hd : decode cc pc = .ok (.ifCond .ne off, 3)) (ht : (pc : Int) + off = (tgt : Int)) (kt : ¬ x = 0 → mm_G p l e R s m args below meth c cells slots Q nL D ad q A M tgt lv st) (kf : x = 0 → mm_G p l e R s m args below meth c cells slots Q nL D ad q A M (pc + 3) lv st) : mm_G p l e R s m args below meth c cells slots Q nL D ad q A M pc lv (.int x :: st) := fun H locs ls hP hS hl => lv_if_ne C.1.1 C.1.2.1 hd ht (fun z => kt z H locs ls hP hS hl) (fun z => kf z H locs ls hP hS hl)
theorem r_if_lt (C : mm_C p s m args c cc nL Ts own D ad q A) {x : Int32} {off : Int} {tgt : Nat} (hd : decode cc pc = .ok (.ifCond .lt off, 3)) (ht : (pc : Int) + off = (tgt : Int)) (kt : x < 0 → mm_G p l e R s m args below meth c cells slots Q nL D ad q A M tgt lv st) (kf : ¬ x < 0 → mm_G p l e R s m args below meth c cells slots Q nL D ad q A M (pc + 3) lv st) : mm_G p l e R s m args below meth c cells slots Q nL D ad q A M pc lv (.int x :: st) := fun H locs ls hP hS hl => lv_if_lt C.1.1 C.1.2.1 hd ht (fun z => kt z H locs ls hP hS hl) (fun z => kf z H locs ls hP hS hl)
theorem r_if_ge (C : mm_C p s m args c cc nL Ts own D ad q A) {x : Int32} {off : Int} {tgt : Nat} (hd : decode cc pc = .ok (.ifCond .ge off, 3)) (ht : (pc : Int) + off = (tgt : Int)) (kt : 0 ≤ x → mm_G p l e R s m args below meth c cells slots Q nL D ad q A M tgt lv st) (kf : ¬ 0 ≤ x → mm_G p l e R s m args below meth c cells slots Q nL D ad q A M (pc + 3) lv st) : mm_G p l e R s m args below meth c cells slots Q nL D ad q A M pc lv (.int x :: st) := fun H locs ls hP hS hl => lv_if_ge C.1.1 C.1.2.1 hd ht (fun z => kt z H locs ls hP hS hl) (fun z => kf z H locs ls hP hS hl)
theorem r_if_gt (C : mm_C p s m args c cc nL Ts own D ad q A) {x : Int32} {off : Int} {tgt : Nat} (hd : decode cc pc = .ok (.ifCond .gt off, 3)) (ht : (pc : Int) + off = (tgt : Int)) (kt : 0 < x → mm_G p l e R s m args below meth c cells slots Q nL D ad q A M tgt lv st) (kf : ¬ 0 < x → mm_G p l e R s m args below meth c cells slots Q nL D ad q A M (pc + 3) lv st) : mm_G p l e R s m args below meth c cells slots Q nL D ad q A M pc lv (.int x :: st) := fun H locs ls hP hS hl => lv_if_gt C.1.1 C.1.2.1 hd ht (fun z => kt z H locs ls hP hS hl) (fun z => kf z H locs ls hP hS hl)
theorem r_if_le (C : mm_C p s m args c cc nL Ts own D ad q A) {x : Int32} {off : Int} {tgt : Nat} (hd : decode cc pc = .ok (.ifCond .le off, 3)) (ht : (pc : Int) + off = (tgt : Int)) (kt : x ≤ 0 → mm_G p l e R s m args below meth c cells slots Q nL D ad q A M tgt lv st) (kf : ¬ x ≤ 0 → mm_G p l e R s m args below meth c cells slots Q nL D ad q A M (pc + 3) lv st) : mm_G p l e R s m args below meth c cells slots Q nL D ad q A M pc lv (.int x :: st) := fun H locs ls hP hS hl => lv_if_le C.1.1 C.1.2.1 hd ht (fun z => kt z H locs ls hP hS hl) (fun z => kf z H locs ls hP hS hl)
theorem r_icmp_eq (C : mm_C p s m args c cc nL Ts own D ad q A) {x y : Int32} {off : Int} {tgt : Nat} (hd : decode cc pc = .ok (.if_icmp .eq off, 3)) (ht : (pc : Int) + off = (tgt : Int)) (kt : x = y → mm_G p l e R s m args below meth c cells slots Q nL D ad q A M tgt lv st) (kf : ¬ x = y → mm_G p l e R s m args below meth c cells slots Q nL D ad q A M (pc + 3) lv st) : mm_G p l e R s m args below meth c cells slots Q nL D ad q A M pc lv (.int y :: .int x :: st) := fun H locs ls hP hS hl => lv_icmp_eq C.1.1 C.1.2.1 hd ht (fun z => kt z H locs ls hP hS hl) (fun z => kf z H locs ls hP hS hl)
theorem r_icmp_ne (C : mm_C p s m args c cc nL Ts own D ad q A) {x y : Int32} {off : Int} {tgt : Nat} (hd : decode cc pc = .ok (.if_icmp .ne off, 3)) (ht : (pc : Int) + off = (tgt : Int)) (kt : ¬ x = y → mm_G p l e R s m args below meth c cells slots Q nL D ad q A M tgt lv st) (kf : x = y → mm_G p l e R s m args below meth c cells slots Q nL D ad q A M (pc + 3) lv st) : mm_G p l e R s m args below meth c cells slots Q nL D ad q A M pc lv (.int y :: .int x :: st) := fun H locs ls hP hS hl => lv_icmp_ne C.1.1 C.1.2.1 hd ht (fun z => kt z H locs ls hP hS hl) (fun z => kf z H locs ls hP hS hl)
theorem r_icmp_lt (C : mm_C p s m args c cc nL Ts own D ad q A) {x y : Int32} {off : Int} {tgt : Nat} (hd : decode cc pc = .ok (.if_icmp .lt off, 3)) (ht : (pc : Int) + off = (tgt : Int)) (kt : x < y → mm_G p l e R s m args below meth c cells slots Q nL D ad q A M tgt lv st) (kf : ¬ x < y → mm_G p l e R s m args below meth c cells slots Q nL D ad q A M (pc + 3) lv st) : mm_G p l e R s m args below meth c cells slots Q nL D ad q A M pc lv (.int y :: .int x :: st) := fun H locs ls hP hS hl => lv_icmp_lt C.1.1 C.1.2.1 hd ht (fun z => kt z H locs ls hP hS hl) (fun z => kf z H locs ls hP hS hl)
theorem r_icmp_ge (C : mm_C p s m args c cc nL Ts own D ad q A) {x y : Int32} {off : Int} {tgt : Nat} (hd : decode cc pc = .ok (.if_icmp .ge off, 3)) (ht : (pc : Int) + off = (tgt : Int)) (kt : y ≤ x → mm_G p l e R s m args below meth c cells slots Q nL D ad q A M tgt lv st) (kf : ¬ y ≤ x → mm_G p l e R s m args below meth c cells slots Q nL D ad q A M (pc + 3) lv st) : mm_G p l e R s m args below meth c cells slots Q nL D ad q A M pc lv (.int y :: .int x :: st) := fun H locs ls hP hS hl => lv_icmp_ge C.1.1 C.1.2.1 hd ht (fun z => kt z H locs ls hP hS hl) (fun z => kf z H locs ls hP hS hl)
theorem r_icmp_gt (C : mm_C p s m args c cc nL Ts own D ad q A) {x y : Int32} {off : Int} {tgt : Nat} (hd : decode cc pc = .ok (.if_icmp .gt off, 3)) (ht : (pc : Int) + off = (tgt : Int)) (kt : y < x → mm_G p l e R s m args below meth c cells slots Q nL D ad q A M tgt lv st) (kf : ¬ y < x → mm_G p l e R s m args below meth c cells slots Q nL D ad q A M (pc + 3) lv st) : mm_G p l e R s m args below meth c cells slots Q nL D ad q A M pc lv (.int y :: .int x :: st) := fun H locs ls hP hS hl => lv_icmp_gt C.1.1 C.1.2.1 hd ht (fun z => kt z H locs ls hP hS hl) (fun z => kf z H locs ls hP hS hl)
theorem r_icmp_le (C : mm_C p s m args c cc nL Ts own D ad q A) {x y : Int32} {off : Int} {tgt : Nat} (hd : decode cc pc = .ok (.if_icmp .le off, 3)) (ht : (pc : Int) + off = (tgt : Int)) (kt : x ≤ y → mm_G p l e R s m args below meth c cells slots Q nL D ad q A M tgt lv st) (kf : ¬ x ≤ y → mm_G p l e R s m args below meth c cells slots Q nL D ad q A M (pc + 3) lv st) : mm_G p l e R s m args below meth c cells slots Q nL D ad q A M pc lv (.int y :: .int x :: st) := fun H locs ls hP hS hl => lv_icmp_le C.1.1 C.1.2.1 hd ht (fun z => kt z H locs ls hP hS hl) (fun z => kf z H locs ls hP hS hl)
theorem r_if_eqT (C : mm_C p s m args c cc nL Ts own D ad q A) {x : Int32} {off : Int} {tgt : Nat} (hd : decode cc pc = .ok (.ifCond .eq off, 3)) (ht : (pc : Int) + off = (tgt : Int)) (h : x = 0) (k : mm_G p l e R s m args below meth c cells slots Q nL D ad q A M tgt lv st) : mm_G p l e R s m args below meth c cells slots Q nL D ad q A M pc lv (.int x :: st) := r_if_eq C hd ht (fun _ => k) (fun z => absurd h z)
theorem r_if_eqF (C : mm_C p s m args c cc nL Ts own D ad q A) {x : Int32} {off : Int} {tgt : Nat} (hd : decode cc pc = .ok (.ifCond .eq off, 3)) (ht : (pc : Int) + off = (tgt : Int)) (h : ¬ x = 0) (k : mm_G p l e R s m args below meth c cells slots Q nL D ad q A M (pc + 3) lv st) : mm_G p l e R s m args below meth c cells slots Q nL D ad q A M pc lv (.int x :: st) := r_if_eq C hd ht (fun z => absurd z h) (fun _ => k)
theorem r_if_neT (C : mm_C p s m args c cc nL Ts own D ad q A) {x : Int32} {off : Int} {tgt : Nat} (hd : decode cc pc = .ok (.ifCond .ne off, 3)) (ht : (pc : Int) + off = (tgt : Int)) (h : ¬ x = 0) (k : mm_G p l e R s m args below meth c cells slots Q nL D ad q A M tgt lv st) : mm_G p l e R s m args below meth c cells slots Q nL D ad q A M pc lv (.int x :: st) := r_if_ne C hd ht (fun _ => k) (fun z => absurd z h)
theorem r_if_neF (C : mm_C p s m args c cc nL Ts own D ad q A) {x : Int32} {off : Int} {tgt : Nat} (hd : decode cc pc = .ok (.ifCond .ne off, 3)) (ht : (pc : Int) + off = (tgt : Int)) (h : x = 0) (k : mm_G p l e R s m args below meth c cells slots Q nL D ad q A M (pc + 3) lv st) : mm_G p l e R s m args below meth c cells slots Q nL D ad q A M pc lv (.int x :: st) := r_if_ne C hd ht (fun z => absurd h z) (fun _ => k)
theorem r_if_ltT (C : mm_C p s m args c cc nL Ts own D ad q A) {x : Int32} {off : Int} {tgt : Nat} (hd : decode cc pc = .ok (.ifCond .lt off, 3)) (ht : (pc : Int) + off = (tgt : Int)) (h : x < 0) (k : mm_G p l e R s m args below meth c cells slots Q nL D ad q A M tgt lv st) : mm_G p l e R s m args below meth c cells slots Q nL D ad q A M pc lv (.int x :: st) := r_if_lt C hd ht (fun _ => k) (fun z => absurd h z)
theorem r_if_ltF (C : mm_C p s m args c cc nL Ts own D ad q A) {x : Int32} {off : Int} {tgt : Nat} (hd : decode cc pc = .ok (.ifCond .lt off, 3)) (ht : (pc : Int) + off = (tgt : Int)) (h : ¬ x < 0) (k : mm_G p l e R s m args below meth c cells slots Q nL D ad q A M (pc + 3) lv st) : mm_G p l e R s m args below meth c cells slots Q nL D ad q A M pc lv (.int x :: st) := r_if_lt C hd ht (fun z => absurd z h) (fun _ => k)
theorem r_if_geT (C : mm_C p s m args c cc nL Ts own D ad q A) {x : Int32} {off : Int} {tgt : Nat} (hd : decode cc pc = .ok (.ifCond .ge off, 3)) (ht : (pc : Int) + off = (tgt : Int)) (h : 0 ≤ x) (k : mm_G p l e R s m args below meth c cells slots Q nL D ad q A M tgt lv st) : mm_G p l e R s m args below meth c cells slots Q nL D ad q A M pc lv (.int x :: st) := r_if_ge C hd ht (fun _ => k) (fun z => absurd h z)
theorem r_if_geF (C : mm_C p s m args c cc nL Ts own D ad q A) {x : Int32} {off : Int} {tgt : Nat} (hd : decode cc pc = .ok (.ifCond .ge off, 3)) (ht : (pc : Int) + off = (tgt : Int)) (h : ¬ 0 ≤ x) (k : mm_G p l e R s m args below meth c cells slots Q nL D ad q A M (pc + 3) lv st) : mm_G p l e R s m args below meth c cells slots Q nL D ad q A M pc lv (.int x :: st) := r_if_ge C hd ht (fun z => absurd z h) (fun _ => k)
theorem r_if_gtT (C : mm_C p s m args c cc nL Ts own D ad q A) {x : Int32} {off : Int} {tgt : Nat} (hd : decode cc pc = .ok (.ifCond .gt off, 3)) (ht : (pc : Int) + off = (tgt : Int)) (h : 0 < x) (k : mm_G p l e R s m args below meth c cells slots Q nL D ad q A M tgt lv st) : mm_G p l e R s m args below meth c cells slots Q nL D ad q A M pc lv (.int x :: st) := r_if_gt C hd ht (fun _ => k) (fun z => absurd h z)
theorem r_if_gtF (C : mm_C p s m args c cc nL Ts own D ad q A) {x : Int32} {off : Int} {tgt : Nat} (hd : decode cc pc = .ok (.ifCond .gt off, 3)) (ht : (pc : Int) + off = (tgt : Int)) (h : ¬ 0 < x) (k : mm_G p l e R s m args below meth c cells slots Q nL D ad q A M (pc + 3) lv st) : mm_G p l e R s m args below meth c cells slots Q nL D ad q A M pc lv (.int x :: st) := r_if_gt C hd ht (fun z => absurd z h) (fun _ => k)
theorem r_if_leT (C : mm_C p s m args c cc nL Ts own D ad q A) {x : Int32} {off : Int} {tgt : Nat} (hd : decode cc pc = .ok (.ifCond .le off, 3)) (ht : (pc : Int) + off = (tgt : Int)) (h : x ≤ 0) (k : mm_G p l e R s m args below meth c cells slots Q nL D ad q A M tgt lv st) : mm_G p l e R s m args below meth c cells slots Q nL D ad q A M pc lv (.int x :: st) := r_if_le C hd ht (fun _ => k) (fun z => absurd h z)
theorem r_if_leF (C : mm_C p s m args c cc nL Ts own D ad q A) {x : Int32} {off : Int} {tgt : Nat} (hd : decode cc pc = .ok (.ifCond .le off, 3)) (ht : (pc : Int) + off = (tgt : Int)) (h : ¬ x ≤ 0) (k : mm_G p l e R s m args below meth c cells slots Q nL D ad q A M (pc + 3) lv st) : mm_G p l e R s m args below meth c cells slots Q nL D ad q A M pc lv (.int x :: st) := r_if_le C hd ht (fun z => absurd z h) (fun _ => k)
theorem r_icmp_eqT (C : mm_C p s m args c cc nL Ts own D ad q A) {x y : Int32} {off : Int} {tgt : Nat} (hd : decode cc pc = .ok (.if_icmp .eq off, 3)) (ht : (pc : Int) + off = (tgt : Int)) (h : x = y) (k : mm_G p l e R s m args below meth c cells slots Q nL D ad q A M tgt lv st) : mm_G p l e R s m args below meth c cells slots Q nL D ad q A M pc lv (.int y :: .int x :: st) := r_icmp_eq C hd ht (fun _ => k) (fun z => absurd h z)
theorem r_icmp_eqF (C : mm_C p s m args c cc nL Ts own D ad q A) {x y : Int32} {off : Int} {tgt : Nat} (hd : decode cc pc = .ok (.if_icmp .eq off, 3)) (ht : (pc : Int) + off = (tgt : Int)) (h : ¬ x = y) (k : mm_G p l e R s m args below meth c cells slots Q nL D ad q A M (pc + 3) lv st) : mm_G p l e R s m args below meth c cells slots Q nL D ad q A M pc lv (.int y :: .int x :: st) := r_icmp_eq C hd ht (fun z => absurd z h) (fun _ => k)
theorem r_icmp_neT (C : mm_C p s m args c cc nL Ts own D ad q A) {x y : Int32} {off : Int} {tgt : Nat} (hd : decode cc pc = .ok (.if_icmp .ne off, 3)) (ht : (pc : Int) + off = (tgt : Int)) (h : ¬ x = y) (k : mm_G p l e R s m args below meth c cells slots Q nL D ad q A M tgt lv st) : mm_G p l e R s m args below meth c cells slots Q nL D ad q A M pc lv (.int y :: .int x :: st) := r_icmp_ne C hd ht (fun _ => k) (fun z => absurd z h)
theorem r_icmp_neF (C : mm_C p s m args c cc nL Ts own D ad q A) {x y : Int32} {off : Int} {tgt : Nat} (hd : decode cc pc = .ok (.if_icmp .ne off, 3)) (ht : (pc : Int) + off = (tgt : Int)) (h : x = y) (k : mm_G p l e R s m args below meth c cells slots Q nL D ad q A M (pc + 3) lv st) : mm_G p l e R s m args below meth c cells slots Q nL D ad q A M pc lv (.int y :: .int x :: st) := r_icmp_ne C hd ht (fun z => absurd h z) (fun _ => k)
theorem r_icmp_ltT (C : mm_C p s m args c cc nL Ts own D ad q A) {x y : Int32} {off : Int} {tgt : Nat} (hd : decode cc pc = .ok (.if_icmp .lt off, 3)) (ht : (pc : Int) + off = (tgt : Int)) (h : x < y) (k : mm_G p l e R s m args below meth c cells slots Q nL D ad q A M tgt lv st) : mm_G p l e R s m args below meth c cells slots Q nL D ad q A M pc lv (.int y :: .int x :: st) := r_icmp_lt C hd ht (fun _ => k) (fun z => absurd h z)
theorem r_icmp_ltF (C : mm_C p s m args c cc nL Ts own D ad q A) {x y : Int32} {off : Int} {tgt : Nat} (hd : decode cc pc = .ok (.if_icmp .lt off, 3)) (ht : (pc : Int) + off = (tgt : Int)) (h : ¬ x < y) (k : mm_G p l e R s m args below meth c cells slots Q nL D ad q A M (pc + 3) lv st) : mm_G p l e R s m args below meth c cells slots Q nL D ad q A M pc lv (.int y :: .int x :: st) := r_icmp_lt C hd ht (fun z => absurd z h) (fun _ => k)
theorem r_icmp_geT (C : mm_C p s m args c cc nL Ts own D ad q A) {x y : Int32} {off : Int} {tgt : Nat} (hd : decode cc pc = .ok (.if_icmp .ge off, 3)) (ht : (pc : Int) + off = (tgt : Int)) (h : y ≤ x) (k : mm_G p l e R s m args below meth c cells slots Q nL D ad q A M tgt lv st) : mm_G p l e R s m args below meth c cells slots Q nL D ad q A M pc lv (.int y :: .int x :: st) := r_icmp_ge C hd ht (fun _ => k) (fun z => absurd h z)
theorem r_icmp_geF (C : mm_C p s m args c cc nL Ts own D ad q A) {x y : Int32} {off : Int} {tgt : Nat} (hd : decode cc pc = .ok (.if_icmp .ge off, 3)) (ht : (pc : Int) + off = (tgt : Int)) (h : ¬ y ≤ x) (k : mm_G p l e R s m args below meth c cells slots Q nL D ad q A M (pc + 3) lv st) : mm_G p l e R s m args below meth c cells slots Q nL D ad q A M pc lv (.int y :: .int x :: st) := r_icmp_ge C hd ht (fun z => absurd z h) (fun _ => k)
theorem r_icmp_gtT (C : mm_C p s m args c cc nL Ts own D ad q A) {x y : Int32} {off : Int} {tgt : Nat} (hd : decode cc pc = .ok (.if_icmp .gt off, 3)) (ht : (pc : Int) + off = (tgt : Int)) (h : y < x) (k : mm_G p l e R s m args below meth c cells slots Q nL D ad q A M tgt lv st) : mm_G p l e R s m args below meth c cells slots Q nL D ad q A M pc lv (.int y :: .int x :: st) := r_icmp_gt C hd ht (fun _ => k) (fun z => absurd h z)
theorem r_icmp_gtF (C : mm_C p s m args c cc nL Ts own D ad q A) {x y : Int32} {off : Int} {tgt : Nat} (hd : decode cc pc = .ok (.if_icmp .gt off, 3)) (ht : (pc : Int) + off = (tgt : Int)) (h : ¬ y < x) (k : mm_G p l e R s m args below meth c cells slots Q nL D ad q A M (pc + 3) lv st) : mm_G p l e R s m args below meth c cells slots Q nL D ad q A M pc lv (.int y :: .int x :: st) := r_icmp_gt C hd ht (fun z => absurd z h) (fun _ => k)
theorem r_icmp_leT (C : mm_C p s m args c cc nL Ts own D ad q A) {x y : Int32} {off : Int} {tgt : Nat} (hd : decode cc pc = .ok (.if_icmp .le off, 3)) (ht : (pc : Int) + off = (tgt : Int)) (h : x ≤ y) (k : mm_G p l e R s m args below meth c cells slots Q nL D ad q A M tgt lv st) : mm_G p l e R s m args below meth c cells slots Q nL D ad q A M pc lv (.int y :: .int x :: st) := r_icmp_le C hd ht (fun _ => k) (fun z => absurd h z)
theorem r_icmp_leF (C : mm_C p s m args c cc nL Ts own D ad q A) {x y : Int32} {off : Int} {tgt : Nat} (hd : decode cc pc = .ok (.if_icmp .le off, 3)) (ht : (pc : Int) + off = (tgt : Int)) (h : ¬ x ≤ y) (k : mm_G p l e R s m args below meth c cells slots Q nL D ad q A M (pc + 3) lv st) : mm_G p l e R s m args below meth c cells slots Q nL D ad q A M pc lv (.int y :: .int x :: st) := r_icmp_le C hd ht (fun z => absurd z h) (fun _ => k)
theorem r_ifnonnull (C : mm_C p s m args c cc nL Ts own D ad q A) {x : Nat} {off : Int} {tgt : Nat} (hd : decode cc pc = .ok (.ifnonnull off, 3)) (ht : (pc : Int) + off = (tgt : Int)) (k : mm_G p l e R s m args below meth c cells slots Q nL D ad q A M tgt lv st) : mm_G p l e R s m args below meth c cells slots Q nL D ad q A M pc lv (.ref x :: st) := fun H locs ls hP hS hl => lv_ifnonnull C.1.1 C.1.2.1 hd ht (k H locs ls hP hS hl)
theorem r_ifnonnullN (C : mm_C p s m args c cc nL Ts own D ad q A) {off : Int} (hd : decode cc pc = .ok (.ifnonnull off, 3)) (k : mm_G p l e R s m args below meth c cells slots Q nL D ad q A M (pc + 3) lv st) : mm_G p l e R s m args below meth c cells slots Q nL D ad q A M pc lv (.null :: st) := fun H locs ls hP hS hl => lv_ifnonnullN C.1.1 C.1.2.1 hd (k H locs ls hP hS hl)
theorem r_null (C : mm_C p s m args c cc nL Ts own D ad q A) (hd : decode cc pc = .ok (.aconst_null, 1)) (k : mm_G p l e R s m args below meth c cells slots Q nL D ad q A M (pc + 1) lv (.null :: st)) : mm_G p l e R s m args below meth c cells slots Q nL D ad q A M pc lv st := fun H locs ls hP hS hl => lv_null C.1.1 C.1.2.1 hd (k H locs ls hP hS hl)
theorem r_acmp_ne (C : mm_C p s m args c cc nL Ts own D ad q A) {x y : Nat} {off : Int} {tgt : Nat} (hd : decode cc pc = .ok (.if_acmp .ne off, 3)) (ht : (pc : Int) + off = (tgt : Int)) (kt : ¬ x = y → mm_G p l e R s m args below meth c cells slots Q nL D ad q A M tgt lv st) (kf : x = y → mm_G p l e R s m args below meth c cells slots Q nL D ad q A M (pc + 3) lv st) : mm_G p l e R s m args below meth c cells slots Q nL D ad q A M pc lv (.ref y :: .ref x :: st) := fun H locs ls hP hS hl => lv_acmp_ne (rx := some x) (ry := some y) C.1.1 C.1.2.1 hd ht (fun z => kt (fun z9 => z (congrArg some z9)) H locs ls hP hS hl) (fun z => kf (Option.some.inj z) H locs ls hP hS hl)
theorem r_dup (C : mm_C p s m args c cc nL Ts own D ad q A) {va : Value} (hd : decode cc pc = .ok (.dup, 1)) (hva : va.category = 1) (k : mm_G p l e R s m args below meth c cells slots Q nL D ad q A M (pc + 1) lv (va :: va :: st)) : mm_G p l e R s m args below meth c cells slots Q nL D ad q A M pc lv (va :: st) := fun H locs ls hP hS hl => lv_dup C.1.1 C.1.2.1 hd hva (k H locs ls hP hS hl)
theorem r_dup2_11 (C : mm_C p s m args c cc nL Ts own D ad q A) {va vb : Value} (hd : decode cc pc = .ok (.dup2, 1)) (hva : va.category = 1) (hvb : vb.category = 1) (k : mm_G p l e R s m args below meth c cells slots Q nL D ad q A M (pc + 1) lv (va :: vb :: va :: vb :: st)) : mm_G p l e R s m args below meth c cells slots Q nL D ad q A M pc lv (va :: vb :: st) := fun H locs ls hP hS hl => lv_dup2_11 C.1.1 C.1.2.1 hd hva hvb (k H locs ls hP hS hl)
theorem r_dup2_2 (C : mm_C p s m args c cc nL Ts own D ad q A) {va : Value} (hd : decode cc pc = .ok (.dup2, 1)) (hva : va.category = 2) (k : mm_G p l e R s m args below meth c cells slots Q nL D ad q A M (pc + 1) lv (va :: va :: st)) : mm_G p l e R s m args below meth c cells slots Q nL D ad q A M pc lv (va :: st) := fun H locs ls hP hS hl => lv_dup2_2 C.1.1 C.1.2.1 hd hva (k H locs ls hP hS hl)
theorem r_pop2_2 (C : mm_C p s m args c cc nL Ts own D ad q A) {va : Value} (hd : decode cc pc = .ok (.pop2, 1)) (hva : va.category = 2) (k : mm_G p l e R s m args below meth c cells slots Q nL D ad q A M (pc + 1) lv st) : mm_G p l e R s m args below meth c cells slots Q nL D ad q A M pc lv (va :: st) := fun H locs ls hP hS hl => lv_pop2_2 C.1.1 C.1.2.1 hd hva (k H locs ls hP hS hl)
theorem mm_ct4 (ad : Nat → Nat) (q : Nat → ClassId) (M : mm_M) : mm_ct ad q M 0 = .inr (4, mm_f4 ad M) := rfl
theorem mm_ct1 (ad : Nat → Nat) (q : Nat → ClassId) (M : mm_M) : mm_ct ad q M 3 = .inr (1, mm_f1 M) := rfl
theorem mm_ct5 (ad : Nat → Nat) (q : Nat → ClassId) (M : mm_M) : mm_ct ad q M 50 = .inr (5, mm_f5 ad M) := rfl
theorem mm_ct2 (ad : Nat → Nat) (q : Nat → ClassId) (M : mm_M) {i : Nat} (hi : i < 4) : mm_ct ad q M (6 + i) = .inr (2, mm_f2 M i) := by
  have e : 6 + i - 6 = i := by omega
  unfold mm_ct
  rw [if_neg (by omega), if_neg (by omega), if_neg (by omega), if_neg (by omega), if_neg (by omega), if_neg (by omega), if_pos (by omega), e]
theorem mm_ct0 (ad : Nat → Nat) (q : Nat → ClassId) (M : mm_M) {i : Nat} (hi : i < 8) : mm_ct ad q M (10 + i) = .inr (0, mm_f0 ad M i) := by
  have e : 10 + i - 10 = i := by omega
  unfold mm_ct
  rw [if_neg (by omega), if_neg (by omega), if_neg (by omega), if_neg (by omega), if_neg (by omega), if_neg (by omega), if_neg (by omega), if_pos (by omega), e]
theorem mm_ct3 (ad : Nat → Nat) (q : Nat → ClassId) (M : mm_M) {i : Nat} (hi : i < 8) : mm_ct ad q M (18 + i) = .inr (3, mm_f3 ad M i) := by
  have e : 18 + i - 18 = i := by omega
  unfold mm_ct
  rw [if_neg (by omega), if_neg (by omega), if_neg (by omega), if_neg (by omega), if_neg (by omega), if_neg (by omega), if_neg (by omega), if_neg (by omega), if_pos (by omega), e]
theorem mm_w_atE {ad : Nat → Nat} {q : Nat → ClassId} {M : mm_M} {k : Nat} {e : va_E} (hk : k < 66) (he : mm_ct ad q M k = e) : (mm_w ad q M)[k]? = some (ad k, e) := by rw [mm_w_at hk, he]

theorem r_get4 (C : mm_C p s m args c cc nL Ts own D ad q A)  (hin : ∀ w ∈ wsX40, w ∈ Ts) {v : Value} {ix : Nat} (j : Nat) (hj : j < 9) (hv : (mm_f4 ad M)[j]? = some v) (hlink : Cond.fieldLink own ix RX4 (TX4 j).2.1 (TX4 j).2.2.1 ∈ Ts) (hsame : (TX4 j).1 = RX4) (hd : decode cc pc = .ok (.getfield ix, 3)) (k : mm_G p l e R s m args below meth c cells slots Q nL D ad q A M (pc + 3) lv (v :: st)) : mm_G p l e R s m args below meth c cells slots Q nL D ad q A M pc lv (.ref (ad 0) :: st) :=
  fun H locs ls hP hS hl => va_get (D := D) (ci := 4) (C := RX4) (T := TX4) (N := 9) C.1.1 C.1.2.1 C.1.2.2.2.2 hin C.1.2.2.2.1 C.2.1 hP 0 (mm_w_atE (by decide) (mm_ct4 ad q M)) rfl j hj (C.1.2.2.2.2 _ hlink) (fun x h9 => by rw [hsame] at h9; exact h9) hv hd (k H locs ls hP hS hl)
theorem r_put4 (C : mm_C p s m args c cc nL Ts own D ad q A)  (hin : ∀ w ∈ wsX40, w ∈ Ts) {x : Int32} {ty : FieldType} {ix : Nat} (j : Nat) (hj : j < 9) (hset : ∀ M : mm_M, (mm_f4 ad M).set j (.int x) = mm_f4 ad (mm_sI M 0 j x)) (hlink : Cond.fieldLink own ix RX4 (TX4 j).2.1 (TX4 j).2.2.1 ∈ Ts) (hsame : (TX4 j).1 = RX4) (hfin : (TX4 j).2.2.2 = false) (hty : parseFieldDescriptor (TX4 j).2.2.1 = some ty) (hn : narrow ty (.int x) = .int x) (hf : fits ty (.int x) = true) (hd : decode cc pc = .ok (.putfield ix, 3)) (k : mm_G p l e R s m args below meth c cells slots Q nL D ad q A (mm_sI M 0 j x) (pc + 3) lv st) : mm_G p l e R s m args below meth c cells slots Q nL D ad q A M pc lv (.int x :: .ref (ad 0) :: st) :=
  fun H locs ls hP hS hl => va_put (D := D) (ci := 4) (C := RX4) (T := TX4) (N := 9) C.1.1 C.1.2.1 C.1.2.2.2.2 hin tyX4 tyX4_ok nmX4 C.1.2.2.2.1 C.2.1 hP (mm_w_D C.2.2 M) hS 0 (mm_w_atE (by decide) (mm_ct4 ad q M)) rfl j hj (C.1.2.2.2.2 _ hlink) (fun z h9 => by rw [hsame] at h9; exact h9) hfin hty hn hf hj hd (fun H1 locs1 hP1 hD1 hS1 => k H1 locs1 ls (by rw [hset M, mm_w_set (mm_ct4 ad q (mm_sI M 0 j x)) mm_sI_o] at hP1; exact hP1) hS1 hl)
theorem mm_set4_5 {ad : Nat → Nat} {x : Int32} : ∀ M : mm_M, (mm_f4 ad M).set 5 (.int x) = mm_f4 ad (mm_sI M 0 5 x) := fun M => by simp [mm_sI]
theorem mm_set4_6 {ad : Nat → Nat} {x : Int32} : ∀ M : mm_M, (mm_f4 ad M).set 6 (.int x) = mm_f4 ad (mm_sI M 0 6 x) := fun M => by simp [mm_sI]
theorem mm_set4_7 {ad : Nat → Nat} {x : Int32} : ∀ M : mm_M, (mm_f4 ad M).set 7 (.int x) = mm_f4 ad (mm_sI M 0 7 x) := fun M => by simp [mm_sI]
theorem mm_set4_8 {ad : Nat → Nat} {x : Int32} : ∀ M : mm_M, (mm_f4 ad M).set 8 (.int x) = mm_f4 ad (mm_sI M 0 8 x) := fun M => by simp [mm_sI]
theorem r_get1 (C : mm_C p s m args c cc nL Ts own D ad q A)  (hin : ∀ w ∈ wsX10, w ∈ Ts) {v : Value} {ix : Nat} (j : Nat) (hj : j < 2) (hv : (mm_f1 M)[j]? = some v) (hlink : Cond.fieldLink own ix RX1 (TX1 j).2.1 (TX1 j).2.2.1 ∈ Ts) (hsame : (TX1 j).1 = RX1) (hd : decode cc pc = .ok (.getfield ix, 3)) (k : mm_G p l e R s m args below meth c cells slots Q nL D ad q A M (pc + 3) lv (v :: st)) : mm_G p l e R s m args below meth c cells slots Q nL D ad q A M pc lv (.ref (ad 3) :: st) :=
  fun H locs ls hP hS hl => va_get (D := D) (ci := 1) (C := RX1) (T := TX1) (N := 2) C.1.1 C.1.2.1 C.1.2.2.2.2 hin C.1.2.2.2.1 C.2.1 hP 3 (mm_w_atE (by decide) (mm_ct1 ad q M)) rfl j hj (C.1.2.2.2.2 _ hlink) (fun x h9 => by rw [hsame] at h9; exact h9) hv hd (k H locs ls hP hS hl)
theorem r_put1 (C : mm_C p s m args c cc nL Ts own D ad q A)  (hin : ∀ w ∈ wsX10, w ∈ Ts) {x : Int32} {ty : FieldType} {ix : Nat} (j : Nat) (hj : j < 2) (hset : ∀ M : mm_M, (mm_f1 M).set j (.int x) = mm_f1 (mm_sI M 3 j x)) (hlink : Cond.fieldLink own ix RX1 (TX1 j).2.1 (TX1 j).2.2.1 ∈ Ts) (hsame : (TX1 j).1 = RX1) (hfin : (TX1 j).2.2.2 = false) (hty : parseFieldDescriptor (TX1 j).2.2.1 = some ty) (hn : narrow ty (.int x) = .int x) (hf : fits ty (.int x) = true) (hd : decode cc pc = .ok (.putfield ix, 3)) (k : mm_G p l e R s m args below meth c cells slots Q nL D ad q A (mm_sI M 3 j x) (pc + 3) lv st) : mm_G p l e R s m args below meth c cells slots Q nL D ad q A M pc lv (.int x :: .ref (ad 3) :: st) :=
  fun H locs ls hP hS hl => va_put (D := D) (ci := 1) (C := RX1) (T := TX1) (N := 2) C.1.1 C.1.2.1 C.1.2.2.2.2 hin tyX1 tyX1_ok nmX1 C.1.2.2.2.1 C.2.1 hP (mm_w_D C.2.2 M) hS 3 (mm_w_atE (by decide) (mm_ct1 ad q M)) rfl j hj (C.1.2.2.2.2 _ hlink) (fun z h9 => by rw [hsame] at h9; exact h9) hfin hty hn hf hj hd (fun H1 locs1 hP1 hD1 hS1 => k H1 locs1 ls (by rw [hset M, mm_w_set (mm_ct1 ad q (mm_sI M 3 j x)) mm_sI_o] at hP1; exact hP1) hS1 hl)
theorem mm_set1_0 {x : Int32} : ∀ M : mm_M, (mm_f1 M).set 0 (.int x) = mm_f1 (mm_sI M 3 0 x) := fun M => by simp [mm_sI]
theorem mm_set1_1 {x : Int32} : ∀ M : mm_M, (mm_f1 M).set 1 (.int x) = mm_f1 (mm_sI M 3 1 x) := fun M => by simp [mm_sI]
theorem r_get5 (C : mm_C p s m args c cc nL Ts own D ad q A)  (hin : ∀ w ∈ wsX50, w ∈ Ts) {v : Value} {ix : Nat} (j : Nat) (hj : j < 21) (hv : (mm_f5 ad M)[j]? = some v) (hlink : Cond.fieldLink own ix RX5 (TX5 j).2.1 (TX5 j).2.2.1 ∈ Ts) (hsame : (TX5 j).1 = RX5) (hd : decode cc pc = .ok (.getfield ix, 3)) (k : mm_G p l e R s m args below meth c cells slots Q nL D ad q A M (pc + 3) lv (v :: st)) : mm_G p l e R s m args below meth c cells slots Q nL D ad q A M pc lv (.ref (ad 50) :: st) :=
  fun H locs ls hP hS hl => va_get (D := D) (ci := 5) (C := RX5) (T := TX5) (N := 21) C.1.1 C.1.2.1 C.1.2.2.2.2 hin C.1.2.2.2.1 C.2.1 hP 50 (mm_w_atE (by decide) (mm_ct5 ad q M)) rfl j hj (C.1.2.2.2.2 _ hlink) (fun x h9 => by rw [hsame] at h9; exact h9) hv hd (k H locs ls hP hS hl)
theorem r_put5 (C : mm_C p s m args c cc nL Ts own D ad q A)  (hin : ∀ w ∈ wsX50, w ∈ Ts) {x : Int32} {ty : FieldType} {ix : Nat} (j : Nat) (hj : j < 21) (hset : ∀ M : mm_M, (mm_f5 ad M).set j (.int x) = mm_f5 ad (mm_sI M 50 j x)) (hlink : Cond.fieldLink own ix RX5 (TX5 j).2.1 (TX5 j).2.2.1 ∈ Ts) (hsame : (TX5 j).1 = RX5) (hfin : (TX5 j).2.2.2 = false) (hty : parseFieldDescriptor (TX5 j).2.2.1 = some ty) (hn : narrow ty (.int x) = .int x) (hf : fits ty (.int x) = true) (hd : decode cc pc = .ok (.putfield ix, 3)) (k : mm_G p l e R s m args below meth c cells slots Q nL D ad q A (mm_sI M 50 j x) (pc + 3) lv st) : mm_G p l e R s m args below meth c cells slots Q nL D ad q A M pc lv (.int x :: .ref (ad 50) :: st) :=
  fun H locs ls hP hS hl => va_put (D := D) (ci := 5) (C := RX5) (T := TX5) (N := 21) C.1.1 C.1.2.1 C.1.2.2.2.2 hin tyX5 tyX5_ok nmX5 C.1.2.2.2.1 C.2.1 hP (mm_w_D C.2.2 M) hS 50 (mm_w_atE (by decide) (mm_ct5 ad q M)) rfl j hj (C.1.2.2.2.2 _ hlink) (fun z h9 => by rw [hsame] at h9; exact h9) hfin hty hn hf hj hd (fun H1 locs1 hP1 hD1 hS1 => k H1 locs1 ls (by rw [hset M, mm_w_set (mm_ct5 ad q (mm_sI M 50 j x)) mm_sI_o] at hP1; exact hP1) hS1 hl)
theorem mm_set5_0 {ad : Nat → Nat} {x : Int32} : ∀ M : mm_M, (mm_f5 ad M).set 0 (.int x) = mm_f5 ad (mm_sI M 50 0 x) := fun M => by simp [mm_sI]
theorem mm_set5_1 {ad : Nat → Nat} {x : Int32} : ∀ M : mm_M, (mm_f5 ad M).set 1 (.int x) = mm_f5 ad (mm_sI M 50 1 x) := fun M => by simp [mm_sI]
theorem mm_set5_9 {ad : Nat → Nat} {x : Int32} : ∀ M : mm_M, (mm_f5 ad M).set 9 (.int x) = mm_f5 ad (mm_sI M 50 9 x) := fun M => by simp [mm_sI]
theorem mm_set5_13 {ad : Nat → Nat} {x : Int32} : ∀ M : mm_M, (mm_f5 ad M).set 13 (.int x) = mm_f5 ad (mm_sI M 50 13 x) := fun M => by simp [mm_sI]
theorem mm_set5_14 {ad : Nat → Nat} {x : Int32} : ∀ M : mm_M, (mm_f5 ad M).set 14 (.int x) = mm_f5 ad (mm_sI M 50 14 x) := fun M => by simp [mm_sI]
theorem mm_set5_15 {ad : Nat → Nat} {x : Int32} : ∀ M : mm_M, (mm_f5 ad M).set 15 (.int x) = mm_f5 ad (mm_sI M 50 15 x) := fun M => by simp [mm_sI]
theorem mm_set5_20 {ad : Nat → Nat} {x : Int32} : ∀ M : mm_M, (mm_f5 ad M).set 20 (.int x) = mm_f5 ad (mm_sI M 50 20 x) := fun M => by simp [mm_sI]
theorem r_get2 (C : mm_C p s m args c cc nL Ts own D ad q A) {i : Nat} (hi : i < 4) (hin : ∀ w ∈ wsX20, w ∈ Ts) {v : Value} {ix : Nat} (j : Nat) (hj : j < 3) (hv : (mm_f2 M i)[j]? = some v) (hlink : Cond.fieldLink own ix RX2 (TX2 j).2.1 (TX2 j).2.2.1 ∈ Ts) (hsame : (TX2 j).1 = RX2) (hd : decode cc pc = .ok (.getfield ix, 3)) (k : mm_G p l e R s m args below meth c cells slots Q nL D ad q A M (pc + 3) lv (v :: st)) : mm_G p l e R s m args below meth c cells slots Q nL D ad q A M pc lv (.ref (ad (6 + i)) :: st) :=
  fun H locs ls hP hS hl => va_get (D := D) (ci := 2) (C := RX2) (T := TX2) (N := 3) C.1.1 C.1.2.1 C.1.2.2.2.2 hin C.1.2.2.2.1 C.2.1 hP (6 + i) (mm_w_atE (by omega) (mm_ct2 ad q M hi)) rfl j hj (C.1.2.2.2.2 _ hlink) (fun x h9 => by rw [hsame] at h9; exact h9) hv hd (k H locs ls hP hS hl)
theorem r_put2 (C : mm_C p s m args c cc nL Ts own D ad q A) {i : Nat} (hi : i < 4) (hin : ∀ w ∈ wsX20, w ∈ Ts) {x : Int32} {ty : FieldType} {ix : Nat} (j : Nat) (hj : j < 3) (hset : ∀ M : mm_M, (mm_f2 M i).set j (.int x) = mm_f2 (mm_sI M (6 + i) j x) i) (hlink : Cond.fieldLink own ix RX2 (TX2 j).2.1 (TX2 j).2.2.1 ∈ Ts) (hsame : (TX2 j).1 = RX2) (hfin : (TX2 j).2.2.2 = false) (hty : parseFieldDescriptor (TX2 j).2.2.1 = some ty) (hn : narrow ty (.int x) = .int x) (hf : fits ty (.int x) = true) (hd : decode cc pc = .ok (.putfield ix, 3)) (k : mm_G p l e R s m args below meth c cells slots Q nL D ad q A (mm_sI M (6 + i) j x) (pc + 3) lv st) : mm_G p l e R s m args below meth c cells slots Q nL D ad q A M pc lv (.int x :: .ref (ad (6 + i)) :: st) :=
  fun H locs ls hP hS hl => va_put (D := D) (ci := 2) (C := RX2) (T := TX2) (N := 3) C.1.1 C.1.2.1 C.1.2.2.2.2 hin tyX2 tyX2_ok nmX2 C.1.2.2.2.1 C.2.1 hP (mm_w_D C.2.2 M) hS (6 + i) (mm_w_atE (by omega) (mm_ct2 ad q M hi)) rfl j hj (C.1.2.2.2.2 _ hlink) (fun z h9 => by rw [hsame] at h9; exact h9) hfin hty hn hf hj hd (fun H1 locs1 hP1 hD1 hS1 => k H1 locs1 ls (by rw [hset M, mm_w_set (mm_ct2 ad q (mm_sI M (6 + i) j x) hi) mm_sI_o] at hP1; exact hP1) hS1 hl)
theorem mm_set2_0 {i : Nat} {x : Int32} : ∀ M : mm_M, (mm_f2 M i).set 0 (.int x) = mm_f2 (mm_sI M (6 + i) 0 x) i := fun M => by simp [mm_sI]
theorem mm_set2_1 {i : Nat} {x : Int32} : ∀ M : mm_M, (mm_f2 M i).set 1 (.int x) = mm_f2 (mm_sI M (6 + i) 1 x) i := fun M => by simp [mm_sI]
theorem mm_set2_2 {i : Nat} {x : Int32} : ∀ M : mm_M, (mm_f2 M i).set 2 (.int x) = mm_f2 (mm_sI M (6 + i) 2 x) i := fun M => by simp [mm_sI]
theorem r_get0 (C : mm_C p s m args c cc nL Ts own D ad q A) {i : Nat} (hi : i < 8) (hin : ∀ w ∈ wsX00, w ∈ Ts) {v : Value} {ix : Nat} (j : Nat) (hj : j < 11) (hv : (mm_f0 ad M i)[j]? = some v) (hlink : Cond.fieldLink own ix RX0 (TX0 j).2.1 (TX0 j).2.2.1 ∈ Ts) (hsame : (TX0 j).1 = RX0) (hd : decode cc pc = .ok (.getfield ix, 3)) (k : mm_G p l e R s m args below meth c cells slots Q nL D ad q A M (pc + 3) lv (v :: st)) : mm_G p l e R s m args below meth c cells slots Q nL D ad q A M pc lv (.ref (ad (10 + i)) :: st) :=
  fun H locs ls hP hS hl => va_get (D := D) (ci := 0) (C := RX0) (T := TX0) (N := 11) C.1.1 C.1.2.1 C.1.2.2.2.2 hin C.1.2.2.2.1 C.2.1 hP (10 + i) (mm_w_atE (by omega) (mm_ct0 ad q M hi)) rfl j hj (C.1.2.2.2.2 _ hlink) (fun x h9 => by rw [hsame] at h9; exact h9) hv hd (k H locs ls hP hS hl)
theorem r_put0 (C : mm_C p s m args c cc nL Ts own D ad q A) {i : Nat} (hi : i < 8) (hin : ∀ w ∈ wsX00, w ∈ Ts) {x : Int32} {ty : FieldType} {ix : Nat} (j : Nat) (hj : j < 11) (hset : ∀ M : mm_M, (mm_f0 ad M i).set j (.int x) = mm_f0 ad (mm_sI M (10 + i) j x) i) (hlink : Cond.fieldLink own ix RX0 (TX0 j).2.1 (TX0 j).2.2.1 ∈ Ts) (hsame : (TX0 j).1 = RX0) (hfin : (TX0 j).2.2.2 = false) (hty : parseFieldDescriptor (TX0 j).2.2.1 = some ty) (hn : narrow ty (.int x) = .int x) (hf : fits ty (.int x) = true) (hd : decode cc pc = .ok (.putfield ix, 3)) (k : mm_G p l e R s m args below meth c cells slots Q nL D ad q A (mm_sI M (10 + i) j x) (pc + 3) lv st) : mm_G p l e R s m args below meth c cells slots Q nL D ad q A M pc lv (.int x :: .ref (ad (10 + i)) :: st) :=
  fun H locs ls hP hS hl => va_put (D := D) (ci := 0) (C := RX0) (T := TX0) (N := 11) C.1.1 C.1.2.1 C.1.2.2.2.2 hin tyX0 tyX0_ok nmX0 C.1.2.2.2.1 C.2.1 hP (mm_w_D C.2.2 M) hS (10 + i) (mm_w_atE (by omega) (mm_ct0 ad q M hi)) rfl j hj (C.1.2.2.2.2 _ hlink) (fun z h9 => by rw [hsame] at h9; exact h9) hfin hty hn hf hj hd (fun H1 locs1 hP1 hD1 hS1 => k H1 locs1 ls (by rw [hset M, mm_w_set (mm_ct0 ad q (mm_sI M (10 + i) j x) hi) mm_sI_o] at hP1; exact hP1) hS1 hl)
theorem mm_set0_3 {ad : Nat → Nat} {i : Nat} {x : Int32} : ∀ M : mm_M, (mm_f0 ad M i).set 3 (.int x) = mm_f0 ad (mm_sI M (10 + i) 3 x) i := fun M => by simp [mm_sI]
theorem mm_set0_4 {ad : Nat → Nat} {i : Nat} {x : Int32} : ∀ M : mm_M, (mm_f0 ad M i).set 4 (.int x) = mm_f0 ad (mm_sI M (10 + i) 4 x) i := fun M => by simp [mm_sI]
theorem mm_set0_5 {ad : Nat → Nat} {i : Nat} {x : Int32} : ∀ M : mm_M, (mm_f0 ad M i).set 5 (.int x) = mm_f0 ad (mm_sI M (10 + i) 5 x) i := fun M => by simp [mm_sI]
theorem mm_set0_6 {ad : Nat → Nat} {i : Nat} {x : Int32} : ∀ M : mm_M, (mm_f0 ad M i).set 6 (.int x) = mm_f0 ad (mm_sI M (10 + i) 6 x) i := fun M => by simp [mm_sI]
theorem mm_set0_7 {ad : Nat → Nat} {i : Nat} {x : Int32} : ∀ M : mm_M, (mm_f0 ad M i).set 7 (.int x) = mm_f0 ad (mm_sI M (10 + i) 7 x) i := fun M => by simp [mm_sI]
theorem mm_set0_8 {ad : Nat → Nat} {i : Nat} {x : Int32} : ∀ M : mm_M, (mm_f0 ad M i).set 8 (.int x) = mm_f0 ad (mm_sI M (10 + i) 8 x) i := fun M => by simp [mm_sI]
theorem mm_set0_9 {ad : Nat → Nat} {i : Nat} {x : Int32} : ∀ M : mm_M, (mm_f0 ad M i).set 9 (.int x) = mm_f0 ad (mm_sI M (10 + i) 9 x) i := fun M => by simp [mm_sI]
theorem r_get3 (C : mm_C p s m args c cc nL Ts own D ad q A) {i : Nat} (hi : i < 8) (hin : ∀ w ∈ wsX30, w ∈ Ts) {v : Value} {ix : Nat} (j : Nat) (hj : j < 3) (hv : (mm_f3 ad M i)[j]? = some v) (hlink : Cond.fieldLink own ix RX3 (TX3 j).2.1 (TX3 j).2.2.1 ∈ Ts) (hsame : (TX3 j).1 = RX3) (hd : decode cc pc = .ok (.getfield ix, 3)) (k : mm_G p l e R s m args below meth c cells slots Q nL D ad q A M (pc + 3) lv (v :: st)) : mm_G p l e R s m args below meth c cells slots Q nL D ad q A M pc lv (.ref (ad (18 + i)) :: st) :=
  fun H locs ls hP hS hl => va_get (D := D) (ci := 3) (C := RX3) (T := TX3) (N := 3) C.1.1 C.1.2.1 C.1.2.2.2.2 hin C.1.2.2.2.1 C.2.1 hP (18 + i) (mm_w_atE (by omega) (mm_ct3 ad q M hi)) rfl j hj (C.1.2.2.2.2 _ hlink) (fun x h9 => by rw [hsame] at h9; exact h9) hv hd (k H locs ls hP hS hl)
theorem r_put3 (C : mm_C p s m args c cc nL Ts own D ad q A) {i : Nat} (hi : i < 8) (hin : ∀ w ∈ wsX30, w ∈ Ts) {x : Int32} {ty : FieldType} {ix : Nat} (j : Nat) (hj : j < 3) (hset : ∀ M : mm_M, (mm_f3 ad M i).set j (.int x) = mm_f3 ad (mm_sI M (18 + i) j x) i) (hlink : Cond.fieldLink own ix RX3 (TX3 j).2.1 (TX3 j).2.2.1 ∈ Ts) (hsame : (TX3 j).1 = RX3) (hfin : (TX3 j).2.2.2 = false) (hty : parseFieldDescriptor (TX3 j).2.2.1 = some ty) (hn : narrow ty (.int x) = .int x) (hf : fits ty (.int x) = true) (hd : decode cc pc = .ok (.putfield ix, 3)) (k : mm_G p l e R s m args below meth c cells slots Q nL D ad q A (mm_sI M (18 + i) j x) (pc + 3) lv st) : mm_G p l e R s m args below meth c cells slots Q nL D ad q A M pc lv (.int x :: .ref (ad (18 + i)) :: st) :=
  fun H locs ls hP hS hl => va_put (D := D) (ci := 3) (C := RX3) (T := TX3) (N := 3) C.1.1 C.1.2.1 C.1.2.2.2.2 hin tyX3 tyX3_ok nmX3 C.1.2.2.2.1 C.2.1 hP (mm_w_D C.2.2 M) hS (18 + i) (mm_w_atE (by omega) (mm_ct3 ad q M hi)) rfl j hj (C.1.2.2.2.2 _ hlink) (fun z h9 => by rw [hsame] at h9; exact h9) hfin hty hn hf hj hd (fun H1 locs1 hP1 hD1 hS1 => k H1 locs1 ls (by rw [hset M, mm_w_set (mm_ct3 ad q (mm_sI M (18 + i) j x) hi) mm_sI_o] at hP1; exact hP1) hS1 hl)
theorem mm_set3_1 {ad : Nat → Nat} {i : Nat} {x : Int32} : ∀ M : mm_M, (mm_f3 ad M i).set 1 (.int x) = mm_f3 ad (mm_sI M (18 + i) 1 x) i := fun M => by simp [mm_sI]
theorem mm_set3_2 {ad : Nat → Nat} {i : Nat} {x : Int32} : ∀ M : mm_M, (mm_f3 ad M i).set 2 (.int x) = mm_f3 ad (mm_sI M (18 + i) 2 x) i := fun M => by simp [mm_sI]
theorem r_putW (C : mm_C p s m args c cc nL Ts own D ad q A) {i : Nat} (hi : i < 8) (hin : ∀ w ∈ wsX00, w ∈ Ts) {x : Int64} {ix : Nat} (hlink : Cond.fieldLink own ix RX0 (TX0 10).2.1 (TX0 10).2.2.1 ∈ Ts) (hd : decode cc pc = .ok (.putfield ix, 3)) (k : mm_G p l e R s m args below meth c cells slots Q nL D ad q A (mm_sL M (10 + i) 10 x) (pc + 3) lv st) : mm_G p l e R s m args below meth c cells slots Q nL D ad q A M pc lv (.long x :: .ref (ad (10 + i)) :: st) :=
  fun H locs ls hP hS hl => va_put (D := D) (ci := 0) (C := RX0) (T := TX0) (N := 11) (ty := .long) C.1.1 C.1.2.1 C.1.2.2.2.2 hin tyX0 tyX0_ok nmX0 C.1.2.2.2.1 C.2.1 hP (mm_w_D C.2.2 M) hS (10 + i) (mm_w_atE (by omega) (mm_ct0 ad q M hi)) rfl 10 (by decide) (C.1.2.2.2.2 _ hlink) (fun z h9 => h9) rfl (by decide +kernel) rfl rfl (by show 10 < 11; decide) hd (fun H1 locs1 hP1 hD1 hS1 => k H1 locs1 ls (by rw [show (mm_f0 ad M i).set 10 (.long x) = mm_f0 ad (mm_sL M (10 + i) 10 x) i from by simp [mm_sL], mm_w_set (mm_ct0 ad q (mm_sL M (10 + i) 10 x) hi) mm_sL_o] at hP1; exact hP1) hS1 hl)
def mm_aI (k n : Nat) : Prop := k < 66 ∧ ∀ (ad : Nat → Nat) (q : Nat → ClassId) (M : mm_M), mm_ct ad q M k = .inl (q 0, n, .inl (M.1 k))
def mm_aJ (k n : Nat) : Prop := k < 66 ∧ ∀ (ad : Nat → Nat) (q : Nat → ClassId) (M : mm_M), mm_ct ad q M k = .inl (q 1, n, .inr (.inl (M.2 k)))
theorem mm_aI_slots {i : Nat} (hi : i < 8) : mm_aI (26 + i) 64 := ⟨by omega, fun ad q M => by
  unfold mm_ct
  rw [if_neg (by omega), if_neg (by omega), if_neg (by omega), if_neg (by omega), if_neg (by omega), if_neg (by omega), if_neg (by omega), if_neg (by omega), if_neg (by omega), if_pos (by omega)]⟩
theorem mm_aJ_row {k : Nat} (h1 : 34 ≤ k) (h2 : k < 50) : mm_aJ k 64 := ⟨by omega, fun ad q M => by
  unfold mm_ct
  rw [if_neg (by omega), if_neg (by omega), if_neg (by omega), if_neg (by omega), if_neg (by omega), if_neg (by omega), if_neg (by omega), if_neg (by omega), if_neg (by omega), if_neg (by omega), if_pos (by omega)]⟩
theorem mm_aJ_laid {i : Nat} (hi : i < 8) : mm_aJ (34 + i) 64 := mm_aJ_row (by omega) (by omega)
theorem mm_aJ_turned {i : Nat} (hi : i < 8) : mm_aJ (42 + i) 64 := mm_aJ_row (by omega) (by omega)
theorem mm_cl {x : Int32} {j : Nat} (h : x.toInt = (j : Int)) : x.toNatClampNeg = j := by
  show x.toInt.toNat = j
  omega
theorem mm_in {x : Int32} {j n : Nat} (h : x.toInt = (j : Int)) (hj : j < n) : vp_in x n := vp_in_iff.mpr ⟨by omega, by omega⟩

theorem mm_aI_51 : mm_aI 51 8 := ⟨by decide, fun _ _ _ => rfl⟩
theorem mm_aI_52 : mm_aI 52 8 := ⟨by decide, fun _ _ _ => rfl⟩
theorem mm_aI_53 : mm_aI 53 8 := ⟨by decide, fun _ _ _ => rfl⟩
theorem mm_aI_54 : mm_aI 54 8 := ⟨by decide, fun _ _ _ => rfl⟩
theorem mm_aI_56 : mm_aI 56 8 := ⟨by decide, fun _ _ _ => rfl⟩
theorem mm_aI_57 : mm_aI 57 8 := ⟨by decide, fun _ _ _ => rfl⟩
theorem mm_aI_58 : mm_aI 58 4 := ⟨by decide, fun _ _ _ => rfl⟩
theorem mm_aI_59 : mm_aI 59 4 := ⟨by decide, fun _ _ _ => rfl⟩
theorem mm_aI_60 : mm_aI 60 4 := ⟨by decide, fun _ _ _ => rfl⟩
theorem mm_aI_61 : mm_aI 61 512 := ⟨by decide, fun _ _ _ => rfl⟩
theorem mm_aI_62 : mm_aI 62 512 := ⟨by decide, fun _ _ _ => rfl⟩
theorem mm_aI_63 : mm_aI 63 32 := ⟨by decide, fun _ _ _ => rfl⟩
theorem mm_aJ_4 : mm_aJ 4 32 := ⟨by decide, fun _ _ _ => rfl⟩
theorem mm_aJ_5 : mm_aJ 5 9 := ⟨by decide, fun _ _ _ => rfl⟩
theorem mm_aJ_64 : mm_aJ 64 9 := ⟨by decide, fun _ _ _ => rfl⟩
theorem mm_aJ_65 : mm_aJ 65 1 := ⟨by decide, fun _ _ _ => rfl⟩
theorem mm_ctZ (ad : Nat → Nat) (q : Nat → ClassId) (M : mm_M) : mm_ct ad q M 55 = .inl (q 2, 8, .inl (M.1 55)) := rfl
theorem r_iald (C : mm_C p s m args c cc nL Ts own D ad q A) {kk n : Nat} (ha : mm_aI kk n) {x : Int32} (j : Nat) (hx : x.toInt = (j : Int)) (hj : j < n) (hd : decode cc pc = .ok (.iaload, 1)) (k : mm_G p l e R s m args below meth c cells slots Q nL D ad q A M (pc + 1) lv (.int (M.1 kk j) :: st)) : mm_G p l e R s m args below meth c cells slots Q nL D ad q A M pc lv (.int x :: .ref (ad kk) :: st) := fun H locs ls hP hS hl => va_iald (D := D) (cA := q 0) (n := n) (f := M.1 kk) C.1.1 C.1.2.1 C.2.1 hP kk 0 (mm_w_atE ha.1 (ha.2 ad q M)) rfl (mm_in hx hj) hd (by rw [mm_cl hx]; exact k H locs ls hP hS hl)
theorem r_lald (C : mm_C p s m args c cc nL Ts own D ad q A) {kk n : Nat} (ha : mm_aJ kk n) {x : Int32} (j : Nat) (hx : x.toInt = (j : Int)) (hj : j < n) (hd : decode cc pc = .ok (.laload, 1)) (k : mm_G p l e R s m args below meth c cells slots Q nL D ad q A M (pc + 1) lv (.long (M.2 kk j) :: st)) : mm_G p l e R s m args below meth c cells slots Q nL D ad q A M pc lv (.int x :: .ref (ad kk) :: st) := fun H locs ls hP hS hl => va_lald (D := D) (cA := q 1) (n := n) (f := M.2 kk) C.1.1 C.1.2.1 C.2.1 hP kk 1 (mm_w_atE ha.1 (ha.2 ad q M)) rfl (mm_in hx hj) hd (by rw [mm_cl hx]; exact k H locs ls hP hS hl)
theorem r_zald (C : mm_C p s m args c cc nL Ts own D ad q A) {x : Int32} (j : Nat) (hx : x.toInt = (j : Int)) (hj : j < 8) (hd : decode cc pc = .ok (.baload, 1)) (k : mm_G p l e R s m args below meth c cells slots Q nL D ad q A M (pc + 1) lv (.int (M.1 55 j) :: st)) : mm_G p l e R s m args below meth c cells slots Q nL D ad q A M pc lv (.int x :: .ref (ad 55) :: st) := fun H locs ls hP hS hl => va_zald (D := D) (cA := q 2) (n := 8) (f := M.1 55) C.1.1 C.1.2.1 C.2.1 hP 55 2 (mm_w_atE (by decide) (mm_ctZ ad q M)) rfl (mm_in hx hj) hd (by rw [mm_cl hx]; exact k H locs ls hP hS hl)
theorem r_aaldE (C : mm_C p s m args c cc nL Ts own D ad q A) {x : Int32} (j : Nat) (hx : x.toInt = (j : Int)) (hj : j < 8) (hd : decode cc pc = .ok (.aaload, 1)) (k : mm_G p l e R s m args below meth c cells slots Q nL D ad q A M (pc + 1) lv (.ref (ad (10 + j)) :: st)) : mm_G p l e R s m args below meth c cells slots Q nL D ad q A M pc lv (.int x :: .ref (ad 1) :: st) := fun H locs ls hP hS hl => va_aldq (D := D) (cA := q 3) (n := 8) (f := mm_rE ad) (C := "Beamrow$Element") C.1.1 C.1.2.1 C.2.1 hP 1 3 (mm_w_atE (by decide) rfl) rfl (mm_in hx hj) hd (by rw [mm_cl hx]; exact k H locs ls hP hS hl)
theorem r_aaldS (C : mm_C p s m args c cc nL Ts own D ad q A) {x : Int32} (j : Nat) (hx : x.toInt = (j : Int)) (hj : j < 4) (hd : decode cc pc = .ok (.aaload, 1)) (k : mm_G p l e R s m args below meth c cells slots Q nL D ad q A M (pc + 1) lv (.ref (ad (6 + j)) :: st)) : mm_G p l e R s m args below meth c cells slots Q nL D ad q A M pc lv (.int x :: .ref (ad 2) :: st) := fun H locs ls hP hS hl => va_aldq (D := D) (cA := q 4) (n := 4) (f := mm_rS ad) (C := "Beamrow$Source") C.1.1 C.1.2.1 C.2.1 hP 2 4 (mm_w_atE (by decide) rfl) rfl (mm_in hx hj) hd (by rw [mm_cl hx]; exact k H locs ls hP hS hl)
theorem r_iast (C : mm_C p s m args c cc nL Ts own D ad q A) {kk n : Nat} (ha : mm_aI kk n) {x y : Int32} (j : Nat) (hx : x.toInt = (j : Int)) (hj : j < n) (hd : decode cc pc = .ok (.iastore, 1)) (k : mm_G p l e R s m args below meth c cells slots Q nL D ad q A (mm_sI M kk j y) (pc + 1) lv st) : mm_G p l e R s m args below meth c cells slots Q nL D ad q A M pc lv (.int y :: .int x :: .ref (ad kk) :: st) := fun H locs ls hP hS hl => va_iast (D := D) (A := A) (cA := q 0) (n := n) (f := M.1 kk) C.1.1 C.1.2.1 C.2.1 hP (mm_w_D C.2.2 M) hS kk 0 (mm_w_atE ha.1 (ha.2 ad q M)) rfl (mm_in hx hj) hd (fun H1 locs1 hP1 hD1 hS1 => k H1 locs1 ls (by rw [mm_cl hx, ← mm_sI_row (M := M), mm_w_set (ha.2 ad q (mm_sI M kk j y)) mm_sI_o] at hP1; exact hP1) hS1 hl)
theorem r_last (C : mm_C p s m args c cc nL Ts own D ad q A) {kk n : Nat} (ha : mm_aJ kk n) {x : Int32} {y : Int64} (j : Nat) (hx : x.toInt = (j : Int)) (hj : j < n) (hd : decode cc pc = .ok (.lastore, 1)) (k : mm_G p l e R s m args below meth c cells slots Q nL D ad q A (mm_sL M kk j y) (pc + 1) lv st) : mm_G p l e R s m args below meth c cells slots Q nL D ad q A M pc lv (.long y :: .int x :: .ref (ad kk) :: st) := fun H locs ls hP hS hl => va_last (D := D) (A := A) (cA := q 1) (n := n) (f := M.2 kk) C.1.1 C.1.2.1 C.2.1 hP (mm_w_D C.2.2 M) hS kk 1 (mm_w_atE ha.1 (ha.2 ad q M)) rfl (mm_in hx hj) hd (fun H1 locs1 hP1 hD1 hS1 => k H1 locs1 ls (by rw [mm_cl hx, ← mm_sL_row (M := M), mm_w_set (ha.2 ad q (mm_sL M kk j y)) mm_sL_o] at hP1; exact hP1) hS1 hl)
theorem r_zast (C : mm_C p s m args c cc nL Ts own D ad q A) {x y : Int32} (hy : y &&& 1 = y) (j : Nat) (hx : x.toInt = (j : Int)) (hj : j < 8) (hd : decode cc pc = .ok (.bastore, 1)) (k : mm_G p l e R s m args below meth c cells slots Q nL D ad q A (mm_sI M 55 j y) (pc + 1) lv st) : mm_G p l e R s m args below meth c cells slots Q nL D ad q A M pc lv (.int y :: .int x :: .ref (ad 55) :: st) := fun H locs ls hP hS hl => va_zast (D := D) (A := A) (cA := q 2) (n := 8) (f := M.1 55) C.1.1 C.1.2.1 C.2.1 hP (mm_w_D C.2.2 M) hS 55 2 (mm_w_atE (by decide) (mm_ctZ ad q M)) rfl (mm_in hx hj) hd (fun H1 locs1 hP1 hD1 hS1 => k H1 locs1 ls (by rw [mm_cl hx, show vp_nar .boolean y = y from hy, ← mm_sI_row (M := M), mm_w_set (mm_ctZ ad q (mm_sI M 55 j y)) mm_sI_o] at hP1; exact hP1) hS1 hl)
theorem r_alenI (C : mm_C p s m args c cc nL Ts own D ad q A) {kk n : Nat} (ha : mm_aI kk n) (hd : decode cc pc = .ok (.arraylength, 1)) (k : mm_G p l e R s m args below meth c cells slots Q nL D ad q A M (pc + 1) lv (.int (nI n) :: st)) : mm_G p l e R s m args below meth c cells slots Q nL D ad q A M pc lv (.ref (ad kk) :: st) := fun H locs ls hP hS hl => va_alen (D := D) (cA := q 0) (x := (n, .inl (M.1 kk))) (ty := .int) C.1.1 C.1.2.1 C.2.1 hP kk 0 (mm_w_atE ha.1 (ha.2 ad q M)) rfl rfl hd (k H locs ls hP hS hl)
theorem r_alenJ (C : mm_C p s m args c cc nL Ts own D ad q A) {kk n : Nat} (ha : mm_aJ kk n) (hd : decode cc pc = .ok (.arraylength, 1)) (k : mm_G p l e R s m args below meth c cells slots Q nL D ad q A M (pc + 1) lv (.int (nI n) :: st)) : mm_G p l e R s m args below meth c cells slots Q nL D ad q A M pc lv (.ref (ad kk) :: st) := fun H locs ls hP hS hl => va_alen (D := D) (cA := q 1) (x := (n, .inr (.inl (M.2 kk)))) (ty := .long) C.1.1 C.1.2.1 C.2.1 hP kk 1 (mm_w_atE ha.1 (ha.2 ad q M)) rfl rfl hd (k H locs ls hP hS hl)
theorem r_alenE (C : mm_C p s m args c cc nL Ts own D ad q A) (hd : decode cc pc = .ok (.arraylength, 1)) (k : mm_G p l e R s m args below meth c cells slots Q nL D ad q A M (pc + 1) lv (.int (nI 8) :: st)) : mm_G p l e R s m args below meth c cells slots Q nL D ad q A M pc lv (.ref (ad 1) :: st) := fun H locs ls hP hS hl => va_alen (D := D) (cA := q 3) (x := (8, .inr (.inr (.inr (.inr (mm_rE ad)))))) (ty := .object "Beamrow$Element") C.1.1 C.1.2.1 C.2.1 hP 1 3 (mm_w_atE (by decide) rfl) rfl rfl hd (k H locs ls hP hS hl)
theorem r_alenS (C : mm_C p s m args c cc nL Ts own D ad q A) (hd : decode cc pc = .ok (.arraylength, 1)) (k : mm_G p l e R s m args below meth c cells slots Q nL D ad q A M (pc + 1) lv (.int (nI 4) :: st)) : mm_G p l e R s m args below meth c cells slots Q nL D ad q A M pc lv (.ref (ad 2) :: st) := fun H locs ls hP hS hl => va_alen (D := D) (cA := q 4) (x := (4, .inr (.inr (.inr (.inr (mm_rS ad)))))) (ty := .object "Beamrow$Source") C.1.1 C.1.2.1 C.2.1 hP 2 4 (mm_w_atE (by decide) rfl) rfl rfl hd (k H locs ls hP hS hl)
theorem r_iret {post : Option Value → mm_M → Prop} (C : mm_C p s m args c cc nL Ts own D ad q A) {x : Int32} (hr : meth.sig.returnType = some .int) (hlk : meth.locks = false) (hd : decode cc pc = .ok (.ireturn, 1)) (hp : post (some (.int x)) M) : mm_G p l e R s m args below meth c cells slots (MQ below (mm_Q D ad q A post) args s cells slots A) nL D ad q A M pc lv [.int x] := fun H locs ls hP hS hl => W.iret C.1.1 C.1.2.1 hr (fun t ht hW => ⟨⟨_, M, rfl, hp, by rw [ht]; exact hP, va_K.moved hW.alike C.2.1⟩, hS.F ht⟩) hS.2.2 hd hlk
theorem r_lret {post : Option Value → mm_M → Prop} (C : mm_C p s m args c cc nL Ts own D ad q A) {x : Int64} (hr : meth.sig.returnType = some .long) (hlk : meth.locks = false) (hd : decode cc pc = .ok (.lreturn, 1)) (hp : post (some (.long x)) M) : mm_G p l e R s m args below meth c cells slots (MQ below (mm_Q D ad q A post) args s cells slots A) nL D ad q A M pc lv [.long x] := fun H locs ls hP hS hl => W.lret C.1.1 C.1.2.1 hr (fun t ht hW => ⟨⟨_, M, rfl, hp, by rw [ht]; exact hP, va_K.moved hW.alike C.2.1⟩, hS.F ht⟩) hS.2.2 hd hlk
theorem r_vret {post : Option Value → mm_M → Prop} (C : mm_C p s m args c cc nL Ts own D ad q A) (hr : meth.sig.returnType = none) (hlk : meth.locks = false) (hd : decode cc pc = .ok (.return_, 1)) (hp : post (none) M) : mm_G p l e R s m args below meth c cells slots (MQ below (mm_Q D ad q A post) args s cells slots A) nL D ad q A M pc lv [] := fun H locs ls hP hS hl => W.vret C.1.1 C.1.2.1 hr (fun t ht hW => ⟨⟨_, M, rfl, hp, by rw [ht]; exact hP, va_K.moved hW.alike C.2.1⟩, hS.F ht⟩) hS.2.2 hd hlk
theorem r_zret {post : Option Value → mm_M → Prop} (C : mm_C p s m args c cc nL Ts own D ad q A) {x : Int32} (hr : meth.sig.returnType = some .boolean) (hz : x &&& 1 = x) (hlk : meth.locks = false) (hd : decode cc pc = .ok (.ireturn, 1)) (hp : post (some (.int x)) M) : mm_G p l e R s m args below meth c cells slots (MQ below (mm_Q D ad q A post) args s cells slots A) nL D ad q A M pc lv [.int x] := fun H locs ls hP hS hl => W.zret (ty := .boolean) C.1.1 C.1.2.1 hr (congrArg Value.int hz) (fun t ht hW => ⟨⟨_, M, rfl, hp, by rw [ht]; exact hP, va_K.moved hW.alike C.2.1⟩, hS.F ht⟩) hS.2.2 hd hlk
theorem r_aret {post : Option Value → mm_M → Prop} (C : mm_C p s m args c cc nL Ts own D ad q A) {v : Value} {n : String} (hr : meth.sig.returnType = some (.object n)) (hv : v = .null ∨ ∃ a, v = .ref a) (hlk : meth.locks = false) (hd : decode cc pc = .ok (.areturn, 1)) (hp : post (some v) M) : mm_G p l e R s m args below meth c cells slots (MQ below (mm_Q D ad q A post) args s cells slots A) nL D ad q A M pc lv [v] := fun H locs ls hP hS hl => W.aret (rt := .object n) C.1.1 C.1.2.1 hr (Or.inl ⟨n, rfl⟩) hv (fun t ht hW => ⟨⟨_, M, rfl, hp, by rw [ht]; exact hP, va_K.moved hW.alike C.2.1⟩, hS.F ht⟩) hS.2.2 hd hlk
theorem mm_run {ix : Nat} {rest st0 : List Value} {a : Array Value} {post : Option Value → mm_M → Prop} {mc ms : Nat} {H : Heap} {locs : List Loc} {ls : Array Slot} (hr : va_Run p l e R s m args below meth c H locs cells slots mc ms (F0 m pc ls st0) rest (mm_Q D ad q A post a) A) (hS : va_S A s.heap H locs) (hl : lv_has ls nL lv) (k : ∀ (v : Option Value) (u : mm_M), post v u → mm_G p l e R s m args below meth c (cells + mc) (slots + ms) Q nL D ad q A u (pc + 3) lv (mm_ps v rest)) : W p l e R s m args below meth c H locs cells slots Q (F0 m pc ls st0) := by
  intro T hT X
  obtain ⟨v, st₀, t, T', L, h0, X', hL, e1, e2, ⟨⟨v2, u, hv, hp, hb, hK⟩, hz, hk⟩, st⟩ := hr T hT X
  cases hv
  rw [h0] at hz hk
  obtain ⟨t2, a1, b1⟩ := k _ u hp T'.heap (locs ++ L) ls (by rw [e1]; exact hb) ⟨Nat.le_trans hS.1 (by rw [e1]; exact hz), fun q h1 h2 => by rw [e1, hk q (Nat.lt_of_lt_of_le h1 hS.1) h2]; exact hS.2.1 q h1 h2, fun q hq => by
      rcases List.mem_append.mp hq with h | h
      · exact hS.2.2 q h
      · exact hL q h⟩ hl T' rfl X'
  exact ⟨t2, st t2 (by rw [mm_ps_eq]; exact a1), b1⟩
theorem mm_pre (C : mm_C p s m args c cc nL Ts own D ad q A) {H : Heap} {av : List Value} (hP : va_P D vwCl (mm_w ad q M) H) : ∀ U : State, U.heap = H → s.WarmedH U.vm → va_Pc av (fun U => mm_PW D ad q M U) av.toArray U := fun U hU hW => ⟨rfl, by rw [hU]; exact hP, va_K.moved hW.alike C.2.1⟩
theorem mm_prS (C : mm_C p s m args c cc nL Ts own D ad q A) {H : Heap} {av : List Value} (hP : va_P D vwCl (mm_w ad q M) H) : PreS s H (va_Pc av (fun U => mm_PW D ad q M U)) av := ⟨mm_blind, mm_pre C hP⟩
theorem mm_prV (C : mm_C p s m args c cc nL Ts own D ad q A) {H : Heap} {av : List Value} {k ci : Nat} {fs : List Value} {x : vw_C} (hP : va_P D vwCl (mm_w ad q M) H) (hk : k < 66) (hc : vwCl[ci]? = some x) (he : mm_ct ad q M k = .inr (ci, fs)) : PreV s H x.1 (ad k) (va_Pc (.ref (ad k) :: av) (fun U => mm_PW D ad q M U)) av := ⟨mm_blind, va_recv C.2.1 hP hc (mm_w_atE hk he), mm_pre C hP⟩
theorem r_callS0 (C : mm_C p s m args c cc nL Ts own D ad q A) {y : MethodName} {bytes : ByteArray} {maxL ix : Nat} {ret : Option FieldType} {ws : List Cond} {rm : Room} {post : Option Value → mm_M → Prop} (K : mm_K l D ad q A y ws rm [] M post) (cw : CallB R s args own ix y bytes maxL ret ws rm rm.cells rm.slots 0 ∧ (Cond.static y).before args s = true) (hW : ((st : List Value).map fun v => v.category).sum ≤ 8) (hd : decode cc pc = .ok (.invokestatic ix, 3)) (hz : rm.cells = 0 ∧ rm.slots = 0) (hf : cells ≤ R.cells ∧ slots ≤ R.slots) (k : ∀ (v : Option Value) (u : mm_M), post v u → mm_G p l e R s m args below meth c cells slots Q nL D ad q A u (pc + 3) lv (mm_ps v st)) : mm_G p l e R s m args below meth c cells slots Q nL D ad q A M pc lv (st) := fun H locs ls hP hS hl => mm_run (ix := ix) (va_runS (As := []) (rest := st) C.1 K cw (mm_prS C hP) rfl rfl hl.1 rfl (lv_room hW) hd (by rw [hz.1, hz.2]; exact hf)) hS hl (by rw [hz.1, hz.2]; exact k)
theorem r_callV0 (C : mm_C p s m args c cc nL Ts own D ad q A) {y : MethodName} {bytes : ByteArray} {maxL ix : Nat} {ret : Option FieldType} {ws : List Cond} {rm : Room} {post : Option Value → mm_M → Prop} {id ci : Nat} {fs : List Value} {x : vw_C} (hk : id < 66) (hc : vwCl[ci]? = some x) (he : mm_ct ad q M id = .inr (ci, fs)) (K : mm_K l D ad q A y ws rm (.ref (ad id) :: []) M post) (cw : CallW R s args own x.1 ix y bytes maxL ret ws rm rm.cells rm.slots 0) (hW : ((st : List Value).map fun v => v.category).sum ≤ 8) (hd : decode cc pc = .ok (.invokevirtual ix, 3)) (hz : rm.cells = 0 ∧ rm.slots = 0) (hf : cells ≤ R.cells ∧ slots ≤ R.slots) (k : ∀ (v : Option Value) (u : mm_M), post v u → mm_G p l e R s m args below meth c cells slots Q nL D ad q A u (pc + 3) lv (mm_ps v st)) : mm_G p l e R s m args below meth c cells slots Q nL D ad q A M pc lv (.ref (ad id) :: st) := fun H locs ls hP hS hl => mm_run (ix := ix) (va_runV (As := []) (rest := st) C.1 K cw (mm_prV C hP hk hc he) rfl rfl hl.1 rfl (lv_room hW) hd (by rw [hz.1, hz.2]; exact hf)) hS hl (by rw [hz.1, hz.2]; exact k)
theorem r_callS1 (C : mm_C p s m args c cc nL Ts own D ad q A) {y : MethodName} {bytes : ByteArray} {maxL ix : Nat} {ret : Option FieldType} {ws : List Cond} {rm : Room} {post : Option Value → mm_M → Prop} {v1 : Value} (K : mm_K l D ad q A y ws rm [v1] M post) (cw : CallB R s args own ix y bytes maxL ret ws rm rm.cells rm.slots 1 ∧ (Cond.static y).before args s = true) (hW : ((st : List Value).map fun v => v.category).sum ≤ 8) (hd : decode cc pc = .ok (.invokestatic ix, 3)) (hz : rm.cells = 0 ∧ rm.slots = 0) (hf : cells ≤ R.cells ∧ slots ≤ R.slots) (k : ∀ (v : Option Value) (u : mm_M), post v u → mm_G p l e R s m args below meth c cells slots Q nL D ad q A u (pc + 3) lv (mm_ps v st)) : mm_G p l e R s m args below meth c cells slots Q nL D ad q A M pc lv (v1 :: st) := fun H locs ls hP hS hl => mm_run (ix := ix) (va_runS (As := [v1]) (rest := st) C.1 K cw (mm_prS C hP) rfl rfl hl.1 rfl (lv_room hW) hd (by rw [hz.1, hz.2]; exact hf)) hS hl (by rw [hz.1, hz.2]; exact k)
theorem r_callV1 (C : mm_C p s m args c cc nL Ts own D ad q A) {y : MethodName} {bytes : ByteArray} {maxL ix : Nat} {ret : Option FieldType} {ws : List Cond} {rm : Room} {post : Option Value → mm_M → Prop} {v1 : Value} {id ci : Nat} {fs : List Value} {x : vw_C} (hk : id < 66) (hc : vwCl[ci]? = some x) (he : mm_ct ad q M id = .inr (ci, fs)) (K : mm_K l D ad q A y ws rm (.ref (ad id) :: [v1]) M post) (cw : CallW R s args own x.1 ix y bytes maxL ret ws rm rm.cells rm.slots 1) (hW : ((st : List Value).map fun v => v.category).sum ≤ 8) (hd : decode cc pc = .ok (.invokevirtual ix, 3)) (hz : rm.cells = 0 ∧ rm.slots = 0) (hf : cells ≤ R.cells ∧ slots ≤ R.slots) (k : ∀ (v : Option Value) (u : mm_M), post v u → mm_G p l e R s m args below meth c cells slots Q nL D ad q A u (pc + 3) lv (mm_ps v st)) : mm_G p l e R s m args below meth c cells slots Q nL D ad q A M pc lv (v1 :: .ref (ad id) :: st) := fun H locs ls hP hS hl => mm_run (ix := ix) (va_runV (As := [v1]) (rest := st) C.1 K cw (mm_prV C hP hk hc he) rfl rfl hl.1 rfl (lv_room hW) hd (by rw [hz.1, hz.2]; exact hf)) hS hl (by rw [hz.1, hz.2]; exact k)
theorem r_callS2 (C : mm_C p s m args c cc nL Ts own D ad q A) {y : MethodName} {bytes : ByteArray} {maxL ix : Nat} {ret : Option FieldType} {ws : List Cond} {rm : Room} {post : Option Value → mm_M → Prop} {v1 v2 : Value} (K : mm_K l D ad q A y ws rm [v1, v2] M post) (cw : CallB R s args own ix y bytes maxL ret ws rm rm.cells rm.slots 2 ∧ (Cond.static y).before args s = true) (hW : ((st : List Value).map fun v => v.category).sum ≤ 8) (hd : decode cc pc = .ok (.invokestatic ix, 3)) (hz : rm.cells = 0 ∧ rm.slots = 0) (hf : cells ≤ R.cells ∧ slots ≤ R.slots) (k : ∀ (v : Option Value) (u : mm_M), post v u → mm_G p l e R s m args below meth c cells slots Q nL D ad q A u (pc + 3) lv (mm_ps v st)) : mm_G p l e R s m args below meth c cells slots Q nL D ad q A M pc lv (v2 :: v1 :: st) := fun H locs ls hP hS hl => mm_run (ix := ix) (va_runS (As := [v1, v2]) (rest := st) C.1 K cw (mm_prS C hP) rfl rfl hl.1 rfl (lv_room hW) hd (by rw [hz.1, hz.2]; exact hf)) hS hl (by rw [hz.1, hz.2]; exact k)
theorem r_callV2 (C : mm_C p s m args c cc nL Ts own D ad q A) {y : MethodName} {bytes : ByteArray} {maxL ix : Nat} {ret : Option FieldType} {ws : List Cond} {rm : Room} {post : Option Value → mm_M → Prop} {v1 v2 : Value} {id ci : Nat} {fs : List Value} {x : vw_C} (hk : id < 66) (hc : vwCl[ci]? = some x) (he : mm_ct ad q M id = .inr (ci, fs)) (K : mm_K l D ad q A y ws rm (.ref (ad id) :: [v1, v2]) M post) (cw : CallW R s args own x.1 ix y bytes maxL ret ws rm rm.cells rm.slots 2) (hW : ((st : List Value).map fun v => v.category).sum ≤ 8) (hd : decode cc pc = .ok (.invokevirtual ix, 3)) (hz : rm.cells = 0 ∧ rm.slots = 0) (hf : cells ≤ R.cells ∧ slots ≤ R.slots) (k : ∀ (v : Option Value) (u : mm_M), post v u → mm_G p l e R s m args below meth c cells slots Q nL D ad q A u (pc + 3) lv (mm_ps v st)) : mm_G p l e R s m args below meth c cells slots Q nL D ad q A M pc lv (v2 :: v1 :: .ref (ad id) :: st) := fun H locs ls hP hS hl => mm_run (ix := ix) (va_runV (As := [v1, v2]) (rest := st) C.1 K cw (mm_prV C hP hk hc he) rfl rfl hl.1 rfl (lv_room hW) hd (by rw [hz.1, hz.2]; exact hf)) hS hl (by rw [hz.1, hz.2]; exact k)
theorem r_callS3 (C : mm_C p s m args c cc nL Ts own D ad q A) {y : MethodName} {bytes : ByteArray} {maxL ix : Nat} {ret : Option FieldType} {ws : List Cond} {rm : Room} {post : Option Value → mm_M → Prop} {v1 v2 v3 : Value} (K : mm_K l D ad q A y ws rm [v1, v2, v3] M post) (cw : CallB R s args own ix y bytes maxL ret ws rm rm.cells rm.slots 3 ∧ (Cond.static y).before args s = true) (hW : ((st : List Value).map fun v => v.category).sum ≤ 8) (hd : decode cc pc = .ok (.invokestatic ix, 3)) (hz : rm.cells = 0 ∧ rm.slots = 0) (hf : cells ≤ R.cells ∧ slots ≤ R.slots) (k : ∀ (v : Option Value) (u : mm_M), post v u → mm_G p l e R s m args below meth c cells slots Q nL D ad q A u (pc + 3) lv (mm_ps v st)) : mm_G p l e R s m args below meth c cells slots Q nL D ad q A M pc lv (v3 :: v2 :: v1 :: st) := fun H locs ls hP hS hl => mm_run (ix := ix) (va_runS (As := [v1, v2, v3]) (rest := st) C.1 K cw (mm_prS C hP) rfl rfl hl.1 rfl (lv_room hW) hd (by rw [hz.1, hz.2]; exact hf)) hS hl (by rw [hz.1, hz.2]; exact k)
theorem r_callV3 (C : mm_C p s m args c cc nL Ts own D ad q A) {y : MethodName} {bytes : ByteArray} {maxL ix : Nat} {ret : Option FieldType} {ws : List Cond} {rm : Room} {post : Option Value → mm_M → Prop} {v1 v2 v3 : Value} {id ci : Nat} {fs : List Value} {x : vw_C} (hk : id < 66) (hc : vwCl[ci]? = some x) (he : mm_ct ad q M id = .inr (ci, fs)) (K : mm_K l D ad q A y ws rm (.ref (ad id) :: [v1, v2, v3]) M post) (cw : CallW R s args own x.1 ix y bytes maxL ret ws rm rm.cells rm.slots 3) (hW : ((st : List Value).map fun v => v.category).sum ≤ 8) (hd : decode cc pc = .ok (.invokevirtual ix, 3)) (hz : rm.cells = 0 ∧ rm.slots = 0) (hf : cells ≤ R.cells ∧ slots ≤ R.slots) (k : ∀ (v : Option Value) (u : mm_M), post v u → mm_G p l e R s m args below meth c cells slots Q nL D ad q A u (pc + 3) lv (mm_ps v st)) : mm_G p l e R s m args below meth c cells slots Q nL D ad q A M pc lv (v3 :: v2 :: v1 :: .ref (ad id) :: st) := fun H locs ls hP hS hl => mm_run (ix := ix) (va_runV (As := [v1, v2, v3]) (rest := st) C.1 K cw (mm_prV C hP hk hc he) rfl rfl hl.1 rfl (lv_room hW) hd (by rw [hz.1, hz.2]; exact hf)) hS hl (by rw [hz.1, hz.2]; exact k)
theorem r_callS4 (C : mm_C p s m args c cc nL Ts own D ad q A) {y : MethodName} {bytes : ByteArray} {maxL ix : Nat} {ret : Option FieldType} {ws : List Cond} {rm : Room} {post : Option Value → mm_M → Prop} {v1 v2 v3 v4 : Value} (K : mm_K l D ad q A y ws rm [v1, v2, v3, v4] M post) (cw : CallB R s args own ix y bytes maxL ret ws rm rm.cells rm.slots 4 ∧ (Cond.static y).before args s = true) (hW : ((st : List Value).map fun v => v.category).sum ≤ 8) (hd : decode cc pc = .ok (.invokestatic ix, 3)) (hz : rm.cells = 0 ∧ rm.slots = 0) (hf : cells ≤ R.cells ∧ slots ≤ R.slots) (k : ∀ (v : Option Value) (u : mm_M), post v u → mm_G p l e R s m args below meth c cells slots Q nL D ad q A u (pc + 3) lv (mm_ps v st)) : mm_G p l e R s m args below meth c cells slots Q nL D ad q A M pc lv (v4 :: v3 :: v2 :: v1 :: st) := fun H locs ls hP hS hl => mm_run (ix := ix) (va_runS (As := [v1, v2, v3, v4]) (rest := st) C.1 K cw (mm_prS C hP) rfl rfl hl.1 rfl (lv_room hW) hd (by rw [hz.1, hz.2]; exact hf)) hS hl (by rw [hz.1, hz.2]; exact k)
theorem r_callV4 (C : mm_C p s m args c cc nL Ts own D ad q A) {y : MethodName} {bytes : ByteArray} {maxL ix : Nat} {ret : Option FieldType} {ws : List Cond} {rm : Room} {post : Option Value → mm_M → Prop} {v1 v2 v3 v4 : Value} {id ci : Nat} {fs : List Value} {x : vw_C} (hk : id < 66) (hc : vwCl[ci]? = some x) (he : mm_ct ad q M id = .inr (ci, fs)) (K : mm_K l D ad q A y ws rm (.ref (ad id) :: [v1, v2, v3, v4]) M post) (cw : CallW R s args own x.1 ix y bytes maxL ret ws rm rm.cells rm.slots 4) (hW : ((st : List Value).map fun v => v.category).sum ≤ 8) (hd : decode cc pc = .ok (.invokevirtual ix, 3)) (hz : rm.cells = 0 ∧ rm.slots = 0) (hf : cells ≤ R.cells ∧ slots ≤ R.slots) (k : ∀ (v : Option Value) (u : mm_M), post v u → mm_G p l e R s m args below meth c cells slots Q nL D ad q A u (pc + 3) lv (mm_ps v st)) : mm_G p l e R s m args below meth c cells slots Q nL D ad q A M pc lv (v4 :: v3 :: v2 :: v1 :: .ref (ad id) :: st) := fun H locs ls hP hS hl => mm_run (ix := ix) (va_runV (As := [v1, v2, v3, v4]) (rest := st) C.1 K cw (mm_prV C hP hk hc he) rfl rfl hl.1 rfl (lv_room hW) hd (by rw [hz.1, hz.2]; exact hf)) hS hl (by rw [hz.1, hz.2]; exact k)
theorem r_callS5 (C : mm_C p s m args c cc nL Ts own D ad q A) {y : MethodName} {bytes : ByteArray} {maxL ix : Nat} {ret : Option FieldType} {ws : List Cond} {rm : Room} {post : Option Value → mm_M → Prop} {v1 v2 v3 v4 v5 : Value} (K : mm_K l D ad q A y ws rm [v1, v2, v3, v4, v5] M post) (cw : CallB R s args own ix y bytes maxL ret ws rm rm.cells rm.slots 5 ∧ (Cond.static y).before args s = true) (hW : ((st : List Value).map fun v => v.category).sum ≤ 8) (hd : decode cc pc = .ok (.invokestatic ix, 3)) (hz : rm.cells = 0 ∧ rm.slots = 0) (hf : cells ≤ R.cells ∧ slots ≤ R.slots) (k : ∀ (v : Option Value) (u : mm_M), post v u → mm_G p l e R s m args below meth c cells slots Q nL D ad q A u (pc + 3) lv (mm_ps v st)) : mm_G p l e R s m args below meth c cells slots Q nL D ad q A M pc lv (v5 :: v4 :: v3 :: v2 :: v1 :: st) := fun H locs ls hP hS hl => mm_run (ix := ix) (va_runS (As := [v1, v2, v3, v4, v5]) (rest := st) C.1 K cw (mm_prS C hP) rfl rfl hl.1 rfl (lv_room hW) hd (by rw [hz.1, hz.2]; exact hf)) hS hl (by rw [hz.1, hz.2]; exact k)
theorem r_callV5 (C : mm_C p s m args c cc nL Ts own D ad q A) {y : MethodName} {bytes : ByteArray} {maxL ix : Nat} {ret : Option FieldType} {ws : List Cond} {rm : Room} {post : Option Value → mm_M → Prop} {v1 v2 v3 v4 v5 : Value} {id ci : Nat} {fs : List Value} {x : vw_C} (hk : id < 66) (hc : vwCl[ci]? = some x) (he : mm_ct ad q M id = .inr (ci, fs)) (K : mm_K l D ad q A y ws rm (.ref (ad id) :: [v1, v2, v3, v4, v5]) M post) (cw : CallW R s args own x.1 ix y bytes maxL ret ws rm rm.cells rm.slots 5) (hW : ((st : List Value).map fun v => v.category).sum ≤ 8) (hd : decode cc pc = .ok (.invokevirtual ix, 3)) (hz : rm.cells = 0 ∧ rm.slots = 0) (hf : cells ≤ R.cells ∧ slots ≤ R.slots) (k : ∀ (v : Option Value) (u : mm_M), post v u → mm_G p l e R s m args below meth c cells slots Q nL D ad q A u (pc + 3) lv (mm_ps v st)) : mm_G p l e R s m args below meth c cells slots Q nL D ad q A M pc lv (v5 :: v4 :: v3 :: v2 :: v1 :: .ref (ad id) :: st) := fun H locs ls hP hS hl => mm_run (ix := ix) (va_runV (As := [v1, v2, v3, v4, v5]) (rest := st) C.1 K cw (mm_prV C hP hk hc he) rfl rfl hl.1 rfl (lv_room hW) hd (by rw [hz.1, hz.2]; exact hf)) hS hl (by rw [hz.1, hz.2]; exact k)
theorem r_callS0I (C : mm_C p s m args c cc nL Ts own D ad q A) {y : MethodName} {bytes : ByteArray} {maxL ix : Nat} {ret : Option FieldType} {ws : List Cond} {rm : Room} {M' : mm_M} {r : Int32} (K : mm_Kd l D ad q A y ws rm [] M (some (.int r)) M') (cw : CallB R s args own ix y bytes maxL ret ws rm rm.cells rm.slots 0 ∧ (Cond.static y).before args s = true) (hW : ((st : List Value).map fun v => v.category).sum ≤ 8) (hd : decode cc pc = .ok (.invokestatic ix, 3)) (hz : rm.cells = 0 ∧ rm.slots = 0) (hf : cells ≤ R.cells ∧ slots ≤ R.slots) (k : mm_G p l e R s m args below meth c cells slots Q nL D ad q A M' (pc + 3) lv (.int r :: st)) : mm_G p l e R s m args below meth c cells slots Q nL D ad q A M pc lv (st) := r_callS0 C K cw hW hd hz hf (fun v u h => by obtain ⟨rfl, rfl⟩ := h; exact k)
theorem r_callV0I (C : mm_C p s m args c cc nL Ts own D ad q A) {y : MethodName} {bytes : ByteArray} {maxL ix : Nat} {ret : Option FieldType} {ws : List Cond} {rm : Room} {M' : mm_M} {r : Int32} {id : Nat} (ci : Nat) {fs : List Value} {x : vw_C} (hk : id < 66) (hc : vwCl[ci]? = some x) (he : mm_ct ad q M id = .inr (ci, fs)) (K : mm_Kd l D ad q A y ws rm (.ref (ad id) :: []) M (some (.int r)) M') (cw : CallW R s args own x.1 ix y bytes maxL ret ws rm rm.cells rm.slots 0) (hW : ((st : List Value).map fun v => v.category).sum ≤ 8) (hd : decode cc pc = .ok (.invokevirtual ix, 3)) (hz : rm.cells = 0 ∧ rm.slots = 0) (hf : cells ≤ R.cells ∧ slots ≤ R.slots) (k : mm_G p l e R s m args below meth c cells slots Q nL D ad q A M' (pc + 3) lv (.int r :: st)) : mm_G p l e R s m args below meth c cells slots Q nL D ad q A M pc lv (.ref (ad id) :: st) := r_callV0 C hk hc he K cw hW hd hz hf (fun v u h => by obtain ⟨rfl, rfl⟩ := h; exact k)
theorem r_callS0J (C : mm_C p s m args c cc nL Ts own D ad q A) {y : MethodName} {bytes : ByteArray} {maxL ix : Nat} {ret : Option FieldType} {ws : List Cond} {rm : Room} {M' : mm_M} {r : Int64} (K : mm_Kd l D ad q A y ws rm [] M (some (.long r)) M') (cw : CallB R s args own ix y bytes maxL ret ws rm rm.cells rm.slots 0 ∧ (Cond.static y).before args s = true) (hW : ((st : List Value).map fun v => v.category).sum ≤ 8) (hd : decode cc pc = .ok (.invokestatic ix, 3)) (hz : rm.cells = 0 ∧ rm.slots = 0) (hf : cells ≤ R.cells ∧ slots ≤ R.slots) (k : mm_G p l e R s m args below meth c cells slots Q nL D ad q A M' (pc + 3) lv (.long r :: st)) : mm_G p l e R s m args below meth c cells slots Q nL D ad q A M pc lv (st) := r_callS0 C K cw hW hd hz hf (fun v u h => by obtain ⟨rfl, rfl⟩ := h; exact k)
theorem r_callV0J (C : mm_C p s m args c cc nL Ts own D ad q A) {y : MethodName} {bytes : ByteArray} {maxL ix : Nat} {ret : Option FieldType} {ws : List Cond} {rm : Room} {M' : mm_M} {r : Int64} {id : Nat} (ci : Nat) {fs : List Value} {x : vw_C} (hk : id < 66) (hc : vwCl[ci]? = some x) (he : mm_ct ad q M id = .inr (ci, fs)) (K : mm_Kd l D ad q A y ws rm (.ref (ad id) :: []) M (some (.long r)) M') (cw : CallW R s args own x.1 ix y bytes maxL ret ws rm rm.cells rm.slots 0) (hW : ((st : List Value).map fun v => v.category).sum ≤ 8) (hd : decode cc pc = .ok (.invokevirtual ix, 3)) (hz : rm.cells = 0 ∧ rm.slots = 0) (hf : cells ≤ R.cells ∧ slots ≤ R.slots) (k : mm_G p l e R s m args below meth c cells slots Q nL D ad q A M' (pc + 3) lv (.long r :: st)) : mm_G p l e R s m args below meth c cells slots Q nL D ad q A M pc lv (.ref (ad id) :: st) := r_callV0 C hk hc he K cw hW hd hz hf (fun v u h => by obtain ⟨rfl, rfl⟩ := h; exact k)
theorem r_callS0R (C : mm_C p s m args c cc nL Ts own D ad q A) {y : MethodName} {bytes : ByteArray} {maxL ix : Nat} {ret : Option FieldType} {ws : List Cond} {rm : Room} {M' : mm_M} {r : Nat} (K : mm_Kd l D ad q A y ws rm [] M (some (.ref r)) M') (cw : CallB R s args own ix y bytes maxL ret ws rm rm.cells rm.slots 0 ∧ (Cond.static y).before args s = true) (hW : ((st : List Value).map fun v => v.category).sum ≤ 8) (hd : decode cc pc = .ok (.invokestatic ix, 3)) (hz : rm.cells = 0 ∧ rm.slots = 0) (hf : cells ≤ R.cells ∧ slots ≤ R.slots) (k : mm_G p l e R s m args below meth c cells slots Q nL D ad q A M' (pc + 3) lv (.ref r :: st)) : mm_G p l e R s m args below meth c cells slots Q nL D ad q A M pc lv (st) := r_callS0 C K cw hW hd hz hf (fun v u h => by obtain ⟨rfl, rfl⟩ := h; exact k)
theorem r_callV0R (C : mm_C p s m args c cc nL Ts own D ad q A) {y : MethodName} {bytes : ByteArray} {maxL ix : Nat} {ret : Option FieldType} {ws : List Cond} {rm : Room} {M' : mm_M} {r : Nat} {id : Nat} (ci : Nat) {fs : List Value} {x : vw_C} (hk : id < 66) (hc : vwCl[ci]? = some x) (he : mm_ct ad q M id = .inr (ci, fs)) (K : mm_Kd l D ad q A y ws rm (.ref (ad id) :: []) M (some (.ref r)) M') (cw : CallW R s args own x.1 ix y bytes maxL ret ws rm rm.cells rm.slots 0) (hW : ((st : List Value).map fun v => v.category).sum ≤ 8) (hd : decode cc pc = .ok (.invokevirtual ix, 3)) (hz : rm.cells = 0 ∧ rm.slots = 0) (hf : cells ≤ R.cells ∧ slots ≤ R.slots) (k : mm_G p l e R s m args below meth c cells slots Q nL D ad q A M' (pc + 3) lv (.ref r :: st)) : mm_G p l e R s m args below meth c cells slots Q nL D ad q A M pc lv (.ref (ad id) :: st) := r_callV0 C hk hc he K cw hW hd hz hf (fun v u h => by obtain ⟨rfl, rfl⟩ := h; exact k)
theorem r_callS0N (C : mm_C p s m args c cc nL Ts own D ad q A) {y : MethodName} {bytes : ByteArray} {maxL ix : Nat} {ret : Option FieldType} {ws : List Cond} {rm : Room} {M' : mm_M}  (K : mm_Kd l D ad q A y ws rm [] M (some .null) M') (cw : CallB R s args own ix y bytes maxL ret ws rm rm.cells rm.slots 0 ∧ (Cond.static y).before args s = true) (hW : ((st : List Value).map fun v => v.category).sum ≤ 8) (hd : decode cc pc = .ok (.invokestatic ix, 3)) (hz : rm.cells = 0 ∧ rm.slots = 0) (hf : cells ≤ R.cells ∧ slots ≤ R.slots) (k : mm_G p l e R s m args below meth c cells slots Q nL D ad q A M' (pc + 3) lv (.null :: st)) : mm_G p l e R s m args below meth c cells slots Q nL D ad q A M pc lv (st) := r_callS0 C K cw hW hd hz hf (fun v u h => by obtain ⟨rfl, rfl⟩ := h; exact k)
theorem r_callV0N (C : mm_C p s m args c cc nL Ts own D ad q A) {y : MethodName} {bytes : ByteArray} {maxL ix : Nat} {ret : Option FieldType} {ws : List Cond} {rm : Room} {M' : mm_M}  {id : Nat} (ci : Nat) {fs : List Value} {x : vw_C} (hk : id < 66) (hc : vwCl[ci]? = some x) (he : mm_ct ad q M id = .inr (ci, fs)) (K : mm_Kd l D ad q A y ws rm (.ref (ad id) :: []) M (some .null) M') (cw : CallW R s args own x.1 ix y bytes maxL ret ws rm rm.cells rm.slots 0) (hW : ((st : List Value).map fun v => v.category).sum ≤ 8) (hd : decode cc pc = .ok (.invokevirtual ix, 3)) (hz : rm.cells = 0 ∧ rm.slots = 0) (hf : cells ≤ R.cells ∧ slots ≤ R.slots) (k : mm_G p l e R s m args below meth c cells slots Q nL D ad q A M' (pc + 3) lv (.null :: st)) : mm_G p l e R s m args below meth c cells slots Q nL D ad q A M pc lv (.ref (ad id) :: st) := r_callV0 C hk hc he K cw hW hd hz hf (fun v u h => by obtain ⟨rfl, rfl⟩ := h; exact k)
theorem r_callS0V (C : mm_C p s m args c cc nL Ts own D ad q A) {y : MethodName} {bytes : ByteArray} {maxL ix : Nat} {ret : Option FieldType} {ws : List Cond} {rm : Room} {M' : mm_M}  (K : mm_Kd l D ad q A y ws rm [] M none M') (cw : CallB R s args own ix y bytes maxL ret ws rm rm.cells rm.slots 0 ∧ (Cond.static y).before args s = true) (hW : ((st : List Value).map fun v => v.category).sum ≤ 8) (hd : decode cc pc = .ok (.invokestatic ix, 3)) (hz : rm.cells = 0 ∧ rm.slots = 0) (hf : cells ≤ R.cells ∧ slots ≤ R.slots) (k : mm_G p l e R s m args below meth c cells slots Q nL D ad q A M' (pc + 3) lv st) : mm_G p l e R s m args below meth c cells slots Q nL D ad q A M pc lv (st) := r_callS0 C K cw hW hd hz hf (fun v u h => by obtain ⟨rfl, rfl⟩ := h; exact k)
theorem r_callV0V (C : mm_C p s m args c cc nL Ts own D ad q A) {y : MethodName} {bytes : ByteArray} {maxL ix : Nat} {ret : Option FieldType} {ws : List Cond} {rm : Room} {M' : mm_M}  {id : Nat} (ci : Nat) {fs : List Value} {x : vw_C} (hk : id < 66) (hc : vwCl[ci]? = some x) (he : mm_ct ad q M id = .inr (ci, fs)) (K : mm_Kd l D ad q A y ws rm (.ref (ad id) :: []) M none M') (cw : CallW R s args own x.1 ix y bytes maxL ret ws rm rm.cells rm.slots 0) (hW : ((st : List Value).map fun v => v.category).sum ≤ 8) (hd : decode cc pc = .ok (.invokevirtual ix, 3)) (hz : rm.cells = 0 ∧ rm.slots = 0) (hf : cells ≤ R.cells ∧ slots ≤ R.slots) (k : mm_G p l e R s m args below meth c cells slots Q nL D ad q A M' (pc + 3) lv st) : mm_G p l e R s m args below meth c cells slots Q nL D ad q A M pc lv (.ref (ad id) :: st) := r_callV0 C hk hc he K cw hW hd hz hf (fun v u h => by obtain ⟨rfl, rfl⟩ := h; exact k)
theorem r_callS1I (C : mm_C p s m args c cc nL Ts own D ad q A) {y : MethodName} {bytes : ByteArray} {maxL ix : Nat} {ret : Option FieldType} {ws : List Cond} {rm : Room} {M' : mm_M} {r : Int32} {v1 : Value} (K : mm_Kd l D ad q A y ws rm [v1] M (some (.int r)) M') (cw : CallB R s args own ix y bytes maxL ret ws rm rm.cells rm.slots 1 ∧ (Cond.static y).before args s = true) (hW : ((st : List Value).map fun v => v.category).sum ≤ 8) (hd : decode cc pc = .ok (.invokestatic ix, 3)) (hz : rm.cells = 0 ∧ rm.slots = 0) (hf : cells ≤ R.cells ∧ slots ≤ R.slots) (k : mm_G p l e R s m args below meth c cells slots Q nL D ad q A M' (pc + 3) lv (.int r :: st)) : mm_G p l e R s m args below meth c cells slots Q nL D ad q A M pc lv (v1 :: st) := r_callS1 C K cw hW hd hz hf (fun v u h => by obtain ⟨rfl, rfl⟩ := h; exact k)
theorem r_callV1I (C : mm_C p s m args c cc nL Ts own D ad q A) {y : MethodName} {bytes : ByteArray} {maxL ix : Nat} {ret : Option FieldType} {ws : List Cond} {rm : Room} {M' : mm_M} {r : Int32} {v1 : Value} {id : Nat} (ci : Nat) {fs : List Value} {x : vw_C} (hk : id < 66) (hc : vwCl[ci]? = some x) (he : mm_ct ad q M id = .inr (ci, fs)) (K : mm_Kd l D ad q A y ws rm (.ref (ad id) :: [v1]) M (some (.int r)) M') (cw : CallW R s args own x.1 ix y bytes maxL ret ws rm rm.cells rm.slots 1) (hW : ((st : List Value).map fun v => v.category).sum ≤ 8) (hd : decode cc pc = .ok (.invokevirtual ix, 3)) (hz : rm.cells = 0 ∧ rm.slots = 0) (hf : cells ≤ R.cells ∧ slots ≤ R.slots) (k : mm_G p l e R s m args below meth c cells slots Q nL D ad q A M' (pc + 3) lv (.int r :: st)) : mm_G p l e R s m args below meth c cells slots Q nL D ad q A M pc lv (v1 :: .ref (ad id) :: st) := r_callV1 C hk hc he K cw hW hd hz hf (fun v u h => by obtain ⟨rfl, rfl⟩ := h; exact k)
theorem r_callS1J (C : mm_C p s m args c cc nL Ts own D ad q A) {y : MethodName} {bytes : ByteArray} {maxL ix : Nat} {ret : Option FieldType} {ws : List Cond} {rm : Room} {M' : mm_M} {r : Int64} {v1 : Value} (K : mm_Kd l D ad q A y ws rm [v1] M (some (.long r)) M') (cw : CallB R s args own ix y bytes maxL ret ws rm rm.cells rm.slots 1 ∧ (Cond.static y).before args s = true) (hW : ((st : List Value).map fun v => v.category).sum ≤ 8) (hd : decode cc pc = .ok (.invokestatic ix, 3)) (hz : rm.cells = 0 ∧ rm.slots = 0) (hf : cells ≤ R.cells ∧ slots ≤ R.slots) (k : mm_G p l e R s m args below meth c cells slots Q nL D ad q A M' (pc + 3) lv (.long r :: st)) : mm_G p l e R s m args below meth c cells slots Q nL D ad q A M pc lv (v1 :: st) := r_callS1 C K cw hW hd hz hf (fun v u h => by obtain ⟨rfl, rfl⟩ := h; exact k)
theorem r_callV1J (C : mm_C p s m args c cc nL Ts own D ad q A) {y : MethodName} {bytes : ByteArray} {maxL ix : Nat} {ret : Option FieldType} {ws : List Cond} {rm : Room} {M' : mm_M} {r : Int64} {v1 : Value} {id : Nat} (ci : Nat) {fs : List Value} {x : vw_C} (hk : id < 66) (hc : vwCl[ci]? = some x) (he : mm_ct ad q M id = .inr (ci, fs)) (K : mm_Kd l D ad q A y ws rm (.ref (ad id) :: [v1]) M (some (.long r)) M') (cw : CallW R s args own x.1 ix y bytes maxL ret ws rm rm.cells rm.slots 1) (hW : ((st : List Value).map fun v => v.category).sum ≤ 8) (hd : decode cc pc = .ok (.invokevirtual ix, 3)) (hz : rm.cells = 0 ∧ rm.slots = 0) (hf : cells ≤ R.cells ∧ slots ≤ R.slots) (k : mm_G p l e R s m args below meth c cells slots Q nL D ad q A M' (pc + 3) lv (.long r :: st)) : mm_G p l e R s m args below meth c cells slots Q nL D ad q A M pc lv (v1 :: .ref (ad id) :: st) := r_callV1 C hk hc he K cw hW hd hz hf (fun v u h => by obtain ⟨rfl, rfl⟩ := h; exact k)
theorem r_callS1R (C : mm_C p s m args c cc nL Ts own D ad q A) {y : MethodName} {bytes : ByteArray} {maxL ix : Nat} {ret : Option FieldType} {ws : List Cond} {rm : Room} {M' : mm_M} {r : Nat} {v1 : Value} (K : mm_Kd l D ad q A y ws rm [v1] M (some (.ref r)) M') (cw : CallB R s args own ix y bytes maxL ret ws rm rm.cells rm.slots 1 ∧ (Cond.static y).before args s = true) (hW : ((st : List Value).map fun v => v.category).sum ≤ 8) (hd : decode cc pc = .ok (.invokestatic ix, 3)) (hz : rm.cells = 0 ∧ rm.slots = 0) (hf : cells ≤ R.cells ∧ slots ≤ R.slots) (k : mm_G p l e R s m args below meth c cells slots Q nL D ad q A M' (pc + 3) lv (.ref r :: st)) : mm_G p l e R s m args below meth c cells slots Q nL D ad q A M pc lv (v1 :: st) := r_callS1 C K cw hW hd hz hf (fun v u h => by obtain ⟨rfl, rfl⟩ := h; exact k)
theorem r_callV1R (C : mm_C p s m args c cc nL Ts own D ad q A) {y : MethodName} {bytes : ByteArray} {maxL ix : Nat} {ret : Option FieldType} {ws : List Cond} {rm : Room} {M' : mm_M} {r : Nat} {v1 : Value} {id : Nat} (ci : Nat) {fs : List Value} {x : vw_C} (hk : id < 66) (hc : vwCl[ci]? = some x) (he : mm_ct ad q M id = .inr (ci, fs)) (K : mm_Kd l D ad q A y ws rm (.ref (ad id) :: [v1]) M (some (.ref r)) M') (cw : CallW R s args own x.1 ix y bytes maxL ret ws rm rm.cells rm.slots 1) (hW : ((st : List Value).map fun v => v.category).sum ≤ 8) (hd : decode cc pc = .ok (.invokevirtual ix, 3)) (hz : rm.cells = 0 ∧ rm.slots = 0) (hf : cells ≤ R.cells ∧ slots ≤ R.slots) (k : mm_G p l e R s m args below meth c cells slots Q nL D ad q A M' (pc + 3) lv (.ref r :: st)) : mm_G p l e R s m args below meth c cells slots Q nL D ad q A M pc lv (v1 :: .ref (ad id) :: st) := r_callV1 C hk hc he K cw hW hd hz hf (fun v u h => by obtain ⟨rfl, rfl⟩ := h; exact k)
theorem r_callS1N (C : mm_C p s m args c cc nL Ts own D ad q A) {y : MethodName} {bytes : ByteArray} {maxL ix : Nat} {ret : Option FieldType} {ws : List Cond} {rm : Room} {M' : mm_M}  {v1 : Value} (K : mm_Kd l D ad q A y ws rm [v1] M (some .null) M') (cw : CallB R s args own ix y bytes maxL ret ws rm rm.cells rm.slots 1 ∧ (Cond.static y).before args s = true) (hW : ((st : List Value).map fun v => v.category).sum ≤ 8) (hd : decode cc pc = .ok (.invokestatic ix, 3)) (hz : rm.cells = 0 ∧ rm.slots = 0) (hf : cells ≤ R.cells ∧ slots ≤ R.slots) (k : mm_G p l e R s m args below meth c cells slots Q nL D ad q A M' (pc + 3) lv (.null :: st)) : mm_G p l e R s m args below meth c cells slots Q nL D ad q A M pc lv (v1 :: st) := r_callS1 C K cw hW hd hz hf (fun v u h => by obtain ⟨rfl, rfl⟩ := h; exact k)
theorem r_callV1N (C : mm_C p s m args c cc nL Ts own D ad q A) {y : MethodName} {bytes : ByteArray} {maxL ix : Nat} {ret : Option FieldType} {ws : List Cond} {rm : Room} {M' : mm_M}  {v1 : Value} {id : Nat} (ci : Nat) {fs : List Value} {x : vw_C} (hk : id < 66) (hc : vwCl[ci]? = some x) (he : mm_ct ad q M id = .inr (ci, fs)) (K : mm_Kd l D ad q A y ws rm (.ref (ad id) :: [v1]) M (some .null) M') (cw : CallW R s args own x.1 ix y bytes maxL ret ws rm rm.cells rm.slots 1) (hW : ((st : List Value).map fun v => v.category).sum ≤ 8) (hd : decode cc pc = .ok (.invokevirtual ix, 3)) (hz : rm.cells = 0 ∧ rm.slots = 0) (hf : cells ≤ R.cells ∧ slots ≤ R.slots) (k : mm_G p l e R s m args below meth c cells slots Q nL D ad q A M' (pc + 3) lv (.null :: st)) : mm_G p l e R s m args below meth c cells slots Q nL D ad q A M pc lv (v1 :: .ref (ad id) :: st) := r_callV1 C hk hc he K cw hW hd hz hf (fun v u h => by obtain ⟨rfl, rfl⟩ := h; exact k)
theorem r_callS1V (C : mm_C p s m args c cc nL Ts own D ad q A) {y : MethodName} {bytes : ByteArray} {maxL ix : Nat} {ret : Option FieldType} {ws : List Cond} {rm : Room} {M' : mm_M}  {v1 : Value} (K : mm_Kd l D ad q A y ws rm [v1] M none M') (cw : CallB R s args own ix y bytes maxL ret ws rm rm.cells rm.slots 1 ∧ (Cond.static y).before args s = true) (hW : ((st : List Value).map fun v => v.category).sum ≤ 8) (hd : decode cc pc = .ok (.invokestatic ix, 3)) (hz : rm.cells = 0 ∧ rm.slots = 0) (hf : cells ≤ R.cells ∧ slots ≤ R.slots) (k : mm_G p l e R s m args below meth c cells slots Q nL D ad q A M' (pc + 3) lv st) : mm_G p l e R s m args below meth c cells slots Q nL D ad q A M pc lv (v1 :: st) := r_callS1 C K cw hW hd hz hf (fun v u h => by obtain ⟨rfl, rfl⟩ := h; exact k)
theorem r_callV1V (C : mm_C p s m args c cc nL Ts own D ad q A) {y : MethodName} {bytes : ByteArray} {maxL ix : Nat} {ret : Option FieldType} {ws : List Cond} {rm : Room} {M' : mm_M}  {v1 : Value} {id : Nat} (ci : Nat) {fs : List Value} {x : vw_C} (hk : id < 66) (hc : vwCl[ci]? = some x) (he : mm_ct ad q M id = .inr (ci, fs)) (K : mm_Kd l D ad q A y ws rm (.ref (ad id) :: [v1]) M none M') (cw : CallW R s args own x.1 ix y bytes maxL ret ws rm rm.cells rm.slots 1) (hW : ((st : List Value).map fun v => v.category).sum ≤ 8) (hd : decode cc pc = .ok (.invokevirtual ix, 3)) (hz : rm.cells = 0 ∧ rm.slots = 0) (hf : cells ≤ R.cells ∧ slots ≤ R.slots) (k : mm_G p l e R s m args below meth c cells slots Q nL D ad q A M' (pc + 3) lv st) : mm_G p l e R s m args below meth c cells slots Q nL D ad q A M pc lv (v1 :: .ref (ad id) :: st) := r_callV1 C hk hc he K cw hW hd hz hf (fun v u h => by obtain ⟨rfl, rfl⟩ := h; exact k)
theorem r_callS2I (C : mm_C p s m args c cc nL Ts own D ad q A) {y : MethodName} {bytes : ByteArray} {maxL ix : Nat} {ret : Option FieldType} {ws : List Cond} {rm : Room} {M' : mm_M} {r : Int32} {v1 v2 : Value} (K : mm_Kd l D ad q A y ws rm [v1, v2] M (some (.int r)) M') (cw : CallB R s args own ix y bytes maxL ret ws rm rm.cells rm.slots 2 ∧ (Cond.static y).before args s = true) (hW : ((st : List Value).map fun v => v.category).sum ≤ 8) (hd : decode cc pc = .ok (.invokestatic ix, 3)) (hz : rm.cells = 0 ∧ rm.slots = 0) (hf : cells ≤ R.cells ∧ slots ≤ R.slots) (k : mm_G p l e R s m args below meth c cells slots Q nL D ad q A M' (pc + 3) lv (.int r :: st)) : mm_G p l e R s m args below meth c cells slots Q nL D ad q A M pc lv (v2 :: v1 :: st) := r_callS2 C K cw hW hd hz hf (fun v u h => by obtain ⟨rfl, rfl⟩ := h; exact k)
theorem r_callV2I (C : mm_C p s m args c cc nL Ts own D ad q A) {y : MethodName} {bytes : ByteArray} {maxL ix : Nat} {ret : Option FieldType} {ws : List Cond} {rm : Room} {M' : mm_M} {r : Int32} {v1 v2 : Value} {id : Nat} (ci : Nat) {fs : List Value} {x : vw_C} (hk : id < 66) (hc : vwCl[ci]? = some x) (he : mm_ct ad q M id = .inr (ci, fs)) (K : mm_Kd l D ad q A y ws rm (.ref (ad id) :: [v1, v2]) M (some (.int r)) M') (cw : CallW R s args own x.1 ix y bytes maxL ret ws rm rm.cells rm.slots 2) (hW : ((st : List Value).map fun v => v.category).sum ≤ 8) (hd : decode cc pc = .ok (.invokevirtual ix, 3)) (hz : rm.cells = 0 ∧ rm.slots = 0) (hf : cells ≤ R.cells ∧ slots ≤ R.slots) (k : mm_G p l e R s m args below meth c cells slots Q nL D ad q A M' (pc + 3) lv (.int r :: st)) : mm_G p l e R s m args below meth c cells slots Q nL D ad q A M pc lv (v2 :: v1 :: .ref (ad id) :: st) := r_callV2 C hk hc he K cw hW hd hz hf (fun v u h => by obtain ⟨rfl, rfl⟩ := h; exact k)
theorem r_callS2J (C : mm_C p s m args c cc nL Ts own D ad q A) {y : MethodName} {bytes : ByteArray} {maxL ix : Nat} {ret : Option FieldType} {ws : List Cond} {rm : Room} {M' : mm_M} {r : Int64} {v1 v2 : Value} (K : mm_Kd l D ad q A y ws rm [v1, v2] M (some (.long r)) M') (cw : CallB R s args own ix y bytes maxL ret ws rm rm.cells rm.slots 2 ∧ (Cond.static y).before args s = true) (hW : ((st : List Value).map fun v => v.category).sum ≤ 8) (hd : decode cc pc = .ok (.invokestatic ix, 3)) (hz : rm.cells = 0 ∧ rm.slots = 0) (hf : cells ≤ R.cells ∧ slots ≤ R.slots) (k : mm_G p l e R s m args below meth c cells slots Q nL D ad q A M' (pc + 3) lv (.long r :: st)) : mm_G p l e R s m args below meth c cells slots Q nL D ad q A M pc lv (v2 :: v1 :: st) := r_callS2 C K cw hW hd hz hf (fun v u h => by obtain ⟨rfl, rfl⟩ := h; exact k)
theorem r_callV2J (C : mm_C p s m args c cc nL Ts own D ad q A) {y : MethodName} {bytes : ByteArray} {maxL ix : Nat} {ret : Option FieldType} {ws : List Cond} {rm : Room} {M' : mm_M} {r : Int64} {v1 v2 : Value} {id : Nat} (ci : Nat) {fs : List Value} {x : vw_C} (hk : id < 66) (hc : vwCl[ci]? = some x) (he : mm_ct ad q M id = .inr (ci, fs)) (K : mm_Kd l D ad q A y ws rm (.ref (ad id) :: [v1, v2]) M (some (.long r)) M') (cw : CallW R s args own x.1 ix y bytes maxL ret ws rm rm.cells rm.slots 2) (hW : ((st : List Value).map fun v => v.category).sum ≤ 8) (hd : decode cc pc = .ok (.invokevirtual ix, 3)) (hz : rm.cells = 0 ∧ rm.slots = 0) (hf : cells ≤ R.cells ∧ slots ≤ R.slots) (k : mm_G p l e R s m args below meth c cells slots Q nL D ad q A M' (pc + 3) lv (.long r :: st)) : mm_G p l e R s m args below meth c cells slots Q nL D ad q A M pc lv (v2 :: v1 :: .ref (ad id) :: st) := r_callV2 C hk hc he K cw hW hd hz hf (fun v u h => by obtain ⟨rfl, rfl⟩ := h; exact k)
theorem r_callS2R (C : mm_C p s m args c cc nL Ts own D ad q A) {y : MethodName} {bytes : ByteArray} {maxL ix : Nat} {ret : Option FieldType} {ws : List Cond} {rm : Room} {M' : mm_M} {r : Nat} {v1 v2 : Value} (K : mm_Kd l D ad q A y ws rm [v1, v2] M (some (.ref r)) M') (cw : CallB R s args own ix y bytes maxL ret ws rm rm.cells rm.slots 2 ∧ (Cond.static y).before args s = true) (hW : ((st : List Value).map fun v => v.category).sum ≤ 8) (hd : decode cc pc = .ok (.invokestatic ix, 3)) (hz : rm.cells = 0 ∧ rm.slots = 0) (hf : cells ≤ R.cells ∧ slots ≤ R.slots) (k : mm_G p l e R s m args below meth c cells slots Q nL D ad q A M' (pc + 3) lv (.ref r :: st)) : mm_G p l e R s m args below meth c cells slots Q nL D ad q A M pc lv (v2 :: v1 :: st) := r_callS2 C K cw hW hd hz hf (fun v u h => by obtain ⟨rfl, rfl⟩ := h; exact k)
theorem r_callV2R (C : mm_C p s m args c cc nL Ts own D ad q A) {y : MethodName} {bytes : ByteArray} {maxL ix : Nat} {ret : Option FieldType} {ws : List Cond} {rm : Room} {M' : mm_M} {r : Nat} {v1 v2 : Value} {id : Nat} (ci : Nat) {fs : List Value} {x : vw_C} (hk : id < 66) (hc : vwCl[ci]? = some x) (he : mm_ct ad q M id = .inr (ci, fs)) (K : mm_Kd l D ad q A y ws rm (.ref (ad id) :: [v1, v2]) M (some (.ref r)) M') (cw : CallW R s args own x.1 ix y bytes maxL ret ws rm rm.cells rm.slots 2) (hW : ((st : List Value).map fun v => v.category).sum ≤ 8) (hd : decode cc pc = .ok (.invokevirtual ix, 3)) (hz : rm.cells = 0 ∧ rm.slots = 0) (hf : cells ≤ R.cells ∧ slots ≤ R.slots) (k : mm_G p l e R s m args below meth c cells slots Q nL D ad q A M' (pc + 3) lv (.ref r :: st)) : mm_G p l e R s m args below meth c cells slots Q nL D ad q A M pc lv (v2 :: v1 :: .ref (ad id) :: st) := r_callV2 C hk hc he K cw hW hd hz hf (fun v u h => by obtain ⟨rfl, rfl⟩ := h; exact k)
theorem r_callS2N (C : mm_C p s m args c cc nL Ts own D ad q A) {y : MethodName} {bytes : ByteArray} {maxL ix : Nat} {ret : Option FieldType} {ws : List Cond} {rm : Room} {M' : mm_M}  {v1 v2 : Value} (K : mm_Kd l D ad q A y ws rm [v1, v2] M (some .null) M') (cw : CallB R s args own ix y bytes maxL ret ws rm rm.cells rm.slots 2 ∧ (Cond.static y).before args s = true) (hW : ((st : List Value).map fun v => v.category).sum ≤ 8) (hd : decode cc pc = .ok (.invokestatic ix, 3)) (hz : rm.cells = 0 ∧ rm.slots = 0) (hf : cells ≤ R.cells ∧ slots ≤ R.slots) (k : mm_G p l e R s m args below meth c cells slots Q nL D ad q A M' (pc + 3) lv (.null :: st)) : mm_G p l e R s m args below meth c cells slots Q nL D ad q A M pc lv (v2 :: v1 :: st) := r_callS2 C K cw hW hd hz hf (fun v u h => by obtain ⟨rfl, rfl⟩ := h; exact k)
theorem r_callV2N (C : mm_C p s m args c cc nL Ts own D ad q A) {y : MethodName} {bytes : ByteArray} {maxL ix : Nat} {ret : Option FieldType} {ws : List Cond} {rm : Room} {M' : mm_M}  {v1 v2 : Value} {id : Nat} (ci : Nat) {fs : List Value} {x : vw_C} (hk : id < 66) (hc : vwCl[ci]? = some x) (he : mm_ct ad q M id = .inr (ci, fs)) (K : mm_Kd l D ad q A y ws rm (.ref (ad id) :: [v1, v2]) M (some .null) M') (cw : CallW R s args own x.1 ix y bytes maxL ret ws rm rm.cells rm.slots 2) (hW : ((st : List Value).map fun v => v.category).sum ≤ 8) (hd : decode cc pc = .ok (.invokevirtual ix, 3)) (hz : rm.cells = 0 ∧ rm.slots = 0) (hf : cells ≤ R.cells ∧ slots ≤ R.slots) (k : mm_G p l e R s m args below meth c cells slots Q nL D ad q A M' (pc + 3) lv (.null :: st)) : mm_G p l e R s m args below meth c cells slots Q nL D ad q A M pc lv (v2 :: v1 :: .ref (ad id) :: st) := r_callV2 C hk hc he K cw hW hd hz hf (fun v u h => by obtain ⟨rfl, rfl⟩ := h; exact k)
theorem r_callS2V (C : mm_C p s m args c cc nL Ts own D ad q A) {y : MethodName} {bytes : ByteArray} {maxL ix : Nat} {ret : Option FieldType} {ws : List Cond} {rm : Room} {M' : mm_M}  {v1 v2 : Value} (K : mm_Kd l D ad q A y ws rm [v1, v2] M none M') (cw : CallB R s args own ix y bytes maxL ret ws rm rm.cells rm.slots 2 ∧ (Cond.static y).before args s = true) (hW : ((st : List Value).map fun v => v.category).sum ≤ 8) (hd : decode cc pc = .ok (.invokestatic ix, 3)) (hz : rm.cells = 0 ∧ rm.slots = 0) (hf : cells ≤ R.cells ∧ slots ≤ R.slots) (k : mm_G p l e R s m args below meth c cells slots Q nL D ad q A M' (pc + 3) lv st) : mm_G p l e R s m args below meth c cells slots Q nL D ad q A M pc lv (v2 :: v1 :: st) := r_callS2 C K cw hW hd hz hf (fun v u h => by obtain ⟨rfl, rfl⟩ := h; exact k)
theorem r_callV2V (C : mm_C p s m args c cc nL Ts own D ad q A) {y : MethodName} {bytes : ByteArray} {maxL ix : Nat} {ret : Option FieldType} {ws : List Cond} {rm : Room} {M' : mm_M}  {v1 v2 : Value} {id : Nat} (ci : Nat) {fs : List Value} {x : vw_C} (hk : id < 66) (hc : vwCl[ci]? = some x) (he : mm_ct ad q M id = .inr (ci, fs)) (K : mm_Kd l D ad q A y ws rm (.ref (ad id) :: [v1, v2]) M none M') (cw : CallW R s args own x.1 ix y bytes maxL ret ws rm rm.cells rm.slots 2) (hW : ((st : List Value).map fun v => v.category).sum ≤ 8) (hd : decode cc pc = .ok (.invokevirtual ix, 3)) (hz : rm.cells = 0 ∧ rm.slots = 0) (hf : cells ≤ R.cells ∧ slots ≤ R.slots) (k : mm_G p l e R s m args below meth c cells slots Q nL D ad q A M' (pc + 3) lv st) : mm_G p l e R s m args below meth c cells slots Q nL D ad q A M pc lv (v2 :: v1 :: .ref (ad id) :: st) := r_callV2 C hk hc he K cw hW hd hz hf (fun v u h => by obtain ⟨rfl, rfl⟩ := h; exact k)
theorem r_callS3I (C : mm_C p s m args c cc nL Ts own D ad q A) {y : MethodName} {bytes : ByteArray} {maxL ix : Nat} {ret : Option FieldType} {ws : List Cond} {rm : Room} {M' : mm_M} {r : Int32} {v1 v2 v3 : Value} (K : mm_Kd l D ad q A y ws rm [v1, v2, v3] M (some (.int r)) M') (cw : CallB R s args own ix y bytes maxL ret ws rm rm.cells rm.slots 3 ∧ (Cond.static y).before args s = true) (hW : ((st : List Value).map fun v => v.category).sum ≤ 8) (hd : decode cc pc = .ok (.invokestatic ix, 3)) (hz : rm.cells = 0 ∧ rm.slots = 0) (hf : cells ≤ R.cells ∧ slots ≤ R.slots) (k : mm_G p l e R s m args below meth c cells slots Q nL D ad q A M' (pc + 3) lv (.int r :: st)) : mm_G p l e R s m args below meth c cells slots Q nL D ad q A M pc lv (v3 :: v2 :: v1 :: st) := r_callS3 C K cw hW hd hz hf (fun v u h => by obtain ⟨rfl, rfl⟩ := h; exact k)
theorem r_callV3I (C : mm_C p s m args c cc nL Ts own D ad q A) {y : MethodName} {bytes : ByteArray} {maxL ix : Nat} {ret : Option FieldType} {ws : List Cond} {rm : Room} {M' : mm_M} {r : Int32} {v1 v2 v3 : Value} {id : Nat} (ci : Nat) {fs : List Value} {x : vw_C} (hk : id < 66) (hc : vwCl[ci]? = some x) (he : mm_ct ad q M id = .inr (ci, fs)) (K : mm_Kd l D ad q A y ws rm (.ref (ad id) :: [v1, v2, v3]) M (some (.int r)) M') (cw : CallW R s args own x.1 ix y bytes maxL ret ws rm rm.cells rm.slots 3) (hW : ((st : List Value).map fun v => v.category).sum ≤ 8) (hd : decode cc pc = .ok (.invokevirtual ix, 3)) (hz : rm.cells = 0 ∧ rm.slots = 0) (hf : cells ≤ R.cells ∧ slots ≤ R.slots) (k : mm_G p l e R s m args below meth c cells slots Q nL D ad q A M' (pc + 3) lv (.int r :: st)) : mm_G p l e R s m args below meth c cells slots Q nL D ad q A M pc lv (v3 :: v2 :: v1 :: .ref (ad id) :: st) := r_callV3 C hk hc he K cw hW hd hz hf (fun v u h => by obtain ⟨rfl, rfl⟩ := h; exact k)
theorem r_callS3J (C : mm_C p s m args c cc nL Ts own D ad q A) {y : MethodName} {bytes : ByteArray} {maxL ix : Nat} {ret : Option FieldType} {ws : List Cond} {rm : Room} {M' : mm_M} {r : Int64} {v1 v2 v3 : Value} (K : mm_Kd l D ad q A y ws rm [v1, v2, v3] M (some (.long r)) M') (cw : CallB R s args own ix y bytes maxL ret ws rm rm.cells rm.slots 3 ∧ (Cond.static y).before args s = true) (hW : ((st : List Value).map fun v => v.category).sum ≤ 8) (hd : decode cc pc = .ok (.invokestatic ix, 3)) (hz : rm.cells = 0 ∧ rm.slots = 0) (hf : cells ≤ R.cells ∧ slots ≤ R.slots) (k : mm_G p l e R s m args below meth c cells slots Q nL D ad q A M' (pc + 3) lv (.long r :: st)) : mm_G p l e R s m args below meth c cells slots Q nL D ad q A M pc lv (v3 :: v2 :: v1 :: st) := r_callS3 C K cw hW hd hz hf (fun v u h => by obtain ⟨rfl, rfl⟩ := h; exact k)
theorem r_callV3J (C : mm_C p s m args c cc nL Ts own D ad q A) {y : MethodName} {bytes : ByteArray} {maxL ix : Nat} {ret : Option FieldType} {ws : List Cond} {rm : Room} {M' : mm_M} {r : Int64} {v1 v2 v3 : Value} {id : Nat} (ci : Nat) {fs : List Value} {x : vw_C} (hk : id < 66) (hc : vwCl[ci]? = some x) (he : mm_ct ad q M id = .inr (ci, fs)) (K : mm_Kd l D ad q A y ws rm (.ref (ad id) :: [v1, v2, v3]) M (some (.long r)) M') (cw : CallW R s args own x.1 ix y bytes maxL ret ws rm rm.cells rm.slots 3) (hW : ((st : List Value).map fun v => v.category).sum ≤ 8) (hd : decode cc pc = .ok (.invokevirtual ix, 3)) (hz : rm.cells = 0 ∧ rm.slots = 0) (hf : cells ≤ R.cells ∧ slots ≤ R.slots) (k : mm_G p l e R s m args below meth c cells slots Q nL D ad q A M' (pc + 3) lv (.long r :: st)) : mm_G p l e R s m args below meth c cells slots Q nL D ad q A M pc lv (v3 :: v2 :: v1 :: .ref (ad id) :: st) := r_callV3 C hk hc he K cw hW hd hz hf (fun v u h => by obtain ⟨rfl, rfl⟩ := h; exact k)
theorem r_callS3R (C : mm_C p s m args c cc nL Ts own D ad q A) {y : MethodName} {bytes : ByteArray} {maxL ix : Nat} {ret : Option FieldType} {ws : List Cond} {rm : Room} {M' : mm_M} {r : Nat} {v1 v2 v3 : Value} (K : mm_Kd l D ad q A y ws rm [v1, v2, v3] M (some (.ref r)) M') (cw : CallB R s args own ix y bytes maxL ret ws rm rm.cells rm.slots 3 ∧ (Cond.static y).before args s = true) (hW : ((st : List Value).map fun v => v.category).sum ≤ 8) (hd : decode cc pc = .ok (.invokestatic ix, 3)) (hz : rm.cells = 0 ∧ rm.slots = 0) (hf : cells ≤ R.cells ∧ slots ≤ R.slots) (k : mm_G p l e R s m args below meth c cells slots Q nL D ad q A M' (pc + 3) lv (.ref r :: st)) : mm_G p l e R s m args below meth c cells slots Q nL D ad q A M pc lv (v3 :: v2 :: v1 :: st) := r_callS3 C K cw hW hd hz hf (fun v u h => by obtain ⟨rfl, rfl⟩ := h; exact k)
theorem r_callV3R (C : mm_C p s m args c cc nL Ts own D ad q A) {y : MethodName} {bytes : ByteArray} {maxL ix : Nat} {ret : Option FieldType} {ws : List Cond} {rm : Room} {M' : mm_M} {r : Nat} {v1 v2 v3 : Value} {id : Nat} (ci : Nat) {fs : List Value} {x : vw_C} (hk : id < 66) (hc : vwCl[ci]? = some x) (he : mm_ct ad q M id = .inr (ci, fs)) (K : mm_Kd l D ad q A y ws rm (.ref (ad id) :: [v1, v2, v3]) M (some (.ref r)) M') (cw : CallW R s args own x.1 ix y bytes maxL ret ws rm rm.cells rm.slots 3) (hW : ((st : List Value).map fun v => v.category).sum ≤ 8) (hd : decode cc pc = .ok (.invokevirtual ix, 3)) (hz : rm.cells = 0 ∧ rm.slots = 0) (hf : cells ≤ R.cells ∧ slots ≤ R.slots) (k : mm_G p l e R s m args below meth c cells slots Q nL D ad q A M' (pc + 3) lv (.ref r :: st)) : mm_G p l e R s m args below meth c cells slots Q nL D ad q A M pc lv (v3 :: v2 :: v1 :: .ref (ad id) :: st) := r_callV3 C hk hc he K cw hW hd hz hf (fun v u h => by obtain ⟨rfl, rfl⟩ := h; exact k)
theorem r_callS3N (C : mm_C p s m args c cc nL Ts own D ad q A) {y : MethodName} {bytes : ByteArray} {maxL ix : Nat} {ret : Option FieldType} {ws : List Cond} {rm : Room} {M' : mm_M}  {v1 v2 v3 : Value} (K : mm_Kd l D ad q A y ws rm [v1, v2, v3] M (some .null) M') (cw : CallB R s args own ix y bytes maxL ret ws rm rm.cells rm.slots 3 ∧ (Cond.static y).before args s = true) (hW : ((st : List Value).map fun v => v.category).sum ≤ 8) (hd : decode cc pc = .ok (.invokestatic ix, 3)) (hz : rm.cells = 0 ∧ rm.slots = 0) (hf : cells ≤ R.cells ∧ slots ≤ R.slots) (k : mm_G p l e R s m args below meth c cells slots Q nL D ad q A M' (pc + 3) lv (.null :: st)) : mm_G p l e R s m args below meth c cells slots Q nL D ad q A M pc lv (v3 :: v2 :: v1 :: st) := r_callS3 C K cw hW hd hz hf (fun v u h => by obtain ⟨rfl, rfl⟩ := h; exact k)
theorem r_callV3N (C : mm_C p s m args c cc nL Ts own D ad q A) {y : MethodName} {bytes : ByteArray} {maxL ix : Nat} {ret : Option FieldType} {ws : List Cond} {rm : Room} {M' : mm_M}  {v1 v2 v3 : Value} {id : Nat} (ci : Nat) {fs : List Value} {x : vw_C} (hk : id < 66) (hc : vwCl[ci]? = some x) (he : mm_ct ad q M id = .inr (ci, fs)) (K : mm_Kd l D ad q A y ws rm (.ref (ad id) :: [v1, v2, v3]) M (some .null) M') (cw : CallW R s args own x.1 ix y bytes maxL ret ws rm rm.cells rm.slots 3) (hW : ((st : List Value).map fun v => v.category).sum ≤ 8) (hd : decode cc pc = .ok (.invokevirtual ix, 3)) (hz : rm.cells = 0 ∧ rm.slots = 0) (hf : cells ≤ R.cells ∧ slots ≤ R.slots) (k : mm_G p l e R s m args below meth c cells slots Q nL D ad q A M' (pc + 3) lv (.null :: st)) : mm_G p l e R s m args below meth c cells slots Q nL D ad q A M pc lv (v3 :: v2 :: v1 :: .ref (ad id) :: st) := r_callV3 C hk hc he K cw hW hd hz hf (fun v u h => by obtain ⟨rfl, rfl⟩ := h; exact k)
theorem r_callS3V (C : mm_C p s m args c cc nL Ts own D ad q A) {y : MethodName} {bytes : ByteArray} {maxL ix : Nat} {ret : Option FieldType} {ws : List Cond} {rm : Room} {M' : mm_M}  {v1 v2 v3 : Value} (K : mm_Kd l D ad q A y ws rm [v1, v2, v3] M none M') (cw : CallB R s args own ix y bytes maxL ret ws rm rm.cells rm.slots 3 ∧ (Cond.static y).before args s = true) (hW : ((st : List Value).map fun v => v.category).sum ≤ 8) (hd : decode cc pc = .ok (.invokestatic ix, 3)) (hz : rm.cells = 0 ∧ rm.slots = 0) (hf : cells ≤ R.cells ∧ slots ≤ R.slots) (k : mm_G p l e R s m args below meth c cells slots Q nL D ad q A M' (pc + 3) lv st) : mm_G p l e R s m args below meth c cells slots Q nL D ad q A M pc lv (v3 :: v2 :: v1 :: st) := r_callS3 C K cw hW hd hz hf (fun v u h => by obtain ⟨rfl, rfl⟩ := h; exact k)
theorem r_callV3V (C : mm_C p s m args c cc nL Ts own D ad q A) {y : MethodName} {bytes : ByteArray} {maxL ix : Nat} {ret : Option FieldType} {ws : List Cond} {rm : Room} {M' : mm_M}  {v1 v2 v3 : Value} {id : Nat} (ci : Nat) {fs : List Value} {x : vw_C} (hk : id < 66) (hc : vwCl[ci]? = some x) (he : mm_ct ad q M id = .inr (ci, fs)) (K : mm_Kd l D ad q A y ws rm (.ref (ad id) :: [v1, v2, v3]) M none M') (cw : CallW R s args own x.1 ix y bytes maxL ret ws rm rm.cells rm.slots 3) (hW : ((st : List Value).map fun v => v.category).sum ≤ 8) (hd : decode cc pc = .ok (.invokevirtual ix, 3)) (hz : rm.cells = 0 ∧ rm.slots = 0) (hf : cells ≤ R.cells ∧ slots ≤ R.slots) (k : mm_G p l e R s m args below meth c cells slots Q nL D ad q A M' (pc + 3) lv st) : mm_G p l e R s m args below meth c cells slots Q nL D ad q A M pc lv (v3 :: v2 :: v1 :: .ref (ad id) :: st) := r_callV3 C hk hc he K cw hW hd hz hf (fun v u h => by obtain ⟨rfl, rfl⟩ := h; exact k)
theorem r_callS4I (C : mm_C p s m args c cc nL Ts own D ad q A) {y : MethodName} {bytes : ByteArray} {maxL ix : Nat} {ret : Option FieldType} {ws : List Cond} {rm : Room} {M' : mm_M} {r : Int32} {v1 v2 v3 v4 : Value} (K : mm_Kd l D ad q A y ws rm [v1, v2, v3, v4] M (some (.int r)) M') (cw : CallB R s args own ix y bytes maxL ret ws rm rm.cells rm.slots 4 ∧ (Cond.static y).before args s = true) (hW : ((st : List Value).map fun v => v.category).sum ≤ 8) (hd : decode cc pc = .ok (.invokestatic ix, 3)) (hz : rm.cells = 0 ∧ rm.slots = 0) (hf : cells ≤ R.cells ∧ slots ≤ R.slots) (k : mm_G p l e R s m args below meth c cells slots Q nL D ad q A M' (pc + 3) lv (.int r :: st)) : mm_G p l e R s m args below meth c cells slots Q nL D ad q A M pc lv (v4 :: v3 :: v2 :: v1 :: st) := r_callS4 C K cw hW hd hz hf (fun v u h => by obtain ⟨rfl, rfl⟩ := h; exact k)
theorem r_callV4I (C : mm_C p s m args c cc nL Ts own D ad q A) {y : MethodName} {bytes : ByteArray} {maxL ix : Nat} {ret : Option FieldType} {ws : List Cond} {rm : Room} {M' : mm_M} {r : Int32} {v1 v2 v3 v4 : Value} {id : Nat} (ci : Nat) {fs : List Value} {x : vw_C} (hk : id < 66) (hc : vwCl[ci]? = some x) (he : mm_ct ad q M id = .inr (ci, fs)) (K : mm_Kd l D ad q A y ws rm (.ref (ad id) :: [v1, v2, v3, v4]) M (some (.int r)) M') (cw : CallW R s args own x.1 ix y bytes maxL ret ws rm rm.cells rm.slots 4) (hW : ((st : List Value).map fun v => v.category).sum ≤ 8) (hd : decode cc pc = .ok (.invokevirtual ix, 3)) (hz : rm.cells = 0 ∧ rm.slots = 0) (hf : cells ≤ R.cells ∧ slots ≤ R.slots) (k : mm_G p l e R s m args below meth c cells slots Q nL D ad q A M' (pc + 3) lv (.int r :: st)) : mm_G p l e R s m args below meth c cells slots Q nL D ad q A M pc lv (v4 :: v3 :: v2 :: v1 :: .ref (ad id) :: st) := r_callV4 C hk hc he K cw hW hd hz hf (fun v u h => by obtain ⟨rfl, rfl⟩ := h; exact k)
theorem r_callS4J (C : mm_C p s m args c cc nL Ts own D ad q A) {y : MethodName} {bytes : ByteArray} {maxL ix : Nat} {ret : Option FieldType} {ws : List Cond} {rm : Room} {M' : mm_M} {r : Int64} {v1 v2 v3 v4 : Value} (K : mm_Kd l D ad q A y ws rm [v1, v2, v3, v4] M (some (.long r)) M') (cw : CallB R s args own ix y bytes maxL ret ws rm rm.cells rm.slots 4 ∧ (Cond.static y).before args s = true) (hW : ((st : List Value).map fun v => v.category).sum ≤ 8) (hd : decode cc pc = .ok (.invokestatic ix, 3)) (hz : rm.cells = 0 ∧ rm.slots = 0) (hf : cells ≤ R.cells ∧ slots ≤ R.slots) (k : mm_G p l e R s m args below meth c cells slots Q nL D ad q A M' (pc + 3) lv (.long r :: st)) : mm_G p l e R s m args below meth c cells slots Q nL D ad q A M pc lv (v4 :: v3 :: v2 :: v1 :: st) := r_callS4 C K cw hW hd hz hf (fun v u h => by obtain ⟨rfl, rfl⟩ := h; exact k)
theorem r_callV4J (C : mm_C p s m args c cc nL Ts own D ad q A) {y : MethodName} {bytes : ByteArray} {maxL ix : Nat} {ret : Option FieldType} {ws : List Cond} {rm : Room} {M' : mm_M} {r : Int64} {v1 v2 v3 v4 : Value} {id : Nat} (ci : Nat) {fs : List Value} {x : vw_C} (hk : id < 66) (hc : vwCl[ci]? = some x) (he : mm_ct ad q M id = .inr (ci, fs)) (K : mm_Kd l D ad q A y ws rm (.ref (ad id) :: [v1, v2, v3, v4]) M (some (.long r)) M') (cw : CallW R s args own x.1 ix y bytes maxL ret ws rm rm.cells rm.slots 4) (hW : ((st : List Value).map fun v => v.category).sum ≤ 8) (hd : decode cc pc = .ok (.invokevirtual ix, 3)) (hz : rm.cells = 0 ∧ rm.slots = 0) (hf : cells ≤ R.cells ∧ slots ≤ R.slots) (k : mm_G p l e R s m args below meth c cells slots Q nL D ad q A M' (pc + 3) lv (.long r :: st)) : mm_G p l e R s m args below meth c cells slots Q nL D ad q A M pc lv (v4 :: v3 :: v2 :: v1 :: .ref (ad id) :: st) := r_callV4 C hk hc he K cw hW hd hz hf (fun v u h => by obtain ⟨rfl, rfl⟩ := h; exact k)
theorem r_callS4R (C : mm_C p s m args c cc nL Ts own D ad q A) {y : MethodName} {bytes : ByteArray} {maxL ix : Nat} {ret : Option FieldType} {ws : List Cond} {rm : Room} {M' : mm_M} {r : Nat} {v1 v2 v3 v4 : Value} (K : mm_Kd l D ad q A y ws rm [v1, v2, v3, v4] M (some (.ref r)) M') (cw : CallB R s args own ix y bytes maxL ret ws rm rm.cells rm.slots 4 ∧ (Cond.static y).before args s = true) (hW : ((st : List Value).map fun v => v.category).sum ≤ 8) (hd : decode cc pc = .ok (.invokestatic ix, 3)) (hz : rm.cells = 0 ∧ rm.slots = 0) (hf : cells ≤ R.cells ∧ slots ≤ R.slots) (k : mm_G p l e R s m args below meth c cells slots Q nL D ad q A M' (pc + 3) lv (.ref r :: st)) : mm_G p l e R s m args below meth c cells slots Q nL D ad q A M pc lv (v4 :: v3 :: v2 :: v1 :: st) := r_callS4 C K cw hW hd hz hf (fun v u h => by obtain ⟨rfl, rfl⟩ := h; exact k)
theorem r_callV4R (C : mm_C p s m args c cc nL Ts own D ad q A) {y : MethodName} {bytes : ByteArray} {maxL ix : Nat} {ret : Option FieldType} {ws : List Cond} {rm : Room} {M' : mm_M} {r : Nat} {v1 v2 v3 v4 : Value} {id : Nat} (ci : Nat) {fs : List Value} {x : vw_C} (hk : id < 66) (hc : vwCl[ci]? = some x) (he : mm_ct ad q M id = .inr (ci, fs)) (K : mm_Kd l D ad q A y ws rm (.ref (ad id) :: [v1, v2, v3, v4]) M (some (.ref r)) M') (cw : CallW R s args own x.1 ix y bytes maxL ret ws rm rm.cells rm.slots 4) (hW : ((st : List Value).map fun v => v.category).sum ≤ 8) (hd : decode cc pc = .ok (.invokevirtual ix, 3)) (hz : rm.cells = 0 ∧ rm.slots = 0) (hf : cells ≤ R.cells ∧ slots ≤ R.slots) (k : mm_G p l e R s m args below meth c cells slots Q nL D ad q A M' (pc + 3) lv (.ref r :: st)) : mm_G p l e R s m args below meth c cells slots Q nL D ad q A M pc lv (v4 :: v3 :: v2 :: v1 :: .ref (ad id) :: st) := r_callV4 C hk hc he K cw hW hd hz hf (fun v u h => by obtain ⟨rfl, rfl⟩ := h; exact k)
theorem r_callS4N (C : mm_C p s m args c cc nL Ts own D ad q A) {y : MethodName} {bytes : ByteArray} {maxL ix : Nat} {ret : Option FieldType} {ws : List Cond} {rm : Room} {M' : mm_M}  {v1 v2 v3 v4 : Value} (K : mm_Kd l D ad q A y ws rm [v1, v2, v3, v4] M (some .null) M') (cw : CallB R s args own ix y bytes maxL ret ws rm rm.cells rm.slots 4 ∧ (Cond.static y).before args s = true) (hW : ((st : List Value).map fun v => v.category).sum ≤ 8) (hd : decode cc pc = .ok (.invokestatic ix, 3)) (hz : rm.cells = 0 ∧ rm.slots = 0) (hf : cells ≤ R.cells ∧ slots ≤ R.slots) (k : mm_G p l e R s m args below meth c cells slots Q nL D ad q A M' (pc + 3) lv (.null :: st)) : mm_G p l e R s m args below meth c cells slots Q nL D ad q A M pc lv (v4 :: v3 :: v2 :: v1 :: st) := r_callS4 C K cw hW hd hz hf (fun v u h => by obtain ⟨rfl, rfl⟩ := h; exact k)
theorem r_callV4N (C : mm_C p s m args c cc nL Ts own D ad q A) {y : MethodName} {bytes : ByteArray} {maxL ix : Nat} {ret : Option FieldType} {ws : List Cond} {rm : Room} {M' : mm_M}  {v1 v2 v3 v4 : Value} {id : Nat} (ci : Nat) {fs : List Value} {x : vw_C} (hk : id < 66) (hc : vwCl[ci]? = some x) (he : mm_ct ad q M id = .inr (ci, fs)) (K : mm_Kd l D ad q A y ws rm (.ref (ad id) :: [v1, v2, v3, v4]) M (some .null) M') (cw : CallW R s args own x.1 ix y bytes maxL ret ws rm rm.cells rm.slots 4) (hW : ((st : List Value).map fun v => v.category).sum ≤ 8) (hd : decode cc pc = .ok (.invokevirtual ix, 3)) (hz : rm.cells = 0 ∧ rm.slots = 0) (hf : cells ≤ R.cells ∧ slots ≤ R.slots) (k : mm_G p l e R s m args below meth c cells slots Q nL D ad q A M' (pc + 3) lv (.null :: st)) : mm_G p l e R s m args below meth c cells slots Q nL D ad q A M pc lv (v4 :: v3 :: v2 :: v1 :: .ref (ad id) :: st) := r_callV4 C hk hc he K cw hW hd hz hf (fun v u h => by obtain ⟨rfl, rfl⟩ := h; exact k)
theorem r_callS4V (C : mm_C p s m args c cc nL Ts own D ad q A) {y : MethodName} {bytes : ByteArray} {maxL ix : Nat} {ret : Option FieldType} {ws : List Cond} {rm : Room} {M' : mm_M}  {v1 v2 v3 v4 : Value} (K : mm_Kd l D ad q A y ws rm [v1, v2, v3, v4] M none M') (cw : CallB R s args own ix y bytes maxL ret ws rm rm.cells rm.slots 4 ∧ (Cond.static y).before args s = true) (hW : ((st : List Value).map fun v => v.category).sum ≤ 8) (hd : decode cc pc = .ok (.invokestatic ix, 3)) (hz : rm.cells = 0 ∧ rm.slots = 0) (hf : cells ≤ R.cells ∧ slots ≤ R.slots) (k : mm_G p l e R s m args below meth c cells slots Q nL D ad q A M' (pc + 3) lv st) : mm_G p l e R s m args below meth c cells slots Q nL D ad q A M pc lv (v4 :: v3 :: v2 :: v1 :: st) := r_callS4 C K cw hW hd hz hf (fun v u h => by obtain ⟨rfl, rfl⟩ := h; exact k)
theorem r_callV4V (C : mm_C p s m args c cc nL Ts own D ad q A) {y : MethodName} {bytes : ByteArray} {maxL ix : Nat} {ret : Option FieldType} {ws : List Cond} {rm : Room} {M' : mm_M}  {v1 v2 v3 v4 : Value} {id : Nat} (ci : Nat) {fs : List Value} {x : vw_C} (hk : id < 66) (hc : vwCl[ci]? = some x) (he : mm_ct ad q M id = .inr (ci, fs)) (K : mm_Kd l D ad q A y ws rm (.ref (ad id) :: [v1, v2, v3, v4]) M none M') (cw : CallW R s args own x.1 ix y bytes maxL ret ws rm rm.cells rm.slots 4) (hW : ((st : List Value).map fun v => v.category).sum ≤ 8) (hd : decode cc pc = .ok (.invokevirtual ix, 3)) (hz : rm.cells = 0 ∧ rm.slots = 0) (hf : cells ≤ R.cells ∧ slots ≤ R.slots) (k : mm_G p l e R s m args below meth c cells slots Q nL D ad q A M' (pc + 3) lv st) : mm_G p l e R s m args below meth c cells slots Q nL D ad q A M pc lv (v4 :: v3 :: v2 :: v1 :: .ref (ad id) :: st) := r_callV4 C hk hc he K cw hW hd hz hf (fun v u h => by obtain ⟨rfl, rfl⟩ := h; exact k)
theorem r_callS5I (C : mm_C p s m args c cc nL Ts own D ad q A) {y : MethodName} {bytes : ByteArray} {maxL ix : Nat} {ret : Option FieldType} {ws : List Cond} {rm : Room} {M' : mm_M} {r : Int32} {v1 v2 v3 v4 v5 : Value} (K : mm_Kd l D ad q A y ws rm [v1, v2, v3, v4, v5] M (some (.int r)) M') (cw : CallB R s args own ix y bytes maxL ret ws rm rm.cells rm.slots 5 ∧ (Cond.static y).before args s = true) (hW : ((st : List Value).map fun v => v.category).sum ≤ 8) (hd : decode cc pc = .ok (.invokestatic ix, 3)) (hz : rm.cells = 0 ∧ rm.slots = 0) (hf : cells ≤ R.cells ∧ slots ≤ R.slots) (k : mm_G p l e R s m args below meth c cells slots Q nL D ad q A M' (pc + 3) lv (.int r :: st)) : mm_G p l e R s m args below meth c cells slots Q nL D ad q A M pc lv (v5 :: v4 :: v3 :: v2 :: v1 :: st) := r_callS5 C K cw hW hd hz hf (fun v u h => by obtain ⟨rfl, rfl⟩ := h; exact k)
theorem r_callV5I (C : mm_C p s m args c cc nL Ts own D ad q A) {y : MethodName} {bytes : ByteArray} {maxL ix : Nat} {ret : Option FieldType} {ws : List Cond} {rm : Room} {M' : mm_M} {r : Int32} {v1 v2 v3 v4 v5 : Value} {id : Nat} (ci : Nat) {fs : List Value} {x : vw_C} (hk : id < 66) (hc : vwCl[ci]? = some x) (he : mm_ct ad q M id = .inr (ci, fs)) (K : mm_Kd l D ad q A y ws rm (.ref (ad id) :: [v1, v2, v3, v4, v5]) M (some (.int r)) M') (cw : CallW R s args own x.1 ix y bytes maxL ret ws rm rm.cells rm.slots 5) (hW : ((st : List Value).map fun v => v.category).sum ≤ 8) (hd : decode cc pc = .ok (.invokevirtual ix, 3)) (hz : rm.cells = 0 ∧ rm.slots = 0) (hf : cells ≤ R.cells ∧ slots ≤ R.slots) (k : mm_G p l e R s m args below meth c cells slots Q nL D ad q A M' (pc + 3) lv (.int r :: st)) : mm_G p l e R s m args below meth c cells slots Q nL D ad q A M pc lv (v5 :: v4 :: v3 :: v2 :: v1 :: .ref (ad id) :: st) := r_callV5 C hk hc he K cw hW hd hz hf (fun v u h => by obtain ⟨rfl, rfl⟩ := h; exact k)
theorem r_callS5J (C : mm_C p s m args c cc nL Ts own D ad q A) {y : MethodName} {bytes : ByteArray} {maxL ix : Nat} {ret : Option FieldType} {ws : List Cond} {rm : Room} {M' : mm_M} {r : Int64} {v1 v2 v3 v4 v5 : Value} (K : mm_Kd l D ad q A y ws rm [v1, v2, v3, v4, v5] M (some (.long r)) M') (cw : CallB R s args own ix y bytes maxL ret ws rm rm.cells rm.slots 5 ∧ (Cond.static y).before args s = true) (hW : ((st : List Value).map fun v => v.category).sum ≤ 8) (hd : decode cc pc = .ok (.invokestatic ix, 3)) (hz : rm.cells = 0 ∧ rm.slots = 0) (hf : cells ≤ R.cells ∧ slots ≤ R.slots) (k : mm_G p l e R s m args below meth c cells slots Q nL D ad q A M' (pc + 3) lv (.long r :: st)) : mm_G p l e R s m args below meth c cells slots Q nL D ad q A M pc lv (v5 :: v4 :: v3 :: v2 :: v1 :: st) := r_callS5 C K cw hW hd hz hf (fun v u h => by obtain ⟨rfl, rfl⟩ := h; exact k)
theorem r_callV5J (C : mm_C p s m args c cc nL Ts own D ad q A) {y : MethodName} {bytes : ByteArray} {maxL ix : Nat} {ret : Option FieldType} {ws : List Cond} {rm : Room} {M' : mm_M} {r : Int64} {v1 v2 v3 v4 v5 : Value} {id : Nat} (ci : Nat) {fs : List Value} {x : vw_C} (hk : id < 66) (hc : vwCl[ci]? = some x) (he : mm_ct ad q M id = .inr (ci, fs)) (K : mm_Kd l D ad q A y ws rm (.ref (ad id) :: [v1, v2, v3, v4, v5]) M (some (.long r)) M') (cw : CallW R s args own x.1 ix y bytes maxL ret ws rm rm.cells rm.slots 5) (hW : ((st : List Value).map fun v => v.category).sum ≤ 8) (hd : decode cc pc = .ok (.invokevirtual ix, 3)) (hz : rm.cells = 0 ∧ rm.slots = 0) (hf : cells ≤ R.cells ∧ slots ≤ R.slots) (k : mm_G p l e R s m args below meth c cells slots Q nL D ad q A M' (pc + 3) lv (.long r :: st)) : mm_G p l e R s m args below meth c cells slots Q nL D ad q A M pc lv (v5 :: v4 :: v3 :: v2 :: v1 :: .ref (ad id) :: st) := r_callV5 C hk hc he K cw hW hd hz hf (fun v u h => by obtain ⟨rfl, rfl⟩ := h; exact k)
theorem r_callS5R (C : mm_C p s m args c cc nL Ts own D ad q A) {y : MethodName} {bytes : ByteArray} {maxL ix : Nat} {ret : Option FieldType} {ws : List Cond} {rm : Room} {M' : mm_M} {r : Nat} {v1 v2 v3 v4 v5 : Value} (K : mm_Kd l D ad q A y ws rm [v1, v2, v3, v4, v5] M (some (.ref r)) M') (cw : CallB R s args own ix y bytes maxL ret ws rm rm.cells rm.slots 5 ∧ (Cond.static y).before args s = true) (hW : ((st : List Value).map fun v => v.category).sum ≤ 8) (hd : decode cc pc = .ok (.invokestatic ix, 3)) (hz : rm.cells = 0 ∧ rm.slots = 0) (hf : cells ≤ R.cells ∧ slots ≤ R.slots) (k : mm_G p l e R s m args below meth c cells slots Q nL D ad q A M' (pc + 3) lv (.ref r :: st)) : mm_G p l e R s m args below meth c cells slots Q nL D ad q A M pc lv (v5 :: v4 :: v3 :: v2 :: v1 :: st) := r_callS5 C K cw hW hd hz hf (fun v u h => by obtain ⟨rfl, rfl⟩ := h; exact k)
theorem r_callV5R (C : mm_C p s m args c cc nL Ts own D ad q A) {y : MethodName} {bytes : ByteArray} {maxL ix : Nat} {ret : Option FieldType} {ws : List Cond} {rm : Room} {M' : mm_M} {r : Nat} {v1 v2 v3 v4 v5 : Value} {id : Nat} (ci : Nat) {fs : List Value} {x : vw_C} (hk : id < 66) (hc : vwCl[ci]? = some x) (he : mm_ct ad q M id = .inr (ci, fs)) (K : mm_Kd l D ad q A y ws rm (.ref (ad id) :: [v1, v2, v3, v4, v5]) M (some (.ref r)) M') (cw : CallW R s args own x.1 ix y bytes maxL ret ws rm rm.cells rm.slots 5) (hW : ((st : List Value).map fun v => v.category).sum ≤ 8) (hd : decode cc pc = .ok (.invokevirtual ix, 3)) (hz : rm.cells = 0 ∧ rm.slots = 0) (hf : cells ≤ R.cells ∧ slots ≤ R.slots) (k : mm_G p l e R s m args below meth c cells slots Q nL D ad q A M' (pc + 3) lv (.ref r :: st)) : mm_G p l e R s m args below meth c cells slots Q nL D ad q A M pc lv (v5 :: v4 :: v3 :: v2 :: v1 :: .ref (ad id) :: st) := r_callV5 C hk hc he K cw hW hd hz hf (fun v u h => by obtain ⟨rfl, rfl⟩ := h; exact k)
theorem r_callS5N (C : mm_C p s m args c cc nL Ts own D ad q A) {y : MethodName} {bytes : ByteArray} {maxL ix : Nat} {ret : Option FieldType} {ws : List Cond} {rm : Room} {M' : mm_M}  {v1 v2 v3 v4 v5 : Value} (K : mm_Kd l D ad q A y ws rm [v1, v2, v3, v4, v5] M (some .null) M') (cw : CallB R s args own ix y bytes maxL ret ws rm rm.cells rm.slots 5 ∧ (Cond.static y).before args s = true) (hW : ((st : List Value).map fun v => v.category).sum ≤ 8) (hd : decode cc pc = .ok (.invokestatic ix, 3)) (hz : rm.cells = 0 ∧ rm.slots = 0) (hf : cells ≤ R.cells ∧ slots ≤ R.slots) (k : mm_G p l e R s m args below meth c cells slots Q nL D ad q A M' (pc + 3) lv (.null :: st)) : mm_G p l e R s m args below meth c cells slots Q nL D ad q A M pc lv (v5 :: v4 :: v3 :: v2 :: v1 :: st) := r_callS5 C K cw hW hd hz hf (fun v u h => by obtain ⟨rfl, rfl⟩ := h; exact k)
theorem r_callV5N (C : mm_C p s m args c cc nL Ts own D ad q A) {y : MethodName} {bytes : ByteArray} {maxL ix : Nat} {ret : Option FieldType} {ws : List Cond} {rm : Room} {M' : mm_M}  {v1 v2 v3 v4 v5 : Value} {id : Nat} (ci : Nat) {fs : List Value} {x : vw_C} (hk : id < 66) (hc : vwCl[ci]? = some x) (he : mm_ct ad q M id = .inr (ci, fs)) (K : mm_Kd l D ad q A y ws rm (.ref (ad id) :: [v1, v2, v3, v4, v5]) M (some .null) M') (cw : CallW R s args own x.1 ix y bytes maxL ret ws rm rm.cells rm.slots 5) (hW : ((st : List Value).map fun v => v.category).sum ≤ 8) (hd : decode cc pc = .ok (.invokevirtual ix, 3)) (hz : rm.cells = 0 ∧ rm.slots = 0) (hf : cells ≤ R.cells ∧ slots ≤ R.slots) (k : mm_G p l e R s m args below meth c cells slots Q nL D ad q A M' (pc + 3) lv (.null :: st)) : mm_G p l e R s m args below meth c cells slots Q nL D ad q A M pc lv (v5 :: v4 :: v3 :: v2 :: v1 :: .ref (ad id) :: st) := r_callV5 C hk hc he K cw hW hd hz hf (fun v u h => by obtain ⟨rfl, rfl⟩ := h; exact k)
theorem r_callS5V (C : mm_C p s m args c cc nL Ts own D ad q A) {y : MethodName} {bytes : ByteArray} {maxL ix : Nat} {ret : Option FieldType} {ws : List Cond} {rm : Room} {M' : mm_M}  {v1 v2 v3 v4 v5 : Value} (K : mm_Kd l D ad q A y ws rm [v1, v2, v3, v4, v5] M none M') (cw : CallB R s args own ix y bytes maxL ret ws rm rm.cells rm.slots 5 ∧ (Cond.static y).before args s = true) (hW : ((st : List Value).map fun v => v.category).sum ≤ 8) (hd : decode cc pc = .ok (.invokestatic ix, 3)) (hz : rm.cells = 0 ∧ rm.slots = 0) (hf : cells ≤ R.cells ∧ slots ≤ R.slots) (k : mm_G p l e R s m args below meth c cells slots Q nL D ad q A M' (pc + 3) lv st) : mm_G p l e R s m args below meth c cells slots Q nL D ad q A M pc lv (v5 :: v4 :: v3 :: v2 :: v1 :: st) := r_callS5 C K cw hW hd hz hf (fun v u h => by obtain ⟨rfl, rfl⟩ := h; exact k)
theorem r_callV5V (C : mm_C p s m args c cc nL Ts own D ad q A) {y : MethodName} {bytes : ByteArray} {maxL ix : Nat} {ret : Option FieldType} {ws : List Cond} {rm : Room} {M' : mm_M}  {v1 v2 v3 v4 v5 : Value} {id : Nat} (ci : Nat) {fs : List Value} {x : vw_C} (hk : id < 66) (hc : vwCl[ci]? = some x) (he : mm_ct ad q M id = .inr (ci, fs)) (K : mm_Kd l D ad q A y ws rm (.ref (ad id) :: [v1, v2, v3, v4, v5]) M none M') (cw : CallW R s args own x.1 ix y bytes maxL ret ws rm rm.cells rm.slots 5) (hW : ((st : List Value).map fun v => v.category).sum ≤ 8) (hd : decode cc pc = .ok (.invokevirtual ix, 3)) (hz : rm.cells = 0 ∧ rm.slots = 0) (hf : cells ≤ R.cells ∧ slots ≤ R.slots) (k : mm_G p l e R s m args below meth c cells slots Q nL D ad q A M' (pc + 3) lv st) : mm_G p l e R s m args below meth c cells slots Q nL D ad q A M pc lv (v5 :: v4 :: v3 :: v2 :: v1 :: .ref (ad id) :: st) := r_callV5 C hk hc he K cw hW hd hz hf (fun v u h => by obtain ⟨rfl, rfl⟩ := h; exact k)
theorem mm_of {y : MethodName} {ws ws' : List Cond} {rm : Room} {maxL : Nat} {ret : Option FieldType} {av : List Value} {post : Option Value → mm_M → Prop} {own : String} (hown : y.cls = own) (hAD : mm_AD ad A) (hy : plainName y.cls = true) (hw : ws = Cond.code y cc maxL ret :: ws') (hfit : (lg_sl av).length ≤ maxL) (hz : rm.cells = 0 ∧ rm.slots = 0)
    (body : ∀ (p : Program) (e : Env) (s : State) (m : MethodId) (below : List Frame) (meth : Method) (c : Code), mm_C p s m av.toArray c cc maxL ws own D ad q A → meth.sig.returnType = ret → meth.locks = false → mm_G p l e rm s m av.toArray below meth c 0 0 (MQ below (mm_Q D ad q A post) av.toArray s 0 0 A) maxL D ad q A M 0 (lv_args 0 av) []) : mm_K l D ad q A y ws rm av M post := by
  refine Met.ofW (cc := cc) (maxL := maxL) (ret := ret) hy hw ?_
  intro p e s m args below meth c s₁ B hml hv
  obtain ⟨rfl, hP, hK⟩ := hv
  have hC : mm_C p s m av.toArray c cc maxL ws own D ad q A := ⟨⟨B.exec, B.bytes, hml, (by rw [← hown]; exact findClass_of_methodNamed B.named), atoms_spec (ws := ws) B.pre⟩, hK, hAD⟩
  have hG := body p e s m below meth c hC B.returns B.notSynchronized
  have hl := lv_entry av (n := maxL) hfit
  rw [lg_entry_eq]
  obtain ⟨h1, h2⟩ := hz
  rw [h1, h2]
  exact hG s.heap [] _ hP va_S.rf hl
end MR
end
section
theorem nm_fl {x y : Int} (hy : 0 < y) (hx : x < 0) : (x.tdiv y * y = x → x.tdiv y = x / y) ∧ (¬ x.tdiv y * y = x → x.tdiv y - 1 = x / y) := by
  by_cases hd : y ∣ x
  · have e : x.tdiv y = x / y := by rw [Int.tdiv_eq_ediv, if_pos (Or.inr hd), Int.add_zero]
    exact ⟨fun _ => e, fun h => absurd (Int.tdiv_mul_cancel hd) h⟩
  · have e : x.tdiv y = x / y + 1 := by
      rw [Int.tdiv_eq_ediv, if_neg (fun h => by rcases h with h | h; exact absurd h (by omega); exact hd h), Int.sign_eq_one_of_pos hy]
    exact ⟨fun h => absurd ⟨x.tdiv y, by rw [Int.mul_comm]; exact h.symm⟩ hd, fun _ => by omega⟩
theorem nm_flneg {x y : Int} (hy : 0 < y) (hx : x < 0) : x.tdiv y ≤ 0 := by
  have h1 := Int.ediv_neg_of_neg_of_pos hx hy
  rcases Classical.em (x.tdiv y * y = x) with h | h
  · have := (nm_fl hy hx).1 h; omega
  · have := (nm_fl hy hx).2 h; omega
theorem nm_flmul {x y : Int} (hy : 0 < y) (hx : x < 0) : x ≤ x.tdiv y * y ∧ x.tdiv y * y < x + y := by
  have h1 := Int.mul_ediv_add_emod x y
  have h2 := Int.emod_nonneg x (by omega : y ≠ 0)
  have h3 := Int.emod_lt_of_pos x hy
  rcases Classical.em (x.tdiv y * y = x) with h | h
  · omega
  · have h4 := (nm_fl hy hx).2 h
    have h5 : x.tdiv y * y = y * (x / y) + y := by rw [← h4, Int.mul_sub, Int.mul_one, Int.mul_comm]; omega
    have h6 : x % y ≠ 0 := fun z => h (by rw [h5]; exact absurd (Int.dvd_of_emod_eq_zero z) (fun hd => h (Int.tdiv_mul_cancel hd)))
    omega
def nm_fdI (x y : Int32) : Int32 := Int32.ofInt (x.toInt / y.toInt)
theorem nm_rngI (x : Int32) : -2147483648 ≤ x.toInt ∧ x.toInt < 2147483648 := ⟨x.le_toInt, x.toInt_lt⟩
theorem nm_ofI {z : Int} (h1 : -2147483648 ≤ z) (h2 : z < 2147483648) : (Int32.ofInt z).toInt = z := Int32.toInt_ofInt_of_le h1 h2
theorem nm_bmI {z : Int} (h1 : -2147483648 ≤ z) (h2 : z < 2147483648) : z.bmod (2 ^ 32) = z := Int.bmod_eq_of_le_mul_two (by omega) (by omega)
theorem nm_tdI {x y : Int32} (hy : 0 < y.toInt) : -2147483648 ≤ x.toInt.tdiv y.toInt ∧ x.toInt.tdiv y.toInt < 2147483648 := by
  have h1 := x.toInt_lt; have h2 := x.le_toInt; have h3 := Int.natAbs_tdiv_le_natAbs x.toInt y.toInt
  rcases Int.lt_or_le x.toInt 0 with h | h
  · have h4 := nm_flneg hy h; omega
  · omega
theorem nm_divI {x y : Int32} (hy : 0 < y.toInt) : (x / y).toInt = x.toInt.tdiv y.toInt := by
  rw [Int32.toInt_div]; exact nm_bmI (nm_tdI hy).1 (nm_tdI hy).2
theorem nm_mulI {x y : Int32} (hy : 0 < y.toInt) (hx : x.toInt < 0) : (x / y * y).toInt = x.toInt.tdiv y.toInt * y.toInt := by
  rw [Int32.toInt_mul, nm_divI hy]
  have h1 := nm_flmul hy hx; have h2 := x.le_toInt; have h3 := y.toInt_lt
  exact nm_bmI (by omega) (by omega)
theorem nm_xorI {x y : Int32} (hy : 0 < y.toInt) : (0 ≤ x ^^^ y) ↔ 0 ≤ x.toInt := by
  have e : (0 ≤ x ^^^ y) ↔ ¬ (x ^^^ y).toInt < 0 := by rw [Int32.le_iff_toInt_le]; simp
  have m1 : (x ^^^ y).toBitVec.msb = (x.toBitVec.msb ^^ y.toBitVec.msb) := by rw [Int32.toBitVec_xor, BitVec.msb_xor]
  have m2 : y.toBitVec.msb = false := by rw [BitVec.msb_eq_toInt]; exact decide_eq_false (by show ¬ y.toInt < 0; omega)
  rw [m2, Bool.xor_false, BitVec.msb_eq_toInt, BitVec.msb_eq_toInt] at m1
  have m3 : ((x ^^^ y).toInt < 0) ↔ (x.toInt < 0) := decide_eq_decide.mp m1
  rw [e, m3]; omega
theorem nm_fdnI {x y : Int32} (hy : 0 < y.toInt) (h : 0 ≤ x.toInt) : x / y = nm_fdI x y := by
  refine Int32.toInt_inj.mp ?_
  have h1 := nm_tdI (x := x) hy
  rw [nm_divI hy, Int.tdiv_eq_ediv_of_nonneg h] at *
  rw [nm_fdI, nm_ofI h1.1 h1.2]
theorem nm_fdmI {x y : Int32} (hy : 0 < y.toInt) (h : x.toInt < 0) (h2 : x / y * y = x) : x / y = nm_fdI x y := by
  refine Int32.toInt_inj.mp ?_
  have h1 := nm_tdI (x := x) hy
  have h3 := nm_mulI hy h
  rw [h2] at h3
  have h4 := (nm_fl hy h).1 h3.symm
  rw [nm_divI hy, h4, nm_fdI, nm_ofI (by omega) (by omega)]
theorem nm_fdkI {x y : Int32} (hy : 0 < y.toInt) (h : x.toInt < 0) (h2 : ¬ x / y * y = x) : x / y - 1 = nm_fdI x y := by
  have h3 := nm_mulI hy h
  have h4 := (nm_fl hy h).2 (fun z => h2 (Int32.toInt_inj.mp (by rw [h3, z])))
  rw [nm_fdI, ← h4, Int32.ofInt_sub, ← nm_divI hy, Int32.ofInt_toInt]; rfl
theorem nm_fdI_x1 {x y : Int32} (hy : 0 < y.toInt) (h : 0 ≤ x ^^^ y) : x / y = nm_fdI x y := nm_fdnI hy ((nm_xorI hy).mp h)
theorem nm_fdI_x2 {x y : Int32} (hy : 0 < y.toInt) (h : ¬ 0 ≤ x ^^^ y) (h2 : x / y * y = x) : x / y = nm_fdI x y := nm_fdmI hy (Int.not_le.mp fun z => h ((nm_xorI hy).mpr z)) h2
theorem nm_fdI_x3 {x y : Int32} (hy : 0 < y.toInt) (h : ¬ 0 ≤ x ^^^ y) (h2 : ¬ x / y * y = x) : x / y - 1 = nm_fdI x y := nm_fdkI hy (Int.not_le.mp fun z => h ((nm_xorI hy).mpr z)) h2
theorem nm_ne0I {y : Int32} (hy : 0 < y.toInt) : ¬ y = 0 := fun h => by rw [h] at hy; exact absurd hy (by decide)
def nm_fdJ (x y : Int64) : Int64 := Int64.ofInt (x.toInt / y.toInt)
theorem nm_rngJ (x : Int64) : -9223372036854775808 ≤ x.toInt ∧ x.toInt < 9223372036854775808 := ⟨x.le_toInt, x.toInt_lt⟩
theorem nm_ofJ {z : Int} (h1 : -9223372036854775808 ≤ z) (h2 : z < 9223372036854775808) : (Int64.ofInt z).toInt = z := Int64.toInt_ofInt_of_le h1 h2
theorem nm_bmJ {z : Int} (h1 : -9223372036854775808 ≤ z) (h2 : z < 9223372036854775808) : z.bmod (2 ^ 64) = z := Int.bmod_eq_of_le_mul_two (by omega) (by omega)
theorem nm_tdJ {x y : Int64} (hy : 0 < y.toInt) : -9223372036854775808 ≤ x.toInt.tdiv y.toInt ∧ x.toInt.tdiv y.toInt < 9223372036854775808 := by
  have h1 := x.toInt_lt; have h2 := x.le_toInt; have h3 := Int.natAbs_tdiv_le_natAbs x.toInt y.toInt
  rcases Int.lt_or_le x.toInt 0 with h | h
  · have h4 := nm_flneg hy h; omega
  · omega
theorem nm_divJ {x y : Int64} (hy : 0 < y.toInt) : (x / y).toInt = x.toInt.tdiv y.toInt := by
  rw [Int64.toInt_div]; exact nm_bmJ (nm_tdJ hy).1 (nm_tdJ hy).2
theorem nm_mulJ {x y : Int64} (hy : 0 < y.toInt) (hx : x.toInt < 0) : (x / y * y).toInt = x.toInt.tdiv y.toInt * y.toInt := by
  rw [Int64.toInt_mul, nm_divJ hy]
  have h1 := nm_flmul hy hx; have h2 := x.le_toInt; have h3 := y.toInt_lt
  exact nm_bmJ (by omega) (by omega)
theorem nm_xorJ {x y : Int64} (hy : 0 < y.toInt) : (0 ≤ x ^^^ y) ↔ 0 ≤ x.toInt := by
  have e : (0 ≤ x ^^^ y) ↔ ¬ (x ^^^ y).toInt < 0 := by rw [Int64.le_iff_toInt_le]; simp
  have m1 : (x ^^^ y).toBitVec.msb = (x.toBitVec.msb ^^ y.toBitVec.msb) := by rw [Int64.toBitVec_xor, BitVec.msb_xor]
  have m2 : y.toBitVec.msb = false := by rw [BitVec.msb_eq_toInt]; exact decide_eq_false (by show ¬ y.toInt < 0; omega)
  rw [m2, Bool.xor_false, BitVec.msb_eq_toInt, BitVec.msb_eq_toInt] at m1
  have m3 : ((x ^^^ y).toInt < 0) ↔ (x.toInt < 0) := decide_eq_decide.mp m1
  rw [e, m3]; omega
theorem nm_fdnJ {x y : Int64} (hy : 0 < y.toInt) (h : 0 ≤ x.toInt) : x / y = nm_fdJ x y := by
  refine Int64.toInt_inj.mp ?_
  have h1 := nm_tdJ (x := x) hy
  rw [nm_divJ hy, Int.tdiv_eq_ediv_of_nonneg h] at *
  rw [nm_fdJ, nm_ofJ h1.1 h1.2]
theorem nm_fdmJ {x y : Int64} (hy : 0 < y.toInt) (h : x.toInt < 0) (h2 : x / y * y = x) : x / y = nm_fdJ x y := by
  refine Int64.toInt_inj.mp ?_
  have h1 := nm_tdJ (x := x) hy
  have h3 := nm_mulJ hy h
  rw [h2] at h3
  have h4 := (nm_fl hy h).1 h3.symm
  rw [nm_divJ hy, h4, nm_fdJ, nm_ofJ (by omega) (by omega)]
theorem nm_fdkJ {x y : Int64} (hy : 0 < y.toInt) (h : x.toInt < 0) (h2 : ¬ x / y * y = x) : x / y - 1 = nm_fdJ x y := by
  have h3 := nm_mulJ hy h
  have h4 := (nm_fl hy h).2 (fun z => h2 (Int64.toInt_inj.mp (by rw [h3, z])))
  rw [nm_fdJ, ← h4, Int64.ofInt_sub, ← nm_divJ hy, Int64.ofInt_toInt]; rfl
theorem nm_fdJ_x1 {x y : Int64} (hy : 0 < y.toInt) (h : 0 ≤ x ^^^ y) : x / y = nm_fdJ x y := nm_fdnJ hy ((nm_xorJ hy).mp h)
theorem nm_fdJ_x2 {x y : Int64} (hy : 0 < y.toInt) (h : ¬ 0 ≤ x ^^^ y) (h2 : x / y * y = x) : x / y = nm_fdJ x y := nm_fdmJ hy (Int.not_le.mp fun z => h ((nm_xorJ hy).mpr z)) h2
theorem nm_fdJ_x3 {x y : Int64} (hy : 0 < y.toInt) (h : ¬ 0 ≤ x ^^^ y) (h2 : ¬ x / y * y = x) : x / y - 1 = nm_fdJ x y := nm_fdkJ hy (Int.not_le.mp fun z => h ((nm_xorJ hy).mpr z)) h2
theorem nm_ne0J {y : Int64} (hy : 0 < y.toInt) : ¬ y = 0 := fun h => by rw [h] at hy; exact absurd hy (by decide)
theorem lg_eq0 {x y : Int64} : lg_cmp x y = 0 ↔ x = y := by
  unfold lg_cmp
  by_cases h : y < x
  · rw [if_pos h]
    exact ⟨fun z => absurd z (by decide), fun z => absurd h (by rw [z]; exact fun k => absurd k (by rw [Int64.lt_iff_toInt_lt]; omega))⟩
  · rw [if_neg h]
    by_cases h2 : x = y
    · rw [if_pos h2]; exact ⟨fun _ => h2, fun _ => rfl⟩
    · rw [if_neg h2]; exact ⟨fun z => absurd z (by decide), fun z => absurd z h2⟩
theorem lg_lt0 {x y : Int64} : lg_cmp x y < 0 ↔ x < y := by
  have h := lg_cmp_ge x y
  have e1 : lg_cmp x y < 0 ↔ ¬ 0 ≤ lg_cmp x y := by rw [Int32.lt_iff_toInt_lt, Int32.le_iff_toInt_le]; omega
  have e2 : x < y ↔ ¬ y ≤ x := by rw [Int64.lt_iff_toInt_lt, Int64.le_iff_toInt_le]; omega
  rw [e1, e2, h]
theorem lg_gt0 {x y : Int64} : 0 < lg_cmp x y ↔ y < x := by
  have h := lg_cmp_le x y
  have e1 : 0 < lg_cmp x y ↔ ¬ lg_cmp x y ≤ 0 := by rw [Int32.lt_iff_toInt_lt, Int32.le_iff_toInt_le]; omega
  have e2 : y < x ↔ ¬ x ≤ y := by rw [Int64.lt_iff_toInt_lt, Int64.le_iff_toInt_le]; omega
  rw [e1, e2, h]
theorem mm_z01 {x : Int32} (h : x &&& 1 = x) : x = 0 ∨ x = 1 := by
  have e := pk_and x (m := 1) 1 (by decide)
  rw [h] at e
  rcases (by omega : x.toBitVec.toNat % 2 ^ 1 = 0 ∨ x.toBitVec.toNat % 2 ^ 1 = 1) with z | z <;> rw [z] at e
  · exact Or.inl e
  · exact Or.inr e
theorem mm_fz {x : Int32} (h : x &&& 1 = x) : fits .boolean (.int x) = true := by
  rcases mm_z01 h with rfl | rfl <;> rfl
theorem nm_fmA {x y : Int32} (hy : 0 < y.toInt) : x - x / y * y = Int32.ofInt (x.toInt - x.toInt.tdiv y.toInt * y.toInt) := by
  rw [Int32.ofInt_sub, Int32.ofInt_mul, ← nm_divI hy, Int32.ofInt_toInt, Int32.ofInt_toInt, Int32.ofInt_toInt]
def nm_fmI (x y : Int32) : Int32 := Int32.ofInt (x.toInt % y.toInt)
theorem nm_fm_x1 {x y : Int32} (hy : 0 < y.toInt) (h : 0 ≤ x.toInt) : x - x / y * y = nm_fmI x y := by
  rw [nm_fmA hy, nm_fmI, Int.tdiv_eq_ediv_of_nonneg h, Int.mul_comm]
  have h1 := Int.mul_ediv_add_emod x.toInt y.toInt
  exact congrArg Int32.ofInt (by omega)
theorem nm_fmr {x y : Int32} (hy : 0 < y.toInt) (h : x.toInt < 0) : (x - x / y * y = 0) ↔ x.toInt.tdiv y.toInt * y.toInt = x.toInt := by
  have h1 := nm_flmul hy h
  have h2 := y.toInt_lt
  rw [nm_fmA hy]
  constructor
  · intro z
    have z2 := congrArg Int32.toInt z
    rw [nm_ofI (by omega) (by omega), show (0 : Int32).toInt = 0 from rfl] at z2
    omega
  · intro z; rw [z, Int.sub_self]; rfl
theorem nm_fm_x2 {x y : Int32} (hy : 0 < y.toInt) (h : x.toInt < 0) (h2 : x - x / y * y = 0) : x - x / y * y = nm_fmI x y := by
  have z := (nm_fmr hy h).mp h2
  have e := (nm_fl hy h).1 z
  have h1 := Int.mul_ediv_add_emod x.toInt y.toInt
  rw [e, Int.mul_comm] at z
  rw [h2, nm_fmI, show x.toInt % y.toInt = 0 by omega]; rfl
theorem nm_fm_x3 {x y : Int32} (hy : 0 < y.toInt) (h : x.toInt < 0) (h2 : ¬ x - x / y * y = 0) : x - x / y * y + y = nm_fmI x y := by
  have e := (nm_fl hy h).2 (fun z => h2 ((nm_fmr hy h).mpr z))
  have h1 := Int.mul_ediv_add_emod x.toInt y.toInt
  have h5 : x.toInt.tdiv y.toInt * y.toInt = y.toInt * (x.toInt / y.toInt) + y.toInt := by rw [← e, Int.mul_sub, Int.mul_one, Int.mul_comm]; omega
  have h6 : x - x / y * y + y = Int32.ofInt (x.toInt - x.toInt.tdiv y.toInt * y.toInt + y.toInt) := by rw [Int32.ofInt_add, ← nm_fmA hy, Int32.ofInt_toInt]
  rw [h6, nm_fmI]
  exact congrArg Int32.ofInt (by omega)
theorem nm_xneg {x y : Int32} (hy : 0 < y.toInt) (h : ¬ 0 ≤ x ^^^ y) : x.toInt < 0 := Int.not_le.mp fun z => h ((nm_xorI hy).mpr z)
theorem nm_xpos {x y : Int32} (hy : 0 < y.toInt) (h : 0 ≤ x ^^^ y) : 0 ≤ x.toInt := (nm_xorI hy).mp h
theorem nm_0J {x : Int64} : (x < 0) ↔ x.toInt < 0 := Int64.lt_iff_toInt_lt
theorem nm_ge {n N : Nat} (h : n ≤ N) (hN : N < 2 ^ 31) (z : nI N ≤ nI n) : n = N := Nat.le_antisymm h ((nI_leI hN (by omega)).mp z)
theorem nm_lt {n N : Nat} (h : n < 2 ^ 31) (hN : N < 2 ^ 31) (z : ¬ nI N ≤ nI n) : n < N := Nat.not_le.mp fun k => z ((nI_leI hN h).mpr k)
theorem nm_nge {n N : Nat} (h : n < N) (hN : N < 2 ^ 31) : ¬ nI N ≤ nI n := nI_ge h hN
theorem nm_ix {x : Int32} (h : ¬ x < 0) : x.toInt = (x.toInt.toNat : Int) := by
  have : 0 ≤ x.toInt := Int.not_lt.mp fun k => h (Int32.lt_iff_toInt_lt.mpr k)
  omega
theorem nm_ixlt {x : Int32} {N : Nat} (h : ¬ x < 0) (hN : N < 2 ^ 31) (z : ¬ nI N ≤ x) : x.toInt.toNat < N := by
  have e := nm_ix h
  have h2 : ¬ (N : Int) ≤ x.toInt := fun k => z (Int32.le_iff_toInt_le.mpr (by rw [nI_toInt hN]; exact k))
  omega
def nm_sl (x : Int32) : Nat := x.toBitVec.toNat % 64
theorem nm_sl_lt {x : Int32} : nm_sl x < 64 := Nat.mod_lt _ (by decide)
theorem nm_sl_e {x : Int32} : x &&& 63 = nI (nm_sl x) := pk_and x (m := 63) 6 (by decide)
theorem nm_sl_i {x : Int32} : (x &&& 63).toInt = (nm_sl x : Int) := by
  have := nm_sl_lt (x := x)
  rw [nm_sl_e, nI_toInt (by omega)]
theorem nm_sl_nge {x : Int32} : ¬ nI 64 ≤ x &&& 63 := by rw [nm_sl_e]; exact nI_ge nm_sl_lt (by decide)
theorem nm_posJ {x : Int32} (h : ¬ x ≤ 0) : 0 < x.toInt64.toInt := by
  rw [Int32.toInt_toInt64]
  have : ¬ x.toInt ≤ 0 := fun k => h (Int32.le_iff_toInt_le.mpr k)
  omega
theorem nm_posI {x : Int32} (h : ¬ x ≤ 0) : 0 < x.toInt := by
  have : ¬ x.toInt ≤ 0 := fun k => h (Int32.le_iff_toInt_le.mpr k)
  omega
theorem nm_nI {n : Nat} : nI n = Int32.ofInt n := by
  refine Int32.toInt_inj.mp ?_
  rw [Int32.toInt_ofInt]
  show (Int32.ofNat n).toInt = _
  rw [Int32.toInt_ofNat']
end
section
abbrev rmJ9_floorDiv_7cf53 : Room := { frames := 0, cells := 0, slots := 0, locals := 0 }
set_option maxHeartbeats 4000000 in
set_option maxRecDepth 100000 in
theorem kJ9_floorDiv_7cf53 {l : Launch} {D : va_G} {ad : Nat → Nat} {q : Nat → ClassId} {A : Nat → Prop} (hAD : mm_AD ad A) {M : mm_M} {x y : Int32} (hy : 0 < y.toInt) : mm_Kd l D ad q A yJ9_floorDiv_7cf53 wsJ9_floorDiv_7cf53 rmJ9_floorDiv_7cf53 [.int x, .int y] M (some (.int (nm_fdI x y))) M := by
  refine mm_of (cc := cJ9_floorDiv_7cf53) (maxL := 3) (ret := some .int) (own := RJ9) rfl hAD (by decide) rfl (Nat.le_of_ble_eq_true rfl) ⟨rfl, rfl⟩ ?_
  intro p e s m below meth c C hr hlk
  show mm_G _ _ _ _ _ _ _ _ _ _ _ _ _ _ _ _ _ _ M 0 [(0, .int x), (1, .int y)] []
  refine r_iload_n C dJ9_floorDiv_7cf53_0 rfl 0 rfl ?_
  refine r_iload_n C dJ9_floorDiv_7cf53_1 rfl 1 rfl ?_
  refine r_idiv C dJ9_floorDiv_7cf53_2 (nm_ne0I hy) ?_
  refine r_topi (fun v2_3 ev2_3 => ?_)
  refine r_istore_n (lv' := [(2, .int v2_3), (0, .int x), (1, .int y)]) C dJ9_floorDiv_7cf53_3 rfl (by decide) rfl ?_
  refine r_iload_n C dJ9_floorDiv_7cf53_4 rfl 1 rfl ?_
  refine r_iload_n C dJ9_floorDiv_7cf53_5 rfl 2 rfl ?_
  refine r_ixor C dJ9_floorDiv_7cf53_6 ?_
  refine r_if_ge (tgt := 21) C dJ9_floorDiv_7cf53_7 (by decide) (fun z7 => ?_) (fun z7 => ?_)
  · refine r_iload_n C dJ9_floorDiv_7cf53_21 rfl 0 rfl ?_
    exact r_iret C hr hlk dJ9_floorDiv_7cf53_22 ⟨by rw [ev2_3]; first | rw [nm_fdI_x1 hy z7] | rw [nm_fdI_x2 hy z7 (by rw [← ev2_3]; exact z14)], rfl⟩
  · refine r_iload_n C dJ9_floorDiv_7cf53_10 rfl 0 rfl ?_
    refine r_iload_n C dJ9_floorDiv_7cf53_11 rfl 2 rfl ?_
    refine r_imul C dJ9_floorDiv_7cf53_12 ?_
    refine r_iload_n C dJ9_floorDiv_7cf53_13 rfl 1 rfl ?_
    refine r_icmp_eq (tgt := 21) C dJ9_floorDiv_7cf53_14 (by decide) (fun z14 => ?_) (fun z14 => ?_)
    · refine r_iload_n C dJ9_floorDiv_7cf53_21 rfl 0 rfl ?_
      exact r_iret C hr hlk dJ9_floorDiv_7cf53_22 ⟨by rw [ev2_3]; first | rw [nm_fdI_x1 hy z7] | rw [nm_fdI_x2 hy z7 (by rw [← ev2_3]; exact z14)], rfl⟩
    · refine r_iload_n C dJ9_floorDiv_7cf53_17 rfl 0 rfl ?_
      refine r_iconst (v := 1) C dJ9_floorDiv_7cf53_18 rfl ?_
      refine r_isub C dJ9_floorDiv_7cf53_19 ?_
      exact r_iret C hr hlk dJ9_floorDiv_7cf53_20 ⟨by rw [ev2_3, nm_fdI_x3 hy z7 (by rw [← ev2_3]; exact z14)], rfl⟩

abbrev rmJ9_floorMod_7cf53 : Room := { frames := 0, cells := 0, slots := 0, locals := 0 }
set_option maxHeartbeats 4000000 in
set_option maxRecDepth 100000 in
theorem kJ9_floorMod_7cf53 {l : Launch} {D : va_G} {ad : Nat → Nat} {q : Nat → ClassId} {A : Nat → Prop} (hAD : mm_AD ad A) {M : mm_M} {x y : Int32} (hy : 0 < y.toInt) : mm_Kd l D ad q A yJ9_floorMod_7cf53 wsJ9_floorMod_7cf53 rmJ9_floorMod_7cf53 [.int x, .int y] M (some (.int (nm_fmI x y))) M := by
  refine mm_of (cc := cJ9_floorMod_7cf53) (maxL := 3) (ret := some .int) (own := RJ9) rfl hAD (by decide) rfl (Nat.le_of_ble_eq_true rfl) ⟨rfl, rfl⟩ ?_
  intro p e s m below meth c C hr hlk
  show mm_G _ _ _ _ _ _ _ _ _ _ _ _ _ _ _ _ _ _ M 0 [(0, .int x), (1, .int y)] []
  refine r_iload_n C dJ9_floorMod_7cf53_0 rfl 0 rfl ?_
  refine r_iload_n C dJ9_floorMod_7cf53_1 rfl 1 rfl ?_
  refine r_irem C dJ9_floorMod_7cf53_2 (nm_ne0I hy) ?_
  refine r_topi (fun v2_3 ev2_3 => ?_)
  refine r_istore_n (lv' := [(2, .int v2_3), (0, .int x), (1, .int y)]) C dJ9_floorMod_7cf53_3 rfl (by decide) rfl ?_
  refine r_iload_n C dJ9_floorMod_7cf53_4 rfl 1 rfl ?_
  refine r_iload_n C dJ9_floorMod_7cf53_5 rfl 2 rfl ?_
  refine r_ixor C dJ9_floorMod_7cf53_6 ?_
  refine r_if_ge (tgt := 18) C dJ9_floorMod_7cf53_7 (by decide) (fun z7 => ?_) (fun z7 => ?_)
  · refine r_iload_n C dJ9_floorMod_7cf53_18 rfl 0 rfl ?_
    exact r_iret C hr hlk dJ9_floorMod_7cf53_19 ⟨by first | rw [ev2_3, nm_fm_x1 hy (nm_xpos hy z7)] | rw [ev2_3, nm_fm_x2 hy (nm_xneg hy z7) (by rw [← ev2_3]; exact z11)], rfl⟩
  · refine r_iload_n C dJ9_floorMod_7cf53_10 rfl 0 rfl ?_
    refine r_if_eq (tgt := 18) C dJ9_floorMod_7cf53_11 (by decide) (fun z11 => ?_) (fun z11 => ?_)
    · refine r_iload_n C dJ9_floorMod_7cf53_18 rfl 0 rfl ?_
      exact r_iret C hr hlk dJ9_floorMod_7cf53_19 ⟨by first | rw [ev2_3, nm_fm_x1 hy (nm_xpos hy z7)] | rw [ev2_3, nm_fm_x2 hy (nm_xneg hy z7) (by rw [← ev2_3]; exact z11)], rfl⟩
    · refine r_iload_n C dJ9_floorMod_7cf53_14 rfl 0 rfl ?_
      refine r_iload_n C dJ9_floorMod_7cf53_15 rfl 2 rfl ?_
      refine r_iadd C dJ9_floorMod_7cf53_16 ?_
      exact r_iret C hr hlk dJ9_floorMod_7cf53_17 ⟨by rw [ev2_3, nm_fm_x3 hy (nm_xneg hy z7) (by rw [← ev2_3]; exact z11)], rfl⟩

abbrev rmJ9_floorDiv_f86c9 : Room := { frames := 0, cells := 0, slots := 0, locals := 0 }
set_option maxHeartbeats 4000000 in
set_option maxRecDepth 100000 in
theorem kJ9_floorDiv_f86c9 {l : Launch} {D : va_G} {ad : Nat → Nat} {q : Nat → ClassId} {A : Nat → Prop} (hAD : mm_AD ad A) {M : mm_M} {x y : Int64} (hy : 0 < y.toInt) : mm_Kd l D ad q A yJ9_floorDiv_f86c9 wsJ9_floorDiv_f86c9 rmJ9_floorDiv_f86c9 [.long x, .long y] M (some (.long (nm_fdJ x y))) M := by
  refine mm_of (cc := cJ9_floorDiv_f86c9) (maxL := 6) (ret := some .long) (own := RJ9) rfl hAD (by decide) rfl (Nat.le_of_ble_eq_true rfl) ⟨rfl, rfl⟩ ?_
  intro p e s m below meth c C hr hlk
  show mm_G _ _ _ _ _ _ _ _ _ _ _ _ _ _ _ _ _ _ M 0 [(0, .long x), (2, .long y)] []
  refine r_lload_n C dJ9_floorDiv_f86c9_0 rfl 0 rfl ?_
  refine r_lload_n C dJ9_floorDiv_f86c9_1 rfl 1 rfl ?_
  refine r_ldiv C dJ9_floorDiv_f86c9_2 (nm_ne0J hy) ?_
  refine r_topl (fun v4_3 ev4_3 => ?_)
  refine r_lstore (lv' := [(4, .long v4_3), (0, .long x), (2, .long y)]) C dJ9_floorDiv_f86c9_3 (by decide) rfl ?_
  refine r_lload_n C dJ9_floorDiv_f86c9_5 rfl 1 rfl ?_
  refine r_lload_n C dJ9_floorDiv_f86c9_6 rfl 2 rfl ?_
  refine r_lxor C dJ9_floorDiv_f86c9_7 ?_
  refine r_lconst (v := 0) C dJ9_floorDiv_f86c9_8 rfl ?_
  refine r_lcmp C dJ9_floorDiv_f86c9_9 ?_
  refine r_if_ge (tgt := 27) C dJ9_floorDiv_f86c9_10 (by decide) (fun z10 => ?_) (fun z10 => ?_)
  · refine r_lload C dJ9_floorDiv_f86c9_27 0 rfl ?_
    exact r_lret C hr hlk dJ9_floorDiv_f86c9_29 ⟨by first | rw [ev4_3, nm_fdJ_x1 hy ((lg_cmp_ge _ _).mp z10)] | rw [ev4_3, nm_fdJ_x2 hy (fun z => z10 ((lg_cmp_ge _ _).mpr z)) (by rw [← ev4_3]; exact lg_eq0.mp z19)], rfl⟩
  · refine r_lload C dJ9_floorDiv_f86c9_13 0 rfl ?_
    refine r_lload_n C dJ9_floorDiv_f86c9_15 rfl 2 rfl ?_
    refine r_lmul C dJ9_floorDiv_f86c9_16 ?_
    refine r_lload_n C dJ9_floorDiv_f86c9_17 rfl 1 rfl ?_
    refine r_lcmp C dJ9_floorDiv_f86c9_18 ?_
    refine r_if_eq (tgt := 27) C dJ9_floorDiv_f86c9_19 (by decide) (fun z19 => ?_) (fun z19 => ?_)
    · refine r_lload C dJ9_floorDiv_f86c9_27 0 rfl ?_
      exact r_lret C hr hlk dJ9_floorDiv_f86c9_29 ⟨by first | rw [ev4_3, nm_fdJ_x1 hy ((lg_cmp_ge _ _).mp z10)] | rw [ev4_3, nm_fdJ_x2 hy (fun z => z10 ((lg_cmp_ge _ _).mpr z)) (by rw [← ev4_3]; exact lg_eq0.mp z19)], rfl⟩
    · refine r_lload C dJ9_floorDiv_f86c9_22 0 rfl ?_
      refine r_lconst (v := 1) C dJ9_floorDiv_f86c9_24 rfl ?_
      refine r_lsub C dJ9_floorDiv_f86c9_25 ?_
      exact r_lret C hr hlk dJ9_floorDiv_f86c9_26 ⟨by rw [ev4_3, nm_fdJ_x3 hy (fun z => z10 ((lg_cmp_ge _ _).mpr z)) (fun z => z19 (lg_eq0.mpr (by rw [ev4_3]; exact z)))], rfl⟩

abbrev rmJ9_max_f86c9 : Room := { frames := 0, cells := 0, slots := 0, locals := 0 }
set_option maxHeartbeats 4000000 in
set_option maxRecDepth 100000 in
theorem kJ9_max_f86c9 {l : Launch} {D : va_G} {ad : Nat → Nat} {q : Nat → ClassId} {A : Nat → Prop} (hAD : mm_AD ad A) {M : mm_M} {x y : Int64} : mm_Kd l D ad q A yJ9_max_f86c9 wsJ9_max_f86c9 rmJ9_max_f86c9 [.long x, .long y] M (some (.long (if x < y then y else x))) M := by
  refine mm_of (cc := cJ9_max_f86c9) (maxL := 4) (ret := some .long) (own := RJ9) rfl hAD (by decide) rfl (Nat.le_of_ble_eq_true rfl) ⟨rfl, rfl⟩ ?_
  intro p e s m below meth c C hr hlk
  show mm_G _ _ _ _ _ _ _ _ _ _ _ _ _ _ _ _ _ _ M 0 [(0, .long x), (2, .long y)] []
  refine r_lload_n C dJ9_max_f86c9_0 rfl 0 rfl ?_
  refine r_lload_n C dJ9_max_f86c9_1 rfl 1 rfl ?_
  refine r_lcmp C dJ9_max_f86c9_2 ?_
  refine r_if_lt (tgt := 10) C dJ9_max_f86c9_3 (by decide) (fun z3 => ?_) (fun z3 => ?_)
  · refine r_lload_n C dJ9_max_f86c9_10 rfl 1 rfl ?_
    exact r_lret C hr hlk dJ9_max_f86c9_11 ⟨by first | rw [if_pos (lg_lt0.mp z3)] | rw [if_neg (fun z => z3 (lg_lt0.mpr z))], rfl⟩
  · refine r_lload_n C dJ9_max_f86c9_6 rfl 0 rfl ?_
    refine r_goto (tgt := 11) C dJ9_max_f86c9_7 (by decide) ?_
    exact r_lret C hr hlk dJ9_max_f86c9_11 ⟨by first | rw [if_pos (lg_lt0.mp z3)] | rw [if_neg (fun z => z3 (lg_lt0.mpr z))], rfl⟩

abbrev rmJ9_min_f86c9 : Room := { frames := 0, cells := 0, slots := 0, locals := 0 }
set_option maxHeartbeats 4000000 in
set_option maxRecDepth 100000 in
theorem kJ9_min_f86c9 {l : Launch} {D : va_G} {ad : Nat → Nat} {q : Nat → ClassId} {A : Nat → Prop} (hAD : mm_AD ad A) {M : mm_M} {x y : Int64} : mm_Kd l D ad q A yJ9_min_f86c9 wsJ9_min_f86c9 rmJ9_min_f86c9 [.long x, .long y] M (some (.long (if y < x then y else x))) M := by
  refine mm_of (cc := cJ9_min_f86c9) (maxL := 4) (ret := some .long) (own := RJ9) rfl hAD (by decide) rfl (Nat.le_of_ble_eq_true rfl) ⟨rfl, rfl⟩ ?_
  intro p e s m below meth c C hr hlk
  show mm_G _ _ _ _ _ _ _ _ _ _ _ _ _ _ _ _ _ _ M 0 [(0, .long x), (2, .long y)] []
  refine r_lload_n C dJ9_min_f86c9_0 rfl 0 rfl ?_
  refine r_lload_n C dJ9_min_f86c9_1 rfl 1 rfl ?_
  refine r_lcmp C dJ9_min_f86c9_2 ?_
  refine r_if_gt (tgt := 10) C dJ9_min_f86c9_3 (by decide) (fun z3 => ?_) (fun z3 => ?_)
  · refine r_lload_n C dJ9_min_f86c9_10 rfl 1 rfl ?_
    exact r_lret C hr hlk dJ9_min_f86c9_11 ⟨by first | rw [if_pos (lg_gt0.mp z3)] | rw [if_neg (fun z => z3 (lg_gt0.mpr z))], rfl⟩
  · refine r_lload_n C dJ9_min_f86c9_6 rfl 0 rfl ?_
    refine r_goto (tgt := 11) C dJ9_min_f86c9_7 (by decide) ?_
    exact r_lret C hr hlk dJ9_min_f86c9_11 ⟨by first | rw [if_pos (lg_gt0.mp z3)] | rw [if_neg (fun z => z3 (lg_gt0.mpr z))], rfl⟩

abbrev rmJ9_min_7cf53 : Room := { frames := 0, cells := 0, slots := 0, locals := 0 }
set_option maxHeartbeats 4000000 in
set_option maxRecDepth 100000 in
theorem kJ9_min_7cf53 {l : Launch} {D : va_G} {ad : Nat → Nat} {q : Nat → ClassId} {A : Nat → Prop} (hAD : mm_AD ad A) {M : mm_M} {x y : Int32} : mm_Kd l D ad q A yJ9_min_7cf53 wsJ9_min_7cf53 rmJ9_min_7cf53 [.int x, .int y] M (some (.int (if y < x then y else x))) M := by
  refine mm_of (cc := cJ9_min_7cf53) (maxL := 2) (ret := some .int) (own := RJ9) rfl hAD (by decide) rfl (Nat.le_of_ble_eq_true rfl) ⟨rfl, rfl⟩ ?_
  intro p e s m below meth c C hr hlk
  show mm_G _ _ _ _ _ _ _ _ _ _ _ _ _ _ _ _ _ _ M 0 [(0, .int x), (1, .int y)] []
  refine r_iload_n C dJ9_min_7cf53_0 rfl 0 rfl ?_
  refine r_iload_n C dJ9_min_7cf53_1 rfl 1 rfl ?_
  refine r_icmp_gt (tgt := 9) C dJ9_min_7cf53_2 (by decide) (fun z2 => ?_) (fun z2 => ?_)
  · refine r_iload_n C dJ9_min_7cf53_9 rfl 1 rfl ?_
    exact r_iret C hr hlk dJ9_min_7cf53_10 ⟨by simp [*], by first | rfl | (subst_vars; rfl)⟩
  · refine r_iload_n C dJ9_min_7cf53_5 rfl 0 rfl ?_
    refine r_goto (tgt := 10) C dJ9_min_7cf53_6 (by decide) ?_
    exact r_iret C hr hlk dJ9_min_7cf53_10 ⟨by simp [*], by first | rfl | (subst_vars; rfl)⟩

def mc_fill (M : mm_M) (x : Int64) (n : Nat) : mm_M := (M.1, fun a c => if a = 4 ∧ c < n then x else M.2 a c)
abbrev rmJ7_fill_d0a16 : Room := { frames := 0, cells := 0, slots := 0, locals := 0 }
set_option maxHeartbeats 4000000 in
set_option maxRecDepth 100000 in
theorem kJ7_fill_d0a16 {l : Launch} {D : va_G} {ad : Nat → Nat} {q : Nat → ClassId} {A : Nat → Prop} (hAD : mm_AD ad A) {M : mm_M} {x : Int64} : mm_Kd l D ad q A yJ7_fill_d0a16 wsJ7_fill_d0a16 rmJ7_fill_d0a16 [.ref (ad 4), .long x] M none (mc_fill M x 32) := by
  refine mm_of (cc := cJ7_fill_d0a16) (maxL := 5) (ret := none) (own := RJ7) rfl hAD (by decide) rfl (Nat.le_of_ble_eq_true rfl) ⟨rfl, rfl⟩ ?_
  intro p e s m below meth c C hr hlk
  show mm_G _ _ _ _ _ _ _ _ _ _ _ _ _ _ _ _ _ _ M 0 [(0, .ref (ad 4)), (1, .long x)] []
  refine r_iconst (v := 0) C dJ7_fill_d0a16_0 rfl ?_
  refine r_istore_n (lv' := [(3, .int 0), (0, .ref (ad 4)), (1, .long x)]) C dJ7_fill_d0a16_1 rfl (by decide) rfl ?_
  refine r_aload_n C dJ7_fill_d0a16_2 rfl 1 rfl ?_
  refine r_alenJ C mm_aJ_4 dJ7_fill_d0a16_3 ?_
  refine r_topi (fun v4_4 ev4_4 => ?_)
  refine r_istore (lv' := [(4, .int v4_4), (3, .int 0), (0, .ref (ad 4)), (1, .long x)]) C dJ7_fill_d0a16_4 (by decide) rfl ?_
  have L6 : ∀ (k9 : Nat) (n : Nat) (hn : n ≤ 32), 32 - n < k9 → mm_G p l e rmJ7_fill_d0a16 s m ([.ref (ad 4), .long x] : List Value).toArray below meth c 0 0 (MQ below (mm_Q D ad q A (fun v' u => v' = none ∧ u = mc_fill M x 32)) ([.ref (ad 4), .long x] : List Value).toArray s 0 0 A) 5 D ad q A (mc_fill M x n) 6 [(3, .int (nI n)), (4, .int (nI 32)), (0, .ref (ad 4)), (1, .long x)] [] := by
    intro k9
    induction k9 with
    | zero => intro n hn h9; exact absurd h9 (Nat.not_lt_zero _)
    | succ k9 ih6 =>
      intro n hn h9
      refine r_iload_n C dJ7_fill_d0a16_6 rfl 0 rfl ?_
      refine r_iload C dJ7_fill_d0a16_7 1 rfl ?_
      refine r_icmp_ge (tgt := 22) C dJ7_fill_d0a16_9 (by decide) (fun z9 => ?_) (fun z9 => ?_)
      · obtain rfl : n = 32 := nm_ge hn (by decide) z9
        exact r_vret C hr hlk dJ7_fill_d0a16_22 ⟨by first | rfl | (subst_vars; rfl) | (subst_vars; simp [*]), by first | rfl | (subst_vars; rfl)⟩
      · have hlt : n < 32 := nm_lt (by omega) (by decide) z9
        refine r_aload_n C dJ7_fill_d0a16_12 rfl 2 rfl ?_
        refine r_iload_n C dJ7_fill_d0a16_13 rfl 0 rfl ?_
        refine r_lload_n C dJ7_fill_d0a16_14 rfl 3 rfl ?_
        refine r_last C mm_aJ_4 (n) (nI_toInt (by omega)) (hlt) dJ7_fill_d0a16_15 ?_
        obtain ⟨v3_16, ev3_16⟩ : ∃ y : Int32, y = (nI n) + 1 := ⟨_, rfl⟩
        refine r_iinc (v := v3_16) (lv' := [(3, .int v3_16), (4, .int (nI 32)), (0, .ref (ad 4)), (1, .long x)]) C dJ7_fill_d0a16_16 0 rfl (by rw [ev3_16]; rfl) (by decide) rfl ?_
        refine r_goto (tgt := 6) C dJ7_fill_d0a16_19 (by decide) ?_
        refine r_cast (mm_ext (fun _ _ => rfl) (fun a b => by simp only [mm_sL_2, mc_fill]; split <;> split <;> first | rfl | (exfalso; omega))) (by rw [ev3_16, nI_1]) rfl (ih6 (n + 1) (by omega) (by omega))
  refine r_sub (lv' := [(3, .int 0), (4, .int v4_4), (0, .ref (ad 4)), (1, .long x)]) [1, 0, 2, 3] rfl ?_
  refine r_cast (mm_ext (fun _ _ => rfl) (fun a b => by simp [mc_fill])) (by rw [ev4_4]; rfl) rfl (L6 _ 33 0 (by omega) (by omega))

abbrev rmX3_slotOf : Room := { frames := 0, cells := 0, slots := 0, locals := 0 }
set_option maxHeartbeats 4000000 in
set_option maxRecDepth 100000 in
theorem kX3_slotOf {l : Launch} {D : va_G} {ad : Nat → Nat} {q : Nat → ClassId} {A : Nat → Prop} (hAD : mm_AD ad A) {M : mm_M} {x : Int32} : mm_Kd l D ad q A yX3_slotOf wsX3_slotOf rmX3_slotOf [.int x] M (some (.int (x &&& 63))) M := by
  refine mm_of (cc := cX3_slotOf) (maxL := 1) (ret := some .int) (own := RX3) rfl hAD (by decide) rfl (Nat.le_of_ble_eq_true rfl) ⟨rfl, rfl⟩ ?_
  intro p e s m below meth c C hr hlk
  show mm_G _ _ _ _ _ _ _ _ _ _ _ _ _ _ _ _ _ _ M 0 [(0, .int x)] []
  refine r_iload_n C dX3_slotOf_0 rfl 0 rfl ?_
  refine r_bipush (v := (63)) C dX3_slotOf_1 rfl ?_
  refine r_iand C dX3_slotOf_3 ?_
  exact r_iret C hr hlk dX3_slotOf_4 ⟨by first | rfl | (subst_vars; rfl) | (subst_vars; simp [*]), by first | rfl | (subst_vars; rfl)⟩

abbrev rmX3_beginAt : Room := { frames := 0, cells := 0, slots := 0, locals := 0 }
set_option maxHeartbeats 4000000 in
set_option maxRecDepth 100000 in
theorem kX3_beginAt {l : Launch} {D : va_G} {ad : Nat → Nat} {q : Nat → ClassId} {A : Nat → Prop} (hAD : mm_AD ad A) {i : Nat} (hi : i < 8) {M : mm_M} {x : Int32} : mm_Kd l D ad q A yX3_beginAt wsX3_beginAt rmX3_beginAt [.ref (ad (18 + i)), .int x] M none (mm_sI (mm_sI M (18 + i) 1 x) (18 + i) 2 x) := by
  have inX3 : ∀ w ∈ wsX30, w ∈ wsX3_beginAt := by decide +kernel
  have f15 : Cond.fieldLink RX3 15 "Beamrow$Tape" "begin" "I" ∈ wsX3_beginAt := by decide +kernel
  have f19 : Cond.fieldLink RX3 19 "Beamrow$Tape" "end" "I" ∈ wsX3_beginAt := by decide +kernel
  refine mm_of (cc := cX3_beginAt) (maxL := 2) (ret := none) (own := RX3) rfl hAD (by decide) rfl (Nat.le_of_ble_eq_true rfl) ⟨rfl, rfl⟩ ?_
  intro p e s m below meth c C hr hlk
  show mm_G _ _ _ _ _ _ _ _ _ _ _ _ _ _ _ _ _ _ M 0 [(0, .ref (ad (18 + i))), (1, .int x)] []
  refine r_aload_n C dX3_beginAt_0 rfl 0 rfl ?_
  refine r_iload_n C dX3_beginAt_1 rfl 1 rfl ?_
  refine r_put3 C hi inX3 (ty := .int) 1 (by decide) mm_set3_1 f15 rfl rfl (by decide +kernel) rfl rfl dX3_beginAt_2 ?_
  refine r_aload_n C dX3_beginAt_5 rfl 0 rfl ?_
  refine r_iload_n C dX3_beginAt_6 rfl 1 rfl ?_
  refine r_put3 C hi inX3 (ty := .int) 2 (by decide) mm_set3_2 f19 rfl rfl (by decide +kernel) rfl rfl dX3_beginAt_7 ?_
  exact r_vret C hr hlk dX3_beginAt_10 ⟨by first | rfl | (subst_vars; rfl) | (subst_vars; simp [*]), by first | rfl | (subst_vars; rfl)⟩

def mc_keeps (M : mm_M) (i : Nat) (x : Int32) : Int32 := if x < 0 then 0 else if 64 ≤ x then 0 else if M.1 (18 + i) 2 - 64 + x < M.1 (18 + i) 1 then 0 else 1
abbrev rmX3_keeps : Room := { frames := 0, cells := 0, slots := 0, locals := 0 }
set_option maxHeartbeats 4000000 in
set_option maxRecDepth 100000 in
theorem kX3_keeps {l : Launch} {D : va_G} {ad : Nat → Nat} {q : Nat → ClassId} {A : Nat → Prop} (hAD : mm_AD ad A) {i : Nat} (hi : i < 8) {M : mm_M} {x : Int32} : mm_Kd l D ad q A yX3_keeps wsX3_keeps rmX3_keeps [.ref (ad (18 + i)), .int x] M (some (.int (mc_keeps M i x))) M := by
  have inX3 : ∀ w ∈ wsX30, w ∈ wsX3_keeps := by decide +kernel
  have f15 : Cond.fieldLink RX3 15 "Beamrow$Tape" "begin" "I" ∈ wsX3_keeps := by decide +kernel
  have f19 : Cond.fieldLink RX3 19 "Beamrow$Tape" "end" "I" ∈ wsX3_keeps := by decide +kernel
  refine mm_of (cc := cX3_keeps) (maxL := 2) (ret := some .boolean) (own := RX3) rfl hAD (by decide) rfl (Nat.le_of_ble_eq_true rfl) ⟨rfl, rfl⟩ ?_
  intro p e s m below meth c C hr hlk
  show mm_G _ _ _ _ _ _ _ _ _ _ _ _ _ _ _ _ _ _ M 0 [(0, .ref (ad (18 + i))), (1, .int x)] []
  refine r_iload_n C dX3_keeps_0 rfl 1 rfl ?_
  refine r_if_lt (tgt := 30) C dX3_keeps_1 (by decide) (fun z1 => ?_) (fun z1 => ?_)
  · refine r_iconst (v := 0) C dX3_keeps_30 rfl ?_
    exact r_zret C hr (by first | decide | assumption) hlk dX3_keeps_31 ⟨by simp only [mc_keeps]; simp [*], by first | rfl | (subst_vars; rfl)⟩
  · refine r_iload_n C dX3_keeps_4 rfl 1 rfl ?_
    refine r_bipush (v := (64)) C dX3_keeps_5 rfl ?_
    refine r_icmp_ge (tgt := 30) C dX3_keeps_7 (by decide) (fun z7 => ?_) (fun z7 => ?_)
    · refine r_iconst (v := 0) C dX3_keeps_30 rfl ?_
      exact r_zret C hr (by first | decide | assumption) hlk dX3_keeps_31 ⟨by simp only [mc_keeps]; simp [*], by first | rfl | (subst_vars; rfl)⟩
    · refine r_aload_n C dX3_keeps_10 rfl 0 rfl ?_
      refine r_get3 C hi inX3 2 (by decide) rfl f19 rfl dX3_keeps_11 ?_
      refine r_bipush (v := (64)) C dX3_keeps_14 rfl ?_
      refine r_isub C dX3_keeps_16 ?_
      refine r_iload_n C dX3_keeps_17 rfl 1 rfl ?_
      refine r_iadd C dX3_keeps_18 ?_
      refine r_aload_n C dX3_keeps_19 rfl 0 rfl ?_
      refine r_get3 C hi inX3 1 (by decide) rfl f15 rfl dX3_keeps_20 ?_
      refine r_icmp_lt (tgt := 30) C dX3_keeps_23 (by decide) (fun z23 => ?_) (fun z23 => ?_)
      · refine r_iconst (v := 0) C dX3_keeps_30 rfl ?_
        exact r_zret C hr (by first | decide | assumption) hlk dX3_keeps_31 ⟨by simp only [mc_keeps]; simp [*], by first | rfl | (subst_vars; rfl)⟩
      · refine r_iconst (v := 1) C dX3_keeps_26 rfl ?_
        refine r_goto (tgt := 31) C dX3_keeps_27 (by decide) ?_
        exact r_zret C hr (by first | decide | assumption) hlk dX3_keeps_31 ⟨by simp only [mc_keeps]; simp [*], by first | rfl | (subst_vars; rfl)⟩

def mc_at (M : mm_M) (i : Nat) (x : Int32) : Int32 := if mc_keeps M i x = 0 then 0 else M.1 (26 + i) (nm_sl (M.1 (18 + i) 2 - 64 + x))
abbrev rmX3_at : Room := { frames := 1, cells := 0, slots := 0, locals := 21 }
set_option maxHeartbeats 4000000 in
set_option maxRecDepth 100000 in
theorem kX3_at {l : Launch} {D : va_G} {ad : Nat → Nat} {q : Nat → ClassId} {A : Nat → Prop} (hAD : mm_AD ad A) {i : Nat} (hi : i < 8) {M : mm_M} {x : Int32} : mm_Kd l D ad q A yX3_at wsX3_at rmX3_at [.ref (ad (18 + i)), .int x] M (some (.int (mc_at M i x))) M := by
  have inX3 : ∀ w ∈ wsX30, w ∈ wsX3_at := by decide +kernel
  have f9 : Cond.fieldLink RX3 9 "Beamrow$Tape" "slots" "[I" ∈ wsX3_at := by decide +kernel
  have f19 : Cond.fieldLink RX3 19 "Beamrow$Tape" "end" "I" ∈ wsX3_at := by decide +kernel
  refine mm_of (cc := cX3_at) (maxL := 3) (ret := some .int) (own := RX3) rfl hAD (by decide) rfl (Nat.le_of_ble_eq_true rfl) ⟨rfl, rfl⟩ ?_
  intro p e s m below meth c C hr hlk
  show mm_G _ _ _ _ _ _ _ _ _ _ _ _ _ _ _ _ _ _ M 0 [(0, .ref (ad (18 + i))), (1, .int x)] []
  refine r_aload_n C dX3_at_0 rfl 0 rfl ?_
  refine r_get3 C hi inX3 2 (by decide) rfl f19 rfl dX3_at_1 ?_
  refine r_bipush (v := (64)) C dX3_at_4 rfl ?_
  refine r_isub C dX3_at_6 ?_
  refine r_iload_n C dX3_at_7 rfl 1 rfl ?_
  refine r_iadd C dX3_at_8 ?_
  refine r_callS1I C (kX3_slotOf hAD) (va_cwS 1 C.1.2.2.2.2 gX3_at_X3_slotOf rfl rfl rfl (by decide +kernel) ⟨Nat.le_of_ble_eq_true rfl, Nat.le_of_ble_eq_true rfl⟩) (Nat.le_of_ble_eq_true rfl) dX3_at_9 ⟨rfl, rfl⟩ ⟨Nat.zero_le _, Nat.zero_le _⟩ ?_
  refine r_topi (fun v2_12 ev2_12 => ?_)
  refine r_istore_n (lv' := [(2, .int v2_12), (0, .ref (ad (18 + i))), (1, .int x)]) C dX3_at_12 rfl (by decide) rfl ?_
  refine r_aload_n C dX3_at_13 rfl 1 rfl ?_
  refine r_iload_n C dX3_at_14 rfl 2 rfl ?_
  refine r_callV1I C 3 (by have := hi; omega) rfl (mm_ct3 ad q _ hi) (kX3_keeps hAD hi) (cwV 1 C.1.2.2.2.2 gX3_at_X3_keeps rfl rfl rfl (by decide +kernel) ⟨Nat.le_of_ble_eq_true rfl, Nat.le_of_ble_eq_true rfl⟩) (Nat.le_of_ble_eq_true rfl) dX3_at_15 ⟨rfl, rfl⟩ ⟨Nat.zero_le _, Nat.zero_le _⟩ ?_
  refine r_if_eq (tgt := 39) C dX3_at_18 (by decide) (fun z18 => ?_) (fun z18 => ?_)
  · refine r_iconst (v := 0) C dX3_at_39 rfl ?_
    exact r_iret C hr hlk dX3_at_40 ⟨by simp only [mc_at]; simp [*], by first | rfl | (subst_vars; rfl)⟩
  · refine r_iload_n C dX3_at_21 rfl 0 rfl ?_
    refine r_aload_n C dX3_at_22 rfl 1 rfl ?_
    refine r_get3 C hi inX3 0 (by decide) rfl f9 rfl dX3_at_23 ?_
    refine r_alenI C (mm_aI_slots hi) dX3_at_26 ?_
    refine r_icmp_geF (tgt := 39) C dX3_at_27 (by decide) (by rw [ev2_12]; exact nm_sl_nge) ?_
    refine r_aload_n C dX3_at_30 rfl 1 rfl ?_
    refine r_get3 C hi inX3 0 (by decide) rfl f9 rfl dX3_at_31 ?_
    refine r_iload_n C dX3_at_34 rfl 0 rfl ?_
    refine r_iald C (mm_aI_slots hi) (nm_sl (M.1 (18 + i) 2 - 64 + x)) (by rw [ev2_12]; exact nm_sl_i) (nm_sl_lt) dX3_at_35 ?_
    refine r_goto (tgt := 40) C dX3_at_36 (by decide) ?_
    exact r_iret C hr hlk dX3_at_40 ⟨by simp only [mc_at]; simp [*], by first | rfl | (subst_vars; rfl)⟩

def mc_add (M : mm_M) (i : Nat) (x : Int32) : mm_M := mm_sI (mm_sI M (26 + i) (nm_sl (M.1 (18 + i) 2)) x) (18 + i) 2 ((mm_sI M (26 + i) (nm_sl (M.1 (18 + i) 2)) x).1 (18 + i) 2 + 1)
abbrev rmX3_add : Room := { frames := 1, cells := 0, slots := 0, locals := 20 }
set_option maxHeartbeats 4000000 in
set_option maxRecDepth 100000 in
theorem kX3_add {l : Launch} {D : va_G} {ad : Nat → Nat} {q : Nat → ClassId} {A : Nat → Prop} (hAD : mm_AD ad A) {i : Nat} (hi : i < 8) {M : mm_M} {x : Int32} : mm_Kd l D ad q A yX3_add wsX3_add rmX3_add [.ref (ad (18 + i)), .int x] M none (mc_add M i x) := by
  have inX3 : ∀ w ∈ wsX30, w ∈ wsX3_add := by decide +kernel
  have f9 : Cond.fieldLink RX3 9 "Beamrow$Tape" "slots" "[I" ∈ wsX3_add := by decide +kernel
  have f19 : Cond.fieldLink RX3 19 "Beamrow$Tape" "end" "I" ∈ wsX3_add := by decide +kernel
  refine mm_of (cc := cX3_add) (maxL := 3) (ret := none) (own := RX3) rfl hAD (by decide) rfl (Nat.le_of_ble_eq_true rfl) ⟨rfl, rfl⟩ ?_
  intro p e s m below meth c C hr hlk
  show mm_G _ _ _ _ _ _ _ _ _ _ _ _ _ _ _ _ _ _ M 0 [(0, .ref (ad (18 + i))), (1, .int x)] []
  refine r_aload_n C dX3_add_0 rfl 0 rfl ?_
  refine r_get3 C hi inX3 2 (by decide) rfl f19 rfl dX3_add_1 ?_
  refine r_callS1I C (kX3_slotOf hAD) (va_cwS 1 C.1.2.2.2.2 gX3_add_X3_slotOf rfl rfl rfl (by decide +kernel) ⟨Nat.le_of_ble_eq_true rfl, Nat.le_of_ble_eq_true rfl⟩) (Nat.le_of_ble_eq_true rfl) dX3_add_4 ⟨rfl, rfl⟩ ⟨Nat.zero_le _, Nat.zero_le _⟩ ?_
  refine r_topi (fun v2_7 ev2_7 => ?_)
  refine r_istore_n (lv' := [(2, .int v2_7), (0, .ref (ad (18 + i))), (1, .int x)]) C dX3_add_7 rfl (by decide) rfl ?_
  refine r_iload_n C dX3_add_8 rfl 0 rfl ?_
  refine r_aload_n C dX3_add_9 rfl 1 rfl ?_
  refine r_get3 C hi inX3 0 (by decide) rfl f9 rfl dX3_add_10 ?_
  refine r_alenI C (mm_aI_slots hi) dX3_add_13 ?_
  refine r_icmp_geF (tgt := 24) C dX3_add_14 (by decide) (by rw [ev2_7]; exact nm_sl_nge) ?_
  refine r_aload_n C dX3_add_17 rfl 1 rfl ?_
  refine r_get3 C hi inX3 0 (by decide) rfl f9 rfl dX3_add_18 ?_
  refine r_iload_n C dX3_add_21 rfl 0 rfl ?_
  refine r_iload_n C dX3_add_22 rfl 2 rfl ?_
  refine r_iast C (mm_aI_slots hi) (nm_sl (M.1 (18 + i) 2)) (by rw [ev2_7]; exact nm_sl_i) (nm_sl_lt) dX3_add_23 ?_
  refine r_aload_n C dX3_add_24 rfl 1 rfl ?_
  refine r_dup C dX3_add_25 rfl ?_
  refine r_get3 C hi inX3 2 (by decide) rfl f19 rfl dX3_add_26 ?_
  refine r_iconst (v := 1) C dX3_add_29 rfl ?_
  refine r_iadd C dX3_add_30 ?_
  refine r_put3 C hi inX3 (ty := .int) 2 (by decide) mm_set3_2 f19 rfl rfl (by decide +kernel) rfl rfl dX3_add_31 ?_
  exact r_vret C hr hlk dX3_add_34 ⟨by first | rfl | (subst_vars; rfl) | (subst_vars; simp [*]), by first | rfl | (subst_vars; rfl)⟩
end
