set_option maxRecDepth 20000 in
theorem wsL_law_i1 : ∀ w ∈ wsL_law0_r1, w ∈ lw_tbl := fun w h => (goodIn_p wsL_law0_r1 [38, 41] (by decide +kernel) (by decide +kernel) w h).1
set_option maxRecDepth 20000 in
theorem wsL_law_i2 : ∀ w ∈ wsL_law0_r2, w ∈ lw_tbl := fun w h => (goodIn_p wsL_law0_r2 [50, 62, 68, 119] (by decide +kernel) (by decide +kernel) w h).1
def wsL_law0_a3 : List Cond := [Cond.methodLink RX2 1 objectInit, Cond.fieldLink RX2 7 "Beamrow$Source" "period" "I", Cond.methodLink RL 97 yL_isRefused, Cond.static yL_isRefused, Cond.initialized RL]
def wsL_law0_b3 : List Cond := [Cond.constant RL 54 (-16220000), Cond.constant RL 51 (-16210000), Cond.constant RL 91 (65537), Cond.constantLong RL 69 (-16210000), Cond.methodLink RL 81 yL_all, Cond.static yL_all, Cond.code yL_all cL_all 5 (some .long), Cond.constantLong RL 75 (31), Cond.constantLong RL 77 (7), Cond.constantLong RL 79 (3), Cond.methodLink RL 71 yX4_tick, Cond.instanceMethod yX4_tick, Cond.selects RX4 yX4_tick yX4_tick, Cond.code yX4_tick cX4_tick 1 (some .int), Cond.fieldLink RX4 60 "Beamrow" "nextTick" "I", Cond.methodLink RL 62 yX4_power, Cond.instanceMethod yX4_power, Cond.selects RX4 yX4_power yX4_power]
theorem wsL_law_s3 : wsL_law0_r3 = wsL_law0_a3 ++ (Cond.code yL_isRefused cL_isRefused 11 (some .boolean) :: wsL_law0_b3) := rfl
set_option maxRecDepth 100000 in
theorem wsL_law_c3 : lw_tbl[554]? = some (Cond.code yL_isRefused cL_isRefused 11 (some .boolean)) := rfl
set_option maxRecDepth 20000 in
theorem wsL_law_i3a : ∀ w ∈ wsL_law0_a3, w ∈ lw_tbl := fun w h => (goodIn_p wsL_law0_a3 [] (by decide +kernel) (by decide +kernel) w h).1
set_option maxRecDepth 20000 in
theorem wsL_law_i3b : ∀ w ∈ wsL_law0_b3, w ∈ lw_tbl := fun w h => (goodIn_p wsL_law0_b3 [557, 561] (by decide +kernel) (by decide +kernel) w h).1
theorem wsL_law_i3 : ∀ w ∈ wsL_law0_r3, w ∈ lw_tbl := by
  intro w h
  rw [wsL_law_s3] at h
  rcases List.mem_append.mp h with h | h
  · exact wsL_law_i3a w h
  · rcases List.mem_cons.mp h with rfl | h
    · exact List.mem_of_getElem? wsL_law_c3
    · exact wsL_law_i3b w h
set_option maxRecDepth 20000 in
theorem wsL_law_i4 : ∀ w ∈ wsL_law0_r4, w ∈ lw_tbl := fun w h => (goodIn_p wsL_law0_r4 [566, 343, 173, 438, 332, 442] (by decide +kernel) (by decide +kernel) w h).1
set_option maxRecDepth 20000 in
theorem wsL_law_i5 : ∀ w ∈ wsL_law0_r5, w ∈ lw_tbl := fun w h => (goodIn_p wsL_law0_r5 [445, 449, 249, 252, 256, 453] (by decide +kernel) (by decide +kernel) w h).1
set_option maxRecDepth 20000 in
theorem wsL_law_i6 : ∀ w ∈ wsL_law0_r6, w ∈ lw_tbl := fun w h => (goodIn_p wsL_law0_r6 [457, 570, 501, 504, 508] (by decide +kernel) (by decide +kernel) w h).1
set_option maxRecDepth 20000 in
theorem wsL_law_i7 : ∀ w ∈ wsL_law0_r7, w ∈ lw_tbl := fun w h => (goodIn_p wsL_law0_r7 [512, 394, 397, 516, 520, 260] (by decide +kernel) (by decide +kernel) w h).1
set_option maxRecDepth 20000 in
theorem wsL_law_i8 : ∀ w ∈ wsL_law0_r8, w ∈ lw_tbl := fun w h => (goodIn_p wsL_law0_r8 [170, 265, 269, 166, 245] (by decide +kernel) (by decide +kernel) w h).1
set_option maxRecDepth 20000 in
theorem wsL_law_i9 : ∀ w ∈ wsL_law0_r9, w ∈ lw_tbl := fun w h => (goodIn_p wsL_law0_r9 [284, 320, 324, 328] (by decide +kernel) (by decide +kernel) w h).1
set_option maxRecDepth 20000 in
theorem wsL_law_i10 : ∀ w ∈ wsL_law0_r10, w ∈ lw_tbl := fun w h => (goodIn_p wsL_law0_r10 [336, 340, 350, 354, 360] (by decide +kernel) (by decide +kernel) w h).1
set_option maxRecDepth 20000 in
theorem wsL_law_i11 : ∀ w ∈ wsL_law0_r11, w ∈ lw_tbl := fun w h => (goodIn_p wsL_law0_r11 [364, 368, 373, 377, 381] (by decide +kernel) (by decide +kernel) w h).1
set_option maxRecDepth 20000 in
theorem wsL_law_i12 : ∀ w ∈ wsL_law0_r12, w ∈ lw_tbl := fun w h => (goodIn_p wsL_law0_r12 [386, 390, 401, 405, 408, 412] (by decide +kernel) (by decide +kernel) w h).1
set_option maxRecDepth 20000 in
theorem wsL_law_i13 : ∀ w ∈ wsL_law0_r13, w ∈ lw_tbl := fun w h => (goodIn_p wsL_law0_r13 [416, 420, 424, 429, 433, 461] (by decide +kernel) (by decide +kernel) w h).1
set_option maxRecDepth 20000 in
theorem wsL_law_i14 : ∀ w ∈ wsL_law0_r14, w ∈ lw_tbl := fun w h => (goodIn_p wsL_law0_r14 [466, 471, 475, 478, 485, 488] (by decide +kernel) (by decide +kernel) w h).1
set_option maxRecDepth 20000 in
theorem wsL_law_i15 : ∀ w ∈ wsL_law0_r15, w ∈ lw_tbl := fun w h => (goodIn_p wsL_law0_r15 [492, 497, 524, 528, 533, 538] (by decide +kernel) (by decide +kernel) w h).1
set_option maxRecDepth 20000 in
theorem wsL_law_i16 : ∀ w ∈ wsL_law0_r16, w ∈ lw_tbl := fun w h => (goodIn_p wsL_law0_r16 [542, 546, 580, 585] (by decide +kernel) (by decide +kernel) w h).1
def wsL_law0_a17 : List Cond := [Cond.code yX4_powerByPairs cX4_powerByPairs 12 (some .long), Cond.methodLink RX4 235 yX0_toldWith, Cond.instanceMethod yX0_toldWith, Cond.selects RX0 yX0_toldWith yX0_toldWith, Cond.code yX0_toldWith cX0_toldWith 8 (some .long), Cond.methodLink RL 101 yL_areSound, Cond.static yL_areSound]
def wsL_law0_b17 : List Cond := [Cond.methodLink RL 105 yL_dice, Cond.static yL_dice, Cond.code yL_dice cL_dice 2 (some .int), Cond.constant RL 7 (1811024881), Cond.constant RL 8 (2147483647), Cond.methodLink RL 109 yX4_silence, Cond.instanceMethod yX4_silence, Cond.selects RX4 yX4_silence yX4_silence, Cond.code yX4_silence cX4_silence 2 (some .int)]
theorem wsL_law_s17 : wsL_law0_r17 = wsL_law0_a17 ++ (Cond.code yL_areSound cL_areSound 16 (some .boolean) :: wsL_law0_b17) := rfl
set_option maxRecDepth 100000 in
theorem wsL_law_c17 : lw_tbl[597]? = some (Cond.code yL_areSound cL_areSound 16 (some .boolean)) := rfl
set_option maxRecDepth 20000 in
theorem wsL_law_i17a : ∀ w ∈ wsL_law0_a17, w ∈ lw_tbl := fun w h => (goodIn_p wsL_law0_a17 [589, 593] (by decide +kernel) (by decide +kernel) w h).1
set_option maxRecDepth 20000 in
theorem wsL_law_i17b : ∀ w ∈ wsL_law0_b17, w ∈ lw_tbl := fun w h => (goodIn_p wsL_law0_b17 [272, 162] (by decide +kernel) (by decide +kernel) w h).1
theorem wsL_law_i17 : ∀ w ∈ wsL_law0_r17, w ∈ lw_tbl := by
  intro w h
  rw [wsL_law_s17] at h
  rcases List.mem_append.mp h with h | h
  · exact wsL_law_i17a w h
  · rcases List.mem_cons.mp h with rfl | h
    · exact List.mem_of_getElem? wsL_law_c17
    · exact wsL_law_i17b w h
theorem wsL_law_awsX40 : ∀ w ∈ wsX40, w ∈ lw_tbl := by decide +kernel
theorem wsL_law_awsX10 : ∀ w ∈ wsX10, w ∈ lw_tbl := by decide +kernel
theorem wsL_law_awsX00 : ∀ w ∈ wsX00, w ∈ lw_tbl := by decide +kernel
theorem wsL_law_awsX20 : ∀ w ∈ wsX20, w ∈ lw_tbl := by decide +kernel
theorem wsL_law_awsX30 : ∀ w ∈ wsX30, w ∈ lw_tbl := by decide +kernel
theorem wsL_law_in0 : ∀ w ∈ wsL_law0, w ∈ lw_tbl := fun w h => (List.mem_append.mp h).elim (fun h => (List.mem_append.mp h).elim (fun h => (List.mem_append.mp h).elim (fun h => (List.mem_append.mp h).elim (fun h => (List.mem_append.mp h).elim (fun h => (List.mem_append.mp h).elim (fun h => (List.mem_append.mp h).elim (fun h => wsL_law_i1 w h) (fun h => (List.mem_append.mp h).elim (fun h => wsL_law_i2 w h) (fun h => (List.mem_append.mp h).elim (fun h => wsL_law_i3 w h) (fun h => (List.mem_append.mp h).elim (fun h => wsL_law_i4 w h) (fun h => (List.mem_append.mp h).elim (fun h => wsL_law_i5 w h) (fun h => (List.mem_append.mp h).elim (fun h => wsL_law_i6 w h) (fun h => (List.mem_append.mp h).elim (fun h => wsL_law_i7 w h) (fun h => (List.mem_append.mp h).elim (fun h => wsL_law_i8 w h) (fun h => (List.mem_append.mp h).elim (fun h => wsL_law_i9 w h) (fun h => (List.mem_append.mp h).elim (fun h => wsL_law_i10 w h) (fun h => (List.mem_append.mp h).elim (fun h => wsL_law_i11 w h) (fun h => (List.mem_append.mp h).elim (fun h => wsL_law_i12 w h) (fun h => (List.mem_append.mp h).elim (fun h => wsL_law_i13 w h) (fun h => (List.mem_append.mp h).elim (fun h => wsL_law_i14 w h) (fun h => (List.mem_append.mp h).elim (fun h => wsL_law_i15 w h) (fun h => (List.mem_append.mp h).elim (fun h => wsL_law_i16 w h) (fun h => wsL_law_i17 w h))))))))))))))))) (fun h => wsL_law_awsX40 w h)) (fun h => wsL_law_awsX10 w h)) (fun h => wsL_law_awsX00 w h)) (fun h => wsL_law_awsX20 w h)) (fun h => wsL_law_awsX30 w h)) (fun h => absurd h List.not_mem_nil)
theorem wsL_law_x0 : ∀ w ∈ (vx_atS RX4 75 "java/lang/IndexOutOfBoundsException" ["java/lang/RuntimeException", "java/lang/Exception"]).filter goodWord, w ∈ lw_tbl := by decide +kernel
theorem wsL_law_x1 : ∀ w ∈ (vx_atS RX4 49 "java/lang/IllegalArgumentException" ["java/lang/RuntimeException", "java/lang/Exception"]).filter goodWord, w ∈ lw_tbl := by decide +kernel
theorem wsL_law_x2 : ∀ w ∈ (vx_atS RX4 59 "java/lang/IllegalStateException" ["java/lang/RuntimeException", "java/lang/Exception"]).filter goodWord, w ∈ lw_tbl := by decide +kernel
theorem wsL_law_in : ∀ w ∈ wsL_law, w ∈ lw_tbl := fun w h => (List.mem_append.mp h).elim (fun h => (List.mem_append.mp h).elim (fun h => (List.mem_append.mp h).elim (fun h => wsL_law_in0 w h) (fun h => wsL_law_x0 w h)) (fun h => wsL_law_x1 w h)) (fun h => wsL_law_x2 w h)
theorem inlX0 : ∀ w ∈ wsX00, w ∈ wsL_law := fun _ h => List.mem_append_left _ (List.mem_append_left _ (List.mem_append_left _ (List.mem_append_left _ (List.mem_append_left _ (List.mem_append_left _ (List.mem_append_right _ h))))))
theorem inX0 : ∀ w ∈ wsX00, w ∈ lw_tbl := fun w h => wsL_law_in w (inlX0 w h)
theorem inlX1 : ∀ w ∈ wsX10, w ∈ wsL_law := fun _ h => List.mem_append_left _ (List.mem_append_left _ (List.mem_append_left _ (List.mem_append_left _ (List.mem_append_left _ (List.mem_append_left _ (List.mem_append_left _ (List.mem_append_right _ h)))))))
theorem inX1 : ∀ w ∈ wsX10, w ∈ lw_tbl := fun w h => wsL_law_in w (inlX1 w h)
theorem inlX2 : ∀ w ∈ wsX20, w ∈ wsL_law := fun _ h => List.mem_append_left _ (List.mem_append_left _ (List.mem_append_left _ (List.mem_append_left _ (List.mem_append_left _ (List.mem_append_right _ h)))))
theorem inX2 : ∀ w ∈ wsX20, w ∈ lw_tbl := fun w h => wsL_law_in w (inlX2 w h)
theorem inlX3 : ∀ w ∈ wsX30, w ∈ wsL_law := fun _ h => List.mem_append_left _ (List.mem_append_left _ (List.mem_append_left _ (List.mem_append_left _ (List.mem_append_right _ h))))
theorem inX3 : ∀ w ∈ wsX30, w ∈ lw_tbl := fun w h => wsL_law_in w (inlX3 w h)
theorem inlX4 : ∀ w ∈ wsX40, w ∈ wsL_law := fun _ h => List.mem_append_left _ (List.mem_append_left _ (List.mem_append_left _ (List.mem_append_left _ (List.mem_append_left _ (List.mem_append_left _ (List.mem_append_left _ (List.mem_append_left _ (List.mem_append_right _ h))))))))
theorem inX4 : ∀ w ∈ wsX40, w ∈ lw_tbl := fun w h => wsL_law_in w (inlX4 w h)
theorem inX5 : ∀ w ∈ wsX50, w ∈ lw_tbl := by decide +kernel
theorem inJx145de : ∀ w ∈ wsJx145de0, w ∈ lw_tbl := by decide +kernel
theorem inJ9 : ∀ w ∈ wsJ90, w ∈ lw_tbl := by decide +kernel
theorem inJ0 : ∀ w ∈ wsJ00, w ∈ lw_tbl := by decide +kernel
theorem inJ7 : ∀ w ∈ wsJ70, w ∈ lw_tbl := by decide +kernel
abbrev vwCl : List vw_C := [(RX0, TX0, 11), (RX1, TX1, 2), (RX2, TX2, 3), (RX3, TX3, 3), (RX4, TX4, 9)]
