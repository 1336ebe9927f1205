theorem goodIn_cons {big a : List Cond} {c : Cond} (i : Nat) (hc : big[i]? = some c) (hg : goodWord c = true) (ha : GoodIn big a) : GoodIn big (c :: a) := fun w h => (List.mem_cons.mp h).elim (fun e => by subst e; exact ⟨List.mem_of_getElem? hc, good_of_word hg⟩) (ha w)
set_option maxRecDepth 20000 in
theorem ggX0_init_X3_init : GoodIn wsX0_init wsX3_init := goodIn_r _ [13, 14, 2, 3, 15, 16, 17, 18, 19] (by decide +kernel) (by decide +kernel)
set_option maxRecDepth 20000 in
theorem gX0_init_X3_init_n11 : GoodIn wsX0_init (wsX3_init) := ggX0_init_X3_init
set_option maxRecDepth 20000 in
theorem ggX0_putUp_X3_beginAt : GoodIn wsX0_putUp wsX3_beginAt := goodIn_r _ [11, 12, 13, 25, 26, 27] (by decide +kernel) (by decide +kernel)
set_option maxRecDepth 20000 in
theorem gX0_putUp_X3_beginAt : GoodIn wsX0_putUp (wsV RX0 45 RX3 yX3_beginAt wsX3_beginAt) := goodIn_app (goodIn_of _ (by decide +kernel)) ggX0_putUp_X3_beginAt
set_option maxRecDepth 20000 in
theorem ggX0_delayFor_J9_floorDiv_7cf53 : GoodIn wsX0_delayFor wsJ9_floorDiv_7cf53 := goodIn_r _ [5] (by decide +kernel) (by decide +kernel)
set_option maxRecDepth 20000 in
theorem gX0_delayFor_J9_floorDiv_7cf53 : GoodIn wsX0_delayFor (va_wsS RX0 52 yJ9_floorDiv_7cf53 wsJ9_floorDiv_7cf53) := goodIn_app (goodIn_of _ (by decide +kernel)) ggX0_delayFor_J9_floorDiv_7cf53
set_option maxRecDepth 20000 in
theorem ggX0_heardOf_J9_floorDiv_7cf53 : GoodIn wsX0_heardOf wsJ9_floorDiv_7cf53 := goodIn_r _ [5] (by decide +kernel) (by decide +kernel)
set_option maxRecDepth 20000 in
theorem gX0_heardOf_J9_floorDiv_7cf53 : GoodIn wsX0_heardOf (va_wsS RX0 52 yJ9_floorDiv_7cf53 wsJ9_floorDiv_7cf53) := goodIn_app (goodIn_of _ (by decide +kernel)) ggX0_heardOf_J9_floorDiv_7cf53
set_option maxRecDepth 20000 in
theorem ggX0_keep_X3_add : GoodIn wsX0_keep wsX3_add := goodIn_r _ [6, 7, 8, 9, 10, 5, 11, 23, 24, 25] (by decide +kernel) (by decide +kernel)
set_option maxRecDepth 20000 in
theorem gX0_keep_X3_add : GoodIn wsX0_keep (wsV RX0 58 RX3 yX3_add wsX3_add) := goodIn_app (goodIn_of _ (by decide +kernel)) ggX0_keep_X3_add
set_option maxRecDepth 20000 in
theorem ggX0_keptAt_X3_at : GoodIn wsX0_keptAt wsX3_at := goodIn_r _ [6, 7, 8, 9, 10, 5, 11, 12, 13, 14, 15, 16, 28, 29, 30] (by decide +kernel) (by decide +kernel)
set_option maxRecDepth 20000 in
theorem gX0_keptAt_X3_at : GoodIn wsX0_keptAt (wsV RX0 61 RX3 yX3_at wsX3_at) := goodIn_app (goodIn_of _ (by decide +kernel)) ggX0_keptAt_X3_at
set_option maxRecDepth 20000 in
theorem ggX0_layOut_X3_at : GoodIn wsX0_layOut wsX3_at := goodIn_r _ [8, 9, 10, 11, 12, 7, 13, 14, 15, 16, 17, 18, 42, 43, 44] (by decide +kernel) (by decide +kernel)
set_option maxRecDepth 20000 in
theorem gX0_layOut_X3_at : GoodIn wsX0_layOut (wsV RX0 61 RX3 yX3_at wsX3_at) := goodIn_app (goodIn_of _ (by decide +kernel)) ggX0_layOut_X3_at
set_option maxRecDepth 20000 in
theorem ggX0_layOut_X0_turnAll : GoodIn wsX0_layOut wsX0_turnAll := goodIn_r _ [23, 1, 24, 25, 2, 26, 27, 28, 29, 30, 31, 32, 33, 34, 35, 36, 37, 38, 39, 40, 41] (by decide +kernel) (by decide +kernel)
set_option maxRecDepth 20000 in
theorem gX0_layOut_X0_turnAll : GoodIn wsX0_layOut (wsV RX0 69 RX0 yX0_turnAll wsX0_turnAll) := goodIn_app (goodIn_of _ (by decide +kernel)) ggX0_layOut_X0_turnAll
set_option maxRecDepth 20000 in
theorem ggX0_turnAll_J9_floorDiv_f86c9 : GoodIn wsX0_turnAll wsJ9_floorDiv_f86c9 := goodIn_r _ [9] (by decide +kernel) (by decide +kernel)
set_option maxRecDepth 20000 in
theorem gX0_turnAll_J9_floorDiv_f86c9 : GoodIn wsX0_turnAll (va_wsS RX0 74 yJ9_floorDiv_f86c9 wsJ9_floorDiv_f86c9) := goodIn_app (goodIn_of _ (by decide +kernel)) ggX0_turnAll_J9_floorDiv_f86c9
set_option maxRecDepth 20000 in
theorem ggX0_firstTold_X0_delayFor : GoodIn wsX0_firstTold wsX0_delayFor := goodIn_r _ [6, 7, 8, 9, 10, 11, 12, 13, 14, 15, 16, 17, 18, 19, 20, 21, 22] (by decide +kernel) (by decide +kernel)
set_option maxRecDepth 20000 in
theorem gX0_firstTold_X0_delayFor : GoodIn wsX0_firstTold (wsV RX0 77 RX0 yX0_delayFor wsX0_delayFor) := goodIn_app (goodIn_of _ (by decide +kernel)) ggX0_firstTold_X0_delayFor
set_option maxRecDepth 20000 in
theorem ggX0_tellTo_X0_firstTold : GoodIn wsX0_tellTo wsX0_firstTold := goodIn_r _ [6, 7, 8, 9, 10, 5, 11, 12, 13, 14, 15, 16, 22, 23, 24, 25, 26, 27, 28, 29, 30, 31, 32] (by decide +kernel) (by decide +kernel)
set_option maxRecDepth 20000 in
theorem gX0_tellTo_X0_firstTold : GoodIn wsX0_tellTo (wsV RX0 80 RX0 yX0_firstTold wsX0_firstTold) := goodIn_app (goodIn_of _ (by decide +kernel)) ggX0_tellTo_X0_firstTold
set_option maxRecDepth 20000 in
theorem ggX0_tellTo_X0_toldAt : GoodIn wsX0_tellTo wsX0_toldAt := goodIn_r _ [20, 21, 22, 23, 24, 25, 26, 27, 28, 29, 30, 31, 32] (by decide +kernel) (by decide +kernel)
set_option maxRecDepth 20000 in
theorem gX0_tellTo_X0_toldAt : GoodIn wsX0_tellTo (wsV RX0 83 RX0 yX0_toldAt wsX0_toldAt) := goodIn_app (goodIn_of _ (by decide +kernel)) ggX0_tellTo_X0_toldAt
set_option maxRecDepth 20000 in
theorem ggX0_toldWith_X0_firstTold : GoodIn wsX0_toldWith wsX0_firstTold := goodIn_r _ [6, 7, 8, 9, 10, 5, 11, 12, 13, 14, 15, 16, 22, 23, 24, 25, 26, 27, 28, 29, 30, 31, 32] (by decide +kernel) (by decide +kernel)
set_option maxRecDepth 20000 in
theorem gX0_toldWith_X0_firstTold : GoodIn wsX0_toldWith (wsV RX0 80 RX0 yX0_firstTold wsX0_firstTold) := goodIn_app (goodIn_of _ (by decide +kernel)) ggX0_toldWith_X0_firstTold
set_option maxRecDepth 20000 in
theorem ggX0_toldWith_X0_toldAt : GoodIn wsX0_toldWith wsX0_toldAt := goodIn_r _ [20, 21, 22, 23, 24, 25, 26, 27, 28, 29, 30, 31, 32] (by decide +kernel) (by decide +kernel)
set_option maxRecDepth 20000 in
theorem gX0_toldWith_X0_toldAt : GoodIn wsX0_toldWith (wsV RX0 83 RX0 yX0_toldAt wsX0_toldAt) := goodIn_app (goodIn_of _ (by decide +kernel)) ggX0_toldWith_X0_toldAt
set_option maxRecDepth 20000 in
theorem ggX0_takeAway_X0_firstTold : GoodIn wsX0_takeAway wsX0_firstTold := goodIn_r _ [8, 9, 10, 11, 12, 7, 13, 14, 15, 16, 17, 18, 26, 27, 28, 29, 30, 31, 32, 33, 34, 35, 36] (by decide +kernel) (by decide +kernel)
set_option maxRecDepth 20000 in
theorem gX0_takeAway_X0_firstTold : GoodIn wsX0_takeAway (wsV RX0 80 RX0 yX0_firstTold wsX0_firstTold) := goodIn_app (goodIn_of _ (by decide +kernel)) ggX0_takeAway_X0_firstTold
set_option maxRecDepth 20000 in
theorem ggX0_takeAway_X3_keeps : GoodIn wsX0_takeAway wsX3_keeps := goodIn_r _ [23, 24, 25, 37, 38, 39] (by decide +kernel) (by decide +kernel)
set_option maxRecDepth 20000 in
theorem gX0_takeAway_X3_keeps : GoodIn wsX0_takeAway (wsV RX0 87 RX3 yX3_keeps wsX3_keeps) := goodIn_app (goodIn_of _ (by decide +kernel)) ggX0_takeAway_X3_keeps
set_option maxRecDepth 20000 in
theorem ggX0_agreement_X0_delayFor : GoodIn wsX0_agreement wsX0_delayFor := goodIn_r _ [5, 6, 7, 8, 9, 10, 16, 17, 18, 19, 20, 21, 22, 23, 24, 25, 26] (by decide +kernel) (by decide +kernel)
set_option maxRecDepth 20000 in
theorem gX0_agreement_X0_delayFor : GoodIn wsX0_agreement (wsV RX0 77 RX0 yX0_delayFor wsX0_delayFor) := goodIn_app (goodIn_of _ (by decide +kernel)) ggX0_agreement_X0_delayFor
set_option maxRecDepth 20000 in
theorem ggX0_agreement_X0_laidAt : GoodIn wsX0_agreement wsX0_laidAt := goodIn_r _ [14, 15, 16, 17, 18, 19, 20, 21, 22, 23, 24, 25, 26] (by decide +kernel) (by decide +kernel)
set_option maxRecDepth 20000 in
theorem gX0_agreement_X0_laidAt : GoodIn wsX0_agreement (wsV RX0 91 RX0 yX0_laidAt wsX0_laidAt) := goodIn_app (goodIn_of _ (by decide +kernel)) ggX0_agreement_X0_laidAt
set_option maxRecDepth 20000 in
theorem ggX2_waveAt_J9_floorMod_7cf53 : GoodIn wsX2_waveAt wsJ9_floorMod_7cf53 := goodIn_r _ [6] (by decide +kernel) (by decide +kernel)
set_option maxRecDepth 20000 in
theorem gX2_waveAt_J9_floorMod_7cf53 : GoodIn wsX2_waveAt (va_wsS RX2 19 yJ9_floorMod_7cf53 wsJ9_floorMod_7cf53) := goodIn_app (goodIn_of _ (by decide +kernel)) ggX2_waveAt_J9_floorMod_7cf53
set_option maxRecDepth 20000 in
theorem ggX3_add_X3_slotOf : GoodIn wsX3_add wsX3_slotOf := goodIn_r _ [6] (by decide +kernel) (by decide +kernel)
set_option maxRecDepth 20000 in
theorem gX3_add_X3_slotOf : GoodIn wsX3_add (va_wsS RX3 22 yX3_slotOf wsX3_slotOf) := goodIn_app (goodIn_of _ (by decide +kernel)) ggX3_add_X3_slotOf
set_option maxRecDepth 20000 in
theorem ggX3_at_X3_slotOf : GoodIn wsX3_at wsX3_slotOf := goodIn_r _ [6] (by decide +kernel) (by decide +kernel)
set_option maxRecDepth 20000 in
theorem gX3_at_X3_slotOf : GoodIn wsX3_at (va_wsS RX3 22 yX3_slotOf wsX3_slotOf) := goodIn_app (goodIn_of _ (by decide +kernel)) ggX3_at_X3_slotOf
set_option maxRecDepth 20000 in
theorem ggX3_at_X3_keeps : GoodIn wsX3_at wsX3_keeps := goodIn_r _ [10, 1, 11, 12, 13, 14] (by decide +kernel) (by decide +kernel)
set_option maxRecDepth 20000 in
theorem gX3_at_X3_keeps : GoodIn wsX3_at (wsV RX3 26 RX3 yX3_keeps wsX3_keeps) := goodIn_app (goodIn_of _ (by decide +kernel)) ggX3_at_X3_keeps
set_option maxRecDepth 20000 in
theorem ggX4_init_X1_init : GoodIn wsX4_init wsX1_init := goodIn_r _ [21, 22, 2, 3, 23, 52, 53] (by decide +kernel) (by decide +kernel)
set_option maxRecDepth 20000 in
theorem gX4_init_X1_init_n23 : GoodIn wsX4_init (wsX1_init) := ggX4_init_X1_init
set_option maxRecDepth 20000 in
theorem ggX4_init_X0_init : GoodIn wsX4_init wsX0_init := goodIn_r _ [25, 26, 2, 3, 27, 28, 29, 30, 12, 31, 32, 33, 34, 35, 36, 37, 38, 68, 69, 70, 54, 55, 56, 57, 58, 59, 60, 61, 62, 63, 64] (by decide +kernel) (by decide +kernel)
set_option maxRecDepth 20000 in
theorem gX4_init_X0_init_n35 : GoodIn wsX4_init (wsX0_init) := ggX4_init_X0_init
set_option maxRecDepth 20000 in
theorem ggX4_init_X2_init : GoodIn wsX4_init wsX2_init := goodIn_r _ [40, 41, 2, 3, 42, 65, 66, 67] (by decide +kernel) (by decide +kernel)
set_option maxRecDepth 20000 in
theorem gX4_init_X2_init_n36 : GoodIn wsX4_init (wsX2_init) := ggX4_init_X2_init
set_option maxRecDepth 20000 in
theorem ggX4_element_X4_isWithin : GoodIn wsX4_element wsX4_isWithin := goodIn_r _ [11] (by decide +kernel) (by decide +kernel)
set_option maxRecDepth 20000 in
theorem gX4_element_X4_isWithin : GoodIn wsX4_element (va_wsS RX4 41 yX4_isWithin wsX4_isWithin) := goodIn_app (goodIn_of _ (by decide +kernel)) ggX4_element_X4_isWithin
set_option maxRecDepth 20000 in
theorem ggX4_element_X0_putUp : GoodIn wsX4_element wsX0_putUp := goodIn_r _ [16, 17, 18, 19, 20, 21, 22, 23, 24, 25, 26, 27, 28, 29, 39, 40, 41, 42, 43, 44, 45, 46, 47, 48, 49, 50, 51, 52] (by decide +kernel) (by decide +kernel)
set_option maxRecDepth 20000 in
theorem gX4_element_X0_putUp : GoodIn wsX4_element (wsV RX4 63 RX0 yX0_putUp wsX0_putUp) := goodIn_app (goodIn_of _ (by decide +kernel)) ggX4_element_X0_putUp
set_option maxRecDepth 20000 in
theorem ggX4_alive_X4_isElement : GoodIn wsX4_alive wsX4_isElement := goodIn_r _ [8, 9, 3, 20, 21, 22, 23, 24, 25, 26, 27, 28] (by decide +kernel) (by decide +kernel)
set_option maxRecDepth 20000 in
theorem gX4_alive_X4_isElement : GoodIn wsX4_alive (wsV RX4 67 RX4 yX4_isElement wsX4_isElement) := goodIn_app (goodIn_of _ (by decide +kernel)) ggX4_alive_X4_isElement
set_option maxRecDepth 20000 in
theorem ggX4_alive_X0_isLiving : GoodIn wsX4_alive wsX0_isLiving := goodIn_r _ [14, 15, 29, 30, 31, 32, 33, 34, 35, 36, 37, 38, 39] (by decide +kernel) (by decide +kernel)
set_option maxRecDepth 20000 in
theorem gX4_alive_X0_isLiving : GoodIn wsX4_alive (wsV RX4 76 RX0 yX0_isLiving wsX0_isLiving) := goodIn_app (goodIn_of _ (by decide +kernel)) ggX4_alive_X0_isLiving
set_option maxRecDepth 20000 in
theorem ggX4_alive_X0_setLiving : GoodIn wsX4_alive wsX0_setLiving := goodIn_r _ [19, 15, 29, 30, 31, 32, 33, 34, 35, 36, 37, 38, 39] (by decide +kernel) (by decide +kernel)
set_option maxRecDepth 20000 in
theorem gX4_alive_X0_setLiving : GoodIn wsX4_alive (wsV RX4 80 RX0 yX0_setLiving wsX0_setLiving) := goodIn_app (goodIn_of _ (by decide +kernel)) ggX4_alive_X0_setLiving
set_option maxRecDepth 20000 in
theorem ggX4_source_X4_isBearing : GoodIn wsX4_source wsX4_isBearing := goodIn_r _ [12, 13, 14, 11, 15] (by decide +kernel) (by decide +kernel)
set_option maxRecDepth 20000 in
theorem gX4_source_X4_isBearing : GoodIn wsX4_source (va_wsS RX4 84 yX4_isBearing wsX4_isBearing) := goodIn_app (goodIn_of _ (by decide +kernel)) ggX4_source_X4_isBearing
set_option maxRecDepth 20000 in
theorem ggX4_source_X4_isWithin : GoodIn wsX4_source wsX4_isWithin := goodIn_r _ [15] (by decide +kernel) (by decide +kernel)
set_option maxRecDepth 20000 in
theorem gX4_source_X4_isWithin : GoodIn wsX4_source (va_wsS RX4 41 yX4_isWithin wsX4_isWithin) := goodIn_app (goodIn_of _ (by decide +kernel)) ggX4_source_X4_isWithin
set_option maxRecDepth 20000 in
theorem ggX4_source_X2_setUp : GoodIn wsX4_source wsX2_setUp := goodIn_r _ [20, 21, 22, 23, 33, 34, 35] (by decide +kernel) (by decide +kernel)
set_option maxRecDepth 20000 in
theorem gX4_source_X2_setUp : GoodIn wsX4_source (wsV RX4 96 RX2 yX2_setUp wsX2_setUp) := goodIn_app (goodIn_of _ (by decide +kernel)) ggX4_source_X2_setUp
set_option maxRecDepth 20000 in
theorem ggX4_noise_X4_isWithin : GoodIn wsX4_noise wsX4_isWithin := goodIn_r _ [8] (by decide +kernel) (by decide +kernel)
set_option maxRecDepth 20000 in
theorem gX4_noise_X4_isWithin : GoodIn wsX4_noise (va_wsS RX4 41 yX4_isWithin wsX4_isWithin) := goodIn_app (goodIn_of _ (by decide +kernel)) ggX4_noise_X4_isWithin
set_option maxRecDepth 20000 in
theorem ggX4_noise_X1_getLoudness : GoodIn wsX4_noise wsX1_getLoudness := goodIn_r _ [13, 14, 29, 30] (by decide +kernel) (by decide +kernel)
set_option maxRecDepth 20000 in
theorem gX4_noise_X1_getLoudness : GoodIn wsX4_noise (wsV RX4 103 RX1 yX1_getLoudness wsX1_getLoudness) := goodIn_app (goodIn_of _ (by decide +kernel)) ggX4_noise_X1_getLoudness
set_option maxRecDepth 20000 in
theorem ggX4_noise_X1_set : GoodIn wsX4_noise wsX1_set := goodIn_r _ [18, 14, 19, 29, 30] (by decide +kernel) (by decide +kernel)
set_option maxRecDepth 20000 in
theorem gX4_noise_X1_set : GoodIn wsX4_noise (wsV RX4 107 RX1 yX1_set wsX1_set) := goodIn_app (goodIn_of _ (by decide +kernel)) ggX4_noise_X1_set
set_option maxRecDepth 20000 in
theorem ggX4_hear_X4_isWithin : GoodIn wsX4_hear wsX4_isWithin := goodIn_r _ [7] (by decide +kernel) (by decide +kernel)
set_option maxRecDepth 20000 in
theorem gX4_hear_X4_isWithin : GoodIn wsX4_hear (va_wsS RX4 41 yX4_isWithin wsX4_isWithin) := goodIn_app (goodIn_of _ (by decide +kernel)) ggX4_hear_X4_isWithin
set_option maxRecDepth 20000 in
theorem ggX4_hear_X4_hearOneTick : GoodIn wsX4_hear wsX4_hearOneTick := goodIn_r _ [11, 12, 13, 3, 14, 15, 16, 17, 18, 19, 20, 21, 22, 23, 24, 25, 26, 27, 28, 29, 30, 31, 32, 33, 34, 35, 6, 36, 37, 38, 39, 40, 41, 42, 43, 44, 45, 46, 47, 48, 49, 50, 51, 52, 53, 54, 55, 56, 57, 58, 59, 60, 61, 62, 63, 64, 65, 66, 67, 68, 69, 70, 71, 72, 73, 74, 75, 76, 77, 78, 79, 80, 81, 82, 83, 84, 85, 86, 87, 88, 89, 90, 91, 92, 93, 94, 95, 96, 97, 98, 99, 100, 101, 102, 103, 104, 105, 106, 107, 108, 109, 110, 111, 112, 113, 114, 115] (by decide +kernel) (by decide +kernel)
set_option maxRecDepth 20000 in
theorem gX4_hear_X4_hearOneTick : GoodIn wsX4_hear (wsV RX4 113 RX4 yX4_hearOneTick wsX4_hearOneTick) := goodIn_app (goodIn_of _ (by decide +kernel)) ggX4_hear_X4_hearOneTick
set_option maxRecDepth 20000 in
theorem ggX4_window_X4_isWithin : GoodIn wsX4_window wsX4_isWithin := goodIn_r _ [7] (by decide +kernel) (by decide +kernel)
set_option maxRecDepth 20000 in
theorem gX4_window_X4_isWithin : GoodIn wsX4_window (va_wsS RX4 41 yX4_isWithin wsX4_isWithin) := goodIn_app (goodIn_of _ (by decide +kernel)) ggX4_window_X4_isWithin
set_option maxRecDepth 20000 in
theorem ggX4_calibrate_X4_isBearing : GoodIn wsX4_calibrate wsX4_isBearing := goodIn_r _ [8, 9, 10, 7, 11] (by decide +kernel) (by decide +kernel)
set_option maxRecDepth 20000 in
theorem gX4_calibrate_X4_isBearing : GoodIn wsX4_calibrate (va_wsS RX4 84 yX4_isBearing wsX4_isBearing) := goodIn_app (goodIn_of _ (by decide +kernel)) ggX4_calibrate_X4_isBearing
set_option maxRecDepth 20000 in
theorem ggX4_calibrate_X4_lowestLiving : GoodIn wsX4_calibrate wsX4_lowestLiving := goodIn_r _ [15, 16, 17, 18, 19, 20, 21, 22, 107, 108, 109, 110, 111, 112, 113, 114, 115, 116, 117, 118, 119, 120, 121, 122, 123, 124, 125, 126] (by decide +kernel) (by decide +kernel)
set_option maxRecDepth 20000 in
theorem gX4_calibrate_X4_lowestLiving : GoodIn wsX4_calibrate (wsV RX4 118 RX4 yX4_lowestLiving wsX4_lowestLiving) := goodIn_app (goodIn_of _ (by decide +kernel)) ggX4_calibrate_X4_lowestLiving
set_option maxRecDepth 20000 in
theorem ggX4_calibrate_X4_layAll : GoodIn wsX4_calibrate wsX4_layAll := goodIn_r _ [26, 16, 17, 18, 19, 20, 21, 22, 27, 28, 29, 7, 30, 31, 32, 33, 34, 35, 36, 37, 38, 39, 40, 41, 42, 43, 44, 45, 46, 47, 48, 49, 50, 51, 52, 53, 54, 55, 56, 57, 58, 59, 60, 61, 62, 63, 64, 65, 66, 67, 68, 107, 108, 109, 110, 111, 112, 113, 114, 115, 116, 117, 118, 119, 120, 121, 122, 123, 124, 125, 126, 127, 128, 129] (by decide +kernel) (by decide +kernel)
set_option maxRecDepth 20000 in
theorem gX4_calibrate_X4_layAll : GoodIn wsX4_calibrate (wsV RX4 124 RX4 yX4_layAll wsX4_layAll) := goodIn_app (goodIn_of _ (by decide +kernel)) ggX4_calibrate_X4_layAll
set_option maxRecDepth 20000 in
theorem ggX4_calibrate_X0_agreement : GoodIn wsX4_calibrate wsX0_agreement := goodIn_r _ [72, 73, 74, 75, 20, 76, 77, 78, 79, 67, 80, 81, 82, 83, 84, 41, 116, 117, 118, 119, 120, 121, 122, 123, 124, 125, 126] (by decide +kernel) (by decide +kernel)
set_option maxRecDepth 20000 in
theorem gX4_calibrate_X0_agreement : GoodIn wsX4_calibrate (wsV RX4 128 RX0 yX0_agreement wsX0_agreement) := goodIn_app (goodIn_of _ (by decide +kernel)) ggX4_calibrate_X0_agreement
set_option maxRecDepth 20000 in
theorem ggX4_calibrate_X4_holdTo : GoodIn wsX4_calibrate wsX4_holdTo := goodIn_r _ [88, 16, 89, 90, 91, 20, 92, 62, 93, 17, 18, 19, 21, 22, 94, 95, 7, 96, 97, 98, 99, 100, 101, 34, 102, 103, 104, 105, 69, 70, 71, 72, 73, 74, 75, 76, 77, 78, 79, 67, 80, 81, 82, 83, 84, 41, 106, 66, 68, 107, 108, 109, 110, 111, 112, 113, 114, 115, 116, 117, 118, 119, 120, 121, 122, 123, 124, 125, 126] (by decide +kernel) (by decide +kernel)
set_option maxRecDepth 20000 in
theorem gX4_calibrate_X4_holdTo : GoodIn wsX4_calibrate (wsV RX4 134 RX4 yX4_holdTo wsX4_holdTo) := goodIn_app (goodIn_of _ (by decide +kernel)) ggX4_calibrate_X4_holdTo
set_option maxRecDepth 20000 in
theorem ggX4_sample_X4_isElement : GoodIn wsX4_sample wsX4_isElement := goodIn_r _ [8, 9, 3, 34, 35, 36, 37, 38, 39, 40, 41, 42] (by decide +kernel) (by decide +kernel)
set_option maxRecDepth 20000 in
theorem gX4_sample_X4_isElement : GoodIn wsX4_sample (wsV RX4 67 RX4 yX4_isElement wsX4_isElement) := goodIn_app (goodIn_of _ (by decide +kernel)) ggX4_sample_X4_isElement
set_option maxRecDepth 20000 in
theorem ggX4_sample_X4_isWithin : GoodIn wsX4_sample wsX4_isWithin := goodIn_r _ [12] (by decide +kernel) (by decide +kernel)
set_option maxRecDepth 20000 in
theorem gX4_sample_X4_isWithin : GoodIn wsX4_sample (va_wsS RX4 41 yX4_isWithin wsX4_isWithin) := goodIn_app (goodIn_of _ (by decide +kernel)) ggX4_sample_X4_isWithin
set_option maxRecDepth 20000 in
theorem ggX4_sample_X0_keptAt : GoodIn wsX4_sample wsX0_keptAt := goodIn_r _ [17, 18, 19, 20, 21, 22, 23, 24, 25, 26, 27, 28, 29, 30, 31, 32, 33, 43, 44, 45, 46, 47, 48, 49, 50, 51, 52, 53, 54, 55, 56] (by decide +kernel) (by decide +kernel)
set_option maxRecDepth 20000 in
theorem gX4_sample_X0_keptAt : GoodIn wsX4_sample (wsV RX4 140 RX0 yX0_keptAt wsX0_keptAt) := goodIn_app (goodIn_of _ (by decide +kernel)) ggX4_sample_X0_keptAt
set_option maxRecDepth 20000 in
theorem ggX4_sum_X4_isBearing : GoodIn wsX4_sum wsX4_isBearing := goodIn_r _ [7, 8, 9, 6, 10] (by decide +kernel) (by decide +kernel)
set_option maxRecDepth 20000 in
theorem gX4_sum_X4_isBearing : GoodIn wsX4_sum (va_wsS RX4 84 yX4_isBearing wsX4_isBearing) := goodIn_app (goodIn_of _ (by decide +kernel)) ggX4_sum_X4_isBearing
set_option maxRecDepth 20000 in
theorem ggX4_sum_X4_isWithin : GoodIn wsX4_sum wsX4_isWithin := goodIn_r _ [10] (by decide +kernel) (by decide +kernel)
set_option maxRecDepth 20000 in
theorem gX4_sum_X4_isWithin : GoodIn wsX4_sum (va_wsS RX4 41 yX4_isWithin wsX4_isWithin) := goodIn_app (goodIn_of _ (by decide +kernel)) ggX4_sum_X4_isWithin
set_option maxRecDepth 20000 in
theorem ggX4_sum_X4_layAll : GoodIn wsX4_sum wsX4_layAll := goodIn_r _ [14, 15, 16, 17, 18, 19, 20, 21, 22, 23, 24, 6, 25, 26, 27, 28, 29, 30, 31, 32, 33, 34, 35, 36, 37, 38, 39, 40, 41, 42, 43, 44, 45, 46, 47, 48, 49, 50, 51, 52, 53, 54, 55, 56, 57, 58, 59, 60, 61, 62, 63, 93, 94, 95, 96, 97, 98, 99, 100, 101, 102, 103, 104, 105, 106, 107, 108, 109, 110, 111, 112, 113, 114, 115] (by decide +kernel) (by decide +kernel)
set_option maxRecDepth 20000 in
theorem gX4_sum_X4_layAll : GoodIn wsX4_sum (wsV RX4 124 RX4 yX4_layAll wsX4_layAll) := goodIn_app (goodIn_of _ (by decide +kernel)) ggX4_sum_X4_layAll
set_option maxRecDepth 20000 in
theorem ggX4_sum_X4_steer : GoodIn wsX4_sum wsX4_steer := goodIn_r _ [67, 3, 15, 68, 69, 70, 71, 72, 73, 74, 19, 75, 35, 76, 77, 78, 79, 80, 81, 82, 83, 84, 85, 86, 87, 62, 88, 89, 90, 91, 92, 58, 93, 94, 95, 96, 97, 98, 99, 100, 101, 102, 103, 104, 105, 106, 107, 108, 109, 110, 111, 112] (by decide +kernel) (by decide +kernel)
set_option maxRecDepth 20000 in
theorem gX4_sum_X4_steer : GoodIn wsX4_sum (wsV RX4 146 RX4 yX4_steer wsX4_steer) := goodIn_app (goodIn_of _ (by decide +kernel)) ggX4_sum_X4_steer
set_option maxRecDepth 20000 in
theorem ggX4_power_X4_isBearing : GoodIn wsX4_power wsX4_isBearing := goodIn_r _ [6, 7, 8, 5, 9] (by decide +kernel) (by decide +kernel)
set_option maxRecDepth 20000 in
theorem gX4_power_X4_isBearing : GoodIn wsX4_power (va_wsS RX4 84 yX4_isBearing wsX4_isBearing) := goodIn_app (goodIn_of _ (by decide +kernel)) ggX4_power_X4_isBearing
set_option maxRecDepth 20000 in
theorem ggX4_power_X4_layAll : GoodIn wsX4_power wsX4_layAll := goodIn_r _ [13, 14, 15, 16, 17, 18, 19, 20, 21, 22, 23, 5, 24, 25, 26, 27, 28, 29, 30, 31, 32, 33, 34, 35, 36, 37, 38, 39, 40, 41, 42, 43, 44, 45, 46, 47, 48, 49, 50, 51, 52, 53, 54, 55, 56, 57, 58, 59, 60, 61, 62, 101, 102, 103, 104, 105, 106, 107, 108, 109, 110, 111, 112, 113, 114, 115, 116, 117, 118, 119, 120, 121, 122, 123] (by decide +kernel) (by decide +kernel)
set_option maxRecDepth 20000 in
theorem gX4_power_X4_layAll : GoodIn wsX4_power (wsV RX4 124 RX4 yX4_layAll wsX4_layAll) := goodIn_app (goodIn_of _ (by decide +kernel)) ggX4_power_X4_layAll
set_option maxRecDepth 20000 in
theorem ggX4_power_X4_powerBySums : GoodIn wsX4_power wsX4_powerBySums := goodIn_r _ [66, 67, 68, 69, 5, 70, 71, 14, 72, 73, 74, 75, 76, 77, 78, 18, 79, 34, 80, 81, 82, 83, 84, 85, 86, 87, 88, 89, 90, 91, 61, 92, 93, 94, 95, 96, 57, 97, 98, 99, 100, 101, 102, 103, 104, 105, 106, 107, 108, 109, 110, 111, 112, 113, 114, 115, 116, 117, 118, 119, 120] (by decide +kernel) (by decide +kernel)
set_option maxRecDepth 20000 in
theorem gX4_power_X4_powerBySums : GoodIn wsX4_power (wsV RX4 150 RX4 yX4_powerBySums wsX4_powerBySums) := goodIn_app (goodIn_of _ (by decide +kernel)) ggX4_power_X4_powerBySums
set_option maxRecDepth 20000 in
theorem ggX4_powerAnew_X4_isBearing : GoodIn wsX4_powerAnew wsX4_isBearing := goodIn_r _ [6, 7, 8, 5, 9] (by decide +kernel) (by decide +kernel)
set_option maxRecDepth 20000 in
theorem gX4_powerAnew_X4_isBearing : GoodIn wsX4_powerAnew (va_wsS RX4 84 yX4_isBearing wsX4_isBearing) := goodIn_app (goodIn_of _ (by decide +kernel)) ggX4_powerAnew_X4_isBearing
set_option maxRecDepth 20000 in
theorem ggX4_powerAnew_X4_layAll : GoodIn wsX4_powerAnew wsX4_layAll := goodIn_r _ [13, 14, 15, 16, 17, 18, 19, 20, 21, 22, 23, 5, 24, 25, 26, 27, 28, 29, 30, 31, 32, 33, 34, 35, 36, 37, 38, 39, 40, 41, 42, 43, 44, 45, 46, 47, 48, 49, 50, 51, 52, 53, 54, 55, 56, 57, 58, 59, 60, 61, 62, 88, 89, 90, 91, 92, 93, 94, 95, 96, 97, 98, 99, 100, 101, 102, 103, 104, 105, 106, 107, 108, 109, 110] (by decide +kernel) (by decide +kernel)
set_option maxRecDepth 20000 in
theorem gX4_powerAnew_X4_layAll : GoodIn wsX4_powerAnew (wsV RX4 124 RX4 yX4_layAll wsX4_layAll) := goodIn_app (goodIn_of _ (by decide +kernel)) ggX4_powerAnew_X4_layAll
set_option maxRecDepth 20000 in
theorem ggX4_powerAnew_X4_powerByPairs : GoodIn wsX4_powerAnew wsX4_powerByPairs := goodIn_r _ [66, 14, 67, 68, 69, 18, 70, 34, 71, 72, 73, 74, 75, 76, 77, 78, 79, 80, 81, 82, 61, 83, 84, 85, 86, 87, 57, 88, 89, 90, 91, 92, 93, 94, 95, 96, 97, 98, 99, 100, 101, 102, 103, 104, 105, 106, 107] (by decide +kernel) (by decide +kernel)
set_option maxRecDepth 20000 in
theorem gX4_powerAnew_X4_powerByPairs : GoodIn wsX4_powerAnew (wsV RX4 154 RX4 yX4_powerByPairs wsX4_powerByPairs) := goodIn_app (goodIn_of _ (by decide +kernel)) ggX4_powerAnew_X4_powerByPairs
set_option maxRecDepth 20000 in
theorem ggX4_peaks_X4_isWithin : GoodIn wsX4_peaks wsX4_isWithin := goodIn_r _ [8] (by decide +kernel) (by decide +kernel)
set_option maxRecDepth 20000 in
theorem gX4_peaks_X4_isWithin : GoodIn wsX4_peaks (va_wsS RX4 41 yX4_isWithin wsX4_isWithin) := goodIn_app (goodIn_of _ (by decide +kernel)) ggX4_peaks_X4_isWithin
set_option maxRecDepth 20000 in
theorem ggX4_peaks_X4_layAll : GoodIn wsX4_peaks wsX4_layAll := goodIn_r _ [12, 13, 14, 15, 16, 17, 18, 19, 20, 21, 22, 7, 23, 24, 25, 26, 27, 28, 29, 30, 31, 32, 33, 34, 35, 36, 37, 38, 39, 40, 41, 42, 43, 44, 45, 46, 47, 48, 49, 50, 51, 52, 53, 54, 55, 56, 57, 58, 59, 60, 61, 111, 112, 113, 114, 115, 116, 117, 118, 119, 120, 121, 122, 123, 124, 125, 126, 127, 128, 129, 130, 131, 132, 133] (by decide +kernel) (by decide +kernel)
set_option maxRecDepth 20000 in
theorem gX4_peaks_X4_layAll : GoodIn wsX4_peaks (wsV RX4 124 RX4 yX4_layAll wsX4_layAll) := goodIn_app (goodIn_of _ (by decide +kernel)) ggX4_peaks_X4_layAll
set_option maxRecDepth 20000 in
theorem ggX4_peaks_X4_fillPowers : GoodIn wsX4_peaks wsX4_fillPowers := goodIn_r _ [65, 3, 66, 67, 27, 68, 69, 70, 71, 7, 72, 73, 13, 74, 75, 76, 77, 78, 79, 80, 17, 81, 33, 82, 83, 84, 85, 86, 87, 88, 89, 90, 91, 92, 93, 60, 94, 95, 96, 97, 98, 56, 99, 100, 101, 102, 111, 112, 113, 114, 115, 116, 117, 118, 119, 120, 121, 122, 123, 124, 125, 126, 127, 128, 129, 130] (by decide +kernel) (by decide +kernel)
set_option maxRecDepth 20000 in
theorem gX4_peaks_X4_fillPowers : GoodIn wsX4_peaks (wsV RX4 159 RX4 yX4_fillPowers wsX4_fillPowers) := goodIn_app (goodIn_of _ (by decide +kernel)) ggX4_peaks_X4_fillPowers
set_option maxRecDepth 20000 in
theorem ggX4_peaks_X4_isPeak : GoodIn wsX4_peaks wsX4_isPeak := goodIn_r _ [106, 107, 108, 109, 7, 110, 3, 111, 112, 113, 114, 115, 116, 117, 118, 119] (by decide +kernel) (by decide +kernel)
set_option maxRecDepth 20000 in
theorem gX4_peaks_X4_isPeak : GoodIn wsX4_peaks (wsV RX4 162 RX4 yX4_isPeak wsX4_isPeak) := goodIn_app (goodIn_of _ (by decide +kernel)) ggX4_peaks_X4_isPeak
set_option maxRecDepth 20000 in
theorem ggX4_found_X4_isWithin : GoodIn wsX4_found wsX4_isWithin := goodIn_r _ [6] (by decide +kernel) (by decide +kernel)
set_option maxRecDepth 20000 in
theorem gX4_found_X4_isWithin : GoodIn wsX4_found (va_wsS RX4 41 yX4_isWithin wsX4_isWithin) := goodIn_app (goodIn_of _ (by decide +kernel)) ggX4_found_X4_isWithin
set_option maxRecDepth 20000 in
theorem ggX4_found_X4_layAll : GoodIn wsX4_found wsX4_layAll := goodIn_r _ [10, 11, 12, 13, 14, 15, 16, 17, 18, 19, 20, 5, 21, 22, 23, 24, 25, 26, 27, 28, 29, 30, 31, 32, 33, 34, 35, 36, 37, 38, 39, 40, 41, 42, 43, 44, 45, 46, 47, 48, 49, 50, 51, 52, 53, 54, 55, 56, 57, 58, 59, 117, 118, 119, 120, 121, 122, 123, 124, 125, 126, 127, 128, 129, 130, 131, 132, 133, 134, 135, 136, 137, 138, 139] (by decide +kernel) (by decide +kernel)
set_option maxRecDepth 20000 in
theorem gX4_found_X4_layAll : GoodIn wsX4_found (wsV RX4 124 RX4 yX4_layAll wsX4_layAll) := goodIn_app (goodIn_of _ (by decide +kernel)) ggX4_found_X4_layAll
set_option maxRecDepth 20000 in
theorem ggX4_found_X4_strongest : GoodIn wsX4_found wsX4_strongest := goodIn_r _ [63, 64, 65, 66, 67, 5, 68, 69, 70, 25, 71, 72, 73, 74, 75, 76, 11, 77, 78, 79, 80, 81, 82, 83, 15, 84, 31, 85, 86, 87, 88, 89, 90, 91, 92, 93, 94, 95, 96, 58, 97, 98, 99, 100, 101, 54, 102, 103, 104, 105, 117, 118, 119, 120, 121, 122, 123, 124, 125, 126, 127, 128, 129, 130, 131, 132, 133, 134, 135, 136] (by decide +kernel) (by decide +kernel)
set_option maxRecDepth 20000 in
theorem gX4_found_X4_strongest : GoodIn wsX4_found (wsV RX4 169 RX4 yX4_strongest wsX4_strongest) := goodIn_app (goodIn_of _ (by decide +kernel)) ggX4_found_X4_strongest
set_option maxRecDepth 20000 in
theorem ggX4_found_X4_takeAway : GoodIn wsX4_found wsX4_takeAway := goodIn_r _ [109, 76, 11, 72, 73, 74, 5, 75, 77, 78, 79, 80, 81, 82, 83, 15, 84, 31, 85, 86, 87, 88, 89, 90, 91, 92, 93, 94, 95, 96, 58, 97, 98, 99, 100, 101, 54, 110, 57, 59, 111, 112, 113, 114, 33, 32, 115, 45, 46, 37, 47, 39, 48, 116, 50, 51, 52, 53, 55, 56, 117, 118, 119, 120, 121, 122, 123, 124, 125, 126, 127, 128, 129, 130, 131, 132, 133, 134, 135, 136, 137, 138, 139] (by decide +kernel) (by decide +kernel)
set_option maxRecDepth 20000 in
theorem gX4_found_X4_takeAway : GoodIn wsX4_found (wsV RX4 172 RX4 yX4_takeAway wsX4_takeAway) := goodIn_app (goodIn_of _ (by decide +kernel)) ggX4_found_X4_takeAway
set_option maxRecDepth 20000 in
theorem ggX4_calibrated_X4_isElement : GoodIn wsX4_calibrated wsX4_isElement := goodIn_r _ [8, 9, 3, 21, 22, 23, 24, 25, 26, 27, 28, 29] (by decide +kernel) (by decide +kernel)
set_option maxRecDepth 20000 in
theorem gX4_calibrated_X4_isElement : GoodIn wsX4_calibrated (wsV RX4 67 RX4 yX4_isElement wsX4_isElement) := goodIn_app (goodIn_of _ (by decide +kernel)) ggX4_calibrated_X4_isElement
set_option maxRecDepth 20000 in
theorem ggX4_calibrated_X0_getTrimLag : GoodIn wsX4_calibrated wsX0_getTrimLag := goodIn_r _ [14, 15, 30, 31, 32, 33, 34, 35, 36, 37, 38, 39, 40] (by decide +kernel) (by decide +kernel)
set_option maxRecDepth 20000 in
theorem gX4_calibrated_X0_getTrimLag : GoodIn wsX4_calibrated (wsV RX4 176 RX0 yX0_getTrimLag wsX0_getTrimLag) := goodIn_app (goodIn_of _ (by decide +kernel)) ggX4_calibrated_X0_getTrimLag
set_option maxRecDepth 20000 in
theorem ggX4_calibrated_X0_getTrimGain : GoodIn wsX4_calibrated wsX0_getTrimGain := goodIn_r _ [19, 20, 30, 31, 32, 33, 34, 35, 36, 37, 38, 39, 40] (by decide +kernel) (by decide +kernel)
set_option maxRecDepth 20000 in
theorem gX4_calibrated_X0_getTrimGain : GoodIn wsX4_calibrated (wsV RX4 179 RX0 yX0_getTrimGain wsX0_getTrimGain) := goodIn_app (goodIn_of _ (by decide +kernel)) ggX4_calibrated_X0_getTrimGain
set_option maxRecDepth 20000 in
theorem ggX4_isBearing_X4_isWithin : GoodIn wsX4_isBearing wsX4_isWithin := goodIn_r _ [4] (by decide +kernel) (by decide +kernel)
set_option maxRecDepth 20000 in
theorem gX4_isBearing_X4_isWithin : GoodIn wsX4_isBearing (va_wsS RX4 41 yX4_isWithin wsX4_isWithin) := goodIn_app (goodIn_of _ (by decide +kernel)) ggX4_isBearing_X4_isWithin
set_option maxRecDepth 20000 in
theorem ggX4_hearOneTick_X0_isUp : GoodIn wsX4_hearOneTick wsX0_isUp := goodIn_r _ [8, 9, 88, 89, 90, 91, 92, 93, 94, 95, 96, 97, 98] (by decide +kernel) (by decide +kernel)
set_option maxRecDepth 20000 in
theorem gX4_hearOneTick_X0_isUp : GoodIn wsX4_hearOneTick (wsV RX4 182 RX0 yX0_isUp wsX0_isUp) := goodIn_app (goodIn_of _ (by decide +kernel)) ggX4_hearOneTick_X0_isUp
set_option maxRecDepth 20000 in
theorem ggX4_hearOneTick_X1_draw : GoodIn wsX4_hearOneTick wsX1_draw := goodIn_r _ [14, 15, 16, 17, 99, 100] (by decide +kernel) (by decide +kernel)
set_option maxRecDepth 20000 in
theorem gX4_hearOneTick_X1_draw : GoodIn wsX4_hearOneTick (wsV RX4 185 RX1 yX1_draw wsX1_draw) := goodIn_app (goodIn_of _ (by decide +kernel)) ggX4_hearOneTick_X1_draw
set_option maxRecDepth 20000 in
theorem ggX4_hearOneTick_X0_isLiving : GoodIn wsX4_hearOneTick wsX0_isLiving := goodIn_r _ [21, 22, 88, 89, 90, 91, 92, 93, 94, 95, 96, 97, 98] (by decide +kernel) (by decide +kernel)
set_option maxRecDepth 20000 in
theorem gX4_hearOneTick_X0_isLiving : GoodIn wsX4_hearOneTick (wsV RX4 76 RX0 yX0_isLiving wsX0_isLiving) := goodIn_app (goodIn_of _ (by decide +kernel)) ggX4_hearOneTick_X0_isLiving
set_option maxRecDepth 20000 in
theorem ggX4_hearOneTick_X4_wavesAt : GoodIn wsX4_hearOneTick wsX4_wavesAt := goodIn_r _ [27, 28, 29, 3, 30, 31, 32, 33, 34, 35, 36, 37, 38, 7, 39, 40, 41, 42, 43, 44, 45, 46, 47, 48, 49, 50, 51, 52, 53, 54, 55, 56, 57, 58, 79, 80, 81, 82, 83, 84, 85, 86, 87, 101, 102, 103, 88, 89, 90, 91, 92, 93, 94, 95, 96, 97, 98] (by decide +kernel) (by decide +kernel)
set_option maxRecDepth 20000 in
theorem gX4_hearOneTick_X4_wavesAt : GoodIn wsX4_hearOneTick (wsV RX4 188 RX4 yX4_wavesAt wsX4_wavesAt) := goodIn_app (goodIn_of _ (by decide +kernel)) ggX4_hearOneTick_X4_wavesAt
set_option maxRecDepth 20000 in
theorem ggX4_hearOneTick_X0_heardOf : GoodIn wsX4_hearOneTick wsX0_heardOf := goodIn_r _ [62, 63, 41, 42, 43, 44, 88, 89, 90, 91, 92, 93, 94, 95, 96, 97, 98] (by decide +kernel) (by decide +kernel)
set_option maxRecDepth 20000 in
theorem gX4_hearOneTick_X0_heardOf : GoodIn wsX4_hearOneTick (wsV RX4 192 RX0 yX0_heardOf wsX0_heardOf) := goodIn_app (goodIn_of _ (by decide +kernel)) ggX4_hearOneTick_X0_heardOf
set_option maxRecDepth 20000 in
theorem ggX4_hearOneTick_X0_keep : GoodIn wsX4_hearOneTick wsX0_keep := goodIn_r _ [67, 68, 69, 70, 71, 72, 73, 74, 75, 76, 77, 78, 88, 89, 90, 91, 92, 93, 94, 95, 96, 97, 98, 104, 105, 106] (by decide +kernel) (by decide +kernel)
set_option maxRecDepth 20000 in
theorem gX4_hearOneTick_X0_keep : GoodIn wsX4_hearOneTick (wsV RX4 195 RX0 yX0_keep wsX0_keep) := goodIn_app (goodIn_of _ (by decide +kernel)) ggX4_hearOneTick_X0_keep
set_option maxRecDepth 20000 in
theorem ggX4_wavesAt_X2_getBearing : GoodIn wsX4_wavesAt wsX2_getBearing := goodIn_r _ [8, 9, 43, 44, 45] (by decide +kernel) (by decide +kernel)
set_option maxRecDepth 20000 in
theorem gX4_wavesAt_X2_getBearing : GoodIn wsX4_wavesAt (wsV RX4 198 RX2 yX2_getBearing wsX2_getBearing) := goodIn_app (goodIn_of _ (by decide +kernel)) ggX4_wavesAt_X2_getBearing
set_option maxRecDepth 20000 in
theorem ggX4_wavesAt_X0_delayFor : GoodIn wsX4_wavesAt wsX0_delayFor := goodIn_r _ [14, 15, 16, 17, 18, 19, 46, 47, 48, 49, 50, 51, 52, 53, 54, 55, 56] (by decide +kernel) (by decide +kernel)
set_option maxRecDepth 20000 in
theorem gX4_wavesAt_X0_delayFor : GoodIn wsX4_wavesAt (wsV RX4 201 RX0 yX0_delayFor wsX0_delayFor) := goodIn_app (goodIn_of _ (by decide +kernel)) ggX4_wavesAt_X0_delayFor
set_option maxRecDepth 20000 in
theorem ggX4_wavesAt_X0_getLag : GoodIn wsX4_wavesAt wsX0_getLag := goodIn_r _ [23, 24, 46, 47, 48, 49, 50, 51, 52, 53, 54, 55, 56] (by decide +kernel) (by decide +kernel)
set_option maxRecDepth 20000 in
theorem gX4_wavesAt_X0_getLag : GoodIn wsX4_wavesAt (wsV RX4 204 RX0 yX0_getLag wsX0_getLag) := goodIn_app (goodIn_of _ (by decide +kernel)) ggX4_wavesAt_X0_getLag
set_option maxRecDepth 20000 in
theorem ggX4_wavesAt_X2_waveAt : GoodIn wsX4_wavesAt wsX2_waveAt := goodIn_r _ [28, 29, 30, 31, 32, 18, 33, 43, 44, 45] (by decide +kernel) (by decide +kernel)
set_option maxRecDepth 20000 in
theorem gX4_wavesAt_X2_waveAt : GoodIn wsX4_wavesAt (wsV RX4 207 RX2 yX2_waveAt wsX2_waveAt) := goodIn_app (goodIn_of _ (by decide +kernel)) ggX4_wavesAt_X2_waveAt
set_option maxRecDepth 20000 in
theorem ggX4_layAll_X0_isLiving : GoodIn wsX4_layAll wsX0_isLiving := goodIn_r _ [6, 7, 60, 61, 62, 63, 64, 65, 66, 67, 68, 69, 70] (by decide +kernel) (by decide +kernel)
set_option maxRecDepth 20000 in
theorem gX4_layAll_X0_isLiving : GoodIn wsX4_layAll (wsV RX4 76 RX0 yX0_isLiving wsX0_isLiving) := goodIn_app (goodIn_of _ (by decide +kernel)) ggX4_layAll_X0_isLiving
set_option maxRecDepth 20000 in
theorem ggX4_layAll_X4_weightOf : GoodIn wsX4_layAll wsX4_weightOf := goodIn_r _ [12, 13, 14, 15, 16, 17, 51, 52, 53, 54, 55, 56, 57, 58, 59] (by decide +kernel) (by decide +kernel)
set_option maxRecDepth 20000 in
theorem gX4_layAll_X4_weightOf : GoodIn wsX4_layAll (wsV RX4 210 RX4 yX4_weightOf wsX4_weightOf) := goodIn_app (goodIn_of _ (by decide +kernel)) ggX4_layAll_X4_weightOf
set_option maxRecDepth 20000 in
theorem ggX4_layAll_X0_layOut : GoodIn wsX4_layAll wsX0_layOut := goodIn_r _ [21, 22, 23, 24, 25, 26, 27, 28, 29, 30, 31, 32, 33, 34, 35, 36, 37, 38, 39, 40, 41, 42, 5, 43, 44, 45, 46, 47, 48, 49, 50, 60, 61, 62, 63, 64, 65, 66, 67, 68, 69, 70, 71, 72, 73] (by decide +kernel) (by decide +kernel)
set_option maxRecDepth 20000 in
theorem gX4_layAll_X0_layOut : GoodIn wsX4_layAll (wsV RX4 214 RX0 yX0_layOut wsX0_layOut) := goodIn_app (goodIn_of _ (by decide +kernel)) ggX4_layAll_X0_layOut
set_option maxRecDepth 20000 in
theorem ggX4_steer_J7_fill_d0a16 : GoodIn wsX4_steer wsJ7_fill_d0a16 := goodIn_r _ [6] (by decide +kernel) (by decide +kernel)
set_option maxRecDepth 20000 in
theorem gX4_steer_J7_fill_d0a16 : GoodIn wsX4_steer (va_wsS RX4 222 yJ7_fill_d0a16 wsJ7_fill_d0a16) := goodIn_app (goodIn_of _ (by decide +kernel)) ggX4_steer_J7_fill_d0a16
set_option maxRecDepth 20000 in
theorem ggX4_steer_X0_tellTo : GoodIn wsX4_steer wsX0_tellTo := goodIn_r _ [11, 12, 13, 14, 15, 10, 16, 17, 18, 19, 20, 21, 22, 23, 24, 25, 26, 27, 28, 29, 30, 31, 41, 42, 43, 44, 45, 46, 47, 48, 49, 50, 51] (by decide +kernel) (by decide +kernel)
set_option maxRecDepth 20000 in
theorem gX4_steer_X0_tellTo : GoodIn wsX4_steer (wsV RX4 228 RX0 yX0_tellTo wsX0_tellTo) := goodIn_app (goodIn_of _ (by decide +kernel)) ggX4_steer_X0_tellTo
set_option maxRecDepth 20000 in
theorem ggX4_powerBySums_X4_steer : GoodIn wsX4_powerBySums wsX4_steer := goodIn_r _ [5, 6, 7, 8, 9, 10, 11, 12, 13, 14, 15, 16, 17, 18, 19, 20, 21, 22, 23, 24, 25, 26, 27, 28, 29, 30, 31, 32, 33, 34, 35, 36, 41, 42, 43, 44, 45, 46, 47, 48, 49, 50, 51, 52, 53, 54, 55, 56, 57, 58, 59, 60] (by decide +kernel) (by decide +kernel)
set_option maxRecDepth 20000 in
theorem gX4_powerBySums_X4_steer : GoodIn wsX4_powerBySums (wsV RX4 146 RX4 yX4_steer wsX4_steer) := goodIn_app (goodIn_of _ (by decide +kernel)) ggX4_powerBySums_X4_steer
set_option maxRecDepth 20000 in
theorem ggX4_powerBySums_X4_squaresOfSums : GoodIn wsX4_powerBySums wsX4_squaresOfSums := goodIn_r _ [40, 6, 41, 42, 43, 44, 45, 46, 47, 48, 49] (by decide +kernel) (by decide +kernel)
set_option maxRecDepth 20000 in
theorem gX4_powerBySums_X4_squaresOfSums : GoodIn wsX4_powerBySums (wsV RX4 232 RX4 yX4_squaresOfSums wsX4_squaresOfSums) := goodIn_app (goodIn_of _ (by decide +kernel)) ggX4_powerBySums_X4_squaresOfSums
set_option maxRecDepth 20000 in
theorem ggX4_powerByPairs_X0_toldWith : GoodIn wsX4_powerByPairs wsX0_toldWith := goodIn_r _ [6, 7, 8, 9, 10, 5, 11, 12, 13, 14, 15, 16, 17, 18, 19, 20, 21, 22, 23, 24, 25, 26, 36, 37, 38, 39, 40, 41, 42, 43, 44, 45, 46] (by decide +kernel) (by decide +kernel)
set_option maxRecDepth 20000 in
theorem gX4_powerByPairs_X0_toldWith : GoodIn wsX4_powerByPairs (wsV RX4 235 RX0 yX0_toldWith wsX0_toldWith) := goodIn_app (goodIn_of _ (by decide +kernel)) ggX4_powerByPairs_X0_toldWith
set_option maxRecDepth 20000 in
theorem ggX4_fillPowers_X4_steer : GoodIn wsX4_fillPowers wsX4_steer := goodIn_r _ [10, 11, 12, 13, 14, 15, 16, 17, 18, 19, 20, 21, 22, 23, 24, 25, 26, 27, 28, 29, 30, 31, 32, 33, 34, 35, 36, 37, 38, 39, 40, 41, 46, 47, 48, 49, 50, 51, 52, 53, 54, 55, 56, 57, 58, 59, 60, 61, 62, 63, 64, 65] (by decide +kernel) (by decide +kernel)
set_option maxRecDepth 20000 in
theorem gX4_fillPowers_X4_steer : GoodIn wsX4_fillPowers (wsV RX4 146 RX4 yX4_steer wsX4_steer) := goodIn_app (goodIn_of _ (by decide +kernel)) ggX4_fillPowers_X4_steer
set_option maxRecDepth 20000 in
theorem ggX4_fillPowers_X4_squaresOfSums : GoodIn wsX4_fillPowers wsX4_squaresOfSums := goodIn_r _ [45, 11, 46, 47, 48, 49, 50, 51, 52, 53, 54] (by decide +kernel) (by decide +kernel)
set_option maxRecDepth 20000 in
theorem gX4_fillPowers_X4_squaresOfSums : GoodIn wsX4_fillPowers (wsV RX4 232 RX4 yX4_squaresOfSums wsX4_squaresOfSums) := goodIn_app (goodIn_of _ (by decide +kernel)) ggX4_fillPowers_X4_squaresOfSums
set_option maxRecDepth 20000 in
theorem ggX4_isPeak_X4_powerAt : GoodIn wsX4_isPeak wsX4_powerAt := goodIn_r _ [5, 6, 7, 8, 9, 10, 11, 12, 13, 14, 15] (by decide +kernel) (by decide +kernel)
set_option maxRecDepth 20000 in
theorem gX4_isPeak_X4_powerAt : GoodIn wsX4_isPeak (wsV RX4 243 RX4 yX4_powerAt wsX4_powerAt) := goodIn_app (goodIn_of _ (by decide +kernel)) ggX4_isPeak_X4_powerAt
set_option maxRecDepth 20000 in
theorem ggX4_strongest_X4_fillPowers : GoodIn wsX4_strongest wsX4_fillPowers := goodIn_r _ [6, 1, 7, 8, 9, 10, 11, 12, 13, 5, 14, 15, 16, 17, 18, 19, 20, 21, 22, 23, 24, 25, 26, 27, 28, 29, 30, 31, 32, 33, 34, 35, 36, 37, 38, 39, 40, 41, 42, 43, 44, 45, 46, 47, 48, 49, 50, 51, 52, 53, 54, 55, 56, 57, 58, 59, 60, 61, 62, 63, 64, 65, 66, 67, 68, 69] (by decide +kernel) (by decide +kernel)
set_option maxRecDepth 20000 in
theorem gX4_strongest_X4_fillPowers : GoodIn wsX4_strongest (wsV RX4 159 RX4 yX4_fillPowers wsX4_fillPowers) := goodIn_app (goodIn_of _ (by decide +kernel)) ggX4_strongest_X4_fillPowers
set_option maxRecDepth 20000 in
theorem ggX4_takeAway_X4_steer : GoodIn wsX4_takeAway wsX4_steer := goodIn_r _ [7, 1, 2, 8, 9, 10, 11, 12, 13, 14, 15, 16, 17, 18, 19, 20, 21, 22, 23, 24, 25, 26, 27, 28, 29, 30, 31, 32, 33, 34, 35, 36, 60, 61, 62, 63, 64, 65, 66, 67, 68, 69, 70, 71, 72, 73, 74, 75, 76, 77, 78, 79] (by decide +kernel) (by decide +kernel)
set_option maxRecDepth 20000 in
theorem gX4_takeAway_X4_steer : GoodIn wsX4_takeAway (wsV RX4 146 RX4 yX4_steer wsX4_steer) := goodIn_app (goodIn_of _ (by decide +kernel)) ggX4_takeAway_X4_steer
set_option maxRecDepth 20000 in
theorem ggX4_takeAway_J9_floorDiv_f86c9 : GoodIn wsX4_takeAway wsJ9_floorDiv_f86c9 := goodIn_r _ [39] (by decide +kernel) (by decide +kernel)
set_option maxRecDepth 20000 in
theorem gX4_takeAway_J9_floorDiv_f86c9 : GoodIn wsX4_takeAway (va_wsS RX4 246 yJ9_floorDiv_f86c9 wsJ9_floorDiv_f86c9) := goodIn_app (goodIn_of _ (by decide +kernel)) ggX4_takeAway_J9_floorDiv_f86c9
set_option maxRecDepth 20000 in
theorem ggX4_takeAway_X0_takeAway : GoodIn wsX4_takeAway wsX0_takeAway := goodIn_r _ [43, 17, 44, 45, 18, 19, 20, 15, 21, 22, 23, 24, 25, 26, 27, 28, 29, 30, 31, 46, 47, 48, 49, 50, 51, 52, 69, 70, 71, 72, 73, 74, 75, 76, 77, 78, 79, 80, 81, 82] (by decide +kernel) (by decide +kernel)
set_option maxRecDepth 20000 in
theorem gX4_takeAway_X0_takeAway : GoodIn wsX4_takeAway (wsV RX4 249 RX0 yX0_takeAway wsX0_takeAway) := goodIn_app (goodIn_of _ (by decide +kernel)) ggX4_takeAway_X0_takeAway
set_option maxRecDepth 20000 in
theorem ggX4_takeAway_X0_turnAll : GoodIn wsX4_takeAway wsX0_turnAll := goodIn_r _ [56, 17, 57, 36, 45, 58, 59, 38, 30, 39, 69, 70, 71, 72, 73, 74, 75, 76, 77, 78, 79] (by decide +kernel) (by decide +kernel)
set_option maxRecDepth 20000 in
theorem gX4_takeAway_X0_turnAll : GoodIn wsX4_takeAway (wsV RX4 252 RX0 yX0_turnAll wsX0_turnAll) := goodIn_app (goodIn_of _ (by decide +kernel)) ggX4_takeAway_X0_turnAll
set_option maxRecDepth 20000 in
theorem ggX4_lowestLiving_X0_isLiving : GoodIn wsX4_lowestLiving wsX0_isLiving := goodIn_r _ [6, 7, 17, 18, 19, 20, 21, 22, 23, 24, 25, 26, 27] (by decide +kernel) (by decide +kernel)
set_option maxRecDepth 20000 in
theorem gX4_lowestLiving_X0_isLiving : GoodIn wsX4_lowestLiving (wsV RX4 76 RX0 yX0_isLiving wsX0_isLiving) := goodIn_app (goodIn_of _ (by decide +kernel)) ggX4_lowestLiving_X0_isLiving
set_option maxRecDepth 20000 in
theorem ggX4_holdTo_X0_trim : GoodIn wsX4_holdTo wsX0_trim := goodIn_r _ [6, 7, 8, 58, 59, 60, 61, 62, 63, 64, 65, 66, 67, 68] (by decide +kernel) (by decide +kernel)
set_option maxRecDepth 20000 in
theorem gX4_holdTo_X0_trim : GoodIn wsX4_holdTo (wsV RX4 255 RX0 yX0_trim wsX0_trim) := goodIn_app (goodIn_of _ (by decide +kernel)) ggX4_holdTo_X0_trim
set_option maxRecDepth 20000 in
theorem ggX4_holdTo_X0_isLiving : GoodIn wsX4_holdTo wsX0_isLiving := goodIn_r _ [12, 13, 58, 59, 60, 61, 62, 63, 64, 65, 66, 67, 68] (by decide +kernel) (by decide +kernel)
set_option maxRecDepth 20000 in
theorem gX4_holdTo_X0_isLiving : GoodIn wsX4_holdTo (wsV RX4 76 RX0 yX0_isLiving wsX0_isLiving) := goodIn_app (goodIn_of _ (by decide +kernel)) ggX4_holdTo_X0_isLiving
set_option maxRecDepth 20000 in
theorem ggX4_holdTo_X4_fit : GoodIn wsX4_holdTo wsX4_fit := goodIn_r _ [17, 18, 19, 20, 21, 22, 23, 24, 25, 26, 27, 28, 29, 30, 5, 31, 32, 33, 34, 35, 36, 37, 38, 39, 40, 41, 42, 43, 44, 45, 46, 47, 48, 2, 3, 4, 6, 7, 8, 58, 59, 60, 61, 62, 63, 64, 65, 66, 67, 68] (by decide +kernel) (by decide +kernel)
set_option maxRecDepth 20000 in
theorem gX4_holdTo_X4_fit : GoodIn wsX4_holdTo (va_wsS RX4 259 yX4_fit wsX4_fit) := goodIn_app (goodIn_of _ (by decide +kernel)) ggX4_holdTo_X4_fit
set_option maxRecDepth 20000 in
theorem ggX4_fit_X0_agreement : GoodIn wsX4_fit wsX0_agreement := goodIn_r _ [15, 16, 17, 18, 14, 19, 20, 21, 22, 23, 24, 25, 26, 27, 28, 29, 39, 40, 41, 42, 43, 44, 45, 46, 47, 48, 49] (by decide +kernel) (by decide +kernel)
set_option maxRecDepth 20000 in
theorem gX4_fit_X0_agreement : GoodIn wsX4_fit (wsV RX4 128 RX0 yX0_agreement wsX0_agreement) := goodIn_app (goodIn_of _ (by decide +kernel)) ggX4_fit_X0_agreement
set_option maxRecDepth 20000 in
theorem ggX4_fit_J9_floorDiv_f86c9 : GoodIn wsX4_fit wsJ9_floorDiv_f86c9 := goodIn_r _ [32] (by decide +kernel) (by decide +kernel)
set_option maxRecDepth 20000 in
theorem gX4_fit_J9_floorDiv_f86c9 : GoodIn wsX4_fit (va_wsS RX4 246 yJ9_floorDiv_f86c9 wsJ9_floorDiv_f86c9) := goodIn_app (goodIn_of _ (by decide +kernel)) ggX4_fit_J9_floorDiv_f86c9
set_option maxRecDepth 20000 in
theorem ggX4_fit_X0_trim : GoodIn wsX4_fit wsX0_trim := goodIn_r _ [36, 37, 38, 39, 40, 41, 42, 43, 44, 45, 46, 47, 48, 49] (by decide +kernel) (by decide +kernel)
set_option maxRecDepth 20000 in
theorem gX4_fit_X0_trim : GoodIn wsX4_fit (wsV RX4 255 RX0 yX0_trim wsX0_trim) := goodIn_app (goodIn_of _ (by decide +kernel)) ggX4_fit_X0_trim
set_option maxRecDepth 20000 in
theorem ggL_act_X4_element : GoodIn wsL_act wsX4_element := goodIn_ca (goodIn_ca (goodIn_r _ [11, 12, 13, 14, 15, 16, 17, 18, 19, 20, 10, 21, 22, 23, 24, 25, 26, 27, 28, 29, 30, 31, 32, 33, 34, 35, 36, 37, 38, 39, 313, 314, 315, 316, 317, 318, 319, 320, 321, 322, 323, 324, 325, 326, 327, 328, 329, 330, 331, 332, 333, 334, 335] (by decide +kernel) (by decide +kernel)) (goodIn_sub (fun _ h => List.mem_cons_of_mem _ (List.mem_append_left _ (List.mem_append_left _ (List.mem_append_right _ h)))) (by decide +kernel))) (goodIn_sub (fun _ h => List.mem_cons_of_mem _ (List.mem_append_left _ (List.mem_append_right _ h))) (by decide +kernel))
set_option maxRecDepth 20000 in
theorem gL_act_X4_element : GoodIn wsL_act (wsV RL 9 RX4 yX4_element wsX4_element) := goodIn_app (goodIn_of _ (by decide +kernel)) ggL_act_X4_element
set_option maxRecDepth 20000 in
theorem ggL_act_X4_alive : GoodIn wsL_act wsX4_alive := goodIn_ca (goodIn_r _ [43, 44, 45, 17, 46, 47, 48, 10, 49, 16, 50, 51, 52, 25, 53, 28, 54, 55, 56, 57, 313, 314, 315, 316, 317, 318, 319, 320, 321, 322, 323, 324, 325, 326, 327, 328, 329, 330, 331, 332] (by decide +kernel) (by decide +kernel)) (goodIn_sub (fun _ h => List.mem_cons_of_mem _ (List.mem_append_right _ h)) (by decide +kernel))
set_option maxRecDepth 20000 in
theorem gL_act_X4_alive : GoodIn wsL_act (wsV RL 15 RX4 yX4_alive wsX4_alive) := goodIn_app (goodIn_of _ (by decide +kernel)) ggL_act_X4_alive
set_option maxRecDepth 20000 in
theorem ggL_act_X4_source : GoodIn wsL_act wsX4_source := goodIn_ca (goodIn_ca (goodIn_ca (goodIn_r _ [61, 44, 45, 12, 13, 14, 15, 62, 63, 64, 65, 10, 66, 19, 20, 21, 67, 68, 69, 70, 71, 72, 73, 74, 313, 314, 315, 316, 317, 318, 319, 320, 321, 336, 337, 338] (by decide +kernel) (by decide +kernel)) (goodIn_sub (fun _ h => List.mem_cons_of_mem _ (List.mem_append_right _ h)) (by decide +kernel))) (goodIn_sub (fun _ h => List.mem_cons_of_mem _ (List.mem_append_left _ (List.mem_append_left _ (List.mem_append_right _ h)))) (by decide +kernel))) (goodIn_sub (fun _ h => List.mem_cons_of_mem _ (List.mem_append_left _ (List.mem_append_right _ h))) (by decide +kernel))
set_option maxRecDepth 20000 in
theorem gL_act_X4_source : GoodIn wsL_act (wsV RL 19 RX4 yX4_source wsX4_source) := goodIn_app (goodIn_of _ (by decide +kernel)) ggL_act_X4_source
set_option maxRecDepth 20000 in
theorem ggL_act_X4_noise : GoodIn wsL_act wsX4_noise := goodIn_ca (goodIn_r _ [78, 12, 13, 79, 80, 19, 20, 10, 21, 81, 82, 83, 84, 85, 86, 87, 88, 89, 90, 91, 313, 314, 315, 316, 317, 318, 319, 320, 321, 339, 340] (by decide +kernel) (by decide +kernel)) (goodIn_sub (fun _ h => List.mem_cons_of_mem _ (List.mem_append_left _ (List.mem_append_left _ (List.mem_append_right _ h)))) (by decide +kernel))
set_option maxRecDepth 20000 in
theorem gL_act_X4_noise : GoodIn wsL_act (wsV RL 22 RX4 yX4_noise wsX4_noise) := goodIn_app (goodIn_of _ (by decide +kernel)) ggL_act_X4_noise
set_option maxRecDepth 20000 in
theorem ggL_act_X4_hear : GoodIn wsL_act wsX4_hear := goodIn_ca (goodIn_r _ [95, 12, 13, 18, 19, 20, 10, 21, 96, 97, 98, 99, 17, 80, 100, 101, 102, 25, 103, 27, 104, 105, 106, 84, 107, 91, 108, 86, 50, 51, 52, 53, 28, 109, 110, 111, 112, 62, 63, 113, 114, 115, 70, 116, 72, 117, 118, 119, 120, 29, 121, 122, 123, 124, 125, 126, 127, 128, 31, 129, 130, 131, 132, 74, 73, 133, 134, 135, 136, 137, 138, 139, 30, 140, 141, 142, 143, 32, 144, 145, 146, 36, 147, 39, 148, 149, 150, 151, 313, 314, 315, 316, 317, 318, 319, 320, 321, 322, 323, 324, 325, 326, 327, 328, 329, 330, 331, 332, 339, 340, 336, 337, 338, 333, 334, 335] (by decide +kernel) (by decide +kernel)) (goodIn_sub (fun _ h => List.mem_cons_of_mem _ (List.mem_append_left _ (List.mem_append_left _ (List.mem_append_right _ h)))) (by decide +kernel))
set_option maxRecDepth 20000 in
theorem gL_act_X4_hear : GoodIn wsL_act (wsV RL 26 RX4 yX4_hear wsX4_hear) := goodIn_app (goodIn_of _ (by decide +kernel)) ggL_act_X4_hear
set_option maxRecDepth 20000 in
theorem ggL_act_X4_window : GoodIn wsL_act wsX4_window := goodIn_ca (goodIn_r _ [155, 12, 13, 156, 19, 20, 10, 21, 313, 314, 315, 316, 317, 318, 319, 320, 321] (by decide +kernel) (by decide +kernel)) (goodIn_sub (fun _ h => List.mem_cons_of_mem _ (List.mem_append_left _ (List.mem_append_left _ (List.mem_append_right _ h)))) (by decide +kernel))
set_option maxRecDepth 20000 in
theorem gL_act_X4_window : GoodIn wsL_act (wsV RL 30 RX4 yX4_window wsX4_window) := goodIn_app (goodIn_of _ (by decide +kernel)) ggL_act_X4_window
set_option maxRecDepth 20000 in
theorem ggL_act_X4_calibrate : GoodIn wsL_act wsX4_calibrate := goodIn_ca (goodIn_ca (goodIn_r _ [160, 44, 45, 14, 15, 64, 65, 10, 66, 19, 20, 21, 161, 162, 163, 164, 17, 50, 51, 52, 25, 53, 28, 165, 166, 167, 168, 169, 170, 171, 172, 156, 173, 174, 175, 176, 177, 178, 179, 180, 181, 182, 32, 183, 184, 185, 36, 186, 39, 148, 149, 150, 151, 187, 188, 189, 190, 38, 191, 192, 193, 194, 195, 196, 197, 198, 199, 123, 200, 201, 202, 203, 204, 205, 118, 119, 120, 29, 121, 122, 124, 206, 207, 208, 209, 210, 211, 212, 213, 214, 215, 216, 217, 218, 219, 220, 221, 222, 223, 224, 225, 226, 227, 228, 229, 230, 231, 313, 314, 315, 316, 317, 318, 319, 320, 321, 322, 323, 324, 325, 326, 327, 328, 329, 330, 331, 332, 333, 334, 335] (by decide +kernel) (by decide +kernel)) (goodIn_sub (fun _ h => List.mem_cons_of_mem _ (List.mem_append_right _ h)) (by decide +kernel))) (goodIn_sub (fun _ h => List.mem_cons_of_mem _ (List.mem_append_left _ (List.mem_append_right _ h))) (by decide +kernel))
set_option maxRecDepth 20000 in
theorem gL_act_X4_calibrate : GoodIn wsL_act (wsV RL 33 RX4 yX4_calibrate wsX4_calibrate) := goodIn_app (goodIn_of _ (by decide +kernel)) ggL_act_X4_calibrate
set_option maxRecDepth 20000 in
theorem ggL_act_X4_sample : GoodIn wsL_act wsX4_sample := goodIn_ca (goodIn_r _ [235, 44, 45, 17, 46, 47, 48, 10, 49, 16, 19, 20, 21, 236, 237, 238, 25, 239, 32, 183, 184, 185, 36, 186, 39, 148, 149, 150, 151, 187, 188, 189, 190, 38, 313, 314, 315, 316, 317, 318, 319, 320, 321, 322, 323, 324, 325, 326, 327, 328, 329, 330, 331, 332, 333, 334, 335] (by decide +kernel) (by decide +kernel)) (goodIn_sub (fun _ h => List.mem_cons_of_mem _ (List.mem_append_right _ h)) (by decide +kernel))
set_option maxRecDepth 20000 in
theorem gL_act_X4_sample : GoodIn wsL_act (wsV RL 36 RX4 yX4_sample wsX4_sample) := goodIn_app (goodIn_of _ (by decide +kernel)) ggL_act_X4_sample
set_option maxRecDepth 20000 in
theorem ggL_act_X4_peaks : GoodIn wsL_act wsX4_peaks := goodIn_ca (goodIn_r _ [243, 12, 13, 244, 245, 19, 20, 10, 21, 165, 166, 167, 168, 17, 50, 51, 52, 25, 53, 28, 169, 170, 171, 172, 156, 173, 174, 175, 176, 177, 178, 179, 180, 181, 182, 32, 183, 184, 185, 36, 186, 39, 148, 149, 150, 151, 187, 188, 189, 190, 38, 191, 192, 193, 194, 195, 196, 197, 198, 199, 123, 200, 246, 247, 248, 249, 228, 229, 230, 250, 251, 252, 253, 254, 255, 256, 257, 258, 259, 260, 261, 262, 263, 264, 265, 266, 218, 205, 118, 119, 120, 29, 121, 122, 124, 267, 268, 269, 270, 271, 272, 273, 274, 275, 276, 277, 278, 279, 280, 281, 282, 313, 314, 315, 316, 317, 318, 319, 320, 321, 322, 323, 324, 325, 326, 327, 328, 329, 330, 331, 332, 333, 334, 335] (by decide +kernel) (by decide +kernel)) (goodIn_sub (fun _ h => List.mem_cons_of_mem _ (List.mem_append_left _ (List.mem_append_left _ (List.mem_append_right _ h)))) (by decide +kernel))
set_option maxRecDepth 20000 in
theorem gL_act_X4_peaks : GoodIn wsL_act (wsV RL 39 RX4 yX4_peaks wsX4_peaks) := goodIn_app (goodIn_of _ (by decide +kernel)) ggL_act_X4_peaks
set_option maxRecDepth 20000 in
theorem ggL_act_X4_found : GoodIn wsL_act wsX4_found := goodIn_ca (goodIn_r _ [286, 44, 45, 19, 20, 10, 21, 165, 166, 167, 168, 17, 50, 51, 52, 25, 53, 28, 169, 170, 171, 172, 156, 173, 174, 175, 176, 177, 178, 179, 180, 181, 182, 32, 183, 184, 185, 36, 186, 39, 148, 149, 150, 151, 187, 188, 189, 190, 38, 191, 192, 193, 194, 195, 196, 197, 198, 199, 123, 200, 287, 288, 289, 290, 244, 246, 247, 248, 249, 228, 229, 230, 250, 251, 252, 253, 254, 255, 256, 257, 258, 259, 260, 261, 262, 263, 264, 265, 266, 218, 205, 118, 119, 120, 29, 121, 122, 124, 267, 268, 269, 270, 271, 272, 273, 274, 291, 292, 293, 294, 231, 295, 296, 297, 298, 299, 300, 313, 314, 315, 316, 317, 318, 319, 320, 321, 322, 323, 324, 325, 326, 327, 328, 329, 330, 331, 332, 333, 334, 335] (by decide +kernel) (by decide +kernel)) (goodIn_sub (fun _ h => List.mem_cons_of_mem _ (List.mem_append_right _ h)) (by decide +kernel))
set_option maxRecDepth 20000 in
theorem gL_act_X4_found : GoodIn wsL_act (wsV RL 42 RX4 yX4_found wsX4_found) := goodIn_app (goodIn_of _ (by decide +kernel)) ggL_act_X4_found
set_option maxRecDepth 20000 in
theorem ggL_act_X4_calibrated : GoodIn wsL_act wsX4_calibrated := goodIn_ca (goodIn_r _ [304, 44, 45, 17, 46, 47, 48, 10, 49, 16, 305, 306, 307, 25, 308, 218, 309, 310, 311, 312, 195, 313, 314, 315, 316, 317, 318, 319, 320, 321, 322, 323, 324, 325, 326, 327, 328, 329, 330, 331, 332] (by decide +kernel) (by decide +kernel)) (goodIn_sub (fun _ h => List.mem_cons_of_mem _ (List.mem_append_right _ h)) (by decide +kernel))
set_option maxRecDepth 20000 in
theorem gL_act_X4_calibrated : GoodIn wsL_act (wsV RL 45 RX4 yX4_calibrated wsX4_calibrated) := goodIn_app (goodIn_of _ (by decide +kernel)) ggL_act_X4_calibrated
set_option maxRecDepth 20000 in
theorem ggL_tells_X4_sum : GoodIn wsL_tells wsX4_sum := goodIn_ca (goodIn_r _ [7, 8, 9, 10, 11, 12, 6, 13, 14, 15, 16, 17, 18, 19, 20, 21, 22, 23, 24, 25, 26, 27, 28, 29, 30, 31, 32, 33, 34, 35, 36, 37, 38, 39, 40, 41, 42, 43, 44, 45, 46, 47, 48, 49, 50, 51, 52, 53, 54, 55, 56, 57, 58, 59, 60, 61, 62, 63, 64, 65, 66, 67, 68, 69, 70, 71, 72, 73, 74, 75, 76, 77, 78, 79, 80, 81, 82, 83, 84, 85, 86, 87, 88, 89, 90, 91, 92, 93, 94, 95, 96, 97, 98, 123, 124, 125, 126, 127, 128, 129, 130, 131, 132, 133, 134, 135, 136, 137, 138, 139, 140, 141, 142, 143, 144, 145] (by decide +kernel) (by decide +kernel)) (goodIn_sub (fun _ h => List.mem_cons_of_mem _ (List.mem_append_right _ h)) (by decide +kernel))
set_option maxRecDepth 20000 in
theorem gL_tells_X4_sum : GoodIn wsL_tells (wsV RL 58 RX4 yX4_sum wsX4_sum) := goodIn_app (goodIn_of _ (by decide +kernel)) ggL_tells_X4_sum
set_option maxRecDepth 20000 in
theorem ggL_tells_X4_power : GoodIn wsL_tells wsX4_power := goodIn_ca (goodIn_r _ [102, 8, 9, 11, 12, 6, 13, 14, 15, 16, 17, 18, 19, 20, 21, 22, 23, 24, 25, 26, 27, 28, 29, 30, 31, 32, 33, 34, 35, 36, 37, 38, 39, 40, 41, 42, 43, 44, 45, 46, 47, 48, 49, 50, 51, 52, 53, 54, 55, 56, 57, 58, 59, 60, 61, 62, 63, 64, 65, 66, 67, 68, 69, 103, 104, 105, 106, 70, 71, 72, 73, 10, 74, 75, 76, 77, 78, 79, 80, 81, 82, 83, 84, 85, 86, 87, 88, 89, 90, 91, 92, 93, 94, 95, 96, 97, 98, 107, 108, 109, 110, 123, 124, 125, 126, 127, 128, 129, 130, 131, 132, 133, 134, 135, 136, 137, 138, 139, 140, 141, 142, 143, 144, 145] (by decide +kernel) (by decide +kernel)) (goodIn_sub (fun _ h => List.mem_cons_of_mem _ (List.mem_append_right _ h)) (by decide +kernel))
set_option maxRecDepth 20000 in
theorem gL_tells_X4_power : GoodIn wsL_tells (wsV RL 62 RX4 yX4_power wsX4_power) := goodIn_app (goodIn_of _ (by decide +kernel)) ggL_tells_X4_power
set_option maxRecDepth 20000 in
theorem ggL_tells_X4_powerAnew : GoodIn wsL_tells wsX4_powerAnew := goodIn_ca (goodIn_r _ [114, 8, 9, 11, 12, 6, 13, 14, 15, 16, 17, 18, 19, 20, 21, 22, 23, 24, 25, 26, 27, 28, 29, 30, 31, 32, 33, 34, 35, 36, 37, 38, 39, 40, 41, 42, 43, 44, 45, 46, 47, 48, 49, 50, 51, 52, 53, 54, 55, 56, 57, 58, 59, 60, 61, 62, 63, 64, 65, 66, 67, 68, 69, 115, 116, 117, 118, 119, 120, 121, 122, 82, 83, 84, 85, 86, 87, 88, 89, 90, 91, 92, 93, 94, 95, 96, 97, 98, 123, 124, 125, 126, 127, 128, 129, 130, 131, 132, 133, 134, 135, 136, 137, 138, 139, 140, 141, 142, 143, 144, 145] (by decide +kernel) (by decide +kernel)) (goodIn_sub (fun _ h => List.mem_cons_of_mem _ (List.mem_append_right _ h)) (by decide +kernel))
set_option maxRecDepth 20000 in
theorem gL_tells_X4_powerAnew : GoodIn wsL_tells (wsV RL 66 RX4 yX4_powerAnew wsX4_powerAnew) := goodIn_app (goodIn_of _ (by decide +kernel)) ggL_tells_X4_powerAnew
set_option maxRecDepth 20000 in
theorem ggL_all_X4_tick : GoodIn wsL_all wsX4_tick := goodIn_r _ [8, 9, 138, 139, 140, 141, 142, 143, 144, 145, 146] (by decide +kernel) (by decide +kernel)
set_option maxRecDepth 20000 in
theorem gL_all_X4_tick : GoodIn wsL_all (wsV RL 71 RX4 yX4_tick wsX4_tick) := goodIn_app (goodIn_of _ (by decide +kernel)) ggL_all_X4_tick
set_option maxRecDepth 20000 in
theorem ggL_all_X4_power : GoodIn wsL_all wsX4_power := goodIn_ca (goodIn_r _ [13, 14, 15, 16, 17, 7, 18, 19, 20, 21, 22, 23, 24, 25, 26, 27, 28, 29, 30, 31, 32, 33, 34, 35, 36, 37, 38, 39, 40, 41, 42, 43, 44, 45, 46, 47, 48, 49, 50, 51, 52, 53, 54, 55, 56, 57, 58, 59, 60, 61, 62, 63, 64, 65, 66, 67, 68, 69, 70, 71, 72, 73, 74, 75, 76, 77, 78, 79, 80, 81, 82, 83, 84, 85, 86, 87, 88, 89, 90, 91, 92, 93, 94, 95, 96, 97, 98, 99, 100, 101, 102, 103, 104, 105, 106, 107, 108, 109, 110, 111, 112, 138, 139, 140, 141, 142, 143, 144, 145, 146, 147, 148, 149, 150, 151, 152, 153, 154, 155, 156, 157, 158, 159, 160] (by decide +kernel) (by decide +kernel)) (goodIn_sub (fun _ h => List.mem_cons_of_mem _ (List.mem_append_right _ h)) (by decide +kernel))
set_option maxRecDepth 20000 in
theorem gL_all_X4_power : GoodIn wsL_all (wsV RL 62 RX4 yX4_power wsX4_power) := goodIn_app (goodIn_of _ (by decide +kernel)) ggL_all_X4_power
set_option maxRecDepth 20000 in
theorem ggL_all_X4_calibrated : GoodIn wsL_all wsX4_calibrated := goodIn_ca (goodIn_r _ [116, 14, 15, 26, 117, 118, 119, 7, 120, 121, 122, 123, 124, 30, 125, 96, 126, 127, 128, 129, 68, 138, 139, 140, 141, 142, 143, 144, 145, 146, 147, 148, 149, 150, 151, 152, 153, 154, 155, 156, 157] (by decide +kernel) (by decide +kernel)) (goodIn_sub (fun _ h => List.mem_cons_of_mem _ (List.mem_append_right _ h)) (by decide +kernel))
set_option maxRecDepth 20000 in
theorem gL_all_X4_calibrated : GoodIn wsL_all (wsV RL 45 RX4 yX4_calibrated wsX4_calibrated) := goodIn_app (goodIn_of _ (by decide +kernel)) ggL_all_X4_calibrated
set_option maxRecDepth 20000 in
theorem ggL_all_X4_sample : GoodIn wsL_all wsX4_sample := goodIn_ca (goodIn_r _ [133, 14, 15, 26, 117, 118, 119, 7, 120, 121, 19, 20, 21, 134, 135, 136, 30, 137, 48, 49, 50, 51, 52, 53, 54, 55, 56, 57, 58, 59, 60, 61, 62, 63, 138, 139, 140, 141, 142, 143, 144, 145, 146, 147, 148, 149, 150, 151, 152, 153, 154, 155, 156, 157, 158, 159, 160] (by decide +kernel) (by decide +kernel)) (goodIn_sub (fun _ h => List.mem_cons_of_mem _ (List.mem_append_right _ h)) (by decide +kernel))
set_option maxRecDepth 20000 in
theorem gL_all_X4_sample : GoodIn wsL_all (wsV RL 36 RX4 yX4_sample wsX4_sample) := goodIn_app (goodIn_of _ (by decide +kernel)) ggL_all_X4_sample
set_option maxRecDepth 20000 in
theorem ggL_isRefused_L_all : GoodIn wsL_isRefused wsL_all := goodIn_ca (goodIn_r _ [9, 10, 11, 12, 13, 14, 15, 16, 17, 18, 19, 20, 21, 22, 23, 24, 25, 26, 27, 28, 29, 30, 31, 32, 33, 34, 35, 36, 37, 38, 39, 40, 41, 42, 43, 44, 45, 46, 47, 48, 49, 50, 51, 52, 53, 54, 55, 56, 57, 58, 59, 60, 61, 62, 63, 64, 65, 66, 67, 68, 69, 70, 71, 72, 73, 74, 75, 76, 77, 78, 79, 80, 81, 82, 83, 84, 85, 86, 87, 88, 89, 90, 91, 92, 93, 94, 95, 96, 97, 98, 99, 100, 101, 102, 103, 104, 105, 106, 107, 108, 109, 110, 111, 112, 113, 114, 115, 116, 117, 118, 119, 120, 121, 122, 123, 124, 125, 126, 127, 128, 129, 130, 131, 132, 133, 134, 135, 136, 137, 138, 139, 140, 141, 142, 143, 144, 145, 146, 356, 357, 358, 359, 360, 361, 362, 363, 364, 365, 366, 367, 368, 369, 370, 371, 372, 373, 374, 375, 376, 377, 378] (by decide +kernel) (by decide +kernel)) (goodIn_sub (fun _ h => List.mem_cons_of_mem _ (List.mem_append_left _ (List.mem_append_left _ (List.mem_append_right _ h)))) (by decide +kernel))
set_option maxRecDepth 20000 in
theorem gL_isRefused_L_all : GoodIn wsL_isRefused (va_wsS RL 81 yL_all wsL_all) := goodIn_app (goodIn_of _ (by decide +kernel)) ggL_isRefused_L_all
set_option maxRecDepth 20000 in
theorem ggL_isRefused_L_act : GoodIn wsL_isRefused wsL_act := goodIn_ca (goodIn_ca (goodIn_ca (goodIn_r _ [149, 150, 151, 152, 2, 1, 5, 153, 154, 155, 16, 156, 157, 158, 159, 160, 130, 35, 18, 28, 29, 30, 161, 162, 163, 39, 164, 165, 41, 110, 166, 167, 57, 168, 169, 170, 61, 171, 72, 63, 172, 173, 174, 175, 23, 24, 126, 127, 128, 129, 36, 37, 38, 40, 176, 177, 178, 179, 180, 181, 182, 183, 184, 185, 25, 26, 27, 186, 187, 188, 189, 190, 191, 192, 193, 194, 195, 196, 197, 198, 199, 200, 201, 202, 203, 204, 205, 206, 207, 208, 209, 210, 211, 212, 213, 214, 215, 216, 217, 218, 219, 220, 221, 222, 223, 224, 225, 226, 227, 228, 229, 230, 231, 232, 233, 234, 235, 236, 107, 108, 109, 111, 112, 82, 113, 237, 238, 239, 240, 241, 242, 243, 244, 245, 246, 247, 248, 249, 250, 251, 252, 253, 254, 255, 256, 257, 258, 259, 64, 65, 66, 67, 260, 261, 262, 263, 46, 264, 265, 266, 267, 268, 269, 270, 271, 31, 32, 33, 34, 42, 43, 44, 45, 47, 48, 49, 50, 51, 52, 53, 54, 55, 56, 58, 59, 60, 62, 68, 69, 70, 71, 73, 74, 75, 76, 77, 78, 79, 80, 81, 83, 272, 273, 274, 275, 106, 276, 277, 278, 279, 280, 281, 282, 283, 284, 285, 286, 287, 105, 288, 289, 290, 291, 292, 293, 294, 295, 296, 297, 298, 299, 300, 139, 140, 141, 142, 143, 144, 145, 146, 301, 302, 303, 304, 305, 306, 307, 308, 309, 310, 88, 89, 90, 91, 92, 93, 94, 95, 96, 97, 98, 99, 100, 101, 102, 103, 104, 114, 115, 116, 117, 118, 119, 120, 121, 311, 312, 313, 314, 315, 316, 317, 318, 319, 320, 321, 322, 323, 324, 325, 326, 327, 328, 329, 330, 331, 332, 333, 334, 335, 336, 122, 123, 124, 125, 131, 132, 133, 134, 135, 136, 137, 138, 356, 357, 358, 359, 360, 361, 362, 363, 364, 365, 366, 367, 368, 369, 370, 371, 372, 373, 374, 375, 376, 377, 378, 379, 380, 381, 382, 383] (by decide +kernel) (by decide +kernel)) (goodIn_sub (fun _ h => List.mem_cons_of_mem _ (List.mem_append_left _ (List.mem_append_right _ h))) (by decide +kernel))) (goodIn_sub (fun _ h => List.mem_cons_of_mem _ (List.mem_append_right _ h)) (by decide +kernel))) (goodIn_sub (fun _ h => List.mem_cons_of_mem _ (List.mem_append_left _ (List.mem_append_left _ (List.mem_append_right _ h)))) (by decide +kernel))
set_option maxRecDepth 20000 in
theorem gL_isRefused_L_act : GoodIn wsL_isRefused (va_wsS RL 87 yL_act wsL_act) := goodIn_app (goodIn_of _ (by decide +kernel)) ggL_isRefused_L_act
set_option maxRecDepth 20000 in
theorem ggL_isRefused_L_tells : GoodIn wsL_isRefused wsL_tells := goodIn_ca (goodIn_r _ [339, 150, 4, 340, 341, 342, 16, 343, 23, 24, 92, 25, 26, 27, 28, 29, 30, 31, 32, 33, 34, 35, 36, 37, 38, 39, 40, 41, 42, 43, 44, 45, 46, 47, 48, 49, 50, 51, 52, 53, 54, 55, 56, 57, 58, 59, 60, 61, 62, 63, 64, 65, 66, 67, 68, 69, 70, 71, 72, 73, 74, 75, 76, 77, 78, 79, 80, 81, 82, 83, 88, 89, 90, 91, 93, 94, 95, 96, 97, 98, 99, 100, 101, 102, 103, 104, 105, 106, 107, 108, 109, 110, 111, 112, 113, 114, 115, 116, 117, 19, 20, 21, 22, 84, 85, 86, 87, 118, 119, 120, 121, 344, 345, 346, 347, 348, 349, 350, 351, 352, 353, 354, 355, 356, 357, 358, 359, 360, 361, 362, 363, 364, 365, 366, 367, 368, 369, 370, 371, 372, 373, 374, 375, 376, 377, 378] (by decide +kernel) (by decide +kernel)) (goodIn_sub (fun _ h => List.mem_cons_of_mem _ (List.mem_append_left _ (List.mem_append_left _ (List.mem_append_right _ h)))) (by decide +kernel))
set_option maxRecDepth 20000 in
theorem gL_isRefused_L_tells : GoodIn wsL_isRefused (va_wsS RL 92 yL_tells wsL_tells) := goodIn_app (goodIn_of _ (by decide +kernel)) ggL_isRefused_L_tells
set_option maxRecDepth 20000 in
theorem ggL_areSound_X4_tick : GoodIn wsL_areSound wsX4_tick := goodIn_r _ [5, 6, 193, 194, 195, 196, 197, 198, 199, 200, 201] (by decide +kernel) (by decide +kernel)
set_option maxRecDepth 20000 in
theorem gL_areSound_X4_tick : GoodIn wsL_areSound (wsV RL 71 RX4 yX4_tick wsX4_tick) := goodIn_app (goodIn_of _ (by decide +kernel)) ggL_areSound_X4_tick
set_option maxRecDepth 20000 in
theorem ggL_areSound_X4_calibrated : GoodIn wsL_areSound wsX4_calibrated := goodIn_ca (goodIn_r _ [10, 11, 12, 13, 14, 15, 16, 4, 17, 18, 19, 20, 21, 22, 23, 24, 25, 26, 27, 28, 29, 193, 194, 195, 196, 197, 198, 199, 200, 201, 202, 203, 204, 205, 206, 207, 208, 209, 210, 211, 212] (by decide +kernel) (by decide +kernel)) (goodIn_sub (fun _ h => List.mem_cons_of_mem _ (List.mem_append_left _ (List.mem_append_right _ h))) (by decide +kernel))
set_option maxRecDepth 20000 in
theorem gL_areSound_X4_calibrated : GoodIn wsL_areSound (wsV RL 45 RX4 yX4_calibrated wsX4_calibrated) := goodIn_app (goodIn_of _ (by decide +kernel)) ggL_areSound_X4_calibrated
set_option maxRecDepth 20000 in
theorem ggL_areSound_X4_sample : GoodIn wsL_areSound wsX4_sample := goodIn_ca (goodIn_r _ [33, 11, 12, 13, 14, 15, 16, 4, 17, 18, 34, 35, 36, 37, 38, 39, 22, 40, 41, 42, 43, 44, 45, 46, 47, 48, 49, 50, 51, 52, 53, 54, 55, 56, 193, 194, 195, 196, 197, 198, 199, 200, 201, 202, 203, 204, 205, 206, 207, 208, 209, 210, 211, 212, 213, 214, 215] (by decide +kernel) (by decide +kernel)) (goodIn_sub (fun _ h => List.mem_cons_of_mem _ (List.mem_append_left _ (List.mem_append_right _ h))) (by decide +kernel))
set_option maxRecDepth 20000 in
theorem gL_areSound_X4_sample : GoodIn wsL_areSound (wsV RL 36 RX4 yX4_sample wsX4_sample) := goodIn_app (goodIn_of _ (by decide +kernel)) ggL_areSound_X4_sample
set_option maxRecDepth 20000 in
theorem ggL_areSound_X4_sum : GoodIn wsL_areSound wsX4_sum := goodIn_ca (goodIn_r _ [60, 11, 12, 61, 62, 63, 4, 64, 34, 35, 36, 65, 66, 67, 68, 13, 69, 70, 71, 22, 72, 73, 74, 75, 76, 77, 78, 79, 80, 81, 82, 83, 84, 85, 86, 87, 88, 41, 42, 43, 44, 45, 46, 47, 48, 49, 50, 51, 52, 53, 54, 55, 56, 89, 90, 91, 92, 29, 93, 94, 95, 96, 97, 98, 99, 100, 101, 102, 103, 104, 105, 106, 107, 108, 109, 110, 111, 112, 113, 114, 24, 115, 116, 117, 118, 119, 120, 121, 122, 123, 124, 125, 126, 193, 194, 195, 196, 197, 198, 199, 200, 201, 202, 203, 204, 205, 206, 207, 208, 209, 210, 211, 212, 213, 214, 215] (by decide +kernel) (by decide +kernel)) (goodIn_sub (fun _ h => List.mem_cons_of_mem _ (List.mem_append_left _ (List.mem_append_right _ h))) (by decide +kernel))
set_option maxRecDepth 20000 in
theorem gL_areSound_X4_sum : GoodIn wsL_areSound (wsV RL 58 RX4 yX4_sum wsX4_sum) := goodIn_app (goodIn_of _ (by decide +kernel)) ggL_areSound_X4_sum
set_option maxRecDepth 20000 in
theorem ggL_areSound_X4_power : GoodIn wsL_areSound wsX4_power := goodIn_ca (goodIn_r _ [130, 11, 12, 62, 63, 4, 64, 34, 35, 36, 65, 66, 67, 68, 13, 69, 70, 71, 22, 72, 73, 74, 75, 76, 77, 78, 79, 80, 81, 82, 83, 84, 85, 86, 87, 88, 41, 42, 43, 44, 45, 46, 47, 48, 49, 50, 51, 52, 53, 54, 55, 56, 89, 90, 91, 92, 29, 93, 94, 95, 96, 97, 98, 131, 132, 133, 134, 99, 100, 101, 102, 61, 103, 104, 105, 106, 107, 108, 109, 110, 111, 112, 113, 114, 24, 115, 116, 117, 118, 119, 120, 121, 122, 123, 124, 125, 126, 135, 136, 137, 138, 193, 194, 195, 196, 197, 198, 199, 200, 201, 202, 203, 204, 205, 206, 207, 208, 209, 210, 211, 212, 213, 214, 215] (by decide +kernel) (by decide +kernel)) (goodIn_sub (fun _ h => List.mem_cons_of_mem _ (List.mem_append_left _ (List.mem_append_right _ h))) (by decide +kernel))
set_option maxRecDepth 20000 in
theorem gL_areSound_X4_power : GoodIn wsL_areSound (wsV RL 62 RX4 yX4_power wsX4_power) := goodIn_app (goodIn_of _ (by decide +kernel)) ggL_areSound_X4_power
set_option maxRecDepth 20000 in
theorem ggL_areSound_X4_peaks : GoodIn wsL_areSound wsX4_peaks := goodIn_ca (goodIn_r _ [142, 143, 144, 145, 146, 34, 35, 4, 36, 65, 66, 67, 68, 13, 69, 70, 71, 22, 72, 73, 74, 75, 76, 77, 78, 79, 80, 81, 82, 83, 84, 85, 86, 87, 88, 41, 42, 43, 44, 45, 46, 47, 48, 49, 50, 51, 52, 53, 54, 55, 56, 89, 90, 91, 92, 29, 93, 94, 95, 96, 97, 98, 147, 148, 149, 150, 151, 152, 153, 99, 100, 101, 102, 61, 103, 104, 105, 106, 107, 108, 109, 110, 111, 112, 113, 114, 24, 115, 116, 117, 118, 119, 120, 121, 122, 123, 124, 125, 126, 135, 136, 137, 138, 154, 155, 156, 157, 158, 159, 160, 161, 193, 194, 195, 196, 197, 198, 199, 200, 201, 202, 203, 204, 205, 206, 207, 208, 209, 210, 211, 212, 213, 214, 215] (by decide +kernel) (by decide +kernel)) (goodIn_sub (fun _ h => List.mem_cons_of_mem _ (List.mem_append_right _ h)) (by decide +kernel))
set_option maxRecDepth 20000 in
theorem gL_areSound_X4_peaks : GoodIn wsL_areSound (wsV RL 39 RX4 yX4_peaks wsX4_peaks) := goodIn_app (goodIn_of _ (by decide +kernel)) ggL_areSound_X4_peaks
set_option maxRecDepth 20000 in
theorem ggL_areSound_X4_powerAnew : GoodIn wsL_areSound wsX4_powerAnew := goodIn_ca (goodIn_r _ [165, 11, 12, 62, 63, 4, 64, 34, 35, 36, 65, 66, 67, 68, 13, 69, 70, 71, 22, 72, 73, 74, 75, 76, 77, 78, 79, 80, 81, 82, 83, 84, 85, 86, 87, 88, 41, 42, 43, 44, 45, 46, 47, 48, 49, 50, 51, 52, 53, 54, 55, 56, 89, 90, 91, 92, 29, 93, 94, 95, 96, 97, 98, 166, 167, 168, 169, 170, 171, 172, 173, 111, 112, 113, 114, 24, 115, 116, 117, 118, 119, 120, 121, 122, 123, 124, 125, 126, 193, 194, 195, 196, 197, 198, 199, 200, 201, 202, 203, 204, 205, 206, 207, 208, 209, 210, 211, 212, 213, 214, 215] (by decide +kernel) (by decide +kernel)) (goodIn_sub (fun _ h => List.mem_cons_of_mem _ (List.mem_append_left _ (List.mem_append_right _ h))) (by decide +kernel))
set_option maxRecDepth 20000 in
theorem gL_areSound_X4_powerAnew : GoodIn wsL_areSound (wsV RL 66 RX4 yX4_powerAnew wsX4_powerAnew) := goodIn_app (goodIn_of _ (by decide +kernel)) ggL_areSound_X4_powerAnew
set_option maxRecDepth 20000 in
theorem ggL_areSound_X4_found : GoodIn wsL_areSound wsX4_found := goodIn_ca (goodIn_r _ [177, 11, 12, 34, 35, 4, 36, 65, 66, 67, 68, 13, 69, 70, 71, 22, 72, 73, 74, 75, 76, 77, 78, 79, 80, 81, 82, 83, 84, 85, 86, 87, 88, 41, 42, 43, 44, 45, 46, 47, 48, 49, 50, 51, 52, 53, 54, 55, 56, 89, 90, 91, 92, 29, 93, 94, 95, 96, 97, 98, 178, 179, 180, 181, 145, 147, 148, 149, 150, 151, 152, 153, 99, 100, 101, 102, 61, 103, 104, 105, 106, 107, 108, 109, 110, 111, 112, 113, 114, 24, 115, 116, 117, 118, 119, 120, 121, 122, 123, 124, 125, 126, 135, 136, 137, 138, 182, 183, 184, 185, 186, 187, 188, 189, 190, 191, 192, 193, 194, 195, 196, 197, 198, 199, 200, 201, 202, 203, 204, 205, 206, 207, 208, 209, 210, 211, 212, 213, 214, 215] (by decide +kernel) (by decide +kernel)) (goodIn_sub (fun _ h => List.mem_cons_of_mem _ (List.mem_append_left _ (List.mem_append_right _ h))) (by decide +kernel))
set_option maxRecDepth 20000 in
theorem gL_areSound_X4_found : GoodIn wsL_areSound (wsV RL 42 RX4 yX4_found wsX4_found) := goodIn_app (goodIn_of _ (by decide +kernel)) ggL_areSound_X4_found
set_option maxRecDepth 20000 in
theorem ggL_law_X4_init : GoodIn wsL_law wsX4_init := goodIn_r _ [8, 9, 10, 11, 12, 13, 14, 15, 16, 17, 18, 19, 20, 21, 22, 23, 24, 25, 26, 27, 28, 29, 30, 31, 32, 33, 34, 35, 36, 37, 38, 39, 40, 41, 42, 43, 44, 3, 45, 46, 47, 48, 49, 401, 402, 403, 404, 405, 406, 407, 408, 409, 410, 411, 412, 413, 414, 415, 416, 417, 418, 419, 420, 421, 422, 423, 424, 425, 426, 427, 428] (by decide +kernel) (by decide +kernel)
set_option maxRecDepth 20000 in
theorem gL_law_X4_init : GoodIn wsL_law (wsX4_init) := ggL_law_X4_init
set_option maxRecDepth 20000 in
theorem ggL_law_L_isRefused : GoodIn wsL_law wsL_isRefused := goodIn_ca (goodIn_ca (goodIn_ca (goodIn_cons 53 rfl (by decide +kernel) (goodIn_r _ [54, 55, 56, 57, 4, 58, 59, 52, 60, 61, 62, 63, 64, 65, 66, 2, 67, 68, 69, 70, 71, 72, 73, 74, 75, 76, 77, 78, 79, 80, 81, 82, 83, 84, 13, 85, 86, 87, 24, 88, 89, 90, 91, 92, 93, 27, 94, 95, 96, 97, 98, 99, 100, 101, 102, 39, 38, 103, 104, 105, 37, 106, 107, 45, 108, 109, 110, 111, 112, 113, 114, 115, 116, 117, 118, 119, 41, 40, 120, 121, 122, 123, 124, 125, 126, 127, 128, 129, 130, 131, 132, 21, 133, 134, 135, 136, 137, 138, 139, 140, 141, 142, 143, 144, 145, 146, 147, 148, 149, 150, 151, 152, 153, 154, 155, 156, 157, 158, 159, 160, 161, 162, 163, 164, 165, 166, 167, 168, 169, 170, 171, 172, 173, 174, 175, 176, 177, 178, 179, 180, 181, 182, 183, 184, 185, 186, 187, 188, 189, 190, 191, 192, 193, 194, 195, 196, 197, 198, 199, 200, 201, 202, 203, 204, 205, 206, 207, 208, 209, 210, 211, 212, 213, 214, 215, 216, 217, 218, 219, 220, 221, 222, 223, 224, 15, 225, 226, 227, 26, 228, 229, 230, 49, 231, 232, 233, 234, 235, 19, 236, 237, 238, 18, 239, 240, 241, 242, 243, 244, 31, 245, 246, 247, 248, 249, 250, 251, 252, 253, 254, 255, 256, 257, 258, 259, 260, 261, 262, 263, 264, 265, 266, 267, 268, 269, 270, 271, 272, 273, 274, 275, 276, 277, 278, 279, 280, 281, 282, 283, 284, 285, 286, 287, 288, 289, 290, 291, 292, 293, 294, 295, 296, 297, 298, 299, 300, 301, 302, 303, 304, 305, 306, 307, 308, 309, 310, 311, 312, 313, 314, 315, 316, 317, 318, 319, 320, 321, 322, 323, 324, 325, 326, 327, 328, 329, 330, 331, 332, 333, 334, 335, 336, 337, 338, 22, 339, 340, 341, 342, 343, 344, 345, 346, 347, 348, 349, 350, 351, 352, 353, 354, 355, 356, 357, 358, 359, 360, 361, 362, 363, 364, 365, 366, 367, 368, 369, 370, 371, 372, 373, 374, 375, 376, 377, 378, 379, 380, 381, 382, 383, 384, 385, 386, 387, 388, 401, 402, 403, 404, 405, 406, 407, 408, 409, 412, 413, 414, 415, 416, 417, 418, 419, 420, 421, 422, 426, 427, 428, 423, 424, 425, 410, 411] (by decide +kernel) (by decide +kernel))) (goodIn_sub (fun _ h => List.mem_append_left _ (List.mem_append_left _ (List.mem_append_right _ h))) (by decide +kernel))) (goodIn_sub (fun _ h => List.mem_append_left _ (List.mem_append_right _ h)) (by decide +kernel))) (goodIn_sub (fun _ h => List.mem_append_right _ h) (by decide +kernel))
set_option maxRecDepth 20000 in
theorem gL_law_L_isRefused : GoodIn wsL_law (va_wsS RL 97 yL_isRefused wsL_isRefused) := goodIn_app (goodIn_of _ (by decide +kernel)) ggL_law_L_isRefused
set_option maxRecDepth 20000 in
theorem ggL_law_L_areSound : GoodIn wsL_law wsL_areSound := goodIn_ca (goodIn_ca (goodIn_cons 391 rfl (by decide +kernel) (goodIn_r _ [64, 65, 66, 2, 67, 68, 162, 163, 164, 165, 73, 74, 13, 166, 167, 168, 169, 170, 171, 172, 173, 24, 174, 145, 175, 176, 177, 178, 41, 179, 180, 181, 182, 78, 79, 80, 183, 184, 185, 186, 38, 103, 104, 105, 37, 106, 107, 45, 108, 109, 110, 111, 112, 113, 114, 115, 373, 374, 375, 376, 21, 75, 76, 77, 81, 82, 83, 84, 85, 86, 87, 88, 89, 90, 91, 92, 93, 27, 94, 95, 96, 97, 98, 99, 100, 101, 102, 39, 116, 117, 118, 119, 40, 120, 121, 122, 123, 124, 129, 130, 131, 132, 133, 134, 135, 136, 137, 138, 139, 140, 141, 142, 143, 144, 146, 147, 148, 149, 150, 151, 152, 153, 154, 155, 156, 157, 69, 70, 71, 72, 125, 126, 127, 128, 158, 159, 160, 161, 335, 336, 337, 338, 197, 198, 22, 339, 340, 341, 342, 343, 331, 332, 333, 344, 345, 346, 347, 348, 349, 350, 351, 377, 378, 379, 380, 381, 382, 383, 384, 385, 386, 387, 388, 352, 353, 354, 355, 356, 357, 358, 359, 360, 361, 362, 363, 334, 364, 365, 366, 367, 368, 369, 401, 402, 403, 404, 405, 406, 407, 408, 409, 412, 413, 414, 415, 416, 417, 418, 419, 420, 421, 422, 426, 427, 428] (by decide +kernel) (by decide +kernel))) (goodIn_sub (fun _ h => List.mem_append_left _ (List.mem_append_left _ (List.mem_append_right _ h))) (by decide +kernel))) (goodIn_sub (fun _ h => List.mem_append_left _ (List.mem_append_right _ h)) (by decide +kernel))
set_option maxRecDepth 20000 in
theorem gL_law_L_areSound : GoodIn wsL_law (va_wsS RL 101 yL_areSound wsL_areSound) := goodIn_app (goodIn_of _ (by decide +kernel)) ggL_law_L_areSound
set_option maxRecDepth 20000 in
theorem ggL_law_L_dice : GoodIn wsL_law wsL_dice := goodIn_r _ [394, 395, 396] (by decide +kernel) (by decide +kernel)
set_option maxRecDepth 20000 in
theorem gL_law_L_dice : GoodIn wsL_law (va_wsS RL 105 yL_dice wsL_dice) := goodIn_app (goodIn_of _ (by decide +kernel)) ggL_law_L_dice
set_option maxRecDepth 20000 in
theorem ggL_law_L_act : GoodIn wsL_law wsL_act := goodIn_ca (goodIn_ca (goodIn_ca (goodIn_r _ [189, 190, 191, 192, 55, 54, 4, 193, 194, 195, 2, 196, 197, 198, 199, 200, 170, 13, 68, 78, 79, 80, 201, 202, 203, 24, 204, 205, 89, 150, 206, 207, 38, 208, 209, 210, 37, 211, 115, 107, 212, 213, 214, 215, 73, 74, 166, 167, 168, 169, 85, 86, 87, 88, 216, 217, 218, 219, 220, 221, 222, 223, 224, 15, 75, 76, 77, 225, 226, 227, 26, 228, 229, 230, 49, 231, 232, 233, 234, 235, 19, 236, 237, 238, 18, 239, 240, 241, 242, 243, 244, 31, 245, 246, 247, 248, 249, 250, 251, 252, 253, 254, 255, 256, 257, 258, 259, 260, 261, 262, 263, 264, 265, 266, 267, 268, 269, 270, 147, 148, 149, 151, 152, 123, 153, 271, 272, 273, 274, 275, 276, 277, 278, 279, 280, 281, 282, 283, 284, 285, 286, 287, 288, 289, 290, 291, 292, 293, 45, 108, 109, 110, 294, 295, 296, 297, 27, 298, 299, 300, 301, 302, 303, 304, 305, 81, 82, 83, 84, 90, 91, 92, 93, 94, 95, 96, 97, 98, 99, 100, 101, 102, 39, 103, 104, 105, 106, 111, 112, 113, 114, 116, 117, 118, 119, 41, 40, 120, 121, 122, 124, 306, 307, 308, 309, 146, 310, 311, 312, 313, 314, 315, 316, 317, 318, 319, 320, 321, 145, 322, 323, 324, 325, 326, 327, 328, 329, 330, 331, 332, 333, 334, 179, 180, 181, 182, 183, 184, 185, 186, 335, 336, 337, 338, 22, 339, 340, 341, 342, 343, 129, 130, 131, 132, 21, 133, 134, 135, 136, 137, 138, 139, 140, 141, 142, 143, 144, 154, 155, 156, 157, 158, 159, 160, 161, 344, 345, 346, 347, 348, 349, 350, 351, 352, 353, 354, 355, 356, 357, 358, 359, 360, 361, 362, 363, 364, 365, 366, 367, 368, 369, 162, 163, 164, 165, 171, 172, 173, 174, 175, 176, 177, 178, 401, 402, 403, 404, 405, 406, 407, 408, 409, 412, 413, 414, 415, 416, 417, 418, 419, 420, 421, 422, 426, 427, 428, 423, 424, 425, 410, 411] (by decide +kernel) (by decide +kernel)) (goodIn_sub (fun _ h => List.mem_append_left _ (List.mem_append_right _ h)) (by decide +kernel))) (goodIn_sub (fun _ h => List.mem_append_right _ h) (by decide +kernel))) (goodIn_sub (fun _ h => List.mem_append_left _ (List.mem_append_left _ (List.mem_append_right _ h))) (by decide +kernel))
set_option maxRecDepth 20000 in
theorem gL_law_L_act : GoodIn wsL_law (va_wsS RL 87 yL_act wsL_act) := goodIn_app (goodIn_of _ (by decide +kernel)) ggL_law_L_act
set_option maxRecDepth 20000 in
theorem ggL_law_X4_calibrated : GoodIn wsL_law wsX4_calibrated := goodIn_ca (goodIn_r _ [165, 73, 74, 13, 166, 167, 168, 2, 169, 170, 171, 172, 173, 24, 174, 145, 175, 176, 177, 178, 41, 401, 402, 403, 404, 405, 406, 407, 408, 409, 412, 413, 414, 415, 416, 417, 418, 419, 420, 421, 422] (by decide +kernel) (by decide +kernel)) (goodIn_sub (fun _ h => List.mem_append_left _ (List.mem_append_left _ (List.mem_append_right _ h))) (by decide +kernel))
set_option maxRecDepth 20000 in
theorem gL_law_X4_calibrated : GoodIn wsL_law (wsV RL 45 RX4 yX4_calibrated wsX4_calibrated) := goodIn_app (goodIn_of _ (by decide +kernel)) ggL_law_X4_calibrated
set_option maxRecDepth 20000 in
theorem ggL_law_X4_sample : GoodIn wsL_law wsX4_sample := goodIn_ca (goodIn_r _ [182, 73, 74, 13, 166, 167, 168, 2, 169, 170, 78, 79, 80, 183, 184, 185, 24, 186, 38, 103, 104, 105, 37, 106, 107, 45, 108, 109, 110, 111, 112, 113, 114, 115, 401, 402, 403, 404, 405, 406, 407, 408, 409, 412, 413, 414, 415, 416, 417, 418, 419, 420, 421, 422, 426, 427, 428] (by decide +kernel) (by decide +kernel)) (goodIn_sub (fun _ h => List.mem_append_left _ (List.mem_append_left _ (List.mem_append_right _ h))) (by decide +kernel))
set_option maxRecDepth 20000 in
theorem gL_law_X4_sample : GoodIn wsL_law (wsV RL 36 RX4 yX4_sample wsX4_sample) := goodIn_app (goodIn_of _ (by decide +kernel)) ggL_law_X4_sample
set_option maxRecDepth 20000 in
theorem ggL_law_X4_silence : GoodIn wsL_law wsX4_silence := goodIn_r _ [400, 224, 401, 402, 403, 404, 405, 406, 407, 408, 409] (by decide +kernel) (by decide +kernel)
set_option maxRecDepth 20000 in
theorem gL_law_X4_silence : GoodIn wsL_law (wsV RL 109 RX4 yX4_silence wsX4_silence) := goodIn_app (goodIn_of _ (by decide +kernel)) ggL_law_X4_silence
