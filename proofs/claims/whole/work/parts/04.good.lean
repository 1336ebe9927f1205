set_option maxRecDepth 20000 in
theorem ggX0_init_X3_init : GoodIn wsX0_init wsX3_init := goodIn_r _ [13, 14, 2, 3, 15, 16, 17, 18, 19] (by decide +kernel) (by decide +kernel)
set_option maxRecDepth 20000 in
theorem gX0_init_X3_init_n11 : GoodIn wsX0_init (wsX3_init) := ggX0_init_X3_init
set_option maxRecDepth 20000 in
theorem ggX0_putUp_X3_beginAt : GoodIn wsX0_putUp wsX3_beginAt := goodIn_r _ [11, 12, 13, 25, 26, 27] (by decide +kernel) (by decide +kernel)
set_option maxRecDepth 20000 in
theorem gX0_putUp_X3_beginAt : GoodIn wsX0_putUp (wsV RX0 45 RX3 yX3_beginAt wsX3_beginAt) := goodIn_app (goodIn_of _ (by decide +kernel)) ggX0_putUp_X3_beginAt
set_option maxRecDepth 20000 in
theorem ggX0_delayFor_J9_floorDiv_7cf53 : GoodIn wsX0_delayFor wsJ9_floorDiv_7cf53 := goodIn_r _ [5] (by decide +kernel) (by decide +kernel)
set_option maxRecDepth 20000 in
theorem gX0_delayFor_J9_floorDiv_7cf53 : GoodIn wsX0_delayFor (va_wsS RX0 52 yJ9_floorDiv_7cf53 wsJ9_floorDiv_7cf53) := goodIn_app (goodIn_of _ (by decide +kernel)) ggX0_delayFor_J9_floorDiv_7cf53
set_option maxRecDepth 20000 in
theorem ggX0_heardOf_J9_floorDiv_7cf53 : GoodIn wsX0_heardOf wsJ9_floorDiv_7cf53 := goodIn_r _ [5] (by decide +kernel) (by decide +kernel)
set_option maxRecDepth 20000 in
theorem gX0_heardOf_J9_floorDiv_7cf53 : GoodIn wsX0_heardOf (va_wsS RX0 52 yJ9_floorDiv_7cf53 wsJ9_floorDiv_7cf53) := goodIn_app (goodIn_of _ (by decide +kernel)) ggX0_heardOf_J9_floorDiv_7cf53
set_option maxRecDepth 20000 in
theorem ggX0_keep_X3_add : GoodIn wsX0_keep wsX3_add := goodIn_r _ [6, 7, 8, 9, 10, 5, 11, 23, 24, 25] (by decide +kernel) (by decide +kernel)
set_option maxRecDepth 20000 in
theorem gX0_keep_X3_add : GoodIn wsX0_keep (wsV RX0 58 RX3 yX3_add wsX3_add) := goodIn_app (goodIn_of _ (by decide +kernel)) ggX0_keep_X3_add
set_option maxRecDepth 20000 in
theorem ggX0_keptAt_X3_at : GoodIn wsX0_keptAt wsX3_at := goodIn_r _ [6, 7, 8, 9, 10, 5, 11, 12, 13, 14, 15, 16, 28, 29, 30] (by decide +kernel) (by decide +kernel)
set_option maxRecDepth 20000 in
theorem gX0_keptAt_X3_at : GoodIn wsX0_keptAt (wsV RX0 61 RX3 yX3_at wsX3_at) := goodIn_app (goodIn_of _ (by decide +kernel)) ggX0_keptAt_X3_at
set_option maxRecDepth 20000 in
theorem ggX0_layOut_X3_at : GoodIn wsX0_layOut wsX3_at := goodIn_r _ [8, 9, 10, 11, 12, 7, 13, 14, 15, 16, 17, 18, 42, 43, 44] (by decide +kernel) (by decide +kernel)
set_option maxRecDepth 20000 in
theorem gX0_layOut_X3_at : GoodIn wsX0_layOut (wsV RX0 61 RX3 yX3_at wsX3_at) := goodIn_app (goodIn_of _ (by decide +kernel)) ggX0_layOut_X3_at
set_option maxRecDepth 20000 in
theorem ggX0_layOut_X0_turnAll : GoodIn wsX0_layOut wsX0_turnAll := goodIn_r _ [23, 1, 24, 25, 2, 26, 27, 28, 29, 30, 31, 32, 33, 34, 35, 36, 37, 38, 39, 40, 41] (by decide +kernel) (by decide +kernel)
set_option maxRecDepth 20000 in
theorem gX0_layOut_X0_turnAll : GoodIn wsX0_layOut (wsV RX0 69 RX0 yX0_turnAll wsX0_turnAll) := goodIn_app (goodIn_of _ (by decide +kernel)) ggX0_layOut_X0_turnAll
set_option maxRecDepth 20000 in
theorem ggX0_turnAll_J9_floorDiv_f86c9 : GoodIn wsX0_turnAll wsJ9_floorDiv_f86c9 := goodIn_r _ [9] (by decide +kernel) (by decide +kernel)
set_option maxRecDepth 20000 in
theorem gX0_turnAll_J9_floorDiv_f86c9 : GoodIn wsX0_turnAll (va_wsS RX0 74 yJ9_floorDiv_f86c9 wsJ9_floorDiv_f86c9) := goodIn_app (goodIn_of _ (by decide +kernel)) ggX0_turnAll_J9_floorDiv_f86c9
set_option maxRecDepth 20000 in
theorem ggX0_firstTold_X0_delayFor : GoodIn wsX0_firstTold wsX0_delayFor := goodIn_r _ [6, 7, 8, 9, 10, 11, 12, 13, 14, 15, 16, 17, 18, 19, 20, 21, 22] (by decide +kernel) (by decide +kernel)
set_option maxRecDepth 20000 in
theorem gX0_firstTold_X0_delayFor : GoodIn wsX0_firstTold (wsV RX0 77 RX0 yX0_delayFor wsX0_delayFor) := goodIn_app (goodIn_of _ (by decide +kernel)) ggX0_firstTold_X0_delayFor
set_option maxRecDepth 20000 in
theorem ggX0_tellTo_X0_firstTold : GoodIn wsX0_tellTo wsX0_firstTold := goodIn_r _ [6, 7, 8, 9, 10, 5, 11, 12, 13, 14, 15, 16, 22, 23, 24, 25, 26, 27, 28, 29, 30, 31, 32] (by decide +kernel) (by decide +kernel)
set_option maxRecDepth 20000 in
theorem gX0_tellTo_X0_firstTold : GoodIn wsX0_tellTo (wsV RX0 80 RX0 yX0_firstTold wsX0_firstTold) := goodIn_app (goodIn_of _ (by decide +kernel)) ggX0_tellTo_X0_firstTold
set_option maxRecDepth 20000 in
theorem ggX0_tellTo_X0_toldAt : GoodIn wsX0_tellTo wsX0_toldAt := goodIn_r _ [20, 21, 22, 23, 24, 25, 26, 27, 28, 29, 30, 31, 32] (by decide +kernel) (by decide +kernel)
set_option maxRecDepth 20000 in
theorem gX0_tellTo_X0_toldAt : GoodIn wsX0_tellTo (wsV RX0 83 RX0 yX0_toldAt wsX0_toldAt) := goodIn_app (goodIn_of _ (by decide +kernel)) ggX0_tellTo_X0_toldAt
set_option maxRecDepth 20000 in
theorem ggX0_toldWith_X0_firstTold : GoodIn wsX0_toldWith wsX0_firstTold := goodIn_r _ [6, 7, 8, 9, 10, 5, 11, 12, 13, 14, 15, 16, 22, 23, 24, 25, 26, 27, 28, 29, 30, 31, 32] (by decide +kernel) (by decide +kernel)
set_option maxRecDepth 20000 in
theorem gX0_toldWith_X0_firstTold : GoodIn wsX0_toldWith (wsV RX0 80 RX0 yX0_firstTold wsX0_firstTold) := goodIn_app (goodIn_of _ (by decide +kernel)) ggX0_toldWith_X0_firstTold
set_option maxRecDepth 20000 in
theorem ggX0_toldWith_X0_toldAt : GoodIn wsX0_toldWith wsX0_toldAt := goodIn_r _ [20, 21, 22, 23, 24, 25, 26, 27, 28, 29, 30, 31, 32] (by decide +kernel) (by decide +kernel)
set_option maxRecDepth 20000 in
theorem gX0_toldWith_X0_toldAt : GoodIn wsX0_toldWith (wsV RX0 83 RX0 yX0_toldAt wsX0_toldAt) := goodIn_app (goodIn_of _ (by decide +kernel)) ggX0_toldWith_X0_toldAt
set_option maxRecDepth 20000 in
theorem ggX0_takeAway_X0_firstTold : GoodIn wsX0_takeAway wsX0_firstTold := goodIn_r _ [8, 9, 10, 11, 12, 7, 13, 14, 15, 16, 17, 18, 26, 27, 28, 29, 30, 31, 32, 33, 34, 35, 36] (by decide +kernel) (by decide +kernel)
set_option maxRecDepth 20000 in
theorem gX0_takeAway_X0_firstTold : GoodIn wsX0_takeAway (wsV RX0 80 RX0 yX0_firstTold wsX0_firstTold) := goodIn_app (goodIn_of _ (by decide +kernel)) ggX0_takeAway_X0_firstTold
set_option maxRecDepth 20000 in
theorem ggX0_takeAway_X3_keeps : GoodIn wsX0_takeAway wsX3_keeps := goodIn_r _ [23, 24, 25, 37, 38, 39] (by decide +kernel) (by decide +kernel)
set_option maxRecDepth 20000 in
theorem gX0_takeAway_X3_keeps : GoodIn wsX0_takeAway (wsV RX0 87 RX3 yX3_keeps wsX3_keeps) := goodIn_app (goodIn_of _ (by decide +kernel)) ggX0_takeAway_X3_keeps
set_option maxRecDepth 20000 in
theorem ggX0_agreement_X0_delayFor : GoodIn wsX0_agreement wsX0_delayFor := goodIn_r _ [5, 6, 7, 8, 9, 10, 16, 17, 18, 19, 20, 21, 22, 23, 24, 25, 26] (by decide +kernel) (by decide +kernel)
set_option maxRecDepth 20000 in
theorem gX0_agreement_X0_delayFor : GoodIn wsX0_agreement (wsV RX0 77 RX0 yX0_delayFor wsX0_delayFor) := goodIn_app (goodIn_of _ (by decide +kernel)) ggX0_agreement_X0_delayFor
set_option maxRecDepth 20000 in
theorem ggX0_agreement_X0_laidAt : GoodIn wsX0_agreement wsX0_laidAt := goodIn_r _ [14, 15, 16, 17, 18, 19, 20, 21, 22, 23, 24, 25, 26] (by decide +kernel) (by decide +kernel)
set_option maxRecDepth 20000 in
theorem gX0_agreement_X0_laidAt : GoodIn wsX0_agreement (wsV RX0 91 RX0 yX0_laidAt wsX0_laidAt) := goodIn_app (goodIn_of _ (by decide +kernel)) ggX0_agreement_X0_laidAt
set_option maxRecDepth 20000 in
theorem ggX2_waveAt_J9_floorMod_7cf53 : GoodIn wsX2_waveAt wsJ9_floorMod_7cf53 := goodIn_r _ [6] (by decide +kernel) (by decide +kernel)
set_option maxRecDepth 20000 in
theorem gX2_waveAt_J9_floorMod_7cf53 : GoodIn wsX2_waveAt (va_wsS RX2 19 yJ9_floorMod_7cf53 wsJ9_floorMod_7cf53) := goodIn_app (goodIn_of _ (by decide +kernel)) ggX2_waveAt_J9_floorMod_7cf53
set_option maxRecDepth 20000 in
theorem ggX3_add_X3_slotOf : GoodIn wsX3_add wsX3_slotOf := goodIn_r _ [6] (by decide +kernel) (by decide +kernel)
set_option maxRecDepth 20000 in
theorem gX3_add_X3_slotOf : GoodIn wsX3_add (va_wsS RX3 22 yX3_slotOf wsX3_slotOf) := goodIn_app (goodIn_of _ (by decide +kernel)) ggX3_add_X3_slotOf
set_option maxRecDepth 20000 in
theorem ggX3_at_X3_slotOf : GoodIn wsX3_at wsX3_slotOf := goodIn_r _ [6] (by decide +kernel) (by decide +kernel)
set_option maxRecDepth 20000 in
theorem gX3_at_X3_slotOf : GoodIn wsX3_at (va_wsS RX3 22 yX3_slotOf wsX3_slotOf) := goodIn_app (goodIn_of _ (by decide +kernel)) ggX3_at_X3_slotOf
set_option maxRecDepth 20000 in
theorem ggX3_at_X3_keeps : GoodIn wsX3_at wsX3_keeps := goodIn_r _ [10, 1, 11, 12, 13, 14] (by decide +kernel) (by decide +kernel)
set_option maxRecDepth 20000 in
theorem gX3_at_X3_keeps : GoodIn wsX3_at (wsV RX3 26 RX3 yX3_keeps wsX3_keeps) := goodIn_app (goodIn_of _ (by decide +kernel)) ggX3_at_X3_keeps
set_option maxRecDepth 20000 in
theorem ggX4_init_X1_init : GoodIn wsX4_init wsX1_init := goodIn_r _ [21, 22, 2, 3, 23, 52, 53] (by decide +kernel) (by decide +kernel)
set_option maxRecDepth 20000 in
theorem gX4_init_X1_init_n23 : GoodIn wsX4_init (wsX1_init) := ggX4_init_X1_init
set_option maxRecDepth 20000 in
theorem ggX4_init_X0_init : GoodIn wsX4_init wsX0_init := goodIn_r _ [25, 26, 2, 3, 27, 28, 29, 30, 12, 31, 32, 33, 34, 35, 36, 37, 38, 68, 69, 70, 54, 55, 56, 57, 58, 59, 60, 61, 62, 63, 64] (by decide +kernel) (by decide +kernel)
set_option maxRecDepth 20000 in
theorem gX4_init_X0_init_n35 : GoodIn wsX4_init (wsX0_init) := ggX4_init_X0_init
set_option maxRecDepth 20000 in
theorem ggX4_init_X2_init : GoodIn wsX4_init wsX2_init := goodIn_r _ [40, 41, 2, 3, 42, 65, 66, 67] (by decide +kernel) (by decide +kernel)
set_option maxRecDepth 20000 in
theorem gX4_init_X2_init_n36 : GoodIn wsX4_init (wsX2_init) := ggX4_init_X2_init
set_option maxRecDepth 20000 in
theorem ggX4_element_X4_isWithin : GoodIn wsX4_element wsX4_isWithin := goodIn_r _ [11] (by decide +kernel) (by decide +kernel)
set_option maxRecDepth 20000 in
theorem gX4_element_X4_isWithin : GoodIn wsX4_element (va_wsS RX4 41 yX4_isWithin wsX4_isWithin) := goodIn_app (goodIn_of _ (by decide +kernel)) ggX4_element_X4_isWithin
set_option maxRecDepth 20000 in
theorem ggX4_element_X0_putUp : GoodIn wsX4_element wsX0_putUp := goodIn_r _ [16, 17, 18, 19, 20, 21, 22, 23, 24, 25, 26, 27, 28, 29, 39, 40, 41, 42, 43, 44, 45, 46, 47, 48, 49, 50, 51, 52] (by decide +kernel) (by decide +kernel)
set_option maxRecDepth 20000 in
theorem gX4_element_X0_putUp : GoodIn wsX4_element (wsV RX4 63 RX0 yX0_putUp wsX0_putUp) := goodIn_app (goodIn_of _ (by decide +kernel)) ggX4_element_X0_putUp
set_option maxRecDepth 20000 in
theorem ggX4_alive_X4_isElement : GoodIn wsX4_alive wsX4_isElement := goodIn_r _ [8, 9, 3, 20, 21, 22, 23, 24, 25, 26, 27, 28] (by decide +kernel) (by decide +kernel)
set_option maxRecDepth 20000 in
theorem gX4_alive_X4_isElement : GoodIn wsX4_alive (wsV RX4 67 RX4 yX4_isElement wsX4_isElement) := goodIn_app (goodIn_of _ (by decide +kernel)) ggX4_alive_X4_isElement
set_option maxRecDepth 20000 in
theorem ggX4_alive_X0_isLiving : GoodIn wsX4_alive wsX0_isLiving := goodIn_r _ [14, 15, 29, 30, 31, 32, 33, 34, 35, 36, 37, 38, 39] (by decide +kernel) (by decide +kernel)
set_option maxRecDepth 20000 in
theorem gX4_alive_X0_isLiving : GoodIn wsX4_alive (wsV RX4 76 RX0 yX0_isLiving wsX0_isLiving) := goodIn_app (goodIn_of _ (by decide +kernel)) ggX4_alive_X0_isLiving
set_option maxRecDepth 20000 in
theorem ggX4_alive_X0_setLiving : GoodIn wsX4_alive wsX0_setLiving := goodIn_r _ [19, 15, 29, 30, 31, 32, 33, 34, 35, 36, 37, 38, 39] (by decide +kernel) (by decide +kernel)
set_option maxRecDepth 20000 in
theorem gX4_alive_X0_setLiving : GoodIn wsX4_alive (wsV RX4 80 RX0 yX0_setLiving wsX0_setLiving) := goodIn_app (goodIn_of _ (by decide +kernel)) ggX4_alive_X0_setLiving
set_option maxRecDepth 20000 in
theorem ggX4_source_X4_isBearing : GoodIn wsX4_source wsX4_isBearing := goodIn_r _ [12, 13, 14, 11, 15] (by decide +kernel) (by decide +kernel)
set_option maxRecDepth 20000 in
theorem gX4_source_X4_isBearing : GoodIn wsX4_source (va_wsS RX4 84 yX4_isBearing wsX4_isBearing) := goodIn_app (goodIn_of _ (by decide +kernel)) ggX4_source_X4_isBearing
set_option maxRecDepth 20000 in
theorem ggX4_source_X4_isWithin : GoodIn wsX4_source wsX4_isWithin := goodIn_r _ [15] (by decide +kernel) (by decide +kernel)
set_option maxRecDepth 20000 in
theorem gX4_source_X4_isWithin : GoodIn wsX4_source (va_wsS RX4 41 yX4_isWithin wsX4_isWithin) := goodIn_app (goodIn_of _ (by decide +kernel)) ggX4_source_X4_isWithin
set_option maxRecDepth 20000 in
theorem ggX4_source_X2_setUp : GoodIn wsX4_source wsX2_setUp := goodIn_r _ [20, 21, 22, 23, 33, 34, 35] (by decide +kernel) (by decide +kernel)
set_option maxRecDepth 20000 in
theorem gX4_source_X2_setUp : GoodIn wsX4_source (wsV RX4 96 RX2 yX2_setUp wsX2_setUp) := goodIn_app (goodIn_of _ (by decide +kernel)) ggX4_source_X2_setUp
set_option maxRecDepth 20000 in
theorem ggX4_noise_X4_isWithin : GoodIn wsX4_noise wsX4_isWithin := goodIn_r _ [8] (by decide +kernel) (by decide +kernel)
set_option maxRecDepth 20000 in
theorem gX4_noise_X4_isWithin : GoodIn wsX4_noise (va_wsS RX4 41 yX4_isWithin wsX4_isWithin) := goodIn_app (goodIn_of _ (by decide +kernel)) ggX4_noise_X4_isWithin
set_option maxRecDepth 20000 in
theorem ggX4_noise_X1_getLoudness : GoodIn wsX4_noise wsX1_getLoudness := goodIn_r _ [13, 14, 29, 30] (by decide +kernel) (by decide +kernel)
set_option maxRecDepth 20000 in
theorem gX4_noise_X1_getLoudness : GoodIn wsX4_noise (wsV RX4 103 RX1 yX1_getLoudness wsX1_getLoudness) := goodIn_app (goodIn_of _ (by decide +kernel)) ggX4_noise_X1_getLoudness
set_option maxRecDepth 20000 in
theorem ggX4_noise_X1_set : GoodIn wsX4_noise wsX1_set := goodIn_r _ [18, 14, 19, 29, 30] (by decide +kernel) (by decide +kernel)
set_option maxRecDepth 20000 in
theorem gX4_noise_X1_set : GoodIn wsX4_noise (wsV RX4 107 RX1 yX1_set wsX1_set) := goodIn_app (goodIn_of _ (by decide +kernel)) ggX4_noise_X1_set
set_option maxRecDepth 20000 in
theorem ggX4_hear_X4_isWithin : GoodIn wsX4_hear wsX4_isWithin := goodIn_r _ [7] (by decide +kernel) (by decide +kernel)
set_option maxRecDepth 20000 in
theorem gX4_hear_X4_isWithin : GoodIn wsX4_hear (va_wsS RX4 41 yX4_isWithin wsX4_isWithin) := goodIn_app (goodIn_of _ (by decide +kernel)) ggX4_hear_X4_isWithin
set_option maxRecDepth 20000 in
theorem ggX4_hear_X4_hearOneTick : GoodIn wsX4_hear wsX4_hearOneTick := goodIn_r _ [11, 12, 13, 3, 14, 15, 16, 17, 18, 19, 20, 21, 22, 23, 24, 25, 26, 27, 28, 29, 30, 31, 32, 33, 34, 35, 6, 36, 37, 38, 39, 40, 41, 42, 43, 44, 45, 46, 47, 48, 49, 50, 51, 52, 53, 54, 55, 56, 57, 58, 59, 60, 61, 62, 63, 64, 65, 66, 67, 68, 69, 70, 71, 72, 73, 74, 75, 76, 77, 78, 79, 80, 81, 82, 83, 84, 85, 86, 87, 88, 89, 90, 91, 92, 93, 94, 95, 96, 97, 98, 99, 100, 101, 102, 103, 104, 105, 106, 107, 108, 109, 110, 111, 112, 113, 114, 115] (by decide +kernel) (by decide +kernel)
set_option maxRecDepth 20000 in
theorem gX4_hear_X4_hearOneTick : GoodIn wsX4_hear (wsV RX4 113 RX4 yX4_hearOneTick wsX4_hearOneTick) := goodIn_app (goodIn_of _ (by decide +kernel)) ggX4_hear_X4_hearOneTick
set_option maxRecDepth 20000 in
theorem ggX4_window_X4_isWithin : GoodIn wsX4_window wsX4_isWithin := goodIn_r _ [7] (by decide +kernel) (by decide +kernel)
set_option maxRecDepth 20000 in
theorem gX4_window_X4_isWithin : GoodIn wsX4_window (va_wsS RX4 41 yX4_isWithin wsX4_isWithin) := goodIn_app (goodIn_of _ (by decide +kernel)) ggX4_window_X4_isWithin
set_option maxRecDepth 20000 in
theorem ggX4_calibrate_X4_isBearing : GoodIn wsX4_calibrate wsX4_isBearing := goodIn_r _ [8, 9, 10, 7, 11] (by decide +kernel) (by decide +kernel)
set_option maxRecDepth 20000 in
theorem gX4_calibrate_X4_isBearing : GoodIn wsX4_calibrate (va_wsS RX4 84 yX4_isBearing wsX4_isBearing) := goodIn_app (goodIn_of _ (by decide +kernel)) ggX4_calibrate_X4_isBearing
set_option maxRecDepth 20000 in
theorem ggX4_calibrate_X4_lowestLiving : GoodIn wsX4_calibrate wsX4_lowestLiving := goodIn_r _ [15, 16, 17, 18, 19, 20, 21, 22, 107, 108, 109, 110, 111, 112, 113, 114, 115, 116, 117, 118, 119, 120, 121, 122, 123, 124, 125, 126] (by decide +kernel) (by decide +kernel)
set_option maxRecDepth 20000 in
theorem gX4_calibrate_X4_lowestLiving : GoodIn wsX4_calibrate (wsV RX4 118 RX4 yX4_lowestLiving wsX4_lowestLiving) := goodIn_app (goodIn_of _ (by decide +kernel)) ggX4_calibrate_X4_lowestLiving
set_option maxRecDepth 20000 in
theorem ggX4_calibrate_X4_layAll : GoodIn wsX4_calibrate wsX4_layAll := goodIn_r _ [26, 16, 17, 18, 19, 20, 21, 22, 27, 28, 29, 7, 30, 31, 32, 33, 34, 35, 36, 37, 38, 39, 40, 41, 42, 43, 44, 45, 46, 47, 48, 49, 50, 51, 52, 53, 54, 55, 56, 57, 58, 59, 60, 61, 62, 63, 64, 65, 66, 67, 68, 107, 108, 109, 110, 111, 112, 113, 114, 115, 116, 117, 118, 119, 120, 121, 122, 123, 124, 125, 126, 127, 128, 129] (by decide +kernel) (by decide +kernel)
set_option maxRecDepth 20000 in
theorem gX4_calibrate_X4_layAll : GoodIn wsX4_calibrate (wsV RX4 124 RX4 yX4_layAll wsX4_layAll) := goodIn_app (goodIn_of _ (by decide +kernel)) ggX4_calibrate_X4_layAll
set_option maxRecDepth 20000 in
theorem ggX4_calibrate_X0_agreement : GoodIn wsX4_calibrate wsX0_agreement := goodIn_r _ [72, 73, 74, 75, 20, 76, 77, 78, 79, 67, 80, 81, 82, 83, 84, 41, 116, 117, 118, 119, 120, 121, 122, 123, 124, 125, 126] (by decide +kernel) (by decide +kernel)
set_option maxRecDepth 20000 in
theorem gX4_calibrate_X0_agreement : GoodIn wsX4_calibrate (wsV RX4 128 RX0 yX0_agreement wsX0_agreement) := goodIn_app (goodIn_of _ (by decide +kernel)) ggX4_calibrate_X0_agreement
set_option maxRecDepth 20000 in
theorem ggX4_calibrate_X4_holdTo : GoodIn wsX4_calibrate wsX4_holdTo := goodIn_r _ [88, 16, 89, 90, 91, 20, 92, 62, 93, 17, 18, 19, 21, 22, 94, 95, 7, 96, 97, 98, 99, 100, 101, 34, 102, 103, 104, 105, 69, 70, 71, 72, 73, 74, 75, 76, 77, 78, 79, 67, 80, 81, 82, 83, 84, 41, 106, 66, 68, 107, 108, 109, 110, 111, 112, 113, 114, 115, 116, 117, 118, 119, 120, 121, 122, 123, 124, 125, 126] (by decide +kernel) (by decide +kernel)
set_option maxRecDepth 20000 in
theorem gX4_calibrate_X4_holdTo : GoodIn wsX4_calibrate (wsV RX4 134 RX4 yX4_holdTo wsX4_holdTo) := goodIn_app (goodIn_of _ (by decide +kernel)) ggX4_calibrate_X4_holdTo
set_option maxRecDepth 20000 in
theorem ggX4_sample_X4_isElement : GoodIn wsX4_sample wsX4_isElement := goodIn_r _ [8, 9, 3, 34, 35, 36, 37, 38, 39, 40, 41, 42] (by decide +kernel) (by decide +kernel)
set_option maxRecDepth 20000 in
theorem gX4_sample_X4_isElement : GoodIn wsX4_sample (wsV RX4 67 RX4 yX4_isElement wsX4_isElement) := goodIn_app (goodIn_of _ (by decide +kernel)) ggX4_sample_X4_isElement
set_option maxRecDepth 20000 in
theorem ggX4_sample_X4_isWithin : GoodIn wsX4_sample wsX4_isWithin := goodIn_r _ [12] (by decide +kernel) (by decide +kernel)
set_option maxRecDepth 20000 in
theorem gX4_sample_X4_isWithin : GoodIn wsX4_sample (va_wsS RX4 41 yX4_isWithin wsX4_isWithin) := goodIn_app (goodIn_of _ (by decide +kernel)) ggX4_sample_X4_isWithin
set_option maxRecDepth 20000 in
theorem ggX4_sample_X0_keptAt : GoodIn wsX4_sample wsX0_keptAt := goodIn_r _ [17, 18, 19, 20, 21, 22, 23, 24, 25, 26, 27, 28, 29, 30, 31, 32, 33, 43, 44, 45, 46, 47, 48, 49, 50, 51, 52, 53, 54, 55, 56] (by decide +kernel) (by decide +kernel)
set_option maxRecDepth 20000 in
theorem gX4_sample_X0_keptAt : GoodIn wsX4_sample (wsV RX4 140 RX0 yX0_keptAt wsX0_keptAt) := goodIn_app (goodIn_of _ (by decide +kernel)) ggX4_sample_X0_keptAt
set_option maxRecDepth 20000 in
theorem ggX4_sum_X4_isBearing : GoodIn wsX4_sum wsX4_isBearing := goodIn_r _ [7, 8, 9, 6, 10] (by decide +kernel) (by decide +kernel)
set_option maxRecDepth 20000 in
theorem gX4_sum_X4_isBearing : GoodIn wsX4_sum (va_wsS RX4 84 yX4_isBearing wsX4_isBearing) := goodIn_app (goodIn_of _ (by decide +kernel)) ggX4_sum_X4_isBearing
set_option maxRecDepth 20000 in
theorem ggX4_sum_X4_isWithin : GoodIn wsX4_sum wsX4_isWithin := goodIn_r _ [10] (by decide +kernel) (by decide +kernel)
set_option maxRecDepth 20000 in
theorem gX4_sum_X4_isWithin : GoodIn wsX4_sum (va_wsS RX4 41 yX4_isWithin wsX4_isWithin) := goodIn_app (goodIn_of _ (by decide +kernel)) ggX4_sum_X4_isWithin
set_option maxRecDepth 20000 in
theorem ggX4_sum_X4_layAll : GoodIn wsX4_sum wsX4_layAll := goodIn_r _ [14, 15, 16, 17, 18, 19, 20, 21, 22, 23, 24, 6, 25, 26, 27, 28, 29, 30, 31, 32, 33, 34, 35, 36, 37, 38, 39, 40, 41, 42, 43, 44, 45, 46, 47, 48, 49, 50, 51, 52, 53, 54, 55, 56, 57, 58, 59, 60, 61, 62, 63, 93, 94, 95, 96, 97, 98, 99, 100, 101, 102, 103, 104, 105, 106, 107, 108, 109, 110, 111, 112, 113, 114, 115] (by decide +kernel) (by decide +kernel)
set_option maxRecDepth 20000 in
theorem gX4_sum_X4_layAll : GoodIn wsX4_sum (wsV RX4 124 RX4 yX4_layAll wsX4_layAll) := goodIn_app (goodIn_of _ (by decide +kernel)) ggX4_sum_X4_layAll
set_option maxRecDepth 20000 in
theorem ggX4_sum_X4_steer : GoodIn wsX4_sum wsX4_steer := goodIn_r _ [67, 3, 15, 68, 69, 70, 71, 72, 73, 74, 19, 75, 35, 76, 77, 78, 79, 80, 81, 82, 83, 84, 85, 86, 87, 62, 88, 89, 90, 91, 92, 58, 93, 94, 95, 96, 97, 98, 99, 100, 101, 102, 103, 104, 105, 106, 107, 108, 109, 110, 111, 112] (by decide +kernel) (by decide +kernel)
set_option maxRecDepth 20000 in
theorem gX4_sum_X4_steer : GoodIn wsX4_sum (wsV RX4 146 RX4 yX4_steer wsX4_steer) := goodIn_app (goodIn_of _ (by decide +kernel)) ggX4_sum_X4_steer
set_option maxRecDepth 20000 in
theorem ggX4_power_X4_isBearing : GoodIn wsX4_power wsX4_isBearing := goodIn_r _ [6, 7, 8, 5, 9] (by decide +kernel) (by decide +kernel)
set_option maxRecDepth 20000 in
theorem gX4_power_X4_isBearing : GoodIn wsX4_power (va_wsS RX4 84 yX4_isBearing wsX4_isBearing) := goodIn_app (goodIn_of _ (by decide +kernel)) ggX4_power_X4_isBearing
set_option maxRecDepth 20000 in
theorem ggX4_power_X4_layAll : GoodIn wsX4_power wsX4_layAll := goodIn_r _ [13, 14, 15, 16, 17, 18, 19, 20, 21, 22, 23, 5, 24, 25, 26, 27, 28, 29, 30, 31, 32, 33, 34, 35, 36, 37, 38, 39, 40, 41, 42, 43, 44, 45, 46, 47, 48, 49, 50, 51, 52, 53, 54, 55, 56, 57, 58, 59, 60, 61, 62, 101, 102, 103, 104, 105, 106, 107, 108, 109, 110, 111, 112, 113, 114, 115, 116, 117, 118, 119, 120, 121, 122, 123] (by decide +kernel) (by decide +kernel)
set_option maxRecDepth 20000 in
theorem gX4_power_X4_layAll : GoodIn wsX4_power (wsV RX4 124 RX4 yX4_layAll wsX4_layAll) := goodIn_app (goodIn_of _ (by decide +kernel)) ggX4_power_X4_layAll
set_option maxRecDepth 20000 in
theorem ggX4_power_X4_powerBySums : GoodIn wsX4_power wsX4_powerBySums := goodIn_r _ [66, 67, 68, 69, 5, 70, 71, 14, 72, 73, 74, 75, 76, 77, 78, 18, 79, 34, 80, 81, 82, 83, 84, 85, 86, 87, 88, 89, 90, 91, 61, 92, 93, 94, 95, 96, 57, 97, 98, 99, 100, 101, 102, 103, 104, 105, 106, 107, 108, 109, 110, 111, 112, 113, 114, 115, 116, 117, 118, 119, 120] (by decide +kernel) (by decide +kernel)
set_option maxRecDepth 20000 in
theorem gX4_power_X4_powerBySums : GoodIn wsX4_power (wsV RX4 150 RX4 yX4_powerBySums wsX4_powerBySums) := goodIn_app (goodIn_of _ (by decide +kernel)) ggX4_power_X4_powerBySums
set_option maxRecDepth 20000 in
theorem ggX4_powerAnew_X4_isBearing : GoodIn wsX4_powerAnew wsX4_isBearing := goodIn_r _ [6, 7, 8, 5, 9] (by decide +kernel) (by decide +kernel)
set_option maxRecDepth 20000 in
theorem gX4_powerAnew_X4_isBearing : GoodIn wsX4_powerAnew (va_wsS RX4 84 yX4_isBearing wsX4_isBearing) := goodIn_app (goodIn_of _ (by decide +kernel)) ggX4_powerAnew_X4_isBearing
set_option maxRecDepth 20000 in
theorem ggX4_powerAnew_X4_layAll : GoodIn wsX4_powerAnew wsX4_layAll := goodIn_r _ [13, 14, 15, 16, 17, 18, 19, 20, 21, 22, 23, 5, 24, 25, 26, 27, 28, 29, 30, 31, 32, 33, 34, 35, 36, 37, 38, 39, 40, 41, 42, 43, 44, 45, 46, 47, 48, 49, 50, 51, 52, 53, 54, 55, 56, 57, 58, 59, 60, 61, 62, 88, 89, 90, 91, 92, 93, 94, 95, 96, 97, 98, 99, 100, 101, 102, 103, 104, 105, 106, 107, 108, 109, 110] (by decide +kernel) (by decide +kernel)
set_option maxRecDepth 20000 in
theorem gX4_powerAnew_X4_layAll : GoodIn wsX4_powerAnew (wsV RX4 124 RX4 yX4_layAll wsX4_layAll) := goodIn_app (goodIn_of _ (by decide +kernel)) ggX4_powerAnew_X4_layAll
set_option maxRecDepth 20000 in
theorem ggX4_powerAnew_X4_powerByPairs : GoodIn wsX4_powerAnew wsX4_powerByPairs := goodIn_r _ [66, 14, 67, 68, 69, 18, 70, 34, 71, 72, 73, 74, 75, 76, 77, 78, 79, 80, 81, 82, 61, 83, 84, 85, 86, 87, 57, 88, 89, 90, 91, 92, 93, 94, 95, 96, 97, 98, 99, 100, 101, 102, 103, 104, 105, 106, 107] (by decide +kernel) (by decide +kernel)
set_option maxRecDepth 20000 in
theorem gX4_powerAnew_X4_powerByPairs : GoodIn wsX4_powerAnew (wsV RX4 154 RX4 yX4_powerByPairs wsX4_powerByPairs) := goodIn_app (goodIn_of _ (by decide +kernel)) ggX4_powerAnew_X4_powerByPairs
set_option maxRecDepth 20000 in
theorem ggX4_peaks_X4_isWithin : GoodIn wsX4_peaks wsX4_isWithin := goodIn_r _ [8] (by decide +kernel) (by decide +kernel)
set_option maxRecDepth 20000 in
theorem gX4_peaks_X4_isWithin : GoodIn wsX4_peaks (va_wsS RX4 41 yX4_isWithin wsX4_isWithin) := goodIn_app (goodIn_of _ (by decide +kernel)) ggX4_peaks_X4_isWithin
set_option maxRecDepth 20000 in
theorem ggX4_peaks_X4_layAll : GoodIn wsX4_peaks wsX4_layAll := goodIn_r _ [12, 13, 14, 15, 16, 17, 18, 19, 20, 21, 22, 7, 23, 24, 25, 26, 27, 28, 29, 30, 31, 32, 33, 34, 35, 36, 37, 38, 39, 40, 41, 42, 43, 44, 45, 46, 47, 48, 49, 50, 51, 52, 53, 54, 55, 56, 57, 58, 59, 60, 61, 111, 112, 113, 114, 115, 116, 117, 118, 119, 120, 121, 122, 123, 124, 125, 126, 127, 128, 129, 130, 131, 132, 133] (by decide +kernel) (by decide +kernel)
set_option maxRecDepth 20000 in
theorem gX4_peaks_X4_layAll : GoodIn wsX4_peaks (wsV RX4 124 RX4 yX4_layAll wsX4_layAll) := goodIn_app (goodIn_of _ (by decide +kernel)) ggX4_peaks_X4_layAll
set_option maxRecDepth 20000 in
theorem ggX4_peaks_X4_fillPowers : GoodIn wsX4_peaks wsX4_fillPowers := goodIn_r _ [65, 3, 66, 67, 27, 68, 69, 70, 71, 7, 72, 73, 13, 74, 75, 76, 77, 78, 79, 80, 17, 81, 33, 82, 83, 84, 85, 86, 87, 88, 89, 90, 91, 92, 93, 60, 94, 95, 96, 97, 98, 56, 99, 100, 101, 102, 111, 112, 113, 114, 115, 116, 117, 118, 119, 120, 121, 122, 123, 124, 125, 126, 127, 128, 129, 130] (by decide +kernel) (by decide +kernel)
set_option maxRecDepth 20000 in
theorem gX4_peaks_X4_fillPowers : GoodIn wsX4_peaks (wsV RX4 159 RX4 yX4_fillPowers wsX4_fillPowers) := goodIn_app (goodIn_of _ (by decide +kernel)) ggX4_peaks_X4_fillPowers
set_option maxRecDepth 20000 in
theorem ggX4_peaks_X4_isPeak : GoodIn wsX4_peaks wsX4_isPeak := goodIn_r _ [106, 107, 108, 109, 7, 110, 3, 111, 112, 113, 114, 115, 116, 117, 118, 119] (by decide +kernel) (by decide +kernel)
set_option maxRecDepth 20000 in
theorem gX4_peaks_X4_isPeak : GoodIn wsX4_peaks (wsV RX4 162 RX4 yX4_isPeak wsX4_isPeak) := goodIn_app (goodIn_of _ (by decide +kernel)) ggX4_peaks_X4_isPeak
set_option maxRecDepth 20000 in
theorem ggX4_found_X4_isWithin : GoodIn wsX4_found wsX4_isWithin := goodIn_r _ [6] (by decide +kernel) (by decide +kernel)
set_option maxRecDepth 20000 in
theorem gX4_found_X4_isWithin : GoodIn wsX4_found (va_wsS RX4 41 yX4_isWithin wsX4_isWithin) := goodIn_app (goodIn_of _ (by decide +kernel)) ggX4_found_X4_isWithin
set_option maxRecDepth 20000 in
theorem ggX4_found_X4_layAll : GoodIn wsX4_found wsX4_layAll := goodIn_r _ [10, 11, 12, 13, 14, 15, 16, 17, 18, 19, 20, 5, 21, 22, 23, 24, 25, 26, 27, 28, 29, 30, 31, 32, 33, 34, 35, 36, 37, 38, 39, 40, 41, 42, 43, 44, 45, 46, 47, 48, 49, 50, 51, 52, 53, 54, 55, 56, 57, 58, 59, 117, 118, 119, 120, 121, 122, 123, 124, 125, 126, 127, 128, 129, 130, 131, 132, 133, 134, 135, 136, 137, 138, 139] (by decide +kernel) (by decide +kernel)
set_option maxRecDepth 20000 in
theorem gX4_found_X4_layAll : GoodIn wsX4_found (wsV RX4 124 RX4 yX4_layAll wsX4_layAll) := goodIn_app (goodIn_of _ (by decide +kernel)) ggX4_found_X4_layAll
set_option maxRecDepth 20000 in
theorem ggX4_found_X4_strongest : GoodIn wsX4_found wsX4_strongest := goodIn_r _ [63, 64, 65, 66, 67, 5, 68, 69, 70, 25, 71, 72, 73, 74, 75, 76, 11, 77, 78, 79, 80, 81, 82, 83, 15, 84, 31, 85, 86, 87, 88, 89, 90, 91, 92, 93, 94, 95, 96, 58, 97, 98, 99, 100, 101, 54, 102, 103, 104, 105, 117, 118, 119, 120, 121, 122, 123, 124, 125, 126, 127, 128, 129, 130, 131, 132, 133, 134, 135, 136] (by decide +kernel) (by decide +kernel)
set_option maxRecDepth 20000 in
theorem gX4_found_X4_strongest : GoodIn wsX4_found (wsV RX4 169 RX4 yX4_strongest wsX4_strongest) := goodIn_app (goodIn_of _ (by decide +kernel)) ggX4_found_X4_strongest
set_option maxRecDepth 20000 in
theorem ggX4_found_X4_takeAway : GoodIn wsX4_found wsX4_takeAway := goodIn_r _ [109, 76, 11, 72, 73, 74, 5, 75, 77, 78, 79, 80, 81, 82, 83, 15, 84, 31, 85, 86, 87, 88, 89, 90, 91, 92, 93, 94, 95, 96, 58, 97, 98, 99, 100, 101, 54, 110, 57, 59, 111, 112, 113, 114, 33, 32, 115, 45, 46, 37, 47, 39, 48, 116, 50, 51, 52, 53, 55, 56, 117, 118, 119, 120, 121, 122, 123, 124, 125, 126, 127, 128, 129, 130, 131, 132, 133, 134, 135, 136, 137, 138, 139] (by decide +kernel) (by decide +kernel)
set_option maxRecDepth 20000 in
theorem gX4_found_X4_takeAway : GoodIn wsX4_found (wsV RX4 172 RX4 yX4_takeAway wsX4_takeAway) := goodIn_app (goodIn_of _ (by decide +kernel)) ggX4_found_X4_takeAway
set_option maxRecDepth 20000 in
theorem ggX4_calibrated_X4_isElement : GoodIn wsX4_calibrated wsX4_isElement := goodIn_r _ [8, 9, 3, 21, 22, 23, 24, 25, 26, 27, 28, 29] (by decide +kernel) (by decide +kernel)
set_option maxRecDepth 20000 in
theorem gX4_calibrated_X4_isElement : GoodIn wsX4_calibrated (wsV RX4 67 RX4 yX4_isElement wsX4_isElement) := goodIn_app (goodIn_of _ (by decide +kernel)) ggX4_calibrated_X4_isElement
set_option maxRecDepth 20000 in
theorem ggX4_calibrated_X0_getTrimLag : GoodIn wsX4_calibrated wsX0_getTrimLag := goodIn_r _ [14, 15, 30, 31, 32, 33, 34, 35, 36, 37, 38, 39, 40] (by decide +kernel) (by decide +kernel)
set_option maxRecDepth 20000 in
theorem gX4_calibrated_X0_getTrimLag : GoodIn wsX4_calibrated (wsV RX4 176 RX0 yX0_getTrimLag wsX0_getTrimLag) := goodIn_app (goodIn_of _ (by decide +kernel)) ggX4_calibrated_X0_getTrimLag
set_option maxRecDepth 20000 in
theorem ggX4_calibrated_X0_getTrimGain : GoodIn wsX4_calibrated wsX0_getTrimGain := goodIn_r _ [19, 20, 30, 31, 32, 33, 34, 35, 36, 37, 38, 39, 40] (by decide +kernel) (by decide +kernel)
set_option maxRecDepth 20000 in
theorem gX4_calibrated_X0_getTrimGain : GoodIn wsX4_calibrated (wsV RX4 179 RX0 yX0_getTrimGain wsX0_getTrimGain) := goodIn_app (goodIn_of _ (by decide +kernel)) ggX4_calibrated_X0_getTrimGain
set_option maxRecDepth 20000 in
theorem ggX4_isBearing_X4_isWithin : GoodIn wsX4_isBearing wsX4_isWithin := goodIn_r _ [4] (by decide +kernel) (by decide +kernel)
set_option maxRecDepth 20000 in
theorem gX4_isBearing_X4_isWithin : GoodIn wsX4_isBearing (va_wsS RX4 41 yX4_isWithin wsX4_isWithin) := goodIn_app (goodIn_of _ (by decide +kernel)) ggX4_isBearing_X4_isWithin
set_option maxRecDepth 20000 in
theorem ggX4_hearOneTick_X0_isUp : GoodIn wsX4_hearOneTick wsX0_isUp := goodIn_r _ [8, 9, 88, 89, 90, 91, 92, 93, 94, 95, 96, 97, 98] (by decide +kernel) (by decide +kernel)
set_option maxRecDepth 20000 in
theorem gX4_hearOneTick_X0_isUp : GoodIn wsX4_hearOneTick (wsV RX4 182 RX0 yX0_isUp wsX0_isUp) := goodIn_app (goodIn_of _ (by decide +kernel)) ggX4_hearOneTick_X0_isUp
set_option maxRecDepth 20000 in
theorem ggX4_hearOneTick_X1_draw : GoodIn wsX4_hearOneTick wsX1_draw := goodIn_r _ [14, 15, 16, 17, 99, 100] (by decide +kernel) (by decide +kernel)
set_option maxRecDepth 20000 in
theorem gX4_hearOneTick_X1_draw : GoodIn wsX4_hearOneTick (wsV RX4 185 RX1 yX1_draw wsX1_draw) := goodIn_app (goodIn_of _ (by decide +kernel)) ggX4_hearOneTick_X1_draw
set_option maxRecDepth 20000 in
theorem ggX4_hearOneTick_X0_isLiving : GoodIn wsX4_hearOneTick wsX0_isLiving := goodIn_r _ [21, 22, 88, 89, 90, 91, 92, 93, 94, 95, 96, 97, 98] (by decide +kernel) (by decide +kernel)
set_option maxRecDepth 20000 in
theorem gX4_hearOneTick_X0_isLiving : GoodIn wsX4_hearOneTick (wsV RX4 76 RX0 yX0_isLiving wsX0_isLiving) := goodIn_app (goodIn_of _ (by decide +kernel)) ggX4_hearOneTick_X0_isLiving
set_option maxRecDepth 20000 in
theorem ggX4_hearOneTick_X4_wavesAt : GoodIn wsX4_hearOneTick wsX4_wavesAt := goodIn_r _ [27, 28, 29, 3, 30, 31, 32, 33, 34, 35, 36, 37, 38, 7, 39, 40, 41, 42, 43, 44, 45, 46, 47, 48, 49, 50, 51, 52, 53, 54, 55, 56, 57, 58, 79, 80, 81, 82, 83, 84, 85, 86, 87, 101, 102, 103, 88, 89, 90, 91, 92, 93, 94, 95, 96, 97, 98] (by decide +kernel) (by decide +kernel)
set_option maxRecDepth 20000 in
theorem gX4_hearOneTick_X4_wavesAt : GoodIn wsX4_hearOneTick (wsV RX4 188 RX4 yX4_wavesAt wsX4_wavesAt) := goodIn_app (goodIn_of _ (by decide +kernel)) ggX4_hearOneTick_X4_wavesAt
set_option maxRecDepth 20000 in
theorem ggX4_hearOneTick_X0_heardOf : GoodIn wsX4_hearOneTick wsX0_heardOf := goodIn_r _ [62, 63, 41, 42, 43, 44, 88, 89, 90, 91, 92, 93, 94, 95, 96, 97, 98] (by decide +kernel) (by decide +kernel)
set_option maxRecDepth 20000 in
theorem gX4_hearOneTick_X0_heardOf : GoodIn wsX4_hearOneTick (wsV RX4 192 RX0 yX0_heardOf wsX0_heardOf) := goodIn_app (goodIn_of _ (by decide +kernel)) ggX4_hearOneTick_X0_heardOf
set_option maxRecDepth 20000 in
theorem ggX4_hearOneTick_X0_keep : GoodIn wsX4_hearOneTick wsX0_keep := goodIn_r _ [67, 68, 69, 70, 71, 72, 73, 74, 75, 76, 77, 78, 88, 89, 90, 91, 92, 93, 94, 95, 96, 97, 98, 104, 105, 106] (by decide +kernel) (by decide +kernel)
set_option maxRecDepth 20000 in
theorem gX4_hearOneTick_X0_keep : GoodIn wsX4_hearOneTick (wsV RX4 195 RX0 yX0_keep wsX0_keep) := goodIn_app (goodIn_of _ (by decide +kernel)) ggX4_hearOneTick_X0_keep
set_option maxRecDepth 20000 in
theorem ggX4_wavesAt_X2_getBearing : GoodIn wsX4_wavesAt wsX2_getBearing := goodIn_r _ [8, 9, 43, 44, 45] (by decide +kernel) (by decide +kernel)
set_option maxRecDepth 20000 in
theorem gX4_wavesAt_X2_getBearing : GoodIn wsX4_wavesAt (wsV RX4 198 RX2 yX2_getBearing wsX2_getBearing) := goodIn_app (goodIn_of _ (by decide +kernel)) ggX4_wavesAt_X2_getBearing
set_option maxRecDepth 20000 in
theorem ggX4_wavesAt_X0_delayFor : GoodIn wsX4_wavesAt wsX0_delayFor := goodIn_r _ [14, 15, 16, 17, 18, 19, 46, 47, 48, 49, 50, 51, 52, 53, 54, 55, 56] (by decide +kernel) (by decide +kernel)
set_option maxRecDepth 20000 in
theorem gX4_wavesAt_X0_delayFor : GoodIn wsX4_wavesAt (wsV RX4 201 RX0 yX0_delayFor wsX0_delayFor) := goodIn_app (goodIn_of _ (by decide +kernel)) ggX4_wavesAt_X0_delayFor
set_option maxRecDepth 20000 in
theorem ggX4_wavesAt_X0_getLag : GoodIn wsX4_wavesAt wsX0_getLag := goodIn_r _ [23, 24, 46, 47, 48, 49, 50, 51, 52, 53, 54, 55, 56] (by decide +kernel) (by decide +kernel)
set_option maxRecDepth 20000 in
theorem gX4_wavesAt_X0_getLag : GoodIn wsX4_wavesAt (wsV RX4 204 RX0 yX0_getLag wsX0_getLag) := goodIn_app (goodIn_of _ (by decide +kernel)) ggX4_wavesAt_X0_getLag
set_option maxRecDepth 20000 in
theorem ggX4_wavesAt_X2_waveAt : GoodIn wsX4_wavesAt wsX2_waveAt := goodIn_r _ [28, 29, 30, 31, 32, 18, 33, 43, 44, 45] (by decide +kernel) (by decide +kernel)
set_option maxRecDepth 20000 in
theorem gX4_wavesAt_X2_waveAt : GoodIn wsX4_wavesAt (wsV RX4 207 RX2 yX2_waveAt wsX2_waveAt) := goodIn_app (goodIn_of _ (by decide +kernel)) ggX4_wavesAt_X2_waveAt
set_option maxRecDepth 20000 in
theorem ggX4_layAll_X0_isLiving : GoodIn wsX4_layAll wsX0_isLiving := goodIn_r _ [6, 7, 60, 61, 62, 63, 64, 65, 66, 67, 68, 69, 70] (by decide +kernel) (by decide +kernel)
set_option maxRecDepth 20000 in
theorem gX4_layAll_X0_isLiving : GoodIn wsX4_layAll (wsV RX4 76 RX0 yX0_isLiving wsX0_isLiving) := goodIn_app (goodIn_of _ (by decide +kernel)) ggX4_layAll_X0_isLiving
set_option maxRecDepth 20000 in
theorem ggX4_layAll_X4_weightOf : GoodIn wsX4_layAll wsX4_weightOf := goodIn_r _ [12, 13, 14, 15, 16, 17, 51, 52, 53, 54, 55, 56, 57, 58, 59] (by decide +kernel) (by decide +kernel)
set_option maxRecDepth 20000 in
theorem gX4_layAll_X4_weightOf : GoodIn wsX4_layAll (wsV RX4 210 RX4 yX4_weightOf wsX4_weightOf) := goodIn_app (goodIn_of _ (by decide +kernel)) ggX4_layAll_X4_weightOf
set_option maxRecDepth 20000 in
theorem ggX4_layAll_X0_layOut : GoodIn wsX4_layAll wsX0_layOut := goodIn_r _ [21, 22, 23, 24, 25, 26, 27, 28, 29, 30, 31, 32, 33, 34, 35, 36, 37, 38, 39, 40, 41, 42, 5, 43, 44, 45, 46, 47, 48, 49, 50, 60, 61, 62, 63, 64, 65, 66, 67, 68, 69, 70, 71, 72, 73] (by decide +kernel) (by decide +kernel)
set_option maxRecDepth 20000 in
theorem gX4_layAll_X0_layOut : GoodIn wsX4_layAll (wsV RX4 214 RX0 yX0_layOut wsX0_layOut) := goodIn_app (goodIn_of _ (by decide +kernel)) ggX4_layAll_X0_layOut
set_option maxRecDepth 20000 in
theorem ggX4_steer_J7_fill_d0a16 : GoodIn wsX4_steer wsJ7_fill_d0a16 := goodIn_r _ [6] (by decide +kernel) (by decide +kernel)
set_option maxRecDepth 20000 in
theorem gX4_steer_J7_fill_d0a16 : GoodIn wsX4_steer (va_wsS RX4 222 yJ7_fill_d0a16 wsJ7_fill_d0a16) := goodIn_app (goodIn_of _ (by decide +kernel)) ggX4_steer_J7_fill_d0a16
set_option maxRecDepth 20000 in
theorem ggX4_steer_X0_tellTo : GoodIn wsX4_steer wsX0_tellTo := goodIn_r _ [11, 12, 13, 14, 15, 10, 16, 17, 18, 19, 20, 21, 22, 23, 24, 25, 26, 27, 28, 29, 30, 31, 41, 42, 43, 44, 45, 46, 47, 48, 49, 50, 51] (by decide +kernel) (by decide +kernel)
set_option maxRecDepth 20000 in
theorem gX4_steer_X0_tellTo : GoodIn wsX4_steer (wsV RX4 228 RX0 yX0_tellTo wsX0_tellTo) := goodIn_app (goodIn_of _ (by decide +kernel)) ggX4_steer_X0_tellTo
set_option maxRecDepth 20000 in
theorem ggX4_powerBySums_X4_steer : GoodIn wsX4_powerBySums wsX4_steer := goodIn_r _ [5, 6, 7, 8, 9, 10, 11, 12, 13, 14, 15, 16, 17, 18, 19, 20, 21, 22, 23, 24, 25, 26, 27, 28, 29, 30, 31, 32, 33, 34, 35, 36, 41, 42, 43, 44, 45, 46, 47, 48, 49, 50, 51, 52, 53, 54, 55, 56, 57, 58, 59, 60] (by decide +kernel) (by decide +kernel)
set_option maxRecDepth 20000 in
theorem gX4_powerBySums_X4_steer : GoodIn wsX4_powerBySums (wsV RX4 146 RX4 yX4_steer wsX4_steer) := goodIn_app (goodIn_of _ (by decide +kernel)) ggX4_powerBySums_X4_steer
set_option maxRecDepth 20000 in
theorem ggX4_powerBySums_X4_squaresOfSums : GoodIn wsX4_powerBySums wsX4_squaresOfSums := goodIn_r _ [40, 6, 41, 42, 43, 44, 45, 46, 47, 48, 49] (by decide +kernel) (by decide +kernel)
set_option maxRecDepth 20000 in
theorem gX4_powerBySums_X4_squaresOfSums : GoodIn wsX4_powerBySums (wsV RX4 232 RX4 yX4_squaresOfSums wsX4_squaresOfSums) := goodIn_app (goodIn_of _ (by decide +kernel)) ggX4_powerBySums_X4_squaresOfSums
set_option maxRecDepth 20000 in
theorem ggX4_powerByPairs_X0_toldWith : GoodIn wsX4_powerByPairs wsX0_toldWith := goodIn_r _ [6, 7, 8, 9, 10, 5, 11, 12, 13, 14, 15, 16, 17, 18, 19, 20, 21, 22, 23, 24, 25, 26, 36, 37, 38, 39, 40, 41, 42, 43, 44, 45, 46] (by decide +kernel) (by decide +kernel)
set_option maxRecDepth 20000 in
theorem gX4_powerByPairs_X0_toldWith : GoodIn wsX4_powerByPairs (wsV RX4 235 RX0 yX0_toldWith wsX0_toldWith) := goodIn_app (goodIn_of _ (by decide +kernel)) ggX4_powerByPairs_X0_toldWith
set_option maxRecDepth 20000 in
theorem ggX4_fillPowers_X4_steer : GoodIn wsX4_fillPowers wsX4_steer := goodIn_r _ [10, 11, 12, 13, 14, 15, 16, 17, 18, 19, 20, 21, 22, 23, 24, 25, 26, 27, 28, 29, 30, 31, 32, 33, 34, 35, 36, 37, 38, 39, 40, 41, 46, 47, 48, 49, 50, 51, 52, 53, 54, 55, 56, 57, 58, 59, 60, 61, 62, 63, 64, 65] (by decide +kernel) (by decide +kernel)
set_option maxRecDepth 20000 in
theorem gX4_fillPowers_X4_steer : GoodIn wsX4_fillPowers (wsV RX4 146 RX4 yX4_steer wsX4_steer) := goodIn_app (goodIn_of _ (by decide +kernel)) ggX4_fillPowers_X4_steer
set_option maxRecDepth 20000 in
theorem ggX4_fillPowers_X4_squaresOfSums : GoodIn wsX4_fillPowers wsX4_squaresOfSums := goodIn_r _ [45, 11, 46, 47, 48, 49, 50, 51, 52, 53, 54] (by decide +kernel) (by decide +kernel)
set_option maxRecDepth 20000 in
theorem gX4_fillPowers_X4_squaresOfSums : GoodIn wsX4_fillPowers (wsV RX4 232 RX4 yX4_squaresOfSums wsX4_squaresOfSums) := goodIn_app (goodIn_of _ (by decide +kernel)) ggX4_fillPowers_X4_squaresOfSums
set_option maxRecDepth 20000 in
theorem ggX4_isPeak_X4_powerAt : GoodIn wsX4_isPeak wsX4_powerAt := goodIn_r _ [5, 6, 7, 8, 9, 10, 11, 12, 13, 14, 15] (by decide +kernel) (by decide +kernel)
set_option maxRecDepth 20000 in
theorem gX4_isPeak_X4_powerAt : GoodIn wsX4_isPeak (wsV RX4 243 RX4 yX4_powerAt wsX4_powerAt) := goodIn_app (goodIn_of _ (by decide +kernel)) ggX4_isPeak_X4_powerAt
set_option maxRecDepth 20000 in
theorem ggX4_strongest_X4_fillPowers : GoodIn wsX4_strongest wsX4_fillPowers := goodIn_r _ [6, 1, 7, 8, 9, 10, 11, 12, 13, 5, 14, 15, 16, 17, 18, 19, 20, 21, 22, 23, 24, 25, 26, 27, 28, 29, 30, 31, 32, 33, 34, 35, 36, 37, 38, 39, 40, 41, 42, 43, 44, 45, 46, 47, 48, 49, 50, 51, 52, 53, 54, 55, 56, 57, 58, 59, 60, 61, 62, 63, 64, 65, 66, 67, 68, 69] (by decide +kernel) (by decide +kernel)
set_option maxRecDepth 20000 in
theorem gX4_strongest_X4_fillPowers : GoodIn wsX4_strongest (wsV RX4 159 RX4 yX4_fillPowers wsX4_fillPowers) := goodIn_app (goodIn_of _ (by decide +kernel)) ggX4_strongest_X4_fillPowers
set_option maxRecDepth 20000 in
theorem ggX4_takeAway_X4_steer : GoodIn wsX4_takeAway wsX4_steer := goodIn_r _ [7, 1, 2, 8, 9, 10, 11, 12, 13, 14, 15, 16, 17, 18, 19, 20, 21, 22, 23, 24, 25, 26, 27, 28, 29, 30, 31, 32, 33, 34, 35, 36, 60, 61, 62, 63, 64, 65, 66, 67, 68, 69, 70, 71, 72, 73, 74, 75, 76, 77, 78, 79] (by decide +kernel) (by decide +kernel)
set_option maxRecDepth 20000 in
theorem gX4_takeAway_X4_steer : GoodIn wsX4_takeAway (wsV RX4 146 RX4 yX4_steer wsX4_steer) := goodIn_app (goodIn_of _ (by decide +kernel)) ggX4_takeAway_X4_steer
set_option maxRecDepth 20000 in
theorem ggX4_takeAway_J9_floorDiv_f86c9 : GoodIn wsX4_takeAway wsJ9_floorDiv_f86c9 := goodIn_r _ [39] (by decide +kernel) (by decide +kernel)
set_option maxRecDepth 20000 in
theorem gX4_takeAway_J9_floorDiv_f86c9 : GoodIn wsX4_takeAway (va_wsS RX4 246 yJ9_floorDiv_f86c9 wsJ9_floorDiv_f86c9) := goodIn_app (goodIn_of _ (by decide +kernel)) ggX4_takeAway_J9_floorDiv_f86c9
set_option maxRecDepth 20000 in
theorem ggX4_takeAway_X0_takeAway : GoodIn wsX4_takeAway wsX0_takeAway := goodIn_r _ [43, 17, 44, 45, 18, 19, 20, 15, 21, 22, 23, 24, 25, 26, 27, 28, 29, 30, 31, 46, 47, 48, 49, 50, 51, 52, 69, 70, 71, 72, 73, 74, 75, 76, 77, 78, 79, 80, 81, 82] (by decide +kernel) (by decide +kernel)
set_option maxRecDepth 20000 in
theorem gX4_takeAway_X0_takeAway : GoodIn wsX4_takeAway (wsV RX4 249 RX0 yX0_takeAway wsX0_takeAway) := goodIn_app (goodIn_of _ (by decide +kernel)) ggX4_takeAway_X0_takeAway
set_option maxRecDepth 20000 in
theorem ggX4_takeAway_X0_turnAll : GoodIn wsX4_takeAway wsX0_turnAll := goodIn_r _ [56, 17, 57, 36, 45, 58, 59, 38, 30, 39, 69, 70, 71, 72, 73, 74, 75, 76, 77, 78, 79] (by decide +kernel) (by decide +kernel)
set_option maxRecDepth 20000 in
theorem gX4_takeAway_X0_turnAll : GoodIn wsX4_takeAway (wsV RX4 252 RX0 yX0_turnAll wsX0_turnAll) := goodIn_app (goodIn_of _ (by decide +kernel)) ggX4_takeAway_X0_turnAll
set_option maxRecDepth 20000 in
theorem ggX4_lowestLiving_X0_isLiving : GoodIn wsX4_lowestLiving wsX0_isLiving := goodIn_r _ [6, 7, 17, 18, 19, 20, 21, 22, 23, 24, 25, 26, 27] (by decide +kernel) (by decide +kernel)
set_option maxRecDepth 20000 in
theorem gX4_lowestLiving_X0_isLiving : GoodIn wsX4_lowestLiving (wsV RX4 76 RX0 yX0_isLiving wsX0_isLiving) := goodIn_app (goodIn_of _ (by decide +kernel)) ggX4_lowestLiving_X0_isLiving
set_option maxRecDepth 20000 in
theorem ggX4_holdTo_X0_trim : GoodIn wsX4_holdTo wsX0_trim := goodIn_r _ [6, 7, 8, 58, 59, 60, 61, 62, 63, 64, 65, 66, 67, 68] (by decide +kernel) (by decide +kernel)
set_option maxRecDepth 20000 in
theorem gX4_holdTo_X0_trim : GoodIn wsX4_holdTo (wsV RX4 255 RX0 yX0_trim wsX0_trim) := goodIn_app (goodIn_of _ (by decide +kernel)) ggX4_holdTo_X0_trim
set_option maxRecDepth 20000 in
theorem ggX4_holdTo_X0_isLiving : GoodIn wsX4_holdTo wsX0_isLiving := goodIn_r _ [12, 13, 58, 59, 60, 61, 62, 63, 64, 65, 66, 67, 68] (by decide +kernel) (by decide +kernel)
set_option maxRecDepth 20000 in
theorem gX4_holdTo_X0_isLiving : GoodIn wsX4_holdTo (wsV RX4 76 RX0 yX0_isLiving wsX0_isLiving) := goodIn_app (goodIn_of _ (by decide +kernel)) ggX4_holdTo_X0_isLiving
set_option maxRecDepth 20000 in
theorem ggX4_holdTo_X4_fit : GoodIn wsX4_holdTo wsX4_fit := goodIn_r _ [17, 18, 19, 20, 21, 22, 23, 24, 25, 26, 27, 28, 29, 30, 5, 31, 32, 33, 34, 35, 36, 37, 38, 39, 40, 41, 42, 43, 44, 45, 46, 47, 48, 2, 3, 4, 6, 7, 8, 58, 59, 60, 61, 62, 63, 64, 65, 66, 67, 68] (by decide +kernel) (by decide +kernel)
set_option maxRecDepth 20000 in
theorem gX4_holdTo_X4_fit : GoodIn wsX4_holdTo (va_wsS RX4 259 yX4_fit wsX4_fit) := goodIn_app (goodIn_of _ (by decide +kernel)) ggX4_holdTo_X4_fit
set_option maxRecDepth 20000 in
theorem ggX4_fit_X0_agreement : GoodIn wsX4_fit wsX0_agreement := goodIn_r _ [15, 16, 17, 18, 14, 19, 20, 21, 22, 23, 24, 25, 26, 27, 28, 29, 39, 40, 41, 42, 43, 44, 45, 46, 47, 48, 49] (by decide +kernel) (by decide +kernel)
set_option maxRecDepth 20000 in
theorem gX4_fit_X0_agreement : GoodIn wsX4_fit (wsV RX4 128 RX0 yX0_agreement wsX0_agreement) := goodIn_app (goodIn_of _ (by decide +kernel)) ggX4_fit_X0_agreement
set_option maxRecDepth 20000 in
theorem ggX4_fit_J9_floorDiv_f86c9 : GoodIn wsX4_fit wsJ9_floorDiv_f86c9 := goodIn_r _ [32] (by decide +kernel) (by decide +kernel)
set_option maxRecDepth 20000 in
theorem gX4_fit_J9_floorDiv_f86c9 : GoodIn wsX4_fit (va_wsS RX4 246 yJ9_floorDiv_f86c9 wsJ9_floorDiv_f86c9) := goodIn_app (goodIn_of _ (by decide +kernel)) ggX4_fit_J9_floorDiv_f86c9
set_option maxRecDepth 20000 in
theorem ggX4_fit_X0_trim : GoodIn wsX4_fit wsX0_trim := goodIn_r _ [36, 37, 38, 39, 40, 41, 42, 43, 44, 45, 46, 47, 48, 49] (by decide +kernel) (by decide +kernel)
set_option maxRecDepth 20000 in
theorem gX4_fit_X0_trim : GoodIn wsX4_fit (wsV RX4 255 RX0 yX0_trim wsX0_trim) := goodIn_app (goodIn_of _ (by decide +kernel)) ggX4_fit_X0_trim
set_option maxRecDepth 20000 in
theorem ggX5_isElement_X5_isIn : GoodIn wsX5_isElement wsX5_isIn := goodIn_r _ [5] (by decide +kernel) (by decide +kernel)
set_option maxRecDepth 20000 in
theorem gX5_isElement_X5_isIn : GoodIn wsX5_isElement (va_wsS RX5 64 yX5_isIn wsX5_isIn) := goodIn_app (goodIn_of _ (by decide +kernel)) ggX5_isElement_X5_isIn
set_option maxRecDepth 20000 in
theorem ggX5_isBearing_X5_isIn : GoodIn wsX5_isBearing wsX5_isIn := goodIn_r _ [4] (by decide +kernel) (by decide +kernel)
set_option maxRecDepth 20000 in
theorem gX5_isBearing_X5_isIn : GoodIn wsX5_isBearing (va_wsS RX5 64 yX5_isIn wsX5_isIn) := goodIn_app (goodIn_of _ (by decide +kernel)) ggX5_isBearing_X5_isIn
set_option maxRecDepth 20000 in
theorem ggX5_delay_X5_down : GoodIn wsX5_delay wsX5_down := goodIn_r _ [6] (by decide +kernel) (by decide +kernel)
set_option maxRecDepth 20000 in
theorem gX5_delay_X5_down : GoodIn wsX5_delay (va_wsS RX5 70 yX5_down wsX5_down) := goodIn_app (goodIn_of _ (by decide +kernel)) ggX5_delay_X5_down
set_option maxRecDepth 20000 in
theorem ggX5_element_X5_isIn : GoodIn wsX5_element wsX5_isIn := goodIn_r _ [13] (by decide +kernel) (by decide +kernel)
set_option maxRecDepth 20000 in
theorem gX5_element_X5_isIn : GoodIn wsX5_element (va_wsS RX5 64 yX5_isIn wsX5_isIn) := goodIn_app (goodIn_of _ (by decide +kernel)) ggX5_element_X5_isIn
set_option maxRecDepth 20000 in
theorem ggX5_element_X5_goes : GoodIn wsX5_element wsX5_goes := goodIn_r _ [17, 18, 19, 20, 21, 22, 23, 24, 25, 26, 27, 28, 29, 30, 31, 32, 33, 34, 35, 36, 37, 38, 39] (by decide +kernel) (by decide +kernel)
set_option maxRecDepth 20000 in
theorem gX5_element_X5_goes : GoodIn wsX5_element (wsV RX5 74 RX5 yX5_goes wsX5_goes) := goodIn_app (goodIn_of _ (by decide +kernel)) ggX5_element_X5_goes
set_option maxRecDepth 20000 in
theorem ggX5_alive_X5_isElement : GoodIn wsX5_alive wsX5_isElement := goodIn_r _ [6, 7, 8, 9, 5, 10, 16, 17, 18, 19, 20, 21, 22, 23, 24, 25, 26, 27, 28, 29, 30, 31, 32, 33, 34, 35, 36] (by decide +kernel) (by decide +kernel)
set_option maxRecDepth 20000 in
theorem gX5_alive_X5_isElement : GoodIn wsX5_alive (wsV RX5 81 RX5 yX5_isElement wsX5_isElement) := goodIn_app (goodIn_of _ (by decide +kernel)) ggX5_alive_X5_isElement
set_option maxRecDepth 20000 in
theorem ggX5_alive_X5_goes : GoodIn wsX5_alive wsX5_goes := goodIn_r _ [14, 15, 16, 17, 18, 19, 20, 21, 22, 23, 24, 25, 26, 27, 28, 29, 30, 31, 32, 33, 34, 35, 36] (by decide +kernel) (by decide +kernel)
set_option maxRecDepth 20000 in
theorem gX5_alive_X5_goes : GoodIn wsX5_alive (wsV RX5 74 RX5 yX5_goes wsX5_goes) := goodIn_app (goodIn_of _ (by decide +kernel)) ggX5_alive_X5_goes
set_option maxRecDepth 20000 in
theorem ggX5_source_X5_isIn : GoodIn wsX5_source wsX5_isIn := goodIn_r _ [8] (by decide +kernel) (by decide +kernel)
set_option maxRecDepth 20000 in
theorem gX5_source_X5_isIn : GoodIn wsX5_source (va_wsS RX5 64 yX5_isIn wsX5_isIn) := goodIn_app (goodIn_of _ (by decide +kernel)) ggX5_source_X5_isIn
set_option maxRecDepth 20000 in
theorem ggX5_source_X5_isBearing : GoodIn wsX5_source wsX5_isBearing := goodIn_r _ [11, 5, 6, 7, 8] (by decide +kernel) (by decide +kernel)
set_option maxRecDepth 20000 in
theorem gX5_source_X5_isBearing : GoodIn wsX5_source (va_wsS RX5 84 yX5_isBearing wsX5_isBearing) := goodIn_app (goodIn_of _ (by decide +kernel)) ggX5_source_X5_isBearing
set_option maxRecDepth 20000 in
theorem ggX5_source_X5_goes : GoodIn wsX5_source wsX5_goes := goodIn_r _ [15, 16, 17, 18, 19, 20, 21, 22, 23, 24, 25, 26, 27, 28, 29, 30, 31, 32, 33, 34, 35, 36, 37] (by decide +kernel) (by decide +kernel)
set_option maxRecDepth 20000 in
theorem gX5_source_X5_goes : GoodIn wsX5_source (wsV RX5 74 RX5 yX5_goes wsX5_goes) := goodIn_app (goodIn_of _ (by decide +kernel)) ggX5_source_X5_goes
set_option maxRecDepth 20000 in
theorem ggX5_noise_X5_isIn : GoodIn wsX5_noise wsX5_isIn := goodIn_r _ [7] (by decide +kernel) (by decide +kernel)
set_option maxRecDepth 20000 in
theorem gX5_noise_X5_isIn : GoodIn wsX5_noise (va_wsS RX5 64 yX5_isIn wsX5_isIn) := goodIn_app (goodIn_of _ (by decide +kernel)) ggX5_noise_X5_isIn
set_option maxRecDepth 20000 in
theorem ggX5_noise_X5_goes : GoodIn wsX5_noise wsX5_goes := goodIn_r _ [11, 12, 13, 14, 15, 16, 17, 18, 19, 20, 21, 22, 23, 24, 25, 26, 27, 28, 29, 30, 31, 32, 33] (by decide +kernel) (by decide +kernel)
set_option maxRecDepth 20000 in
theorem gX5_noise_X5_goes : GoodIn wsX5_noise (wsV RX5 74 RX5 yX5_goes wsX5_goes) := goodIn_app (goodIn_of _ (by decide +kernel)) ggX5_noise_X5_goes
set_option maxRecDepth 20000 in
theorem ggX5_hears_X5_delay : GoodIn wsX5_hears wsX5_delay := goodIn_r _ [16, 17, 18, 19, 20, 15, 21, 28, 29, 30, 31, 32, 33, 34, 35, 36, 37, 38, 39, 40, 41, 42, 43, 44, 45, 46, 47, 48] (by decide +kernel) (by decide +kernel)
set_option maxRecDepth 20000 in
theorem gX5_hears_X5_delay : GoodIn wsX5_hears (wsV RX5 94 RX5 yX5_delay wsX5_delay) := goodIn_app (goodIn_of _ (by decide +kernel)) ggX5_hears_X5_delay
set_option maxRecDepth 20000 in
theorem ggX5_hears_X5_wave : GoodIn wsX5_hears wsX5_wave := goodIn_r _ [25, 26, 27, 28, 29, 30, 31, 32, 33, 34, 35, 36, 37, 38, 39, 40, 41, 42, 43, 44, 45, 46, 47, 48] (by decide +kernel) (by decide +kernel)
set_option maxRecDepth 20000 in
theorem gX5_hears_X5_wave : GoodIn wsX5_hears (wsV RX5 98 RX5 yX5_wave wsX5_wave) := goodIn_app (goodIn_of _ (by decide +kernel)) ggX5_hears_X5_wave
set_option maxRecDepth 20000 in
theorem ggX5_hears_X5_down : GoodIn wsX5_hears wsX5_down := goodIn_r _ [21] (by decide +kernel) (by decide +kernel)
set_option maxRecDepth 20000 in
theorem gX5_hears_X5_down : GoodIn wsX5_hears (va_wsS RX5 70 yX5_down wsX5_down) := goodIn_app (goodIn_of _ (by decide +kernel)) ggX5_hears_X5_down
set_option maxRecDepth 20000 in
theorem ggX5_hear_X5_isIn : GoodIn wsX5_hear wsX5_isIn := goodIn_r _ [6] (by decide +kernel) (by decide +kernel)
set_option maxRecDepth 20000 in
theorem gX5_hear_X5_isIn : GoodIn wsX5_hear (va_wsS RX5 64 yX5_isIn wsX5_isIn) := goodIn_app (goodIn_of _ (by decide +kernel)) ggX5_hear_X5_isIn
set_option maxRecDepth 20000 in
theorem ggX5_hear_X5_goes : GoodIn wsX5_hear wsX5_goes := goodIn_r _ [10, 11, 41, 42, 43, 44, 45, 46, 47, 48, 49, 50, 51, 52, 53, 54, 55, 56, 57, 58, 59, 60, 61] (by decide +kernel) (by decide +kernel)
set_option maxRecDepth 20000 in
theorem gX5_hear_X5_goes : GoodIn wsX5_hear (wsV RX5 74 RX5 yX5_goes wsX5_goes) := goodIn_app (goodIn_of _ (by decide +kernel)) ggX5_hear_X5_goes
set_option maxRecDepth 20000 in
theorem ggX5_hear_X5_hears : GoodIn wsX5_hear wsX5_hears := goodIn_r _ [15, 16, 2, 17, 18, 19, 20, 21, 22, 23, 24, 25, 26, 27, 28, 5, 29, 30, 31, 32, 33, 34, 35, 36, 37, 38, 39, 40, 41, 42, 43, 44, 45, 46, 47, 48, 49, 50, 51, 52, 53, 54, 55, 56, 57, 58, 59, 60, 61] (by decide +kernel) (by decide +kernel)
set_option maxRecDepth 20000 in
theorem gX5_hear_X5_hears : GoodIn wsX5_hear (wsV RX5 104 RX5 yX5_hears wsX5_hears) := goodIn_app (goodIn_of _ (by decide +kernel)) ggX5_hear_X5_hears
set_option maxRecDepth 20000 in
theorem ggX5_window_X5_isIn : GoodIn wsX5_window wsX5_isIn := goodIn_r _ [5] (by decide +kernel) (by decide +kernel)
set_option maxRecDepth 20000 in
theorem gX5_window_X5_isIn : GoodIn wsX5_window (va_wsS RX5 64 yX5_isIn wsX5_isIn) := goodIn_app (goodIn_of _ (by decide +kernel)) ggX5_window_X5_isIn
set_option maxRecDepth 20000 in
theorem ggX5_window_X5_goes : GoodIn wsX5_window wsX5_goes := goodIn_r _ [9, 10, 11, 12, 13, 14, 15, 16, 17, 18, 19, 20, 21, 22, 23, 24, 25, 26, 27, 28, 29, 30, 31] (by decide +kernel) (by decide +kernel)
set_option maxRecDepth 20000 in
theorem gX5_window_X5_goes : GoodIn wsX5_window (wsV RX5 74 RX5 yX5_goes wsX5_goes) := goodIn_app (goodIn_of _ (by decide +kernel)) ggX5_window_X5_goes
set_option maxRecDepth 20000 in
theorem ggX5_isKept_X5_isIn : GoodIn wsX5_isKept wsX5_isIn := goodIn_r _ [6] (by decide +kernel) (by decide +kernel)
set_option maxRecDepth 20000 in
theorem gX5_isKept_X5_isIn : GoodIn wsX5_isKept (va_wsS RX5 64 yX5_isIn wsX5_isIn) := goodIn_app (goodIn_of _ (by decide +kernel)) ggX5_isKept_X5_isIn
set_option maxRecDepth 20000 in
theorem ggX5_kept_X5_isKept : GoodIn wsX5_kept wsX5_isKept := goodIn_r _ [5, 6, 7, 8, 9, 4, 10, 11, 12, 13, 14, 15, 16, 17, 18, 19, 20, 21, 22, 23, 24, 25, 26, 27, 28, 29, 30, 31] (by decide +kernel) (by decide +kernel)
set_option maxRecDepth 20000 in
theorem gX5_kept_X5_isKept : GoodIn wsX5_kept (wsV RX5 111 RX5 yX5_isKept wsX5_isKept) := goodIn_app (goodIn_of _ (by decide +kernel)) ggX5_kept_X5_isKept
set_option maxRecDepth 20000 in
theorem ggX5_sumOf_X5_delay : GoodIn wsX5_sumOf wsX5_delay := goodIn_r _ [9, 10, 11, 12, 13, 8, 14, 34, 35, 36, 37, 38, 39, 40, 41, 42, 43, 44, 45, 46, 47, 48, 49, 50, 51, 52, 53, 54] (by decide +kernel) (by decide +kernel)
set_option maxRecDepth 20000 in
theorem gX5_sumOf_X5_delay : GoodIn wsX5_sumOf (wsV RX5 94 RX5 yX5_delay wsX5_delay) := goodIn_app (goodIn_of _ (by decide +kernel)) ggX5_sumOf_X5_delay
set_option maxRecDepth 20000 in
theorem ggX5_sumOf_X5_kept : GoodIn wsX5_sumOf wsX5_kept := goodIn_r _ [18, 19, 20, 21, 8, 22, 23, 24, 25, 26, 27, 34, 35, 36, 37, 38, 39, 40, 41, 42, 43, 44, 45, 46, 47, 48, 49, 50, 51, 52, 53, 54] (by decide +kernel) (by decide +kernel)
set_option maxRecDepth 20000 in
theorem gX5_sumOf_X5_kept : GoodIn wsX5_sumOf (wsV RX5 115 RX5 yX5_kept wsX5_kept) := goodIn_app (goodIn_of _ (by decide +kernel)) ggX5_sumOf_X5_kept
set_option maxRecDepth 20000 in
theorem ggX5_sumOf_X5_weight : GoodIn wsX5_sumOf wsX5_weight := goodIn_r _ [31, 1, 32, 33, 34, 35, 36, 37, 38, 39, 40, 41, 42, 43, 44, 45, 46, 47, 48, 49, 50, 51, 52, 53, 54] (by decide +kernel) (by decide +kernel)
set_option maxRecDepth 20000 in
theorem gX5_sumOf_X5_weight : GoodIn wsX5_sumOf (wsV RX5 119 RX5 yX5_weight wsX5_weight) := goodIn_app (goodIn_of _ (by decide +kernel)) ggX5_sumOf_X5_weight
set_option maxRecDepth 20000 in
theorem ggX5_sumOf_X5_down : GoodIn wsX5_sumOf wsX5_down := goodIn_r _ [14] (by decide +kernel) (by decide +kernel)
set_option maxRecDepth 20000 in
theorem gX5_sumOf_X5_down : GoodIn wsX5_sumOf (va_wsS RX5 70 yX5_down wsX5_down) := goodIn_app (goodIn_of _ (by decide +kernel)) ggX5_sumOf_X5_down
set_option maxRecDepth 20000 in
theorem ggX5_powerOf_X5_sumOf : GoodIn wsX5_powerOf wsX5_sumOf := goodIn_r _ [6, 7, 8, 9, 10, 11, 12, 13, 5, 14, 15, 16, 17, 18, 19, 20, 21, 22, 23, 24, 25, 26, 27, 28, 1, 29, 30, 31, 32, 33, 34, 35, 36, 37, 38, 39, 40, 41, 42, 43, 44, 45, 46, 47, 48, 49, 50, 51, 52, 53, 54, 55, 56, 57, 58] (by decide +kernel) (by decide +kernel)
set_option maxRecDepth 20000 in
theorem gX5_powerOf_X5_sumOf : GoodIn wsX5_powerOf (wsV RX5 123 RX5 yX5_sumOf wsX5_sumOf) := goodIn_app (goodIn_of _ (by decide +kernel)) ggX5_powerOf_X5_sumOf
set_option maxRecDepth 20000 in
theorem ggX5_agreement_X5_delay : GoodIn wsX5_agreement wsX5_delay := goodIn_r _ [7, 8, 9, 10, 11, 6, 12, 25, 26, 27, 28, 29, 30, 31, 32, 33, 34, 35, 36, 37, 38, 39, 40, 41, 42, 43, 44, 45] (by decide +kernel) (by decide +kernel)
set_option maxRecDepth 20000 in
theorem gX5_agreement_X5_delay : GoodIn wsX5_agreement (wsV RX5 94 RX5 yX5_delay wsX5_delay) := goodIn_app (goodIn_of _ (by decide +kernel)) ggX5_agreement_X5_delay
set_option maxRecDepth 20000 in
theorem ggX5_agreement_X5_kept : GoodIn wsX5_agreement wsX5_kept := goodIn_r _ [16, 17, 18, 19, 6, 20, 21, 1, 22, 23, 24, 25, 26, 27, 28, 29, 30, 31, 32, 33, 34, 35, 36, 37, 38, 39, 40, 41, 42, 43, 44, 45] (by decide +kernel) (by decide +kernel)
set_option maxRecDepth 20000 in
theorem gX5_agreement_X5_kept : GoodIn wsX5_agreement (wsV RX5 115 RX5 yX5_kept wsX5_kept) := goodIn_app (goodIn_of _ (by decide +kernel)) ggX5_agreement_X5_kept
set_option maxRecDepth 20000 in
theorem ggX5_isFitted_X5_agreement : GoodIn wsX5_isFitted wsX5_agreement := goodIn_r _ [8, 9, 10, 11, 12, 13, 7, 14, 15, 16, 17, 18, 19, 20, 21, 22, 23, 24, 25, 26, 27, 28, 29, 30, 31, 38, 39, 40, 41, 42, 43, 44, 45, 46, 47, 48, 49, 50, 51, 52, 53, 54, 55, 56, 57, 58] (by decide +kernel) (by decide +kernel)
set_option maxRecDepth 20000 in
theorem gX5_isFitted_X5_agreement : GoodIn wsX5_isFitted (wsV RX5 127 RX5 yX5_agreement wsX5_agreement) := goodIn_app (goodIn_of _ (by decide +kernel)) ggX5_isFitted_X5_agreement
set_option maxRecDepth 20000 in
theorem ggX5_isFitted_X5_down : GoodIn wsX5_isFitted wsX5_down := goodIn_r _ [19] (by decide +kernel) (by decide +kernel)
set_option maxRecDepth 20000 in
theorem gX5_isFitted_X5_down : GoodIn wsX5_isFitted (va_wsS RX5 70 yX5_down wsX5_down) := goodIn_app (goodIn_of _ (by decide +kernel)) ggX5_isFitted_X5_down
set_option maxRecDepth 20000 in
theorem ggX5_isFitted_X5_becomes : GoodIn wsX5_isFitted wsX5_becomes := goodIn_r _ [35, 36, 37, 38, 39, 40, 41, 42, 43, 44, 45, 46, 47, 48, 49, 50, 51, 52, 53, 54, 55, 56, 57, 58] (by decide +kernel) (by decide +kernel)
set_option maxRecDepth 20000 in
theorem gX5_isFitted_X5_becomes : GoodIn wsX5_isFitted (wsV RX5 135 RX5 yX5_becomes wsX5_becomes) := goodIn_app (goodIn_of _ (by decide +kernel)) ggX5_isFitted_X5_becomes
set_option maxRecDepth 20000 in
theorem ggX5_calibrate_X5_isBearing : GoodIn wsX5_calibrate wsX5_isBearing := goodIn_r _ [6, 7, 8, 5, 9] (by decide +kernel) (by decide +kernel)
set_option maxRecDepth 20000 in
theorem gX5_calibrate_X5_isBearing : GoodIn wsX5_calibrate (va_wsS RX5 84 yX5_isBearing wsX5_isBearing) := goodIn_app (goodIn_of _ (by decide +kernel)) ggX5_calibrate_X5_isBearing
set_option maxRecDepth 20000 in
theorem ggX5_calibrate_X5_lowest : GoodIn wsX5_calibrate wsX5_lowest := goodIn_r _ [13, 1, 2, 56, 57, 58, 59, 60, 61, 62, 63, 64, 65, 66, 67, 68, 69, 70, 71, 72, 73, 74, 75, 76] (by decide +kernel) (by decide +kernel)
set_option maxRecDepth 20000 in
theorem gX5_calibrate_X5_lowest : GoodIn wsX5_calibrate (wsV RX5 138 RX5 yX5_lowest wsX5_lowest) := goodIn_app (goodIn_of _ (by decide +kernel)) ggX5_calibrate_X5_lowest
set_option maxRecDepth 20000 in
theorem ggX5_calibrate_X5_agreement : GoodIn wsX5_calibrate wsX5_agreement := goodIn_r _ [17, 18, 19, 20, 21, 22, 5, 23, 24, 25, 26, 27, 28, 29, 30, 31, 32, 33, 34, 35, 36, 37, 7, 8, 9, 56, 57, 58, 59, 60, 61, 62, 63, 64, 65, 66, 67, 68, 69, 70, 71, 72, 73, 74, 75, 76] (by decide +kernel) (by decide +kernel)
set_option maxRecDepth 20000 in
theorem gX5_calibrate_X5_agreement : GoodIn wsX5_calibrate (wsV RX5 127 RX5 yX5_agreement wsX5_agreement) := goodIn_app (goodIn_of _ (by decide +kernel)) ggX5_calibrate_X5_agreement
set_option maxRecDepth 20000 in
theorem ggX5_calibrate_X5_goes : GoodIn wsX5_calibrate wsX5_goes := goodIn_r _ [41, 42, 56, 57, 58, 59, 60, 61, 62, 63, 64, 65, 66, 67, 68, 69, 70, 71, 72, 73, 74, 75, 76] (by decide +kernel) (by decide +kernel)
set_option maxRecDepth 20000 in
theorem gX5_calibrate_X5_goes : GoodIn wsX5_calibrate (wsV RX5 74 RX5 yX5_goes wsX5_goes) := goodIn_app (goodIn_of _ (by decide +kernel)) ggX5_calibrate_X5_goes
set_option maxRecDepth 20000 in
theorem ggX5_calibrate_X5_becomes : GoodIn wsX5_calibrate wsX5_becomes := goodIn_r _ [46, 47, 48, 56, 57, 58, 59, 60, 61, 62, 63, 64, 65, 66, 67, 68, 69, 70, 71, 72, 73, 74, 75, 76] (by decide +kernel) (by decide +kernel)
set_option maxRecDepth 20000 in
theorem gX5_calibrate_X5_becomes : GoodIn wsX5_calibrate (wsV RX5 135 RX5 yX5_becomes wsX5_becomes) := goodIn_app (goodIn_of _ (by decide +kernel)) ggX5_calibrate_X5_becomes
set_option maxRecDepth 20000 in
theorem ggX5_calibrate_X5_isFitted : GoodIn wsX5_calibrate wsX5_isFitted := goodIn_r _ [52, 53, 54, 55, 14, 15, 16, 5, 17, 18, 19, 20, 21, 22, 23, 24, 25, 26, 27, 28, 29, 30, 31, 32, 33, 34, 35, 36, 37, 7, 8, 9, 43, 44, 45, 46, 47, 48, 56, 57, 58, 59, 60, 61, 62, 63, 64, 65, 66, 67, 68, 69, 70, 71, 72, 73, 74, 75, 76] (by decide +kernel) (by decide +kernel)
set_option maxRecDepth 20000 in
theorem gX5_calibrate_X5_isFitted : GoodIn wsX5_calibrate (wsV RX5 142 RX5 yX5_isFitted wsX5_isFitted) := goodIn_app (goodIn_of _ (by decide +kernel)) ggX5_calibrate_X5_isFitted
set_option maxRecDepth 20000 in
theorem ggX5_sample_X5_isElement : GoodIn wsX5_sample wsX5_isElement := goodIn_r _ [7, 8, 9, 10, 6, 11, 26, 27, 28, 29, 30, 31, 32, 33, 34, 35, 36, 37, 38, 39, 40, 41, 42, 43, 44, 45, 46] (by decide +kernel) (by decide +kernel)
set_option maxRecDepth 20000 in
theorem gX5_sample_X5_isElement : GoodIn wsX5_sample (wsV RX5 81 RX5 yX5_isElement wsX5_isElement) := goodIn_app (goodIn_of _ (by decide +kernel)) ggX5_sample_X5_isElement
set_option maxRecDepth 20000 in
theorem ggX5_sample_X5_isIn : GoodIn wsX5_sample wsX5_isIn := goodIn_r _ [11] (by decide +kernel) (by decide +kernel)
set_option maxRecDepth 20000 in
theorem gX5_sample_X5_isIn : GoodIn wsX5_sample (va_wsS RX5 64 yX5_isIn wsX5_isIn) := goodIn_app (goodIn_of _ (by decide +kernel)) ggX5_sample_X5_isIn
set_option maxRecDepth 20000 in
theorem ggX5_sample_X5_goes : GoodIn wsX5_sample wsX5_goes := goodIn_r _ [15, 16, 26, 27, 28, 29, 30, 31, 32, 33, 34, 35, 36, 37, 38, 39, 40, 41, 42, 43, 44, 45, 46] (by decide +kernel) (by decide +kernel)
set_option maxRecDepth 20000 in
theorem gX5_sample_X5_goes : GoodIn wsX5_sample (wsV RX5 74 RX5 yX5_goes wsX5_goes) := goodIn_app (goodIn_of _ (by decide +kernel)) ggX5_sample_X5_goes
set_option maxRecDepth 20000 in
theorem ggX5_sample_X5_kept : GoodIn wsX5_sample wsX5_kept := goodIn_r _ [20, 21, 22, 23, 6, 24, 25, 2, 9, 10, 11, 26, 27, 28, 29, 30, 31, 32, 33, 34, 35, 36, 37, 38, 39, 40, 41, 42, 43, 44, 45, 46] (by decide +kernel) (by decide +kernel)
set_option maxRecDepth 20000 in
theorem gX5_sample_X5_kept : GoodIn wsX5_sample (wsV RX5 115 RX5 yX5_kept wsX5_kept) := goodIn_app (goodIn_of _ (by decide +kernel)) ggX5_sample_X5_kept
set_option maxRecDepth 20000 in
theorem ggX5_sum_X5_isBearing : GoodIn wsX5_sum wsX5_isBearing := goodIn_r _ [6, 7, 8, 5, 9] (by decide +kernel) (by decide +kernel)
set_option maxRecDepth 20000 in
theorem gX5_sum_X5_isBearing : GoodIn wsX5_sum (va_wsS RX5 84 yX5_isBearing wsX5_isBearing) := goodIn_app (goodIn_of _ (by decide +kernel)) ggX5_sum_X5_isBearing
set_option maxRecDepth 20000 in
theorem ggX5_sum_X5_isIn : GoodIn wsX5_sum wsX5_isIn := goodIn_r _ [9] (by decide +kernel) (by decide +kernel)
set_option maxRecDepth 20000 in
theorem gX5_sum_X5_isIn : GoodIn wsX5_sum (va_wsS RX5 64 yX5_isIn wsX5_isIn) := goodIn_app (goodIn_of _ (by decide +kernel)) ggX5_sum_X5_isIn
set_option maxRecDepth 20000 in
theorem ggX5_sum_X5_goes : GoodIn wsX5_sum wsX5_goes := goodIn_r _ [13, 14, 47, 48, 49, 50, 51, 52, 53, 54, 55, 56, 57, 58, 59, 60, 61, 62, 63, 64, 65, 66, 67] (by decide +kernel) (by decide +kernel)
set_option maxRecDepth 20000 in
theorem gX5_sum_X5_goes : GoodIn wsX5_sum (wsV RX5 74 RX5 yX5_goes wsX5_goes) := goodIn_app (goodIn_of _ (by decide +kernel)) ggX5_sum_X5_goes
set_option maxRecDepth 20000 in
theorem ggX5_sum_X5_sumOf : GoodIn wsX5_sum wsX5_sumOf := goodIn_r _ [18, 19, 20, 21, 22, 23, 24, 25, 5, 26, 27, 28, 29, 30, 31, 32, 33, 34, 35, 36, 37, 38, 39, 40, 2, 7, 8, 9, 41, 42, 43, 44, 45, 46, 47, 48, 49, 50, 51, 52, 53, 54, 55, 56, 57, 58, 59, 60, 61, 62, 63, 64, 65, 66, 67] (by decide +kernel) (by decide +kernel)
set_option maxRecDepth 20000 in
theorem gX5_sum_X5_sumOf : GoodIn wsX5_sum (wsV RX5 123 RX5 yX5_sumOf wsX5_sumOf) := goodIn_app (goodIn_of _ (by decide +kernel)) ggX5_sum_X5_sumOf
set_option maxRecDepth 20000 in
theorem ggX5_power_X5_isBearing : GoodIn wsX5_power wsX5_isBearing := goodIn_r _ [5, 6, 7, 4, 8] (by decide +kernel) (by decide +kernel)
set_option maxRecDepth 20000 in
theorem gX5_power_X5_isBearing : GoodIn wsX5_power (va_wsS RX5 84 yX5_isBearing wsX5_isBearing) := goodIn_app (goodIn_of _ (by decide +kernel)) ggX5_power_X5_isBearing
set_option maxRecDepth 20000 in
theorem ggX5_power_X5_goes : GoodIn wsX5_power wsX5_goes := goodIn_r _ [12, 13, 51, 52, 53, 54, 55, 56, 57, 58, 59, 60, 61, 62, 63, 64, 65, 66, 67, 68, 69, 70, 71] (by decide +kernel) (by decide +kernel)
set_option maxRecDepth 20000 in
theorem gX5_power_X5_goes : GoodIn wsX5_power (wsV RX5 74 RX5 yX5_goes wsX5_goes) := goodIn_app (goodIn_of _ (by decide +kernel)) ggX5_power_X5_goes
set_option maxRecDepth 20000 in
theorem ggX5_power_X5_powerOf : GoodIn wsX5_power wsX5_powerOf := goodIn_r _ [17, 18, 19, 20, 21, 4, 22, 23, 24, 25, 26, 27, 28, 29, 30, 31, 32, 33, 34, 35, 36, 37, 38, 39, 40, 41, 42, 43, 44, 6, 7, 8, 45, 46, 47, 48, 49, 50, 51, 52, 53, 54, 55, 56, 57, 58, 59, 60, 61, 62, 63, 64, 65, 66, 67, 68, 69, 70, 71] (by decide +kernel) (by decide +kernel)
set_option maxRecDepth 20000 in
theorem gX5_power_X5_powerOf : GoodIn wsX5_power (wsV RX5 146 RX5 yX5_powerOf wsX5_powerOf) := goodIn_app (goodIn_of _ (by decide +kernel)) ggX5_power_X5_powerOf
set_option maxRecDepth 20000 in
theorem ggX5_powerAnew_X5_isBearing : GoodIn wsX5_powerAnew wsX5_isBearing := goodIn_r _ [5, 6, 7, 4, 8] (by decide +kernel) (by decide +kernel)
set_option maxRecDepth 20000 in
theorem gX5_powerAnew_X5_isBearing : GoodIn wsX5_powerAnew (va_wsS RX5 84 yX5_isBearing wsX5_isBearing) := goodIn_app (goodIn_of _ (by decide +kernel)) ggX5_powerAnew_X5_isBearing
set_option maxRecDepth 20000 in
theorem ggX5_powerAnew_X5_goes : GoodIn wsX5_powerAnew wsX5_goes := goodIn_r _ [12, 13, 51, 52, 53, 54, 55, 56, 57, 58, 59, 60, 61, 62, 63, 64, 65, 66, 67, 68, 69, 70, 71] (by decide +kernel) (by decide +kernel)
set_option maxRecDepth 20000 in
theorem gX5_powerAnew_X5_goes : GoodIn wsX5_powerAnew (wsV RX5 74 RX5 yX5_goes wsX5_goes) := goodIn_app (goodIn_of _ (by decide +kernel)) ggX5_powerAnew_X5_goes
set_option maxRecDepth 20000 in
theorem ggX5_powerAnew_X5_powerOf : GoodIn wsX5_powerAnew wsX5_powerOf := goodIn_r _ [17, 18, 19, 20, 21, 4, 22, 23, 24, 25, 26, 27, 28, 29, 30, 31, 32, 33, 34, 35, 36, 37, 38, 39, 40, 41, 42, 43, 44, 6, 7, 8, 45, 46, 47, 48, 49, 50, 51, 52, 53, 54, 55, 56, 57, 58, 59, 60, 61, 62, 63, 64, 65, 66, 67, 68, 69, 70, 71] (by decide +kernel) (by decide +kernel)
set_option maxRecDepth 20000 in
theorem gX5_powerAnew_X5_powerOf : GoodIn wsX5_powerAnew (wsV RX5 146 RX5 yX5_powerOf wsX5_powerOf) := goodIn_app (goodIn_of _ (by decide +kernel)) ggX5_powerAnew_X5_powerOf
set_option maxRecDepth 20000 in
theorem ggX5_findsPowers_X5_powerOf : GoodIn wsX5_findsPowers wsX5_powerOf := goodIn_r _ [6, 7, 8, 9, 10, 5, 11, 12, 13, 14, 15, 16, 17, 18, 19, 20, 21, 22, 23, 24, 25, 26, 27, 28, 29, 30, 31, 32, 33, 34, 35, 36, 37, 38, 39, 40, 41, 42, 43, 44, 45, 46, 47, 48, 49, 50, 51, 52, 53, 54, 55, 56, 57, 58, 59, 60, 61, 62, 63] (by decide +kernel) (by decide +kernel)
set_option maxRecDepth 20000 in
theorem gX5_findsPowers_X5_powerOf : GoodIn wsX5_findsPowers (wsV RX5 146 RX5 yX5_powerOf wsX5_powerOf) := goodIn_app (goodIn_of _ (by decide +kernel)) ggX5_findsPowers_X5_powerOf
set_option maxRecDepth 20000 in
theorem ggX5_peaks_X5_isIn : GoodIn wsX5_peaks wsX5_isIn := goodIn_r _ [7] (by decide +kernel) (by decide +kernel)
set_option maxRecDepth 20000 in
theorem gX5_peaks_X5_isIn : GoodIn wsX5_peaks (va_wsS RX5 64 yX5_isIn wsX5_isIn) := goodIn_app (goodIn_of _ (by decide +kernel)) ggX5_peaks_X5_isIn
set_option maxRecDepth 20000 in
theorem ggX5_peaks_X5_goes : GoodIn wsX5_peaks wsX5_goes := goodIn_r _ [11, 12, 58, 59, 60, 61, 62, 63, 64, 65, 66, 67, 68, 69, 70, 71, 72, 73, 74, 75, 76, 77, 78] (by decide +kernel) (by decide +kernel)
set_option maxRecDepth 20000 in
theorem gX5_peaks_X5_goes : GoodIn wsX5_peaks (wsV RX5 74 RX5 yX5_goes wsX5_goes) := goodIn_app (goodIn_of _ (by decide +kernel)) ggX5_peaks_X5_goes
set_option maxRecDepth 20000 in
theorem ggX5_peaks_X5_findsPowers : GoodIn wsX5_peaks wsX5_findsPowers := goodIn_r _ [16, 2, 17, 18, 19, 6, 20, 21, 22, 23, 24, 25, 26, 27, 28, 29, 30, 31, 32, 33, 34, 35, 36, 37, 38, 39, 40, 41, 42, 43, 44, 45, 46, 47, 4, 5, 7, 48, 49, 50, 51, 52, 53, 58, 59, 60, 61, 62, 63, 64, 65, 66, 67, 68, 69, 70, 71, 72, 73, 74, 75, 76, 77, 78] (by decide +kernel) (by decide +kernel)
set_option maxRecDepth 20000 in
theorem gX5_peaks_X5_findsPowers : GoodIn wsX5_peaks (wsV RX5 150 RX5 yX5_findsPowers wsX5_findsPowers) := goodIn_app (goodIn_of _ (by decide +kernel)) ggX5_peaks_X5_findsPowers
set_option maxRecDepth 20000 in
theorem ggX5_peaks_X5_greatest : GoodIn wsX5_peaks wsX5_greatest := goodIn_r _ [57, 2, 58, 59, 60, 61, 62, 63, 64, 65, 66, 67, 68, 69, 70, 71, 72, 73, 74, 75, 76, 77, 78] (by decide +kernel) (by decide +kernel)
set_option maxRecDepth 20000 in
theorem gX5_peaks_X5_greatest : GoodIn wsX5_peaks (wsV RX5 154 RX5 yX5_greatest wsX5_greatest) := goodIn_app (goodIn_of _ (by decide +kernel)) ggX5_peaks_X5_greatest
set_option maxRecDepth 20000 in
theorem ggX5_takes_X5_weight : GoodIn wsX5_takes wsX5_weight := goodIn_r _ [11, 1, 6, 12, 40, 41, 42, 43, 44, 45, 46, 47, 48, 49, 50, 51, 52, 53, 54, 55, 56, 57, 58, 59, 60] (by decide +kernel) (by decide +kernel)
set_option maxRecDepth 20000 in
theorem gX5_takes_X5_weight : GoodIn wsX5_takes (wsV RX5 119 RX5 yX5_weight wsX5_weight) := goodIn_app (goodIn_of _ (by decide +kernel)) ggX5_takes_X5_weight
set_option maxRecDepth 20000 in
theorem ggX5_takes_X5_sumOf : GoodIn wsX5_takes wsX5_sumOf := goodIn_r _ [16, 1, 5, 17, 18, 19, 20, 21, 10, 22, 23, 24, 25, 26, 27, 28, 29, 30, 31, 32, 33, 34, 35, 36, 4, 37, 38, 39, 7, 8, 9, 11, 6, 12, 40, 41, 42, 43, 44, 45, 46, 47, 48, 49, 50, 51, 52, 53, 54, 55, 56, 57, 58, 59, 60] (by decide +kernel) (by decide +kernel)
set_option maxRecDepth 20000 in
theorem gX5_takes_X5_sumOf : GoodIn wsX5_takes (wsV RX5 123 RX5 yX5_sumOf wsX5_sumOf) := goodIn_app (goodIn_of _ (by decide +kernel)) ggX5_takes_X5_sumOf
set_option maxRecDepth 20000 in
theorem ggX5_takes_X5_down : GoodIn wsX5_takes wsX5_down := goodIn_r _ [27] (by decide +kernel) (by decide +kernel)
set_option maxRecDepth 20000 in
theorem gX5_takes_X5_down : GoodIn wsX5_takes (va_wsS RX5 70 yX5_down wsX5_down) := goodIn_app (goodIn_of _ (by decide +kernel)) ggX5_takes_X5_down
set_option maxRecDepth 20000 in
theorem ggX5_takes_X5_delay : GoodIn wsX5_takes wsX5_delay := goodIn_r _ [22, 23, 24, 25, 26, 10, 27, 40, 41, 42, 43, 44, 45, 46, 47, 48, 49, 50, 51, 52, 53, 54, 55, 56, 57, 58, 59, 60] (by decide +kernel) (by decide +kernel)
set_option maxRecDepth 20000 in
theorem gX5_takes_X5_delay : GoodIn wsX5_takes (wsV RX5 94 RX5 yX5_delay wsX5_delay) := goodIn_app (goodIn_of _ (by decide +kernel)) ggX5_takes_X5_delay
set_option maxRecDepth 20000 in
theorem ggX5_takes_X5_isKept : GoodIn wsX5_takes wsX5_isKept := goodIn_r _ [35, 36, 4, 37, 38, 10, 39, 40, 41, 42, 43, 44, 45, 46, 47, 48, 49, 50, 51, 52, 53, 54, 55, 56, 57, 58, 59, 60] (by decide +kernel) (by decide +kernel)
set_option maxRecDepth 20000 in
theorem gX5_takes_X5_isKept : GoodIn wsX5_takes (wsV RX5 111 RX5 yX5_isKept wsX5_isKept) := goodIn_app (goodIn_of _ (by decide +kernel)) ggX5_takes_X5_isKept
set_option maxRecDepth 20000 in
theorem ggX5_found_X5_isIn : GoodIn wsX5_found wsX5_isIn := goodIn_r _ [7] (by decide +kernel) (by decide +kernel)
set_option maxRecDepth 20000 in
theorem gX5_found_X5_isIn : GoodIn wsX5_found (va_wsS RX5 64 yX5_isIn wsX5_isIn) := goodIn_app (goodIn_of _ (by decide +kernel)) ggX5_found_X5_isIn
set_option maxRecDepth 20000 in
theorem ggX5_found_X5_goes : GoodIn wsX5_found wsX5_goes := goodIn_r _ [11, 12, 63, 64, 65, 66, 67, 68, 69, 70, 71, 72, 73, 74, 75, 76, 77, 78, 79, 80, 81, 82, 83] (by decide +kernel) (by decide +kernel)
set_option maxRecDepth 20000 in
theorem gX5_found_X5_goes : GoodIn wsX5_found (wsV RX5 74 RX5 yX5_goes wsX5_goes) := goodIn_app (goodIn_of _ (by decide +kernel)) ggX5_found_X5_goes
set_option maxRecDepth 20000 in
theorem ggX5_found_X5_findsPowers : GoodIn wsX5_found wsX5_findsPowers := goodIn_r _ [16, 3, 17, 18, 19, 6, 20, 21, 22, 23, 24, 25, 26, 27, 28, 29, 30, 31, 32, 33, 34, 35, 36, 37, 38, 39, 40, 41, 42, 43, 44, 45, 46, 47, 4, 5, 7, 48, 49, 50, 51, 52, 53, 63, 64, 65, 66, 67, 68, 69, 70, 71, 72, 73, 74, 75, 76, 77, 78, 79, 80, 81, 82, 83] (by decide +kernel) (by decide +kernel)
set_option maxRecDepth 20000 in
theorem gX5_found_X5_findsPowers : GoodIn wsX5_found (wsV RX5 150 RX5 yX5_findsPowers wsX5_findsPowers) := goodIn_app (goodIn_of _ (by decide +kernel)) ggX5_found_X5_findsPowers
set_option maxRecDepth 20000 in
theorem ggX5_found_X5_greatest : GoodIn wsX5_found wsX5_greatest := goodIn_r _ [57, 3, 63, 64, 65, 66, 67, 68, 69, 70, 71, 72, 73, 74, 75, 76, 77, 78, 79, 80, 81, 82, 83] (by decide +kernel) (by decide +kernel)
set_option maxRecDepth 20000 in
theorem gX5_found_X5_greatest : GoodIn wsX5_found (wsV RX5 154 RX5 yX5_greatest wsX5_greatest) := goodIn_app (goodIn_of _ (by decide +kernel)) ggX5_found_X5_greatest
set_option maxRecDepth 20000 in
theorem ggX5_found_X5_takes : GoodIn wsX5_found wsX5_takes := goodIn_r _ [61, 26, 62, 1, 21, 27, 52, 48, 49, 50, 6, 51, 53, 22, 23, 24, 25, 28, 29, 30, 31, 32, 33, 34, 35, 36, 37, 38, 39, 40, 41, 42, 43, 44, 45, 46, 47, 4, 5, 7, 63, 64, 65, 66, 67, 68, 69, 70, 71, 72, 73, 74, 75, 76, 77, 78, 79, 80, 81, 82, 83] (by decide +kernel) (by decide +kernel)
set_option maxRecDepth 20000 in
theorem gX5_found_X5_takes : GoodIn wsX5_found (wsV RX5 159 RX5 yX5_takes wsX5_takes) := goodIn_app (goodIn_of _ (by decide +kernel)) ggX5_found_X5_takes
set_option maxRecDepth 20000 in
theorem ggX5_calibrated_X5_isElement : GoodIn wsX5_calibrated wsX5_isElement := goodIn_r _ [7, 8, 9, 10, 6, 11, 17, 18, 19, 20, 21, 22, 23, 24, 25, 26, 27, 28, 29, 30, 31, 32, 33, 34, 35, 36, 37] (by decide +kernel) (by decide +kernel)
set_option maxRecDepth 20000 in
theorem gX5_calibrated_X5_isElement : GoodIn wsX5_calibrated (wsV RX5 81 RX5 yX5_isElement wsX5_isElement) := goodIn_app (goodIn_of _ (by decide +kernel)) ggX5_calibrated_X5_isElement
set_option maxRecDepth 20000 in
theorem ggX5_calibrated_X5_goes : GoodIn wsX5_calibrated wsX5_goes := goodIn_r _ [15, 16, 17, 18, 19, 20, 21, 22, 23, 24, 25, 26, 27, 28, 29, 30, 31, 32, 33, 34, 35, 36, 37] (by decide +kernel) (by decide +kernel)
set_option maxRecDepth 20000 in
theorem gX5_calibrated_X5_goes : GoodIn wsX5_calibrated (wsV RX5 74 RX5 yX5_goes wsX5_goes) := goodIn_app (goodIn_of _ (by decide +kernel)) ggX5_calibrated_X5_goes
set_option maxRecDepth 20000 in
theorem ggL_element_X4_element : GoodIn wsL_element wsX4_element := goodIn_ca (goodIn_ca (goodIn_r _ [7, 8, 9, 10, 11, 12, 13, 14, 15, 16, 6, 17, 18, 19, 20, 21, 22, 23, 24, 25, 26, 27, 28, 29, 30, 31, 32, 33, 34, 35, 36, 37, 38, 39, 40, 41, 42, 43, 44, 45, 46, 47, 48, 49, 50, 51, 52, 53, 54, 55, 56, 57, 58] (by decide +kernel) (by decide +kernel)) (goodIn_sub (fun _ h => List.mem_cons_of_mem _ (List.mem_append_left _ (List.mem_append_right _ h))) (by decide +kernel))) (goodIn_sub (fun _ h => List.mem_cons_of_mem _ (List.mem_append_right _ h)) (by decide +kernel))
set_option maxRecDepth 20000 in
theorem gL_element_X4_element : GoodIn wsL_element (wsV RL 7 RX4 yX4_element wsX4_element) := goodIn_app (goodIn_of _ (by decide +kernel)) ggL_element_X4_element
set_option maxRecDepth 20000 in
theorem ggL_alive_X4_alive : GoodIn wsL_alive wsX4_alive := goodIn_ca (goodIn_r _ [6, 7, 8, 9, 10, 11, 12, 5, 13, 14, 15, 16, 17, 18, 19, 20, 21, 22, 23, 24, 25, 26, 27, 28, 29, 30, 31, 32, 33, 34, 35, 36, 37, 38, 39, 40, 41, 42, 43, 44] (by decide +kernel) (by decide +kernel)) (goodIn_sub (fun _ h => List.mem_cons_of_mem _ (List.mem_append_right _ h)) (by decide +kernel))
set_option maxRecDepth 20000 in
theorem gL_alive_X4_alive : GoodIn wsL_alive (wsV RL 17 RX4 yX4_alive wsX4_alive) := goodIn_app (goodIn_of _ (by decide +kernel)) ggL_alive_X4_alive
set_option maxRecDepth 20000 in
theorem ggL_source_X4_source : GoodIn wsL_source wsX4_source := goodIn_ca (goodIn_ca (goodIn_ca (goodIn_r _ [8, 9, 10, 11, 12, 13, 14, 15, 16, 17, 18, 7, 19, 20, 21, 22, 23, 24, 25, 26, 27, 28, 29, 30, 31, 32, 33, 34, 35, 36, 37, 38, 39, 40, 41, 42] (by decide +kernel) (by decide +kernel)) (goodIn_sub (fun _ h => List.mem_cons_of_mem _ (List.mem_append_left _ (List.mem_append_left _ (List.mem_append_right _ h)))) (by decide +kernel))) (goodIn_sub (fun _ h => List.mem_cons_of_mem _ (List.mem_append_left _ (List.mem_append_right _ h))) (by decide +kernel))) (goodIn_sub (fun _ h => List.mem_cons_of_mem _ (List.mem_append_right _ h)) (by decide +kernel))
set_option maxRecDepth 20000 in
theorem gL_source_X4_source : GoodIn wsL_source (wsV RL 23 RX4 yX4_source wsX4_source) := goodIn_app (goodIn_of _ (by decide +kernel)) ggL_source_X4_source
set_option maxRecDepth 20000 in
theorem ggL_noise_X4_noise : GoodIn wsL_noise wsX4_noise := goodIn_ca (goodIn_r _ [6, 7, 8, 9, 10, 11, 12, 5, 13, 14, 15, 16, 17, 18, 19, 20, 21, 22, 23, 24, 25, 26, 27, 28, 29, 30, 31, 32, 33, 34, 35] (by decide +kernel) (by decide +kernel)) (goodIn_sub (fun _ h => List.mem_cons_of_mem _ (List.mem_append_right _ h)) (by decide +kernel))
set_option maxRecDepth 20000 in
theorem gL_noise_X4_noise : GoodIn wsL_noise (wsV RL 26 RX4 yX4_noise wsX4_noise) := goodIn_app (goodIn_of _ (by decide +kernel)) ggL_noise_X4_noise
set_option maxRecDepth 20000 in
theorem ggL_hear_X4_hear : GoodIn wsL_hear wsX4_hear := goodIn_ca (goodIn_r _ [6, 7, 8, 9, 10, 11, 5, 12, 13, 14, 15, 16, 17, 18, 19, 20, 21, 22, 23, 24, 25, 26, 27, 28, 29, 30, 31, 32, 33, 34, 35, 36, 37, 38, 39, 40, 41, 42, 43, 44, 45, 46, 47, 48, 49, 50, 51, 52, 53, 54, 55, 56, 57, 58, 59, 60, 61, 62, 63, 64, 65, 66, 67, 68, 69, 70, 71, 72, 73, 74, 75, 76, 77, 78, 79, 80, 81, 82, 83, 84, 85, 86, 87, 88, 89, 90, 91, 92, 93, 94, 95, 96, 97, 98, 99, 100, 101, 102, 103, 104, 105, 106, 107, 108, 109, 110, 111, 112, 113, 114, 115, 116, 117, 118, 119, 120] (by decide +kernel) (by decide +kernel)) (goodIn_sub (fun _ h => List.mem_cons_of_mem _ (List.mem_append_right _ h)) (by decide +kernel))
set_option maxRecDepth 20000 in
theorem gL_hear_X4_hear : GoodIn wsL_hear (wsV RL 30 RX4 yX4_hear wsX4_hear) := goodIn_app (goodIn_of _ (by decide +kernel)) ggL_hear_X4_hear
set_option maxRecDepth 20000 in
theorem ggL_window_X4_window : GoodIn wsL_window wsX4_window := goodIn_ca (goodIn_r _ [6, 7, 8, 9, 10, 11, 5, 12, 13, 14, 15, 16, 17, 18, 19, 20, 21] (by decide +kernel) (by decide +kernel)) (goodIn_sub (fun _ h => List.mem_cons_of_mem _ (List.mem_append_right _ h)) (by decide +kernel))
set_option maxRecDepth 20000 in
theorem gL_window_X4_window : GoodIn wsL_window (wsV RL 34 RX4 yX4_window wsX4_window) := goodIn_app (goodIn_of _ (by decide +kernel)) ggL_window_X4_window
set_option maxRecDepth 20000 in
theorem ggL_calibrate_X4_calibrate : GoodIn wsL_calibrate wsX4_calibrate := goodIn_ca (goodIn_ca (goodIn_r _ [7, 8, 9, 10, 11, 12, 13, 6, 14, 15, 16, 17, 18, 19, 20, 21, 22, 23, 24, 25, 26, 27, 28, 29, 30, 31, 32, 33, 34, 35, 36, 37, 38, 39, 40, 41, 42, 43, 44, 45, 46, 47, 48, 49, 50, 51, 52, 53, 54, 55, 56, 57, 58, 59, 60, 61, 62, 63, 64, 65, 66, 67, 68, 69, 70, 71, 72, 73, 74, 75, 76, 77, 78, 79, 80, 81, 82, 83, 84, 85, 86, 87, 88, 89, 90, 91, 92, 93, 94, 95, 96, 97, 98, 99, 100, 101, 102, 103, 104, 105, 106, 107, 108, 109, 110, 111, 112, 113, 114, 115, 116, 117, 118, 119, 120, 121, 122, 123, 124, 125, 126, 127, 128, 129, 130, 131, 132, 133, 134, 135] (by decide +kernel) (by decide +kernel)) (goodIn_sub (fun _ h => List.mem_cons_of_mem _ (List.mem_append_left _ (List.mem_append_right _ h))) (by decide +kernel))) (goodIn_sub (fun _ h => List.mem_cons_of_mem _ (List.mem_append_right _ h)) (by decide +kernel))
set_option maxRecDepth 20000 in
theorem gL_calibrate_X4_calibrate : GoodIn wsL_calibrate (wsV RL 37 RX4 yX4_calibrate wsX4_calibrate) := goodIn_app (goodIn_of _ (by decide +kernel)) ggL_calibrate_X4_calibrate
set_option maxRecDepth 20000 in
theorem ggL_sample_X4_sample : GoodIn wsL_sample wsX4_sample := goodIn_ca (goodIn_r _ [6, 7, 8, 9, 10, 11, 12, 5, 13, 14, 15, 16, 17, 18, 19, 20, 21, 22, 23, 24, 25, 26, 27, 28, 29, 30, 31, 32, 33, 34, 35, 36, 37, 38, 39, 40, 41, 42, 43, 44, 45, 46, 47, 48, 49, 50, 51, 52, 53, 54, 55, 56, 57, 58, 59, 60, 61] (by decide +kernel) (by decide +kernel)) (goodIn_sub (fun _ h => List.mem_cons_of_mem _ (List.mem_append_right _ h)) (by decide +kernel))
set_option maxRecDepth 20000 in
theorem gL_sample_X4_sample : GoodIn wsL_sample (wsV RL 40 RX4 yX4_sample wsX4_sample) := goodIn_app (goodIn_of _ (by decide +kernel)) ggL_sample_X4_sample
set_option maxRecDepth 20000 in
theorem ggL_sum_X4_sum : GoodIn wsL_sum wsX4_sum := goodIn_ca (goodIn_r _ [6, 7, 8, 9, 10, 11, 5, 12, 13, 14, 15, 16, 17, 18, 19, 20, 21, 22, 23, 24, 25, 26, 27, 28, 29, 30, 31, 32, 33, 34, 35, 36, 37, 38, 39, 40, 41, 42, 43, 44, 45, 46, 47, 48, 49, 50, 51, 52, 53, 54, 55, 56, 57, 58, 59, 60, 61, 62, 63, 64, 65, 66, 67, 68, 69, 70, 71, 72, 73, 74, 75, 76, 77, 78, 79, 80, 81, 82, 83, 84, 85, 86, 87, 88, 89, 90, 91, 92, 93, 94, 95, 96, 97, 98, 99, 100, 101, 102, 103, 104, 105, 106, 107, 108, 109, 110, 111, 112, 113, 114, 115, 116, 117, 118, 119, 120] (by decide +kernel) (by decide +kernel)) (goodIn_sub (fun _ h => List.mem_cons_of_mem _ (List.mem_append_right _ h)) (by decide +kernel))
set_option maxRecDepth 20000 in
theorem gL_sum_X4_sum : GoodIn wsL_sum (wsV RL 43 RX4 yX4_sum wsX4_sum) := goodIn_app (goodIn_of _ (by decide +kernel)) ggL_sum_X4_sum
set_option maxRecDepth 20000 in
theorem ggL_power_X4_power : GoodIn wsL_power wsX4_power := goodIn_ca (goodIn_r _ [6, 7, 8, 9, 10, 5, 11, 12, 13, 14, 15, 16, 17, 18, 19, 20, 21, 22, 23, 24, 25, 26, 27, 28, 29, 30, 31, 32, 33, 34, 35, 36, 37, 38, 39, 40, 41, 42, 43, 44, 45, 46, 47, 48, 49, 50, 51, 52, 53, 54, 55, 56, 57, 58, 59, 60, 61, 62, 63, 64, 65, 66, 67, 68, 69, 70, 71, 72, 73, 74, 75, 76, 77, 78, 79, 80, 81, 82, 83, 84, 85, 86, 87, 88, 89, 90, 91, 92, 93, 94, 95, 96, 97, 98, 99, 100, 101, 102, 103, 104, 105, 106, 107, 108, 109, 110, 111, 112, 113, 114, 115, 116, 117, 118, 119, 120, 121, 122, 123, 124, 125, 126, 127, 128] (by decide +kernel) (by decide +kernel)) (goodIn_sub (fun _ h => List.mem_cons_of_mem _ (List.mem_append_right _ h)) (by decide +kernel))
set_option maxRecDepth 20000 in
theorem gL_power_X4_power : GoodIn wsL_power (wsV RL 47 RX4 yX4_power wsX4_power) := goodIn_app (goodIn_of _ (by decide +kernel)) ggL_power_X4_power
set_option maxRecDepth 20000 in
theorem ggL_powerAnew_X4_powerAnew : GoodIn wsL_powerAnew wsX4_powerAnew := goodIn_ca (goodIn_r _ [6, 7, 8, 9, 10, 5, 11, 12, 13, 14, 15, 16, 17, 18, 19, 20, 21, 22, 23, 24, 25, 26, 27, 28, 29, 30, 31, 32, 33, 34, 35, 36, 37, 38, 39, 40, 41, 42, 43, 44, 45, 46, 47, 48, 49, 50, 51, 52, 53, 54, 55, 56, 57, 58, 59, 60, 61, 62, 63, 64, 65, 66, 67, 68, 69, 70, 71, 72, 73, 74, 75, 76, 77, 78, 79, 80, 81, 82, 83, 84, 85, 86, 87, 88, 89, 90, 91, 92, 93, 94, 95, 96, 97, 98, 99, 100, 101, 102, 103, 104, 105, 106, 107, 108, 109, 110, 111, 112, 113, 114, 115] (by decide +kernel) (by decide +kernel)) (goodIn_sub (fun _ h => List.mem_cons_of_mem _ (List.mem_append_right _ h)) (by decide +kernel))
set_option maxRecDepth 20000 in
theorem gL_powerAnew_X4_powerAnew : GoodIn wsL_powerAnew (wsV RL 51 RX4 yX4_powerAnew wsX4_powerAnew) := goodIn_app (goodIn_of _ (by decide +kernel)) ggL_powerAnew_X4_powerAnew
set_option maxRecDepth 20000 in
theorem ggL_peaks_X4_peaks : GoodIn wsL_peaks wsX4_peaks := goodIn_ca (goodIn_r _ [6, 7, 8, 9, 10, 11, 12, 5, 13, 14, 15, 16, 17, 18, 19, 20, 21, 22, 23, 24, 25, 26, 27, 28, 29, 30, 31, 32, 33, 34, 35, 36, 37, 38, 39, 40, 41, 42, 43, 44, 45, 46, 47, 48, 49, 50, 51, 52, 53, 54, 55, 56, 57, 58, 59, 60, 61, 62, 63, 64, 65, 66, 67, 68, 69, 70, 71, 72, 73, 74, 75, 76, 77, 78, 79, 80, 81, 82, 83, 84, 85, 86, 87, 88, 89, 90, 91, 92, 93, 94, 95, 96, 97, 98, 99, 100, 101, 102, 103, 104, 105, 106, 107, 108, 109, 110, 111, 112, 113, 114, 115, 116, 117, 118, 119, 120, 121, 122, 123, 124, 125, 126, 127, 128, 129, 130, 131, 132, 133, 134, 135, 136, 137, 138] (by decide +kernel) (by decide +kernel)) (goodIn_sub (fun _ h => List.mem_cons_of_mem _ (List.mem_append_right _ h)) (by decide +kernel))
set_option maxRecDepth 20000 in
theorem gL_peaks_X4_peaks : GoodIn wsL_peaks (wsV RL 54 RX4 yX4_peaks wsX4_peaks) := goodIn_app (goodIn_of _ (by decide +kernel)) ggL_peaks_X4_peaks
set_option maxRecDepth 20000 in
theorem ggL_found_X4_found : GoodIn wsL_found wsX4_found := goodIn_ca (goodIn_r _ [6, 7, 8, 9, 10, 5, 11, 12, 13, 14, 15, 16, 17, 18, 19, 20, 21, 22, 23, 24, 25, 26, 27, 28, 29, 30, 31, 32, 33, 34, 35, 36, 37, 38, 39, 40, 41, 42, 43, 44, 45, 46, 47, 48, 49, 50, 51, 52, 53, 54, 55, 56, 57, 58, 59, 60, 61, 62, 63, 64, 65, 66, 67, 68, 69, 70, 71, 72, 73, 74, 75, 76, 77, 78, 79, 80, 81, 82, 83, 84, 85, 86, 87, 88, 89, 90, 91, 92, 93, 94, 95, 96, 97, 98, 99, 100, 101, 102, 103, 104, 105, 106, 107, 108, 109, 110, 111, 112, 113, 114, 115, 116, 117, 118, 119, 120, 121, 122, 123, 124, 125, 126, 127, 128, 129, 130, 131, 132, 133, 134, 135, 136, 137, 138, 139, 140, 141, 142, 143, 144] (by decide +kernel) (by decide +kernel)) (goodIn_sub (fun _ h => List.mem_cons_of_mem _ (List.mem_append_right _ h)) (by decide +kernel))
set_option maxRecDepth 20000 in
theorem gL_found_X4_found : GoodIn wsL_found (wsV RL 57 RX4 yX4_found wsX4_found) := goodIn_app (goodIn_of _ (by decide +kernel)) ggL_found_X4_found
set_option maxRecDepth 20000 in
theorem ggL_calibrated_X4_calibrated : GoodIn wsL_calibrated wsX4_calibrated := goodIn_ca (goodIn_r _ [6, 7, 8, 9, 10, 11, 12, 5, 13, 14, 15, 16, 17, 18, 19, 20, 21, 22, 23, 24, 25, 26, 27, 28, 29, 30, 31, 32, 33, 34, 35, 36, 37, 38, 39, 40, 41, 42, 43, 44, 45] (by decide +kernel) (by decide +kernel)) (goodIn_sub (fun _ h => List.mem_cons_of_mem _ (List.mem_append_right _ h)) (by decide +kernel))
set_option maxRecDepth 20000 in
theorem gL_calibrated_X4_calibrated : GoodIn wsL_calibrated (wsV RL 60 RX4 yX4_calibrated wsX4_calibrated) := goodIn_app (goodIn_of _ (by decide +kernel)) ggL_calibrated_X4_calibrated
set_option maxRecDepth 20000 in
theorem ggL_law_X4_init : GoodIn wsL_law wsX4_init := goodIn_r _ [9, 10, 11, 12, 13, 14, 15, 16, 17, 18, 19, 20, 6, 21, 22, 23, 24, 25, 26, 27, 28, 29, 30, 31, 32, 33, 34, 35, 36, 37, 38, 39, 40, 41, 42, 43, 44, 45, 46, 47, 48, 49, 50, 595, 596, 597, 598, 599, 600, 601, 602, 603, 625, 626, 627, 628, 629, 630, 631, 632, 633, 634, 635, 636, 637, 638, 639, 640, 641, 642, 643] (by decide +kernel) (by decide +kernel)
set_option maxRecDepth 20000 in
theorem gL_law_X4_init : GoodIn wsL_law (wsX4_init) := ggL_law_X4_init
set_option maxRecDepth 20000 in
theorem ggL_law_X5_init : GoodIn wsL_law wsX5_init := goodIn_r _ [53, 54, 11, 12, 45, 55, 56, 57, 58, 59, 60, 61, 62, 63, 64, 65, 66, 67, 68, 6, 69, 70, 604, 605, 606, 607, 608, 609, 610, 611, 612, 613, 614, 615, 616, 617, 618, 619, 620, 621, 622, 623, 624] (by decide +kernel) (by decide +kernel)
set_option maxRecDepth 20000 in
theorem gL_law_X5_init : GoodIn wsL_law (wsX5_init) := ggL_law_X5_init
set_option maxRecDepth 20000 in
theorem ggL_law_L_element : GoodIn wsL_law wsL_element := goodIn_ca (goodIn_ca (goodIn_r _ [74, 75, 76, 77, 78, 79, 2, 80, 81, 82, 83, 84, 85, 14, 86, 87, 88, 89, 90, 91, 92, 24, 93, 94, 95, 96, 97, 98, 38, 99, 100, 101, 37, 102, 103, 104, 595, 596, 597, 598, 599, 600, 601, 602, 603, 627, 628, 629, 630, 631, 632, 633, 634, 635, 636, 637, 641, 642, 643] (by decide +kernel) (by decide +kernel)) (goodIn_sub (fun _ h => List.mem_append_left _ (List.mem_append_left _ (List.mem_append_right _ h))) (by decide +kernel))) (goodIn_sub (fun _ h => List.mem_append_left _ (List.mem_append_right _ h)) (by decide +kernel))
set_option maxRecDepth 20000 in
theorem gL_law_L_element : GoodIn wsL_law (va_wsS RL 68 yL_element wsL_element) := goodIn_app (goodIn_of _ (by decide +kernel)) ggL_law_L_element
set_option maxRecDepth 20000 in
theorem ggL_law_X5_element : GoodIn wsL_law wsX5_element := goodIn_r _ [108, 109, 55, 56, 57, 58, 110, 60, 61, 62, 111, 112, 5, 113, 114, 115, 116, 117, 118, 604, 605, 606, 607, 608, 609, 610, 611, 612, 613, 614, 615, 616, 617, 618, 619, 620, 621, 622, 623, 624] (by decide +kernel) (by decide +kernel)
set_option maxRecDepth 20000 in
theorem gL_law_X5_element : GoodIn wsL_law (wsV RL 73 RX5 yX5_element wsX5_element) := goodIn_app (goodIn_of _ (by decide +kernel)) ggL_law_X5_element
set_option maxRecDepth 20000 in
theorem ggL_law_X5_thrown : GoodIn wsL_law wsX5_thrown := goodIn_r _ [122, 118, 604, 605, 606, 607, 608, 609, 610, 611, 612, 613, 614, 615, 616, 617, 618, 619, 620, 621, 622, 623, 624] (by decide +kernel) (by decide +kernel)
set_option maxRecDepth 20000 in
theorem gL_law_X5_thrown : GoodIn wsL_law (wsV RL 74 RX5 yX5_thrown wsX5_thrown) := goodIn_app (goodIn_of _ (by decide +kernel)) ggL_law_X5_thrown
set_option maxRecDepth 20000 in
theorem ggL_law_L_alive : GoodIn wsL_law wsL_alive := goodIn_ca (goodIn_r _ [125, 126, 127, 128, 129, 2, 130, 131, 132, 14, 133, 134, 135, 136, 85, 137, 138, 139, 24, 140, 95, 141, 142, 143, 144, 595, 596, 597, 598, 599, 600, 601, 602, 603, 627, 628, 629, 630, 631, 632, 633, 634, 635, 636, 637] (by decide +kernel) (by decide +kernel)) (goodIn_sub (fun _ h => List.mem_append_right _ h) (by decide +kernel))
set_option maxRecDepth 20000 in
theorem gL_law_L_alive : GoodIn wsL_law (va_wsS RL 78 yL_alive wsL_alive) := goodIn_app (goodIn_of _ (by decide +kernel)) ggL_law_L_alive
set_option maxRecDepth 20000 in
theorem ggL_law_X5_alive : GoodIn wsL_law wsX5_alive := goodIn_r _ [148, 60, 149, 150, 151, 5, 152, 109, 111, 112, 113, 114, 115, 116, 117, 118, 604, 605, 606, 607, 608, 609, 610, 611, 612, 613, 614, 615, 616, 617, 618, 619, 620, 621, 622, 623, 624] (by decide +kernel) (by decide +kernel)
set_option maxRecDepth 20000 in
theorem gL_law_X5_alive : GoodIn wsL_law (wsV RL 81 RX5 yX5_alive wsX5_alive) := goodIn_app (goodIn_of _ (by decide +kernel)) ggL_law_X5_alive
set_option maxRecDepth 20000 in
theorem ggL_law_L_source : GoodIn wsL_law wsL_source := goodIn_ca (goodIn_ca (goodIn_ca (goodIn_r _ [155, 126, 75, 76, 156, 157, 158, 2, 159, 131, 132, 81, 82, 83, 84, 160, 16, 161, 162, 163, 87, 88, 89, 164, 165, 166, 26, 167, 168, 169, 50, 595, 596, 597, 598, 599, 600, 601, 602, 603, 638, 639, 640] (by decide +kernel) (by decide +kernel)) (goodIn_sub (fun _ h => List.mem_append_right _ h) (by decide +kernel))) (goodIn_sub (fun _ h => List.mem_append_left _ (List.mem_append_left _ (List.mem_append_right _ h))) (by decide +kernel))) (goodIn_sub (fun _ h => List.mem_append_left _ (List.mem_append_right _ h)) (by decide +kernel))
set_option maxRecDepth 20000 in
theorem gL_law_L_source : GoodIn wsL_law (va_wsS RL 82 yL_source wsL_source) := goodIn_app (goodIn_of _ (by decide +kernel)) ggL_law_L_source
set_option maxRecDepth 20000 in
theorem ggL_law_X5_source : GoodIn wsL_law wsX5_source := goodIn_r _ [173, 174, 63, 64, 65, 111, 112, 5, 113, 175, 176, 177, 114, 115, 116, 117, 118, 604, 605, 606, 607, 608, 609, 610, 611, 612, 613, 614, 615, 616, 617, 618, 619, 620, 621, 622, 623, 624] (by decide +kernel) (by decide +kernel)
set_option maxRecDepth 20000 in
theorem gL_law_X5_source : GoodIn wsL_law (wsV RL 84 RX5 yX5_source wsX5_source) := goodIn_app (goodIn_of _ (by decide +kernel)) ggL_law_X5_source
set_option maxRecDepth 20000 in
theorem ggL_law_X4_silence : GoodIn wsL_law wsX4_silence := goodIn_r _ [181, 160, 595, 596, 597, 598, 599, 600, 601, 602, 603] (by decide +kernel) (by decide +kernel)
set_option maxRecDepth 20000 in
theorem gL_law_X4_silence : GoodIn wsL_law (wsV RL 85 RX4 yX4_silence wsX4_silence) := goodIn_app (goodIn_of _ (by decide +kernel)) ggL_law_X4_silence
set_option maxRecDepth 20000 in
theorem ggL_law_X5_silence : GoodIn wsL_law wsX5_silence := goodIn_r _ [185, 118, 174, 604, 605, 606, 607, 608, 609, 610, 611, 612, 613, 614, 615, 616, 617, 618, 619, 620, 621, 622, 623, 624] (by decide +kernel) (by decide +kernel)
set_option maxRecDepth 20000 in
theorem gL_law_X5_silence : GoodIn wsL_law (wsV RL 88 RX5 yX5_silence wsX5_silence) := goodIn_app (goodIn_of _ (by decide +kernel)) ggL_law_X5_silence
set_option maxRecDepth 20000 in
theorem ggL_law_L_noise : GoodIn wsL_law wsL_noise := goodIn_ca (goodIn_r _ [188, 75, 189, 190, 191, 2, 192, 81, 82, 193, 20, 87, 88, 89, 194, 195, 196, 19, 197, 198, 199, 200, 201, 202, 31, 595, 596, 597, 598, 599, 600, 601, 602, 603, 625, 626] (by decide +kernel) (by decide +kernel)) (goodIn_sub (fun _ h => List.mem_append_left _ (List.mem_append_left _ (List.mem_append_right _ h))) (by decide +kernel))
set_option maxRecDepth 20000 in
theorem gL_law_L_noise : GoodIn wsL_law (va_wsS RL 89 yL_noise wsL_noise) := goodIn_app (goodIn_of _ (by decide +kernel)) ggL_law_L_noise
set_option maxRecDepth 20000 in
theorem ggL_law_X5_noise : GoodIn wsL_law wsX5_noise := goodIn_r _ [206, 207, 208, 70, 111, 112, 5, 113, 114, 115, 116, 117, 118, 604, 605, 606, 607, 608, 609, 610, 611, 612, 613, 614, 615, 616, 617, 618, 619, 620, 621, 622, 623, 624] (by decide +kernel) (by decide +kernel)
set_option maxRecDepth 20000 in
theorem gL_law_X5_noise : GoodIn wsL_law (wsV RL 92 RX5 yX5_noise wsX5_noise) := goodIn_app (goodIn_of _ (by decide +kernel)) ggL_law_X5_noise
set_option maxRecDepth 20000 in
theorem ggL_law_L_hear : GoodIn wsL_law wsL_hear := goodIn_ca (goodIn_r _ [211, 75, 212, 213, 214, 2, 215, 81, 82, 86, 87, 88, 89, 216, 217, 218, 219, 14, 20, 220, 221, 222, 24, 223, 94, 224, 225, 226, 19, 227, 31, 228, 198, 137, 138, 139, 140, 95, 229, 230, 231, 232, 160, 16, 233, 234, 235, 26, 236, 168, 237, 238, 239, 240, 96, 241, 242, 243, 244, 245, 246, 247, 248, 98, 249, 250, 251, 252, 50, 169, 253, 254, 255, 256, 257, 258, 259, 97, 260, 261, 262, 263, 38, 264, 265, 266, 37, 267, 104, 46, 268, 269, 270, 595, 596, 597, 598, 599, 600, 601, 602, 603, 627, 628, 629, 630, 631, 632, 633, 634, 635, 636, 637, 625, 626, 638, 639, 640, 641, 642, 643] (by decide +kernel) (by decide +kernel)) (goodIn_sub (fun _ h => List.mem_append_left _ (List.mem_append_left _ (List.mem_append_right _ h))) (by decide +kernel))
set_option maxRecDepth 20000 in
theorem gL_law_L_hear : GoodIn wsL_law (va_wsS RL 93 yL_hear wsL_hear) := goodIn_app (goodIn_of _ (by decide +kernel)) ggL_law_L_hear
set_option maxRecDepth 20000 in
theorem ggL_law_X5_hear : GoodIn wsL_law wsX5_hear := goodIn_r _ [274, 109, 110, 111, 112, 5, 113, 114, 115, 116, 117, 118, 275, 276, 277, 278, 174, 63, 57, 70, 279, 208, 56, 280, 66, 60, 281, 282, 283, 284, 55, 285, 286, 287, 288, 289, 290, 291, 292, 65, 64, 604, 605, 606, 607, 608, 609, 610, 611, 612, 613, 614, 615, 616, 617, 618, 619, 620, 621, 622, 623, 624] (by decide +kernel) (by decide +kernel)
set_option maxRecDepth 20000 in
theorem gL_law_X5_hear : GoodIn wsL_law (wsV RL 96 RX5 yX5_hear wsX5_hear) := goodIn_app (goodIn_of _ (by decide +kernel)) ggL_law_X5_hear
set_option maxRecDepth 20000 in
theorem ggL_law_L_window : GoodIn wsL_law wsL_window := goodIn_ca (goodIn_r _ [295, 75, 296, 297, 298, 2, 299, 81, 82, 27, 87, 88, 89, 595, 596, 597, 598, 599, 600, 601, 602, 603] (by decide +kernel) (by decide +kernel)) (goodIn_sub (fun _ h => List.mem_append_left _ (List.mem_append_left _ (List.mem_append_right _ h))) (by decide +kernel))
set_option maxRecDepth 20000 in
theorem gL_law_L_window : GoodIn wsL_law (va_wsS RL 97 yL_window wsL_window) := goodIn_app (goodIn_of _ (by decide +kernel)) ggL_law_L_window
set_option maxRecDepth 20000 in
theorem ggL_law_X5_window : GoodIn wsL_law wsX5_window := goodIn_r _ [303, 304, 111, 112, 5, 113, 114, 115, 116, 117, 118, 604, 605, 606, 607, 608, 609, 610, 611, 612, 613, 614, 615, 616, 617, 618, 619, 620, 621, 622, 623, 624] (by decide +kernel) (by decide +kernel)
set_option maxRecDepth 20000 in
theorem gL_law_X5_window : GoodIn wsL_law (wsV RL 99 RX5 yX5_window wsX5_window) := goodIn_app (goodIn_of _ (by decide +kernel)) ggL_law_X5_window
set_option maxRecDepth 20000 in
theorem ggL_law_L_calibrate : GoodIn wsL_law wsL_calibrate := goodIn_ca (goodIn_ca (goodIn_r _ [307, 126, 76, 308, 309, 310, 2, 311, 131, 132, 83, 84, 161, 162, 163, 87, 88, 89, 312, 313, 314, 315, 14, 137, 138, 139, 24, 140, 95, 316, 317, 318, 319, 320, 321, 322, 323, 27, 324, 325, 326, 327, 328, 329, 330, 331, 332, 39, 38, 333, 334, 335, 37, 336, 104, 46, 268, 269, 270, 337, 338, 339, 340, 103, 341, 342, 343, 344, 41, 40, 345, 346, 347, 243, 348, 349, 350, 351, 352, 353, 238, 239, 240, 96, 241, 242, 244, 354, 355, 356, 357, 358, 359, 360, 361, 362, 363, 364, 365, 366, 367, 368, 369, 370, 371, 372, 373, 374, 375, 376, 377, 378, 379, 595, 596, 597, 598, 599, 600, 601, 602, 603, 627, 628, 629, 630, 631, 632, 633, 634, 635, 636, 637, 641, 642, 643] (by decide +kernel) (by decide +kernel)) (goodIn_sub (fun _ h => List.mem_append_right _ h) (by decide +kernel))) (goodIn_sub (fun _ h => List.mem_append_left _ (List.mem_append_right _ h)) (by decide +kernel))
set_option maxRecDepth 20000 in
theorem gL_law_L_calibrate : GoodIn wsL_law (va_wsS RL 100 yL_calibrate wsL_calibrate) := goodIn_app (goodIn_of _ (by decide +kernel)) ggL_law_L_calibrate
set_option maxRecDepth 20000 in
theorem ggL_law_X5_calibrate : GoodIn wsL_law wsX5_calibrate := goodIn_r _ [383, 109, 60, 175, 176, 5, 177, 111, 112, 113, 384, 385, 386, 387, 388, 389, 390, 391, 110, 66, 281, 282, 283, 284, 55, 285, 286, 287, 288, 392, 393, 394, 395, 396, 397, 398, 399, 58, 114, 115, 116, 117, 118, 400, 401, 402, 403, 61, 62, 404, 405, 406, 407, 280, 408, 409, 604, 605, 606, 607, 608, 609, 610, 611, 612, 613, 614, 615, 616, 617, 618, 619, 620, 621, 622, 623, 624] (by decide +kernel) (by decide +kernel)
set_option maxRecDepth 20000 in
theorem gL_law_X5_calibrate : GoodIn wsL_law (wsV RL 102 RX5 yX5_calibrate wsX5_calibrate) := goodIn_app (goodIn_of _ (by decide +kernel)) ggL_law_X5_calibrate
set_option maxRecDepth 20000 in
theorem ggL_law_L_sample : GoodIn wsL_law wsL_sample := goodIn_ca (goodIn_r _ [412, 126, 413, 414, 415, 2, 416, 131, 132, 14, 133, 134, 135, 136, 85, 87, 88, 89, 417, 418, 419, 24, 420, 38, 333, 334, 335, 37, 336, 104, 46, 268, 269, 270, 337, 338, 339, 340, 103, 595, 596, 597, 598, 599, 600, 601, 602, 603, 627, 628, 629, 630, 631, 632, 633, 634, 635, 636, 637, 641, 642, 643] (by decide +kernel) (by decide +kernel)) (goodIn_sub (fun _ h => List.mem_append_right _ h) (by decide +kernel))
set_option maxRecDepth 20000 in
theorem gL_law_L_sample : GoodIn wsL_law (va_wsS RL 103 yL_sample wsL_sample) := goodIn_app (goodIn_of _ (by decide +kernel)) ggL_law_L_sample
set_option maxRecDepth 20000 in
theorem ggL_law_X5_sample : GoodIn wsL_law wsX5_sample := goodIn_r _ [424, 66, 110, 149, 150, 151, 5, 152, 109, 111, 112, 113, 114, 115, 116, 117, 118, 392, 393, 394, 395, 396, 397, 398, 399, 58, 604, 605, 606, 607, 608, 609, 610, 611, 612, 613, 614, 615, 616, 617, 618, 619, 620, 621, 622, 623, 624] (by decide +kernel) (by decide +kernel)
set_option maxRecDepth 20000 in
theorem gL_law_X5_sample : GoodIn wsL_law (wsV RL 105 RX5 yX5_sample wsX5_sample) := goodIn_app (goodIn_of _ (by decide +kernel)) ggL_law_X5_sample
set_option maxRecDepth 20000 in
theorem ggL_law_L_sum : GoodIn wsL_law wsL_sum := goodIn_ca (goodIn_r _ [427, 126, 428, 429, 430, 2, 431, 131, 132, 21, 161, 162, 163, 87, 88, 89, 316, 317, 318, 319, 14, 137, 138, 139, 24, 140, 95, 320, 321, 322, 323, 27, 324, 325, 326, 327, 328, 329, 330, 331, 332, 39, 38, 333, 334, 335, 37, 336, 104, 46, 268, 269, 270, 337, 338, 339, 340, 103, 341, 342, 343, 344, 41, 40, 345, 346, 347, 243, 348, 432, 433, 434, 435, 436, 437, 438, 439, 440, 441, 442, 443, 444, 445, 446, 447, 366, 353, 238, 239, 240, 96, 241, 242, 244, 448, 449, 450, 451, 595, 596, 597, 598, 599, 600, 601, 602, 603, 627, 628, 629, 630, 631, 632, 633, 634, 635, 636, 637, 641, 642, 643] (by decide +kernel) (by decide +kernel)) (goodIn_sub (fun _ h => List.mem_append_right _ h) (by decide +kernel))
set_option maxRecDepth 20000 in
theorem gL_law_L_sum : GoodIn wsL_law (va_wsS RL 106 yL_sum wsL_sum) := goodIn_app (goodIn_of _ (by decide +kernel)) ggL_law_L_sum
set_option maxRecDepth 20000 in
theorem ggL_law_X5_sum : GoodIn wsL_law wsX5_sum := goodIn_r _ [455, 66, 110, 175, 176, 5, 177, 111, 112, 113, 114, 115, 116, 117, 118, 456, 457, 458, 459, 109, 62, 280, 61, 281, 282, 283, 284, 55, 285, 286, 287, 288, 392, 393, 394, 395, 396, 397, 398, 399, 58, 460, 461, 462, 463, 60, 304, 604, 605, 606, 607, 608, 609, 610, 611, 612, 613, 614, 615, 616, 617, 618, 619, 620, 621, 622, 623, 624] (by decide +kernel) (by decide +kernel)
set_option maxRecDepth 20000 in
theorem gL_law_X5_sum : GoodIn wsL_law (wsV RL 108 RX5 yX5_sum wsX5_sum) := goodIn_app (goodIn_of _ (by decide +kernel)) ggL_law_X5_sum
set_option maxRecDepth 20000 in
theorem ggL_law_L_power : GoodIn wsL_law wsL_power := goodIn_ca (goodIn_r _ [466, 126, 467, 468, 469, 2, 470, 131, 132, 161, 162, 163, 87, 88, 89, 316, 317, 318, 319, 14, 137, 138, 139, 24, 140, 95, 320, 321, 322, 323, 27, 324, 325, 326, 327, 328, 329, 330, 331, 332, 39, 38, 333, 334, 335, 37, 336, 104, 46, 268, 269, 270, 337, 338, 339, 340, 103, 341, 342, 343, 344, 41, 40, 345, 346, 347, 243, 348, 471, 472, 473, 474, 432, 433, 434, 435, 21, 436, 437, 438, 439, 440, 441, 442, 443, 444, 445, 446, 447, 366, 353, 238, 239, 240, 96, 241, 242, 244, 448, 449, 450, 451, 475, 476, 477, 478, 595, 596, 597, 598, 599, 600, 601, 602, 603, 627, 628, 629, 630, 631, 632, 633, 634, 635, 636, 637, 641, 642, 643] (by decide +kernel) (by decide +kernel)) (goodIn_sub (fun _ h => List.mem_append_right _ h) (by decide +kernel))
set_option maxRecDepth 20000 in
theorem gL_law_L_power : GoodIn wsL_law (va_wsS RL 109 yL_power wsL_power) := goodIn_app (goodIn_of _ (by decide +kernel)) ggL_law_L_power
set_option maxRecDepth 20000 in
theorem ggL_law_X5_power : GoodIn wsL_law wsX5_power := goodIn_r _ [482, 66, 175, 176, 5, 177, 111, 112, 113, 114, 115, 116, 117, 118, 483, 484, 485, 486, 110, 456, 457, 458, 459, 109, 62, 280, 61, 281, 282, 283, 284, 55, 285, 286, 287, 288, 392, 393, 394, 395, 396, 397, 398, 399, 58, 460, 461, 462, 463, 60, 304, 604, 605, 606, 607, 608, 609, 610, 611, 612, 613, 614, 615, 616, 617, 618, 619, 620, 621, 622, 623, 624] (by decide +kernel) (by decide +kernel)
set_option maxRecDepth 20000 in
theorem gL_law_X5_power : GoodIn wsL_law (wsV RL 111 RX5 yX5_power wsX5_power) := goodIn_app (goodIn_of _ (by decide +kernel)) ggL_law_X5_power
set_option maxRecDepth 20000 in
theorem ggL_law_L_powerAnew : GoodIn wsL_law wsL_powerAnew := goodIn_ca (goodIn_r _ [489, 126, 490, 491, 492, 2, 493, 131, 132, 161, 162, 163, 87, 88, 89, 316, 317, 318, 319, 14, 137, 138, 139, 24, 140, 95, 320, 321, 322, 323, 27, 324, 325, 326, 327, 328, 329, 330, 331, 332, 39, 38, 333, 334, 335, 37, 336, 104, 46, 268, 269, 270, 337, 338, 339, 340, 103, 341, 342, 343, 344, 41, 40, 345, 346, 347, 243, 348, 494, 495, 496, 497, 498, 499, 500, 501, 444, 445, 446, 447, 366, 353, 238, 239, 240, 96, 241, 242, 244, 448, 449, 450, 451, 595, 596, 597, 598, 599, 600, 601, 602, 603, 627, 628, 629, 630, 631, 632, 633, 634, 635, 636, 637, 641, 642, 643] (by decide +kernel) (by decide +kernel)) (goodIn_sub (fun _ h => List.mem_append_right _ h) (by decide +kernel))
set_option maxRecDepth 20000 in
theorem gL_law_L_powerAnew : GoodIn wsL_law (va_wsS RL 112 yL_powerAnew wsL_powerAnew) := goodIn_app (goodIn_of _ (by decide +kernel)) ggL_law_L_powerAnew
set_option maxRecDepth 20000 in
theorem ggL_law_X5_powerAnew : GoodIn wsL_law wsX5_powerAnew := goodIn_r _ [505, 66, 175, 176, 5, 177, 111, 112, 113, 114, 115, 116, 117, 118, 483, 484, 485, 486, 110, 456, 457, 458, 459, 109, 62, 280, 61, 281, 282, 283, 284, 55, 285, 286, 287, 288, 392, 393, 394, 395, 396, 397, 398, 399, 58, 460, 461, 462, 463, 60, 304, 604, 605, 606, 607, 608, 609, 610, 611, 612, 613, 614, 615, 616, 617, 618, 619, 620, 621, 622, 623, 624] (by decide +kernel) (by decide +kernel)
set_option maxRecDepth 20000 in
theorem gL_law_X5_powerAnew : GoodIn wsL_law (wsV RL 114 RX5 yX5_powerAnew wsX5_powerAnew) := goodIn_app (goodIn_of _ (by decide +kernel)) ggL_law_X5_powerAnew
set_option maxRecDepth 20000 in
theorem ggL_law_L_peaks : GoodIn wsL_law wsL_peaks := goodIn_ca (goodIn_r _ [508, 75, 509, 510, 511, 2, 512, 81, 82, 22, 513, 87, 88, 89, 316, 317, 318, 319, 14, 137, 138, 139, 24, 140, 95, 320, 321, 322, 323, 27, 324, 325, 326, 327, 328, 329, 330, 331, 332, 39, 38, 333, 334, 335, 37, 336, 104, 46, 268, 269, 270, 337, 338, 339, 340, 103, 341, 342, 343, 344, 41, 40, 345, 346, 347, 243, 348, 514, 515, 516, 517, 376, 377, 378, 432, 433, 434, 435, 21, 436, 437, 438, 439, 440, 441, 442, 443, 444, 445, 446, 447, 366, 353, 238, 239, 240, 96, 241, 242, 244, 448, 449, 450, 451, 475, 476, 477, 478, 518, 519, 520, 521, 522, 523, 524, 525, 595, 596, 597, 598, 599, 600, 601, 602, 603, 627, 628, 629, 630, 631, 632, 633, 634, 635, 636, 637, 641, 642, 643] (by decide +kernel) (by decide +kernel)) (goodIn_sub (fun _ h => List.mem_append_left _ (List.mem_append_left _ (List.mem_append_right _ h))) (by decide +kernel))
set_option maxRecDepth 20000 in
theorem gL_law_L_peaks : GoodIn wsL_law (va_wsS RL 115 yL_peaks wsL_peaks) := goodIn_app (goodIn_of _ (by decide +kernel)) ggL_law_L_peaks
set_option maxRecDepth 20000 in
theorem ggL_law_X5_peaks : GoodIn wsL_law wsX5_peaks := goodIn_r _ [529, 66, 69, 530, 111, 112, 5, 113, 114, 115, 116, 117, 118, 531, 532, 533, 534, 483, 484, 485, 486, 110, 456, 457, 458, 459, 109, 62, 280, 61, 281, 282, 283, 284, 55, 285, 286, 287, 288, 392, 393, 394, 395, 396, 397, 398, 399, 58, 460, 461, 462, 463, 60, 304, 535, 536, 537, 538, 604, 605, 606, 607, 608, 609, 610, 611, 612, 613, 614, 615, 616, 617, 618, 619, 620, 621, 622, 623, 624] (by decide +kernel) (by decide +kernel)
set_option maxRecDepth 20000 in
theorem gL_law_X5_peaks : GoodIn wsL_law (wsV RL 117 RX5 yX5_peaks wsX5_peaks) := goodIn_app (goodIn_of _ (by decide +kernel)) ggL_law_X5_peaks
set_option maxRecDepth 20000 in
theorem ggL_law_L_found : GoodIn wsL_law wsL_found := goodIn_ca (goodIn_r _ [541, 126, 542, 543, 544, 2, 545, 131, 132, 87, 88, 89, 316, 317, 318, 319, 14, 137, 138, 139, 24, 140, 95, 320, 321, 322, 323, 27, 324, 325, 326, 327, 328, 329, 330, 331, 332, 39, 38, 333, 334, 335, 37, 336, 104, 46, 268, 269, 270, 337, 338, 339, 340, 103, 341, 342, 343, 344, 41, 40, 345, 346, 347, 243, 348, 546, 547, 548, 549, 22, 514, 515, 516, 517, 376, 377, 378, 432, 433, 434, 435, 21, 436, 437, 438, 439, 440, 441, 442, 443, 444, 445, 446, 447, 366, 353, 238, 239, 240, 96, 241, 242, 244, 448, 449, 450, 451, 475, 476, 477, 478, 550, 551, 552, 553, 379, 554, 555, 556, 557, 558, 559, 595, 596, 597, 598, 599, 600, 601, 602, 603, 627, 628, 629, 630, 631, 632, 633, 634, 635, 636, 637, 641, 642, 643] (by decide +kernel) (by decide +kernel)) (goodIn_sub (fun _ h => List.mem_append_right _ h) (by decide +kernel))
set_option maxRecDepth 20000 in
theorem gL_law_L_found : GoodIn wsL_law (va_wsS RL 118 yL_found wsL_found) := goodIn_app (goodIn_of _ (by decide +kernel)) ggL_law_L_found
set_option maxRecDepth 20000 in
theorem ggL_law_X5_found : GoodIn wsL_law wsX5_found := goodIn_r _ [563, 67, 66, 69, 111, 112, 5, 113, 114, 115, 116, 117, 118, 531, 532, 533, 534, 483, 484, 485, 486, 110, 456, 457, 458, 459, 109, 62, 280, 61, 281, 282, 283, 284, 55, 285, 286, 287, 288, 392, 393, 394, 395, 396, 397, 398, 399, 58, 460, 461, 462, 463, 60, 304, 535, 536, 537, 538, 564, 565, 566, 567, 68, 604, 605, 606, 607, 608, 609, 610, 611, 612, 613, 614, 615, 616, 617, 618, 619, 620, 621, 622, 623, 624] (by decide +kernel) (by decide +kernel)
set_option maxRecDepth 20000 in
theorem gL_law_X5_found : GoodIn wsL_law (wsV RL 120 RX5 yX5_found wsX5_found) := goodIn_app (goodIn_of _ (by decide +kernel)) ggL_law_X5_found
set_option maxRecDepth 20000 in
theorem ggL_law_L_calibrated : GoodIn wsL_law wsL_calibrated := goodIn_ca (goodIn_r _ [570, 126, 571, 572, 573, 2, 574, 131, 132, 14, 133, 134, 135, 136, 85, 575, 576, 577, 24, 578, 366, 579, 580, 581, 582, 41, 595, 596, 597, 598, 599, 600, 601, 602, 603, 627, 628, 629, 630, 631, 632, 633, 634, 635, 636, 637] (by decide +kernel) (by decide +kernel)) (goodIn_sub (fun _ h => List.mem_append_right _ h) (by decide +kernel))
set_option maxRecDepth 20000 in
theorem gL_law_L_calibrated : GoodIn wsL_law (va_wsS RL 121 yL_calibrated wsL_calibrated) := goodIn_app (goodIn_of _ (by decide +kernel)) ggL_law_L_calibrated
set_option maxRecDepth 20000 in
theorem ggL_law_X5_calibrated : GoodIn wsL_law wsX5_calibrated := goodIn_r _ [586, 62, 61, 149, 150, 151, 5, 152, 109, 111, 112, 113, 114, 115, 116, 117, 118, 604, 605, 606, 607, 608, 609, 610, 611, 612, 613, 614, 615, 616, 617, 618, 619, 620, 621, 622, 623, 624] (by decide +kernel) (by decide +kernel)
set_option maxRecDepth 20000 in
theorem gL_law_X5_calibrated : GoodIn wsL_law (wsV RL 123 RX5 yX5_calibrated wsX5_calibrated) := goodIn_app (goodIn_of _ (by decide +kernel)) ggL_law_X5_calibrated
set_option maxRecDepth 20000 in
theorem ggL_law_X4_tick : GoodIn wsL_law wsX4_tick := goodIn_r _ [590, 86, 595, 596, 597, 598, 599, 600, 601, 602, 603] (by decide +kernel) (by decide +kernel)
set_option maxRecDepth 20000 in
theorem gL_law_X4_tick : GoodIn wsL_law (wsV RL 124 RX4 yX4_tick wsX4_tick) := goodIn_app (goodIn_of _ (by decide +kernel)) ggL_law_X4_tick
set_option maxRecDepth 20000 in
theorem ggL_law_X5_tick : GoodIn wsL_law wsX5_tick := goodIn_r _ [594, 118, 110, 604, 605, 606, 607, 608, 609, 610, 611, 612, 613, 614, 615, 616, 617, 618, 619, 620, 621, 622, 623, 624] (by decide +kernel) (by decide +kernel)
set_option maxRecDepth 20000 in
theorem gL_law_X5_tick : GoodIn wsL_law (wsV RL 127 RX5 yX5_tick wsX5_tick) := goodIn_app (goodIn_of _ (by decide +kernel)) ggL_law_X5_tick
