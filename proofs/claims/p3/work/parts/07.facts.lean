theorem in_X0 : ∀ w ∈ u_ws RX0 TX0 6, w ∈ gT := fun w hw => List.mem_filter.mpr ⟨List.mem_append_right _ ((of_decide_eq_true (by decide +kernel : decide (∀ w ∈ u_ws RX0 TX0 6, w ∈ tables_1) = true)) w hw), (of_decide_eq_true (by decide +kernel : decide (∀ w ∈ u_ws RX0 TX0 6, goodWord w = true) = true)) w hw⟩
theorem dv_X0 : ∀ j, j < 6 → defaultValue (tyX0 j) = vp_V [.int 0, .null, .null, .null, .null, .int 0] j := by decide +kernel
theorem in_X1 : ∀ w ∈ u_ws RX1 TX1 7, w ∈ gT := fun w hw => List.mem_filter.mpr ⟨List.mem_append_right _ ((of_decide_eq_true (by decide +kernel : decide (∀ w ∈ u_ws RX1 TX1 7, w ∈ tables_1) = true)) w hw), (of_decide_eq_true (by decide +kernel : decide (∀ w ∈ u_ws RX1 TX1 7, goodWord w = true) = true)) w hw⟩
theorem dv_X1 : ∀ j, j < 7 → defaultValue (tyX1 j) = vp_V [.int 0, .null, .null, .null, .null, .null, .null] j := by decide +kernel
theorem in_X2 : ∀ w ∈ u_ws RX2 TX2 3, w ∈ gT := fun w hw => List.mem_filter.mpr ⟨List.mem_append_right _ ((of_decide_eq_true (by decide +kernel : decide (∀ w ∈ u_ws RX2 TX2 3, w ∈ tables_1) = true)) w hw), (of_decide_eq_true (by decide +kernel : decide (∀ w ∈ u_ws RX2 TX2 3, goodWord w = true) = true)) w hw⟩
theorem dv_X2 : ∀ j, j < 3 → defaultValue (tyX2 j) = vp_V [.int 0, .null, .null] j := by decide +kernel
theorem in_X3 : ∀ w ∈ u_ws RX3 TX3 10, w ∈ gT := fun w hw => List.mem_filter.mpr ⟨List.mem_append_right _ ((of_decide_eq_true (by decide +kernel : decide (∀ w ∈ u_ws RX3 TX3 10, w ∈ tables_1) = true)) w hw), (of_decide_eq_true (by decide +kernel : decide (∀ w ∈ u_ws RX3 TX3 10, goodWord w = true) = true)) w hw⟩
theorem dv_X3 : ∀ j, j < 10 → defaultValue (tyX3 j) = vp_V [.int 0, .null, .null, .null, .null, .int 0, .null, .null, .null, .int 0] j := by decide +kernel
theorem in_X5 : ∀ w ∈ u_ws RX5 TX5 5, w ∈ gT := fun w hw => List.mem_filter.mpr ⟨List.mem_append_right _ ((of_decide_eq_true (by decide +kernel : decide (∀ w ∈ u_ws RX5 TX5 5, w ∈ tables_1) = true)) w hw), (of_decide_eq_true (by decide +kernel : decide (∀ w ∈ u_ws RX5 TX5 5, goodWord w = true) = true)) w hw⟩
theorem dv_X5 : ∀ j, j < 5 → defaultValue (tyX5 j) = vp_V [.int 0, .null, .null, .null, .null] j := by decide +kernel
theorem in_X6 : ∀ w ∈ u_ws RX6 TX6 13, w ∈ gT := fun w hw => List.mem_filter.mpr ⟨List.mem_append_right _ ((of_decide_eq_true (by decide +kernel : decide (∀ w ∈ u_ws RX6 TX6 13, w ∈ tables_1) = true)) w hw), (of_decide_eq_true (by decide +kernel : decide (∀ w ∈ u_ws RX6 TX6 13, goodWord w = true) = true)) w hw⟩
theorem dv_X6 : ∀ j, j < 13 → defaultValue (tyX6 j) = vp_V [.null, .null, .int 0, .int 0, .null, .null, .null, .null, .null, .null, .null, .null, .int 0] j := by decide +kernel
theorem in_X7 : ∀ w ∈ u_ws RX7 TX7 5, w ∈ gT := fun w hw => List.mem_filter.mpr ⟨List.mem_append_right _ ((of_decide_eq_true (by decide +kernel : decide (∀ w ∈ u_ws RX7 TX7 5, w ∈ tables_1) = true)) w hw), (of_decide_eq_true (by decide +kernel : decide (∀ w ∈ u_ws RX7 TX7 5, goodWord w = true) = true)) w hw⟩
theorem dv_X7 : ∀ j, j < 5 → defaultValue (tyX7 j) = vp_V [.int 0, .int 0, .int 0, .null, .int 0] j := by decide +kernel
theorem in_X8 : ∀ w ∈ u_ws RX8 TX8 5, w ∈ gT := fun w hw => List.mem_filter.mpr ⟨List.mem_append_right _ ((of_decide_eq_true (by decide +kernel : decide (∀ w ∈ u_ws RX8 TX8 5, w ∈ tables_1) = true)) w hw), (of_decide_eq_true (by decide +kernel : decide (∀ w ∈ u_ws RX8 TX8 5, goodWord w = true) = true)) w hw⟩
theorem dv_X8 : ∀ j, j < 5 → defaultValue (tyX8 j) = vp_V [.null, .int 0, .int 0, .int 0, .int 0] j := by decide +kernel
theorem in_X9 : ∀ w ∈ u_ws RX9 TX9 10, w ∈ gT := fun w hw => List.mem_filter.mpr ⟨List.mem_append_right _ ((of_decide_eq_true (by decide +kernel : decide (∀ w ∈ u_ws RX9 TX9 10, w ∈ tables_1) = true)) w hw), (of_decide_eq_true (by decide +kernel : decide (∀ w ∈ u_ws RX9 TX9 10, goodWord w = true) = true)) w hw⟩
theorem dv_X9 : ∀ j, j < 10 → defaultValue (tyX9 j) = vp_V [.int 0, .int 0, .null, .null, .null, .null, .int 0, .int 0, .int 0, .int 0] j := by decide +kernel
theorem in_X10 : ∀ w ∈ u_ws RX10 TX10 6, w ∈ gT := fun w hw => List.mem_filter.mpr ⟨List.mem_append_right _ ((of_decide_eq_true (by decide +kernel : decide (∀ w ∈ u_ws RX10 TX10 6, w ∈ tables_1) = true)) w hw), (of_decide_eq_true (by decide +kernel : decide (∀ w ∈ u_ws RX10 TX10 6, goodWord w = true) = true)) w hw⟩
theorem dv_X10 : ∀ j, j < 6 → defaultValue (tyX10 j) = vp_V [.int 0, .null, .null, .null, .null, .null] j := by decide +kernel
theorem in_X11 : ∀ w ∈ u_ws RX11 TX11 19, w ∈ gT := fun w hw => List.mem_filter.mpr ⟨List.mem_append_right _ ((of_decide_eq_true (by decide +kernel : decide (∀ w ∈ u_ws RX11 TX11 19, w ∈ tables_1) = true)) w hw), (of_decide_eq_true (by decide +kernel : decide (∀ w ∈ u_ws RX11 TX11 19, goodWord w = true) = true)) w hw⟩
theorem dv_X11 : ∀ j, j < 19 → defaultValue (tyX11 j) = vp_V [.null, .null, .null, .null, .null, .int 0, .null, .null, .null, .null, .null, .null, .null, .null, .null, .null, .null, .null, .null] j := by decide +kernel
theorem in_X12 : ∀ w ∈ u_ws RX12 TX12 48, w ∈ gT := fun w hw => List.mem_filter.mpr ⟨List.mem_append_right _ ((of_decide_eq_true (by decide +kernel : decide (∀ w ∈ u_ws RX12 TX12 48, w ∈ tables_1) = true)) w hw), (of_decide_eq_true (by decide +kernel : decide (∀ w ∈ u_ws RX12 TX12 48, goodWord w = true) = true)) w hw⟩
theorem dv_X12 : ∀ j, j < 48 → defaultValue (tyX12 j) = vp_V [.null, .null, .null, .null, .int 0, .int 0, .int 0, .int 0, .int 0, .int 0, .int 0, .int 0, .int 0, .int 0, .null, .null, .null, .null, .null, .null, .null, .null, .null, .null, .null, .null, .null, .int 0, .null, .null, .null, .null, .int 0, .int 0, .int 0, .int 0, .int 0, .int 0, .null, .null, .null, .null, .null, .null, .null, .null, .null, .int 0] j := by decide +kernel
theorem mf_X0_init : xMN yX0_init cX0_init 1 0 := ⟨w_292, w_9, w_291, rfl, by decide +kernel⟩
theorem mf_X0_read : xMV yX0_read cX0_read 3 (some .boolean) 1 RX0 := ⟨w_671, w_9, w_669, w_670, by decide +kernel⟩
theorem mf_X0_line : xMV yX0_line cX0_line 4 (some .boolean) 2 RX0 := ⟨w_675, w_9, w_674, gT_sel (q := (yX0_line, 6)) 1 (by decide +kernel), by decide +kernel⟩
theorem mf_X0_someEggs : xMV yX0_someEggs cX0_someEggs 4 (some .boolean) 1 RX0 := ⟨w_682, w_9, w_681, gT_sel (q := (yX0_someEggs, 6)) 2 (by decide +kernel), by decide +kernel⟩
theorem mf_X0_oneEgg : xMV yX0_oneEgg cX0_oneEgg 6 (some .boolean) 2 RX0 := ⟨w_686, w_9, w_685, gT_sel (q := (yX0_oneEgg, 6)) 3 (by decide +kernel), by decide +kernel⟩
theorem mf_X0_whatIsDone : xMV yX0_whatIsDone cX0_whatIsDone 5 (some .boolean) 2 RX0 := ⟨w_695, w_9, w_694, gT_sel (q := (yX0_whatIsDone, 6)) 4 (by decide +kernel), by decide +kernel⟩
theorem mf_X0_canBe : xMV yX0_canBe cX0_canBe 7 (some .boolean) 2 RX0 := ⟨w_699, w_9, w_697, w_698, by decide +kernel⟩
theorem mf_X0_carryOut : xMV yX0_carryOut cX0_carryOut 6 none 3 RX0 := ⟨w_722, w_9, w_720, w_721, by decide +kernel⟩
theorem mf_X1_init : xMN yX1_init cX1_init 1 0 := ⟨w_118, w_6, w_117, rfl, by decide +kernel⟩
theorem mf_X1_isLaid : xMV yX1_isLaid cX1_isLaid 2 (some .boolean) 1 RX1 := ⟨w_718, w_6, w_716, w_717, by decide +kernel⟩
theorem mf_X1_isWhole : xMV yX1_isWhole cX1_isWhole 2 (some .boolean) 1 RX1 := ⟨w_714, w_6, w_712, w_713, by decide +kernel⟩
theorem mf_X1_isWholeOf : xMV yX1_isWholeOf cX1_isWholeOf 3 (some .boolean) 2 RX1 := ⟨w_878, w_6, w_876, w_877, by decide +kernel⟩
theorem mf_X1_minutesAt : xMV yX1_minutesAt cX1_minutesAt 2 (some .int) 1 RX1 := ⟨w_996, w_6, w_994, w_995, by decide +kernel⟩
theorem mf_X1_howMany : xMV yX1_howMany cX1_howMany 4 (some .int) 1 RX1 := ⟨w_856, w_6, w_854, w_855, by decide +kernel⟩
theorem mf_X1_minutesOf : xMV yX1_minutesOf cX1_minutesOf 4 (some .int) 1 RX1 := ⟨w_883, w_6, w_881, w_882, by decide +kernel⟩
theorem mf_X1_wholeOf : xMV yX1_wholeOf cX1_wholeOf 6 (some .int) 3 RX1 := ⟨w_874, w_6, w_872, w_873, by decide +kernel⟩
theorem mf_X1_lay : xMV yX1_lay cX1_lay 5 none 4 RX1 := ⟨w_843, w_6, w_841, w_842, by decide +kernel⟩
theorem mf_X1_sweepOut : xMV yX1_sweepOut cX1_sweepOut 3 (some .int) 0 RX1 := ⟨w_494, w_6, w_492, w_493, by decide +kernel⟩
theorem mf_X1_copyFrom : xMV yX1_copyFrom cX1_copyFrom 2 none 1 RX1 := ⟨w_807, w_6, w_805, w_806, by decide +kernel⟩
theorem mf_X2_init : xMN yX2_init cX2_init 1 0 := ⟨w_66, w_4, w_65, rfl, by decide +kernel⟩
theorem mf_X2_isTold : xMV yX2_isTold cX2_isTold 2 (some .boolean) 1 RX2 := ⟨w_477, w_4, w_475, w_476, by decide +kernel⟩
theorem mf_X2_tell : xMV yX2_tell cX2_tell 4 none 3 RX2 := ⟨w_469, w_4, w_467, w_468, by decide +kernel⟩
theorem mf_X2_howManyOf : xMV yX2_howManyOf cX2_howManyOf 4 (some .int) 1 RX2 := ⟨w_887, w_4, w_885, w_886, by decide +kernel⟩
theorem mf_X2_copyFrom : xMV yX2_copyFrom cX2_copyFrom 2 none 1 RX2 := ⟨w_795, w_4, w_793, w_794, by decide +kernel⟩
theorem mf_X3_init : xMN yX3_init cX3_init 1 0 := ⟨w_248, w_8, w_247, rfl, by decide +kernel⟩
theorem mf_X3_emit : xMV yX3_emit cX3_emit 3 none 2 RX3 := ⟨w_634, w_8, w_632, w_633, by decide +kernel⟩
theorem mf_X3_aim : xMV yX3_aim cX3_aim 2 none 1 RX3 := ⟨w_654, w_8, w_652, w_653, by decide +kernel⟩
theorem mf_X3_ofHen : xMV yX3_ofHen cX3_ofHen 5 (some .int) 4 RX3 := ⟨w_839, w_8, w_837, w_838, by decide +kernel⟩
theorem mf_X3_ofEgg : xMV yX3_ofEgg cX3_ofEgg 5 (some .int) 4 RX3 := ⟨w_734, w_8, w_732, w_733, by decide +kernel⟩
theorem mf_X3_ofSellers : xMV yX3_ofSellers cX3_ofSellers 3 (some .int) 2 RX3 := ⟨w_1009, w_8, w_1007, w_1008, by decide +kernel⟩
theorem mf_X3_start : xMV yX3_start cX3_start 4 none 2 RX3 := ⟨w_738, w_8, w_737, gT_sel (q := (yX3_start, 10)) 5 (by decide +kernel), by decide +kernel⟩
theorem mf_X3_ask : xMV yX3_ask cX3_ask 3 (some .int) 1 RX3 := ⟨w_742, w_8, w_741, gT_sel (q := (yX3_ask, 10)) 6 (by decide +kernel), by decide +kernel⟩
theorem mf_X3_run : xMV yX3_run cX3_run 8 (some .int) 2 RX3 := ⟨w_746, w_8, w_745, gT_sel (q := (yX3_run, 10)) 7 (by decide +kernel), by decide +kernel⟩
theorem mf_X3_push : xMV yX3_push cX3_push 2 none 1 RX3 := ⟨w_750, w_8, w_749, gT_sel (q := (yX3_push, 10)) 8 (by decide +kernel), by decide +kernel⟩
theorem mf_X3_pop : xMV yX3_pop cX3_pop 1 (some .int) 0 RX3 := ⟨w_754, w_8, w_753, gT_sel (q := (yX3_pop, 10)) 9 (by decide +kernel), by decide +kernel⟩
theorem mf_X3_reckon : xMS yX3_reckon cX3_reckon 3 (some .int) 3 := ⟨w_757, w_8, w_756, by decide +kernel⟩
theorem mf_X5_init : xMN yX5_init cX5_init 1 0 := ⟨w_88, w_5, w_87, rfl, by decide +kernel⟩
theorem mf_X5_isTold : xMV yX5_isTold cX5_isTold 2 (some .boolean) 1 RX5 := ⟨w_454, w_5, w_452, w_453, by decide +kernel⟩
theorem mf_X5_tell : xMV yX5_tell cX5_tell 2 (some .boolean) 1 RX5 := ⟨w_450, w_5, w_448, w_449, by decide +kernel⟩
theorem mf_X5_live : xMV yX5_live cX5_live 3 none 2 RX5 := ⟨w_775, w_5, w_773, w_774, by decide +kernel⟩
theorem mf_X5_excess : xMV yX5_excess cX5_excess 2 (some .int) 1 RX5 := ⟨w_1040, w_5, w_1038, w_1039, by decide +kernel⟩
theorem mf_X5_copyFrom : xMV yX5_copyFrom cX5_copyFrom 2 none 1 RX5 := ⟨w_802, w_5, w_800, w_801, by decide +kernel⟩
theorem mf_X6_init : xMN yX6_init cX6_init 1 0 := ⟨w_318, w_10, w_317, rfl, by decide +kernel⟩
theorem mf_X6_find : xMV yX6_find cX6_find 6 none 4 RX6 := ⟨w_913, w_10, w_911, w_912, by decide +kernel⟩
theorem mf_X6_findFits : xMV yX6_findFits cX6_findFits 6 none 3 RX6 := ⟨w_919, w_10, w_918, gT_sel (q := (yX6_findFits, 13)) 14 (by decide +kernel), by decide +kernel⟩
theorem mf_X6_isFit : xMV yX6_isFit cX6_isFit 6 (some .boolean) 2 RX6 := ⟨w_924, w_10, w_923, gT_sel (q := (yX6_isFit, 13)) 15 (by decide +kernel), by decide +kernel⟩
theorem mf_X6_findHopes : xMV yX6_findHopes cX6_findHopes 6 none 0 RX6 := ⟨w_930, w_10, w_929, gT_sel (q := (yX6_findHopes, 13)) 16 (by decide +kernel), by decide +kernel⟩
theorem mf_X6_gain : xMV yX6_gain cX6_gain 3 (some .int) 2 RX6 := ⟨w_934, w_10, w_933, gT_sel (q := (yX6_gain, 13)) 17 (by decide +kernel), by decide +kernel⟩
theorem mf_X6_choose : xMV yX6_choose cX6_choose 7 none 3 RX6 := ⟨w_939, w_10, w_938, gT_sel (q := (yX6_choose, 13)) 18 (by decide +kernel), by decide +kernel⟩
theorem mf_X6_bestWorth : xMV yX6_bestWorth cX6_bestWorth 1 (some .int) 0 RX6 := ⟨w_944, w_10, w_942, w_943, by decide +kernel⟩
theorem mf_X6_bestEggs : xMV yX6_bestEggs cX6_bestEggs 1 (some .int) 0 RX6 := ⟨w_948, w_10, w_946, w_947, by decide +kernel⟩
theorem mf_X6_rowOf : xMV yX6_rowOf cX6_rowOf 3 (some .int) 1 RX6 := ⟨w_953, w_10, w_951, w_952, by decide +kernel⟩
theorem mf_X7_init : xMN yX7_init cX7_init 1 0 := ⟨w_364, w_11, w_363, rfl, by decide +kernel⟩
theorem mf_X7_fill : xMV yX7_fill cX7_fill 6 (some .int) 3 RX7 := ⟨w_1021, w_11, w_1019, w_1020, by decide +kernel⟩
theorem mf_X7_find : xMV yX7_find cX7_find 6 none 1 RX7 := ⟨w_1027, w_11, w_1025, w_1026, by decide +kernel⟩
theorem mf_X7_note : xMV yX7_note cX7_note 3 none 1 RX7 := ⟨w_1032, w_11, w_1031, gT_sel (q := (yX7_note, 5)) 25 (by decide +kernel), by decide +kernel⟩
theorem mf_X8_init : xMN yX8_init cX8_init 1 0 := ⟨w_34, w_2, w_33, rfl, by decide +kernel⟩
theorem mf_X8_addWord : xMV yX8_addWord cX8_addWord 3 none 1 RX8 := ⟨w_502, w_2, w_500, w_501, by decide +kernel⟩
theorem mf_X8_holds : xMV yX8_holds cX8_holds 5 (some .boolean) 4 RX8 := ⟨w_510, w_2, w_508, w_509, by decide +kernel⟩
theorem mf_X8_byteAt : xMV yX8_byteAt cX8_byteAt 2 (some .int) 1 RX8 := ⟨w_986, w_2, w_984, w_985, by decide +kernel⟩
theorem mf_X8_pairAt : xMV yX8_pairAt cX8_pairAt 2 (some .int) 1 RX8 := ⟨w_1004, w_2, w_1002, w_1003, by decide +kernel⟩
theorem mf_X8_wordAt : xMV yX8_wordAt cX8_wordAt 2 (some .int) 1 RX8 := ⟨w_1106, w_2, w_1104, w_1105, by decide +kernel⟩
theorem mf_X8_startText : xMV yX8_startText cX8_startText 2 none 1 RX8 := ⟨w_514, w_2, w_512, w_513, by decide +kernel⟩
theorem mf_X8_sign : xMV yX8_sign cX8_sign 1 (some .int) 0 RX8 := ⟨w_525, w_2, w_523, w_524, by decide +kernel⟩
theorem mf_X8_takes : xMV yX8_takes cX8_takes 2 (some .boolean) 1 RX8 := ⟨w_638, w_2, w_636, w_637, by decide +kernel⟩
theorem mf_X8_fails : xMV yX8_fails cX8_fails 2 (some .boolean) 1 RX8 := ⟨w_618, w_2, w_616, w_617, by decide +kernel⟩
theorem mf_X8_failsAt : xMV yX8_failsAt cX8_failsAt 3 (some .boolean) 2 RX8 := ⟨w_690, w_2, w_688, w_689, by decide +kernel⟩
theorem mf_X8_faultAnswer : xMV yX8_faultAnswer cX8_faultAnswer 1 (some .int) 0 RX8 := ⟨w_658, w_2, w_656, w_657, by decide +kernel⟩
theorem mf_X8_copyFrom : xMV yX8_copyFrom cX8_copyFrom 2 none 1 RX8 := ⟨w_1093, w_2, w_1091, w_1092, by decide +kernel⟩
theorem mf_X9_init : xMN yX9_init cX9_init 1 0 := ⟨w_60, w_3, w_59, rfl, by decide +kernel⟩
theorem mf_X9_copyFrom : xMV yX9_copyFrom cX9_copyFrom 2 none 1 RX9 := ⟨w_791, w_3, w_789, w_790, by decide +kernel⟩
theorem mf_X9_passDays : xMV yX9_passDays cX9_passDays 4 none 2 RX9 := ⟨w_821, w_3, w_819, w_820, by decide +kernel⟩
theorem mf_X9_passDay : xMV yX9_passDay cX9_passDay 3 (some .boolean) 1 RX9 := ⟨w_825, w_3, w_823, w_824, by decide +kernel⟩
theorem mf_X9_canLayFor : xMV yX9_canLayFor cX9_canLayFor 2 (some .boolean) 1 RX9 := ⟨w_1067, w_3, w_1065, w_1066, by decide +kernel⟩
theorem mf_X9_draw : xMV yX9_draw cX9_draw 1 (some .int) 0 RX9 := ⟨w_834, w_3, w_833, gT_sel (q := (yX9_draw, 10)) 11 (by decide +kernel), by decide +kernel⟩
theorem mf_X9_strikeOrLay : xMV yX9_strikeOrLay cX9_strikeOrLay 5 none 2 RX9 := ⟨w_830, w_3, w_829, gT_sel (q := (yX9_strikeOrLay, 10)) 10 (by decide +kernel), by decide +kernel⟩
theorem mf_X9_mayGoBad : xMV yX9_mayGoBad cX9_mayGoBad 4 none 2 RX9 := ⟨w_848, w_3, w_847, gT_sel (q := (yX9_mayGoBad, 10)) 12 (by decide +kernel), by decide +kernel⟩
theorem mf_X9_breakEgg : xMV yX9_breakEgg cX9_breakEgg 2 none 1 RX9 := ⟨w_771, w_3, w_769, w_770, by decide +kernel⟩
theorem mf_X9_breakFor : xMV yX9_breakFor cX9_breakFor 4 none 3 RX9 := ⟨w_730, w_3, w_728, w_729, by decide +kernel⟩
theorem mf_X9_breakAllFor : xMV yX9_breakAllFor cX9_breakAllFor 5 none 3 RX9 := ⟨w_1061, w_3, w_1059, w_1060, by decide +kernel⟩
theorem mf_X9_give : xMV yX9_give cX9_give 3 none 2 RX9 := ⟨w_726, w_3, w_724, w_725, by decide +kernel⟩
theorem mf_X9_brood : xMV yX9_brood cX9_brood 4 none 2 RX9 := ⟨w_782, w_3, w_780, w_781, by decide +kernel⟩
theorem mf_X10_init : xMN yX10_init cX10_init 1 0 := ⟨w_166, w_7, w_165, rfl, by decide +kernel⟩
theorem mf_X10_isTold : xMV yX10_isTold cX10_isTold 2 (some .boolean) 1 RX10 := ⟨w_704, w_7, w_702, w_703, by decide +kernel⟩
theorem mf_X10_tell : xMV yX10_tell cX10_tell 5 none 4 RX10 := ⟨w_486, w_7, w_484, w_485, by decide +kernel⟩
theorem mf_X10_isDone : xMV yX10_isDone cX10_isDone 2 (some .boolean) 1 RX10 := ⟨w_709, w_7, w_707, w_708, by decide +kernel⟩
theorem mf_X10_isInTime : xMV yX10_isInTime cX10_isInTime 3 (some .boolean) 2 RX10 := ⟨w_898, w_7, w_896, w_897, by decide +kernel⟩
theorem mf_X10_add : xMV yX10_add cX10_add 4 none 3 RX10 := ⟨w_765, w_7, w_763, w_764, by decide +kernel⟩
theorem mf_X10_copyFrom : xMV yX10_copyFrom cX10_copyFrom 2 none 1 RX10 := ⟨w_812, w_7, w_810, w_811, by decide +kernel⟩
theorem mf_X11_init : xMN yX11_init cX11_init 1 0 := ⟨w_26, w_1, w_25, rfl, by decide +kernel⟩
theorem mf_X11_person : xMV yX11_person cX11_person 2 (some .boolean) 1 RX11 := ⟨w_446, w_1, w_444, w_445, by decide +kernel⟩
theorem mf_X11_hen : xMV yX11_hen cX11_hen 4 (some .boolean) 3 RX11 := ⟨w_461, w_1, w_459, w_460, by decide +kernel⟩
theorem mf_X11_fox : xMV yX11_fox cX11_fox 2 (some .boolean) 1 RX11 := ⟨w_473, w_1, w_471, w_472, by decide +kernel⟩
theorem mf_X11_work : xMV yX11_work cX11_work 5 (some .boolean) 4 RX11 := ⟨w_482, w_1, w_480, w_481, by decide +kernel⟩
theorem mf_X11_clean : xMV yX11_clean cX11_clean 1 (some .int) 0 RX11 := ⟨w_490, w_1, w_488, w_489, by decide +kernel⟩
theorem mf_X11_feed : xMV yX11_feed cX11_feed 6 (some .int) 5 RX11 := ⟨w_498, w_1, w_496, w_497, by decide +kernel⟩
theorem mf_X11_law : xMV yX11_law cX11_law 4 (some .int) 1 RX11 := ⟨w_506, w_1, w_504, w_505, by decide +kernel⟩
theorem mf_X11_acts : xMV yX11_acts cX11_acts 4 (some .int) 1 RX11 := ⟨w_663, w_1, w_661, w_662, by decide +kernel⟩
theorem mf_X11_judged : xMV yX11_judged cX11_judged 3 (some .int) 1 RX11 := ⟨w_787, w_1, w_785, w_786, by decide +kernel⟩
theorem mf_X11_readActs : xMV yX11_readActs cX11_readActs 3 (some .boolean) 1 RX11 := ⟨w_667, w_1, w_666, gT_sel (q := (yX11_readActs, 19)) 0 (by decide +kernel), by decide +kernel⟩
theorem mf_X11_days : xMV yX11_days cX11_days 2 (some .int) 1 RX11 := ⟨w_817, w_1, w_815, w_816, by decide +kernel⟩
theorem mf_X11_tried : xMV yX11_tried cX11_tried 3 (some .int) 2 RX11 := ⟨w_852, w_1, w_850, w_851, by decide +kernel⟩
theorem mf_X11_egg : xMV yX11_egg cX11_egg 3 (some .int) 2 RX11 := ⟨w_860, w_1, w_858, w_859, by decide +kernel⟩
theorem mf_X11_firstBadDay : xMV yX11_firstBadDay cX11_firstBadDay 3 (some .int) 1 RX11 := ⟨w_865, w_1, w_864, gT_sel (q := (yX11_firstBadDay, 19)) 13 (by decide +kernel), by decide +kernel⟩
theorem mf_X11_personIs : xMV yX11_personIs cX11_personIs 3 (some .int) 2 RX11 := ⟨w_870, w_1, w_868, w_869, by decide +kernel⟩
theorem mf_X11_workIs : xMV yX11_workIs cX11_workIs 3 (some .int) 2 RX11 := ⟨w_892, w_1, w_890, w_891, by decide +kernel⟩
theorem mf_X11_plan : xMV yX11_plan cX11_plan 8 (some .int) 3 RX11 := ⟨w_902, w_1, w_900, w_901, by decide +kernel⟩
theorem mf_X11_before : xMV yX11_before cX11_before 8 (some .int) 3 RX11 := ⟨w_957, w_1, w_955, w_956, by decide +kernel⟩
theorem mf_X11_mostMinutes : xMV yX11_mostMinutes cX11_mostMinutes 6 (some .int) 1 RX11 := ⟨w_962, w_1, w_961, gT_sel (q := (yX11_mostMinutes, 19)) 19 (by decide +kernel), by decide +kernel⟩
theorem mf_X11_takesRoom : xMV yX11_takesRoom cX11_takesRoom 3 (some .boolean) 1 RX11 := ⟨w_966, w_1, w_965, gT_sel (q := (yX11_takesRoom, 19)) 20 (by decide +kernel), by decide +kernel⟩
theorem mf_X11_flock : xMV yX11_flock cX11_flock 8 (some .int) 3 RX11 := ⟨w_970, w_1, w_968, w_969, by decide +kernel⟩
theorem mf_X11_bestHatch : xMV yX11_bestHatch cX11_bestHatch 6 (some .int) 1 RX11 := ⟨w_974, w_1, w_973, gT_sel (q := (yX11_bestHatch, 19)) 21 (by decide +kernel), by decide +kernel⟩
theorem mf_X11_rations : xMV yX11_rations cX11_rations 6 (some .int) 3 RX11 := ⟨w_978, w_1, w_976, w_977, by decide +kernel⟩
theorem mf_X11_share : xMV yX11_share cX11_share 8 (some .int) 4 RX11 := ⟨w_990, w_1, w_989, gT_sel (q := (yX11_share, 19)) 23 (by decide +kernel), by decide +kernel⟩
theorem mf_X11_tellEggs : xMV yX11_tellEggs cX11_tellEggs 6 (some .boolean) 2 RX11 := ⟨w_982, w_1, w_981, gT_sel (q := (yX11_tellEggs, 19)) 22 (by decide +kernel), by decide +kernel⟩
theorem mf_X11_hoards : xMV yX11_hoards cX11_hoards 7 (some .int) 2 RX11 := ⟨w_1000, w_1, w_998, w_999, by decide +kernel⟩
theorem mf_X11_isSteady : xMV yX11_isSteady cX11_isSteady 5 (some .boolean) 2 RX11 := ⟨w_1013, w_1, w_1012, gT_sel (q := (yX11_isSteady, 19)) 24 (by decide +kernel), by decide +kernel⟩
theorem mf_X11_yolks : xMV yX11_yolks cX11_yolks 6 (some .int) 3 RX11 := ⟨w_1017, w_1, w_1015, w_1016, by decide +kernel⟩
theorem mf_X11_thefts : xMV yX11_thefts cX11_thefts 7 (some .int) 1 RX11 := ⟨w_1036, w_1, w_1034, w_1035, by decide +kernel⟩
theorem mf_X11_baskets : xMV yX11_baskets cX11_baskets 5 (some .int) 3 RX11 := ⟨w_1045, w_1, w_1043, w_1044, by decide +kernel⟩
theorem mf_X11_latest : xMV yX11_latest cX11_latest 5 (some .int) 2 RX11 := ⟨w_1049, w_1, w_1047, w_1048, by decide +kernel⟩
theorem mf_X11_soonest : xMV yX11_soonest cX11_soonest 7 (some .int) 2 RX11 := ⟨w_1053, w_1, w_1051, w_1052, by decide +kernel⟩
theorem mf_X11_daysTillDone : xMV yX11_daysTillDone cX11_daysTillDone 5 (some .int) 3 RX11 := ⟨w_1057, w_1, w_1056, gT_sel (q := (yX11_daysTillDone, 19)) 26 (by decide +kernel), by decide +kernel⟩
theorem mf_X11_barter : xMV yX11_barter cX11_barter 13 (some .int) 5 RX11 := ⟨w_1073, w_1, w_1071, w_1072, by decide +kernel⟩
theorem mf_X11_isNearer : xMS yX11_isNearer cX11_isNearer 2 (some .boolean) 2 := ⟨w_1077, w_1, w_1076, by decide +kernel⟩
theorem mf_X11_seed : xMV yX11_seed cX11_seed 2 (some .boolean) 1 RX11 := ⟨w_1084, w_1, w_1082, w_1083, by decide +kernel⟩
theorem mf_X11_keep : xMV yX11_keep cX11_keep 1 (some .int) 0 RX11 := ⟨w_1089, w_1, w_1087, w_1088, by decide +kernel⟩
theorem mf_X11_undo : xMV yX11_undo cX11_undo 1 (some .boolean) 0 RX11 := ⟨w_1098, w_1, w_1096, w_1097, by decide +kernel⟩
theorem mf_X11_check : xMV yX11_check cX11_check 4 (some .int) 1 RX11 := ⟨w_1102, w_1, w_1100, w_1101, by decide +kernel⟩
theorem mf_X11_count : xMV yX11_count cX11_count 2 (some .int) 1 RX11 := ⟨w_1111, w_1, w_1109, w_1110, by decide +kernel⟩
theorem mf_X11_isWithin : xMS yX11_isWithin cX11_isWithin 3 (some .boolean) 3 := ⟨w_464, w_1, w_463, by decide +kernel⟩
theorem mf_X11_isIn : xMS yX11_isIn cX11_isIn 2 (some .boolean) 2 := ⟨w_457, w_1, w_456, by decide +kernel⟩
theorem mf_X11_isDigit : xMS yX11_isDigit cX11_isDigit 1 (some .boolean) 1 := ⟨w_627, w_1, w_626, by decide +kernel⟩
theorem mf_X12_init : xMN yX12_init cX12_init 1 0 := ⟨w_1116, w_12, w_1115, rfl, by decide +kernel⟩
theorem mf_X12_in : xMS yX12_in cX12_in 3 (some .boolean) 3 := ⟨w_1269, w_12, w_1268, by decide +kernel⟩
theorem mf_X12_min : xMS yX12_min cX12_min 2 (some .int) 2 := ⟨w_1481, w_12, w_1480, by decide +kernel⟩
theorem mf_X12_max : xMS yX12_max cX12_max 2 (some .int) 2 := ⟨w_1580, w_12, w_1579, by decide +kernel⟩
theorem mf_X12_has : xMS yX12_has cX12_has 2 (some .boolean) 2 := ⟨w_1276, w_12, w_1275, by decide +kernel⟩
theorem mf_X12_bits : xMS yX12_bits cX12_bits 3 (some .int) 1 := ⟨w_1561, w_12, w_1560, by decide +kernel⟩
theorem mf_X12_copies : xMS yX12_copies cX12_copies 3 none 2 := ⟨w_1492, w_12, w_1491, by decide +kernel⟩
theorem mf_X12_isPerson : xMV yX12_isPerson cX12_isPerson 2 (some .boolean) 1 RX12 := ⟨w_1273, w_12, w_1272, gT_sel (q := (yX12_isPerson, 48)) 27 (by decide +kernel), by decide +kernel⟩
theorem mf_X12_isHen : xMV yX12_isHen cX12_isHen 2 (some .boolean) 1 RX12 := ⟨w_1288, w_12, w_1287, gT_sel (q := (yX12_isHen, 48)) 28 (by decide +kernel), by decide +kernel⟩
theorem mf_X12_isWork : xMV yX12_isWork cX12_isWork 2 (some .boolean) 1 RX12 := ⟨w_1430, w_12, w_1429, gT_sel (q := (yX12_isWork, 48)) 56 (by decide +kernel), by decide +kernel⟩
theorem mf_X12_isEgg : xMV yX12_isEgg cX12_isEgg 2 (some .boolean) 1 RX12 := ⟨w_1442, w_12, w_1441, gT_sel (q := (yX12_isEgg, 48)) 59 (by decide +kernel), by decide +kernel⟩
theorem mf_X12_isWhole : xMV yX12_isWhole cX12_isWhole 2 (some .boolean) 1 RX12 := ⟨w_1438, w_12, w_1437, gT_sel (q := (yX12_isWhole, 48)) 58 (by decide +kernel), by decide +kernel⟩
theorem mf_X12_isDone : xMV yX12_isDone cX12_isDone 2 (some .boolean) 1 RX12 := ⟨w_1434, w_12, w_1433, gT_sel (q := (yX12_isDone, 48)) 57 (by decide +kernel), by decide +kernel⟩
theorem mf_X12_person : xMV yX12_person cX12_person 2 (some .boolean) 1 RX12 := ⟨w_1266, w_12, w_1264, w_1265, by decide +kernel⟩
theorem mf_X12_hen : xMV yX12_hen cX12_hen 4 (some .boolean) 3 RX12 := ⟨w_1280, w_12, w_1278, w_1279, by decide +kernel⟩
theorem mf_X12_fox : xMV yX12_fox cX12_fox 2 (some .boolean) 1 RX12 := ⟨w_1284, w_12, w_1282, w_1283, by decide +kernel⟩
theorem mf_X12_work : xMV yX12_work cX12_work 5 (some .boolean) 4 RX12 := ⟨w_1292, w_12, w_1290, w_1291, by decide +kernel⟩
theorem mf_X12_puts : xMV yX12_puts cX12_puts 3 none 2 RX12 := ⟨w_1300, w_12, w_1299, gT_sel (q := (yX12_puts, 48)) 29 (by decide +kernel), by decide +kernel⟩
theorem mf_X12_clean : xMV yX12_clean cX12_clean 3 (some .int) 0 RX12 := ⟨w_1296, w_12, w_1294, w_1295, by decide +kernel⟩
theorem mf_X12_types : xMV yX12_types cX12_types 3 none 1 RX12 := ⟨w_1308, w_12, w_1307, gT_sel (q := (yX12_types, 48)) 30 (by decide +kernel), by decide +kernel⟩
theorem mf_X12_feed : xMV yX12_feed cX12_feed 6 (some .int) 5 RX12 := ⟨w_1304, w_12, w_1302, w_1303, by decide +kernel⟩
theorem mf_X12_here : xMV yX12_here cX12_here 1 (some .int) 0 RX12 := ⟨w_1320, w_12, w_1319, gT_sel (q := (yX12_here, 48)) 32 (by decide +kernel), by decide +kernel⟩
theorem mf_X12_isDigit : xMV yX12_isDigit cX12_isDigit 1 (some .boolean) 0 RX12 := ⟨w_1344, w_12, w_1343, gT_sel (q := (yX12_isDigit, 48)) 37 (by decide +kernel), by decide +kernel⟩
theorem mf_X12_wrongAt : xMV yX12_wrongAt cX12_wrongAt 3 (some .boolean) 2 RX12 := ⟨w_1327, w_12, w_1326, gT_sel (q := (yX12_wrongAt, 48)) 33 (by decide +kernel), by decide +kernel⟩
theorem mf_X12_takes : xMV yX12_takes cX12_takes 2 (some .boolean) 1 RX12 := ⟨w_1394, w_12, w_1393, gT_sel (q := (yX12_takes, 48)) 48 (by decide +kernel), by decide +kernel⟩
theorem mf_X12_readsNumber : xMV yX12_readsNumber cX12_readsNumber 2 (some .boolean) 0 RX12 := ⟨w_1348, w_12, w_1347, gT_sel (q := (yX12_readsNumber, 48)) 38 (by decide +kernel), by decide +kernel⟩
theorem mf_X12_notes : xMV yX12_notes cX12_notes 3 none 2 RX12 := ⟨w_1352, w_12, w_1351, gT_sel (q := (yX12_notes, 48)) 39 (by decide +kernel), by decide +kernel⟩
theorem mf_X12_opens : xMV yX12_opens cX12_opens 2 (some .boolean) 1 RX12 := ⟨w_1339, w_12, w_1338, gT_sel (q := (yX12_opens, 48)) 36 (by decide +kernel), by decide +kernel⟩
theorem mf_X12_waitTop : xMV yX12_waitTop cX12_waitTop 1 (some .int) 0 RX12 := ⟨w_1366, w_12, w_1365, gT_sel (q := (yX12_waitTop, 48)) 41 (by decide +kernel), by decide +kernel⟩
theorem mf_X12_factOf : xMS yX12_factOf cX12_factOf 1 (some .int) 1 := ⟨w_1355, w_12, w_1354, by decide +kernel⟩
theorem mf_X12_sumSign : xMS yX12_sumSign cX12_sumSign 1 (some .int) 1 := ⟨w_1358, w_12, w_1357, by decide +kernel⟩
theorem mf_X12_closesSums : xMV yX12_closesSums cX12_closesSums 2 none 1 RX12 := ⟨w_1362, w_12, w_1361, gT_sel (q := (yX12_closesSums, 48)) 40 (by decide +kernel), by decide +kernel⟩
theorem mf_X12_readsFactor : xMV yX12_readsFactor cX12_readsFactor 2 (some .boolean) 0 RX12 := ⟨w_1335, w_12, w_1334, gT_sel (q := (yX12_readsFactor, 48)) 35 (by decide +kernel), by decide +kernel⟩
theorem mf_X12_hasOpenSum : xMV yX12_hasOpenSum cX12_hasOpenSum 3 (some .boolean) 1 RX12 := ⟨w_1370, w_12, w_1369, gT_sel (q := (yX12_hasOpenSum, 48)) 42 (by decide +kernel), by decide +kernel⟩
theorem mf_X12_readsSum : xMV yX12_readsSum cX12_readsSum 3 (some .boolean) 0 RX12 := ⟨w_1331, w_12, w_1330, gT_sel (q := (yX12_readsSum, 48)) 34 (by decide +kernel), by decide +kernel⟩
theorem mf_X12_endsPiece : xMV yX12_endsPiece cX12_endsPiece 1 none 0 RX12 := ⟨w_1382, w_12, w_1381, gT_sel (q := (yX12_endsPiece, 48)) 45 (by decide +kernel), by decide +kernel⟩
theorem mf_X12_lands : xMV yX12_lands cX12_lands 3 none 1 RX12 := ⟨w_1386, w_12, w_1385, gT_sel (q := (yX12_lands, 48)) 46 (by decide +kernel), by decide +kernel⟩
theorem mf_X12_jumps : xMV yX12_jumps cX12_jumps 2 none 1 RX12 := ⟨w_1390, w_12, w_1389, gT_sel (q := (yX12_jumps, 48)) 47 (by decide +kernel), by decide +kernel⟩
theorem mf_X12_readsCompared : xMV yX12_readsCompared cX12_readsCompared 2 (some .boolean) 0 RX12 := ⟨w_1378, w_12, w_1377, gT_sel (q := (yX12_readsCompared, 48)) 44 (by decide +kernel), by decide +kernel⟩
theorem mf_X12_readsCondition : xMV yX12_readsCondition cX12_readsCondition 1 (some .boolean) 0 RX12 := ⟨w_1374, w_12, w_1373, gT_sel (q := (yX12_readsCondition, 48)) 43 (by decide +kernel), by decide +kernel⟩
theorem mf_X12_isClause : xMS yX12_isClause cX12_isClause 1 (some .boolean) 1 := ⟨w_1323, w_12, w_1322, by decide +kernel⟩
theorem mf_X12_readsClause : xMV yX12_readsClause cX12_readsClause 2 (some .boolean) 0 RX12 := ⟨w_1316, w_12, w_1315, gT_sel (q := (yX12_readsClause, 48)) 31 (by decide +kernel), by decide +kernel⟩
theorem mf_X12_law : xMV yX12_law cX12_law 4 (some .int) 1 RX12 := ⟨w_1312, w_12, w_1310, w_1311, by decide +kernel⟩
theorem mf_X12_reckon : xMS yX12_reckon cX12_reckon 3 (some .int) 3 := ⟨w_1473, w_12, w_1472, by decide +kernel⟩
theorem mf_X12_comesTo : xMV yX12_comesTo cX12_comesTo 8 (some .int) 2 RX12 := ⟨w_1470, w_12, w_1469, gT_sel (q := (yX12_comesTo, 48)) 66 (by decide +kernel), by decide +kernel⟩
theorem mf_X12_byLaw : xMV yX12_byLaw cX12_byLaw 5 (some .int) 2 RX12 := ⟨w_1466, w_12, w_1465, gT_sel (q := (yX12_byLaw, 48)) 65 (by decide +kernel), by decide +kernel⟩
theorem mf_X12_feels : xMV yX12_feels cX12_feels 2 none 0 RX12 := ⟨w_1462, w_12, w_1461, gT_sel (q := (yX12_feels, 48)) 64 (by decide +kernel), by decide +kernel⟩
theorem mf_X12_feelsHen : xMV yX12_feelsHen cX12_feelsHen 3 none 2 RX12 := ⟨w_1513, w_12, w_1512, gT_sel (q := (yX12_feelsHen, 48)) 72 (by decide +kernel), by decide +kernel⟩
theorem mf_X12_feelsEgg : xMV yX12_feelsEgg cX12_feelsEgg 2 none 1 RX12 := ⟨w_1458, w_12, w_1457, gT_sel (q := (yX12_feelsEgg, 48)) 63 (by decide +kernel), by decide +kernel⟩
theorem mf_X12_badBehind : xMV yX12_badBehind cX12_badBehind 2 (some .int) 1 RX12 := ⟨w_1521, w_12, w_1520, gT_sel (q := (yX12_badBehind, 48)) 74 (by decide +kernel), by decide +kernel⟩
theorem mf_X12_badOn : xMV yX12_badOn cX12_badOn 3 (some .int) 1 RX12 := ⟨w_1537, w_12, w_1536, gT_sel (q := (yX12_badOn, 48)) 76 (by decide +kernel), by decide +kernel⟩
theorem mf_X12_worthFor : xMV yX12_worthFor cX12_worthFor 3 (some .int) 2 RX12 := ⟨w_1454, w_12, w_1453, gT_sel (q := (yX12_worthFor, 48)) 62 (by decide +kernel), by decide +kernel⟩
theorem mf_X12_isInHandful : xMV yX12_isInHandful cX12_isInHandful 4 (some .boolean) 2 RX12 := ⟨w_1418, w_12, w_1417, gT_sel (q := (yX12_isInHandful, 48)) 53 (by decide +kernel), by decide +kernel⟩
theorem mf_X12_readsEgg : xMV yX12_readsEgg cX12_readsEgg 3 (some .boolean) 1 RX12 := ⟨w_1414, w_12, w_1413, gT_sel (q := (yX12_readsEgg, 48)) 52 (by decide +kernel), by decide +kernel⟩
theorem mf_X12_readsEggs : xMV yX12_readsEggs cX12_readsEggs 2 (some .int) 0 RX12 := ⟨w_1410, w_12, w_1409, gT_sel (q := (yX12_readsEggs, 48)) 51 (by decide +kernel), by decide +kernel⟩
theorem mf_X12_readsLine : xMV yX12_readsLine cX12_readsLine 3 (some .boolean) 0 RX12 := ⟨w_1406, w_12, w_1405, gT_sel (q := (yX12_readsLine, 48)) 50 (by decide +kernel), by decide +kernel⟩
theorem mf_X12_readsLines : xMV yX12_readsLines cX12_readsLines 3 (some .boolean) 1 RX12 := ⟨w_1402, w_12, w_1401, gT_sel (q := (yX12_readsLines, 48)) 49 (by decide +kernel), by decide +kernel⟩
theorem mf_X12_canBe : xMV yX12_canBe cX12_canBe 5 (some .boolean) 1 RX12 := ⟨w_1426, w_12, w_1425, gT_sel (q := (yX12_canBe, 48)) 55 (by decide +kernel), by decide +kernel⟩
theorem mf_X12_gives : xMV yX12_gives cX12_gives 4 none 2 RX12 := ⟨w_1446, w_12, w_1445, gT_sel (q := (yX12_gives, 48)) 60 (by decide +kernel), by decide +kernel⟩
theorem mf_X12_breaks : xMV yX12_breaks cX12_breaks 3 none 1 RX12 := ⟨w_1477, w_12, w_1476, gT_sel (q := (yX12_breaks, 48)) 67 (by decide +kernel), by decide +kernel⟩
theorem mf_X12_worksBy : xMV yX12_worksBy cX12_worksBy 4 none 2 RX12 := ⟨w_1450, w_12, w_1449, gT_sel (q := (yX12_worksBy, 48)) 61 (by decide +kernel), by decide +kernel⟩
theorem mf_X12_broods : xMV yX12_broods cX12_broods 2 none 1 RX12 := ⟨w_1485, w_12, w_1484, gT_sel (q := (yX12_broods, 48)) 68 (by decide +kernel), by decide +kernel⟩
theorem mf_X12_does : xMV yX12_does cX12_does 3 (some .boolean) 1 RX12 := ⟨w_1422, w_12, w_1421, gT_sel (q := (yX12_does, 48)) 54 (by decide +kernel), by decide +kernel⟩
theorem mf_X12_acts : xMV yX12_acts cX12_acts 4 (some .int) 1 RX12 := ⟨w_1398, w_12, w_1396, w_1397, by decide +kernel⟩
theorem mf_X12_judged : xMV yX12_judged cX12_judged 3 (some .int) 1 RX12 := ⟨w_1489, w_12, w_1487, w_1488, by decide +kernel⟩
theorem mf_X12_draws : xMV yX12_draws cX12_draws 1 (some .int) 0 RX12 := ⟨w_1508, w_12, w_1507, gT_sel (q := (yX12_draws, 48)) 71 (by decide +kernel), by decide +kernel⟩
theorem mf_X12_lays : xMV yX12_lays cX12_lays 5 none 1 RX12 := ⟨w_1517, w_12, w_1516, gT_sel (q := (yX12_lays, 48)) 73 (by decide +kernel), by decide +kernel⟩
theorem mf_X12_dayGoes : xMV yX12_dayGoes cX12_dayGoes 3 none 0 RX12 := ⟨w_1504, w_12, w_1503, gT_sel (q := (yX12_dayGoes, 48)) 70 (by decide +kernel), by decide +kernel⟩
theorem mf_X12_daysGo : xMV yX12_daysGo cX12_daysGo 3 none 1 RX12 := ⟨w_1500, w_12, w_1499, gT_sel (q := (yX12_daysGo, 48)) 69 (by decide +kernel), by decide +kernel⟩
theorem mf_X12_days : xMV yX12_days cX12_days 2 (some .int) 1 RX12 := ⟨w_1496, w_12, w_1494, w_1495, by decide +kernel⟩
theorem mf_X12_howMany : xMV yX12_howMany cX12_howMany 4 (some .int) 1 RX12 := ⟨w_1529, w_12, w_1528, gT_sel (q := (yX12_howMany, 48)) 75 (by decide +kernel), by decide +kernel⟩
theorem mf_X12_tried : xMV yX12_tried cX12_tried 4 (some .int) 2 RX12 := ⟨w_1525, w_12, w_1523, w_1524, by decide +kernel⟩
theorem mf_X12_egg : xMV yX12_egg cX12_egg 3 (some .int) 2 RX12 := ⟨w_1533, w_12, w_1531, w_1532, by decide +kernel⟩
theorem mf_X12_eggsOf : xMV yX12_eggsOf cX12_eggsOf 5 (some .int) 2 RX12 := ⟨w_1546, w_12, w_1545, gT_sel (q := (yX12_eggsOf, 48)) 77 (by decide +kernel), by decide +kernel⟩
theorem mf_X12_hensOf : xMV yX12_hensOf cX12_hensOf 4 (some .int) 1 RX12 := ⟨w_1550, w_12, w_1549, gT_sel (q := (yX12_hensOf, 48)) 78 (by decide +kernel), by decide +kernel⟩
theorem mf_X12_personIs : xMV yX12_personIs cX12_personIs 3 (some .int) 2 RX12 := ⟨w_1542, w_12, w_1540, w_1541, by decide +kernel⟩
theorem mf_X12_workIs : xMV yX12_workIs cX12_workIs 3 (some .int) 2 RX12 := ⟨w_1554, w_12, w_1552, w_1553, by decide +kernel⟩
theorem mf_X12_laysOwn : xMV yX12_laysOwn cX12_laysOwn 4 none 2 RX12 := ⟨w_1565, w_12, w_1564, gT_sel (q := (yX12_laysOwn, 48)) 79 (by decide +kernel), by decide +kernel⟩
theorem mf_X12_laysSums : xMV yX12_laysSums cX12_laysSums 5 none 1 RX12 := ⟨w_1573, w_12, w_1572, gT_sel (q := (yX12_laysSums, 48)) 81 (by decide +kernel), by decide +kernel⟩
theorem mf_X12_planBy : xMV yX12_planBy cX12_planBy 6 (some .int) 3 RX12 := ⟨w_1577, w_12, w_1576, gT_sel (q := (yX12_planBy, 48)) 82 (by decide +kernel), by decide +kernel⟩
theorem mf_X12_laysPlan : xMV yX12_laysPlan cX12_laysPlan 6 none 1 RX12 := ⟨w_1569, w_12, w_1568, gT_sel (q := (yX12_laysPlan, 48)) 80 (by decide +kernel), by decide +kernel⟩
theorem mf_X12_planSet : xMV yX12_planSet cX12_planSet 5 (some .int) 1 RX12 := ⟨w_1584, w_12, w_1583, gT_sel (q := (yX12_planSet, 48)) 83 (by decide +kernel), by decide +kernel⟩
theorem mf_X12_plan : xMV yX12_plan cX12_plan 6 (some .int) 3 RX12 := ⟨w_1558, w_12, w_1556, w_1557, by decide +kernel⟩
theorem mf_X12_heaviest : xMV yX12_heaviest cX12_heaviest 5 (some .int) 2 RX12 := ⟨w_1592, w_12, w_1591, gT_sel (q := (yX12_heaviest, 48)) 84 (by decide +kernel), by decide +kernel⟩
theorem mf_X12_before : xMV yX12_before cX12_before 9 (some .int) 3 RX12 := ⟨w_1588, w_12, w_1586, w_1587, by decide +kernel⟩
theorem mf_X12_hoursBy : xMV yX12_hoursBy cX12_hoursBy 4 (some .int) 3 RX12 := ⟨w_1600, w_12, w_1599, gT_sel (q := (yX12_hoursBy, 48)) 85 (by decide +kernel), by decide +kernel⟩
theorem mf_X12_flock : xMV yX12_flock cX12_flock 9 (some .int) 3 RX12 := ⟨w_1596, w_12, w_1594, w_1595, by decide +kernel⟩
theorem mf_X12_leastOf : xMV yX12_leastOf cX12_leastOf 9 (some .int) 3 RX12 := ⟨w_1612, w_12, w_1611, gT_sel (q := (yX12_leastOf, 48)) 87 (by decide +kernel), by decide +kernel⟩
theorem mf_X12_areEggs : xMV yX12_areEggs cX12_areEggs 5 (some .boolean) 2 RX12 := ⟨w_1608, w_12, w_1607, gT_sel (q := (yX12_areEggs, 48)) 86 (by decide +kernel), by decide +kernel⟩
theorem mf_X12_rations : xMV yX12_rations cX12_rations 9 (some .int) 3 RX12 := ⟨w_1604, w_12, w_1602, w_1603, by decide +kernel⟩
theorem mf_X12_soldBy : xMV yX12_soldBy cX12_soldBy 2 (some .int) 1 RX12 := ⟨w_1624, w_12, w_1623, gT_sel (q := (yX12_soldBy, 48)) 89 (by decide +kernel), by decide +kernel⟩
theorem mf_X12_rests : xMV yX12_rests cX12_rests 6 (some .boolean) 2 RX12 := ⟨w_1620, w_12, w_1619, gT_sel (q := (yX12_rests, 48)) 88 (by decide +kernel), by decide +kernel⟩
theorem mf_X12_hoards : xMV yX12_hoards cX12_hoards 6 (some .int) 2 RX12 := ⟨w_1616, w_12, w_1614, w_1615, by decide +kernel⟩
theorem mf_X12_yolks : xMV yX12_yolks cX12_yolks 9 (some .int) 3 RX12 := ⟨w_1628, w_12, w_1626, w_1627, by decide +kernel⟩
theorem mf_X12_moreOf : xMV yX12_moreOf cX12_moreOf 2 (some .int) 1 RX12 := ⟨w_1636, w_12, w_1635, gT_sel (q := (yX12_moreOf, 48)) 90 (by decide +kernel), by decide +kernel⟩
theorem mf_X12_thefts : xMV yX12_thefts cX12_thefts 5 (some .int) 1 RX12 := ⟨w_1632, w_12, w_1630, w_1631, by decide +kernel⟩
theorem mf_X12_baskets : xMV yX12_baskets cX12_baskets 9 (some .int) 3 RX12 := ⟨w_1641, w_12, w_1639, w_1640, by decide +kernel⟩
theorem mf_X12_latest : xMV yX12_latest cX12_latest 5 (some .int) 2 RX12 := ⟨w_1645, w_12, w_1643, w_1644, by decide +kernel⟩
theorem mf_X12_worksAll : xMV yX12_worksAll cX12_worksAll 4 none 2 RX12 := ⟨w_1657, w_12, w_1656, gT_sel (q := (yX12_worksAll, 48)) 92 (by decide +kernel), by decide +kernel⟩
theorem mf_X12_daysFor : xMV yX12_daysFor cX12_daysFor 5 (some .int) 2 RX12 := ⟨w_1653, w_12, w_1652, gT_sel (q := (yX12_daysFor, 48)) 91 (by decide +kernel), by decide +kernel⟩
theorem mf_X12_soonest : xMV yX12_soonest cX12_soonest 6 (some .int) 2 RX12 := ⟨w_1649, w_12, w_1647, w_1648, by decide +kernel⟩
theorem mf_X12_apart : xMS yX12_apart cX12_apart 2 (some .int) 2 := ⟨w_1664, w_12, w_1663, by decide +kernel⟩
theorem mf_X12_barter : xMV yX12_barter cX12_barter 13 (some .int) 5 RX12 := ⟨w_1661, w_12, w_1659, w_1660, by decide +kernel⟩
theorem mf_X12_seed : xMV yX12_seed cX12_seed 2 (some .boolean) 1 RX12 := ⟨w_1668, w_12, w_1666, w_1667, by decide +kernel⟩
theorem mf_X12_keep : xMV yX12_keep cX12_keep 1 (some .int) 0 RX12 := ⟨w_1673, w_12, w_1671, w_1672, by decide +kernel⟩
theorem mf_X12_undo : xMV yX12_undo cX12_undo 1 (some .boolean) 0 RX12 := ⟨w_1677, w_12, w_1675, w_1676, by decide +kernel⟩
theorem mf_X12_tapeNumber : xMV yX12_tapeNumber cX12_tapeNumber 4 (some .int) 1 RX12 := ⟨w_1685, w_12, w_1684, gT_sel (q := (yX12_tapeNumber, 48)) 93 (by decide +kernel), by decide +kernel⟩
theorem mf_X12_check : xMV yX12_check cX12_check 3 (some .int) 1 RX12 := ⟨w_1681, w_12, w_1679, w_1680, by decide +kernel⟩
theorem mf_X12_count : xMV yX12_count cX12_count 2 (some .int) 1 RX12 := ⟨w_1689, w_12, w_1687, w_1688, by decide +kernel⟩
theorem mf_J6_bitCount_0f7a4 : xMS yJ6_bitCount_0f7a4 cJ6_bitCount_0f7a4 1 (some .int) 1 := ⟨w_905, w_21, w_904, by decide +kernel⟩
