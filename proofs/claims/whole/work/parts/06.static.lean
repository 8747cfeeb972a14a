/-! ===== static facts of the claim's classes, fields, methods, calls: by a program out of the tables ===== -/
theorem ab_in (ws : List Cond) (ps : List Nat) (hp : ws = ps.filterMap (fun i => lw_tbl[i]?)) (h : ws.all goodWord = true) : ∀ w ∈ ws, w ∈ ab_T := by
  intro w hw
  have h1 := List.all_eq_true.mp h w hw
  rw [hp] at hw
  obtain ⟨i, -, hi⟩ := List.mem_filterMap.mp hw
  exact ab_T_in hi h1
theorem ab_nest_in {i : Nat} {w : Cond} (h : lw_tbl[i]? = some w) (hg : ab_isN w = true) : w ∈ ab_nest := List.mem_filter.mpr ⟨List.mem_of_getElem? h, hg⟩
abbrev Y_X8_init : ab_Y := (yX8_init, cX8_init, 1, none)
abbrev Y_Jx4a65c_init_da8c8 : ab_Y := (yJx4a65c_init_da8c8, cJx4a65c_init_da8c8, 1, none)
abbrev Y_Jxc12de_init_da8c8 : ab_Y := (yJxc12de_init_da8c8, cJxc12de_init_da8c8, 1, none)
abbrev Y_Jxa1e45_init_da8c8 : ab_Y := (yJxa1e45_init_da8c8, cJxa1e45_init_da8c8, 1, none)
abbrev Y_X1_init : ab_Y := (yX1_init, cX1_init, 1, none)
abbrev Y_J7_fill_53178 : ab_Y := (yJ7_fill_53178, cJ7_fill_53178, 4, none)
abbrev Y_X6_init : ab_Y := (yX6_init, cX6_init, 1, none)
abbrev Y_X3_init : ab_Y := (yX3_init, cX3_init, 1, none)
abbrev Y_X8_fountain : ab_Y := (yX8_fountain, cX8_fountain, 3, (some .int))
abbrev Y_X8_outside : ab_Y := (yX8_outside, cX8_outside, 3, (some .boolean))
abbrev Y_Jx4a65c_isEmpty_aae02 : ab_Y := (yJx4a65c_isEmpty_aae02, cJx4a65c_isEmpty_aae02, 1, (some .boolean))
abbrev Y_Jx4a65c_size_8abf5 : ab_Y := (yJx4a65c_size_8abf5, cJx4a65c_size_8abf5, 1, (some .int))
abbrev Y_X2_init : ab_Y := (yX2_init, cX2_init, 3, none)
abbrev Y_Jx4a65c_add_9ea2d : ab_Y := (yJx4a65c_add_9ea2d, cJx4a65c_add_9ea2d, 2, (some .boolean))
abbrev Y_Jx4a65c_add_72be8 : ab_Y := (yJx4a65c_add_72be8, cJx4a65c_add_72be8, 4, none)
abbrev Y_Jx4a65c_grow_d5877 : ab_Y := (yJx4a65c_grow_d5877, cJx4a65c_grow_d5877, 1, (some (.array (.object "java/lang/Object"))))
abbrev Y_Jx4a65c_grow_92f84 : ab_Y := (yJx4a65c_grow_92f84, cJx4a65c_grow_92f84, 4, (some (.array (.object "java/lang/Object"))))
abbrev Y_J8_newLength_cabcc : ab_Y := (yJ8_newLength_cabcc, cJ8_newLength_cabcc, 4, (some .int))
abbrev Y_J9_max_7cf53 : ab_Y := (yJ9_max_7cf53, cJ9_max_7cf53, 2, (some .int))
abbrev Y_J8_hugeLength_7cf53 : ab_Y := (yJ8_hugeLength_7cf53, cJ8_hugeLength_7cf53, 3, (some .int))
abbrev Y_J7_copyOf_1904c : ab_Y := (yJ7_copyOf_1904c, cJ7_copyOf_1904c, 2, (some (.array (.object "java/lang/Object"))))
abbrev Y_J7_copyOf_6403c : ab_Y := (yJ7_copyOf_6403c, cJ7_copyOf_6403c, 4, (some (.array (.object "java/lang/Object"))))
abbrev Y_J9_min_7cf53 : ab_Y := (yJ9_min_7cf53, cJ9_min_7cf53, 2, (some .int))
abbrev Y_X8_jar : ab_Y := (yX8_jar, cX8_jar, 9, (some .int))
abbrev Y_X4_init : ab_Y := (yX4_init, cX4_init, 5, none)
abbrev Y_X8_drinks : ab_Y := (yX8_drinks, cX8_drinks, 5, (some .int))
abbrev Y_X8_jarAt : ab_Y := (yX8_jarAt, cX8_jarAt, 2, (some (.object "WaterMen$Jar")))
abbrev Y_Jx4a65c_get_915e3 : ab_Y := (yJx4a65c_get_915e3, cJx4a65c_get_915e3, 2, (some (.object "java/lang/Object")))
abbrev Y_J15_checkIndex_7cf53 : ab_Y := (yJ15_checkIndex_7cf53, cJ15_checkIndex_7cf53, 2, (some .int))
abbrev Y_J3_checkIndex_8e157 : ab_Y := (yJ3_checkIndex_8e157, cJ3_checkIndex_8e157, 3, (some .int))
abbrev Y_Jx4a65c_elementData_915e3 : ab_Y := (yJx4a65c_elementData_915e3, cJx4a65c_elementData_915e3, 2, (some (.object "java/lang/Object")))
abbrev Y_X8_man : ab_Y := (yX8_man, cX8_man, 9, (some .int))
abbrev Y_X8_fountainAt : ab_Y := (yX8_fountainAt, cX8_fountainAt, 2, (some (.object "WaterMen$Fountain")))
abbrev Y_X8_newMan : ab_Y := (yX8_newMan, cX8_newMan, 5, (some (.object "WaterMen$Man")))
abbrev Y_X0_init : ab_Y := (yX0_init, cX0_init, 5, none)
abbrev Y_X7_init : ab_Y := (yX7_init, cX7_init, 5, none)
abbrev Y_X5_init : ab_Y := (yX5_init, cX5_init, 5, none)
abbrev Y_X7_canGoTo : ab_Y := (yX7_canGoTo, cX7_canGoTo, 2, (some .boolean))
abbrev Y_X5_canGoTo : ab_Y := (yX5_canGoTo, cX5_canGoTo, 2, (some .boolean))
abbrev Y_X5_joinRow : ab_Y := (yX5_joinRow, cX5_joinRow, 1, none)
abbrev Y_X8_right : ab_Y := (yX8_right, cX8_right, 5, (some .int))
abbrev Y_X8_manAt : ab_Y := (yX8_manAt, cX8_manAt, 2, (some (.object "WaterMen$Man")))
abbrev Y_X8_pace : ab_Y := (yX8_pace, cX8_pace, 6, (some .int))
abbrev Y_X8_moves : ab_Y := (yX8_moves, cX8_moves, 7, (some .int))
abbrev Y_X5_leaveRow : ab_Y := (yX5_leaveRow, cX5_leaveRow, 3, none)
abbrev Y_Jx4a65c_remove_915e3 : ab_Y := (yJx4a65c_remove_915e3, cJx4a65c_remove_915e3, 4, (some (.object "java/lang/Object")))
abbrev Y_Jx4a65c_fastRemove_b59b0 : ab_Y := (yJx4a65c_fastRemove_b59b0, cJx4a65c_fastRemove_b59b0, 4, none)
abbrev Y_X8_open : ab_Y := (yX8_open, cX8_open, 5, (some .int))
abbrev Y_X8_drought : ab_Y := (yX8_drought, cX8_drought, 3, (some .int))
abbrev Y_X8_type : ab_Y := (yX8_type, cX8_type, 4, (some .int))
abbrev Y_X1_append : ab_Y := (yX1_append, cX1_append, 5, (some .int))
abbrev Y_X1_byteOf : ab_Y := (yX1_byteOf, cX1_byteOf, 3, (some .int))
abbrev Y_X8_fares : ab_Y := (yX8_fares, cX8_fares, 1, (some .int))
abbrev Y_X1_takeTape : ab_Y := (yX1_takeTape, cX1_takeTape, 3, (some .int))
abbrev Y_X1_readClauses : ab_Y := (yX1_readClauses, cX1_readClauses, 2, (some .int))
abbrev Y_X1_readClause : ab_Y := (yX1_readClause, cX1_readClause, 5, (some .boolean))
abbrev Y_X1_readNumber : ab_Y := (yX1_readNumber, cX1_readNumber, 5, (some .int))
abbrev Y_X1_skipBlanks : ab_Y := (yX1_skipBlanks, cX1_skipBlanks, 1, none)
abbrev Y_X1_readSign : ab_Y := (yX1_readSign, cX1_readSign, 2, (some .boolean))
abbrev Y_X1_isAtEnd : ab_Y := (yX1_isAtEnd, cX1_isAtEnd, 1, (some .boolean))
abbrev Y_X1_useDraft : ab_Y := (yX1_useDraft, cX1_useDraft, 2, none)
abbrev Y_X8_fare : ab_Y := (yX8_fare, cX8_fare, 2, (some .int))
abbrev Y_X1_priceOf : ab_Y := (yX1_priceOf, cX1_priceOf, 2, (some .int))
abbrev Y_X8_run : ab_Y := (yX8_run, cX8_run, 3, (some .int))
abbrev Y_X8_passMinute : ab_Y := (yX8_passMinute, cX8_passMinute, 2, none)
abbrev Y_X8_letFlow : ab_Y := (yX8_letFlow, cX8_letFlow, 4, none)
abbrev Y_X8_fillNext : ab_Y := (yX8_fillNext, cX8_fillNext, 4, none)
abbrev Y_X2_nextToFill : ab_Y := (yX2_nextToFill, cX2_nextToFill, 4, (some (.object "WaterMen$Man")))
abbrev Y_X5_goUp : ab_Y := (yX5_goUp, cX5_goUp, 2, none)
abbrev Y_X5_wayUp : ab_Y := (yX5_wayUp, cX5_wayUp, 2, (some .int))
abbrev Y_X5_wayDown : ab_Y := (yX5_wayDown, cX5_wayDown, 2, (some .int))
abbrev Y_X4_minutesFrom : ab_Y := (yX4_minutesFrom, cX4_minutesFrom, 3, (some .int))
abbrev Y_X0_walkTime : ab_Y := (yX0_walkTime, cX0_walkTime, 2, (some .int))
abbrev Y_X8_cutUp : ab_Y := (yX8_cutUp, cX8_cutUp, 2, (some .int))
abbrev Y_X5_walkTime : ab_Y := (yX5_walkTime, cX5_walkTime, 2, (some .int))
abbrev Y_X0_climbTime : ab_Y := (yX0_climbTime, cX0_climbTime, 2, (some .int))
abbrev Y_X7_climbTime : ab_Y := (yX7_climbTime, cX7_climbTime, 2, (some .int))
abbrev Y_X5_climbTime : ab_Y := (yX5_climbTime, cX5_climbTime, 2, (some .int))
abbrev Y_X8_walk : ab_Y := (yX8_walk, cX8_walk, 2, none)
abbrev Y_X8_pour : ab_Y := (yX8_pour, cX8_pour, 5, none)
abbrev Y_X6_keep : ab_Y := (yX6_keep, cX6_keep, 5, none)
abbrev Y_X5_goDown : ab_Y := (yX5_goDown, cX5_goDown, 1, none)
abbrev Y_X4_drinkOnce : ab_Y := (yX4_drinkOnce, cX4_drinkOnce, 2, (some .int))
abbrev Y_X8_told : ab_Y := (yX8_told, cX8_told, 4, (some .int))
abbrev Y_X2_countAhead : ab_Y := (yX2_countAhead, cX2_countAhead, 6, (some .int))
abbrev Y_X0_kind : ab_Y := (yX0_kind, cX0_kind, 1, (some .int))
abbrev Y_X7_kind : ab_Y := (yX7_kind, cX7_kind, 1, (some .int))
abbrev Y_X5_kind : ab_Y := (yX5_kind, cX5_kind, 1, (some .int))
abbrev Y_X8_water : ab_Y := (yX8_water, cX8_water, 4, (some .int))
abbrev Y_X8_sum : ab_Y := (yX8_sum, cX8_sum, 2, (some .long))
abbrev Y_X8_fire : ab_Y := (yX8_fire, cX8_fire, 7, (some .int))
abbrev Y_X8_poured : ab_Y := (yX8_poured, cX8_poured, 3, (some .int))
abbrev Y_X6_fact : ab_Y := (yX6_fact, cX6_fact, 4, (some .int))
abbrev Y_J9_floorMod_7cf53 : ab_Y := (yJ9_floorMod_7cf53, cJ9_floorMod_7cf53, 3, (some .int))
abbrev Y_X8_foul : ab_Y := (yX8_foul, cX8_foul, 3, (some .int))
abbrev Y_X6_jarsFouledBy : ab_Y := (yX6_jarsFouledBy, cX6_jarsFouledBy, 5, (some .int))
abbrev Y_X8_give : ab_Y := (yX8_give, cX8_give, 6, (some .int))
abbrev Y_X5_toilFor : ab_Y := (yX5_toilFor, cX5_toilFor, 2, (some .int))
abbrev Y_X3_setToil : ab_Y := (yX3_setToil, cX3_setToil, 4, none)
abbrev Y_X3_findLeast : ab_Y := (yX3_findLeast, cX3_findLeast, 6, (some .int))
abbrev Y_X3_toilWith : ab_Y := (yX3_toilWith, cX3_toilWith, 5, (some .int))
abbrev Y_J6_bitCount_0f7a4 : ab_Y := (yJ6_bitCount_0f7a4, cJ6_bitCount_0f7a4, 1, (some .int))
abbrev Y_X3_settle : ab_Y := (yX3_settle, cX3_settle, 7, none)
abbrev Y_X3_firstBest : ab_Y := (yX3_firstBest, cX3_firstBest, 5, (some .int))
abbrev Y_X8_given : ab_Y := (yX8_given, cX8_given, 2, (some .int))
abbrev Y_X3_jarOf : ab_Y := (yX3_jarOf, cX3_jarOf, 2, (some .int))
abbrev Y_X8_count : ab_Y := (yX8_count, cX8_count, 2, (some .int))
abbrev Y_X8_countDoing : ab_Y := (yX8_countDoing, cX8_countDoing, 4, (some .int))
abbrev Y_X9_init : ab_Y := (yX9_init, cX9_init, 2, none)
abbrev Y_X9_fountain : ab_Y := (yX9_fountain, cX9_fountain, 2, (some .int))
abbrev Y_X9_in : ab_Y := (yX9_in, cX9_in, 3, (some .boolean))
abbrev Y_X9_jar : ab_Y := (yX9_jar, cX9_jar, 7, (some .int))
abbrev Y_X9_isMinutes : ab_Y := (yX9_isMinutes, cX9_isMinutes, 3, (some .boolean))
abbrev Y_X9_drinks : ab_Y := (yX9_drinks, cX9_drinks, 4, (some .int))
abbrev Y_X9_isJar : ab_Y := (yX9_isJar, cX9_isJar, 2, (some .boolean))
abbrev Y_X9_man : ab_Y := (yX9_man, cX9_man, 5, (some .int))
abbrev Y_X9_isFountain : ab_Y := (yX9_isFountain, cX9_isFountain, 2, (some .boolean))
abbrev Y_X9_canGo : ab_Y := (yX9_canGo, cX9_canGo, 3, (some .boolean))
abbrev Y_X9_joinRow : ab_Y := (yX9_joinRow, cX9_joinRow, 2, none)
abbrev Y_X9_right : ab_Y := (yX9_right, cX9_right, 4, (some .int))
abbrev Y_X9_isMan : ab_Y := (yX9_isMan, cX9_isMan, 2, (some .boolean))
abbrev Y_X9_pace : ab_Y := (yX9_pace, cX9_pace, 4, (some .int))
abbrev Y_X9_moves : ab_Y := (yX9_moves, cX9_moves, 4, (some .int))
abbrev Y_X9_open : ab_Y := (yX9_open, cX9_open, 4, (some .int))
abbrev Y_X9_drought : ab_Y := (yX9_drought, cX9_drought, 3, (some .int))
abbrev Y_X9_type : ab_Y := (yX9_type, cX9_type, 5, (some .int))
abbrev Y_X9_fares : ab_Y := (yX9_fares, cX9_fares, 3, (some .int))
abbrev Y_X9_readFares : ab_Y := (yX9_readFares, cX9_readFares, 4, (some .int))
abbrev Y_X9_readClause : ab_Y := (yX9_readClause, cX9_readClause, 5, (some .boolean))
abbrev Y_X9_number : ab_Y := (yX9_number, cX9_number, 6, (some .int))
abbrev Y_X9_next : ab_Y := (yX9_next, cX9_next, 1, (some .int))
abbrev Y_X9_fare : ab_Y := (yX9_fare, cX9_fare, 2, (some .int))
abbrev Y_X9_run : ab_Y := (yX9_run, cX9_run, 3, (some .int))
abbrev Y_X9_minute : ab_Y := (yX9_minute, cX9_minute, 3, none)
abbrev Y_X9_flow : ab_Y := (yX9_flow, cX9_flow, 4, none)
abbrev Y_X9_fill : ab_Y := (yX9_fill, cX9_fill, 5, none)
abbrev Y_X9_isAhead : ab_Y := (yX9_isAhead, cX9_isAhead, 3, (some .boolean))
abbrev Y_X9_least : ab_Y := (yX9_least, cX9_least, 2, (some .int))
abbrev Y_X9_wayOf : ab_Y := (yX9_wayOf, cX9_wayOf, 5, (some .int))
abbrev Y_X9_pour : ab_Y := (yX9_pour, cX9_pour, 4, none)
abbrev Y_X9_keep : ab_Y := (yX9_keep, cX9_keep, 5, none)
abbrev Y_X9_goDown : ab_Y := (yX9_goDown, cX9_goDown, 2, none)
abbrev Y_X9_told : ab_Y := (yX9_told, cX9_told, 5, (some .int))
abbrev Y_X9_water : ab_Y := (yX9_water, cX9_water, 3, (some .int))
abbrev Y_X9_sum : ab_Y := (yX9_sum, cX9_sum, 2, (some .long))
abbrev Y_X9_fire : ab_Y := (yX9_fire, cX9_fire, 5, (some .int))
abbrev Y_X9_poured : ab_Y := (yX9_poured, cX9_poured, 3, (some .int))
abbrev Y_X9_foul : ab_Y := (yX9_foul, cX9_foul, 5, (some .int))
abbrev Y_X9_give : ab_Y := (yX9_give, cX9_give, 10, (some .int))
abbrev Y_X9_ones : ab_Y := (yX9_ones, cX9_ones, 3, (some .int))
abbrev Y_X9_given : ab_Y := (yX9_given, cX9_given, 2, (some .int))
abbrev Y_X9_count : ab_Y := (yX9_count, cX9_count, 4, (some .int))
theorem cl_0 : ab_cl 0 RJx4a65c TJx4a65c 3 tyJx4a65c := ⟨rfl, ab_in _ [92, 88, 90] (by decide +kernel) (by decide +kernel), tyJx4a65c_ok, nmJx4a65c⟩
theorem cl_1 : ab_cl 1 RX0 TX0 13 tyX0 := ⟨rfl, ab_in _ [408, 410, 412, 414, 416, 418, 420, 422, 424, 426, 428, 430, 406] (by decide +kernel) (by decide +kernel), tyX0_ok, nmX0⟩
theorem cl_2 : ab_cl 2 RX1 TX1 5 tyX1 := ⟨rfl, ab_in _ [109, 111, 113, 115, 117] (by decide +kernel) (by decide +kernel), tyX1_ok, nmX1⟩
theorem cl_3 : ab_cl 3 RX2 TX2 6 tyX2 := ⟨rfl, ab_in _ [220, 222, 224, 226, 228, 230] (by decide +kernel) (by decide +kernel), tyX2_ok, nmX2⟩
theorem cl_4 : ab_cl 4 RX3 TX3 3 tyX3 := ⟨rfl, ab_in _ [148, 150, 152] (by decide +kernel) (by decide +kernel), tyX3_ok, nmX3⟩
theorem cl_5 : ab_cl 5 RX4 TX4 7 tyX4 := ⟨rfl, ab_in _ [316, 318, 320, 322, 324, 326, 328] (by decide +kernel) (by decide +kernel), tyX4_ok, nmX4⟩
theorem cl_6 : ab_cl 6 RX5 TX5 12 tyX5 := ⟨rfl, ab_in _ [452, 453, 454, 455, 456, 457, 458, 459, 460, 461, 462, 463] (by decide +kernel) (by decide +kernel), tyX5_ok, nmX5⟩
theorem cl_7 : ab_cl 7 RX6 TX6 3 tyX6 := ⟨rfl, ab_in _ [131, 133, 135] (by decide +kernel) (by decide +kernel), tyX6_ok, nmX6⟩
theorem cl_8 : ab_cl 8 RX7 TX7 12 tyX7 := ⟨rfl, ab_in _ [436, 437, 438, 439, 440, 441, 442, 443, 444, 445, 446, 447] (by decide +kernel) (by decide +kernel), tyX7_ok, nmX7⟩
theorem cl_9 : ab_cl 9 RX8 TX8 9 tyX8 := ⟨rfl, ab_in _ [164, 166, 168, 170, 172, 174, 176, 178, 180] (by decide +kernel) (by decide +kernel), tyX8_ok, nmX8⟩
theorem cl_10 : ab_cl 10 RX9 TX9 41 tyX9 := ⟨rfl, ab_in _ [836, 838, 840, 842, 844, 846, 848, 850, 852, 854, 856, 858, 860, 862, 864, 866, 868, 870, 872, 874, 876, 878, 880, 882, 884, 886, 888, 890, 892, 894, 896, 898, 900, 902, 904, 906, 908, 910, 912, 914, 916] (by decide +kernel) (by decide +kernel), tyX9_ok, nmX9⟩
theorem tw_83 : Cond.fieldLink RJx4a65c 9 "java/util/ArrayList" "elementData" "[Ljava/lang/Object;" ∈ ab_T := ab_T_in (i := 83) (by decide +kernel) (by decide +kernel)
theorem fg_Jx4a65c_9_0 : ab_fg RJx4a65c 9 0 1 := ⟨RJx4a65c, TJx4a65c, 3, tyJx4a65c, "java/util/ArrayList", cl_0, by decide, tw_83, Or.inl rfl⟩
theorem fl_Jx4a65c_9_0 : ab_fl RJx4a65c 9 0 1 (.array (.object "java/lang/Object")) false := ⟨RJx4a65c, TJx4a65c, 3, tyJx4a65c, "java/util/ArrayList", cl_0, by decide, by decide +kernel, rfl, (fun h => by cases h), tw_83, Or.inl rfl⟩
theorem tw_84 : Cond.fieldLink RJx4a65c 48 "java/util/ArrayList" "size" "I" ∈ ab_T := ab_T_in (i := 84) (by decide +kernel) (by decide +kernel)
theorem fg_Jx4a65c_48_0 : ab_fg RJx4a65c 48 0 2 := ⟨RJx4a65c, TJx4a65c, 3, tyJx4a65c, "java/util/ArrayList", cl_0, by decide, tw_84, Or.inl rfl⟩
theorem fl_Jx4a65c_48_0 : ab_fl RJx4a65c 48 0 2 (.int) false := ⟨RJx4a65c, TJx4a65c, 3, tyJx4a65c, "java/util/ArrayList", cl_0, by decide, by decide +kernel, rfl, (fun h => by cases h), tw_84, Or.inl rfl⟩
theorem tw_85 : Cond.fieldLink RJxc12de 7 "java/util/AbstractList" "modCount" "I" ∈ ab_T := ab_T_in (i := 85) (by decide +kernel) (by decide +kernel)
theorem fg_Jxc12de_7_0 : ab_fg RJxc12de 7 0 0 := ⟨RJx4a65c, TJx4a65c, 3, tyJx4a65c, "java/util/AbstractList", cl_0, by decide, tw_85, Or.inl rfl⟩
theorem fl_Jxc12de_7_0 : ab_fl RJxc12de 7 0 0 (.int) false := ⟨RJx4a65c, TJx4a65c, 3, tyJx4a65c, "java/util/AbstractList", cl_0, by decide, by decide +kernel, rfl, (fun h => by cases h), tw_85, Or.inl rfl⟩
theorem tw_86 : Cond.fieldLink RJx4a65c 63 "java/util/ArrayList" "modCount" "I" ∈ ab_T := ab_T_in (i := 86) (by decide +kernel) (by decide +kernel)
theorem fg_Jx4a65c_63_0 : ab_fg RJx4a65c 63 0 0 := ⟨RJx4a65c, TJx4a65c, 3, tyJx4a65c, "java/util/ArrayList", cl_0, by decide, tw_86, Or.inr (ab_T_in (i := 87) (by decide +kernel) (by decide +kernel))⟩
theorem fl_Jx4a65c_63_0 : ab_fl RJx4a65c 63 0 0 (.int) false := ⟨RJx4a65c, TJx4a65c, 3, tyJx4a65c, "java/util/ArrayList", cl_0, by decide, by decide +kernel, rfl, (fun h => by cases h), tw_86, Or.inr (ab_T_in (i := 87) (by decide +kernel) (by decide +kernel))⟩
theorem tw_104 : Cond.fieldLink RX1 11 "WaterMen$Fares" "tape" "[I" ∈ ab_T := ab_T_in (i := 104) (by decide +kernel) (by decide +kernel)
theorem fg_X1_11_2 : ab_fg RX1 11 2 0 := ⟨RX1, TX1, 5, tyX1, "WaterMen$Fares", cl_2, by decide, tw_104, Or.inl rfl⟩
theorem fl_X1_11_2 : ab_fl RX1 11 2 0 (.array .int) true := ⟨RX1, TX1, 5, tyX1, "WaterMen$Fares", cl_2, by decide, by decide +kernel, rfl, fun _ => rfl, tw_104, Or.inl rfl⟩
theorem tw_105 : Cond.fieldLink RX1 15 "WaterMen$Fares" "prices" "[I" ∈ ab_T := ab_T_in (i := 105) (by decide +kernel) (by decide +kernel)
theorem fg_X1_15_2 : ab_fg RX1 15 2 1 := ⟨RX1, TX1, 5, tyX1, "WaterMen$Fares", cl_2, by decide, tw_105, Or.inl rfl⟩
theorem fl_X1_15_2 : ab_fl RX1 15 2 1 (.array .int) false := ⟨RX1, TX1, 5, tyX1, "WaterMen$Fares", cl_2, by decide, by decide +kernel, rfl, (fun h => by cases h), tw_105, Or.inl rfl⟩
theorem tw_106 : Cond.fieldLink RX1 18 "WaterMen$Fares" "draft" "[I" ∈ ab_T := ab_T_in (i := 106) (by decide +kernel) (by decide +kernel)
theorem fg_X1_18_2 : ab_fg RX1 18 2 2 := ⟨RX1, TX1, 5, tyX1, "WaterMen$Fares", cl_2, by decide, tw_106, Or.inl rfl⟩
theorem fl_X1_18_2 : ab_fl RX1 18 2 2 (.array .int) false := ⟨RX1, TX1, 5, tyX1, "WaterMen$Fares", cl_2, by decide, by decide +kernel, rfl, (fun h => by cases h), tw_106, Or.inl rfl⟩
theorem tw_107 : Cond.fieldLink RX1 21 "WaterMen$Fares" "length" "I" ∈ ab_T := ab_T_in (i := 107) (by decide +kernel) (by decide +kernel)
theorem fg_X1_21_2 : ab_fg RX1 21 2 3 := ⟨RX1, TX1, 5, tyX1, "WaterMen$Fares", cl_2, by decide, tw_107, Or.inl rfl⟩
theorem fl_X1_21_2 : ab_fl RX1 21 2 3 (.int) false := ⟨RX1, TX1, 5, tyX1, "WaterMen$Fares", cl_2, by decide, by decide +kernel, rfl, (fun h => by cases h), tw_107, Or.inl rfl⟩
theorem tw_108 : Cond.fieldLink RX1 25 "WaterMen$Fares" "place" "I" ∈ ab_T := ab_T_in (i := 108) (by decide +kernel) (by decide +kernel)
theorem fg_X1_25_2 : ab_fg RX1 25 2 4 := ⟨RX1, TX1, 5, tyX1, "WaterMen$Fares", cl_2, by decide, tw_108, Or.inl rfl⟩
theorem fl_X1_25_2 : ab_fl RX1 25 2 4 (.int) false := ⟨RX1, TX1, 5, tyX1, "WaterMen$Fares", cl_2, by decide, by decide +kernel, rfl, (fun h => by cases h), tw_108, Or.inl rfl⟩
theorem tw_127 : Cond.fieldLink RX6 11 "WaterMen$Pourings" "facts" "[I" ∈ ab_T := ab_T_in (i := 127) (by decide +kernel) (by decide +kernel)
theorem fg_X6_11_7 : ab_fg RX6 11 7 0 := ⟨RX6, TX6, 3, tyX6, "WaterMen$Pourings", cl_7, by decide, tw_127, Or.inl rfl⟩
theorem fl_X6_11_7 : ab_fl RX6 11 7 0 (.array .int) true := ⟨RX6, TX6, 3, tyX6, "WaterMen$Pourings", cl_7, by decide, by decide +kernel, rfl, fun _ => rfl, tw_127, Or.inl rfl⟩
theorem tw_128 : Cond.fieldLink RX6 15 "WaterMen$Pourings" "next" "I" ∈ ab_T := ab_T_in (i := 128) (by decide +kernel) (by decide +kernel)
theorem fg_X6_15_7 : ab_fg RX6 15 7 1 := ⟨RX6, TX6, 3, tyX6, "WaterMen$Pourings", cl_7, by decide, tw_128, Or.inl rfl⟩
theorem fl_X6_15_7 : ab_fl RX6 15 7 1 (.int) false := ⟨RX6, TX6, 3, tyX6, "WaterMen$Pourings", cl_7, by decide, by decide +kernel, rfl, (fun h => by cases h), tw_128, Or.inl rfl⟩
theorem tw_129 : Cond.fieldLink RX6 19 "WaterMen$Pourings" "kept" "I" ∈ ab_T := ab_T_in (i := 129) (by decide +kernel) (by decide +kernel)
theorem fg_X6_19_7 : ab_fg RX6 19 7 2 := ⟨RX6, TX6, 3, tyX6, "WaterMen$Pourings", cl_7, by decide, tw_129, Or.inl rfl⟩
theorem fl_X6_19_7 : ab_fl RX6 19 7 2 (.int) false := ⟨RX6, TX6, 3, tyX6, "WaterMen$Pourings", cl_7, by decide, by decide +kernel, rfl, (fun h => by cases h), tw_129, Or.inl rfl⟩
theorem tw_130 : Cond.fieldLink RX8 194 "WaterMen$Pourings" "kept" "I" ∈ ab_T := ab_T_in (i := 130) (by decide +kernel) (by decide +kernel)
theorem fg_X8_194_7 : ab_fg RX8 194 7 2 := ⟨RX6, TX6, 3, tyX6, "WaterMen$Pourings", cl_7, by decide, tw_130, Or.inl rfl⟩
theorem fl_X8_194_7 : ab_fl RX8 194 7 2 (.int) false := ⟨RX6, TX6, 3, tyX6, "WaterMen$Pourings", cl_7, by decide, by decide +kernel, rfl, (fun h => by cases h), tw_130, Or.inl rfl⟩
theorem tw_145 : Cond.fieldLink RX3 11 "WaterMen$Giving" "toils" "[I" ∈ ab_T := ab_T_in (i := 145) (by decide +kernel) (by decide +kernel)
theorem fg_X3_11_4 : ab_fg RX3 11 4 0 := ⟨RX3, TX3, 3, tyX3, "WaterMen$Giving", cl_4, by decide, tw_145, Or.inl rfl⟩
theorem fl_X3_11_4 : ab_fl RX3 11 4 0 (.array .int) true := ⟨RX3, TX3, 3, tyX3, "WaterMen$Giving", cl_4, by decide, by decide +kernel, rfl, fun _ => rfl, tw_145, Or.inl rfl⟩
theorem tw_146 : Cond.fieldLink RX3 15 "WaterMen$Giving" "least" "[I" ∈ ab_T := ab_T_in (i := 146) (by decide +kernel) (by decide +kernel)
theorem fg_X3_15_4 : ab_fg RX3 15 4 1 := ⟨RX3, TX3, 3, tyX3, "WaterMen$Giving", cl_4, by decide, tw_146, Or.inl rfl⟩
theorem fl_X3_15_4 : ab_fl RX3 15 4 1 (.array .int) true := ⟨RX3, TX3, 3, tyX3, "WaterMen$Giving", cl_4, by decide, by decide +kernel, rfl, fun _ => rfl, tw_146, Or.inl rfl⟩
theorem tw_147 : Cond.fieldLink RX3 18 "WaterMen$Giving" "jarsOfMen" "[I" ∈ ab_T := ab_T_in (i := 147) (by decide +kernel) (by decide +kernel)
theorem fg_X3_18_4 : ab_fg RX3 18 4 2 := ⟨RX3, TX3, 3, tyX3, "WaterMen$Giving", cl_4, by decide, tw_147, Or.inl rfl⟩
theorem fl_X3_18_4 : ab_fl RX3 18 4 2 (.array .int) true := ⟨RX3, TX3, 3, tyX3, "WaterMen$Giving", cl_4, by decide, by decide +kernel, rfl, fun _ => rfl, tw_147, Or.inl rfl⟩
theorem tw_155 : Cond.fieldLink RX8 10 "WaterMen" "fountains" "Ljava/util/ArrayList;" ∈ ab_T := ab_T_in (i := 155) (by decide +kernel) (by decide +kernel)
theorem fg_X8_10_9 : ab_fg RX8 10 9 0 := ⟨RX8, TX8, 9, tyX8, "WaterMen", cl_9, by decide, tw_155, Or.inl rfl⟩
theorem fl_X8_10_9 : ab_fl RX8 10 9 0 (.object "java/util/ArrayList") true := ⟨RX8, TX8, 9, tyX8, "WaterMen", cl_9, by decide, by decide +kernel, rfl, fun _ => rfl, tw_155, Or.inl rfl⟩
theorem tw_156 : Cond.fieldLink RX8 16 "WaterMen" "jars" "Ljava/util/ArrayList;" ∈ ab_T := ab_T_in (i := 156) (by decide +kernel) (by decide +kernel)
theorem fg_X8_16_9 : ab_fg RX8 16 9 1 := ⟨RX8, TX8, 9, tyX8, "WaterMen", cl_9, by decide, tw_156, Or.inl rfl⟩
theorem fl_X8_16_9 : ab_fl RX8 16 9 1 (.object "java/util/ArrayList") true := ⟨RX8, TX8, 9, tyX8, "WaterMen", cl_9, by decide, by decide +kernel, rfl, fun _ => rfl, tw_156, Or.inl rfl⟩
theorem tw_157 : Cond.fieldLink RX8 19 "WaterMen" "men" "Ljava/util/ArrayList;" ∈ ab_T := ab_T_in (i := 157) (by decide +kernel) (by decide +kernel)
theorem fg_X8_19_9 : ab_fg RX8 19 9 2 := ⟨RX8, TX8, 9, tyX8, "WaterMen", cl_9, by decide, tw_157, Or.inl rfl⟩
theorem fl_X8_19_9 : ab_fl RX8 19 9 2 (.object "java/util/ArrayList") true := ⟨RX8, TX8, 9, tyX8, "WaterMen", cl_9, by decide, by decide +kernel, rfl, fun _ => rfl, tw_157, Or.inl rfl⟩
theorem tw_158 : Cond.fieldLink RX8 25 "WaterMen" "prices" "LWaterMen$Fares;" ∈ ab_T := ab_T_in (i := 158) (by decide +kernel) (by decide +kernel)
theorem fg_X8_25_9 : ab_fg RX8 25 9 3 := ⟨RX8, TX8, 9, tyX8, "WaterMen", cl_9, by decide, tw_158, Or.inl rfl⟩
theorem fl_X8_25_9 : ab_fl RX8 25 9 3 (.object "WaterMen$Fares") true := ⟨RX8, TX8, 9, tyX8, "WaterMen", cl_9, by decide, by decide +kernel, rfl, fun _ => rfl, tw_158, Or.inl rfl⟩
theorem tw_159 : Cond.fieldLink RX8 32 "WaterMen" "pourings" "LWaterMen$Pourings;" ∈ ab_T := ab_T_in (i := 159) (by decide +kernel) (by decide +kernel)
theorem fg_X8_32_9 : ab_fg RX8 32 9 4 := ⟨RX8, TX8, 9, tyX8, "WaterMen", cl_9, by decide, tw_159, Or.inl rfl⟩
theorem fl_X8_32_9 : ab_fl RX8 32 9 4 (.object "WaterMen$Pourings") true := ⟨RX8, TX8, 9, tyX8, "WaterMen", cl_9, by decide, by decide +kernel, rfl, fun _ => rfl, tw_159, Or.inl rfl⟩
theorem tw_160 : Cond.fieldLink RX8 39 "WaterMen" "giving" "LWaterMen$Giving;" ∈ ab_T := ab_T_in (i := 160) (by decide +kernel) (by decide +kernel)
theorem fg_X8_39_9 : ab_fg RX8 39 9 5 := ⟨RX8, TX8, 9, tyX8, "WaterMen", cl_9, by decide, tw_160, Or.inl rfl⟩
theorem fl_X8_39_9 : ab_fl RX8 39 9 5 (.object "WaterMen$Giving") true := ⟨RX8, TX8, 9, tyX8, "WaterMen", cl_9, by decide, by decide +kernel, rfl, fun _ => rfl, tw_160, Or.inl rfl⟩
theorem tw_161 : Cond.fieldLink RX8 43 "WaterMen" "sums" "[J" ∈ ab_T := ab_T_in (i := 161) (by decide +kernel) (by decide +kernel)
theorem fg_X8_43_9 : ab_fg RX8 43 9 6 := ⟨RX8, TX8, 9, tyX8, "WaterMen", cl_9, by decide, tw_161, Or.inl rfl⟩
theorem fl_X8_43_9 : ab_fl RX8 43 9 6 (.array .long) true := ⟨RX8, TX8, 9, tyX8, "WaterMen", cl_9, by decide, by decide +kernel, rfl, fun _ => rfl, tw_161, Or.inl rfl⟩
theorem tw_162 : Cond.fieldLink RX8 47 "WaterMen" "time" "I" ∈ ab_T := ab_T_in (i := 162) (by decide +kernel) (by decide +kernel)
theorem fg_X8_47_9 : ab_fg RX8 47 9 7 := ⟨RX8, TX8, 9, tyX8, "WaterMen", cl_9, by decide, tw_162, Or.inl rfl⟩
theorem fl_X8_47_9 : ab_fl RX8 47 9 7 (.int) false := ⟨RX8, TX8, 9, tyX8, "WaterMen", cl_9, by decide, by decide +kernel, rfl, (fun h => by cases h), tw_162, Or.inl rfl⟩
theorem tw_163 : Cond.fieldLink RX8 51 "WaterMen" "hundredths" "I" ∈ ab_T := ab_T_in (i := 163) (by decide +kernel) (by decide +kernel)
theorem fg_X8_51_9 : ab_fg RX8 51 9 8 := ⟨RX8, TX8, 9, tyX8, "WaterMen", cl_9, by decide, tw_163, Or.inl rfl⟩
theorem fl_X8_51_9 : ab_fl RX8 51 9 8 (.int) false := ⟨RX8, TX8, 9, tyX8, "WaterMen", cl_9, by decide, by decide +kernel, rfl, (fun h => by cases h), tw_163, Or.inl rfl⟩
theorem tw_207 : Cond.fieldLink RX2 27 "WaterMen$Fountain" "number" "I" ∈ ab_T := ab_T_in (i := 207) (by decide +kernel) (by decide +kernel)
theorem fg_X2_27_3 : ab_fg RX2 27 3 0 := ⟨RX2, TX2, 6, tyX2, "WaterMen$Fountain", cl_3, by decide, tw_207, Or.inl rfl⟩
theorem fl_X2_27_3 : ab_fl RX2 27 3 0 (.int) true := ⟨RX2, TX2, 6, tyX2, "WaterMen$Fountain", cl_3, by decide, by decide +kernel, rfl, fun _ => rfl, tw_207, Or.inl rfl⟩
theorem tw_208 : Cond.fieldLink RX4 32 "WaterMen$Fountain" "number" "I" ∈ ab_T := ab_T_in (i := 208) (by decide +kernel) (by decide +kernel)
theorem fg_X4_32_3 : ab_fg RX4 32 3 0 := ⟨RX2, TX2, 6, tyX2, "WaterMen$Fountain", cl_3, by decide, tw_208, Or.inl rfl⟩
theorem tw_209 : Cond.fieldLink RX8 161 "WaterMen$Fountain" "number" "I" ∈ ab_T := ab_T_in (i := 209) (by decide +kernel) (by decide +kernel)
theorem fg_X8_161_3 : ab_fg RX8 161 3 0 := ⟨RX2, TX2, 6, tyX2, "WaterMen$Fountain", cl_3, by decide, tw_209, Or.inl rfl⟩
theorem tw_210 : Cond.fieldLink RX2 30 "WaterMen$Fountain" "flow" "I" ∈ ab_T := ab_T_in (i := 210) (by decide +kernel) (by decide +kernel)
theorem fg_X2_30_3 : ab_fg RX2 30 3 1 := ⟨RX2, TX2, 6, tyX2, "WaterMen$Fountain", cl_3, by decide, tw_210, Or.inl rfl⟩
theorem fl_X2_30_3 : ab_fl RX2 30 3 1 (.int) true := ⟨RX2, TX2, 6, tyX2, "WaterMen$Fountain", cl_3, by decide, by decide +kernel, rfl, fun _ => rfl, tw_210, Or.inl rfl⟩
theorem tw_211 : Cond.fieldLink RX8 244 "WaterMen$Fountain" "flow" "I" ∈ ab_T := ab_T_in (i := 211) (by decide +kernel) (by decide +kernel)
theorem fg_X8_244_3 : ab_fg RX8 244 3 1 := ⟨RX2, TX2, 6, tyX2, "WaterMen$Fountain", cl_3, by decide, tw_211, Or.inl rfl⟩
theorem tw_212 : Cond.fieldLink RX2 10 "WaterMen$Fountain" "row" "Ljava/util/ArrayList;" ∈ ab_T := ab_T_in (i := 212) (by decide +kernel) (by decide +kernel)
theorem fg_X2_10_3 : ab_fg RX2 10 3 2 := ⟨RX2, TX2, 6, tyX2, "WaterMen$Fountain", cl_3, by decide, tw_212, Or.inl rfl⟩
theorem fl_X2_10_3 : ab_fl RX2 10 3 2 (.object "java/util/ArrayList") true := ⟨RX2, TX2, 6, tyX2, "WaterMen$Fountain", cl_3, by decide, by decide +kernel, rfl, fun _ => rfl, tw_212, Or.inl rfl⟩
theorem tw_213 : Cond.fieldLink RX5 79 "WaterMen$Fountain" "row" "Ljava/util/ArrayList;" ∈ ab_T := ab_T_in (i := 213) (by decide +kernel) (by decide +kernel)
theorem fg_X5_79_3 : ab_fg RX5 79 3 2 := ⟨RX2, TX2, 6, tyX2, "WaterMen$Fountain", cl_3, by decide, tw_213, Or.inl rfl⟩
theorem tw_214 : Cond.fieldLink RX2 16 "WaterMen$Fountain" "isOpen" "Z" ∈ ab_T := ab_T_in (i := 214) (by decide +kernel) (by decide +kernel)
theorem fg_X2_16_3 : ab_fg RX2 16 3 3 := ⟨RX2, TX2, 6, tyX2, "WaterMen$Fountain", cl_3, by decide, tw_214, Or.inl rfl⟩
theorem fl_X2_16_3 : ab_fl RX2 16 3 3 (.boolean) false := ⟨RX2, TX2, 6, tyX2, "WaterMen$Fountain", cl_3, by decide, by decide +kernel, rfl, (fun h => by cases h), tw_214, Or.inl rfl⟩
theorem tw_215 : Cond.fieldLink RX8 130 "WaterMen$Fountain" "isOpen" "Z" ∈ ab_T := ab_T_in (i := 215) (by decide +kernel) (by decide +kernel)
theorem fg_X8_130_3 : ab_fg RX8 130 3 3 := ⟨RX2, TX2, 6, tyX2, "WaterMen$Fountain", cl_3, by decide, tw_215, Or.inl rfl⟩
theorem fl_X8_130_3 : ab_fl RX8 130 3 3 (.boolean) false := ⟨RX2, TX2, 6, tyX2, "WaterMen$Fountain", cl_3, by decide, by decide +kernel, rfl, (fun h => by cases h), tw_215, Or.inl rfl⟩
theorem tw_216 : Cond.fieldLink RX2 20 "WaterMen$Fountain" "has" "I" ∈ ab_T := ab_T_in (i := 216) (by decide +kernel) (by decide +kernel)
theorem fg_X2_20_3 : ab_fg RX2 20 3 4 := ⟨RX2, TX2, 6, tyX2, "WaterMen$Fountain", cl_3, by decide, tw_216, Or.inl rfl⟩
theorem fl_X2_20_3 : ab_fl RX2 20 3 4 (.int) false := ⟨RX2, TX2, 6, tyX2, "WaterMen$Fountain", cl_3, by decide, by decide +kernel, rfl, (fun h => by cases h), tw_216, Or.inl rfl⟩
theorem tw_217 : Cond.fieldLink RX8 175 "WaterMen$Fountain" "has" "I" ∈ ab_T := ab_T_in (i := 217) (by decide +kernel) (by decide +kernel)
theorem fg_X8_175_3 : ab_fg RX8 175 3 4 := ⟨RX2, TX2, 6, tyX2, "WaterMen$Fountain", cl_3, by decide, tw_217, Or.inl rfl⟩
theorem fl_X8_175_3 : ab_fl RX8 175 3 4 (.int) false := ⟨RX2, TX2, 6, tyX2, "WaterMen$Fountain", cl_3, by decide, by decide +kernel, rfl, (fun h => by cases h), tw_217, Or.inl rfl⟩
theorem tw_218 : Cond.fieldLink RX2 24 "WaterMen$Fountain" "ranOff" "I" ∈ ab_T := ab_T_in (i := 218) (by decide +kernel) (by decide +kernel)
theorem fg_X2_24_3 : ab_fg RX2 24 3 5 := ⟨RX2, TX2, 6, tyX2, "WaterMen$Fountain", cl_3, by decide, tw_218, Or.inl rfl⟩
theorem fl_X2_24_3 : ab_fl RX2 24 3 5 (.int) false := ⟨RX2, TX2, 6, tyX2, "WaterMen$Fountain", cl_3, by decide, by decide +kernel, rfl, (fun h => by cases h), tw_218, Or.inl rfl⟩
theorem tw_219 : Cond.fieldLink RX8 178 "WaterMen$Fountain" "ranOff" "I" ∈ ab_T := ab_T_in (i := 219) (by decide +kernel) (by decide +kernel)
theorem fg_X8_178_3 : ab_fg RX8 178 3 5 := ⟨RX2, TX2, 6, tyX2, "WaterMen$Fountain", cl_3, by decide, tw_219, Or.inl rfl⟩
theorem fl_X8_178_3 : ab_fl RX8 178 3 5 (.int) false := ⟨RX2, TX2, 6, tyX2, "WaterMen$Fountain", cl_3, by decide, by decide +kernel, rfl, (fun h => by cases h), tw_219, Or.inl rfl⟩
theorem tw_301 : Cond.fieldLink RX4 19 "WaterMen$Jar" "number" "I" ∈ ab_T := ab_T_in (i := 301) (by decide +kernel) (by decide +kernel)
theorem fg_X4_19_5 : ab_fg RX4 19 5 0 := ⟨RX4, TX4, 7, tyX4, "WaterMen$Jar", cl_5, by decide, tw_301, Or.inl rfl⟩
theorem fl_X4_19_5 : ab_fl RX4 19 5 0 (.int) true := ⟨RX4, TX4, 7, tyX4, "WaterMen$Jar", cl_5, by decide, by decide +kernel, rfl, fun _ => rfl, tw_301, Or.inl rfl⟩
theorem tw_302 : Cond.fieldLink RX6 31 "WaterMen$Jar" "number" "I" ∈ ab_T := ab_T_in (i := 302) (by decide +kernel) (by decide +kernel)
theorem fg_X6_31_5 : ab_fg RX6 31 5 0 := ⟨RX4, TX4, 7, tyX4, "WaterMen$Jar", cl_5, by decide, tw_302, Or.inl rfl⟩
theorem tw_303 : Cond.fieldLink RX8 164 "WaterMen$Jar" "number" "I" ∈ ab_T := ab_T_in (i := 303) (by decide +kernel) (by decide +kernel)
theorem fg_X8_164_5 : ab_fg RX8 164 5 0 := ⟨RX4, TX4, 7, tyX4, "WaterMen$Jar", cl_5, by decide, tw_303, Or.inl rfl⟩
theorem tw_304 : Cond.fieldLink RX4 22 "WaterMen$Jar" "floor" "I" ∈ ab_T := ab_T_in (i := 304) (by decide +kernel) (by decide +kernel)
theorem fg_X4_22_5 : ab_fg RX4 22 5 1 := ⟨RX4, TX4, 7, tyX4, "WaterMen$Jar", cl_5, by decide, tw_304, Or.inl rfl⟩
theorem fl_X4_22_5 : ab_fl RX4 22 5 1 (.int) true := ⟨RX4, TX4, 7, tyX4, "WaterMen$Jar", cl_5, by decide, by decide +kernel, rfl, fun _ => rfl, tw_304, Or.inl rfl⟩
theorem tw_305 : Cond.fieldLink RX5 50 "WaterMen$Jar" "floor" "I" ∈ ab_T := ab_T_in (i := 305) (by decide +kernel) (by decide +kernel)
theorem fg_X5_50_5 : ab_fg RX5 50 5 1 := ⟨RX4, TX4, 7, tyX4, "WaterMen$Jar", cl_5, by decide, tw_305, Or.inl rfl⟩
theorem tw_306 : Cond.fieldLink RX8 281 "WaterMen$Jar" "floor" "I" ∈ ab_T := ab_T_in (i := 306) (by decide +kernel) (by decide +kernel)
theorem fg_X8_281_5 : ab_fg RX8 281 5 1 := ⟨RX4, TX4, 7, tyX4, "WaterMen$Jar", cl_5, by decide, tw_306, Or.inl rfl⟩
theorem tw_307 : Cond.fieldLink RX4 25 "WaterMen$Jar" "holds" "I" ∈ ab_T := ab_T_in (i := 307) (by decide +kernel) (by decide +kernel)
theorem fg_X4_25_5 : ab_fg RX4 25 5 2 := ⟨RX4, TX4, 7, tyX4, "WaterMen$Jar", cl_5, by decide, tw_307, Or.inl rfl⟩
theorem fl_X4_25_5 : ab_fl RX4 25 5 2 (.int) true := ⟨RX4, TX4, 7, tyX4, "WaterMen$Jar", cl_5, by decide, by decide +kernel, rfl, fun _ => rfl, tw_307, Or.inl rfl⟩
theorem tw_308 : Cond.fieldLink RX8 278 "WaterMen$Jar" "holds" "I" ∈ ab_T := ab_T_in (i := 308) (by decide +kernel) (by decide +kernel)
theorem fg_X8_278_5 : ab_fg RX8 278 5 2 := ⟨RX4, TX4, 7, tyX4, "WaterMen$Jar", cl_5, by decide, tw_308, Or.inl rfl⟩
theorem tw_309 : Cond.fieldLink RX4 28 "WaterMen$Jar" "minutes" "[I" ∈ ab_T := ab_T_in (i := 309) (by decide +kernel) (by decide +kernel)
theorem fg_X4_28_5 : ab_fg RX4 28 5 3 := ⟨RX4, TX4, 7, tyX4, "WaterMen$Jar", cl_5, by decide, tw_309, Or.inl rfl⟩
theorem fl_X4_28_5 : ab_fl RX4 28 5 3 (.array .int) true := ⟨RX4, TX4, 7, tyX4, "WaterMen$Jar", cl_5, by decide, by decide +kernel, rfl, fun _ => rfl, tw_309, Or.inl rfl⟩
theorem tw_310 : Cond.fieldLink RX4 7 "WaterMen$Jar" "has" "I" ∈ ab_T := ab_T_in (i := 310) (by decide +kernel) (by decide +kernel)
theorem fg_X4_7_5 : ab_fg RX4 7 5 4 := ⟨RX4, TX4, 7, tyX4, "WaterMen$Jar", cl_5, by decide, tw_310, Or.inl rfl⟩
theorem fl_X4_7_5 : ab_fl RX4 7 5 4 (.int) false := ⟨RX4, TX4, 7, tyX4, "WaterMen$Jar", cl_5, by decide, by decide +kernel, rfl, (fun h => by cases h), tw_310, Or.inl rfl⟩
theorem tw_311 : Cond.fieldLink RX8 181 "WaterMen$Jar" "has" "I" ∈ ab_T := ab_T_in (i := 311) (by decide +kernel) (by decide +kernel)
theorem fg_X8_181_5 : ab_fg RX8 181 5 4 := ⟨RX4, TX4, 7, tyX4, "WaterMen$Jar", cl_5, by decide, tw_311, Or.inl rfl⟩
theorem fl_X8_181_5 : ab_fl RX8 181 5 4 (.int) false := ⟨RX4, TX4, 7, tyX4, "WaterMen$Jar", cl_5, by decide, by decide +kernel, rfl, (fun h => by cases h), tw_311, Or.inl rfl⟩
theorem tw_312 : Cond.fieldLink RX4 13 "WaterMen$Jar" "thirst" "I" ∈ ab_T := ab_T_in (i := 312) (by decide +kernel) (by decide +kernel)
theorem fg_X4_13_5 : ab_fg RX4 13 5 5 := ⟨RX4, TX4, 7, tyX4, "WaterMen$Jar", cl_5, by decide, tw_312, Or.inl rfl⟩
theorem fl_X4_13_5 : ab_fl RX4 13 5 5 (.int) false := ⟨RX4, TX4, 7, tyX4, "WaterMen$Jar", cl_5, by decide, by decide +kernel, rfl, (fun h => by cases h), tw_312, Or.inl rfl⟩
theorem tw_313 : Cond.fieldLink RX8 84 "WaterMen$Jar" "thirst" "I" ∈ ab_T := ab_T_in (i := 313) (by decide +kernel) (by decide +kernel)
theorem fg_X8_84_5 : ab_fg RX8 84 5 5 := ⟨RX4, TX4, 7, tyX4, "WaterMen$Jar", cl_5, by decide, tw_313, Or.inl rfl⟩
theorem fl_X8_84_5 : ab_fl RX8 84 5 5 (.int) false := ⟨RX4, TX4, 7, tyX4, "WaterMen$Jar", cl_5, by decide, by decide +kernel, rfl, (fun h => by cases h), tw_313, Or.inl rfl⟩
theorem tw_314 : Cond.fieldLink RX4 16 "WaterMen$Jar" "drunk" "I" ∈ ab_T := ab_T_in (i := 314) (by decide +kernel) (by decide +kernel)
theorem fg_X4_16_5 : ab_fg RX4 16 5 6 := ⟨RX4, TX4, 7, tyX4, "WaterMen$Jar", cl_5, by decide, tw_314, Or.inl rfl⟩
theorem fl_X4_16_5 : ab_fl RX4 16 5 6 (.int) false := ⟨RX4, TX4, 7, tyX4, "WaterMen$Jar", cl_5, by decide, by decide +kernel, rfl, (fun h => by cases h), tw_314, Or.inl rfl⟩
theorem tw_315 : Cond.fieldLink RX8 182 "WaterMen$Jar" "drunk" "I" ∈ ab_T := ab_T_in (i := 315) (by decide +kernel) (by decide +kernel)
theorem fg_X8_182_5 : ab_fg RX8 182 5 6 := ⟨RX4, TX4, 7, tyX4, "WaterMen$Jar", cl_5, by decide, tw_315, Or.inl rfl⟩
theorem fl_X8_182_5 : ab_fl RX8 182 5 6 (.int) false := ⟨RX4, TX4, 7, tyX4, "WaterMen$Jar", cl_5, by decide, by decide +kernel, rfl, (fun h => by cases h), tw_315, Or.inl rfl⟩
theorem tw_376 : Cond.fieldLink RX0 9 "WaterMen$Donkey" "speed" "I" ∈ ab_T := ab_T_in (i := 376) (by decide +kernel) (by decide +kernel)
theorem fg_X0_9_1 : ab_fg RX0 9 1 12 := ⟨RX0, TX0, 13, tyX0, "WaterMen$Donkey", cl_1, by decide, tw_376, Or.inl rfl⟩
theorem fl_X0_9_1 : ab_fl RX0 9 1 12 (.int) false := ⟨RX0, TX0, 13, tyX0, "WaterMen$Donkey", cl_1, by decide, by decide +kernel, rfl, (fun h => by cases h), tw_376, Or.inl rfl⟩
theorem tw_377 : Cond.fieldLink RX8 113 "WaterMen$Donkey" "speed" "I" ∈ ab_T := ab_T_in (i := 377) (by decide +kernel) (by decide +kernel)
theorem fg_X8_113_1 : ab_fg RX8 113 1 12 := ⟨RX0, TX0, 13, tyX0, "WaterMen$Donkey", cl_1, by decide, tw_377, Or.inl rfl⟩
theorem fl_X8_113_1 : ab_fl RX8 113 1 12 (.int) false := ⟨RX0, TX0, 13, tyX0, "WaterMen$Donkey", cl_1, by decide, by decide +kernel, rfl, (fun h => by cases h), tw_377, Or.inl rfl⟩
theorem tw_378 : Cond.fieldLink RX5 36 "WaterMen$Man" "number" "I" ∈ ab_T := ab_T_in (i := 378) (by decide +kernel) (by decide +kernel)
theorem fg_X5_36_1 : ab_fg RX5 36 1 0 := ⟨RX0, TX0, 13, tyX0, "WaterMen$Man", cl_1, by decide, tw_378, Or.inl rfl⟩
theorem fl_X5_36_1 : ab_fl RX5 36 1 0 (.int) true := ⟨RX0, TX0, 13, tyX0, "WaterMen$Man", cl_1, by decide, by decide +kernel, rfl, fun _ => rfl, tw_378, Or.inl rfl⟩
theorem fg_X5_36_6 : ab_fg RX5 36 6 0 := ⟨RX5, TX5, 12, tyX5, "WaterMen$Man", cl_6, by decide, tw_378, Or.inl rfl⟩
theorem fl_X5_36_6 : ab_fl RX5 36 6 0 (.int) true := ⟨RX5, TX5, 12, tyX5, "WaterMen$Man", cl_6, by decide, by decide +kernel, rfl, fun _ => rfl, tw_378, Or.inl rfl⟩
theorem fg_X5_36_8 : ab_fg RX5 36 8 0 := ⟨RX7, TX7, 12, tyX7, "WaterMen$Man", cl_8, by decide, tw_378, Or.inl rfl⟩
theorem fl_X5_36_8 : ab_fl RX5 36 8 0 (.int) true := ⟨RX7, TX7, 12, tyX7, "WaterMen$Man", cl_8, by decide, by decide +kernel, rfl, fun _ => rfl, tw_378, Or.inl rfl⟩
theorem tw_379 : Cond.fieldLink RX6 22 "WaterMen$Man" "number" "I" ∈ ab_T := ab_T_in (i := 379) (by decide +kernel) (by decide +kernel)
theorem fg_X6_22_1 : ab_fg RX6 22 1 0 := ⟨RX0, TX0, 13, tyX0, "WaterMen$Man", cl_1, by decide, tw_379, Or.inl rfl⟩
theorem fg_X6_22_6 : ab_fg RX6 22 6 0 := ⟨RX5, TX5, 12, tyX5, "WaterMen$Man", cl_6, by decide, tw_379, Or.inl rfl⟩
theorem fg_X6_22_8 : ab_fg RX6 22 8 0 := ⟨RX7, TX7, 12, tyX7, "WaterMen$Man", cl_8, by decide, tw_379, Or.inl rfl⟩
theorem tw_380 : Cond.fieldLink RX5 39 "WaterMen$Man" "load" "I" ∈ ab_T := ab_T_in (i := 380) (by decide +kernel) (by decide +kernel)
theorem fg_X5_39_1 : ab_fg RX5 39 1 1 := ⟨RX0, TX0, 13, tyX0, "WaterMen$Man", cl_1, by decide, tw_380, Or.inl rfl⟩
theorem fl_X5_39_1 : ab_fl RX5 39 1 1 (.int) true := ⟨RX0, TX0, 13, tyX0, "WaterMen$Man", cl_1, by decide, by decide +kernel, rfl, fun _ => rfl, tw_380, Or.inl rfl⟩
theorem fg_X5_39_6 : ab_fg RX5 39 6 1 := ⟨RX5, TX5, 12, tyX5, "WaterMen$Man", cl_6, by decide, tw_380, Or.inl rfl⟩
theorem fl_X5_39_6 : ab_fl RX5 39 6 1 (.int) true := ⟨RX5, TX5, 12, tyX5, "WaterMen$Man", cl_6, by decide, by decide +kernel, rfl, fun _ => rfl, tw_380, Or.inl rfl⟩
theorem fg_X5_39_8 : ab_fg RX5 39 8 1 := ⟨RX7, TX7, 12, tyX7, "WaterMen$Man", cl_8, by decide, tw_380, Or.inl rfl⟩
theorem fl_X5_39_8 : ab_fl RX5 39 8 1 (.int) true := ⟨RX7, TX7, 12, tyX7, "WaterMen$Man", cl_8, by decide, by decide +kernel, rfl, fun _ => rfl, tw_380, Or.inl rfl⟩
theorem tw_381 : Cond.fieldLink RX8 256 "WaterMen$Man" "load" "I" ∈ ab_T := ab_T_in (i := 381) (by decide +kernel) (by decide +kernel)
theorem fg_X8_256_1 : ab_fg RX8 256 1 1 := ⟨RX0, TX0, 13, tyX0, "WaterMen$Man", cl_1, by decide, tw_381, Or.inl rfl⟩
theorem fg_X8_256_6 : ab_fg RX8 256 6 1 := ⟨RX5, TX5, 12, tyX5, "WaterMen$Man", cl_6, by decide, tw_381, Or.inl rfl⟩
theorem fg_X8_256_8 : ab_fg RX8 256 8 1 := ⟨RX7, TX7, 12, tyX7, "WaterMen$Man", cl_8, by decide, tw_381, Or.inl rfl⟩
theorem tw_382 : Cond.fieldLink RX5 42 "WaterMen$Man" "fountain" "LWaterMen$Fountain;" ∈ ab_T := ab_T_in (i := 382) (by decide +kernel) (by decide +kernel)
theorem fg_X5_42_1 : ab_fg RX5 42 1 2 := ⟨RX0, TX0, 13, tyX0, "WaterMen$Man", cl_1, by decide, tw_382, Or.inl rfl⟩
theorem fl_X5_42_1 : ab_fl RX5 42 1 2 (.object "WaterMen$Fountain") false := ⟨RX0, TX0, 13, tyX0, "WaterMen$Man", cl_1, by decide, by decide +kernel, rfl, (fun h => by cases h), tw_382, Or.inl rfl⟩
theorem fg_X5_42_6 : ab_fg RX5 42 6 2 := ⟨RX5, TX5, 12, tyX5, "WaterMen$Man", cl_6, by decide, tw_382, Or.inl rfl⟩
theorem fl_X5_42_6 : ab_fl RX5 42 6 2 (.object "WaterMen$Fountain") false := ⟨RX5, TX5, 12, tyX5, "WaterMen$Man", cl_6, by decide, by decide +kernel, rfl, (fun h => by cases h), tw_382, Or.inl rfl⟩
theorem fg_X5_42_8 : ab_fg RX5 42 8 2 := ⟨RX7, TX7, 12, tyX7, "WaterMen$Man", cl_8, by decide, tw_382, Or.inl rfl⟩
theorem fl_X5_42_8 : ab_fl RX5 42 8 2 (.object "WaterMen$Fountain") false := ⟨RX7, TX7, 12, tyX7, "WaterMen$Man", cl_8, by decide, by decide +kernel, rfl, (fun h => by cases h), tw_382, Or.inl rfl⟩
theorem tw_383 : Cond.fieldLink RX8 122 "WaterMen$Man" "fountain" "LWaterMen$Fountain;" ∈ ab_T := ab_T_in (i := 383) (by decide +kernel) (by decide +kernel)
theorem fg_X8_122_1 : ab_fg RX8 122 1 2 := ⟨RX0, TX0, 13, tyX0, "WaterMen$Man", cl_1, by decide, tw_383, Or.inl rfl⟩
theorem fl_X8_122_1 : ab_fl RX8 122 1 2 (.object "WaterMen$Fountain") false := ⟨RX0, TX0, 13, tyX0, "WaterMen$Man", cl_1, by decide, by decide +kernel, rfl, (fun h => by cases h), tw_383, Or.inl rfl⟩
theorem fg_X8_122_6 : ab_fg RX8 122 6 2 := ⟨RX5, TX5, 12, tyX5, "WaterMen$Man", cl_6, by decide, tw_383, Or.inl rfl⟩
theorem fl_X8_122_6 : ab_fl RX8 122 6 2 (.object "WaterMen$Fountain") false := ⟨RX5, TX5, 12, tyX5, "WaterMen$Man", cl_6, by decide, by decide +kernel, rfl, (fun h => by cases h), tw_383, Or.inl rfl⟩
theorem fg_X8_122_8 : ab_fg RX8 122 8 2 := ⟨RX7, TX7, 12, tyX7, "WaterMen$Man", cl_8, by decide, tw_383, Or.inl rfl⟩
theorem fl_X8_122_8 : ab_fl RX8 122 8 2 (.object "WaterMen$Fountain") false := ⟨RX7, TX7, 12, tyX7, "WaterMen$Man", cl_8, by decide, by decide +kernel, rfl, (fun h => by cases h), tw_383, Or.inl rfl⟩
theorem tw_384 : Cond.fieldLink RX5 46 "WaterMen$Man" "jar" "LWaterMen$Jar;" ∈ ab_T := ab_T_in (i := 384) (by decide +kernel) (by decide +kernel)
theorem fg_X5_46_1 : ab_fg RX5 46 1 3 := ⟨RX0, TX0, 13, tyX0, "WaterMen$Man", cl_1, by decide, tw_384, Or.inl rfl⟩
theorem fl_X5_46_1 : ab_fl RX5 46 1 3 (.object "WaterMen$Jar") false := ⟨RX0, TX0, 13, tyX0, "WaterMen$Man", cl_1, by decide, by decide +kernel, rfl, (fun h => by cases h), tw_384, Or.inl rfl⟩
theorem fg_X5_46_6 : ab_fg RX5 46 6 3 := ⟨RX5, TX5, 12, tyX5, "WaterMen$Man", cl_6, by decide, tw_384, Or.inl rfl⟩
theorem fl_X5_46_6 : ab_fl RX5 46 6 3 (.object "WaterMen$Jar") false := ⟨RX5, TX5, 12, tyX5, "WaterMen$Man", cl_6, by decide, by decide +kernel, rfl, (fun h => by cases h), tw_384, Or.inl rfl⟩
theorem fg_X5_46_8 : ab_fg RX5 46 8 3 := ⟨RX7, TX7, 12, tyX7, "WaterMen$Man", cl_8, by decide, tw_384, Or.inl rfl⟩
theorem fl_X5_46_8 : ab_fl RX5 46 8 3 (.object "WaterMen$Jar") false := ⟨RX7, TX7, 12, tyX7, "WaterMen$Man", cl_8, by decide, by decide +kernel, rfl, (fun h => by cases h), tw_384, Or.inl rfl⟩
theorem tw_385 : Cond.fieldLink RX6 27 "WaterMen$Man" "jar" "LWaterMen$Jar;" ∈ ab_T := ab_T_in (i := 385) (by decide +kernel) (by decide +kernel)
theorem fg_X6_27_1 : ab_fg RX6 27 1 3 := ⟨RX0, TX0, 13, tyX0, "WaterMen$Man", cl_1, by decide, tw_385, Or.inl rfl⟩
theorem fl_X6_27_1 : ab_fl RX6 27 1 3 (.object "WaterMen$Jar") false := ⟨RX0, TX0, 13, tyX0, "WaterMen$Man", cl_1, by decide, by decide +kernel, rfl, (fun h => by cases h), tw_385, Or.inl rfl⟩
theorem fg_X6_27_6 : ab_fg RX6 27 6 3 := ⟨RX5, TX5, 12, tyX5, "WaterMen$Man", cl_6, by decide, tw_385, Or.inl rfl⟩
theorem fl_X6_27_6 : ab_fl RX6 27 6 3 (.object "WaterMen$Jar") false := ⟨RX5, TX5, 12, tyX5, "WaterMen$Man", cl_6, by decide, by decide +kernel, rfl, (fun h => by cases h), tw_385, Or.inl rfl⟩
theorem fg_X6_27_8 : ab_fg RX6 27 8 3 := ⟨RX7, TX7, 12, tyX7, "WaterMen$Man", cl_8, by decide, tw_385, Or.inl rfl⟩
theorem fl_X6_27_8 : ab_fl RX6 27 8 3 (.object "WaterMen$Jar") false := ⟨RX7, TX7, 12, tyX7, "WaterMen$Man", cl_8, by decide, by decide +kernel, rfl, (fun h => by cases h), tw_385, Or.inl rfl⟩
theorem tw_386 : Cond.fieldLink RX8 126 "WaterMen$Man" "jar" "LWaterMen$Jar;" ∈ ab_T := ab_T_in (i := 386) (by decide +kernel) (by decide +kernel)
theorem fg_X8_126_1 : ab_fg RX8 126 1 3 := ⟨RX0, TX0, 13, tyX0, "WaterMen$Man", cl_1, by decide, tw_386, Or.inl rfl⟩
theorem fl_X8_126_1 : ab_fl RX8 126 1 3 (.object "WaterMen$Jar") false := ⟨RX0, TX0, 13, tyX0, "WaterMen$Man", cl_1, by decide, by decide +kernel, rfl, (fun h => by cases h), tw_386, Or.inl rfl⟩
theorem fg_X8_126_6 : ab_fg RX8 126 6 3 := ⟨RX5, TX5, 12, tyX5, "WaterMen$Man", cl_6, by decide, tw_386, Or.inl rfl⟩
theorem fl_X8_126_6 : ab_fl RX8 126 6 3 (.object "WaterMen$Jar") false := ⟨RX5, TX5, 12, tyX5, "WaterMen$Man", cl_6, by decide, by decide +kernel, rfl, (fun h => by cases h), tw_386, Or.inl rfl⟩
theorem fg_X8_126_8 : ab_fg RX8 126 8 3 := ⟨RX7, TX7, 12, tyX7, "WaterMen$Man", cl_8, by decide, tw_386, Or.inl rfl⟩
theorem fl_X8_126_8 : ab_fl RX8 126 8 3 (.object "WaterMen$Jar") false := ⟨RX7, TX7, 12, tyX7, "WaterMen$Man", cl_8, by decide, by decide +kernel, rfl, (fun h => by cases h), tw_386, Or.inl rfl⟩
theorem tw_387 : Cond.fieldLink RX5 9 "WaterMen$Man" "rank" "I" ∈ ab_T := ab_T_in (i := 387) (by decide +kernel) (by decide +kernel)
theorem fg_X5_9_1 : ab_fg RX5 9 1 4 := ⟨RX0, TX0, 13, tyX0, "WaterMen$Man", cl_1, by decide, tw_387, Or.inl rfl⟩
theorem fl_X5_9_1 : ab_fl RX5 9 1 4 (.int) false := ⟨RX0, TX0, 13, tyX0, "WaterMen$Man", cl_1, by decide, by decide +kernel, rfl, (fun h => by cases h), tw_387, Or.inl rfl⟩
theorem fg_X5_9_6 : ab_fg RX5 9 6 4 := ⟨RX5, TX5, 12, tyX5, "WaterMen$Man", cl_6, by decide, tw_387, Or.inl rfl⟩
theorem fl_X5_9_6 : ab_fl RX5 9 6 4 (.int) false := ⟨RX5, TX5, 12, tyX5, "WaterMen$Man", cl_6, by decide, by decide +kernel, rfl, (fun h => by cases h), tw_387, Or.inl rfl⟩
theorem fg_X5_9_8 : ab_fg RX5 9 8 4 := ⟨RX7, TX7, 12, tyX7, "WaterMen$Man", cl_8, by decide, tw_387, Or.inl rfl⟩
theorem fl_X5_9_8 : ab_fl RX5 9 8 4 (.int) false := ⟨RX7, TX7, 12, tyX7, "WaterMen$Man", cl_8, by decide, by decide +kernel, rfl, (fun h => by cases h), tw_387, Or.inl rfl⟩
theorem tw_388 : Cond.fieldLink RX2 43 "WaterMen$Man" "rank" "I" ∈ ab_T := ab_T_in (i := 388) (by decide +kernel) (by decide +kernel)
theorem fg_X2_43_1 : ab_fg RX2 43 1 4 := ⟨RX0, TX0, 13, tyX0, "WaterMen$Man", cl_1, by decide, tw_388, Or.inl rfl⟩
theorem fl_X2_43_1 : ab_fl RX2 43 1 4 (.int) false := ⟨RX0, TX0, 13, tyX0, "WaterMen$Man", cl_1, by decide, by decide +kernel, rfl, (fun h => by cases h), tw_388, Or.inl rfl⟩
theorem fg_X2_43_6 : ab_fg RX2 43 6 4 := ⟨RX5, TX5, 12, tyX5, "WaterMen$Man", cl_6, by decide, tw_388, Or.inl rfl⟩
theorem fl_X2_43_6 : ab_fl RX2 43 6 4 (.int) false := ⟨RX5, TX5, 12, tyX5, "WaterMen$Man", cl_6, by decide, by decide +kernel, rfl, (fun h => by cases h), tw_388, Or.inl rfl⟩
theorem fg_X2_43_8 : ab_fg RX2 43 8 4 := ⟨RX7, TX7, 12, tyX7, "WaterMen$Man", cl_8, by decide, tw_388, Or.inl rfl⟩
theorem fl_X2_43_8 : ab_fl RX2 43 8 4 (.int) false := ⟨RX7, TX7, 12, tyX7, "WaterMen$Man", cl_8, by decide, by decide +kernel, rfl, (fun h => by cases h), tw_388, Or.inl rfl⟩
theorem tw_389 : Cond.fieldLink RX8 108 "WaterMen$Man" "rank" "I" ∈ ab_T := ab_T_in (i := 389) (by decide +kernel) (by decide +kernel)
theorem fg_X8_108_1 : ab_fg RX8 108 1 4 := ⟨RX0, TX0, 13, tyX0, "WaterMen$Man", cl_1, by decide, tw_389, Or.inl rfl⟩
theorem fl_X8_108_1 : ab_fl RX8 108 1 4 (.int) false := ⟨RX0, TX0, 13, tyX0, "WaterMen$Man", cl_1, by decide, by decide +kernel, rfl, (fun h => by cases h), tw_389, Or.inl rfl⟩
theorem fg_X8_108_6 : ab_fg RX8 108 6 4 := ⟨RX5, TX5, 12, tyX5, "WaterMen$Man", cl_6, by decide, tw_389, Or.inl rfl⟩
theorem fl_X8_108_6 : ab_fl RX8 108 6 4 (.int) false := ⟨RX5, TX5, 12, tyX5, "WaterMen$Man", cl_6, by decide, by decide +kernel, rfl, (fun h => by cases h), tw_389, Or.inl rfl⟩
theorem fg_X8_108_8 : ab_fg RX8 108 8 4 := ⟨RX7, TX7, 12, tyX7, "WaterMen$Man", cl_8, by decide, tw_389, Or.inl rfl⟩
theorem fl_X8_108_8 : ab_fl RX8 108 8 4 (.int) false := ⟨RX7, TX7, 12, tyX7, "WaterMen$Man", cl_8, by decide, by decide +kernel, rfl, (fun h => by cases h), tw_389, Or.inl rfl⟩
theorem tw_390 : Cond.fieldLink RX5 15 "WaterMen$Man" "doing" "I" ∈ ab_T := ab_T_in (i := 390) (by decide +kernel) (by decide +kernel)
theorem fg_X5_15_1 : ab_fg RX5 15 1 5 := ⟨RX0, TX0, 13, tyX0, "WaterMen$Man", cl_1, by decide, tw_390, Or.inl rfl⟩
theorem fl_X5_15_1 : ab_fl RX5 15 1 5 (.int) false := ⟨RX0, TX0, 13, tyX0, "WaterMen$Man", cl_1, by decide, by decide +kernel, rfl, (fun h => by cases h), tw_390, Or.inl rfl⟩
theorem fg_X5_15_6 : ab_fg RX5 15 6 5 := ⟨RX5, TX5, 12, tyX5, "WaterMen$Man", cl_6, by decide, tw_390, Or.inl rfl⟩
theorem fl_X5_15_6 : ab_fl RX5 15 6 5 (.int) false := ⟨RX5, TX5, 12, tyX5, "WaterMen$Man", cl_6, by decide, by decide +kernel, rfl, (fun h => by cases h), tw_390, Or.inl rfl⟩
theorem fg_X5_15_8 : ab_fg RX5 15 8 5 := ⟨RX7, TX7, 12, tyX7, "WaterMen$Man", cl_8, by decide, tw_390, Or.inl rfl⟩
theorem fl_X5_15_8 : ab_fl RX5 15 8 5 (.int) false := ⟨RX7, TX7, 12, tyX7, "WaterMen$Man", cl_8, by decide, by decide +kernel, rfl, (fun h => by cases h), tw_390, Or.inl rfl⟩
theorem tw_391 : Cond.fieldLink RX8 116 "WaterMen$Man" "doing" "I" ∈ ab_T := ab_T_in (i := 391) (by decide +kernel) (by decide +kernel)
theorem fg_X8_116_1 : ab_fg RX8 116 1 5 := ⟨RX0, TX0, 13, tyX0, "WaterMen$Man", cl_1, by decide, tw_391, Or.inl rfl⟩
theorem fl_X8_116_1 : ab_fl RX8 116 1 5 (.int) false := ⟨RX0, TX0, 13, tyX0, "WaterMen$Man", cl_1, by decide, by decide +kernel, rfl, (fun h => by cases h), tw_391, Or.inl rfl⟩
theorem fg_X8_116_6 : ab_fg RX8 116 6 5 := ⟨RX5, TX5, 12, tyX5, "WaterMen$Man", cl_6, by decide, tw_391, Or.inl rfl⟩
theorem fl_X8_116_6 : ab_fl RX8 116 6 5 (.int) false := ⟨RX5, TX5, 12, tyX5, "WaterMen$Man", cl_6, by decide, by decide +kernel, rfl, (fun h => by cases h), tw_391, Or.inl rfl⟩
theorem fg_X8_116_8 : ab_fg RX8 116 8 5 := ⟨RX7, TX7, 12, tyX7, "WaterMen$Man", cl_8, by decide, tw_391, Or.inl rfl⟩
theorem fl_X8_116_8 : ab_fl RX8 116 8 5 (.int) false := ⟨RX7, TX7, 12, tyX7, "WaterMen$Man", cl_8, by decide, by decide +kernel, rfl, (fun h => by cases h), tw_391, Or.inl rfl⟩
theorem tw_392 : Cond.fieldLink RX5 18 "WaterMen$Man" "toGo" "I" ∈ ab_T := ab_T_in (i := 392) (by decide +kernel) (by decide +kernel)
theorem fg_X5_18_1 : ab_fg RX5 18 1 6 := ⟨RX0, TX0, 13, tyX0, "WaterMen$Man", cl_1, by decide, tw_392, Or.inl rfl⟩
theorem fl_X5_18_1 : ab_fl RX5 18 1 6 (.int) false := ⟨RX0, TX0, 13, tyX0, "WaterMen$Man", cl_1, by decide, by decide +kernel, rfl, (fun h => by cases h), tw_392, Or.inl rfl⟩
theorem fg_X5_18_6 : ab_fg RX5 18 6 6 := ⟨RX5, TX5, 12, tyX5, "WaterMen$Man", cl_6, by decide, tw_392, Or.inl rfl⟩
theorem fl_X5_18_6 : ab_fl RX5 18 6 6 (.int) false := ⟨RX5, TX5, 12, tyX5, "WaterMen$Man", cl_6, by decide, by decide +kernel, rfl, (fun h => by cases h), tw_392, Or.inl rfl⟩
theorem fg_X5_18_8 : ab_fg RX5 18 8 6 := ⟨RX7, TX7, 12, tyX7, "WaterMen$Man", cl_8, by decide, tw_392, Or.inl rfl⟩
theorem fl_X5_18_8 : ab_fl RX5 18 8 6 (.int) false := ⟨RX7, TX7, 12, tyX7, "WaterMen$Man", cl_8, by decide, by decide +kernel, rfl, (fun h => by cases h), tw_392, Or.inl rfl⟩
theorem tw_393 : Cond.fieldLink RX8 152 "WaterMen$Man" "toGo" "I" ∈ ab_T := ab_T_in (i := 393) (by decide +kernel) (by decide +kernel)
theorem fg_X8_152_1 : ab_fg RX8 152 1 6 := ⟨RX0, TX0, 13, tyX0, "WaterMen$Man", cl_1, by decide, tw_393, Or.inl rfl⟩
theorem fl_X8_152_1 : ab_fl RX8 152 1 6 (.int) false := ⟨RX0, TX0, 13, tyX0, "WaterMen$Man", cl_1, by decide, by decide +kernel, rfl, (fun h => by cases h), tw_393, Or.inl rfl⟩
theorem fg_X8_152_6 : ab_fg RX8 152 6 6 := ⟨RX5, TX5, 12, tyX5, "WaterMen$Man", cl_6, by decide, tw_393, Or.inl rfl⟩
theorem fl_X8_152_6 : ab_fl RX8 152 6 6 (.int) false := ⟨RX5, TX5, 12, tyX5, "WaterMen$Man", cl_6, by decide, by decide +kernel, rfl, (fun h => by cases h), tw_393, Or.inl rfl⟩
theorem fg_X8_152_8 : ab_fg RX8 152 8 6 := ⟨RX7, TX7, 12, tyX7, "WaterMen$Man", cl_8, by decide, tw_393, Or.inl rfl⟩
theorem fl_X8_152_8 : ab_fl RX8 152 8 6 (.int) false := ⟨RX7, TX7, 12, tyX7, "WaterMen$Man", cl_8, by decide, by decide +kernel, rfl, (fun h => by cases h), tw_393, Or.inl rfl⟩
theorem tw_394 : Cond.fieldLink RX5 21 "WaterMen$Man" "carries" "I" ∈ ab_T := ab_T_in (i := 394) (by decide +kernel) (by decide +kernel)
theorem fg_X5_21_1 : ab_fg RX5 21 1 7 := ⟨RX0, TX0, 13, tyX0, "WaterMen$Man", cl_1, by decide, tw_394, Or.inl rfl⟩
theorem fl_X5_21_1 : ab_fl RX5 21 1 7 (.int) false := ⟨RX0, TX0, 13, tyX0, "WaterMen$Man", cl_1, by decide, by decide +kernel, rfl, (fun h => by cases h), tw_394, Or.inl rfl⟩
theorem fg_X5_21_6 : ab_fg RX5 21 6 7 := ⟨RX5, TX5, 12, tyX5, "WaterMen$Man", cl_6, by decide, tw_394, Or.inl rfl⟩
theorem fl_X5_21_6 : ab_fl RX5 21 6 7 (.int) false := ⟨RX5, TX5, 12, tyX5, "WaterMen$Man", cl_6, by decide, by decide +kernel, rfl, (fun h => by cases h), tw_394, Or.inl rfl⟩
theorem fg_X5_21_8 : ab_fg RX5 21 8 7 := ⟨RX7, TX7, 12, tyX7, "WaterMen$Man", cl_8, by decide, tw_394, Or.inl rfl⟩
theorem fl_X5_21_8 : ab_fl RX5 21 8 7 (.int) false := ⟨RX7, TX7, 12, tyX7, "WaterMen$Man", cl_8, by decide, by decide +kernel, rfl, (fun h => by cases h), tw_394, Or.inl rfl⟩
theorem tw_395 : Cond.fieldLink RX8 155 "WaterMen$Man" "carries" "I" ∈ ab_T := ab_T_in (i := 395) (by decide +kernel) (by decide +kernel)
theorem fg_X8_155_1 : ab_fg RX8 155 1 7 := ⟨RX0, TX0, 13, tyX0, "WaterMen$Man", cl_1, by decide, tw_395, Or.inl rfl⟩
theorem fl_X8_155_1 : ab_fl RX8 155 1 7 (.int) false := ⟨RX0, TX0, 13, tyX0, "WaterMen$Man", cl_1, by decide, by decide +kernel, rfl, (fun h => by cases h), tw_395, Or.inl rfl⟩
theorem fg_X8_155_6 : ab_fg RX8 155 6 7 := ⟨RX5, TX5, 12, tyX5, "WaterMen$Man", cl_6, by decide, tw_395, Or.inl rfl⟩
theorem fl_X8_155_6 : ab_fl RX8 155 6 7 (.int) false := ⟨RX5, TX5, 12, tyX5, "WaterMen$Man", cl_6, by decide, by decide +kernel, rfl, (fun h => by cases h), tw_395, Or.inl rfl⟩
theorem fg_X8_155_8 : ab_fg RX8 155 8 7 := ⟨RX7, TX7, 12, tyX7, "WaterMen$Man", cl_8, by decide, tw_395, Or.inl rfl⟩
theorem fl_X8_155_8 : ab_fl RX8 155 8 7 (.int) false := ⟨RX7, TX7, 12, tyX7, "WaterMen$Man", cl_8, by decide, by decide +kernel, rfl, (fun h => by cases h), tw_395, Or.inl rfl⟩
theorem tw_396 : Cond.fieldLink RX5 24 "WaterMen$Man" "earned" "I" ∈ ab_T := ab_T_in (i := 396) (by decide +kernel) (by decide +kernel)
theorem fg_X5_24_1 : ab_fg RX5 24 1 8 := ⟨RX0, TX0, 13, tyX0, "WaterMen$Man", cl_1, by decide, tw_396, Or.inl rfl⟩
theorem fl_X5_24_1 : ab_fl RX5 24 1 8 (.int) false := ⟨RX0, TX0, 13, tyX0, "WaterMen$Man", cl_1, by decide, by decide +kernel, rfl, (fun h => by cases h), tw_396, Or.inl rfl⟩
theorem fg_X5_24_6 : ab_fg RX5 24 6 8 := ⟨RX5, TX5, 12, tyX5, "WaterMen$Man", cl_6, by decide, tw_396, Or.inl rfl⟩
theorem fl_X5_24_6 : ab_fl RX5 24 6 8 (.int) false := ⟨RX5, TX5, 12, tyX5, "WaterMen$Man", cl_6, by decide, by decide +kernel, rfl, (fun h => by cases h), tw_396, Or.inl rfl⟩
theorem fg_X5_24_8 : ab_fg RX5 24 8 8 := ⟨RX7, TX7, 12, tyX7, "WaterMen$Man", cl_8, by decide, tw_396, Or.inl rfl⟩
theorem fl_X5_24_8 : ab_fl RX5 24 8 8 (.int) false := ⟨RX7, TX7, 12, tyX7, "WaterMen$Man", cl_8, by decide, by decide +kernel, rfl, (fun h => by cases h), tw_396, Or.inl rfl⟩
theorem tw_397 : Cond.fieldLink RX8 158 "WaterMen$Man" "earned" "I" ∈ ab_T := ab_T_in (i := 397) (by decide +kernel) (by decide +kernel)
theorem fg_X8_158_1 : ab_fg RX8 158 1 8 := ⟨RX0, TX0, 13, tyX0, "WaterMen$Man", cl_1, by decide, tw_397, Or.inl rfl⟩
theorem fl_X8_158_1 : ab_fl RX8 158 1 8 (.int) false := ⟨RX0, TX0, 13, tyX0, "WaterMen$Man", cl_1, by decide, by decide +kernel, rfl, (fun h => by cases h), tw_397, Or.inl rfl⟩
theorem fg_X8_158_6 : ab_fg RX8 158 6 8 := ⟨RX5, TX5, 12, tyX5, "WaterMen$Man", cl_6, by decide, tw_397, Or.inl rfl⟩
theorem fl_X8_158_6 : ab_fl RX8 158 6 8 (.int) false := ⟨RX5, TX5, 12, tyX5, "WaterMen$Man", cl_6, by decide, by decide +kernel, rfl, (fun h => by cases h), tw_397, Or.inl rfl⟩
theorem fg_X8_158_8 : ab_fg RX8 158 8 8 := ⟨RX7, TX7, 12, tyX7, "WaterMen$Man", cl_8, by decide, tw_397, Or.inl rfl⟩
theorem fl_X8_158_8 : ab_fl RX8 158 8 8 (.int) false := ⟨RX7, TX7, 12, tyX7, "WaterMen$Man", cl_8, by decide, by decide +kernel, rfl, (fun h => by cases h), tw_397, Or.inl rfl⟩
theorem tw_398 : Cond.fieldLink RX5 27 "WaterMen$Man" "setOutTime" "I" ∈ ab_T := ab_T_in (i := 398) (by decide +kernel) (by decide +kernel)
theorem fg_X5_27_1 : ab_fg RX5 27 1 9 := ⟨RX0, TX0, 13, tyX0, "WaterMen$Man", cl_1, by decide, tw_398, Or.inl rfl⟩
theorem fl_X5_27_1 : ab_fl RX5 27 1 9 (.int) false := ⟨RX0, TX0, 13, tyX0, "WaterMen$Man", cl_1, by decide, by decide +kernel, rfl, (fun h => by cases h), tw_398, Or.inl rfl⟩
theorem fg_X5_27_6 : ab_fg RX5 27 6 9 := ⟨RX5, TX5, 12, tyX5, "WaterMen$Man", cl_6, by decide, tw_398, Or.inl rfl⟩
theorem fl_X5_27_6 : ab_fl RX5 27 6 9 (.int) false := ⟨RX5, TX5, 12, tyX5, "WaterMen$Man", cl_6, by decide, by decide +kernel, rfl, (fun h => by cases h), tw_398, Or.inl rfl⟩
theorem fg_X5_27_8 : ab_fg RX5 27 8 9 := ⟨RX7, TX7, 12, tyX7, "WaterMen$Man", cl_8, by decide, tw_398, Or.inl rfl⟩
theorem fl_X5_27_8 : ab_fl RX5 27 8 9 (.int) false := ⟨RX7, TX7, 12, tyX7, "WaterMen$Man", cl_8, by decide, by decide +kernel, rfl, (fun h => by cases h), tw_398, Or.inl rfl⟩
theorem tw_399 : Cond.fieldLink RX8 272 "WaterMen$Man" "setOutTime" "I" ∈ ab_T := ab_T_in (i := 399) (by decide +kernel) (by decide +kernel)
theorem fg_X8_272_1 : ab_fg RX8 272 1 9 := ⟨RX0, TX0, 13, tyX0, "WaterMen$Man", cl_1, by decide, tw_399, Or.inl rfl⟩
theorem fl_X8_272_1 : ab_fl RX8 272 1 9 (.int) false := ⟨RX0, TX0, 13, tyX0, "WaterMen$Man", cl_1, by decide, by decide +kernel, rfl, (fun h => by cases h), tw_399, Or.inl rfl⟩
theorem fg_X8_272_6 : ab_fg RX8 272 6 9 := ⟨RX5, TX5, 12, tyX5, "WaterMen$Man", cl_6, by decide, tw_399, Or.inl rfl⟩
theorem fl_X8_272_6 : ab_fl RX8 272 6 9 (.int) false := ⟨RX5, TX5, 12, tyX5, "WaterMen$Man", cl_6, by decide, by decide +kernel, rfl, (fun h => by cases h), tw_399, Or.inl rfl⟩
theorem fg_X8_272_8 : ab_fg RX8 272 8 9 := ⟨RX7, TX7, 12, tyX7, "WaterMen$Man", cl_8, by decide, tw_399, Or.inl rfl⟩
theorem fl_X8_272_8 : ab_fl RX8 272 8 9 (.int) false := ⟨RX7, TX7, 12, tyX7, "WaterMen$Man", cl_8, by decide, by decide +kernel, rfl, (fun h => by cases h), tw_399, Or.inl rfl⟩
theorem tw_400 : Cond.fieldLink RX5 30 "WaterMen$Man" "filledFrom" "I" ∈ ab_T := ab_T_in (i := 400) (by decide +kernel) (by decide +kernel)
theorem fg_X5_30_1 : ab_fg RX5 30 1 10 := ⟨RX0, TX0, 13, tyX0, "WaterMen$Man", cl_1, by decide, tw_400, Or.inl rfl⟩
theorem fl_X5_30_1 : ab_fl RX5 30 1 10 (.int) false := ⟨RX0, TX0, 13, tyX0, "WaterMen$Man", cl_1, by decide, by decide +kernel, rfl, (fun h => by cases h), tw_400, Or.inl rfl⟩
theorem fg_X5_30_6 : ab_fg RX5 30 6 10 := ⟨RX5, TX5, 12, tyX5, "WaterMen$Man", cl_6, by decide, tw_400, Or.inl rfl⟩
theorem fl_X5_30_6 : ab_fl RX5 30 6 10 (.int) false := ⟨RX5, TX5, 12, tyX5, "WaterMen$Man", cl_6, by decide, by decide +kernel, rfl, (fun h => by cases h), tw_400, Or.inl rfl⟩
theorem fg_X5_30_8 : ab_fg RX5 30 8 10 := ⟨RX7, TX7, 12, tyX7, "WaterMen$Man", cl_8, by decide, tw_400, Or.inl rfl⟩
theorem fl_X5_30_8 : ab_fl RX5 30 8 10 (.int) false := ⟨RX7, TX7, 12, tyX7, "WaterMen$Man", cl_8, by decide, by decide +kernel, rfl, (fun h => by cases h), tw_400, Or.inl rfl⟩
theorem tw_401 : Cond.fieldLink RX6 34 "WaterMen$Man" "filledFrom" "I" ∈ ab_T := ab_T_in (i := 401) (by decide +kernel) (by decide +kernel)
theorem fg_X6_34_1 : ab_fg RX6 34 1 10 := ⟨RX0, TX0, 13, tyX0, "WaterMen$Man", cl_1, by decide, tw_401, Or.inl rfl⟩
theorem fl_X6_34_1 : ab_fl RX6 34 1 10 (.int) false := ⟨RX0, TX0, 13, tyX0, "WaterMen$Man", cl_1, by decide, by decide +kernel, rfl, (fun h => by cases h), tw_401, Or.inl rfl⟩
theorem fg_X6_34_6 : ab_fg RX6 34 6 10 := ⟨RX5, TX5, 12, tyX5, "WaterMen$Man", cl_6, by decide, tw_401, Or.inl rfl⟩
theorem fl_X6_34_6 : ab_fl RX6 34 6 10 (.int) false := ⟨RX5, TX5, 12, tyX5, "WaterMen$Man", cl_6, by decide, by decide +kernel, rfl, (fun h => by cases h), tw_401, Or.inl rfl⟩
theorem fg_X6_34_8 : ab_fg RX6 34 8 10 := ⟨RX7, TX7, 12, tyX7, "WaterMen$Man", cl_8, by decide, tw_401, Or.inl rfl⟩
theorem fl_X6_34_8 : ab_fl RX6 34 8 10 (.int) false := ⟨RX7, TX7, 12, tyX7, "WaterMen$Man", cl_8, by decide, by decide +kernel, rfl, (fun h => by cases h), tw_401, Or.inl rfl⟩
theorem tw_402 : Cond.fieldLink RX8 262 "WaterMen$Man" "filledFrom" "I" ∈ ab_T := ab_T_in (i := 402) (by decide +kernel) (by decide +kernel)
theorem fg_X8_262_1 : ab_fg RX8 262 1 10 := ⟨RX0, TX0, 13, tyX0, "WaterMen$Man", cl_1, by decide, tw_402, Or.inl rfl⟩
theorem fl_X8_262_1 : ab_fl RX8 262 1 10 (.int) false := ⟨RX0, TX0, 13, tyX0, "WaterMen$Man", cl_1, by decide, by decide +kernel, rfl, (fun h => by cases h), tw_402, Or.inl rfl⟩
theorem fg_X8_262_6 : ab_fg RX8 262 6 10 := ⟨RX5, TX5, 12, tyX5, "WaterMen$Man", cl_6, by decide, tw_402, Or.inl rfl⟩
theorem fl_X8_262_6 : ab_fl RX8 262 6 10 (.int) false := ⟨RX5, TX5, 12, tyX5, "WaterMen$Man", cl_6, by decide, by decide +kernel, rfl, (fun h => by cases h), tw_402, Or.inl rfl⟩
theorem fg_X8_262_8 : ab_fg RX8 262 8 10 := ⟨RX7, TX7, 12, tyX7, "WaterMen$Man", cl_8, by decide, tw_402, Or.inl rfl⟩
theorem fl_X8_262_8 : ab_fl RX8 262 8 10 (.int) false := ⟨RX7, TX7, 12, tyX7, "WaterMen$Man", cl_8, by decide, by decide +kernel, rfl, (fun h => by cases h), tw_402, Or.inl rfl⟩
theorem tw_403 : Cond.fieldLink RX5 33 "WaterMen$Man" "filledTime" "I" ∈ ab_T := ab_T_in (i := 403) (by decide +kernel) (by decide +kernel)
theorem fg_X5_33_1 : ab_fg RX5 33 1 11 := ⟨RX0, TX0, 13, tyX0, "WaterMen$Man", cl_1, by decide, tw_403, Or.inl rfl⟩
theorem fl_X5_33_1 : ab_fl RX5 33 1 11 (.int) false := ⟨RX0, TX0, 13, tyX0, "WaterMen$Man", cl_1, by decide, by decide +kernel, rfl, (fun h => by cases h), tw_403, Or.inl rfl⟩
theorem fg_X5_33_6 : ab_fg RX5 33 6 11 := ⟨RX5, TX5, 12, tyX5, "WaterMen$Man", cl_6, by decide, tw_403, Or.inl rfl⟩
theorem fl_X5_33_6 : ab_fl RX5 33 6 11 (.int) false := ⟨RX5, TX5, 12, tyX5, "WaterMen$Man", cl_6, by decide, by decide +kernel, rfl, (fun h => by cases h), tw_403, Or.inl rfl⟩
theorem fg_X5_33_8 : ab_fg RX5 33 8 11 := ⟨RX7, TX7, 12, tyX7, "WaterMen$Man", cl_8, by decide, tw_403, Or.inl rfl⟩
theorem fl_X5_33_8 : ab_fl RX5 33 8 11 (.int) false := ⟨RX7, TX7, 12, tyX7, "WaterMen$Man", cl_8, by decide, by decide +kernel, rfl, (fun h => by cases h), tw_403, Or.inl rfl⟩
theorem tw_404 : Cond.fieldLink RX6 37 "WaterMen$Man" "filledTime" "I" ∈ ab_T := ab_T_in (i := 404) (by decide +kernel) (by decide +kernel)
theorem fg_X6_37_1 : ab_fg RX6 37 1 11 := ⟨RX0, TX0, 13, tyX0, "WaterMen$Man", cl_1, by decide, tw_404, Or.inl rfl⟩
theorem fl_X6_37_1 : ab_fl RX6 37 1 11 (.int) false := ⟨RX0, TX0, 13, tyX0, "WaterMen$Man", cl_1, by decide, by decide +kernel, rfl, (fun h => by cases h), tw_404, Or.inl rfl⟩
theorem fg_X6_37_6 : ab_fg RX6 37 6 11 := ⟨RX5, TX5, 12, tyX5, "WaterMen$Man", cl_6, by decide, tw_404, Or.inl rfl⟩
theorem fl_X6_37_6 : ab_fl RX6 37 6 11 (.int) false := ⟨RX5, TX5, 12, tyX5, "WaterMen$Man", cl_6, by decide, by decide +kernel, rfl, (fun h => by cases h), tw_404, Or.inl rfl⟩
theorem fg_X6_37_8 : ab_fg RX6 37 8 11 := ⟨RX7, TX7, 12, tyX7, "WaterMen$Man", cl_8, by decide, tw_404, Or.inl rfl⟩
theorem fl_X6_37_8 : ab_fl RX6 37 8 11 (.int) false := ⟨RX7, TX7, 12, tyX7, "WaterMen$Man", cl_8, by decide, by decide +kernel, rfl, (fun h => by cases h), tw_404, Or.inl rfl⟩
theorem tw_405 : Cond.fieldLink RX8 265 "WaterMen$Man" "filledTime" "I" ∈ ab_T := ab_T_in (i := 405) (by decide +kernel) (by decide +kernel)
theorem fg_X8_265_1 : ab_fg RX8 265 1 11 := ⟨RX0, TX0, 13, tyX0, "WaterMen$Man", cl_1, by decide, tw_405, Or.inl rfl⟩
theorem fl_X8_265_1 : ab_fl RX8 265 1 11 (.int) false := ⟨RX0, TX0, 13, tyX0, "WaterMen$Man", cl_1, by decide, by decide +kernel, rfl, (fun h => by cases h), tw_405, Or.inl rfl⟩
theorem fg_X8_265_6 : ab_fg RX8 265 6 11 := ⟨RX5, TX5, 12, tyX5, "WaterMen$Man", cl_6, by decide, tw_405, Or.inl rfl⟩
theorem fl_X8_265_6 : ab_fl RX8 265 6 11 (.int) false := ⟨RX5, TX5, 12, tyX5, "WaterMen$Man", cl_6, by decide, by decide +kernel, rfl, (fun h => by cases h), tw_405, Or.inl rfl⟩
theorem fg_X8_265_8 : ab_fg RX8 265 8 11 := ⟨RX7, TX7, 12, tyX7, "WaterMen$Man", cl_8, by decide, tw_405, Or.inl rfl⟩
theorem fl_X8_265_8 : ab_fl RX8 265 8 11 (.int) false := ⟨RX7, TX7, 12, tyX7, "WaterMen$Man", cl_8, by decide, by decide +kernel, rfl, (fun h => by cases h), tw_405, Or.inl rfl⟩
theorem tw_795 : Cond.fieldLink RX9 119 "WaterMenModel" "fountains" "I" ∈ ab_T := ab_T_in (i := 795) (by decide +kernel) (by decide +kernel)
theorem fg_X9_119_10 : ab_fg RX9 119 10 0 := ⟨RX9, TX9, 41, tyX9, "WaterMenModel", cl_10, by decide, tw_795, Or.inl rfl⟩
theorem fl_X9_119_10 : ab_fl RX9 119 10 0 (.int) false := ⟨RX9, TX9, 41, tyX9, "WaterMenModel", cl_10, by decide, by decide +kernel, rfl, (fun h => by cases h), tw_795, Or.inl rfl⟩
theorem tw_796 : Cond.fieldLink RX9 7 "WaterMenModel" "flows" "[I" ∈ ab_T := ab_T_in (i := 796) (by decide +kernel) (by decide +kernel)
theorem fg_X9_7_10 : ab_fg RX9 7 10 1 := ⟨RX9, TX9, 41, tyX9, "WaterMenModel", cl_10, by decide, tw_796, Or.inl rfl⟩
theorem fl_X9_7_10 : ab_fl RX9 7 10 1 (.array .int) true := ⟨RX9, TX9, 41, tyX9, "WaterMenModel", cl_10, by decide, by decide +kernel, rfl, fun _ => rfl, tw_796, Or.inl rfl⟩
theorem tw_797 : Cond.fieldLink RX9 13 "WaterMenModel" "depth" "[I" ∈ ab_T := ab_T_in (i := 797) (by decide +kernel) (by decide +kernel)
theorem fg_X9_13_10 : ab_fg RX9 13 10 2 := ⟨RX9, TX9, 41, tyX9, "WaterMenModel", cl_10, by decide, tw_797, Or.inl rfl⟩
theorem fl_X9_13_10 : ab_fl RX9 13 10 2 (.array .int) true := ⟨RX9, TX9, 41, tyX9, "WaterMenModel", cl_10, by decide, by decide +kernel, rfl, fun _ => rfl, tw_797, Or.inl rfl⟩
theorem tw_798 : Cond.fieldLink RX9 16 "WaterMenModel" "isOpen" "[Z" ∈ ab_T := ab_T_in (i := 798) (by decide +kernel) (by decide +kernel)
theorem fg_X9_16_10 : ab_fg RX9 16 10 3 := ⟨RX9, TX9, 41, tyX9, "WaterMenModel", cl_10, by decide, tw_798, Or.inl rfl⟩
theorem fl_X9_16_10 : ab_fl RX9 16 10 3 (.array .boolean) true := ⟨RX9, TX9, 41, tyX9, "WaterMenModel", cl_10, by decide, by decide +kernel, rfl, fun _ => rfl, tw_798, Or.inl rfl⟩
theorem tw_799 : Cond.fieldLink RX9 20 "WaterMenModel" "ranOff" "[I" ∈ ab_T := ab_T_in (i := 799) (by decide +kernel) (by decide +kernel)
theorem fg_X9_20_10 : ab_fg RX9 20 10 4 := ⟨RX9, TX9, 41, tyX9, "WaterMenModel", cl_10, by decide, tw_799, Or.inl rfl⟩
theorem fl_X9_20_10 : ab_fl RX9 20 10 4 (.array .int) true := ⟨RX9, TX9, 41, tyX9, "WaterMenModel", cl_10, by decide, by decide +kernel, rfl, fun _ => rfl, tw_799, Or.inl rfl⟩
theorem tw_800 : Cond.fieldLink RX9 116 "WaterMenModel" "jars" "I" ∈ ab_T := ab_T_in (i := 800) (by decide +kernel) (by decide +kernel)
theorem fg_X9_116_10 : ab_fg RX9 116 10 5 := ⟨RX9, TX9, 41, tyX9, "WaterMenModel", cl_10, by decide, tw_800, Or.inl rfl⟩
theorem fl_X9_116_10 : ab_fl RX9 116 10 5 (.int) false := ⟨RX9, TX9, 41, tyX9, "WaterMenModel", cl_10, by decide, by decide +kernel, rfl, (fun h => by cases h), tw_800, Or.inl rfl⟩
theorem tw_801 : Cond.fieldLink RX9 23 "WaterMenModel" "floors" "[I" ∈ ab_T := ab_T_in (i := 801) (by decide +kernel) (by decide +kernel)
theorem fg_X9_23_10 : ab_fg RX9 23 10 6 := ⟨RX9, TX9, 41, tyX9, "WaterMenModel", cl_10, by decide, tw_801, Or.inl rfl⟩
theorem fl_X9_23_10 : ab_fl RX9 23 10 6 (.array .int) true := ⟨RX9, TX9, 41, tyX9, "WaterMenModel", cl_10, by decide, by decide +kernel, rfl, fun _ => rfl, tw_801, Or.inl rfl⟩
theorem tw_802 : Cond.fieldLink RX9 26 "WaterMenModel" "holds" "[I" ∈ ab_T := ab_T_in (i := 802) (by decide +kernel) (by decide +kernel)
theorem fg_X9_26_10 : ab_fg RX9 26 10 7 := ⟨RX9, TX9, 41, tyX9, "WaterMenModel", cl_10, by decide, tw_802, Or.inl rfl⟩
theorem fl_X9_26_10 : ab_fl RX9 26 10 7 (.array .int) true := ⟨RX9, TX9, 41, tyX9, "WaterMenModel", cl_10, by decide, by decide +kernel, rfl, fun _ => rfl, tw_802, Or.inl rfl⟩
theorem tw_803 : Cond.fieldLink RX9 29 "WaterMenModel" "away" "[I" ∈ ab_T := ab_T_in (i := 803) (by decide +kernel) (by decide +kernel)
theorem fg_X9_29_10 : ab_fg RX9 29 10 8 := ⟨RX9, TX9, 41, tyX9, "WaterMenModel", cl_10, by decide, tw_803, Or.inl rfl⟩
theorem fl_X9_29_10 : ab_fl RX9 29 10 8 (.array .int) true := ⟨RX9, TX9, 41, tyX9, "WaterMenModel", cl_10, by decide, by decide +kernel, rfl, fun _ => rfl, tw_803, Or.inl rfl⟩
theorem tw_804 : Cond.fieldLink RX9 32 "WaterMenModel" "jarWater" "[I" ∈ ab_T := ab_T_in (i := 804) (by decide +kernel) (by decide +kernel)
theorem fg_X9_32_10 : ab_fg RX9 32 10 9 := ⟨RX9, TX9, 41, tyX9, "WaterMenModel", cl_10, by decide, tw_804, Or.inl rfl⟩
theorem fl_X9_32_10 : ab_fl RX9 32 10 9 (.array .int) true := ⟨RX9, TX9, 41, tyX9, "WaterMenModel", cl_10, by decide, by decide +kernel, rfl, fun _ => rfl, tw_804, Or.inl rfl⟩
theorem tw_805 : Cond.fieldLink RX9 35 "WaterMenModel" "thirst" "[I" ∈ ab_T := ab_T_in (i := 805) (by decide +kernel) (by decide +kernel)
theorem fg_X9_35_10 : ab_fg RX9 35 10 10 := ⟨RX9, TX9, 41, tyX9, "WaterMenModel", cl_10, by decide, tw_805, Or.inl rfl⟩
theorem fl_X9_35_10 : ab_fl RX9 35 10 10 (.array .int) true := ⟨RX9, TX9, 41, tyX9, "WaterMenModel", cl_10, by decide, by decide +kernel, rfl, fun _ => rfl, tw_805, Or.inl rfl⟩
theorem tw_806 : Cond.fieldLink RX9 38 "WaterMenModel" "drunk" "[I" ∈ ab_T := ab_T_in (i := 806) (by decide +kernel) (by decide +kernel)
theorem fg_X9_38_10 : ab_fg RX9 38 10 11 := ⟨RX9, TX9, 41, tyX9, "WaterMenModel", cl_10, by decide, tw_806, Or.inl rfl⟩
theorem fl_X9_38_10 : ab_fl RX9 38 10 11 (.array .int) true := ⟨RX9, TX9, 41, tyX9, "WaterMenModel", cl_10, by decide, by decide +kernel, rfl, fun _ => rfl, tw_806, Or.inl rfl⟩
theorem tw_807 : Cond.fieldLink RX9 126 "WaterMenModel" "men" "I" ∈ ab_T := ab_T_in (i := 807) (by decide +kernel) (by decide +kernel)
theorem fg_X9_126_10 : ab_fg RX9 126 10 12 := ⟨RX9, TX9, 41, tyX9, "WaterMenModel", cl_10, by decide, tw_807, Or.inl rfl⟩
theorem fl_X9_126_10 : ab_fl RX9 126 10 12 (.int) false := ⟨RX9, TX9, 41, tyX9, "WaterMenModel", cl_10, by decide, by decide +kernel, rfl, (fun h => by cases h), tw_807, Or.inl rfl⟩
theorem tw_808 : Cond.fieldLink RX9 41 "WaterMenModel" "kinds" "[I" ∈ ab_T := ab_T_in (i := 808) (by decide +kernel) (by decide +kernel)
theorem fg_X9_41_10 : ab_fg RX9 41 10 13 := ⟨RX9, TX9, 41, tyX9, "WaterMenModel", cl_10, by decide, tw_808, Or.inl rfl⟩
theorem fl_X9_41_10 : ab_fl RX9 41 10 13 (.array .int) true := ⟨RX9, TX9, 41, tyX9, "WaterMenModel", cl_10, by decide, by decide +kernel, rfl, fun _ => rfl, tw_808, Or.inl rfl⟩
theorem tw_809 : Cond.fieldLink RX9 44 "WaterMenModel" "loads" "[I" ∈ ab_T := ab_T_in (i := 809) (by decide +kernel) (by decide +kernel)
theorem fg_X9_44_10 : ab_fg RX9 44 10 14 := ⟨RX9, TX9, 41, tyX9, "WaterMenModel", cl_10, by decide, tw_809, Or.inl rfl⟩
theorem fl_X9_44_10 : ab_fl RX9 44 10 14 (.array .int) true := ⟨RX9, TX9, 41, tyX9, "WaterMenModel", cl_10, by decide, by decide +kernel, rfl, fun _ => rfl, tw_809, Or.inl rfl⟩
theorem tw_810 : Cond.fieldLink RX9 47 "WaterMenModel" "ofFountain" "[I" ∈ ab_T := ab_T_in (i := 810) (by decide +kernel) (by decide +kernel)
theorem fg_X9_47_10 : ab_fg RX9 47 10 15 := ⟨RX9, TX9, 41, tyX9, "WaterMenModel", cl_10, by decide, tw_810, Or.inl rfl⟩
theorem fl_X9_47_10 : ab_fl RX9 47 10 15 (.array .int) true := ⟨RX9, TX9, 41, tyX9, "WaterMenModel", cl_10, by decide, by decide +kernel, rfl, fun _ => rfl, tw_810, Or.inl rfl⟩
theorem tw_811 : Cond.fieldLink RX9 50 "WaterMenModel" "ofJar" "[I" ∈ ab_T := ab_T_in (i := 811) (by decide +kernel) (by decide +kernel)
theorem fg_X9_50_10 : ab_fg RX9 50 10 16 := ⟨RX9, TX9, 41, tyX9, "WaterMenModel", cl_10, by decide, tw_811, Or.inl rfl⟩
theorem fl_X9_50_10 : ab_fl RX9 50 10 16 (.array .int) true := ⟨RX9, TX9, 41, tyX9, "WaterMenModel", cl_10, by decide, by decide +kernel, rfl, fun _ => rfl, tw_811, Or.inl rfl⟩
theorem tw_812 : Cond.fieldLink RX9 53 "WaterMenModel" "rights" "[I" ∈ ab_T := ab_T_in (i := 812) (by decide +kernel) (by decide +kernel)
theorem fg_X9_53_10 : ab_fg RX9 53 10 17 := ⟨RX9, TX9, 41, tyX9, "WaterMenModel", cl_10, by decide, tw_812, Or.inl rfl⟩
theorem fl_X9_53_10 : ab_fl RX9 53 10 17 (.array .int) true := ⟨RX9, TX9, 41, tyX9, "WaterMenModel", cl_10, by decide, by decide +kernel, rfl, fun _ => rfl, tw_812, Or.inl rfl⟩
theorem tw_813 : Cond.fieldLink RX9 56 "WaterMenModel" "paces" "[I" ∈ ab_T := ab_T_in (i := 813) (by decide +kernel) (by decide +kernel)
theorem fg_X9_56_10 : ab_fg RX9 56 10 18 := ⟨RX9, TX9, 41, tyX9, "WaterMenModel", cl_10, by decide, tw_813, Or.inl rfl⟩
theorem fl_X9_56_10 : ab_fl RX9 56 10 18 (.array .int) true := ⟨RX9, TX9, 41, tyX9, "WaterMenModel", cl_10, by decide, by decide +kernel, rfl, fun _ => rfl, tw_813, Or.inl rfl⟩
theorem tw_814 : Cond.fieldLink RX9 59 "WaterMenModel" "does" "[I" ∈ ab_T := ab_T_in (i := 814) (by decide +kernel) (by decide +kernel)
theorem fg_X9_59_10 : ab_fg RX9 59 10 19 := ⟨RX9, TX9, 41, tyX9, "WaterMenModel", cl_10, by decide, tw_814, Or.inl rfl⟩
theorem fl_X9_59_10 : ab_fl RX9 59 10 19 (.array .int) true := ⟨RX9, TX9, 41, tyX9, "WaterMenModel", cl_10, by decide, by decide +kernel, rfl, fun _ => rfl, tw_814, Or.inl rfl⟩
theorem tw_815 : Cond.fieldLink RX9 62 "WaterMenModel" "toGo" "[I" ∈ ab_T := ab_T_in (i := 815) (by decide +kernel) (by decide +kernel)
theorem fg_X9_62_10 : ab_fg RX9 62 10 20 := ⟨RX9, TX9, 41, tyX9, "WaterMenModel", cl_10, by decide, tw_815, Or.inl rfl⟩
theorem fl_X9_62_10 : ab_fl RX9 62 10 20 (.array .int) true := ⟨RX9, TX9, 41, tyX9, "WaterMenModel", cl_10, by decide, by decide +kernel, rfl, fun _ => rfl, tw_815, Or.inl rfl⟩
theorem tw_816 : Cond.fieldLink RX9 65 "WaterMenModel" "carries" "[I" ∈ ab_T := ab_T_in (i := 816) (by decide +kernel) (by decide +kernel)
theorem fg_X9_65_10 : ab_fg RX9 65 10 21 := ⟨RX9, TX9, 41, tyX9, "WaterMenModel", cl_10, by decide, tw_816, Or.inl rfl⟩
theorem fl_X9_65_10 : ab_fl RX9 65 10 21 (.array .int) true := ⟨RX9, TX9, 41, tyX9, "WaterMenModel", cl_10, by decide, by decide +kernel, rfl, fun _ => rfl, tw_816, Or.inl rfl⟩
theorem tw_817 : Cond.fieldLink RX9 68 "WaterMenModel" "earned" "[I" ∈ ab_T := ab_T_in (i := 817) (by decide +kernel) (by decide +kernel)
theorem fg_X9_68_10 : ab_fg RX9 68 10 22 := ⟨RX9, TX9, 41, tyX9, "WaterMenModel", cl_10, by decide, tw_817, Or.inl rfl⟩
theorem fl_X9_68_10 : ab_fl RX9 68 10 22 (.array .int) true := ⟨RX9, TX9, 41, tyX9, "WaterMenModel", cl_10, by decide, by decide +kernel, rfl, fun _ => rfl, tw_817, Or.inl rfl⟩
theorem tw_818 : Cond.fieldLink RX9 71 "WaterMenModel" "came" "[I" ∈ ab_T := ab_T_in (i := 818) (by decide +kernel) (by decide +kernel)
theorem fg_X9_71_10 : ab_fg RX9 71 10 23 := ⟨RX9, TX9, 41, tyX9, "WaterMenModel", cl_10, by decide, tw_818, Or.inl rfl⟩
theorem fl_X9_71_10 : ab_fl RX9 71 10 23 (.array .int) true := ⟨RX9, TX9, 41, tyX9, "WaterMenModel", cl_10, by decide, by decide +kernel, rfl, fun _ => rfl, tw_818, Or.inl rfl⟩
theorem tw_819 : Cond.fieldLink RX9 74 "WaterMenModel" "filledAt" "[I" ∈ ab_T := ab_T_in (i := 819) (by decide +kernel) (by decide +kernel)
theorem fg_X9_74_10 : ab_fg RX9 74 10 24 := ⟨RX9, TX9, 41, tyX9, "WaterMenModel", cl_10, by decide, tw_819, Or.inl rfl⟩
theorem fl_X9_74_10 : ab_fl RX9 74 10 24 (.array .int) true := ⟨RX9, TX9, 41, tyX9, "WaterMenModel", cl_10, by decide, by decide +kernel, rfl, fun _ => rfl, tw_819, Or.inl rfl⟩
theorem tw_820 : Cond.fieldLink RX9 77 "WaterMenModel" "filledWhen" "[I" ∈ ab_T := ab_T_in (i := 820) (by decide +kernel) (by decide +kernel)
theorem fg_X9_77_10 : ab_fg RX9 77 10 25 := ⟨RX9, TX9, 41, tyX9, "WaterMenModel", cl_10, by decide, tw_820, Or.inl rfl⟩
theorem fl_X9_77_10 : ab_fl RX9 77 10 25 (.array .int) true := ⟨RX9, TX9, 41, tyX9, "WaterMenModel", cl_10, by decide, by decide +kernel, rfl, fun _ => rfl, tw_820, Or.inl rfl⟩
theorem tw_821 : Cond.fieldLink RX9 133 "WaterMenModel" "coming" "I" ∈ ab_T := ab_T_in (i := 821) (by decide +kernel) (by decide +kernel)
theorem fg_X9_133_10 : ab_fg RX9 133 10 26 := ⟨RX9, TX9, 41, tyX9, "WaterMenModel", cl_10, by decide, tw_821, Or.inl rfl⟩
theorem fl_X9_133_10 : ab_fl RX9 133 10 26 (.int) false := ⟨RX9, TX9, 41, tyX9, "WaterMenModel", cl_10, by decide, by decide +kernel, rfl, (fun h => by cases h), tw_821, Or.inl rfl⟩
theorem tw_822 : Cond.fieldLink RX9 80 "WaterMenModel" "part" "I" ∈ ab_T := ab_T_in (i := 822) (by decide +kernel) (by decide +kernel)
theorem fg_X9_80_10 : ab_fg RX9 80 10 27 := ⟨RX9, TX9, 41, tyX9, "WaterMenModel", cl_10, by decide, tw_822, Or.inl rfl⟩
theorem fl_X9_80_10 : ab_fl RX9 80 10 27 (.int) false := ⟨RX9, TX9, 41, tyX9, "WaterMenModel", cl_10, by decide, by decide +kernel, rfl, (fun h => by cases h), tw_822, Or.inl rfl⟩
theorem tw_823 : Cond.fieldLink RX9 178 "WaterMenModel" "time" "I" ∈ ab_T := ab_T_in (i := 823) (by decide +kernel) (by decide +kernel)
theorem fg_X9_178_10 : ab_fg RX9 178 10 28 := ⟨RX9, TX9, 41, tyX9, "WaterMenModel", cl_10, by decide, tw_823, Or.inl rfl⟩
theorem fl_X9_178_10 : ab_fl RX9 178 10 28 (.int) false := ⟨RX9, TX9, 41, tyX9, "WaterMenModel", cl_10, by decide, by decide +kernel, rfl, (fun h => by cases h), tw_823, Or.inl rfl⟩
theorem tw_824 : Cond.fieldLink RX9 84 "WaterMenModel" "sums" "[J" ∈ ab_T := ab_T_in (i := 824) (by decide +kernel) (by decide +kernel)
theorem fg_X9_84_10 : ab_fg RX9 84 10 29 := ⟨RX9, TX9, 41, tyX9, "WaterMenModel", cl_10, by decide, tw_824, Or.inl rfl⟩
theorem fl_X9_84_10 : ab_fl RX9 84 10 29 (.array .long) true := ⟨RX9, TX9, 41, tyX9, "WaterMenModel", cl_10, by decide, by decide +kernel, rfl, fun _ => rfl, tw_824, Or.inl rfl⟩
theorem tw_825 : Cond.fieldLink RX9 88 "WaterMenModel" "tape" "[I" ∈ ab_T := ab_T_in (i := 825) (by decide +kernel) (by decide +kernel)
theorem fg_X9_88_10 : ab_fg RX9 88 10 30 := ⟨RX9, TX9, 41, tyX9, "WaterMenModel", cl_10, by decide, tw_825, Or.inl rfl⟩
theorem fl_X9_88_10 : ab_fl RX9 88 10 30 (.array .int) true := ⟨RX9, TX9, 41, tyX9, "WaterMenModel", cl_10, by decide, by decide +kernel, rfl, fun _ => rfl, tw_825, Or.inl rfl⟩
theorem tw_826 : Cond.fieldLink RX9 151 "WaterMenModel" "taped" "I" ∈ ab_T := ab_T_in (i := 826) (by decide +kernel) (by decide +kernel)
theorem fg_X9_151_10 : ab_fg RX9 151 10 31 := ⟨RX9, TX9, 41, tyX9, "WaterMenModel", cl_10, by decide, tw_826, Or.inl rfl⟩
theorem fl_X9_151_10 : ab_fl RX9 151 10 31 (.int) false := ⟨RX9, TX9, 41, tyX9, "WaterMenModel", cl_10, by decide, by decide +kernel, rfl, (fun h => by cases h), tw_826, Or.inl rfl⟩
theorem tw_827 : Cond.fieldLink RX9 154 "WaterMenModel" "at" "I" ∈ ab_T := ab_T_in (i := 827) (by decide +kernel) (by decide +kernel)
theorem fg_X9_154_10 : ab_fg RX9 154 10 32 := ⟨RX9, TX9, 41, tyX9, "WaterMenModel", cl_10, by decide, tw_827, Or.inl rfl⟩
theorem fl_X9_154_10 : ab_fl RX9 154 10 32 (.int) false := ⟨RX9, TX9, 41, tyX9, "WaterMenModel", cl_10, by decide, by decide +kernel, rfl, (fun h => by cases h), tw_827, Or.inl rfl⟩
theorem tw_828 : Cond.fieldLink RX9 91 "WaterMenModel" "prices" "[I" ∈ ab_T := ab_T_in (i := 828) (by decide +kernel) (by decide +kernel)
theorem fg_X9_91_10 : ab_fg RX9 91 10 33 := ⟨RX9, TX9, 41, tyX9, "WaterMenModel", cl_10, by decide, tw_828, Or.inl rfl⟩
theorem fl_X9_91_10 : ab_fl RX9 91 10 33 (.array .int) true := ⟨RX9, TX9, 41, tyX9, "WaterMenModel", cl_10, by decide, by decide +kernel, rfl, fun _ => rfl, tw_828, Or.inl rfl⟩
theorem tw_829 : Cond.fieldLink RX9 94 "WaterMenModel" "readPrices" "[I" ∈ ab_T := ab_T_in (i := 829) (by decide +kernel) (by decide +kernel)
theorem fg_X9_94_10 : ab_fg RX9 94 10 34 := ⟨RX9, TX9, 41, tyX9, "WaterMenModel", cl_10, by decide, tw_829, Or.inl rfl⟩
theorem fl_X9_94_10 : ab_fl RX9 94 10 34 (.array .int) true := ⟨RX9, TX9, 41, tyX9, "WaterMenModel", cl_10, by decide, by decide +kernel, rfl, fun _ => rfl, tw_829, Or.inl rfl⟩
theorem tw_830 : Cond.fieldLink RX9 185 "WaterMenModel" "pourings" "I" ∈ ab_T := ab_T_in (i := 830) (by decide +kernel) (by decide +kernel)
theorem fg_X9_185_10 : ab_fg RX9 185 10 35 := ⟨RX9, TX9, 41, tyX9, "WaterMenModel", cl_10, by decide, tw_830, Or.inl rfl⟩
theorem fl_X9_185_10 : ab_fl RX9 185 10 35 (.int) false := ⟨RX9, TX9, 41, tyX9, "WaterMenModel", cl_10, by decide, by decide +kernel, rfl, (fun h => by cases h), tw_830, Or.inl rfl⟩
theorem tw_831 : Cond.fieldLink RX9 97 "WaterMenModel" "kept" "[I" ∈ ab_T := ab_T_in (i := 831) (by decide +kernel) (by decide +kernel)
theorem fg_X9_97_10 : ab_fg RX9 97 10 36 := ⟨RX9, TX9, 41, tyX9, "WaterMenModel", cl_10, by decide, tw_831, Or.inl rfl⟩
theorem fl_X9_97_10 : ab_fl RX9 97 10 36 (.array .int) true := ⟨RX9, TX9, 41, tyX9, "WaterMenModel", cl_10, by decide, by decide +kernel, rfl, fun _ => rfl, tw_831, Or.inl rfl⟩
theorem tw_832 : Cond.fieldLink RX9 100 "WaterMenModel" "going" "[Z" ∈ ab_T := ab_T_in (i := 832) (by decide +kernel) (by decide +kernel)
theorem fg_X9_100_10 : ab_fg RX9 100 10 37 := ⟨RX9, TX9, 41, tyX9, "WaterMenModel", cl_10, by decide, tw_832, Or.inl rfl⟩
theorem fl_X9_100_10 : ab_fl RX9 100 10 37 (.array .boolean) true := ⟨RX9, TX9, 41, tyX9, "WaterMenModel", cl_10, by decide, by decide +kernel, rfl, fun _ => rfl, tw_832, Or.inl rfl⟩
theorem tw_833 : Cond.fieldLink RX9 103 "WaterMenModel" "toils" "[I" ∈ ab_T := ab_T_in (i := 833) (by decide +kernel) (by decide +kernel)
theorem fg_X9_103_10 : ab_fg RX9 103 10 38 := ⟨RX9, TX9, 41, tyX9, "WaterMenModel", cl_10, by decide, tw_833, Or.inl rfl⟩
theorem fl_X9_103_10 : ab_fl RX9 103 10 38 (.array .int) true := ⟨RX9, TX9, 41, tyX9, "WaterMenModel", cl_10, by decide, by decide +kernel, rfl, fun _ => rfl, tw_833, Or.inl rfl⟩
theorem tw_834 : Cond.fieldLink RX9 106 "WaterMenModel" "choices" "[I" ∈ ab_T := ab_T_in (i := 834) (by decide +kernel) (by decide +kernel)
theorem fg_X9_106_10 : ab_fg RX9 106 10 39 := ⟨RX9, TX9, 41, tyX9, "WaterMenModel", cl_10, by decide, tw_834, Or.inl rfl⟩
theorem fl_X9_106_10 : ab_fl RX9 106 10 39 (.array .int) true := ⟨RX9, TX9, 41, tyX9, "WaterMenModel", cl_10, by decide, by decide +kernel, rfl, fun _ => rfl, tw_834, Or.inl rfl⟩
theorem tw_835 : Cond.fieldLink RX9 109 "WaterMenModel" "toJar" "[I" ∈ ab_T := ab_T_in (i := 835) (by decide +kernel) (by decide +kernel)
theorem fg_X9_109_10 : ab_fg RX9 109 10 40 := ⟨RX9, TX9, 41, tyX9, "WaterMenModel", cl_10, by decide, tw_835, Or.inl rfl⟩
theorem fl_X9_109_10 : ab_fl RX9 109 10 40 (.array .int) true := ⟨RX9, TX9, 41, tyX9, "WaterMenModel", cl_10, by decide, by decide +kernel, rfl, fun _ => rfl, tw_835, Or.inl rfl⟩
theorem tw_40 : Cond.initialized "WaterMenLaw" ∈ ab_T := ab_T_in (i := 40) (by decide +kernel) (by decide +kernel)
theorem tw_41 : Cond.initialized RX8 ∈ ab_T := ab_T_in (i := 41) (by decide +kernel) (by decide +kernel)
theorem tw_42 : Cond.initialized RJxa1e45 ∈ ab_T := ab_T_in (i := 42) (by decide +kernel) (by decide +kernel)
theorem tw_43 : Cond.initialized RJxc12de ∈ ab_T := ab_T_in (i := 43) (by decide +kernel) (by decide +kernel)
theorem tw_44 : Cond.initialized RJx4a65c ∈ ab_T := ab_T_in (i := 44) (by decide +kernel) (by decide +kernel)
theorem tw_45 : Cond.initialized RX1 ∈ ab_T := ab_T_in (i := 45) (by decide +kernel) (by decide +kernel)
theorem tw_46 : Cond.initialized RJ7 ∈ ab_T := ab_T_in (i := 46) (by decide +kernel) (by decide +kernel)
theorem tw_47 : Cond.initialized RX6 ∈ ab_T := ab_T_in (i := 47) (by decide +kernel) (by decide +kernel)
theorem tw_48 : Cond.initialized RX3 ∈ ab_T := ab_T_in (i := 48) (by decide +kernel) (by decide +kernel)
theorem tw_49 : Cond.initialized RX9 ∈ ab_T := ab_T_in (i := 49) (by decide +kernel) (by decide +kernel)
theorem tw_50 : Cond.initialized RX2 ∈ ab_T := ab_T_in (i := 50) (by decide +kernel) (by decide +kernel)
theorem tw_51 : Cond.initialized RJ8 ∈ ab_T := ab_T_in (i := 51) (by decide +kernel) (by decide +kernel)
theorem tw_52 : Cond.initialized RJ9 ∈ ab_T := ab_T_in (i := 52) (by decide +kernel) (by decide +kernel)
theorem tw_53 : Cond.initialized RJ10 ∈ ab_T := ab_T_in (i := 53) (by decide +kernel) (by decide +kernel)
theorem tw_54 : Cond.initialized RX4 ∈ ab_T := ab_T_in (i := 54) (by decide +kernel) (by decide +kernel)
theorem tw_55 : Cond.initialized RJ15 ∈ ab_T := ab_T_in (i := 55) (by decide +kernel) (by decide +kernel)
theorem tw_56 : Cond.initialized RJ3 ∈ ab_T := ab_T_in (i := 56) (by decide +kernel) (by decide +kernel)
theorem tw_57 : Cond.initialized RX5 ∈ ab_T := ab_T_in (i := 57) (by decide +kernel) (by decide +kernel)
theorem tw_58 : Cond.initialized RX7 ∈ ab_T := ab_T_in (i := 58) (by decide +kernel) (by decide +kernel)
theorem tw_59 : Cond.initialized RX0 ∈ ab_T := ab_T_in (i := 59) (by decide +kernel) (by decide +kernel)
theorem tw_60 : Cond.initialized RJ6 ∈ ab_T := ab_T_in (i := 60) (by decide +kernel) (by decide +kernel)
theorem tw_61 : Cond.classLink "WaterMenLaw" 7 RX8 ∈ ab_T := ab_T_in (i := 61) (by decide +kernel) (by decide +kernel)
theorem tw_62 : Cond.instantiable RX8 9 ∈ ab_T := ab_T_in (i := 62) (by decide +kernel) (by decide +kernel)
theorem tw_65 : Cond.code yX8_init cX8_init 1 none ∈ ab_T := ab_T_in (i := 65) (by decide +kernel) (by decide +kernel)
theorem pm_X8_init : ab_pm Y_X8_init 0 := ⟨⟨by decide +kernel, by decide +kernel⟩, by decide +kernel, tw_65, tw_41⟩
theorem tw_63 : Cond.methodLink "WaterMenLaw" 9 yX8_init ∈ ab_T := ab_T_in (i := 63) (by decide +kernel) (by decide +kernel)
theorem tw_64 : Cond.instanceMethod yX8_init ∈ ab_T := ab_T_in (i := 64) (by decide +kernel) (by decide +kernel)
theorem cs_L_9 : ab_cI "WaterMenLaw" 9 Y_X8_init 0 := ⟨pm_X8_init, tw_63, tw_64, rfl, rfl⟩
theorem tw_66 : Cond.methodLink RX8 1 objectInit ∈ ab_T := ab_T_in (i := 66) (by decide +kernel) (by decide +kernel)
theorem tw_69 : Cond.classLink RX8 7 RJx4a65c ∈ ab_T := ab_T_in (i := 69) (by decide +kernel) (by decide +kernel)
theorem tw_70 : Cond.instantiable RJx4a65c 3 ∈ ab_T := ab_T_in (i := 70) (by decide +kernel) (by decide +kernel)
theorem tw_73 : Cond.code yJx4a65c_init_da8c8 cJx4a65c_init_da8c8 1 none ∈ ab_T := ab_T_in (i := 73) (by decide +kernel) (by decide +kernel)
theorem pm_Jx4a65c_init_da8c8 : ab_pm Y_Jx4a65c_init_da8c8 0 := ⟨⟨by decide +kernel, by decide +kernel⟩, by decide +kernel, tw_73, tw_44⟩
theorem tw_71 : Cond.methodLink RX8 9 yJx4a65c_init_da8c8 ∈ ab_T := ab_T_in (i := 71) (by decide +kernel) (by decide +kernel)
theorem tw_72 : Cond.instanceMethod yJx4a65c_init_da8c8 ∈ ab_T := ab_T_in (i := 72) (by decide +kernel) (by decide +kernel)
theorem cs_X8_9 : ab_cI RX8 9 Y_Jx4a65c_init_da8c8 0 := ⟨pm_Jx4a65c_init_da8c8, tw_71, tw_72, rfl, rfl⟩
theorem tw_76 : Cond.code yJxc12de_init_da8c8 cJxc12de_init_da8c8 1 none ∈ ab_T := ab_T_in (i := 76) (by decide +kernel) (by decide +kernel)
theorem pm_Jxc12de_init_da8c8 : ab_pm Y_Jxc12de_init_da8c8 0 := ⟨⟨by decide +kernel, by decide +kernel⟩, by decide +kernel, tw_76, tw_43⟩
theorem tw_74 : Cond.methodLink RJx4a65c 1 yJxc12de_init_da8c8 ∈ ab_T := ab_T_in (i := 74) (by decide +kernel) (by decide +kernel)
theorem tw_75 : Cond.instanceMethod yJxc12de_init_da8c8 ∈ ab_T := ab_T_in (i := 75) (by decide +kernel) (by decide +kernel)
theorem cs_Jx4a65c_1 : ab_cI RJx4a65c 1 Y_Jxc12de_init_da8c8 0 := ⟨pm_Jxc12de_init_da8c8, tw_74, tw_75, rfl, rfl⟩
theorem tw_79 : Cond.code yJxa1e45_init_da8c8 cJxa1e45_init_da8c8 1 none ∈ ab_T := ab_T_in (i := 79) (by decide +kernel) (by decide +kernel)
theorem pm_Jxa1e45_init_da8c8 : ab_pm Y_Jxa1e45_init_da8c8 0 := ⟨⟨by decide +kernel, by decide +kernel⟩, by decide +kernel, tw_79, tw_42⟩
theorem tw_77 : Cond.methodLink RJxc12de 1 yJxa1e45_init_da8c8 ∈ ab_T := ab_T_in (i := 77) (by decide +kernel) (by decide +kernel)
theorem tw_78 : Cond.instanceMethod yJxa1e45_init_da8c8 ∈ ab_T := ab_T_in (i := 78) (by decide +kernel) (by decide +kernel)
theorem cs_Jxc12de_1 : ab_cI RJxc12de 1 Y_Jxa1e45_init_da8c8 0 := ⟨pm_Jxa1e45_init_da8c8, tw_77, tw_78, rfl, rfl⟩
theorem tw_80 : Cond.methodLink RJxa1e45 1 objectInit ∈ ab_T := ab_T_in (i := 80) (by decide +kernel) (by decide +kernel)
theorem tw_95 : Cond.classLink RX8 22 RX1 ∈ ab_T := ab_T_in (i := 95) (by decide +kernel) (by decide +kernel)
theorem tw_96 : Cond.instantiable RX1 5 ∈ ab_T := ab_T_in (i := 96) (by decide +kernel) (by decide +kernel)
theorem tw_99 : Cond.code yX1_init cX1_init 1 none ∈ ab_T := ab_T_in (i := 99) (by decide +kernel) (by decide +kernel)
theorem pm_X1_init : ab_pm Y_X1_init 0 := ⟨⟨by decide +kernel, by decide +kernel⟩, by decide +kernel, tw_99, tw_45⟩
theorem tw_97 : Cond.methodLink RX8 24 yX1_init ∈ ab_T := ab_T_in (i := 97) (by decide +kernel) (by decide +kernel)
theorem tw_98 : Cond.instanceMethod yX1_init ∈ ab_T := ab_T_in (i := 98) (by decide +kernel) (by decide +kernel)
theorem cs_X8_24 : ab_cI RX8 24 Y_X1_init 0 := ⟨pm_X1_init, tw_97, tw_98, rfl, rfl⟩
theorem tw_100 : Cond.methodLink RX1 3 objectInit ∈ ab_T := ab_T_in (i := 100) (by decide +kernel) (by decide +kernel)
theorem tw_103 : Cond.code yJ7_fill_53178 cJ7_fill_53178 4 none ∈ ab_T := ab_T_in (i := 103) (by decide +kernel) (by decide +kernel)
theorem pm_J7_fill_53178 : ab_pm Y_J7_fill_53178 2 := ⟨⟨by decide +kernel, by decide +kernel⟩, by decide +kernel, tw_103, tw_46⟩
theorem tw_101 : Cond.methodLink RX1 28 yJ7_fill_53178 ∈ ab_T := ab_T_in (i := 101) (by decide +kernel) (by decide +kernel)
theorem tw_102 : Cond.static yJ7_fill_53178 ∈ ab_T := ab_T_in (i := 102) (by decide +kernel) (by decide +kernel)
theorem cs_X1_28 : ab_cS RX1 28 Y_J7_fill_53178 2 := ⟨pm_J7_fill_53178, tw_101, tw_102⟩
theorem tw_120 : Cond.arrayClass .int ∈ ab_T := ab_T_in (i := 120) (by decide +kernel) (by decide +kernel)
theorem tw_121 : Cond.classLink RX8 29 RX6 ∈ ab_T := ab_T_in (i := 121) (by decide +kernel) (by decide +kernel)
theorem tw_122 : Cond.instantiable RX6 3 ∈ ab_T := ab_T_in (i := 122) (by decide +kernel) (by decide +kernel)
theorem tw_125 : Cond.code yX6_init cX6_init 1 none ∈ ab_T := ab_T_in (i := 125) (by decide +kernel) (by decide +kernel)
theorem pm_X6_init : ab_pm Y_X6_init 0 := ⟨⟨by decide +kernel, by decide +kernel⟩, by decide +kernel, tw_125, tw_47⟩
theorem tw_124 : Cond.instanceMethod yX6_init ∈ ab_T := ab_T_in (i := 124) (by decide +kernel) (by decide +kernel)
theorem cs_X8_31 : ab_cJ RX8 31 Y_X6_init 0 := ⟨pm_X6_init, ⟨"WaterMen", ab_nest_in (i := 123) (by decide +kernel) rfl⟩, tw_124, rfl, rfl⟩
theorem tw_126 : Cond.methodLink RX6 3 objectInit ∈ ab_T := ab_T_in (i := 126) (by decide +kernel) (by decide +kernel)
theorem tw_138 : Cond.classLink RX8 36 RX3 ∈ ab_T := ab_T_in (i := 138) (by decide +kernel) (by decide +kernel)
theorem tw_139 : Cond.instantiable RX3 3 ∈ ab_T := ab_T_in (i := 139) (by decide +kernel) (by decide +kernel)
theorem tw_142 : Cond.code yX3_init cX3_init 1 none ∈ ab_T := ab_T_in (i := 142) (by decide +kernel) (by decide +kernel)
theorem pm_X3_init : ab_pm Y_X3_init 0 := ⟨⟨by decide +kernel, by decide +kernel⟩, by decide +kernel, tw_142, tw_48⟩
theorem tw_140 : Cond.methodLink RX8 38 yX3_init ∈ ab_T := ab_T_in (i := 140) (by decide +kernel) (by decide +kernel)
theorem tw_141 : Cond.instanceMethod yX3_init ∈ ab_T := ab_T_in (i := 141) (by decide +kernel) (by decide +kernel)
theorem cs_X8_38 : ab_cI RX8 38 Y_X3_init 0 := ⟨pm_X3_init, tw_140, tw_141, rfl, rfl⟩
theorem tw_143 : Cond.methodLink RX3 3 objectInit ∈ ab_T := ab_T_in (i := 143) (by decide +kernel) (by decide +kernel)
theorem tw_144 : Cond.methodLink RX3 21 yJ7_fill_53178 ∈ ab_T := ab_T_in (i := 144) (by decide +kernel) (by decide +kernel)
theorem cs_X3_21 : ab_cS RX3 21 Y_J7_fill_53178 2 := ⟨pm_J7_fill_53178, tw_144, tw_102⟩
theorem tw_183 : Cond.arrayClass .long ∈ ab_T := ab_T_in (i := 183) (by decide +kernel) (by decide +kernel)
theorem tw_187 : Cond.code yX8_fountain cX8_fountain 3 (some .int) ∈ ab_T := ab_T_in (i := 187) (by decide +kernel) (by decide +kernel)
theorem pm_X8_fountain : ab_pm Y_X8_fountain 1 := ⟨⟨by decide +kernel, by decide +kernel⟩, by decide +kernel, tw_187, tw_41⟩
theorem tw_184 : Cond.methodLink "WaterMenLaw" 13 yX8_fountain ∈ ab_T := ab_T_in (i := 184) (by decide +kernel) (by decide +kernel)
theorem tw_186 : Cond.selects RX8 yX8_fountain yX8_fountain ∈ ab_T := ab_T_in (i := 186) (by decide +kernel) (by decide +kernel)
theorem tw_185 : Cond.instanceMethod yX8_fountain ∈ ab_T := ab_T_in (i := 185) (by decide +kernel) (by decide +kernel)
theorem cs_L_13_9 : ab_cV "WaterMenLaw" 13 9 Y_X8_fountain 1 := ⟨pm_X8_fountain, RX8, TX8, 9, rfl, Or.inl ⟨rfl, tw_184, tw_185, tw_186⟩⟩
theorem tw_190 : Cond.code yX8_outside cX8_outside 3 (some .boolean) ∈ ab_T := ab_T_in (i := 190) (by decide +kernel) (by decide +kernel)
theorem pm_X8_outside : ab_pm Y_X8_outside 3 := ⟨⟨by decide +kernel, by decide +kernel⟩, by decide +kernel, tw_190, tw_41⟩
theorem tw_188 : Cond.methodLink RX8 54 yX8_outside ∈ ab_T := ab_T_in (i := 188) (by decide +kernel) (by decide +kernel)
theorem tw_189 : Cond.static yX8_outside ∈ ab_T := ab_T_in (i := 189) (by decide +kernel) (by decide +kernel)
theorem cs_X8_54 : ab_cS RX8 54 Y_X8_outside 3 := ⟨pm_X8_outside, tw_188, tw_189⟩
theorem tw_194 : Cond.code yJx4a65c_isEmpty_aae02 cJx4a65c_isEmpty_aae02 1 (some .boolean) ∈ ab_T := ab_T_in (i := 194) (by decide +kernel) (by decide +kernel)
theorem pm_Jx4a65c_isEmpty_aae02 : ab_pm Y_Jx4a65c_isEmpty_aae02 0 := ⟨⟨by decide +kernel, by decide +kernel⟩, by decide +kernel, tw_194, tw_44⟩
theorem tw_191 : Cond.methodLink RX8 58 yJx4a65c_isEmpty_aae02 ∈ ab_T := ab_T_in (i := 191) (by decide +kernel) (by decide +kernel)
theorem tw_193 : Cond.selects RJx4a65c yJx4a65c_isEmpty_aae02 yJx4a65c_isEmpty_aae02 ∈ ab_T := ab_T_in (i := 193) (by decide +kernel) (by decide +kernel)
theorem tw_192 : Cond.instanceMethod yJx4a65c_isEmpty_aae02 ∈ ab_T := ab_T_in (i := 192) (by decide +kernel) (by decide +kernel)
theorem cs_X8_58_0 : ab_cV RX8 58 0 Y_Jx4a65c_isEmpty_aae02 0 := ⟨pm_Jx4a65c_isEmpty_aae02, RJx4a65c, TJx4a65c, 3, rfl, Or.inl ⟨rfl, tw_191, tw_192, tw_193⟩⟩
theorem tw_198 : Cond.code yJx4a65c_size_8abf5 cJx4a65c_size_8abf5 1 (some .int) ∈ ab_T := ab_T_in (i := 198) (by decide +kernel) (by decide +kernel)
theorem pm_Jx4a65c_size_8abf5 : ab_pm Y_Jx4a65c_size_8abf5 0 := ⟨⟨by decide +kernel, by decide +kernel⟩, by decide +kernel, tw_198, tw_44⟩
theorem tw_195 : Cond.methodLink RX8 62 yJx4a65c_size_8abf5 ∈ ab_T := ab_T_in (i := 195) (by decide +kernel) (by decide +kernel)
theorem tw_197 : Cond.selects RJx4a65c yJx4a65c_size_8abf5 yJx4a65c_size_8abf5 ∈ ab_T := ab_T_in (i := 197) (by decide +kernel) (by decide +kernel)
theorem tw_196 : Cond.instanceMethod yJx4a65c_size_8abf5 ∈ ab_T := ab_T_in (i := 196) (by decide +kernel) (by decide +kernel)
theorem cs_X8_62_0 : ab_cV RX8 62 0 Y_Jx4a65c_size_8abf5 0 := ⟨pm_Jx4a65c_size_8abf5, RJx4a65c, TJx4a65c, 3, rfl, Or.inl ⟨rfl, tw_195, tw_196, tw_197⟩⟩
theorem tw_199 : Cond.classLink RX8 66 RX2 ∈ ab_T := ab_T_in (i := 199) (by decide +kernel) (by decide +kernel)
theorem tw_200 : Cond.instantiable RX2 6 ∈ ab_T := ab_T_in (i := 200) (by decide +kernel) (by decide +kernel)
theorem tw_203 : Cond.code yX2_init cX2_init 3 none ∈ ab_T := ab_T_in (i := 203) (by decide +kernel) (by decide +kernel)
theorem pm_X2_init : ab_pm Y_X2_init 2 := ⟨⟨by decide +kernel, by decide +kernel⟩, by decide +kernel, tw_203, tw_50⟩
theorem tw_201 : Cond.methodLink RX8 68 yX2_init ∈ ab_T := ab_T_in (i := 201) (by decide +kernel) (by decide +kernel)
theorem tw_202 : Cond.instanceMethod yX2_init ∈ ab_T := ab_T_in (i := 202) (by decide +kernel) (by decide +kernel)
theorem cs_X8_68 : ab_cI RX8 68 Y_X2_init 2 := ⟨pm_X2_init, tw_201, tw_202, rfl, rfl⟩
theorem tw_204 : Cond.methodLink RX2 1 objectInit ∈ ab_T := ab_T_in (i := 204) (by decide +kernel) (by decide +kernel)
theorem tw_205 : Cond.classLink RX2 7 RJx4a65c ∈ ab_T := ab_T_in (i := 205) (by decide +kernel) (by decide +kernel)
theorem tw_206 : Cond.methodLink RX2 9 yJx4a65c_init_da8c8 ∈ ab_T := ab_T_in (i := 206) (by decide +kernel) (by decide +kernel)
theorem cs_X2_9 : ab_cI RX2 9 Y_Jx4a65c_init_da8c8 0 := ⟨pm_Jx4a65c_init_da8c8, tw_206, tw_72, rfl, rfl⟩
theorem tw_236 : Cond.code yJx4a65c_add_9ea2d cJx4a65c_add_9ea2d 2 (some .boolean) ∈ ab_T := ab_T_in (i := 236) (by decide +kernel) (by decide +kernel)
theorem pm_Jx4a65c_add_9ea2d : ab_pm Y_Jx4a65c_add_9ea2d 1 := ⟨⟨by decide +kernel, by decide +kernel⟩, by decide +kernel, tw_236, tw_44⟩
theorem tw_233 : Cond.methodLink RX8 71 yJx4a65c_add_9ea2d ∈ ab_T := ab_T_in (i := 233) (by decide +kernel) (by decide +kernel)
theorem tw_235 : Cond.selects RJx4a65c yJx4a65c_add_9ea2d yJx4a65c_add_9ea2d ∈ ab_T := ab_T_in (i := 235) (by decide +kernel) (by decide +kernel)
theorem tw_234 : Cond.instanceMethod yJx4a65c_add_9ea2d ∈ ab_T := ab_T_in (i := 234) (by decide +kernel) (by decide +kernel)
theorem cs_X8_71_0 : ab_cV RX8 71 0 Y_Jx4a65c_add_9ea2d 1 := ⟨pm_Jx4a65c_add_9ea2d, RJx4a65c, TJx4a65c, 3, rfl, Or.inl ⟨rfl, tw_233, tw_234, tw_235⟩⟩
theorem tw_240 : Cond.code yJx4a65c_add_72be8 cJx4a65c_add_72be8 4 none ∈ ab_T := ab_T_in (i := 240) (by decide +kernel) (by decide +kernel)
theorem pm_Jx4a65c_add_72be8 : ab_pm Y_Jx4a65c_add_72be8 3 := ⟨⟨by decide +kernel, by decide +kernel⟩, by decide +kernel, tw_240, tw_44⟩
theorem tw_237 : Cond.methodLink RJx4a65c 131 yJx4a65c_add_72be8 ∈ ab_T := ab_T_in (i := 237) (by decide +kernel) (by decide +kernel)
theorem tw_0 : Cond.selects RJx4a65c yJx4a65c_add_72be8 yJx4a65c_add_72be8 ∈ ab_T := ab_T_in (i := 0) (by decide +kernel) (by decide +kernel)
theorem tw_239 : Cond.instanceMethod yJx4a65c_add_72be8 ∈ ab_T := ab_T_in (i := 239) (by decide +kernel) (by decide +kernel)
theorem cs_Jx4a65c_131_0 : ab_cV RJx4a65c 131 0 Y_Jx4a65c_add_72be8 3 := ⟨pm_Jx4a65c_add_72be8, RJx4a65c, TJx4a65c, 3, rfl, Or.inl ⟨rfl, tw_237, tw_239, tw_0⟩⟩
theorem tw_244 : Cond.code yJx4a65c_grow_d5877 cJx4a65c_grow_d5877 1 (some (.array (.object "java/lang/Object"))) ∈ ab_T := ab_T_in (i := 244) (by decide +kernel) (by decide +kernel)
theorem pm_Jx4a65c_grow_d5877 : ab_pm Y_Jx4a65c_grow_d5877 0 := ⟨⟨by decide +kernel, by decide +kernel⟩, by decide +kernel, tw_244, tw_44⟩
theorem tw_241 : Cond.methodLink RJx4a65c 129 yJx4a65c_grow_d5877 ∈ ab_T := ab_T_in (i := 241) (by decide +kernel) (by decide +kernel)
theorem tw_1 : Cond.selects RJx4a65c yJx4a65c_grow_d5877 yJx4a65c_grow_d5877 ∈ ab_T := ab_T_in (i := 1) (by decide +kernel) (by decide +kernel)
theorem tw_243 : Cond.instanceMethod yJx4a65c_grow_d5877 ∈ ab_T := ab_T_in (i := 243) (by decide +kernel) (by decide +kernel)
theorem cs_Jx4a65c_129_0 : ab_cV RJx4a65c 129 0 Y_Jx4a65c_grow_d5877 0 := ⟨pm_Jx4a65c_grow_d5877, RJx4a65c, TJx4a65c, 3, rfl, Or.inl ⟨rfl, tw_241, tw_243, tw_1⟩⟩
theorem tw_248 : Cond.code yJx4a65c_grow_92f84 cJx4a65c_grow_92f84 4 (some (.array (.object "java/lang/Object"))) ∈ ab_T := ab_T_in (i := 248) (by decide +kernel) (by decide +kernel)
theorem pm_Jx4a65c_grow_92f84 : ab_pm Y_Jx4a65c_grow_92f84 1 := ⟨⟨by decide +kernel, by decide +kernel⟩, by decide +kernel, tw_248, tw_44⟩
theorem tw_245 : Cond.methodLink RJx4a65c 69 yJx4a65c_grow_92f84 ∈ ab_T := ab_T_in (i := 245) (by decide +kernel) (by decide +kernel)
theorem tw_2 : Cond.selects RJx4a65c yJx4a65c_grow_92f84 yJx4a65c_grow_92f84 ∈ ab_T := ab_T_in (i := 2) (by decide +kernel) (by decide +kernel)
theorem tw_247 : Cond.instanceMethod yJx4a65c_grow_92f84 ∈ ab_T := ab_T_in (i := 247) (by decide +kernel) (by decide +kernel)
theorem cs_Jx4a65c_69_0 : ab_cV RJx4a65c 69 0 Y_Jx4a65c_grow_92f84 1 := ⟨pm_Jx4a65c_grow_92f84, RJx4a65c, TJx4a65c, 3, rfl, Or.inl ⟨rfl, tw_245, tw_247, tw_2⟩⟩
theorem tw_251 : Cond.code yJ8_newLength_cabcc cJ8_newLength_cabcc 4 (some .int) ∈ ab_T := ab_T_in (i := 251) (by decide +kernel) (by decide +kernel)
theorem pm_J8_newLength_cabcc : ab_pm Y_J8_newLength_cabcc 3 := ⟨⟨by decide +kernel, by decide +kernel⟩, by decide +kernel, tw_251, tw_51⟩
theorem tw_249 : Cond.methodLink RJx4a65c 73 yJ8_newLength_cabcc ∈ ab_T := ab_T_in (i := 249) (by decide +kernel) (by decide +kernel)
theorem tw_250 : Cond.static yJ8_newLength_cabcc ∈ ab_T := ab_T_in (i := 250) (by decide +kernel) (by decide +kernel)
theorem cs_Jx4a65c_73 : ab_cS RJx4a65c 73 Y_J8_newLength_cabcc 3 := ⟨pm_J8_newLength_cabcc, tw_249, tw_250⟩
theorem tw_254 : Cond.code yJ9_max_7cf53 cJ9_max_7cf53 2 (some .int) ∈ ab_T := ab_T_in (i := 254) (by decide +kernel) (by decide +kernel)
theorem pm_J9_max_7cf53 : ab_pm Y_J9_max_7cf53 2 := ⟨⟨by decide +kernel, by decide +kernel⟩, by decide +kernel, tw_254, tw_52⟩
theorem tw_252 : Cond.methodLink RJ8 194 yJ9_max_7cf53 ∈ ab_T := ab_T_in (i := 252) (by decide +kernel) (by decide +kernel)
theorem tw_253 : Cond.static yJ9_max_7cf53 ∈ ab_T := ab_T_in (i := 253) (by decide +kernel) (by decide +kernel)
theorem cs_J8_194 : ab_cS RJ8 194 Y_J9_max_7cf53 2 := ⟨pm_J9_max_7cf53, tw_252, tw_253⟩
theorem tw_255 : Cond.constant RJ8 200 (2147483639) ∈ ab_T := ab_T_in (i := 255) (by decide +kernel) (by decide +kernel)
theorem tw_258 : Cond.code yJ8_hugeLength_7cf53 cJ8_hugeLength_7cf53 3 (some .int) ∈ ab_T := ab_T_in (i := 258) (by decide +kernel) (by decide +kernel)
theorem pm_J8_hugeLength_7cf53 : ab_pm Y_J8_hugeLength_7cf53 2 := ⟨⟨by decide +kernel, by decide +kernel⟩, by decide +kernel, tw_258, tw_51⟩
theorem tw_256 : Cond.methodLink RJ8 201 yJ8_hugeLength_7cf53 ∈ ab_T := ab_T_in (i := 256) (by decide +kernel) (by decide +kernel)
theorem tw_257 : Cond.static yJ8_hugeLength_7cf53 ∈ ab_T := ab_T_in (i := 257) (by decide +kernel) (by decide +kernel)
theorem cs_J8_201 : ab_cS RJ8 201 Y_J8_hugeLength_7cf53 2 := ⟨pm_J8_hugeLength_7cf53, tw_256, tw_257⟩
theorem tw_261 : Cond.code yJ7_copyOf_1904c cJ7_copyOf_1904c 2 (some (.array (.object "java/lang/Object"))) ∈ ab_T := ab_T_in (i := 261) (by decide +kernel) (by decide +kernel)
theorem pm_J7_copyOf_1904c : ab_pm Y_J7_copyOf_1904c 2 := ⟨⟨by decide +kernel, by decide +kernel⟩, by decide +kernel, tw_261, tw_46⟩
theorem tw_259 : Cond.methodLink RJx4a65c 66 yJ7_copyOf_1904c ∈ ab_T := ab_T_in (i := 259) (by decide +kernel) (by decide +kernel)
theorem tw_260 : Cond.static yJ7_copyOf_1904c ∈ ab_T := ab_T_in (i := 260) (by decide +kernel) (by decide +kernel)
theorem cs_Jx4a65c_66 : ab_cS RJx4a65c 66 Y_J7_copyOf_1904c 2 := ⟨pm_J7_copyOf_1904c, tw_259, tw_260⟩
theorem tw_279 : Cond.code yJ7_copyOf_6403c cJ7_copyOf_6403c 4 (some (.array (.object "java/lang/Object"))) ∈ ab_T := ab_T_in (i := 279) (by decide +kernel) (by decide +kernel)
theorem pm_J7_copyOf_6403c : ab_pm Y_J7_copyOf_6403c 3 := ⟨⟨by decide +kernel, by decide +kernel⟩, by decide +kernel, tw_279, tw_46⟩
theorem tw_277 : Cond.methodLink RJ7 300 yJ7_copyOf_6403c ∈ ab_T := ab_T_in (i := 277) (by decide +kernel) (by decide +kernel)
theorem tw_278 : Cond.static yJ7_copyOf_6403c ∈ ab_T := ab_T_in (i := 278) (by decide +kernel) (by decide +kernel)
theorem cs_J7_300 : ab_cS RJ7 300 Y_J7_copyOf_6403c 3 := ⟨pm_J7_copyOf_6403c, tw_277, tw_278⟩
theorem tw_280 : Cond.classLink RJ7 110 "[Ljava/lang/Object;" ∈ ab_T := ab_T_in (i := 280) (by decide +kernel) (by decide +kernel)
theorem tw_282 : Cond.classLink RJ7 2 "java/lang/Object" ∈ ab_T := ab_T_in (i := 282) (by decide +kernel) (by decide +kernel)
theorem tw_285 : Cond.code yJ9_min_7cf53 cJ9_min_7cf53 2 (some .int) ∈ ab_T := ab_T_in (i := 285) (by decide +kernel) (by decide +kernel)
theorem pm_J9_min_7cf53 : ab_pm Y_J9_min_7cf53 2 := ⟨⟨by decide +kernel, by decide +kernel⟩, by decide +kernel, tw_285, tw_52⟩
theorem tw_283 : Cond.methodLink RJ7 304 yJ9_min_7cf53 ∈ ab_T := ab_T_in (i := 283) (by decide +kernel) (by decide +kernel)
theorem tw_284 : Cond.static yJ9_min_7cf53 ∈ ab_T := ab_T_in (i := 284) (by decide +kernel) (by decide +kernel)
theorem cs_J7_304 : ab_cS RJ7 304 Y_J9_min_7cf53 2 := ⟨pm_J9_min_7cf53, tw_283, tw_284⟩
theorem tw_287 : Cond.static arraycopyName ∈ ab_T := ab_T_in (i := 287) (by decide +kernel) (by decide +kernel)
theorem tw_288 : Cond.native arraycopyName ∈ ab_T := ab_T_in (i := 288) (by decide +kernel) (by decide +kernel)
theorem tw_289 : Cond.methodLink RJx4a65c 79 yJ9_max_7cf53 ∈ ab_T := ab_T_in (i := 289) (by decide +kernel) (by decide +kernel)
theorem cs_Jx4a65c_79 : ab_cS RJx4a65c 79 Y_J9_max_7cf53 2 := ⟨pm_J9_max_7cf53, tw_289, tw_253⟩
theorem tw_290 : Cond.classLink RJx4a65c 7 "java/lang/Object" ∈ ab_T := ab_T_in (i := 290) (by decide +kernel) (by decide +kernel)
theorem tw_294 : Cond.code yX8_jar cX8_jar 9 (some .int) ∈ ab_T := ab_T_in (i := 294) (by decide +kernel) (by decide +kernel)
theorem pm_X8_jar : ab_pm Y_X8_jar 6 := ⟨⟨by decide +kernel, by decide +kernel⟩, by decide +kernel, tw_294, tw_41⟩
theorem tw_291 : Cond.methodLink "WaterMenLaw" 18 yX8_jar ∈ ab_T := ab_T_in (i := 291) (by decide +kernel) (by decide +kernel)
theorem tw_293 : Cond.selects RX8 yX8_jar yX8_jar ∈ ab_T := ab_T_in (i := 293) (by decide +kernel) (by decide +kernel)
theorem tw_292 : Cond.instanceMethod yX8_jar ∈ ab_T := ab_T_in (i := 292) (by decide +kernel) (by decide +kernel)
theorem cs_L_18_9 : ab_cV "WaterMenLaw" 18 9 Y_X8_jar 6 := ⟨pm_X8_jar, RX8, TX8, 9, rfl, Or.inl ⟨rfl, tw_291, tw_292, tw_293⟩⟩
theorem tw_295 : Cond.classLink RX8 75 RX4 ∈ ab_T := ab_T_in (i := 295) (by decide +kernel) (by decide +kernel)
theorem tw_296 : Cond.instantiable RX4 7 ∈ ab_T := ab_T_in (i := 296) (by decide +kernel) (by decide +kernel)
theorem tw_299 : Cond.code yX4_init cX4_init 5 none ∈ ab_T := ab_T_in (i := 299) (by decide +kernel) (by decide +kernel)
theorem pm_X4_init : ab_pm Y_X4_init 4 := ⟨⟨by decide +kernel, by decide +kernel⟩, by decide +kernel, tw_299, tw_54⟩
theorem tw_297 : Cond.methodLink RX8 77 yX4_init ∈ ab_T := ab_T_in (i := 297) (by decide +kernel) (by decide +kernel)
theorem tw_298 : Cond.instanceMethod yX4_init ∈ ab_T := ab_T_in (i := 298) (by decide +kernel) (by decide +kernel)
theorem cs_X8_77 : ab_cI RX8 77 Y_X4_init 4 := ⟨pm_X4_init, tw_297, tw_298, rfl, rfl⟩
theorem tw_300 : Cond.methodLink RX4 1 objectInit ∈ ab_T := ab_T_in (i := 300) (by decide +kernel) (by decide +kernel)
theorem tw_334 : Cond.code yX8_drinks cX8_drinks 5 (some .int) ∈ ab_T := ab_T_in (i := 334) (by decide +kernel) (by decide +kernel)
theorem pm_X8_drinks : ab_pm Y_X8_drinks 2 := ⟨⟨by decide +kernel, by decide +kernel⟩, by decide +kernel, tw_334, tw_41⟩
theorem tw_331 : Cond.methodLink "WaterMenLaw" 23 yX8_drinks ∈ ab_T := ab_T_in (i := 331) (by decide +kernel) (by decide +kernel)
theorem tw_333 : Cond.selects RX8 yX8_drinks yX8_drinks ∈ ab_T := ab_T_in (i := 333) (by decide +kernel) (by decide +kernel)
theorem tw_332 : Cond.instanceMethod yX8_drinks ∈ ab_T := ab_T_in (i := 332) (by decide +kernel) (by decide +kernel)
theorem cs_L_23_9 : ab_cV "WaterMenLaw" 23 9 Y_X8_drinks 2 := ⟨pm_X8_drinks, RX8, TX8, 9, rfl, Or.inl ⟨rfl, tw_331, tw_332, tw_333⟩⟩
theorem tw_338 : Cond.code yX8_jarAt cX8_jarAt 2 (some (.object "WaterMen$Jar")) ∈ ab_T := ab_T_in (i := 338) (by decide +kernel) (by decide +kernel)
theorem pm_X8_jarAt : ab_pm Y_X8_jarAt 1 := ⟨⟨by decide +kernel, by decide +kernel⟩, by decide +kernel, tw_338, tw_41⟩
theorem tw_335 : Cond.methodLink RX8 80 yX8_jarAt ∈ ab_T := ab_T_in (i := 335) (by decide +kernel) (by decide +kernel)
theorem tw_3 : Cond.selects RX8 yX8_jarAt yX8_jarAt ∈ ab_T := ab_T_in (i := 3) (by decide +kernel) (by decide +kernel)
theorem tw_337 : Cond.instanceMethod yX8_jarAt ∈ ab_T := ab_T_in (i := 337) (by decide +kernel) (by decide +kernel)
theorem cs_X8_80_9 : ab_cV RX8 80 9 Y_X8_jarAt 1 := ⟨pm_X8_jarAt, RX8, TX8, 9, rfl, Or.inl ⟨rfl, tw_335, tw_337, tw_3⟩⟩
theorem tw_342 : Cond.code yJx4a65c_get_915e3 cJx4a65c_get_915e3 2 (some (.object "java/lang/Object")) ∈ ab_T := ab_T_in (i := 342) (by decide +kernel) (by decide +kernel)
theorem pm_Jx4a65c_get_915e3 : ab_pm Y_Jx4a65c_get_915e3 1 := ⟨⟨by decide +kernel, by decide +kernel⟩, by decide +kernel, tw_342, tw_44⟩
theorem tw_339 : Cond.methodLink RX8 187 yJx4a65c_get_915e3 ∈ ab_T := ab_T_in (i := 339) (by decide +kernel) (by decide +kernel)
theorem tw_341 : Cond.selects RJx4a65c yJx4a65c_get_915e3 yJx4a65c_get_915e3 ∈ ab_T := ab_T_in (i := 341) (by decide +kernel) (by decide +kernel)
theorem tw_340 : Cond.instanceMethod yJx4a65c_get_915e3 ∈ ab_T := ab_T_in (i := 340) (by decide +kernel) (by decide +kernel)
theorem cs_X8_187_0 : ab_cV RX8 187 0 Y_Jx4a65c_get_915e3 1 := ⟨pm_Jx4a65c_get_915e3, RJx4a65c, TJx4a65c, 3, rfl, Or.inl ⟨rfl, tw_339, tw_340, tw_341⟩⟩
theorem tw_345 : Cond.code yJ15_checkIndex_7cf53 cJ15_checkIndex_7cf53 2 (some .int) ∈ ab_T := ab_T_in (i := 345) (by decide +kernel) (by decide +kernel)
theorem pm_J15_checkIndex_7cf53 : ab_pm Y_J15_checkIndex_7cf53 2 := ⟨⟨by decide +kernel, by decide +kernel⟩, by decide +kernel, tw_345, tw_55⟩
theorem tw_343 : Cond.methodLink RJx4a65c 118 yJ15_checkIndex_7cf53 ∈ ab_T := ab_T_in (i := 343) (by decide +kernel) (by decide +kernel)
theorem tw_344 : Cond.static yJ15_checkIndex_7cf53 ∈ ab_T := ab_T_in (i := 344) (by decide +kernel) (by decide +kernel)
theorem cs_Jx4a65c_118 : ab_cS RJx4a65c 118 Y_J15_checkIndex_7cf53 2 := ⟨pm_J15_checkIndex_7cf53, tw_343, tw_344⟩
theorem tw_348 : Cond.code yJ3_checkIndex_8e157 cJ3_checkIndex_8e157 3 (some .int) ∈ ab_T := ab_T_in (i := 348) (by decide +kernel) (by decide +kernel)
theorem pm_J3_checkIndex_8e157 : ab_pm Y_J3_checkIndex_8e157 3 := ⟨⟨by decide +kernel, by decide +kernel⟩, by decide +kernel, tw_348, tw_56⟩
theorem tw_346 : Cond.methodLink RJ15 105 yJ3_checkIndex_8e157 ∈ ab_T := ab_T_in (i := 346) (by decide +kernel) (by decide +kernel)
theorem tw_347 : Cond.static yJ3_checkIndex_8e157 ∈ ab_T := ab_T_in (i := 347) (by decide +kernel) (by decide +kernel)
theorem cs_J15_105 : ab_cS RJ15 105 Y_J3_checkIndex_8e157 3 := ⟨pm_J3_checkIndex_8e157, tw_346, tw_347⟩
theorem tw_352 : Cond.code yJx4a65c_elementData_915e3 cJx4a65c_elementData_915e3 2 (some (.object "java/lang/Object")) ∈ ab_T := ab_T_in (i := 352) (by decide +kernel) (by decide +kernel)
theorem pm_Jx4a65c_elementData_915e3 : ab_pm Y_Jx4a65c_elementData_915e3 1 := ⟨⟨by decide +kernel, by decide +kernel⟩, by decide +kernel, tw_352, tw_44⟩
theorem tw_349 : Cond.methodLink RJx4a65c 123 yJx4a65c_elementData_915e3 ∈ ab_T := ab_T_in (i := 349) (by decide +kernel) (by decide +kernel)
theorem tw_351 : Cond.selects RJx4a65c yJx4a65c_elementData_915e3 yJx4a65c_elementData_915e3 ∈ ab_T := ab_T_in (i := 351) (by decide +kernel) (by decide +kernel)
theorem tw_350 : Cond.instanceMethod yJx4a65c_elementData_915e3 ∈ ab_T := ab_T_in (i := 350) (by decide +kernel) (by decide +kernel)
theorem cs_Jx4a65c_123_0 : ab_cV RJx4a65c 123 0 Y_Jx4a65c_elementData_915e3 1 := ⟨pm_Jx4a65c_elementData_915e3, RJx4a65c, TJx4a65c, 3, rfl, Or.inl ⟨rfl, tw_349, tw_350, tw_351⟩⟩
theorem tw_356 : Cond.code yX8_man cX8_man 9 (some .int) ∈ ab_T := ab_T_in (i := 356) (by decide +kernel) (by decide +kernel)
theorem pm_X8_man : ab_pm Y_X8_man 4 := ⟨⟨by decide +kernel, by decide +kernel⟩, by decide +kernel, tw_356, tw_41⟩
theorem tw_353 : Cond.methodLink "WaterMenLaw" 28 yX8_man ∈ ab_T := ab_T_in (i := 353) (by decide +kernel) (by decide +kernel)
theorem tw_355 : Cond.selects RX8 yX8_man yX8_man ∈ ab_T := ab_T_in (i := 355) (by decide +kernel) (by decide +kernel)
theorem tw_354 : Cond.instanceMethod yX8_man ∈ ab_T := ab_T_in (i := 354) (by decide +kernel) (by decide +kernel)
theorem cs_L_28_9 : ab_cV "WaterMenLaw" 28 9 Y_X8_man 4 := ⟨pm_X8_man, RX8, TX8, 9, rfl, Or.inl ⟨rfl, tw_353, tw_354, tw_355⟩⟩
theorem tw_360 : Cond.code yX8_fountainAt cX8_fountainAt 2 (some (.object "WaterMen$Fountain")) ∈ ab_T := ab_T_in (i := 360) (by decide +kernel) (by decide +kernel)
theorem pm_X8_fountainAt : ab_pm Y_X8_fountainAt 1 := ⟨⟨by decide +kernel, by decide +kernel⟩, by decide +kernel, tw_360, tw_41⟩
theorem tw_357 : Cond.methodLink RX8 87 yX8_fountainAt ∈ ab_T := ab_T_in (i := 357) (by decide +kernel) (by decide +kernel)
theorem tw_4 : Cond.selects RX8 yX8_fountainAt yX8_fountainAt ∈ ab_T := ab_T_in (i := 4) (by decide +kernel) (by decide +kernel)
theorem tw_359 : Cond.instanceMethod yX8_fountainAt ∈ ab_T := ab_T_in (i := 359) (by decide +kernel) (by decide +kernel)
theorem cs_X8_87_9 : ab_cV RX8 87 9 Y_X8_fountainAt 1 := ⟨pm_X8_fountainAt, RX8, TX8, 9, rfl, Or.inl ⟨rfl, tw_357, tw_359, tw_4⟩⟩
theorem tw_363 : Cond.code yX8_newMan cX8_newMan 5 (some (.object "WaterMen$Man")) ∈ ab_T := ab_T_in (i := 363) (by decide +kernel) (by decide +kernel)
theorem pm_X8_newMan : ab_pm Y_X8_newMan 5 := ⟨⟨by decide +kernel, by decide +kernel⟩, by decide +kernel, tw_363, tw_41⟩
theorem tw_361 : Cond.methodLink RX8 91 yX8_newMan ∈ ab_T := ab_T_in (i := 361) (by decide +kernel) (by decide +kernel)
theorem tw_362 : Cond.static yX8_newMan ∈ ab_T := ab_T_in (i := 362) (by decide +kernel) (by decide +kernel)
theorem cs_X8_91 : ab_cS RX8 91 Y_X8_newMan 5 := ⟨pm_X8_newMan, tw_361, tw_362⟩
theorem tw_364 : Cond.classLink RX8 111 RX0 ∈ ab_T := ab_T_in (i := 364) (by decide +kernel) (by decide +kernel)
theorem tw_365 : Cond.instantiable RX0 13 ∈ ab_T := ab_T_in (i := 365) (by decide +kernel) (by decide +kernel)
theorem tw_368 : Cond.code yX0_init cX0_init 5 none ∈ ab_T := ab_T_in (i := 368) (by decide +kernel) (by decide +kernel)
theorem pm_X0_init : ab_pm Y_X0_init 4 := ⟨⟨by decide +kernel, by decide +kernel⟩, by decide +kernel, tw_368, tw_59⟩
theorem tw_366 : Cond.methodLink RX8 223 yX0_init ∈ ab_T := ab_T_in (i := 366) (by decide +kernel) (by decide +kernel)
theorem tw_367 : Cond.instanceMethod yX0_init ∈ ab_T := ab_T_in (i := 367) (by decide +kernel) (by decide +kernel)
theorem cs_X8_223 : ab_cI RX8 223 Y_X0_init 4 := ⟨pm_X0_init, tw_366, tw_367, rfl, rfl⟩
theorem tw_371 : Cond.code yX7_init cX7_init 5 none ∈ ab_T := ab_T_in (i := 371) (by decide +kernel) (by decide +kernel)
theorem pm_X7_init : ab_pm Y_X7_init 4 := ⟨⟨by decide +kernel, by decide +kernel⟩, by decide +kernel, tw_371, tw_58⟩
theorem tw_369 : Cond.methodLink RX0 3 yX7_init ∈ ab_T := ab_T_in (i := 369) (by decide +kernel) (by decide +kernel)
theorem tw_370 : Cond.instanceMethod yX7_init ∈ ab_T := ab_T_in (i := 370) (by decide +kernel) (by decide +kernel)
theorem cs_X0_3 : ab_cI RX0 3 Y_X7_init 4 := ⟨pm_X7_init, tw_369, tw_370, rfl, rfl⟩
theorem tw_374 : Cond.code yX5_init cX5_init 5 none ∈ ab_T := ab_T_in (i := 374) (by decide +kernel) (by decide +kernel)
theorem pm_X5_init : ab_pm Y_X5_init 4 := ⟨⟨by decide +kernel, by decide +kernel⟩, by decide +kernel, tw_374, tw_57⟩
theorem tw_372 : Cond.methodLink RX7 3 yX5_init ∈ ab_T := ab_T_in (i := 372) (by decide +kernel) (by decide +kernel)
theorem tw_373 : Cond.instanceMethod yX5_init ∈ ab_T := ab_T_in (i := 373) (by decide +kernel) (by decide +kernel)
theorem cs_X7_3 : ab_cI RX7 3 Y_X5_init 4 := ⟨pm_X5_init, tw_372, tw_373, rfl, rfl⟩
theorem tw_375 : Cond.methodLink RX5 3 objectInit ∈ ab_T := ab_T_in (i := 375) (by decide +kernel) (by decide +kernel)
theorem tw_433 : Cond.classLink RX8 226 RX7 ∈ ab_T := ab_T_in (i := 433) (by decide +kernel) (by decide +kernel)
theorem tw_434 : Cond.instantiable RX7 12 ∈ ab_T := ab_T_in (i := 434) (by decide +kernel) (by decide +kernel)
theorem tw_435 : Cond.methodLink RX8 228 yX7_init ∈ ab_T := ab_T_in (i := 435) (by decide +kernel) (by decide +kernel)
theorem cs_X8_228 : ab_cI RX8 228 Y_X7_init 4 := ⟨pm_X7_init, tw_435, tw_370, rfl, rfl⟩
theorem tw_449 : Cond.classLink RX8 96 RX5 ∈ ab_T := ab_T_in (i := 449) (by decide +kernel) (by decide +kernel)
theorem tw_450 : Cond.instantiable RX5 12 ∈ ab_T := ab_T_in (i := 450) (by decide +kernel) (by decide +kernel)
theorem tw_451 : Cond.methodLink RX8 229 yX5_init ∈ ab_T := ab_T_in (i := 451) (by decide +kernel) (by decide +kernel)
theorem cs_X8_229 : ab_cI RX8 229 Y_X5_init 4 := ⟨pm_X5_init, tw_451, tw_373, rfl, rfl⟩
theorem tw_471 : Cond.code yX7_canGoTo cX7_canGoTo 2 (some .boolean) ∈ ab_T := ab_T_in (i := 471) (by decide +kernel) (by decide +kernel)
theorem pm_X7_canGoTo : ab_pm Y_X7_canGoTo 1 := ⟨⟨by decide +kernel, by decide +kernel⟩, by decide +kernel, tw_471, tw_58⟩
theorem tw_465 : Cond.methodLink RX8 95 yX5_canGoTo ∈ ab_T := ab_T_in (i := 465) (by decide +kernel) (by decide +kernel)
theorem tw_469 : Cond.selects RX0 yX5_canGoTo yX7_canGoTo ∈ ab_T := ab_T_in (i := 469) (by decide +kernel) (by decide +kernel)
theorem tw_470 : Cond.instanceMethod yX7_canGoTo ∈ ab_T := ab_T_in (i := 470) (by decide +kernel) (by decide +kernel)
theorem tw_468 : Cond.sameMethod "WaterMen$Man" "WaterMen$Man" "canGoTo" "(LWaterMen$Jar;)Z" ∈ ab_T := ab_T_in (i := 468) (by decide +kernel) (by decide +kernel)
theorem tw_466 : Cond.instanceMethod yX5_canGoTo ∈ ab_T := ab_T_in (i := 466) (by decide +kernel) (by decide +kernel)
theorem tw_473 : Cond.code yX5_canGoTo cX5_canGoTo 2 (some .boolean) ∈ ab_T := ab_T_in (i := 473) (by decide +kernel) (by decide +kernel)
theorem cs_X8_95_1 : ab_cV RX8 95 1 Y_X7_canGoTo 1 := ⟨pm_X7_canGoTo, RX0, TX0, 13, rfl, Or.inr ⟨yX5_canGoTo, "WaterMen$Man", cX5_canGoTo, 2, (some .boolean), ⟨by decide +kernel, by decide +kernel⟩, by decide +kernel, tw_465, tw_468, tw_466, tw_473, tw_469, tw_470⟩⟩
theorem pm_X5_canGoTo : ab_pm Y_X5_canGoTo 1 := ⟨⟨by decide +kernel, by decide +kernel⟩, by decide +kernel, tw_473, tw_57⟩
theorem tw_467 : Cond.selects RX5 yX5_canGoTo yX5_canGoTo ∈ ab_T := ab_T_in (i := 467) (by decide +kernel) (by decide +kernel)
theorem cs_X8_95_6 : ab_cV RX8 95 6 Y_X5_canGoTo 1 := ⟨pm_X5_canGoTo, RX5, TX5, 12, rfl, Or.inl ⟨rfl, tw_465, tw_466, tw_467⟩⟩
theorem tw_472 : Cond.selects RX7 yX5_canGoTo yX7_canGoTo ∈ ab_T := ab_T_in (i := 472) (by decide +kernel) (by decide +kernel)
theorem cs_X8_95_8 : ab_cV RX8 95 8 Y_X7_canGoTo 1 := ⟨pm_X7_canGoTo, RX7, TX7, 12, rfl, Or.inr ⟨yX5_canGoTo, "WaterMen$Man", cX5_canGoTo, 2, (some .boolean), ⟨by decide +kernel, by decide +kernel⟩, by decide +kernel, tw_465, tw_468, tw_466, tw_473, tw_472, tw_470⟩⟩
theorem tw_480 : Cond.code yX5_joinRow cX5_joinRow 1 none ∈ ab_T := ab_T_in (i := 480) (by decide +kernel) (by decide +kernel)
theorem pm_X5_joinRow : ab_pm Y_X5_joinRow 0 := ⟨⟨by decide +kernel, by decide +kernel⟩, by decide +kernel, tw_480, tw_57⟩
theorem tw_474 : Cond.methodLink RX8 101 yX5_joinRow ∈ ab_T := ab_T_in (i := 474) (by decide +kernel) (by decide +kernel)
theorem tw_478 : Cond.selects RX0 yX5_joinRow yX5_joinRow ∈ ab_T := ab_T_in (i := 478) (by decide +kernel) (by decide +kernel)
theorem tw_475 : Cond.instanceMethod yX5_joinRow ∈ ab_T := ab_T_in (i := 475) (by decide +kernel) (by decide +kernel)
theorem tw_477 : Cond.sameMethod "WaterMen$Man" "WaterMen$Man" "joinRow" "()V" ∈ ab_T := ab_T_in (i := 477) (by decide +kernel) (by decide +kernel)
theorem cs_X8_101_1 : ab_cV RX8 101 1 Y_X5_joinRow 0 := ⟨pm_X5_joinRow, RX0, TX0, 13, rfl, Or.inr ⟨yX5_joinRow, "WaterMen$Man", cX5_joinRow, 1, none, ⟨by decide +kernel, by decide +kernel⟩, by decide +kernel, tw_474, tw_477, tw_475, tw_480, tw_478, tw_475⟩⟩
theorem tw_476 : Cond.selects RX5 yX5_joinRow yX5_joinRow ∈ ab_T := ab_T_in (i := 476) (by decide +kernel) (by decide +kernel)
theorem cs_X8_101_6 : ab_cV RX8 101 6 Y_X5_joinRow 0 := ⟨pm_X5_joinRow, RX5, TX5, 12, rfl, Or.inl ⟨rfl, tw_474, tw_475, tw_476⟩⟩
theorem tw_479 : Cond.selects RX7 yX5_joinRow yX5_joinRow ∈ ab_T := ab_T_in (i := 479) (by decide +kernel) (by decide +kernel)
theorem cs_X8_101_8 : ab_cV RX8 101 8 Y_X5_joinRow 0 := ⟨pm_X5_joinRow, RX7, TX7, 12, rfl, Or.inr ⟨yX5_joinRow, "WaterMen$Man", cX5_joinRow, 1, none, ⟨by decide +kernel, by decide +kernel⟩, by decide +kernel, tw_474, tw_477, tw_475, tw_480, tw_479, tw_475⟩⟩
theorem tw_481 : Cond.methodLink RX5 85 yJx4a65c_add_9ea2d ∈ ab_T := ab_T_in (i := 481) (by decide +kernel) (by decide +kernel)
theorem cs_X5_85_0 : ab_cV RX5 85 0 Y_Jx4a65c_add_9ea2d 1 := ⟨pm_Jx4a65c_add_9ea2d, RJx4a65c, TJx4a65c, 3, rfl, Or.inl ⟨rfl, tw_481, tw_234, tw_235⟩⟩
theorem tw_485 : Cond.code yX8_right cX8_right 5 (some .int) ∈ ab_T := ab_T_in (i := 485) (by decide +kernel) (by decide +kernel)
theorem pm_X8_right : ab_pm Y_X8_right 2 := ⟨⟨by decide +kernel, by decide +kernel⟩, by decide +kernel, tw_485, tw_41⟩
theorem tw_482 : Cond.methodLink "WaterMenLaw" 33 yX8_right ∈ ab_T := ab_T_in (i := 482) (by decide +kernel) (by decide +kernel)
theorem tw_484 : Cond.selects RX8 yX8_right yX8_right ∈ ab_T := ab_T_in (i := 484) (by decide +kernel) (by decide +kernel)
theorem tw_483 : Cond.instanceMethod yX8_right ∈ ab_T := ab_T_in (i := 483) (by decide +kernel) (by decide +kernel)
theorem cs_L_33_9 : ab_cV "WaterMenLaw" 33 9 Y_X8_right 2 := ⟨pm_X8_right, RX8, TX8, 9, rfl, Or.inl ⟨rfl, tw_482, tw_483, tw_484⟩⟩
theorem tw_489 : Cond.code yX8_manAt cX8_manAt 2 (some (.object "WaterMen$Man")) ∈ ab_T := ab_T_in (i := 489) (by decide +kernel) (by decide +kernel)
theorem pm_X8_manAt : ab_pm Y_X8_manAt 1 := ⟨⟨by decide +kernel, by decide +kernel⟩, by decide +kernel, tw_489, tw_41⟩
theorem tw_486 : Cond.methodLink RX8 104 yX8_manAt ∈ ab_T := ab_T_in (i := 486) (by decide +kernel) (by decide +kernel)
theorem tw_5 : Cond.selects RX8 yX8_manAt yX8_manAt ∈ ab_T := ab_T_in (i := 5) (by decide +kernel) (by decide +kernel)
theorem tw_488 : Cond.instanceMethod yX8_manAt ∈ ab_T := ab_T_in (i := 488) (by decide +kernel) (by decide +kernel)
theorem cs_X8_104_9 : ab_cV RX8 104 9 Y_X8_manAt 1 := ⟨pm_X8_manAt, RX8, TX8, 9, rfl, Or.inl ⟨rfl, tw_486, tw_488, tw_5⟩⟩
theorem tw_493 : Cond.code yX8_pace cX8_pace 6 (some .int) ∈ ab_T := ab_T_in (i := 493) (by decide +kernel) (by decide +kernel)
theorem pm_X8_pace : ab_pm Y_X8_pace 2 := ⟨⟨by decide +kernel, by decide +kernel⟩, by decide +kernel, tw_493, tw_41⟩
theorem tw_490 : Cond.methodLink "WaterMenLaw" 37 yX8_pace ∈ ab_T := ab_T_in (i := 490) (by decide +kernel) (by decide +kernel)
theorem tw_492 : Cond.selects RX8 yX8_pace yX8_pace ∈ ab_T := ab_T_in (i := 492) (by decide +kernel) (by decide +kernel)
theorem tw_491 : Cond.instanceMethod yX8_pace ∈ ab_T := ab_T_in (i := 491) (by decide +kernel) (by decide +kernel)
theorem cs_L_37_9 : ab_cV "WaterMenLaw" 37 9 Y_X8_pace 2 := ⟨pm_X8_pace, RX8, TX8, 9, rfl, Or.inl ⟨rfl, tw_490, tw_491, tw_492⟩⟩
theorem tw_497 : Cond.code yX8_moves cX8_moves 7 (some .int) ∈ ab_T := ab_T_in (i := 497) (by decide +kernel) (by decide +kernel)
theorem pm_X8_moves : ab_pm Y_X8_moves 3 := ⟨⟨by decide +kernel, by decide +kernel⟩, by decide +kernel, tw_497, tw_41⟩
theorem tw_494 : Cond.methodLink "WaterMenLaw" 41 yX8_moves ∈ ab_T := ab_T_in (i := 494) (by decide +kernel) (by decide +kernel)
theorem tw_496 : Cond.selects RX8 yX8_moves yX8_moves ∈ ab_T := ab_T_in (i := 496) (by decide +kernel) (by decide +kernel)
theorem tw_495 : Cond.instanceMethod yX8_moves ∈ ab_T := ab_T_in (i := 495) (by decide +kernel) (by decide +kernel)
theorem cs_L_41_9 : ab_cV "WaterMenLaw" 41 9 Y_X8_moves 3 := ⟨pm_X8_moves, RX8, TX8, 9, rfl, Or.inl ⟨rfl, tw_494, tw_495, tw_496⟩⟩
theorem tw_504 : Cond.code yX5_leaveRow cX5_leaveRow 3 none ∈ ab_T := ab_T_in (i := 504) (by decide +kernel) (by decide +kernel)
theorem pm_X5_leaveRow : ab_pm Y_X5_leaveRow 0 := ⟨⟨by decide +kernel, by decide +kernel⟩, by decide +kernel, tw_504, tw_57⟩
theorem tw_498 : Cond.methodLink RX8 119 yX5_leaveRow ∈ ab_T := ab_T_in (i := 498) (by decide +kernel) (by decide +kernel)
theorem tw_502 : Cond.selects RX0 yX5_leaveRow yX5_leaveRow ∈ ab_T := ab_T_in (i := 502) (by decide +kernel) (by decide +kernel)
theorem tw_499 : Cond.instanceMethod yX5_leaveRow ∈ ab_T := ab_T_in (i := 499) (by decide +kernel) (by decide +kernel)
theorem tw_501 : Cond.sameMethod "WaterMen$Man" "WaterMen$Man" "leaveRow" "()V" ∈ ab_T := ab_T_in (i := 501) (by decide +kernel) (by decide +kernel)
theorem cs_X8_119_1 : ab_cV RX8 119 1 Y_X5_leaveRow 0 := ⟨pm_X5_leaveRow, RX0, TX0, 13, rfl, Or.inr ⟨yX5_leaveRow, "WaterMen$Man", cX5_leaveRow, 3, none, ⟨by decide +kernel, by decide +kernel⟩, by decide +kernel, tw_498, tw_501, tw_499, tw_504, tw_502, tw_499⟩⟩
theorem tw_500 : Cond.selects RX5 yX5_leaveRow yX5_leaveRow ∈ ab_T := ab_T_in (i := 500) (by decide +kernel) (by decide +kernel)
theorem cs_X8_119_6 : ab_cV RX8 119 6 Y_X5_leaveRow 0 := ⟨pm_X5_leaveRow, RX5, TX5, 12, rfl, Or.inl ⟨rfl, tw_498, tw_499, tw_500⟩⟩
theorem tw_503 : Cond.selects RX7 yX5_leaveRow yX5_leaveRow ∈ ab_T := ab_T_in (i := 503) (by decide +kernel) (by decide +kernel)
theorem cs_X8_119_8 : ab_cV RX8 119 8 Y_X5_leaveRow 0 := ⟨pm_X5_leaveRow, RX7, TX7, 12, rfl, Or.inr ⟨yX5_leaveRow, "WaterMen$Man", cX5_leaveRow, 3, none, ⟨by decide +kernel, by decide +kernel⟩, by decide +kernel, tw_498, tw_501, tw_499, tw_504, tw_503, tw_499⟩⟩
theorem tw_505 : Cond.methodLink RX5 91 yJx4a65c_size_8abf5 ∈ ab_T := ab_T_in (i := 505) (by decide +kernel) (by decide +kernel)
theorem cs_X5_91_0 : ab_cV RX5 91 0 Y_Jx4a65c_size_8abf5 0 := ⟨pm_Jx4a65c_size_8abf5, RJx4a65c, TJx4a65c, 3, rfl, Or.inl ⟨rfl, tw_505, tw_196, tw_197⟩⟩
theorem tw_506 : Cond.methodLink RX5 95 yJx4a65c_get_915e3 ∈ ab_T := ab_T_in (i := 506) (by decide +kernel) (by decide +kernel)
theorem cs_X5_95_0 : ab_cV RX5 95 0 Y_Jx4a65c_get_915e3 1 := ⟨pm_Jx4a65c_get_915e3, RJx4a65c, TJx4a65c, 3, rfl, Or.inl ⟨rfl, tw_506, tw_340, tw_341⟩⟩
theorem tw_510 : Cond.code yJx4a65c_remove_915e3 cJx4a65c_remove_915e3 4 (some (.object "java/lang/Object")) ∈ ab_T := ab_T_in (i := 510) (by decide +kernel) (by decide +kernel)
theorem pm_Jx4a65c_remove_915e3 : ab_pm Y_Jx4a65c_remove_915e3 1 := ⟨⟨by decide +kernel, by decide +kernel⟩, by decide +kernel, tw_510, tw_44⟩
theorem tw_507 : Cond.methodLink RX5 99 yJx4a65c_remove_915e3 ∈ ab_T := ab_T_in (i := 507) (by decide +kernel) (by decide +kernel)
theorem tw_509 : Cond.selects RJx4a65c yJx4a65c_remove_915e3 yJx4a65c_remove_915e3 ∈ ab_T := ab_T_in (i := 509) (by decide +kernel) (by decide +kernel)
theorem tw_508 : Cond.instanceMethod yJx4a65c_remove_915e3 ∈ ab_T := ab_T_in (i := 508) (by decide +kernel) (by decide +kernel)
theorem cs_X5_99_0 : ab_cV RX5 99 0 Y_Jx4a65c_remove_915e3 1 := ⟨pm_Jx4a65c_remove_915e3, RJx4a65c, TJx4a65c, 3, rfl, Or.inl ⟨rfl, tw_507, tw_508, tw_509⟩⟩
theorem tw_514 : Cond.code yJx4a65c_fastRemove_b59b0 cJx4a65c_fastRemove_b59b0 4 none ∈ ab_T := ab_T_in (i := 514) (by decide +kernel) (by decide +kernel)
theorem pm_Jx4a65c_fastRemove_b59b0 : ab_pm Y_Jx4a65c_fastRemove_b59b0 2 := ⟨⟨by decide +kernel, by decide +kernel⟩, by decide +kernel, tw_514, tw_44⟩
theorem tw_511 : Cond.methodLink RJx4a65c 144 yJx4a65c_fastRemove_b59b0 ∈ ab_T := ab_T_in (i := 511) (by decide +kernel) (by decide +kernel)
theorem tw_6 : Cond.selects RJx4a65c yJx4a65c_fastRemove_b59b0 yJx4a65c_fastRemove_b59b0 ∈ ab_T := ab_T_in (i := 6) (by decide +kernel) (by decide +kernel)
theorem tw_513 : Cond.instanceMethod yJx4a65c_fastRemove_b59b0 ∈ ab_T := ab_T_in (i := 513) (by decide +kernel) (by decide +kernel)
theorem cs_Jx4a65c_144_0 : ab_cV RJx4a65c 144 0 Y_Jx4a65c_fastRemove_b59b0 2 := ⟨pm_Jx4a65c_fastRemove_b59b0, RJx4a65c, TJx4a65c, 3, rfl, Or.inl ⟨rfl, tw_511, tw_513, tw_6⟩⟩
theorem tw_519 : Cond.code yX8_open cX8_open 5 (some .int) ∈ ab_T := ab_T_in (i := 519) (by decide +kernel) (by decide +kernel)
theorem pm_X8_open : ab_pm Y_X8_open 2 := ⟨⟨by decide +kernel, by decide +kernel⟩, by decide +kernel, tw_519, tw_41⟩
theorem tw_516 : Cond.methodLink "WaterMenLaw" 46 yX8_open ∈ ab_T := ab_T_in (i := 516) (by decide +kernel) (by decide +kernel)
theorem tw_518 : Cond.selects RX8 yX8_open yX8_open ∈ ab_T := ab_T_in (i := 518) (by decide +kernel) (by decide +kernel)
theorem tw_517 : Cond.instanceMethod yX8_open ∈ ab_T := ab_T_in (i := 517) (by decide +kernel) (by decide +kernel)
theorem cs_L_46_9 : ab_cV "WaterMenLaw" 46 9 Y_X8_open 2 := ⟨pm_X8_open, RX8, TX8, 9, rfl, Or.inl ⟨rfl, tw_516, tw_517, tw_518⟩⟩
theorem tw_523 : Cond.code yX8_drought cX8_drought 3 (some .int) ∈ ab_T := ab_T_in (i := 523) (by decide +kernel) (by decide +kernel)
theorem pm_X8_drought : ab_pm Y_X8_drought 1 := ⟨⟨by decide +kernel, by decide +kernel⟩, by decide +kernel, tw_523, tw_41⟩
theorem tw_520 : Cond.methodLink "WaterMenLaw" 51 yX8_drought ∈ ab_T := ab_T_in (i := 520) (by decide +kernel) (by decide +kernel)
theorem tw_522 : Cond.selects RX8 yX8_drought yX8_drought ∈ ab_T := ab_T_in (i := 522) (by decide +kernel) (by decide +kernel)
theorem tw_521 : Cond.instanceMethod yX8_drought ∈ ab_T := ab_T_in (i := 521) (by decide +kernel) (by decide +kernel)
theorem cs_L_51_9 : ab_cV "WaterMenLaw" 51 9 Y_X8_drought 1 := ⟨pm_X8_drought, RX8, TX8, 9, rfl, Or.inl ⟨rfl, tw_520, tw_521, tw_522⟩⟩
theorem tw_527 : Cond.code yX8_type cX8_type 4 (some .int) ∈ ab_T := ab_T_in (i := 527) (by decide +kernel) (by decide +kernel)
theorem pm_X8_type : ab_pm Y_X8_type 2 := ⟨⟨by decide +kernel, by decide +kernel⟩, by decide +kernel, tw_527, tw_41⟩
theorem tw_524 : Cond.methodLink "WaterMenLaw" 57 yX8_type ∈ ab_T := ab_T_in (i := 524) (by decide +kernel) (by decide +kernel)
theorem tw_526 : Cond.selects RX8 yX8_type yX8_type ∈ ab_T := ab_T_in (i := 526) (by decide +kernel) (by decide +kernel)
theorem tw_525 : Cond.instanceMethod yX8_type ∈ ab_T := ab_T_in (i := 525) (by decide +kernel) (by decide +kernel)
theorem cs_L_57_9 : ab_cV "WaterMenLaw" 57 9 Y_X8_type 2 := ⟨pm_X8_type, RX8, TX8, 9, rfl, Or.inl ⟨rfl, tw_524, tw_525, tw_526⟩⟩
theorem tw_531 : Cond.code yX1_append cX1_append 5 (some .int) ∈ ab_T := ab_T_in (i := 531) (by decide +kernel) (by decide +kernel)
theorem pm_X1_append : ab_pm Y_X1_append 2 := ⟨⟨by decide +kernel, by decide +kernel⟩, by decide +kernel, tw_531, tw_45⟩
theorem tw_528 : Cond.methodLink RX8 134 yX1_append ∈ ab_T := ab_T_in (i := 528) (by decide +kernel) (by decide +kernel)
theorem tw_530 : Cond.selects RX1 yX1_append yX1_append ∈ ab_T := ab_T_in (i := 530) (by decide +kernel) (by decide +kernel)
theorem tw_529 : Cond.instanceMethod yX1_append ∈ ab_T := ab_T_in (i := 529) (by decide +kernel) (by decide +kernel)
theorem cs_X8_134_2 : ab_cV RX8 134 2 Y_X1_append 2 := ⟨pm_X1_append, RX1, TX1, 5, rfl, Or.inl ⟨rfl, tw_528, tw_529, tw_530⟩⟩
theorem cs_X1_34 : ab_cN RX1 34 Y_X8_outside 3 := ⟨pm_X8_outside, ⟨"WaterMen", ab_nest_in (i := 532) (by decide +kernel) rfl⟩, tw_189⟩
theorem tw_535 : Cond.code yX1_byteOf cX1_byteOf 3 (some .int) ∈ ab_T := ab_T_in (i := 535) (by decide +kernel) (by decide +kernel)
theorem pm_X1_byteOf : ab_pm Y_X1_byteOf 2 := ⟨⟨by decide +kernel, by decide +kernel⟩, by decide +kernel, tw_535, tw_45⟩
theorem tw_533 : Cond.methodLink RX1 38 yX1_byteOf ∈ ab_T := ab_T_in (i := 533) (by decide +kernel) (by decide +kernel)
theorem tw_534 : Cond.static yX1_byteOf ∈ ab_T := ab_T_in (i := 534) (by decide +kernel) (by decide +kernel)
theorem cs_X1_38 : ab_cS RX1 38 Y_X1_byteOf 2 := ⟨pm_X1_byteOf, tw_533, tw_534⟩
theorem tw_539 : Cond.code yX8_fares cX8_fares 1 (some .int) ∈ ab_T := ab_T_in (i := 539) (by decide +kernel) (by decide +kernel)
theorem pm_X8_fares : ab_pm Y_X8_fares 0 := ⟨⟨by decide +kernel, by decide +kernel⟩, by decide +kernel, tw_539, tw_41⟩
theorem tw_536 : Cond.methodLink "WaterMenLaw" 62 yX8_fares ∈ ab_T := ab_T_in (i := 536) (by decide +kernel) (by decide +kernel)
theorem tw_538 : Cond.selects RX8 yX8_fares yX8_fares ∈ ab_T := ab_T_in (i := 538) (by decide +kernel) (by decide +kernel)
theorem tw_537 : Cond.instanceMethod yX8_fares ∈ ab_T := ab_T_in (i := 537) (by decide +kernel) (by decide +kernel)
theorem cs_L_62_9 : ab_cV "WaterMenLaw" 62 9 Y_X8_fares 0 := ⟨pm_X8_fares, RX8, TX8, 9, rfl, Or.inl ⟨rfl, tw_536, tw_537, tw_538⟩⟩
theorem tw_543 : Cond.code yX1_takeTape cX1_takeTape 3 (some .int) ∈ ab_T := ab_T_in (i := 543) (by decide +kernel) (by decide +kernel)
theorem pm_X1_takeTape : ab_pm Y_X1_takeTape 0 := ⟨⟨by decide +kernel, by decide +kernel⟩, by decide +kernel, tw_543, tw_45⟩
theorem tw_540 : Cond.methodLink RX8 138 yX1_takeTape ∈ ab_T := ab_T_in (i := 540) (by decide +kernel) (by decide +kernel)
theorem tw_542 : Cond.selects RX1 yX1_takeTape yX1_takeTape ∈ ab_T := ab_T_in (i := 542) (by decide +kernel) (by decide +kernel)
theorem tw_541 : Cond.instanceMethod yX1_takeTape ∈ ab_T := ab_T_in (i := 541) (by decide +kernel) (by decide +kernel)
theorem cs_X8_138_2 : ab_cV RX8 138 2 Y_X1_takeTape 0 := ⟨pm_X1_takeTape, RX1, TX1, 5, rfl, Or.inl ⟨rfl, tw_540, tw_541, tw_542⟩⟩
theorem tw_547 : Cond.code yX1_readClauses cX1_readClauses 2 (some .int) ∈ ab_T := ab_T_in (i := 547) (by decide +kernel) (by decide +kernel)
theorem pm_X1_readClauses : ab_pm Y_X1_readClauses 0 := ⟨⟨by decide +kernel, by decide +kernel⟩, by decide +kernel, tw_547, tw_45⟩
theorem tw_544 : Cond.methodLink RX1 42 yX1_readClauses ∈ ab_T := ab_T_in (i := 544) (by decide +kernel) (by decide +kernel)
theorem tw_7 : Cond.selects RX1 yX1_readClauses yX1_readClauses ∈ ab_T := ab_T_in (i := 7) (by decide +kernel) (by decide +kernel)
theorem tw_546 : Cond.instanceMethod yX1_readClauses ∈ ab_T := ab_T_in (i := 546) (by decide +kernel) (by decide +kernel)
theorem cs_X1_42_2 : ab_cV RX1 42 2 Y_X1_readClauses 0 := ⟨pm_X1_readClauses, RX1, TX1, 5, rfl, Or.inl ⟨rfl, tw_544, tw_546, tw_7⟩⟩
theorem tw_551 : Cond.code yX1_readClause cX1_readClause 5 (some .boolean) ∈ ab_T := ab_T_in (i := 551) (by decide +kernel) (by decide +kernel)
theorem pm_X1_readClause : ab_pm Y_X1_readClause 0 := ⟨⟨by decide +kernel, by decide +kernel⟩, by decide +kernel, tw_551, tw_45⟩
theorem tw_548 : Cond.methodLink RX1 49 yX1_readClause ∈ ab_T := ab_T_in (i := 548) (by decide +kernel) (by decide +kernel)
theorem tw_8 : Cond.selects RX1 yX1_readClause yX1_readClause ∈ ab_T := ab_T_in (i := 8) (by decide +kernel) (by decide +kernel)
theorem tw_550 : Cond.instanceMethod yX1_readClause ∈ ab_T := ab_T_in (i := 550) (by decide +kernel) (by decide +kernel)
theorem cs_X1_49_2 : ab_cV RX1 49 2 Y_X1_readClause 0 := ⟨pm_X1_readClause, RX1, TX1, 5, rfl, Or.inl ⟨rfl, tw_548, tw_550, tw_8⟩⟩
theorem tw_555 : Cond.code yX1_readNumber cX1_readNumber 5 (some .int) ∈ ab_T := ab_T_in (i := 555) (by decide +kernel) (by decide +kernel)
theorem pm_X1_readNumber : ab_pm Y_X1_readNumber 2 := ⟨⟨by decide +kernel, by decide +kernel⟩, by decide +kernel, tw_555, tw_45⟩
theorem tw_552 : Cond.methodLink RX1 60 yX1_readNumber ∈ ab_T := ab_T_in (i := 552) (by decide +kernel) (by decide +kernel)
theorem tw_9 : Cond.selects RX1 yX1_readNumber yX1_readNumber ∈ ab_T := ab_T_in (i := 9) (by decide +kernel) (by decide +kernel)
theorem tw_554 : Cond.instanceMethod yX1_readNumber ∈ ab_T := ab_T_in (i := 554) (by decide +kernel) (by decide +kernel)
theorem cs_X1_60_2 : ab_cV RX1 60 2 Y_X1_readNumber 2 := ⟨pm_X1_readNumber, RX1, TX1, 5, rfl, Or.inl ⟨rfl, tw_552, tw_554, tw_9⟩⟩
theorem tw_559 : Cond.code yX1_skipBlanks cX1_skipBlanks 1 none ∈ ab_T := ab_T_in (i := 559) (by decide +kernel) (by decide +kernel)
theorem pm_X1_skipBlanks : ab_pm Y_X1_skipBlanks 0 := ⟨⟨by decide +kernel, by decide +kernel⟩, by decide +kernel, tw_559, tw_45⟩
theorem tw_556 : Cond.methodLink RX1 64 yX1_skipBlanks ∈ ab_T := ab_T_in (i := 556) (by decide +kernel) (by decide +kernel)
theorem tw_10 : Cond.selects RX1 yX1_skipBlanks yX1_skipBlanks ∈ ab_T := ab_T_in (i := 10) (by decide +kernel) (by decide +kernel)
theorem tw_558 : Cond.instanceMethod yX1_skipBlanks ∈ ab_T := ab_T_in (i := 558) (by decide +kernel) (by decide +kernel)
theorem cs_X1_64_2 : ab_cV RX1 64 2 Y_X1_skipBlanks 0 := ⟨pm_X1_skipBlanks, RX1, TX1, 5, rfl, Or.inl ⟨rfl, tw_556, tw_558, tw_10⟩⟩
theorem tw_560 : Cond.methodLink RX1 67 yJ9_min_7cf53 ∈ ab_T := ab_T_in (i := 560) (by decide +kernel) (by decide +kernel)
theorem cs_X1_67 : ab_cS RX1 67 Y_J9_min_7cf53 2 := ⟨pm_J9_min_7cf53, tw_560, tw_284⟩
theorem tw_564 : Cond.code yX1_readSign cX1_readSign 2 (some .boolean) ∈ ab_T := ab_T_in (i := 564) (by decide +kernel) (by decide +kernel)
theorem pm_X1_readSign : ab_pm Y_X1_readSign 1 := ⟨⟨by decide +kernel, by decide +kernel⟩, by decide +kernel, tw_564, tw_45⟩
theorem tw_561 : Cond.methodLink RX1 56 yX1_readSign ∈ ab_T := ab_T_in (i := 561) (by decide +kernel) (by decide +kernel)
theorem tw_11 : Cond.selects RX1 yX1_readSign yX1_readSign ∈ ab_T := ab_T_in (i := 11) (by decide +kernel) (by decide +kernel)
theorem tw_563 : Cond.instanceMethod yX1_readSign ∈ ab_T := ab_T_in (i := 563) (by decide +kernel) (by decide +kernel)
theorem cs_X1_56_2 : ab_cV RX1 56 2 Y_X1_readSign 1 := ⟨pm_X1_readSign, RX1, TX1, 5, rfl, Or.inl ⟨rfl, tw_561, tw_563, tw_11⟩⟩
theorem tw_568 : Cond.code yX1_isAtEnd cX1_isAtEnd 1 (some .boolean) ∈ ab_T := ab_T_in (i := 568) (by decide +kernel) (by decide +kernel)
theorem pm_X1_isAtEnd : ab_pm Y_X1_isAtEnd 0 := ⟨⟨by decide +kernel, by decide +kernel⟩, by decide +kernel, tw_568, tw_45⟩
theorem tw_565 : Cond.methodLink RX1 53 yX1_isAtEnd ∈ ab_T := ab_T_in (i := 565) (by decide +kernel) (by decide +kernel)
theorem tw_12 : Cond.selects RX1 yX1_isAtEnd yX1_isAtEnd ∈ ab_T := ab_T_in (i := 12) (by decide +kernel) (by decide +kernel)
theorem tw_567 : Cond.instanceMethod yX1_isAtEnd ∈ ab_T := ab_T_in (i := 567) (by decide +kernel) (by decide +kernel)
theorem cs_X1_53_2 : ab_cV RX1 53 2 Y_X1_isAtEnd 0 := ⟨pm_X1_isAtEnd, RX1, TX1, 5, rfl, Or.inl ⟨rfl, tw_565, tw_567, tw_12⟩⟩
theorem tw_572 : Cond.code yX1_useDraft cX1_useDraft 2 none ∈ ab_T := ab_T_in (i := 572) (by decide +kernel) (by decide +kernel)
theorem pm_X1_useDraft : ab_pm Y_X1_useDraft 0 := ⟨⟨by decide +kernel, by decide +kernel⟩, by decide +kernel, tw_572, tw_45⟩
theorem tw_569 : Cond.methodLink RX1 46 yX1_useDraft ∈ ab_T := ab_T_in (i := 569) (by decide +kernel) (by decide +kernel)
theorem tw_13 : Cond.selects RX1 yX1_useDraft yX1_useDraft ∈ ab_T := ab_T_in (i := 13) (by decide +kernel) (by decide +kernel)
theorem tw_571 : Cond.instanceMethod yX1_useDraft ∈ ab_T := ab_T_in (i := 571) (by decide +kernel) (by decide +kernel)
theorem cs_X1_46_2 : ab_cV RX1 46 2 Y_X1_useDraft 0 := ⟨pm_X1_useDraft, RX1, TX1, 5, rfl, Or.inl ⟨rfl, tw_569, tw_571, tw_13⟩⟩
theorem tw_576 : Cond.code yX8_fare cX8_fare 2 (some .int) ∈ ab_T := ab_T_in (i := 576) (by decide +kernel) (by decide +kernel)
theorem pm_X8_fare : ab_pm Y_X8_fare 1 := ⟨⟨by decide +kernel, by decide +kernel⟩, by decide +kernel, tw_576, tw_41⟩
theorem tw_573 : Cond.methodLink "WaterMenLaw" 67 yX8_fare ∈ ab_T := ab_T_in (i := 573) (by decide +kernel) (by decide +kernel)
theorem tw_575 : Cond.selects RX8 yX8_fare yX8_fare ∈ ab_T := ab_T_in (i := 575) (by decide +kernel) (by decide +kernel)
theorem tw_574 : Cond.instanceMethod yX8_fare ∈ ab_T := ab_T_in (i := 574) (by decide +kernel) (by decide +kernel)
theorem cs_L_67_9 : ab_cV "WaterMenLaw" 67 9 Y_X8_fare 1 := ⟨pm_X8_fare, RX8, TX8, 9, rfl, Or.inl ⟨rfl, tw_573, tw_574, tw_575⟩⟩
theorem tw_580 : Cond.code yX1_priceOf cX1_priceOf 2 (some .int) ∈ ab_T := ab_T_in (i := 580) (by decide +kernel) (by decide +kernel)
theorem pm_X1_priceOf : ab_pm Y_X1_priceOf 1 := ⟨⟨by decide +kernel, by decide +kernel⟩, by decide +kernel, tw_580, tw_45⟩
theorem tw_577 : Cond.methodLink RX8 141 yX1_priceOf ∈ ab_T := ab_T_in (i := 577) (by decide +kernel) (by decide +kernel)
theorem tw_579 : Cond.selects RX1 yX1_priceOf yX1_priceOf ∈ ab_T := ab_T_in (i := 579) (by decide +kernel) (by decide +kernel)
theorem tw_578 : Cond.instanceMethod yX1_priceOf ∈ ab_T := ab_T_in (i := 578) (by decide +kernel) (by decide +kernel)
theorem cs_X8_141_2 : ab_cV RX8 141 2 Y_X1_priceOf 1 := ⟨pm_X1_priceOf, RX1, TX1, 5, rfl, Or.inl ⟨rfl, tw_577, tw_578, tw_579⟩⟩
theorem tw_584 : Cond.code yX8_run cX8_run 3 (some .int) ∈ ab_T := ab_T_in (i := 584) (by decide +kernel) (by decide +kernel)
theorem pm_X8_run : ab_pm Y_X8_run 1 := ⟨⟨by decide +kernel, by decide +kernel⟩, by decide +kernel, tw_584, tw_41⟩
theorem tw_581 : Cond.methodLink "WaterMenLaw" 71 yX8_run ∈ ab_T := ab_T_in (i := 581) (by decide +kernel) (by decide +kernel)
theorem tw_583 : Cond.selects RX8 yX8_run yX8_run ∈ ab_T := ab_T_in (i := 583) (by decide +kernel) (by decide +kernel)
theorem tw_582 : Cond.instanceMethod yX8_run ∈ ab_T := ab_T_in (i := 582) (by decide +kernel) (by decide +kernel)
theorem cs_L_71_9 : ab_cV "WaterMenLaw" 71 9 Y_X8_run 1 := ⟨pm_X8_run, RX8, TX8, 9, rfl, Or.inl ⟨rfl, tw_581, tw_582, tw_583⟩⟩
theorem tw_588 : Cond.code yX8_passMinute cX8_passMinute 2 none ∈ ab_T := ab_T_in (i := 588) (by decide +kernel) (by decide +kernel)
theorem pm_X8_passMinute : ab_pm Y_X8_passMinute 0 := ⟨⟨by decide +kernel, by decide +kernel⟩, by decide +kernel, tw_588, tw_41⟩
theorem tw_585 : Cond.methodLink RX8 145 yX8_passMinute ∈ ab_T := ab_T_in (i := 585) (by decide +kernel) (by decide +kernel)
theorem tw_14 : Cond.selects RX8 yX8_passMinute yX8_passMinute ∈ ab_T := ab_T_in (i := 14) (by decide +kernel) (by decide +kernel)
theorem tw_587 : Cond.instanceMethod yX8_passMinute ∈ ab_T := ab_T_in (i := 587) (by decide +kernel) (by decide +kernel)
theorem cs_X8_145_9 : ab_cV RX8 145 9 Y_X8_passMinute 0 := ⟨pm_X8_passMinute, RX8, TX8, 9, rfl, Or.inl ⟨rfl, tw_585, tw_587, tw_14⟩⟩
theorem tw_592 : Cond.code yX8_letFlow cX8_letFlow 4 none ∈ ab_T := ab_T_in (i := 592) (by decide +kernel) (by decide +kernel)
theorem pm_X8_letFlow : ab_pm Y_X8_letFlow 1 := ⟨⟨by decide +kernel, by decide +kernel⟩, by decide +kernel, tw_592, tw_41⟩
theorem tw_589 : Cond.methodLink RX8 230 yX8_letFlow ∈ ab_T := ab_T_in (i := 589) (by decide +kernel) (by decide +kernel)
theorem tw_15 : Cond.selects RX8 yX8_letFlow yX8_letFlow ∈ ab_T := ab_T_in (i := 15) (by decide +kernel) (by decide +kernel)
theorem tw_591 : Cond.instanceMethod yX8_letFlow ∈ ab_T := ab_T_in (i := 591) (by decide +kernel) (by decide +kernel)
theorem cs_X8_230_9 : ab_cV RX8 230 9 Y_X8_letFlow 1 := ⟨pm_X8_letFlow, RX8, TX8, 9, rfl, Or.inl ⟨rfl, tw_589, tw_591, tw_15⟩⟩
theorem tw_593 : Cond.methodLink RX8 247 yJ9_max_7cf53 ∈ ab_T := ab_T_in (i := 593) (by decide +kernel) (by decide +kernel)
theorem cs_X8_247 : ab_cS RX8 247 Y_J9_max_7cf53 2 := ⟨pm_J9_max_7cf53, tw_593, tw_253⟩
theorem tw_597 : Cond.code yX8_fillNext cX8_fillNext 4 none ∈ ab_T := ab_T_in (i := 597) (by decide +kernel) (by decide +kernel)
theorem pm_X8_fillNext : ab_pm Y_X8_fillNext 1 := ⟨⟨by decide +kernel, by decide +kernel⟩, by decide +kernel, tw_597, tw_41⟩
theorem tw_594 : Cond.methodLink RX8 234 yX8_fillNext ∈ ab_T := ab_T_in (i := 594) (by decide +kernel) (by decide +kernel)
theorem tw_16 : Cond.selects RX8 yX8_fillNext yX8_fillNext ∈ ab_T := ab_T_in (i := 16) (by decide +kernel) (by decide +kernel)
theorem tw_596 : Cond.instanceMethod yX8_fillNext ∈ ab_T := ab_T_in (i := 596) (by decide +kernel) (by decide +kernel)
theorem cs_X8_234_9 : ab_cV RX8 234 9 Y_X8_fillNext 1 := ⟨pm_X8_fillNext, RX8, TX8, 9, rfl, Or.inl ⟨rfl, tw_594, tw_596, tw_16⟩⟩
theorem tw_601 : Cond.code yX2_nextToFill cX2_nextToFill 4 (some (.object "WaterMen$Man")) ∈ ab_T := ab_T_in (i := 601) (by decide +kernel) (by decide +kernel)
theorem pm_X2_nextToFill : ab_pm Y_X2_nextToFill 0 := ⟨⟨by decide +kernel, by decide +kernel⟩, by decide +kernel, tw_601, tw_50⟩
theorem tw_598 : Cond.methodLink RX8 252 yX2_nextToFill ∈ ab_T := ab_T_in (i := 598) (by decide +kernel) (by decide +kernel)
theorem tw_600 : Cond.selects RX2 yX2_nextToFill yX2_nextToFill ∈ ab_T := ab_T_in (i := 600) (by decide +kernel) (by decide +kernel)
theorem tw_599 : Cond.instanceMethod yX2_nextToFill ∈ ab_T := ab_T_in (i := 599) (by decide +kernel) (by decide +kernel)
theorem cs_X8_252_3 : ab_cV RX8 252 3 Y_X2_nextToFill 0 := ⟨pm_X2_nextToFill, RX2, TX2, 6, rfl, Or.inl ⟨rfl, tw_598, tw_599, tw_600⟩⟩
theorem tw_602 : Cond.methodLink RX2 33 yJx4a65c_size_8abf5 ∈ ab_T := ab_T_in (i := 602) (by decide +kernel) (by decide +kernel)
theorem cs_X2_33_0 : ab_cV RX2 33 0 Y_Jx4a65c_size_8abf5 0 := ⟨pm_Jx4a65c_size_8abf5, RJx4a65c, TJx4a65c, 3, rfl, Or.inl ⟨rfl, tw_602, tw_196, tw_197⟩⟩
theorem tw_603 : Cond.methodLink RX2 37 yJx4a65c_get_915e3 ∈ ab_T := ab_T_in (i := 603) (by decide +kernel) (by decide +kernel)
theorem cs_X2_37_0 : ab_cV RX2 37 0 Y_Jx4a65c_get_915e3 1 := ⟨pm_Jx4a65c_get_915e3, RJx4a65c, TJx4a65c, 3, rfl, Or.inl ⟨rfl, tw_603, tw_340, tw_341⟩⟩
theorem tw_604 : Cond.classLink RX2 41 RX5 ∈ ab_T := ab_T_in (i := 604) (by decide +kernel) (by decide +kernel)
theorem tw_605 : Cond.methodLink RX8 259 yJ9_min_7cf53 ∈ ab_T := ab_T_in (i := 605) (by decide +kernel) (by decide +kernel)
theorem cs_X8_259 : ab_cS RX8 259 Y_J9_min_7cf53 2 := ⟨pm_J9_min_7cf53, tw_605, tw_284⟩
theorem tw_612 : Cond.code yX5_goUp cX5_goUp 2 none ∈ ab_T := ab_T_in (i := 612) (by decide +kernel) (by decide +kernel)
theorem pm_X5_goUp : ab_pm Y_X5_goUp 1 := ⟨⟨by decide +kernel, by decide +kernel⟩, by decide +kernel, tw_612, tw_57⟩
theorem tw_606 : Cond.methodLink RX8 268 yX5_goUp ∈ ab_T := ab_T_in (i := 606) (by decide +kernel) (by decide +kernel)
theorem tw_610 : Cond.selects RX0 yX5_goUp yX5_goUp ∈ ab_T := ab_T_in (i := 610) (by decide +kernel) (by decide +kernel)
theorem tw_607 : Cond.instanceMethod yX5_goUp ∈ ab_T := ab_T_in (i := 607) (by decide +kernel) (by decide +kernel)
theorem tw_609 : Cond.sameMethod "WaterMen$Man" "WaterMen$Man" "goUp" "(I)V" ∈ ab_T := ab_T_in (i := 609) (by decide +kernel) (by decide +kernel)
theorem cs_X8_268_1 : ab_cV RX8 268 1 Y_X5_goUp 1 := ⟨pm_X5_goUp, RX0, TX0, 13, rfl, Or.inr ⟨yX5_goUp, "WaterMen$Man", cX5_goUp, 2, none, ⟨by decide +kernel, by decide +kernel⟩, by decide +kernel, tw_606, tw_609, tw_607, tw_612, tw_610, tw_607⟩⟩
theorem tw_608 : Cond.selects RX5 yX5_goUp yX5_goUp ∈ ab_T := ab_T_in (i := 608) (by decide +kernel) (by decide +kernel)
theorem cs_X8_268_6 : ab_cV RX8 268 6 Y_X5_goUp 1 := ⟨pm_X5_goUp, RX5, TX5, 12, rfl, Or.inl ⟨rfl, tw_606, tw_607, tw_608⟩⟩
theorem tw_611 : Cond.selects RX7 yX5_goUp yX5_goUp ∈ ab_T := ab_T_in (i := 611) (by decide +kernel) (by decide +kernel)
theorem cs_X8_268_8 : ab_cV RX8 268 8 Y_X5_goUp 1 := ⟨pm_X5_goUp, RX7, TX7, 12, rfl, Or.inr ⟨yX5_goUp, "WaterMen$Man", cX5_goUp, 2, none, ⟨by decide +kernel, by decide +kernel⟩, by decide +kernel, tw_606, tw_609, tw_607, tw_612, tw_611, tw_607⟩⟩
theorem tw_619 : Cond.code yX5_wayUp cX5_wayUp 2 (some .int) ∈ ab_T := ab_T_in (i := 619) (by decide +kernel) (by decide +kernel)
theorem pm_X5_wayUp : ab_pm Y_X5_wayUp 1 := ⟨⟨by decide +kernel, by decide +kernel⟩, by decide +kernel, tw_619, tw_57⟩
theorem tw_613 : Cond.methodLink RX5 74 yX5_wayUp ∈ ab_T := ab_T_in (i := 613) (by decide +kernel) (by decide +kernel)
theorem tw_617 : Cond.selects RX0 yX5_wayUp yX5_wayUp ∈ ab_T := ab_T_in (i := 617) (by decide +kernel) (by decide +kernel)
theorem tw_614 : Cond.instanceMethod yX5_wayUp ∈ ab_T := ab_T_in (i := 614) (by decide +kernel) (by decide +kernel)
theorem tw_616 : Cond.sameMethod "WaterMen$Man" "WaterMen$Man" "wayUp" "(LWaterMen$Jar;)I" ∈ ab_T := ab_T_in (i := 616) (by decide +kernel) (by decide +kernel)
theorem cs_X5_74_1 : ab_cV RX5 74 1 Y_X5_wayUp 1 := ⟨pm_X5_wayUp, RX0, TX0, 13, rfl, Or.inr ⟨yX5_wayUp, "WaterMen$Man", cX5_wayUp, 2, (some .int), ⟨by decide +kernel, by decide +kernel⟩, by decide +kernel, tw_613, tw_616, tw_614, tw_619, tw_617, tw_614⟩⟩
theorem tw_615 : Cond.selects RX5 yX5_wayUp yX5_wayUp ∈ ab_T := ab_T_in (i := 615) (by decide +kernel) (by decide +kernel)
theorem cs_X5_74_6 : ab_cV RX5 74 6 Y_X5_wayUp 1 := ⟨pm_X5_wayUp, RX5, TX5, 12, rfl, Or.inl ⟨rfl, tw_613, tw_614, tw_615⟩⟩
theorem tw_618 : Cond.selects RX7 yX5_wayUp yX5_wayUp ∈ ab_T := ab_T_in (i := 618) (by decide +kernel) (by decide +kernel)
theorem cs_X5_74_8 : ab_cV RX5 74 8 Y_X5_wayUp 1 := ⟨pm_X5_wayUp, RX7, TX7, 12, rfl, Or.inr ⟨yX5_wayUp, "WaterMen$Man", cX5_wayUp, 2, (some .int), ⟨by decide +kernel, by decide +kernel⟩, by decide +kernel, tw_613, tw_616, tw_614, tw_619, tw_618, tw_614⟩⟩
theorem tw_626 : Cond.code yX5_wayDown cX5_wayDown 2 (some .int) ∈ ab_T := ab_T_in (i := 626) (by decide +kernel) (by decide +kernel)
theorem pm_X5_wayDown : ab_pm Y_X5_wayDown 1 := ⟨⟨by decide +kernel, by decide +kernel⟩, by decide +kernel, tw_626, tw_57⟩
theorem tw_620 : Cond.methodLink RX5 55 yX5_wayDown ∈ ab_T := ab_T_in (i := 620) (by decide +kernel) (by decide +kernel)
theorem tw_624 : Cond.selects RX0 yX5_wayDown yX5_wayDown ∈ ab_T := ab_T_in (i := 624) (by decide +kernel) (by decide +kernel)
theorem tw_621 : Cond.instanceMethod yX5_wayDown ∈ ab_T := ab_T_in (i := 621) (by decide +kernel) (by decide +kernel)
theorem tw_623 : Cond.sameMethod "WaterMen$Man" "WaterMen$Man" "wayDown" "(LWaterMen$Jar;)I" ∈ ab_T := ab_T_in (i := 623) (by decide +kernel) (by decide +kernel)
theorem cs_X5_55_1 : ab_cV RX5 55 1 Y_X5_wayDown 1 := ⟨pm_X5_wayDown, RX0, TX0, 13, rfl, Or.inr ⟨yX5_wayDown, "WaterMen$Man", cX5_wayDown, 2, (some .int), ⟨by decide +kernel, by decide +kernel⟩, by decide +kernel, tw_620, tw_623, tw_621, tw_626, tw_624, tw_621⟩⟩
theorem tw_622 : Cond.selects RX5 yX5_wayDown yX5_wayDown ∈ ab_T := ab_T_in (i := 622) (by decide +kernel) (by decide +kernel)
theorem cs_X5_55_6 : ab_cV RX5 55 6 Y_X5_wayDown 1 := ⟨pm_X5_wayDown, RX5, TX5, 12, rfl, Or.inl ⟨rfl, tw_620, tw_621, tw_622⟩⟩
theorem tw_625 : Cond.selects RX7 yX5_wayDown yX5_wayDown ∈ ab_T := ab_T_in (i := 625) (by decide +kernel) (by decide +kernel)
theorem cs_X5_55_8 : ab_cV RX5 55 8 Y_X5_wayDown 1 := ⟨pm_X5_wayDown, RX7, TX7, 12, rfl, Or.inr ⟨yX5_wayDown, "WaterMen$Man", cX5_wayDown, 2, (some .int), ⟨by decide +kernel, by decide +kernel⟩, by decide +kernel, tw_620, tw_623, tw_621, tw_626, tw_625, tw_621⟩⟩
theorem tw_630 : Cond.code yX4_minutesFrom cX4_minutesFrom 3 (some .int) ∈ ab_T := ab_T_in (i := 630) (by decide +kernel) (by decide +kernel)
theorem pm_X4_minutesFrom : ab_pm Y_X4_minutesFrom 1 := ⟨⟨by decide +kernel, by decide +kernel⟩, by decide +kernel, tw_630, tw_54⟩
theorem tw_627 : Cond.methodLink RX5 63 yX4_minutesFrom ∈ ab_T := ab_T_in (i := 627) (by decide +kernel) (by decide +kernel)
theorem tw_629 : Cond.selects RX4 yX4_minutesFrom yX4_minutesFrom ∈ ab_T := ab_T_in (i := 629) (by decide +kernel) (by decide +kernel)
theorem tw_628 : Cond.instanceMethod yX4_minutesFrom ∈ ab_T := ab_T_in (i := 628) (by decide +kernel) (by decide +kernel)
theorem cs_X5_63_5 : ab_cV RX5 63 5 Y_X4_minutesFrom 1 := ⟨pm_X4_minutesFrom, RX4, TX4, 7, rfl, Or.inl ⟨rfl, tw_627, tw_628, tw_629⟩⟩
theorem tw_637 : Cond.code yX0_walkTime cX0_walkTime 2 (some .int) ∈ ab_T := ab_T_in (i := 637) (by decide +kernel) (by decide +kernel)
theorem pm_X0_walkTime : ab_pm Y_X0_walkTime 1 := ⟨⟨by decide +kernel, by decide +kernel⟩, by decide +kernel, tw_637, tw_59⟩
theorem tw_631 : Cond.methodLink RX5 67 yX5_walkTime ∈ ab_T := ab_T_in (i := 631) (by decide +kernel) (by decide +kernel)
theorem tw_635 : Cond.selects RX0 yX5_walkTime yX0_walkTime ∈ ab_T := ab_T_in (i := 635) (by decide +kernel) (by decide +kernel)
theorem tw_636 : Cond.instanceMethod yX0_walkTime ∈ ab_T := ab_T_in (i := 636) (by decide +kernel) (by decide +kernel)
theorem tw_634 : Cond.sameMethod "WaterMen$Man" "WaterMen$Man" "walkTime" "(I)I" ∈ ab_T := ab_T_in (i := 634) (by decide +kernel) (by decide +kernel)
theorem tw_632 : Cond.instanceMethod yX5_walkTime ∈ ab_T := ab_T_in (i := 632) (by decide +kernel) (by decide +kernel)
theorem tw_642 : Cond.code yX5_walkTime cX5_walkTime 2 (some .int) ∈ ab_T := ab_T_in (i := 642) (by decide +kernel) (by decide +kernel)
theorem cs_X5_67_1 : ab_cV RX5 67 1 Y_X0_walkTime 1 := ⟨pm_X0_walkTime, RX0, TX0, 13, rfl, Or.inr ⟨yX5_walkTime, "WaterMen$Man", cX5_walkTime, 2, (some .int), ⟨by decide +kernel, by decide +kernel⟩, by decide +kernel, tw_631, tw_634, tw_632, tw_642, tw_635, tw_636⟩⟩
theorem pm_X5_walkTime : ab_pm Y_X5_walkTime 1 := ⟨⟨by decide +kernel, by decide +kernel⟩, by decide +kernel, tw_642, tw_57⟩
theorem tw_633 : Cond.selects RX5 yX5_walkTime yX5_walkTime ∈ ab_T := ab_T_in (i := 633) (by decide +kernel) (by decide +kernel)
theorem cs_X5_67_6 : ab_cV RX5 67 6 Y_X5_walkTime 1 := ⟨pm_X5_walkTime, RX5, TX5, 12, rfl, Or.inl ⟨rfl, tw_631, tw_632, tw_633⟩⟩
theorem tw_641 : Cond.selects RX7 yX5_walkTime yX5_walkTime ∈ ab_T := ab_T_in (i := 641) (by decide +kernel) (by decide +kernel)
theorem cs_X5_67_8 : ab_cV RX5 67 8 Y_X5_walkTime 1 := ⟨pm_X5_walkTime, RX7, TX7, 12, rfl, Or.inr ⟨yX5_walkTime, "WaterMen$Man", cX5_walkTime, 2, (some .int), ⟨by decide +kernel, by decide +kernel⟩, by decide +kernel, tw_631, tw_634, tw_632, tw_642, tw_641, tw_632⟩⟩
theorem tw_640 : Cond.code yX8_cutUp cX8_cutUp 2 (some .int) ∈ ab_T := ab_T_in (i := 640) (by decide +kernel) (by decide +kernel)
theorem pm_X8_cutUp : ab_pm Y_X8_cutUp 2 := ⟨⟨by decide +kernel, by decide +kernel⟩, by decide +kernel, tw_640, tw_41⟩
theorem tw_639 : Cond.static yX8_cutUp ∈ ab_T := ab_T_in (i := 639) (by decide +kernel) (by decide +kernel)
theorem cs_X0_15 : ab_cN RX0 15 Y_X8_cutUp 2 := ⟨pm_X8_cutUp, ⟨"WaterMen", ab_nest_in (i := 638) (by decide +kernel) rfl⟩, tw_639⟩
theorem tw_649 : Cond.code yX0_climbTime cX0_climbTime 2 (some .int) ∈ ab_T := ab_T_in (i := 649) (by decide +kernel) (by decide +kernel)
theorem pm_X0_climbTime : ab_pm Y_X0_climbTime 1 := ⟨⟨by decide +kernel, by decide +kernel⟩, by decide +kernel, tw_649, tw_59⟩
theorem tw_643 : Cond.methodLink RX5 59 yX5_climbTime ∈ ab_T := ab_T_in (i := 643) (by decide +kernel) (by decide +kernel)
theorem tw_647 : Cond.selects RX0 yX5_climbTime yX0_climbTime ∈ ab_T := ab_T_in (i := 647) (by decide +kernel) (by decide +kernel)
theorem tw_648 : Cond.instanceMethod yX0_climbTime ∈ ab_T := ab_T_in (i := 648) (by decide +kernel) (by decide +kernel)
theorem tw_646 : Cond.sameMethod "WaterMen$Man" "WaterMen$Man" "climbTime" "(I)I" ∈ ab_T := ab_T_in (i := 646) (by decide +kernel) (by decide +kernel)
theorem tw_644 : Cond.instanceMethod yX5_climbTime ∈ ab_T := ab_T_in (i := 644) (by decide +kernel) (by decide +kernel)
theorem tw_654 : Cond.code yX5_climbTime cX5_climbTime 2 (some .int) ∈ ab_T := ab_T_in (i := 654) (by decide +kernel) (by decide +kernel)
theorem cs_X5_59_1 : ab_cV RX5 59 1 Y_X0_climbTime 1 := ⟨pm_X0_climbTime, RX0, TX0, 13, rfl, Or.inr ⟨yX5_climbTime, "WaterMen$Man", cX5_climbTime, 2, (some .int), ⟨by decide +kernel, by decide +kernel⟩, by decide +kernel, tw_643, tw_646, tw_644, tw_654, tw_647, tw_648⟩⟩
theorem pm_X5_climbTime : ab_pm Y_X5_climbTime 1 := ⟨⟨by decide +kernel, by decide +kernel⟩, by decide +kernel, tw_654, tw_57⟩
theorem tw_645 : Cond.selects RX5 yX5_climbTime yX5_climbTime ∈ ab_T := ab_T_in (i := 645) (by decide +kernel) (by decide +kernel)
theorem cs_X5_59_6 : ab_cV RX5 59 6 Y_X5_climbTime 1 := ⟨pm_X5_climbTime, RX5, TX5, 12, rfl, Or.inl ⟨rfl, tw_643, tw_644, tw_645⟩⟩
theorem tw_652 : Cond.code yX7_climbTime cX7_climbTime 2 (some .int) ∈ ab_T := ab_T_in (i := 652) (by decide +kernel) (by decide +kernel)
theorem pm_X7_climbTime : ab_pm Y_X7_climbTime 1 := ⟨⟨by decide +kernel, by decide +kernel⟩, by decide +kernel, tw_652, tw_58⟩
theorem tw_650 : Cond.selects RX7 yX5_climbTime yX7_climbTime ∈ ab_T := ab_T_in (i := 650) (by decide +kernel) (by decide +kernel)
theorem tw_651 : Cond.instanceMethod yX7_climbTime ∈ ab_T := ab_T_in (i := 651) (by decide +kernel) (by decide +kernel)
theorem cs_X5_59_8 : ab_cV RX5 59 8 Y_X7_climbTime 1 := ⟨pm_X7_climbTime, RX7, TX7, 12, rfl, Or.inr ⟨yX5_climbTime, "WaterMen$Man", cX5_climbTime, 2, (some .int), ⟨by decide +kernel, by decide +kernel⟩, by decide +kernel, tw_643, tw_646, tw_644, tw_654, tw_650, tw_651⟩⟩
theorem cs_X7_9 : ab_cN RX7 9 Y_X8_cutUp 2 := ⟨pm_X8_cutUp, ⟨"WaterMen", ab_nest_in (i := 653) (by decide +kernel) rfl⟩, tw_639⟩
theorem tw_658 : Cond.code yX8_walk cX8_walk 2 none ∈ ab_T := ab_T_in (i := 658) (by decide +kernel) (by decide +kernel)
theorem pm_X8_walk : ab_pm Y_X8_walk 1 := ⟨⟨by decide +kernel, by decide +kernel⟩, by decide +kernel, tw_658, tw_41⟩
theorem tw_655 : Cond.methodLink RX8 237 yX8_walk ∈ ab_T := ab_T_in (i := 655) (by decide +kernel) (by decide +kernel)
theorem tw_17 : Cond.selects RX8 yX8_walk yX8_walk ∈ ab_T := ab_T_in (i := 17) (by decide +kernel) (by decide +kernel)
theorem tw_657 : Cond.instanceMethod yX8_walk ∈ ab_T := ab_T_in (i := 657) (by decide +kernel) (by decide +kernel)
theorem cs_X8_237_9 : ab_cV RX8 237 9 Y_X8_walk 1 := ⟨pm_X8_walk, RX8, TX8, 9, rfl, Or.inl ⟨rfl, tw_655, tw_657, tw_17⟩⟩
theorem tw_662 : Cond.code yX8_pour cX8_pour 5 none ∈ ab_T := ab_T_in (i := 662) (by decide +kernel) (by decide +kernel)
theorem pm_X8_pour : ab_pm Y_X8_pour 1 := ⟨⟨by decide +kernel, by decide +kernel⟩, by decide +kernel, tw_662, tw_41⟩
theorem tw_659 : Cond.methodLink RX8 275 yX8_pour ∈ ab_T := ab_T_in (i := 659) (by decide +kernel) (by decide +kernel)
theorem tw_18 : Cond.selects RX8 yX8_pour yX8_pour ∈ ab_T := ab_T_in (i := 18) (by decide +kernel) (by decide +kernel)
theorem tw_661 : Cond.instanceMethod yX8_pour ∈ ab_T := ab_T_in (i := 661) (by decide +kernel) (by decide +kernel)
theorem cs_X8_275_9 : ab_cV RX8 275 9 Y_X8_pour 1 := ⟨pm_X8_pour, RX8, TX8, 9, rfl, Or.inl ⟨rfl, tw_659, tw_661, tw_18⟩⟩
theorem tw_666 : Cond.code yX6_keep cX6_keep 5 none ∈ ab_T := ab_T_in (i := 666) (by decide +kernel) (by decide +kernel)
theorem pm_X6_keep : ab_pm Y_X6_keep 3 := ⟨⟨by decide +kernel, by decide +kernel⟩, by decide +kernel, tw_666, tw_47⟩
theorem tw_663 : Cond.methodLink RX8 284 yX6_keep ∈ ab_T := ab_T_in (i := 663) (by decide +kernel) (by decide +kernel)
theorem tw_665 : Cond.selects RX6 yX6_keep yX6_keep ∈ ab_T := ab_T_in (i := 665) (by decide +kernel) (by decide +kernel)
theorem tw_664 : Cond.instanceMethod yX6_keep ∈ ab_T := ab_T_in (i := 664) (by decide +kernel) (by decide +kernel)
theorem cs_X8_284_7 : ab_cV RX8 284 7 Y_X6_keep 3 := ⟨pm_X6_keep, RX6, TX6, 3, rfl, Or.inl ⟨rfl, tw_663, tw_664, tw_665⟩⟩
theorem tw_667 : Cond.methodLink RX6 40 yJ9_min_7cf53 ∈ ab_T := ab_T_in (i := 667) (by decide +kernel) (by decide +kernel)
theorem cs_X6_40 : ab_cS RX6 40 Y_J9_min_7cf53 2 := ⟨pm_J9_min_7cf53, tw_667, tw_284⟩
theorem tw_674 : Cond.code yX5_goDown cX5_goDown 1 none ∈ ab_T := ab_T_in (i := 674) (by decide +kernel) (by decide +kernel)
theorem pm_X5_goDown : ab_pm Y_X5_goDown 0 := ⟨⟨by decide +kernel, by decide +kernel⟩, by decide +kernel, tw_674, tw_57⟩
theorem tw_668 : Cond.methodLink RX8 191 yX5_goDown ∈ ab_T := ab_T_in (i := 668) (by decide +kernel) (by decide +kernel)
theorem tw_672 : Cond.selects RX0 yX5_goDown yX5_goDown ∈ ab_T := ab_T_in (i := 672) (by decide +kernel) (by decide +kernel)
theorem tw_669 : Cond.instanceMethod yX5_goDown ∈ ab_T := ab_T_in (i := 669) (by decide +kernel) (by decide +kernel)
theorem tw_671 : Cond.sameMethod "WaterMen$Man" "WaterMen$Man" "goDown" "()V" ∈ ab_T := ab_T_in (i := 671) (by decide +kernel) (by decide +kernel)
theorem cs_X8_191_1 : ab_cV RX8 191 1 Y_X5_goDown 0 := ⟨pm_X5_goDown, RX0, TX0, 13, rfl, Or.inr ⟨yX5_goDown, "WaterMen$Man", cX5_goDown, 1, none, ⟨by decide +kernel, by decide +kernel⟩, by decide +kernel, tw_668, tw_671, tw_669, tw_674, tw_672, tw_669⟩⟩
theorem tw_670 : Cond.selects RX5 yX5_goDown yX5_goDown ∈ ab_T := ab_T_in (i := 670) (by decide +kernel) (by decide +kernel)
theorem cs_X8_191_6 : ab_cV RX8 191 6 Y_X5_goDown 0 := ⟨pm_X5_goDown, RX5, TX5, 12, rfl, Or.inl ⟨rfl, tw_668, tw_669, tw_670⟩⟩
theorem tw_673 : Cond.selects RX7 yX5_goDown yX5_goDown ∈ ab_T := ab_T_in (i := 673) (by decide +kernel) (by decide +kernel)
theorem cs_X8_191_8 : ab_cV RX8 191 8 Y_X5_goDown 0 := ⟨pm_X5_goDown, RX7, TX7, 12, rfl, Or.inr ⟨yX5_goDown, "WaterMen$Man", cX5_goDown, 1, none, ⟨by decide +kernel, by decide +kernel⟩, by decide +kernel, tw_668, tw_671, tw_669, tw_674, tw_673, tw_669⟩⟩
theorem tw_678 : Cond.code yX4_drinkOnce cX4_drinkOnce 2 (some .int) ∈ ab_T := ab_T_in (i := 678) (by decide +kernel) (by decide +kernel)
theorem pm_X4_drinkOnce : ab_pm Y_X4_drinkOnce 0 := ⟨⟨by decide +kernel, by decide +kernel⟩, by decide +kernel, tw_678, tw_54⟩
theorem tw_675 : Cond.methodLink RX8 241 yX4_drinkOnce ∈ ab_T := ab_T_in (i := 675) (by decide +kernel) (by decide +kernel)
theorem tw_677 : Cond.selects RX4 yX4_drinkOnce yX4_drinkOnce ∈ ab_T := ab_T_in (i := 677) (by decide +kernel) (by decide +kernel)
theorem tw_676 : Cond.instanceMethod yX4_drinkOnce ∈ ab_T := ab_T_in (i := 676) (by decide +kernel) (by decide +kernel)
theorem cs_X8_241_5 : ab_cV RX8 241 5 Y_X4_drinkOnce 0 := ⟨pm_X4_drinkOnce, RX4, TX4, 7, rfl, Or.inl ⟨rfl, tw_675, tw_676, tw_677⟩⟩
theorem tw_679 : Cond.methodLink RX4 35 yJ9_min_7cf53 ∈ ab_T := ab_T_in (i := 679) (by decide +kernel) (by decide +kernel)
theorem cs_X4_35 : ab_cS RX4 35 Y_J9_min_7cf53 2 := ⟨pm_J9_min_7cf53, tw_679, tw_284⟩
theorem tw_683 : Cond.code yX8_told cX8_told 4 (some .int) ∈ ab_T := ab_T_in (i := 683) (by decide +kernel) (by decide +kernel)
theorem pm_X8_told : ab_pm Y_X8_told 2 := ⟨⟨by decide +kernel, by decide +kernel⟩, by decide +kernel, tw_683, tw_41⟩
theorem tw_680 : Cond.methodLink "WaterMenLaw" 75 yX8_told ∈ ab_T := ab_T_in (i := 680) (by decide +kernel) (by decide +kernel)
theorem tw_682 : Cond.selects RX8 yX8_told yX8_told ∈ ab_T := ab_T_in (i := 682) (by decide +kernel) (by decide +kernel)
theorem tw_681 : Cond.instanceMethod yX8_told ∈ ab_T := ab_T_in (i := 681) (by decide +kernel) (by decide +kernel)
theorem cs_L_75_9 : ab_cV "WaterMenLaw" 75 9 Y_X8_told 2 := ⟨pm_X8_told, RX8, TX8, 9, rfl, Or.inl ⟨rfl, tw_680, tw_681, tw_682⟩⟩
theorem tw_687 : Cond.code yX2_countAhead cX2_countAhead 6 (some .int) ∈ ab_T := ab_T_in (i := 687) (by decide +kernel) (by decide +kernel)
theorem pm_X2_countAhead : ab_pm Y_X2_countAhead 1 := ⟨⟨by decide +kernel, by decide +kernel⟩, by decide +kernel, tw_687, tw_50⟩
theorem tw_684 : Cond.methodLink RX8 148 yX2_countAhead ∈ ab_T := ab_T_in (i := 684) (by decide +kernel) (by decide +kernel)
theorem tw_686 : Cond.selects RX2 yX2_countAhead yX2_countAhead ∈ ab_T := ab_T_in (i := 686) (by decide +kernel) (by decide +kernel)
theorem tw_685 : Cond.instanceMethod yX2_countAhead ∈ ab_T := ab_T_in (i := 685) (by decide +kernel) (by decide +kernel)
theorem cs_X8_148_3 : ab_cV RX8 148 3 Y_X2_countAhead 1 := ⟨pm_X2_countAhead, RX2, TX2, 6, rfl, Or.inl ⟨rfl, tw_684, tw_685, tw_686⟩⟩
theorem tw_688 : Cond.methodLink RX8 165 yX5_wayUp ∈ ab_T := ab_T_in (i := 688) (by decide +kernel) (by decide +kernel)
theorem cs_X8_165_1 : ab_cV RX8 165 1 Y_X5_wayUp 1 := ⟨pm_X5_wayUp, RX0, TX0, 13, rfl, Or.inr ⟨yX5_wayUp, "WaterMen$Man", cX5_wayUp, 2, (some .int), ⟨by decide +kernel, by decide +kernel⟩, by decide +kernel, tw_688, tw_616, tw_614, tw_619, tw_617, tw_614⟩⟩
theorem cs_X8_165_6 : ab_cV RX8 165 6 Y_X5_wayUp 1 := ⟨pm_X5_wayUp, RX5, TX5, 12, rfl, Or.inl ⟨rfl, tw_688, tw_614, tw_615⟩⟩
theorem cs_X8_165_8 : ab_cV RX8 165 8 Y_X5_wayUp 1 := ⟨pm_X5_wayUp, RX7, TX7, 12, rfl, Or.inr ⟨yX5_wayUp, "WaterMen$Man", cX5_wayUp, 2, (some .int), ⟨by decide +kernel, by decide +kernel⟩, by decide +kernel, tw_688, tw_616, tw_614, tw_619, tw_618, tw_614⟩⟩
theorem tw_689 : Cond.methodLink RX8 169 yX5_wayDown ∈ ab_T := ab_T_in (i := 689) (by decide +kernel) (by decide +kernel)
theorem cs_X8_169_1 : ab_cV RX8 169 1 Y_X5_wayDown 1 := ⟨pm_X5_wayDown, RX0, TX0, 13, rfl, Or.inr ⟨yX5_wayDown, "WaterMen$Man", cX5_wayDown, 2, (some .int), ⟨by decide +kernel, by decide +kernel⟩, by decide +kernel, tw_689, tw_623, tw_621, tw_626, tw_624, tw_621⟩⟩
theorem cs_X8_169_6 : ab_cV RX8 169 6 Y_X5_wayDown 1 := ⟨pm_X5_wayDown, RX5, TX5, 12, rfl, Or.inl ⟨rfl, tw_689, tw_621, tw_622⟩⟩
theorem cs_X8_169_8 : ab_cV RX8 169 8 Y_X5_wayDown 1 := ⟨pm_X5_wayDown, RX7, TX7, 12, rfl, Or.inr ⟨yX5_wayDown, "WaterMen$Man", cX5_wayDown, 2, (some .int), ⟨by decide +kernel, by decide +kernel⟩, by decide +kernel, tw_689, tw_623, tw_621, tw_626, tw_625, tw_621⟩⟩
theorem tw_696 : Cond.code yX0_kind cX0_kind 1 (some .int) ∈ ab_T := ab_T_in (i := 696) (by decide +kernel) (by decide +kernel)
theorem pm_X0_kind : ab_pm Y_X0_kind 0 := ⟨⟨by decide +kernel, by decide +kernel⟩, by decide +kernel, tw_696, tw_59⟩
theorem tw_690 : Cond.methodLink RX8 172 yX5_kind ∈ ab_T := ab_T_in (i := 690) (by decide +kernel) (by decide +kernel)
theorem tw_694 : Cond.selects RX0 yX5_kind yX0_kind ∈ ab_T := ab_T_in (i := 694) (by decide +kernel) (by decide +kernel)
theorem tw_695 : Cond.instanceMethod yX0_kind ∈ ab_T := ab_T_in (i := 695) (by decide +kernel) (by decide +kernel)
theorem tw_693 : Cond.sameMethod "WaterMen$Man" "WaterMen$Man" "kind" "()I" ∈ ab_T := ab_T_in (i := 693) (by decide +kernel) (by decide +kernel)
theorem tw_691 : Cond.instanceMethod yX5_kind ∈ ab_T := ab_T_in (i := 691) (by decide +kernel) (by decide +kernel)
theorem tw_700 : Cond.code yX5_kind cX5_kind 1 (some .int) ∈ ab_T := ab_T_in (i := 700) (by decide +kernel) (by decide +kernel)
theorem cs_X8_172_1 : ab_cV RX8 172 1 Y_X0_kind 0 := ⟨pm_X0_kind, RX0, TX0, 13, rfl, Or.inr ⟨yX5_kind, "WaterMen$Man", cX5_kind, 1, (some .int), ⟨by decide +kernel, by decide +kernel⟩, by decide +kernel, tw_690, tw_693, tw_691, tw_700, tw_694, tw_695⟩⟩
theorem pm_X5_kind : ab_pm Y_X5_kind 0 := ⟨⟨by decide +kernel, by decide +kernel⟩, by decide +kernel, tw_700, tw_57⟩
theorem tw_692 : Cond.selects RX5 yX5_kind yX5_kind ∈ ab_T := ab_T_in (i := 692) (by decide +kernel) (by decide +kernel)
theorem cs_X8_172_6 : ab_cV RX8 172 6 Y_X5_kind 0 := ⟨pm_X5_kind, RX5, TX5, 12, rfl, Or.inl ⟨rfl, tw_690, tw_691, tw_692⟩⟩
theorem tw_699 : Cond.code yX7_kind cX7_kind 1 (some .int) ∈ ab_T := ab_T_in (i := 699) (by decide +kernel) (by decide +kernel)
theorem pm_X7_kind : ab_pm Y_X7_kind 0 := ⟨⟨by decide +kernel, by decide +kernel⟩, by decide +kernel, tw_699, tw_58⟩
theorem tw_697 : Cond.selects RX7 yX5_kind yX7_kind ∈ ab_T := ab_T_in (i := 697) (by decide +kernel) (by decide +kernel)
theorem tw_698 : Cond.instanceMethod yX7_kind ∈ ab_T := ab_T_in (i := 698) (by decide +kernel) (by decide +kernel)
theorem cs_X8_172_8 : ab_cV RX8 172 8 Y_X7_kind 0 := ⟨pm_X7_kind, RX7, TX7, 12, rfl, Or.inr ⟨yX5_kind, "WaterMen$Man", cX5_kind, 1, (some .int), ⟨by decide +kernel, by decide +kernel⟩, by decide +kernel, tw_690, tw_693, tw_691, tw_700, tw_697, tw_698⟩⟩
theorem tw_704 : Cond.code yX8_water cX8_water 4 (some .int) ∈ ab_T := ab_T_in (i := 704) (by decide +kernel) (by decide +kernel)
theorem pm_X8_water : ab_pm Y_X8_water 2 := ⟨⟨by decide +kernel, by decide +kernel⟩, by decide +kernel, tw_704, tw_41⟩
theorem tw_701 : Cond.methodLink "WaterMenLaw" 79 yX8_water ∈ ab_T := ab_T_in (i := 701) (by decide +kernel) (by decide +kernel)
theorem tw_703 : Cond.selects RX8 yX8_water yX8_water ∈ ab_T := ab_T_in (i := 703) (by decide +kernel) (by decide +kernel)
theorem tw_702 : Cond.instanceMethod yX8_water ∈ ab_T := ab_T_in (i := 702) (by decide +kernel) (by decide +kernel)
theorem cs_L_79_9 : ab_cV "WaterMenLaw" 79 9 Y_X8_water 2 := ⟨pm_X8_water, RX8, TX8, 9, rfl, Or.inl ⟨rfl, tw_701, tw_702, tw_703⟩⟩
theorem tw_708 : Cond.code yX8_sum cX8_sum 2 (some .long) ∈ ab_T := ab_T_in (i := 708) (by decide +kernel) (by decide +kernel)
theorem pm_X8_sum : ab_pm Y_X8_sum 1 := ⟨⟨by decide +kernel, by decide +kernel⟩, by decide +kernel, tw_708, tw_41⟩
theorem tw_705 : Cond.methodLink "WaterMenLaw" 83 yX8_sum ∈ ab_T := ab_T_in (i := 705) (by decide +kernel) (by decide +kernel)
theorem tw_707 : Cond.selects RX8 yX8_sum yX8_sum ∈ ab_T := ab_T_in (i := 707) (by decide +kernel) (by decide +kernel)
theorem tw_706 : Cond.instanceMethod yX8_sum ∈ ab_T := ab_T_in (i := 706) (by decide +kernel) (by decide +kernel)
theorem cs_L_83_9 : ab_cV "WaterMenLaw" 83 9 Y_X8_sum 1 := ⟨pm_X8_sum, RX8, TX8, 9, rfl, Or.inl ⟨rfl, tw_705, tw_706, tw_707⟩⟩
theorem tw_709 : Cond.constantLong RX8 185 (-1) ∈ ab_T := ab_T_in (i := 709) (by decide +kernel) (by decide +kernel)
theorem tw_713 : Cond.code yX8_fire cX8_fire 7 (some .int) ∈ ab_T := ab_T_in (i := 713) (by decide +kernel) (by decide +kernel)
theorem pm_X8_fire : ab_pm Y_X8_fire 2 := ⟨⟨by decide +kernel, by decide +kernel⟩, by decide +kernel, tw_713, tw_41⟩
theorem tw_710 : Cond.methodLink "WaterMenLaw" 88 yX8_fire ∈ ab_T := ab_T_in (i := 710) (by decide +kernel) (by decide +kernel)
theorem tw_712 : Cond.selects RX8 yX8_fire yX8_fire ∈ ab_T := ab_T_in (i := 712) (by decide +kernel) (by decide +kernel)
theorem tw_711 : Cond.instanceMethod yX8_fire ∈ ab_T := ab_T_in (i := 711) (by decide +kernel) (by decide +kernel)
theorem cs_L_88_9 : ab_cV "WaterMenLaw" 88 9 Y_X8_fire 2 := ⟨pm_X8_fire, RX8, TX8, 9, rfl, Or.inl ⟨rfl, tw_710, tw_711, tw_712⟩⟩
theorem tw_717 : Cond.code yX8_poured cX8_poured 3 (some .int) ∈ ab_T := ab_T_in (i := 717) (by decide +kernel) (by decide +kernel)
theorem pm_X8_poured : ab_pm Y_X8_poured 2 := ⟨⟨by decide +kernel, by decide +kernel⟩, by decide +kernel, tw_717, tw_41⟩
theorem tw_714 : Cond.methodLink "WaterMenLaw" 92 yX8_poured ∈ ab_T := ab_T_in (i := 714) (by decide +kernel) (by decide +kernel)
theorem tw_716 : Cond.selects RX8 yX8_poured yX8_poured ∈ ab_T := ab_T_in (i := 716) (by decide +kernel) (by decide +kernel)
theorem tw_715 : Cond.instanceMethod yX8_poured ∈ ab_T := ab_T_in (i := 715) (by decide +kernel) (by decide +kernel)
theorem cs_L_92_9 : ab_cV "WaterMenLaw" 92 9 Y_X8_poured 2 := ⟨pm_X8_poured, RX8, TX8, 9, rfl, Or.inl ⟨rfl, tw_714, tw_715, tw_716⟩⟩
theorem tw_721 : Cond.code yX6_fact cX6_fact 4 (some .int) ∈ ab_T := ab_T_in (i := 721) (by decide +kernel) (by decide +kernel)
theorem pm_X6_fact : ab_pm Y_X6_fact 2 := ⟨⟨by decide +kernel, by decide +kernel⟩, by decide +kernel, tw_721, tw_47⟩
theorem tw_718 : Cond.methodLink RX8 197 yX6_fact ∈ ab_T := ab_T_in (i := 718) (by decide +kernel) (by decide +kernel)
theorem tw_720 : Cond.selects RX6 yX6_fact yX6_fact ∈ ab_T := ab_T_in (i := 720) (by decide +kernel) (by decide +kernel)
theorem tw_719 : Cond.instanceMethod yX6_fact ∈ ab_T := ab_T_in (i := 719) (by decide +kernel) (by decide +kernel)
theorem cs_X8_197_7 : ab_cV RX8 197 7 Y_X6_fact 2 := ⟨pm_X6_fact, RX6, TX6, 3, rfl, Or.inl ⟨rfl, tw_718, tw_719, tw_720⟩⟩
theorem tw_724 : Cond.code yJ9_floorMod_7cf53 cJ9_floorMod_7cf53 3 (some .int) ∈ ab_T := ab_T_in (i := 724) (by decide +kernel) (by decide +kernel)
theorem pm_J9_floorMod_7cf53 : ab_pm Y_J9_floorMod_7cf53 2 := ⟨⟨by decide +kernel, by decide +kernel⟩, by decide +kernel, tw_724, tw_52⟩
theorem tw_722 : Cond.methodLink RX6 46 yJ9_floorMod_7cf53 ∈ ab_T := ab_T_in (i := 722) (by decide +kernel) (by decide +kernel)
theorem tw_723 : Cond.static yJ9_floorMod_7cf53 ∈ ab_T := ab_T_in (i := 723) (by decide +kernel) (by decide +kernel)
theorem cs_X6_46 : ab_cS RX6 46 Y_J9_floorMod_7cf53 2 := ⟨pm_J9_floorMod_7cf53, tw_722, tw_723⟩
theorem tw_728 : Cond.code yX8_foul cX8_foul 3 (some .int) ∈ ab_T := ab_T_in (i := 728) (by decide +kernel) (by decide +kernel)
theorem pm_X8_foul : ab_pm Y_X8_foul 2 := ⟨⟨by decide +kernel, by decide +kernel⟩, by decide +kernel, tw_728, tw_41⟩
theorem tw_725 : Cond.methodLink "WaterMenLaw" 96 yX8_foul ∈ ab_T := ab_T_in (i := 725) (by decide +kernel) (by decide +kernel)
theorem tw_727 : Cond.selects RX8 yX8_foul yX8_foul ∈ ab_T := ab_T_in (i := 727) (by decide +kernel) (by decide +kernel)
theorem tw_726 : Cond.instanceMethod yX8_foul ∈ ab_T := ab_T_in (i := 726) (by decide +kernel) (by decide +kernel)
theorem cs_L_96_9 : ab_cV "WaterMenLaw" 96 9 Y_X8_foul 2 := ⟨pm_X8_foul, RX8, TX8, 9, rfl, Or.inl ⟨rfl, tw_725, tw_726, tw_727⟩⟩
theorem tw_732 : Cond.code yX6_jarsFouledBy cX6_jarsFouledBy 5 (some .int) ∈ ab_T := ab_T_in (i := 732) (by decide +kernel) (by decide +kernel)
theorem pm_X6_jarsFouledBy : ab_pm Y_X6_jarsFouledBy 2 := ⟨⟨by decide +kernel, by decide +kernel⟩, by decide +kernel, tw_732, tw_47⟩
theorem tw_729 : Cond.methodLink RX8 201 yX6_jarsFouledBy ∈ ab_T := ab_T_in (i := 729) (by decide +kernel) (by decide +kernel)
theorem tw_731 : Cond.selects RX6 yX6_jarsFouledBy yX6_jarsFouledBy ∈ ab_T := ab_T_in (i := 731) (by decide +kernel) (by decide +kernel)
theorem tw_730 : Cond.instanceMethod yX6_jarsFouledBy ∈ ab_T := ab_T_in (i := 730) (by decide +kernel) (by decide +kernel)
theorem cs_X8_201_7 : ab_cV RX8 201 7 Y_X6_jarsFouledBy 2 := ⟨pm_X6_jarsFouledBy, RX6, TX6, 3, rfl, Or.inl ⟨rfl, tw_729, tw_730, tw_731⟩⟩
theorem tw_733 : Cond.methodLink RX6 49 yX6_fact ∈ ab_T := ab_T_in (i := 733) (by decide +kernel) (by decide +kernel)
theorem cs_X6_49_7 : ab_cV RX6 49 7 Y_X6_fact 2 := ⟨pm_X6_fact, RX6, TX6, 3, rfl, Or.inl ⟨rfl, tw_733, tw_719, tw_720⟩⟩
theorem tw_737 : Cond.code yX8_give cX8_give 6 (some .int) ∈ ab_T := ab_T_in (i := 737) (by decide +kernel) (by decide +kernel)
theorem pm_X8_give : ab_pm Y_X8_give 3 := ⟨⟨by decide +kernel, by decide +kernel⟩, by decide +kernel, tw_737, tw_41⟩
theorem tw_734 : Cond.methodLink "WaterMenLaw" 100 yX8_give ∈ ab_T := ab_T_in (i := 734) (by decide +kernel) (by decide +kernel)
theorem tw_736 : Cond.selects RX8 yX8_give yX8_give ∈ ab_T := ab_T_in (i := 736) (by decide +kernel) (by decide +kernel)
theorem tw_735 : Cond.instanceMethod yX8_give ∈ ab_T := ab_T_in (i := 735) (by decide +kernel) (by decide +kernel)
theorem cs_L_100_9 : ab_cV "WaterMenLaw" 100 9 Y_X8_give 3 := ⟨pm_X8_give, RX8, TX8, 9, rfl, Or.inl ⟨rfl, tw_734, tw_735, tw_736⟩⟩
theorem tw_744 : Cond.code yX5_toilFor cX5_toilFor 2 (some .int) ∈ ab_T := ab_T_in (i := 744) (by decide +kernel) (by decide +kernel)
theorem pm_X5_toilFor : ab_pm Y_X5_toilFor 1 := ⟨⟨by decide +kernel, by decide +kernel⟩, by decide +kernel, tw_744, tw_57⟩
theorem tw_738 : Cond.methodLink RX8 204 yX5_toilFor ∈ ab_T := ab_T_in (i := 738) (by decide +kernel) (by decide +kernel)
theorem tw_742 : Cond.selects RX0 yX5_toilFor yX5_toilFor ∈ ab_T := ab_T_in (i := 742) (by decide +kernel) (by decide +kernel)
theorem tw_739 : Cond.instanceMethod yX5_toilFor ∈ ab_T := ab_T_in (i := 739) (by decide +kernel) (by decide +kernel)
theorem tw_741 : Cond.sameMethod "WaterMen$Man" "WaterMen$Man" "toilFor" "(LWaterMen$Jar;)I" ∈ ab_T := ab_T_in (i := 741) (by decide +kernel) (by decide +kernel)
theorem cs_X8_204_1 : ab_cV RX8 204 1 Y_X5_toilFor 1 := ⟨pm_X5_toilFor, RX0, TX0, 13, rfl, Or.inr ⟨yX5_toilFor, "WaterMen$Man", cX5_toilFor, 2, (some .int), ⟨by decide +kernel, by decide +kernel⟩, by decide +kernel, tw_738, tw_741, tw_739, tw_744, tw_742, tw_739⟩⟩
theorem tw_740 : Cond.selects RX5 yX5_toilFor yX5_toilFor ∈ ab_T := ab_T_in (i := 740) (by decide +kernel) (by decide +kernel)
theorem cs_X8_204_6 : ab_cV RX8 204 6 Y_X5_toilFor 1 := ⟨pm_X5_toilFor, RX5, TX5, 12, rfl, Or.inl ⟨rfl, tw_738, tw_739, tw_740⟩⟩
theorem tw_743 : Cond.selects RX7 yX5_toilFor yX5_toilFor ∈ ab_T := ab_T_in (i := 743) (by decide +kernel) (by decide +kernel)
theorem cs_X8_204_8 : ab_cV RX8 204 8 Y_X5_toilFor 1 := ⟨pm_X5_toilFor, RX7, TX7, 12, rfl, Or.inr ⟨yX5_toilFor, "WaterMen$Man", cX5_toilFor, 2, (some .int), ⟨by decide +kernel, by decide +kernel⟩, by decide +kernel, tw_738, tw_741, tw_739, tw_744, tw_743, tw_739⟩⟩
theorem tw_745 : Cond.methodLink RX5 70 yX5_canGoTo ∈ ab_T := ab_T_in (i := 745) (by decide +kernel) (by decide +kernel)
theorem cs_X5_70_1 : ab_cV RX5 70 1 Y_X7_canGoTo 1 := ⟨pm_X7_canGoTo, RX0, TX0, 13, rfl, Or.inr ⟨yX5_canGoTo, "WaterMen$Man", cX5_canGoTo, 2, (some .boolean), ⟨by decide +kernel, by decide +kernel⟩, by decide +kernel, tw_745, tw_468, tw_466, tw_473, tw_469, tw_470⟩⟩
theorem cs_X5_70_6 : ab_cV RX5 70 6 Y_X5_canGoTo 1 := ⟨pm_X5_canGoTo, RX5, TX5, 12, rfl, Or.inl ⟨rfl, tw_745, tw_466, tw_467⟩⟩
theorem cs_X5_70_8 : ab_cV RX5 70 8 Y_X7_canGoTo 1 := ⟨pm_X7_canGoTo, RX7, TX7, 12, rfl, Or.inr ⟨yX5_canGoTo, "WaterMen$Man", cX5_canGoTo, 2, (some .boolean), ⟨by decide +kernel, by decide +kernel⟩, by decide +kernel, tw_745, tw_468, tw_466, tw_473, tw_472, tw_470⟩⟩
theorem tw_749 : Cond.code yX3_setToil cX3_setToil 4 none ∈ ab_T := ab_T_in (i := 749) (by decide +kernel) (by decide +kernel)
theorem pm_X3_setToil : ab_pm Y_X3_setToil 3 := ⟨⟨by decide +kernel, by decide +kernel⟩, by decide +kernel, tw_749, tw_48⟩
theorem tw_746 : Cond.methodLink RX8 207 yX3_setToil ∈ ab_T := ab_T_in (i := 746) (by decide +kernel) (by decide +kernel)
theorem tw_748 : Cond.selects RX3 yX3_setToil yX3_setToil ∈ ab_T := ab_T_in (i := 748) (by decide +kernel) (by decide +kernel)
theorem tw_747 : Cond.instanceMethod yX3_setToil ∈ ab_T := ab_T_in (i := 747) (by decide +kernel) (by decide +kernel)
theorem cs_X8_207_4 : ab_cV RX8 207 4 Y_X3_setToil 3 := ⟨pm_X3_setToil, RX3, TX3, 3, rfl, Or.inl ⟨rfl, tw_746, tw_747, tw_748⟩⟩
theorem cs_X3_27 : ab_cN RX3 27 Y_X8_outside 3 := ⟨pm_X8_outside, ⟨"WaterMen", ab_nest_in (i := 750) (by decide +kernel) rfl⟩, tw_189⟩
theorem tw_754 : Cond.code yX3_findLeast cX3_findLeast 6 (some .int) ∈ ab_T := ab_T_in (i := 754) (by decide +kernel) (by decide +kernel)
theorem pm_X3_findLeast : ab_pm Y_X3_findLeast 1 := ⟨⟨by decide +kernel, by decide +kernel⟩, by decide +kernel, tw_754, tw_48⟩
theorem tw_751 : Cond.methodLink RX8 211 yX3_findLeast ∈ ab_T := ab_T_in (i := 751) (by decide +kernel) (by decide +kernel)
theorem tw_753 : Cond.selects RX3 yX3_findLeast yX3_findLeast ∈ ab_T := ab_T_in (i := 753) (by decide +kernel) (by decide +kernel)
theorem tw_752 : Cond.instanceMethod yX3_findLeast ∈ ab_T := ab_T_in (i := 752) (by decide +kernel) (by decide +kernel)
theorem cs_X8_211_4 : ab_cV RX8 211 4 Y_X3_findLeast 1 := ⟨pm_X3_findLeast, RX3, TX3, 3, rfl, Or.inl ⟨rfl, tw_751, tw_752, tw_753⟩⟩
theorem tw_758 : Cond.code yX3_toilWith cX3_toilWith 5 (some .int) ∈ ab_T := ab_T_in (i := 758) (by decide +kernel) (by decide +kernel)
theorem pm_X3_toilWith : ab_pm Y_X3_toilWith 2 := ⟨⟨by decide +kernel, by decide +kernel⟩, by decide +kernel, tw_758, tw_48⟩
theorem tw_755 : Cond.methodLink RX3 31 yX3_toilWith ∈ ab_T := ab_T_in (i := 755) (by decide +kernel) (by decide +kernel)
theorem tw_19 : Cond.selects RX3 yX3_toilWith yX3_toilWith ∈ ab_T := ab_T_in (i := 19) (by decide +kernel) (by decide +kernel)
theorem tw_757 : Cond.instanceMethod yX3_toilWith ∈ ab_T := ab_T_in (i := 757) (by decide +kernel) (by decide +kernel)
theorem cs_X3_31_4 : ab_cV RX3 31 4 Y_X3_toilWith 2 := ⟨pm_X3_toilWith, RX3, TX3, 3, rfl, Or.inl ⟨rfl, tw_755, tw_757, tw_19⟩⟩
theorem tw_761 : Cond.code yJ6_bitCount_0f7a4 cJ6_bitCount_0f7a4 1 (some .int) ∈ ab_T := ab_T_in (i := 761) (by decide +kernel) (by decide +kernel)
theorem pm_J6_bitCount_0f7a4 : ab_pm Y_J6_bitCount_0f7a4 1 := ⟨⟨by decide +kernel, by decide +kernel⟩, by decide +kernel, tw_761, tw_60⟩
theorem tw_759 : Cond.methodLink RX3 35 yJ6_bitCount_0f7a4 ∈ ab_T := ab_T_in (i := 759) (by decide +kernel) (by decide +kernel)
theorem tw_760 : Cond.static yJ6_bitCount_0f7a4 ∈ ab_T := ab_T_in (i := 760) (by decide +kernel) (by decide +kernel)
theorem cs_X3_35 : ab_cS RX3 35 Y_J6_bitCount_0f7a4 1 := ⟨pm_J6_bitCount_0f7a4, tw_759, tw_760⟩
theorem tw_762 : Cond.constant RJ6 265 (1431655765) ∈ ab_T := ab_T_in (i := 762) (by decide +kernel) (by decide +kernel)
theorem tw_763 : Cond.constant RJ6 266 (858993459) ∈ ab_T := ab_T_in (i := 763) (by decide +kernel) (by decide +kernel)
theorem tw_764 : Cond.constant RJ6 267 (252645135) ∈ ab_T := ab_T_in (i := 764) (by decide +kernel) (by decide +kernel)
theorem tw_768 : Cond.code yX3_settle cX3_settle 7 none ∈ ab_T := ab_T_in (i := 768) (by decide +kernel) (by decide +kernel)
theorem pm_X3_settle : ab_pm Y_X3_settle 3 := ⟨⟨by decide +kernel, by decide +kernel⟩, by decide +kernel, tw_768, tw_48⟩
theorem tw_765 : Cond.methodLink RX8 214 yX3_settle ∈ ab_T := ab_T_in (i := 765) (by decide +kernel) (by decide +kernel)
theorem tw_767 : Cond.selects RX3 yX3_settle yX3_settle ∈ ab_T := ab_T_in (i := 767) (by decide +kernel) (by decide +kernel)
theorem tw_766 : Cond.instanceMethod yX3_settle ∈ ab_T := ab_T_in (i := 766) (by decide +kernel) (by decide +kernel)
theorem cs_X8_214_4 : ab_cV RX8 214 4 Y_X3_settle 3 := ⟨pm_X3_settle, RX3, TX3, 3, rfl, Or.inl ⟨rfl, tw_765, tw_766, tw_767⟩⟩
theorem tw_772 : Cond.code yX3_firstBest cX3_firstBest 5 (some .int) ∈ ab_T := ab_T_in (i := 772) (by decide +kernel) (by decide +kernel)
theorem pm_X3_firstBest : ab_pm Y_X3_firstBest 2 := ⟨⟨by decide +kernel, by decide +kernel⟩, by decide +kernel, tw_772, tw_48⟩
theorem tw_769 : Cond.methodLink RX3 41 yX3_firstBest ∈ ab_T := ab_T_in (i := 769) (by decide +kernel) (by decide +kernel)
theorem tw_20 : Cond.selects RX3 yX3_firstBest yX3_firstBest ∈ ab_T := ab_T_in (i := 20) (by decide +kernel) (by decide +kernel)
theorem tw_771 : Cond.instanceMethod yX3_firstBest ∈ ab_T := ab_T_in (i := 771) (by decide +kernel) (by decide +kernel)
theorem cs_X3_41_4 : ab_cV RX3 41 4 Y_X3_firstBest 2 := ⟨pm_X3_firstBest, RX3, TX3, 3, rfl, Or.inl ⟨rfl, tw_769, tw_771, tw_20⟩⟩
theorem tw_776 : Cond.code yX8_given cX8_given 2 (some .int) ∈ ab_T := ab_T_in (i := 776) (by decide +kernel) (by decide +kernel)
theorem pm_X8_given : ab_pm Y_X8_given 1 := ⟨⟨by decide +kernel, by decide +kernel⟩, by decide +kernel, tw_776, tw_41⟩
theorem tw_773 : Cond.methodLink "WaterMenLaw" 104 yX8_given ∈ ab_T := ab_T_in (i := 773) (by decide +kernel) (by decide +kernel)
theorem tw_775 : Cond.selects RX8 yX8_given yX8_given ∈ ab_T := ab_T_in (i := 775) (by decide +kernel) (by decide +kernel)
theorem tw_774 : Cond.instanceMethod yX8_given ∈ ab_T := ab_T_in (i := 774) (by decide +kernel) (by decide +kernel)
theorem cs_L_104_9 : ab_cV "WaterMenLaw" 104 9 Y_X8_given 1 := ⟨pm_X8_given, RX8, TX8, 9, rfl, Or.inl ⟨rfl, tw_773, tw_774, tw_775⟩⟩
theorem tw_780 : Cond.code yX3_jarOf cX3_jarOf 2 (some .int) ∈ ab_T := ab_T_in (i := 780) (by decide +kernel) (by decide +kernel)
theorem pm_X3_jarOf : ab_pm Y_X3_jarOf 1 := ⟨⟨by decide +kernel, by decide +kernel⟩, by decide +kernel, tw_780, tw_48⟩
theorem tw_777 : Cond.methodLink RX8 217 yX3_jarOf ∈ ab_T := ab_T_in (i := 777) (by decide +kernel) (by decide +kernel)
theorem tw_779 : Cond.selects RX3 yX3_jarOf yX3_jarOf ∈ ab_T := ab_T_in (i := 779) (by decide +kernel) (by decide +kernel)
theorem tw_778 : Cond.instanceMethod yX3_jarOf ∈ ab_T := ab_T_in (i := 778) (by decide +kernel) (by decide +kernel)
theorem cs_X8_217_4 : ab_cV RX8 217 4 Y_X3_jarOf 1 := ⟨pm_X3_jarOf, RX3, TX3, 3, rfl, Or.inl ⟨rfl, tw_777, tw_778, tw_779⟩⟩
theorem tw_784 : Cond.code yX8_count cX8_count 2 (some .int) ∈ ab_T := ab_T_in (i := 784) (by decide +kernel) (by decide +kernel)
theorem pm_X8_count : ab_pm Y_X8_count 1 := ⟨⟨by decide +kernel, by decide +kernel⟩, by decide +kernel, tw_784, tw_41⟩
theorem tw_781 : Cond.methodLink "WaterMenLaw" 108 yX8_count ∈ ab_T := ab_T_in (i := 781) (by decide +kernel) (by decide +kernel)
theorem tw_783 : Cond.selects RX8 yX8_count yX8_count ∈ ab_T := ab_T_in (i := 783) (by decide +kernel) (by decide +kernel)
theorem tw_782 : Cond.instanceMethod yX8_count ∈ ab_T := ab_T_in (i := 782) (by decide +kernel) (by decide +kernel)
theorem cs_L_108_9 : ab_cV "WaterMenLaw" 108 9 Y_X8_count 1 := ⟨pm_X8_count, RX8, TX8, 9, rfl, Or.inl ⟨rfl, tw_781, tw_782, tw_783⟩⟩
theorem tw_788 : Cond.code yX8_countDoing cX8_countDoing 4 (some .int) ∈ ab_T := ab_T_in (i := 788) (by decide +kernel) (by decide +kernel)
theorem pm_X8_countDoing : ab_pm Y_X8_countDoing 1 := ⟨⟨by decide +kernel, by decide +kernel⟩, by decide +kernel, tw_788, tw_41⟩
theorem tw_785 : Cond.methodLink RX8 220 yX8_countDoing ∈ ab_T := ab_T_in (i := 785) (by decide +kernel) (by decide +kernel)
theorem tw_21 : Cond.selects RX8 yX8_countDoing yX8_countDoing ∈ ab_T := ab_T_in (i := 21) (by decide +kernel) (by decide +kernel)
theorem tw_787 : Cond.instanceMethod yX8_countDoing ∈ ab_T := ab_T_in (i := 787) (by decide +kernel) (by decide +kernel)
theorem cs_X8_220_9 : ab_cV RX8 220 9 Y_X8_countDoing 1 := ⟨pm_X8_countDoing, RX8, TX8, 9, rfl, Or.inl ⟨rfl, tw_785, tw_787, tw_21⟩⟩
theorem tw_789 : Cond.classLink "WaterMenLaw" 10 RX9 ∈ ab_T := ab_T_in (i := 789) (by decide +kernel) (by decide +kernel)
theorem tw_790 : Cond.instantiable RX9 41 ∈ ab_T := ab_T_in (i := 790) (by decide +kernel) (by decide +kernel)
theorem tw_793 : Cond.code yX9_init cX9_init 2 none ∈ ab_T := ab_T_in (i := 793) (by decide +kernel) (by decide +kernel)
theorem pm_X9_init : ab_pm Y_X9_init 0 := ⟨⟨by decide +kernel, by decide +kernel⟩, by decide +kernel, tw_793, tw_49⟩
theorem tw_791 : Cond.methodLink "WaterMenLaw" 12 yX9_init ∈ ab_T := ab_T_in (i := 791) (by decide +kernel) (by decide +kernel)
theorem tw_792 : Cond.instanceMethod yX9_init ∈ ab_T := ab_T_in (i := 792) (by decide +kernel) (by decide +kernel)
theorem cs_L_12 : ab_cI "WaterMenLaw" 12 Y_X9_init 0 := ⟨pm_X9_init, tw_791, tw_792, rfl, rfl⟩
theorem tw_794 : Cond.methodLink RX9 1 objectInit ∈ ab_T := ab_T_in (i := 794) (by decide +kernel) (by decide +kernel)
theorem tw_919 : Cond.arrayClass .boolean ∈ ab_T := ab_T_in (i := 919) (by decide +kernel) (by decide +kernel)
theorem tw_923 : Cond.code yX9_fountain cX9_fountain 2 (some .int) ∈ ab_T := ab_T_in (i := 923) (by decide +kernel) (by decide +kernel)
theorem pm_X9_fountain : ab_pm Y_X9_fountain 1 := ⟨⟨by decide +kernel, by decide +kernel⟩, by decide +kernel, tw_923, tw_49⟩
theorem tw_920 : Cond.methodLink "WaterMenLaw" 17 yX9_fountain ∈ ab_T := ab_T_in (i := 920) (by decide +kernel) (by decide +kernel)
theorem tw_922 : Cond.selects RX9 yX9_fountain yX9_fountain ∈ ab_T := ab_T_in (i := 922) (by decide +kernel) (by decide +kernel)
theorem tw_921 : Cond.instanceMethod yX9_fountain ∈ ab_T := ab_T_in (i := 921) (by decide +kernel) (by decide +kernel)
theorem cs_L_17_10 : ab_cV "WaterMenLaw" 17 10 Y_X9_fountain 1 := ⟨pm_X9_fountain, RX9, TX9, 41, rfl, Or.inl ⟨rfl, tw_920, tw_921, tw_922⟩⟩
theorem tw_926 : Cond.code yX9_in cX9_in 3 (some .boolean) ∈ ab_T := ab_T_in (i := 926) (by decide +kernel) (by decide +kernel)
theorem pm_X9_in : ab_pm Y_X9_in 3 := ⟨⟨by decide +kernel, by decide +kernel⟩, by decide +kernel, tw_926, tw_49⟩
theorem tw_924 : Cond.methodLink RX9 112 yX9_in ∈ ab_T := ab_T_in (i := 924) (by decide +kernel) (by decide +kernel)
theorem tw_925 : Cond.static yX9_in ∈ ab_T := ab_T_in (i := 925) (by decide +kernel) (by decide +kernel)
theorem cs_X9_112 : ab_cS RX9 112 Y_X9_in 3 := ⟨pm_X9_in, tw_924, tw_925⟩
theorem tw_930 : Cond.code yX9_jar cX9_jar 7 (some .int) ∈ ab_T := ab_T_in (i := 930) (by decide +kernel) (by decide +kernel)
theorem pm_X9_jar : ab_pm Y_X9_jar 6 := ⟨⟨by decide +kernel, by decide +kernel⟩, by decide +kernel, tw_930, tw_49⟩
theorem tw_927 : Cond.methodLink "WaterMenLaw" 22 yX9_jar ∈ ab_T := ab_T_in (i := 927) (by decide +kernel) (by decide +kernel)
theorem tw_929 : Cond.selects RX9 yX9_jar yX9_jar ∈ ab_T := ab_T_in (i := 929) (by decide +kernel) (by decide +kernel)
theorem tw_928 : Cond.instanceMethod yX9_jar ∈ ab_T := ab_T_in (i := 928) (by decide +kernel) (by decide +kernel)
theorem cs_L_22_10 : ab_cV "WaterMenLaw" 22 10 Y_X9_jar 6 := ⟨pm_X9_jar, RX9, TX9, 41, rfl, Or.inl ⟨rfl, tw_927, tw_928, tw_929⟩⟩
theorem tw_934 : Cond.code yX9_isMinutes cX9_isMinutes 3 (some .boolean) ∈ ab_T := ab_T_in (i := 934) (by decide +kernel) (by decide +kernel)
theorem pm_X9_isMinutes : ab_pm Y_X9_isMinutes 2 := ⟨⟨by decide +kernel, by decide +kernel⟩, by decide +kernel, tw_934, tw_49⟩
theorem tw_931 : Cond.methodLink RX9 122 yX9_isMinutes ∈ ab_T := ab_T_in (i := 931) (by decide +kernel) (by decide +kernel)
theorem tw_22 : Cond.selects RX9 yX9_isMinutes yX9_isMinutes ∈ ab_T := ab_T_in (i := 22) (by decide +kernel) (by decide +kernel)
theorem tw_933 : Cond.instanceMethod yX9_isMinutes ∈ ab_T := ab_T_in (i := 933) (by decide +kernel) (by decide +kernel)
theorem cs_X9_122_10 : ab_cV RX9 122 10 Y_X9_isMinutes 2 := ⟨pm_X9_isMinutes, RX9, TX9, 41, rfl, Or.inl ⟨rfl, tw_931, tw_933, tw_22⟩⟩
theorem tw_938 : Cond.code yX9_drinks cX9_drinks 4 (some .int) ∈ ab_T := ab_T_in (i := 938) (by decide +kernel) (by decide +kernel)
theorem pm_X9_drinks : ab_pm Y_X9_drinks 2 := ⟨⟨by decide +kernel, by decide +kernel⟩, by decide +kernel, tw_938, tw_49⟩
theorem tw_935 : Cond.methodLink "WaterMenLaw" 27 yX9_drinks ∈ ab_T := ab_T_in (i := 935) (by decide +kernel) (by decide +kernel)
theorem tw_937 : Cond.selects RX9 yX9_drinks yX9_drinks ∈ ab_T := ab_T_in (i := 937) (by decide +kernel) (by decide +kernel)
theorem tw_936 : Cond.instanceMethod yX9_drinks ∈ ab_T := ab_T_in (i := 936) (by decide +kernel) (by decide +kernel)
theorem cs_L_27_10 : ab_cV "WaterMenLaw" 27 10 Y_X9_drinks 2 := ⟨pm_X9_drinks, RX9, TX9, 41, rfl, Or.inl ⟨rfl, tw_935, tw_936, tw_937⟩⟩
theorem tw_942 : Cond.code yX9_isJar cX9_isJar 2 (some .boolean) ∈ ab_T := ab_T_in (i := 942) (by decide +kernel) (by decide +kernel)
theorem pm_X9_isJar : ab_pm Y_X9_isJar 1 := ⟨⟨by decide +kernel, by decide +kernel⟩, by decide +kernel, tw_942, tw_49⟩
theorem tw_939 : Cond.methodLink RX9 129 yX9_isJar ∈ ab_T := ab_T_in (i := 939) (by decide +kernel) (by decide +kernel)
theorem tw_23 : Cond.selects RX9 yX9_isJar yX9_isJar ∈ ab_T := ab_T_in (i := 23) (by decide +kernel) (by decide +kernel)
theorem tw_941 : Cond.instanceMethod yX9_isJar ∈ ab_T := ab_T_in (i := 941) (by decide +kernel) (by decide +kernel)
theorem cs_X9_129_10 : ab_cV RX9 129 10 Y_X9_isJar 1 := ⟨pm_X9_isJar, RX9, TX9, 41, rfl, Or.inl ⟨rfl, tw_939, tw_941, tw_23⟩⟩
theorem tw_946 : Cond.code yX9_man cX9_man 5 (some .int) ∈ ab_T := ab_T_in (i := 946) (by decide +kernel) (by decide +kernel)
theorem pm_X9_man : ab_pm Y_X9_man 4 := ⟨⟨by decide +kernel, by decide +kernel⟩, by decide +kernel, tw_946, tw_49⟩
theorem tw_943 : Cond.methodLink "WaterMenLaw" 32 yX9_man ∈ ab_T := ab_T_in (i := 943) (by decide +kernel) (by decide +kernel)
theorem tw_945 : Cond.selects RX9 yX9_man yX9_man ∈ ab_T := ab_T_in (i := 945) (by decide +kernel) (by decide +kernel)
theorem tw_944 : Cond.instanceMethod yX9_man ∈ ab_T := ab_T_in (i := 944) (by decide +kernel) (by decide +kernel)
theorem cs_L_32_10 : ab_cV "WaterMenLaw" 32 10 Y_X9_man 4 := ⟨pm_X9_man, RX9, TX9, 41, rfl, Or.inl ⟨rfl, tw_943, tw_944, tw_945⟩⟩
theorem tw_950 : Cond.code yX9_isFountain cX9_isFountain 2 (some .boolean) ∈ ab_T := ab_T_in (i := 950) (by decide +kernel) (by decide +kernel)
theorem pm_X9_isFountain : ab_pm Y_X9_isFountain 1 := ⟨⟨by decide +kernel, by decide +kernel⟩, by decide +kernel, tw_950, tw_49⟩
theorem tw_947 : Cond.methodLink RX9 136 yX9_isFountain ∈ ab_T := ab_T_in (i := 947) (by decide +kernel) (by decide +kernel)
theorem tw_24 : Cond.selects RX9 yX9_isFountain yX9_isFountain ∈ ab_T := ab_T_in (i := 24) (by decide +kernel) (by decide +kernel)
theorem tw_949 : Cond.instanceMethod yX9_isFountain ∈ ab_T := ab_T_in (i := 949) (by decide +kernel) (by decide +kernel)
theorem cs_X9_136_10 : ab_cV RX9 136 10 Y_X9_isFountain 1 := ⟨pm_X9_isFountain, RX9, TX9, 41, rfl, Or.inl ⟨rfl, tw_947, tw_949, tw_24⟩⟩
theorem tw_954 : Cond.code yX9_canGo cX9_canGo 3 (some .boolean) ∈ ab_T := ab_T_in (i := 954) (by decide +kernel) (by decide +kernel)
theorem pm_X9_canGo : ab_pm Y_X9_canGo 2 := ⟨⟨by decide +kernel, by decide +kernel⟩, by decide +kernel, tw_954, tw_49⟩
theorem tw_951 : Cond.methodLink RX9 139 yX9_canGo ∈ ab_T := ab_T_in (i := 951) (by decide +kernel) (by decide +kernel)
theorem tw_25 : Cond.selects RX9 yX9_canGo yX9_canGo ∈ ab_T := ab_T_in (i := 25) (by decide +kernel) (by decide +kernel)
theorem tw_953 : Cond.instanceMethod yX9_canGo ∈ ab_T := ab_T_in (i := 953) (by decide +kernel) (by decide +kernel)
theorem cs_X9_139_10 : ab_cV RX9 139 10 Y_X9_canGo 2 := ⟨pm_X9_canGo, RX9, TX9, 41, rfl, Or.inl ⟨rfl, tw_951, tw_953, tw_25⟩⟩
theorem tw_958 : Cond.code yX9_joinRow cX9_joinRow 2 none ∈ ab_T := ab_T_in (i := 958) (by decide +kernel) (by decide +kernel)
theorem pm_X9_joinRow : ab_pm Y_X9_joinRow 1 := ⟨⟨by decide +kernel, by decide +kernel⟩, by decide +kernel, tw_958, tw_49⟩
theorem tw_955 : Cond.methodLink RX9 142 yX9_joinRow ∈ ab_T := ab_T_in (i := 955) (by decide +kernel) (by decide +kernel)
theorem tw_26 : Cond.selects RX9 yX9_joinRow yX9_joinRow ∈ ab_T := ab_T_in (i := 26) (by decide +kernel) (by decide +kernel)
theorem tw_957 : Cond.instanceMethod yX9_joinRow ∈ ab_T := ab_T_in (i := 957) (by decide +kernel) (by decide +kernel)
theorem cs_X9_142_10 : ab_cV RX9 142 10 Y_X9_joinRow 1 := ⟨pm_X9_joinRow, RX9, TX9, 41, rfl, Or.inl ⟨rfl, tw_955, tw_957, tw_26⟩⟩
theorem tw_962 : Cond.code yX9_right cX9_right 4 (some .int) ∈ ab_T := ab_T_in (i := 962) (by decide +kernel) (by decide +kernel)
theorem pm_X9_right : ab_pm Y_X9_right 2 := ⟨⟨by decide +kernel, by decide +kernel⟩, by decide +kernel, tw_962, tw_49⟩
theorem tw_959 : Cond.methodLink "WaterMenLaw" 36 yX9_right ∈ ab_T := ab_T_in (i := 959) (by decide +kernel) (by decide +kernel)
theorem tw_961 : Cond.selects RX9 yX9_right yX9_right ∈ ab_T := ab_T_in (i := 961) (by decide +kernel) (by decide +kernel)
theorem tw_960 : Cond.instanceMethod yX9_right ∈ ab_T := ab_T_in (i := 960) (by decide +kernel) (by decide +kernel)
theorem cs_L_36_10 : ab_cV "WaterMenLaw" 36 10 Y_X9_right 2 := ⟨pm_X9_right, RX9, TX9, 41, rfl, Or.inl ⟨rfl, tw_959, tw_960, tw_961⟩⟩
theorem tw_966 : Cond.code yX9_isMan cX9_isMan 2 (some .boolean) ∈ ab_T := ab_T_in (i := 966) (by decide +kernel) (by decide +kernel)
theorem pm_X9_isMan : ab_pm Y_X9_isMan 1 := ⟨⟨by decide +kernel, by decide +kernel⟩, by decide +kernel, tw_966, tw_49⟩
theorem tw_963 : Cond.methodLink RX9 146 yX9_isMan ∈ ab_T := ab_T_in (i := 963) (by decide +kernel) (by decide +kernel)
theorem tw_27 : Cond.selects RX9 yX9_isMan yX9_isMan ∈ ab_T := ab_T_in (i := 27) (by decide +kernel) (by decide +kernel)
theorem tw_965 : Cond.instanceMethod yX9_isMan ∈ ab_T := ab_T_in (i := 965) (by decide +kernel) (by decide +kernel)
theorem cs_X9_146_10 : ab_cV RX9 146 10 Y_X9_isMan 1 := ⟨pm_X9_isMan, RX9, TX9, 41, rfl, Or.inl ⟨rfl, tw_963, tw_965, tw_27⟩⟩
theorem tw_970 : Cond.code yX9_pace cX9_pace 4 (some .int) ∈ ab_T := ab_T_in (i := 970) (by decide +kernel) (by decide +kernel)
theorem pm_X9_pace : ab_pm Y_X9_pace 2 := ⟨⟨by decide +kernel, by decide +kernel⟩, by decide +kernel, tw_970, tw_49⟩
theorem tw_967 : Cond.methodLink "WaterMenLaw" 40 yX9_pace ∈ ab_T := ab_T_in (i := 967) (by decide +kernel) (by decide +kernel)
theorem tw_969 : Cond.selects RX9 yX9_pace yX9_pace ∈ ab_T := ab_T_in (i := 969) (by decide +kernel) (by decide +kernel)
theorem tw_968 : Cond.instanceMethod yX9_pace ∈ ab_T := ab_T_in (i := 968) (by decide +kernel) (by decide +kernel)
theorem cs_L_40_10 : ab_cV "WaterMenLaw" 40 10 Y_X9_pace 2 := ⟨pm_X9_pace, RX9, TX9, 41, rfl, Or.inl ⟨rfl, tw_967, tw_968, tw_969⟩⟩
theorem tw_974 : Cond.code yX9_moves cX9_moves 4 (some .int) ∈ ab_T := ab_T_in (i := 974) (by decide +kernel) (by decide +kernel)
theorem pm_X9_moves : ab_pm Y_X9_moves 3 := ⟨⟨by decide +kernel, by decide +kernel⟩, by decide +kernel, tw_974, tw_49⟩
theorem tw_971 : Cond.methodLink "WaterMenLaw" 45 yX9_moves ∈ ab_T := ab_T_in (i := 971) (by decide +kernel) (by decide +kernel)
theorem tw_973 : Cond.selects RX9 yX9_moves yX9_moves ∈ ab_T := ab_T_in (i := 973) (by decide +kernel) (by decide +kernel)
theorem tw_972 : Cond.instanceMethod yX9_moves ∈ ab_T := ab_T_in (i := 972) (by decide +kernel) (by decide +kernel)
theorem cs_L_45_10 : ab_cV "WaterMenLaw" 45 10 Y_X9_moves 3 := ⟨pm_X9_moves, RX9, TX9, 41, rfl, Or.inl ⟨rfl, tw_971, tw_972, tw_973⟩⟩
theorem tw_978 : Cond.code yX9_open cX9_open 4 (some .int) ∈ ab_T := ab_T_in (i := 978) (by decide +kernel) (by decide +kernel)
theorem pm_X9_open : ab_pm Y_X9_open 2 := ⟨⟨by decide +kernel, by decide +kernel⟩, by decide +kernel, tw_978, tw_49⟩
theorem tw_975 : Cond.methodLink "WaterMenLaw" 50 yX9_open ∈ ab_T := ab_T_in (i := 975) (by decide +kernel) (by decide +kernel)
theorem tw_977 : Cond.selects RX9 yX9_open yX9_open ∈ ab_T := ab_T_in (i := 977) (by decide +kernel) (by decide +kernel)
theorem tw_976 : Cond.instanceMethod yX9_open ∈ ab_T := ab_T_in (i := 976) (by decide +kernel) (by decide +kernel)
theorem cs_L_50_10 : ab_cV "WaterMenLaw" 50 10 Y_X9_open 2 := ⟨pm_X9_open, RX9, TX9, 41, rfl, Or.inl ⟨rfl, tw_975, tw_976, tw_977⟩⟩
theorem tw_982 : Cond.code yX9_drought cX9_drought 3 (some .int) ∈ ab_T := ab_T_in (i := 982) (by decide +kernel) (by decide +kernel)
theorem pm_X9_drought : ab_pm Y_X9_drought 1 := ⟨⟨by decide +kernel, by decide +kernel⟩, by decide +kernel, tw_982, tw_49⟩
theorem tw_979 : Cond.methodLink "WaterMenLaw" 54 yX9_drought ∈ ab_T := ab_T_in (i := 979) (by decide +kernel) (by decide +kernel)
theorem tw_981 : Cond.selects RX9 yX9_drought yX9_drought ∈ ab_T := ab_T_in (i := 981) (by decide +kernel) (by decide +kernel)
theorem tw_980 : Cond.instanceMethod yX9_drought ∈ ab_T := ab_T_in (i := 980) (by decide +kernel) (by decide +kernel)
theorem cs_L_54_10 : ab_cV "WaterMenLaw" 54 10 Y_X9_drought 1 := ⟨pm_X9_drought, RX9, TX9, 41, rfl, Or.inl ⟨rfl, tw_979, tw_980, tw_981⟩⟩
theorem tw_986 : Cond.code yX9_type cX9_type 5 (some .int) ∈ ab_T := ab_T_in (i := 986) (by decide +kernel) (by decide +kernel)
theorem pm_X9_type : ab_pm Y_X9_type 2 := ⟨⟨by decide +kernel, by decide +kernel⟩, by decide +kernel, tw_986, tw_49⟩
theorem tw_983 : Cond.methodLink "WaterMenLaw" 61 yX9_type ∈ ab_T := ab_T_in (i := 983) (by decide +kernel) (by decide +kernel)
theorem tw_985 : Cond.selects RX9 yX9_type yX9_type ∈ ab_T := ab_T_in (i := 985) (by decide +kernel) (by decide +kernel)
theorem tw_984 : Cond.instanceMethod yX9_type ∈ ab_T := ab_T_in (i := 984) (by decide +kernel) (by decide +kernel)
theorem cs_L_61_10 : ab_cV "WaterMenLaw" 61 10 Y_X9_type 2 := ⟨pm_X9_type, RX9, TX9, 41, rfl, Or.inl ⟨rfl, tw_983, tw_984, tw_985⟩⟩
theorem tw_987 : Cond.constantLong RX9 149 (255) ∈ ab_T := ab_T_in (i := 987) (by decide +kernel) (by decide +kernel)
theorem tw_991 : Cond.code yX9_fares cX9_fares 3 (some .int) ∈ ab_T := ab_T_in (i := 991) (by decide +kernel) (by decide +kernel)
theorem pm_X9_fares : ab_pm Y_X9_fares 0 := ⟨⟨by decide +kernel, by decide +kernel⟩, by decide +kernel, tw_991, tw_49⟩
theorem tw_988 : Cond.methodLink "WaterMenLaw" 66 yX9_fares ∈ ab_T := ab_T_in (i := 988) (by decide +kernel) (by decide +kernel)
theorem tw_990 : Cond.selects RX9 yX9_fares yX9_fares ∈ ab_T := ab_T_in (i := 990) (by decide +kernel) (by decide +kernel)
theorem tw_989 : Cond.instanceMethod yX9_fares ∈ ab_T := ab_T_in (i := 989) (by decide +kernel) (by decide +kernel)
theorem cs_L_66_10 : ab_cV "WaterMenLaw" 66 10 Y_X9_fares 0 := ⟨pm_X9_fares, RX9, TX9, 41, rfl, Or.inl ⟨rfl, tw_988, tw_989, tw_990⟩⟩
theorem tw_995 : Cond.code yX9_readFares cX9_readFares 4 (some .int) ∈ ab_T := ab_T_in (i := 995) (by decide +kernel) (by decide +kernel)
theorem pm_X9_readFares : ab_pm Y_X9_readFares 0 := ⟨⟨by decide +kernel, by decide +kernel⟩, by decide +kernel, tw_995, tw_49⟩
theorem tw_992 : Cond.methodLink RX9 169 yX9_readFares ∈ ab_T := ab_T_in (i := 992) (by decide +kernel) (by decide +kernel)
theorem tw_28 : Cond.selects RX9 yX9_readFares yX9_readFares ∈ ab_T := ab_T_in (i := 28) (by decide +kernel) (by decide +kernel)
theorem tw_994 : Cond.instanceMethod yX9_readFares ∈ ab_T := ab_T_in (i := 994) (by decide +kernel) (by decide +kernel)
theorem cs_X9_169_10 : ab_cV RX9 169 10 Y_X9_readFares 0 := ⟨pm_X9_readFares, RX9, TX9, 41, rfl, Or.inl ⟨rfl, tw_992, tw_994, tw_28⟩⟩
theorem tw_999 : Cond.code yX9_readClause cX9_readClause 5 (some .boolean) ∈ ab_T := ab_T_in (i := 999) (by decide +kernel) (by decide +kernel)
theorem pm_X9_readClause : ab_pm Y_X9_readClause 0 := ⟨⟨by decide +kernel, by decide +kernel⟩, by decide +kernel, tw_999, tw_49⟩
theorem tw_996 : Cond.methodLink RX9 165 yX9_readClause ∈ ab_T := ab_T_in (i := 996) (by decide +kernel) (by decide +kernel)
theorem tw_29 : Cond.selects RX9 yX9_readClause yX9_readClause ∈ ab_T := ab_T_in (i := 29) (by decide +kernel) (by decide +kernel)
theorem tw_998 : Cond.instanceMethod yX9_readClause ∈ ab_T := ab_T_in (i := 998) (by decide +kernel) (by decide +kernel)
theorem cs_X9_165_10 : ab_cV RX9 165 10 Y_X9_readClause 0 := ⟨pm_X9_readClause, RX9, TX9, 41, rfl, Or.inl ⟨rfl, tw_996, tw_998, tw_29⟩⟩
theorem tw_1003 : Cond.code yX9_number cX9_number 6 (some .int) ∈ ab_T := ab_T_in (i := 1003) (by decide +kernel) (by decide +kernel)
theorem pm_X9_number : ab_pm Y_X9_number 2 := ⟨⟨by decide +kernel, by decide +kernel⟩, by decide +kernel, tw_1003, tw_49⟩
theorem tw_1000 : Cond.methodLink RX9 161 yX9_number ∈ ab_T := ab_T_in (i := 1000) (by decide +kernel) (by decide +kernel)
theorem tw_30 : Cond.selects RX9 yX9_number yX9_number ∈ ab_T := ab_T_in (i := 30) (by decide +kernel) (by decide +kernel)
theorem tw_1002 : Cond.instanceMethod yX9_number ∈ ab_T := ab_T_in (i := 1002) (by decide +kernel) (by decide +kernel)
theorem cs_X9_161_10 : ab_cV RX9 161 10 Y_X9_number 2 := ⟨pm_X9_number, RX9, TX9, 41, rfl, Or.inl ⟨rfl, tw_1000, tw_1002, tw_30⟩⟩
theorem tw_1007 : Cond.code yX9_next cX9_next 1 (some .int) ∈ ab_T := ab_T_in (i := 1007) (by decide +kernel) (by decide +kernel)
theorem pm_X9_next : ab_pm Y_X9_next 0 := ⟨⟨by decide +kernel, by decide +kernel⟩, by decide +kernel, tw_1007, tw_49⟩
theorem tw_1004 : Cond.methodLink RX9 157 yX9_next ∈ ab_T := ab_T_in (i := 1004) (by decide +kernel) (by decide +kernel)
theorem tw_31 : Cond.selects RX9 yX9_next yX9_next ∈ ab_T := ab_T_in (i := 31) (by decide +kernel) (by decide +kernel)
theorem tw_1006 : Cond.instanceMethod yX9_next ∈ ab_T := ab_T_in (i := 1006) (by decide +kernel) (by decide +kernel)
theorem cs_X9_157_10 : ab_cV RX9 157 10 Y_X9_next 0 := ⟨pm_X9_next, RX9, TX9, 41, rfl, Or.inl ⟨rfl, tw_1004, tw_1006, tw_31⟩⟩
theorem tw_1011 : Cond.code yX9_fare cX9_fare 2 (some .int) ∈ ab_T := ab_T_in (i := 1011) (by decide +kernel) (by decide +kernel)
theorem pm_X9_fare : ab_pm Y_X9_fare 1 := ⟨⟨by decide +kernel, by decide +kernel⟩, by decide +kernel, tw_1011, tw_49⟩
theorem tw_1008 : Cond.methodLink "WaterMenLaw" 70 yX9_fare ∈ ab_T := ab_T_in (i := 1008) (by decide +kernel) (by decide +kernel)
theorem tw_1010 : Cond.selects RX9 yX9_fare yX9_fare ∈ ab_T := ab_T_in (i := 1010) (by decide +kernel) (by decide +kernel)
theorem tw_1009 : Cond.instanceMethod yX9_fare ∈ ab_T := ab_T_in (i := 1009) (by decide +kernel) (by decide +kernel)
theorem cs_L_70_10 : ab_cV "WaterMenLaw" 70 10 Y_X9_fare 1 := ⟨pm_X9_fare, RX9, TX9, 41, rfl, Or.inl ⟨rfl, tw_1008, tw_1009, tw_1010⟩⟩
theorem tw_1015 : Cond.code yX9_run cX9_run 3 (some .int) ∈ ab_T := ab_T_in (i := 1015) (by decide +kernel) (by decide +kernel)
theorem pm_X9_run : ab_pm Y_X9_run 1 := ⟨⟨by decide +kernel, by decide +kernel⟩, by decide +kernel, tw_1015, tw_49⟩
theorem tw_1012 : Cond.methodLink "WaterMenLaw" 74 yX9_run ∈ ab_T := ab_T_in (i := 1012) (by decide +kernel) (by decide +kernel)
theorem tw_1014 : Cond.selects RX9 yX9_run yX9_run ∈ ab_T := ab_T_in (i := 1014) (by decide +kernel) (by decide +kernel)
theorem tw_1013 : Cond.instanceMethod yX9_run ∈ ab_T := ab_T_in (i := 1013) (by decide +kernel) (by decide +kernel)
theorem cs_L_74_10 : ab_cV "WaterMenLaw" 74 10 Y_X9_run 1 := ⟨pm_X9_run, RX9, TX9, 41, rfl, Or.inl ⟨rfl, tw_1012, tw_1013, tw_1014⟩⟩
theorem tw_1019 : Cond.code yX9_minute cX9_minute 3 none ∈ ab_T := ab_T_in (i := 1019) (by decide +kernel) (by decide +kernel)
theorem pm_X9_minute : ab_pm Y_X9_minute 0 := ⟨⟨by decide +kernel, by decide +kernel⟩, by decide +kernel, tw_1019, tw_49⟩
theorem tw_1016 : Cond.methodLink RX9 204 yX9_minute ∈ ab_T := ab_T_in (i := 1016) (by decide +kernel) (by decide +kernel)
theorem tw_32 : Cond.selects RX9 yX9_minute yX9_minute ∈ ab_T := ab_T_in (i := 32) (by decide +kernel) (by decide +kernel)
theorem tw_1018 : Cond.instanceMethod yX9_minute ∈ ab_T := ab_T_in (i := 1018) (by decide +kernel) (by decide +kernel)
theorem cs_X9_204_10 : ab_cV RX9 204 10 Y_X9_minute 0 := ⟨pm_X9_minute, RX9, TX9, 41, rfl, Or.inl ⟨rfl, tw_1016, tw_1018, tw_32⟩⟩
theorem tw_1023 : Cond.code yX9_flow cX9_flow 4 none ∈ ab_T := ab_T_in (i := 1023) (by decide +kernel) (by decide +kernel)
theorem pm_X9_flow : ab_pm Y_X9_flow 1 := ⟨⟨by decide +kernel, by decide +kernel⟩, by decide +kernel, tw_1023, tw_49⟩
theorem tw_1020 : Cond.methodLink RX9 195 yX9_flow ∈ ab_T := ab_T_in (i := 1020) (by decide +kernel) (by decide +kernel)
theorem tw_33 : Cond.selects RX9 yX9_flow yX9_flow ∈ ab_T := ab_T_in (i := 33) (by decide +kernel) (by decide +kernel)
theorem tw_1022 : Cond.instanceMethod yX9_flow ∈ ab_T := ab_T_in (i := 1022) (by decide +kernel) (by decide +kernel)
theorem cs_X9_195_10 : ab_cV RX9 195 10 Y_X9_flow 1 := ⟨pm_X9_flow, RX9, TX9, 41, rfl, Or.inl ⟨rfl, tw_1020, tw_1022, tw_33⟩⟩
theorem tw_1027 : Cond.code yX9_fill cX9_fill 5 none ∈ ab_T := ab_T_in (i := 1027) (by decide +kernel) (by decide +kernel)
theorem pm_X9_fill : ab_pm Y_X9_fill 1 := ⟨⟨by decide +kernel, by decide +kernel⟩, by decide +kernel, tw_1027, tw_49⟩
theorem tw_1024 : Cond.methodLink RX9 198 yX9_fill ∈ ab_T := ab_T_in (i := 1024) (by decide +kernel) (by decide +kernel)
theorem tw_34 : Cond.selects RX9 yX9_fill yX9_fill ∈ ab_T := ab_T_in (i := 34) (by decide +kernel) (by decide +kernel)
theorem tw_1026 : Cond.instanceMethod yX9_fill ∈ ab_T := ab_T_in (i := 1026) (by decide +kernel) (by decide +kernel)
theorem cs_X9_198_10 : ab_cV RX9 198 10 Y_X9_fill 1 := ⟨pm_X9_fill, RX9, TX9, 41, rfl, Or.inl ⟨rfl, tw_1024, tw_1026, tw_34⟩⟩
theorem tw_1031 : Cond.code yX9_isAhead cX9_isAhead 3 (some .boolean) ∈ ab_T := ab_T_in (i := 1031) (by decide +kernel) (by decide +kernel)
theorem pm_X9_isAhead : ab_pm Y_X9_isAhead 2 := ⟨⟨by decide +kernel, by decide +kernel⟩, by decide +kernel, tw_1031, tw_49⟩
theorem tw_1028 : Cond.methodLink RX9 172 yX9_isAhead ∈ ab_T := ab_T_in (i := 1028) (by decide +kernel) (by decide +kernel)
theorem tw_35 : Cond.selects RX9 yX9_isAhead yX9_isAhead ∈ ab_T := ab_T_in (i := 35) (by decide +kernel) (by decide +kernel)
theorem tw_1030 : Cond.instanceMethod yX9_isAhead ∈ ab_T := ab_T_in (i := 1030) (by decide +kernel) (by decide +kernel)
theorem cs_X9_172_10 : ab_cV RX9 172 10 Y_X9_isAhead 2 := ⟨pm_X9_isAhead, RX9, TX9, 41, rfl, Or.inl ⟨rfl, tw_1028, tw_1030, tw_35⟩⟩
theorem tw_1034 : Cond.code yX9_least cX9_least 2 (some .int) ∈ ab_T := ab_T_in (i := 1034) (by decide +kernel) (by decide +kernel)
theorem pm_X9_least : ab_pm Y_X9_least 2 := ⟨⟨by decide +kernel, by decide +kernel⟩, by decide +kernel, tw_1034, tw_49⟩
theorem tw_1032 : Cond.methodLink RX9 175 yX9_least ∈ ab_T := ab_T_in (i := 1032) (by decide +kernel) (by decide +kernel)
theorem tw_1033 : Cond.static yX9_least ∈ ab_T := ab_T_in (i := 1033) (by decide +kernel) (by decide +kernel)
theorem cs_X9_175 : ab_cS RX9 175 Y_X9_least 2 := ⟨pm_X9_least, tw_1032, tw_1033⟩
theorem tw_1038 : Cond.code yX9_wayOf cX9_wayOf 5 (some .int) ∈ ab_T := ab_T_in (i := 1038) (by decide +kernel) (by decide +kernel)
theorem pm_X9_wayOf : ab_pm Y_X9_wayOf 3 := ⟨⟨by decide +kernel, by decide +kernel⟩, by decide +kernel, tw_1038, tw_49⟩
theorem tw_1035 : Cond.methodLink RX9 181 yX9_wayOf ∈ ab_T := ab_T_in (i := 1035) (by decide +kernel) (by decide +kernel)
theorem tw_36 : Cond.selects RX9 yX9_wayOf yX9_wayOf ∈ ab_T := ab_T_in (i := 36) (by decide +kernel) (by decide +kernel)
theorem tw_1037 : Cond.instanceMethod yX9_wayOf ∈ ab_T := ab_T_in (i := 1037) (by decide +kernel) (by decide +kernel)
theorem cs_X9_181_10 : ab_cV RX9 181 10 Y_X9_wayOf 3 := ⟨pm_X9_wayOf, RX9, TX9, 41, rfl, Or.inl ⟨rfl, tw_1035, tw_1037, tw_36⟩⟩
theorem tw_1042 : Cond.code yX9_pour cX9_pour 4 none ∈ ab_T := ab_T_in (i := 1042) (by decide +kernel) (by decide +kernel)
theorem pm_X9_pour : ab_pm Y_X9_pour 1 := ⟨⟨by decide +kernel, by decide +kernel⟩, by decide +kernel, tw_1042, tw_49⟩
theorem tw_1039 : Cond.methodLink RX9 201 yX9_pour ∈ ab_T := ab_T_in (i := 1039) (by decide +kernel) (by decide +kernel)
theorem tw_37 : Cond.selects RX9 yX9_pour yX9_pour ∈ ab_T := ab_T_in (i := 37) (by decide +kernel) (by decide +kernel)
theorem tw_1041 : Cond.instanceMethod yX9_pour ∈ ab_T := ab_T_in (i := 1041) (by decide +kernel) (by decide +kernel)
theorem cs_X9_201_10 : ab_cV RX9 201 10 Y_X9_pour 1 := ⟨pm_X9_pour, RX9, TX9, 41, rfl, Or.inl ⟨rfl, tw_1039, tw_1041, tw_37⟩⟩
theorem tw_1046 : Cond.code yX9_keep cX9_keep 5 none ∈ ab_T := ab_T_in (i := 1046) (by decide +kernel) (by decide +kernel)
theorem pm_X9_keep : ab_pm Y_X9_keep 3 := ⟨⟨by decide +kernel, by decide +kernel⟩, by decide +kernel, tw_1046, tw_49⟩
theorem tw_1043 : Cond.methodLink RX9 188 yX9_keep ∈ ab_T := ab_T_in (i := 1043) (by decide +kernel) (by decide +kernel)
theorem tw_38 : Cond.selects RX9 yX9_keep yX9_keep ∈ ab_T := ab_T_in (i := 38) (by decide +kernel) (by decide +kernel)
theorem tw_1045 : Cond.instanceMethod yX9_keep ∈ ab_T := ab_T_in (i := 1045) (by decide +kernel) (by decide +kernel)
theorem cs_X9_188_10 : ab_cV RX9 188 10 Y_X9_keep 3 := ⟨pm_X9_keep, RX9, TX9, 41, rfl, Or.inl ⟨rfl, tw_1043, tw_1045, tw_38⟩⟩
theorem tw_1050 : Cond.code yX9_goDown cX9_goDown 2 none ∈ ab_T := ab_T_in (i := 1050) (by decide +kernel) (by decide +kernel)
theorem pm_X9_goDown : ab_pm Y_X9_goDown 1 := ⟨⟨by decide +kernel, by decide +kernel⟩, by decide +kernel, tw_1050, tw_49⟩
theorem tw_1047 : Cond.methodLink RX9 192 yX9_goDown ∈ ab_T := ab_T_in (i := 1047) (by decide +kernel) (by decide +kernel)
theorem tw_39 : Cond.selects RX9 yX9_goDown yX9_goDown ∈ ab_T := ab_T_in (i := 39) (by decide +kernel) (by decide +kernel)
theorem tw_1049 : Cond.instanceMethod yX9_goDown ∈ ab_T := ab_T_in (i := 1049) (by decide +kernel) (by decide +kernel)
theorem cs_X9_192_10 : ab_cV RX9 192 10 Y_X9_goDown 1 := ⟨pm_X9_goDown, RX9, TX9, 41, rfl, Or.inl ⟨rfl, tw_1047, tw_1049, tw_39⟩⟩
theorem tw_1054 : Cond.code yX9_told cX9_told 5 (some .int) ∈ ab_T := ab_T_in (i := 1054) (by decide +kernel) (by decide +kernel)
theorem pm_X9_told : ab_pm Y_X9_told 2 := ⟨⟨by decide +kernel, by decide +kernel⟩, by decide +kernel, tw_1054, tw_49⟩
theorem tw_1051 : Cond.methodLink "WaterMenLaw" 78 yX9_told ∈ ab_T := ab_T_in (i := 1051) (by decide +kernel) (by decide +kernel)
theorem tw_1053 : Cond.selects RX9 yX9_told yX9_told ∈ ab_T := ab_T_in (i := 1053) (by decide +kernel) (by decide +kernel)
theorem tw_1052 : Cond.instanceMethod yX9_told ∈ ab_T := ab_T_in (i := 1052) (by decide +kernel) (by decide +kernel)
theorem cs_L_78_10 : ab_cV "WaterMenLaw" 78 10 Y_X9_told 2 := ⟨pm_X9_told, RX9, TX9, 41, rfl, Or.inl ⟨rfl, tw_1051, tw_1052, tw_1053⟩⟩
theorem tw_1058 : Cond.code yX9_water cX9_water 3 (some .int) ∈ ab_T := ab_T_in (i := 1058) (by decide +kernel) (by decide +kernel)
theorem pm_X9_water : ab_pm Y_X9_water 2 := ⟨⟨by decide +kernel, by decide +kernel⟩, by decide +kernel, tw_1058, tw_49⟩
theorem tw_1055 : Cond.methodLink "WaterMenLaw" 82 yX9_water ∈ ab_T := ab_T_in (i := 1055) (by decide +kernel) (by decide +kernel)
theorem tw_1057 : Cond.selects RX9 yX9_water yX9_water ∈ ab_T := ab_T_in (i := 1057) (by decide +kernel) (by decide +kernel)
theorem tw_1056 : Cond.instanceMethod yX9_water ∈ ab_T := ab_T_in (i := 1056) (by decide +kernel) (by decide +kernel)
theorem cs_L_82_10 : ab_cV "WaterMenLaw" 82 10 Y_X9_water 2 := ⟨pm_X9_water, RX9, TX9, 41, rfl, Or.inl ⟨rfl, tw_1055, tw_1056, tw_1057⟩⟩
theorem tw_1062 : Cond.code yX9_sum cX9_sum 2 (some .long) ∈ ab_T := ab_T_in (i := 1062) (by decide +kernel) (by decide +kernel)
theorem pm_X9_sum : ab_pm Y_X9_sum 1 := ⟨⟨by decide +kernel, by decide +kernel⟩, by decide +kernel, tw_1062, tw_49⟩
theorem tw_1059 : Cond.methodLink "WaterMenLaw" 87 yX9_sum ∈ ab_T := ab_T_in (i := 1059) (by decide +kernel) (by decide +kernel)
theorem tw_1061 : Cond.selects RX9 yX9_sum yX9_sum ∈ ab_T := ab_T_in (i := 1061) (by decide +kernel) (by decide +kernel)
theorem tw_1060 : Cond.instanceMethod yX9_sum ∈ ab_T := ab_T_in (i := 1060) (by decide +kernel) (by decide +kernel)
theorem cs_L_87_10 : ab_cV "WaterMenLaw" 87 10 Y_X9_sum 1 := ⟨pm_X9_sum, RX9, TX9, 41, rfl, Or.inl ⟨rfl, tw_1059, tw_1060, tw_1061⟩⟩
theorem tw_1063 : Cond.constantLong RX9 207 (-1) ∈ ab_T := ab_T_in (i := 1063) (by decide +kernel) (by decide +kernel)
theorem tw_1067 : Cond.code yX9_fire cX9_fire 5 (some .int) ∈ ab_T := ab_T_in (i := 1067) (by decide +kernel) (by decide +kernel)
theorem pm_X9_fire : ab_pm Y_X9_fire 2 := ⟨⟨by decide +kernel, by decide +kernel⟩, by decide +kernel, tw_1067, tw_49⟩
theorem tw_1064 : Cond.methodLink "WaterMenLaw" 91 yX9_fire ∈ ab_T := ab_T_in (i := 1064) (by decide +kernel) (by decide +kernel)
theorem tw_1066 : Cond.selects RX9 yX9_fire yX9_fire ∈ ab_T := ab_T_in (i := 1066) (by decide +kernel) (by decide +kernel)
theorem tw_1065 : Cond.instanceMethod yX9_fire ∈ ab_T := ab_T_in (i := 1065) (by decide +kernel) (by decide +kernel)
theorem cs_L_91_10 : ab_cV "WaterMenLaw" 91 10 Y_X9_fire 2 := ⟨pm_X9_fire, RX9, TX9, 41, rfl, Or.inl ⟨rfl, tw_1064, tw_1065, tw_1066⟩⟩
theorem tw_1071 : Cond.code yX9_poured cX9_poured 3 (some .int) ∈ ab_T := ab_T_in (i := 1071) (by decide +kernel) (by decide +kernel)
theorem pm_X9_poured : ab_pm Y_X9_poured 2 := ⟨⟨by decide +kernel, by decide +kernel⟩, by decide +kernel, tw_1071, tw_49⟩
theorem tw_1068 : Cond.methodLink "WaterMenLaw" 95 yX9_poured ∈ ab_T := ab_T_in (i := 1068) (by decide +kernel) (by decide +kernel)
theorem tw_1070 : Cond.selects RX9 yX9_poured yX9_poured ∈ ab_T := ab_T_in (i := 1070) (by decide +kernel) (by decide +kernel)
theorem tw_1069 : Cond.instanceMethod yX9_poured ∈ ab_T := ab_T_in (i := 1069) (by decide +kernel) (by decide +kernel)
theorem cs_L_95_10 : ab_cV "WaterMenLaw" 95 10 Y_X9_poured 2 := ⟨pm_X9_poured, RX9, TX9, 41, rfl, Or.inl ⟨rfl, tw_1068, tw_1069, tw_1070⟩⟩
theorem tw_1075 : Cond.code yX9_foul cX9_foul 5 (some .int) ∈ ab_T := ab_T_in (i := 1075) (by decide +kernel) (by decide +kernel)
theorem pm_X9_foul : ab_pm Y_X9_foul 2 := ⟨⟨by decide +kernel, by decide +kernel⟩, by decide +kernel, tw_1075, tw_49⟩
theorem tw_1072 : Cond.methodLink "WaterMenLaw" 99 yX9_foul ∈ ab_T := ab_T_in (i := 1072) (by decide +kernel) (by decide +kernel)
theorem tw_1074 : Cond.selects RX9 yX9_foul yX9_foul ∈ ab_T := ab_T_in (i := 1074) (by decide +kernel) (by decide +kernel)
theorem tw_1073 : Cond.instanceMethod yX9_foul ∈ ab_T := ab_T_in (i := 1073) (by decide +kernel) (by decide +kernel)
theorem cs_L_99_10 : ab_cV "WaterMenLaw" 99 10 Y_X9_foul 2 := ⟨pm_X9_foul, RX9, TX9, 41, rfl, Or.inl ⟨rfl, tw_1072, tw_1073, tw_1074⟩⟩
theorem tw_1079 : Cond.code yX9_give cX9_give 10 (some .int) ∈ ab_T := ab_T_in (i := 1079) (by decide +kernel) (by decide +kernel)
theorem pm_X9_give : ab_pm Y_X9_give 3 := ⟨⟨by decide +kernel, by decide +kernel⟩, by decide +kernel, tw_1079, tw_49⟩
theorem tw_1076 : Cond.methodLink "WaterMenLaw" 103 yX9_give ∈ ab_T := ab_T_in (i := 1076) (by decide +kernel) (by decide +kernel)
theorem tw_1078 : Cond.selects RX9 yX9_give yX9_give ∈ ab_T := ab_T_in (i := 1078) (by decide +kernel) (by decide +kernel)
theorem tw_1077 : Cond.instanceMethod yX9_give ∈ ab_T := ab_T_in (i := 1077) (by decide +kernel) (by decide +kernel)
theorem cs_L_103_10 : ab_cV "WaterMenLaw" 103 10 Y_X9_give 3 := ⟨pm_X9_give, RX9, TX9, 41, rfl, Or.inl ⟨rfl, tw_1076, tw_1077, tw_1078⟩⟩
theorem tw_1082 : Cond.code yX9_ones cX9_ones 3 (some .int) ∈ ab_T := ab_T_in (i := 1082) (by decide +kernel) (by decide +kernel)
theorem pm_X9_ones : ab_pm Y_X9_ones 1 := ⟨⟨by decide +kernel, by decide +kernel⟩, by decide +kernel, tw_1082, tw_49⟩
theorem tw_1080 : Cond.methodLink RX9 209 yX9_ones ∈ ab_T := ab_T_in (i := 1080) (by decide +kernel) (by decide +kernel)
theorem tw_1081 : Cond.static yX9_ones ∈ ab_T := ab_T_in (i := 1081) (by decide +kernel) (by decide +kernel)
theorem cs_X9_209 : ab_cS RX9 209 Y_X9_ones 1 := ⟨pm_X9_ones, tw_1080, tw_1081⟩
theorem tw_1086 : Cond.code yX9_given cX9_given 2 (some .int) ∈ ab_T := ab_T_in (i := 1086) (by decide +kernel) (by decide +kernel)
theorem pm_X9_given : ab_pm Y_X9_given 1 := ⟨⟨by decide +kernel, by decide +kernel⟩, by decide +kernel, tw_1086, tw_49⟩
theorem tw_1083 : Cond.methodLink "WaterMenLaw" 107 yX9_given ∈ ab_T := ab_T_in (i := 1083) (by decide +kernel) (by decide +kernel)
theorem tw_1085 : Cond.selects RX9 yX9_given yX9_given ∈ ab_T := ab_T_in (i := 1085) (by decide +kernel) (by decide +kernel)
theorem tw_1084 : Cond.instanceMethod yX9_given ∈ ab_T := ab_T_in (i := 1084) (by decide +kernel) (by decide +kernel)
theorem cs_L_107_10 : ab_cV "WaterMenLaw" 107 10 Y_X9_given 1 := ⟨pm_X9_given, RX9, TX9, 41, rfl, Or.inl ⟨rfl, tw_1083, tw_1084, tw_1085⟩⟩
theorem tw_1090 : Cond.code yX9_count cX9_count 4 (some .int) ∈ ab_T := ab_T_in (i := 1090) (by decide +kernel) (by decide +kernel)
theorem pm_X9_count : ab_pm Y_X9_count 1 := ⟨⟨by decide +kernel, by decide +kernel⟩, by decide +kernel, tw_1090, tw_49⟩
theorem tw_1087 : Cond.methodLink "WaterMenLaw" 111 yX9_count ∈ ab_T := ab_T_in (i := 1087) (by decide +kernel) (by decide +kernel)
theorem tw_1089 : Cond.selects RX9 yX9_count yX9_count ∈ ab_T := ab_T_in (i := 1089) (by decide +kernel) (by decide +kernel)
theorem tw_1088 : Cond.instanceMethod yX9_count ∈ ab_T := ab_T_in (i := 1088) (by decide +kernel) (by decide +kernel)
theorem cs_L_111_10 : ab_cV "WaterMenLaw" 111 10 Y_X9_count 1 := ⟨pm_X9_count, RX9, TX9, 41, rfl, Or.inl ⟨rfl, tw_1087, tw_1088, tw_1089⟩⟩
theorem tw_1091 : Cond.constantLong "WaterMenLaw" 55 (4294967295) ∈ ab_T := ab_T_in (i := 1091) (by decide +kernel) (by decide +kernel)
theorem nc_1092 : Cond.castable RX0 RX5 ∈ ab_nest := ab_nest_in (i := 1092) (by decide +kernel) rfl
theorem nc_1093 : Cond.castable RX7 RX5 ∈ ab_nest := ab_nest_in (i := 1093) (by decide +kernel) rfl
theorem nc_1094 : Cond.castable RX8 "java/lang/Object" ∈ ab_nest := ab_nest_in (i := 1094) (by decide +kernel) rfl
theorem nc_1095 : Cond.castable RJx4a65c "java/lang/Object" ∈ ab_nest := ab_nest_in (i := 1095) (by decide +kernel) rfl
theorem nc_1096 : Cond.castable RX1 "java/lang/Object" ∈ ab_nest := ab_nest_in (i := 1096) (by decide +kernel) rfl
theorem nc_1097 : Cond.castable RX6 "java/lang/Object" ∈ ab_nest := ab_nest_in (i := 1097) (by decide +kernel) rfl
theorem nc_1098 : Cond.castable RX3 "java/lang/Object" ∈ ab_nest := ab_nest_in (i := 1098) (by decide +kernel) rfl
theorem nc_1099 : Cond.castable RX9 "java/lang/Object" ∈ ab_nest := ab_nest_in (i := 1099) (by decide +kernel) rfl
theorem nc_1100 : Cond.castable RX2 "java/lang/Object" ∈ ab_nest := ab_nest_in (i := 1100) (by decide +kernel) rfl
theorem nc_1101 : Cond.castable RX4 "java/lang/Object" ∈ ab_nest := ab_nest_in (i := 1101) (by decide +kernel) rfl
theorem nc_1102 : Cond.castable RX0 "java/lang/Object" ∈ ab_nest := ab_nest_in (i := 1102) (by decide +kernel) rfl
theorem nc_1103 : Cond.castable RX7 "java/lang/Object" ∈ ab_nest := ab_nest_in (i := 1103) (by decide +kernel) rfl
theorem nc_1104 : Cond.castable RX5 "java/lang/Object" ∈ ab_nest := ab_nest_in (i := 1104) (by decide +kernel) rfl
theorem nc_1108 : Cond.castable "[I" "java/lang/Object" ∈ ab_nest := ab_nest_in (i := 1108) (by decide +kernel) rfl
theorem nc_1109 : Cond.castable "[J" "java/lang/Object" ∈ ab_nest := ab_nest_in (i := 1109) (by decide +kernel) rfl
theorem nc_1110 : Cond.castable "[Ljava/lang/Object;" "java/lang/Object" ∈ ab_nest := ab_nest_in (i := 1110) (by decide +kernel) rfl
theorem nc_1111 : Cond.castable "[Z" "java/lang/Object" ∈ ab_nest := ab_nest_in (i := 1111) (by decide +kernel) rfl
theorem tw_286 : Cond.methodLink RJ7 150 arraycopyName ∈ ab_T := ab_T_in (i := 286) (by decide +kernel) (by decide +kernel)
theorem tw_515 : Cond.methodLink RJx4a65c 112 arraycopyName ∈ ab_T := ab_T_in (i := 515) (by decide +kernel) (by decide +kernel)
theorem tw_81 : Cond.fieldLink RJx4a65c 39 "java/util/ArrayList" "DEFAULTCAPACITY_EMPTY_ELEMENTDATA" "[Ljava/lang/Object;" ∈ ab_T := ab_T_in (i := 81) (by decide +kernel) (by decide +kernel)
theorem tw_68 : Cond.code objectInit ⟨#[0xb1]⟩ 1 none ∈ ab_T := ab_T_in (i := 68) (by decide +kernel) (by decide +kernel)
theorem tw_67 : Cond.instanceMethod objectInit ∈ ab_T := ab_T_in (i := 67) (by decide +kernel) (by decide +kernel)
