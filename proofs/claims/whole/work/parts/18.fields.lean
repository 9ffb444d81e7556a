/-! the field links, a row each -/
theorem wX4_init_10 {v : Value} (h1 : narrow (tyX4 0) v = v) (h2 : fits (tyX4 0) v = true) : zw_W wsX4_init RX4 10 4 0 true v := ⟨RX4, TX4, 4, (tyX4 0), rfl, by decide, by decide +kernel, by decide +kernel, rfl, rfl, tyX4_ok 0 (by decide), h1, h2⟩
theorem wX4_init_19 {v : Value} (h1 : narrow (tyX4 1) v = v) (h2 : fits (tyX4 1) v = true) : zw_W wsX4_init RX4 19 4 1 true v := ⟨RX4, TX4, 4, (tyX4 1), rfl, by decide, by decide +kernel, by decide +kernel, rfl, rfl, tyX4_ok 1 (by decide), h1, h2⟩
theorem wX4_init_26 {v : Value} (h1 : narrow (tyX4 2) v = v) (h2 : fits (tyX4 2) v = true) : zw_W wsX4_init RX4 26 4 2 true v := ⟨RX4, TX4, 4, (tyX4 2), rfl, by decide, by decide +kernel, by decide +kernel, rfl, rfl, tyX4_ok 2 (by decide), h1, h2⟩
theorem wX4_init_33 {v : Value} (h1 : narrow (tyX4 3) v = v) (h2 : fits (tyX4 3) v = true) : zw_W wsX4_init RX4 33 4 3 true v := ⟨RX4, TX4, 4, (tyX4 3), rfl, by decide, by decide +kernel, by decide +kernel, rfl, rfl, tyX4_ok 3 (by decide), h1, h2⟩
theorem fX4_put_10 : zw_F wsX4_put RX4 10 4 0 := ⟨RX4, TX4, 4, rfl, by decide, by decide +kernel, by decide +kernel, rfl⟩
theorem fX4_putIfAbsent_10 : zw_F wsX4_putIfAbsent RX4 10 4 0 := ⟨RX4, TX4, 4, rfl, by decide, by decide +kernel, by decide +kernel, rfl⟩
theorem fX4_get_10 : zw_F wsX4_get RX4 10 4 0 := ⟨RX4, TX4, 4, rfl, by decide, by decide +kernel, by decide +kernel, rfl⟩
theorem fX4_getOr_10 : zw_F wsX4_getOr RX4 10 4 0 := ⟨RX4, TX4, 4, rfl, by decide, by decide +kernel, by decide +kernel, rfl⟩
theorem fX4_replace_10 : zw_F wsX4_replace RX4 10 4 0 := ⟨RX4, TX4, 4, rfl, by decide, by decide +kernel, by decide +kernel, rfl⟩
theorem fX4_replaceIf_10 : zw_F wsX4_replaceIf RX4 10 4 0 := ⟨RX4, TX4, 4, rfl, by decide, by decide +kernel, by decide +kernel, rfl⟩
theorem fX4_look_10 : zw_F wsX4_look RX4 10 4 0 := ⟨RX4, TX4, 4, rfl, by decide, by decide +kernel, by decide +kernel, rfl⟩
theorem fX4_has_10 : zw_F wsX4_has RX4 10 4 0 := ⟨RX4, TX4, 4, rfl, by decide, by decide +kernel, by decide +kernel, rfl⟩
theorem fX4_remove_10 : zw_F wsX4_remove RX4 10 4 0 := ⟨RX4, TX4, 4, rfl, by decide, by decide +kernel, by decide +kernel, rfl⟩
theorem fX4_size_10 : zw_F wsX4_size RX4 10 4 0 := ⟨RX4, TX4, 4, rfl, by decide, by decide +kernel, by decide +kernel, rfl⟩
theorem fX4_size_69 : zw_FN wsX4_size RX4 69 0 0 := ⟨RX0, TX0, 4, rfl, by decide, by decide +kernel, by decide +kernel, rfl⟩
theorem fX4_limit_10 : zw_F wsX4_limit RX4 10 4 0 := ⟨RX4, TX4, 4, rfl, by decide, by decide +kernel, by decide +kernel, rfl⟩
theorem wX4_limit_83 {v : Value} (h1 : narrow (tyX0 2) v = v) (h2 : fits (tyX0 2) v = true) : zw_WN wsX4_limit RX4 83 0 2 v := ⟨RX0, TX0, 4, (tyX0 2), rfl, by decide, by decide +kernel, by decide +kernel, rfl, rfl, tyX0_ok 2 (by decide), h1, h2⟩
theorem fX4_way_10 : zw_F wsX4_way RX4 10 4 0 := ⟨RX4, TX4, 4, rfl, by decide, by decide +kernel, by decide +kernel, rfl⟩
theorem fX4_way_94 : zw_FN wsX4_way RX4 94 0 3 := ⟨RX0, TX0, 4, rfl, by decide, by decide +kernel, by decide +kernel, rfl⟩
theorem wX4_way_94 {v : Value} (h1 : narrow (tyX0 3) v = v) (h2 : fits (tyX0 3) v = true) : zw_WN wsX4_way RX4 94 0 3 v := ⟨RX0, TX0, 4, (tyX0 3), rfl, by decide, by decide +kernel, by decide +kernel, rfl, rfl, tyX0_ok 3 (by decide), h1, h2⟩
theorem fX4_keyAt_10 : zw_F wsX4_keyAt RX4 10 4 0 := ⟨RX4, TX4, 4, rfl, by decide, by decide +kernel, by decide +kernel, rfl⟩
theorem fX4_placeOf_10 : zw_F wsX4_placeOf RX4 10 4 0 := ⟨RX4, TX4, 4, rfl, by decide, by decide +kernel, by decide +kernel, rfl⟩
theorem fX4_setAt_10 : zw_F wsX4_setAt RX4 10 4 0 := ⟨RX4, TX4, 4, rfl, by decide, by decide +kernel, by decide +kernel, rfl⟩
theorem fX4_removeAt_10 : zw_F wsX4_removeAt RX4 10 4 0 := ⟨RX4, TX4, 4, rfl, by decide, by decide +kernel, by decide +kernel, rfl⟩
theorem fX4_thin_10 : zw_F wsX4_thin RX4 10 4 0 := ⟨RX4, TX4, 4, rfl, by decide, by decide +kernel, by decide +kernel, rfl⟩
theorem fX4_thin_69 : zw_FN wsX4_thin RX4 69 0 0 := ⟨RX0, TX0, 4, rfl, by decide, by decide +kernel, by decide +kernel, rfl⟩
theorem fX4_walk_26 : zw_F wsX4_walk RX4 26 4 2 := ⟨RX4, TX4, 4, rfl, by decide, by decide +kernel, by decide +kernel, rfl⟩
theorem fX4_walk_10 : zw_F wsX4_walk RX4 10 4 0 := ⟨RX4, TX4, 4, rfl, by decide, by decide +kernel, by decide +kernel, rfl⟩
theorem fX4_walk_69 : zw_FN wsX4_walk RX4 69 0 0 := ⟨RX0, TX0, 4, rfl, by decide, by decide +kernel, by decide +kernel, rfl⟩
theorem fX4_step_26 : zw_F wsX4_step RX4 26 4 2 := ⟨RX4, TX4, 4, rfl, by decide, by decide +kernel, by decide +kernel, rfl⟩
theorem fX4_step_10 : zw_F wsX4_step RX4 10 4 0 := ⟨RX4, TX4, 4, rfl, by decide, by decide +kernel, by decide +kernel, rfl⟩
theorem fX4_cut_26 : zw_F wsX4_cut RX4 26 4 2 := ⟨RX4, TX4, 4, rfl, by decide, by decide +kernel, by decide +kernel, rfl⟩
theorem fX4_cut_19 : zw_F wsX4_cut RX4 19 4 1 := ⟨RX4, TX4, 4, rfl, by decide, by decide +kernel, by decide +kernel, rfl⟩
theorem fX4_cut_10 : zw_F wsX4_cut RX4 10 4 0 := ⟨RX4, TX4, 4, rfl, by decide, by decide +kernel, by decide +kernel, rfl⟩
theorem fX4_cut_69 : zw_FN wsX4_cut RX4 69 0 0 := ⟨RX0, TX0, 4, rfl, by decide, by decide +kernel, by decide +kernel, rfl⟩
theorem fX4_moves_10 : zw_F wsX4_moves RX4 10 4 0 := ⟨RX4, TX4, 4, rfl, by decide, by decide +kernel, by decide +kernel, rfl⟩
theorem fX4_moves_69 : zw_FN wsX4_moves RX4 69 0 0 := ⟨RX0, TX0, 4, rfl, by decide, by decide +kernel, by decide +kernel, rfl⟩
theorem fX4_move_10 : zw_F wsX4_move RX4 10 4 0 := ⟨RX4, TX4, 4, rfl, by decide, by decide +kernel, by decide +kernel, rfl⟩
theorem fX4_move_69 : zw_FN wsX4_move RX4 69 0 0 := ⟨RX0, TX0, 4, rfl, by decide, by decide +kernel, by decide +kernel, rfl⟩
theorem fX4_move_170 : zw_FN wsX4_move RX4 170 0 1 := ⟨RX0, TX0, 4, rfl, by decide, by decide +kernel, by decide +kernel, rfl⟩
theorem fX4_crossings_10 : zw_F wsX4_crossings RX4 10 4 0 := ⟨RX4, TX4, 4, rfl, by decide, by decide +kernel, by decide +kernel, rfl⟩
theorem fX4_undo_19 : zw_F wsX4_undo RX4 19 4 1 := ⟨RX4, TX4, 4, rfl, by decide, by decide +kernel, by decide +kernel, rfl⟩
theorem fX4_undo_26 : zw_F wsX4_undo RX4 26 4 2 := ⟨RX4, TX4, 4, rfl, by decide, by decide +kernel, by decide +kernel, rfl⟩
theorem fX4_undo_10 : zw_F wsX4_undo RX4 10 4 0 := ⟨RX4, TX4, 4, rfl, by decide, by decide +kernel, by decide +kernel, rfl⟩
theorem fX4_isTrue_10 : zw_F wsX4_isTrue RX4 10 4 0 := ⟨RX4, TX4, 4, rfl, by decide, by decide +kernel, by decide +kernel, rfl⟩
theorem fX4_isTrue_69 : zw_FN wsX4_isTrue RX4 69 0 0 := ⟨RX0, TX0, 4, rfl, by decide, by decide +kernel, by decide +kernel, rfl⟩
theorem fX4_isTrue_170 : zw_FN wsX4_isTrue RX4 170 0 1 := ⟨RX0, TX0, 4, rfl, by decide, by decide +kernel, by decide +kernel, rfl⟩
theorem fX4_isTrue_83 : zw_FN wsX4_isTrue RX4 83 0 2 := ⟨RX0, TX0, 4, rfl, by decide, by decide +kernel, by decide +kernel, rfl⟩
theorem fX4_checksum_10 : zw_F wsX4_checksum RX4 10 4 0 := ⟨RX4, TX4, 4, rfl, by decide, by decide +kernel, by decide +kernel, rfl⟩
theorem fX4_checksum_69 : zw_FN wsX4_checksum RX4 69 0 0 := ⟨RX0, TX0, 4, rfl, by decide, by decide +kernel, by decide +kernel, rfl⟩
theorem fX4_checksum_170 : zw_FN wsX4_checksum RX4 170 0 1 := ⟨RX0, TX0, 4, rfl, by decide, by decide +kernel, by decide +kernel, rfl⟩
theorem fX4_checksum_83 : zw_FN wsX4_checksum RX4 83 0 2 := ⟨RX0, TX0, 4, rfl, by decide, by decide +kernel, by decide +kernel, rfl⟩
theorem fX4_checksum_94 : zw_FN wsX4_checksum RX4 94 0 3 := ⟨RX0, TX0, 4, rfl, by decide, by decide +kernel, by decide +kernel, rfl⟩
theorem fX4_checksum_19 : zw_F wsX4_checksum RX4 19 4 1 := ⟨RX4, TX4, 4, rfl, by decide, by decide +kernel, by decide +kernel, rfl⟩
theorem fX4_beginChange_26 : zw_F wsX4_beginChange RX4 26 4 2 := ⟨RX4, TX4, 4, rfl, by decide, by decide +kernel, by decide +kernel, rfl⟩
theorem fX4_beginChange_19 : zw_F wsX4_beginChange RX4 19 4 1 := ⟨RX4, TX4, 4, rfl, by decide, by decide +kernel, by decide +kernel, rfl⟩
theorem fX4_beginChange_10 : zw_F wsX4_beginChange RX4 10 4 0 := ⟨RX4, TX4, 4, rfl, by decide, by decide +kernel, by decide +kernel, rfl⟩
theorem fX4_movesGiveAsking_33 : zw_F wsX4_movesGiveAsking RX4 33 4 3 := ⟨RX4, TX4, 4, rfl, by decide, by decide +kernel, by decide +kernel, rfl⟩
theorem fX4_movesGiveAsking_10 : zw_F wsX4_movesGiveAsking RX4 10 4 0 := ⟨RX4, TX4, 4, rfl, by decide, by decide +kernel, by decide +kernel, rfl⟩
theorem fX4_movesGiveAsking_69 : zw_FN wsX4_movesGiveAsking RX4 69 0 0 := ⟨RX0, TX0, 4, rfl, by decide, by decide +kernel, by decide +kernel, rfl⟩
theorem fX4_movesGiveAsking_170 : zw_FN wsX4_movesGiveAsking RX4 170 0 1 := ⟨RX0, TX0, 4, rfl, by decide, by decide +kernel, by decide +kernel, rfl⟩
theorem fX4_refuseAbsentKey_10 : zw_F wsX4_refuseAbsentKey RX4 10 4 0 := ⟨RX4, TX4, 4, rfl, by decide, by decide +kernel, by decide +kernel, rfl⟩
theorem fX4_refuseUnknownPlace_10 : zw_F wsX4_refuseUnknownPlace RX4 10 4 0 := ⟨RX4, TX4, 4, rfl, by decide, by decide +kernel, by decide +kernel, rfl⟩
theorem fX4_refuseUnknownPlace_69 : zw_FN wsX4_refuseUnknownPlace RX4 69 0 0 := ⟨RX0, TX0, 4, rfl, by decide, by decide +kernel, by decide +kernel, rfl⟩
theorem wX5_init_9 {v : Value} (h1 : narrow (tyX5 0) v = v) (h2 : fits (tyX5 0) v = true) : zw_W wsX5_init RX5 9 5 0 true v := ⟨RX5, TX5, 19, (tyX5 0), rfl, by decide, by decide +kernel, by decide +kernel, rfl, rfl, tyX5_ok 0 (by decide), h1, h2⟩
theorem wX5_init_13 {v : Value} (h1 : narrow (tyX5 1) v = v) (h2 : fits (tyX5 1) v = true) : zw_W wsX5_init RX5 13 5 1 true v := ⟨RX5, TX5, 19, (tyX5 1), rfl, by decide, by decide +kernel, by decide +kernel, rfl, rfl, tyX5_ok 1 (by decide), h1, h2⟩
theorem wX5_init_16 {v : Value} (h1 : narrow (tyX5 2) v = v) (h2 : fits (tyX5 2) v = true) : zw_W wsX5_init RX5 16 5 2 true v := ⟨RX5, TX5, 19, (tyX5 2), rfl, by decide, by decide +kernel, by decide +kernel, rfl, rfl, tyX5_ok 2 (by decide), h1, h2⟩
theorem wX5_init_19 {v : Value} (h1 : narrow (tyX5 4) v = v) (h2 : fits (tyX5 4) v = true) : zw_W wsX5_init RX5 19 5 4 false v := ⟨RX5, TX5, 19, (tyX5 4), rfl, by decide, by decide +kernel, by decide +kernel, rfl, rfl, tyX5_ok 4 (by decide), h1, h2⟩
theorem wX5_init_23 {v : Value} (h1 : narrow (tyX5 5) v = v) (h2 : fits (tyX5 5) v = true) : zw_W wsX5_init RX5 23 5 5 false v := ⟨RX5, TX5, 19, (tyX5 5), rfl, by decide, by decide +kernel, by decide +kernel, rfl, rfl, tyX5_ok 5 (by decide), h1, h2⟩
theorem wX5_init_29 {v : Value} (h1 : narrow (tyX5 6) v = v) (h2 : fits (tyX5 6) v = true) : zw_W wsX5_init RX5 29 5 6 true v := ⟨RX5, TX5, 19, (tyX5 6), rfl, by decide, by decide +kernel, by decide +kernel, rfl, rfl, tyX5_ok 6 (by decide), h1, h2⟩
theorem wX5_init_32 {v : Value} (h1 : narrow (tyX5 7) v = v) (h2 : fits (tyX5 7) v = true) : zw_W wsX5_init RX5 32 5 7 true v := ⟨RX5, TX5, 19, (tyX5 7), rfl, by decide, by decide +kernel, by decide +kernel, rfl, rfl, tyX5_ok 7 (by decide), h1, h2⟩
theorem wX5_init_35 {v : Value} (h1 : narrow (tyX5 8) v = v) (h2 : fits (tyX5 8) v = true) : zw_W wsX5_init RX5 35 5 8 true v := ⟨RX5, TX5, 19, (tyX5 8), rfl, by decide, by decide +kernel, by decide +kernel, rfl, rfl, tyX5_ok 8 (by decide), h1, h2⟩
theorem wX5_init_38 {v : Value} (h1 : narrow (tyX5 9) v = v) (h2 : fits (tyX5 9) v = true) : zw_W wsX5_init RX5 38 5 9 true v := ⟨RX5, TX5, 19, (tyX5 9), rfl, by decide, by decide +kernel, by decide +kernel, rfl, rfl, tyX5_ok 9 (by decide), h1, h2⟩
theorem wX5_init_41 {v : Value} (h1 : narrow (tyX5 10) v = v) (h2 : fits (tyX5 10) v = true) : zw_W wsX5_init RX5 41 5 10 true v := ⟨RX5, TX5, 19, (tyX5 10), rfl, by decide, by decide +kernel, by decide +kernel, rfl, rfl, tyX5_ok 10 (by decide), h1, h2⟩
theorem wX5_init_44 {v : Value} (h1 : narrow (tyX5 11) v = v) (h2 : fits (tyX5 11) v = true) : zw_W wsX5_init RX5 44 5 11 true v := ⟨RX5, TX5, 19, (tyX5 11), rfl, by decide, by decide +kernel, by decide +kernel, rfl, rfl, tyX5_ok 11 (by decide), h1, h2⟩
theorem wX5_init_48 {v : Value} (h1 : narrow (tyX5 14) v = v) (h2 : fits (tyX5 14) v = true) : zw_W wsX5_init RX5 48 5 14 true v := ⟨RX5, TX5, 19, (tyX5 14), rfl, by decide, by decide +kernel, by decide +kernel, rfl, rfl, tyX5_ok 14 (by decide), h1, h2⟩
theorem wX5_init_51 {v : Value} (h1 : narrow (tyX5 17) v = v) (h2 : fits (tyX5 17) v = true) : zw_W wsX5_init RX5 51 5 17 false v := ⟨RX5, TX5, 19, (tyX5 17), rfl, by decide, by decide +kernel, by decide +kernel, rfl, rfl, tyX5_ok 17 (by decide), h1, h2⟩
theorem fX5_thrown_54 : zw_F wsX5_thrown RX5 54 5 18 := ⟨RX5, TX5, 19, rfl, by decide, by decide +kernel, by decide +kernel, rfl⟩
theorem wX5_no_54 {v : Value} (h1 : narrow (tyX5 18) v = v) (h2 : fits (tyX5 18) v = true) : zw_W wsX5_no RX5 54 5 18 false v := ⟨RX5, TX5, 19, (tyX5 18), rfl, by decide, by decide +kernel, by decide +kernel, rfl, rfl, tyX5_ok 18 (by decide), h1, h2⟩
theorem fX5_row_9 : zw_F wsX5_row RX5 9 5 0 := ⟨RX5, TX5, 19, rfl, by decide, by decide +kernel, by decide +kernel, rfl⟩
theorem fX5_row_16 : zw_F wsX5_row RX5 16 5 2 := ⟨RX5, TX5, 19, rfl, by decide, by decide +kernel, by decide +kernel, rfl⟩
theorem fX5_place_57 : zw_F wsX5_place RX5 57 5 3 := ⟨RX5, TX5, 19, rfl, by decide, by decide +kernel, by decide +kernel, rfl⟩
theorem fX5_moved_29 : zw_F wsX5_moved RX5 29 5 6 := ⟨RX5, TX5, 19, rfl, by decide, by decide +kernel, by decide +kernel, rfl⟩
theorem fX5_moved_32 : zw_F wsX5_moved RX5 32 5 7 := ⟨RX5, TX5, 19, rfl, by decide, by decide +kernel, by decide +kernel, rfl⟩
theorem fX5_moved_35 : zw_F wsX5_moved RX5 35 5 8 := ⟨RX5, TX5, 19, rfl, by decide, by decide +kernel, by decide +kernel, rfl⟩
theorem fX5_moved_38 : zw_F wsX5_moved RX5 38 5 9 := ⟨RX5, TX5, 19, rfl, by decide, by decide +kernel, by decide +kernel, rfl⟩
theorem fX5_moved_41 : zw_F wsX5_moved RX5 41 5 10 := ⟨RX5, TX5, 19, rfl, by decide, by decide +kernel, by decide +kernel, rfl⟩
theorem fX5_moved_44 : zw_F wsX5_moved RX5 44 5 11 := ⟨RX5, TX5, 19, rfl, by decide, by decide +kernel, by decide +kernel, rfl⟩
theorem fX5_keeps_64 : zw_F wsX5_keeps RX5 64 5 12 := ⟨RX5, TX5, 19, rfl, by decide, by decide +kernel, by decide +kernel, rfl⟩
theorem wX5_keeps_64 {v : Value} (h1 : narrow (tyX5 12) v = v) (h2 : fits (tyX5 12) v = true) : zw_W wsX5_keeps RX5 64 5 12 false v := ⟨RX5, TX5, 19, (tyX5 12), rfl, by decide, by decide +kernel, by decide +kernel, rfl, rfl, tyX5_ok 12 (by decide), h1, h2⟩
theorem fX5_keeps_9 : zw_F wsX5_keeps RX5 9 5 0 := ⟨RX5, TX5, 19, rfl, by decide, by decide +kernel, by decide +kernel, rfl⟩
theorem fX5_keeps_29 : zw_F wsX5_keeps RX5 29 5 6 := ⟨RX5, TX5, 19, rfl, by decide, by decide +kernel, by decide +kernel, rfl⟩
theorem fX5_keeps_13 : zw_F wsX5_keeps RX5 13 5 1 := ⟨RX5, TX5, 19, rfl, by decide, by decide +kernel, by decide +kernel, rfl⟩
theorem fX5_keeps_32 : zw_F wsX5_keeps RX5 32 5 7 := ⟨RX5, TX5, 19, rfl, by decide, by decide +kernel, by decide +kernel, rfl⟩
theorem fX5_keeps_16 : zw_F wsX5_keeps RX5 16 5 2 := ⟨RX5, TX5, 19, rfl, by decide, by decide +kernel, by decide +kernel, rfl⟩
theorem fX5_keeps_35 : zw_F wsX5_keeps RX5 35 5 8 := ⟨RX5, TX5, 19, rfl, by decide, by decide +kernel, by decide +kernel, rfl⟩
theorem fX5_keeps_38 : zw_F wsX5_keeps RX5 38 5 9 := ⟨RX5, TX5, 19, rfl, by decide, by decide +kernel, by decide +kernel, rfl⟩
theorem fX5_keeps_57 : zw_F wsX5_keeps RX5 57 5 3 := ⟨RX5, TX5, 19, rfl, by decide, by decide +kernel, by decide +kernel, rfl⟩
theorem fX5_keeps_41 : zw_F wsX5_keeps RX5 41 5 10 := ⟨RX5, TX5, 19, rfl, by decide, by decide +kernel, by decide +kernel, rfl⟩
theorem fX5_keeps_19 : zw_F wsX5_keeps RX5 19 5 4 := ⟨RX5, TX5, 19, rfl, by decide, by decide +kernel, by decide +kernel, rfl⟩
theorem fX5_keeps_44 : zw_F wsX5_keeps RX5 44 5 11 := ⟨RX5, TX5, 19, rfl, by decide, by decide +kernel, by decide +kernel, rfl⟩
theorem fX5_keeps_23 : zw_F wsX5_keeps RX5 23 5 5 := ⟨RX5, TX5, 19, rfl, by decide, by decide +kernel, by decide +kernel, rfl⟩
theorem wX5_changes_74 {v : Value} (h1 : narrow (tyX5 13) v = v) (h2 : fits (tyX5 13) v = true) : zw_W wsX5_changes RX5 74 5 13 false v := ⟨RX5, TX5, 19, (tyX5 13), rfl, by decide, by decide +kernel, by decide +kernel, rfl, rfl, tyX5_ok 13 (by decide), h1, h2⟩
theorem fX5_touched_16 : zw_F wsX5_touched RX5 16 5 2 := ⟨RX5, TX5, 19, rfl, by decide, by decide +kernel, by decide +kernel, rfl⟩
theorem fX5_touched_57 : zw_F wsX5_touched RX5 57 5 3 := ⟨RX5, TX5, 19, rfl, by decide, by decide +kernel, by decide +kernel, rfl⟩
theorem fX5_out_9 : zw_F wsX5_out RX5 9 5 0 := ⟨RX5, TX5, 19, rfl, by decide, by decide +kernel, by decide +kernel, rfl⟩
theorem fX5_out_57 : zw_F wsX5_out RX5 57 5 3 := ⟨RX5, TX5, 19, rfl, by decide, by decide +kernel, by decide +kernel, rfl⟩
theorem fX5_out_13 : zw_F wsX5_out RX5 13 5 1 := ⟨RX5, TX5, 19, rfl, by decide, by decide +kernel, by decide +kernel, rfl⟩
theorem fX5_out_16 : zw_F wsX5_out RX5 16 5 2 := ⟨RX5, TX5, 19, rfl, by decide, by decide +kernel, by decide +kernel, rfl⟩
theorem wX5_out_57 {v : Value} (h1 : narrow (tyX5 3) v = v) (h2 : fits (tyX5 3) v = true) : zw_W wsX5_out RX5 57 5 3 false v := ⟨RX5, TX5, 19, (tyX5 3), rfl, by decide, by decide +kernel, by decide +kernel, rfl, rfl, tyX5_ok 3 (by decide), h1, h2⟩
theorem fX5_comesIn_9 : zw_F wsX5_comesIn RX5 9 5 0 := ⟨RX5, TX5, 19, rfl, by decide, by decide +kernel, by decide +kernel, rfl⟩
theorem fX5_comesIn_57 : zw_F wsX5_comesIn RX5 57 5 3 := ⟨RX5, TX5, 19, rfl, by decide, by decide +kernel, by decide +kernel, rfl⟩
theorem fX5_comesIn_13 : zw_F wsX5_comesIn RX5 13 5 1 := ⟨RX5, TX5, 19, rfl, by decide, by decide +kernel, by decide +kernel, rfl⟩
theorem fX5_comesIn_16 : zw_F wsX5_comesIn RX5 16 5 2 := ⟨RX5, TX5, 19, rfl, by decide, by decide +kernel, by decide +kernel, rfl⟩
theorem wX5_comesIn_57 {v : Value} (h1 : narrow (tyX5 3) v = v) (h2 : fits (tyX5 3) v = true) : zw_W wsX5_comesIn RX5 57 5 3 false v := ⟨RX5, TX5, 19, (tyX5 3), rfl, by decide, by decide +kernel, by decide +kernel, rfl, rfl, tyX5_ok 3 (by decide), h1, h2⟩
theorem fX5_comesIn_19 : zw_F wsX5_comesIn RX5 19 5 4 := ⟨RX5, TX5, 19, rfl, by decide, by decide +kernel, by decide +kernel, rfl⟩
theorem fX5_comesIn_23 : zw_F wsX5_comesIn RX5 23 5 5 := ⟨RX5, TX5, 19, rfl, by decide, by decide +kernel, by decide +kernel, rfl⟩
theorem fX5_put_9 : zw_F wsX5_put RX5 9 5 0 := ⟨RX5, TX5, 19, rfl, by decide, by decide +kernel, by decide +kernel, rfl⟩
theorem fX5_put_13 : zw_F wsX5_put RX5 13 5 1 := ⟨RX5, TX5, 19, rfl, by decide, by decide +kernel, by decide +kernel, rfl⟩
theorem fX5_putIfAbsent_9 : zw_F wsX5_putIfAbsent RX5 9 5 0 := ⟨RX5, TX5, 19, rfl, by decide, by decide +kernel, by decide +kernel, rfl⟩
theorem fX5_get_9 : zw_F wsX5_get RX5 9 5 0 := ⟨RX5, TX5, 19, rfl, by decide, by decide +kernel, by decide +kernel, rfl⟩
theorem fX5_get_13 : zw_F wsX5_get RX5 13 5 1 := ⟨RX5, TX5, 19, rfl, by decide, by decide +kernel, by decide +kernel, rfl⟩
theorem wX5_getOr_54 {v : Value} (h1 : narrow (tyX5 18) v = v) (h2 : fits (tyX5 18) v = true) : zw_W wsX5_getOr RX5 54 5 18 false v := ⟨RX5, TX5, 19, (tyX5 18), rfl, by decide, by decide +kernel, by decide +kernel, rfl, rfl, tyX5_ok 18 (by decide), h1, h2⟩
theorem fX5_getOr_9 : zw_F wsX5_getOr RX5 9 5 0 := ⟨RX5, TX5, 19, rfl, by decide, by decide +kernel, by decide +kernel, rfl⟩
theorem fX5_getOr_13 : zw_F wsX5_getOr RX5 13 5 1 := ⟨RX5, TX5, 19, rfl, by decide, by decide +kernel, by decide +kernel, rfl⟩
theorem wX5_replace_54 {v : Value} (h1 : narrow (tyX5 18) v = v) (h2 : fits (tyX5 18) v = true) : zw_W wsX5_replace RX5 54 5 18 false v := ⟨RX5, TX5, 19, (tyX5 18), rfl, by decide, by decide +kernel, by decide +kernel, rfl, rfl, tyX5_ok 18 (by decide), h1, h2⟩
theorem fX5_replace_9 : zw_F wsX5_replace RX5 9 5 0 := ⟨RX5, TX5, 19, rfl, by decide, by decide +kernel, by decide +kernel, rfl⟩
theorem fX5_replace_13 : zw_F wsX5_replace RX5 13 5 1 := ⟨RX5, TX5, 19, rfl, by decide, by decide +kernel, by decide +kernel, rfl⟩
theorem wX5_replaceIf_54 {v : Value} (h1 : narrow (tyX5 18) v = v) (h2 : fits (tyX5 18) v = true) : zw_W wsX5_replaceIf RX5 54 5 18 false v := ⟨RX5, TX5, 19, (tyX5 18), rfl, by decide, by decide +kernel, by decide +kernel, rfl, rfl, tyX5_ok 18 (by decide), h1, h2⟩
theorem fX5_replaceIf_9 : zw_F wsX5_replaceIf RX5 9 5 0 := ⟨RX5, TX5, 19, rfl, by decide, by decide +kernel, by decide +kernel, rfl⟩
theorem fX5_replaceIf_13 : zw_F wsX5_replaceIf RX5 13 5 1 := ⟨RX5, TX5, 19, rfl, by decide, by decide +kernel, by decide +kernel, rfl⟩
theorem fX5_look_9 : zw_F wsX5_look RX5 9 5 0 := ⟨RX5, TX5, 19, rfl, by decide, by decide +kernel, by decide +kernel, rfl⟩
theorem fX5_look_13 : zw_F wsX5_look RX5 13 5 1 := ⟨RX5, TX5, 19, rfl, by decide, by decide +kernel, by decide +kernel, rfl⟩
theorem wX5_has_54 {v : Value} (h1 : narrow (tyX5 18) v = v) (h2 : fits (tyX5 18) v = true) : zw_W wsX5_has RX5 54 5 18 false v := ⟨RX5, TX5, 19, (tyX5 18), rfl, by decide, by decide +kernel, by decide +kernel, rfl, rfl, tyX5_ok 18 (by decide), h1, h2⟩
theorem fX5_has_9 : zw_F wsX5_has RX5 9 5 0 := ⟨RX5, TX5, 19, rfl, by decide, by decide +kernel, by decide +kernel, rfl⟩
theorem fX5_remove_9 : zw_F wsX5_remove RX5 9 5 0 := ⟨RX5, TX5, 19, rfl, by decide, by decide +kernel, by decide +kernel, rfl⟩
theorem fX5_remove_13 : zw_F wsX5_remove RX5 13 5 1 := ⟨RX5, TX5, 19, rfl, by decide, by decide +kernel, by decide +kernel, rfl⟩
theorem wX5_size_54 {v : Value} (h1 : narrow (tyX5 18) v = v) (h2 : fits (tyX5 18) v = true) : zw_W wsX5_size RX5 54 5 18 false v := ⟨RX5, TX5, 19, (tyX5 18), rfl, by decide, by decide +kernel, by decide +kernel, rfl, rfl, tyX5_ok 18 (by decide), h1, h2⟩
theorem fX5_size_57 : zw_F wsX5_size RX5 57 5 3 := ⟨RX5, TX5, 19, rfl, by decide, by decide +kernel, by decide +kernel, rfl⟩
theorem wX5_limit_19 {v : Value} (h1 : narrow (tyX5 4) v = v) (h2 : fits (tyX5 4) v = true) : zw_W wsX5_limit RX5 19 5 4 false v := ⟨RX5, TX5, 19, (tyX5 4), rfl, by decide, by decide +kernel, by decide +kernel, rfl, rfl, tyX5_ok 4 (by decide), h1, h2⟩
theorem fX5_limit_57 : zw_F wsX5_limit RX5 57 5 3 := ⟨RX5, TX5, 19, rfl, by decide, by decide +kernel, by decide +kernel, rfl⟩
theorem fX5_limit_19 : zw_F wsX5_limit RX5 19 5 4 := ⟨RX5, TX5, 19, rfl, by decide, by decide +kernel, by decide +kernel, rfl⟩
theorem fX5_limit_23 : zw_F wsX5_limit RX5 23 5 5 := ⟨RX5, TX5, 19, rfl, by decide, by decide +kernel, by decide +kernel, rfl⟩
theorem fX5_way_23 : zw_F wsX5_way RX5 23 5 5 := ⟨RX5, TX5, 19, rfl, by decide, by decide +kernel, by decide +kernel, rfl⟩
theorem wX5_way_23 {v : Value} (h1 : narrow (tyX5 5) v = v) (h2 : fits (tyX5 5) v = true) : zw_W wsX5_way RX5 23 5 5 false v := ⟨RX5, TX5, 19, (tyX5 5), rfl, by decide, by decide +kernel, by decide +kernel, rfl, rfl, tyX5_ok 5 (by decide), h1, h2⟩
theorem fX5_keyAt_57 : zw_F wsX5_keyAt RX5 57 5 3 := ⟨RX5, TX5, 19, rfl, by decide, by decide +kernel, by decide +kernel, rfl⟩
theorem fX5_setAt_57 : zw_F wsX5_setAt RX5 57 5 3 := ⟨RX5, TX5, 19, rfl, by decide, by decide +kernel, by decide +kernel, rfl⟩
theorem fX5_setAt_9 : zw_F wsX5_setAt RX5 9 5 0 := ⟨RX5, TX5, 19, rfl, by decide, by decide +kernel, by decide +kernel, rfl⟩
theorem fX5_setAt_13 : zw_F wsX5_setAt RX5 13 5 1 := ⟨RX5, TX5, 19, rfl, by decide, by decide +kernel, by decide +kernel, rfl⟩
theorem fX5_removeAt_57 : zw_F wsX5_removeAt RX5 57 5 3 := ⟨RX5, TX5, 19, rfl, by decide, by decide +kernel, by decide +kernel, rfl⟩
theorem fX5_thin_57 : zw_F wsX5_thin RX5 57 5 3 := ⟨RX5, TX5, 19, rfl, by decide, by decide +kernel, by decide +kernel, rfl⟩
theorem wX5_walk_74 {v : Value} (h1 : narrow (tyX5 13) v = v) (h2 : fits (tyX5 13) v = true) : zw_W wsX5_walk RX5 74 5 13 false v := ⟨RX5, TX5, 19, (tyX5 13), rfl, by decide, by decide +kernel, by decide +kernel, rfl, rfl, tyX5_ok 13 (by decide), h1, h2⟩
theorem fX5_walk_48 : zw_F wsX5_walk RX5 48 5 14 := ⟨RX5, TX5, 19, rfl, by decide, by decide +kernel, by decide +kernel, rfl⟩
theorem fX5_walk_57 : zw_F wsX5_walk RX5 57 5 3 := ⟨RX5, TX5, 19, rfl, by decide, by decide +kernel, by decide +kernel, rfl⟩
theorem wX5_walk_112 {v : Value} (h1 : narrow (tyX5 15) v = v) (h2 : fits (tyX5 15) v = true) : zw_W wsX5_walk RX5 112 5 15 false v := ⟨RX5, TX5, 19, (tyX5 15), rfl, by decide, by decide +kernel, by decide +kernel, rfl, rfl, tyX5_ok 15 (by decide), h1, h2⟩
theorem wX5_walk_115 {v : Value} (h1 : narrow (tyX5 16) v = v) (h2 : fits (tyX5 16) v = true) : zw_W wsX5_walk RX5 115 5 16 false v := ⟨RX5, TX5, 19, (tyX5 16), rfl, by decide, by decide +kernel, by decide +kernel, rfl, rfl, tyX5_ok 16 (by decide), h1, h2⟩
theorem wX5_walk_51 {v : Value} (h1 : narrow (tyX5 17) v = v) (h2 : fits (tyX5 17) v = true) : zw_W wsX5_walk RX5 51 5 17 false v := ⟨RX5, TX5, 19, (tyX5 17), rfl, by decide, by decide +kernel, by decide +kernel, rfl, rfl, tyX5_ok 17 (by decide), h1, h2⟩
theorem fX5_step_74 : zw_F wsX5_step RX5 74 5 13 := ⟨RX5, TX5, 19, rfl, by decide, by decide +kernel, by decide +kernel, rfl⟩
theorem fX5_step_115 : zw_F wsX5_step RX5 115 5 16 := ⟨RX5, TX5, 19, rfl, by decide, by decide +kernel, by decide +kernel, rfl⟩
theorem fX5_step_112 : zw_F wsX5_step RX5 112 5 15 := ⟨RX5, TX5, 19, rfl, by decide, by decide +kernel, by decide +kernel, rfl⟩
theorem fX5_step_48 : zw_F wsX5_step RX5 48 5 14 := ⟨RX5, TX5, 19, rfl, by decide, by decide +kernel, by decide +kernel, rfl⟩
theorem wX5_step_51 {v : Value} (h1 : narrow (tyX5 17) v = v) (h2 : fits (tyX5 17) v = true) : zw_W wsX5_step RX5 51 5 17 false v := ⟨RX5, TX5, 19, (tyX5 17), rfl, by decide, by decide +kernel, by decide +kernel, rfl, rfl, tyX5_ok 17 (by decide), h1, h2⟩
theorem wX5_step_115 {v : Value} (h1 : narrow (tyX5 16) v = v) (h2 : fits (tyX5 16) v = true) : zw_W wsX5_step RX5 115 5 16 false v := ⟨RX5, TX5, 19, (tyX5 16), rfl, by decide, by decide +kernel, by decide +kernel, rfl, rfl, tyX5_ok 16 (by decide), h1, h2⟩
theorem fX5_step_51 : zw_F wsX5_step RX5 51 5 17 := ⟨RX5, TX5, 19, rfl, by decide, by decide +kernel, by decide +kernel, rfl⟩
theorem fX5_cut_74 : zw_F wsX5_cut RX5 74 5 13 := ⟨RX5, TX5, 19, rfl, by decide, by decide +kernel, by decide +kernel, rfl⟩
theorem fX5_cut_51 : zw_F wsX5_cut RX5 51 5 17 := ⟨RX5, TX5, 19, rfl, by decide, by decide +kernel, by decide +kernel, rfl⟩
theorem wX5_cut_51 {v : Value} (h1 : narrow (tyX5 17) v = v) (h2 : fits (tyX5 17) v = true) : zw_W wsX5_cut RX5 51 5 17 false v := ⟨RX5, TX5, 19, (tyX5 17), rfl, by decide, by decide +kernel, by decide +kernel, rfl, rfl, tyX5_ok 17 (by decide), h1, h2⟩
theorem fX5_cut_57 : zw_F wsX5_cut RX5 57 5 3 := ⟨RX5, TX5, 19, rfl, by decide, by decide +kernel, by decide +kernel, rfl⟩
theorem fX5_staying_57 : zw_F wsX5_staying RX5 57 5 3 := ⟨RX5, TX5, 19, rfl, by decide, by decide +kernel, by decide +kernel, rfl⟩
theorem fX5_staying_9 : zw_F wsX5_staying RX5 9 5 0 := ⟨RX5, TX5, 19, rfl, by decide, by decide +kernel, by decide +kernel, rfl⟩
theorem fX5_staying_16 : zw_F wsX5_staying RX5 16 5 2 := ⟨RX5, TX5, 19, rfl, by decide, by decide +kernel, by decide +kernel, rfl⟩
theorem wX5_moves_54 {v : Value} (h1 : narrow (tyX5 18) v = v) (h2 : fits (tyX5 18) v = true) : zw_W wsX5_moves RX5 54 5 18 false v := ⟨RX5, TX5, 19, (tyX5 18), rfl, by decide, by decide +kernel, by decide +kernel, rfl, rfl, tyX5_ok 18 (by decide), h1, h2⟩
theorem fX5_moves_57 : zw_F wsX5_moves RX5 57 5 3 := ⟨RX5, TX5, 19, rfl, by decide, by decide +kernel, by decide +kernel, rfl⟩
theorem fX5_move_57 : zw_F wsX5_move RX5 57 5 3 := ⟨RX5, TX5, 19, rfl, by decide, by decide +kernel, by decide +kernel, rfl⟩
theorem fX5_move_16 : zw_F wsX5_move RX5 16 5 2 := ⟨RX5, TX5, 19, rfl, by decide, by decide +kernel, by decide +kernel, rfl⟩
theorem wX5_crossings_54 {v : Value} (h1 : narrow (tyX5 18) v = v) (h2 : fits (tyX5 18) v = true) : zw_W wsX5_crossings RX5 54 5 18 false v := ⟨RX5, TX5, 19, (tyX5 18), rfl, by decide, by decide +kernel, by decide +kernel, rfl, rfl, tyX5_ok 18 (by decide), h1, h2⟩
theorem fX5_crossings_57 : zw_F wsX5_crossings RX5 57 5 3 := ⟨RX5, TX5, 19, rfl, by decide, by decide +kernel, by decide +kernel, rfl⟩
theorem fX5_crossings_16 : zw_F wsX5_crossings RX5 16 5 2 := ⟨RX5, TX5, 19, rfl, by decide, by decide +kernel, by decide +kernel, rfl⟩
theorem fX5_crossings_9 : zw_F wsX5_crossings RX5 9 5 0 := ⟨RX5, TX5, 19, rfl, by decide, by decide +kernel, by decide +kernel, rfl⟩
theorem fX5_undo_64 : zw_F wsX5_undo RX5 64 5 12 := ⟨RX5, TX5, 19, rfl, by decide, by decide +kernel, by decide +kernel, rfl⟩
theorem wX5_undo_64 {v : Value} (h1 : narrow (tyX5 12) v = v) (h2 : fits (tyX5 12) v = true) : zw_W wsX5_undo RX5 64 5 12 false v := ⟨RX5, TX5, 19, (tyX5 12), rfl, by decide, by decide +kernel, by decide +kernel, rfl, rfl, tyX5_ok 12 (by decide), h1, h2⟩
theorem fX5_undo_29 : zw_F wsX5_undo RX5 29 5 6 := ⟨RX5, TX5, 19, rfl, by decide, by decide +kernel, by decide +kernel, rfl⟩
theorem fX5_undo_9 : zw_F wsX5_undo RX5 9 5 0 := ⟨RX5, TX5, 19, rfl, by decide, by decide +kernel, by decide +kernel, rfl⟩
theorem fX5_undo_32 : zw_F wsX5_undo RX5 32 5 7 := ⟨RX5, TX5, 19, rfl, by decide, by decide +kernel, by decide +kernel, rfl⟩
theorem fX5_undo_13 : zw_F wsX5_undo RX5 13 5 1 := ⟨RX5, TX5, 19, rfl, by decide, by decide +kernel, by decide +kernel, rfl⟩
theorem fX5_undo_35 : zw_F wsX5_undo RX5 35 5 8 := ⟨RX5, TX5, 19, rfl, by decide, by decide +kernel, by decide +kernel, rfl⟩
theorem fX5_undo_16 : zw_F wsX5_undo RX5 16 5 2 := ⟨RX5, TX5, 19, rfl, by decide, by decide +kernel, by decide +kernel, rfl⟩
theorem fX5_undo_38 : zw_F wsX5_undo RX5 38 5 9 := ⟨RX5, TX5, 19, rfl, by decide, by decide +kernel, by decide +kernel, rfl⟩
theorem wX5_undo_57 {v : Value} (h1 : narrow (tyX5 3) v = v) (h2 : fits (tyX5 3) v = true) : zw_W wsX5_undo RX5 57 5 3 false v := ⟨RX5, TX5, 19, (tyX5 3), rfl, by decide, by decide +kernel, by decide +kernel, rfl, rfl, tyX5_ok 3 (by decide), h1, h2⟩
theorem fX5_undo_41 : zw_F wsX5_undo RX5 41 5 10 := ⟨RX5, TX5, 19, rfl, by decide, by decide +kernel, by decide +kernel, rfl⟩
theorem wX5_undo_19 {v : Value} (h1 : narrow (tyX5 4) v = v) (h2 : fits (tyX5 4) v = true) : zw_W wsX5_undo RX5 19 5 4 false v := ⟨RX5, TX5, 19, (tyX5 4), rfl, by decide, by decide +kernel, by decide +kernel, rfl, rfl, tyX5_ok 4 (by decide), h1, h2⟩
theorem fX5_undo_44 : zw_F wsX5_undo RX5 44 5 11 := ⟨RX5, TX5, 19, rfl, by decide, by decide +kernel, by decide +kernel, rfl⟩
theorem wX5_undo_23 {v : Value} (h1 : narrow (tyX5 5) v = v) (h2 : fits (tyX5 5) v = true) : zw_W wsX5_undo RX5 23 5 5 false v := ⟨RX5, TX5, 19, (tyX5 5), rfl, by decide, by decide +kernel, by decide +kernel, rfl, rfl, tyX5_ok 5 (by decide), h1, h2⟩
theorem wX5_undo_74 {v : Value} (h1 : narrow (tyX5 13) v = v) (h2 : fits (tyX5 13) v = true) : zw_W wsX5_undo RX5 74 5 13 false v := ⟨RX5, TX5, 19, (tyX5 13), rfl, by decide, by decide +kernel, by decide +kernel, rfl, rfl, tyX5_ok 13 (by decide), h1, h2⟩
theorem wX5_isTrue_54 {v : Value} (h1 : narrow (tyX5 18) v = v) (h2 : fits (tyX5 18) v = true) : zw_W wsX5_isTrue RX5 54 5 18 false v := ⟨RX5, TX5, 19, (tyX5 18), rfl, by decide, by decide +kernel, by decide +kernel, rfl, rfl, tyX5_ok 18 (by decide), h1, h2⟩
theorem wX5_checksum_54 {v : Value} (h1 : narrow (tyX5 18) v = v) (h2 : fits (tyX5 18) v = true) : zw_W wsX5_checksum RX5 54 5 18 false v := ⟨RX5, TX5, 19, (tyX5 18), rfl, by decide, by decide +kernel, by decide +kernel, rfl, rfl, tyX5_ok 18 (by decide), h1, h2⟩
theorem fX5_checksum_57 : zw_F wsX5_checksum RX5 57 5 3 := ⟨RX5, TX5, 19, rfl, by decide, by decide +kernel, by decide +kernel, rfl⟩
theorem fX5_checksum_9 : zw_F wsX5_checksum RX5 9 5 0 := ⟨RX5, TX5, 19, rfl, by decide, by decide +kernel, by decide +kernel, rfl⟩
theorem fX5_checksum_13 : zw_F wsX5_checksum RX5 13 5 1 := ⟨RX5, TX5, 19, rfl, by decide, by decide +kernel, by decide +kernel, rfl⟩
theorem fX5_checksum_16 : zw_F wsX5_checksum RX5 16 5 2 := ⟨RX5, TX5, 19, rfl, by decide, by decide +kernel, by decide +kernel, rfl⟩
theorem fX5_checksum_19 : zw_F wsX5_checksum RX5 19 5 4 := ⟨RX5, TX5, 19, rfl, by decide, by decide +kernel, by decide +kernel, rfl⟩
theorem fX5_checksum_23 : zw_F wsX5_checksum RX5 23 5 5 := ⟨RX5, TX5, 19, rfl, by decide, by decide +kernel, by decide +kernel, rfl⟩
theorem fX5_checksum_64 : zw_F wsX5_checksum RX5 64 5 12 := ⟨RX5, TX5, 19, rfl, by decide, by decide +kernel, by decide +kernel, rfl⟩
theorem wX0_init_12 {v : Value} (h1 : narrow (tyX0 0) v = v) (h2 : fits (tyX0 0) v = true) : zw_W wsX0_init RX0 12 0 0 true v := ⟨RX0, TX0, 4, (tyX0 0), rfl, by decide, by decide +kernel, by decide +kernel, rfl, rfl, tyX0_ok 0 (by decide), h1, h2⟩
theorem wX0_init_18 {v : Value} (h1 : narrow (tyX0 1) v = v) (h2 : fits (tyX0 1) v = true) : zw_W wsX0_init RX0 18 0 1 true v := ⟨RX0, TX0, 4, (tyX0 1), rfl, by decide, by decide +kernel, by decide +kernel, rfl, rfl, tyX0_ok 1 (by decide), h1, h2⟩
theorem wX0_init_21 {v : Value} (h1 : narrow (tyX0 2) v = v) (h2 : fits (tyX0 2) v = true) : zw_W wsX0_init RX0 21 0 2 false v := ⟨RX0, TX0, 4, (tyX0 2), rfl, by decide, by decide +kernel, by decide +kernel, rfl, rfl, tyX0_ok 2 (by decide), h1, h2⟩
theorem wX0_init_25 {v : Value} (h1 : narrow (tyX0 3) v = v) (h2 : fits (tyX0 3) v = true) : zw_W wsX0_init RX0 25 0 3 false v := ⟨RX0, TX0, 4, (tyX0 3), rfl, by decide, by decide +kernel, by decide +kernel, rfl, rfl, tyX0_ok 3 (by decide), h1, h2⟩
theorem fX0_row_18 : zw_F wsX0_row RX0 18 0 1 := ⟨RX0, TX0, 4, rfl, by decide, by decide +kernel, by decide +kernel, rfl⟩
theorem fX0_row_12 : zw_F wsX0_row RX0 12 0 0 := ⟨RX0, TX0, 4, rfl, by decide, by decide +kernel, by decide +kernel, rfl⟩
theorem fX0_holds_12 : zw_F wsX0_holds RX0 12 0 0 := ⟨RX0, TX0, 4, rfl, by decide, by decide +kernel, by decide +kernel, rfl⟩
theorem fX0_valueOf_12 : zw_F wsX0_valueOf RX0 12 0 0 := ⟨RX0, TX0, 4, rfl, by decide, by decide +kernel, by decide +kernel, rfl⟩
theorem fX0_giveKey_12 : zw_F wsX0_giveKey RX0 12 0 0 := ⟨RX0, TX0, 4, rfl, by decide, by decide +kernel, by decide +kernel, rfl⟩
theorem fX0_giveKey_18 : zw_F wsX0_giveKey RX0 18 0 1 := ⟨RX0, TX0, 4, rfl, by decide, by decide +kernel, by decide +kernel, rfl⟩
theorem fX0_touch_18 : zw_F wsX0_touch RX0 18 0 1 := ⟨RX0, TX0, 4, rfl, by decide, by decide +kernel, by decide +kernel, rfl⟩
theorem fX0_takeOut_12 : zw_F wsX0_takeOut RX0 12 0 0 := ⟨RX0, TX0, 4, rfl, by decide, by decide +kernel, by decide +kernel, rfl⟩
theorem fX0_takeOut_18 : zw_F wsX0_takeOut RX0 18 0 1 := ⟨RX0, TX0, 4, rfl, by decide, by decide +kernel, by decide +kernel, rfl⟩
theorem fX0_letIn_12 : zw_F wsX0_letIn RX0 12 0 0 := ⟨RX0, TX0, 4, rfl, by decide, by decide +kernel, by decide +kernel, rfl⟩
theorem fX0_letIn_21 : zw_F wsX0_letIn RX0 21 0 2 := ⟨RX0, TX0, 4, rfl, by decide, by decide +kernel, by decide +kernel, rfl⟩
theorem fX0_letIn_18 : zw_F wsX0_letIn RX0 18 0 1 := ⟨RX0, TX0, 4, rfl, by decide, by decide +kernel, by decide +kernel, rfl⟩
theorem fX0_dropWhatIsOver_12 : zw_F wsX0_dropWhatIsOver RX0 12 0 0 := ⟨RX0, TX0, 4, rfl, by decide, by decide +kernel, by decide +kernel, rfl⟩
theorem fX0_dropWhatIsOver_21 : zw_F wsX0_dropWhatIsOver RX0 21 0 2 := ⟨RX0, TX0, 4, rfl, by decide, by decide +kernel, by decide +kernel, rfl⟩
theorem fX0_dropEldest_25 : zw_F wsX0_dropEldest RX0 25 0 3 := ⟨RX0, TX0, 4, rfl, by decide, by decide +kernel, by decide +kernel, rfl⟩
theorem fX0_takeOutEach_12 : zw_F wsX0_takeOutEach RX0 12 0 0 := ⟨RX0, TX0, 4, rfl, by decide, by decide +kernel, by decide +kernel, rfl⟩
theorem fX0_staying_18 : zw_F wsX0_staying RX0 18 0 1 := ⟨RX0, TX0, 4, rfl, by decide, by decide +kernel, by decide +kernel, rfl⟩
theorem fX0_staying_12 : zw_F wsX0_staying RX0 12 0 0 := ⟨RX0, TX0, 4, rfl, by decide, by decide +kernel, by decide +kernel, rfl⟩
theorem fX0_crossedPairs_18 : zw_F wsX0_crossedPairs RX0 18 0 1 := ⟨RX0, TX0, 4, rfl, by decide, by decide +kernel, by decide +kernel, rfl⟩
theorem fX0_crossedPairs_12 : zw_F wsX0_crossedPairs RX0 12 0 0 := ⟨RX0, TX0, 4, rfl, by decide, by decide +kernel, by decide +kernel, rfl⟩
theorem fX0_become_12 : zw_F wsX0_become RX0 12 0 0 := ⟨RX0, TX0, 4, rfl, by decide, by decide +kernel, by decide +kernel, rfl⟩
theorem fX0_become_18 : zw_F wsX0_become RX0 18 0 1 := ⟨RX0, TX0, 4, rfl, by decide, by decide +kernel, by decide +kernel, rfl⟩
theorem fX0_become_21 : zw_F wsX0_become RX0 21 0 2 := ⟨RX0, TX0, 4, rfl, by decide, by decide +kernel, by decide +kernel, rfl⟩
theorem wX0_become_21 {v : Value} (h1 : narrow (tyX0 2) v = v) (h2 : fits (tyX0 2) v = true) : zw_W wsX0_become RX0 21 0 2 false v := ⟨RX0, TX0, 4, (tyX0 2), rfl, by decide, by decide +kernel, by decide +kernel, rfl, rfl, tyX0_ok 2 (by decide), h1, h2⟩
theorem fX0_become_25 : zw_F wsX0_become RX0 25 0 3 := ⟨RX0, TX0, 4, rfl, by decide, by decide +kernel, by decide +kernel, rfl⟩
theorem wX0_become_25 {v : Value} (h1 : narrow (tyX0 3) v = v) (h2 : fits (tyX0 3) v = true) : zw_W wsX0_become RX0 25 0 3 false v := ⟨RX0, TX0, 4, (tyX0 3), rfl, by decide, by decide +kernel, by decide +kernel, rfl, rfl, tyX0_ok 3 (by decide), h1, h2⟩
theorem wX1_init_11 {v : Value} (h1 : narrow (tyX1 0) v = v) (h2 : fits (tyX1 0) v = true) : zw_W wsX1_init RX1 11 1 0 true v := ⟨RX1, TX1, 3, (tyX1 0), rfl, by decide, by decide +kernel, by decide +kernel, rfl, rfl, tyX1_ok 0 (by decide), h1, h2⟩
theorem fX1_init_11 : zw_F wsX1_init RX1 11 1 0 := ⟨RX1, TX1, 3, rfl, by decide, by decide +kernel, by decide +kernel, rfl⟩
theorem wX1_init_18 {v : Value} (h1 : narrow (tyX1 1) v = v) (h2 : fits (tyX1 1) v = true) : zw_W wsX1_init RX1 18 1 1 false v := ⟨RX1, TX1, 3, (tyX1 1), rfl, by decide, by decide +kernel, by decide +kernel, rfl, rfl, tyX1_ok 1 (by decide), h1, h2⟩
theorem wX1_init_22 {v : Value} (h1 : narrow (tyX1 2) v = v) (h2 : fits (tyX1 2) v = true) : zw_W wsX1_init RX1 22 1 2 false v := ⟨RX1, TX1, 3, (tyX1 2), rfl, by decide, by decide +kernel, by decide +kernel, rfl, rfl, tyX1_ok 2 (by decide), h1, h2⟩
theorem fX1_kept_22 : zw_F wsX1_kept RX1 22 1 2 := ⟨RX1, TX1, 3, rfl, by decide, by decide +kernel, by decide +kernel, rfl⟩
theorem fX1_keep_18 : zw_F wsX1_keep RX1 18 1 1 := ⟨RX1, TX1, 3, rfl, by decide, by decide +kernel, by decide +kernel, rfl⟩
theorem fX1_keep_11 : zw_F wsX1_keep RX1 11 1 0 := ⟨RX1, TX1, 3, rfl, by decide, by decide +kernel, by decide +kernel, rfl⟩
theorem wX1_keep_18 {v : Value} (h1 : narrow (tyX1 1) v = v) (h2 : fits (tyX1 1) v = true) : zw_W wsX1_keep RX1 18 1 1 false v := ⟨RX1, TX1, 3, (tyX1 1), rfl, by decide, by decide +kernel, by decide +kernel, rfl, rfl, tyX1_ok 1 (by decide), h1, h2⟩
theorem fX1_keep_22 : zw_F wsX1_keep RX1 22 1 2 := ⟨RX1, TX1, 3, rfl, by decide, by decide +kernel, by decide +kernel, rfl⟩
theorem wX1_keep_22 {v : Value} (h1 : narrow (tyX1 2) v = v) (h2 : fits (tyX1 2) v = true) : zw_W wsX1_keep RX1 22 1 2 false v := ⟨RX1, TX1, 3, (tyX1 2), rfl, by decide, by decide +kernel, by decide +kernel, rfl, rfl, tyX1_ok 2 (by decide), h1, h2⟩
theorem fX1_bringBack_18 : zw_F wsX1_bringBack RX1 18 1 1 := ⟨RX1, TX1, 3, rfl, by decide, by decide +kernel, by decide +kernel, rfl⟩
theorem fX1_bringBack_11 : zw_F wsX1_bringBack RX1 11 1 0 := ⟨RX1, TX1, 3, rfl, by decide, by decide +kernel, by decide +kernel, rfl⟩
theorem fX1_bringBack_22 : zw_F wsX1_bringBack RX1 22 1 2 := ⟨RX1, TX1, 3, rfl, by decide, by decide +kernel, by decide +kernel, rfl⟩
theorem wX1_bringBack_18 {v : Value} (h1 : narrow (tyX1 1) v = v) (h2 : fits (tyX1 1) v = true) : zw_W wsX1_bringBack RX1 18 1 1 false v := ⟨RX1, TX1, 3, (tyX1 1), rfl, by decide, by decide +kernel, by decide +kernel, rfl, rfl, tyX1_ok 1 (by decide), h1, h2⟩
theorem wX1_bringBack_22 {v : Value} (h1 : narrow (tyX1 2) v = v) (h2 : fits (tyX1 2) v = true) : zw_W wsX1_bringBack RX1 22 1 2 false v := ⟨RX1, TX1, 3, (tyX1 2), rfl, by decide, by decide +kernel, by decide +kernel, rfl, rfl, tyX1_ok 2 (by decide), h1, h2⟩
theorem wX2_init_9 {v : Value} (h1 : narrow (tyX2 0) v = v) (h2 : fits (tyX2 0) v = true) : zw_W wsX2_init RX2 9 2 0 true v := ⟨RX2, TX2, 3, (tyX2 0), rfl, by decide, by decide +kernel, by decide +kernel, rfl, rfl, tyX2_ok 0 (by decide), h1, h2⟩
theorem wX2_init_15 {v : Value} (h1 : narrow (tyX2 1) v = v) (h2 : fits (tyX2 1) v = true) : zw_W wsX2_init RX2 15 2 1 true v := ⟨RX2, TX2, 3, (tyX2 1), rfl, by decide, by decide +kernel, by decide +kernel, rfl, rfl, tyX2_ok 1 (by decide), h1, h2⟩
theorem wX2_init_18 {v : Value} (h1 : narrow (tyX2 2) v = v) (h2 : fits (tyX2 2) v = true) : zw_W wsX2_init RX2 18 2 2 false v := ⟨RX2, TX2, 3, (tyX2 2), rfl, by decide, by decide +kernel, by decide +kernel, rfl, rfl, tyX2_ok 2 (by decide), h1, h2⟩
theorem fX2_count_18 : zw_F wsX2_count RX2 18 2 2 := ⟨RX2, TX2, 3, rfl, by decide, by decide +kernel, by decide +kernel, rfl⟩
theorem fX2_holdsPlace_18 : zw_F wsX2_holdsPlace RX2 18 2 2 := ⟨RX2, TX2, 3, rfl, by decide, by decide +kernel, by decide +kernel, rfl⟩
theorem fX2_holdsPlace_9 : zw_F wsX2_holdsPlace RX2 9 2 0 := ⟨RX2, TX2, 3, rfl, by decide, by decide +kernel, by decide +kernel, rfl⟩
theorem fX2_keyIn_9 : zw_F wsX2_keyIn RX2 9 2 0 := ⟨RX2, TX2, 3, rfl, by decide, by decide +kernel, by decide +kernel, rfl⟩
theorem fX2_valueIn_15 : zw_F wsX2_valueIn RX2 15 2 1 := ⟨RX2, TX2, 3, rfl, by decide, by decide +kernel, by decide +kernel, rfl⟩
theorem fX2_find_18 : zw_F wsX2_find RX2 18 2 2 := ⟨RX2, TX2, 3, rfl, by decide, by decide +kernel, by decide +kernel, rfl⟩
theorem fX2_give_15 : zw_F wsX2_give RX2 15 2 1 := ⟨RX2, TX2, 3, rfl, by decide, by decide +kernel, by decide +kernel, rfl⟩
theorem fX2_append_18 : zw_F wsX2_append RX2 18 2 2 := ⟨RX2, TX2, 3, rfl, by decide, by decide +kernel, by decide +kernel, rfl⟩
theorem fX2_append_9 : zw_F wsX2_append RX2 9 2 0 := ⟨RX2, TX2, 3, rfl, by decide, by decide +kernel, by decide +kernel, rfl⟩
theorem fX2_append_15 : zw_F wsX2_append RX2 15 2 1 := ⟨RX2, TX2, 3, rfl, by decide, by decide +kernel, by decide +kernel, rfl⟩
theorem wX2_append_18 {v : Value} (h1 : narrow (tyX2 2) v = v) (h2 : fits (tyX2 2) v = true) : zw_W wsX2_append RX2 18 2 2 false v := ⟨RX2, TX2, 3, (tyX2 2), rfl, by decide, by decide +kernel, by decide +kernel, rfl, rfl, tyX2_ok 2 (by decide), h1, h2⟩
theorem fX2_close_18 : zw_F wsX2_close RX2 18 2 2 := ⟨RX2, TX2, 3, rfl, by decide, by decide +kernel, by decide +kernel, rfl⟩
theorem fX2_close_9 : zw_F wsX2_close RX2 9 2 0 := ⟨RX2, TX2, 3, rfl, by decide, by decide +kernel, by decide +kernel, rfl⟩
theorem fX2_close_15 : zw_F wsX2_close RX2 15 2 1 := ⟨RX2, TX2, 3, rfl, by decide, by decide +kernel, by decide +kernel, rfl⟩
theorem wX2_close_18 {v : Value} (h1 : narrow (tyX2 2) v = v) (h2 : fits (tyX2 2) v = true) : zw_W wsX2_close RX2 18 2 2 false v := ⟨RX2, TX2, 3, (tyX2 2), rfl, by decide, by decide +kernel, by decide +kernel, rfl, rfl, tyX2_ok 2 (by decide), h1, h2⟩
theorem fX2_putLast_9 : zw_F wsX2_putLast RX2 9 2 0 := ⟨RX2, TX2, 3, rfl, by decide, by decide +kernel, by decide +kernel, rfl⟩
theorem fX2_putLast_15 : zw_F wsX2_putLast RX2 15 2 1 := ⟨RX2, TX2, 3, rfl, by decide, by decide +kernel, by decide +kernel, rfl⟩
theorem wX2_become_18 {v : Value} (h1 : narrow (tyX2 2) v = v) (h2 : fits (tyX2 2) v = true) : zw_W wsX2_become RX2 18 2 2 false v := ⟨RX2, TX2, 3, (tyX2 2), rfl, by decide, by decide +kernel, by decide +kernel, rfl, rfl, tyX2_ok 2 (by decide), h1, h2⟩
theorem fX2_become_18 : zw_F wsX2_become RX2 18 2 2 := ⟨RX2, TX2, 3, rfl, by decide, by decide +kernel, by decide +kernel, rfl⟩
theorem fX2_tellsAlike_18 : zw_F wsX2_tellsAlike RX2 18 2 2 := ⟨RX2, TX2, 3, rfl, by decide, by decide +kernel, by decide +kernel, rfl⟩
theorem fX2_hasEntriesOf_18 : zw_F wsX2_hasEntriesOf RX2 18 2 2 := ⟨RX2, TX2, 3, rfl, by decide, by decide +kernel, by decide +kernel, rfl⟩
theorem fX2_sameAs_18 : zw_F wsX2_sameAs RX2 18 2 2 := ⟨RX2, TX2, 3, rfl, by decide, by decide +kernel, by decide +kernel, rfl⟩
theorem wX3_init_9 {v : Value} (h1 : narrow (tyX3 0) v = v) (h2 : fits (tyX3 0) v = true) : zw_W wsX3_init RX3 9 3 0 false v := ⟨RX3, TX3, 4, (tyX3 0), rfl, by decide, by decide +kernel, by decide +kernel, rfl, rfl, tyX3_ok 0 (by decide), h1, h2⟩
theorem wX3_init_15 {v : Value} (h1 : narrow (tyX3 1) v = v) (h2 : fits (tyX3 1) v = true) : zw_W wsX3_init RX3 15 3 1 false v := ⟨RX3, TX3, 4, (tyX3 1), rfl, by decide, by decide +kernel, by decide +kernel, rfl, rfl, tyX3_ok 1 (by decide), h1, h2⟩
theorem wX3_init_19 {v : Value} (h1 : narrow (tyX3 2) v = v) (h2 : fits (tyX3 2) v = true) : zw_W wsX3_init RX3 19 3 2 false v := ⟨RX3, TX3, 4, (tyX3 2), rfl, by decide, by decide +kernel, by decide +kernel, rfl, rfl, tyX3_ok 2 (by decide), h1, h2⟩
theorem wX3_init_23 {v : Value} (h1 : narrow (tyX3 3) v = v) (h2 : fits (tyX3 3) v = true) : zw_W wsX3_init RX3 23 3 3 false v := ⟨RX3, TX3, 4, (tyX3 3), rfl, by decide, by decide +kernel, by decide +kernel, rfl, rfl, tyX3_ok 3 (by decide), h1, h2⟩
theorem wX3_begin_9 {v : Value} (h1 : narrow (tyX3 0) v = v) (h2 : fits (tyX3 0) v = true) : zw_W wsX3_begin RX3 9 3 0 false v := ⟨RX3, TX3, 4, (tyX3 0), rfl, by decide, by decide +kernel, by decide +kernel, rfl, rfl, tyX3_ok 0 (by decide), h1, h2⟩
theorem wX3_begin_15 {v : Value} (h1 : narrow (tyX3 1) v = v) (h2 : fits (tyX3 1) v = true) : zw_W wsX3_begin RX3 15 3 1 false v := ⟨RX3, TX3, 4, (tyX3 1), rfl, by decide, by decide +kernel, by decide +kernel, rfl, rfl, tyX3_ok 1 (by decide), h1, h2⟩
theorem wX3_begin_19 {v : Value} (h1 : narrow (tyX3 2) v = v) (h2 : fits (tyX3 2) v = true) : zw_W wsX3_begin RX3 19 3 2 false v := ⟨RX3, TX3, 4, (tyX3 2), rfl, by decide, by decide +kernel, by decide +kernel, rfl, rfl, tyX3_ok 2 (by decide), h1, h2⟩
theorem wX3_begin_23 {v : Value} (h1 : narrow (tyX3 3) v = v) (h2 : fits (tyX3 3) v = true) : zw_W wsX3_begin RX3 23 3 3 false v := ⟨RX3, TX3, 4, (tyX3 3), rfl, by decide, by decide +kernel, by decide +kernel, rfl, rfl, tyX3_ok 3 (by decide), h1, h2⟩
theorem wX3_end_9 {v : Value} (h1 : narrow (tyX3 0) v = v) (h2 : fits (tyX3 0) v = true) : zw_W wsX3_end RX3 9 3 0 false v := ⟨RX3, TX3, 4, (tyX3 0), rfl, by decide, by decide +kernel, by decide +kernel, rfl, rfl, tyX3_ok 0 (by decide), h1, h2⟩
theorem fX3_isOn_9 : zw_F wsX3_isOn RX3 9 3 0 := ⟨RX3, TX3, 4, rfl, by decide, by decide +kernel, by decide +kernel, rfl⟩
theorem fX3_order_15 : zw_F wsX3_order RX3 15 3 1 := ⟨RX3, TX3, 4, rfl, by decide, by decide +kernel, by decide +kernel, rfl⟩
theorem fX3_nextPlace_19 : zw_F wsX3_nextPlace RX3 19 3 2 := ⟨RX3, TX3, 4, rfl, by decide, by decide +kernel, by decide +kernel, rfl⟩
theorem fX3_mayCut_23 : zw_F wsX3_mayCut RX3 23 3 3 := ⟨RX3, TX3, 4, rfl, by decide, by decide +kernel, by decide +kernel, rfl⟩
theorem fX3_goOver_19 : zw_F wsX3_goOver RX3 19 3 2 := ⟨RX3, TX3, 4, rfl, by decide, by decide +kernel, by decide +kernel, rfl⟩
theorem wX3_goOver_19 {v : Value} (h1 : narrow (tyX3 2) v = v) (h2 : fits (tyX3 2) v = true) : zw_W wsX3_goOver RX3 19 3 2 false v := ⟨RX3, TX3, 4, (tyX3 2), rfl, by decide, by decide +kernel, by decide +kernel, rfl, rfl, tyX3_ok 2 (by decide), h1, h2⟩
theorem wX3_goOver_23 {v : Value} (h1 : narrow (tyX3 3) v = v) (h2 : fits (tyX3 3) v = true) : zw_W wsX3_goOver RX3 23 3 3 false v := ⟨RX3, TX3, 4, (tyX3 3), rfl, by decide, by decide +kernel, by decide +kernel, rfl, rfl, tyX3_ok 3 (by decide), h1, h2⟩
theorem fX3_goBack_19 : zw_F wsX3_goBack RX3 19 3 2 := ⟨RX3, TX3, 4, rfl, by decide, by decide +kernel, by decide +kernel, rfl⟩
theorem wX3_goBack_19 {v : Value} (h1 : narrow (tyX3 2) v = v) (h2 : fits (tyX3 2) v = true) : zw_W wsX3_goBack RX3 19 3 2 false v := ⟨RX3, TX3, 4, (tyX3 2), rfl, by decide, by decide +kernel, by decide +kernel, rfl, rfl, tyX3_ok 2 (by decide), h1, h2⟩
theorem wX3_goBack_23 {v : Value} (h1 : narrow (tyX3 3) v = v) (h2 : fits (tyX3 3) v = true) : zw_W wsX3_goBack RX3 23 3 3 false v := ⟨RX3, TX3, 4, (tyX3 3), rfl, by decide, by decide +kernel, by decide +kernel, rfl, rfl, tyX3_ok 3 (by decide), h1, h2⟩
theorem w9_X0 : ∀ C, (∃ T N, vwCl[0]? = some (C, T, N)) → C = RX0 := by rintro C ⟨T, N, h⟩; cases h; rfl
theorem w9_X1 : ∀ C, (∃ T N, vwCl[1]? = some (C, T, N)) → C = RX1 := by rintro C ⟨T, N, h⟩; cases h; rfl
theorem w9_X2 : ∀ C, (∃ T N, vwCl[2]? = some (C, T, N)) → C = RX2 := by rintro C ⟨T, N, h⟩; cases h; rfl
theorem w9_X3 : ∀ C, (∃ T N, vwCl[3]? = some (C, T, N)) → C = RX3 := by rintro C ⟨T, N, h⟩; cases h; rfl
theorem w9_X4 : ∀ C, (∃ T N, vwCl[4]? = some (C, T, N)) → C = RX4 := by rintro C ⟨T, N, h⟩; cases h; rfl
theorem w9_X5 : ∀ C, (∃ T N, vwCl[5]? = some (C, T, N)) → C = RX5 := by rintro C ⟨T, N, h⟩; cases h; rfl
