/-! the methods, and what their instructions link -/
theorem inX0 : ∀ w ∈ u_ws RX0 TX0 3, w ∈ xT := fun w h => xT_of ((by decide +kernel : ∀ w ∈ u_ws RX0 TX0 3, w ∈ lw_tbl) w h) (List.all_eq_true.mp (by decide +kernel : (u_ws RX0 TX0 3).all goodWord = true) w h)
theorem inX1 : ∀ w ∈ u_ws RX1 TX1 2, w ∈ xT := fun w h => xT_of ((by decide +kernel : ∀ w ∈ u_ws RX1 TX1 2, w ∈ lw_tbl) w h) (List.all_eq_true.mp (by decide +kernel : (u_ws RX1 TX1 2).all goodWord = true) w h)
theorem inX2 : ∀ w ∈ u_ws RX2 TX2 7, w ∈ xT := fun w h => xT_of ((by decide +kernel : ∀ w ∈ u_ws RX2 TX2 7, w ∈ lw_tbl) w h) (List.all_eq_true.mp (by decide +kernel : (u_ws RX2 TX2 7).all goodWord = true) w h)
theorem inX3 : ∀ w ∈ u_ws RX3 TX3 10, w ∈ xT := fun w h => xT_of ((by decide +kernel : ∀ w ∈ u_ws RX3 TX3 10, w ∈ lw_tbl) w h) (List.all_eq_true.mp (by decide +kernel : (u_ws RX3 TX3 10).all goodWord = true) w h)
theorem inX4 : ∀ w ∈ u_ws RX4 TX4 7, w ∈ xT := fun w h => xT_of ((by decide +kernel : ∀ w ∈ u_ws RX4 TX4 7, w ∈ lw_tbl) w h) (List.all_eq_true.mp (by decide +kernel : (u_ws RX4 TX4 7).all goodWord = true) w h)
abbrev kX0_init : xK := (yX0_init, cX0_init, 2, none)
abbrev kX0_stateAt : xK := (yX0_stateAt, cX0_stateAt, 3, (some (.object "HeatShelves$State")))
abbrev kX0_record : xK := (yX0_record, cX0_record, 3, none)
abbrev kX0_takeLatest : xK := (yX0_takeLatest, cX0_takeLatest, 3, (some .boolean))
abbrev kX1_init : xK := (yX1_init, cX1_init, 1, none)
abbrev kX1_letPass : xK := (yX1_letPass, cX1_letPass, 7, (some .int))
abbrev kX1_findWhoMayMove : xK := (yX1_findWhoMayMove, cX1_findWhoMayMove, 5, none)
abbrev kX1_moveInTurn : xK := (yX1_moveInTurn, cX1_moveInTurn, 8, (some .int))
abbrev kX1_nextInTurn : xK := (yX1_nextInTurn, cX1_nextInTurn, 9, (some .int))
abbrev kX1_shelfToMoveTo : xK := (yX1_shelfToMoveTo, cX1_shelfToMoveTo, 6, (some .int))
abbrev kX1_promiseIfDeep : xK := (yX1_promiseIfDeep, cX1_promiseIfDeep, 3, none)
abbrev kX2_init : xK := (yX2_init, cX2_init, 1, none)
abbrev kX3_init : xK := (yX3_init, cX3_init, 2, none)
abbrev kX3_copyFrom : xK := (yX3_copyFrom, cX3_copyFrom, 2, none)
abbrev kX3_countBlocks : xK := (yX3_countBlocks, cX3_countBlocks, 1, (some .int))
abbrev kX3_find : xK := (yX3_find, cX3_find, 4, (some .int))
abbrev kX3_placeOfRank : xK := (yX3_placeOfRank, cX3_placeOfRank, 4, (some .int))
abbrev kX3_countHotter : xK := (yX3_countHotter, cX3_countHotter, 7, (some .int))
abbrev kX3_wantedShelf : xK := (yX3_wantedShelf, cX3_wantedShelf, 3, (some .int))
abbrev kX3_hasRoom : xK := (yX3_hasRoom, cX3_hasRoom, 3, (some .boolean))
abbrev kX3_countOnShelf : xK := (yX3_countOnShelf, cX3_countOnShelf, 5, (some .int))
abbrev kX3_heatOnShelf : xK := (yX3_heatOnShelf, cX3_heatOnShelf, 5, (some .int))
abbrev kX3_heatOfAll : xK := (yX3_heatOfAll, cX3_heatOfAll, 3, (some .int))
abbrev kX3_nightPriceOfShelf : xK := (yX3_nightPriceOfShelf, cX3_nightPriceOfShelf, 2, (some .int))
abbrev kX3_countPinned : xK := (yX3_countPinned, cX3_countPinned, 4, (some .int))
abbrev kX3_addBlock : xK := (yX3_addBlock, cX3_addBlock, 5, (some .int))
abbrev kX3_fastestWithRoom : xK := (yX3_fastestWithRoom, cX3_fastestWithRoom, 3, (some .int))
abbrev kX3_dropBlock : xK := (yX3_dropBlock, cX3_dropBlock, 4, (some .int))
abbrev kX3_readBlock : xK := (yX3_readBlock, cX3_readBlock, 6, (some .int))
abbrev kX3_readOnce : xK := (yX3_readOnce, cX3_readOnce, 4, (some .int))
abbrev kX3_askBack : xK := (yX3_askBack, cX3_askBack, 4, (some .int))
abbrev kX3_moveTo : xK := (yX3_moveTo, cX3_moveTo, 4, none)
abbrev kX3_payNight : xK := (yX3_payNight, cX3_payNight, 2, none)
abbrev kX3_fade : xK := (yX3_fade, cX3_fade, 4, none)
abbrev kX3_turnPin : xK := (yX3_turnPin, cX3_turnPin, 5, (some .int))
abbrev kX3_changeSetting : xK := (yX3_changeSetting, cX3_changeSetting, 4, (some .int))
abbrev kX3_allowsSetting : xK := (yX3_allowsSetting, cX3_allowsSetting, 3, (some .boolean))
abbrev kX4_init : xK := (yX4_init, cX4_init, 1, none)
abbrev kX4_add : xK := (yX4_add, cX4_add, 2, (some .int))
abbrev kX4_remove : xK := (yX4_remove, cX4_remove, 2, (some .int))
abbrev kX4_read : xK := (yX4_read, cX4_read, 3, (some .int))
abbrev kX4_pin : xK := (yX4_pin, cX4_pin, 3, (some .int))
abbrev kX4_pass : xK := (yX4_pass, cX4_pass, 2, (some .int))
abbrev kX4_set : xK := (yX4_set, cX4_set, 3, (some .int))
abbrev kX4_undo : xK := (yX4_undo, cX4_undo, 1, (some .int))
abbrev kX4_restore : xK := (yX4_restore, cX4_restore, 1, (some .int))
abbrev kX4_block : xK := (yX4_block, cX4_block, 3, (some .int))
abbrev kX4_ofBlock : xK := (yX4_ofBlock, cX4_ofBlock, 4, (some .int))
abbrev kX4_shelf : xK := (yX4_shelf, cX4_shelf, 3, (some .int))
abbrev kX4_total : xK := (yX4_total, cX4_total, 2, (some .int))
abbrev kX4_ifPassed : xK := (yX4_ifPassed, cX4_ifPassed, 4, (some .int))
abbrev kX4_nextMove : xK := (yX4_nextMove, cX4_nextMove, 2, (some .int))
abbrev kX4_bestHot : xK := (yX4_bestHot, cX4_bestHot, 9, (some .int))
abbrev kX4_settle : xK := (yX4_settle, cX4_settle, 2, (some .int))
abbrev kX4_passInWork : xK := (yX4_passInWork, cX4_passInWork, 2, (some .int))
abbrev kX4_whyItStays : xK := (yX4_whyItStays, cX4_whyItStays, 2, (some .int))
abbrev kX4_paidForNightsInWork : xK := (yX4_paidForNightsInWork, cX4_paidForNightsInWork, 1, (some .int))
abbrev kX4_paidWithHot : xK := (yX4_paidWithHot, cX4_paidWithHot, 3, (some .int))
abbrev kX4_at : xK := (yX4_at, cX4_at, 2, (some .int))
abbrev kX4_put : xK := (yX4_put, cX4_put, 3, none)
abbrev kX4_raise : xK := (yX4_raise, cX4_raise, 3, none)
abbrev kX4_copyRow : xK := (yX4_copyRow, cX4_copyRow, 2, none)
abbrev kX4_closeGap : xK := (yX4_closeGap, cX4_closeGap, 3, none)
abbrev kL_cell : xK := (yL_cell, cL_cell, 2, (some .int))
abbrev kL_low : xK := (yL_low, cL_low, 2, (some .int))
abbrev kL_areShelves : xK := (yL_areShelves, cL_areShelves, 14, (some .boolean))
abbrev kL_isNight : xK := (yL_isNight, cL_isNight, 14, (some .boolean))
abbrev kL_isRead : xK := (yL_isRead, cL_isRead, 16, (some .boolean))
abbrev kL_isBest : xK := (yL_isBest, cL_isBest, 9, (some .boolean))
abbrev kL_does : xK := (yL_does, cL_does, 21, (some .boolean))
abbrev kL_law : xK := (yL_law, cL_law, 6, (some .boolean))
set_option maxRecDepth 20000 in
theorem ck_L_areShelves : x_cal kL_areShelves 1 := ⟨(xT_of (List.mem_append_right _ (List.mem_of_getElem? (i := 356) rfl)) rfl), (xT_of (List.mem_append_right _ (List.mem_of_getElem? (i := 0) rfl)) rfl), ⟨by decide, by decide, by decide +kernel⟩, by decide⟩
set_option maxRecDepth 20000 in
theorem ck_L_cell : x_cal kL_cell 2 := ⟨(xT_of (List.mem_append_right _ (List.mem_of_getElem? (i := 349) rfl)) rfl), (xT_of (List.mem_append_right _ (List.mem_of_getElem? (i := 0) rfl)) rfl), ⟨by decide, by decide, by decide +kernel⟩, by decide⟩
set_option maxRecDepth 20000 in
theorem ck_L_does : x_cal kL_does 3 := ⟨(xT_of (List.mem_append_right _ (List.mem_of_getElem? (i := 395) rfl)) rfl), (xT_of (List.mem_append_right _ (List.mem_of_getElem? (i := 0) rfl)) rfl), ⟨by decide, by decide, by decide +kernel⟩, by decide⟩
set_option maxRecDepth 20000 in
theorem ck_L_isBest : x_cal kL_isBest 2 := ⟨(xT_of (List.mem_append_right _ (List.mem_of_getElem? (i := 392) rfl)) rfl), (xT_of (List.mem_append_right _ (List.mem_of_getElem? (i := 0) rfl)) rfl), ⟨by decide, by decide, by decide +kernel⟩, by decide⟩
set_option maxRecDepth 20000 in
theorem ck_L_isNight : x_cal kL_isNight 3 := ⟨(xT_of (List.mem_append_right _ (List.mem_of_getElem? (i := 385) rfl)) rfl), (xT_of (List.mem_append_right _ (List.mem_of_getElem? (i := 0) rfl)) rfl), ⟨by decide, by decide, by decide +kernel⟩, by decide⟩
set_option maxRecDepth 20000 in
theorem ck_L_isRead : x_cal kL_isRead 3 := ⟨(xT_of (List.mem_append_right _ (List.mem_of_getElem? (i := 420) rfl)) rfl), (xT_of (List.mem_append_right _ (List.mem_of_getElem? (i := 0) rfl)) rfl), ⟨by decide, by decide, by decide +kernel⟩, by decide⟩
set_option maxRecDepth 20000 in
theorem ck_L_low : x_cal kL_low 2 := ⟨(xT_of (List.mem_append_right _ (List.mem_of_getElem? (i := 352) rfl)) rfl), (xT_of (List.mem_append_right _ (List.mem_of_getElem? (i := 0) rfl)) rfl), ⟨by decide, by decide, by decide +kernel⟩, by decide⟩
theorem ck_X0_init : x_cal kX0_init 0 := ⟨(xT_of (List.mem_append_right _ (List.mem_of_getElem? (i := 76) rfl)) rfl), (xT_of (List.mem_append_right _ (List.mem_of_getElem? (i := 3) rfl)) rfl), ⟨by decide, by decide, by decide +kernel⟩, by decide⟩
theorem ck_X0_record : x_cal kX0_record 1 := ⟨(xT_of (List.mem_append_right _ (List.mem_of_getElem? (i := 206) rfl)) rfl), (xT_of (List.mem_append_right _ (List.mem_of_getElem? (i := 3) rfl)) rfl), ⟨by decide, by decide, by decide +kernel⟩, by decide⟩
theorem ck_X0_stateAt : x_cal kX0_stateAt 1 := ⟨(xT_of (List.mem_append_right _ (List.mem_of_getElem? (i := 210) rfl)) rfl), (xT_of (List.mem_append_right _ (List.mem_of_getElem? (i := 3) rfl)) rfl), ⟨by decide, by decide, by decide +kernel⟩, by decide⟩
theorem ck_X0_takeLatest : x_cal kX0_takeLatest 1 := ⟨(xT_of (List.mem_append_right _ (List.mem_of_getElem? (i := 297) rfl)) rfl), (xT_of (List.mem_append_right _ (List.mem_of_getElem? (i := 3) rfl)) rfl), ⟨by decide, by decide, by decide +kernel⟩, by decide⟩
theorem ck_X1_findWhoMayMove : x_cal kX1_findWhoMayMove 1 := ⟨(xT_of (List.mem_append_right _ (List.mem_of_getElem? (i := 244) rfl)) rfl), (xT_of (List.mem_append_right _ (List.mem_of_getElem? (i := 4) rfl)) rfl), ⟨by decide, by decide, by decide +kernel⟩, by decide⟩
theorem ck_X1_init : x_cal kX1_init 0 := ⟨(xT_of (List.mem_append_right _ (List.mem_of_getElem? (i := 96) rfl)) rfl), (xT_of (List.mem_append_right _ (List.mem_of_getElem? (i := 4) rfl)) rfl), ⟨by decide, by decide, by decide +kernel⟩, by decide⟩
theorem ck_X1_letPass : x_cal kX1_letPass 2 := ⟨(xT_of (List.mem_append_right _ (List.mem_of_getElem? (i := 224) rfl)) rfl), (xT_of (List.mem_append_right _ (List.mem_of_getElem? (i := 4) rfl)) rfl), ⟨by decide, by decide, by decide +kernel⟩, by decide⟩
theorem ck_X1_moveInTurn : x_cal kX1_moveInTurn 3 := ⟨(xT_of (List.mem_append_right _ (List.mem_of_getElem? (i := 254) rfl)) rfl), (xT_of (List.mem_append_right _ (List.mem_of_getElem? (i := 4) rfl)) rfl), ⟨by decide, by decide, by decide +kernel⟩, by decide⟩
theorem ck_X1_nextInTurn : x_cal kX1_nextInTurn 2 := ⟨(xT_of (List.mem_append_right _ (List.mem_of_getElem? (i := 258) rfl)) rfl), (xT_of (List.mem_append_right _ (List.mem_of_getElem? (i := 4) rfl)) rfl), ⟨by decide, by decide, by decide +kernel⟩, by decide⟩
theorem ck_X1_promiseIfDeep : x_cal kX1_promiseIfDeep 2 := ⟨(xT_of (List.mem_append_right _ (List.mem_of_getElem? (i := 274) rfl)) rfl), (xT_of (List.mem_append_right _ (List.mem_of_getElem? (i := 4) rfl)) rfl), ⟨by decide, by decide, by decide +kernel⟩, by decide⟩
theorem ck_X1_shelfToMoveTo : x_cal kX1_shelfToMoveTo 2 := ⟨(xT_of (List.mem_append_right _ (List.mem_of_getElem? (i := 262) rfl)) rfl), (xT_of (List.mem_append_right _ (List.mem_of_getElem? (i := 4) rfl)) rfl), ⟨by decide, by decide, by decide +kernel⟩, by decide⟩
theorem ck_X2_init : x_cal kX2_init 0 := ⟨(xT_of (List.mem_append_right _ (List.mem_of_getElem? (i := 110) rfl)) rfl), (xT_of (List.mem_append_right _ (List.mem_of_getElem? (i := 5) rfl)) rfl), ⟨by decide, by decide, by decide +kernel⟩, by decide⟩
theorem ck_X3_addBlock : x_cal kX3_addBlock 1 := ⟨(xT_of (List.mem_append_right _ (List.mem_of_getElem? (i := 177) rfl)) rfl), (xT_of (List.mem_append_right _ (List.mem_of_getElem? (i := 2) rfl)) rfl), ⟨by decide, by decide, by decide +kernel⟩, by decide⟩
theorem ck_X3_allowsSetting : x_cal kX3_allowsSetting 2 := ⟨(xT_of (List.mem_append_right _ (List.mem_of_getElem? (i := 289) rfl)) rfl), (xT_of (List.mem_append_right _ (List.mem_of_getElem? (i := 2) rfl)) rfl), ⟨by decide, by decide, by decide +kernel⟩, by decide⟩
set_option maxRecDepth 20000 in
theorem ck_X3_askBack : x_cal kX3_askBack 1 := ⟨(xT_of (List.mem_append_right _ (List.mem_of_getElem? (i := 438) rfl)) rfl), (xT_of (List.mem_append_right _ (List.mem_of_getElem? (i := 2) rfl)) rfl), ⟨by decide, by decide, by decide +kernel⟩, by decide⟩
theorem ck_X3_changeSetting : x_cal kX3_changeSetting 2 := ⟨(xT_of (List.mem_append_right _ (List.mem_of_getElem? (i := 283) rfl)) rfl), (xT_of (List.mem_append_right _ (List.mem_of_getElem? (i := 2) rfl)) rfl), ⟨by decide, by decide, by decide +kernel⟩, by decide⟩
theorem ck_X3_copyFrom : x_cal kX3_copyFrom 1 := ⟨(xT_of (List.mem_append_right _ (List.mem_of_getElem? (i := 164) rfl)) rfl), (xT_of (List.mem_append_right _ (List.mem_of_getElem? (i := 2) rfl)) rfl), ⟨by decide, by decide, by decide +kernel⟩, by decide⟩
theorem ck_X3_countBlocks : x_cal kX3_countBlocks 0 := ⟨(xT_of (List.mem_append_right _ (List.mem_of_getElem? (i := 189) rfl)) rfl), (xT_of (List.mem_append_right _ (List.mem_of_getElem? (i := 2) rfl)) rfl), ⟨by decide, by decide, by decide +kernel⟩, by decide⟩
set_option maxRecDepth 20000 in
theorem ck_X3_countHotter : x_cal kX3_countHotter 1 := ⟨(xT_of (List.mem_append_right _ (List.mem_of_getElem? (i := 369) rfl)) rfl), (xT_of (List.mem_append_right _ (List.mem_of_getElem? (i := 2) rfl)) rfl), ⟨by decide, by decide, by decide +kernel⟩, by decide⟩
set_option maxRecDepth 20000 in
theorem ck_X3_countOnShelf : x_cal kX3_countOnShelf 1 := ⟨(xT_of (List.mem_append_right _ (List.mem_of_getElem? (i := 310) rfl)) rfl), (xT_of (List.mem_append_right _ (List.mem_of_getElem? (i := 2) rfl)) rfl), ⟨by decide, by decide, by decide +kernel⟩, by decide⟩
set_option maxRecDepth 20000 in
theorem ck_X3_countPinned : x_cal kX3_countPinned 0 := ⟨(xT_of (List.mem_append_right _ (List.mem_of_getElem? (i := 323) rfl)) rfl), (xT_of (List.mem_append_right _ (List.mem_of_getElem? (i := 2) rfl)) rfl), ⟨by decide, by decide, by decide +kernel⟩, by decide⟩
set_option maxRecDepth 20000 in
theorem ck_X3_dropBlock : x_cal kX3_dropBlock 1 := ⟨(xT_of (List.mem_append_right _ (List.mem_of_getElem? (i := 403) rfl)) rfl), (xT_of (List.mem_append_right _ (List.mem_of_getElem? (i := 2) rfl)) rfl), ⟨by decide, by decide, by decide +kernel⟩, by decide⟩
theorem ck_X3_fade : x_cal kX3_fade 0 := ⟨(xT_of (List.mem_append_right _ (List.mem_of_getElem? (i := 237) rfl)) rfl), (xT_of (List.mem_append_right _ (List.mem_of_getElem? (i := 2) rfl)) rfl), ⟨by decide, by decide, by decide +kernel⟩, by decide⟩
theorem ck_X3_fastestWithRoom : x_cal kX3_fastestWithRoom 1 := ⟨(xT_of (List.mem_append_right _ (List.mem_of_getElem? (i := 181) rfl)) rfl), (xT_of (List.mem_append_right _ (List.mem_of_getElem? (i := 2) rfl)) rfl), ⟨by decide, by decide, by decide +kernel⟩, by decide⟩
set_option maxRecDepth 20000 in
theorem ck_X3_find : x_cal kX3_find 1 := ⟨(xT_of (List.mem_append_right _ (List.mem_of_getElem? (i := 377) rfl)) rfl), (xT_of (List.mem_append_right _ (List.mem_of_getElem? (i := 2) rfl)) rfl), ⟨by decide, by decide, by decide +kernel⟩, by decide⟩
theorem ck_X3_hasRoom : x_cal kX3_hasRoom 2 := ⟨(xT_of (List.mem_append_right _ (List.mem_of_getElem? (i := 185) rfl)) rfl), (xT_of (List.mem_append_right _ (List.mem_of_getElem? (i := 2) rfl)) rfl), ⟨by decide, by decide, by decide +kernel⟩, by decide⟩
set_option maxRecDepth 20000 in
theorem ck_X3_heatOfAll : x_cal kX3_heatOfAll 0 := ⟨(xT_of (List.mem_append_right _ (List.mem_of_getElem? (i := 327) rfl)) rfl), (xT_of (List.mem_append_right _ (List.mem_of_getElem? (i := 2) rfl)) rfl), ⟨by decide, by decide, by decide +kernel⟩, by decide⟩
set_option maxRecDepth 20000 in
theorem ck_X3_heatOnShelf : x_cal kX3_heatOnShelf 1 := ⟨(xT_of (List.mem_append_right _ (List.mem_of_getElem? (i := 314) rfl)) rfl), (xT_of (List.mem_append_right _ (List.mem_of_getElem? (i := 2) rfl)) rfl), ⟨by decide, by decide, by decide +kernel⟩, by decide⟩
theorem ck_X3_init : x_cal kX3_init 0 := ⟨(xT_of (List.mem_append_right _ (List.mem_of_getElem? (i := 20) rfl)) rfl), (xT_of (List.mem_append_right _ (List.mem_of_getElem? (i := 2) rfl)) rfl), ⟨by decide, by decide, by decide +kernel⟩, by decide⟩
theorem ck_X3_moveTo : x_cal kX3_moveTo 2 := ⟨(xT_of (List.mem_append_right _ (List.mem_of_getElem? (i := 270) rfl)) rfl), (xT_of (List.mem_append_right _ (List.mem_of_getElem? (i := 2) rfl)) rfl), ⟨by decide, by decide, by decide +kernel⟩, by decide⟩
theorem ck_X3_nightPriceOfShelf : x_cal kX3_nightPriceOfShelf 1 := ⟨(xT_of (List.mem_append_right _ (List.mem_of_getElem? (i := 233) rfl)) rfl), (xT_of (List.mem_append_right _ (List.mem_of_getElem? (i := 2) rfl)) rfl), ⟨by decide, by decide, by decide +kernel⟩, by decide⟩
theorem ck_X3_payNight : x_cal kX3_payNight 0 := ⟨(xT_of (List.mem_append_right _ (List.mem_of_getElem? (i := 229) rfl)) rfl), (xT_of (List.mem_append_right _ (List.mem_of_getElem? (i := 2) rfl)) rfl), ⟨by decide, by decide, by decide +kernel⟩, by decide⟩
set_option maxRecDepth 20000 in
theorem ck_X3_placeOfRank : x_cal kX3_placeOfRank 1 := ⟨(xT_of (List.mem_append_right _ (List.mem_of_getElem? (i := 365) rfl)) rfl), (xT_of (List.mem_append_right _ (List.mem_of_getElem? (i := 2) rfl)) rfl), ⟨by decide, by decide, by decide +kernel⟩, by decide⟩
set_option maxRecDepth 20000 in
theorem ck_X3_readBlock : x_cal kX3_readBlock 2 := ⟨(xT_of (List.mem_append_right _ (List.mem_of_getElem? (i := 428) rfl)) rfl), (xT_of (List.mem_append_right _ (List.mem_of_getElem? (i := 2) rfl)) rfl), ⟨by decide, by decide, by decide +kernel⟩, by decide⟩
set_option maxRecDepth 20000 in
theorem ck_X3_readOnce : x_cal kX3_readOnce 1 := ⟨(xT_of (List.mem_append_right _ (List.mem_of_getElem? (i := 432) rfl)) rfl), (xT_of (List.mem_append_right _ (List.mem_of_getElem? (i := 2) rfl)) rfl), ⟨by decide, by decide, by decide +kernel⟩, by decide⟩
set_option maxRecDepth 20000 in
theorem ck_X3_turnPin : x_cal kX3_turnPin 2 := ⟨(xT_of (List.mem_append_right _ (List.mem_of_getElem? (i := 416) rfl)) rfl), (xT_of (List.mem_append_right _ (List.mem_of_getElem? (i := 2) rfl)) rfl), ⟨by decide, by decide, by decide +kernel⟩, by decide⟩
theorem ck_X3_wantedShelf : x_cal kX3_wantedShelf 1 := ⟨(xT_of (List.mem_append_right _ (List.mem_of_getElem? (i := 249) rfl)) rfl), (xT_of (List.mem_append_right _ (List.mem_of_getElem? (i := 2) rfl)) rfl), ⟨by decide, by decide, by decide +kernel⟩, by decide⟩
theorem ck_X4_add : x_cal kX4_add 1 := ⟨(xT_of (List.mem_append_right _ (List.mem_of_getElem? (i := 160) rfl)) rfl), (xT_of (List.mem_append_right _ (List.mem_of_getElem? (i := 1) rfl)) rfl), ⟨by decide, by decide, by decide +kernel⟩, by decide⟩
theorem ck_X4_at : x_cal kX4_at 2 := ⟨(xT_of (List.mem_append_right _ (List.mem_of_getElem? (i := 192) rfl)) rfl), (xT_of (List.mem_append_right _ (List.mem_of_getElem? (i := 1) rfl)) rfl), ⟨by decide, by decide, by decide +kernel⟩, by decide⟩
set_option maxRecDepth 20000 in
theorem ck_X4_bestHot : x_cal kX4_bestHot 2 := ⟨(xT_of (List.mem_append_right _ (List.mem_of_getElem? (i := 336) rfl)) rfl), (xT_of (List.mem_append_right _ (List.mem_of_getElem? (i := 1) rfl)) rfl), ⟨by decide, by decide, by decide +kernel⟩, by decide⟩
set_option maxRecDepth 20000 in
theorem ck_X4_block : x_cal kX4_block 1 := ⟨(xT_of (List.mem_append_right _ (List.mem_of_getElem? (i := 361) rfl)) rfl), (xT_of (List.mem_append_right _ (List.mem_of_getElem? (i := 1) rfl)) rfl), ⟨by decide, by decide, by decide +kernel⟩, by decide⟩
set_option maxRecDepth 20000 in
theorem ck_X4_closeGap : x_cal kX4_closeGap 2 := ⟨(xT_of (List.mem_append_right _ (List.mem_of_getElem? (i := 407) rfl)) rfl), (xT_of (List.mem_append_right _ (List.mem_of_getElem? (i := 1) rfl)) rfl), ⟨by decide, by decide, by decide +kernel⟩, by decide⟩
theorem ck_X4_copyRow : x_cal kX4_copyRow 2 := ⟨(xT_of (List.mem_append_right _ (List.mem_of_getElem? (i := 167) rfl)) rfl), (xT_of (List.mem_append_right _ (List.mem_of_getElem? (i := 1) rfl)) rfl), ⟨by decide, by decide, by decide +kernel⟩, by decide⟩
set_option maxRecDepth 20000 in
theorem ck_X4_ifPassed : x_cal kX4_ifPassed 2 := ⟨(xT_of (List.mem_append_right _ (List.mem_of_getElem? (i := 389) rfl)) rfl), (xT_of (List.mem_append_right _ (List.mem_of_getElem? (i := 1) rfl)) rfl), ⟨by decide, by decide, by decide +kernel⟩, by decide⟩
theorem ck_X4_init : x_cal kX4_init 0 := ⟨(xT_of (List.mem_append_right _ (List.mem_of_getElem? (i := 12) rfl)) rfl), (xT_of (List.mem_append_right _ (List.mem_of_getElem? (i := 1) rfl)) rfl), ⟨by decide, by decide, by decide +kernel⟩, by decide⟩
set_option maxRecDepth 20000 in
theorem ck_X4_nextMove : x_cal kX4_nextMove 0 := ⟨(xT_of (List.mem_append_right _ (List.mem_of_getElem? (i := 332) rfl)) rfl), (xT_of (List.mem_append_right _ (List.mem_of_getElem? (i := 1) rfl)) rfl), ⟨by decide, by decide, by decide +kernel⟩, by decide⟩
set_option maxRecDepth 20000 in
theorem ck_X4_ofBlock : x_cal kX4_ofBlock 2 := ⟨(xT_of (List.mem_append_right _ (List.mem_of_getElem? (i := 373) rfl)) rfl), (xT_of (List.mem_append_right _ (List.mem_of_getElem? (i := 1) rfl)) rfl), ⟨by decide, by decide, by decide +kernel⟩, by decide⟩
set_option maxRecDepth 20000 in
theorem ck_X4_paidForNightsInWork : x_cal kX4_paidForNightsInWork 0 := ⟨(xT_of (List.mem_append_right _ (List.mem_of_getElem? (i := 346) rfl)) rfl), (xT_of (List.mem_append_right _ (List.mem_of_getElem? (i := 1) rfl)) rfl), ⟨by decide, by decide, by decide +kernel⟩, by decide⟩
set_option maxRecDepth 20000 in
theorem ck_X4_paidWithHot : x_cal kX4_paidWithHot 2 := ⟨(xT_of (List.mem_append_right _ (List.mem_of_getElem? (i := 341) rfl)) rfl), (xT_of (List.mem_append_right _ (List.mem_of_getElem? (i := 1) rfl)) rfl), ⟨by decide, by decide, by decide +kernel⟩, by decide⟩
theorem ck_X4_pass : x_cal kX4_pass 1 := ⟨(xT_of (List.mem_append_right _ (List.mem_of_getElem? (i := 215) rfl)) rfl), (xT_of (List.mem_append_right _ (List.mem_of_getElem? (i := 1) rfl)) rfl), ⟨by decide, by decide, by decide +kernel⟩, by decide⟩
theorem ck_X4_passInWork : x_cal kX4_passInWork 1 := ⟨(xT_of (List.mem_append_right _ (List.mem_of_getElem? (i := 219) rfl)) rfl), (xT_of (List.mem_append_right _ (List.mem_of_getElem? (i := 1) rfl)) rfl), ⟨by decide, by decide, by decide +kernel⟩, by decide⟩
set_option maxRecDepth 20000 in
theorem ck_X4_pin : x_cal kX4_pin 2 := ⟨(xT_of (List.mem_append_right _ (List.mem_of_getElem? (i := 412) rfl)) rfl), (xT_of (List.mem_append_right _ (List.mem_of_getElem? (i := 1) rfl)) rfl), ⟨by decide, by decide, by decide +kernel⟩, by decide⟩
theorem ck_X4_put : x_cal kX4_put 3 := ⟨(xT_of (List.mem_append_right _ (List.mem_of_getElem? (i := 195) rfl)) rfl), (xT_of (List.mem_append_right _ (List.mem_of_getElem? (i := 1) rfl)) rfl), ⟨by decide, by decide, by decide +kernel⟩, by decide⟩
theorem ck_X4_raise : x_cal kX4_raise 3 := ⟨(xT_of (List.mem_append_right _ (List.mem_of_getElem? (i := 198) rfl)) rfl), (xT_of (List.mem_append_right _ (List.mem_of_getElem? (i := 1) rfl)) rfl), ⟨by decide, by decide, by decide +kernel⟩, by decide⟩
set_option maxRecDepth 20000 in
theorem ck_X4_read : x_cal kX4_read 2 := ⟨(xT_of (List.mem_append_right _ (List.mem_of_getElem? (i := 424) rfl)) rfl), (xT_of (List.mem_append_right _ (List.mem_of_getElem? (i := 1) rfl)) rfl), ⟨by decide, by decide, by decide +kernel⟩, by decide⟩
set_option maxRecDepth 20000 in
theorem ck_X4_remove : x_cal kX4_remove 1 := ⟨(xT_of (List.mem_append_right _ (List.mem_of_getElem? (i := 399) rfl)) rfl), (xT_of (List.mem_append_right _ (List.mem_of_getElem? (i := 1) rfl)) rfl), ⟨by decide, by decide, by decide +kernel⟩, by decide⟩
set_option maxRecDepth 20000 in
theorem ck_X4_restore : x_cal kX4_restore 0 := ⟨(xT_of (List.mem_append_right _ (List.mem_of_getElem? (i := 301) rfl)) rfl), (xT_of (List.mem_append_right _ (List.mem_of_getElem? (i := 1) rfl)) rfl), ⟨by decide, by decide, by decide +kernel⟩, by decide⟩
theorem ck_X4_set : x_cal kX4_set 2 := ⟨(xT_of (List.mem_append_right _ (List.mem_of_getElem? (i := 279) rfl)) rfl), (xT_of (List.mem_append_right _ (List.mem_of_getElem? (i := 1) rfl)) rfl), ⟨by decide, by decide, by decide +kernel⟩, by decide⟩
theorem ck_X4_settle : x_cal kX4_settle 1 := ⟨(xT_of (List.mem_append_right _ (List.mem_of_getElem? (i := 202) rfl)) rfl), (xT_of (List.mem_append_right _ (List.mem_of_getElem? (i := 1) rfl)) rfl), ⟨by decide, by decide, by decide +kernel⟩, by decide⟩
set_option maxRecDepth 20000 in
theorem ck_X4_shelf : x_cal kX4_shelf 2 := ⟨(xT_of (List.mem_append_right _ (List.mem_of_getElem? (i := 306) rfl)) rfl), (xT_of (List.mem_append_right _ (List.mem_of_getElem? (i := 1) rfl)) rfl), ⟨by decide, by decide, by decide +kernel⟩, by decide⟩
set_option maxRecDepth 20000 in
theorem ck_X4_total : x_cal kX4_total 1 := ⟨(xT_of (List.mem_append_right _ (List.mem_of_getElem? (i := 319) rfl)) rfl), (xT_of (List.mem_append_right _ (List.mem_of_getElem? (i := 1) rfl)) rfl), ⟨by decide, by decide, by decide +kernel⟩, by decide⟩
theorem ck_X4_undo : x_cal kX4_undo 0 := ⟨(xT_of (List.mem_append_right _ (List.mem_of_getElem? (i := 293) rfl)) rfl), (xT_of (List.mem_append_right _ (List.mem_of_getElem? (i := 1) rfl)) rfl), ⟨by decide, by decide, by decide +kernel⟩, by decide⟩
set_option maxRecDepth 20000 in
theorem ck_X4_whyItStays : x_cal kX4_whyItStays 1 := ⟨(xT_of (List.mem_append_right _ (List.mem_of_getElem? (i := 382) rfl)) rfl), (xT_of (List.mem_append_right _ (List.mem_of_getElem? (i := 1) rfl)) rfl), ⟨by decide, by decide, by decide +kernel⟩, by decide⟩
set_option maxRecDepth 20000 in
theorem cv_L_15 : x_CV RL 15 kX4_block 1 4 := ⟨Or.inl (xT_of (List.mem_append_right _ (List.mem_of_getElem? (i := 358) rfl)) rfl), ck_X4_block, (xT_of (List.mem_append_right _ (List.mem_of_getElem? (i := 359) rfl)) rfl), (xT_of (List.mem_append_right _ (List.mem_of_getElem? (i := 360) rfl)) rfl), TX4, 7, rfl⟩
set_option maxRecDepth 20000 in
theorem cv_L_18 : x_CV RL 18 kX4_ofBlock 2 4 := ⟨Or.inl (xT_of (List.mem_append_right _ (List.mem_of_getElem? (i := 370) rfl)) rfl), ck_X4_ofBlock, (xT_of (List.mem_append_right _ (List.mem_of_getElem? (i := 371) rfl)) rfl), (xT_of (List.mem_append_right _ (List.mem_of_getElem? (i := 372) rfl)) rfl), TX4, 7, rfl⟩
set_option maxRecDepth 20000 in
theorem cv_L_22 : x_CV RL 22 kX4_shelf 2 4 := ⟨Or.inl (xT_of (List.mem_append_right _ (List.mem_of_getElem? (i := 303) rfl)) rfl), ck_X4_shelf, (xT_of (List.mem_append_right _ (List.mem_of_getElem? (i := 304) rfl)) rfl), (xT_of (List.mem_append_right _ (List.mem_of_getElem? (i := 305) rfl)) rfl), TX4, 7, rfl⟩
set_option maxRecDepth 20000 in
theorem cv_L_25 : x_CV RL 25 kX4_ifPassed 2 4 := ⟨Or.inl (xT_of (List.mem_append_right _ (List.mem_of_getElem? (i := 386) rfl)) rfl), ck_X4_ifPassed, (xT_of (List.mem_append_right _ (List.mem_of_getElem? (i := 387) rfl)) rfl), (xT_of (List.mem_append_right _ (List.mem_of_getElem? (i := 388) rfl)) rfl), TX4, 7, rfl⟩
set_option maxRecDepth 20000 in
theorem cv_L_28 : x_CV RL 28 kX4_nextMove 0 4 := ⟨Or.inl (xT_of (List.mem_append_right _ (List.mem_of_getElem? (i := 329) rfl)) rfl), ck_X4_nextMove, (xT_of (List.mem_append_right _ (List.mem_of_getElem? (i := 330) rfl)) rfl), (xT_of (List.mem_append_right _ (List.mem_of_getElem? (i := 331) rfl)) rfl), TX4, 7, rfl⟩
theorem cv_L_32 : x_CV RL 32 kX4_pass 1 4 := ⟨Or.inl (xT_of (List.mem_append_right _ (List.mem_of_getElem? (i := 212) rfl)) rfl), ck_X4_pass, (xT_of (List.mem_append_right _ (List.mem_of_getElem? (i := 213) rfl)) rfl), (xT_of (List.mem_append_right _ (List.mem_of_getElem? (i := 214) rfl)) rfl), TX4, 7, rfl⟩
set_option maxRecDepth 20000 in
theorem cv_L_35 : x_CV RL 35 kX4_read 2 4 := ⟨Or.inl (xT_of (List.mem_append_right _ (List.mem_of_getElem? (i := 421) rfl)) rfl), ck_X4_read, (xT_of (List.mem_append_right _ (List.mem_of_getElem? (i := 422) rfl)) rfl), (xT_of (List.mem_append_right _ (List.mem_of_getElem? (i := 423) rfl)) rfl), TX4, 7, rfl⟩
set_option maxRecDepth 20000 in
theorem cv_L_39 : x_CV RL 39 kX4_bestHot 2 4 := ⟨Or.inl (xT_of (List.mem_append_right _ (List.mem_of_getElem? (i := 333) rfl)) rfl), ck_X4_bestHot, (xT_of (List.mem_append_right _ (List.mem_of_getElem? (i := 334) rfl)) rfl), (xT_of (List.mem_append_right _ (List.mem_of_getElem? (i := 335) rfl)) rfl), TX4, 7, rfl⟩
theorem cv_L_42 : x_CV RL 42 kX4_set 2 4 := ⟨Or.inl (xT_of (List.mem_append_right _ (List.mem_of_getElem? (i := 276) rfl)) rfl), ck_X4_set, (xT_of (List.mem_append_right _ (List.mem_of_getElem? (i := 277) rfl)) rfl), (xT_of (List.mem_append_right _ (List.mem_of_getElem? (i := 278) rfl)) rfl), TX4, 7, rfl⟩
set_option maxRecDepth 20000 in
theorem cs_L_45 : x_CS RL 45 kL_low 2 := ⟨Or.inl (xT_of (List.mem_append_right _ (List.mem_of_getElem? (i := 350) rfl)) rfl), ck_L_low, (xT_of (List.mem_append_right _ (List.mem_of_getElem? (i := 351) rfl)) rfl)⟩
theorem cv_L_50 : x_CV RL 50 kX4_add 1 4 := ⟨Or.inl (xT_of (List.mem_append_right _ (List.mem_of_getElem? (i := 157) rfl)) rfl), ck_X4_add, (xT_of (List.mem_append_right _ (List.mem_of_getElem? (i := 158) rfl)) rfl), (xT_of (List.mem_append_right _ (List.mem_of_getElem? (i := 159) rfl)) rfl), TX4, 7, rfl⟩
set_option maxRecDepth 20000 in
theorem cv_L_53 : x_CV RL 53 kX4_remove 1 4 := ⟨Or.inl (xT_of (List.mem_append_right _ (List.mem_of_getElem? (i := 396) rfl)) rfl), ck_X4_remove, (xT_of (List.mem_append_right _ (List.mem_of_getElem? (i := 397) rfl)) rfl), (xT_of (List.mem_append_right _ (List.mem_of_getElem? (i := 398) rfl)) rfl), TX4, 7, rfl⟩
set_option maxRecDepth 20000 in
theorem cv_L_56 : x_CV RL 56 kX4_pin 2 4 := ⟨Or.inl (xT_of (List.mem_append_right _ (List.mem_of_getElem? (i := 409) rfl)) rfl), ck_X4_pin, (xT_of (List.mem_append_right _ (List.mem_of_getElem? (i := 410) rfl)) rfl), (xT_of (List.mem_append_right _ (List.mem_of_getElem? (i := 411) rfl)) rfl), TX4, 7, rfl⟩
set_option maxRecDepth 20000 in
theorem cs_L_60 : x_CS RL 60 kL_isRead 3 := ⟨Or.inl (xT_of (List.mem_append_right _ (List.mem_of_getElem? (i := 418) rfl)) rfl), ck_L_isRead, (xT_of (List.mem_append_right _ (List.mem_of_getElem? (i := 419) rfl)) rfl)⟩
theorem cc_L_64 : x_CC RL 64 kX4_init 0 := ⟨Or.inl (xT_of (List.mem_append_right _ (List.mem_of_getElem? (i := 10) rfl)) rfl), ck_X4_init, (xT_of (List.mem_append_right _ (List.mem_of_getElem? (i := 11) rfl)) rfl), rfl, rfl⟩
set_option maxRecDepth 20000 in
theorem cs_L_65 : x_CS RL 65 kL_areShelves 1 := ⟨Or.inl (xT_of (List.mem_append_right _ (List.mem_of_getElem? (i := 354) rfl)) rfl), ck_L_areShelves, (xT_of (List.mem_append_right _ (List.mem_of_getElem? (i := 355) rfl)) rfl)⟩
theorem cv_L_69 : x_CV RL 69 kX4_undo 0 4 := ⟨Or.inl (xT_of (List.mem_append_right _ (List.mem_of_getElem? (i := 290) rfl)) rfl), ck_X4_undo, (xT_of (List.mem_append_right _ (List.mem_of_getElem? (i := 291) rfl)) rfl), (xT_of (List.mem_append_right _ (List.mem_of_getElem? (i := 292) rfl)) rfl), TX4, 7, rfl⟩
theorem cv_L_72 : x_CV RL 72 kX4_restore 0 4 := ⟨Or.inl (xT_of (List.mem_append_right _ (List.mem_of_getElem? (i := 298) rfl)) rfl), ck_X4_restore, (xT_of (List.mem_append_right _ (List.mem_of_getElem? (i := 299) rfl)) rfl), (xT_of (List.mem_append_right _ (List.mem_of_getElem? (i := 300) rfl)) rfl), TX4, 7, rfl⟩
set_option maxRecDepth 20000 in
theorem cs_L_75 : x_CS RL 75 kL_cell 2 := ⟨Or.inl (xT_of (List.mem_append_right _ (List.mem_of_getElem? (i := 347) rfl)) rfl), ck_L_cell, (xT_of (List.mem_append_right _ (List.mem_of_getElem? (i := 348) rfl)) rfl)⟩
set_option maxRecDepth 20000 in
theorem cs_L_79 : x_CS RL 79 kL_does 3 := ⟨Or.inl (xT_of (List.mem_append_right _ (List.mem_of_getElem? (i := 393) rfl)) rfl), ck_L_does, (xT_of (List.mem_append_right _ (List.mem_of_getElem? (i := 394) rfl)) rfl)⟩
set_option maxRecDepth 20000 in
theorem cv_L_8 : x_CV RL 8 kX4_total 1 4 := ⟨Or.inl (xT_of (List.mem_append_right _ (List.mem_of_getElem? (i := 316) rfl)) rfl), ck_X4_total, (xT_of (List.mem_append_right _ (List.mem_of_getElem? (i := 317) rfl)) rfl), (xT_of (List.mem_append_right _ (List.mem_of_getElem? (i := 318) rfl)) rfl), TX4, 7, rfl⟩
set_option maxRecDepth 20000 in
theorem cs_L_82 : x_CS RL 82 kL_isNight 3 := ⟨Or.inl (xT_of (List.mem_append_right _ (List.mem_of_getElem? (i := 383) rfl)) rfl), ck_L_isNight, (xT_of (List.mem_append_right _ (List.mem_of_getElem? (i := 384) rfl)) rfl)⟩
set_option maxRecDepth 20000 in
theorem cs_L_86 : x_CS RL 86 kL_isBest 2 := ⟨Or.inl (xT_of (List.mem_append_right _ (List.mem_of_getElem? (i := 390) rfl)) rfl), ck_L_isBest, (xT_of (List.mem_append_right _ (List.mem_of_getElem? (i := 391) rfl)) rfl)⟩
theorem cc_X0_24 : x_CC RX0 24 kX3_init 0 := ⟨Or.inr ⟨"HeatShelves", List.mem_of_getElem? (i := 2) rfl⟩, ck_X3_init, (xT_of (List.mem_append_right _ (List.mem_of_getElem? (i := 19) rfl)) rfl), rfl, rfl⟩
theorem cv_X0_25 : x_CV RX0 25 kX0_stateAt 1 0 := ⟨Or.inl (xT_of (List.mem_append_right _ (List.mem_of_getElem? (i := 207) rfl)) rfl), ck_X0_stateAt, (xT_of (List.mem_append_right _ (List.mem_of_getElem? (i := 209) rfl)) rfl), (xT_of (List.mem_append_left _ (List.mem_of_getElem? (i := 7) rfl)) rfl), TX0, 3, rfl⟩
theorem cv_X0_29 : x_CV RX0 29 kX3_copyFrom 1 3 := ⟨Or.inr ⟨"HeatShelves", List.mem_of_getElem? (i := 12) rfl⟩, ck_X3_copyFrom, (xT_of (List.mem_append_right _ (List.mem_of_getElem? (i := 163) rfl)) rfl), (xT_of (List.mem_append_left _ (List.mem_of_getElem? (i := 0) rfl)) rfl), TX3, 10, rfl⟩
theorem lk_X0_3 : Cond.methodLink RX0 3 Lib.objectInit ∈ xT := (xT_of (List.mem_append_right _ (List.mem_of_getElem? (i := 77) rfl)) rfl)
theorem cs_X1_23 : x_CS RX1 23 kX4_at 2 := ⟨Or.inr ⟨"HeatShelves", List.mem_of_getElem? (i := 14) rfl⟩, ck_X4_at, (xT_of (List.mem_append_right _ (List.mem_of_getElem? (i := 191) rfl)) rfl)⟩
theorem cv_X1_27 : x_CV RX1 27 kX3_payNight 0 3 := ⟨Or.inr ⟨"HeatShelves", List.mem_of_getElem? (i := 15) rfl⟩, ck_X3_payNight, (xT_of (List.mem_append_right _ (List.mem_of_getElem? (i := 228) rfl)) rfl), (xT_of (List.mem_append_left _ (List.mem_of_getElem? (i := 10) rfl)) rfl), TX3, 10, rfl⟩
theorem lk_X1_3 : Cond.methodLink RX1 3 Lib.objectInit ∈ xT := (xT_of (List.mem_append_right _ (List.mem_of_getElem? (i := 97) rfl)) rfl)
theorem cv_X1_30 : x_CV RX1 30 kX3_fade 0 3 := ⟨Or.inr ⟨"HeatShelves", List.mem_of_getElem? (i := 16) rfl⟩, ck_X3_fade, (xT_of (List.mem_append_right _ (List.mem_of_getElem? (i := 236) rfl)) rfl), (xT_of (List.mem_append_left _ (List.mem_of_getElem? (i := 12) rfl)) rfl), TX3, 10, rfl⟩
theorem cv_X1_33 : x_CV RX1 33 kX1_findWhoMayMove 1 1 := ⟨Or.inl (xT_of (List.mem_append_right _ (List.mem_of_getElem? (i := 241) rfl)) rfl), ck_X1_findWhoMayMove, (xT_of (List.mem_append_right _ (List.mem_of_getElem? (i := 243) rfl)) rfl), (xT_of (List.mem_append_left _ (List.mem_of_getElem? (i := 13) rfl)) rfl), TX1, 2, rfl⟩
theorem cv_X1_37 : x_CV RX1 37 kX1_moveInTurn 3 1 := ⟨Or.inl (xT_of (List.mem_append_right _ (List.mem_of_getElem? (i := 251) rfl)) rfl), ck_X1_moveInTurn, (xT_of (List.mem_append_right _ (List.mem_of_getElem? (i := 253) rfl)) rfl), (xT_of (List.mem_append_left _ (List.mem_of_getElem? (i := 15) rfl)) rfl), TX1, 2, rfl⟩
theorem cs_X1_41 : x_CS RX1 41 kX4_raise 3 := ⟨Or.inr ⟨"HeatShelves", List.mem_of_getElem? (i := 22) rfl⟩, ck_X4_raise, (xT_of (List.mem_append_right _ (List.mem_of_getElem? (i := 197) rfl)) rfl)⟩
theorem cv_X1_45 : x_CV RX1 45 kX3_countBlocks 0 3 := ⟨Or.inr ⟨"HeatShelves", List.mem_of_getElem? (i := 17) rfl⟩, ck_X3_countBlocks, (xT_of (List.mem_append_right _ (List.mem_of_getElem? (i := 188) rfl)) rfl), (xT_of (List.mem_append_left _ (List.mem_of_getElem? (i := 4) rfl)) rfl), TX3, 10, rfl⟩
theorem cv_X1_49 : x_CV RX1 49 kX3_wantedShelf 1 3 := ⟨Or.inr ⟨"HeatShelves", List.mem_of_getElem? (i := 18) rfl⟩, ck_X3_wantedShelf, (xT_of (List.mem_append_right _ (List.mem_of_getElem? (i := 248) rfl)) rfl), (xT_of (List.mem_append_left _ (List.mem_of_getElem? (i := 14) rfl)) rfl), TX3, 10, rfl⟩
theorem cs_X1_53 : x_CS RX1 53 kX4_put 3 := ⟨Or.inr ⟨"HeatShelves", List.mem_of_getElem? (i := 19) rfl⟩, ck_X4_put, (xT_of (List.mem_append_right _ (List.mem_of_getElem? (i := 194) rfl)) rfl)⟩
theorem cv_X1_65 : x_CV RX1 65 kX1_nextInTurn 2 1 := ⟨Or.inl (xT_of (List.mem_append_right _ (List.mem_of_getElem? (i := 255) rfl)) rfl), ck_X1_nextInTurn, (xT_of (List.mem_append_right _ (List.mem_of_getElem? (i := 257) rfl)) rfl), (xT_of (List.mem_append_left _ (List.mem_of_getElem? (i := 16) rfl)) rfl), TX1, 2, rfl⟩
theorem cv_X1_69 : x_CV RX1 69 kX1_shelfToMoveTo 2 1 := ⟨Or.inl (xT_of (List.mem_append_right _ (List.mem_of_getElem? (i := 259) rfl)) rfl), ck_X1_shelfToMoveTo, (xT_of (List.mem_append_right _ (List.mem_of_getElem? (i := 261) rfl)) rfl), (xT_of (List.mem_append_left _ (List.mem_of_getElem? (i := 17) rfl)) rfl), TX1, 2, rfl⟩
theorem cv_X1_73 : x_CV RX1 73 kX3_moveTo 2 3 := ⟨Or.inr ⟨"HeatShelves", List.mem_of_getElem? (i := 21) rfl⟩, ck_X3_moveTo, (xT_of (List.mem_append_right _ (List.mem_of_getElem? (i := 269) rfl)) rfl), (xT_of (List.mem_append_left _ (List.mem_of_getElem? (i := 18) rfl)) rfl), TX3, 10, rfl⟩
theorem cv_X1_77 : x_CV RX1 77 kX1_promiseIfDeep 2 1 := ⟨Or.inl (xT_of (List.mem_append_right _ (List.mem_of_getElem? (i := 271) rfl)) rfl), ck_X1_promiseIfDeep, (xT_of (List.mem_append_right _ (List.mem_of_getElem? (i := 273) rfl)) rfl), (xT_of (List.mem_append_left _ (List.mem_of_getElem? (i := 19) rfl)) rfl), TX1, 2, rfl⟩
theorem cv_X1_87 : x_CV RX1 87 kX3_hasRoom 2 3 := ⟨Or.inr ⟨"HeatShelves", List.mem_of_getElem? (i := 20) rfl⟩, ck_X3_hasRoom, (xT_of (List.mem_append_right _ (List.mem_of_getElem? (i := 184) rfl)) rfl), (xT_of (List.mem_append_left _ (List.mem_of_getElem? (i := 3) rfl)) rfl), TX3, 10, rfl⟩
theorem lk_X1_91 : Cond.methodLink RX1 91 Lib.Math.abs.name ∈ xT := (xT_of (List.mem_append_right _ (List.mem_of_getElem? (i := 264) rfl)) rfl)
theorem lk_X2_3 : Cond.methodLink RX2 3 Lib.objectInit ∈ xT := (xT_of (List.mem_append_right _ (List.mem_of_getElem? (i := 111) rfl)) rfl)
theorem cv_X3_102 : x_CV RX3 102 kX3_nightPriceOfShelf 1 3 := ⟨Or.inl (xT_of (List.mem_append_right _ (List.mem_of_getElem? (i := 230) rfl)) rfl), ck_X3_nightPriceOfShelf, (xT_of (List.mem_append_right _ (List.mem_of_getElem? (i := 232) rfl)) rfl), (xT_of (List.mem_append_left _ (List.mem_of_getElem? (i := 11) rfl)) rfl), TX3, 10, rfl⟩
theorem lk_X3_105 : Cond.methodLink RX3 105 Lib.Math.max.name ∈ xT := (xT_of (List.mem_append_right _ (List.mem_of_getElem? (i := 238) rfl)) rfl)
set_option maxRecDepth 20000 in
theorem cv_X3_108 : x_CV RX3 108 kX3_countPinned 0 3 := ⟨Or.inl (xT_of (List.mem_append_right _ (List.mem_of_getElem? (i := 417) rfl)) rfl), ck_X3_countPinned, (xT_of (List.mem_append_right _ (List.mem_of_getElem? (i := 322) rfl)) rfl), (xT_of (List.mem_append_left _ (List.mem_of_getElem? (i := 25) rfl)) rfl), TX3, 10, rfl⟩
theorem cv_X3_118 : x_CV RX3 118 kX3_allowsSetting 2 3 := ⟨Or.inl (xT_of (List.mem_append_right _ (List.mem_of_getElem? (i := 286) rfl)) rfl), ck_X3_allowsSetting, (xT_of (List.mem_append_right _ (List.mem_of_getElem? (i := 288) rfl)) rfl), (xT_of (List.mem_append_left _ (List.mem_of_getElem? (i := 21) rfl)) rfl), TX3, 10, rfl⟩
theorem lk_X3_3 : Cond.methodLink RX3 3 Lib.objectInit ∈ xT := (xT_of (List.mem_append_right _ (List.mem_of_getElem? (i := 21) rfl)) rfl)
theorem cs_X3_45 : x_CS RX3 45 kX4_copyRow 2 := ⟨Or.inr ⟨"HeatShelves", List.mem_of_getElem? (i := 6) rfl⟩, ck_X4_copyRow, (xT_of (List.mem_append_right _ (List.mem_of_getElem? (i := 166) rfl)) rfl)⟩
theorem cs_X3_49 : x_CS RX3 49 kX4_at 2 := ⟨Or.inr ⟨"HeatShelves", List.mem_of_getElem? (i := 8) rfl⟩, ck_X4_at, (xT_of (List.mem_append_right _ (List.mem_of_getElem? (i := 191) rfl)) rfl)⟩
theorem cv_X3_53 : x_CV RX3 53 kX3_countBlocks 0 3 := ⟨Or.inl (xT_of (List.mem_append_right _ (List.mem_of_getElem? (i := 186) rfl)) rfl), ck_X3_countBlocks, (xT_of (List.mem_append_right _ (List.mem_of_getElem? (i := 188) rfl)) rfl), (xT_of (List.mem_append_left _ (List.mem_of_getElem? (i := 4) rfl)) rfl), TX3, 10, rfl⟩
set_option maxRecDepth 20000 in
theorem cv_X3_57 : x_CV RX3 57 kX3_countHotter 1 3 := ⟨Or.inl (xT_of (List.mem_append_right _ (List.mem_of_getElem? (i := 366) rfl)) rfl), ck_X3_countHotter, (xT_of (List.mem_append_right _ (List.mem_of_getElem? (i := 368) rfl)) rfl), (xT_of (List.mem_append_left _ (List.mem_of_getElem? (i := 30) rfl)) rfl), TX3, 10, rfl⟩
set_option maxRecDepth 20000 in
theorem cv_X3_61 : x_CV RX3 61 kX3_heatOnShelf 1 3 := ⟨Or.inl (xT_of (List.mem_append_right _ (List.mem_of_getElem? (i := 328) rfl)) rfl), ck_X3_heatOnShelf, (xT_of (List.mem_append_right _ (List.mem_of_getElem? (i := 313) rfl)) rfl), (xT_of (List.mem_append_left _ (List.mem_of_getElem? (i := 24) rfl)) rfl), TX3, 10, rfl⟩
theorem cv_X3_64 : x_CV RX3 64 kX3_fastestWithRoom 1 3 := ⟨Or.inl (xT_of (List.mem_append_right _ (List.mem_of_getElem? (i := 178) rfl)) rfl), ck_X3_fastestWithRoom, (xT_of (List.mem_append_right _ (List.mem_of_getElem? (i := 180) rfl)) rfl), (xT_of (List.mem_append_left _ (List.mem_of_getElem? (i := 2) rfl)) rfl), TX3, 10, rfl⟩
theorem cs_X3_67 : x_CS RX3 67 kX4_put 3 := ⟨Or.inr ⟨"HeatShelves", List.mem_of_getElem? (i := 9) rfl⟩, ck_X4_put, (xT_of (List.mem_append_right _ (List.mem_of_getElem? (i := 194) rfl)) rfl)⟩
theorem cs_X3_71 : x_CS RX3 71 kX4_raise 3 := ⟨Or.inr ⟨"HeatShelves", List.mem_of_getElem? (i := 10) rfl⟩, ck_X4_raise, (xT_of (List.mem_append_right _ (List.mem_of_getElem? (i := 197) rfl)) rfl)⟩
theorem cv_X3_74 : x_CV RX3 74 kX3_hasRoom 2 3 := ⟨Or.inl (xT_of (List.mem_append_right _ (List.mem_of_getElem? (i := 182) rfl)) rfl), ck_X3_hasRoom, (xT_of (List.mem_append_right _ (List.mem_of_getElem? (i := 184) rfl)) rfl), (xT_of (List.mem_append_left _ (List.mem_of_getElem? (i := 3) rfl)) rfl), TX3, 10, rfl⟩
set_option maxRecDepth 20000 in
theorem cv_X3_78 : x_CV RX3 78 kX3_find 1 3 := ⟨Or.inl (xT_of (List.mem_append_right _ (List.mem_of_getElem? (i := 404) rfl)) rfl), ck_X3_find, (xT_of (List.mem_append_right _ (List.mem_of_getElem? (i := 376) rfl)) rfl), (xT_of (List.mem_append_left _ (List.mem_of_getElem? (i := 31) rfl)) rfl), TX3, 10, rfl⟩
set_option maxRecDepth 20000 in
theorem cs_X3_81 : x_CS RX3 81 kX4_closeGap 2 := ⟨Or.inr ⟨"HeatShelves", List.mem_of_getElem? (i := 35) rfl⟩, ck_X4_closeGap, (xT_of (List.mem_append_right _ (List.mem_of_getElem? (i := 406) rfl)) rfl)⟩
set_option maxRecDepth 20000 in
theorem cv_X3_85 : x_CV RX3 85 kX3_readOnce 1 3 := ⟨Or.inl (xT_of (List.mem_append_right _ (List.mem_of_getElem? (i := 429) rfl)) rfl), ck_X3_readOnce, (xT_of (List.mem_append_right _ (List.mem_of_getElem? (i := 431) rfl)) rfl), (xT_of (List.mem_append_left _ (List.mem_of_getElem? (i := 36) rfl)) rfl), TX3, 10, rfl⟩
set_option maxRecDepth 20000 in
theorem lk_X3_89 : Cond.methodLink RX3 89 Lib.Math.min.name ∈ xT := (xT_of (List.mem_append_right _ (List.mem_of_getElem? (i := 434) rfl)) rfl)
set_option maxRecDepth 20000 in
theorem cv_X3_95 : x_CV RX3 95 kX3_askBack 1 3 := ⟨Or.inl (xT_of (List.mem_append_right _ (List.mem_of_getElem? (i := 435) rfl)) rfl), ck_X3_askBack, (xT_of (List.mem_append_right _ (List.mem_of_getElem? (i := 437) rfl)) rfl), (xT_of (List.mem_append_left _ (List.mem_of_getElem? (i := 37) rfl)) rfl), TX3, 10, rfl⟩
set_option maxRecDepth 20000 in
theorem cv_X3_98 : x_CV RX3 98 kX3_moveTo 2 3 := ⟨Or.inl (xT_of (List.mem_append_right _ (List.mem_of_getElem? (i := 439) rfl)) rfl), ck_X3_moveTo, (xT_of (List.mem_append_right _ (List.mem_of_getElem? (i := 269) rfl)) rfl), (xT_of (List.mem_append_left _ (List.mem_of_getElem? (i := 18) rfl)) rfl), TX3, 10, rfl⟩
theorem lk_X4_1 : Cond.methodLink RX4 1 Lib.objectInit ∈ xT := (xT_of (List.mem_append_right _ (List.mem_of_getElem? (i := 13) rfl)) rfl)
set_option maxRecDepth 20000 in
theorem cv_X4_101 : x_CV RX4 101 kX3_placeOfRank 1 3 := ⟨Or.inr ⟨"HeatShelves", List.mem_of_getElem? (i := 31) rfl⟩, ck_X3_placeOfRank, (xT_of (List.mem_append_right _ (List.mem_of_getElem? (i := 364) rfl)) rfl), (xT_of (List.mem_append_left _ (List.mem_of_getElem? (i := 29) rfl)) rfl), TX3, 10, rfl⟩
theorem cs_X4_108 : x_CS RX4 108 kX4_at 2 := ⟨Or.inl (xT_of (List.mem_append_right _ (List.mem_of_getElem? (i := 220) rfl)) rfl), ck_X4_at, (xT_of (List.mem_append_right _ (List.mem_of_getElem? (i := 191) rfl)) rfl)⟩
set_option maxRecDepth 20000 in
theorem cv_X4_112 : x_CV RX4 112 kX3_find 1 3 := ⟨Or.inr ⟨"HeatShelves", List.mem_of_getElem? (i := 32) rfl⟩, ck_X3_find, (xT_of (List.mem_append_right _ (List.mem_of_getElem? (i := 376) rfl)) rfl), (xT_of (List.mem_append_left _ (List.mem_of_getElem? (i := 31) rfl)) rfl), TX3, 10, rfl⟩
theorem cv_X4_124 : x_CV RX4 124 kX3_wantedShelf 1 3 := ⟨Or.inr ⟨"HeatShelves", List.mem_of_getElem? (i := 33) rfl⟩, ck_X3_wantedShelf, (xT_of (List.mem_append_right _ (List.mem_of_getElem? (i := 248) rfl)) rfl), (xT_of (List.mem_append_left _ (List.mem_of_getElem? (i := 14) rfl)) rfl), TX3, 10, rfl⟩
set_option maxRecDepth 20000 in
theorem cv_X4_139 : x_CV RX4 139 kX4_whyItStays 1 4 := ⟨Or.inl (xT_of (List.mem_append_right _ (List.mem_of_getElem? (i := 379) rfl)) rfl), ck_X4_whyItStays, (xT_of (List.mem_append_right _ (List.mem_of_getElem? (i := 381) rfl)) rfl), (xT_of (List.mem_append_left _ (List.mem_of_getElem? (i := 32) rfl)) rfl), TX4, 7, rfl⟩
set_option maxRecDepth 20000 in
theorem cv_X4_148 : x_CV RX4 148 kX3_countOnShelf 1 3 := ⟨Or.inr ⟨"HeatShelves", List.mem_of_getElem? (i := 26) rfl⟩, ck_X3_countOnShelf, (xT_of (List.mem_append_right _ (List.mem_of_getElem? (i := 309) rfl)) rfl), (xT_of (List.mem_append_left _ (List.mem_of_getElem? (i := 23) rfl)) rfl), TX3, 10, rfl⟩
set_option maxRecDepth 20000 in
theorem cv_X4_151 : x_CV RX4 151 kX3_heatOnShelf 1 3 := ⟨Or.inr ⟨"HeatShelves", List.mem_of_getElem? (i := 27) rfl⟩, ck_X3_heatOnShelf, (xT_of (List.mem_append_right _ (List.mem_of_getElem? (i := 313) rfl)) rfl), (xT_of (List.mem_append_left _ (List.mem_of_getElem? (i := 24) rfl)) rfl), TX3, 10, rfl⟩
theorem cv_X4_154 : x_CV RX4 154 kX3_nightPriceOfShelf 1 3 := ⟨Or.inr ⟨"HeatShelves", List.mem_of_getElem? (i := 28) rfl⟩, ck_X3_nightPriceOfShelf, (xT_of (List.mem_append_right _ (List.mem_of_getElem? (i := 232) rfl)) rfl), (xT_of (List.mem_append_left _ (List.mem_of_getElem? (i := 11) rfl)) rfl), TX3, 10, rfl⟩
set_option maxRecDepth 20000 in
theorem cv_X4_157 : x_CV RX4 157 kX3_countPinned 0 3 := ⟨Or.inr ⟨"HeatShelves", List.mem_of_getElem? (i := 29) rfl⟩, ck_X3_countPinned, (xT_of (List.mem_append_right _ (List.mem_of_getElem? (i := 322) rfl)) rfl), (xT_of (List.mem_append_left _ (List.mem_of_getElem? (i := 25) rfl)) rfl), TX3, 10, rfl⟩
set_option maxRecDepth 20000 in
theorem cv_X4_160 : x_CV RX4 160 kX3_heatOfAll 0 3 := ⟨Or.inr ⟨"HeatShelves", List.mem_of_getElem? (i := 30) rfl⟩, ck_X3_heatOfAll, (xT_of (List.mem_append_right _ (List.mem_of_getElem? (i := 326) rfl)) rfl), (xT_of (List.mem_append_left _ (List.mem_of_getElem? (i := 26) rfl)) rfl), TX3, 10, rfl⟩
theorem cv_X4_166 : x_CV RX4 166 kX1_letPass 2 1 := ⟨Or.inr ⟨"HeatShelves", List.mem_of_getElem? (i := 13) rfl⟩, ck_X1_letPass, (xT_of (List.mem_append_right _ (List.mem_of_getElem? (i := 223) rfl)) rfl), (xT_of (List.mem_append_left _ (List.mem_of_getElem? (i := 9) rfl)) rfl), TX1, 2, rfl⟩
set_option maxRecDepth 20000 in
theorem cv_X4_170 : x_CV RX4 170 kX4_paidForNightsInWork 0 4 := ⟨Or.inl (xT_of (List.mem_append_right _ (List.mem_of_getElem? (i := 343) rfl)) rfl), ck_X4_paidForNightsInWork, (xT_of (List.mem_append_right _ (List.mem_of_getElem? (i := 345) rfl)) rfl), (xT_of (List.mem_append_left _ (List.mem_of_getElem? (i := 28) rfl)) rfl), TX4, 7, rfl⟩
set_option maxRecDepth 20000 in
theorem cv_X4_176 : x_CV RX4 176 kX4_paidWithHot 2 4 := ⟨Or.inl (xT_of (List.mem_append_right _ (List.mem_of_getElem? (i := 338) rfl)) rfl), ck_X4_paidWithHot, (xT_of (List.mem_append_right _ (List.mem_of_getElem? (i := 340) rfl)) rfl), (xT_of (List.mem_append_left _ (List.mem_of_getElem? (i := 27) rfl)) rfl), TX4, 7, rfl⟩
theorem cv_X4_183 : x_CV RX4 183 kX0_record 1 0 := ⟨Or.inr ⟨"HeatShelves", List.mem_of_getElem? (i := 11) rfl⟩, ck_X0_record, (xT_of (List.mem_append_right _ (List.mem_of_getElem? (i := 205) rfl)) rfl), (xT_of (List.mem_append_left _ (List.mem_of_getElem? (i := 6) rfl)) rfl), TX0, 3, rfl⟩
set_option maxRecDepth 20000 in
theorem cs_X4_201 : x_CS RX4 201 kX4_put 3 := ⟨Or.inl (xT_of (List.mem_append_right _ (List.mem_of_getElem? (i := 342) rfl)) rfl), ck_X4_put, (xT_of (List.mem_append_right _ (List.mem_of_getElem? (i := 194) rfl)) rfl)⟩
theorem lk_X4_205 : Cond.methodLink RX4 205 Lib.Math.min.name ∈ xT := (xT_of (List.mem_append_right _ (List.mem_of_getElem? (i := 168) rfl)) rfl)
theorem lk_X4_210 : Cond.methodLink RX4 210 arraycopyName ∈ xT := (xT_of (List.mem_append_right _ (List.mem_of_getElem? (i := 171) rfl)) rfl)
set_option maxRecDepth 20000 in
theorem lk_X4_216 : Cond.methodLink RX4 216 Lib.Math.max.name ∈ xT := (xT_of (List.mem_append_right _ (List.mem_of_getElem? (i := 408) rfl)) rfl)
theorem cc_X4_28 : x_CC RX4 28 kX0_init 0 := ⟨Or.inr ⟨"HeatShelves", List.mem_of_getElem? (i := 1) rfl⟩, ck_X0_init, (xT_of (List.mem_append_right _ (List.mem_of_getElem? (i := 75) rfl)) rfl), rfl, rfl⟩
theorem cc_X4_35 : x_CC RX4 35 kX1_init 0 := ⟨Or.inr ⟨"HeatShelves", List.mem_of_getElem? (i := 3) rfl⟩, ck_X1_init, (xT_of (List.mem_append_right _ (List.mem_of_getElem? (i := 95) rfl)) rfl), rfl, rfl⟩
theorem cc_X4_42 : x_CC RX4 42 kX2_init 0 := ⟨Or.inr ⟨"HeatShelves", List.mem_of_getElem? (i := 4) rfl⟩, ck_X2_init, (xT_of (List.mem_append_right _ (List.mem_of_getElem? (i := 109) rfl)) rfl), rfl, rfl⟩
theorem cv_X4_47 : x_CV RX4 47 kX3_copyFrom 1 3 := ⟨Or.inr ⟨"HeatShelves", List.mem_of_getElem? (i := 5) rfl⟩, ck_X3_copyFrom, (xT_of (List.mem_append_right _ (List.mem_of_getElem? (i := 163) rfl)) rfl), (xT_of (List.mem_append_left _ (List.mem_of_getElem? (i := 0) rfl)) rfl), TX3, 10, rfl⟩
theorem cv_X4_51 : x_CV RX4 51 kX3_addBlock 1 3 := ⟨Or.inr ⟨"HeatShelves", List.mem_of_getElem? (i := 7) rfl⟩, ck_X3_addBlock, (xT_of (List.mem_append_right _ (List.mem_of_getElem? (i := 176) rfl)) rfl), (xT_of (List.mem_append_left _ (List.mem_of_getElem? (i := 1) rfl)) rfl), TX3, 10, rfl⟩
theorem cv_X4_55 : x_CV RX4 55 kX4_settle 1 4 := ⟨Or.inl (xT_of (List.mem_append_right _ (List.mem_of_getElem? (i := 199) rfl)) rfl), ck_X4_settle, (xT_of (List.mem_append_right _ (List.mem_of_getElem? (i := 201) rfl)) rfl), (xT_of (List.mem_append_left _ (List.mem_of_getElem? (i := 5) rfl)) rfl), TX4, 7, rfl⟩
set_option maxRecDepth 20000 in
theorem cv_X4_58 : x_CV RX4 58 kX3_dropBlock 1 3 := ⟨Or.inr ⟨"HeatShelves", List.mem_of_getElem? (i := 34) rfl⟩, ck_X3_dropBlock, (xT_of (List.mem_append_right _ (List.mem_of_getElem? (i := 402) rfl)) rfl), (xT_of (List.mem_append_left _ (List.mem_of_getElem? (i := 33) rfl)) rfl), TX3, 10, rfl⟩
set_option maxRecDepth 20000 in
theorem cv_X4_61 : x_CV RX4 61 kX3_readBlock 2 3 := ⟨Or.inr ⟨"HeatShelves", List.mem_of_getElem? (i := 37) rfl⟩, ck_X3_readBlock, (xT_of (List.mem_append_right _ (List.mem_of_getElem? (i := 427) rfl)) rfl), (xT_of (List.mem_append_left _ (List.mem_of_getElem? (i := 35) rfl)) rfl), TX3, 10, rfl⟩
set_option maxRecDepth 20000 in
theorem cv_X4_65 : x_CV RX4 65 kX3_turnPin 2 3 := ⟨Or.inr ⟨"HeatShelves", List.mem_of_getElem? (i := 36) rfl⟩, ck_X3_turnPin, (xT_of (List.mem_append_right _ (List.mem_of_getElem? (i := 415) rfl)) rfl), (xT_of (List.mem_append_left _ (List.mem_of_getElem? (i := 34) rfl)) rfl), TX3, 10, rfl⟩
theorem cv_X4_69 : x_CV RX4 69 kX4_passInWork 1 4 := ⟨Or.inl (xT_of (List.mem_append_right _ (List.mem_of_getElem? (i := 216) rfl)) rfl), ck_X4_passInWork, (xT_of (List.mem_append_right _ (List.mem_of_getElem? (i := 218) rfl)) rfl), (xT_of (List.mem_append_left _ (List.mem_of_getElem? (i := 8) rfl)) rfl), TX4, 7, rfl⟩
theorem cv_X4_72 : x_CV RX4 72 kX3_changeSetting 2 3 := ⟨Or.inr ⟨"HeatShelves", List.mem_of_getElem? (i := 23) rfl⟩, ck_X3_changeSetting, (xT_of (List.mem_append_right _ (List.mem_of_getElem? (i := 282) rfl)) rfl), (xT_of (List.mem_append_left _ (List.mem_of_getElem? (i := 20) rfl)) rfl), TX3, 10, rfl⟩
theorem cc_X4_9 : x_CC RX4 9 kX3_init 0 := ⟨Or.inr ⟨"HeatShelves", List.mem_of_getElem? (i := 0) rfl⟩, ck_X3_init, (xT_of (List.mem_append_right _ (List.mem_of_getElem? (i := 19) rfl)) rfl), rfl, rfl⟩
theorem cv_X4_93 : x_CV RX4 93 kX0_takeLatest 1 0 := ⟨Or.inr ⟨"HeatShelves", List.mem_of_getElem? (i := 24) rfl⟩, ck_X0_takeLatest, (xT_of (List.mem_append_right _ (List.mem_of_getElem? (i := 296) rfl)) rfl), (xT_of (List.mem_append_left _ (List.mem_of_getElem? (i := 22) rfl)) rfl), TX0, 3, rfl⟩
theorem cv_X4_98 : x_CV RX4 98 kX3_countBlocks 0 3 := ⟨Or.inr ⟨"HeatShelves", List.mem_of_getElem? (i := 25) rfl⟩, ck_X3_countBlocks, (xT_of (List.mem_append_right _ (List.mem_of_getElem? (i := 188) rfl)) rfl), (xT_of (List.mem_append_left _ (List.mem_of_getElem? (i := 4) rfl)) rfl), TX3, 10, rfl⟩
set_option maxRecDepth 20000 in
theorem lw_L_7 : Cond.constant RL 7 (2147483647 : Int32) ∈ xT := (xT_of (List.mem_append_right _ (List.mem_of_getElem? (i := 353) rfl)) rfl)
set_option maxRecDepth 20000 in
theorem lw_L_14 : Cond.constant RL 14 (100000 : Int32) ∈ xT := (xT_of (List.mem_append_right _ (List.mem_of_getElem? (i := 357) rfl)) rfl)
set_option maxRecDepth 20000 in
theorem lw_X3_88 : Cond.constant RX3 88 (99999 : Int32) ∈ xT := (xT_of (List.mem_append_right _ (List.mem_of_getElem? (i := 433) rfl)) rfl)
set_option maxRecDepth 20000 in
theorem lw_L_38 : Cond.constant RL 38 (99999 : Int32) ∈ xT := (xT_of (List.mem_append_right _ (List.mem_of_getElem? (i := 440) rfl)) rfl)
theorem gf_X4_10 : x_GF RX4 10 4 0 := ⟨RX4, TX4, 7, rfl, rfl, by decide, inX4, Or.inl (xT_of (List.mem_append_right _ (List.mem_of_getElem? (i := 135) rfl)) rfl)⟩
theorem pf_X4_10 : x_PF RX4 10 4 0 (.object "HeatShelves$State") true := ⟨RX4, TX4, 7, tyX4, rfl, rfl, by decide, inX4, (xT_of (List.mem_append_right _ (List.mem_of_getElem? (i := 135) rfl)) rfl), tyX4_ok, nmX4, rfl, rfl, rfl⟩
theorem gf_X4_16 : x_GF RX4 16 4 1 := ⟨RX4, TX4, 7, rfl, rfl, by decide, inX4, Or.inl (xT_of (List.mem_append_right _ (List.mem_of_getElem? (i := 136) rfl)) rfl)⟩
theorem pf_X4_16 : x_PF RX4 16 4 1 (.object "HeatShelves$State") true := ⟨RX4, TX4, 7, tyX4, rfl, rfl, by decide, inX4, (xT_of (List.mem_append_right _ (List.mem_of_getElem? (i := 136) rfl)) rfl), tyX4_ok, nmX4, rfl, rfl, rfl⟩
theorem gf_X4_19 : x_GF RX4 19 4 2 := ⟨RX4, TX4, 7, rfl, rfl, by decide, inX4, Or.inl (xT_of (List.mem_append_right _ (List.mem_of_getElem? (i := 137) rfl)) rfl)⟩
theorem pf_X4_19 : x_PF RX4 19 4 2 (.object "HeatShelves$State") true := ⟨RX4, TX4, 7, tyX4, rfl, rfl, by decide, inX4, (xT_of (List.mem_append_right _ (List.mem_of_getElem? (i := 137) rfl)) rfl), tyX4_ok, nmX4, rfl, rfl, rfl⟩
theorem gf_X4_22 : x_GF RX4 22 4 3 := ⟨RX4, TX4, 7, rfl, rfl, by decide, inX4, Or.inl (xT_of (List.mem_append_right _ (List.mem_of_getElem? (i := 138) rfl)) rfl)⟩
theorem pf_X4_22 : x_PF RX4 22 4 3 .boolean false := ⟨RX4, TX4, 7, tyX4, rfl, rfl, by decide, inX4, (xT_of (List.mem_append_right _ (List.mem_of_getElem? (i := 138) rfl)) rfl), tyX4_ok, nmX4, rfl, rfl, rfl⟩
theorem gf_X4_29 : x_GF RX4 29 4 4 := ⟨RX4, TX4, 7, rfl, rfl, by decide, inX4, Or.inl (xT_of (List.mem_append_right _ (List.mem_of_getElem? (i := 139) rfl)) rfl)⟩
theorem pf_X4_29 : x_PF RX4 29 4 4 (.object "HeatShelves$History") true := ⟨RX4, TX4, 7, tyX4, rfl, rfl, by decide, inX4, (xT_of (List.mem_append_right _ (List.mem_of_getElem? (i := 139) rfl)) rfl), tyX4_ok, nmX4, rfl, rfl, rfl⟩
theorem gf_X4_36 : x_GF RX4 36 4 5 := ⟨RX4, TX4, 7, rfl, rfl, by decide, inX4, Or.inl (xT_of (List.mem_append_right _ (List.mem_of_getElem? (i := 140) rfl)) rfl)⟩
theorem pf_X4_36 : x_PF RX4 36 4 5 (.object "HeatShelves$Night") true := ⟨RX4, TX4, 7, tyX4, rfl, rfl, by decide, inX4, (xT_of (List.mem_append_right _ (List.mem_of_getElem? (i := 140) rfl)) rfl), tyX4_ok, nmX4, rfl, rfl, rfl⟩
theorem gf_X4_43 : x_GF RX4 43 4 6 := ⟨RX4, TX4, 7, rfl, rfl, by decide, inX4, Or.inl (xT_of (List.mem_append_right _ (List.mem_of_getElem? (i := 141) rfl)) rfl)⟩
theorem pf_X4_43 : x_PF RX4 43 4 6 (.object "HeatShelves$Orders") true := ⟨RX4, TX4, 7, tyX4, rfl, rfl, by decide, inX4, (xT_of (List.mem_append_right _ (List.mem_of_getElem? (i := 141) rfl)) rfl), tyX4_ok, nmX4, rfl, rfl, rfl⟩
theorem gf_X4_97 : x_GF RX4 97 0 2 := ⟨RX0, TX0, 3, rfl, rfl, by decide, inX0, Or.inr ⟨"HeatShelves", List.mem_of_getElem? (i := 17) rfl⟩⟩
theorem gf_X4_104 : x_GF RX4 104 3 2 := ⟨RX3, TX3, 10, rfl, rfl, by decide, inX3, Or.inr ⟨"HeatShelves", List.mem_of_getElem? (i := 4) rfl⟩⟩
theorem gf_X4_115 : x_GF RX4 115 3 3 := ⟨RX3, TX3, 10, rfl, rfl, by decide, inX3, Or.inr ⟨"HeatShelves", List.mem_of_getElem? (i := 6) rfl⟩⟩
theorem gf_X4_118 : x_GF RX4 118 3 4 := ⟨RX3, TX3, 10, rfl, rfl, by decide, inX3, Or.inr ⟨"HeatShelves", List.mem_of_getElem? (i := 8) rfl⟩⟩
theorem gf_X4_121 : x_GF RX4 121 3 5 := ⟨RX3, TX3, 10, rfl, rfl, by decide, inX3, Or.inr ⟨"HeatShelves", List.mem_of_getElem? (i := 10) rfl⟩⟩
theorem gf_X4_127 : x_GF RX4 127 3 6 := ⟨RX3, TX3, 10, rfl, rfl, by decide, inX3, Or.inr ⟨"HeatShelves", List.mem_of_getElem? (i := 12) rfl⟩⟩
theorem gf_X4_130 : x_GF RX4 130 3 7 := ⟨RX3, TX3, 10, rfl, rfl, by decide, inX3, Or.inr ⟨"HeatShelves", List.mem_of_getElem? (i := 14) rfl⟩⟩
theorem gf_X4_133 : x_GF RX4 133 3 8 := ⟨RX3, TX3, 10, rfl, rfl, by decide, inX3, Or.inr ⟨"HeatShelves", List.mem_of_getElem? (i := 15) rfl⟩⟩
theorem gf_X4_136 : x_GF RX4 136 3 9 := ⟨RX3, TX3, 10, rfl, rfl, by decide, inX3, Or.inr ⟨"HeatShelves", List.mem_of_getElem? (i := 16) rfl⟩⟩
theorem gf_X4_142 : x_GF RX4 142 3 0 := ⟨RX3, TX3, 10, rfl, rfl, by decide, inX3, Or.inr ⟨"HeatShelves", List.mem_of_getElem? (i := 2) rfl⟩⟩
theorem gf_X4_145 : x_GF RX4 145 3 1 := ⟨RX3, TX3, 10, rfl, rfl, by decide, inX3, Or.inr ⟨"HeatShelves", List.mem_of_getElem? (i := 3) rfl⟩⟩
theorem gf_X4_163 : x_GF RX4 163 2 1 := ⟨RX2, TX2, 7, rfl, rfl, by decide, inX2, Or.inr ⟨"HeatShelves", List.mem_of_getElem? (i := 19) rfl⟩⟩
set_option maxRecDepth 20000 in
theorem gs_X4_173 : x_GS RX4 173 "GREATEST_VALUES" := Or.inl (xT_of (List.mem_append_right _ (List.mem_of_getElem? (i := 337) rfl)) rfl)
theorem gf_X4_198 : x_GF RX4 198 1 1 := ⟨RX1, TX1, 2, rfl, rfl, by decide, inX1, Or.inr ⟨"HeatShelves", List.mem_of_getElem? (i := 18) rfl⟩⟩
theorem gf_X0_11 : x_GF RX0 11 0 0 := ⟨RX0, TX0, 3, rfl, rfl, by decide, inX0, Or.inl (xT_of (List.mem_append_right _ (List.mem_of_getElem? (i := 81) rfl)) rfl)⟩
theorem pf_X0_11 : x_PF RX0 11 0 0 (.array (.object "HeatShelves$State")) true := ⟨RX0, TX0, 3, tyX0, rfl, rfl, by decide, inX0, (xT_of (List.mem_append_right _ (List.mem_of_getElem? (i := 81) rfl)) rfl), tyX0_ok, nmX0, rfl, rfl, rfl⟩
theorem gf_X0_17 : x_GF RX0 17 0 1 := ⟨RX0, TX0, 3, rfl, rfl, by decide, inX0, Or.inl (xT_of (List.mem_append_right _ (List.mem_of_getElem? (i := 82) rfl)) rfl)⟩
theorem pf_X0_17 : x_PF RX0 17 0 1 .int false := ⟨RX0, TX0, 3, tyX0, rfl, rfl, by decide, inX0, (xT_of (List.mem_append_right _ (List.mem_of_getElem? (i := 82) rfl)) rfl), tyX0_ok, nmX0, rfl, rfl, rfl⟩
theorem gf_X0_21 : x_GF RX0 21 0 2 := ⟨RX0, TX0, 3, rfl, rfl, by decide, inX0, Or.inl (xT_of (List.mem_append_right _ (List.mem_of_getElem? (i := 83) rfl)) rfl)⟩
theorem pf_X0_21 : x_PF RX0 21 0 2 .int false := ⟨RX0, TX0, 3, tyX0, rfl, rfl, by decide, inX0, (xT_of (List.mem_append_right _ (List.mem_of_getElem? (i := 83) rfl)) rfl), tyX0_ok, nmX0, rfl, rfl, rfl⟩
theorem gf_X1_9 : x_GF RX1 9 1 0 := ⟨RX1, TX1, 2, rfl, rfl, by decide, inX1, Or.inl (xT_of (List.mem_append_right _ (List.mem_of_getElem? (i := 98) rfl)) rfl)⟩
theorem pf_X1_9 : x_PF RX1 9 1 0 (.array .int) true := ⟨RX1, TX1, 2, tyX1, rfl, rfl, by decide, inX1, (xT_of (List.mem_append_right _ (List.mem_of_getElem? (i := 98) rfl)) rfl), tyX1_ok, nmX1, rfl, rfl, rfl⟩
theorem gf_X1_15 : x_GF RX1 15 1 1 := ⟨RX1, TX1, 2, rfl, rfl, by decide, inX1, Or.inl (xT_of (List.mem_append_right _ (List.mem_of_getElem? (i := 99) rfl)) rfl)⟩
theorem pf_X1_15 : x_PF RX1 15 1 1 (.array .int) true := ⟨RX1, TX1, 2, tyX1, rfl, rfl, by decide, inX1, (xT_of (List.mem_append_right _ (List.mem_of_getElem? (i := 99) rfl)) rfl), tyX1_ok, nmX1, rfl, rfl, rfl⟩
theorem gf_X1_18 : x_GF RX1 18 3 0 := ⟨RX3, TX3, 10, rfl, rfl, by decide, inX3, Or.inr ⟨"HeatShelves", List.mem_of_getElem? (i := 1) rfl⟩⟩
theorem gf_X1_56 : x_GF RX1 56 3 6 := ⟨RX3, TX3, 10, rfl, rfl, by decide, inX3, Or.inr ⟨"HeatShelves", List.mem_of_getElem? (i := 11) rfl⟩⟩
theorem gf_X1_59 : x_GF RX1 59 3 7 := ⟨RX3, TX3, 10, rfl, rfl, by decide, inX3, Or.inr ⟨"HeatShelves", List.mem_of_getElem? (i := 13) rfl⟩⟩
theorem gf_X1_62 : x_GF RX1 62 3 5 := ⟨RX3, TX3, 10, rfl, rfl, by decide, inX3, Or.inr ⟨"HeatShelves", List.mem_of_getElem? (i := 9) rfl⟩⟩
theorem gf_X1_81 : x_GF RX1 81 3 4 := ⟨RX3, TX3, 10, rfl, rfl, by decide, inX3, Or.inr ⟨"HeatShelves", List.mem_of_getElem? (i := 7) rfl⟩⟩
theorem gf_X1_84 : x_GF RX1 84 3 3 := ⟨RX3, TX3, 10, rfl, rfl, by decide, inX3, Or.inr ⟨"HeatShelves", List.mem_of_getElem? (i := 5) rfl⟩⟩
theorem gf_X2_9 : x_GF RX2 9 2 0 := ⟨RX2, TX2, 7, rfl, rfl, by decide, inX2, Or.inl (xT_of (List.mem_append_right _ (List.mem_of_getElem? (i := 112) rfl)) rfl)⟩
theorem pf_X2_9 : x_PF RX2 9 2 0 (.array .int) true := ⟨RX2, TX2, 7, tyX2, rfl, rfl, by decide, inX2, (xT_of (List.mem_append_right _ (List.mem_of_getElem? (i := 112) rfl)) rfl), tyX2_ok, nmX2, rfl, rfl, rfl⟩
theorem gf_X2_15 : x_GF RX2 15 2 1 := ⟨RX2, TX2, 7, rfl, rfl, by decide, inX2, Or.inl (xT_of (List.mem_append_right _ (List.mem_of_getElem? (i := 113) rfl)) rfl)⟩
theorem pf_X2_15 : x_PF RX2 15 2 1 .int false := ⟨RX2, TX2, 7, tyX2, rfl, rfl, by decide, inX2, (xT_of (List.mem_append_right _ (List.mem_of_getElem? (i := 113) rfl)) rfl), tyX2_ok, nmX2, rfl, rfl, rfl⟩
theorem gf_X2_19 : x_GF RX2 19 2 2 := ⟨RX2, TX2, 7, rfl, rfl, by decide, inX2, Or.inl (xT_of (List.mem_append_right _ (List.mem_of_getElem? (i := 115) rfl)) rfl)⟩
theorem pf_X2_19 : x_PF RX2 19 2 2 (.array .int) true := ⟨RX2, TX2, 7, tyX2, rfl, rfl, by decide, inX2, (xT_of (List.mem_append_right _ (List.mem_of_getElem? (i := 115) rfl)) rfl), tyX2_ok, nmX2, rfl, rfl, rfl⟩
theorem gf_X2_22 : x_GF RX2 22 2 3 := ⟨RX2, TX2, 7, rfl, rfl, by decide, inX2, Or.inl (xT_of (List.mem_append_right _ (List.mem_of_getElem? (i := 116) rfl)) rfl)⟩
theorem pf_X2_22 : x_PF RX2 22 2 3 (.array .int) true := ⟨RX2, TX2, 7, tyX2, rfl, rfl, by decide, inX2, (xT_of (List.mem_append_right _ (List.mem_of_getElem? (i := 116) rfl)) rfl), tyX2_ok, nmX2, rfl, rfl, rfl⟩
theorem gf_X2_25 : x_GF RX2 25 2 4 := ⟨RX2, TX2, 7, rfl, rfl, by decide, inX2, Or.inl (xT_of (List.mem_append_right _ (List.mem_of_getElem? (i := 117) rfl)) rfl)⟩
theorem pf_X2_25 : x_PF RX2 25 2 4 (.array .int) true := ⟨RX2, TX2, 7, tyX2, rfl, rfl, by decide, inX2, (xT_of (List.mem_append_right _ (List.mem_of_getElem? (i := 117) rfl)) rfl), tyX2_ok, nmX2, rfl, rfl, rfl⟩
theorem gf_X2_28 : x_GF RX2 28 2 5 := ⟨RX2, TX2, 7, rfl, rfl, by decide, inX2, Or.inl (xT_of (List.mem_append_right _ (List.mem_of_getElem? (i := 118) rfl)) rfl)⟩
theorem pf_X2_28 : x_PF RX2 28 2 5 .int false := ⟨RX2, TX2, 7, tyX2, rfl, rfl, by decide, inX2, (xT_of (List.mem_append_right _ (List.mem_of_getElem? (i := 118) rfl)) rfl), tyX2_ok, nmX2, rfl, rfl, rfl⟩
theorem gf_X2_31 : x_GF RX2 31 2 6 := ⟨RX2, TX2, 7, rfl, rfl, by decide, inX2, Or.inl (xT_of (List.mem_append_right _ (List.mem_of_getElem? (i := 119) rfl)) rfl)⟩
theorem pf_X2_31 : x_PF RX2 31 2 6 .int false := ⟨RX2, TX2, 7, tyX2, rfl, rfl, by decide, inX2, (xT_of (List.mem_append_right _ (List.mem_of_getElem? (i := 119) rfl)) rfl), tyX2_ok, nmX2, rfl, rfl, rfl⟩
theorem gf_X3_9 : x_GF RX3 9 3 0 := ⟨RX3, TX3, 10, rfl, rfl, by decide, inX3, Or.inl (xT_of (List.mem_append_right _ (List.mem_of_getElem? (i := 24) rfl)) rfl)⟩
theorem pf_X3_9 : x_PF RX3 9 3 0 (.array .int) true := ⟨RX3, TX3, 10, tyX3, rfl, rfl, by decide, inX3, (xT_of (List.mem_append_right _ (List.mem_of_getElem? (i := 24) rfl)) rfl), tyX3_ok, nmX3, rfl, rfl, rfl⟩
theorem gf_X3_15 : x_GF RX3 15 3 1 := ⟨RX3, TX3, 10, rfl, rfl, by decide, inX3, Or.inl (xT_of (List.mem_append_right _ (List.mem_of_getElem? (i := 27) rfl)) rfl)⟩
theorem pf_X3_15 : x_PF RX3 15 3 1 (.array .int) true := ⟨RX3, TX3, 10, tyX3, rfl, rfl, by decide, inX3, (xT_of (List.mem_append_right _ (List.mem_of_getElem? (i := 27) rfl)) rfl), tyX3_ok, nmX3, rfl, rfl, rfl⟩
theorem gf_X3_18 : x_GF RX3 18 3 2 := ⟨RX3, TX3, 10, rfl, rfl, by decide, inX3, Or.inl (xT_of (List.mem_append_right _ (List.mem_of_getElem? (i := 29) rfl)) rfl)⟩
theorem pf_X3_18 : x_PF RX3 18 3 2 (.array .int) true := ⟨RX3, TX3, 10, tyX3, rfl, rfl, by decide, inX3, (xT_of (List.mem_append_right _ (List.mem_of_getElem? (i := 29) rfl)) rfl), tyX3_ok, nmX3, rfl, rfl, rfl⟩
theorem gf_X3_21 : x_GF RX3 21 3 3 := ⟨RX3, TX3, 10, rfl, rfl, by decide, inX3, Or.inl (xT_of (List.mem_append_right _ (List.mem_of_getElem? (i := 31) rfl)) rfl)⟩
theorem pf_X3_21 : x_PF RX3 21 3 3 (.array .int) true := ⟨RX3, TX3, 10, tyX3, rfl, rfl, by decide, inX3, (xT_of (List.mem_append_right _ (List.mem_of_getElem? (i := 31) rfl)) rfl), tyX3_ok, nmX3, rfl, rfl, rfl⟩
theorem gf_X3_24 : x_GF RX3 24 3 4 := ⟨RX3, TX3, 10, rfl, rfl, by decide, inX3, Or.inl (xT_of (List.mem_append_right _ (List.mem_of_getElem? (i := 34) rfl)) rfl)⟩
theorem pf_X3_24 : x_PF RX3 24 3 4 (.array .int) true := ⟨RX3, TX3, 10, tyX3, rfl, rfl, by decide, inX3, (xT_of (List.mem_append_right _ (List.mem_of_getElem? (i := 34) rfl)) rfl), tyX3_ok, nmX3, rfl, rfl, rfl⟩
theorem gf_X3_27 : x_GF RX3 27 3 5 := ⟨RX3, TX3, 10, rfl, rfl, by decide, inX3, Or.inl (xT_of (List.mem_append_right _ (List.mem_of_getElem? (i := 37) rfl)) rfl)⟩
theorem pf_X3_27 : x_PF RX3 27 3 5 (.array .int) true := ⟨RX3, TX3, 10, tyX3, rfl, rfl, by decide, inX3, (xT_of (List.mem_append_right _ (List.mem_of_getElem? (i := 37) rfl)) rfl), tyX3_ok, nmX3, rfl, rfl, rfl⟩
theorem gf_X3_30 : x_GF RX3 30 3 6 := ⟨RX3, TX3, 10, rfl, rfl, by decide, inX3, Or.inl (xT_of (List.mem_append_right _ (List.mem_of_getElem? (i := 40) rfl)) rfl)⟩
theorem pf_X3_30 : x_PF RX3 30 3 6 (.array .int) true := ⟨RX3, TX3, 10, tyX3, rfl, rfl, by decide, inX3, (xT_of (List.mem_append_right _ (List.mem_of_getElem? (i := 40) rfl)) rfl), tyX3_ok, nmX3, rfl, rfl, rfl⟩
theorem gf_X3_33 : x_GF RX3 33 3 7 := ⟨RX3, TX3, 10, rfl, rfl, by decide, inX3, Or.inl (xT_of (List.mem_append_right _ (List.mem_of_getElem? (i := 43) rfl)) rfl)⟩
theorem pf_X3_33 : x_PF RX3 33 3 7 (.array .int) true := ⟨RX3, TX3, 10, tyX3, rfl, rfl, by decide, inX3, (xT_of (List.mem_append_right _ (List.mem_of_getElem? (i := 43) rfl)) rfl), tyX3_ok, nmX3, rfl, rfl, rfl⟩
theorem gf_X3_36 : x_GF RX3 36 3 8 := ⟨RX3, TX3, 10, rfl, rfl, by decide, inX3, Or.inl (xT_of (List.mem_append_right _ (List.mem_of_getElem? (i := 46) rfl)) rfl)⟩
theorem pf_X3_36 : x_PF RX3 36 3 8 (.array .int) true := ⟨RX3, TX3, 10, tyX3, rfl, rfl, by decide, inX3, (xT_of (List.mem_append_right _ (List.mem_of_getElem? (i := 46) rfl)) rfl), tyX3_ok, nmX3, rfl, rfl, rfl⟩
theorem gf_X3_39 : x_GF RX3 39 3 9 := ⟨RX3, TX3, 10, rfl, rfl, by decide, inX3, Or.inl (xT_of (List.mem_append_right _ (List.mem_of_getElem? (i := 48) rfl)) rfl)⟩
theorem pf_X3_39 : x_PF RX3 39 3 9 (.array .int) true := ⟨RX3, TX3, 10, tyX3, rfl, rfl, by decide, inX3, (xT_of (List.mem_append_right _ (List.mem_of_getElem? (i := 48) rfl)) rfl), tyX3_ok, nmX3, rfl, rfl, rfl⟩
theorem gs_X3_42 : x_GS RX3 42 "FIRST_VALUES" := Or.inr ⟨"HeatShelves", List.mem_of_getElem? (i := 0) rfl⟩
theorem gs_X3_115 : x_GS RX3 115 "GREATEST_VALUES" := Or.inr ⟨"HeatShelves", List.mem_of_getElem? (i := 20) rfl⟩
