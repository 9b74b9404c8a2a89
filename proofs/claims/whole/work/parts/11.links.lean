/-! the methods, and what their instructions link -/
theorem inX0 : ∀ w ∈ u_ws RX0 TX0 3, w ∈ xT := fun w h => xT_of ((by decide +kernel : ∀ w ∈ u_ws RX0 TX0 3, w ∈ lw_tbl) w h) (List.all_eq_true.mp (by decide +kernel : (u_ws RX0 TX0 3).all goodWord = true) w h)
theorem inX1 : ∀ w ∈ u_ws RX1 TX1 2, w ∈ xT := fun w h => xT_of ((by decide +kernel : ∀ w ∈ u_ws RX1 TX1 2, w ∈ lw_tbl) w h) (List.all_eq_true.mp (by decide +kernel : (u_ws RX1 TX1 2).all goodWord = true) w h)
theorem inX2 : ∀ w ∈ u_ws RX2 TX2 7, w ∈ xT := fun w h => xT_of ((by decide +kernel : ∀ w ∈ u_ws RX2 TX2 7, w ∈ lw_tbl) w h) (List.all_eq_true.mp (by decide +kernel : (u_ws RX2 TX2 7).all goodWord = true) w h)
theorem inX3 : ∀ w ∈ u_ws RX3 TX3 10, w ∈ xT := fun w h => xT_of ((by decide +kernel : ∀ w ∈ u_ws RX3 TX3 10, w ∈ lw_tbl) w h) (List.all_eq_true.mp (by decide +kernel : (u_ws RX3 TX3 10).all goodWord = true) w h)
theorem inX4 : ∀ w ∈ u_ws RX4 TX4 7, w ∈ xT := fun w h => xT_of ((by decide +kernel : ∀ w ∈ u_ws RX4 TX4 7, w ∈ lw_tbl) w h) (List.all_eq_true.mp (by decide +kernel : (u_ws RX4 TX4 7).all goodWord = true) w h)
theorem inX5 : ∀ w ∈ u_ws RX5 TX5 8, w ∈ xT := fun w h => xT_of ((by decide +kernel : ∀ w ∈ u_ws RX5 TX5 8, w ∈ lw_tbl) w h) (List.all_eq_true.mp (by decide +kernel : (u_ws RX5 TX5 8).all goodWord = true) w h)
abbrev kX0_init : xK := (yX0_init, cX0_init, 2, none)
abbrev kX0_stateAt : xK := (yX0_stateAt, cX0_stateAt, 3, (some (.object "HeatShelves$State")))
abbrev kX0_record : xK := (yX0_record, cX0_record, 3, none)
abbrev kX0_takeLatest : xK := (yX0_takeLatest, cX0_takeLatest, 3, (some .boolean))
abbrev kX1_init : xK := (yX1_init, cX1_init, 1, none)
abbrev kX1_letPass : xK := (yX1_letPass, cX1_letPass, 7, (some .int))
abbrev kX1_findWhoMayMove : xK := (yX1_findWhoMayMove, cX1_findWhoMayMove, 5, none)
abbrev kX1_moveInTurn : xK := (yX1_moveInTurn, cX1_moveInTurn, 8, (some .int))
abbrev kX1_nextInTurn : xK := (yX1_nextInTurn, cX1_nextInTurn, 9, (some .int))
abbrev kX1_shelfToMoveTo : xK := (yX1_shelfToMoveTo, cX1_shelfToMoveTo, 6, (some .int))
abbrev kX1_promiseIfDeep : xK := (yX1_promiseIfDeep, cX1_promiseIfDeep, 3, none)
abbrev kX2_init : xK := (yX2_init, cX2_init, 1, none)
abbrev kX2_append : xK := (yX2_append, cX2_append, 2, (some .int))
abbrev kX2_empty : xK := (yX2_empty, cX2_empty, 2, (some .int))
abbrev kX2_readAll : xK := (yX2_readAll, cX2_readAll, 2, (some .int))
abbrev kX2_readOrder : xK := (yX2_readOrder, cX2_readOrder, 4, (some .boolean))
abbrev kX2_isKind : xK := (yX2_isKind, cX2_isKind, 2, (some .boolean))
abbrev kX2_leastOf : xK := (yX2_leastOf, cX2_leastOf, 2, (some .int))
abbrev kX2_greatestOf : xK := (yX2_greatestOf, cX2_greatestOf, 2, (some .int))
abbrev kX2_readNumber : xK := (yX2_readNumber, cX2_readNumber, 5, (some .int))
abbrev kX2_digitHere : xK := (yX2_digitHere, cX2_digitHere, 2, (some .int))
abbrev kX2_signHere : xK := (yX2_signHere, cX2_signHere, 1, (some .int))
abbrev kX3_init : xK := (yX3_init, cX3_init, 2, none)
abbrev kX3_copyFrom : xK := (yX3_copyFrom, cX3_copyFrom, 2, none)
abbrev kX3_countBlocks : xK := (yX3_countBlocks, cX3_countBlocks, 1, (some .int))
abbrev kX3_find : xK := (yX3_find, cX3_find, 4, (some .int))
abbrev kX3_placeOfRank : xK := (yX3_placeOfRank, cX3_placeOfRank, 4, (some .int))
abbrev kX3_countHotter : xK := (yX3_countHotter, cX3_countHotter, 7, (some .int))
abbrev kX3_wantedShelf : xK := (yX3_wantedShelf, cX3_wantedShelf, 3, (some .int))
abbrev kX3_hasRoom : xK := (yX3_hasRoom, cX3_hasRoom, 3, (some .boolean))
abbrev kX3_countOnShelf : xK := (yX3_countOnShelf, cX3_countOnShelf, 5, (some .int))
abbrev kX3_heatOnShelf : xK := (yX3_heatOnShelf, cX3_heatOnShelf, 5, (some .int))
abbrev kX3_heatOfAll : xK := (yX3_heatOfAll, cX3_heatOfAll, 3, (some .int))
abbrev kX3_nightPriceOfShelf : xK := (yX3_nightPriceOfShelf, cX3_nightPriceOfShelf, 2, (some .int))
abbrev kX3_countPinned : xK := (yX3_countPinned, cX3_countPinned, 4, (some .int))
abbrev kX3_addBlock : xK := (yX3_addBlock, cX3_addBlock, 5, (some .int))
abbrev kX3_fastestWithRoom : xK := (yX3_fastestWithRoom, cX3_fastestWithRoom, 3, (some .int))
abbrev kX3_dropBlock : xK := (yX3_dropBlock, cX3_dropBlock, 4, (some .int))
abbrev kX3_readBlock : xK := (yX3_readBlock, cX3_readBlock, 6, (some .int))
abbrev kX3_readOnce : xK := (yX3_readOnce, cX3_readOnce, 4, (some .int))
abbrev kX3_askBack : xK := (yX3_askBack, cX3_askBack, 4, (some .int))
abbrev kX3_moveTo : xK := (yX3_moveTo, cX3_moveTo, 4, none)
abbrev kX3_payNight : xK := (yX3_payNight, cX3_payNight, 2, none)
abbrev kX3_fade : xK := (yX3_fade, cX3_fade, 4, none)
abbrev kX3_turnPin : xK := (yX3_turnPin, cX3_turnPin, 5, (some .int))
abbrev kX3_flipPin : xK := (yX3_flipPin, cX3_flipPin, 2, (some .int))
abbrev kX3_changeSetting : xK := (yX3_changeSetting, cX3_changeSetting, 4, (some .int))
abbrev kX3_allowsSetting : xK := (yX3_allowsSetting, cX3_allowsSetting, 3, (some .boolean))
abbrev kX4_init : xK := (yX4_init, cX4_init, 1, none)
abbrev kX4_add : xK := (yX4_add, cX4_add, 2, (some .int))
abbrev kX4_remove : xK := (yX4_remove, cX4_remove, 2, (some .int))
abbrev kX4_read : xK := (yX4_read, cX4_read, 3, (some .int))
abbrev kX4_pin : xK := (yX4_pin, cX4_pin, 3, (some .int))
abbrev kX4_pass : xK := (yX4_pass, cX4_pass, 2, (some .int))
abbrev kX4_set : xK := (yX4_set, cX4_set, 3, (some .int))
abbrev kX4_type : xK := (yX4_type, cX4_type, 2, (some .int))
abbrev kX4_clearText : xK := (yX4_clearText, cX4_clearText, 1, (some .int))
abbrev kX4_perform : xK := (yX4_perform, cX4_perform, 4, (some .int))
abbrev kX4_undo : xK := (yX4_undo, cX4_undo, 1, (some .int))
abbrev kX4_keep : xK := (yX4_keep, cX4_keep, 1, (some .int))
abbrev kX4_restore : xK := (yX4_restore, cX4_restore, 1, (some .int))
abbrev kX4_block : xK := (yX4_block, cX4_block, 3, (some .int))
abbrev kX4_ofBlock : xK := (yX4_ofBlock, cX4_ofBlock, 4, (some .int))
abbrev kX4_shelf : xK := (yX4_shelf, cX4_shelf, 3, (some .int))
abbrev kX4_total : xK := (yX4_total, cX4_total, 2, (some .int))
abbrev kX4_ifPassed : xK := (yX4_ifPassed, cX4_ifPassed, 4, (some .int))
abbrev kX4_nextMove : xK := (yX4_nextMove, cX4_nextMove, 2, (some .int))
abbrev kX4_bestHot : xK := (yX4_bestHot, cX4_bestHot, 9, (some .int))
abbrev kX4_cheapest : xK := (yX4_cheapest, cX4_cheapest, 6, (some .int))
abbrev kX4_settle : xK := (yX4_settle, cX4_settle, 2, (some .int))
abbrev kX4_passInWork : xK := (yX4_passInWork, cX4_passInWork, 2, (some .int))
abbrev kX4_performInWork : xK := (yX4_performInWork, cX4_performInWork, 4, (some .int))
abbrev kX4_whyItStays : xK := (yX4_whyItStays, cX4_whyItStays, 2, (some .int))
abbrev kX4_paidForNightsInWork : xK := (yX4_paidForNightsInWork, cX4_paidForNightsInWork, 1, (some .int))
abbrev kX4_paidWithHot : xK := (yX4_paidWithHot, cX4_paidWithHot, 3, (some .int))
abbrev kX4_priceOfStay : xK := (yX4_priceOfStay, cX4_priceOfStay, 5, (some .int))
abbrev kX4_at : xK := (yX4_at, cX4_at, 2, (some .int))
abbrev kX4_put : xK := (yX4_put, cX4_put, 3, none)
abbrev kX4_raise : xK := (yX4_raise, cX4_raise, 3, none)
abbrev kX4_copyRow : xK := (yX4_copyRow, cX4_copyRow, 2, none)
abbrev kX4_closeGap : xK := (yX4_closeGap, cX4_closeGap, 3, none)
abbrev kX5_init : xK := (yX5_init, cX5_init, 1, none)
abbrev kX5_in : xK := (yX5_in, cX5_in, 3, (some .boolean))
abbrev kX5_copies : xK := (yX5_copies, cX5_copies, 2, none)
abbrev kX5_remembers : xK := (yX5_remembers, cX5_remembers, 2, none)
abbrev kX5_lays : xK := (yX5_lays, cX5_lays, 2, none)
abbrev kX5_at : xK := (yX5_at, cX5_at, 2, (some .int))
abbrev kX5_placeOf : xK := (yX5_placeOf, cX5_placeOf, 4, (some .int))
abbrev kX5_on : xK := (yX5_on, cX5_on, 7, (some .int))
abbrev kX5_hasRoom : xK := (yX5_hasRoom, cX5_hasRoom, 4, (some .boolean))
abbrev kX5_wanted : xK := (yX5_wanted, cX5_wanted, 4, (some .int))
abbrev kX5_target : xK := (yX5_target, cX5_target, 6, (some .int))
abbrev kX5_next : xK := (yX5_next, cX5_next, 7, (some .int))
abbrev kX5_turns : xK := (yX5_turns, cX5_turns, 7, (some .int))
abbrev kX5_costs : xK := (yX5_costs, cX5_costs, 3, (some .int))
abbrev kX5_passesOne : xK := (yX5_passesOne, cX5_passesOne, 5, (some .int))
abbrev kX5_passes : xK := (yX5_passes, cX5_passes, 5, (some .int))
abbrev kX5_adds : xK := (yX5_adds, cX5_adds, 5, (some .int))
abbrev kX5_removes : xK := (yX5_removes, cX5_removes, 5, (some .int))
abbrev kX5_readsOne : xK := (yX5_readsOne, cX5_readsOne, 6, (some .int))
abbrev kX5_reads : xK := (yX5_reads, cX5_reads, 6, (some .int))
abbrev kX5_pinned : xK := (yX5_pinned, cX5_pinned, 4, (some .int))
abbrev kX5_turnsPin : xK := (yX5_turnsPin, cX5_turnsPin, 3, (some .int))
abbrev kX5_passesIn : xK := (yX5_passesIn, cX5_passesIn, 2, (some .int))
abbrev kX5_changes : xK := (yX5_changes, cX5_changes, 2, (some .int))
abbrev kX5_add : xK := (yX5_add, cX5_add, 2, (some .int))
abbrev kX5_remove : xK := (yX5_remove, cX5_remove, 2, (some .int))
abbrev kX5_read : xK := (yX5_read, cX5_read, 3, (some .int))
abbrev kX5_pin : xK := (yX5_pin, cX5_pin, 4, (some .int))
abbrev kX5_pass : xK := (yX5_pass, cX5_pass, 2, (some .int))
abbrev kX5_mostOf : xK := (yX5_mostOf, cX5_mostOf, 1, (some .int))
abbrev kX5_set : xK := (yX5_set, cX5_set, 5, (some .int))
abbrev kX5_type : xK := (yX5_type, cX5_type, 2, (some .int))
abbrev kX5_clearText : xK := (yX5_clearText, cX5_clearText, 2, (some .int))
abbrev kX5_sign : xK := (yX5_sign, cX5_sign, 2, (some .int))
abbrev kX5_digit : xK := (yX5_digit, cX5_digit, 2, (some .int))
abbrev kX5_numberEnd : xK := (yX5_numberEnd, cX5_numberEnd, 6, (some .int))
abbrev kX5_numberAt : xK := (yX5_numberAt, cX5_numberAt, 4, (some .int))
abbrev kX5_orderEnd : xK := (yX5_orderEnd, cX5_orderEnd, 3, (some .int))
abbrev kX5_fault : xK := (yX5_fault, cX5_fault, 4, (some .int))
abbrev kX5_does : xK := (yX5_does, cX5_does, 4, (some .int))
abbrev kX5_perform : xK := (yX5_perform, cX5_perform, 5, (some .int))
abbrev kX5_undo : xK := (yX5_undo, cX5_undo, 2, (some .int))
abbrev kX5_keep : xK := (yX5_keep, cX5_keep, 2, (some .int))
abbrev kX5_restore : xK := (yX5_restore, cX5_restore, 2, (some .int))
abbrev kX5_block : xK := (yX5_block, cX5_block, 6, (some .int))
abbrev kX5_whyStays : xK := (yX5_whyStays, cX5_whyStays, 3, (some .int))
abbrev kX5_ofBlock : xK := (yX5_ofBlock, cX5_ofBlock, 4, (some .int))
abbrev kX5_shelf : xK := (yX5_shelf, cX5_shelf, 3, (some .int))
abbrev kX5_heat : xK := (yX5_heat, cX5_heat, 2, (some .int))
abbrev kX5_total : xK := (yX5_total, cX5_total, 2, (some .int))
abbrev kX5_ifPassed : xK := (yX5_ifPassed, cX5_ifPassed, 4, (some .int))
abbrev kX5_nextMove : xK := (yX5_nextMove, cX5_nextMove, 2, (some .int))
abbrev kX5_bestHot : xK := (yX5_bestHot, cX5_bestHot, 9, (some .int))
abbrev kX5_cheapest : xK := (yX5_cheapest, cX5_cheapest, 9, (some .int))
abbrev kL_law : xK := (yL_law, cL_law, 4, (some .boolean))
theorem ck_X0_init : x_cal kX0_init 0 := ⟨(xT_of (List.mem_append_right _ (List.mem_of_getElem? (i := 77) rfl)) rfl), (xT_of (List.mem_append_right _ (List.mem_of_getElem? (i := 3) rfl)) rfl), ⟨by decide, by decide, by decide +kernel⟩, by decide⟩
theorem ck_X0_record : x_cal kX0_record 1 := ⟨(xT_of (List.mem_append_right _ (List.mem_of_getElem? (i := 211) rfl)) rfl), (xT_of (List.mem_append_right _ (List.mem_of_getElem? (i := 3) rfl)) rfl), ⟨by decide, by decide, by decide +kernel⟩, by decide⟩
theorem ck_X0_stateAt : x_cal kX0_stateAt 1 := ⟨(xT_of (List.mem_append_right _ (List.mem_of_getElem? (i := 215) rfl)) rfl), (xT_of (List.mem_append_right _ (List.mem_of_getElem? (i := 3) rfl)) rfl), ⟨by decide, by decide, by decide +kernel⟩, by decide⟩
set_option maxRecDepth 20000 in
theorem ck_X0_takeLatest : x_cal kX0_takeLatest 1 := ⟨(xT_of (List.mem_append_right _ (List.mem_of_getElem? (i := 412) rfl)) rfl), (xT_of (List.mem_append_right _ (List.mem_of_getElem? (i := 3) rfl)) rfl), ⟨by decide, by decide, by decide +kernel⟩, by decide⟩
theorem ck_X1_findWhoMayMove : x_cal kX1_findWhoMayMove 1 := ⟨(xT_of (List.mem_append_right _ (List.mem_of_getElem? (i := 299) rfl)) rfl), (xT_of (List.mem_append_right _ (List.mem_of_getElem? (i := 4) rfl)) rfl), ⟨by decide, by decide, by decide +kernel⟩, by decide⟩
theorem ck_X1_init : x_cal kX1_init 0 := ⟨(xT_of (List.mem_append_right _ (List.mem_of_getElem? (i := 97) rfl)) rfl), (xT_of (List.mem_append_right _ (List.mem_of_getElem? (i := 4) rfl)) rfl), ⟨by decide, by decide, by decide +kernel⟩, by decide⟩
theorem ck_X1_letPass : x_cal kX1_letPass 2 := ⟨(xT_of (List.mem_append_right _ (List.mem_of_getElem? (i := 281) rfl)) rfl), (xT_of (List.mem_append_right _ (List.mem_of_getElem? (i := 4) rfl)) rfl), ⟨by decide, by decide, by decide +kernel⟩, by decide⟩
set_option maxRecDepth 20000 in
theorem ck_X1_moveInTurn : x_cal kX1_moveInTurn 3 := ⟨(xT_of (List.mem_append_right _ (List.mem_of_getElem? (i := 309) rfl)) rfl), (xT_of (List.mem_append_right _ (List.mem_of_getElem? (i := 4) rfl)) rfl), ⟨by decide, by decide, by decide +kernel⟩, by decide⟩
set_option maxRecDepth 20000 in
theorem ck_X1_nextInTurn : x_cal kX1_nextInTurn 2 := ⟨(xT_of (List.mem_append_right _ (List.mem_of_getElem? (i := 313) rfl)) rfl), (xT_of (List.mem_append_right _ (List.mem_of_getElem? (i := 4) rfl)) rfl), ⟨by decide, by decide, by decide +kernel⟩, by decide⟩
set_option maxRecDepth 20000 in
theorem ck_X1_promiseIfDeep : x_cal kX1_promiseIfDeep 2 := ⟨(xT_of (List.mem_append_right _ (List.mem_of_getElem? (i := 326) rfl)) rfl), (xT_of (List.mem_append_right _ (List.mem_of_getElem? (i := 4) rfl)) rfl), ⟨by decide, by decide, by decide +kernel⟩, by decide⟩
set_option maxRecDepth 20000 in
theorem ck_X1_shelfToMoveTo : x_cal kX1_shelfToMoveTo 2 := ⟨(xT_of (List.mem_append_right _ (List.mem_of_getElem? (i := 317) rfl)) rfl), (xT_of (List.mem_append_right _ (List.mem_of_getElem? (i := 4) rfl)) rfl), ⟨by decide, by decide, by decide +kernel⟩, by decide⟩
set_option maxRecDepth 20000 in
theorem ck_X2_append : x_cal kX2_append 1 := ⟨(xT_of (List.mem_append_right _ (List.mem_of_getElem? (i := 349) rfl)) rfl), (xT_of (List.mem_append_right _ (List.mem_of_getElem? (i := 5) rfl)) rfl), ⟨by decide, by decide, by decide +kernel⟩, by decide⟩
set_option maxRecDepth 20000 in
theorem ck_X2_digitHere : x_cal kX2_digitHere 0 := ⟨(xT_of (List.mem_append_right _ (List.mem_of_getElem? (i := 395) rfl)) rfl), (xT_of (List.mem_append_right _ (List.mem_of_getElem? (i := 5) rfl)) rfl), ⟨by decide, by decide, by decide +kernel⟩, by decide⟩
set_option maxRecDepth 20000 in
theorem ck_X2_empty : x_cal kX2_empty 0 := ⟨(xT_of (List.mem_append_right _ (List.mem_of_getElem? (i := 358) rfl)) rfl), (xT_of (List.mem_append_right _ (List.mem_of_getElem? (i := 5) rfl)) rfl), ⟨by decide, by decide, by decide +kernel⟩, by decide⟩
set_option maxRecDepth 20000 in
theorem ck_X2_greatestOf : x_cal kX2_greatestOf 1 := ⟨(xT_of (List.mem_append_right _ (List.mem_of_getElem? (i := 387) rfl)) rfl), (xT_of (List.mem_append_right _ (List.mem_of_getElem? (i := 5) rfl)) rfl), ⟨by decide, by decide, by decide +kernel⟩, by decide⟩
theorem ck_X2_init : x_cal kX2_init 0 := ⟨(xT_of (List.mem_append_right _ (List.mem_of_getElem? (i := 111) rfl)) rfl), (xT_of (List.mem_append_right _ (List.mem_of_getElem? (i := 5) rfl)) rfl), ⟨by decide, by decide, by decide +kernel⟩, by decide⟩
set_option maxRecDepth 20000 in
theorem ck_X2_isKind : x_cal kX2_isKind 1 := ⟨(xT_of (List.mem_append_right _ (List.mem_of_getElem? (i := 379) rfl)) rfl), (xT_of (List.mem_append_right _ (List.mem_of_getElem? (i := 5) rfl)) rfl), ⟨by decide, by decide, by decide +kernel⟩, by decide⟩
set_option maxRecDepth 20000 in
theorem ck_X2_leastOf : x_cal kX2_leastOf 1 := ⟨(xT_of (List.mem_append_right _ (List.mem_of_getElem? (i := 383) rfl)) rfl), (xT_of (List.mem_append_right _ (List.mem_of_getElem? (i := 5) rfl)) rfl), ⟨by decide, by decide, by decide +kernel⟩, by decide⟩
set_option maxRecDepth 20000 in
theorem ck_X2_readAll : x_cal kX2_readAll 0 := ⟨(xT_of (List.mem_append_right _ (List.mem_of_getElem? (i := 366) rfl)) rfl), (xT_of (List.mem_append_right _ (List.mem_of_getElem? (i := 5) rfl)) rfl), ⟨by decide, by decide, by decide +kernel⟩, by decide⟩
set_option maxRecDepth 20000 in
theorem ck_X2_readNumber : x_cal kX2_readNumber 2 := ⟨(xT_of (List.mem_append_right _ (List.mem_of_getElem? (i := 391) rfl)) rfl), (xT_of (List.mem_append_right _ (List.mem_of_getElem? (i := 5) rfl)) rfl), ⟨by decide, by decide, by decide +kernel⟩, by decide⟩
set_option maxRecDepth 20000 in
theorem ck_X2_readOrder : x_cal kX2_readOrder 0 := ⟨(xT_of (List.mem_append_right _ (List.mem_of_getElem? (i := 370) rfl)) rfl), (xT_of (List.mem_append_right _ (List.mem_of_getElem? (i := 5) rfl)) rfl), ⟨by decide, by decide, by decide +kernel⟩, by decide⟩
set_option maxRecDepth 20000 in
theorem ck_X2_signHere : x_cal kX2_signHere 0 := ⟨(xT_of (List.mem_append_right _ (List.mem_of_getElem? (i := 374) rfl)) rfl), (xT_of (List.mem_append_right _ (List.mem_of_getElem? (i := 5) rfl)) rfl), ⟨by decide, by decide, by decide +kernel⟩, by decide⟩
theorem ck_X3_addBlock : x_cal kX3_addBlock 1 := ⟨(xT_of (List.mem_append_right _ (List.mem_of_getElem? (i := 182) rfl)) rfl), (xT_of (List.mem_append_right _ (List.mem_of_getElem? (i := 2) rfl)) rfl), ⟨by decide, by decide, by decide +kernel⟩, by decide⟩
set_option maxRecDepth 20000 in
theorem ck_X3_allowsSetting : x_cal kX3_allowsSetting 2 := ⟨(xT_of (List.mem_append_right _ (List.mem_of_getElem? (i := 341) rfl)) rfl), (xT_of (List.mem_append_right _ (List.mem_of_getElem? (i := 2) rfl)) rfl), ⟨by decide, by decide, by decide +kernel⟩, by decide⟩
theorem ck_X3_askBack : x_cal kX3_askBack 1 := ⟨(xT_of (List.mem_append_right _ (List.mem_of_getElem? (i := 252) rfl)) rfl), (xT_of (List.mem_append_right _ (List.mem_of_getElem? (i := 2) rfl)) rfl), ⟨by decide, by decide, by decide +kernel⟩, by decide⟩
set_option maxRecDepth 20000 in
theorem ck_X3_changeSetting : x_cal kX3_changeSetting 2 := ⟨(xT_of (List.mem_append_right _ (List.mem_of_getElem? (i := 335) rfl)) rfl), (xT_of (List.mem_append_right _ (List.mem_of_getElem? (i := 2) rfl)) rfl), ⟨by decide, by decide, by decide +kernel⟩, by decide⟩
theorem ck_X3_copyFrom : x_cal kX3_copyFrom 1 := ⟨(xT_of (List.mem_append_right _ (List.mem_of_getElem? (i := 169) rfl)) rfl), (xT_of (List.mem_append_right _ (List.mem_of_getElem? (i := 2) rfl)) rfl), ⟨by decide, by decide, by decide +kernel⟩, by decide⟩
theorem ck_X3_countBlocks : x_cal kX3_countBlocks 0 := ⟨(xT_of (List.mem_append_right _ (List.mem_of_getElem? (i := 194) rfl)) rfl), (xT_of (List.mem_append_right _ (List.mem_of_getElem? (i := 2) rfl)) rfl), ⟨by decide, by decide, by decide +kernel⟩, by decide⟩
set_option maxRecDepth 20000 in
theorem ck_X3_countHotter : x_cal kX3_countHotter 1 := ⟨(xT_of (List.mem_append_right _ (List.mem_of_getElem? (i := 433) rfl)) rfl), (xT_of (List.mem_append_right _ (List.mem_of_getElem? (i := 2) rfl)) rfl), ⟨by decide, by decide, by decide +kernel⟩, by decide⟩
set_option maxRecDepth 20000 in
theorem ck_X3_countOnShelf : x_cal kX3_countOnShelf 1 := ⟨(xT_of (List.mem_append_right _ (List.mem_of_getElem? (i := 451) rfl)) rfl), (xT_of (List.mem_append_right _ (List.mem_of_getElem? (i := 2) rfl)) rfl), ⟨by decide, by decide, by decide +kernel⟩, by decide⟩
theorem ck_X3_countPinned : x_cal kX3_countPinned 0 := ⟨(xT_of (List.mem_append_right _ (List.mem_of_getElem? (i := 268) rfl)) rfl), (xT_of (List.mem_append_right _ (List.mem_of_getElem? (i := 2) rfl)) rfl), ⟨by decide, by decide, by decide +kernel⟩, by decide⟩
theorem ck_X3_dropBlock : x_cal kX3_dropBlock 1 := ⟨(xT_of (List.mem_append_right _ (List.mem_of_getElem? (i := 224) rfl)) rfl), (xT_of (List.mem_append_right _ (List.mem_of_getElem? (i := 2) rfl)) rfl), ⟨by decide, by decide, by decide +kernel⟩, by decide⟩
theorem ck_X3_fade : x_cal kX3_fade 0 := ⟨(xT_of (List.mem_append_right _ (List.mem_of_getElem? (i := 294) rfl)) rfl), (xT_of (List.mem_append_right _ (List.mem_of_getElem? (i := 2) rfl)) rfl), ⟨by decide, by decide, by decide +kernel⟩, by decide⟩
theorem ck_X3_fastestWithRoom : x_cal kX3_fastestWithRoom 1 := ⟨(xT_of (List.mem_append_right _ (List.mem_of_getElem? (i := 186) rfl)) rfl), (xT_of (List.mem_append_right _ (List.mem_of_getElem? (i := 2) rfl)) rfl), ⟨by decide, by decide, by decide +kernel⟩, by decide⟩
theorem ck_X3_find : x_cal kX3_find 1 := ⟨(xT_of (List.mem_append_right _ (List.mem_of_getElem? (i := 228) rfl)) rfl), (xT_of (List.mem_append_right _ (List.mem_of_getElem? (i := 2) rfl)) rfl), ⟨by decide, by decide, by decide +kernel⟩, by decide⟩
set_option maxRecDepth 20000 in
theorem ck_X3_flipPin : x_cal kX3_flipPin 1 := ⟨(xT_of (List.mem_append_right _ (List.mem_of_getElem? (i := 403) rfl)) rfl), (xT_of (List.mem_append_right _ (List.mem_of_getElem? (i := 2) rfl)) rfl), ⟨by decide, by decide, by decide +kernel⟩, by decide⟩
theorem ck_X3_hasRoom : x_cal kX3_hasRoom 2 := ⟨(xT_of (List.mem_append_right _ (List.mem_of_getElem? (i := 190) rfl)) rfl), (xT_of (List.mem_append_right _ (List.mem_of_getElem? (i := 2) rfl)) rfl), ⟨by decide, by decide, by decide +kernel⟩, by decide⟩
set_option maxRecDepth 20000 in
theorem ck_X3_heatOfAll : x_cal kX3_heatOfAll 0 := ⟨(xT_of (List.mem_append_right _ (List.mem_of_getElem? (i := 465) rfl)) rfl), (xT_of (List.mem_append_right _ (List.mem_of_getElem? (i := 2) rfl)) rfl), ⟨by decide, by decide, by decide +kernel⟩, by decide⟩
set_option maxRecDepth 20000 in
theorem ck_X3_heatOnShelf : x_cal kX3_heatOnShelf 1 := ⟨(xT_of (List.mem_append_right _ (List.mem_of_getElem? (i := 455) rfl)) rfl), (xT_of (List.mem_append_right _ (List.mem_of_getElem? (i := 2) rfl)) rfl), ⟨by decide, by decide, by decide +kernel⟩, by decide⟩
theorem ck_X3_init : x_cal kX3_init 0 := ⟨(xT_of (List.mem_append_right _ (List.mem_of_getElem? (i := 21) rfl)) rfl), (xT_of (List.mem_append_right _ (List.mem_of_getElem? (i := 2) rfl)) rfl), ⟨by decide, by decide, by decide +kernel⟩, by decide⟩
theorem ck_X3_moveTo : x_cal kX3_moveTo 2 := ⟨(xT_of (List.mem_append_right _ (List.mem_of_getElem? (i := 256) rfl)) rfl), (xT_of (List.mem_append_right _ (List.mem_of_getElem? (i := 2) rfl)) rfl), ⟨by decide, by decide, by decide +kernel⟩, by decide⟩
theorem ck_X3_nightPriceOfShelf : x_cal kX3_nightPriceOfShelf 1 := ⟨(xT_of (List.mem_append_right _ (List.mem_of_getElem? (i := 290) rfl)) rfl), (xT_of (List.mem_append_right _ (List.mem_of_getElem? (i := 2) rfl)) rfl), ⟨by decide, by decide, by decide +kernel⟩, by decide⟩
theorem ck_X3_payNight : x_cal kX3_payNight 0 := ⟨(xT_of (List.mem_append_right _ (List.mem_of_getElem? (i := 286) rfl)) rfl), (xT_of (List.mem_append_right _ (List.mem_of_getElem? (i := 2) rfl)) rfl), ⟨by decide, by decide, by decide +kernel⟩, by decide⟩
set_option maxRecDepth 20000 in
theorem ck_X3_placeOfRank : x_cal kX3_placeOfRank 1 := ⟨(xT_of (List.mem_append_right _ (List.mem_of_getElem? (i := 429) rfl)) rfl), (xT_of (List.mem_append_right _ (List.mem_of_getElem? (i := 2) rfl)) rfl), ⟨by decide, by decide, by decide +kernel⟩, by decide⟩
theorem ck_X3_readBlock : x_cal kX3_readBlock 2 := ⟨(xT_of (List.mem_append_right _ (List.mem_of_getElem? (i := 242) rfl)) rfl), (xT_of (List.mem_append_right _ (List.mem_of_getElem? (i := 2) rfl)) rfl), ⟨by decide, by decide, by decide +kernel⟩, by decide⟩
theorem ck_X3_readOnce : x_cal kX3_readOnce 1 := ⟨(xT_of (List.mem_append_right _ (List.mem_of_getElem? (i := 246) rfl)) rfl), (xT_of (List.mem_append_right _ (List.mem_of_getElem? (i := 2) rfl)) rfl), ⟨by decide, by decide, by decide +kernel⟩, by decide⟩
theorem ck_X3_turnPin : x_cal kX3_turnPin 2 := ⟨(xT_of (List.mem_append_right _ (List.mem_of_getElem? (i := 264) rfl)) rfl), (xT_of (List.mem_append_right _ (List.mem_of_getElem? (i := 2) rfl)) rfl), ⟨by decide, by decide, by decide +kernel⟩, by decide⟩
set_option maxRecDepth 20000 in
theorem ck_X3_wantedShelf : x_cal kX3_wantedShelf 1 := ⟨(xT_of (List.mem_append_right _ (List.mem_of_getElem? (i := 304) rfl)) rfl), (xT_of (List.mem_append_right _ (List.mem_of_getElem? (i := 2) rfl)) rfl), ⟨by decide, by decide, by decide +kernel⟩, by decide⟩
theorem ck_X4_add : x_cal kX4_add 1 := ⟨(xT_of (List.mem_append_right _ (List.mem_of_getElem? (i := 165) rfl)) rfl), (xT_of (List.mem_append_right _ (List.mem_of_getElem? (i := 1) rfl)) rfl), ⟨by decide, by decide, by decide +kernel⟩, by decide⟩
theorem ck_X4_at : x_cal kX4_at 2 := ⟨(xT_of (List.mem_append_right _ (List.mem_of_getElem? (i := 197) rfl)) rfl), (xT_of (List.mem_append_right _ (List.mem_of_getElem? (i := 1) rfl)) rfl), ⟨by decide, by decide, by decide +kernel⟩, by decide⟩
set_option maxRecDepth 20000 in
theorem ck_X4_bestHot : x_cal kX4_bestHot 2 := ⟨(xT_of (List.mem_append_right _ (List.mem_of_getElem? (i := 482) rfl)) rfl), (xT_of (List.mem_append_right _ (List.mem_of_getElem? (i := 1) rfl)) rfl), ⟨by decide, by decide, by decide +kernel⟩, by decide⟩
set_option maxRecDepth 20000 in
theorem ck_X4_block : x_cal kX4_block 1 := ⟨(xT_of (List.mem_append_right _ (List.mem_of_getElem? (i := 425) rfl)) rfl), (xT_of (List.mem_append_right _ (List.mem_of_getElem? (i := 1) rfl)) rfl), ⟨by decide, by decide, by decide +kernel⟩, by decide⟩
set_option maxRecDepth 20000 in
theorem ck_X4_cheapest : x_cal kX4_cheapest 2 := ⟨(xT_of (List.mem_append_right _ (List.mem_of_getElem? (i := 492) rfl)) rfl), (xT_of (List.mem_append_right _ (List.mem_of_getElem? (i := 1) rfl)) rfl), ⟨by decide, by decide, by decide +kernel⟩, by decide⟩
set_option maxRecDepth 20000 in
theorem ck_X4_clearText : x_cal kX4_clearText 0 := ⟨(xT_of (List.mem_append_right _ (List.mem_of_getElem? (i := 354) rfl)) rfl), (xT_of (List.mem_append_right _ (List.mem_of_getElem? (i := 1) rfl)) rfl), ⟨by decide, by decide, by decide +kernel⟩, by decide⟩
theorem ck_X4_closeGap : x_cal kX4_closeGap 2 := ⟨(xT_of (List.mem_append_right _ (List.mem_of_getElem? (i := 231) rfl)) rfl), (xT_of (List.mem_append_right _ (List.mem_of_getElem? (i := 1) rfl)) rfl), ⟨by decide, by decide, by decide +kernel⟩, by decide⟩
theorem ck_X4_copyRow : x_cal kX4_copyRow 2 := ⟨(xT_of (List.mem_append_right _ (List.mem_of_getElem? (i := 172) rfl)) rfl), (xT_of (List.mem_append_right _ (List.mem_of_getElem? (i := 1) rfl)) rfl), ⟨by decide, by decide, by decide +kernel⟩, by decide⟩
set_option maxRecDepth 20000 in
theorem ck_X4_ifPassed : x_cal kX4_ifPassed 2 := ⟨(xT_of (List.mem_append_right _ (List.mem_of_getElem? (i := 470) rfl)) rfl), (xT_of (List.mem_append_right _ (List.mem_of_getElem? (i := 1) rfl)) rfl), ⟨by decide, by decide, by decide +kernel⟩, by decide⟩
theorem ck_X4_init : x_cal kX4_init 0 := ⟨(xT_of (List.mem_append_right _ (List.mem_of_getElem? (i := 13) rfl)) rfl), (xT_of (List.mem_append_right _ (List.mem_of_getElem? (i := 1) rfl)) rfl), ⟨by decide, by decide, by decide +kernel⟩, by decide⟩
set_option maxRecDepth 20000 in
theorem ck_X4_keep : x_cal kX4_keep 0 := ⟨(xT_of (List.mem_append_right _ (List.mem_of_getElem? (i := 416) rfl)) rfl), (xT_of (List.mem_append_right _ (List.mem_of_getElem? (i := 1) rfl)) rfl), ⟨by decide, by decide, by decide +kernel⟩, by decide⟩
set_option maxRecDepth 20000 in
theorem ck_X4_nextMove : x_cal kX4_nextMove 0 := ⟨(xT_of (List.mem_append_right _ (List.mem_of_getElem? (i := 478) rfl)) rfl), (xT_of (List.mem_append_right _ (List.mem_of_getElem? (i := 1) rfl)) rfl), ⟨by decide, by decide, by decide +kernel⟩, by decide⟩
set_option maxRecDepth 20000 in
theorem ck_X4_ofBlock : x_cal kX4_ofBlock 2 := ⟨(xT_of (List.mem_append_right _ (List.mem_of_getElem? (i := 437) rfl)) rfl), (xT_of (List.mem_append_right _ (List.mem_of_getElem? (i := 1) rfl)) rfl), ⟨by decide, by decide, by decide +kernel⟩, by decide⟩
set_option maxRecDepth 20000 in
theorem ck_X4_paidForNightsInWork : x_cal kX4_paidForNightsInWork 0 := ⟨(xT_of (List.mem_append_right _ (List.mem_of_getElem? (i := 474) rfl)) rfl), (xT_of (List.mem_append_right _ (List.mem_of_getElem? (i := 1) rfl)) rfl), ⟨by decide, by decide, by decide +kernel⟩, by decide⟩
set_option maxRecDepth 20000 in
theorem ck_X4_paidWithHot : x_cal kX4_paidWithHot 2 := ⟨(xT_of (List.mem_append_right _ (List.mem_of_getElem? (i := 487) rfl)) rfl), (xT_of (List.mem_append_right _ (List.mem_of_getElem? (i := 1) rfl)) rfl), ⟨by decide, by decide, by decide +kernel⟩, by decide⟩
theorem ck_X4_pass : x_cal kX4_pass 1 := ⟨(xT_of (List.mem_append_right _ (List.mem_of_getElem? (i := 272) rfl)) rfl), (xT_of (List.mem_append_right _ (List.mem_of_getElem? (i := 1) rfl)) rfl), ⟨by decide, by decide, by decide +kernel⟩, by decide⟩
theorem ck_X4_passInWork : x_cal kX4_passInWork 1 := ⟨(xT_of (List.mem_append_right _ (List.mem_of_getElem? (i := 276) rfl)) rfl), (xT_of (List.mem_append_right _ (List.mem_of_getElem? (i := 1) rfl)) rfl), ⟨by decide, by decide, by decide +kernel⟩, by decide⟩
set_option maxRecDepth 20000 in
theorem ck_X4_perform : x_cal kX4_perform 0 := ⟨(xT_of (List.mem_append_right _ (List.mem_of_getElem? (i := 362) rfl)) rfl), (xT_of (List.mem_append_right _ (List.mem_of_getElem? (i := 1) rfl)) rfl), ⟨by decide, by decide, by decide +kernel⟩, by decide⟩
set_option maxRecDepth 20000 in
theorem ck_X4_performInWork : x_cal kX4_performInWork 1 := ⟨(xT_of (List.mem_append_right _ (List.mem_of_getElem? (i := 399) rfl)) rfl), (xT_of (List.mem_append_right _ (List.mem_of_getElem? (i := 1) rfl)) rfl), ⟨by decide, by decide, by decide +kernel⟩, by decide⟩
theorem ck_X4_pin : x_cal kX4_pin 2 := ⟨(xT_of (List.mem_append_right _ (List.mem_of_getElem? (i := 260) rfl)) rfl), (xT_of (List.mem_append_right _ (List.mem_of_getElem? (i := 1) rfl)) rfl), ⟨by decide, by decide, by decide +kernel⟩, by decide⟩
set_option maxRecDepth 20000 in
theorem ck_X4_priceOfStay : x_cal kX4_priceOfStay 3 := ⟨(xT_of (List.mem_append_right _ (List.mem_of_getElem? (i := 496) rfl)) rfl), (xT_of (List.mem_append_right _ (List.mem_of_getElem? (i := 1) rfl)) rfl), ⟨by decide, by decide, by decide +kernel⟩, by decide⟩
theorem ck_X4_put : x_cal kX4_put 3 := ⟨(xT_of (List.mem_append_right _ (List.mem_of_getElem? (i := 200) rfl)) rfl), (xT_of (List.mem_append_right _ (List.mem_of_getElem? (i := 1) rfl)) rfl), ⟨by decide, by decide, by decide +kernel⟩, by decide⟩
theorem ck_X4_raise : x_cal kX4_raise 3 := ⟨(xT_of (List.mem_append_right _ (List.mem_of_getElem? (i := 203) rfl)) rfl), (xT_of (List.mem_append_right _ (List.mem_of_getElem? (i := 1) rfl)) rfl), ⟨by decide, by decide, by decide +kernel⟩, by decide⟩
theorem ck_X4_read : x_cal kX4_read 2 := ⟨(xT_of (List.mem_append_right _ (List.mem_of_getElem? (i := 238) rfl)) rfl), (xT_of (List.mem_append_right _ (List.mem_of_getElem? (i := 1) rfl)) rfl), ⟨by decide, by decide, by decide +kernel⟩, by decide⟩
theorem ck_X4_remove : x_cal kX4_remove 1 := ⟨(xT_of (List.mem_append_right _ (List.mem_of_getElem? (i := 220) rfl)) rfl), (xT_of (List.mem_append_right _ (List.mem_of_getElem? (i := 1) rfl)) rfl), ⟨by decide, by decide, by decide +kernel⟩, by decide⟩
set_option maxRecDepth 20000 in
theorem ck_X4_restore : x_cal kX4_restore 0 := ⟨(xT_of (List.mem_append_right _ (List.mem_of_getElem? (i := 421) rfl)) rfl), (xT_of (List.mem_append_right _ (List.mem_of_getElem? (i := 1) rfl)) rfl), ⟨by decide, by decide, by decide +kernel⟩, by decide⟩
set_option maxRecDepth 20000 in
theorem ck_X4_set : x_cal kX4_set 2 := ⟨(xT_of (List.mem_append_right _ (List.mem_of_getElem? (i := 331) rfl)) rfl), (xT_of (List.mem_append_right _ (List.mem_of_getElem? (i := 1) rfl)) rfl), ⟨by decide, by decide, by decide +kernel⟩, by decide⟩
theorem ck_X4_settle : x_cal kX4_settle 1 := ⟨(xT_of (List.mem_append_right _ (List.mem_of_getElem? (i := 207) rfl)) rfl), (xT_of (List.mem_append_right _ (List.mem_of_getElem? (i := 1) rfl)) rfl), ⟨by decide, by decide, by decide +kernel⟩, by decide⟩
set_option maxRecDepth 20000 in
theorem ck_X4_shelf : x_cal kX4_shelf 2 := ⟨(xT_of (List.mem_append_right _ (List.mem_of_getElem? (i := 447) rfl)) rfl), (xT_of (List.mem_append_right _ (List.mem_of_getElem? (i := 1) rfl)) rfl), ⟨by decide, by decide, by decide +kernel⟩, by decide⟩
set_option maxRecDepth 20000 in
theorem ck_X4_total : x_cal kX4_total 1 := ⟨(xT_of (List.mem_append_right _ (List.mem_of_getElem? (i := 460) rfl)) rfl), (xT_of (List.mem_append_right _ (List.mem_of_getElem? (i := 1) rfl)) rfl), ⟨by decide, by decide, by decide +kernel⟩, by decide⟩
set_option maxRecDepth 20000 in
theorem ck_X4_type : x_cal kX4_type 1 := ⟨(xT_of (List.mem_append_right _ (List.mem_of_getElem? (i := 345) rfl)) rfl), (xT_of (List.mem_append_right _ (List.mem_of_getElem? (i := 1) rfl)) rfl), ⟨by decide, by decide, by decide +kernel⟩, by decide⟩
set_option maxRecDepth 20000 in
theorem ck_X4_undo : x_cal kX4_undo 0 := ⟨(xT_of (List.mem_append_right _ (List.mem_of_getElem? (i := 408) rfl)) rfl), (xT_of (List.mem_append_right _ (List.mem_of_getElem? (i := 1) rfl)) rfl), ⟨by decide, by decide, by decide +kernel⟩, by decide⟩
set_option maxRecDepth 20000 in
theorem ck_X4_whyItStays : x_cal kX4_whyItStays 1 := ⟨(xT_of (List.mem_append_right _ (List.mem_of_getElem? (i := 443) rfl)) rfl), (xT_of (List.mem_append_right _ (List.mem_of_getElem? (i := 1) rfl)) rfl), ⟨by decide, by decide, by decide +kernel⟩, by decide⟩
set_option maxRecDepth 20000 in
theorem ck_X5_add : x_cal kX5_add 1 := ⟨(xT_of (List.mem_append_right _ (List.mem_of_getElem? (i := 531) rfl)) rfl), (xT_of (List.mem_append_right _ (List.mem_of_getElem? (i := 6) rfl)) rfl), ⟨by decide, by decide, by decide +kernel⟩, by decide⟩
set_option maxRecDepth 20000 in
theorem ck_X5_adds : x_cal kX5_adds 1 := ⟨(xT_of (List.mem_append_right _ (List.mem_of_getElem? (i := 542) rfl)) rfl), (xT_of (List.mem_append_right _ (List.mem_of_getElem? (i := 6) rfl)) rfl), ⟨by decide, by decide, by decide +kernel⟩, by decide⟩
set_option maxRecDepth 20000 in
theorem ck_X5_at : x_cal kX5_at 2 := ⟨(xT_of (List.mem_append_right _ (List.mem_of_getElem? (i := 553) rfl)) rfl), (xT_of (List.mem_append_right _ (List.mem_of_getElem? (i := 6) rfl)) rfl), ⟨by decide, by decide, by decide +kernel⟩, by decide⟩
set_option maxRecDepth 20000 in
theorem ck_X5_bestHot : x_cal kX5_bestHot 2 := ⟨(xT_of (List.mem_append_right _ (List.mem_of_getElem? (i := 733) rfl)) rfl), (xT_of (List.mem_append_right _ (List.mem_of_getElem? (i := 6) rfl)) rfl), ⟨by decide, by decide, by decide +kernel⟩, by decide⟩
set_option maxRecDepth 20000 in
theorem ck_X5_block : x_cal kX5_block 1 := ⟨(xT_of (List.mem_append_right _ (List.mem_of_getElem? (i := 701) rfl)) rfl), (xT_of (List.mem_append_right _ (List.mem_of_getElem? (i := 6) rfl)) rfl), ⟨by decide, by decide, by decide +kernel⟩, by decide⟩
set_option maxRecDepth 20000 in
theorem ck_X5_changes : x_cal kX5_changes 1 := ⟨(xT_of (List.mem_append_right _ (List.mem_of_getElem? (i := 557) rfl)) rfl), (xT_of (List.mem_append_right _ (List.mem_of_getElem? (i := 6) rfl)) rfl), ⟨by decide, by decide, by decide +kernel⟩, by decide⟩
set_option maxRecDepth 20000 in
theorem ck_X5_cheapest : x_cal kX5_cheapest 2 := ⟨(xT_of (List.mem_append_right _ (List.mem_of_getElem? (i := 737) rfl)) rfl), (xT_of (List.mem_append_right _ (List.mem_of_getElem? (i := 6) rfl)) rfl), ⟨by decide, by decide, by decide +kernel⟩, by decide⟩
set_option maxRecDepth 20000 in
theorem ck_X5_clearText : x_cal kX5_clearText 0 := ⟨(xT_of (List.mem_append_right _ (List.mem_of_getElem? (i := 653) rfl)) rfl), (xT_of (List.mem_append_right _ (List.mem_of_getElem? (i := 6) rfl)) rfl), ⟨by decide, by decide, by decide +kernel⟩, by decide⟩
set_option maxRecDepth 20000 in
theorem ck_X5_copies : x_cal kX5_copies 0 := ⟨(xT_of (List.mem_append_right _ (List.mem_of_getElem? (i := 538) rfl)) rfl), (xT_of (List.mem_append_right _ (List.mem_of_getElem? (i := 6) rfl)) rfl), ⟨by decide, by decide, by decide +kernel⟩, by decide⟩
set_option maxRecDepth 20000 in
theorem ck_X5_costs : x_cal kX5_costs 2 := ⟨(xT_of (List.mem_append_right _ (List.mem_of_getElem? (i := 622) rfl)) rfl), (xT_of (List.mem_append_right _ (List.mem_of_getElem? (i := 6) rfl)) rfl), ⟨by decide, by decide, by decide +kernel⟩, by decide⟩
set_option maxRecDepth 20000 in
theorem ck_X5_digit : x_cal kX5_digit 1 := ⟨(xT_of (List.mem_append_right _ (List.mem_of_getElem? (i := 677) rfl)) rfl), (xT_of (List.mem_append_right _ (List.mem_of_getElem? (i := 6) rfl)) rfl), ⟨by decide, by decide, by decide +kernel⟩, by decide⟩
set_option maxRecDepth 20000 in
theorem ck_X5_does : x_cal kX5_does 1 := ⟨(xT_of (List.mem_append_right _ (List.mem_of_getElem? (i := 681) rfl)) rfl), (xT_of (List.mem_append_right _ (List.mem_of_getElem? (i := 6) rfl)) rfl), ⟨by decide, by decide, by decide +kernel⟩, by decide⟩
set_option maxRecDepth 20000 in
theorem ck_X5_fault : x_cal kX5_fault 0 := ⟨(xT_of (List.mem_append_right _ (List.mem_of_getElem? (i := 661) rfl)) rfl), (xT_of (List.mem_append_right _ (List.mem_of_getElem? (i := 6) rfl)) rfl), ⟨by decide, by decide, by decide +kernel⟩, by decide⟩
set_option maxRecDepth 20000 in
theorem ck_X5_hasRoom : x_cal kX5_hasRoom 3 := ⟨(xT_of (List.mem_append_right _ (List.mem_of_getElem? (i := 546) rfl)) rfl), (xT_of (List.mem_append_right _ (List.mem_of_getElem? (i := 6) rfl)) rfl), ⟨by decide, by decide, by decide +kernel⟩, by decide⟩
set_option maxRecDepth 20000 in
theorem ck_X5_heat : x_cal kX5_heat 1 := ⟨(xT_of (List.mem_append_right _ (List.mem_of_getElem? (i := 721) rfl)) rfl), (xT_of (List.mem_append_right _ (List.mem_of_getElem? (i := 6) rfl)) rfl), ⟨by decide, by decide, by decide +kernel⟩, by decide⟩
set_option maxRecDepth 20000 in
theorem ck_X5_ifPassed : x_cal kX5_ifPassed 2 := ⟨(xT_of (List.mem_append_right _ (List.mem_of_getElem? (i := 725) rfl)) rfl), (xT_of (List.mem_append_right _ (List.mem_of_getElem? (i := 6) rfl)) rfl), ⟨by decide, by decide, by decide +kernel⟩, by decide⟩
set_option maxRecDepth 20000 in
theorem ck_X5_in : x_cal kX5_in 3 := ⟨(xT_of (List.mem_append_right _ (List.mem_of_getElem? (i := 534) rfl)) rfl), (xT_of (List.mem_append_right _ (List.mem_of_getElem? (i := 6) rfl)) rfl), ⟨by decide, by decide, by decide +kernel⟩, by decide⟩
set_option maxRecDepth 20000 in
theorem ck_X5_init : x_cal kX5_init 0 := ⟨(xT_of (List.mem_append_right _ (List.mem_of_getElem? (i := 501) rfl)) rfl), (xT_of (List.mem_append_right _ (List.mem_of_getElem? (i := 6) rfl)) rfl), ⟨by decide, by decide, by decide +kernel⟩, by decide⟩
set_option maxRecDepth 20000 in
theorem ck_X5_keep : x_cal kX5_keep 0 := ⟨(xT_of (List.mem_append_right _ (List.mem_of_getElem? (i := 693) rfl)) rfl), (xT_of (List.mem_append_right _ (List.mem_of_getElem? (i := 6) rfl)) rfl), ⟨by decide, by decide, by decide +kernel⟩, by decide⟩
set_option maxRecDepth 20000 in
theorem ck_X5_lays : x_cal kX5_lays 0 := ⟨(xT_of (List.mem_append_right _ (List.mem_of_getElem? (i := 561) rfl)) rfl), (xT_of (List.mem_append_right _ (List.mem_of_getElem? (i := 6) rfl)) rfl), ⟨by decide, by decide, by decide +kernel⟩, by decide⟩
set_option maxRecDepth 20000 in
theorem ck_X5_mostOf : x_cal kX5_mostOf 1 := ⟨(xT_of (List.mem_append_right _ (List.mem_of_getElem? (i := 645) rfl)) rfl), (xT_of (List.mem_append_right _ (List.mem_of_getElem? (i := 6) rfl)) rfl), ⟨by decide, by decide, by decide +kernel⟩, by decide⟩
set_option maxRecDepth 20000 in
theorem ck_X5_next : x_cal kX5_next 2 := ⟨(xT_of (List.mem_append_right _ (List.mem_of_getElem? (i := 634) rfl)) rfl), (xT_of (List.mem_append_right _ (List.mem_of_getElem? (i := 6) rfl)) rfl), ⟨by decide, by decide, by decide +kernel⟩, by decide⟩
set_option maxRecDepth 20000 in
theorem ck_X5_nextMove : x_cal kX5_nextMove 0 := ⟨(xT_of (List.mem_append_right _ (List.mem_of_getElem? (i := 729) rfl)) rfl), (xT_of (List.mem_append_right _ (List.mem_of_getElem? (i := 6) rfl)) rfl), ⟨by decide, by decide, by decide +kernel⟩, by decide⟩
set_option maxRecDepth 20000 in
theorem ck_X5_numberAt : x_cal kX5_numberAt 1 := ⟨(xT_of (List.mem_append_right _ (List.mem_of_getElem? (i := 685) rfl)) rfl), (xT_of (List.mem_append_right _ (List.mem_of_getElem? (i := 6) rfl)) rfl), ⟨by decide, by decide, by decide +kernel⟩, by decide⟩
set_option maxRecDepth 20000 in
theorem ck_X5_numberEnd : x_cal kX5_numberEnd 3 := ⟨(xT_of (List.mem_append_right _ (List.mem_of_getElem? (i := 673) rfl)) rfl), (xT_of (List.mem_append_right _ (List.mem_of_getElem? (i := 6) rfl)) rfl), ⟨by decide, by decide, by decide +kernel⟩, by decide⟩
set_option maxRecDepth 20000 in
theorem ck_X5_ofBlock : x_cal kX5_ofBlock 2 := ⟨(xT_of (List.mem_append_right _ (List.mem_of_getElem? (i := 705) rfl)) rfl), (xT_of (List.mem_append_right _ (List.mem_of_getElem? (i := 6) rfl)) rfl), ⟨by decide, by decide, by decide +kernel⟩, by decide⟩
set_option maxRecDepth 20000 in
theorem ck_X5_on : x_cal kX5_on 3 := ⟨(xT_of (List.mem_append_right _ (List.mem_of_getElem? (i := 550) rfl)) rfl), (xT_of (List.mem_append_right _ (List.mem_of_getElem? (i := 6) rfl)) rfl), ⟨by decide, by decide, by decide +kernel⟩, by decide⟩
set_option maxRecDepth 20000 in
theorem ck_X5_orderEnd : x_cal kX5_orderEnd 1 := ⟨(xT_of (List.mem_append_right _ (List.mem_of_getElem? (i := 665) rfl)) rfl), (xT_of (List.mem_append_right _ (List.mem_of_getElem? (i := 6) rfl)) rfl), ⟨by decide, by decide, by decide +kernel⟩, by decide⟩
set_option maxRecDepth 20000 in
theorem ck_X5_pass : x_cal kX5_pass 1 := ⟨(xT_of (List.mem_append_right _ (List.mem_of_getElem? (i := 606) rfl)) rfl), (xT_of (List.mem_append_right _ (List.mem_of_getElem? (i := 6) rfl)) rfl), ⟨by decide, by decide, by decide +kernel⟩, by decide⟩
set_option maxRecDepth 20000 in
theorem ck_X5_passes : x_cal kX5_passes 2 := ⟨(xT_of (List.mem_append_right _ (List.mem_of_getElem? (i := 614) rfl)) rfl), (xT_of (List.mem_append_right _ (List.mem_of_getElem? (i := 6) rfl)) rfl), ⟨by decide, by decide, by decide +kernel⟩, by decide⟩
set_option maxRecDepth 20000 in
theorem ck_X5_passesIn : x_cal kX5_passesIn 1 := ⟨(xT_of (List.mem_append_right _ (List.mem_of_getElem? (i := 610) rfl)) rfl), (xT_of (List.mem_append_right _ (List.mem_of_getElem? (i := 6) rfl)) rfl), ⟨by decide, by decide, by decide +kernel⟩, by decide⟩
set_option maxRecDepth 20000 in
theorem ck_X5_passesOne : x_cal kX5_passesOne 1 := ⟨(xT_of (List.mem_append_right _ (List.mem_of_getElem? (i := 618) rfl)) rfl), (xT_of (List.mem_append_right _ (List.mem_of_getElem? (i := 6) rfl)) rfl), ⟨by decide, by decide, by decide +kernel⟩, by decide⟩
set_option maxRecDepth 20000 in
theorem ck_X5_perform : x_cal kX5_perform 0 := ⟨(xT_of (List.mem_append_right _ (List.mem_of_getElem? (i := 657) rfl)) rfl), (xT_of (List.mem_append_right _ (List.mem_of_getElem? (i := 6) rfl)) rfl), ⟨by decide, by decide, by decide +kernel⟩, by decide⟩
set_option maxRecDepth 20000 in
theorem ck_X5_pin : x_cal kX5_pin 2 := ⟨(xT_of (List.mem_append_right _ (List.mem_of_getElem? (i := 594) rfl)) rfl), (xT_of (List.mem_append_right _ (List.mem_of_getElem? (i := 6) rfl)) rfl), ⟨by decide, by decide, by decide +kernel⟩, by decide⟩
set_option maxRecDepth 20000 in
theorem ck_X5_pinned : x_cal kX5_pinned 1 := ⟨(xT_of (List.mem_append_right _ (List.mem_of_getElem? (i := 602) rfl)) rfl), (xT_of (List.mem_append_right _ (List.mem_of_getElem? (i := 6) rfl)) rfl), ⟨by decide, by decide, by decide +kernel⟩, by decide⟩
set_option maxRecDepth 20000 in
theorem ck_X5_placeOf : x_cal kX5_placeOf 2 := ⟨(xT_of (List.mem_append_right _ (List.mem_of_getElem? (i := 577) rfl)) rfl), (xT_of (List.mem_append_right _ (List.mem_of_getElem? (i := 6) rfl)) rfl), ⟨by decide, by decide, by decide +kernel⟩, by decide⟩
set_option maxRecDepth 20000 in
theorem ck_X5_read : x_cal kX5_read 2 := ⟨(xT_of (List.mem_append_right _ (List.mem_of_getElem? (i := 581) rfl)) rfl), (xT_of (List.mem_append_right _ (List.mem_of_getElem? (i := 6) rfl)) rfl), ⟨by decide, by decide, by decide +kernel⟩, by decide⟩
set_option maxRecDepth 20000 in
theorem ck_X5_reads : x_cal kX5_reads 2 := ⟨(xT_of (List.mem_append_right _ (List.mem_of_getElem? (i := 585) rfl)) rfl), (xT_of (List.mem_append_right _ (List.mem_of_getElem? (i := 6) rfl)) rfl), ⟨by decide, by decide, by decide +kernel⟩, by decide⟩
set_option maxRecDepth 20000 in
theorem ck_X5_readsOne : x_cal kX5_readsOne 1 := ⟨(xT_of (List.mem_append_right _ (List.mem_of_getElem? (i := 589) rfl)) rfl), (xT_of (List.mem_append_right _ (List.mem_of_getElem? (i := 6) rfl)) rfl), ⟨by decide, by decide, by decide +kernel⟩, by decide⟩
set_option maxRecDepth 20000 in
theorem ck_X5_remembers : x_cal kX5_remembers 0 := ⟨(xT_of (List.mem_append_right _ (List.mem_of_getElem? (i := 565) rfl)) rfl), (xT_of (List.mem_append_right _ (List.mem_of_getElem? (i := 6) rfl)) rfl), ⟨by decide, by decide, by decide +kernel⟩, by decide⟩
set_option maxRecDepth 20000 in
theorem ck_X5_remove : x_cal kX5_remove 1 := ⟨(xT_of (List.mem_append_right _ (List.mem_of_getElem? (i := 569) rfl)) rfl), (xT_of (List.mem_append_right _ (List.mem_of_getElem? (i := 6) rfl)) rfl), ⟨by decide, by decide, by decide +kernel⟩, by decide⟩
set_option maxRecDepth 20000 in
theorem ck_X5_removes : x_cal kX5_removes 1 := ⟨(xT_of (List.mem_append_right _ (List.mem_of_getElem? (i := 573) rfl)) rfl), (xT_of (List.mem_append_right _ (List.mem_of_getElem? (i := 6) rfl)) rfl), ⟨by decide, by decide, by decide +kernel⟩, by decide⟩
set_option maxRecDepth 20000 in
theorem ck_X5_restore : x_cal kX5_restore 0 := ⟨(xT_of (List.mem_append_right _ (List.mem_of_getElem? (i := 697) rfl)) rfl), (xT_of (List.mem_append_right _ (List.mem_of_getElem? (i := 6) rfl)) rfl), ⟨by decide, by decide, by decide +kernel⟩, by decide⟩
set_option maxRecDepth 20000 in
theorem ck_X5_set : x_cal kX5_set 2 := ⟨(xT_of (List.mem_append_right _ (List.mem_of_getElem? (i := 642) rfl)) rfl), (xT_of (List.mem_append_right _ (List.mem_of_getElem? (i := 6) rfl)) rfl), ⟨by decide, by decide, by decide +kernel⟩, by decide⟩
set_option maxRecDepth 20000 in
theorem ck_X5_shelf : x_cal kX5_shelf 2 := ⟨(xT_of (List.mem_append_right _ (List.mem_of_getElem? (i := 713) rfl)) rfl), (xT_of (List.mem_append_right _ (List.mem_of_getElem? (i := 6) rfl)) rfl), ⟨by decide, by decide, by decide +kernel⟩, by decide⟩
set_option maxRecDepth 20000 in
theorem ck_X5_sign : x_cal kX5_sign 1 := ⟨(xT_of (List.mem_append_right _ (List.mem_of_getElem? (i := 669) rfl)) rfl), (xT_of (List.mem_append_right _ (List.mem_of_getElem? (i := 6) rfl)) rfl), ⟨by decide, by decide, by decide +kernel⟩, by decide⟩
set_option maxRecDepth 20000 in
theorem ck_X5_target : x_cal kX5_target 2 := ⟨(xT_of (List.mem_append_right _ (List.mem_of_getElem? (i := 638) rfl)) rfl), (xT_of (List.mem_append_right _ (List.mem_of_getElem? (i := 6) rfl)) rfl), ⟨by decide, by decide, by decide +kernel⟩, by decide⟩
set_option maxRecDepth 20000 in
theorem ck_X5_total : x_cal kX5_total 1 := ⟨(xT_of (List.mem_append_right _ (List.mem_of_getElem? (i := 717) rfl)) rfl), (xT_of (List.mem_append_right _ (List.mem_of_getElem? (i := 6) rfl)) rfl), ⟨by decide, by decide, by decide +kernel⟩, by decide⟩
set_option maxRecDepth 20000 in
theorem ck_X5_turns : x_cal kX5_turns 3 := ⟨(xT_of (List.mem_append_right _ (List.mem_of_getElem? (i := 630) rfl)) rfl), (xT_of (List.mem_append_right _ (List.mem_of_getElem? (i := 6) rfl)) rfl), ⟨by decide, by decide, by decide +kernel⟩, by decide⟩
set_option maxRecDepth 20000 in
theorem ck_X5_turnsPin : x_cal kX5_turnsPin 1 := ⟨(xT_of (List.mem_append_right _ (List.mem_of_getElem? (i := 598) rfl)) rfl), (xT_of (List.mem_append_right _ (List.mem_of_getElem? (i := 6) rfl)) rfl), ⟨by decide, by decide, by decide +kernel⟩, by decide⟩
set_option maxRecDepth 20000 in
theorem ck_X5_type : x_cal kX5_type 1 := ⟨(xT_of (List.mem_append_right _ (List.mem_of_getElem? (i := 649) rfl)) rfl), (xT_of (List.mem_append_right _ (List.mem_of_getElem? (i := 6) rfl)) rfl), ⟨by decide, by decide, by decide +kernel⟩, by decide⟩
set_option maxRecDepth 20000 in
theorem ck_X5_undo : x_cal kX5_undo 0 := ⟨(xT_of (List.mem_append_right _ (List.mem_of_getElem? (i := 689) rfl)) rfl), (xT_of (List.mem_append_right _ (List.mem_of_getElem? (i := 6) rfl)) rfl), ⟨by decide, by decide, by decide +kernel⟩, by decide⟩
set_option maxRecDepth 20000 in
theorem ck_X5_wanted : x_cal kX5_wanted 2 := ⟨(xT_of (List.mem_append_right _ (List.mem_of_getElem? (i := 626) rfl)) rfl), (xT_of (List.mem_append_right _ (List.mem_of_getElem? (i := 6) rfl)) rfl), ⟨by decide, by decide, by decide +kernel⟩, by decide⟩
set_option maxRecDepth 20000 in
theorem ck_X5_whyStays : x_cal kX5_whyStays 1 := ⟨(xT_of (List.mem_append_right _ (List.mem_of_getElem? (i := 709) rfl)) rfl), (xT_of (List.mem_append_right _ (List.mem_of_getElem? (i := 6) rfl)) rfl), ⟨by decide, by decide, by decide +kernel⟩, by decide⟩
set_option maxRecDepth 20000 in
theorem cc_L_12 : x_CC RL 12 kX5_init 0 := ⟨Or.inl (xT_of (List.mem_append_right _ (List.mem_of_getElem? (i := 499) rfl)) rfl), ck_X5_init, (xT_of (List.mem_append_right _ (List.mem_of_getElem? (i := 500) rfl)) rfl), rfl, rfl⟩
theorem cv_L_13 : x_CV RL 13 kX4_add 1 4 := ⟨Or.inl (xT_of (List.mem_append_right _ (List.mem_of_getElem? (i := 162) rfl)) rfl), ck_X4_add, (xT_of (List.mem_append_right _ (List.mem_of_getElem? (i := 163) rfl)) rfl), (xT_of (List.mem_append_right _ (List.mem_of_getElem? (i := 164) rfl)) rfl), TX4, 7, rfl⟩
set_option maxRecDepth 20000 in
theorem cv_L_17 : x_CV RL 17 kX5_add 1 5 := ⟨Or.inl (xT_of (List.mem_append_right _ (List.mem_of_getElem? (i := 528) rfl)) rfl), ck_X5_add, (xT_of (List.mem_append_right _ (List.mem_of_getElem? (i := 529) rfl)) rfl), (xT_of (List.mem_append_right _ (List.mem_of_getElem? (i := 530) rfl)) rfl), TX5, 8, rfl⟩
theorem cv_L_18 : x_CV RL 18 kX4_remove 1 4 := ⟨Or.inl (xT_of (List.mem_append_right _ (List.mem_of_getElem? (i := 217) rfl)) rfl), ck_X4_remove, (xT_of (List.mem_append_right _ (List.mem_of_getElem? (i := 218) rfl)) rfl), (xT_of (List.mem_append_right _ (List.mem_of_getElem? (i := 219) rfl)) rfl), TX4, 7, rfl⟩
set_option maxRecDepth 20000 in
theorem cv_L_21 : x_CV RL 21 kX5_remove 1 5 := ⟨Or.inl (xT_of (List.mem_append_right _ (List.mem_of_getElem? (i := 566) rfl)) rfl), ck_X5_remove, (xT_of (List.mem_append_right _ (List.mem_of_getElem? (i := 567) rfl)) rfl), (xT_of (List.mem_append_right _ (List.mem_of_getElem? (i := 568) rfl)) rfl), TX5, 8, rfl⟩
theorem cv_L_22 : x_CV RL 22 kX4_read 2 4 := ⟨Or.inl (xT_of (List.mem_append_right _ (List.mem_of_getElem? (i := 235) rfl)) rfl), ck_X4_read, (xT_of (List.mem_append_right _ (List.mem_of_getElem? (i := 236) rfl)) rfl), (xT_of (List.mem_append_right _ (List.mem_of_getElem? (i := 237) rfl)) rfl), TX4, 7, rfl⟩
set_option maxRecDepth 20000 in
theorem cv_L_26 : x_CV RL 26 kX5_read 2 5 := ⟨Or.inl (xT_of (List.mem_append_right _ (List.mem_of_getElem? (i := 578) rfl)) rfl), ck_X5_read, (xT_of (List.mem_append_right _ (List.mem_of_getElem? (i := 579) rfl)) rfl), (xT_of (List.mem_append_right _ (List.mem_of_getElem? (i := 580) rfl)) rfl), TX5, 8, rfl⟩
theorem cv_L_27 : x_CV RL 27 kX4_pin 2 4 := ⟨Or.inl (xT_of (List.mem_append_right _ (List.mem_of_getElem? (i := 257) rfl)) rfl), ck_X4_pin, (xT_of (List.mem_append_right _ (List.mem_of_getElem? (i := 258) rfl)) rfl), (xT_of (List.mem_append_right _ (List.mem_of_getElem? (i := 259) rfl)) rfl), TX4, 7, rfl⟩
set_option maxRecDepth 20000 in
theorem cv_L_31 : x_CV RL 31 kX5_pin 2 5 := ⟨Or.inl (xT_of (List.mem_append_right _ (List.mem_of_getElem? (i := 591) rfl)) rfl), ck_X5_pin, (xT_of (List.mem_append_right _ (List.mem_of_getElem? (i := 592) rfl)) rfl), (xT_of (List.mem_append_right _ (List.mem_of_getElem? (i := 593) rfl)) rfl), TX5, 8, rfl⟩
theorem cv_L_32 : x_CV RL 32 kX4_pass 1 4 := ⟨Or.inl (xT_of (List.mem_append_right _ (List.mem_of_getElem? (i := 269) rfl)) rfl), ck_X4_pass, (xT_of (List.mem_append_right _ (List.mem_of_getElem? (i := 270) rfl)) rfl), (xT_of (List.mem_append_right _ (List.mem_of_getElem? (i := 271) rfl)) rfl), TX4, 7, rfl⟩
set_option maxRecDepth 20000 in
theorem cv_L_35 : x_CV RL 35 kX5_pass 1 5 := ⟨Or.inl (xT_of (List.mem_append_right _ (List.mem_of_getElem? (i := 603) rfl)) rfl), ck_X5_pass, (xT_of (List.mem_append_right _ (List.mem_of_getElem? (i := 604) rfl)) rfl), (xT_of (List.mem_append_right _ (List.mem_of_getElem? (i := 605) rfl)) rfl), TX5, 8, rfl⟩
set_option maxRecDepth 20000 in
theorem cv_L_36 : x_CV RL 36 kX4_set 2 4 := ⟨Or.inl (xT_of (List.mem_append_right _ (List.mem_of_getElem? (i := 328) rfl)) rfl), ck_X4_set, (xT_of (List.mem_append_right _ (List.mem_of_getElem? (i := 329) rfl)) rfl), (xT_of (List.mem_append_right _ (List.mem_of_getElem? (i := 330) rfl)) rfl), TX4, 7, rfl⟩
set_option maxRecDepth 20000 in
theorem cv_L_39 : x_CV RL 39 kX5_set 2 5 := ⟨Or.inl (xT_of (List.mem_append_right _ (List.mem_of_getElem? (i := 639) rfl)) rfl), ck_X5_set, (xT_of (List.mem_append_right _ (List.mem_of_getElem? (i := 640) rfl)) rfl), (xT_of (List.mem_append_right _ (List.mem_of_getElem? (i := 641) rfl)) rfl), TX5, 8, rfl⟩
set_option maxRecDepth 20000 in
theorem cv_L_40 : x_CV RL 40 kX4_type 1 4 := ⟨Or.inl (xT_of (List.mem_append_right _ (List.mem_of_getElem? (i := 342) rfl)) rfl), ck_X4_type, (xT_of (List.mem_append_right _ (List.mem_of_getElem? (i := 343) rfl)) rfl), (xT_of (List.mem_append_right _ (List.mem_of_getElem? (i := 344) rfl)) rfl), TX4, 7, rfl⟩
set_option maxRecDepth 20000 in
theorem cv_L_44 : x_CV RL 44 kX5_type 1 5 := ⟨Or.inl (xT_of (List.mem_append_right _ (List.mem_of_getElem? (i := 646) rfl)) rfl), ck_X5_type, (xT_of (List.mem_append_right _ (List.mem_of_getElem? (i := 647) rfl)) rfl), (xT_of (List.mem_append_right _ (List.mem_of_getElem? (i := 648) rfl)) rfl), TX5, 8, rfl⟩
set_option maxRecDepth 20000 in
theorem cv_L_45 : x_CV RL 45 kX4_clearText 0 4 := ⟨Or.inl (xT_of (List.mem_append_right _ (List.mem_of_getElem? (i := 351) rfl)) rfl), ck_X4_clearText, (xT_of (List.mem_append_right _ (List.mem_of_getElem? (i := 352) rfl)) rfl), (xT_of (List.mem_append_right _ (List.mem_of_getElem? (i := 353) rfl)) rfl), TX4, 7, rfl⟩
set_option maxRecDepth 20000 in
theorem cv_L_49 : x_CV RL 49 kX5_clearText 0 5 := ⟨Or.inl (xT_of (List.mem_append_right _ (List.mem_of_getElem? (i := 650) rfl)) rfl), ck_X5_clearText, (xT_of (List.mem_append_right _ (List.mem_of_getElem? (i := 651) rfl)) rfl), (xT_of (List.mem_append_right _ (List.mem_of_getElem? (i := 652) rfl)) rfl), TX5, 8, rfl⟩
set_option maxRecDepth 20000 in
theorem cv_L_50 : x_CV RL 50 kX4_perform 0 4 := ⟨Or.inl (xT_of (List.mem_append_right _ (List.mem_of_getElem? (i := 359) rfl)) rfl), ck_X4_perform, (xT_of (List.mem_append_right _ (List.mem_of_getElem? (i := 360) rfl)) rfl), (xT_of (List.mem_append_right _ (List.mem_of_getElem? (i := 361) rfl)) rfl), TX4, 7, rfl⟩
set_option maxRecDepth 20000 in
theorem cv_L_53 : x_CV RL 53 kX5_perform 0 5 := ⟨Or.inl (xT_of (List.mem_append_right _ (List.mem_of_getElem? (i := 654) rfl)) rfl), ck_X5_perform, (xT_of (List.mem_append_right _ (List.mem_of_getElem? (i := 655) rfl)) rfl), (xT_of (List.mem_append_right _ (List.mem_of_getElem? (i := 656) rfl)) rfl), TX5, 8, rfl⟩
set_option maxRecDepth 20000 in
theorem cv_L_54 : x_CV RL 54 kX4_undo 0 4 := ⟨Or.inl (xT_of (List.mem_append_right _ (List.mem_of_getElem? (i := 405) rfl)) rfl), ck_X4_undo, (xT_of (List.mem_append_right _ (List.mem_of_getElem? (i := 406) rfl)) rfl), (xT_of (List.mem_append_right _ (List.mem_of_getElem? (i := 407) rfl)) rfl), TX4, 7, rfl⟩
set_option maxRecDepth 20000 in
theorem cv_L_57 : x_CV RL 57 kX5_undo 0 5 := ⟨Or.inl (xT_of (List.mem_append_right _ (List.mem_of_getElem? (i := 686) rfl)) rfl), ck_X5_undo, (xT_of (List.mem_append_right _ (List.mem_of_getElem? (i := 687) rfl)) rfl), (xT_of (List.mem_append_right _ (List.mem_of_getElem? (i := 688) rfl)) rfl), TX5, 8, rfl⟩
set_option maxRecDepth 20000 in
theorem cv_L_58 : x_CV RL 58 kX4_keep 0 4 := ⟨Or.inl (xT_of (List.mem_append_right _ (List.mem_of_getElem? (i := 413) rfl)) rfl), ck_X4_keep, (xT_of (List.mem_append_right _ (List.mem_of_getElem? (i := 414) rfl)) rfl), (xT_of (List.mem_append_right _ (List.mem_of_getElem? (i := 415) rfl)) rfl), TX4, 7, rfl⟩
set_option maxRecDepth 20000 in
theorem cv_L_61 : x_CV RL 61 kX5_keep 0 5 := ⟨Or.inl (xT_of (List.mem_append_right _ (List.mem_of_getElem? (i := 690) rfl)) rfl), ck_X5_keep, (xT_of (List.mem_append_right _ (List.mem_of_getElem? (i := 691) rfl)) rfl), (xT_of (List.mem_append_right _ (List.mem_of_getElem? (i := 692) rfl)) rfl), TX5, 8, rfl⟩
set_option maxRecDepth 20000 in
theorem cv_L_62 : x_CV RL 62 kX4_restore 0 4 := ⟨Or.inl (xT_of (List.mem_append_right _ (List.mem_of_getElem? (i := 418) rfl)) rfl), ck_X4_restore, (xT_of (List.mem_append_right _ (List.mem_of_getElem? (i := 419) rfl)) rfl), (xT_of (List.mem_append_right _ (List.mem_of_getElem? (i := 420) rfl)) rfl), TX4, 7, rfl⟩
set_option maxRecDepth 20000 in
theorem cv_L_65 : x_CV RL 65 kX5_restore 0 5 := ⟨Or.inl (xT_of (List.mem_append_right _ (List.mem_of_getElem? (i := 694) rfl)) rfl), ck_X5_restore, (xT_of (List.mem_append_right _ (List.mem_of_getElem? (i := 695) rfl)) rfl), (xT_of (List.mem_append_right _ (List.mem_of_getElem? (i := 696) rfl)) rfl), TX5, 8, rfl⟩
set_option maxRecDepth 20000 in
theorem cv_L_66 : x_CV RL 66 kX4_block 1 4 := ⟨Or.inl (xT_of (List.mem_append_right _ (List.mem_of_getElem? (i := 422) rfl)) rfl), ck_X4_block, (xT_of (List.mem_append_right _ (List.mem_of_getElem? (i := 423) rfl)) rfl), (xT_of (List.mem_append_right _ (List.mem_of_getElem? (i := 424) rfl)) rfl), TX4, 7, rfl⟩
set_option maxRecDepth 20000 in
theorem cv_L_69 : x_CV RL 69 kX5_block 1 5 := ⟨Or.inl (xT_of (List.mem_append_right _ (List.mem_of_getElem? (i := 698) rfl)) rfl), ck_X5_block, (xT_of (List.mem_append_right _ (List.mem_of_getElem? (i := 699) rfl)) rfl), (xT_of (List.mem_append_right _ (List.mem_of_getElem? (i := 700) rfl)) rfl), TX5, 8, rfl⟩
set_option maxRecDepth 20000 in
theorem cv_L_70 : x_CV RL 70 kX4_ofBlock 2 4 := ⟨Or.inl (xT_of (List.mem_append_right _ (List.mem_of_getElem? (i := 434) rfl)) rfl), ck_X4_ofBlock, (xT_of (List.mem_append_right _ (List.mem_of_getElem? (i := 435) rfl)) rfl), (xT_of (List.mem_append_right _ (List.mem_of_getElem? (i := 436) rfl)) rfl), TX4, 7, rfl⟩
set_option maxRecDepth 20000 in
theorem cv_L_73 : x_CV RL 73 kX5_ofBlock 2 5 := ⟨Or.inl (xT_of (List.mem_append_right _ (List.mem_of_getElem? (i := 702) rfl)) rfl), ck_X5_ofBlock, (xT_of (List.mem_append_right _ (List.mem_of_getElem? (i := 703) rfl)) rfl), (xT_of (List.mem_append_right _ (List.mem_of_getElem? (i := 704) rfl)) rfl), TX5, 8, rfl⟩
set_option maxRecDepth 20000 in
theorem cv_L_74 : x_CV RL 74 kX4_shelf 2 4 := ⟨Or.inl (xT_of (List.mem_append_right _ (List.mem_of_getElem? (i := 444) rfl)) rfl), ck_X4_shelf, (xT_of (List.mem_append_right _ (List.mem_of_getElem? (i := 445) rfl)) rfl), (xT_of (List.mem_append_right _ (List.mem_of_getElem? (i := 446) rfl)) rfl), TX4, 7, rfl⟩
set_option maxRecDepth 20000 in
theorem cv_L_77 : x_CV RL 77 kX5_shelf 2 5 := ⟨Or.inl (xT_of (List.mem_append_right _ (List.mem_of_getElem? (i := 710) rfl)) rfl), ck_X5_shelf, (xT_of (List.mem_append_right _ (List.mem_of_getElem? (i := 711) rfl)) rfl), (xT_of (List.mem_append_right _ (List.mem_of_getElem? (i := 712) rfl)) rfl), TX5, 8, rfl⟩
set_option maxRecDepth 20000 in
theorem cv_L_78 : x_CV RL 78 kX4_total 1 4 := ⟨Or.inl (xT_of (List.mem_append_right _ (List.mem_of_getElem? (i := 457) rfl)) rfl), ck_X4_total, (xT_of (List.mem_append_right _ (List.mem_of_getElem? (i := 458) rfl)) rfl), (xT_of (List.mem_append_right _ (List.mem_of_getElem? (i := 459) rfl)) rfl), TX4, 7, rfl⟩
set_option maxRecDepth 20000 in
theorem cv_L_81 : x_CV RL 81 kX5_total 1 5 := ⟨Or.inl (xT_of (List.mem_append_right _ (List.mem_of_getElem? (i := 714) rfl)) rfl), ck_X5_total, (xT_of (List.mem_append_right _ (List.mem_of_getElem? (i := 715) rfl)) rfl), (xT_of (List.mem_append_right _ (List.mem_of_getElem? (i := 716) rfl)) rfl), TX5, 8, rfl⟩
set_option maxRecDepth 20000 in
theorem cv_L_82 : x_CV RL 82 kX4_ifPassed 2 4 := ⟨Or.inl (xT_of (List.mem_append_right _ (List.mem_of_getElem? (i := 467) rfl)) rfl), ck_X4_ifPassed, (xT_of (List.mem_append_right _ (List.mem_of_getElem? (i := 468) rfl)) rfl), (xT_of (List.mem_append_right _ (List.mem_of_getElem? (i := 469) rfl)) rfl), TX4, 7, rfl⟩
set_option maxRecDepth 20000 in
theorem cv_L_85 : x_CV RL 85 kX5_ifPassed 2 5 := ⟨Or.inl (xT_of (List.mem_append_right _ (List.mem_of_getElem? (i := 722) rfl)) rfl), ck_X5_ifPassed, (xT_of (List.mem_append_right _ (List.mem_of_getElem? (i := 723) rfl)) rfl), (xT_of (List.mem_append_right _ (List.mem_of_getElem? (i := 724) rfl)) rfl), TX5, 8, rfl⟩
set_option maxRecDepth 20000 in
theorem cv_L_86 : x_CV RL 86 kX4_nextMove 0 4 := ⟨Or.inl (xT_of (List.mem_append_right _ (List.mem_of_getElem? (i := 475) rfl)) rfl), ck_X4_nextMove, (xT_of (List.mem_append_right _ (List.mem_of_getElem? (i := 476) rfl)) rfl), (xT_of (List.mem_append_right _ (List.mem_of_getElem? (i := 477) rfl)) rfl), TX4, 7, rfl⟩
set_option maxRecDepth 20000 in
theorem cv_L_89 : x_CV RL 89 kX5_nextMove 0 5 := ⟨Or.inl (xT_of (List.mem_append_right _ (List.mem_of_getElem? (i := 726) rfl)) rfl), ck_X5_nextMove, (xT_of (List.mem_append_right _ (List.mem_of_getElem? (i := 727) rfl)) rfl), (xT_of (List.mem_append_right _ (List.mem_of_getElem? (i := 728) rfl)) rfl), TX5, 8, rfl⟩
theorem cc_L_9 : x_CC RL 9 kX4_init 0 := ⟨Or.inl (xT_of (List.mem_append_right _ (List.mem_of_getElem? (i := 11) rfl)) rfl), ck_X4_init, (xT_of (List.mem_append_right _ (List.mem_of_getElem? (i := 12) rfl)) rfl), rfl, rfl⟩
set_option maxRecDepth 20000 in
theorem cv_L_90 : x_CV RL 90 kX4_bestHot 2 4 := ⟨Or.inl (xT_of (List.mem_append_right _ (List.mem_of_getElem? (i := 479) rfl)) rfl), ck_X4_bestHot, (xT_of (List.mem_append_right _ (List.mem_of_getElem? (i := 480) rfl)) rfl), (xT_of (List.mem_append_right _ (List.mem_of_getElem? (i := 481) rfl)) rfl), TX4, 7, rfl⟩
set_option maxRecDepth 20000 in
theorem cv_L_93 : x_CV RL 93 kX5_bestHot 2 5 := ⟨Or.inl (xT_of (List.mem_append_right _ (List.mem_of_getElem? (i := 730) rfl)) rfl), ck_X5_bestHot, (xT_of (List.mem_append_right _ (List.mem_of_getElem? (i := 731) rfl)) rfl), (xT_of (List.mem_append_right _ (List.mem_of_getElem? (i := 732) rfl)) rfl), TX5, 8, rfl⟩
set_option maxRecDepth 20000 in
theorem cv_L_94 : x_CV RL 94 kX4_cheapest 2 4 := ⟨Or.inl (xT_of (List.mem_append_right _ (List.mem_of_getElem? (i := 489) rfl)) rfl), ck_X4_cheapest, (xT_of (List.mem_append_right _ (List.mem_of_getElem? (i := 490) rfl)) rfl), (xT_of (List.mem_append_right _ (List.mem_of_getElem? (i := 491) rfl)) rfl), TX4, 7, rfl⟩
set_option maxRecDepth 20000 in
theorem cv_L_97 : x_CV RL 97 kX5_cheapest 2 5 := ⟨Or.inl (xT_of (List.mem_append_right _ (List.mem_of_getElem? (i := 734) rfl)) rfl), ck_X5_cheapest, (xT_of (List.mem_append_right _ (List.mem_of_getElem? (i := 735) rfl)) rfl), (xT_of (List.mem_append_right _ (List.mem_of_getElem? (i := 736) rfl)) rfl), TX5, 8, rfl⟩
theorem cc_X0_24 : x_CC RX0 24 kX3_init 0 := ⟨Or.inr ⟨"HeatShelves", List.mem_of_getElem? (i := 2) rfl⟩, ck_X3_init, (xT_of (List.mem_append_right _ (List.mem_of_getElem? (i := 20) rfl)) rfl), rfl, rfl⟩
theorem cv_X0_25 : x_CV RX0 25 kX0_stateAt 1 0 := ⟨Or.inl (xT_of (List.mem_append_right _ (List.mem_of_getElem? (i := 212) rfl)) rfl), ck_X0_stateAt, (xT_of (List.mem_append_right _ (List.mem_of_getElem? (i := 214) rfl)) rfl), (xT_of (List.mem_append_left _ (List.mem_of_getElem? (i := 7) rfl)) rfl), TX0, 3, rfl⟩
theorem cv_X0_29 : x_CV RX0 29 kX3_copyFrom 1 3 := ⟨Or.inr ⟨"HeatShelves", List.mem_of_getElem? (i := 12) rfl⟩, ck_X3_copyFrom, (xT_of (List.mem_append_right _ (List.mem_of_getElem? (i := 168) rfl)) rfl), (xT_of (List.mem_append_left _ (List.mem_of_getElem? (i := 0) rfl)) rfl), TX3, 10, rfl⟩
theorem lk_X0_3 : Cond.methodLink RX0 3 Lib.objectInit ∈ xT := (xT_of (List.mem_append_right _ (List.mem_of_getElem? (i := 78) rfl)) rfl)
theorem cs_X1_23 : x_CS RX1 23 kX4_at 2 := ⟨Or.inr ⟨"HeatShelves", List.mem_of_getElem? (i := 18) rfl⟩, ck_X4_at, (xT_of (List.mem_append_right _ (List.mem_of_getElem? (i := 196) rfl)) rfl)⟩
theorem cv_X1_27 : x_CV RX1 27 kX3_payNight 0 3 := ⟨Or.inr ⟨"HeatShelves", List.mem_of_getElem? (i := 19) rfl⟩, ck_X3_payNight, (xT_of (List.mem_append_right _ (List.mem_of_getElem? (i := 285) rfl)) rfl), (xT_of (List.mem_append_left _ (List.mem_of_getElem? (i := 18) rfl)) rfl), TX3, 10, rfl⟩
theorem lk_X1_3 : Cond.methodLink RX1 3 Lib.objectInit ∈ xT := (xT_of (List.mem_append_right _ (List.mem_of_getElem? (i := 98) rfl)) rfl)
theorem cv_X1_30 : x_CV RX1 30 kX3_fade 0 3 := ⟨Or.inr ⟨"HeatShelves", List.mem_of_getElem? (i := 20) rfl⟩, ck_X3_fade, (xT_of (List.mem_append_right _ (List.mem_of_getElem? (i := 293) rfl)) rfl), (xT_of (List.mem_append_left _ (List.mem_of_getElem? (i := 20) rfl)) rfl), TX3, 10, rfl⟩
theorem cv_X1_33 : x_CV RX1 33 kX1_findWhoMayMove 1 1 := ⟨Or.inl (xT_of (List.mem_append_right _ (List.mem_of_getElem? (i := 296) rfl)) rfl), ck_X1_findWhoMayMove, (xT_of (List.mem_append_right _ (List.mem_of_getElem? (i := 298) rfl)) rfl), (xT_of (List.mem_append_left _ (List.mem_of_getElem? (i := 21) rfl)) rfl), TX1, 2, rfl⟩
set_option maxRecDepth 20000 in
theorem cv_X1_37 : x_CV RX1 37 kX1_moveInTurn 3 1 := ⟨Or.inl (xT_of (List.mem_append_right _ (List.mem_of_getElem? (i := 306) rfl)) rfl), ck_X1_moveInTurn, (xT_of (List.mem_append_right _ (List.mem_of_getElem? (i := 308) rfl)) rfl), (xT_of (List.mem_append_left _ (List.mem_of_getElem? (i := 23) rfl)) rfl), TX1, 2, rfl⟩
theorem cs_X1_41 : x_CS RX1 41 kX4_raise 3 := ⟨Or.inr ⟨"HeatShelves", List.mem_of_getElem? (i := 26) rfl⟩, ck_X4_raise, (xT_of (List.mem_append_right _ (List.mem_of_getElem? (i := 202) rfl)) rfl)⟩
theorem cv_X1_45 : x_CV RX1 45 kX3_countBlocks 0 3 := ⟨Or.inr ⟨"HeatShelves", List.mem_of_getElem? (i := 21) rfl⟩, ck_X3_countBlocks, (xT_of (List.mem_append_right _ (List.mem_of_getElem? (i := 193) rfl)) rfl), (xT_of (List.mem_append_left _ (List.mem_of_getElem? (i := 4) rfl)) rfl), TX3, 10, rfl⟩
set_option maxRecDepth 20000 in
theorem cv_X1_49 : x_CV RX1 49 kX3_wantedShelf 1 3 := ⟨Or.inr ⟨"HeatShelves", List.mem_of_getElem? (i := 22) rfl⟩, ck_X3_wantedShelf, (xT_of (List.mem_append_right _ (List.mem_of_getElem? (i := 303) rfl)) rfl), (xT_of (List.mem_append_left _ (List.mem_of_getElem? (i := 22) rfl)) rfl), TX3, 10, rfl⟩
theorem cs_X1_53 : x_CS RX1 53 kX4_put 3 := ⟨Or.inr ⟨"HeatShelves", List.mem_of_getElem? (i := 23) rfl⟩, ck_X4_put, (xT_of (List.mem_append_right _ (List.mem_of_getElem? (i := 199) rfl)) rfl)⟩
set_option maxRecDepth 20000 in
theorem cv_X1_65 : x_CV RX1 65 kX1_nextInTurn 2 1 := ⟨Or.inl (xT_of (List.mem_append_right _ (List.mem_of_getElem? (i := 310) rfl)) rfl), ck_X1_nextInTurn, (xT_of (List.mem_append_right _ (List.mem_of_getElem? (i := 312) rfl)) rfl), (xT_of (List.mem_append_left _ (List.mem_of_getElem? (i := 24) rfl)) rfl), TX1, 2, rfl⟩
set_option maxRecDepth 20000 in
theorem cv_X1_69 : x_CV RX1 69 kX1_shelfToMoveTo 2 1 := ⟨Or.inl (xT_of (List.mem_append_right _ (List.mem_of_getElem? (i := 314) rfl)) rfl), ck_X1_shelfToMoveTo, (xT_of (List.mem_append_right _ (List.mem_of_getElem? (i := 316) rfl)) rfl), (xT_of (List.mem_append_left _ (List.mem_of_getElem? (i := 25) rfl)) rfl), TX1, 2, rfl⟩
theorem cv_X1_73 : x_CV RX1 73 kX3_moveTo 2 3 := ⟨Or.inr ⟨"HeatShelves", List.mem_of_getElem? (i := 25) rfl⟩, ck_X3_moveTo, (xT_of (List.mem_append_right _ (List.mem_of_getElem? (i := 255) rfl)) rfl), (xT_of (List.mem_append_left _ (List.mem_of_getElem? (i := 13) rfl)) rfl), TX3, 10, rfl⟩
set_option maxRecDepth 20000 in
theorem cv_X1_77 : x_CV RX1 77 kX1_promiseIfDeep 2 1 := ⟨Or.inl (xT_of (List.mem_append_right _ (List.mem_of_getElem? (i := 323) rfl)) rfl), ck_X1_promiseIfDeep, (xT_of (List.mem_append_right _ (List.mem_of_getElem? (i := 325) rfl)) rfl), (xT_of (List.mem_append_left _ (List.mem_of_getElem? (i := 26) rfl)) rfl), TX1, 2, rfl⟩
theorem cv_X1_87 : x_CV RX1 87 kX3_hasRoom 2 3 := ⟨Or.inr ⟨"HeatShelves", List.mem_of_getElem? (i := 24) rfl⟩, ck_X3_hasRoom, (xT_of (List.mem_append_right _ (List.mem_of_getElem? (i := 189) rfl)) rfl), (xT_of (List.mem_append_left _ (List.mem_of_getElem? (i := 3) rfl)) rfl), TX3, 10, rfl⟩
set_option maxRecDepth 20000 in
theorem lk_X1_91 : Cond.methodLink RX1 91 Lib.Math.abs.name ∈ xT := (xT_of (List.mem_append_right _ (List.mem_of_getElem? (i := 319) rfl)) rfl)
theorem lk_X2_3 : Cond.methodLink RX2 3 Lib.objectInit ∈ xT := (xT_of (List.mem_append_right _ (List.mem_of_getElem? (i := 112) rfl)) rfl)
theorem cs_X2_34 : x_CS RX2 34 kX4_put 3 := ⟨Or.inr ⟨"HeatShelves", List.mem_of_getElem? (i := 29) rfl⟩, ck_X4_put, (xT_of (List.mem_append_right _ (List.mem_of_getElem? (i := 199) rfl)) rfl)⟩
set_option maxRecDepth 20000 in
theorem cv_X2_38 : x_CV RX2 38 kX2_readOrder 0 2 := ⟨Or.inl (xT_of (List.mem_append_right _ (List.mem_of_getElem? (i := 367) rfl)) rfl), ck_X2_readOrder, (xT_of (List.mem_append_right _ (List.mem_of_getElem? (i := 369) rfl)) rfl), (xT_of (List.mem_append_left _ (List.mem_of_getElem? (i := 32) rfl)) rfl), TX2, 7, rfl⟩
set_option maxRecDepth 20000 in
theorem cv_X2_42 : x_CV RX2 42 kX2_signHere 0 2 := ⟨Or.inl (xT_of (List.mem_append_right _ (List.mem_of_getElem? (i := 371) rfl)) rfl), ck_X2_signHere, (xT_of (List.mem_append_right _ (List.mem_of_getElem? (i := 373) rfl)) rfl), (xT_of (List.mem_append_left _ (List.mem_of_getElem? (i := 33) rfl)) rfl), TX2, 7, rfl⟩
set_option maxRecDepth 20000 in
theorem cv_X2_46 : x_CV RX2 46 kX2_isKind 1 2 := ⟨Or.inl (xT_of (List.mem_append_right _ (List.mem_of_getElem? (i := 376) rfl)) rfl), ck_X2_isKind, (xT_of (List.mem_append_right _ (List.mem_of_getElem? (i := 378) rfl)) rfl), (xT_of (List.mem_append_left _ (List.mem_of_getElem? (i := 34) rfl)) rfl), TX2, 7, rfl⟩
set_option maxRecDepth 20000 in
theorem cv_X2_50 : x_CV RX2 50 kX2_leastOf 1 2 := ⟨Or.inl (xT_of (List.mem_append_right _ (List.mem_of_getElem? (i := 380) rfl)) rfl), ck_X2_leastOf, (xT_of (List.mem_append_right _ (List.mem_of_getElem? (i := 382) rfl)) rfl), (xT_of (List.mem_append_left _ (List.mem_of_getElem? (i := 35) rfl)) rfl), TX2, 7, rfl⟩
set_option maxRecDepth 20000 in
theorem cv_X2_54 : x_CV RX2 54 kX2_greatestOf 1 2 := ⟨Or.inl (xT_of (List.mem_append_right _ (List.mem_of_getElem? (i := 384) rfl)) rfl), ck_X2_greatestOf, (xT_of (List.mem_append_right _ (List.mem_of_getElem? (i := 386) rfl)) rfl), (xT_of (List.mem_append_left _ (List.mem_of_getElem? (i := 36) rfl)) rfl), TX2, 7, rfl⟩
set_option maxRecDepth 20000 in
theorem cv_X2_57 : x_CV RX2 57 kX2_readNumber 2 2 := ⟨Or.inl (xT_of (List.mem_append_right _ (List.mem_of_getElem? (i := 388) rfl)) rfl), ck_X2_readNumber, (xT_of (List.mem_append_right _ (List.mem_of_getElem? (i := 390) rfl)) rfl), (xT_of (List.mem_append_left _ (List.mem_of_getElem? (i := 37) rfl)) rfl), TX2, 7, rfl⟩
set_option maxRecDepth 20000 in
theorem cv_X2_61 : x_CV RX2 61 kX2_digitHere 0 2 := ⟨Or.inl (xT_of (List.mem_append_right _ (List.mem_of_getElem? (i := 392) rfl)) rfl), ck_X2_digitHere, (xT_of (List.mem_append_right _ (List.mem_of_getElem? (i := 394) rfl)) rfl), (xT_of (List.mem_append_left _ (List.mem_of_getElem? (i := 38) rfl)) rfl), TX2, 7, rfl⟩
theorem cs_X2_64 : x_CS RX2 64 kX4_at 2 := ⟨Or.inr ⟨"HeatShelves", List.mem_of_getElem? (i := 32) rfl⟩, ck_X4_at, (xT_of (List.mem_append_right _ (List.mem_of_getElem? (i := 196) rfl)) rfl)⟩
theorem cv_X3_102 : x_CV RX3 102 kX3_nightPriceOfShelf 1 3 := ⟨Or.inl (xT_of (List.mem_append_right _ (List.mem_of_getElem? (i := 287) rfl)) rfl), ck_X3_nightPriceOfShelf, (xT_of (List.mem_append_right _ (List.mem_of_getElem? (i := 289) rfl)) rfl), (xT_of (List.mem_append_left _ (List.mem_of_getElem? (i := 19) rfl)) rfl), TX3, 10, rfl⟩
theorem lk_X3_105 : Cond.methodLink RX3 105 Lib.Math.max.name ∈ xT := (xT_of (List.mem_append_right _ (List.mem_of_getElem? (i := 295) rfl)) rfl)
theorem cv_X3_108 : x_CV RX3 108 kX3_countPinned 0 3 := ⟨Or.inl (xT_of (List.mem_append_right _ (List.mem_of_getElem? (i := 265) rfl)) rfl), ck_X3_countPinned, (xT_of (List.mem_append_right _ (List.mem_of_getElem? (i := 267) rfl)) rfl), (xT_of (List.mem_append_left _ (List.mem_of_getElem? (i := 15) rfl)) rfl), TX3, 10, rfl⟩
set_option maxRecDepth 20000 in
theorem cv_X3_111 : x_CV RX3 111 kX3_turnPin 2 3 := ⟨Or.inl (xT_of (List.mem_append_right _ (List.mem_of_getElem? (i := 404) rfl)) rfl), ck_X3_turnPin, (xT_of (List.mem_append_right _ (List.mem_of_getElem? (i := 263) rfl)) rfl), (xT_of (List.mem_append_left _ (List.mem_of_getElem? (i := 14) rfl)) rfl), TX3, 10, rfl⟩
set_option maxRecDepth 20000 in
theorem cv_X3_118 : x_CV RX3 118 kX3_allowsSetting 2 3 := ⟨Or.inl (xT_of (List.mem_append_right _ (List.mem_of_getElem? (i := 338) rfl)) rfl), ck_X3_allowsSetting, (xT_of (List.mem_append_right _ (List.mem_of_getElem? (i := 340) rfl)) rfl), (xT_of (List.mem_append_left _ (List.mem_of_getElem? (i := 28) rfl)) rfl), TX3, 10, rfl⟩
theorem lk_X3_3 : Cond.methodLink RX3 3 Lib.objectInit ∈ xT := (xT_of (List.mem_append_right _ (List.mem_of_getElem? (i := 22) rfl)) rfl)
theorem cs_X3_45 : x_CS RX3 45 kX4_copyRow 2 := ⟨Or.inr ⟨"HeatShelves", List.mem_of_getElem? (i := 6) rfl⟩, ck_X4_copyRow, (xT_of (List.mem_append_right _ (List.mem_of_getElem? (i := 171) rfl)) rfl)⟩
theorem cs_X3_49 : x_CS RX3 49 kX4_at 2 := ⟨Or.inr ⟨"HeatShelves", List.mem_of_getElem? (i := 8) rfl⟩, ck_X4_at, (xT_of (List.mem_append_right _ (List.mem_of_getElem? (i := 196) rfl)) rfl)⟩
theorem cv_X3_53 : x_CV RX3 53 kX3_countBlocks 0 3 := ⟨Or.inl (xT_of (List.mem_append_right _ (List.mem_of_getElem? (i := 191) rfl)) rfl), ck_X3_countBlocks, (xT_of (List.mem_append_right _ (List.mem_of_getElem? (i := 193) rfl)) rfl), (xT_of (List.mem_append_left _ (List.mem_of_getElem? (i := 4) rfl)) rfl), TX3, 10, rfl⟩
set_option maxRecDepth 20000 in
theorem cv_X3_57 : x_CV RX3 57 kX3_countHotter 1 3 := ⟨Or.inl (xT_of (List.mem_append_right _ (List.mem_of_getElem? (i := 430) rfl)) rfl), ck_X3_countHotter, (xT_of (List.mem_append_right _ (List.mem_of_getElem? (i := 432) rfl)) rfl), (xT_of (List.mem_append_left _ (List.mem_of_getElem? (i := 43) rfl)) rfl), TX3, 10, rfl⟩
set_option maxRecDepth 20000 in
theorem cv_X3_61 : x_CV RX3 61 kX3_heatOnShelf 1 3 := ⟨Or.inl (xT_of (List.mem_append_right _ (List.mem_of_getElem? (i := 466) rfl)) rfl), ck_X3_heatOnShelf, (xT_of (List.mem_append_right _ (List.mem_of_getElem? (i := 454) rfl)) rfl), (xT_of (List.mem_append_left _ (List.mem_of_getElem? (i := 46) rfl)) rfl), TX3, 10, rfl⟩
theorem cv_X3_64 : x_CV RX3 64 kX3_fastestWithRoom 1 3 := ⟨Or.inl (xT_of (List.mem_append_right _ (List.mem_of_getElem? (i := 183) rfl)) rfl), ck_X3_fastestWithRoom, (xT_of (List.mem_append_right _ (List.mem_of_getElem? (i := 185) rfl)) rfl), (xT_of (List.mem_append_left _ (List.mem_of_getElem? (i := 2) rfl)) rfl), TX3, 10, rfl⟩
theorem cs_X3_67 : x_CS RX3 67 kX4_put 3 := ⟨Or.inr ⟨"HeatShelves", List.mem_of_getElem? (i := 9) rfl⟩, ck_X4_put, (xT_of (List.mem_append_right _ (List.mem_of_getElem? (i := 199) rfl)) rfl)⟩
theorem cs_X3_71 : x_CS RX3 71 kX4_raise 3 := ⟨Or.inr ⟨"HeatShelves", List.mem_of_getElem? (i := 10) rfl⟩, ck_X4_raise, (xT_of (List.mem_append_right _ (List.mem_of_getElem? (i := 202) rfl)) rfl)⟩
theorem cv_X3_74 : x_CV RX3 74 kX3_hasRoom 2 3 := ⟨Or.inl (xT_of (List.mem_append_right _ (List.mem_of_getElem? (i := 187) rfl)) rfl), ck_X3_hasRoom, (xT_of (List.mem_append_right _ (List.mem_of_getElem? (i := 189) rfl)) rfl), (xT_of (List.mem_append_left _ (List.mem_of_getElem? (i := 3) rfl)) rfl), TX3, 10, rfl⟩
theorem cv_X3_78 : x_CV RX3 78 kX3_find 1 3 := ⟨Or.inl (xT_of (List.mem_append_right _ (List.mem_of_getElem? (i := 225) rfl)) rfl), ck_X3_find, (xT_of (List.mem_append_right _ (List.mem_of_getElem? (i := 227) rfl)) rfl), (xT_of (List.mem_append_left _ (List.mem_of_getElem? (i := 9) rfl)) rfl), TX3, 10, rfl⟩
theorem cs_X3_81 : x_CS RX3 81 kX4_closeGap 2 := ⟨Or.inr ⟨"HeatShelves", List.mem_of_getElem? (i := 14) rfl⟩, ck_X4_closeGap, (xT_of (List.mem_append_right _ (List.mem_of_getElem? (i := 230) rfl)) rfl)⟩
theorem cv_X3_85 : x_CV RX3 85 kX3_readOnce 1 3 := ⟨Or.inl (xT_of (List.mem_append_right _ (List.mem_of_getElem? (i := 243) rfl)) rfl), ck_X3_readOnce, (xT_of (List.mem_append_right _ (List.mem_of_getElem? (i := 245) rfl)) rfl), (xT_of (List.mem_append_left _ (List.mem_of_getElem? (i := 11) rfl)) rfl), TX3, 10, rfl⟩
theorem lk_X3_89 : Cond.methodLink RX3 89 Lib.Math.min.name ∈ xT := (xT_of (List.mem_append_right _ (List.mem_of_getElem? (i := 248) rfl)) rfl)
theorem cv_X3_95 : x_CV RX3 95 kX3_askBack 1 3 := ⟨Or.inl (xT_of (List.mem_append_right _ (List.mem_of_getElem? (i := 249) rfl)) rfl), ck_X3_askBack, (xT_of (List.mem_append_right _ (List.mem_of_getElem? (i := 251) rfl)) rfl), (xT_of (List.mem_append_left _ (List.mem_of_getElem? (i := 12) rfl)) rfl), TX3, 10, rfl⟩
theorem cv_X3_98 : x_CV RX3 98 kX3_moveTo 2 3 := ⟨Or.inl (xT_of (List.mem_append_right _ (List.mem_of_getElem? (i := 253) rfl)) rfl), ck_X3_moveTo, (xT_of (List.mem_append_right _ (List.mem_of_getElem? (i := 255) rfl)) rfl), (xT_of (List.mem_append_left _ (List.mem_of_getElem? (i := 13) rfl)) rfl), TX3, 10, rfl⟩
theorem lk_X4_1 : Cond.methodLink RX4 1 Lib.objectInit ∈ xT := (xT_of (List.mem_append_right _ (List.mem_of_getElem? (i := 14) rfl)) rfl)
set_option maxRecDepth 20000 in
theorem cv_X4_101 : x_CV RX4 101 kX3_placeOfRank 1 3 := ⟨Or.inr ⟨"HeatShelves", List.mem_of_getElem? (i := 36) rfl⟩, ck_X3_placeOfRank, (xT_of (List.mem_append_right _ (List.mem_of_getElem? (i := 428) rfl)) rfl), (xT_of (List.mem_append_left _ (List.mem_of_getElem? (i := 42) rfl)) rfl), TX3, 10, rfl⟩
theorem cs_X4_108 : x_CS RX4 108 kX4_at 2 := ⟨Or.inl (xT_of (List.mem_append_right _ (List.mem_of_getElem? (i := 277) rfl)) rfl), ck_X4_at, (xT_of (List.mem_append_right _ (List.mem_of_getElem? (i := 196) rfl)) rfl)⟩
theorem cv_X4_112 : x_CV RX4 112 kX3_find 1 3 := ⟨Or.inr ⟨"HeatShelves", List.mem_of_getElem? (i := 37) rfl⟩, ck_X3_find, (xT_of (List.mem_append_right _ (List.mem_of_getElem? (i := 227) rfl)) rfl), (xT_of (List.mem_append_left _ (List.mem_of_getElem? (i := 9) rfl)) rfl), TX3, 10, rfl⟩
set_option maxRecDepth 20000 in
theorem cv_X4_124 : x_CV RX4 124 kX3_wantedShelf 1 3 := ⟨Or.inr ⟨"HeatShelves", List.mem_of_getElem? (i := 38) rfl⟩, ck_X3_wantedShelf, (xT_of (List.mem_append_right _ (List.mem_of_getElem? (i := 303) rfl)) rfl), (xT_of (List.mem_append_left _ (List.mem_of_getElem? (i := 22) rfl)) rfl), TX3, 10, rfl⟩
set_option maxRecDepth 20000 in
theorem cv_X4_139 : x_CV RX4 139 kX4_whyItStays 1 4 := ⟨Or.inl (xT_of (List.mem_append_right _ (List.mem_of_getElem? (i := 440) rfl)) rfl), ck_X4_whyItStays, (xT_of (List.mem_append_right _ (List.mem_of_getElem? (i := 442) rfl)) rfl), (xT_of (List.mem_append_left _ (List.mem_of_getElem? (i := 44) rfl)) rfl), TX4, 7, rfl⟩
set_option maxRecDepth 20000 in
theorem cv_X4_148 : x_CV RX4 148 kX3_countOnShelf 1 3 := ⟨Or.inr ⟨"HeatShelves", List.mem_of_getElem? (i := 39) rfl⟩, ck_X3_countOnShelf, (xT_of (List.mem_append_right _ (List.mem_of_getElem? (i := 450) rfl)) rfl), (xT_of (List.mem_append_left _ (List.mem_of_getElem? (i := 45) rfl)) rfl), TX3, 10, rfl⟩
set_option maxRecDepth 20000 in
theorem cv_X4_151 : x_CV RX4 151 kX3_heatOnShelf 1 3 := ⟨Or.inr ⟨"HeatShelves", List.mem_of_getElem? (i := 40) rfl⟩, ck_X3_heatOnShelf, (xT_of (List.mem_append_right _ (List.mem_of_getElem? (i := 454) rfl)) rfl), (xT_of (List.mem_append_left _ (List.mem_of_getElem? (i := 46) rfl)) rfl), TX3, 10, rfl⟩
theorem cv_X4_154 : x_CV RX4 154 kX3_nightPriceOfShelf 1 3 := ⟨Or.inr ⟨"HeatShelves", List.mem_of_getElem? (i := 41) rfl⟩, ck_X3_nightPriceOfShelf, (xT_of (List.mem_append_right _ (List.mem_of_getElem? (i := 289) rfl)) rfl), (xT_of (List.mem_append_left _ (List.mem_of_getElem? (i := 19) rfl)) rfl), TX3, 10, rfl⟩
theorem cv_X4_157 : x_CV RX4 157 kX3_countPinned 0 3 := ⟨Or.inr ⟨"HeatShelves", List.mem_of_getElem? (i := 42) rfl⟩, ck_X3_countPinned, (xT_of (List.mem_append_right _ (List.mem_of_getElem? (i := 267) rfl)) rfl), (xT_of (List.mem_append_left _ (List.mem_of_getElem? (i := 15) rfl)) rfl), TX3, 10, rfl⟩
set_option maxRecDepth 20000 in
theorem cv_X4_160 : x_CV RX4 160 kX3_heatOfAll 0 3 := ⟨Or.inr ⟨"HeatShelves", List.mem_of_getElem? (i := 43) rfl⟩, ck_X3_heatOfAll, (xT_of (List.mem_append_right _ (List.mem_of_getElem? (i := 464) rfl)) rfl), (xT_of (List.mem_append_left _ (List.mem_of_getElem? (i := 47) rfl)) rfl), TX3, 10, rfl⟩
theorem cv_X4_166 : x_CV RX4 166 kX1_letPass 2 1 := ⟨Or.inr ⟨"HeatShelves", List.mem_of_getElem? (i := 17) rfl⟩, ck_X1_letPass, (xT_of (List.mem_append_right _ (List.mem_of_getElem? (i := 280) rfl)) rfl), (xT_of (List.mem_append_left _ (List.mem_of_getElem? (i := 17) rfl)) rfl), TX1, 2, rfl⟩
set_option maxRecDepth 20000 in
theorem cv_X4_170 : x_CV RX4 170 kX4_paidForNightsInWork 0 4 := ⟨Or.inl (xT_of (List.mem_append_right _ (List.mem_of_getElem? (i := 471) rfl)) rfl), ck_X4_paidForNightsInWork, (xT_of (List.mem_append_right _ (List.mem_of_getElem? (i := 473) rfl)) rfl), (xT_of (List.mem_append_left _ (List.mem_of_getElem? (i := 48) rfl)) rfl), TX4, 7, rfl⟩
set_option maxRecDepth 20000 in
theorem cv_X4_176 : x_CV RX4 176 kX4_paidWithHot 2 4 := ⟨Or.inl (xT_of (List.mem_append_right _ (List.mem_of_getElem? (i := 484) rfl)) rfl), ck_X4_paidWithHot, (xT_of (List.mem_append_right _ (List.mem_of_getElem? (i := 486) rfl)) rfl), (xT_of (List.mem_append_left _ (List.mem_of_getElem? (i := 49) rfl)) rfl), TX4, 7, rfl⟩
set_option maxRecDepth 20000 in
theorem cv_X4_179 : x_CV RX4 179 kX4_priceOfStay 3 4 := ⟨Or.inl (xT_of (List.mem_append_right _ (List.mem_of_getElem? (i := 493) rfl)) rfl), ck_X4_priceOfStay, (xT_of (List.mem_append_right _ (List.mem_of_getElem? (i := 495) rfl)) rfl), (xT_of (List.mem_append_left _ (List.mem_of_getElem? (i := 50) rfl)) rfl), TX4, 7, rfl⟩
theorem cv_X4_183 : x_CV RX4 183 kX0_record 1 0 := ⟨Or.inr ⟨"HeatShelves", List.mem_of_getElem? (i := 11) rfl⟩, ck_X0_record, (xT_of (List.mem_append_right _ (List.mem_of_getElem? (i := 210) rfl)) rfl), (xT_of (List.mem_append_left _ (List.mem_of_getElem? (i := 6) rfl)) rfl), TX0, 3, rfl⟩
set_option maxRecDepth 20000 in
theorem cv_X4_195 : x_CV RX4 195 kX3_flipPin 1 3 := ⟨Or.inr ⟨"HeatShelves", List.mem_of_getElem? (i := 33) rfl⟩, ck_X3_flipPin, (xT_of (List.mem_append_right _ (List.mem_of_getElem? (i := 402) rfl)) rfl), (xT_of (List.mem_append_left _ (List.mem_of_getElem? (i := 40) rfl)) rfl), TX3, 10, rfl⟩
set_option maxRecDepth 20000 in
theorem cs_X4_201 : x_CS RX4 201 kX4_put 3 := ⟨Or.inl (xT_of (List.mem_append_right _ (List.mem_of_getElem? (i := 488) rfl)) rfl), ck_X4_put, (xT_of (List.mem_append_right _ (List.mem_of_getElem? (i := 199) rfl)) rfl)⟩
theorem lk_X4_205 : Cond.methodLink RX4 205 Lib.Math.min.name ∈ xT := (xT_of (List.mem_append_right _ (List.mem_of_getElem? (i := 173) rfl)) rfl)
theorem lk_X4_210 : Cond.methodLink RX4 210 arraycopyName ∈ xT := (xT_of (List.mem_append_right _ (List.mem_of_getElem? (i := 176) rfl)) rfl)
theorem lk_X4_216 : Cond.methodLink RX4 216 Lib.Math.max.name ∈ xT := (xT_of (List.mem_append_right _ (List.mem_of_getElem? (i := 232) rfl)) rfl)
theorem cc_X4_28 : x_CC RX4 28 kX0_init 0 := ⟨Or.inr ⟨"HeatShelves", List.mem_of_getElem? (i := 1) rfl⟩, ck_X0_init, (xT_of (List.mem_append_right _ (List.mem_of_getElem? (i := 76) rfl)) rfl), rfl, rfl⟩
theorem cc_X4_35 : x_CC RX4 35 kX1_init 0 := ⟨Or.inr ⟨"HeatShelves", List.mem_of_getElem? (i := 3) rfl⟩, ck_X1_init, (xT_of (List.mem_append_right _ (List.mem_of_getElem? (i := 96) rfl)) rfl), rfl, rfl⟩
theorem cc_X4_42 : x_CC RX4 42 kX2_init 0 := ⟨Or.inr ⟨"HeatShelves", List.mem_of_getElem? (i := 4) rfl⟩, ck_X2_init, (xT_of (List.mem_append_right _ (List.mem_of_getElem? (i := 110) rfl)) rfl), rfl, rfl⟩
theorem cv_X4_47 : x_CV RX4 47 kX3_copyFrom 1 3 := ⟨Or.inr ⟨"HeatShelves", List.mem_of_getElem? (i := 5) rfl⟩, ck_X3_copyFrom, (xT_of (List.mem_append_right _ (List.mem_of_getElem? (i := 168) rfl)) rfl), (xT_of (List.mem_append_left _ (List.mem_of_getElem? (i := 0) rfl)) rfl), TX3, 10, rfl⟩
theorem cv_X4_51 : x_CV RX4 51 kX3_addBlock 1 3 := ⟨Or.inr ⟨"HeatShelves", List.mem_of_getElem? (i := 7) rfl⟩, ck_X3_addBlock, (xT_of (List.mem_append_right _ (List.mem_of_getElem? (i := 181) rfl)) rfl), (xT_of (List.mem_append_left _ (List.mem_of_getElem? (i := 1) rfl)) rfl), TX3, 10, rfl⟩
theorem cv_X4_55 : x_CV RX4 55 kX4_settle 1 4 := ⟨Or.inl (xT_of (List.mem_append_right _ (List.mem_of_getElem? (i := 204) rfl)) rfl), ck_X4_settle, (xT_of (List.mem_append_right _ (List.mem_of_getElem? (i := 206) rfl)) rfl), (xT_of (List.mem_append_left _ (List.mem_of_getElem? (i := 5) rfl)) rfl), TX4, 7, rfl⟩
theorem cv_X4_58 : x_CV RX4 58 kX3_dropBlock 1 3 := ⟨Or.inr ⟨"HeatShelves", List.mem_of_getElem? (i := 13) rfl⟩, ck_X3_dropBlock, (xT_of (List.mem_append_right _ (List.mem_of_getElem? (i := 223) rfl)) rfl), (xT_of (List.mem_append_left _ (List.mem_of_getElem? (i := 8) rfl)) rfl), TX3, 10, rfl⟩
theorem cv_X4_61 : x_CV RX4 61 kX3_readBlock 2 3 := ⟨Or.inr ⟨"HeatShelves", List.mem_of_getElem? (i := 15) rfl⟩, ck_X3_readBlock, (xT_of (List.mem_append_right _ (List.mem_of_getElem? (i := 241) rfl)) rfl), (xT_of (List.mem_append_left _ (List.mem_of_getElem? (i := 10) rfl)) rfl), TX3, 10, rfl⟩
theorem cv_X4_65 : x_CV RX4 65 kX3_turnPin 2 3 := ⟨Or.inr ⟨"HeatShelves", List.mem_of_getElem? (i := 16) rfl⟩, ck_X3_turnPin, (xT_of (List.mem_append_right _ (List.mem_of_getElem? (i := 263) rfl)) rfl), (xT_of (List.mem_append_left _ (List.mem_of_getElem? (i := 14) rfl)) rfl), TX3, 10, rfl⟩
theorem cv_X4_69 : x_CV RX4 69 kX4_passInWork 1 4 := ⟨Or.inl (xT_of (List.mem_append_right _ (List.mem_of_getElem? (i := 273) rfl)) rfl), ck_X4_passInWork, (xT_of (List.mem_append_right _ (List.mem_of_getElem? (i := 275) rfl)) rfl), (xT_of (List.mem_append_left _ (List.mem_of_getElem? (i := 16) rfl)) rfl), TX4, 7, rfl⟩
set_option maxRecDepth 20000 in
theorem cv_X4_72 : x_CV RX4 72 kX3_changeSetting 2 3 := ⟨Or.inr ⟨"HeatShelves", List.mem_of_getElem? (i := 27) rfl⟩, ck_X3_changeSetting, (xT_of (List.mem_append_right _ (List.mem_of_getElem? (i := 334) rfl)) rfl), (xT_of (List.mem_append_left _ (List.mem_of_getElem? (i := 27) rfl)) rfl), TX3, 10, rfl⟩
set_option maxRecDepth 20000 in
theorem cv_X4_75 : x_CV RX4 75 kX2_append 1 2 := ⟨Or.inr ⟨"HeatShelves", List.mem_of_getElem? (i := 28) rfl⟩, ck_X2_append, (xT_of (List.mem_append_right _ (List.mem_of_getElem? (i := 348) rfl)) rfl), (xT_of (List.mem_append_left _ (List.mem_of_getElem? (i := 29) rfl)) rfl), TX2, 7, rfl⟩
set_option maxRecDepth 20000 in
theorem cv_X4_79 : x_CV RX4 79 kX2_empty 0 2 := ⟨Or.inr ⟨"HeatShelves", List.mem_of_getElem? (i := 30) rfl⟩, ck_X2_empty, (xT_of (List.mem_append_right _ (List.mem_of_getElem? (i := 357) rfl)) rfl), (xT_of (List.mem_append_left _ (List.mem_of_getElem? (i := 30) rfl)) rfl), TX2, 7, rfl⟩
set_option maxRecDepth 20000 in
theorem cv_X4_83 : x_CV RX4 83 kX2_readAll 0 2 := ⟨Or.inr ⟨"HeatShelves", List.mem_of_getElem? (i := 31) rfl⟩, ck_X2_readAll, (xT_of (List.mem_append_right _ (List.mem_of_getElem? (i := 365) rfl)) rfl), (xT_of (List.mem_append_left _ (List.mem_of_getElem? (i := 31) rfl)) rfl), TX2, 7, rfl⟩
theorem cc_X4_9 : x_CC RX4 9 kX3_init 0 := ⟨Or.inr ⟨"HeatShelves", List.mem_of_getElem? (i := 0) rfl⟩, ck_X3_init, (xT_of (List.mem_append_right _ (List.mem_of_getElem? (i := 20) rfl)) rfl), rfl, rfl⟩
set_option maxRecDepth 20000 in
theorem cv_X4_90 : x_CV RX4 90 kX4_performInWork 1 4 := ⟨Or.inl (xT_of (List.mem_append_right _ (List.mem_of_getElem? (i := 396) rfl)) rfl), ck_X4_performInWork, (xT_of (List.mem_append_right _ (List.mem_of_getElem? (i := 398) rfl)) rfl), (xT_of (List.mem_append_left _ (List.mem_of_getElem? (i := 39) rfl)) rfl), TX4, 7, rfl⟩
set_option maxRecDepth 20000 in
theorem cv_X4_93 : x_CV RX4 93 kX0_takeLatest 1 0 := ⟨Or.inr ⟨"HeatShelves", List.mem_of_getElem? (i := 34) rfl⟩, ck_X0_takeLatest, (xT_of (List.mem_append_right _ (List.mem_of_getElem? (i := 411) rfl)) rfl), (xT_of (List.mem_append_left _ (List.mem_of_getElem? (i := 41) rfl)) rfl), TX0, 3, rfl⟩
theorem cv_X4_98 : x_CV RX4 98 kX3_countBlocks 0 3 := ⟨Or.inr ⟨"HeatShelves", List.mem_of_getElem? (i := 35) rfl⟩, ck_X3_countBlocks, (xT_of (List.mem_append_right _ (List.mem_of_getElem? (i := 193) rfl)) rfl), (xT_of (List.mem_append_left _ (List.mem_of_getElem? (i := 4) rfl)) rfl), TX3, 10, rfl⟩
set_option maxRecDepth 20000 in
theorem lk_X5_1 : Cond.methodLink RX5 1 Lib.objectInit ∈ xT := (xT_of (List.mem_append_right _ (List.mem_of_getElem? (i := 502) rfl)) rfl)
set_option maxRecDepth 20000 in
theorem cv_X5_102 : x_CV RX5 102 kX5_passesIn 1 5 := ⟨Or.inl (xT_of (List.mem_append_right _ (List.mem_of_getElem? (i := 607) rfl)) rfl), ck_X5_passesIn, (xT_of (List.mem_append_right _ (List.mem_of_getElem? (i := 609) rfl)) rfl), (xT_of (List.mem_append_left _ (List.mem_of_getElem? (i := 64) rfl)) rfl), TX5, 8, rfl⟩
set_option maxRecDepth 20000 in
theorem cs_X5_105 : x_CS RX5 105 kX5_mostOf 1 := ⟨Or.inl (xT_of (List.mem_append_right _ (List.mem_of_getElem? (i := 643) rfl)) rfl), ck_X5_mostOf, (xT_of (List.mem_append_right _ (List.mem_of_getElem? (i := 644) rfl)) rfl)⟩
set_option maxRecDepth 20000 in
theorem cv_X5_111 : x_CV RX5 111 kX5_sign 1 5 := ⟨Or.inl (xT_of (List.mem_append_right _ (List.mem_of_getElem? (i := 666) rfl)) rfl), ck_X5_sign, (xT_of (List.mem_append_right _ (List.mem_of_getElem? (i := 668) rfl)) rfl), (xT_of (List.mem_append_left _ (List.mem_of_getElem? (i := 74) rfl)) rfl), TX5, 8, rfl⟩
set_option maxRecDepth 20000 in
theorem cv_X5_114 : x_CV RX5 114 kX5_digit 1 5 := ⟨Or.inl (xT_of (List.mem_append_right _ (List.mem_of_getElem? (i := 674) rfl)) rfl), ck_X5_digit, (xT_of (List.mem_append_right _ (List.mem_of_getElem? (i := 676) rfl)) rfl), (xT_of (List.mem_append_left _ (List.mem_of_getElem? (i := 76) rfl)) rfl), TX5, 8, rfl⟩
set_option maxRecDepth 20000 in
theorem cv_X5_117 : x_CV RX5 117 kX5_numberEnd 3 5 := ⟨Or.inl (xT_of (List.mem_append_right _ (List.mem_of_getElem? (i := 670) rfl)) rfl), ck_X5_numberEnd, (xT_of (List.mem_append_right _ (List.mem_of_getElem? (i := 672) rfl)) rfl), (xT_of (List.mem_append_left _ (List.mem_of_getElem? (i := 75) rfl)) rfl), TX5, 8, rfl⟩
set_option maxRecDepth 20000 in
theorem cv_X5_120 : x_CV RX5 120 kX5_orderEnd 1 5 := ⟨Or.inl (xT_of (List.mem_append_right _ (List.mem_of_getElem? (i := 662) rfl)) rfl), ck_X5_orderEnd, (xT_of (List.mem_append_right _ (List.mem_of_getElem? (i := 664) rfl)) rfl), (xT_of (List.mem_append_left _ (List.mem_of_getElem? (i := 73) rfl)) rfl), TX5, 8, rfl⟩
set_option maxRecDepth 20000 in
theorem cv_X5_123 : x_CV RX5 123 kX5_numberAt 1 5 := ⟨Or.inl (xT_of (List.mem_append_right _ (List.mem_of_getElem? (i := 682) rfl)) rfl), ck_X5_numberAt, (xT_of (List.mem_append_right _ (List.mem_of_getElem? (i := 684) rfl)) rfl), (xT_of (List.mem_append_left _ (List.mem_of_getElem? (i := 78) rfl)) rfl), TX5, 8, rfl⟩
set_option maxRecDepth 20000 in
theorem cv_X5_126 : x_CV RX5 126 kX5_fault 0 5 := ⟨Or.inl (xT_of (List.mem_append_right _ (List.mem_of_getElem? (i := 658) rfl)) rfl), ck_X5_fault, (xT_of (List.mem_append_right _ (List.mem_of_getElem? (i := 660) rfl)) rfl), (xT_of (List.mem_append_left _ (List.mem_of_getElem? (i := 72) rfl)) rfl), TX5, 8, rfl⟩
set_option maxRecDepth 20000 in
theorem cv_X5_130 : x_CV RX5 130 kX5_does 1 5 := ⟨Or.inl (xT_of (List.mem_append_right _ (List.mem_of_getElem? (i := 678) rfl)) rfl), ck_X5_does, (xT_of (List.mem_append_right _ (List.mem_of_getElem? (i := 680) rfl)) rfl), (xT_of (List.mem_append_left _ (List.mem_of_getElem? (i := 77) rfl)) rfl), TX5, 8, rfl⟩
set_option maxRecDepth 20000 in
theorem cv_X5_137 : x_CV RX5 137 kX5_whyStays 1 5 := ⟨Or.inl (xT_of (List.mem_append_right _ (List.mem_of_getElem? (i := 706) rfl)) rfl), ck_X5_whyStays, (xT_of (List.mem_append_right _ (List.mem_of_getElem? (i := 708) rfl)) rfl), (xT_of (List.mem_append_left _ (List.mem_of_getElem? (i := 79) rfl)) rfl), TX5, 8, rfl⟩
set_option maxRecDepth 20000 in
theorem cv_X5_140 : x_CV RX5 140 kX5_heat 1 5 := ⟨Or.inl (xT_of (List.mem_append_right _ (List.mem_of_getElem? (i := 718) rfl)) rfl), ck_X5_heat, (xT_of (List.mem_append_right _ (List.mem_of_getElem? (i := 720) rfl)) rfl), (xT_of (List.mem_append_left _ (List.mem_of_getElem? (i := 80) rfl)) rfl), TX5, 8, rfl⟩
set_option maxRecDepth 20000 in
theorem cv_X5_29 : x_CV RX5 29 kX5_remembers 0 5 := ⟨Or.inl (xT_of (List.mem_append_right _ (List.mem_of_getElem? (i := 562) rfl)) rfl), ck_X5_remembers, (xT_of (List.mem_append_right _ (List.mem_of_getElem? (i := 564) rfl)) rfl), (xT_of (List.mem_append_left _ (List.mem_of_getElem? (i := 57) rfl)) rfl), TX5, 8, rfl⟩
set_option maxRecDepth 20000 in
theorem cs_X5_32 : x_CS RX5 32 kX5_at 2 := ⟨Or.inl (xT_of (List.mem_append_right _ (List.mem_of_getElem? (i := 551) rfl)) rfl), ck_X5_at, (xT_of (List.mem_append_right _ (List.mem_of_getElem? (i := 552) rfl)) rfl)⟩
set_option maxRecDepth 20000 in
theorem cv_X5_36 : x_CV RX5 36 kX5_on 3 5 := ⟨Or.inl (xT_of (List.mem_append_right _ (List.mem_of_getElem? (i := 547) rfl)) rfl), ck_X5_on, (xT_of (List.mem_append_right _ (List.mem_of_getElem? (i := 549) rfl)) rfl), (xT_of (List.mem_append_left _ (List.mem_of_getElem? (i := 54) rfl)) rfl), TX5, 8, rfl⟩
set_option maxRecDepth 20000 in
theorem cv_X5_40 : x_CV RX5 40 kX5_wanted 2 5 := ⟨Or.inl (xT_of (List.mem_append_right _ (List.mem_of_getElem? (i := 623) rfl)) rfl), ck_X5_wanted, (xT_of (List.mem_append_right _ (List.mem_of_getElem? (i := 625) rfl)) rfl), (xT_of (List.mem_append_left _ (List.mem_of_getElem? (i := 68) rfl)) rfl), TX5, 8, rfl⟩
set_option maxRecDepth 20000 in
theorem cv_X5_43 : x_CV RX5 43 kX5_hasRoom 3 5 := ⟨Or.inl (xT_of (List.mem_append_right _ (List.mem_of_getElem? (i := 543) rfl)) rfl), ck_X5_hasRoom, (xT_of (List.mem_append_right _ (List.mem_of_getElem? (i := 545) rfl)) rfl), (xT_of (List.mem_append_left _ (List.mem_of_getElem? (i := 53) rfl)) rfl), TX5, 8, rfl⟩
set_option maxRecDepth 20000 in
theorem cv_X5_47 : x_CV RX5 47 kX5_next 2 5 := ⟨Or.inl (xT_of (List.mem_append_right _ (List.mem_of_getElem? (i := 631) rfl)) rfl), ck_X5_next, (xT_of (List.mem_append_right _ (List.mem_of_getElem? (i := 633) rfl)) rfl), (xT_of (List.mem_append_left _ (List.mem_of_getElem? (i := 70) rfl)) rfl), TX5, 8, rfl⟩
set_option maxRecDepth 20000 in
theorem cv_X5_51 : x_CV RX5 51 kX5_target 2 5 := ⟨Or.inl (xT_of (List.mem_append_right _ (List.mem_of_getElem? (i := 635) rfl)) rfl), ck_X5_target, (xT_of (List.mem_append_right _ (List.mem_of_getElem? (i := 637) rfl)) rfl), (xT_of (List.mem_append_left _ (List.mem_of_getElem? (i := 71) rfl)) rfl), TX5, 8, rfl⟩
set_option maxRecDepth 20000 in
theorem cv_X5_54 : x_CV RX5 54 kX5_costs 2 5 := ⟨Or.inl (xT_of (List.mem_append_right _ (List.mem_of_getElem? (i := 619) rfl)) rfl), ck_X5_costs, (xT_of (List.mem_append_right _ (List.mem_of_getElem? (i := 621) rfl)) rfl), (xT_of (List.mem_append_left _ (List.mem_of_getElem? (i := 67) rfl)) rfl), TX5, 8, rfl⟩
set_option maxRecDepth 20000 in
theorem cv_X5_57 : x_CV RX5 57 kX5_turns 3 5 := ⟨Or.inl (xT_of (List.mem_append_right _ (List.mem_of_getElem? (i := 627) rfl)) rfl), ck_X5_turns, (xT_of (List.mem_append_right _ (List.mem_of_getElem? (i := 629) rfl)) rfl), (xT_of (List.mem_append_left _ (List.mem_of_getElem? (i := 69) rfl)) rfl), TX5, 8, rfl⟩
set_option maxRecDepth 20000 in
theorem cv_X5_61 : x_CV RX5 61 kX5_passesOne 1 5 := ⟨Or.inl (xT_of (List.mem_append_right _ (List.mem_of_getElem? (i := 615) rfl)) rfl), ck_X5_passesOne, (xT_of (List.mem_append_right _ (List.mem_of_getElem? (i := 617) rfl)) rfl), (xT_of (List.mem_append_left _ (List.mem_of_getElem? (i := 66) rfl)) rfl), TX5, 8, rfl⟩
set_option maxRecDepth 20000 in
theorem cv_X5_65 : x_CV RX5 65 kX5_placeOf 2 5 := ⟨Or.inl (xT_of (List.mem_append_right _ (List.mem_of_getElem? (i := 574) rfl)) rfl), ck_X5_placeOf, (xT_of (List.mem_append_right _ (List.mem_of_getElem? (i := 576) rfl)) rfl), (xT_of (List.mem_append_left _ (List.mem_of_getElem? (i := 59) rfl)) rfl), TX5, 8, rfl⟩
set_option maxRecDepth 20000 in
theorem cv_X5_69 : x_CV RX5 69 kX5_readsOne 1 5 := ⟨Or.inl (xT_of (List.mem_append_right _ (List.mem_of_getElem? (i := 586) rfl)) rfl), ck_X5_readsOne, (xT_of (List.mem_append_right _ (List.mem_of_getElem? (i := 588) rfl)) rfl), (xT_of (List.mem_append_left _ (List.mem_of_getElem? (i := 61) rfl)) rfl), TX5, 8, rfl⟩
set_option maxRecDepth 20000 in
theorem cv_X5_72 : x_CV RX5 72 kX5_pinned 1 5 := ⟨Or.inl (xT_of (List.mem_append_right _ (List.mem_of_getElem? (i := 599) rfl)) rfl), ck_X5_pinned, (xT_of (List.mem_append_right _ (List.mem_of_getElem? (i := 601) rfl)) rfl), (xT_of (List.mem_append_left _ (List.mem_of_getElem? (i := 63) rfl)) rfl), TX5, 8, rfl⟩
set_option maxRecDepth 20000 in
theorem cv_X5_75 : x_CV RX5 75 kX5_passes 2 5 := ⟨Or.inl (xT_of (List.mem_append_right _ (List.mem_of_getElem? (i := 611) rfl)) rfl), ck_X5_passes, (xT_of (List.mem_append_right _ (List.mem_of_getElem? (i := 613) rfl)) rfl), (xT_of (List.mem_append_left _ (List.mem_of_getElem? (i := 65) rfl)) rfl), TX5, 8, rfl⟩
set_option maxRecDepth 20000 in
theorem cv_X5_78 : x_CV RX5 78 kX5_lays 0 5 := ⟨Or.inl (xT_of (List.mem_append_right _ (List.mem_of_getElem? (i := 558) rfl)) rfl), ck_X5_lays, (xT_of (List.mem_append_right _ (List.mem_of_getElem? (i := 560) rfl)) rfl), (xT_of (List.mem_append_left _ (List.mem_of_getElem? (i := 56) rfl)) rfl), TX5, 8, rfl⟩
set_option maxRecDepth 20000 in
theorem cs_X5_81 : x_CS RX5 81 kX5_in 3 := ⟨Or.inl (xT_of (List.mem_append_right _ (List.mem_of_getElem? (i := 532) rfl)) rfl), ck_X5_in, (xT_of (List.mem_append_right _ (List.mem_of_getElem? (i := 533) rfl)) rfl)⟩
set_option maxRecDepth 20000 in
theorem cv_X5_84 : x_CV RX5 84 kX5_copies 0 5 := ⟨Or.inl (xT_of (List.mem_append_right _ (List.mem_of_getElem? (i := 535) rfl)) rfl), ck_X5_copies, (xT_of (List.mem_append_right _ (List.mem_of_getElem? (i := 537) rfl)) rfl), (xT_of (List.mem_append_left _ (List.mem_of_getElem? (i := 51) rfl)) rfl), TX5, 8, rfl⟩
set_option maxRecDepth 20000 in
theorem cv_X5_87 : x_CV RX5 87 kX5_adds 1 5 := ⟨Or.inl (xT_of (List.mem_append_right _ (List.mem_of_getElem? (i := 539) rfl)) rfl), ck_X5_adds, (xT_of (List.mem_append_right _ (List.mem_of_getElem? (i := 541) rfl)) rfl), (xT_of (List.mem_append_left _ (List.mem_of_getElem? (i := 52) rfl)) rfl), TX5, 8, rfl⟩
set_option maxRecDepth 20000 in
theorem cv_X5_90 : x_CV RX5 90 kX5_changes 1 5 := ⟨Or.inl (xT_of (List.mem_append_right _ (List.mem_of_getElem? (i := 554) rfl)) rfl), ck_X5_changes, (xT_of (List.mem_append_right _ (List.mem_of_getElem? (i := 556) rfl)) rfl), (xT_of (List.mem_append_left _ (List.mem_of_getElem? (i := 55) rfl)) rfl), TX5, 8, rfl⟩
set_option maxRecDepth 20000 in
theorem cv_X5_93 : x_CV RX5 93 kX5_removes 1 5 := ⟨Or.inl (xT_of (List.mem_append_right _ (List.mem_of_getElem? (i := 570) rfl)) rfl), ck_X5_removes, (xT_of (List.mem_append_right _ (List.mem_of_getElem? (i := 572) rfl)) rfl), (xT_of (List.mem_append_left _ (List.mem_of_getElem? (i := 58) rfl)) rfl), TX5, 8, rfl⟩
set_option maxRecDepth 20000 in
theorem cv_X5_96 : x_CV RX5 96 kX5_reads 2 5 := ⟨Or.inl (xT_of (List.mem_append_right _ (List.mem_of_getElem? (i := 582) rfl)) rfl), ck_X5_reads, (xT_of (List.mem_append_right _ (List.mem_of_getElem? (i := 584) rfl)) rfl), (xT_of (List.mem_append_left _ (List.mem_of_getElem? (i := 60) rfl)) rfl), TX5, 8, rfl⟩
set_option maxRecDepth 20000 in
theorem cv_X5_99 : x_CV RX5 99 kX5_turnsPin 1 5 := ⟨Or.inl (xT_of (List.mem_append_right _ (List.mem_of_getElem? (i := 595) rfl)) rfl), ck_X5_turnsPin, (xT_of (List.mem_append_right _ (List.mem_of_getElem? (i := 597) rfl)) rfl), (xT_of (List.mem_append_left _ (List.mem_of_getElem? (i := 62) rfl)) rfl), TX5, 8, rfl⟩
theorem lw_X3_88 : Cond.constant RX3 88 (99999 : Int32) ∈ xT := (xT_of (List.mem_append_right _ (List.mem_of_getElem? (i := 247) rfl)) rfl)
set_option maxRecDepth 20000 in
theorem lw_X5_68 : Cond.constant RX5 68 (99999 : Int32) ∈ xT := (xT_of (List.mem_append_right _ (List.mem_of_getElem? (i := 590) rfl)) rfl)
theorem gf_X4_10 : x_GF RX4 10 4 0 := ⟨RX4, TX4, 7, rfl, rfl, by decide, inX4, Or.inl (xT_of (List.mem_append_right _ (List.mem_of_getElem? (i := 140) rfl)) rfl)⟩
theorem pf_X4_10 : x_PF RX4 10 4 0 (.object "HeatShelves$State") true := ⟨RX4, TX4, 7, tyX4, rfl, rfl, by decide, inX4, (xT_of (List.mem_append_right _ (List.mem_of_getElem? (i := 140) rfl)) rfl), tyX4_ok, nmX4, rfl, rfl, rfl⟩
theorem gf_X4_16 : x_GF RX4 16 4 1 := ⟨RX4, TX4, 7, rfl, rfl, by decide, inX4, Or.inl (xT_of (List.mem_append_right _ (List.mem_of_getElem? (i := 141) rfl)) rfl)⟩
theorem pf_X4_16 : x_PF RX4 16 4 1 (.object "HeatShelves$State") true := ⟨RX4, TX4, 7, tyX4, rfl, rfl, by decide, inX4, (xT_of (List.mem_append_right _ (List.mem_of_getElem? (i := 141) rfl)) rfl), tyX4_ok, nmX4, rfl, rfl, rfl⟩
theorem gf_X4_19 : x_GF RX4 19 4 2 := ⟨RX4, TX4, 7, rfl, rfl, by decide, inX4, Or.inl (xT_of (List.mem_append_right _ (List.mem_of_getElem? (i := 142) rfl)) rfl)⟩
theorem pf_X4_19 : x_PF RX4 19 4 2 (.object "HeatShelves$State") true := ⟨RX4, TX4, 7, tyX4, rfl, rfl, by decide, inX4, (xT_of (List.mem_append_right _ (List.mem_of_getElem? (i := 142) rfl)) rfl), tyX4_ok, nmX4, rfl, rfl, rfl⟩
theorem gf_X4_22 : x_GF RX4 22 4 3 := ⟨RX4, TX4, 7, rfl, rfl, by decide, inX4, Or.inl (xT_of (List.mem_append_right _ (List.mem_of_getElem? (i := 143) rfl)) rfl)⟩
theorem pf_X4_22 : x_PF RX4 22 4 3 .boolean false := ⟨RX4, TX4, 7, tyX4, rfl, rfl, by decide, inX4, (xT_of (List.mem_append_right _ (List.mem_of_getElem? (i := 143) rfl)) rfl), tyX4_ok, nmX4, rfl, rfl, rfl⟩
theorem gf_X4_29 : x_GF RX4 29 4 4 := ⟨RX4, TX4, 7, rfl, rfl, by decide, inX4, Or.inl (xT_of (List.mem_append_right _ (List.mem_of_getElem? (i := 144) rfl)) rfl)⟩
theorem pf_X4_29 : x_PF RX4 29 4 4 (.object "HeatShelves$History") true := ⟨RX4, TX4, 7, tyX4, rfl, rfl, by decide, inX4, (xT_of (List.mem_append_right _ (List.mem_of_getElem? (i := 144) rfl)) rfl), tyX4_ok, nmX4, rfl, rfl, rfl⟩
theorem gf_X4_36 : x_GF RX4 36 4 5 := ⟨RX4, TX4, 7, rfl, rfl, by decide, inX4, Or.inl (xT_of (List.mem_append_right _ (List.mem_of_getElem? (i := 145) rfl)) rfl)⟩
theorem pf_X4_36 : x_PF RX4 36 4 5 (.object "HeatShelves$Night") true := ⟨RX4, TX4, 7, tyX4, rfl, rfl, by decide, inX4, (xT_of (List.mem_append_right _ (List.mem_of_getElem? (i := 145) rfl)) rfl), tyX4_ok, nmX4, rfl, rfl, rfl⟩
theorem gf_X4_43 : x_GF RX4 43 4 6 := ⟨RX4, TX4, 7, rfl, rfl, by decide, inX4, Or.inl (xT_of (List.mem_append_right _ (List.mem_of_getElem? (i := 146) rfl)) rfl)⟩
theorem pf_X4_43 : x_PF RX4 43 4 6 (.object "HeatShelves$Orders") true := ⟨RX4, TX4, 7, tyX4, rfl, rfl, by decide, inX4, (xT_of (List.mem_append_right _ (List.mem_of_getElem? (i := 146) rfl)) rfl), tyX4_ok, nmX4, rfl, rfl, rfl⟩
theorem gf_X4_86 : x_GF RX4 86 2 5 := ⟨RX2, TX2, 7, rfl, rfl, by decide, inX2, Or.inr ⟨"HeatShelves", List.mem_of_getElem? (i := 23) rfl⟩⟩
theorem gf_X4_97 : x_GF RX4 97 0 2 := ⟨RX0, TX0, 3, rfl, rfl, by decide, inX0, Or.inr ⟨"HeatShelves", List.mem_of_getElem? (i := 17) rfl⟩⟩
theorem gf_X4_104 : x_GF RX4 104 3 2 := ⟨RX3, TX3, 10, rfl, rfl, by decide, inX3, Or.inr ⟨"HeatShelves", List.mem_of_getElem? (i := 4) rfl⟩⟩
theorem gf_X4_115 : x_GF RX4 115 3 3 := ⟨RX3, TX3, 10, rfl, rfl, by decide, inX3, Or.inr ⟨"HeatShelves", List.mem_of_getElem? (i := 6) rfl⟩⟩
theorem gf_X4_118 : x_GF RX4 118 3 4 := ⟨RX3, TX3, 10, rfl, rfl, by decide, inX3, Or.inr ⟨"HeatShelves", List.mem_of_getElem? (i := 8) rfl⟩⟩
theorem gf_X4_121 : x_GF RX4 121 3 5 := ⟨RX3, TX3, 10, rfl, rfl, by decide, inX3, Or.inr ⟨"HeatShelves", List.mem_of_getElem? (i := 10) rfl⟩⟩
theorem gf_X4_127 : x_GF RX4 127 3 6 := ⟨RX3, TX3, 10, rfl, rfl, by decide, inX3, Or.inr ⟨"HeatShelves", List.mem_of_getElem? (i := 12) rfl⟩⟩
theorem gf_X4_130 : x_GF RX4 130 3 7 := ⟨RX3, TX3, 10, rfl, rfl, by decide, inX3, Or.inr ⟨"HeatShelves", List.mem_of_getElem? (i := 14) rfl⟩⟩
theorem gf_X4_133 : x_GF RX4 133 3 8 := ⟨RX3, TX3, 10, rfl, rfl, by decide, inX3, Or.inr ⟨"HeatShelves", List.mem_of_getElem? (i := 15) rfl⟩⟩
theorem gf_X4_136 : x_GF RX4 136 3 9 := ⟨RX3, TX3, 10, rfl, rfl, by decide, inX3, Or.inr ⟨"HeatShelves", List.mem_of_getElem? (i := 16) rfl⟩⟩
theorem gf_X4_142 : x_GF RX4 142 3 0 := ⟨RX3, TX3, 10, rfl, rfl, by decide, inX3, Or.inr ⟨"HeatShelves", List.mem_of_getElem? (i := 2) rfl⟩⟩
theorem gf_X4_145 : x_GF RX4 145 3 1 := ⟨RX3, TX3, 10, rfl, rfl, by decide, inX3, Or.inr ⟨"HeatShelves", List.mem_of_getElem? (i := 3) rfl⟩⟩
theorem gf_X4_163 : x_GF RX4 163 2 1 := ⟨RX2, TX2, 7, rfl, rfl, by decide, inX2, Or.inr ⟨"HeatShelves", List.mem_of_getElem? (i := 19) rfl⟩⟩
set_option maxRecDepth 20000 in
theorem gs_X4_173 : x_GS RX4 173 "GREATEST_VALUES" := Or.inl (xT_of (List.mem_append_right _ (List.mem_of_getElem? (i := 483) rfl)) rfl)
theorem gf_X4_186 : x_GF RX4 186 2 2 := ⟨RX2, TX2, 7, rfl, rfl, by decide, inX2, Or.inr ⟨"HeatShelves", List.mem_of_getElem? (i := 20) rfl⟩⟩
theorem gf_X4_189 : x_GF RX4 189 2 3 := ⟨RX2, TX2, 7, rfl, rfl, by decide, inX2, Or.inr ⟨"HeatShelves", List.mem_of_getElem? (i := 21) rfl⟩⟩
theorem gf_X4_192 : x_GF RX4 192 2 4 := ⟨RX2, TX2, 7, rfl, rfl, by decide, inX2, Or.inr ⟨"HeatShelves", List.mem_of_getElem? (i := 22) rfl⟩⟩
theorem gf_X4_198 : x_GF RX4 198 1 1 := ⟨RX1, TX1, 2, rfl, rfl, by decide, inX1, Or.inr ⟨"HeatShelves", List.mem_of_getElem? (i := 18) rfl⟩⟩
theorem gf_X0_11 : x_GF RX0 11 0 0 := ⟨RX0, TX0, 3, rfl, rfl, by decide, inX0, Or.inl (xT_of (List.mem_append_right _ (List.mem_of_getElem? (i := 82) rfl)) rfl)⟩
theorem pf_X0_11 : x_PF RX0 11 0 0 (.array (.object "HeatShelves$State")) true := ⟨RX0, TX0, 3, tyX0, rfl, rfl, by decide, inX0, (xT_of (List.mem_append_right _ (List.mem_of_getElem? (i := 82) rfl)) rfl), tyX0_ok, nmX0, rfl, rfl, rfl⟩
theorem gf_X0_17 : x_GF RX0 17 0 1 := ⟨RX0, TX0, 3, rfl, rfl, by decide, inX0, Or.inl (xT_of (List.mem_append_right _ (List.mem_of_getElem? (i := 83) rfl)) rfl)⟩
theorem pf_X0_17 : x_PF RX0 17 0 1 .int false := ⟨RX0, TX0, 3, tyX0, rfl, rfl, by decide, inX0, (xT_of (List.mem_append_right _ (List.mem_of_getElem? (i := 83) rfl)) rfl), tyX0_ok, nmX0, rfl, rfl, rfl⟩
theorem gf_X0_21 : x_GF RX0 21 0 2 := ⟨RX0, TX0, 3, rfl, rfl, by decide, inX0, Or.inl (xT_of (List.mem_append_right _ (List.mem_of_getElem? (i := 84) rfl)) rfl)⟩
theorem pf_X0_21 : x_PF RX0 21 0 2 .int false := ⟨RX0, TX0, 3, tyX0, rfl, rfl, by decide, inX0, (xT_of (List.mem_append_right _ (List.mem_of_getElem? (i := 84) rfl)) rfl), tyX0_ok, nmX0, rfl, rfl, rfl⟩
theorem gf_X1_9 : x_GF RX1 9 1 0 := ⟨RX1, TX1, 2, rfl, rfl, by decide, inX1, Or.inl (xT_of (List.mem_append_right _ (List.mem_of_getElem? (i := 99) rfl)) rfl)⟩
theorem pf_X1_9 : x_PF RX1 9 1 0 (.array .int) true := ⟨RX1, TX1, 2, tyX1, rfl, rfl, by decide, inX1, (xT_of (List.mem_append_right _ (List.mem_of_getElem? (i := 99) rfl)) rfl), tyX1_ok, nmX1, rfl, rfl, rfl⟩
theorem gf_X1_15 : x_GF RX1 15 1 1 := ⟨RX1, TX1, 2, rfl, rfl, by decide, inX1, Or.inl (xT_of (List.mem_append_right _ (List.mem_of_getElem? (i := 100) rfl)) rfl)⟩
theorem pf_X1_15 : x_PF RX1 15 1 1 (.array .int) true := ⟨RX1, TX1, 2, tyX1, rfl, rfl, by decide, inX1, (xT_of (List.mem_append_right _ (List.mem_of_getElem? (i := 100) rfl)) rfl), tyX1_ok, nmX1, rfl, rfl, rfl⟩
theorem gf_X1_18 : x_GF RX1 18 3 0 := ⟨RX3, TX3, 10, rfl, rfl, by decide, inX3, Or.inr ⟨"HeatShelves", List.mem_of_getElem? (i := 1) rfl⟩⟩
theorem gf_X1_56 : x_GF RX1 56 3 6 := ⟨RX3, TX3, 10, rfl, rfl, by decide, inX3, Or.inr ⟨"HeatShelves", List.mem_of_getElem? (i := 11) rfl⟩⟩
theorem gf_X1_59 : x_GF RX1 59 3 7 := ⟨RX3, TX3, 10, rfl, rfl, by decide, inX3, Or.inr ⟨"HeatShelves", List.mem_of_getElem? (i := 13) rfl⟩⟩
theorem gf_X1_62 : x_GF RX1 62 3 5 := ⟨RX3, TX3, 10, rfl, rfl, by decide, inX3, Or.inr ⟨"HeatShelves", List.mem_of_getElem? (i := 9) rfl⟩⟩
theorem gf_X1_81 : x_GF RX1 81 3 4 := ⟨RX3, TX3, 10, rfl, rfl, by decide, inX3, Or.inr ⟨"HeatShelves", List.mem_of_getElem? (i := 7) rfl⟩⟩
theorem gf_X1_84 : x_GF RX1 84 3 3 := ⟨RX3, TX3, 10, rfl, rfl, by decide, inX3, Or.inr ⟨"HeatShelves", List.mem_of_getElem? (i := 5) rfl⟩⟩
theorem gf_X2_9 : x_GF RX2 9 2 0 := ⟨RX2, TX2, 7, rfl, rfl, by decide, inX2, Or.inl (xT_of (List.mem_append_right _ (List.mem_of_getElem? (i := 113) rfl)) rfl)⟩
theorem pf_X2_9 : x_PF RX2 9 2 0 (.array .int) true := ⟨RX2, TX2, 7, tyX2, rfl, rfl, by decide, inX2, (xT_of (List.mem_append_right _ (List.mem_of_getElem? (i := 113) rfl)) rfl), tyX2_ok, nmX2, rfl, rfl, rfl⟩
theorem gf_X2_15 : x_GF RX2 15 2 1 := ⟨RX2, TX2, 7, rfl, rfl, by decide, inX2, Or.inl (xT_of (List.mem_append_right _ (List.mem_of_getElem? (i := 114) rfl)) rfl)⟩
theorem pf_X2_15 : x_PF RX2 15 2 1 .int false := ⟨RX2, TX2, 7, tyX2, rfl, rfl, by decide, inX2, (xT_of (List.mem_append_right _ (List.mem_of_getElem? (i := 114) rfl)) rfl), tyX2_ok, nmX2, rfl, rfl, rfl⟩
theorem gf_X2_19 : x_GF RX2 19 2 2 := ⟨RX2, TX2, 7, rfl, rfl, by decide, inX2, Or.inl (xT_of (List.mem_append_right _ (List.mem_of_getElem? (i := 116) rfl)) rfl)⟩
theorem pf_X2_19 : x_PF RX2 19 2 2 (.array .int) true := ⟨RX2, TX2, 7, tyX2, rfl, rfl, by decide, inX2, (xT_of (List.mem_append_right _ (List.mem_of_getElem? (i := 116) rfl)) rfl), tyX2_ok, nmX2, rfl, rfl, rfl⟩
theorem gf_X2_22 : x_GF RX2 22 2 3 := ⟨RX2, TX2, 7, rfl, rfl, by decide, inX2, Or.inl (xT_of (List.mem_append_right _ (List.mem_of_getElem? (i := 118) rfl)) rfl)⟩
theorem pf_X2_22 : x_PF RX2 22 2 3 (.array .int) true := ⟨RX2, TX2, 7, tyX2, rfl, rfl, by decide, inX2, (xT_of (List.mem_append_right _ (List.mem_of_getElem? (i := 118) rfl)) rfl), tyX2_ok, nmX2, rfl, rfl, rfl⟩
theorem gf_X2_25 : x_GF RX2 25 2 4 := ⟨RX2, TX2, 7, rfl, rfl, by decide, inX2, Or.inl (xT_of (List.mem_append_right _ (List.mem_of_getElem? (i := 120) rfl)) rfl)⟩
theorem pf_X2_25 : x_PF RX2 25 2 4 (.array .int) true := ⟨RX2, TX2, 7, tyX2, rfl, rfl, by decide, inX2, (xT_of (List.mem_append_right _ (List.mem_of_getElem? (i := 120) rfl)) rfl), tyX2_ok, nmX2, rfl, rfl, rfl⟩
theorem gf_X2_28 : x_GF RX2 28 2 5 := ⟨RX2, TX2, 7, rfl, rfl, by decide, inX2, Or.inl (xT_of (List.mem_append_right _ (List.mem_of_getElem? (i := 122) rfl)) rfl)⟩
theorem pf_X2_28 : x_PF RX2 28 2 5 .int false := ⟨RX2, TX2, 7, tyX2, rfl, rfl, by decide, inX2, (xT_of (List.mem_append_right _ (List.mem_of_getElem? (i := 122) rfl)) rfl), tyX2_ok, nmX2, rfl, rfl, rfl⟩
theorem gf_X2_31 : x_GF RX2 31 2 6 := ⟨RX2, TX2, 7, rfl, rfl, by decide, inX2, Or.inl (xT_of (List.mem_append_right _ (List.mem_of_getElem? (i := 124) rfl)) rfl)⟩
theorem pf_X2_31 : x_PF RX2 31 2 6 .int false := ⟨RX2, TX2, 7, tyX2, rfl, rfl, by decide, inX2, (xT_of (List.mem_append_right _ (List.mem_of_getElem? (i := 124) rfl)) rfl), tyX2_ok, nmX2, rfl, rfl, rfl⟩
theorem gf_X3_9 : x_GF RX3 9 3 0 := ⟨RX3, TX3, 10, rfl, rfl, by decide, inX3, Or.inl (xT_of (List.mem_append_right _ (List.mem_of_getElem? (i := 25) rfl)) rfl)⟩
theorem pf_X3_9 : x_PF RX3 9 3 0 (.array .int) true := ⟨RX3, TX3, 10, tyX3, rfl, rfl, by decide, inX3, (xT_of (List.mem_append_right _ (List.mem_of_getElem? (i := 25) rfl)) rfl), tyX3_ok, nmX3, rfl, rfl, rfl⟩
theorem gf_X3_15 : x_GF RX3 15 3 1 := ⟨RX3, TX3, 10, rfl, rfl, by decide, inX3, Or.inl (xT_of (List.mem_append_right _ (List.mem_of_getElem? (i := 28) rfl)) rfl)⟩
theorem pf_X3_15 : x_PF RX3 15 3 1 (.array .int) true := ⟨RX3, TX3, 10, tyX3, rfl, rfl, by decide, inX3, (xT_of (List.mem_append_right _ (List.mem_of_getElem? (i := 28) rfl)) rfl), tyX3_ok, nmX3, rfl, rfl, rfl⟩
theorem gf_X3_18 : x_GF RX3 18 3 2 := ⟨RX3, TX3, 10, rfl, rfl, by decide, inX3, Or.inl (xT_of (List.mem_append_right _ (List.mem_of_getElem? (i := 30) rfl)) rfl)⟩
theorem pf_X3_18 : x_PF RX3 18 3 2 (.array .int) true := ⟨RX3, TX3, 10, tyX3, rfl, rfl, by decide, inX3, (xT_of (List.mem_append_right _ (List.mem_of_getElem? (i := 30) rfl)) rfl), tyX3_ok, nmX3, rfl, rfl, rfl⟩
theorem gf_X3_21 : x_GF RX3 21 3 3 := ⟨RX3, TX3, 10, rfl, rfl, by decide, inX3, Or.inl (xT_of (List.mem_append_right _ (List.mem_of_getElem? (i := 32) rfl)) rfl)⟩
theorem pf_X3_21 : x_PF RX3 21 3 3 (.array .int) true := ⟨RX3, TX3, 10, tyX3, rfl, rfl, by decide, inX3, (xT_of (List.mem_append_right _ (List.mem_of_getElem? (i := 32) rfl)) rfl), tyX3_ok, nmX3, rfl, rfl, rfl⟩
theorem gf_X3_24 : x_GF RX3 24 3 4 := ⟨RX3, TX3, 10, rfl, rfl, by decide, inX3, Or.inl (xT_of (List.mem_append_right _ (List.mem_of_getElem? (i := 35) rfl)) rfl)⟩
theorem pf_X3_24 : x_PF RX3 24 3 4 (.array .int) true := ⟨RX3, TX3, 10, tyX3, rfl, rfl, by decide, inX3, (xT_of (List.mem_append_right _ (List.mem_of_getElem? (i := 35) rfl)) rfl), tyX3_ok, nmX3, rfl, rfl, rfl⟩
theorem gf_X3_27 : x_GF RX3 27 3 5 := ⟨RX3, TX3, 10, rfl, rfl, by decide, inX3, Or.inl (xT_of (List.mem_append_right _ (List.mem_of_getElem? (i := 38) rfl)) rfl)⟩
theorem pf_X3_27 : x_PF RX3 27 3 5 (.array .int) true := ⟨RX3, TX3, 10, tyX3, rfl, rfl, by decide, inX3, (xT_of (List.mem_append_right _ (List.mem_of_getElem? (i := 38) rfl)) rfl), tyX3_ok, nmX3, rfl, rfl, rfl⟩
theorem gf_X3_30 : x_GF RX3 30 3 6 := ⟨RX3, TX3, 10, rfl, rfl, by decide, inX3, Or.inl (xT_of (List.mem_append_right _ (List.mem_of_getElem? (i := 41) rfl)) rfl)⟩
theorem pf_X3_30 : x_PF RX3 30 3 6 (.array .int) true := ⟨RX3, TX3, 10, tyX3, rfl, rfl, by decide, inX3, (xT_of (List.mem_append_right _ (List.mem_of_getElem? (i := 41) rfl)) rfl), tyX3_ok, nmX3, rfl, rfl, rfl⟩
theorem gf_X3_33 : x_GF RX3 33 3 7 := ⟨RX3, TX3, 10, rfl, rfl, by decide, inX3, Or.inl (xT_of (List.mem_append_right _ (List.mem_of_getElem? (i := 44) rfl)) rfl)⟩
theorem pf_X3_33 : x_PF RX3 33 3 7 (.array .int) true := ⟨RX3, TX3, 10, tyX3, rfl, rfl, by decide, inX3, (xT_of (List.mem_append_right _ (List.mem_of_getElem? (i := 44) rfl)) rfl), tyX3_ok, nmX3, rfl, rfl, rfl⟩
theorem gf_X3_36 : x_GF RX3 36 3 8 := ⟨RX3, TX3, 10, rfl, rfl, by decide, inX3, Or.inl (xT_of (List.mem_append_right _ (List.mem_of_getElem? (i := 47) rfl)) rfl)⟩
theorem pf_X3_36 : x_PF RX3 36 3 8 (.array .int) true := ⟨RX3, TX3, 10, tyX3, rfl, rfl, by decide, inX3, (xT_of (List.mem_append_right _ (List.mem_of_getElem? (i := 47) rfl)) rfl), tyX3_ok, nmX3, rfl, rfl, rfl⟩
theorem gf_X3_39 : x_GF RX3 39 3 9 := ⟨RX3, TX3, 10, rfl, rfl, by decide, inX3, Or.inl (xT_of (List.mem_append_right _ (List.mem_of_getElem? (i := 49) rfl)) rfl)⟩
theorem pf_X3_39 : x_PF RX3 39 3 9 (.array .int) true := ⟨RX3, TX3, 10, tyX3, rfl, rfl, by decide, inX3, (xT_of (List.mem_append_right _ (List.mem_of_getElem? (i := 49) rfl)) rfl), tyX3_ok, nmX3, rfl, rfl, rfl⟩
theorem gs_X3_42 : x_GS RX3 42 "FIRST_VALUES" := Or.inr ⟨"HeatShelves", List.mem_of_getElem? (i := 0) rfl⟩
theorem gs_X3_115 : x_GS RX3 115 "GREATEST_VALUES" := Or.inr ⟨"HeatShelves", List.mem_of_getElem? (i := 24) rfl⟩
set_option maxRecDepth 20000 in
theorem gf_X5_7 : x_GF RX5 7 5 0 := ⟨RX5, TX5, 8, rfl, rfl, by decide, inX5, Or.inl (xT_of (List.mem_append_right _ (List.mem_of_getElem? (i := 503) rfl)) rfl)⟩
set_option maxRecDepth 20000 in
theorem pf_X5_7 : x_PF RX5 7 5 0 (.array .int) true := ⟨RX5, TX5, 8, tyX5, rfl, rfl, by decide, inX5, (xT_of (List.mem_append_right _ (List.mem_of_getElem? (i := 503) rfl)) rfl), tyX5_ok, nmX5, rfl, rfl, rfl⟩
set_option maxRecDepth 20000 in
theorem gf_X5_13 : x_GF RX5 13 5 1 := ⟨RX5, TX5, 8, rfl, rfl, by decide, inX5, Or.inl (xT_of (List.mem_append_right _ (List.mem_of_getElem? (i := 504) rfl)) rfl)⟩
set_option maxRecDepth 20000 in
theorem pf_X5_13 : x_PF RX5 13 5 1 (.array .int) true := ⟨RX5, TX5, 8, tyX5, rfl, rfl, by decide, inX5, (xT_of (List.mem_append_right _ (List.mem_of_getElem? (i := 504) rfl)) rfl), tyX5_ok, nmX5, rfl, rfl, rfl⟩
set_option maxRecDepth 20000 in
theorem gf_X5_16 : x_GF RX5 16 5 3 := ⟨RX5, TX5, 8, rfl, rfl, by decide, inX5, Or.inl (xT_of (List.mem_append_right _ (List.mem_of_getElem? (i := 506) rfl)) rfl)⟩
set_option maxRecDepth 20000 in
theorem pf_X5_16 : x_PF RX5 16 5 3 (.array .int) true := ⟨RX5, TX5, 8, tyX5, rfl, rfl, by decide, inX5, (xT_of (List.mem_append_right _ (List.mem_of_getElem? (i := 506) rfl)) rfl), tyX5_ok, nmX5, rfl, rfl, rfl⟩
set_option maxRecDepth 20000 in
theorem gf_X5_19 : x_GF RX5 19 5 5 := ⟨RX5, TX5, 8, rfl, rfl, by decide, inX5, Or.inl (xT_of (List.mem_append_right _ (List.mem_of_getElem? (i := 508) rfl)) rfl)⟩
set_option maxRecDepth 20000 in
theorem pf_X5_19 : x_PF RX5 19 5 5 (.array .int) true := ⟨RX5, TX5, 8, tyX5, rfl, rfl, by decide, inX5, (xT_of (List.mem_append_right _ (List.mem_of_getElem? (i := 508) rfl)) rfl), tyX5_ok, nmX5, rfl, rfl, rfl⟩
set_option maxRecDepth 20000 in
theorem gf_X5_22 : x_GF RX5 22 5 7 := ⟨RX5, TX5, 8, rfl, rfl, by decide, inX5, Or.inl (xT_of (List.mem_append_right _ (List.mem_of_getElem? (i := 510) rfl)) rfl)⟩
set_option maxRecDepth 20000 in
theorem pf_X5_22 : x_PF RX5 22 5 7 (.array .int) true := ⟨RX5, TX5, 8, tyX5, rfl, rfl, by decide, inX5, (xT_of (List.mem_append_right _ (List.mem_of_getElem? (i := 510) rfl)) rfl), tyX5_ok, nmX5, rfl, rfl, rfl⟩
set_option maxRecDepth 20000 in
theorem gf_X5_25 : x_GF RX5 25 5 2 := ⟨RX5, TX5, 8, rfl, rfl, by decide, inX5, Or.inl (xT_of (List.mem_append_right _ (List.mem_of_getElem? (i := 505) rfl)) rfl)⟩
set_option maxRecDepth 20000 in
theorem pf_X5_25 : x_PF RX5 25 5 2 .int false := ⟨RX5, TX5, 8, tyX5, rfl, rfl, by decide, inX5, (xT_of (List.mem_append_right _ (List.mem_of_getElem? (i := 505) rfl)) rfl), tyX5_ok, nmX5, rfl, rfl, rfl⟩
set_option maxRecDepth 20000 in
theorem gf_X5_108 : x_GF RX5 108 5 6 := ⟨RX5, TX5, 8, rfl, rfl, by decide, inX5, Or.inl (xT_of (List.mem_append_right _ (List.mem_of_getElem? (i := 509) rfl)) rfl)⟩
set_option maxRecDepth 20000 in
theorem pf_X5_108 : x_PF RX5 108 5 6 .int false := ⟨RX5, TX5, 8, tyX5, rfl, rfl, by decide, inX5, (xT_of (List.mem_append_right _ (List.mem_of_getElem? (i := 509) rfl)) rfl), tyX5_ok, nmX5, rfl, rfl, rfl⟩
set_option maxRecDepth 20000 in
theorem gf_X5_133 : x_GF RX5 133 5 4 := ⟨RX5, TX5, 8, rfl, rfl, by decide, inX5, Or.inl (xT_of (List.mem_append_right _ (List.mem_of_getElem? (i := 507) rfl)) rfl)⟩
set_option maxRecDepth 20000 in
theorem pf_X5_133 : x_PF RX5 133 5 4 .boolean false := ⟨RX5, TX5, 8, tyX5, rfl, rfl, by decide, inX5, (xT_of (List.mem_append_right _ (List.mem_of_getElem? (i := 507) rfl)) rfl), tyX5_ok, nmX5, rfl, rfl, rfl⟩
