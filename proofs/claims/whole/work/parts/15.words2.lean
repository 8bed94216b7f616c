set_option maxRecDepth 20000 in
theorem pm_y_X6_init : pm_yb yX6_init cX6_init 1 none 0 := ⟨pm_ws_of (List.mem_append_right _ (List.mem_of_getElem? (i := 21) rfl)) rfl, pm_ii_X6, ⟨by decide +kernel, by decide +kernel⟩, by decide +kernel, by decide⟩
set_option maxRecDepth 20000 in
theorem pm_y_X5_init : pm_yb yX5_init cX5_init 1 none 0 := ⟨pm_ws_of (List.mem_append_right _ (List.mem_of_getElem? (i := 31) rfl)) rfl, pm_ii_X5, ⟨by decide +kernel, by decide +kernel⟩, by decide +kernel, by decide⟩
set_option maxRecDepth 20000 in
theorem pm_y_X2_init : pm_yb yX2_init cX2_init 1 none 0 := ⟨pm_ws_of (List.mem_append_right _ (List.mem_of_getElem? (i := 59) rfl)) rfl, pm_ii_X2, ⟨by decide +kernel, by decide +kernel⟩, by decide +kernel, by decide⟩
set_option maxRecDepth 20000 in
theorem pm_y_X3_init : pm_yb yX3_init cX3_init 1 none 0 := ⟨pm_ws_of (List.mem_append_right _ (List.mem_of_getElem? (i := 73) rfl)) rfl, pm_ii_X3, ⟨by decide +kernel, by decide +kernel⟩, by decide +kernel, by decide⟩
set_option maxRecDepth 20000 in
theorem pm_y_X6_out : pm_yb yX6_out cX6_out 2 (some .int) 1 := ⟨pm_ws_of (List.mem_append_right _ (List.mem_of_getElem? (i := 136) rfl)) rfl, pm_ii_X6, ⟨by decide +kernel, by decide +kernel⟩, by decide +kernel, by decide⟩
set_option maxRecDepth 20000 in
theorem pm_y_X2_numberAt : pm_yb yX2_numberAt cX2_numberAt 2 (some .int) 1 := ⟨pm_ws_of (List.mem_append_right _ (List.mem_of_getElem? (i := 140) rfl)) rfl, pm_ii_X2, ⟨by decide +kernel, by decide +kernel⟩, by decide +kernel, by decide⟩
set_option maxRecDepth 20000 in
theorem pm_y_J9_min_7cf53 : pm_yb yJ9_min_7cf53 cJ9_min_7cf53 2 (some .int) 2 := ⟨pm_ws_of (List.mem_append_right _ (List.mem_of_getElem? (i := 143) rfl)) rfl, pm_ii_J9, ⟨by decide +kernel, by decide +kernel⟩, by decide +kernel, by decide⟩
set_option maxRecDepth 20000 in
theorem pm_y_X6_word : pm_yb yX6_word cX6_word 7 none 5 := ⟨pm_ws_of (List.mem_append_right _ (List.mem_of_getElem? (i := 151) rfl)) rfl, pm_ii_X6, ⟨by decide +kernel, by decide +kernel⟩, by decide +kernel, by decide⟩
set_option maxRecDepth 20000 in
theorem pm_y_X6_isBelow : pm_yb yX6_isBelow cX6_isBelow 2 (some .boolean) 2 := ⟨pm_ws_of (List.mem_append_right _ (List.mem_of_getElem? (i := 154) rfl)) rfl, pm_ii_X6, ⟨by decide +kernel, by decide +kernel⟩, by decide +kernel, by decide⟩
set_option maxRecDepth 20000 in
theorem pm_y_X6_start : pm_yb yX6_start cX6_start 3 (some .int) 2 := ⟨pm_ws_of (List.mem_append_right _ (List.mem_of_getElem? (i := 224) rfl)) rfl, pm_ii_X6, ⟨by decide +kernel, by decide +kernel⟩, by decide +kernel, by decide⟩
set_option maxRecDepth 20000 in
theorem pm_y_X6_beginProcess : pm_yb yX6_beginProcess cX6_beginProcess 4 (some (.object "ProcessMill$Proc")) 2 := ⟨pm_ws_of (List.mem_append_right _ (List.mem_of_getElem? (i := 243) rfl)) rfl, pm_ii_X6, ⟨by decide +kernel, by decide +kernel⟩, by decide +kernel, by decide⟩
set_option maxRecDepth 20000 in
theorem pm_y_X1_init : pm_yb yX1_init cX1_init 4 none 2 := ⟨pm_ws_of (List.mem_append_right _ (List.mem_of_getElem? (i := 247) rfl)) rfl, pm_ii_X1, ⟨by decide +kernel, by decide +kernel⟩, by decide +kernel, by decide⟩
set_option maxRecDepth 20000 in
theorem pm_y_X0_init : pm_yb yX0_init cX0_init 1 none 0 := ⟨pm_ws_of (List.mem_append_right _ (List.mem_of_getElem? (i := 256) rfl)) rfl, pm_ii_X0, ⟨by decide +kernel, by decide +kernel⟩, by decide +kernel, by decide⟩
set_option maxRecDepth 20000 in
theorem pm_y_X4_init : pm_yb yX4_init cX4_init 1 none 0 := ⟨pm_ws_of (List.mem_append_right _ (List.mem_of_getElem? (i := 275) rfl)) rfl, pm_ii_X4, ⟨by decide +kernel, by decide +kernel⟩, by decide +kernel, by decide⟩
set_option maxRecDepth 20000 in
theorem pm_y_X6_makeReady : pm_yb yX6_makeReady cX6_makeReady 3 none 2 := ⟨pm_ws_of (List.mem_append_right _ (List.mem_of_getElem? (i := 362) rfl)) rfl, pm_ii_X6, ⟨by decide +kernel, by decide +kernel⟩, by decide +kernel, by decide⟩
set_option maxRecDepth 20000 in
theorem pm_y_X6_takeLastTurn : pm_yb yX6_takeLastTurn cX6_takeLastTurn 2 none 1 := ⟨pm_ws_of (List.mem_append_right _ (List.mem_of_getElem? (i := 367) rfl)) rfl, pm_ii_X6, ⟨by decide +kernel, by decide +kernel⟩, by decide +kernel, by decide⟩
set_option maxRecDepth 20000 in
theorem pm_y_X6_send : pm_yb yX6_send cX6_send 4 (some .boolean) 2 := ⟨pm_ws_of (List.mem_append_right _ (List.mem_of_getElem? (i := 374) rfl)) rfl, pm_ii_X6, ⟨by decide +kernel, by decide +kernel⟩, by decide +kernel, by decide⟩
set_option maxRecDepth 20000 in
theorem pm_y_X6_find : pm_yb yX6_find cX6_find 2 (some (.object "ProcessMill$Proc")) 1 := ⟨pm_ws_of (List.mem_append_right _ (List.mem_of_getElem? (i := 378) rfl)) rfl, pm_ii_X6, ⟨by decide +kernel, by decide +kernel⟩, by decide +kernel, by decide⟩
set_option maxRecDepth 20000 in
theorem pm_y_X3_setSingle : pm_yb yX3_setSingle cX3_setSingle 3 none 2 := ⟨pm_ws_of (List.mem_append_right _ (List.mem_of_getElem? (i := 382) rfl)) rfl, pm_ii_X3, ⟨by decide +kernel, by decide +kernel⟩, by decide +kernel, by decide⟩
set_option maxRecDepth 20000 in
theorem pm_y_X3_addSingle : pm_yb yX3_addSingle cX3_addSingle 3 none 2 := ⟨pm_ws_of (List.mem_append_right _ (List.mem_of_getElem? (i := 386) rfl)) rfl, pm_ii_X3, ⟨by decide +kernel, by decide +kernel⟩, by decide +kernel, by decide⟩
set_option maxRecDepth 20000 in
theorem pm_y_X6_deliver : pm_yb yX6_deliver cX6_deliver 4 (some .boolean) 2 := ⟨pm_ws_of (List.mem_append_right _ (List.mem_of_getElem? (i := 390) rfl)) rfl, pm_ii_X6, ⟨by decide +kernel, by decide +kernel⟩, by decide +kernel, by decide⟩
set_option maxRecDepth 20000 in
theorem pm_y_X0_newRow : pm_yb yX0_newRow cX0_newRow 1 (some (.object "ProcessMill$Term")) 0 := ⟨pm_ws_of (List.mem_append_right _ (List.mem_of_getElem? (i := 394) rfl)) rfl, pm_ii_X0, ⟨by decide +kernel, by decide +kernel⟩, by decide +kernel, by decide⟩
set_option maxRecDepth 20000 in
theorem pm_y_X3_copy : pm_yb yX3_copy cX3_copy 2 none 1 := ⟨pm_ws_of (List.mem_append_right _ (List.mem_of_getElem? (i := 399) rfl)) rfl, pm_ii_X3, ⟨by decide +kernel, by decide +kernel⟩, by decide +kernel, by decide⟩
set_option maxRecDepth 20000 in
theorem pm_y_X6_run : pm_yb yX6_run cX6_run 4 (some .int) 1 := ⟨pm_ws_of (List.mem_append_right _ (List.mem_of_getElem? (i := 409) rfl)) rfl, pm_ii_X6, ⟨by decide +kernel, by decide +kernel⟩, by decide +kernel, by decide⟩
set_option maxRecDepth 20000 in
theorem pm_y_X6_nextInTurn : pm_yb yX6_nextInTurn cX6_nextInTurn 5 (some (.object "ProcessMill$Proc")) 0 := ⟨pm_ws_of (List.mem_append_right _ (List.mem_of_getElem? (i := 413) rfl)) rfl, pm_ii_X6, ⟨by decide +kernel, by decide +kernel⟩, by decide +kernel, by decide⟩
set_option maxRecDepth 20000 in
theorem pm_y_X1_comesBefore : pm_yb yX1_comesBefore cX1_comesBefore 3 (some .boolean) 2 := ⟨pm_ws_of (List.mem_append_right _ (List.mem_of_getElem? (i := 417) rfl)) rfl, pm_ii_X1, ⟨by decide +kernel, by decide +kernel⟩, by decide +kernel, by decide⟩
set_option maxRecDepth 20000 in
theorem pm_y_X6_doSlice : pm_yb yX6_doSlice cX6_doSlice 5 none 1 := ⟨pm_ws_of (List.mem_append_right _ (List.mem_of_getElem? (i := 421) rfl)) rfl, pm_ii_X6, ⟨by decide +kernel, by decide +kernel⟩, by decide +kernel, by decide⟩
set_option maxRecDepth 20000 in
theorem pm_y_X6_place : pm_yb yX6_place cX6_place 1 (some .int) 1 := ⟨pm_ws_of (List.mem_append_right _ (List.mem_of_getElem? (i := 424) rfl)) rfl, pm_ii_X6, ⟨by decide +kernel, by decide +kernel⟩, by decide +kernel, by decide⟩
set_option maxRecDepth 20000 in
theorem pm_y_J9_floorMod_7cf53 : pm_yb yJ9_floorMod_7cf53 cJ9_floorMod_7cf53 3 (some .int) 2 := ⟨pm_ws_of (List.mem_append_right _ (List.mem_of_getElem? (i := 427) rfl)) rfl, pm_ii_J9, ⟨by decide +kernel, by decide +kernel⟩, by decide +kernel, by decide⟩
set_option maxRecDepth 20000 in
theorem pm_y_X6_doWord : pm_yb yX6_doWord cX6_doWord 9 (some .int) 5 := ⟨pm_ws_of (List.mem_append_right _ (List.mem_of_getElem? (i := 431) rfl)) rfl, pm_ii_X6, ⟨by decide +kernel, by decide +kernel⟩, by decide +kernel, by decide⟩
set_option maxRecDepth 20000 in
theorem pm_y_X1_x : pm_yb yX1_x cX1_x 2 (some (.object "ProcessMill$Term")) 1 := ⟨pm_ws_of (List.mem_append_right _ (List.mem_of_getElem? (i := 435) rfl)) rfl, pm_ii_X1, ⟨by decide +kernel, by decide +kernel⟩, by decide +kernel, by decide⟩
set_option maxRecDepth 20000 in
theorem pm_y_X6_end : pm_yb yX6_end cX6_end 2 (some .int) 1 := ⟨pm_ws_of (List.mem_append_right _ (List.mem_of_getElem? (i := 440) rfl)) rfl, pm_ii_X6, ⟨by decide +kernel, by decide +kernel⟩, by decide +kernel, by decide⟩
set_option maxRecDepth 20000 in
theorem pm_y_X6_die : pm_yb yX6_die cX6_die 3 none 2 := ⟨pm_ws_of (List.mem_append_right _ (List.mem_of_getElem? (i := 444) rfl)) rfl, pm_ii_X6, ⟨by decide +kernel, by decide +kernel⟩, by decide +kernel, by decide⟩
set_option maxRecDepth 20000 in
theorem pm_y_X0_clear : pm_yb yX0_clear cX0_clear 1 none 0 := ⟨pm_ws_of (List.mem_append_right _ (List.mem_of_getElem? (i := 448) rfl)) rfl, pm_ii_X0, ⟨by decide +kernel, by decide +kernel⟩, by decide +kernel, by decide⟩
set_option maxRecDepth 20000 in
theorem pm_y_X4_clear : pm_yb yX4_clear cX4_clear 1 none 0 := ⟨pm_ws_of (List.mem_append_right _ (List.mem_of_getElem? (i := 452) rfl)) rfl, pm_ii_X4, ⟨by decide +kernel, by decide +kernel⟩, by decide +kernel, by decide⟩
set_option maxRecDepth 20000 in
theorem pm_y_X5_dropMadeBy : pm_yb yX5_dropMadeBy cX5_dropMadeBy 2 none 1 := ⟨pm_ws_of (List.mem_append_right _ (List.mem_of_getElem? (i := 456) rfl)) rfl, pm_ii_X5, ⟨by decide +kernel, by decide +kernel⟩, by decide +kernel, by decide⟩
set_option maxRecDepth 20000 in
theorem pm_y_X5_dropWhere : pm_yb yX5_dropWhere cX5_dropWhere 5 none 2 := ⟨pm_ws_of (List.mem_append_right _ (List.mem_of_getElem? (i := 460) rfl)) rfl, pm_ii_X5, ⟨by decide +kernel, by decide +kernel⟩, by decide +kernel, by decide⟩
set_option maxRecDepth 20000 in
theorem pm_y_X6_give : pm_yb yX6_give cX6_give 3 (some .int) 3 := ⟨pm_ws_of (List.mem_append_right _ (List.mem_of_getElem? (i := 463) rfl)) rfl, pm_ii_X6, ⟨by decide +kernel, by decide +kernel⟩, by decide +kernel, by decide⟩
set_option maxRecDepth 20000 in
theorem pm_y_X6_giveCopy : pm_yb yX6_giveCopy cX6_giveCopy 2 (some .int) 2 := ⟨pm_ws_of (List.mem_append_right _ (List.mem_of_getElem? (i := 466) rfl)) rfl, pm_ii_X6, ⟨by decide +kernel, by decide +kernel⟩, by decide +kernel, by decide⟩
set_option maxRecDepth 20000 in
theorem pm_y_X6_areNumbers : pm_yb yX6_areNumbers cX6_areNumbers 2 (some .boolean) 2 := ⟨pm_ws_of (List.mem_append_right _ (List.mem_of_getElem? (i := 469) rfl)) rfl, pm_ii_X6, ⟨by decide +kernel, by decide +kernel⟩, by decide +kernel, by decide⟩
set_option maxRecDepth 20000 in
theorem pm_y_X3_kind : pm_yb yX3_kind cX3_kind 1 (some .int) 0 := ⟨pm_ws_of (List.mem_append_right _ (List.mem_of_getElem? (i := 473) rfl)) rfl, pm_ii_X3, ⟨by decide +kernel, by decide +kernel⟩, by decide +kernel, by decide⟩
set_option maxRecDepth 20000 in
theorem pm_y_X3_kindOf : pm_yb yX3_kindOf cX3_kindOf 1 (some .int) 1 := ⟨pm_ws_of (List.mem_append_right _ (List.mem_of_getElem? (i := 476) rfl)) rfl, pm_ii_X3, ⟨by decide +kernel, by decide +kernel⟩, by decide +kernel, by decide⟩
set_option maxRecDepth 20000 in
theorem pm_y_X3_value : pm_yb yX3_value cX3_value 1 (some .int) 0 := ⟨pm_ws_of (List.mem_append_right _ (List.mem_of_getElem? (i := 480) rfl)) rfl, pm_ii_X3, ⟨by decide +kernel, by decide +kernel⟩, by decide +kernel, by decide⟩
set_option maxRecDepth 20000 in
theorem pm_y_X3_setPair : pm_yb yX3_setPair cX3_setPair 5 (some .boolean) 2 := ⟨pm_ws_of (List.mem_append_right _ (List.mem_of_getElem? (i := 484) rfl)) rfl, pm_ii_X3, ⟨by decide +kernel, by decide +kernel⟩, by decide +kernel, by decide⟩
set_option maxRecDepth 20000 in
theorem pm_y_X3_setFirst : pm_yb yX3_setFirst cX3_setFirst 2 (some .boolean) 1 := ⟨pm_ws_of (List.mem_append_right _ (List.mem_of_getElem? (i := 488) rfl)) rfl, pm_ii_X3, ⟨by decide +kernel, by decide +kernel⟩, by decide +kernel, by decide⟩
set_option maxRecDepth 20000 in
theorem pm_y_X3_endOfFirst : pm_yb yX3_endOfFirst cX3_endOfFirst 4 (some .int) 0 := ⟨pm_ws_of (List.mem_append_right _ (List.mem_of_getElem? (i := 493) rfl)) rfl, pm_ii_X3, ⟨by decide +kernel, by decide +kernel⟩, by decide +kernel, by decide⟩
set_option maxRecDepth 20000 in
theorem pm_y_X3_setPart : pm_yb yX3_setPart cX3_setPart 4 (some .boolean) 3 := ⟨pm_ws_of (List.mem_append_right _ (List.mem_of_getElem? (i := 497) rfl)) rfl, pm_ii_X3, ⟨by decide +kernel, by decide +kernel⟩, by decide +kernel, by decide⟩
set_option maxRecDepth 20000 in
theorem pm_y_X3_setSecond : pm_yb yX3_setSecond cX3_setSecond 2 (some .boolean) 1 := ⟨pm_ws_of (List.mem_append_right _ (List.mem_of_getElem? (i := 501) rfl)) rfl, pm_ii_X3, ⟨by decide +kernel, by decide +kernel⟩, by decide +kernel, by decide⟩
set_option maxRecDepth 20000 in
theorem pm_y_X6_goOn : pm_yb yX6_goOn cX6_goOn 3 (some .int) 3 := ⟨pm_ws_of (List.mem_append_right _ (List.mem_of_getElem? (i := 504) rfl)) rfl, pm_ii_X6, ⟨by decide +kernel, by decide +kernel⟩, by decide +kernel, by decide⟩
set_option maxRecDepth 20000 in
theorem pm_y_X3_compareWith : pm_yb yX3_compareWith cX3_compareWith 6 (some .int) 1 := ⟨pm_ws_of (List.mem_append_right _ (List.mem_of_getElem? (i := 508) rfl)) rfl, pm_ii_X3, ⟨by decide +kernel, by decide +kernel⟩, by decide +kernel, by decide⟩
set_option maxRecDepth 20000 in
theorem pm_y_X6_callWord : pm_yb yX6_callWord cX6_callWord 2 (some .int) 2 := ⟨pm_ws_of (List.mem_append_right _ (List.mem_of_getElem? (i := 512) rfl)) rfl, pm_ii_X6, ⟨by decide +kernel, by decide +kernel⟩, by decide +kernel, by decide⟩
set_option maxRecDepth 20000 in
theorem pm_y_X4_addBack : pm_yb yX4_addBack cX4_addBack 2 (some .boolean) 1 := ⟨pm_ws_of (List.mem_append_right _ (List.mem_of_getElem? (i := 516) rfl)) rfl, pm_ii_X4, ⟨by decide +kernel, by decide +kernel⟩, by decide +kernel, by decide⟩
set_option maxRecDepth 20000 in
theorem pm_y_X6_comeBack : pm_yb yX6_comeBack cX6_comeBack 3 (some .int) 1 := ⟨pm_ws_of (List.mem_append_right _ (List.mem_of_getElem? (i := 520) rfl)) rfl, pm_ii_X6, ⟨by decide +kernel, by decide +kernel⟩, by decide +kernel, by decide⟩
set_option maxRecDepth 20000 in
theorem pm_y_X4_takeBack : pm_yb yX4_takeBack cX4_takeBack 1 (some .int) 0 := ⟨pm_ws_of (List.mem_append_right _ (List.mem_of_getElem? (i := 524) rfl)) rfl, pm_ii_X4, ⟨by decide +kernel, by decide +kernel⟩, by decide +kernel, by decide⟩
set_option maxRecDepth 20000 in
theorem pm_y_X4_addCatch : pm_yb yX4_addCatch cX4_addCatch 2 (some .boolean) 1 := ⟨pm_ws_of (List.mem_append_right _ (List.mem_of_getElem? (i := 528) rfl)) rfl, pm_ii_X4, ⟨by decide +kernel, by decide +kernel⟩, by decide +kernel, by decide⟩
set_option maxRecDepth 20000 in
theorem pm_y_X6_dropCatch : pm_yb yX6_dropCatch cX6_dropCatch 1 (some .int) 1 := ⟨pm_ws_of (List.mem_append_right _ (List.mem_of_getElem? (i := 531) rfl)) rfl, pm_ii_X6, ⟨by decide +kernel, by decide +kernel⟩, by decide +kernel, by decide⟩
set_option maxRecDepth 20000 in
theorem pm_y_X4_dropCatch : pm_yb yX4_dropCatch cX4_dropCatch 1 none 0 := ⟨pm_ws_of (List.mem_append_right _ (List.mem_of_getElem? (i := 535) rfl)) rfl, pm_ii_X4, ⟨by decide +kernel, by decide +kernel⟩, by decide +kernel, by decide⟩
set_option maxRecDepth 20000 in
theorem pm_y_X6_fail : pm_yb yX6_fail cX6_fail 4 (some .int) 2 := ⟨pm_ws_of (List.mem_append_right _ (List.mem_of_getElem? (i := 539) rfl)) rfl, pm_ii_X6, ⟨by decide +kernel, by decide +kernel⟩, by decide +kernel, by decide⟩
set_option maxRecDepth 20000 in
theorem pm_y_X4_takeCatch : pm_yb yX4_takeCatch cX4_takeCatch 1 (some .int) 0 := ⟨pm_ws_of (List.mem_append_right _ (List.mem_of_getElem? (i := 543) rfl)) rfl, pm_ii_X4, ⟨by decide +kernel, by decide +kernel⟩, by decide +kernel, by decide⟩
set_option maxRecDepth 20000 in
theorem pm_y_X6_beget : pm_yb yX6_beget cX6_beget 7 (some .int) 5 := ⟨pm_ws_of (List.mem_append_right _ (List.mem_of_getElem? (i := 548) rfl)) rfl, pm_ii_X6, ⟨by decide +kernel, by decide +kernel⟩, by decide +kernel, by decide⟩
set_option maxRecDepth 20000 in
theorem pm_y_X1_linkWith : pm_yb yX1_linkWith cX1_linkWith 2 none 1 := ⟨pm_ws_of (List.mem_append_right _ (List.mem_of_getElem? (i := 552) rfl)) rfl, pm_ii_X1, ⟨by decide +kernel, by decide +kernel⟩, by decide +kernel, by decide⟩
set_option maxRecDepth 20000 in
theorem pm_y_X6_post : pm_yb yX6_post cX6_post 4 (some .int) 2 := ⟨pm_ws_of (List.mem_append_right _ (List.mem_of_getElem? (i := 556) rfl)) rfl, pm_ii_X6, ⟨by decide +kernel, by decide +kernel⟩, by decide +kernel, by decide⟩
set_option maxRecDepth 20000 in
theorem pm_y_X6_findByName : pm_yb yX6_findByName cX6_findByName 2 (some (.object "ProcessMill$Proc")) 1 := ⟨pm_ws_of (List.mem_append_right _ (List.mem_of_getElem? (i := 560) rfl)) rfl, pm_ii_X6, ⟨by decide +kernel, by decide +kernel⟩, by decide +kernel, by decide⟩
set_option maxRecDepth 20000 in
theorem pm_y_X6_findByTerm : pm_yb yX6_findByTerm cX6_findByTerm 2 (some (.object "ProcessMill$Proc")) 1 := ⟨pm_ws_of (List.mem_append_right _ (List.mem_of_getElem? (i := 564) rfl)) rfl, pm_ii_X6, ⟨by decide +kernel, by decide +kernel⟩, by decide +kernel, by decide⟩
set_option maxRecDepth 20000 in
theorem pm_y_X6_readMail : pm_yb yX6_readMail cX6_readMail 4 (some .int) 3 := ⟨pm_ws_of (List.mem_append_right _ (List.mem_of_getElem? (i := 567) rfl)) rfl, pm_ii_X6, ⟨by decide +kernel, by decide +kernel⟩, by decide +kernel, by decide⟩
set_option maxRecDepth 20000 in
theorem pm_y_X0_atPointer : pm_yb yX0_atPointer cX0_atPointer 1 (some (.object "ProcessMill$Term")) 0 := ⟨pm_ws_of (List.mem_append_right _ (List.mem_of_getElem? (i := 571) rfl)) rfl, pm_ii_X0, ⟨by decide +kernel, by decide +kernel⟩, by decide +kernel, by decide⟩
set_option maxRecDepth 20000 in
theorem pm_y_X0_rowAt : pm_yb yX0_rowAt cX0_rowAt 2 (some (.object "ProcessMill$Term")) 1 := ⟨pm_ws_of (List.mem_append_right _ (List.mem_of_getElem? (i := 575) rfl)) rfl, pm_ii_X0, ⟨by decide +kernel, by decide +kernel⟩, by decide +kernel, by decide⟩
set_option maxRecDepth 20000 in
theorem pm_y_X6_dropMail : pm_yb yX6_dropMail cX6_dropMail 1 (some .int) 1 := ⟨pm_ws_of (List.mem_append_right _ (List.mem_of_getElem? (i := 578) rfl)) rfl, pm_ii_X6, ⟨by decide +kernel, by decide +kernel⟩, by decide +kernel, by decide⟩
set_option maxRecDepth 20000 in
theorem pm_y_X0_dropAtPointer : pm_yb yX0_dropAtPointer cX0_dropAtPointer 3 none 0 := ⟨pm_ws_of (List.mem_append_right _ (List.mem_of_getElem? (i := 582) rfl)) rfl, pm_ii_X0, ⟨by decide +kernel, by decide +kernel⟩, by decide +kernel, by decide⟩
set_option maxRecDepth 20000 in
theorem pm_y_X6_advance : pm_yb yX6_advance cX6_advance 1 (some .int) 1 := ⟨pm_ws_of (List.mem_append_right _ (List.mem_of_getElem? (i := 585) rfl)) rfl, pm_ii_X6, ⟨by decide +kernel, by decide +kernel⟩, by decide +kernel, by decide⟩
set_option maxRecDepth 20000 in
theorem pm_y_X0_advance : pm_yb yX0_advance cX0_advance 1 none 0 := ⟨pm_ws_of (List.mem_append_right _ (List.mem_of_getElem? (i := 589) rfl)) rfl, pm_ii_X0, ⟨by decide +kernel, by decide +kernel⟩, by decide +kernel, by decide⟩
set_option maxRecDepth 20000 in
theorem pm_y_X6_await : pm_yb yX6_await cX6_await 2 (some .int) 2 := ⟨pm_ws_of (List.mem_append_right _ (List.mem_of_getElem? (i := 592) rfl)) rfl, pm_ii_X6, ⟨by decide +kernel, by decide +kernel⟩, by decide +kernel, by decide⟩
set_option maxRecDepth 20000 in
theorem pm_y_X1_beginToWait : pm_yb yX1_beginToWait cX1_beginToWait 5 none 3 := ⟨pm_ws_of (List.mem_append_right _ (List.mem_of_getElem? (i := 596) rfl)) rfl, pm_ii_X1, ⟨by decide +kernel, by decide +kernel⟩, by decide +kernel, by decide⟩
set_option maxRecDepth 20000 in
theorem pm_y_X6_awaitFor : pm_yb yX6_awaitFor cX6_awaitFor 5 (some .int) 4 := ⟨pm_ws_of (List.mem_append_right _ (List.mem_of_getElem? (i := 600) rfl)) rfl, pm_ii_X6, ⟨by decide +kernel, by decide +kernel⟩, by decide +kernel, by decide⟩
set_option maxRecDepth 20000 in
theorem pm_y_X0_pointToFirst : pm_yb yX0_pointToFirst cX0_pointToFirst 1 none 0 := ⟨pm_ws_of (List.mem_append_right _ (List.mem_of_getElem? (i := 604) rfl)) rfl, pm_ii_X0, ⟨by decide +kernel, by decide +kernel⟩, by decide +kernel, by decide⟩
set_option maxRecDepth 20000 in
theorem pm_y_X6_link : pm_yb yX6_link cX6_link 3 (some .int) 2 := ⟨pm_ws_of (List.mem_append_right _ (List.mem_of_getElem? (i := 608) rfl)) rfl, pm_ii_X6, ⟨by decide +kernel, by decide +kernel⟩, by decide +kernel, by decide⟩
set_option maxRecDepth 20000 in
theorem pm_y_X6_getExit : pm_yb yX6_getExit cX6_getExit 5 none 4 := ⟨pm_ws_of (List.mem_append_right _ (List.mem_of_getElem? (i := 612) rfl)) rfl, pm_ii_X6, ⟨by decide +kernel, by decide +kernel⟩, by decide +kernel, by decide⟩
set_option maxRecDepth 20000 in
theorem pm_y_X3_isAtom : pm_yb yX3_isAtom cX3_isAtom 2 (some .boolean) 1 := ⟨pm_ws_of (List.mem_append_right _ (List.mem_of_getElem? (i := 616) rfl)) rfl, pm_ii_X3, ⟨by decide +kernel, by decide +kernel⟩, by decide +kernel, by decide⟩
set_option maxRecDepth 20000 in
theorem pm_y_X3_setExit : pm_yb yX3_setExit cX3_setExit 3 none 2 := ⟨pm_ws_of (List.mem_append_right _ (List.mem_of_getElem? (i := 620) rfl)) rfl, pm_ii_X3, ⟨by decide +kernel, by decide +kernel⟩, by decide +kernel, by decide⟩
set_option maxRecDepth 20000 in
theorem pm_y_X3_addPairSign : pm_yb yX3_addPairSign cX3_addPairSign 1 none 0 := ⟨pm_ws_of (List.mem_append_right _ (List.mem_of_getElem? (i := 624) rfl)) rfl, pm_ii_X3, ⟨by decide +kernel, by decide +kernel⟩, by decide +kernel, by decide⟩
set_option maxRecDepth 20000 in
theorem pm_y_X3_addReason : pm_yb yX3_addReason cX3_addReason 2 none 1 := ⟨pm_ws_of (List.mem_append_right _ (List.mem_of_getElem? (i := 628) rfl)) rfl, pm_ii_X3, ⟨by decide +kernel, by decide +kernel⟩, by decide +kernel, by decide⟩
set_option maxRecDepth 20000 in
theorem pm_y_X6_unlink : pm_yb yX6_unlink cX6_unlink 2 (some .int) 2 := ⟨pm_ws_of (List.mem_append_right _ (List.mem_of_getElem? (i := 631) rfl)) rfl, pm_ii_X6, ⟨by decide +kernel, by decide +kernel⟩, by decide +kernel, by decide⟩
set_option maxRecDepth 20000 in
theorem pm_y_X1_unlinkFrom : pm_yb yX1_unlinkFrom cX1_unlinkFrom 2 none 1 := ⟨pm_ws_of (List.mem_append_right _ (List.mem_of_getElem? (i := 635) rfl)) rfl, pm_ii_X1, ⟨by decide +kernel, by decide +kernel⟩, by decide +kernel, by decide⟩
set_option maxRecDepth 20000 in
theorem pm_y_X6_watch : pm_yb yX6_watch cX6_watch 5 (some .int) 3 := ⟨pm_ws_of (List.mem_append_right _ (List.mem_of_getElem? (i := 640) rfl)) rfl, pm_ii_X6, ⟨by decide +kernel, by decide +kernel⟩, by decide +kernel, by decide⟩
set_option maxRecDepth 20000 in
theorem pm_y_X5_isFull : pm_yb yX5_isFull cX5_isFull 1 (some .boolean) 0 := ⟨pm_ws_of (List.mem_append_right _ (List.mem_of_getElem? (i := 644) rfl)) rfl, pm_ii_X5, ⟨by decide +kernel, by decide +kernel⟩, by decide +kernel, by decide⟩
set_option maxRecDepth 20000 in
theorem pm_y_X5_nextNumber : pm_yb yX5_nextNumber cX5_nextNumber 1 (some .int) 0 := ⟨pm_ws_of (List.mem_append_right _ (List.mem_of_getElem? (i := 648) rfl)) rfl, pm_ii_X5, ⟨by decide +kernel, by decide +kernel⟩, by decide +kernel, by decide⟩
set_option maxRecDepth 20000 in
theorem pm_y_X3_setDown : pm_yb yX3_setDown cX3_setDown 4 none 3 := ⟨pm_ws_of (List.mem_append_right _ (List.mem_of_getElem? (i := 652) rfl)) rfl, pm_ii_X3, ⟨by decide +kernel, by decide +kernel⟩, by decide +kernel, by decide⟩
set_option maxRecDepth 20000 in
theorem pm_y_X5_add : pm_yb yX5_add cX5_add 4 none 3 := ⟨pm_ws_of (List.mem_append_right _ (List.mem_of_getElem? (i := 656) rfl)) rfl, pm_ii_X5, ⟨by decide +kernel, by decide +kernel⟩, by decide +kernel, by decide⟩
set_option maxRecDepth 20000 in
theorem pm_y_X6_exit : pm_yb yX6_exit cX6_exit 4 (some .int) 3 := ⟨pm_ws_of (List.mem_append_right _ (List.mem_of_getElem? (i := 661) rfl)) rfl, pm_ii_X6, ⟨by decide +kernel, by decide +kernel⟩, by decide +kernel, by decide⟩
set_option maxRecDepth 20000 in
theorem pm_y_X6_trap : pm_yb yX6_trap cX6_trap 2 (some .int) 2 := ⟨pm_ws_of (List.mem_append_right _ (List.mem_of_getElem? (i := 664) rfl)) rfl, pm_ii_X6, ⟨by decide +kernel, by decide +kernel⟩, by decide +kernel, by decide⟩
set_option maxRecDepth 20000 in
theorem pm_y_X6_takeName : pm_yb yX6_takeName cX6_takeName 3 (some .int) 2 := ⟨pm_ws_of (List.mem_append_right _ (List.mem_of_getElem? (i := 668) rfl)) rfl, pm_ii_X6, ⟨by decide +kernel, by decide +kernel⟩, by decide +kernel, by decide⟩
set_option maxRecDepth 20000 in
theorem pm_y_X6_lookUp : pm_yb yX6_lookUp cX6_lookUp 2 (some .int) 2 := ⟨pm_ws_of (List.mem_append_right _ (List.mem_of_getElem? (i := 671) rfl)) rfl, pm_ii_X6, ⟨by decide +kernel, by decide +kernel⟩, by decide +kernel, by decide⟩
set_option maxRecDepth 20000 in
theorem pm_y_X6_print : pm_yb yX6_print cX6_print 2 (some .int) 1 := ⟨pm_ws_of (List.mem_append_right _ (List.mem_of_getElem? (i := 675) rfl)) rfl, pm_ii_X6, ⟨by decide +kernel, by decide +kernel⟩, by decide +kernel, by decide⟩
set_option maxRecDepth 20000 in
theorem pm_y_X2_print : pm_yb yX2_print cX2_print 3 none 1 := ⟨pm_ws_of (List.mem_append_right _ (List.mem_of_getElem? (i := 679) rfl)) rfl, pm_ii_X2, ⟨by decide +kernel, by decide +kernel⟩, by decide +kernel, by decide⟩
set_option maxRecDepth 20000 in
theorem pm_y_X6_spreadDeaths : pm_yb yX6_spreadDeaths cX6_spreadDeaths 3 none 0 := ⟨pm_ws_of (List.mem_append_right _ (List.mem_of_getElem? (i := 683) rfl)) rfl, pm_ii_X6, ⟨by decide +kernel, by decide +kernel⟩, by decide +kernel, by decide⟩
set_option maxRecDepth 20000 in
theorem pm_y_X6_tellLinked : pm_yb yX6_tellLinked cX6_tellLinked 4 none 1 := ⟨pm_ws_of (List.mem_append_right _ (List.mem_of_getElem? (i := 687) rfl)) rfl, pm_ii_X6, ⟨by decide +kernel, by decide +kernel⟩, by decide +kernel, by decide⟩
set_option maxRecDepth 20000 in
theorem pm_y_X1_isLinkedWith : pm_yb yX1_isLinkedWith cX1_isLinkedWith 2 (some .boolean) 1 := ⟨pm_ws_of (List.mem_append_right _ (List.mem_of_getElem? (i := 691) rfl)) rfl, pm_ii_X1, ⟨by decide +kernel, by decide +kernel⟩, by decide +kernel, by decide⟩
set_option maxRecDepth 20000 in
theorem pm_y_X6_tellWatchers : pm_yb yX6_tellWatchers cX6_tellWatchers 4 none 1 := ⟨pm_ws_of (List.mem_append_right _ (List.mem_of_getElem? (i := 695) rfl)) rfl, pm_ii_X6, ⟨by decide +kernel, by decide +kernel⟩, by decide +kernel, by decide⟩
set_option maxRecDepth 20000 in
theorem pm_y_X5_dropThoseOf : pm_yb yX5_dropThoseOf cX5_dropThoseOf 2 none 1 := ⟨pm_ws_of (List.mem_append_right _ (List.mem_of_getElem? (i := 699) rfl)) rfl, pm_ii_X5, ⟨by decide +kernel, by decide +kernel⟩, by decide +kernel, by decide⟩
set_option maxRecDepth 20000 in
theorem pm_y_X6_pass : pm_yb yX6_pass cX6_pass 4 (some .int) 1 := ⟨pm_ws_of (List.mem_append_right _ (List.mem_of_getElem? (i := 706) rfl)) rfl, pm_ii_X6, ⟨by decide +kernel, by decide +kernel⟩, by decide +kernel, by decide⟩
set_option maxRecDepth 20000 in
theorem pm_y_X6_firstDue : pm_yb yX6_firstDue cX6_firstDue 5 (some (.object "ProcessMill$Proc")) 0 := ⟨pm_ws_of (List.mem_append_right _ (List.mem_of_getElem? (i := 710) rfl)) rfl, pm_ii_X6, ⟨by decide +kernel, by decide +kernel⟩, by decide +kernel, by decide⟩
set_option maxRecDepth 20000 in
theorem pm_y_X6_process : pm_yb yX6_process cX6_process 4 (some .int) 2 := ⟨pm_ws_of (List.mem_append_right _ (List.mem_of_getElem? (i := 717) rfl)) rfl, pm_ii_X6, ⟨by decide +kernel, by decide +kernel⟩, by decide +kernel, by decide⟩
set_option maxRecDepth 20000 in
theorem pm_y_X1_fact : pm_yb yX1_fact cX1_fact 2 (some .int) 1 := ⟨pm_ws_of (List.mem_append_right _ (List.mem_of_getElem? (i := 721) rfl)) rfl, pm_ii_X1, ⟨by decide +kernel, by decide +kernel⟩, by decide +kernel, by decide⟩
set_option maxRecDepth 20000 in
theorem pm_y_J13_bitCount_95d88 : pm_yb yJ13_bitCount_95d88 cJ13_bitCount_95d88 2 (some .int) 1 := ⟨pm_ws_of (List.mem_append_right _ (List.mem_of_getElem? (i := 724) rfl)) rfl, pm_ii_J13, ⟨by decide +kernel, by decide +kernel⟩, by decide +kernel, by decide⟩
set_option maxRecDepth 20000 in
theorem pm_y_X6_register : pm_yb yX6_register cX6_register 5 (some .int) 3 := ⟨pm_ws_of (List.mem_append_right _ (List.mem_of_getElem? (i := 734) rfl)) rfl, pm_ii_X6, ⟨by decide +kernel, by decide +kernel⟩, by decide +kernel, by decide⟩
set_option maxRecDepth 20000 in
theorem pm_y_X3_numberAt : pm_yb yX3_numberAt cX3_numberAt 2 (some .int) 1 := ⟨pm_ws_of (List.mem_append_right _ (List.mem_of_getElem? (i := 738) rfl)) rfl, pm_ii_X3, ⟨by decide +kernel, by decide +kernel⟩, by decide +kernel, by decide⟩
set_option maxRecDepth 20000 in
theorem pm_y_X6_message : pm_yb yX6_message cX6_message 6 (some .int) 3 := ⟨pm_ws_of (List.mem_append_right _ (List.mem_of_getElem? (i := 745) rfl)) rfl, pm_ii_X6, ⟨by decide +kernel, by decide +kernel⟩, by decide +kernel, by decide⟩
set_option maxRecDepth 20000 in
theorem pm_y_X6_total : pm_yb yX6_total cX6_total 2 (some .int) 1 := ⟨pm_ws_of (List.mem_append_right _ (List.mem_of_getElem? (i := 753) rfl)) rfl, pm_ii_X6, ⟨by decide +kernel, by decide +kernel⟩, by decide +kernel, by decide⟩
set_option maxRecDepth 20000 in
theorem pm_y_X6_readyOnes : pm_yb yX6_readyOnes cX6_readyOnes 3 (some .int) 0 := ⟨pm_ws_of (List.mem_append_right _ (List.mem_of_getElem? (i := 757) rfl)) rfl, pm_ii_X6, ⟨by decide +kernel, by decide +kernel⟩, by decide +kernel, by decide⟩
set_option maxRecDepth 20000 in
theorem pm_y_X7_init : pm_yb yX7_init cX7_init 1 none 0 := ⟨pm_ws_of (List.mem_append_right _ (List.mem_of_getElem? (i := 762) rfl)) rfl, pm_ii_X7, ⟨by decide +kernel, by decide +kernel⟩, by decide +kernel, by decide⟩
set_option maxRecDepth 20000 in
theorem pm_y_X7_thrown : pm_yb yX7_thrown cX7_thrown 1 (some .int) 0 := ⟨pm_ws_of (List.mem_append_right _ (List.mem_of_getElem? (i := 893) rfl)) rfl, pm_ii_X7, ⟨by decide +kernel, by decide +kernel⟩, by decide +kernel, by decide⟩
set_option maxRecDepth 20000 in
theorem pm_y_X7_word : pm_yb yX7_word cX7_word 6 none 5 := ⟨pm_ws_of (List.mem_append_right _ (List.mem_of_getElem? (i := 897) rfl)) rfl, pm_ii_X7, ⟨by decide +kernel, by decide +kernel⟩, by decide +kernel, by decide⟩
set_option maxRecDepth 20000 in
theorem pm_y_X7_within : pm_yb yX7_within cX7_within 3 (some .boolean) 3 := ⟨pm_ws_of (List.mem_append_right _ (List.mem_of_getElem? (i := 900) rfl)) rfl, pm_ii_X7, ⟨by decide +kernel, by decide +kernel⟩, by decide +kernel, by decide⟩
set_option maxRecDepth 20000 in
theorem pm_y_X7_fails : pm_yb yX7_fails cX7_fails 3 (some .boolean) 2 := ⟨pm_ws_of (List.mem_append_right _ (List.mem_of_getElem? (i := 904) rfl)) rfl, pm_ii_X7, ⟨by decide +kernel, by decide +kernel⟩, by decide +kernel, by decide⟩
set_option maxRecDepth 20000 in
theorem pm_y_X7_start : pm_yb yX7_start cX7_start 3 (some .int) 2 := ⟨pm_ws_of (List.mem_append_right _ (List.mem_of_getElem? (i := 908) rfl)) rfl, pm_ii_X7, ⟨by decide +kernel, by decide +kernel⟩, by decide +kernel, by decide⟩
set_option maxRecDepth 20000 in
theorem pm_y_X7_create : pm_yb yX7_create cX7_create 5 (some .int) 2 := ⟨pm_ws_of (List.mem_append_right _ (List.mem_of_getElem? (i := 912) rfl)) rfl, pm_ii_X7, ⟨by decide +kernel, by decide +kernel⟩, by decide +kernel, by decide⟩
set_option maxRecDepth 20000 in
theorem pm_y_X7_set : pm_yb yX7_set cX7_set 4 none 3 := ⟨pm_ws_of (List.mem_append_right _ (List.mem_of_getElem? (i := 916) rfl)) rfl, pm_ii_X7, ⟨by decide +kernel, by decide +kernel⟩, by decide +kernel, by decide⟩
set_option maxRecDepth 20000 in
theorem pm_y_X7_becomesReady : pm_yb yX7_becomesReady cX7_becomesReady 2 none 1 := ⟨pm_ws_of (List.mem_append_right _ (List.mem_of_getElem? (i := 920) rfl)) rfl, pm_ii_X7, ⟨by decide +kernel, by decide +kernel⟩, by decide +kernel, by decide⟩
set_option maxRecDepth 20000 in
theorem pm_y_X7_send : pm_yb yX7_send cX7_send 3 (some .boolean) 2 := ⟨pm_ws_of (List.mem_append_right _ (List.mem_of_getElem? (i := 924) rfl)) rfl, pm_ii_X7, ⟨by decide +kernel, by decide +kernel⟩, by decide +kernel, by decide⟩
set_option maxRecDepth 20000 in
theorem pm_y_X7_isProcess : pm_yb yX7_isProcess cX7_isProcess 2 (some .boolean) 1 := ⟨pm_ws_of (List.mem_append_right _ (List.mem_of_getElem? (i := 928) rfl)) rfl, pm_ii_X7, ⟨by decide +kernel, by decide +kernel⟩, by decide +kernel, by decide⟩
set_option maxRecDepth 20000 in
theorem pm_y_X7_comes : pm_yb yX7_comes cX7_comes 3 (some .boolean) 2 := ⟨pm_ws_of (List.mem_append_right _ (List.mem_of_getElem? (i := 932) rfl)) rfl, pm_ii_X7, ⟨by decide +kernel, by decide +kernel⟩, by decide +kernel, by decide⟩
set_option maxRecDepth 20000 in
theorem pm_y_X7_copy : pm_yb yX7_copy cX7_copy 4 none 2 := ⟨pm_ws_of (List.mem_append_right _ (List.mem_of_getElem? (i := 936) rfl)) rfl, pm_ii_X7, ⟨by decide +kernel, by decide +kernel⟩, by decide +kernel, by decide⟩
set_option maxRecDepth 20000 in
theorem pm_y_X7_run : pm_yb yX7_run cX7_run 7 (some .int) 1 := ⟨pm_ws_of (List.mem_append_right _ (List.mem_of_getElem? (i := 940) rfl)) rfl, pm_ii_X7, ⟨by decide +kernel, by decide +kernel⟩, by decide +kernel, by decide⟩
set_option maxRecDepth 20000 in
theorem pm_y_X7_nextReady : pm_yb yX7_nextReady cX7_nextReady 5 (some .int) 1 := ⟨pm_ws_of (List.mem_append_right _ (List.mem_of_getElem? (i := 944) rfl)) rfl, pm_ii_X7, ⟨by decide +kernel, by decide +kernel⟩, by decide +kernel, by decide⟩
set_option maxRecDepth 20000 in
theorem pm_y_X7_step : pm_yb yX7_step cX7_step 9 none 1 := ⟨pm_ws_of (List.mem_append_right _ (List.mem_of_getElem? (i := 948) rfl)) rfl, pm_ii_X7, ⟨by decide +kernel, by decide +kernel⟩, by decide +kernel, by decide⟩
set_option maxRecDepth 20000 in
theorem pm_y_X7_registerOf : pm_yb yX7_registerOf cX7_registerOf 2 (some .int) 2 := ⟨pm_ws_of (List.mem_append_right _ (List.mem_of_getElem? (i := 951) rfl)) rfl, pm_ii_X7, ⟨by decide +kernel, by decide +kernel⟩, by decide +kernel, by decide⟩
set_option maxRecDepth 20000 in
theorem pm_y_X7_mod : pm_yb yX7_mod cX7_mod 3 (some .int) 2 := ⟨pm_ws_of (List.mem_append_right _ (List.mem_of_getElem? (i := 954) rfl)) rfl, pm_ii_X7, ⟨by decide +kernel, by decide +kernel⟩, by decide +kernel, by decide⟩
set_option maxRecDepth 20000 in
theorem pm_y_X7_simple : pm_yb yX7_simple cX7_simple 10 none 8 := ⟨pm_ws_of (List.mem_append_right _ (List.mem_of_getElem? (i := 958) rfl)) rfl, pm_ii_X7, ⟨by decide +kernel, by decide +kernel⟩, by decide +kernel, by decide⟩
set_option maxRecDepth 20000 in
theorem pm_y_X7_endsBy : pm_yb yX7_endsBy cX7_endsBy 3 none 2 := ⟨pm_ws_of (List.mem_append_right _ (List.mem_of_getElem? (i := 962) rfl)) rfl, pm_ii_X7, ⟨by decide +kernel, by decide +kernel⟩, by decide +kernel, by decide⟩
set_option maxRecDepth 20000 in
theorem pm_y_X7_dies : pm_yb yX7_dies cX7_dies 4 none 2 := ⟨pm_ws_of (List.mem_append_right _ (List.mem_of_getElem? (i := 966) rfl)) rfl, pm_ii_X7, ⟨by decide +kernel, by decide +kernel⟩, by decide +kernel, by decide⟩
set_option maxRecDepth 20000 in
theorem pm_y_X7_dropWatch : pm_yb yX7_dropWatch cX7_dropWatch 3 none 1 := ⟨pm_ws_of (List.mem_append_right _ (List.mem_of_getElem? (i := 970) rfl)) rfl, pm_ii_X7, ⟨by decide +kernel, by decide +kernel⟩, by decide +kernel, by decide⟩
set_option maxRecDepth 20000 in
theorem pm_y_X7_reckons : pm_yb yX7_reckons cX7_reckons 8 none 5 := ⟨pm_ws_of (List.mem_append_right _ (List.mem_of_getElem? (i := 974) rfl)) rfl, pm_ii_X7, ⟨by decide +kernel, by decide +kernel⟩, by decide +kernel, by decide⟩
set_option maxRecDepth 20000 in
theorem pm_y_X7_is : pm_yb yX7_is cX7_is 3 (some .boolean) 2 := ⟨pm_ws_of (List.mem_append_right _ (List.mem_of_getElem? (i := 978) rfl)) rfl, pm_ii_X7, ⟨by decide +kernel, by decide +kernel⟩, by decide +kernel, by decide⟩
set_option maxRecDepth 20000 in
theorem pm_y_X7_kindOf : pm_yb yX7_kindOf cX7_kindOf 2 (some .int) 1 := ⟨pm_ws_of (List.mem_append_right _ (List.mem_of_getElem? (i := 982) rfl)) rfl, pm_ii_X7, ⟨by decide +kernel, by decide +kernel⟩, by decide +kernel, by decide⟩
set_option maxRecDepth 20000 in
theorem pm_y_X7_bad : pm_yb yX7_bad cX7_bad 3 (some .boolean) 2 := ⟨pm_ws_of (List.mem_append_right _ (List.mem_of_getElem? (i := 986) rfl)) rfl, pm_ii_X7, ⟨by decide +kernel, by decide +kernel⟩, by decide +kernel, by decide⟩
set_option maxRecDepth 20000 in
theorem pm_y_X7_failsWith : pm_yb yX7_failsWith cX7_failsWith 4 none 3 := ⟨pm_ws_of (List.mem_append_right _ (List.mem_of_getElem? (i := 990) rfl)) rfl, pm_ii_X7, ⟨by decide +kernel, by decide +kernel⟩, by decide +kernel, by decide⟩
set_option maxRecDepth 20000 in
theorem pm_y_X7_failsOf : pm_yb yX7_failsOf cX7_failsOf 4 none 2 := ⟨pm_ws_of (List.mem_append_right _ (List.mem_of_getElem? (i := 994) rfl)) rfl, pm_ii_X7, ⟨by decide +kernel, by decide +kernel⟩, by decide +kernel, by decide⟩
set_option maxRecDepth 20000 in
theorem pm_y_X7_valueOf : pm_yb yX7_valueOf cX7_valueOf 2 (some .int) 1 := ⟨pm_ws_of (List.mem_append_right _ (List.mem_of_getElem? (i := 998) rfl)) rfl, pm_ii_X7, ⟨by decide +kernel, by decide +kernel⟩, by decide +kernel, by decide⟩
set_option maxRecDepth 20000 in
theorem pm_y_X7_ends : pm_yb yX7_ends cX7_ends 2 (some .int) 1 := ⟨pm_ws_of (List.mem_append_right _ (List.mem_of_getElem? (i := 1002) rfl)) rfl, pm_ii_X7, ⟨by decide +kernel, by decide +kernel⟩, by decide +kernel, by decide⟩
set_option maxRecDepth 20000 in
theorem pm_y_X7_pair : pm_yb yX7_pair cX7_pair 5 none 3 := ⟨pm_ws_of (List.mem_append_right _ (List.mem_of_getElem? (i := 1006) rfl)) rfl, pm_ii_X7, ⟨by decide +kernel, by decide +kernel⟩, by decide +kernel, by decide⟩
set_option maxRecDepth 20000 in
theorem pm_y_X7_behind : pm_yb yX7_behind cX7_behind 6 (some .int) 2 := ⟨pm_ws_of (List.mem_append_right _ (List.mem_of_getElem? (i := 1010) rfl)) rfl, pm_ii_X7, ⟨by decide +kernel, by decide +kernel⟩, by decide +kernel, by decide⟩
set_option maxRecDepth 20000 in
theorem pm_y_X7_part : pm_yb yX7_part cX7_part 6 none 4 := ⟨pm_ws_of (List.mem_append_right _ (List.mem_of_getElem? (i := 1014) rfl)) rfl, pm_ii_X7, ⟨by decide +kernel, by decide +kernel⟩, by decide +kernel, by decide⟩
set_option maxRecDepth 20000 in
theorem pm_y_X7_compare : pm_yb yX7_compare cX7_compare 8 (some .int) 2 := ⟨pm_ws_of (List.mem_append_right _ (List.mem_of_getElem? (i := 1018) rfl)) rfl, pm_ii_X7, ⟨by decide +kernel, by decide +kernel⟩, by decide +kernel, by decide⟩
set_option maxRecDepth 20000 in
theorem pm_y_X7_calls : pm_yb yX7_calls cX7_calls 8 none 6 := ⟨pm_ws_of (List.mem_append_right _ (List.mem_of_getElem? (i := 1022) rfl)) rfl, pm_ii_X7, ⟨by decide +kernel, by decide +kernel⟩, by decide +kernel, by decide⟩
set_option maxRecDepth 20000 in
theorem pm_y_X7_link : pm_yb yX7_link cX7_link 4 none 3 := ⟨pm_ws_of (List.mem_append_right _ (List.mem_of_getElem? (i := 1026) rfl)) rfl, pm_ii_X7, ⟨by decide +kernel, by decide +kernel⟩, by decide +kernel, by decide⟩
set_option maxRecDepth 20000 in
theorem pm_y_X7_mails : pm_yb yX7_mails cX7_mails 11 none 6 := ⟨pm_ws_of (List.mem_append_right _ (List.mem_of_getElem? (i := 1030) rfl)) rfl, pm_ii_X7, ⟨by decide +kernel, by decide +kernel⟩, by decide +kernel, by decide⟩
set_option maxRecDepth 20000 in
theorem pm_y_X7_withName : pm_yb yX7_withName cX7_withName 3 (some .int) 1 := ⟨pm_ws_of (List.mem_append_right _ (List.mem_of_getElem? (i := 1034) rfl)) rfl, pm_ii_X7, ⟨by decide +kernel, by decide +kernel⟩, by decide +kernel, by decide⟩
set_option maxRecDepth 20000 in
theorem pm_y_X7_waits : pm_yb yX7_waits cX7_waits 3 none 2 := ⟨pm_ws_of (List.mem_append_right _ (List.mem_of_getElem? (i := 1038) rfl)) rfl, pm_ii_X7, ⟨by decide +kernel, by decide +kernel⟩, by decide +kernel, by decide⟩
set_option maxRecDepth 20000 in
theorem pm_y_X7_others : pm_yb yX7_others cX7_others 8 none 6 := ⟨pm_ws_of (List.mem_append_right _ (List.mem_of_getElem? (i := 1044) rfl)) rfl, pm_ii_X7, ⟨by decide +kernel, by decide +kernel⟩, by decide +kernel, by decide⟩
set_option maxRecDepth 20000 in
theorem pm_y_X7_exit : pm_yb yX7_exit cX7_exit 5 none 4 := ⟨pm_ws_of (List.mem_append_right _ (List.mem_of_getElem? (i := 1048) rfl)) rfl, pm_ii_X7, ⟨by decide +kernel, by decide +kernel⟩, by decide +kernel, by decide⟩
set_option maxRecDepth 20000 in
theorem pm_y_X7_isAtom : pm_yb yX7_isAtom cX7_isAtom 3 (some .boolean) 2 := ⟨pm_ws_of (List.mem_append_right _ (List.mem_of_getElem? (i := 1052) rfl)) rfl, pm_ii_X7, ⟨by decide +kernel, by decide +kernel⟩, by decide +kernel, by decide⟩
set_option maxRecDepth 20000 in
theorem pm_y_X7_tells : pm_yb yX7_tells cX7_tells 6 none 4 := ⟨pm_ws_of (List.mem_append_right _ (List.mem_of_getElem? (i := 1056) rfl)) rfl, pm_ii_X7, ⟨by decide +kernel, by decide +kernel⟩, by decide +kernel, by decide⟩
set_option maxRecDepth 20000 in
theorem pm_y_X7_tellsDown : pm_yb yX7_tellsDown cX7_tellsDown 6 none 4 := ⟨pm_ws_of (List.mem_append_right _ (List.mem_of_getElem? (i := 1060) rfl)) rfl, pm_ii_X7, ⟨by decide +kernel, by decide +kernel⟩, by decide +kernel, by decide⟩
set_option maxRecDepth 20000 in
theorem pm_y_X7_spread : pm_yb yX7_spread cX7_spread 6 none 0 := ⟨pm_ws_of (List.mem_append_right _ (List.mem_of_getElem? (i := 1064) rfl)) rfl, pm_ii_X7, ⟨by decide +kernel, by decide +kernel⟩, by decide +kernel, by decide⟩
set_option maxRecDepth 20000 in
theorem pm_y_X7_pass : pm_yb yX7_pass cX7_pass 5 (some .int) 1 := ⟨pm_ws_of (List.mem_append_right _ (List.mem_of_getElem? (i := 1068) rfl)) rfl, pm_ii_X7, ⟨by decide +kernel, by decide +kernel⟩, by decide +kernel, by decide⟩
set_option maxRecDepth 20000 in
theorem pm_y_X7_out : pm_yb yX7_out cX7_out 2 (some .int) 1 := ⟨pm_ws_of (List.mem_append_right _ (List.mem_of_getElem? (i := 1072) rfl)) rfl, pm_ii_X7, ⟨by decide +kernel, by decide +kernel⟩, by decide +kernel, by decide⟩
set_option maxRecDepth 20000 in
theorem pm_y_X7_process : pm_yb yX7_process cX7_process 6 (some .int) 2 := ⟨pm_ws_of (List.mem_append_right _ (List.mem_of_getElem? (i := 1076) rfl)) rfl, pm_ii_X7, ⟨by decide +kernel, by decide +kernel⟩, by decide +kernel, by decide⟩
set_option maxRecDepth 20000 in
theorem pm_y_X7_register : pm_yb yX7_register cX7_register 4 (some .int) 3 := ⟨pm_ws_of (List.mem_append_right _ (List.mem_of_getElem? (i := 1080) rfl)) rfl, pm_ii_X7, ⟨by decide +kernel, by decide +kernel⟩, by decide +kernel, by decide⟩
set_option maxRecDepth 20000 in
theorem pm_y_X7_numberOf : pm_yb yX7_numberOf cX7_numberOf 3 (some .int) 2 := ⟨pm_ws_of (List.mem_append_right _ (List.mem_of_getElem? (i := 1084) rfl)) rfl, pm_ii_X7, ⟨by decide +kernel, by decide +kernel⟩, by decide +kernel, by decide⟩
set_option maxRecDepth 20000 in
theorem pm_y_X7_message : pm_yb yX7_message cX7_message 4 (some .int) 3 := ⟨pm_ws_of (List.mem_append_right _ (List.mem_of_getElem? (i := 1088) rfl)) rfl, pm_ii_X7, ⟨by decide +kernel, by decide +kernel⟩, by decide +kernel, by decide⟩
set_option maxRecDepth 20000 in
theorem pm_y_X7_total : pm_yb yX7_total cX7_total 5 (some .int) 1 := ⟨pm_ws_of (List.mem_append_right _ (List.mem_of_getElem? (i := 1092) rfl)) rfl, pm_ii_X7, ⟨by decide +kernel, by decide +kernel⟩, by decide +kernel, by decide⟩
theorem pm_oc : Cond.code objectInit ⟨#[0xb1]⟩ 1 none ∈ pm_ws := pm_ws_of (List.mem_append_right _ (List.mem_of_getElem? (i := 24) (by decide +kernel))) rfl
