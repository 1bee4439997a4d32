/-! printed: the methods as the abstract machine has them; what their instructions link -/
def mJ6_bitCount_0f7a4 : am_M := (yJ6_bitCount_0f7a4, cJ6_bitCount_0f7a4, 1, (some .int), 1, 0, 0)
def mJ9_abs_0f7a4 : am_M := (yJ9_abs_0f7a4, cJ9_abs_0f7a4, 1, (some .int), 1, 0, 0)
def mJ9_max_7cf53 : am_M := (yJ9_max_7cf53, cJ9_max_7cf53, 2, (some .int), 1, 0, 0)
def mJ9_min_7cf53 : am_M := (yJ9_min_7cf53, cJ9_min_7cf53, 2, (some .int), 1, 0, 0)
def mL_cell : am_M := (yL_cell, cL_cell, 2, (some .int), 1, 0, 0)
def mL_low : am_M := (yL_low, cL_low, 2, (some .int), 1, 0, 0)
def mX1_init : am_M := (yX1_init, cX1_init, 1, none, 1, 1, 6)
def mX2_init : am_M := (yX2_init, cX2_init, 1, none, 1, 3, 76)
def mX3_addBooth : am_M := (yX3_addBooth, cX3_addBooth, 3, none, 1, 0, 0)
def mX3_changeSetting : am_M := (yX3_changeSetting, cX3_changeSetting, 3, none, 1, 0, 0)
def mX3_draw : am_M := (yX3_draw, cX3_draw, 2, (some .int), 1, 0, 0)
def mX3_forgetLots : am_M := (yX3_forgetLots, cX3_forgetLots, 2, none, 1, 0, 0)
def mX3_isBooth : am_M := (yX3_isBooth, cX3_isBooth, 2, (some .boolean), 1, 0, 0)
def mX3_setting : am_M := (yX3_setting, cX3_setting, 2, (some .int), 1, 0, 0)
def mX4_init : am_M := (yX4_init, cX4_init, 2, none, 1, 2, 24)
def mX4_walk : am_M := (yX4_walk, cX4_walk, 8, none, 1, 0, 0)
def mX5_clear : am_M := (yX5_clear, cX5_clear, 2, none, 1, 0, 0)
def mX5_streamFrom : am_M := (yX5_streamFrom, cX5_streamFrom, 2, (some (.object "PuppetPitches$Stream")), 1, 0, 0)
def mX6_copyRow : am_M := (yX6_copyRow, cX6_copyRow, 3, none, 1, 0, 0)
def mX6_isHeight : am_M := (yX6_isHeight, cX6_isHeight, 1, (some .boolean), 1, 0, 0)
def mX6_isPitch : am_M := (yX6_isPitch, cX6_isPitch, 1, (some .boolean), 1, 0, 0)
def mX6_lot : am_M := (yX6_lot, cX6_lot, 2, (some .int), 1, 0, 0)
def mX0_drawLots : am_M := (yX0_drawLots, cX0_drawLots, 5, none, 2, 0, 0)
def mX3_closeUp : am_M := (yX3_closeUp, cX3_closeUp, 3, none, 2, 0, 0)
def mX3_copyFrom : am_M := (yX3_copyFrom, cX3_copyFrom, 2, none, 2, 0, 0)
def mX3_init : am_M := (yX3_init, cX3_init, 1, none, 2, 7, 54)
def mX3_isRoofed : am_M := (yX3_isRoofed, cX3_isRoofed, 2, (some .boolean), 2, 0, 0)
def mX3_isStanding : am_M := (yX3_isStanding, cX3_isStanding, 2, (some .boolean), 2, 0, 0)
def mX4_isSeen : am_M := (yX4_isSeen, cX4_isSeen, 3, (some .boolean), 2, 0, 0)
def mX5_init : am_M := (yX5_init, cX5_init, 1, none, 2, 7, 70)
def mX5_isOpen : am_M := (yX5_isOpen, cX5_isOpen, 4, (some .boolean), 2, 0, 0)
def mX5_letPeoplePass : am_M := (yX5_letPeoplePass, cX5_letPeoplePass, 2, none, 2, 0, 0)
def mX5_raise : am_M := (yX5_raise, cX5_raise, 3, none, 2, 0, 0)
def mX1_record : am_M := (yX1_record, cX1_record, 2, none, 3, 8, 67)
def mX1_takeBack : am_M := (yX1_takeBack, cX1_takeBack, 3, none, 3, 0, 0)
def mX3_boothAt : am_M := (yX3_boothAt, cX3_boothAt, 3, (some .int), 3, 0, 0)
def mX3_countStanding : am_M := (yX3_countStanding, cX3_countStanding, 3, (some .int), 3, 0, 0)
def mX3_hides : am_M := (yX3_hides, cX3_hides, 4, (some .boolean), 3, 0, 0)
def mX3_removeBooth : am_M := (yX3_removeBooth, cX3_removeBooth, 3, none, 3, 0, 0)
def mX4_stopping : am_M := (yX4_stopping, cX4_stopping, 3, (some .int), 3, 0, 0)
def mX5_look : am_M := (yX5_look, cX5_look, 4, none, 3, 0, 0)
def mX6_init : am_M := (yX6_init, cX6_init, 1, none, 3, 31, 299)
def mX3_isHidden : am_M := (yX3_isHidden, cX3_isHidden, 4, (some .boolean), 4, 0, 0)
def mX3_isTakenByOther : am_M := (yX3_isTakenByOther, cX3_isTakenByOther, 4, (some .boolean), 4, 0, 0)
def mX5_crowdAt : am_M := (yX5_crowdAt, cX5_crowdAt, 3, (some .int), 4, 0, 0)
def mX6_come : am_M := (yX6_come, cX6_come, 2, (some .int), 4, 8, 67)
def mX6_go : am_M := (yX6_go, cX6_go, 3, (some .int), 4, 8, 67)
def mX6_height : am_M := (yX6_height, cX6_height, 4, (some .int), 4, 8, 67)
def mX6_pitch : am_M := (yX6_pitch, cX6_pitch, 3, (some .int), 4, 0, 0)
def mX6_roof : am_M := (yX6_roof, cX6_roof, 3, (some .int), 4, 8, 67)
def mX6_set : am_M := (yX6_set, cX6_set, 4, (some .int), 4, 8, 67)
def mX6_shuffle : am_M := (yX6_shuffle, cX6_shuffle, 3, (some .int), 4, 8, 67)
def mX6_stoppingFrom : am_M := (yX6_stoppingFrom, cX6_stoppingFrom, 3, (some .int), 4, 0, 0)
def mX6_stoppingNowhere : am_M := (yX6_stoppingNowhere, cX6_stoppingNowhere, 1, (some .int), 4, 0, 0)
def mX6_undo : am_M := (yX6_undo, cX6_undo, 1, (some .int), 4, 0, 0)
def mX0_passHats : am_M := (yX0_passHats, cX0_passHats, 9, (some .int), 5, 0, 0)
def mX5_bestOpenPitch : am_M := (yX5_bestOpenPitch, cX5_bestOpenPitch, 7, (some .int), 5, 0, 0)
def mX6_bestHeight : am_M := (yX6_bestHeight, cX6_bestHeight, 6, (some .int), 5, 0, 0)
def mX6_booth : am_M := (yX6_booth, cX6_booth, 3, (some .int), 5, 0, 0)
def mX6_count : am_M := (yX6_count, cX6_count, 2, (some .int), 5, 0, 0)
def mX6_ifStood : am_M := (yX6_ifStood, cX6_ifStood, 3, (some .int), 5, 0, 0)
def mX6_seen : am_M := (yX6_seen, cX6_seen, 6, (some .int), 5, 0, 0)
def mX6_stand : am_M := (yX6_stand, cX6_stand, 4, (some .int), 5, 8, 67)
def mL_arePitches : am_M := (yL_arePitches, cL_arePitches, 9, (some .boolean), 6, 0, 0)
def mL_goes : am_M := (yL_goes, cL_goes, 8, (some .int), 6, 0, 0)
def mX0_choosePitches : am_M := (yX0_choosePitches, cX0_choosePitches, 5, none, 6, 0, 0)
def mX6_bestPitch : am_M := (yX6_bestPitch, cX6_bestPitch, 2, (some .int), 6, 0, 0)
def mL_areCrowds : am_M := (yL_areCrowds, cL_areCrowds, 9, (some .boolean), 7, 0, 0)
def mL_isBest : am_M := (yL_isBest, cL_isBest, 14, (some .boolean), 7, 184, 1541)
def mX0_pass : am_M := (yX0_pass, cX0_pass, 3, (some .int), 7, 0, 0)
def mX6_ifPlayed : am_M := (yX6_ifPlayed, cX6_ifPlayed, 5, (some .int), 8, 0, 0)
def mX6_play : am_M := (yX6_play, cX6_play, 1, (some .int), 8, 8, 67)
def mL_isDay : am_M := (yL_isDay, cL_isDay, 21, (some .boolean), 9, 8, 67)
def mL_does : am_M := (yL_does, cL_does, 22, (some .boolean), 10, 200, 1600)
def mL_law : am_M := (yL_law, cL_law, 4, (some .boolean), 11, 600000, 7302250)
set_option maxRecDepth 100000 in
theorem cal_J6_bitCount_0f7a4 : am_cal mJ6_bitCount_0f7a4 1 := ⟨(am_wsin (List.mem_of_getElem? (i := 457) (by decide +kernel)) (by decide +kernel)), (am_wsin (List.mem_of_getElem? (i := 12) (by decide +kernel)) (by decide +kernel)), by decide +kernel, by decide +kernel⟩
set_option maxRecDepth 100000 in
theorem cal_J9_abs_0f7a4 : am_cal mJ9_abs_0f7a4 1 := ⟨(am_wsin (List.mem_of_getElem? (i := 332) (by decide +kernel)) (by decide +kernel)), (am_wsin (List.mem_of_getElem? (i := 11) (by decide +kernel)) (by decide +kernel)), by decide +kernel, by decide +kernel⟩
set_option maxRecDepth 100000 in
theorem cal_J9_max_7cf53 : am_cal mJ9_max_7cf53 2 := ⟨(am_wsin (List.mem_of_getElem? (i := 446) (by decide +kernel)) (by decide +kernel)), (am_wsin (List.mem_of_getElem? (i := 11) (by decide +kernel)) (by decide +kernel)), by decide +kernel, by decide +kernel⟩
set_option maxRecDepth 100000 in
theorem cal_J9_min_7cf53 : am_cal mJ9_min_7cf53 2 := ⟨(am_wsin (List.mem_of_getElem? (i := 220) (by decide +kernel)) (by decide +kernel)), (am_wsin (List.mem_of_getElem? (i := 11) (by decide +kernel)) (by decide +kernel)), by decide +kernel, by decide +kernel⟩
set_option maxRecDepth 100000 in
theorem cal_L_cell : am_cal mL_cell 2 := ⟨(am_wsin (List.mem_of_getElem? (i := 382) rfl) rfl), (am_wsin (List.mem_of_getElem? (i := 4) (by decide +kernel)) (by decide +kernel)), by decide +kernel, by decide +kernel⟩
set_option maxRecDepth 100000 in
theorem cal_L_low : am_cal mL_low 2 := ⟨(am_wsin (List.mem_of_getElem? (i := 431) rfl) rfl), (am_wsin (List.mem_of_getElem? (i := 4) (by decide +kernel)) (by decide +kernel)), by decide +kernel, by decide +kernel⟩
set_option maxRecDepth 100000 in
theorem cal_X1_init : am_cal mX1_init 0 := ⟨(am_wsin (List.mem_of_getElem? (i := 169) (by decide +kernel)) (by decide +kernel)), (am_wsin (List.mem_of_getElem? (i := 10) (by decide +kernel)) (by decide +kernel)), by decide +kernel, by decide +kernel⟩
set_option maxRecDepth 100000 in
theorem cal_X2_init : am_cal mX2_init 0 := ⟨(am_wsin (List.mem_of_getElem? (i := 147) (by decide +kernel)) (by decide +kernel)), (am_wsin (List.mem_of_getElem? (i := 9) (by decide +kernel)) (by decide +kernel)), by decide +kernel, by decide +kernel⟩
set_option maxRecDepth 100000 in
theorem cal_X3_addBooth : am_cal mX3_addBooth 2 := ⟨(am_wsin (List.mem_of_getElem? (i := 239) (by decide +kernel)) (by decide +kernel)), (am_wsin (List.mem_of_getElem? (i := 6) (by decide +kernel)) (by decide +kernel)), by decide +kernel, by decide +kernel⟩
set_option maxRecDepth 100000 in
theorem cal_X3_changeSetting : am_cal mX3_changeSetting 2 := ⟨(am_wsin (List.mem_of_getElem? (i := 228) (by decide +kernel)) (by decide +kernel)), (am_wsin (List.mem_of_getElem? (i := 6) (by decide +kernel)) (by decide +kernel)), by decide +kernel, by decide +kernel⟩
set_option maxRecDepth 100000 in
theorem cal_X3_draw : am_cal mX3_draw 1 := ⟨(am_wsin (List.mem_of_getElem? (i := 349) (by decide +kernel)) (by decide +kernel)), (am_wsin (List.mem_of_getElem? (i := 6) (by decide +kernel)) (by decide +kernel)), by decide +kernel, by decide +kernel⟩
set_option maxRecDepth 100000 in
theorem cal_X3_forgetLots : am_cal mX3_forgetLots 0 := ⟨(am_wsin (List.mem_of_getElem? (i := 36) (by decide +kernel)) (by decide +kernel)), (am_wsin (List.mem_of_getElem? (i := 6) (by decide +kernel)) (by decide +kernel)), by decide +kernel, by decide +kernel⟩
set_option maxRecDepth 100000 in
theorem cal_X3_isBooth : am_cal mX3_isBooth 1 := ⟨(am_wsin (List.mem_of_getElem? (i := 256) (by decide +kernel)) (by decide +kernel)), (am_wsin (List.mem_of_getElem? (i := 6) (by decide +kernel)) (by decide +kernel)), by decide +kernel, by decide +kernel⟩
set_option maxRecDepth 100000 in
theorem cal_X3_setting : am_cal mX3_setting 1 := ⟨(am_wsin (List.mem_of_getElem? (i := 224) (by decide +kernel)) (by decide +kernel)), (am_wsin (List.mem_of_getElem? (i := 6) (by decide +kernel)) (by decide +kernel)), by decide +kernel, by decide +kernel⟩
set_option maxRecDepth 100000 in
theorem cal_X4_init : am_cal mX4_init 1 := ⟨(am_wsin (List.mem_of_getElem? (i := 112) (by decide +kernel)) (by decide +kernel)), (am_wsin (List.mem_of_getElem? (i := 8) (by decide +kernel)) (by decide +kernel)), by decide +kernel, by decide +kernel⟩
set_option maxRecDepth 100000 in
theorem cal_X4_walk : am_cal mX4_walk 3 := ⟨(am_wsin (List.mem_of_getElem? (i := 285) (by decide +kernel)) (by decide +kernel)), (am_wsin (List.mem_of_getElem? (i := 8) (by decide +kernel)) (by decide +kernel)), by decide +kernel, by decide +kernel⟩
set_option maxRecDepth 100000 in
theorem cal_X5_clear : am_cal mX5_clear 0 := ⟨(am_wsin (List.mem_of_getElem? (i := 268) (by decide +kernel)) (by decide +kernel)), (am_wsin (List.mem_of_getElem? (i := 7) (by decide +kernel)) (by decide +kernel)), by decide +kernel, by decide +kernel⟩
set_option maxRecDepth 100000 in
theorem cal_X5_streamFrom : am_cal mX5_streamFrom 1 := ⟨(am_wsin (List.mem_of_getElem? (i := 404) (by decide +kernel)) (by decide +kernel)), (am_wsin (List.mem_of_getElem? (i := 7) (by decide +kernel)) (by decide +kernel)), by decide +kernel, by decide +kernel⟩
set_option maxRecDepth 100000 in
theorem cal_X6_copyRow : am_cal mX6_copyRow 2 := ⟨(am_wsin (List.mem_of_getElem? (i := 32) (by decide +kernel)) (by decide +kernel)), (am_wsin (List.mem_of_getElem? (i := 5) (by decide +kernel)) (by decide +kernel)), by decide +kernel, by decide +kernel⟩
set_option maxRecDepth 100000 in
theorem cal_X6_isHeight : am_cal mX6_isHeight 1 := ⟨(am_wsin (List.mem_of_getElem? (i := 235) (by decide +kernel)) (by decide +kernel)), (am_wsin (List.mem_of_getElem? (i := 5) (by decide +kernel)) (by decide +kernel)), by decide +kernel, by decide +kernel⟩
set_option maxRecDepth 100000 in
theorem cal_X6_isPitch : am_cal mX6_isPitch 1 := ⟨(am_wsin (List.mem_of_getElem? (i := 276) (by decide +kernel)) (by decide +kernel)), (am_wsin (List.mem_of_getElem? (i := 5) (by decide +kernel)) (by decide +kernel)), by decide +kernel, by decide +kernel⟩
set_option maxRecDepth 100000 in
theorem cal_X6_lot : am_cal mX6_lot 1 := ⟨(am_wsin (List.mem_of_getElem? (i := 289) (by decide +kernel)) (by decide +kernel)), (am_wsin (List.mem_of_getElem? (i := 5) (by decide +kernel)) (by decide +kernel)), by decide +kernel, by decide +kernel⟩
set_option maxRecDepth 100000 in
theorem cal_X0_drawLots : am_cal mX0_drawLots 1 := ⟨(am_wsin (List.mem_of_getElem? (i := 343) (by decide +kernel)) (by decide +kernel)), (am_wsin (List.mem_of_getElem? (i := 13) (by decide +kernel)) (by decide +kernel)), by decide +kernel, by decide +kernel⟩
set_option maxRecDepth 100000 in
theorem cal_X3_closeUp : am_cal mX3_closeUp 2 := ⟨(am_wsin (List.mem_of_getElem? (i := 443) (by decide +kernel)) (by decide +kernel)), (am_wsin (List.mem_of_getElem? (i := 6) (by decide +kernel)) (by decide +kernel)), by decide +kernel, by decide +kernel⟩
set_option maxRecDepth 100000 in
theorem cal_X3_copyFrom : am_cal mX3_copyFrom 1 := ⟨(am_wsin (List.mem_of_getElem? (i := 217) (by decide +kernel)) (by decide +kernel)), (am_wsin (List.mem_of_getElem? (i := 6) (by decide +kernel)) (by decide +kernel)), by decide +kernel, by decide +kernel⟩
set_option maxRecDepth 100000 in
theorem cal_X3_init : am_cal mX3_init 0 := ⟨(am_wsin (List.mem_of_getElem? (i := 26) (by decide +kernel)) (by decide +kernel)), (am_wsin (List.mem_of_getElem? (i := 6) (by decide +kernel)) (by decide +kernel)), by decide +kernel, by decide +kernel⟩
set_option maxRecDepth 100000 in
theorem cal_X3_isRoofed : am_cal mX3_isRoofed 1 := ⟨(am_wsin (List.mem_of_getElem? (i := 369) (by decide +kernel)) (by decide +kernel)), (am_wsin (List.mem_of_getElem? (i := 6) (by decide +kernel)) (by decide +kernel)), by decide +kernel, by decide +kernel⟩
set_option maxRecDepth 100000 in
theorem cal_X3_isStanding : am_cal mX3_isStanding 1 := ⟨(am_wsin (List.mem_of_getElem? (i := 252) (by decide +kernel)) (by decide +kernel)), (am_wsin (List.mem_of_getElem? (i := 6) (by decide +kernel)) (by decide +kernel)), by decide +kernel, by decide +kernel⟩
set_option maxRecDepth 100000 in
theorem cal_X4_isSeen : am_cal mX4_isSeen 2 := ⟨(am_wsin (List.mem_of_getElem? (i := 315) (by decide +kernel)) (by decide +kernel)), (am_wsin (List.mem_of_getElem? (i := 8) (by decide +kernel)) (by decide +kernel)), by decide +kernel, by decide +kernel⟩
set_option maxRecDepth 100000 in
theorem cal_X5_init : am_cal mX5_init 0 := ⟨(am_wsin (List.mem_of_getElem? (i := 106) (by decide +kernel)) (by decide +kernel)), (am_wsin (List.mem_of_getElem? (i := 7) (by decide +kernel)) (by decide +kernel)), by decide +kernel, by decide +kernel⟩
set_option maxRecDepth 100000 in
theorem cal_X5_isOpen : am_cal mX5_isOpen 2 := ⟨(am_wsin (List.mem_of_getElem? (i := 329) (by decide +kernel)) (by decide +kernel)), (am_wsin (List.mem_of_getElem? (i := 7) (by decide +kernel)) (by decide +kernel)), by decide +kernel, by decide +kernel⟩
set_option maxRecDepth 100000 in
theorem cal_X5_letPeoplePass : am_cal mX5_letPeoplePass 1 := ⟨(am_wsin (List.mem_of_getElem? (i := 280) (by decide +kernel)) (by decide +kernel)), (am_wsin (List.mem_of_getElem? (i := 7) (by decide +kernel)) (by decide +kernel)), by decide +kernel, by decide +kernel⟩
set_option maxRecDepth 100000 in
theorem cal_X5_raise : am_cal mX5_raise 2 := ⟨(am_wsin (List.mem_of_getElem? (i := 273) (by decide +kernel)) (by decide +kernel)), (am_wsin (List.mem_of_getElem? (i := 7) (by decide +kernel)) (by decide +kernel)), by decide +kernel, by decide +kernel⟩
set_option maxRecDepth 100000 in
theorem cal_X1_record : am_cal mX1_record 1 := ⟨(am_wsin (List.mem_of_getElem? (i := 212) (by decide +kernel)) (by decide +kernel)), (am_wsin (List.mem_of_getElem? (i := 10) (by decide +kernel)) (by decide +kernel)), by decide +kernel, by decide +kernel⟩
set_option maxRecDepth 100000 in
theorem cal_X1_takeBack : am_cal mX1_takeBack 1 := ⟨(am_wsin (List.mem_of_getElem? (i := 379) (by decide +kernel)) (by decide +kernel)), (am_wsin (List.mem_of_getElem? (i := 10) (by decide +kernel)) (by decide +kernel)), by decide +kernel, by decide +kernel⟩
set_option maxRecDepth 100000 in
theorem cal_X3_boothAt : am_cal mX3_boothAt 1 := ⟨(am_wsin (List.mem_of_getElem? (i := 303) (by decide +kernel)) (by decide +kernel)), (am_wsin (List.mem_of_getElem? (i := 6) (by decide +kernel)) (by decide +kernel)), by decide +kernel, by decide +kernel⟩
set_option maxRecDepth 100000 in
theorem cal_X3_countStanding : am_cal mX3_countStanding 0 := ⟨(am_wsin (List.mem_of_getElem? (i := 248) (by decide +kernel)) (by decide +kernel)), (am_wsin (List.mem_of_getElem? (i := 6) (by decide +kernel)) (by decide +kernel)), by decide +kernel, by decide +kernel⟩
set_option maxRecDepth 100000 in
theorem cal_X3_hides : am_cal mX3_hides 3 := ⟨(am_wsin (List.mem_of_getElem? (i := 424) (by decide +kernel)) (by decide +kernel)), (am_wsin (List.mem_of_getElem? (i := 6) (by decide +kernel)) (by decide +kernel)), by decide +kernel, by decide +kernel⟩
set_option maxRecDepth 100000 in
theorem cal_X3_removeBooth : am_cal mX3_removeBooth 1 := ⟨(am_wsin (List.mem_of_getElem? (i := 440) (by decide +kernel)) (by decide +kernel)), (am_wsin (List.mem_of_getElem? (i := 6) (by decide +kernel)) (by decide +kernel)), by decide +kernel, by decide +kernel⟩
set_option maxRecDepth 100000 in
theorem cal_X4_stopping : am_cal mX4_stopping 2 := ⟨(am_wsin (List.mem_of_getElem? (i := 311) (by decide +kernel)) (by decide +kernel)), (am_wsin (List.mem_of_getElem? (i := 8) (by decide +kernel)) (by decide +kernel)), by decide +kernel, by decide +kernel⟩
set_option maxRecDepth 100000 in
theorem cal_X5_look : am_cal mX5_look 2 := ⟨(am_wsin (List.mem_of_getElem? (i := 264) (by decide +kernel)) (by decide +kernel)), (am_wsin (List.mem_of_getElem? (i := 7) (by decide +kernel)) (by decide +kernel)), by decide +kernel, by decide +kernel⟩
set_option maxRecDepth 100000 in
theorem cal_X6_init : am_cal mX6_init 0 := ⟨(am_wsin (List.mem_of_getElem? (i := 18) (by decide +kernel)) (by decide +kernel)), (am_wsin (List.mem_of_getElem? (i := 5) (by decide +kernel)) (by decide +kernel)), by decide +kernel, by decide +kernel⟩
set_option maxRecDepth 100000 in
theorem cal_X3_isHidden : am_cal mX3_isHidden 2 := ⟨(am_wsin (List.mem_of_getElem? (i := 420) (by decide +kernel)) (by decide +kernel)), (am_wsin (List.mem_of_getElem? (i := 6) (by decide +kernel)) (by decide +kernel)), by decide +kernel, by decide +kernel⟩
set_option maxRecDepth 100000 in
theorem cal_X3_isTakenByOther : am_cal mX3_isTakenByOther 2 := ⟨(am_wsin (List.mem_of_getElem? (i := 299) (by decide +kernel)) (by decide +kernel)), (am_wsin (List.mem_of_getElem? (i := 6) (by decide +kernel)) (by decide +kernel)), by decide +kernel, by decide +kernel⟩
set_option maxRecDepth 100000 in
theorem cal_X5_crowdAt : am_cal mX5_crowdAt 2 := ⟨(am_wsin (List.mem_of_getElem? (i := 307) (by decide +kernel)) (by decide +kernel)), (am_wsin (List.mem_of_getElem? (i := 7) (by decide +kernel)) (by decide +kernel)), by decide +kernel, by decide +kernel⟩
set_option maxRecDepth 100000 in
theorem cal_X6_come : am_cal mX6_come 1 := ⟨(am_wsin (List.mem_of_getElem? (i := 232) (by decide +kernel)) (by decide +kernel)), (am_wsin (List.mem_of_getElem? (i := 5) (by decide +kernel)) (by decide +kernel)), by decide +kernel, by decide +kernel⟩
set_option maxRecDepth 100000 in
theorem cal_X6_go : am_cal mX6_go 1 := ⟨(am_wsin (List.mem_of_getElem? (i := 436) (by decide +kernel)) (by decide +kernel)), (am_wsin (List.mem_of_getElem? (i := 5) (by decide +kernel)) (by decide +kernel)), by decide +kernel, by decide +kernel⟩
set_option maxRecDepth 100000 in
theorem cal_X6_height : am_cal mX6_height 2 := ⟨(am_wsin (List.mem_of_getElem? (i := 475) (by decide +kernel)) (by decide +kernel)), (am_wsin (List.mem_of_getElem? (i := 5) (by decide +kernel)) (by decide +kernel)), by decide +kernel, by decide +kernel⟩
set_option maxRecDepth 100000 in
theorem cal_X6_pitch : am_cal mX6_pitch 2 := ⟨(am_wsin (List.mem_of_getElem? (i := 389) (by decide +kernel)) (by decide +kernel)), (am_wsin (List.mem_of_getElem? (i := 5) (by decide +kernel)) (by decide +kernel)), by decide +kernel, by decide +kernel⟩
set_option maxRecDepth 100000 in
theorem cal_X6_roof : am_cal mX6_roof 2 := ⟨(am_wsin (List.mem_of_getElem? (i := 454) (by decide +kernel)) (by decide +kernel)), (am_wsin (List.mem_of_getElem? (i := 5) (by decide +kernel)) (by decide +kernel)), by decide +kernel, by decide +kernel⟩
set_option maxRecDepth 100000 in
theorem cal_X6_set : am_cal mX6_set 2 := ⟨(am_wsin (List.mem_of_getElem? (i := 206) (by decide +kernel)) (by decide +kernel)), (am_wsin (List.mem_of_getElem? (i := 5) (by decide +kernel)) (by decide +kernel)), by decide +kernel, by decide +kernel⟩
set_option maxRecDepth 100000 in
theorem cal_X6_shuffle : am_cal mX6_shuffle 1 := ⟨(am_wsin (List.mem_of_getElem? (i := 464) (by decide +kernel)) (by decide +kernel)), (am_wsin (List.mem_of_getElem? (i := 5) (by decide +kernel)) (by decide +kernel)), by decide +kernel, by decide +kernel⟩
set_option maxRecDepth 100000 in
theorem cal_X6_stoppingFrom : am_cal mX6_stoppingFrom 2 := ⟨(am_wsin (List.mem_of_getElem? (i := 400) (by decide +kernel)) (by decide +kernel)), (am_wsin (List.mem_of_getElem? (i := 5) (by decide +kernel)) (by decide +kernel)), by decide +kernel, by decide +kernel⟩
set_option maxRecDepth 100000 in
theorem cal_X6_stoppingNowhere : am_cal mX6_stoppingNowhere 0 := ⟨(am_wsin (List.mem_of_getElem? (i := 260) (by decide +kernel)) (by decide +kernel)), (am_wsin (List.mem_of_getElem? (i := 5) (by decide +kernel)) (by decide +kernel)), by decide +kernel, by decide +kernel⟩
set_option maxRecDepth 100000 in
theorem cal_X6_undo : am_cal mX6_undo 0 := ⟨(am_wsin (List.mem_of_getElem? (i := 375) (by decide +kernel)) (by decide +kernel)), (am_wsin (List.mem_of_getElem? (i := 5) (by decide +kernel)) (by decide +kernel)), by decide +kernel, by decide +kernel⟩
set_option maxRecDepth 100000 in
theorem cal_X0_passHats : am_cal mX0_passHats 3 := ⟨(am_wsin (List.mem_of_getElem? (i := 364) (by decide +kernel)) (by decide +kernel)), (am_wsin (List.mem_of_getElem? (i := 13) (by decide +kernel)) (by decide +kernel)), by decide +kernel, by decide +kernel⟩
set_option maxRecDepth 100000 in
theorem cal_X5_bestOpenPitch : am_cal mX5_bestOpenPitch 2 := ⟨(am_wsin (List.mem_of_getElem? (i := 324) (by decide +kernel)) (by decide +kernel)), (am_wsin (List.mem_of_getElem? (i := 7) (by decide +kernel)) (by decide +kernel)), by decide +kernel, by decide +kernel⟩
set_option maxRecDepth 100000 in
theorem cal_X6_bestHeight : am_cal mX6_bestHeight 1 := ⟨(am_wsin (List.mem_of_getElem? (i := 471) (by decide +kernel)) (by decide +kernel)), (am_wsin (List.mem_of_getElem? (i := 5) (by decide +kernel)) (by decide +kernel)), by decide +kernel, by decide +kernel⟩
set_option maxRecDepth 100000 in
theorem cal_X6_booth : am_cal mX6_booth 2 := ⟨(am_wsin (List.mem_of_getElem? (i := 396) (by decide +kernel)) (by decide +kernel)), (am_wsin (List.mem_of_getElem? (i := 5) (by decide +kernel)) (by decide +kernel)), by decide +kernel, by decide +kernel⟩
set_option maxRecDepth 100000 in
theorem cal_X6_count : am_cal mX6_count 1 := ⟨(am_wsin (List.mem_of_getElem? (i := 243) (by decide +kernel)) (by decide +kernel)), (am_wsin (List.mem_of_getElem? (i := 5) (by decide +kernel)) (by decide +kernel)), by decide +kernel, by decide +kernel⟩
set_option maxRecDepth 100000 in
theorem cal_X6_ifStood : am_cal mX6_ifStood 2 := ⟨(am_wsin (List.mem_of_getElem? (i := 293) (by decide +kernel)) (by decide +kernel)), (am_wsin (List.mem_of_getElem? (i := 5) (by decide +kernel)) (by decide +kernel)), by decide +kernel, by decide +kernel⟩
set_option maxRecDepth 100000 in
theorem cal_X6_seen : am_cal mX6_seen 3 := ⟨(am_wsin (List.mem_of_getElem? (i := 415) (by decide +kernel)) (by decide +kernel)), (am_wsin (List.mem_of_getElem? (i := 5) (by decide +kernel)) (by decide +kernel)), by decide +kernel, by decide +kernel⟩
set_option maxRecDepth 100000 in
theorem cal_X6_stand : am_cal mX6_stand 2 := ⟨(am_wsin (List.mem_of_getElem? (i := 450) (by decide +kernel)) (by decide +kernel)), (am_wsin (List.mem_of_getElem? (i := 5) (by decide +kernel)) (by decide +kernel)), by decide +kernel, by decide +kernel⟩
set_option maxRecDepth 100000 in
theorem cal_L_arePitches : am_cal mL_arePitches 1 := ⟨(am_wsin (List.mem_of_getElem? (i := 385) rfl) rfl), (am_wsin (List.mem_of_getElem? (i := 4) (by decide +kernel)) (by decide +kernel)), by decide +kernel, by decide +kernel⟩
set_option maxRecDepth 100000 in
theorem cal_L_goes : am_cal mL_goes 2 := ⟨(am_wsin (List.mem_of_getElem? (i := 411) rfl) rfl), (am_wsin (List.mem_of_getElem? (i := 4) (by decide +kernel)) (by decide +kernel)), by decide +kernel, by decide +kernel⟩
set_option maxRecDepth 100000 in
theorem cal_X0_choosePitches : am_cal mX0_choosePitches 2 := ⟨(am_wsin (List.mem_of_getElem? (i := 356) (by decide +kernel)) (by decide +kernel)), (am_wsin (List.mem_of_getElem? (i := 13) (by decide +kernel)) (by decide +kernel)), by decide +kernel, by decide +kernel⟩
set_option maxRecDepth 100000 in
theorem cal_X6_bestPitch : am_cal mX6_bestPitch 1 := ⟨(am_wsin (List.mem_of_getElem? (i := 320) (by decide +kernel)) (by decide +kernel)), (am_wsin (List.mem_of_getElem? (i := 5) (by decide +kernel)) (by decide +kernel)), by decide +kernel, by decide +kernel⟩
set_option maxRecDepth 100000 in
theorem cal_L_areCrowds : am_cal mL_areCrowds 1 := ⟨(am_wsin (List.mem_of_getElem? (i := 408) rfl) rfl), (am_wsin (List.mem_of_getElem? (i := 4) (by decide +kernel)) (by decide +kernel)), by decide +kernel, by decide +kernel⟩
set_option maxRecDepth 100000 in
theorem cal_L_isBest : am_cal mL_isBest 2 := ⟨(am_wsin (List.mem_of_getElem? (i := 467) rfl) rfl), (am_wsin (List.mem_of_getElem? (i := 4) (by decide +kernel)) (by decide +kernel)), by decide +kernel, by decide +kernel⟩
set_option maxRecDepth 100000 in
theorem cal_X0_pass : am_cal mX0_pass 2 := ⟨(am_wsin (List.mem_of_getElem? (i := 340) (by decide +kernel)) (by decide +kernel)), (am_wsin (List.mem_of_getElem? (i := 13) (by decide +kernel)) (by decide +kernel)), by decide +kernel, by decide +kernel⟩
set_option maxRecDepth 100000 in
theorem cal_X6_ifPlayed : am_cal mX6_ifPlayed 2 := ⟨(am_wsin (List.mem_of_getElem? (i := 336) (by decide +kernel)) (by decide +kernel)), (am_wsin (List.mem_of_getElem? (i := 5) (by decide +kernel)) (by decide +kernel)), by decide +kernel, by decide +kernel⟩
set_option maxRecDepth 100000 in
theorem cal_X6_play : am_cal mX6_play 0 := ⟨(am_wsin (List.mem_of_getElem? (i := 482) (by decide +kernel)) (by decide +kernel)), (am_wsin (List.mem_of_getElem? (i := 5) (by decide +kernel)) (by decide +kernel)), by decide +kernel, by decide +kernel⟩
set_option maxRecDepth 100000 in
theorem cal_L_isDay : am_cal mL_isDay 2 := ⟨(am_wsin (List.mem_of_getElem? (i := 478) rfl) rfl), (am_wsin (List.mem_of_getElem? (i := 4) (by decide +kernel)) (by decide +kernel)), by decide +kernel, by decide +kernel⟩
set_option maxRecDepth 100000 in
theorem cal_L_does : am_cal mL_does 4 := ⟨(am_wsin (List.mem_of_getElem? (i := 428) rfl) rfl), (am_wsin (List.mem_of_getElem? (i := 4) (by decide +kernel)) (by decide +kernel)), by decide +kernel, by decide +kernel⟩
theorem cJ6_265 : Cond.constant RJ6 265 (1431655765) ∈ am_ws := (am_wsin (List.mem_of_getElem? (i := 458) (by decide +kernel)) (by decide +kernel))
theorem cJ6_266 : Cond.constant RJ6 266 (858993459) ∈ am_ws := (am_wsin (List.mem_of_getElem? (i := 459) (by decide +kernel)) (by decide +kernel))
theorem cJ6_267 : Cond.constant RJ6 267 (252645135) ∈ am_ws := (am_wsin (List.mem_of_getElem? (i := 460) (by decide +kernel)) (by decide +kernel))
theorem kL_25 : Cond.methodLink RL 25 yL_goes ∈ am_ws ∧ Cond.static yL_goes ∈ am_ws := ⟨(am_wsin (List.mem_of_getElem? (i := 409) (by decide +kernel)) (by decide +kernel)), (am_wsin (List.mem_of_getElem? (i := 410) (by decide +kernel)) (by decide +kernel))⟩
theorem kL_14 : Cond.methodLink RL 14 yX6_count ∈ am_ws ∧ Cond.instanceMethod yX6_count ∈ am_ws ∧ Cond.selects RX6 yX6_count yX6_count ∈ am_ws := ⟨(am_wsin (List.mem_of_getElem? (i := 240) (by decide +kernel)) (by decide +kernel)), (am_wsin (List.mem_of_getElem? (i := 241) (by decide +kernel)) (by decide +kernel)), (am_wsin (List.mem_of_getElem? (i := 242) (by decide +kernel)) (by decide +kernel))⟩
theorem kL_18 : Cond.methodLink RL 18 yX6_booth ∈ am_ws ∧ Cond.instanceMethod yX6_booth ∈ am_ws ∧ Cond.selects RX6 yX6_booth yX6_booth ∈ am_ws := ⟨(am_wsin (List.mem_of_getElem? (i := 393) (by decide +kernel)) (by decide +kernel)), (am_wsin (List.mem_of_getElem? (i := 394) (by decide +kernel)) (by decide +kernel)), (am_wsin (List.mem_of_getElem? (i := 395) (by decide +kernel)) (by decide +kernel))⟩
theorem kL_21 : Cond.methodLink RL 21 yX6_seen ∈ am_ws ∧ Cond.instanceMethod yX6_seen ∈ am_ws ∧ Cond.selects RX6 yX6_seen yX6_seen ∈ am_ws := ⟨(am_wsin (List.mem_of_getElem? (i := 412) (by decide +kernel)) (by decide +kernel)), (am_wsin (List.mem_of_getElem? (i := 413) (by decide +kernel)) (by decide +kernel)), (am_wsin (List.mem_of_getElem? (i := 414) (by decide +kernel)) (by decide +kernel))⟩
theorem kL_8 : Cond.methodLink RL 8 yX6_pitch ∈ am_ws ∧ Cond.instanceMethod yX6_pitch ∈ am_ws ∧ Cond.selects RX6 yX6_pitch yX6_pitch ∈ am_ws := ⟨(am_wsin (List.mem_of_getElem? (i := 386) (by decide +kernel)) (by decide +kernel)), (am_wsin (List.mem_of_getElem? (i := 387) (by decide +kernel)) (by decide +kernel)), (am_wsin (List.mem_of_getElem? (i := 388) (by decide +kernel)) (by decide +kernel))⟩
theorem kL_56 : Cond.methodLink RL 56 yL_low ∈ am_ws ∧ Cond.static yL_low ∈ am_ws := ⟨(am_wsin (List.mem_of_getElem? (i := 429) (by decide +kernel)) (by decide +kernel)), (am_wsin (List.mem_of_getElem? (i := 430) (by decide +kernel)) (by decide +kernel))⟩
theorem kL_59 : Cond.methodLink RL 59 yX6_come ∈ am_ws ∧ Cond.instanceMethod yX6_come ∈ am_ws ∧ Cond.selects RX6 yX6_come yX6_come ∈ am_ws := ⟨(am_wsin (List.mem_of_getElem? (i := 229) (by decide +kernel)) (by decide +kernel)), (am_wsin (List.mem_of_getElem? (i := 230) (by decide +kernel)) (by decide +kernel)), (am_wsin (List.mem_of_getElem? (i := 231) (by decide +kernel)) (by decide +kernel))⟩
theorem kL_62 : Cond.methodLink RL 62 yX6_go ∈ am_ws ∧ Cond.instanceMethod yX6_go ∈ am_ws ∧ Cond.selects RX6 yX6_go yX6_go ∈ am_ws := ⟨(am_wsin (List.mem_of_getElem? (i := 433) (by decide +kernel)) (by decide +kernel)), (am_wsin (List.mem_of_getElem? (i := 434) (by decide +kernel)) (by decide +kernel)), (am_wsin (List.mem_of_getElem? (i := 435) (by decide +kernel)) (by decide +kernel))⟩
theorem kL_47 : Cond.methodLink RL 47 yX6_stand ∈ am_ws ∧ Cond.instanceMethod yX6_stand ∈ am_ws ∧ Cond.selects RX6 yX6_stand yX6_stand ∈ am_ws := ⟨(am_wsin (List.mem_of_getElem? (i := 447) (by decide +kernel)) (by decide +kernel)), (am_wsin (List.mem_of_getElem? (i := 448) (by decide +kernel)) (by decide +kernel)), (am_wsin (List.mem_of_getElem? (i := 449) (by decide +kernel)) (by decide +kernel))⟩
theorem kL_65 : Cond.methodLink RL 65 yX6_roof ∈ am_ws ∧ Cond.instanceMethod yX6_roof ∈ am_ws ∧ Cond.selects RX6 yX6_roof yX6_roof ∈ am_ws := ⟨(am_wsin (List.mem_of_getElem? (i := 451) (by decide +kernel)) (by decide +kernel)), (am_wsin (List.mem_of_getElem? (i := 452) (by decide +kernel)) (by decide +kernel)), (am_wsin (List.mem_of_getElem? (i := 453) (by decide +kernel)) (by decide +kernel))⟩
theorem kL_69 : Cond.methodLink RL 69 yX6_set ∈ am_ws ∧ Cond.instanceMethod yX6_set ∈ am_ws ∧ Cond.selects RX6 yX6_set yX6_set ∈ am_ws := ⟨(am_wsin (List.mem_of_getElem? (i := 203) (by decide +kernel)) (by decide +kernel)), (am_wsin (List.mem_of_getElem? (i := 204) (by decide +kernel)) (by decide +kernel)), (am_wsin (List.mem_of_getElem? (i := 205) (by decide +kernel)) (by decide +kernel))⟩
theorem cL_7 : Cond.constant RL 7 (2147483647) ∈ am_ws := (am_wsin (List.mem_of_getElem? (i := 432) (by decide +kernel)) (by decide +kernel))
theorem kL_72 : Cond.methodLink RL 72 yX6_shuffle ∈ am_ws ∧ Cond.instanceMethod yX6_shuffle ∈ am_ws ∧ Cond.selects RX6 yX6_shuffle yX6_shuffle ∈ am_ws := ⟨(am_wsin (List.mem_of_getElem? (i := 461) (by decide +kernel)) (by decide +kernel)), (am_wsin (List.mem_of_getElem? (i := 462) (by decide +kernel)) (by decide +kernel)), (am_wsin (List.mem_of_getElem? (i := 463) (by decide +kernel)) (by decide +kernel))⟩
theorem kL_75 : Cond.methodLink RL 75 yL_isBest ∈ am_ws ∧ Cond.static yL_isBest ∈ am_ws := ⟨(am_wsin (List.mem_of_getElem? (i := 465) (by decide +kernel)) (by decide +kernel)), (am_wsin (List.mem_of_getElem? (i := 466) (by decide +kernel)) (by decide +kernel))⟩
theorem kL_79 : Cond.methodLink RL 79 yL_isDay ∈ am_ws ∧ Cond.static yL_isDay ∈ am_ws := ⟨(am_wsin (List.mem_of_getElem? (i := 476) (by decide +kernel)) (by decide +kernel)), (am_wsin (List.mem_of_getElem? (i := 477) (by decide +kernel)) (by decide +kernel))⟩
theorem kL_41 : Cond.methodLink RL 41 yX6_bestPitch ∈ am_ws ∧ Cond.instanceMethod yX6_bestPitch ∈ am_ws ∧ Cond.selects RX6 yX6_bestPitch yX6_bestPitch ∈ am_ws := ⟨(am_wsin (List.mem_of_getElem? (i := 317) (by decide +kernel)) (by decide +kernel)), (am_wsin (List.mem_of_getElem? (i := 318) (by decide +kernel)) (by decide +kernel)), (am_wsin (List.mem_of_getElem? (i := 319) (by decide +kernel)) (by decide +kernel))⟩
theorem kL_44 : Cond.methodLink RL 44 yX6_ifStood ∈ am_ws ∧ Cond.instanceMethod yX6_ifStood ∈ am_ws ∧ Cond.selects RX6 yX6_ifStood yX6_ifStood ∈ am_ws := ⟨(am_wsin (List.mem_of_getElem? (i := 290) (by decide +kernel)) (by decide +kernel)), (am_wsin (List.mem_of_getElem? (i := 291) (by decide +kernel)) (by decide +kernel)), (am_wsin (List.mem_of_getElem? (i := 292) (by decide +kernel)) (by decide +kernel))⟩
theorem kL_50 : Cond.methodLink RL 50 yX6_bestHeight ∈ am_ws ∧ Cond.instanceMethod yX6_bestHeight ∈ am_ws ∧ Cond.selects RX6 yX6_bestHeight yX6_bestHeight ∈ am_ws := ⟨(am_wsin (List.mem_of_getElem? (i := 468) (by decide +kernel)) (by decide +kernel)), (am_wsin (List.mem_of_getElem? (i := 469) (by decide +kernel)) (by decide +kernel)), (am_wsin (List.mem_of_getElem? (i := 470) (by decide +kernel)) (by decide +kernel))⟩
theorem kL_53 : Cond.methodLink RL 53 yX6_height ∈ am_ws ∧ Cond.instanceMethod yX6_height ∈ am_ws ∧ Cond.selects RX6 yX6_height yX6_height ∈ am_ws := ⟨(am_wsin (List.mem_of_getElem? (i := 472) (by decide +kernel)) (by decide +kernel)), (am_wsin (List.mem_of_getElem? (i := 473) (by decide +kernel)) (by decide +kernel)), (am_wsin (List.mem_of_getElem? (i := 474) (by decide +kernel)) (by decide +kernel))⟩
theorem kL_31 : Cond.methodLink RL 31 yX6_ifPlayed ∈ am_ws ∧ Cond.instanceMethod yX6_ifPlayed ∈ am_ws ∧ Cond.selects RX6 yX6_ifPlayed yX6_ifPlayed ∈ am_ws := ⟨(am_wsin (List.mem_of_getElem? (i := 333) (by decide +kernel)) (by decide +kernel)), (am_wsin (List.mem_of_getElem? (i := 334) (by decide +kernel)) (by decide +kernel)), (am_wsin (List.mem_of_getElem? (i := 335) (by decide +kernel)) (by decide +kernel))⟩
theorem kL_34 : Cond.methodLink RL 34 yX6_play ∈ am_ws ∧ Cond.instanceMethod yX6_play ∈ am_ws ∧ Cond.selects RX6 yX6_play yX6_play ∈ am_ws := ⟨(am_wsin (List.mem_of_getElem? (i := 479) (by decide +kernel)) (by decide +kernel)), (am_wsin (List.mem_of_getElem? (i := 480) (by decide +kernel)) (by decide +kernel)), (am_wsin (List.mem_of_getElem? (i := 481) (by decide +kernel)) (by decide +kernel))⟩
theorem kL_38 : Cond.methodLink RL 38 yX6_lot ∈ am_ws ∧ Cond.instanceMethod yX6_lot ∈ am_ws ∧ Cond.selects RX6 yX6_lot yX6_lot ∈ am_ws := ⟨(am_wsin (List.mem_of_getElem? (i := 286) (by decide +kernel)) (by decide +kernel)), (am_wsin (List.mem_of_getElem? (i := 287) (by decide +kernel)) (by decide +kernel)), (am_wsin (List.mem_of_getElem? (i := 288) (by decide +kernel)) (by decide +kernel))⟩
theorem wL_9 : am_nwf RL 9 5 6 [.null, .null, .null, .null, .null, .null] := ⟨RX6, TX6, rfl, (am_wsin (List.mem_of_getElem? (i := 14) (by decide +kernel)) (by decide +kernel)), (am_wsin (List.mem_of_getElem? (i := 15) (by decide +kernel)) (by decide +kernel)), (am_wsin (List.mem_of_getElem? (i := 5) (by decide +kernel)) (by decide +kernel)), by decide +kernel, by decide +kernel⟩
theorem kL_83 : Cond.methodLink RL 83 yX6_init ∈ am_ws ∧ Cond.instanceMethod yX6_init ∈ am_ws := ⟨(am_wsin (List.mem_of_getElem? (i := 16) (by decide +kernel)) (by decide +kernel)), (am_wsin (List.mem_of_getElem? (i := 17) (by decide +kernel)) (by decide +kernel))⟩
theorem kL_84 : Cond.methodLink RL 84 yX6_undo ∈ am_ws ∧ Cond.instanceMethod yX6_undo ∈ am_ws ∧ Cond.selects RX6 yX6_undo yX6_undo ∈ am_ws := ⟨(am_wsin (List.mem_of_getElem? (i := 372) (by decide +kernel)) (by decide +kernel)), (am_wsin (List.mem_of_getElem? (i := 373) (by decide +kernel)) (by decide +kernel)), (am_wsin (List.mem_of_getElem? (i := 374) (by decide +kernel)) (by decide +kernel))⟩
theorem kL_87 : Cond.methodLink RL 87 yL_cell ∈ am_ws ∧ Cond.static yL_cell ∈ am_ws := ⟨(am_wsin (List.mem_of_getElem? (i := 380) (by decide +kernel)) (by decide +kernel)), (am_wsin (List.mem_of_getElem? (i := 381) (by decide +kernel)) (by decide +kernel))⟩
theorem kL_91 : Cond.methodLink RL 91 yL_does ∈ am_ws ∧ Cond.static yL_does ∈ am_ws := ⟨(am_wsin (List.mem_of_getElem? (i := 426) (by decide +kernel)) (by decide +kernel)), (am_wsin (List.mem_of_getElem? (i := 427) (by decide +kernel)) (by decide +kernel))⟩
theorem kL_95 : Cond.methodLink RL 95 yL_areCrowds ∈ am_ws ∧ Cond.static yL_areCrowds ∈ am_ws := ⟨(am_wsin (List.mem_of_getElem? (i := 406) (by decide +kernel)) (by decide +kernel)), (am_wsin (List.mem_of_getElem? (i := 407) (by decide +kernel)) (by decide +kernel))⟩
theorem kL_99 : Cond.methodLink RL 99 yL_arePitches ∈ am_ws ∧ Cond.static yL_arePitches ∈ am_ws := ⟨(am_wsin (List.mem_of_getElem? (i := 383) (by decide +kernel)) (by decide +kernel)), (am_wsin (List.mem_of_getElem? (i := 384) (by decide +kernel)) (by decide +kernel))⟩
theorem kX0_59 : Cond.methodLink RX0 59 yX5_clear ∈ am_ws ∧ Cond.instanceMethod yX5_clear ∈ am_ws ∧ Cond.selects RX5 yX5_clear yX5_clear ∈ am_ws := ⟨(am_wsin (List.mem_of_getElem? (i := 357) (by decide +kernel)) (by decide +kernel)), (am_wsin (List.mem_of_getElem? (i := 266) (by decide +kernel)) (by decide +kernel)), (am_wsin (List.mem_of_getElem? (i := 267) (by decide +kernel)) (by decide +kernel))⟩
theorem kX0_64 : Cond.methodLink RX0 64 yX5_letPeoplePass ∈ am_ws ∧ Cond.instanceMethod yX5_letPeoplePass ∈ am_ws ∧ Cond.selects RX5 yX5_letPeoplePass yX5_letPeoplePass ∈ am_ws := ⟨(am_wsin (List.mem_of_getElem? (i := 358) (by decide +kernel)) (by decide +kernel)), (am_wsin (List.mem_of_getElem? (i := 278) (by decide +kernel)) (by decide +kernel)), (am_wsin (List.mem_of_getElem? (i := 279) (by decide +kernel)) (by decide +kernel))⟩
theorem fX0_39 : am_fld RX0 39 2 12 (.array .int) true := ⟨RX3, TX3, 13, rfl, by decide, (am_wsin (List.mem_of_getElem? (i := 72) (by decide +kernel)) (by decide +kernel)), by decide +kernel, rfl, fun _ => rfl⟩
theorem kX0_43 : Cond.methodLink RX0 43 yX3_isBooth ∈ am_ws ∧ Cond.instanceMethod yX3_isBooth ∈ am_ws ∧ Cond.selects RX3 yX3_isBooth yX3_isBooth ∈ am_ws := ⟨(am_wsin (List.mem_of_getElem? (i := 344) (by decide +kernel)) (by decide +kernel)), (am_wsin (List.mem_of_getElem? (i := 254) (by decide +kernel)) (by decide +kernel)), (am_wsin (List.mem_of_getElem? (i := 255) (by decide +kernel)) (by decide +kernel))⟩
theorem fX0_67 : am_fld RX0 67 2 7 (.array .int) true := ⟨RX3, TX3, 13, rfl, by decide, (am_wsin (List.mem_of_getElem? (i := 56) (by decide +kernel)) (by decide +kernel)), by decide +kernel, rfl, fun _ => rfl⟩
theorem kX0_25 : Cond.methodLink RX0 25 yX3_setting ∈ am_ws ∧ Cond.instanceMethod yX3_setting ∈ am_ws ∧ Cond.selects RX3 yX3_setting yX3_setting ∈ am_ws := ⟨(am_wsin (List.mem_of_getElem? (i := 359) (by decide +kernel)) (by decide +kernel)), (am_wsin (List.mem_of_getElem? (i := 222) (by decide +kernel)) (by decide +kernel)), (am_wsin (List.mem_of_getElem? (i := 223) (by decide +kernel)) (by decide +kernel))⟩
theorem kX0_70 : Cond.methodLink RX0 70 yX5_bestOpenPitch ∈ am_ws ∧ Cond.instanceMethod yX5_bestOpenPitch ∈ am_ws ∧ Cond.selects RX5 yX5_bestOpenPitch yX5_bestOpenPitch ∈ am_ws := ⟨(am_wsin (List.mem_of_getElem? (i := 360) (by decide +kernel)) (by decide +kernel)), (am_wsin (List.mem_of_getElem? (i := 322) (by decide +kernel)) (by decide +kernel)), (am_wsin (List.mem_of_getElem? (i := 323) (by decide +kernel)) (by decide +kernel))⟩
theorem fX0_73 : am_fld RX0 73 2 8 (.array .int) true := ⟨RX3, TX3, 13, rfl, by decide, (am_wsin (List.mem_of_getElem? (i := 60) (by decide +kernel)) (by decide +kernel)), by decide +kernel, rfl, fun _ => rfl⟩
theorem kX0_76 : Cond.methodLink RX0 76 yX5_raise ∈ am_ws ∧ Cond.instanceMethod yX5_raise ∈ am_ws ∧ Cond.selects RX5 yX5_raise yX5_raise ∈ am_ws := ⟨(am_wsin (List.mem_of_getElem? (i := 361) (by decide +kernel)) (by decide +kernel)), (am_wsin (List.mem_of_getElem? (i := 271) (by decide +kernel)) (by decide +kernel)), (am_wsin (List.mem_of_getElem? (i := 272) (by decide +kernel)) (by decide +kernel))⟩
theorem fX0_47 : am_fld RX0 47 2 6 (.int) false := ⟨RX3, TX3, 13, rfl, by decide, (am_wsin (List.mem_of_getElem? (i := 52) (by decide +kernel)) (by decide +kernel)), by decide +kernel, rfl, fun _ => rfl⟩
theorem kX0_50 : Cond.methodLink RX0 50 yJ9_min_7cf53 ∈ am_ws ∧ Cond.static yJ9_min_7cf53 ∈ am_ws := ⟨(am_wsin (List.mem_of_getElem? (i := 345) (by decide +kernel)) (by decide +kernel)), (am_wsin (List.mem_of_getElem? (i := 219) (by decide +kernel)) (by decide +kernel))⟩
theorem kX0_19 : Cond.methodLink RX0 19 yX3_draw ∈ am_ws ∧ Cond.instanceMethod yX3_draw ∈ am_ws ∧ Cond.selects RX3 yX3_draw yX3_draw ∈ am_ws := ⟨(am_wsin (List.mem_of_getElem? (i := 346) (by decide +kernel)) (by decide +kernel)), (am_wsin (List.mem_of_getElem? (i := 347) (by decide +kernel)) (by decide +kernel)), (am_wsin (List.mem_of_getElem? (i := 348) (by decide +kernel)) (by decide +kernel))⟩
theorem fX0_56 : am_fld RX0 56 2 10 (.array .int) true := ⟨RX3, TX3, 13, rfl, by decide, (am_wsin (List.mem_of_getElem? (i := 66) (by decide +kernel)) (by decide +kernel)), by decide +kernel, rfl, fun _ => rfl⟩
theorem kX0_9 : Cond.methodLink RX0 9 yX0_drawLots ∈ am_ws ∧ Cond.static yX0_drawLots ∈ am_ws := ⟨(am_wsin (List.mem_of_getElem? (i := 341) (by decide +kernel)) (by decide +kernel)), (am_wsin (List.mem_of_getElem? (i := 342) (by decide +kernel)) (by decide +kernel))⟩
theorem kX0_15 : Cond.methodLink RX0 15 yX0_choosePitches ∈ am_ws ∧ Cond.static yX0_choosePitches ∈ am_ws := ⟨(am_wsin (List.mem_of_getElem? (i := 354) (by decide +kernel)) (by decide +kernel)), (am_wsin (List.mem_of_getElem? (i := 355) (by decide +kernel)) (by decide +kernel))⟩
theorem fX0_28 : am_fld RX0 28 2 3 (.int) false := ⟨RX3, TX3, 13, rfl, by decide, (am_wsin (List.mem_of_getElem? (i := 43) (by decide +kernel)) (by decide +kernel)), by decide +kernel, rfl, fun _ => rfl⟩
theorem fX0_32 : am_fld RX0 32 2 4 (.int) false := ⟨RX3, TX3, 13, rfl, by decide, (am_wsin (List.mem_of_getElem? (i := 46) (by decide +kernel)) (by decide +kernel)), by decide +kernel, rfl, fun _ => rfl⟩
theorem kX0_35 : Cond.methodLink RX0 35 yX0_passHats ∈ am_ws ∧ Cond.static yX0_passHats ∈ am_ws := ⟨(am_wsin (List.mem_of_getElem? (i := 362) (by decide +kernel)) (by decide +kernel)), (am_wsin (List.mem_of_getElem? (i := 363) (by decide +kernel)) (by decide +kernel))⟩
theorem kX0_80 : Cond.methodLink RX0 80 yX3_isStanding ∈ am_ws ∧ Cond.instanceMethod yX3_isStanding ∈ am_ws ∧ Cond.selects RX3 yX3_isStanding yX3_isStanding ∈ am_ws := ⟨(am_wsin (List.mem_of_getElem? (i := 365) (by decide +kernel)) (by decide +kernel)), (am_wsin (List.mem_of_getElem? (i := 250) (by decide +kernel)) (by decide +kernel)), (am_wsin (List.mem_of_getElem? (i := 251) (by decide +kernel)) (by decide +kernel))⟩
theorem kX0_83 : Cond.methodLink RX0 83 yX3_isRoofed ∈ am_ws ∧ Cond.instanceMethod yX3_isRoofed ∈ am_ws ∧ Cond.selects RX3 yX3_isRoofed yX3_isRoofed ∈ am_ws := ⟨(am_wsin (List.mem_of_getElem? (i := 366) (by decide +kernel)) (by decide +kernel)), (am_wsin (List.mem_of_getElem? (i := 367) (by decide +kernel)) (by decide +kernel)), (am_wsin (List.mem_of_getElem? (i := 368) (by decide +kernel)) (by decide +kernel))⟩
theorem kX0_86 : Cond.methodLink RX0 86 yX5_crowdAt ∈ am_ws ∧ Cond.instanceMethod yX5_crowdAt ∈ am_ws ∧ Cond.selects RX5 yX5_crowdAt yX5_crowdAt ∈ am_ws := ⟨(am_wsin (List.mem_of_getElem? (i := 371) (by decide +kernel)) (by decide +kernel)), (am_wsin (List.mem_of_getElem? (i := 305) (by decide +kernel)) (by decide +kernel)), (am_wsin (List.mem_of_getElem? (i := 306) (by decide +kernel)) (by decide +kernel))⟩
theorem fX0_89 : am_fld RX0 89 2 9 (.array .int) true := ⟨RX3, TX3, 13, rfl, by decide, (am_wsin (List.mem_of_getElem? (i := 64) (by decide +kernel)) (by decide +kernel)), by decide +kernel, rfl, fun _ => rfl⟩
theorem fX0_92 : am_fld RX0 92 2 11 (.array .int) true := ⟨RX3, TX3, 13, rfl, by decide, (am_wsin (List.mem_of_getElem? (i := 69) (by decide +kernel)) (by decide +kernel)), by decide +kernel, rfl, fun _ => rfl⟩
theorem fX0_95 : am_fld RX0 95 2 5 (.int) false := ⟨RX3, TX3, 13, rfl, by decide, (am_wsin (List.mem_of_getElem? (i := 49) (by decide +kernel)) (by decide +kernel)), by decide +kernel, rfl, fun _ => rfl⟩
theorem oX1_3 : Cond.methodLink RX1 3 objectInit ∈ am_ws := (am_wsin (List.mem_of_getElem? (i := 170) (by decide +kernel)) (by decide +kernel))
theorem waX1_9 : Cond.classLink RX1 9 RX3 ∈ am_ws ∧ Cond.arrayOver (.object RX3) ∈ am_nw := ⟨(am_wsin (List.mem_of_getElem? (i := 171) (by decide +kernel)) (by decide +kernel)), (List.mem_filter.mpr ⟨List.mem_of_getElem? (i := 172) (by decide +kernel), by decide +kernel⟩)⟩
theorem fX1_11 : am_fld RX1 11 0 0 (.array (.object "PuppetPitches$State")) true := ⟨RX1, TX1, 3, rfl, by decide, (am_wsin (List.mem_of_getElem? (i := 173) (by decide +kernel)) (by decide +kernel)), by decide +kernel, rfl, fun _ => rfl⟩
theorem fX1_17 : am_fld RX1 17 0 1 (.int) false := ⟨RX1, TX1, 3, rfl, by decide, (am_wsin (List.mem_of_getElem? (i := 174) (by decide +kernel)) (by decide +kernel)), by decide +kernel, rfl, fun _ => rfl⟩
theorem wX1_9 : am_nwf RX1 9 2 13 [.null, .long 0, .int 0, .int 0, .int 0, .int 0, .int 0, .null, .null, .null, .null, .null, .null] := ⟨RX3, TX3, rfl, (am_wsin (List.mem_of_getElem? (i := 171) (by decide +kernel)) (by decide +kernel)), (am_wsin (List.mem_of_getElem? (i := 23) (by decide +kernel)) (by decide +kernel)), (am_wsin (List.mem_of_getElem? (i := 6) (by decide +kernel)) (by decide +kernel)), by decide +kernel, by decide +kernel⟩
theorem kX1_21 : Cond.methodLink RX1 21 yX3_init ∈ am_ws ∧ Cond.instanceMethod yX3_init ∈ am_ws := ⟨(am_wsin (List.mem_of_getElem? (i := 213) (by decide +kernel)) (by decide +kernel)), (am_wsin (List.mem_of_getElem? (i := 25) (by decide +kernel)) (by decide +kernel))⟩
theorem kX1_22 : Cond.methodLink RX1 22 yX3_copyFrom ∈ am_ws ∧ Cond.instanceMethod yX3_copyFrom ∈ am_ws ∧ Cond.selects RX3 yX3_copyFrom yX3_copyFrom ∈ am_ws := ⟨(am_wsin (List.mem_of_getElem? (i := 214) (by decide +kernel)) (by decide +kernel)), (am_wsin (List.mem_of_getElem? (i := 215) (by decide +kernel)) (by decide +kernel)), (am_wsin (List.mem_of_getElem? (i := 216) (by decide +kernel)) (by decide +kernel))⟩
theorem fX1_26 : am_fld RX1 26 0 2 (.int) false := ⟨RX1, TX1, 3, rfl, by decide, (am_wsin (List.mem_of_getElem? (i := 175) (by decide +kernel)) (by decide +kernel)), by decide +kernel, rfl, fun _ => rfl⟩
theorem kX1_29 : Cond.methodLink RX1 29 yJ9_min_7cf53 ∈ am_ws ∧ Cond.static yJ9_min_7cf53 ∈ am_ws := ⟨(am_wsin (List.mem_of_getElem? (i := 218) (by decide +kernel)) (by decide +kernel)), (am_wsin (List.mem_of_getElem? (i := 219) (by decide +kernel)) (by decide +kernel))⟩
theorem oX2_3 : Cond.methodLink RX2 3 objectInit ∈ am_ws := (am_wsin (List.mem_of_getElem? (i := 148) (by decide +kernel)) (by decide +kernel))
theorem fX2_9 : am_fld RX2 9 1 0 (.array .char) true := ⟨RX2, TX2, 5, rfl, by decide, (am_wsin (List.mem_of_getElem? (i := 149) (by decide +kernel)) (by decide +kernel)), by decide +kernel, rfl, fun _ => rfl⟩
theorem fX2_15 : am_fld RX2 15 1 3 (.array .int) true := ⟨RX2, TX2, 5, rfl, by decide, (am_wsin (List.mem_of_getElem? (i := 151) (by decide +kernel)) (by decide +kernel)), by decide +kernel, rfl, fun _ => rfl⟩
theorem fX2_19 : am_fld RX2 19 1 4 (.array .int) true := ⟨RX2, TX2, 5, rfl, by decide, (am_wsin (List.mem_of_getElem? (i := 152) (by decide +kernel)) (by decide +kernel)), by decide +kernel, rfl, fun _ => rfl⟩
theorem fX3_60 : am_fld RX3 60 2 6 (.int) false := ⟨RX3, TX3, 13, rfl, by decide, (am_wsin (List.mem_of_getElem? (i := 51) (by decide +kernel)) (by decide +kernel)), by decide +kernel, rfl, fun _ => rfl⟩
theorem fX3_26 : am_fld RX3 26 2 7 (.array .int) true := ⟨RX3, TX3, 13, rfl, by decide, (am_wsin (List.mem_of_getElem? (i := 54) (by decide +kernel)) (by decide +kernel)), by decide +kernel, rfl, fun _ => rfl⟩
theorem fX3_29 : am_fld RX3 29 2 8 (.array .int) true := ⟨RX3, TX3, 13, rfl, by decide, (am_wsin (List.mem_of_getElem? (i := 58) (by decide +kernel)) (by decide +kernel)), by decide +kernel, rfl, fun _ => rfl⟩
theorem fX3_32 : am_fld RX3 32 2 9 (.array .int) true := ⟨RX3, TX3, 13, rfl, by decide, (am_wsin (List.mem_of_getElem? (i := 62) (by decide +kernel)) (by decide +kernel)), by decide +kernel, rfl, fun _ => rfl⟩
theorem fX3_35 : am_fld RX3 35 2 10 (.array .int) true := ⟨RX3, TX3, 13, rfl, by decide, (am_wsin (List.mem_of_getElem? (i := 65) (by decide +kernel)) (by decide +kernel)), by decide +kernel, rfl, fun _ => rfl⟩
theorem fX3_38 : am_fld RX3 38 2 11 (.array .int) true := ⟨RX3, TX3, 13, rfl, by decide, (am_wsin (List.mem_of_getElem? (i := 68) (by decide +kernel)) (by decide +kernel)), by decide +kernel, rfl, fun _ => rfl⟩
theorem kX3_70 : Cond.methodLink RX3 70 yX3_isStanding ∈ am_ws ∧ Cond.instanceMethod yX3_isStanding ∈ am_ws ∧ Cond.selects RX3 yX3_isStanding yX3_isStanding ∈ am_ws := ⟨(am_wsin (List.mem_of_getElem? (i := 249) (by decide +kernel)) (by decide +kernel)), (am_wsin (List.mem_of_getElem? (i := 250) (by decide +kernel)) (by decide +kernel)), (am_wsin (List.mem_of_getElem? (i := 251) (by decide +kernel)) (by decide +kernel))⟩
theorem fX3_13 : am_fld RX3 13 2 0 (.array .int) true := ⟨RX3, TX3, 13, rfl, by decide, (am_wsin (List.mem_of_getElem? (i := 37) (by decide +kernel)) (by decide +kernel)), by decide +kernel, rfl, fun _ => rfl⟩
theorem kX3_85 : Cond.methodLink RX3 85 yJ9_max_7cf53 ∈ am_ws ∧ Cond.static yJ9_max_7cf53 ∈ am_ws := ⟨(am_wsin (List.mem_of_getElem? (i := 444) (by decide +kernel)) (by decide +kernel)), (am_wsin (List.mem_of_getElem? (i := 445) (by decide +kernel)) (by decide +kernel))⟩
theorem kX3_44 : Cond.methodLinkNest RX3 44 yX6_copyRow "PuppetPitches" ∈ am_nw ∧ Cond.static yX6_copyRow ∈ am_ws := ⟨(List.mem_filter.mpr ⟨List.mem_of_getElem? (i := 30) (by decide +kernel), by decide +kernel⟩), (am_wsin (List.mem_of_getElem? (i := 31) (by decide +kernel)) (by decide +kernel))⟩
theorem fX3_18 : am_fld RX3 18 2 1 (.long) false := ⟨RX3, TX3, 13, rfl, by decide, (am_wsin (List.mem_of_getElem? (i := 38) (by decide +kernel)) (by decide +kernel)), by decide +kernel, rfl, fun _ => rfl⟩
theorem fX3_22 : am_fld RX3 22 2 2 (.int) false := ⟨RX3, TX3, 13, rfl, by decide, (am_wsin (List.mem_of_getElem? (i := 40) (by decide +kernel)) (by decide +kernel)), by decide +kernel, rfl, fun _ => rfl⟩
theorem fX3_51 : am_fld RX3 51 2 3 (.int) false := ⟨RX3, TX3, 13, rfl, by decide, (am_wsin (List.mem_of_getElem? (i := 42) (by decide +kernel)) (by decide +kernel)), by decide +kernel, rfl, fun _ => rfl⟩
theorem fX3_54 : am_fld RX3 54 2 4 (.int) false := ⟨RX3, TX3, 13, rfl, by decide, (am_wsin (List.mem_of_getElem? (i := 45) (by decide +kernel)) (by decide +kernel)), by decide +kernel, rfl, fun _ => rfl⟩
theorem fX3_57 : am_fld RX3 57 2 5 (.int) false := ⟨RX3, TX3, 13, rfl, by decide, (am_wsin (List.mem_of_getElem? (i := 48) (by decide +kernel)) (by decide +kernel)), by decide +kernel, rfl, fun _ => rfl⟩
theorem fX3_41 : am_fld RX3 41 2 12 (.array .int) true := ⟨RX3, TX3, 13, rfl, by decide, (am_wsin (List.mem_of_getElem? (i := 71) (by decide +kernel)) (by decide +kernel)), by decide +kernel, rfl, fun _ => rfl⟩
theorem cX3_91 : Cond.constantLong RX3 91 (1103515245) ∈ am_ws := (am_wsin (List.mem_of_getElem? (i := 350) (by decide +kernel)) (by decide +kernel))
theorem cX3_93 : Cond.constantLong RX3 93 (12345) ∈ am_ws := (am_wsin (List.mem_of_getElem? (i := 351) (by decide +kernel)) (by decide +kernel))
theorem cX3_95 : Cond.constantLong RX3 95 (2147483648) ∈ am_ws := (am_wsin (List.mem_of_getElem? (i := 352) (by decide +kernel)) (by decide +kernel))
theorem cX3_97 : Cond.constantLong RX3 97 (65536) ∈ am_ws := (am_wsin (List.mem_of_getElem? (i := 353) (by decide +kernel)) (by decide +kernel))
theorem oX3_3 : Cond.methodLink RX3 3 objectInit ∈ am_ws := (am_wsin (List.mem_of_getElem? (i := 27) (by decide +kernel)) (by decide +kernel))
theorem sX3_9 : Cond.fieldLinkNest RX3 9 "PuppetPitches" "FIRST_SETTINGS" "[I" "PuppetPitches" ∈ am_nw := (List.mem_filter.mpr ⟨List.mem_of_getElem? (i := 28) (by decide +kernel), by decide +kernel⟩)
theorem kX3_48 : Cond.methodLink RX3 48 yX3_forgetLots ∈ am_ws ∧ Cond.instanceMethod yX3_forgetLots ∈ am_ws ∧ Cond.selects RX3 yX3_forgetLots yX3_forgetLots ∈ am_ws := ⟨(am_wsin (List.mem_of_getElem? (i := 33) (by decide +kernel)) (by decide +kernel)), (am_wsin (List.mem_of_getElem? (i := 35) (by decide +kernel)) (by decide +kernel)), (am_wsin (List.mem_of_getElem? (i := 0) (by decide +kernel)) (by decide +kernel))⟩
theorem kX3_77 : Cond.methodLink RX3 77 yX3_hides ∈ am_ws ∧ Cond.instanceMethod yX3_hides ∈ am_ws ∧ Cond.selects RX3 yX3_hides yX3_hides ∈ am_ws := ⟨(am_wsin (List.mem_of_getElem? (i := 421) (by decide +kernel)) (by decide +kernel)), (am_wsin (List.mem_of_getElem? (i := 423) (by decide +kernel)) (by decide +kernel)), (am_wsin (List.mem_of_getElem? (i := 3) (by decide +kernel)) (by decide +kernel))⟩
theorem kX3_63 : Cond.methodLinkNest RX3 63 yX6_isPitch "PuppetPitches" ∈ am_nw ∧ Cond.static yX6_isPitch ∈ am_ws := ⟨(List.mem_filter.mpr ⟨List.mem_of_getElem? (i := 370) (by decide +kernel), by decide +kernel⟩), (am_wsin (List.mem_of_getElem? (i := 275) (by decide +kernel)) (by decide +kernel))⟩
theorem kX3_67 : Cond.methodLink RX3 67 yX3_isBooth ∈ am_ws ∧ Cond.instanceMethod yX3_isBooth ∈ am_ws ∧ Cond.selects RX3 yX3_isBooth yX3_isBooth ∈ am_ws := ⟨(am_wsin (List.mem_of_getElem? (i := 253) (by decide +kernel)) (by decide +kernel)), (am_wsin (List.mem_of_getElem? (i := 254) (by decide +kernel)) (by decide +kernel)), (am_wsin (List.mem_of_getElem? (i := 255) (by decide +kernel)) (by decide +kernel))⟩
theorem kX3_73 : Cond.methodLink RX3 73 yX3_boothAt ∈ am_ws ∧ Cond.instanceMethod yX3_boothAt ∈ am_ws ∧ Cond.selects RX3 yX3_boothAt yX3_boothAt ∈ am_ws := ⟨(am_wsin (List.mem_of_getElem? (i := 300) (by decide +kernel)) (by decide +kernel)), (am_wsin (List.mem_of_getElem? (i := 301) (by decide +kernel)) (by decide +kernel)), (am_wsin (List.mem_of_getElem? (i := 302) (by decide +kernel)) (by decide +kernel))⟩
theorem kX3_81 : Cond.methodLink RX3 81 yX3_closeUp ∈ am_ws ∧ Cond.static yX3_closeUp ∈ am_ws := ⟨(am_wsin (List.mem_of_getElem? (i := 441) (by decide +kernel)) (by decide +kernel)), (am_wsin (List.mem_of_getElem? (i := 442) (by decide +kernel)) (by decide +kernel))⟩
theorem oX4_3 : Cond.methodLink RX4 3 objectInit ∈ am_ws := (am_wsin (List.mem_of_getElem? (i := 113) (by decide +kernel)) (by decide +kernel))
theorem fX4_9 : am_fld RX4 9 3 1 (.array .int) true := ⟨RX4, TX4, 5, rfl, by decide, (am_wsin (List.mem_of_getElem? (i := 115) (by decide +kernel)) (by decide +kernel)), by decide +kernel, rfl, fun _ => rfl⟩
theorem fX4_15 : am_fld RX4 15 3 2 (.array .int) true := ⟨RX4, TX4, 5, rfl, by decide, (am_wsin (List.mem_of_getElem? (i := 116) (by decide +kernel)) (by decide +kernel)), by decide +kernel, rfl, fun _ => rfl⟩
theorem fX4_18 : am_fld RX4 18 3 0 (.boolean) true := ⟨RX4, TX4, 5, rfl, by decide, (am_wsin (List.mem_of_getElem? (i := 114) (by decide +kernel)) (by decide +kernel)), by decide +kernel, rfl, fun _ => rfl⟩
theorem kX4_29 : Cond.methodLinkNest RX4 29 yX6_isPitch "PuppetPitches" ∈ am_nw ∧ Cond.static yX6_isPitch ∈ am_ws := ⟨(List.mem_filter.mpr ⟨List.mem_of_getElem? (i := 316) (by decide +kernel), by decide +kernel⟩), (am_wsin (List.mem_of_getElem? (i := 275) (by decide +kernel)) (by decide +kernel))⟩
theorem kX4_33 : Cond.methodLink RX4 33 yX4_isSeen ∈ am_ws ∧ Cond.instanceMethod yX4_isSeen ∈ am_ws ∧ Cond.selects RX4 yX4_isSeen yX4_isSeen ∈ am_ws := ⟨(am_wsin (List.mem_of_getElem? (i := 312) (by decide +kernel)) (by decide +kernel)), (am_wsin (List.mem_of_getElem? (i := 313) (by decide +kernel)) (by decide +kernel)), (am_wsin (List.mem_of_getElem? (i := 314) (by decide +kernel)) (by decide +kernel))⟩
theorem fX4_22 : am_fld RX4 22 3 3 (.int) false := ⟨RX4, TX4, 5, rfl, by decide, (am_wsin (List.mem_of_getElem? (i := 117) (by decide +kernel)) (by decide +kernel)), by decide +kernel, rfl, fun _ => rfl⟩
theorem fX4_26 : am_fld RX4 26 3 4 (.int) false := ⟨RX4, TX4, 5, rfl, by decide, (am_wsin (List.mem_of_getElem? (i := 118) (by decide +kernel)) (by decide +kernel)), by decide +kernel, rfl, fun _ => rfl⟩
theorem kX5_70 : Cond.methodLink RX5 70 yX5_crowdAt ∈ am_ws ∧ Cond.instanceMethod yX5_crowdAt ∈ am_ws ∧ Cond.selects RX5 yX5_crowdAt yX5_crowdAt ∈ am_ws := ⟨(am_wsin (List.mem_of_getElem? (i := 325) (by decide +kernel)) (by decide +kernel)), (am_wsin (List.mem_of_getElem? (i := 305) (by decide +kernel)) (by decide +kernel)), (am_wsin (List.mem_of_getElem? (i := 306) (by decide +kernel)) (by decide +kernel))⟩
theorem kX5_73 : Cond.methodLink RX5 73 yX5_isOpen ∈ am_ws ∧ Cond.instanceMethod yX5_isOpen ∈ am_ws ∧ Cond.selects RX5 yX5_isOpen yX5_isOpen ∈ am_ws := ⟨(am_wsin (List.mem_of_getElem? (i := 326) (by decide +kernel)) (by decide +kernel)), (am_wsin (List.mem_of_getElem? (i := 327) (by decide +kernel)) (by decide +kernel)), (am_wsin (List.mem_of_getElem? (i := 328) (by decide +kernel)) (by decide +kernel))⟩
theorem fX5_9 : am_fld RX5 9 4 0 (.array .int) true := ⟨RX5, TX5, 3, rfl, by decide, (am_wsin (List.mem_of_getElem? (i := 131) (by decide +kernel)) (by decide +kernel)), by decide +kernel, rfl, fun _ => rfl⟩
theorem fX5_20 : am_fld RX5 20 4 1 (.object "PuppetPitches$Stream") true := ⟨RX5, TX5, 3, rfl, by decide, (am_wsin (List.mem_of_getElem? (i := 132) (by decide +kernel)) (by decide +kernel)), by decide +kernel, rfl, fun _ => rfl⟩
theorem kX5_61 : Cond.methodLink RX5 61 yX4_stopping ∈ am_ws ∧ Cond.instanceMethod yX4_stopping ∈ am_ws ∧ Cond.selects RX4 yX4_stopping yX4_stopping ∈ am_ws := ⟨(am_wsin (List.mem_of_getElem? (i := 308) (by decide +kernel)) (by decide +kernel)), (am_wsin (List.mem_of_getElem? (i := 309) (by decide +kernel)) (by decide +kernel)), (am_wsin (List.mem_of_getElem? (i := 310) (by decide +kernel)) (by decide +kernel))⟩
theorem fX5_24 : am_fld RX5 24 4 2 (.object "PuppetPitches$Stream") true := ⟨RX5, TX5, 3, rfl, by decide, (am_wsin (List.mem_of_getElem? (i := 134) (by decide +kernel)) (by decide +kernel)), by decide +kernel, rfl, fun _ => rfl⟩
theorem oX5_3 : Cond.methodLink RX5 3 objectInit ∈ am_ws := (am_wsin (List.mem_of_getElem? (i := 107) (by decide +kernel)) (by decide +kernel))
theorem wX5_15 : am_nwf RX5 15 3 5 [.int 0, .null, .null, .int 0, .int 0] := ⟨RX4, TX4, rfl, (am_wsin (List.mem_of_getElem? (i := 108) (by decide +kernel)) (by decide +kernel)), (am_wsin (List.mem_of_getElem? (i := 109) (by decide +kernel)) (by decide +kernel)), (am_wsin (List.mem_of_getElem? (i := 8) (by decide +kernel)) (by decide +kernel)), by decide +kernel, by decide +kernel⟩
theorem kX5_17 : Cond.methodLink RX5 17 yX4_init ∈ am_ws ∧ Cond.instanceMethod yX4_init ∈ am_ws := ⟨(am_wsin (List.mem_of_getElem? (i := 110) (by decide +kernel)) (by decide +kernel)), (am_wsin (List.mem_of_getElem? (i := 111) (by decide +kernel)) (by decide +kernel))⟩
theorem kX5_65 : Cond.methodLink RX5 65 yJ9_abs_0f7a4 ∈ am_ws ∧ Cond.static yJ9_abs_0f7a4 ∈ am_ws := ⟨(am_wsin (List.mem_of_getElem? (i := 330) (by decide +kernel)) (by decide +kernel)), (am_wsin (List.mem_of_getElem? (i := 331) (by decide +kernel)) (by decide +kernel))⟩
theorem kX5_53 : Cond.methodLink RX5 53 yX3_setting ∈ am_ws ∧ Cond.instanceMethod yX3_setting ∈ am_ws ∧ Cond.selects RX3 yX3_setting yX3_setting ∈ am_ws := ⟨(am_wsin (List.mem_of_getElem? (i := 281) (by decide +kernel)) (by decide +kernel)), (am_wsin (List.mem_of_getElem? (i := 222) (by decide +kernel)) (by decide +kernel)), (am_wsin (List.mem_of_getElem? (i := 223) (by decide +kernel)) (by decide +kernel))⟩
theorem kX5_57 : Cond.methodLink RX5 57 yX4_walk ∈ am_ws ∧ Cond.instanceMethod yX4_walk ∈ am_ws ∧ Cond.selects RX4 yX4_walk yX4_walk ∈ am_ws := ⟨(am_wsin (List.mem_of_getElem? (i := 282) (by decide +kernel)) (by decide +kernel)), (am_wsin (List.mem_of_getElem? (i := 283) (by decide +kernel)) (by decide +kernel)), (am_wsin (List.mem_of_getElem? (i := 284) (by decide +kernel)) (by decide +kernel))⟩
theorem kX5_27 : Cond.methodLink RX5 27 yX5_clear ∈ am_ws ∧ Cond.instanceMethod yX5_clear ∈ am_ws ∧ Cond.selects RX5 yX5_clear yX5_clear ∈ am_ws := ⟨(am_wsin (List.mem_of_getElem? (i := 265) (by decide +kernel)) (by decide +kernel)), (am_wsin (List.mem_of_getElem? (i := 266) (by decide +kernel)) (by decide +kernel)), (am_wsin (List.mem_of_getElem? (i := 267) (by decide +kernel)) (by decide +kernel))⟩
theorem kX5_30 : Cond.methodLink RX5 30 yX3_isStanding ∈ am_ws ∧ Cond.instanceMethod yX3_isStanding ∈ am_ws ∧ Cond.selects RX3 yX3_isStanding yX3_isStanding ∈ am_ws := ⟨(am_wsin (List.mem_of_getElem? (i := 269) (by decide +kernel)) (by decide +kernel)), (am_wsin (List.mem_of_getElem? (i := 250) (by decide +kernel)) (by decide +kernel)), (am_wsin (List.mem_of_getElem? (i := 251) (by decide +kernel)) (by decide +kernel))⟩
theorem fX5_36 : am_fld RX5 36 2 8 (.array .int) true := ⟨RX3, TX3, 13, rfl, by decide, (am_wsin (List.mem_of_getElem? (i := 59) (by decide +kernel)) (by decide +kernel)), by decide +kernel, rfl, fun _ => rfl⟩
theorem fX5_39 : am_fld RX5 39 2 7 (.array .int) true := ⟨RX3, TX3, 13, rfl, by decide, (am_wsin (List.mem_of_getElem? (i := 55) (by decide +kernel)) (by decide +kernel)), by decide +kernel, rfl, fun _ => rfl⟩
theorem kX5_42 : Cond.methodLink RX5 42 yX5_raise ∈ am_ws ∧ Cond.instanceMethod yX5_raise ∈ am_ws ∧ Cond.selects RX5 yX5_raise yX5_raise ∈ am_ws := ⟨(am_wsin (List.mem_of_getElem? (i := 270) (by decide +kernel)) (by decide +kernel)), (am_wsin (List.mem_of_getElem? (i := 271) (by decide +kernel)) (by decide +kernel)), (am_wsin (List.mem_of_getElem? (i := 272) (by decide +kernel)) (by decide +kernel))⟩
theorem kX5_46 : Cond.methodLink RX5 46 yX5_letPeoplePass ∈ am_ws ∧ Cond.instanceMethod yX5_letPeoplePass ∈ am_ws ∧ Cond.selects RX5 yX5_letPeoplePass yX5_letPeoplePass ∈ am_ws := ⟨(am_wsin (List.mem_of_getElem? (i := 277) (by decide +kernel)) (by decide +kernel)), (am_wsin (List.mem_of_getElem? (i := 278) (by decide +kernel)) (by decide +kernel)), (am_wsin (List.mem_of_getElem? (i := 279) (by decide +kernel)) (by decide +kernel))⟩
theorem kX5_50 : Cond.methodLinkNest RX5 50 yX6_isPitch "PuppetPitches" ∈ am_nw ∧ Cond.static yX6_isPitch ∈ am_ws := ⟨(List.mem_filter.mpr ⟨List.mem_of_getElem? (i := 274) (by decide +kernel), by decide +kernel⟩), (am_wsin (List.mem_of_getElem? (i := 275) (by decide +kernel)) (by decide +kernel))⟩
theorem fX6_10 : am_fld RX6 10 5 0 (.object "PuppetPitches$State") true := ⟨RX6, TX6, 6, rfl, by decide, (am_wsin (List.mem_of_getElem? (i := 184) (by decide +kernel)) (by decide +kernel)), by decide +kernel, rfl, fun _ => rfl⟩
theorem kX6_85 : Cond.methodLink RX6 85 yX3_isBooth ∈ am_ws ∧ Cond.instanceMethod yX3_isBooth ∈ am_ws ∧ Cond.selects RX3 yX3_isBooth yX3_isBooth ∈ am_ws := ⟨(am_wsin (List.mem_of_getElem? (i := 294) (by decide +kernel)) (by decide +kernel)), (am_wsin (List.mem_of_getElem? (i := 254) (by decide +kernel)) (by decide +kernel)), (am_wsin (List.mem_of_getElem? (i := 255) (by decide +kernel)) (by decide +kernel))⟩
theorem kX6_161 : Cond.methodLink RX6 161 yX3_isStanding ∈ am_ws ∧ Cond.instanceMethod yX3_isStanding ∈ am_ws ∧ Cond.selects RX3 yX3_isStanding yX3_isStanding ∈ am_ws := ⟨(am_wsin (List.mem_of_getElem? (i := 416) (by decide +kernel)) (by decide +kernel)), (am_wsin (List.mem_of_getElem? (i := 250) (by decide +kernel)) (by decide +kernel)), (am_wsin (List.mem_of_getElem? (i := 251) (by decide +kernel)) (by decide +kernel))⟩
theorem fX6_22 : am_fld RX6 22 5 2 (.object "PuppetPitches$View") true := ⟨RX6, TX6, 6, rfl, by decide, (am_wsin (List.mem_of_getElem? (i := 186) (by decide +kernel)) (by decide +kernel)), by decide +kernel, rfl, fun _ => rfl⟩
theorem kX6_137 : Cond.methodLink RX6 137 yX5_look ∈ am_ws ∧ Cond.instanceMethod yX5_look ∈ am_ws ∧ Cond.selects RX5 yX5_look yX5_look ∈ am_ws := ⟨(am_wsin (List.mem_of_getElem? (i := 261) (by decide +kernel)) (by decide +kernel)), (am_wsin (List.mem_of_getElem? (i := 262) (by decide +kernel)) (by decide +kernel)), (am_wsin (List.mem_of_getElem? (i := 263) (by decide +kernel)) (by decide +kernel))⟩
theorem fX6_102 : am_fld RX6 102 2 8 (.array .int) true := ⟨RX3, TX3, 13, rfl, by decide, (am_wsin (List.mem_of_getElem? (i := 61) (by decide +kernel)) (by decide +kernel)), by decide +kernel, rfl, fun _ => rfl⟩
theorem kX6_141 : Cond.methodLink RX6 141 yX5_crowdAt ∈ am_ws ∧ Cond.instanceMethod yX5_crowdAt ∈ am_ws ∧ Cond.selects RX5 yX5_crowdAt yX5_crowdAt ∈ am_ws := ⟨(am_wsin (List.mem_of_getElem? (i := 304) (by decide +kernel)) (by decide +kernel)), (am_wsin (List.mem_of_getElem? (i := 305) (by decide +kernel)) (by decide +kernel)), (am_wsin (List.mem_of_getElem? (i := 306) (by decide +kernel)) (by decide +kernel))⟩
theorem fX6_95 : am_fld RX6 95 2 7 (.array .int) true := ⟨RX3, TX3, 13, rfl, by decide, (am_wsin (List.mem_of_getElem? (i := 57) (by decide +kernel)) (by decide +kernel)), by decide +kernel, rfl, fun _ => rfl⟩
theorem kX6_198 : Cond.methodLink RX6 198 yX5_bestOpenPitch ∈ am_ws ∧ Cond.instanceMethod yX5_bestOpenPitch ∈ am_ws ∧ Cond.selects RX5 yX5_bestOpenPitch yX5_bestOpenPitch ∈ am_ws := ⟨(am_wsin (List.mem_of_getElem? (i := 321) (by decide +kernel)) (by decide +kernel)), (am_wsin (List.mem_of_getElem? (i := 322) (by decide +kernel)) (by decide +kernel)), (am_wsin (List.mem_of_getElem? (i := 323) (by decide +kernel)) (by decide +kernel))⟩
theorem kX6_145 : Cond.methodLink RX6 145 yX6_stoppingFrom ∈ am_ws ∧ Cond.instanceMethod yX6_stoppingFrom ∈ am_ws ∧ Cond.selects RX6 yX6_stoppingFrom yX6_stoppingFrom ∈ am_ws := ⟨(am_wsin (List.mem_of_getElem? (i := 397) (by decide +kernel)) (by decide +kernel)), (am_wsin (List.mem_of_getElem? (i := 399) (by decide +kernel)) (by decide +kernel)), (am_wsin (List.mem_of_getElem? (i := 2) (by decide +kernel)) (by decide +kernel))⟩
theorem fX6_88 : am_fld RX6 88 2 9 (.array .int) true := ⟨RX3, TX3, 13, rfl, by decide, (am_wsin (List.mem_of_getElem? (i := 63) (by decide +kernel)) (by decide +kernel)), by decide +kernel, rfl, fun _ => rfl⟩
theorem fX6_149 : am_fld RX6 149 2 10 (.array .int) true := ⟨RX3, TX3, 13, rfl, by decide, (am_wsin (List.mem_of_getElem? (i := 67) (by decide +kernel)) (by decide +kernel)), by decide +kernel, rfl, fun _ => rfl⟩
theorem fX6_152 : am_fld RX6 152 2 11 (.array .int) true := ⟨RX3, TX3, 13, rfl, by decide, (am_wsin (List.mem_of_getElem? (i := 70) (by decide +kernel)) (by decide +kernel)), by decide +kernel, rfl, fun _ => rfl⟩
theorem kX6_76 : Cond.methodLink RX6 76 yX6_isHeight ∈ am_ws ∧ Cond.static yX6_isHeight ∈ am_ws := ⟨(am_wsin (List.mem_of_getElem? (i := 233) (by decide +kernel)) (by decide +kernel)), (am_wsin (List.mem_of_getElem? (i := 234) (by decide +kernel)) (by decide +kernel))⟩
theorem fX6_79 : am_fld RX6 79 2 6 (.int) false := ⟨RX3, TX3, 13, rfl, by decide, (am_wsin (List.mem_of_getElem? (i := 53) (by decide +kernel)) (by decide +kernel)), by decide +kernel, rfl, fun _ => rfl⟩
theorem fX6_36 : am_fld RX6 36 5 4 (.object "PuppetPitches$History") true := ⟨RX6, TX6, 6, rfl, by decide, (am_wsin (List.mem_of_getElem? (i := 188) (by decide +kernel)) (by decide +kernel)), by decide +kernel, rfl, fun _ => rfl⟩
theorem kX6_48 : Cond.methodLink RX6 48 yX1_record ∈ am_ws ∧ Cond.instanceMethod yX1_record ∈ am_ws ∧ Cond.selects RX1 yX1_record yX1_record ∈ am_ws := ⟨(am_wsin (List.mem_of_getElem? (i := 209) (by decide +kernel)) (by decide +kernel)), (am_wsin (List.mem_of_getElem? (i := 210) (by decide +kernel)) (by decide +kernel)), (am_wsin (List.mem_of_getElem? (i := 211) (by decide +kernel)) (by decide +kernel))⟩
theorem kX6_82 : Cond.methodLink RX6 82 yX3_addBooth ∈ am_ws ∧ Cond.instanceMethod yX3_addBooth ∈ am_ws ∧ Cond.selects RX3 yX3_addBooth yX3_addBooth ∈ am_ws := ⟨(am_wsin (List.mem_of_getElem? (i := 236) (by decide +kernel)) (by decide +kernel)), (am_wsin (List.mem_of_getElem? (i := 237) (by decide +kernel)) (by decide +kernel)), (am_wsin (List.mem_of_getElem? (i := 238) (by decide +kernel)) (by decide +kernel))⟩
theorem sX6_177 : Cond.fieldLink RX6 177 "PuppetPitches" "FIRST_SETTINGS" "[I" ∈ am_ws := (am_wsin (List.mem_of_getElem? (i := 244) (by decide +kernel)) (by decide +kernel))
theorem kX6_52 : Cond.methodLink RX6 52 yX3_setting ∈ am_ws ∧ Cond.instanceMethod yX3_setting ∈ am_ws ∧ Cond.selects RX3 yX3_setting yX3_setting ∈ am_ws := ⟨(am_wsin (List.mem_of_getElem? (i := 221) (by decide +kernel)) (by decide +kernel)), (am_wsin (List.mem_of_getElem? (i := 222) (by decide +kernel)) (by decide +kernel)), (am_wsin (List.mem_of_getElem? (i := 223) (by decide +kernel)) (by decide +kernel))⟩
theorem fX6_105 : am_fld RX6 105 2 1 (.long) false := ⟨RX3, TX3, 13, rfl, by decide, (am_wsin (List.mem_of_getElem? (i := 39) (by decide +kernel)) (by decide +kernel)), by decide +kernel, rfl, fun _ => rfl⟩
theorem kX6_180 : Cond.methodLink RX6 180 yX3_countStanding ∈ am_ws ∧ Cond.instanceMethod yX3_countStanding ∈ am_ws ∧ Cond.selects RX3 yX3_countStanding yX3_countStanding ∈ am_ws := ⟨(am_wsin (List.mem_of_getElem? (i := 245) (by decide +kernel)) (by decide +kernel)), (am_wsin (List.mem_of_getElem? (i := 246) (by decide +kernel)) (by decide +kernel)), (am_wsin (List.mem_of_getElem? (i := 247) (by decide +kernel)) (by decide +kernel))⟩
theorem fX6_67 : am_fld RX6 67 2 2 (.int) false := ⟨RX3, TX3, 13, rfl, by decide, (am_wsin (List.mem_of_getElem? (i := 41) (by decide +kernel)) (by decide +kernel)), by decide +kernel, rfl, fun _ => rfl⟩
theorem kX6_183 : Cond.methodLink RX6 183 yX6_stoppingNowhere ∈ am_ws ∧ Cond.instanceMethod yX6_stoppingNowhere ∈ am_ws ∧ Cond.selects RX6 yX6_stoppingNowhere yX6_stoppingNowhere ∈ am_ws := ⟨(am_wsin (List.mem_of_getElem? (i := 257) (by decide +kernel)) (by decide +kernel)), (am_wsin (List.mem_of_getElem? (i := 259) (by decide +kernel)) (by decide +kernel)), (am_wsin (List.mem_of_getElem? (i := 1) (by decide +kernel)) (by decide +kernel))⟩
theorem fX6_109 : am_fld RX6 109 2 3 (.int) false := ⟨RX3, TX3, 13, rfl, by decide, (am_wsin (List.mem_of_getElem? (i := 44) (by decide +kernel)) (by decide +kernel)), by decide +kernel, rfl, fun _ => rfl⟩
theorem fX6_186 : am_fld RX6 186 2 4 (.int) false := ⟨RX3, TX3, 13, rfl, by decide, (am_wsin (List.mem_of_getElem? (i := 47) (by decide +kernel)) (by decide +kernel)), by decide +kernel, rfl, fun _ => rfl⟩
theorem fX6_189 : am_fld RX6 189 2 5 (.int) false := ⟨RX3, TX3, 13, rfl, by decide, (am_wsin (List.mem_of_getElem? (i := 50) (by decide +kernel)) (by decide +kernel)), by decide +kernel, rfl, fun _ => rfl⟩
theorem fX6_29 : am_fld RX6 29 5 3 (.object "PuppetPitches$Pad") true := ⟨RX6, TX6, 6, rfl, by decide, (am_wsin (List.mem_of_getElem? (i := 187) (by decide +kernel)) (by decide +kernel)), by decide +kernel, rfl, fun _ => rfl⟩
theorem fX6_134 : am_fld RX6 134 1 1 (.int) false := ⟨RX2, TX2, 5, rfl, by decide, (am_wsin (List.mem_of_getElem? (i := 150) (by decide +kernel)) (by decide +kernel)), by decide +kernel, rfl, fun _ => rfl⟩
theorem fX6_192 : am_fld RX6 192 0 2 (.int) false := ⟨RX1, TX1, 3, rfl, by decide, (am_wsin (List.mem_of_getElem? (i := 176) (by decide +kernel)) (by decide +kernel)), by decide +kernel, rfl, fun _ => rfl⟩
theorem kX6_91 : Cond.methodLink RX6 91 yX3_removeBooth ∈ am_ws ∧ Cond.instanceMethod yX3_removeBooth ∈ am_ws ∧ Cond.selects RX3 yX3_removeBooth yX3_removeBooth ∈ am_ws := ⟨(am_wsin (List.mem_of_getElem? (i := 437) (by decide +kernel)) (by decide +kernel)), (am_wsin (List.mem_of_getElem? (i := 438) (by decide +kernel)) (by decide +kernel)), (am_wsin (List.mem_of_getElem? (i := 439) (by decide +kernel)) (by decide +kernel))⟩
theorem fX6_16 : am_fld RX6 16 5 1 (.object "PuppetPitches$State") true := ⟨RX6, TX6, 6, rfl, by decide, (am_wsin (List.mem_of_getElem? (i := 185) (by decide +kernel)) (by decide +kernel)), by decide +kernel, rfl, fun _ => rfl⟩
theorem kX6_201 : Cond.methodLink RX6 201 yX3_copyFrom ∈ am_ws ∧ Cond.instanceMethod yX3_copyFrom ∈ am_ws ∧ Cond.selects RX3 yX3_copyFrom yX3_copyFrom ∈ am_ws := ⟨(am_wsin (List.mem_of_getElem? (i := 337) (by decide +kernel)) (by decide +kernel)), (am_wsin (List.mem_of_getElem? (i := 215) (by decide +kernel)) (by decide +kernel)), (am_wsin (List.mem_of_getElem? (i := 216) (by decide +kernel)) (by decide +kernel))⟩
theorem kX6_112 : Cond.methodLink RX6 112 yX0_pass ∈ am_ws ∧ Cond.static yX0_pass ∈ am_ws := ⟨(am_wsin (List.mem_of_getElem? (i := 338) (by decide +kernel)) (by decide +kernel)), (am_wsin (List.mem_of_getElem? (i := 339) (by decide +kernel)) (by decide +kernel))⟩
theorem kX6_60 : Cond.methodLink RX6 60 yX6_isPitch ∈ am_ws ∧ Cond.static yX6_isPitch ∈ am_ws := ⟨(am_wsin (List.mem_of_getElem? (i := 295) (by decide +kernel)) (by decide +kernel)), (am_wsin (List.mem_of_getElem? (i := 275) (by decide +kernel)) (by decide +kernel))⟩
theorem kX6_98 : Cond.methodLink RX6 98 yX3_isTakenByOther ∈ am_ws ∧ Cond.instanceMethod yX3_isTakenByOther ∈ am_ws ∧ Cond.selects RX3 yX3_isTakenByOther yX3_isTakenByOther ∈ am_ws := ⟨(am_wsin (List.mem_of_getElem? (i := 296) (by decide +kernel)) (by decide +kernel)), (am_wsin (List.mem_of_getElem? (i := 297) (by decide +kernel)) (by decide +kernel)), (am_wsin (List.mem_of_getElem? (i := 298) (by decide +kernel)) (by decide +kernel))⟩
theorem oX6_1 : Cond.methodLink RX6 1 objectInit ∈ am_ws := (am_wsin (List.mem_of_getElem? (i := 19) (by decide +kernel)) (by decide +kernel))
theorem wX6_7 : am_nwf RX6 7 2 13 [.null, .long 0, .int 0, .int 0, .int 0, .int 0, .int 0, .null, .null, .null, .null, .null, .null] := ⟨RX3, TX3, rfl, (am_wsin (List.mem_of_getElem? (i := 22) (by decide +kernel)) (by decide +kernel)), (am_wsin (List.mem_of_getElem? (i := 23) (by decide +kernel)) (by decide +kernel)), (am_wsin (List.mem_of_getElem? (i := 6) (by decide +kernel)) (by decide +kernel)), by decide +kernel, by decide +kernel⟩
theorem kX6_9 : Cond.methodLink RX6 9 yX3_init ∈ am_ws ∧ Cond.instanceMethod yX3_init ∈ am_ws := ⟨(am_wsin (List.mem_of_getElem? (i := 24) (by decide +kernel)) (by decide +kernel)), (am_wsin (List.mem_of_getElem? (i := 25) (by decide +kernel)) (by decide +kernel))⟩
theorem wX6_19 : am_nwf RX6 19 4 3 [.null, .null, .null] := ⟨RX5, TX5, rfl, (am_wsin (List.mem_of_getElem? (i := 102) (by decide +kernel)) (by decide +kernel)), (am_wsin (List.mem_of_getElem? (i := 103) (by decide +kernel)) (by decide +kernel)), (am_wsin (List.mem_of_getElem? (i := 7) (by decide +kernel)) (by decide +kernel)), by decide +kernel, by decide +kernel⟩
theorem kX6_21 : Cond.methodLinkNest RX6 21 yX5_init "PuppetPitches" ∈ am_nw ∧ Cond.instanceMethod yX5_init ∈ am_ws := ⟨(List.mem_filter.mpr ⟨List.mem_of_getElem? (i := 104) (by decide +kernel), by decide +kernel⟩), (am_wsin (List.mem_of_getElem? (i := 105) (by decide +kernel)) (by decide +kernel))⟩
theorem wX6_26 : am_nwf RX6 26 1 5 [.null, .int 0, .int 0, .null, .null] := ⟨RX2, TX2, rfl, (am_wsin (List.mem_of_getElem? (i := 143) (by decide +kernel)) (by decide +kernel)), (am_wsin (List.mem_of_getElem? (i := 144) (by decide +kernel)) (by decide +kernel)), (am_wsin (List.mem_of_getElem? (i := 9) (by decide +kernel)) (by decide +kernel)), by decide +kernel, by decide +kernel⟩
theorem kX6_28 : Cond.methodLinkNest RX6 28 yX2_init "PuppetPitches" ∈ am_nw ∧ Cond.instanceMethod yX2_init ∈ am_ws := ⟨(List.mem_filter.mpr ⟨List.mem_of_getElem? (i := 145) (by decide +kernel), by decide +kernel⟩), (am_wsin (List.mem_of_getElem? (i := 146) (by decide +kernel)) (by decide +kernel))⟩
theorem wX6_33 : am_nwf RX6 33 0 3 [.null, .int 0, .int 0] := ⟨RX1, TX1, rfl, (am_wsin (List.mem_of_getElem? (i := 165) (by decide +kernel)) (by decide +kernel)), (am_wsin (List.mem_of_getElem? (i := 166) (by decide +kernel)) (by decide +kernel)), (am_wsin (List.mem_of_getElem? (i := 10) (by decide +kernel)) (by decide +kernel)), by decide +kernel, by decide +kernel⟩
theorem kX6_35 : Cond.methodLinkNest RX6 35 yX1_init "PuppetPitches" ∈ am_nw ∧ Cond.instanceMethod yX1_init ∈ am_ws := ⟨(List.mem_filter.mpr ⟨List.mem_of_getElem? (i := 167) (by decide +kernel), by decide +kernel⟩), (am_wsin (List.mem_of_getElem? (i := 168) (by decide +kernel)) (by decide +kernel))⟩
theorem waX6_7 : Cond.classLink RX6 7 RX3 ∈ am_ws ∧ Cond.arrayOver (.object RX3) ∈ am_nw := ⟨(am_wsin (List.mem_of_getElem? (i := 22) (by decide +kernel)) (by decide +kernel)), (List.mem_filter.mpr ⟨List.mem_of_getElem? (i := 172) (by decide +kernel), by decide +kernel⟩)⟩
theorem fX6_40 : am_fld RX6 40 5 5 (.array (.object "PuppetPitches$State")) true := ⟨RX6, TX6, 6, rfl, by decide, (am_wsin (List.mem_of_getElem? (i := 189) (by decide +kernel)) (by decide +kernel)), by decide +kernel, rfl, fun _ => rfl⟩
theorem fX6_195 : am_fld RX6 195 2 12 (.array .int) true := ⟨RX3, TX3, 13, rfl, by decide, (am_wsin (List.mem_of_getElem? (i := 73) (by decide +kernel)) (by decide +kernel)), by decide +kernel, rfl, fun _ => rfl⟩
theorem kX6_64 : Cond.methodLink RX6 64 yX3_isRoofed ∈ am_ws ∧ Cond.instanceMethod yX3_isRoofed ∈ am_ws ∧ Cond.selects RX3 yX3_isRoofed yX3_isRoofed ∈ am_ws := ⟨(am_wsin (List.mem_of_getElem? (i := 390) (by decide +kernel)) (by decide +kernel)), (am_wsin (List.mem_of_getElem? (i := 367) (by decide +kernel)) (by decide +kernel)), (am_wsin (List.mem_of_getElem? (i := 368) (by decide +kernel)) (by decide +kernel))⟩
theorem kX6_155 : Cond.methodLink RX6 155 yX3_boothAt ∈ am_ws ∧ Cond.instanceMethod yX3_boothAt ∈ am_ws ∧ Cond.selects RX3 yX3_boothAt yX3_boothAt ∈ am_ws := ⟨(am_wsin (List.mem_of_getElem? (i := 391) (by decide +kernel)) (by decide +kernel)), (am_wsin (List.mem_of_getElem? (i := 301) (by decide +kernel)) (by decide +kernel)), (am_wsin (List.mem_of_getElem? (i := 302) (by decide +kernel)) (by decide +kernel))⟩
theorem kX6_158 : Cond.methodLink RX6 158 yX5_isOpen ∈ am_ws ∧ Cond.instanceMethod yX5_isOpen ∈ am_ws ∧ Cond.selects RX5 yX5_isOpen yX5_isOpen ∈ am_ws := ⟨(am_wsin (List.mem_of_getElem? (i := 392) (by decide +kernel)) (by decide +kernel)), (am_wsin (List.mem_of_getElem? (i := 327) (by decide +kernel)) (by decide +kernel)), (am_wsin (List.mem_of_getElem? (i := 328) (by decide +kernel)) (by decide +kernel))⟩
theorem kX6_71 : Cond.methodLink RX6 71 yJ6_bitCount_0f7a4 ∈ am_ws ∧ Cond.static yJ6_bitCount_0f7a4 ∈ am_ws := ⟨(am_wsin (List.mem_of_getElem? (i := 455) (by decide +kernel)) (by decide +kernel)), (am_wsin (List.mem_of_getElem? (i := 456) (by decide +kernel)) (by decide +kernel))⟩
theorem kX6_164 : Cond.methodLink RX6 164 yX3_isHidden ∈ am_ws ∧ Cond.instanceMethod yX3_isHidden ∈ am_ws ∧ Cond.selects RX3 yX3_isHidden yX3_isHidden ∈ am_ws := ⟨(am_wsin (List.mem_of_getElem? (i := 417) (by decide +kernel)) (by decide +kernel)), (am_wsin (List.mem_of_getElem? (i := 418) (by decide +kernel)) (by decide +kernel)), (am_wsin (List.mem_of_getElem? (i := 419) (by decide +kernel)) (by decide +kernel))⟩
theorem kX6_168 : Cond.methodLink RX6 168 yX5_streamFrom ∈ am_ws ∧ Cond.instanceMethod yX5_streamFrom ∈ am_ws ∧ Cond.selects RX5 yX5_streamFrom yX5_streamFrom ∈ am_ws := ⟨(am_wsin (List.mem_of_getElem? (i := 401) (by decide +kernel)) (by decide +kernel)), (am_wsin (List.mem_of_getElem? (i := 402) (by decide +kernel)) (by decide +kernel)), (am_wsin (List.mem_of_getElem? (i := 403) (by decide +kernel)) (by decide +kernel))⟩
theorem kX6_172 : Cond.methodLink RX6 172 yX4_isSeen ∈ am_ws ∧ Cond.instanceMethod yX4_isSeen ∈ am_ws ∧ Cond.selects RX4 yX4_isSeen yX4_isSeen ∈ am_ws := ⟨(am_wsin (List.mem_of_getElem? (i := 425) (by decide +kernel)) (by decide +kernel)), (am_wsin (List.mem_of_getElem? (i := 313) (by decide +kernel)) (by decide +kernel)), (am_wsin (List.mem_of_getElem? (i := 314) (by decide +kernel)) (by decide +kernel))⟩
theorem sX6_44 : Cond.fieldLink RX6 44 "PuppetPitches" "GREATEST_SETTINGS" "[I" ∈ am_ws := (am_wsin (List.mem_of_getElem? (i := 207) (by decide +kernel)) (by decide +kernel))
theorem kX6_56 : Cond.methodLink RX6 56 yX3_changeSetting ∈ am_ws ∧ Cond.instanceMethod yX3_changeSetting ∈ am_ws ∧ Cond.selects RX3 yX3_changeSetting yX3_changeSetting ∈ am_ws := ⟨(am_wsin (List.mem_of_getElem? (i := 225) (by decide +kernel)) (by decide +kernel)), (am_wsin (List.mem_of_getElem? (i := 226) (by decide +kernel)) (by decide +kernel)), (am_wsin (List.mem_of_getElem? (i := 227) (by decide +kernel)) (by decide +kernel))⟩
theorem kX6_215 : Cond.methodLink RX6 215 yX4_stopping ∈ am_ws ∧ Cond.instanceMethod yX4_stopping ∈ am_ws ∧ Cond.selects RX4 yX4_stopping yX4_stopping ∈ am_ws := ⟨(am_wsin (List.mem_of_getElem? (i := 405) (by decide +kernel)) (by decide +kernel)), (am_wsin (List.mem_of_getElem? (i := 309) (by decide +kernel)) (by decide +kernel)), (am_wsin (List.mem_of_getElem? (i := 310) (by decide +kernel)) (by decide +kernel))⟩
theorem fX6_218 : am_fld RX6 218 4 1 (.object "PuppetPitches$Stream") true := ⟨RX5, TX5, 3, rfl, by decide, (am_wsin (List.mem_of_getElem? (i := 133) (by decide +kernel)) (by decide +kernel)), by decide +kernel, rfl, fun _ => rfl⟩
theorem fX6_222 : am_fld RX6 222 3 4 (.int) false := ⟨RX4, TX4, 5, rfl, by decide, (am_wsin (List.mem_of_getElem? (i := 119) (by decide +kernel)) (by decide +kernel)), by decide +kernel, rfl, fun _ => rfl⟩
theorem fX6_225 : am_fld RX6 225 4 2 (.object "PuppetPitches$Stream") true := ⟨RX5, TX5, 3, rfl, by decide, (am_wsin (List.mem_of_getElem? (i := 135) (by decide +kernel)) (by decide +kernel)), by decide +kernel, rfl, fun _ => rfl⟩
theorem kX6_212 : Cond.methodLink RX6 212 yX1_takeBack ∈ am_ws ∧ Cond.instanceMethod yX1_takeBack ∈ am_ws ∧ Cond.selects RX1 yX1_takeBack yX1_takeBack ∈ am_ws := ⟨(am_wsin (List.mem_of_getElem? (i := 376) (by decide +kernel)) (by decide +kernel)), (am_wsin (List.mem_of_getElem? (i := 377) (by decide +kernel)) (by decide +kernel)), (am_wsin (List.mem_of_getElem? (i := 378) (by decide +kernel)) (by decide +kernel))⟩
theorem wt_int : Cond.arrayClass .int ∈ am_ws := (am_wsin (List.mem_of_getElem? (i := 101) (by decide +kernel)) (by decide +kernel))
theorem wt_char : Cond.arrayClass .char ∈ am_ws := (am_wsin (List.mem_of_getElem? (i := 164) (by decide +kernel)) (by decide +kernel))
theorem q_bipush_m6 : (Int8.ofInt (-6)).toInt32 = (-6 : Int32) := by decide +kernel
theorem q_bipush_m5 : (Int8.ofInt (-5)).toInt32 = (-5 : Int32) := by decide +kernel
theorem q_bipush_m4 : (Int8.ofInt (-4)).toInt32 = (-4 : Int32) := by decide +kernel
theorem q_bipush_m2 : (Int8.ofInt (-2)).toInt32 = (-2 : Int32) := by decide +kernel
theorem q_bipush_6 : (Int8.ofInt (6)).toInt32 = (6 : Int32) := by decide +kernel
theorem q_bipush_7 : (Int8.ofInt (7)).toInt32 = (7 : Int32) := by decide +kernel
theorem q_bipush_8 : (Int8.ofInt (8)).toInt32 = (8 : Int32) := by decide +kernel
theorem q_bipush_9 : (Int8.ofInt (9)).toInt32 = (9 : Int32) := by decide +kernel
theorem q_bipush_10 : (Int8.ofInt (10)).toInt32 = (10 : Int32) := by decide +kernel
theorem q_bipush_11 : (Int8.ofInt (11)).toInt32 = (11 : Int32) := by decide +kernel
theorem q_bipush_12 : (Int8.ofInt (12)).toInt32 = (12 : Int32) := by decide +kernel
theorem q_bipush_13 : (Int8.ofInt (13)).toInt32 = (13 : Int32) := by decide +kernel
theorem q_bipush_14 : (Int8.ofInt (14)).toInt32 = (14 : Int32) := by decide +kernel
theorem q_bipush_16 : (Int8.ofInt (16)).toInt32 = (16 : Int32) := by decide +kernel
theorem q_bipush_17 : (Int8.ofInt (17)).toInt32 = (17 : Int32) := by decide +kernel
theorem q_bipush_48 : (Int8.ofInt (48)).toInt32 = (48 : Int32) := by decide +kernel
theorem q_bipush_60 : (Int8.ofInt (60)).toInt32 = (60 : Int32) := by decide +kernel
theorem q_bipush_63 : (Int8.ofInt (63)).toInt32 = (63 : Int32) := by decide +kernel
theorem q_bipush_80 : (Int8.ofInt (80)).toInt32 = (80 : Int32) := by decide +kernel
theorem q_bipush_100 : (Int8.ofInt (100)).toInt32 = (100 : Int32) := by decide +kernel
theorem q_bipush_101 : (Int8.ofInt (101)).toInt32 = (101 : Int32) := by decide +kernel
theorem q_iconst_m1 : Int32.ofInt (-1) = (-1 : Int32) := by decide +kernel
theorem q_iconst_0 : Int32.ofInt (0) = (0 : Int32) := by decide +kernel
theorem q_iconst_1 : Int32.ofInt (1) = (1 : Int32) := by decide +kernel
theorem q_iconst_2 : Int32.ofInt (2) = (2 : Int32) := by decide +kernel
theorem q_iconst_3 : Int32.ofInt (3) = (3 : Int32) := by decide +kernel
theorem q_iconst_4 : Int32.ofInt (4) = (4 : Int32) := by decide +kernel
theorem q_iconst_5 : Int32.ofInt (5) = (5 : Int32) := by decide +kernel
theorem q_lconst_1 : Int64.ofNat ((1 : Fin 2) : Nat) = (1 : Int64) := by decide +kernel
theorem q_sipush_300 : (Int16.ofInt (300)).toInt32 = (300 : Int32) := by decide +kernel
theorem q_sipush_1000 : (Int16.ofInt (1000)).toInt32 = (1000 : Int32) := by decide +kernel
theorem q_sipush_7919 : (Int16.ofInt (7919)).toInt32 = (7919 : Int32) := by decide +kernel
theorem q_sipush_9990 : (Int16.ofInt (9990)).toInt32 = (9990 : Int32) := by decide +kernel
theorem q_sipush_9999 : (Int16.ofInt (9999)).toInt32 = (9999 : Int32) := by decide +kernel
