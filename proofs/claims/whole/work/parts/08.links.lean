/-! printed: the methods as the abstract machine has them; what their instructions link -/
def mJ6_bitCount_0f7a4 : am_M := (yJ6_bitCount_0f7a4, cJ6_bitCount_0f7a4, 1, (some .int), 1, 0, 0)
def mJ9_abs_0f7a4 : am_M := (yJ9_abs_0f7a4, cJ9_abs_0f7a4, 1, (some .int), 1, 0, 0)
def mJ9_max_7cf53 : am_M := (yJ9_max_7cf53, cJ9_max_7cf53, 2, (some .int), 1, 0, 0)
def mJ9_min_7cf53 : am_M := (yJ9_min_7cf53, cJ9_min_7cf53, 2, (some .int), 1, 0, 0)
def mX1_init : am_M := (yX1_init, cX1_init, 1, none, 1, 1, 6)
def mX2_append : am_M := (yX2_append, cX2_append, 7, none, 1, 0, 0)
def mX2_countLetters : am_M := (yX2_countLetters, cX2_countLetters, 7, (some .int), 1, 0, 0)
def mX2_init : am_M := (yX2_init, cX2_init, 1, none, 1, 3, 76)
def mX2_readComma : am_M := (yX2_readComma, cX2_readComma, 2, (some .int), 1, 0, 0)
def mX2_readHeight : am_M := (yX2_readHeight, cX2_readHeight, 2, (some .int), 1, 0, 0)
def mX2_readPitch : am_M := (yX2_readPitch, cX2_readPitch, 2, (some .int), 1, 0, 0)
def mX3_addBooth : am_M := (yX3_addBooth, cX3_addBooth, 3, none, 1, 0, 0)
def mX3_changeSetting : am_M := (yX3_changeSetting, cX3_changeSetting, 3, none, 1, 0, 0)
def mX3_draw : am_M := (yX3_draw, cX3_draw, 2, (some .int), 1, 0, 0)
def mX3_forgetLots : am_M := (yX3_forgetLots, cX3_forgetLots, 2, none, 1, 0, 0)
def mX3_isBooth : am_M := (yX3_isBooth, cX3_isBooth, 2, (some .boolean), 1, 0, 0)
def mX3_setting : am_M := (yX3_setting, cX3_setting, 2, (some .int), 1, 0, 0)
def mX4_init : am_M := (yX4_init, cX4_init, 2, none, 1, 2, 24)
def mX4_walk : am_M := (yX4_walk, cX4_walk, 8, none, 1, 0, 0)
def mX5_clear : am_M := (yX5_clear, cX5_clear, 2, none, 1, 0, 0)
def mX5_streamFrom : am_M := (yX5_streamFrom, cX5_streamFrom, 2, (some (.object "PuppetPitches$Stream")), 1, 0, 0)
def mX6_copyRow : am_M := (yX6_copyRow, cX6_copyRow, 3, none, 1, 0, 0)
def mX6_isHeight : am_M := (yX6_isHeight, cX6_isHeight, 1, (some .boolean), 1, 0, 0)
def mX6_isPitch : am_M := (yX6_isPitch, cX6_isPitch, 1, (some .boolean), 1, 0, 0)
def mX6_lot : am_M := (yX6_lot, cX6_lot, 2, (some .int), 1, 0, 0)
def mX6_wipe : am_M := (yX6_wipe, cX6_wipe, 2, (some .int), 1, 0, 0)
def mX7_at : am_M := (yX7_at, cX7_at, 2, (some .int), 1, 0, 0)
def mX7_copies : am_M := (yX7_copies, cX7_copies, 2, none, 1, 0, 0)
def mX7_crowdOf : am_M := (yX7_crowdOf, cX7_crowdOf, 2, (some .int), 1, 0, 0)
def mX7_draws : am_M := (yX7_draws, cX7_draws, 3, (some .int), 1, 0, 0)
def mX7_forgets : am_M := (yX7_forgets, cX7_forgets, 2, none, 1, 0, 0)
def mX7_in : am_M := (yX7_in, cX7_in, 3, (some .boolean), 1, 0, 0)
def mX7_mostOf : am_M := (yX7_mostOf, cX7_mostOf, 1, (some .int), 1, 0, 0)
def mX7_remembers : am_M := (yX7_remembers, cX7_remembers, 2, none, 1, 0, 0)
def mX7_roofs : am_M := (yX7_roofs, cX7_roofs, 3, (some .int), 1, 0, 0)
def mX7_sign : am_M := (yX7_sign, cX7_sign, 2, (some .int), 1, 0, 0)
def mX7_undo : am_M := (yX7_undo, cX7_undo, 2, (some .int), 1, 0, 0)
def mX7_wipe : am_M := (yX7_wipe, cX7_wipe, 2, (some .int), 1, 0, 0)
def mX0_drawLots : am_M := (yX0_drawLots, cX0_drawLots, 5, none, 2, 0, 0)
def mX2_hasSharedPitch : am_M := (yX2_hasSharedPitch, cX2_hasSharedPitch, 4, (some .boolean), 2, 0, 0)
def mX2_readFirstDigit : am_M := (yX2_readFirstDigit, cX2_readFirstDigit, 2, (some .int), 2, 0, 0)
def mX3_closeUp : am_M := (yX3_closeUp, cX3_closeUp, 3, none, 2, 0, 0)
def mX3_copyFrom : am_M := (yX3_copyFrom, cX3_copyFrom, 2, none, 2, 0, 0)
def mX3_forgetBooths : am_M := (yX3_forgetBooths, cX3_forgetBooths, 1, none, 2, 0, 0)
def mX3_init : am_M := (yX3_init, cX3_init, 1, none, 2, 7, 54)
def mX3_isRoofed : am_M := (yX3_isRoofed, cX3_isRoofed, 2, (some .boolean), 2, 0, 0)
def mX3_isStanding : am_M := (yX3_isStanding, cX3_isStanding, 2, (some .boolean), 2, 0, 0)
def mX4_isSeen : am_M := (yX4_isSeen, cX4_isSeen, 3, (some .boolean), 2, 0, 0)
def mX5_init : am_M := (yX5_init, cX5_init, 1, none, 2, 7, 70)
def mX5_isOpen : am_M := (yX5_isOpen, cX5_isOpen, 4, (some .boolean), 2, 0, 0)
def mX5_letPeoplePass : am_M := (yX5_letPeoplePass, cX5_letPeoplePass, 2, none, 2, 0, 0)
def mX5_raise : am_M := (yX5_raise, cX5_raise, 3, none, 2, 0, 0)
def mX6_put : am_M := (yX6_put, cX6_put, 4, (some .int), 2, 0, 0)
def mX7_boothAt : am_M := (yX7_boothAt, cX7_boothAt, 4, (some .int), 2, 0, 0)
def mX7_comes : am_M := (yX7_comes, cX7_comes, 4, none, 2, 0, 0)
def mX7_digit : am_M := (yX7_digit, cX7_digit, 2, (some .int), 2, 0, 0)
def mX7_init : am_M := (yX7_init, cX7_init, 1, none, 2, 6, 678)
def mX7_isBooth : am_M := (yX7_isBooth, cX7_isBooth, 2, (some .boolean), 2, 0, 0)
def mX7_isFree : am_M := (yX7_isFree, cX7_isFree, 7, (some .boolean), 2, 0, 0)
def mX7_isPitch : am_M := (yX7_isPitch, cX7_isPitch, 1, (some .boolean), 2, 0, 0)
def mX7_its : am_M := (yX7_its, cX7_its, 3, (some .int), 2, 0, 0)
def mX7_lot : am_M := (yX7_lot, cX7_lot, 2, (some .int), 2, 0, 0)
def mX7_lots : am_M := (yX7_lots, cX7_lots, 6, none, 2, 0, 0)
def mX7_put : am_M := (yX7_put, cX7_put, 8, (some .int), 2, 0, 0)
def mX7_restore : am_M := (yX7_restore, cX7_restore, 3, (some .int), 2, 0, 0)
def mX7_save : am_M := (yX7_save, cX7_save, 3, (some .int), 2, 0, 0)
def mX7_set : am_M := (yX7_set, cX7_set, 4, (some .int), 2, 0, 0)
def mX7_shuffle : am_M := (yX7_shuffle, cX7_shuffle, 3, (some .int), 2, 0, 0)
def mX1_record : am_M := (yX1_record, cX1_record, 2, none, 3, 8, 67)
def mX1_takeBack : am_M := (yX1_takeBack, cX1_takeBack, 3, none, 3, 0, 0)
def mX2_stageAfter : am_M := (yX2_stageAfter, cX2_stageAfter, 3, (some .int), 3, 0, 0)
def mX3_boothAt : am_M := (yX3_boothAt, cX3_boothAt, 3, (some .int), 3, 0, 0)
def mX3_countStanding : am_M := (yX3_countStanding, cX3_countStanding, 3, (some .int), 3, 0, 0)
def mX3_hides : am_M := (yX3_hides, cX3_hides, 4, (some .boolean), 3, 0, 0)
def mX3_removeBooth : am_M := (yX3_removeBooth, cX3_removeBooth, 3, none, 3, 0, 0)
def mX4_stopping : am_M := (yX4_stopping, cX4_stopping, 3, (some .int), 3, 0, 0)
def mX5_look : am_M := (yX5_look, cX5_look, 4, none, 3, 0, 0)
def mX6_init : am_M := (yX6_init, cX6_init, 1, none, 3, 31, 299)
def mX6_save : am_M := (yX6_save, cX6_save, 2, (some .int), 3, 8, 67)
def mX7_come : am_M := (yX7_come, cX7_come, 2, (some .int), 3, 0, 0)
def mX7_go : am_M := (yX7_go, cX7_go, 4, (some .int), 3, 0, 0)
def mX7_goes : am_M := (yX7_goes, cX7_goes, 8, (some .int), 3, 0, 0)
def mX7_height : am_M := (yX7_height, cX7_height, 4, (some .int), 3, 0, 0)
def mX7_hides : am_M := (yX7_hides, cX7_hides, 6, (some .boolean), 3, 0, 0)
def mX7_highest : am_M := (yX7_highest, cX7_highest, 7, (some .int), 3, 0, 0)
def mX7_isOthers : am_M := (yX7_isOthers, cX7_isOthers, 4, (some .boolean), 3, 0, 0)
def mX7_partEnd : am_M := (yX7_partEnd, cX7_partEnd, 2, (some .int), 3, 0, 0)
def mX7_pitch : am_M := (yX7_pitch, cX7_pitch, 3, (some .int), 3, 0, 0)
def mX7_roof : am_M := (yX7_roof, cX7_roof, 3, (some .int), 3, 0, 0)
def mX7_standing : am_M := (yX7_standing, cX7_standing, 3, (some .int), 3, 0, 0)
def mX2_findFault : am_M := (yX2_findFault, cX2_findFault, 3, (some .int), 4, 0, 0)
def mX3_isHidden : am_M := (yX3_isHidden, cX3_isHidden, 4, (some .boolean), 4, 0, 0)
def mX3_isTakenByOther : am_M := (yX3_isTakenByOther, cX3_isTakenByOther, 4, (some .boolean), 4, 0, 0)
def mX5_crowdAt : am_M := (yX5_crowdAt, cX5_crowdAt, 3, (some .int), 4, 0, 0)
def mX6_come : am_M := (yX6_come, cX6_come, 2, (some .int), 4, 8, 67)
def mX6_go : am_M := (yX6_go, cX6_go, 3, (some .int), 4, 8, 67)
def mX6_height : am_M := (yX6_height, cX6_height, 4, (some .int), 4, 8, 67)
def mX6_pitch : am_M := (yX6_pitch, cX6_pitch, 3, (some .int), 4, 0, 0)
def mX6_restore : am_M := (yX6_restore, cX6_restore, 3, (some .int), 4, 8, 67)
def mX6_roof : am_M := (yX6_roof, cX6_roof, 3, (some .int), 4, 8, 67)
def mX6_set : am_M := (yX6_set, cX6_set, 4, (some .int), 4, 8, 67)
def mX6_shuffle : am_M := (yX6_shuffle, cX6_shuffle, 3, (some .int), 4, 8, 67)
def mX6_stoppingFrom : am_M := (yX6_stoppingFrom, cX6_stoppingFrom, 3, (some .int), 4, 0, 0)
def mX6_stoppingNowhere : am_M := (yX6_stoppingNowhere, cX6_stoppingNowhere, 1, (some .int), 4, 0, 0)
def mX6_undo : am_M := (yX6_undo, cX6_undo, 1, (some .int), 4, 0, 0)
def mX7_crowds : am_M := (yX7_crowds, cX7_crowds, 3, (some .int), 4, 0, 0)
def mX7_fault : am_M := (yX7_fault, cX7_fault, 4, (some .int), 4, 0, 0)
def mX7_isHidden : am_M := (yX7_isHidden, cX7_isHidden, 5, (some .boolean), 4, 0, 0)
def mX7_pitchOf : am_M := (yX7_pitchOf, cX7_pitchOf, 3, (some .int), 4, 0, 0)
def mX7_stand : am_M := (yX7_stand, cX7_stand, 4, (some .int), 4, 0, 0)
def mX0_passHats : am_M := (yX0_passHats, cX0_passHats, 9, (some .int), 5, 0, 0)
def mX5_bestOpenPitch : am_M := (yX5_bestOpenPitch, cX5_bestOpenPitch, 7, (some .int), 5, 0, 0)
def mX6_bestHeight : am_M := (yX6_bestHeight, cX6_bestHeight, 6, (some .int), 5, 0, 0)
def mX6_booth : am_M := (yX6_booth, cX6_booth, 3, (some .int), 5, 0, 0)
def mX6_count : am_M := (yX6_count, cX6_count, 2, (some .int), 5, 0, 0)
def mX6_fault : am_M := (yX6_fault, cX6_fault, 1, (some .int), 5, 0, 0)
def mX6_ifStood : am_M := (yX6_ifStood, cX6_ifStood, 3, (some .int), 5, 0, 0)
def mX6_read : am_M := (yX6_read, cX6_read, 2, (some .int), 5, 8, 67)
def mX6_seen : am_M := (yX6_seen, cX6_seen, 6, (some .int), 5, 0, 0)
def mX6_stand : am_M := (yX6_stand, cX6_stand, 4, (some .int), 5, 8, 67)
def mX7_crowd : am_M := (yX7_crowd, cX7_crowd, 4, (some .int), 5, 0, 0)
def mX7_crowdAt : am_M := (yX7_crowdAt, cX7_crowdAt, 6, (some .int), 5, 0, 0)
def mX7_crowdsNow : am_M := (yX7_crowdsNow, cX7_crowdsNow, 2, (some .int), 5, 0, 0)
def mX7_isTwice : am_M := (yX7_isTwice, cX7_isTwice, 5, (some .boolean), 5, 0, 0)
def mX7_seen : am_M := (yX7_seen, cX7_seen, 5, (some .int), 5, 0, 0)
def mX0_choosePitches : am_M := (yX0_choosePitches, cX0_choosePitches, 5, none, 6, 0, 0)
def mX6_bestPitch : am_M := (yX6_bestPitch, cX6_bestPitch, 2, (some .int), 6, 0, 0)
def mX7_bestHeight : am_M := (yX7_bestHeight, cX7_bestHeight, 7, (some .int), 6, 0, 0)
def mX7_bestPitch : am_M := (yX7_bestPitch, cX7_bestPitch, 6, (some .int), 6, 0, 0)
def mX7_booth : am_M := (yX7_booth, cX7_booth, 3, (some .int), 6, 0, 0)
def mX7_chooses : am_M := (yX7_chooses, cX7_chooses, 7, none, 6, 0, 0)
def mX7_count : am_M := (yX7_count, cX7_count, 2, (some .int), 6, 0, 0)
def mX7_ifStood : am_M := (yX7_ifStood, cX7_ifStood, 3, (some .int), 6, 0, 0)
def mX7_read : am_M := (yX7_read, cX7_read, 2, (some .int), 6, 0, 0)
def mX0_pass : am_M := (yX0_pass, cX0_pass, 3, (some .int), 7, 0, 0)
def mX7_plays : am_M := (yX7_plays, cX7_plays, 9, (some .int), 7, 0, 0)
def mX6_ifPlayed : am_M := (yX6_ifPlayed, cX6_ifPlayed, 5, (some .int), 8, 0, 0)
def mX6_play : am_M := (yX6_play, cX6_play, 1, (some .int), 8, 8, 67)
def mX7_ifPlayed : am_M := (yX7_ifPlayed, cX7_ifPlayed, 5, (some .int), 8, 0, 0)
def mX7_play : am_M := (yX7_play, cX7_play, 1, (some .int), 8, 0, 0)
def mL_law : am_M := (yL_law, cL_law, 4, (some .boolean), 9, 600000, 7302250)
theorem cal_J6_bitCount_0f7a4 : am_cal mJ6_bitCount_0f7a4 1 := ⟨by decide +kernel, by decide +kernel, by decide +kernel, by decide +kernel⟩
theorem cal_J9_abs_0f7a4 : am_cal mJ9_abs_0f7a4 1 := ⟨by decide +kernel, by decide +kernel, by decide +kernel, by decide +kernel⟩
theorem cal_J9_max_7cf53 : am_cal mJ9_max_7cf53 2 := ⟨by decide +kernel, by decide +kernel, by decide +kernel, by decide +kernel⟩
theorem cal_J9_min_7cf53 : am_cal mJ9_min_7cf53 2 := ⟨by decide +kernel, by decide +kernel, by decide +kernel, by decide +kernel⟩
theorem cal_X1_init : am_cal mX1_init 0 := ⟨by decide +kernel, by decide +kernel, by decide +kernel, by decide +kernel⟩
theorem cal_X2_append : am_cal mX2_append 2 := ⟨by decide +kernel, by decide +kernel, by decide +kernel, by decide +kernel⟩
theorem cal_X2_countLetters : am_cal mX2_countLetters 1 := ⟨by decide +kernel, by decide +kernel, by decide +kernel, by decide +kernel⟩
theorem cal_X2_init : am_cal mX2_init 0 := ⟨by decide +kernel, by decide +kernel, by decide +kernel, by decide +kernel⟩
theorem cal_X2_readComma : am_cal mX2_readComma 1 := ⟨by decide +kernel, by decide +kernel, by decide +kernel, by decide +kernel⟩
theorem cal_X2_readHeight : am_cal mX2_readHeight 1 := ⟨by decide +kernel, by decide +kernel, by decide +kernel, by decide +kernel⟩
theorem cal_X2_readPitch : am_cal mX2_readPitch 1 := ⟨by decide +kernel, by decide +kernel, by decide +kernel, by decide +kernel⟩
theorem cal_X3_addBooth : am_cal mX3_addBooth 2 := ⟨by decide +kernel, by decide +kernel, by decide +kernel, by decide +kernel⟩
theorem cal_X3_changeSetting : am_cal mX3_changeSetting 2 := ⟨by decide +kernel, by decide +kernel, by decide +kernel, by decide +kernel⟩
theorem cal_X3_draw : am_cal mX3_draw 1 := ⟨by decide +kernel, by decide +kernel, by decide +kernel, by decide +kernel⟩
theorem cal_X3_forgetLots : am_cal mX3_forgetLots 0 := ⟨by decide +kernel, by decide +kernel, by decide +kernel, by decide +kernel⟩
theorem cal_X3_isBooth : am_cal mX3_isBooth 1 := ⟨by decide +kernel, by decide +kernel, by decide +kernel, by decide +kernel⟩
theorem cal_X3_setting : am_cal mX3_setting 1 := ⟨by decide +kernel, by decide +kernel, by decide +kernel, by decide +kernel⟩
theorem cal_X4_init : am_cal mX4_init 1 := ⟨by decide +kernel, by decide +kernel, by decide +kernel, by decide +kernel⟩
theorem cal_X4_walk : am_cal mX4_walk 3 := ⟨by decide +kernel, by decide +kernel, by decide +kernel, by decide +kernel⟩
theorem cal_X5_clear : am_cal mX5_clear 0 := ⟨by decide +kernel, by decide +kernel, by decide +kernel, by decide +kernel⟩
theorem cal_X5_streamFrom : am_cal mX5_streamFrom 1 := ⟨by decide +kernel, by decide +kernel, by decide +kernel, by decide +kernel⟩
theorem cal_X6_copyRow : am_cal mX6_copyRow 2 := ⟨by decide +kernel, by decide +kernel, by decide +kernel, by decide +kernel⟩
theorem cal_X6_isHeight : am_cal mX6_isHeight 1 := ⟨by decide +kernel, by decide +kernel, by decide +kernel, by decide +kernel⟩
theorem cal_X6_isPitch : am_cal mX6_isPitch 1 := ⟨by decide +kernel, by decide +kernel, by decide +kernel, by decide +kernel⟩
theorem cal_X6_lot : am_cal mX6_lot 1 := ⟨by decide +kernel, by decide +kernel, by decide +kernel, by decide +kernel⟩
theorem cal_X6_wipe : am_cal mX6_wipe 0 := ⟨by decide +kernel, by decide +kernel, by decide +kernel, by decide +kernel⟩
theorem cal_X7_at : am_cal mX7_at 2 := ⟨by decide +kernel, by decide +kernel, by decide +kernel, by decide +kernel⟩
theorem cal_X7_copies : am_cal mX7_copies 0 := ⟨by decide +kernel, by decide +kernel, by decide +kernel, by decide +kernel⟩
theorem cal_X7_crowdOf : am_cal mX7_crowdOf 1 := ⟨by decide +kernel, by decide +kernel, by decide +kernel, by decide +kernel⟩
theorem cal_X7_draws : am_cal mX7_draws 2 := ⟨by decide +kernel, by decide +kernel, by decide +kernel, by decide +kernel⟩
theorem cal_X7_forgets : am_cal mX7_forgets 0 := ⟨by decide +kernel, by decide +kernel, by decide +kernel, by decide +kernel⟩
theorem cal_X7_in : am_cal mX7_in 3 := ⟨by decide +kernel, by decide +kernel, by decide +kernel, by decide +kernel⟩
theorem cal_X7_mostOf : am_cal mX7_mostOf 1 := ⟨by decide +kernel, by decide +kernel, by decide +kernel, by decide +kernel⟩
theorem cal_X7_remembers : am_cal mX7_remembers 0 := ⟨by decide +kernel, by decide +kernel, by decide +kernel, by decide +kernel⟩
theorem cal_X7_roofs : am_cal mX7_roofs 0 := ⟨by decide +kernel, by decide +kernel, by decide +kernel, by decide +kernel⟩
theorem cal_X7_sign : am_cal mX7_sign 1 := ⟨by decide +kernel, by decide +kernel, by decide +kernel, by decide +kernel⟩
theorem cal_X7_undo : am_cal mX7_undo 0 := ⟨by decide +kernel, by decide +kernel, by decide +kernel, by decide +kernel⟩
theorem cal_X7_wipe : am_cal mX7_wipe 0 := ⟨by decide +kernel, by decide +kernel, by decide +kernel, by decide +kernel⟩
theorem cal_X0_drawLots : am_cal mX0_drawLots 1 := ⟨by decide +kernel, by decide +kernel, by decide +kernel, by decide +kernel⟩
theorem cal_X2_hasSharedPitch : am_cal mX2_hasSharedPitch 0 := ⟨by decide +kernel, by decide +kernel, by decide +kernel, by decide +kernel⟩
theorem cal_X2_readFirstDigit : am_cal mX2_readFirstDigit 1 := ⟨by decide +kernel, by decide +kernel, by decide +kernel, by decide +kernel⟩
theorem cal_X3_closeUp : am_cal mX3_closeUp 2 := ⟨by decide +kernel, by decide +kernel, by decide +kernel, by decide +kernel⟩
theorem cal_X3_copyFrom : am_cal mX3_copyFrom 1 := ⟨by decide +kernel, by decide +kernel, by decide +kernel, by decide +kernel⟩
theorem cal_X3_forgetBooths : am_cal mX3_forgetBooths 0 := ⟨by decide +kernel, by decide +kernel, by decide +kernel, by decide +kernel⟩
theorem cal_X3_init : am_cal mX3_init 0 := ⟨by decide +kernel, by decide +kernel, by decide +kernel, by decide +kernel⟩
theorem cal_X3_isRoofed : am_cal mX3_isRoofed 1 := ⟨by decide +kernel, by decide +kernel, by decide +kernel, by decide +kernel⟩
theorem cal_X3_isStanding : am_cal mX3_isStanding 1 := ⟨by decide +kernel, by decide +kernel, by decide +kernel, by decide +kernel⟩
theorem cal_X4_isSeen : am_cal mX4_isSeen 2 := ⟨by decide +kernel, by decide +kernel, by decide +kernel, by decide +kernel⟩
theorem cal_X5_init : am_cal mX5_init 0 := ⟨by decide +kernel, by decide +kernel, by decide +kernel, by decide +kernel⟩
theorem cal_X5_isOpen : am_cal mX5_isOpen 2 := ⟨by decide +kernel, by decide +kernel, by decide +kernel, by decide +kernel⟩
theorem cal_X5_letPeoplePass : am_cal mX5_letPeoplePass 1 := ⟨by decide +kernel, by decide +kernel, by decide +kernel, by decide +kernel⟩
theorem cal_X5_raise : am_cal mX5_raise 2 := ⟨by decide +kernel, by decide +kernel, by decide +kernel, by decide +kernel⟩
theorem cal_X6_put : am_cal mX6_put 1 := ⟨by decide +kernel, by decide +kernel, by decide +kernel, by decide +kernel⟩
theorem cal_X7_boothAt : am_cal mX7_boothAt 2 := ⟨by decide +kernel, by decide +kernel, by decide +kernel, by decide +kernel⟩
theorem cal_X7_comes : am_cal mX7_comes 2 := ⟨by decide +kernel, by decide +kernel, by decide +kernel, by decide +kernel⟩
theorem cal_X7_digit : am_cal mX7_digit 1 := ⟨by decide +kernel, by decide +kernel, by decide +kernel, by decide +kernel⟩
theorem cal_X7_init : am_cal mX7_init 0 := ⟨by decide +kernel, by decide +kernel, by decide +kernel, by decide +kernel⟩
theorem cal_X7_isBooth : am_cal mX7_isBooth 1 := ⟨by decide +kernel, by decide +kernel, by decide +kernel, by decide +kernel⟩
theorem cal_X7_isFree : am_cal mX7_isFree 2 := ⟨by decide +kernel, by decide +kernel, by decide +kernel, by decide +kernel⟩
theorem cal_X7_isPitch : am_cal mX7_isPitch 1 := ⟨by decide +kernel, by decide +kernel, by decide +kernel, by decide +kernel⟩
theorem cal_X7_its : am_cal mX7_its 2 := ⟨by decide +kernel, by decide +kernel, by decide +kernel, by decide +kernel⟩
theorem cal_X7_lot : am_cal mX7_lot 1 := ⟨by decide +kernel, by decide +kernel, by decide +kernel, by decide +kernel⟩
theorem cal_X7_lots : am_cal mX7_lots 1 := ⟨by decide +kernel, by decide +kernel, by decide +kernel, by decide +kernel⟩
theorem cal_X7_put : am_cal mX7_put 1 := ⟨by decide +kernel, by decide +kernel, by decide +kernel, by decide +kernel⟩
theorem cal_X7_restore : am_cal mX7_restore 1 := ⟨by decide +kernel, by decide +kernel, by decide +kernel, by decide +kernel⟩
theorem cal_X7_save : am_cal mX7_save 1 := ⟨by decide +kernel, by decide +kernel, by decide +kernel, by decide +kernel⟩
theorem cal_X7_set : am_cal mX7_set 2 := ⟨by decide +kernel, by decide +kernel, by decide +kernel, by decide +kernel⟩
theorem cal_X7_shuffle : am_cal mX7_shuffle 1 := ⟨by decide +kernel, by decide +kernel, by decide +kernel, by decide +kernel⟩
theorem cal_X1_record : am_cal mX1_record 1 := ⟨by decide +kernel, by decide +kernel, by decide +kernel, by decide +kernel⟩
theorem cal_X1_takeBack : am_cal mX1_takeBack 1 := ⟨by decide +kernel, by decide +kernel, by decide +kernel, by decide +kernel⟩
theorem cal_X2_stageAfter : am_cal mX2_stageAfter 2 := ⟨by decide +kernel, by decide +kernel, by decide +kernel, by decide +kernel⟩
theorem cal_X3_boothAt : am_cal mX3_boothAt 1 := ⟨by decide +kernel, by decide +kernel, by decide +kernel, by decide +kernel⟩
theorem cal_X3_countStanding : am_cal mX3_countStanding 0 := ⟨by decide +kernel, by decide +kernel, by decide +kernel, by decide +kernel⟩
theorem cal_X3_hides : am_cal mX3_hides 3 := ⟨by decide +kernel, by decide +kernel, by decide +kernel, by decide +kernel⟩
theorem cal_X3_removeBooth : am_cal mX3_removeBooth 1 := ⟨by decide +kernel, by decide +kernel, by decide +kernel, by decide +kernel⟩
theorem cal_X4_stopping : am_cal mX4_stopping 2 := ⟨by decide +kernel, by decide +kernel, by decide +kernel, by decide +kernel⟩
theorem cal_X5_look : am_cal mX5_look 2 := ⟨by decide +kernel, by decide +kernel, by decide +kernel, by decide +kernel⟩
theorem cal_X6_init : am_cal mX6_init 0 := ⟨by decide +kernel, by decide +kernel, by decide +kernel, by decide +kernel⟩
theorem cal_X6_save : am_cal mX6_save 1 := ⟨by decide +kernel, by decide +kernel, by decide +kernel, by decide +kernel⟩
theorem cal_X7_come : am_cal mX7_come 1 := ⟨by decide +kernel, by decide +kernel, by decide +kernel, by decide +kernel⟩
theorem cal_X7_go : am_cal mX7_go 1 := ⟨by decide +kernel, by decide +kernel, by decide +kernel, by decide +kernel⟩
theorem cal_X7_goes : am_cal mX7_goes 2 := ⟨by decide +kernel, by decide +kernel, by decide +kernel, by decide +kernel⟩
theorem cal_X7_height : am_cal mX7_height 2 := ⟨by decide +kernel, by decide +kernel, by decide +kernel, by decide +kernel⟩
theorem cal_X7_hides : am_cal mX7_hides 3 := ⟨by decide +kernel, by decide +kernel, by decide +kernel, by decide +kernel⟩
theorem cal_X7_highest : am_cal mX7_highest 2 := ⟨by decide +kernel, by decide +kernel, by decide +kernel, by decide +kernel⟩
theorem cal_X7_isOthers : am_cal mX7_isOthers 2 := ⟨by decide +kernel, by decide +kernel, by decide +kernel, by decide +kernel⟩
theorem cal_X7_partEnd : am_cal mX7_partEnd 1 := ⟨by decide +kernel, by decide +kernel, by decide +kernel, by decide +kernel⟩
theorem cal_X7_pitch : am_cal mX7_pitch 2 := ⟨by decide +kernel, by decide +kernel, by decide +kernel, by decide +kernel⟩
theorem cal_X7_roof : am_cal mX7_roof 2 := ⟨by decide +kernel, by decide +kernel, by decide +kernel, by decide +kernel⟩
theorem cal_X7_standing : am_cal mX7_standing 0 := ⟨by decide +kernel, by decide +kernel, by decide +kernel, by decide +kernel⟩
theorem cal_X2_findFault : am_cal mX2_findFault 0 := ⟨by decide +kernel, by decide +kernel, by decide +kernel, by decide +kernel⟩
theorem cal_X3_isHidden : am_cal mX3_isHidden 2 := ⟨by decide +kernel, by decide +kernel, by decide +kernel, by decide +kernel⟩
theorem cal_X3_isTakenByOther : am_cal mX3_isTakenByOther 2 := ⟨by decide +kernel, by decide +kernel, by decide +kernel, by decide +kernel⟩
theorem cal_X5_crowdAt : am_cal mX5_crowdAt 2 := ⟨by decide +kernel, by decide +kernel, by decide +kernel, by decide +kernel⟩
theorem cal_X6_come : am_cal mX6_come 1 := ⟨by decide +kernel, by decide +kernel, by decide +kernel, by decide +kernel⟩
theorem cal_X6_go : am_cal mX6_go 1 := ⟨by decide +kernel, by decide +kernel, by decide +kernel, by decide +kernel⟩
theorem cal_X6_height : am_cal mX6_height 2 := ⟨by decide +kernel, by decide +kernel, by decide +kernel, by decide +kernel⟩
theorem cal_X6_pitch : am_cal mX6_pitch 2 := ⟨by decide +kernel, by decide +kernel, by decide +kernel, by decide +kernel⟩
theorem cal_X6_restore : am_cal mX6_restore 1 := ⟨by decide +kernel, by decide +kernel, by decide +kernel, by decide +kernel⟩
theorem cal_X6_roof : am_cal mX6_roof 2 := ⟨by decide +kernel, by decide +kernel, by decide +kernel, by decide +kernel⟩
theorem cal_X6_set : am_cal mX6_set 2 := ⟨by decide +kernel, by decide +kernel, by decide +kernel, by decide +kernel⟩
theorem cal_X6_shuffle : am_cal mX6_shuffle 1 := ⟨by decide +kernel, by decide +kernel, by decide +kernel, by decide +kernel⟩
theorem cal_X6_stoppingFrom : am_cal mX6_stoppingFrom 2 := ⟨by decide +kernel, by decide +kernel, by decide +kernel, by decide +kernel⟩
theorem cal_X6_stoppingNowhere : am_cal mX6_stoppingNowhere 0 := ⟨by decide +kernel, by decide +kernel, by decide +kernel, by decide +kernel⟩
theorem cal_X6_undo : am_cal mX6_undo 0 := ⟨by decide +kernel, by decide +kernel, by decide +kernel, by decide +kernel⟩
theorem cal_X7_crowds : am_cal mX7_crowds 1 := ⟨by decide +kernel, by decide +kernel, by decide +kernel, by decide +kernel⟩
theorem cal_X7_fault : am_cal mX7_fault 0 := ⟨by decide +kernel, by decide +kernel, by decide +kernel, by decide +kernel⟩
theorem cal_X7_isHidden : am_cal mX7_isHidden 2 := ⟨by decide +kernel, by decide +kernel, by decide +kernel, by decide +kernel⟩
theorem cal_X7_pitchOf : am_cal mX7_pitchOf 1 := ⟨by decide +kernel, by decide +kernel, by decide +kernel, by decide +kernel⟩
theorem cal_X7_stand : am_cal mX7_stand 2 := ⟨by decide +kernel, by decide +kernel, by decide +kernel, by decide +kernel⟩
theorem cal_X0_passHats : am_cal mX0_passHats 3 := ⟨by decide +kernel, by decide +kernel, by decide +kernel, by decide +kernel⟩
theorem cal_X5_bestOpenPitch : am_cal mX5_bestOpenPitch 2 := ⟨by decide +kernel, by decide +kernel, by decide +kernel, by decide +kernel⟩
theorem cal_X6_bestHeight : am_cal mX6_bestHeight 1 := ⟨by decide +kernel, by decide +kernel, by decide +kernel, by decide +kernel⟩
theorem cal_X6_booth : am_cal mX6_booth 2 := ⟨by decide +kernel, by decide +kernel, by decide +kernel, by decide +kernel⟩
theorem cal_X6_count : am_cal mX6_count 1 := ⟨by decide +kernel, by decide +kernel, by decide +kernel, by decide +kernel⟩
theorem cal_X6_fault : am_cal mX6_fault 0 := ⟨by decide +kernel, by decide +kernel, by decide +kernel, by decide +kernel⟩
theorem cal_X6_ifStood : am_cal mX6_ifStood 2 := ⟨by decide +kernel, by decide +kernel, by decide +kernel, by decide +kernel⟩
theorem cal_X6_read : am_cal mX6_read 0 := ⟨by decide +kernel, by decide +kernel, by decide +kernel, by decide +kernel⟩
theorem cal_X6_seen : am_cal mX6_seen 3 := ⟨by decide +kernel, by decide +kernel, by decide +kernel, by decide +kernel⟩
theorem cal_X6_stand : am_cal mX6_stand 2 := ⟨by decide +kernel, by decide +kernel, by decide +kernel, by decide +kernel⟩
theorem cal_X7_crowd : am_cal mX7_crowd 2 := ⟨by decide +kernel, by decide +kernel, by decide +kernel, by decide +kernel⟩
theorem cal_X7_crowdAt : am_cal mX7_crowdAt 3 := ⟨by decide +kernel, by decide +kernel, by decide +kernel, by decide +kernel⟩
theorem cal_X7_crowdsNow : am_cal mX7_crowdsNow 0 := ⟨by decide +kernel, by decide +kernel, by decide +kernel, by decide +kernel⟩
theorem cal_X7_isTwice : am_cal mX7_isTwice 0 := ⟨by decide +kernel, by decide +kernel, by decide +kernel, by decide +kernel⟩
theorem cal_X7_seen : am_cal mX7_seen 3 := ⟨by decide +kernel, by decide +kernel, by decide +kernel, by decide +kernel⟩
theorem cal_X0_choosePitches : am_cal mX0_choosePitches 2 := ⟨by decide +kernel, by decide +kernel, by decide +kernel, by decide +kernel⟩
theorem cal_X6_bestPitch : am_cal mX6_bestPitch 1 := ⟨by decide +kernel, by decide +kernel, by decide +kernel, by decide +kernel⟩
theorem cal_X7_bestHeight : am_cal mX7_bestHeight 1 := ⟨by decide +kernel, by decide +kernel, by decide +kernel, by decide +kernel⟩
theorem cal_X7_bestPitch : am_cal mX7_bestPitch 1 := ⟨by decide +kernel, by decide +kernel, by decide +kernel, by decide +kernel⟩
theorem cal_X7_booth : am_cal mX7_booth 2 := ⟨by decide +kernel, by decide +kernel, by decide +kernel, by decide +kernel⟩
theorem cal_X7_chooses : am_cal mX7_chooses 2 := ⟨by decide +kernel, by decide +kernel, by decide +kernel, by decide +kernel⟩
theorem cal_X7_count : am_cal mX7_count 1 := ⟨by decide +kernel, by decide +kernel, by decide +kernel, by decide +kernel⟩
theorem cal_X7_ifStood : am_cal mX7_ifStood 2 := ⟨by decide +kernel, by decide +kernel, by decide +kernel, by decide +kernel⟩
theorem cal_X7_read : am_cal mX7_read 0 := ⟨by decide +kernel, by decide +kernel, by decide +kernel, by decide +kernel⟩
theorem cal_X0_pass : am_cal mX0_pass 2 := ⟨by decide +kernel, by decide +kernel, by decide +kernel, by decide +kernel⟩
theorem cal_X7_plays : am_cal mX7_plays 1 := ⟨by decide +kernel, by decide +kernel, by decide +kernel, by decide +kernel⟩
theorem cal_X6_ifPlayed : am_cal mX6_ifPlayed 2 := ⟨by decide +kernel, by decide +kernel, by decide +kernel, by decide +kernel⟩
theorem cal_X6_play : am_cal mX6_play 0 := ⟨by decide +kernel, by decide +kernel, by decide +kernel, by decide +kernel⟩
theorem cal_X7_ifPlayed : am_cal mX7_ifPlayed 2 := ⟨by decide +kernel, by decide +kernel, by decide +kernel, by decide +kernel⟩
theorem cal_X7_play : am_cal mX7_play 0 := ⟨by decide +kernel, by decide +kernel, by decide +kernel, by decide +kernel⟩
theorem cJ6_265 : Cond.constant RJ6 265 (1431655765) ∈ am_ws := by decide +kernel
theorem cJ6_266 : Cond.constant RJ6 266 (858993459) ∈ am_ws := by decide +kernel
theorem cJ6_267 : Cond.constant RJ6 267 (252645135) ∈ am_ws := by decide +kernel
theorem wL_7 : am_nwf RL 7 5 6 [.null, .null, .null, .null, .null, .null] := ⟨RX6, TX6, rfl, by decide +kernel, by decide +kernel, by decide +kernel, by decide +kernel, by decide +kernel⟩
theorem kL_9 : Cond.methodLink RL 9 yX6_init ∈ am_ws ∧ Cond.instanceMethod yX6_init ∈ am_ws := ⟨by decide +kernel, by decide +kernel⟩
theorem wL_10 : am_nwf RL 10 6 8 [.null, .null, .int 0, .null, .null, .null, .int 0, .null] := ⟨RX7, TX7, rfl, by decide +kernel, by decide +kernel, by decide +kernel, by decide +kernel, by decide +kernel⟩
theorem kL_12 : Cond.methodLink RL 12 yX7_init ∈ am_ws ∧ Cond.instanceMethod yX7_init ∈ am_ws := ⟨by decide +kernel, by decide +kernel⟩
theorem kL_13 : Cond.methodLink RL 13 yX6_set ∈ am_ws ∧ Cond.instanceMethod yX6_set ∈ am_ws ∧ Cond.selects RX6 yX6_set yX6_set ∈ am_ws := ⟨by decide +kernel, by decide +kernel, by decide +kernel⟩
theorem kL_17 : Cond.methodLink RL 17 yX7_set ∈ am_ws ∧ Cond.instanceMethod yX7_set ∈ am_ws ∧ Cond.selects RX7 yX7_set yX7_set ∈ am_ws := ⟨by decide +kernel, by decide +kernel, by decide +kernel⟩
theorem kL_18 : Cond.methodLink RL 18 yX6_roof ∈ am_ws ∧ Cond.instanceMethod yX6_roof ∈ am_ws ∧ Cond.selects RX6 yX6_roof yX6_roof ∈ am_ws := ⟨by decide +kernel, by decide +kernel, by decide +kernel⟩
theorem kL_22 : Cond.methodLink RL 22 yX7_roof ∈ am_ws ∧ Cond.instanceMethod yX7_roof ∈ am_ws ∧ Cond.selects RX7 yX7_roof yX7_roof ∈ am_ws := ⟨by decide +kernel, by decide +kernel, by decide +kernel⟩
theorem kL_23 : Cond.methodLink RL 23 yX6_come ∈ am_ws ∧ Cond.instanceMethod yX6_come ∈ am_ws ∧ Cond.selects RX6 yX6_come yX6_come ∈ am_ws := ⟨by decide +kernel, by decide +kernel, by decide +kernel⟩
theorem kL_27 : Cond.methodLink RL 27 yX7_come ∈ am_ws ∧ Cond.instanceMethod yX7_come ∈ am_ws ∧ Cond.selects RX7 yX7_come yX7_come ∈ am_ws := ⟨by decide +kernel, by decide +kernel, by decide +kernel⟩
theorem kL_28 : Cond.methodLink RL 28 yX6_go ∈ am_ws ∧ Cond.instanceMethod yX6_go ∈ am_ws ∧ Cond.selects RX6 yX6_go yX6_go ∈ am_ws := ⟨by decide +kernel, by decide +kernel, by decide +kernel⟩
theorem kL_31 : Cond.methodLink RL 31 yX7_go ∈ am_ws ∧ Cond.instanceMethod yX7_go ∈ am_ws ∧ Cond.selects RX7 yX7_go yX7_go ∈ am_ws := ⟨by decide +kernel, by decide +kernel, by decide +kernel⟩
theorem kL_32 : Cond.methodLink RL 32 yX6_height ∈ am_ws ∧ Cond.instanceMethod yX6_height ∈ am_ws ∧ Cond.selects RX6 yX6_height yX6_height ∈ am_ws := ⟨by decide +kernel, by decide +kernel, by decide +kernel⟩
theorem kL_35 : Cond.methodLink RL 35 yX7_height ∈ am_ws ∧ Cond.instanceMethod yX7_height ∈ am_ws ∧ Cond.selects RX7 yX7_height yX7_height ∈ am_ws := ⟨by decide +kernel, by decide +kernel, by decide +kernel⟩
theorem kL_36 : Cond.methodLink RL 36 yX6_stand ∈ am_ws ∧ Cond.instanceMethod yX6_stand ∈ am_ws ∧ Cond.selects RX6 yX6_stand yX6_stand ∈ am_ws := ⟨by decide +kernel, by decide +kernel, by decide +kernel⟩
theorem kL_39 : Cond.methodLink RL 39 yX7_stand ∈ am_ws ∧ Cond.instanceMethod yX7_stand ∈ am_ws ∧ Cond.selects RX7 yX7_stand yX7_stand ∈ am_ws := ⟨by decide +kernel, by decide +kernel, by decide +kernel⟩
theorem kL_40 : Cond.methodLink RL 40 yX6_shuffle ∈ am_ws ∧ Cond.instanceMethod yX6_shuffle ∈ am_ws ∧ Cond.selects RX6 yX6_shuffle yX6_shuffle ∈ am_ws := ⟨by decide +kernel, by decide +kernel, by decide +kernel⟩
theorem kL_43 : Cond.methodLink RL 43 yX7_shuffle ∈ am_ws ∧ Cond.instanceMethod yX7_shuffle ∈ am_ws ∧ Cond.selects RX7 yX7_shuffle yX7_shuffle ∈ am_ws := ⟨by decide +kernel, by decide +kernel, by decide +kernel⟩
theorem kL_44 : Cond.methodLink RL 44 yX6_play ∈ am_ws ∧ Cond.instanceMethod yX6_play ∈ am_ws ∧ Cond.selects RX6 yX6_play yX6_play ∈ am_ws := ⟨by decide +kernel, by decide +kernel, by decide +kernel⟩
theorem kL_48 : Cond.methodLink RL 48 yX7_play ∈ am_ws ∧ Cond.instanceMethod yX7_play ∈ am_ws ∧ Cond.selects RX7 yX7_play yX7_play ∈ am_ws := ⟨by decide +kernel, by decide +kernel, by decide +kernel⟩
theorem kL_49 : Cond.methodLink RL 49 yX6_read ∈ am_ws ∧ Cond.instanceMethod yX6_read ∈ am_ws ∧ Cond.selects RX6 yX6_read yX6_read ∈ am_ws := ⟨by decide +kernel, by decide +kernel, by decide +kernel⟩
theorem kL_52 : Cond.methodLink RL 52 yX7_read ∈ am_ws ∧ Cond.instanceMethod yX7_read ∈ am_ws ∧ Cond.selects RX7 yX7_read yX7_read ∈ am_ws := ⟨by decide +kernel, by decide +kernel, by decide +kernel⟩
theorem kL_53 : Cond.methodLink RL 53 yX6_booth ∈ am_ws ∧ Cond.instanceMethod yX6_booth ∈ am_ws ∧ Cond.selects RX6 yX6_booth yX6_booth ∈ am_ws := ⟨by decide +kernel, by decide +kernel, by decide +kernel⟩
theorem kL_56 : Cond.methodLink RL 56 yX7_booth ∈ am_ws ∧ Cond.instanceMethod yX7_booth ∈ am_ws ∧ Cond.selects RX7 yX7_booth yX7_booth ∈ am_ws := ⟨by decide +kernel, by decide +kernel, by decide +kernel⟩
theorem kL_57 : Cond.methodLink RL 57 yX6_pitch ∈ am_ws ∧ Cond.instanceMethod yX6_pitch ∈ am_ws ∧ Cond.selects RX6 yX6_pitch yX6_pitch ∈ am_ws := ⟨by decide +kernel, by decide +kernel, by decide +kernel⟩
theorem kL_60 : Cond.methodLink RL 60 yX7_pitch ∈ am_ws ∧ Cond.instanceMethod yX7_pitch ∈ am_ws ∧ Cond.selects RX7 yX7_pitch yX7_pitch ∈ am_ws := ⟨by decide +kernel, by decide +kernel, by decide +kernel⟩
theorem kL_61 : Cond.methodLink RL 61 yX6_seen ∈ am_ws ∧ Cond.instanceMethod yX6_seen ∈ am_ws ∧ Cond.selects RX6 yX6_seen yX6_seen ∈ am_ws := ⟨by decide +kernel, by decide +kernel, by decide +kernel⟩
theorem kL_65 : Cond.methodLink RL 65 yX7_seen ∈ am_ws ∧ Cond.instanceMethod yX7_seen ∈ am_ws ∧ Cond.selects RX7 yX7_seen yX7_seen ∈ am_ws := ⟨by decide +kernel, by decide +kernel, by decide +kernel⟩
theorem kL_66 : Cond.methodLink RL 66 yX6_count ∈ am_ws ∧ Cond.instanceMethod yX6_count ∈ am_ws ∧ Cond.selects RX6 yX6_count yX6_count ∈ am_ws := ⟨by decide +kernel, by decide +kernel, by decide +kernel⟩
theorem kL_69 : Cond.methodLink RL 69 yX7_count ∈ am_ws ∧ Cond.instanceMethod yX7_count ∈ am_ws ∧ Cond.selects RX7 yX7_count yX7_count ∈ am_ws := ⟨by decide +kernel, by decide +kernel, by decide +kernel⟩
theorem kL_70 : Cond.methodLink RL 70 yX6_lot ∈ am_ws ∧ Cond.instanceMethod yX6_lot ∈ am_ws ∧ Cond.selects RX6 yX6_lot yX6_lot ∈ am_ws := ⟨by decide +kernel, by decide +kernel, by decide +kernel⟩
theorem kL_73 : Cond.methodLink RL 73 yX7_lot ∈ am_ws ∧ Cond.instanceMethod yX7_lot ∈ am_ws ∧ Cond.selects RX7 yX7_lot yX7_lot ∈ am_ws := ⟨by decide +kernel, by decide +kernel, by decide +kernel⟩
theorem kL_74 : Cond.methodLink RL 74 yX6_ifStood ∈ am_ws ∧ Cond.instanceMethod yX6_ifStood ∈ am_ws ∧ Cond.selects RX6 yX6_ifStood yX6_ifStood ∈ am_ws := ⟨by decide +kernel, by decide +kernel, by decide +kernel⟩
theorem kL_77 : Cond.methodLink RL 77 yX7_ifStood ∈ am_ws ∧ Cond.instanceMethod yX7_ifStood ∈ am_ws ∧ Cond.selects RX7 yX7_ifStood yX7_ifStood ∈ am_ws := ⟨by decide +kernel, by decide +kernel, by decide +kernel⟩
theorem kL_78 : Cond.methodLink RL 78 yX6_bestPitch ∈ am_ws ∧ Cond.instanceMethod yX6_bestPitch ∈ am_ws ∧ Cond.selects RX6 yX6_bestPitch yX6_bestPitch ∈ am_ws := ⟨by decide +kernel, by decide +kernel, by decide +kernel⟩
theorem kL_81 : Cond.methodLink RL 81 yX7_bestPitch ∈ am_ws ∧ Cond.instanceMethod yX7_bestPitch ∈ am_ws ∧ Cond.selects RX7 yX7_bestPitch yX7_bestPitch ∈ am_ws := ⟨by decide +kernel, by decide +kernel, by decide +kernel⟩
theorem kL_82 : Cond.methodLink RL 82 yX6_ifPlayed ∈ am_ws ∧ Cond.instanceMethod yX6_ifPlayed ∈ am_ws ∧ Cond.selects RX6 yX6_ifPlayed yX6_ifPlayed ∈ am_ws := ⟨by decide +kernel, by decide +kernel, by decide +kernel⟩
theorem kL_85 : Cond.methodLink RL 85 yX7_ifPlayed ∈ am_ws ∧ Cond.instanceMethod yX7_ifPlayed ∈ am_ws ∧ Cond.selects RX7 yX7_ifPlayed yX7_ifPlayed ∈ am_ws := ⟨by decide +kernel, by decide +kernel, by decide +kernel⟩
theorem kL_86 : Cond.methodLink RL 86 yX6_bestHeight ∈ am_ws ∧ Cond.instanceMethod yX6_bestHeight ∈ am_ws ∧ Cond.selects RX6 yX6_bestHeight yX6_bestHeight ∈ am_ws := ⟨by decide +kernel, by decide +kernel, by decide +kernel⟩
theorem kL_89 : Cond.methodLink RL 89 yX7_bestHeight ∈ am_ws ∧ Cond.instanceMethod yX7_bestHeight ∈ am_ws ∧ Cond.selects RX7 yX7_bestHeight yX7_bestHeight ∈ am_ws := ⟨by decide +kernel, by decide +kernel, by decide +kernel⟩
theorem cL_90 : Cond.constantLong RL 90 (4294967295) ∈ am_ws := by decide +kernel
theorem kL_92 : Cond.methodLink RL 92 yX6_put ∈ am_ws ∧ Cond.instanceMethod yX6_put ∈ am_ws ∧ Cond.selects RX6 yX6_put yX6_put ∈ am_ws := ⟨by decide +kernel, by decide +kernel, by decide +kernel⟩
theorem kL_96 : Cond.methodLink RL 96 yX7_put ∈ am_ws ∧ Cond.instanceMethod yX7_put ∈ am_ws ∧ Cond.selects RX7 yX7_put yX7_put ∈ am_ws := ⟨by decide +kernel, by decide +kernel, by decide +kernel⟩
theorem kL_97 : Cond.methodLink RL 97 yX6_wipe ∈ am_ws ∧ Cond.instanceMethod yX6_wipe ∈ am_ws ∧ Cond.selects RX6 yX6_wipe yX6_wipe ∈ am_ws := ⟨by decide +kernel, by decide +kernel, by decide +kernel⟩
theorem kL_100 : Cond.methodLink RL 100 yX7_wipe ∈ am_ws ∧ Cond.instanceMethod yX7_wipe ∈ am_ws ∧ Cond.selects RX7 yX7_wipe yX7_wipe ∈ am_ws := ⟨by decide +kernel, by decide +kernel, by decide +kernel⟩
theorem kL_101 : Cond.methodLink RL 101 yX6_fault ∈ am_ws ∧ Cond.instanceMethod yX6_fault ∈ am_ws ∧ Cond.selects RX6 yX6_fault yX6_fault ∈ am_ws := ⟨by decide +kernel, by decide +kernel, by decide +kernel⟩
theorem kL_104 : Cond.methodLink RL 104 yX7_fault ∈ am_ws ∧ Cond.instanceMethod yX7_fault ∈ am_ws ∧ Cond.selects RX7 yX7_fault yX7_fault ∈ am_ws := ⟨by decide +kernel, by decide +kernel, by decide +kernel⟩
theorem kL_105 : Cond.methodLink RL 105 yX6_undo ∈ am_ws ∧ Cond.instanceMethod yX6_undo ∈ am_ws ∧ Cond.selects RX6 yX6_undo yX6_undo ∈ am_ws := ⟨by decide +kernel, by decide +kernel, by decide +kernel⟩
theorem kL_108 : Cond.methodLink RL 108 yX7_undo ∈ am_ws ∧ Cond.instanceMethod yX7_undo ∈ am_ws ∧ Cond.selects RX7 yX7_undo yX7_undo ∈ am_ws := ⟨by decide +kernel, by decide +kernel, by decide +kernel⟩
theorem kL_109 : Cond.methodLink RL 109 yX6_save ∈ am_ws ∧ Cond.instanceMethod yX6_save ∈ am_ws ∧ Cond.selects RX6 yX6_save yX6_save ∈ am_ws := ⟨by decide +kernel, by decide +kernel, by decide +kernel⟩
theorem kL_112 : Cond.methodLink RL 112 yX7_save ∈ am_ws ∧ Cond.instanceMethod yX7_save ∈ am_ws ∧ Cond.selects RX7 yX7_save yX7_save ∈ am_ws := ⟨by decide +kernel, by decide +kernel, by decide +kernel⟩
theorem kL_113 : Cond.methodLink RL 113 yX6_restore ∈ am_ws ∧ Cond.instanceMethod yX6_restore ∈ am_ws ∧ Cond.selects RX6 yX6_restore yX6_restore ∈ am_ws := ⟨by decide +kernel, by decide +kernel, by decide +kernel⟩
theorem kL_116 : Cond.methodLink RL 116 yX7_restore ∈ am_ws ∧ Cond.instanceMethod yX7_restore ∈ am_ws ∧ Cond.selects RX7 yX7_restore yX7_restore ∈ am_ws := ⟨by decide +kernel, by decide +kernel, by decide +kernel⟩
theorem kX0_59 : Cond.methodLink RX0 59 yX5_clear ∈ am_ws ∧ Cond.instanceMethod yX5_clear ∈ am_ws ∧ Cond.selects RX5 yX5_clear yX5_clear ∈ am_ws := ⟨by decide +kernel, by decide +kernel, by decide +kernel⟩
theorem kX0_64 : Cond.methodLink RX0 64 yX5_letPeoplePass ∈ am_ws ∧ Cond.instanceMethod yX5_letPeoplePass ∈ am_ws ∧ Cond.selects RX5 yX5_letPeoplePass yX5_letPeoplePass ∈ am_ws := ⟨by decide +kernel, by decide +kernel, by decide +kernel⟩
theorem fX0_39 : am_fld RX0 39 2 12 (.array .int) true := ⟨RX3, TX3, 13, rfl, by decide, by decide +kernel, by decide +kernel, rfl, fun _ => rfl⟩
theorem kX0_43 : Cond.methodLink RX0 43 yX3_isBooth ∈ am_ws ∧ Cond.instanceMethod yX3_isBooth ∈ am_ws ∧ Cond.selects RX3 yX3_isBooth yX3_isBooth ∈ am_ws := ⟨by decide +kernel, by decide +kernel, by decide +kernel⟩
theorem fX0_67 : am_fld RX0 67 2 7 (.array .int) true := ⟨RX3, TX3, 13, rfl, by decide, by decide +kernel, by decide +kernel, rfl, fun _ => rfl⟩
theorem kX0_25 : Cond.methodLink RX0 25 yX3_setting ∈ am_ws ∧ Cond.instanceMethod yX3_setting ∈ am_ws ∧ Cond.selects RX3 yX3_setting yX3_setting ∈ am_ws := ⟨by decide +kernel, by decide +kernel, by decide +kernel⟩
theorem kX0_70 : Cond.methodLink RX0 70 yX5_bestOpenPitch ∈ am_ws ∧ Cond.instanceMethod yX5_bestOpenPitch ∈ am_ws ∧ Cond.selects RX5 yX5_bestOpenPitch yX5_bestOpenPitch ∈ am_ws := ⟨by decide +kernel, by decide +kernel, by decide +kernel⟩
theorem fX0_73 : am_fld RX0 73 2 8 (.array .int) true := ⟨RX3, TX3, 13, rfl, by decide, by decide +kernel, by decide +kernel, rfl, fun _ => rfl⟩
theorem kX0_76 : Cond.methodLink RX0 76 yX5_raise ∈ am_ws ∧ Cond.instanceMethod yX5_raise ∈ am_ws ∧ Cond.selects RX5 yX5_raise yX5_raise ∈ am_ws := ⟨by decide +kernel, by decide +kernel, by decide +kernel⟩
theorem fX0_47 : am_fld RX0 47 2 6 (.int) false := ⟨RX3, TX3, 13, rfl, by decide, by decide +kernel, by decide +kernel, rfl, fun _ => rfl⟩
theorem kX0_50 : Cond.methodLink RX0 50 yJ9_min_7cf53 ∈ am_ws ∧ Cond.static yJ9_min_7cf53 ∈ am_ws := ⟨by decide +kernel, by decide +kernel⟩
theorem kX0_19 : Cond.methodLink RX0 19 yX3_draw ∈ am_ws ∧ Cond.instanceMethod yX3_draw ∈ am_ws ∧ Cond.selects RX3 yX3_draw yX3_draw ∈ am_ws := ⟨by decide +kernel, by decide +kernel, by decide +kernel⟩
theorem fX0_56 : am_fld RX0 56 2 10 (.array .int) true := ⟨RX3, TX3, 13, rfl, by decide, by decide +kernel, by decide +kernel, rfl, fun _ => rfl⟩
theorem kX0_9 : Cond.methodLink RX0 9 yX0_drawLots ∈ am_ws ∧ Cond.static yX0_drawLots ∈ am_ws := ⟨by decide +kernel, by decide +kernel⟩
theorem kX0_15 : Cond.methodLink RX0 15 yX0_choosePitches ∈ am_ws ∧ Cond.static yX0_choosePitches ∈ am_ws := ⟨by decide +kernel, by decide +kernel⟩
theorem fX0_28 : am_fld RX0 28 2 3 (.int) false := ⟨RX3, TX3, 13, rfl, by decide, by decide +kernel, by decide +kernel, rfl, fun _ => rfl⟩
theorem fX0_32 : am_fld RX0 32 2 4 (.int) false := ⟨RX3, TX3, 13, rfl, by decide, by decide +kernel, by decide +kernel, rfl, fun _ => rfl⟩
theorem kX0_35 : Cond.methodLink RX0 35 yX0_passHats ∈ am_ws ∧ Cond.static yX0_passHats ∈ am_ws := ⟨by decide +kernel, by decide +kernel⟩
theorem kX0_80 : Cond.methodLink RX0 80 yX3_isStanding ∈ am_ws ∧ Cond.instanceMethod yX3_isStanding ∈ am_ws ∧ Cond.selects RX3 yX3_isStanding yX3_isStanding ∈ am_ws := ⟨by decide +kernel, by decide +kernel, by decide +kernel⟩
theorem kX0_83 : Cond.methodLink RX0 83 yX3_isRoofed ∈ am_ws ∧ Cond.instanceMethod yX3_isRoofed ∈ am_ws ∧ Cond.selects RX3 yX3_isRoofed yX3_isRoofed ∈ am_ws := ⟨by decide +kernel, by decide +kernel, by decide +kernel⟩
theorem kX0_86 : Cond.methodLink RX0 86 yX5_crowdAt ∈ am_ws ∧ Cond.instanceMethod yX5_crowdAt ∈ am_ws ∧ Cond.selects RX5 yX5_crowdAt yX5_crowdAt ∈ am_ws := ⟨by decide +kernel, by decide +kernel, by decide +kernel⟩
theorem fX0_89 : am_fld RX0 89 2 9 (.array .int) true := ⟨RX3, TX3, 13, rfl, by decide, by decide +kernel, by decide +kernel, rfl, fun _ => rfl⟩
theorem fX0_92 : am_fld RX0 92 2 11 (.array .int) true := ⟨RX3, TX3, 13, rfl, by decide, by decide +kernel, by decide +kernel, rfl, fun _ => rfl⟩
theorem fX0_95 : am_fld RX0 95 2 5 (.int) false := ⟨RX3, TX3, 13, rfl, by decide, by decide +kernel, by decide +kernel, rfl, fun _ => rfl⟩
theorem oX1_3 : Cond.methodLink RX1 3 objectInit ∈ am_ws := by decide +kernel
theorem waX1_9 : Cond.classLink RX1 9 RX3 ∈ am_ws ∧ Cond.arrayOver (.object RX3) ∈ am_nw := ⟨by decide +kernel, by decide +kernel⟩
theorem fX1_11 : am_fld RX1 11 0 0 (.array (.object "PuppetPitches$State")) true := ⟨RX1, TX1, 3, rfl, by decide, by decide +kernel, by decide +kernel, rfl, fun _ => rfl⟩
theorem fX1_17 : am_fld RX1 17 0 1 (.int) false := ⟨RX1, TX1, 3, rfl, by decide, by decide +kernel, by decide +kernel, rfl, fun _ => rfl⟩
theorem wX1_9 : am_nwf RX1 9 2 13 [.null, .long 0, .int 0, .int 0, .int 0, .int 0, .int 0, .null, .null, .null, .null, .null, .null] := ⟨RX3, TX3, rfl, by decide +kernel, by decide +kernel, by decide +kernel, by decide +kernel, by decide +kernel⟩
theorem kX1_21 : Cond.methodLink RX1 21 yX3_init ∈ am_ws ∧ Cond.instanceMethod yX3_init ∈ am_ws := ⟨by decide +kernel, by decide +kernel⟩
theorem kX1_22 : Cond.methodLink RX1 22 yX3_copyFrom ∈ am_ws ∧ Cond.instanceMethod yX3_copyFrom ∈ am_ws ∧ Cond.selects RX3 yX3_copyFrom yX3_copyFrom ∈ am_ws := ⟨by decide +kernel, by decide +kernel, by decide +kernel⟩
theorem fX1_26 : am_fld RX1 26 0 2 (.int) false := ⟨RX1, TX1, 3, rfl, by decide, by decide +kernel, by decide +kernel, rfl, fun _ => rfl⟩
theorem kX1_29 : Cond.methodLink RX1 29 yJ9_min_7cf53 ∈ am_ws ∧ Cond.static yJ9_min_7cf53 ∈ am_ws := ⟨by decide +kernel, by decide +kernel⟩
theorem fX2_28 : am_fld RX2 28 1 1 (.int) false := ⟨RX2, TX2, 5, rfl, by decide, by decide +kernel, by decide +kernel, rfl, fun _ => rfl⟩
theorem fX2_9 : am_fld RX2 9 1 0 (.array .char) true := ⟨RX2, TX2, 5, rfl, by decide, by decide +kernel, by decide +kernel, rfl, fun _ => rfl⟩
theorem cX2_22 : Cond.constantLong RX2 22 (255) ∈ am_ws := by decide +kernel
theorem cX2_24 : Cond.constantLong RX2 24 (33) ∈ am_ws := by decide +kernel
theorem cX2_26 : Cond.constantLong RX2 26 (126) ∈ am_ws := by decide +kernel
theorem fX2_32 : am_fld RX2 32 1 2 (.int) false := ⟨RX2, TX2, 5, rfl, by decide, by decide +kernel, by decide +kernel, rfl, fun _ => rfl⟩
theorem kX2_35 : Cond.methodLink RX2 35 yX2_stageAfter ∈ am_ws ∧ Cond.instanceMethod yX2_stageAfter ∈ am_ws ∧ Cond.selects RX2 yX2_stageAfter yX2_stageAfter ∈ am_ws := ⟨by decide +kernel, by decide +kernel, by decide +kernel⟩
theorem fX2_19 : am_fld RX2 19 1 4 (.array .int) true := ⟨RX2, TX2, 5, rfl, by decide, by decide +kernel, by decide +kernel, rfl, fun _ => rfl⟩
theorem kX2_53 : Cond.methodLinkNest RX2 53 yX6_isPitch "PuppetPitches" ∈ am_nw ∧ Cond.static yX6_isPitch ∈ am_ws := ⟨by decide +kernel, by decide +kernel⟩
theorem oX2_3 : Cond.methodLink RX2 3 objectInit ∈ am_ws := by decide +kernel
theorem fX2_15 : am_fld RX2 15 1 3 (.array .int) true := ⟨RX2, TX2, 5, rfl, by decide, by decide +kernel, by decide +kernel, rfl, fun _ => rfl⟩
theorem kX2_49 : Cond.methodLink RX2 49 yX2_readPitch ∈ am_ws ∧ Cond.instanceMethod yX2_readPitch ∈ am_ws ∧ Cond.selects RX2 yX2_readPitch yX2_readPitch ∈ am_ws := ⟨by decide +kernel, by decide +kernel, by decide +kernel⟩
theorem kX2_39 : Cond.methodLink RX2 39 yX2_readHeight ∈ am_ws ∧ Cond.instanceMethod yX2_readHeight ∈ am_ws ∧ Cond.selects RX2 yX2_readHeight yX2_readHeight ∈ am_ws := ⟨by decide +kernel, by decide +kernel, by decide +kernel⟩
theorem kX2_43 : Cond.methodLink RX2 43 yX2_readComma ∈ am_ws ∧ Cond.instanceMethod yX2_readComma ∈ am_ws ∧ Cond.selects RX2 yX2_readComma yX2_readComma ∈ am_ws := ⟨by decide +kernel, by decide +kernel, by decide +kernel⟩
theorem kX2_46 : Cond.methodLink RX2 46 yX2_readFirstDigit ∈ am_ws ∧ Cond.instanceMethod yX2_readFirstDigit ∈ am_ws ∧ Cond.selects RX2 yX2_readFirstDigit yX2_readFirstDigit ∈ am_ws := ⟨by decide +kernel, by decide +kernel, by decide +kernel⟩
theorem fX3_60 : am_fld RX3 60 2 6 (.int) false := ⟨RX3, TX3, 13, rfl, by decide, by decide +kernel, by decide +kernel, rfl, fun _ => rfl⟩
theorem fX3_26 : am_fld RX3 26 2 7 (.array .int) true := ⟨RX3, TX3, 13, rfl, by decide, by decide +kernel, by decide +kernel, rfl, fun _ => rfl⟩
theorem fX3_29 : am_fld RX3 29 2 8 (.array .int) true := ⟨RX3, TX3, 13, rfl, by decide, by decide +kernel, by decide +kernel, rfl, fun _ => rfl⟩
theorem fX3_32 : am_fld RX3 32 2 9 (.array .int) true := ⟨RX3, TX3, 13, rfl, by decide, by decide +kernel, by decide +kernel, rfl, fun _ => rfl⟩
theorem fX3_35 : am_fld RX3 35 2 10 (.array .int) true := ⟨RX3, TX3, 13, rfl, by decide, by decide +kernel, by decide +kernel, rfl, fun _ => rfl⟩
theorem fX3_38 : am_fld RX3 38 2 11 (.array .int) true := ⟨RX3, TX3, 13, rfl, by decide, by decide +kernel, by decide +kernel, rfl, fun _ => rfl⟩
theorem kX3_70 : Cond.methodLink RX3 70 yX3_isStanding ∈ am_ws ∧ Cond.instanceMethod yX3_isStanding ∈ am_ws ∧ Cond.selects RX3 yX3_isStanding yX3_isStanding ∈ am_ws := ⟨by decide +kernel, by decide +kernel, by decide +kernel⟩
theorem fX3_13 : am_fld RX3 13 2 0 (.array .int) true := ⟨RX3, TX3, 13, rfl, by decide, by decide +kernel, by decide +kernel, rfl, fun _ => rfl⟩
theorem kX3_85 : Cond.methodLink RX3 85 yJ9_max_7cf53 ∈ am_ws ∧ Cond.static yJ9_max_7cf53 ∈ am_ws := ⟨by decide +kernel, by decide +kernel⟩
theorem kX3_44 : Cond.methodLinkNest RX3 44 yX6_copyRow "PuppetPitches" ∈ am_nw ∧ Cond.static yX6_copyRow ∈ am_ws := ⟨by decide +kernel, by decide +kernel⟩
theorem fX3_18 : am_fld RX3 18 2 1 (.long) false := ⟨RX3, TX3, 13, rfl, by decide, by decide +kernel, by decide +kernel, rfl, fun _ => rfl⟩
theorem fX3_22 : am_fld RX3 22 2 2 (.int) false := ⟨RX3, TX3, 13, rfl, by decide, by decide +kernel, by decide +kernel, rfl, fun _ => rfl⟩
theorem fX3_51 : am_fld RX3 51 2 3 (.int) false := ⟨RX3, TX3, 13, rfl, by decide, by decide +kernel, by decide +kernel, rfl, fun _ => rfl⟩
theorem fX3_54 : am_fld RX3 54 2 4 (.int) false := ⟨RX3, TX3, 13, rfl, by decide, by decide +kernel, by decide +kernel, rfl, fun _ => rfl⟩
theorem fX3_57 : am_fld RX3 57 2 5 (.int) false := ⟨RX3, TX3, 13, rfl, by decide, by decide +kernel, by decide +kernel, rfl, fun _ => rfl⟩
theorem fX3_41 : am_fld RX3 41 2 12 (.array .int) true := ⟨RX3, TX3, 13, rfl, by decide, by decide +kernel, by decide +kernel, rfl, fun _ => rfl⟩
theorem cX3_91 : Cond.constantLong RX3 91 (1103515245) ∈ am_ws := by decide +kernel
theorem cX3_93 : Cond.constantLong RX3 93 (12345) ∈ am_ws := by decide +kernel
theorem cX3_95 : Cond.constantLong RX3 95 (2147483648) ∈ am_ws := by decide +kernel
theorem cX3_97 : Cond.constantLong RX3 97 (65536) ∈ am_ws := by decide +kernel
theorem kX3_48 : Cond.methodLink RX3 48 yX3_forgetLots ∈ am_ws ∧ Cond.instanceMethod yX3_forgetLots ∈ am_ws ∧ Cond.selects RX3 yX3_forgetLots yX3_forgetLots ∈ am_ws := ⟨by decide +kernel, by decide +kernel, by decide +kernel⟩
theorem oX3_3 : Cond.methodLink RX3 3 objectInit ∈ am_ws := by decide +kernel
theorem sX3_9 : Cond.fieldLinkNest RX3 9 "PuppetPitches" "FIRST_SETTINGS" "[I" "PuppetPitches" ∈ am_nw := by decide +kernel
theorem kX3_77 : Cond.methodLink RX3 77 yX3_hides ∈ am_ws ∧ Cond.instanceMethod yX3_hides ∈ am_ws ∧ Cond.selects RX3 yX3_hides yX3_hides ∈ am_ws := ⟨by decide +kernel, by decide +kernel, by decide +kernel⟩
theorem kX3_63 : Cond.methodLinkNest RX3 63 yX6_isPitch "PuppetPitches" ∈ am_nw ∧ Cond.static yX6_isPitch ∈ am_ws := ⟨by decide +kernel, by decide +kernel⟩
theorem kX3_67 : Cond.methodLink RX3 67 yX3_isBooth ∈ am_ws ∧ Cond.instanceMethod yX3_isBooth ∈ am_ws ∧ Cond.selects RX3 yX3_isBooth yX3_isBooth ∈ am_ws := ⟨by decide +kernel, by decide +kernel, by decide +kernel⟩
theorem kX3_73 : Cond.methodLink RX3 73 yX3_boothAt ∈ am_ws ∧ Cond.instanceMethod yX3_boothAt ∈ am_ws ∧ Cond.selects RX3 yX3_boothAt yX3_boothAt ∈ am_ws := ⟨by decide +kernel, by decide +kernel, by decide +kernel⟩
theorem kX3_81 : Cond.methodLink RX3 81 yX3_closeUp ∈ am_ws ∧ Cond.static yX3_closeUp ∈ am_ws := ⟨by decide +kernel, by decide +kernel⟩
theorem oX4_3 : Cond.methodLink RX4 3 objectInit ∈ am_ws := by decide +kernel
theorem fX4_9 : am_fld RX4 9 3 1 (.array .int) true := ⟨RX4, TX4, 5, rfl, by decide, by decide +kernel, by decide +kernel, rfl, fun _ => rfl⟩
theorem fX4_15 : am_fld RX4 15 3 2 (.array .int) true := ⟨RX4, TX4, 5, rfl, by decide, by decide +kernel, by decide +kernel, rfl, fun _ => rfl⟩
theorem fX4_18 : am_fld RX4 18 3 0 (.boolean) true := ⟨RX4, TX4, 5, rfl, by decide, by decide +kernel, by decide +kernel, rfl, fun _ => rfl⟩
theorem kX4_29 : Cond.methodLinkNest RX4 29 yX6_isPitch "PuppetPitches" ∈ am_nw ∧ Cond.static yX6_isPitch ∈ am_ws := ⟨by decide +kernel, by decide +kernel⟩
theorem kX4_33 : Cond.methodLink RX4 33 yX4_isSeen ∈ am_ws ∧ Cond.instanceMethod yX4_isSeen ∈ am_ws ∧ Cond.selects RX4 yX4_isSeen yX4_isSeen ∈ am_ws := ⟨by decide +kernel, by decide +kernel, by decide +kernel⟩
theorem fX4_22 : am_fld RX4 22 3 3 (.int) false := ⟨RX4, TX4, 5, rfl, by decide, by decide +kernel, by decide +kernel, rfl, fun _ => rfl⟩
theorem fX4_26 : am_fld RX4 26 3 4 (.int) false := ⟨RX4, TX4, 5, rfl, by decide, by decide +kernel, by decide +kernel, rfl, fun _ => rfl⟩
theorem kX5_70 : Cond.methodLink RX5 70 yX5_crowdAt ∈ am_ws ∧ Cond.instanceMethod yX5_crowdAt ∈ am_ws ∧ Cond.selects RX5 yX5_crowdAt yX5_crowdAt ∈ am_ws := ⟨by decide +kernel, by decide +kernel, by decide +kernel⟩
theorem kX5_73 : Cond.methodLink RX5 73 yX5_isOpen ∈ am_ws ∧ Cond.instanceMethod yX5_isOpen ∈ am_ws ∧ Cond.selects RX5 yX5_isOpen yX5_isOpen ∈ am_ws := ⟨by decide +kernel, by decide +kernel, by decide +kernel⟩
theorem fX5_9 : am_fld RX5 9 4 0 (.array .int) true := ⟨RX5, TX5, 3, rfl, by decide, by decide +kernel, by decide +kernel, rfl, fun _ => rfl⟩
theorem fX5_20 : am_fld RX5 20 4 1 (.object "PuppetPitches$Stream") true := ⟨RX5, TX5, 3, rfl, by decide, by decide +kernel, by decide +kernel, rfl, fun _ => rfl⟩
theorem kX5_61 : Cond.methodLink RX5 61 yX4_stopping ∈ am_ws ∧ Cond.instanceMethod yX4_stopping ∈ am_ws ∧ Cond.selects RX4 yX4_stopping yX4_stopping ∈ am_ws := ⟨by decide +kernel, by decide +kernel, by decide +kernel⟩
theorem fX5_24 : am_fld RX5 24 4 2 (.object "PuppetPitches$Stream") true := ⟨RX5, TX5, 3, rfl, by decide, by decide +kernel, by decide +kernel, rfl, fun _ => rfl⟩
theorem oX5_3 : Cond.methodLink RX5 3 objectInit ∈ am_ws := by decide +kernel
theorem wX5_15 : am_nwf RX5 15 3 5 [.int 0, .null, .null, .int 0, .int 0] := ⟨RX4, TX4, rfl, by decide +kernel, by decide +kernel, by decide +kernel, by decide +kernel, by decide +kernel⟩
theorem kX5_17 : Cond.methodLink RX5 17 yX4_init ∈ am_ws ∧ Cond.instanceMethod yX4_init ∈ am_ws := ⟨by decide +kernel, by decide +kernel⟩
theorem kX5_65 : Cond.methodLink RX5 65 yJ9_abs_0f7a4 ∈ am_ws ∧ Cond.static yJ9_abs_0f7a4 ∈ am_ws := ⟨by decide +kernel, by decide +kernel⟩
theorem kX5_53 : Cond.methodLink RX5 53 yX3_setting ∈ am_ws ∧ Cond.instanceMethod yX3_setting ∈ am_ws ∧ Cond.selects RX3 yX3_setting yX3_setting ∈ am_ws := ⟨by decide +kernel, by decide +kernel, by decide +kernel⟩
theorem kX5_57 : Cond.methodLink RX5 57 yX4_walk ∈ am_ws ∧ Cond.instanceMethod yX4_walk ∈ am_ws ∧ Cond.selects RX4 yX4_walk yX4_walk ∈ am_ws := ⟨by decide +kernel, by decide +kernel, by decide +kernel⟩
theorem kX5_27 : Cond.methodLink RX5 27 yX5_clear ∈ am_ws ∧ Cond.instanceMethod yX5_clear ∈ am_ws ∧ Cond.selects RX5 yX5_clear yX5_clear ∈ am_ws := ⟨by decide +kernel, by decide +kernel, by decide +kernel⟩
theorem kX5_30 : Cond.methodLink RX5 30 yX3_isStanding ∈ am_ws ∧ Cond.instanceMethod yX3_isStanding ∈ am_ws ∧ Cond.selects RX3 yX3_isStanding yX3_isStanding ∈ am_ws := ⟨by decide +kernel, by decide +kernel, by decide +kernel⟩
theorem fX5_36 : am_fld RX5 36 2 8 (.array .int) true := ⟨RX3, TX3, 13, rfl, by decide, by decide +kernel, by decide +kernel, rfl, fun _ => rfl⟩
theorem fX5_39 : am_fld RX5 39 2 7 (.array .int) true := ⟨RX3, TX3, 13, rfl, by decide, by decide +kernel, by decide +kernel, rfl, fun _ => rfl⟩
theorem kX5_42 : Cond.methodLink RX5 42 yX5_raise ∈ am_ws ∧ Cond.instanceMethod yX5_raise ∈ am_ws ∧ Cond.selects RX5 yX5_raise yX5_raise ∈ am_ws := ⟨by decide +kernel, by decide +kernel, by decide +kernel⟩
theorem kX5_46 : Cond.methodLink RX5 46 yX5_letPeoplePass ∈ am_ws ∧ Cond.instanceMethod yX5_letPeoplePass ∈ am_ws ∧ Cond.selects RX5 yX5_letPeoplePass yX5_letPeoplePass ∈ am_ws := ⟨by decide +kernel, by decide +kernel, by decide +kernel⟩
theorem kX5_50 : Cond.methodLinkNest RX5 50 yX6_isPitch "PuppetPitches" ∈ am_nw ∧ Cond.static yX6_isPitch ∈ am_ws := ⟨by decide +kernel, by decide +kernel⟩
theorem fX6_10 : am_fld RX6 10 5 0 (.object "PuppetPitches$State") true := ⟨RX6, TX6, 6, rfl, by decide, by decide +kernel, by decide +kernel, rfl, fun _ => rfl⟩
theorem kX6_85 : Cond.methodLink RX6 85 yX3_isBooth ∈ am_ws ∧ Cond.instanceMethod yX3_isBooth ∈ am_ws ∧ Cond.selects RX3 yX3_isBooth yX3_isBooth ∈ am_ws := ⟨by decide +kernel, by decide +kernel, by decide +kernel⟩
theorem kX6_161 : Cond.methodLink RX6 161 yX3_isStanding ∈ am_ws ∧ Cond.instanceMethod yX3_isStanding ∈ am_ws ∧ Cond.selects RX3 yX3_isStanding yX3_isStanding ∈ am_ws := ⟨by decide +kernel, by decide +kernel, by decide +kernel⟩
theorem fX6_22 : am_fld RX6 22 5 2 (.object "PuppetPitches$View") true := ⟨RX6, TX6, 6, rfl, by decide, by decide +kernel, by decide +kernel, rfl, fun _ => rfl⟩
theorem kX6_137 : Cond.methodLink RX6 137 yX5_look ∈ am_ws ∧ Cond.instanceMethod yX5_look ∈ am_ws ∧ Cond.selects RX5 yX5_look yX5_look ∈ am_ws := ⟨by decide +kernel, by decide +kernel, by decide +kernel⟩
theorem fX6_102 : am_fld RX6 102 2 8 (.array .int) true := ⟨RX3, TX3, 13, rfl, by decide, by decide +kernel, by decide +kernel, rfl, fun _ => rfl⟩
theorem kX6_141 : Cond.methodLink RX6 141 yX5_crowdAt ∈ am_ws ∧ Cond.instanceMethod yX5_crowdAt ∈ am_ws ∧ Cond.selects RX5 yX5_crowdAt yX5_crowdAt ∈ am_ws := ⟨by decide +kernel, by decide +kernel, by decide +kernel⟩
theorem fX6_95 : am_fld RX6 95 2 7 (.array .int) true := ⟨RX3, TX3, 13, rfl, by decide, by decide +kernel, by decide +kernel, rfl, fun _ => rfl⟩
theorem kX6_198 : Cond.methodLink RX6 198 yX5_bestOpenPitch ∈ am_ws ∧ Cond.instanceMethod yX5_bestOpenPitch ∈ am_ws ∧ Cond.selects RX5 yX5_bestOpenPitch yX5_bestOpenPitch ∈ am_ws := ⟨by decide +kernel, by decide +kernel, by decide +kernel⟩
theorem kX6_145 : Cond.methodLink RX6 145 yX6_stoppingFrom ∈ am_ws ∧ Cond.instanceMethod yX6_stoppingFrom ∈ am_ws ∧ Cond.selects RX6 yX6_stoppingFrom yX6_stoppingFrom ∈ am_ws := ⟨by decide +kernel, by decide +kernel, by decide +kernel⟩
theorem fX6_88 : am_fld RX6 88 2 9 (.array .int) true := ⟨RX3, TX3, 13, rfl, by decide, by decide +kernel, by decide +kernel, rfl, fun _ => rfl⟩
theorem fX6_149 : am_fld RX6 149 2 10 (.array .int) true := ⟨RX3, TX3, 13, rfl, by decide, by decide +kernel, by decide +kernel, rfl, fun _ => rfl⟩
theorem fX6_152 : am_fld RX6 152 2 11 (.array .int) true := ⟨RX3, TX3, 13, rfl, by decide, by decide +kernel, by decide +kernel, rfl, fun _ => rfl⟩
theorem kX6_76 : Cond.methodLink RX6 76 yX6_isHeight ∈ am_ws ∧ Cond.static yX6_isHeight ∈ am_ws := ⟨by decide +kernel, by decide +kernel⟩
theorem fX6_79 : am_fld RX6 79 2 6 (.int) false := ⟨RX3, TX3, 13, rfl, by decide, by decide +kernel, by decide +kernel, rfl, fun _ => rfl⟩
theorem fX6_36 : am_fld RX6 36 5 4 (.object "PuppetPitches$History") true := ⟨RX6, TX6, 6, rfl, by decide, by decide +kernel, by decide +kernel, rfl, fun _ => rfl⟩
theorem kX6_48 : Cond.methodLink RX6 48 yX1_record ∈ am_ws ∧ Cond.instanceMethod yX1_record ∈ am_ws ∧ Cond.selects RX1 yX1_record yX1_record ∈ am_ws := ⟨by decide +kernel, by decide +kernel, by decide +kernel⟩
theorem kX6_82 : Cond.methodLink RX6 82 yX3_addBooth ∈ am_ws ∧ Cond.instanceMethod yX3_addBooth ∈ am_ws ∧ Cond.selects RX3 yX3_addBooth yX3_addBooth ∈ am_ws := ⟨by decide +kernel, by decide +kernel, by decide +kernel⟩
theorem sX6_177 : Cond.fieldLink RX6 177 "PuppetPitches" "FIRST_SETTINGS" "[I" ∈ am_ws := by decide +kernel
theorem kX6_52 : Cond.methodLink RX6 52 yX3_setting ∈ am_ws ∧ Cond.instanceMethod yX3_setting ∈ am_ws ∧ Cond.selects RX3 yX3_setting yX3_setting ∈ am_ws := ⟨by decide +kernel, by decide +kernel, by decide +kernel⟩
theorem fX6_105 : am_fld RX6 105 2 1 (.long) false := ⟨RX3, TX3, 13, rfl, by decide, by decide +kernel, by decide +kernel, rfl, fun _ => rfl⟩
theorem kX6_180 : Cond.methodLink RX6 180 yX3_countStanding ∈ am_ws ∧ Cond.instanceMethod yX3_countStanding ∈ am_ws ∧ Cond.selects RX3 yX3_countStanding yX3_countStanding ∈ am_ws := ⟨by decide +kernel, by decide +kernel, by decide +kernel⟩
theorem fX6_67 : am_fld RX6 67 2 2 (.int) false := ⟨RX3, TX3, 13, rfl, by decide, by decide +kernel, by decide +kernel, rfl, fun _ => rfl⟩
theorem kX6_183 : Cond.methodLink RX6 183 yX6_stoppingNowhere ∈ am_ws ∧ Cond.instanceMethod yX6_stoppingNowhere ∈ am_ws ∧ Cond.selects RX6 yX6_stoppingNowhere yX6_stoppingNowhere ∈ am_ws := ⟨by decide +kernel, by decide +kernel, by decide +kernel⟩
theorem fX6_109 : am_fld RX6 109 2 3 (.int) false := ⟨RX3, TX3, 13, rfl, by decide, by decide +kernel, by decide +kernel, rfl, fun _ => rfl⟩
theorem fX6_186 : am_fld RX6 186 2 4 (.int) false := ⟨RX3, TX3, 13, rfl, by decide, by decide +kernel, by decide +kernel, rfl, fun _ => rfl⟩
theorem fX6_189 : am_fld RX6 189 2 5 (.int) false := ⟨RX3, TX3, 13, rfl, by decide, by decide +kernel, by decide +kernel, rfl, fun _ => rfl⟩
theorem fX6_29 : am_fld RX6 29 5 3 (.object "PuppetPitches$Pad") true := ⟨RX6, TX6, 6, rfl, by decide, by decide +kernel, by decide +kernel, rfl, fun _ => rfl⟩
theorem fX6_134 : am_fld RX6 134 1 1 (.int) false := ⟨RX2, TX2, 5, rfl, by decide, by decide +kernel, by decide +kernel, rfl, fun _ => rfl⟩
theorem fX6_192 : am_fld RX6 192 0 2 (.int) false := ⟨RX1, TX1, 3, rfl, by decide, by decide +kernel, by decide +kernel, rfl, fun _ => rfl⟩
theorem kX6_118 : Cond.methodLink RX6 118 yX2_findFault ∈ am_ws ∧ Cond.instanceMethod yX2_findFault ∈ am_ws ∧ Cond.selects RX2 yX2_findFault yX2_findFault ∈ am_ws := ⟨by decide +kernel, by decide +kernel, by decide +kernel⟩
theorem kX6_91 : Cond.methodLink RX6 91 yX3_removeBooth ∈ am_ws ∧ Cond.instanceMethod yX3_removeBooth ∈ am_ws ∧ Cond.selects RX3 yX3_removeBooth yX3_removeBooth ∈ am_ws := ⟨by decide +kernel, by decide +kernel, by decide +kernel⟩
theorem fX6_16 : am_fld RX6 16 5 1 (.object "PuppetPitches$State") true := ⟨RX6, TX6, 6, rfl, by decide, by decide +kernel, by decide +kernel, rfl, fun _ => rfl⟩
theorem kX6_201 : Cond.methodLink RX6 201 yX3_copyFrom ∈ am_ws ∧ Cond.instanceMethod yX3_copyFrom ∈ am_ws ∧ Cond.selects RX3 yX3_copyFrom yX3_copyFrom ∈ am_ws := ⟨by decide +kernel, by decide +kernel, by decide +kernel⟩
theorem kX6_112 : Cond.methodLink RX6 112 yX0_pass ∈ am_ws ∧ Cond.static yX0_pass ∈ am_ws := ⟨by decide +kernel, by decide +kernel⟩
theorem kX6_60 : Cond.methodLink RX6 60 yX6_isPitch ∈ am_ws ∧ Cond.static yX6_isPitch ∈ am_ws := ⟨by decide +kernel, by decide +kernel⟩
theorem kX6_98 : Cond.methodLink RX6 98 yX3_isTakenByOther ∈ am_ws ∧ Cond.instanceMethod yX3_isTakenByOther ∈ am_ws ∧ Cond.selects RX3 yX3_isTakenByOther yX3_isTakenByOther ∈ am_ws := ⟨by decide +kernel, by decide +kernel, by decide +kernel⟩
theorem oX6_1 : Cond.methodLink RX6 1 objectInit ∈ am_ws := by decide +kernel
theorem wX6_7 : am_nwf RX6 7 2 13 [.null, .long 0, .int 0, .int 0, .int 0, .int 0, .int 0, .null, .null, .null, .null, .null, .null] := ⟨RX3, TX3, rfl, by decide +kernel, by decide +kernel, by decide +kernel, by decide +kernel, by decide +kernel⟩
theorem kX6_9 : Cond.methodLink RX6 9 yX3_init ∈ am_ws ∧ Cond.instanceMethod yX3_init ∈ am_ws := ⟨by decide +kernel, by decide +kernel⟩
theorem wX6_19 : am_nwf RX6 19 4 3 [.null, .null, .null] := ⟨RX5, TX5, rfl, by decide +kernel, by decide +kernel, by decide +kernel, by decide +kernel, by decide +kernel⟩
theorem kX6_21 : Cond.methodLinkNest RX6 21 yX5_init "PuppetPitches" ∈ am_nw ∧ Cond.instanceMethod yX5_init ∈ am_ws := ⟨by decide +kernel, by decide +kernel⟩
theorem wX6_26 : am_nwf RX6 26 1 5 [.null, .int 0, .int 0, .null, .null] := ⟨RX2, TX2, rfl, by decide +kernel, by decide +kernel, by decide +kernel, by decide +kernel, by decide +kernel⟩
theorem kX6_28 : Cond.methodLinkNest RX6 28 yX2_init "PuppetPitches" ∈ am_nw ∧ Cond.instanceMethod yX2_init ∈ am_ws := ⟨by decide +kernel, by decide +kernel⟩
theorem wX6_33 : am_nwf RX6 33 0 3 [.null, .int 0, .int 0] := ⟨RX1, TX1, rfl, by decide +kernel, by decide +kernel, by decide +kernel, by decide +kernel, by decide +kernel⟩
theorem kX6_35 : Cond.methodLinkNest RX6 35 yX1_init "PuppetPitches" ∈ am_nw ∧ Cond.instanceMethod yX1_init ∈ am_ws := ⟨by decide +kernel, by decide +kernel⟩
theorem waX6_7 : Cond.classLink RX6 7 RX3 ∈ am_ws ∧ Cond.arrayOver (.object RX3) ∈ am_nw := ⟨by decide +kernel, by decide +kernel⟩
theorem fX6_40 : am_fld RX6 40 5 5 (.array (.object "PuppetPitches$State")) true := ⟨RX6, TX6, 6, rfl, by decide, by decide +kernel, by decide +kernel, rfl, fun _ => rfl⟩
theorem fX6_195 : am_fld RX6 195 2 12 (.array .int) true := ⟨RX3, TX3, 13, rfl, by decide, by decide +kernel, by decide +kernel, rfl, fun _ => rfl⟩
theorem kX6_64 : Cond.methodLink RX6 64 yX3_isRoofed ∈ am_ws ∧ Cond.instanceMethod yX3_isRoofed ∈ am_ws ∧ Cond.selects RX3 yX3_isRoofed yX3_isRoofed ∈ am_ws := ⟨by decide +kernel, by decide +kernel, by decide +kernel⟩
theorem kX6_155 : Cond.methodLink RX6 155 yX3_boothAt ∈ am_ws ∧ Cond.instanceMethod yX3_boothAt ∈ am_ws ∧ Cond.selects RX3 yX3_boothAt yX3_boothAt ∈ am_ws := ⟨by decide +kernel, by decide +kernel, by decide +kernel⟩
theorem kX6_158 : Cond.methodLink RX6 158 yX5_isOpen ∈ am_ws ∧ Cond.instanceMethod yX5_isOpen ∈ am_ws ∧ Cond.selects RX5 yX5_isOpen yX5_isOpen ∈ am_ws := ⟨by decide +kernel, by decide +kernel, by decide +kernel⟩
theorem kX6_204 : Cond.methodLink RX6 204 yX2_countLetters ∈ am_ws ∧ Cond.static yX2_countLetters ∈ am_ws := ⟨by decide +kernel, by decide +kernel⟩
theorem kX6_208 : Cond.methodLink RX6 208 yX2_append ∈ am_ws ∧ Cond.instanceMethod yX2_append ∈ am_ws ∧ Cond.selects RX2 yX2_append yX2_append ∈ am_ws := ⟨by decide +kernel, by decide +kernel, by decide +kernel⟩
theorem kX6_122 : Cond.methodLink RX6 122 yX2_hasSharedPitch ∈ am_ws ∧ Cond.instanceMethod yX2_hasSharedPitch ∈ am_ws ∧ Cond.selects RX2 yX2_hasSharedPitch yX2_hasSharedPitch ∈ am_ws := ⟨by decide +kernel, by decide +kernel, by decide +kernel⟩
theorem kX6_126 : Cond.methodLink RX6 126 yX3_forgetBooths ∈ am_ws ∧ Cond.instanceMethod yX3_forgetBooths ∈ am_ws ∧ Cond.selects RX3 yX3_forgetBooths yX3_forgetBooths ∈ am_ws := ⟨by decide +kernel, by decide +kernel, by decide +kernel⟩
theorem fX6_129 : am_fld RX6 129 1 2 (.int) false := ⟨RX2, TX2, 5, rfl, by decide, by decide +kernel, by decide +kernel, rfl, fun _ => rfl⟩
theorem fX6_132 : am_fld RX6 132 1 3 (.array .int) true := ⟨RX2, TX2, 5, rfl, by decide, by decide +kernel, by decide +kernel, rfl, fun _ => rfl⟩
theorem fX6_133 : am_fld RX6 133 1 4 (.array .int) true := ⟨RX2, TX2, 5, rfl, by decide, by decide +kernel, by decide +kernel, rfl, fun _ => rfl⟩
theorem kX6_71 : Cond.methodLink RX6 71 yJ6_bitCount_0f7a4 ∈ am_ws ∧ Cond.static yJ6_bitCount_0f7a4 ∈ am_ws := ⟨by decide +kernel, by decide +kernel⟩
theorem kX6_164 : Cond.methodLink RX6 164 yX3_isHidden ∈ am_ws ∧ Cond.instanceMethod yX3_isHidden ∈ am_ws ∧ Cond.selects RX3 yX3_isHidden yX3_isHidden ∈ am_ws := ⟨by decide +kernel, by decide +kernel, by decide +kernel⟩
theorem kX6_168 : Cond.methodLink RX6 168 yX5_streamFrom ∈ am_ws ∧ Cond.instanceMethod yX5_streamFrom ∈ am_ws ∧ Cond.selects RX5 yX5_streamFrom yX5_streamFrom ∈ am_ws := ⟨by decide +kernel, by decide +kernel, by decide +kernel⟩
theorem kX6_172 : Cond.methodLink RX6 172 yX4_isSeen ∈ am_ws ∧ Cond.instanceMethod yX4_isSeen ∈ am_ws ∧ Cond.selects RX4 yX4_isSeen yX4_isSeen ∈ am_ws := ⟨by decide +kernel, by decide +kernel, by decide +kernel⟩
theorem sX6_44 : Cond.fieldLink RX6 44 "PuppetPitches" "GREATEST_SETTINGS" "[I" ∈ am_ws := by decide +kernel
theorem kX6_56 : Cond.methodLink RX6 56 yX3_changeSetting ∈ am_ws ∧ Cond.instanceMethod yX3_changeSetting ∈ am_ws ∧ Cond.selects RX3 yX3_changeSetting yX3_changeSetting ∈ am_ws := ⟨by decide +kernel, by decide +kernel, by decide +kernel⟩
theorem kX6_215 : Cond.methodLink RX6 215 yX4_stopping ∈ am_ws ∧ Cond.instanceMethod yX4_stopping ∈ am_ws ∧ Cond.selects RX4 yX4_stopping yX4_stopping ∈ am_ws := ⟨by decide +kernel, by decide +kernel, by decide +kernel⟩
theorem fX6_218 : am_fld RX6 218 4 1 (.object "PuppetPitches$Stream") true := ⟨RX5, TX5, 3, rfl, by decide, by decide +kernel, by decide +kernel, rfl, fun _ => rfl⟩
theorem fX6_222 : am_fld RX6 222 3 4 (.int) false := ⟨RX4, TX4, 5, rfl, by decide, by decide +kernel, by decide +kernel, rfl, fun _ => rfl⟩
theorem fX6_225 : am_fld RX6 225 4 2 (.object "PuppetPitches$Stream") true := ⟨RX5, TX5, 3, rfl, by decide, by decide +kernel, by decide +kernel, rfl, fun _ => rfl⟩
theorem kX6_212 : Cond.methodLink RX6 212 yX1_takeBack ∈ am_ws ∧ Cond.instanceMethod yX1_takeBack ∈ am_ws ∧ Cond.selects RX1 yX1_takeBack yX1_takeBack ∈ am_ws := ⟨by decide +kernel, by decide +kernel, by decide +kernel⟩
theorem kX7_100 : Cond.methodLink RX7 100 yX7_isBooth ∈ am_ws ∧ Cond.instanceMethod yX7_isBooth ∈ am_ws ∧ Cond.selects RX7 yX7_isBooth yX7_isBooth ∈ am_ws := ⟨by decide +kernel, by decide +kernel, by decide +kernel⟩
theorem kX7_103 : Cond.methodLink RX7 103 yX7_its ∈ am_ws ∧ Cond.instanceMethod yX7_its ∈ am_ws ∧ Cond.selects RX7 yX7_its yX7_its ∈ am_ws := ⟨by decide +kernel, by decide +kernel, by decide +kernel⟩
theorem fX7_7 : am_fld RX7 7 6 0 (.array .int) true := ⟨RX7, TX7, 8, rfl, by decide, by decide +kernel, by decide +kernel, rfl, fun _ => rfl⟩
theorem kX7_36 : Cond.methodLink RX7 36 yX7_at ∈ am_ws ∧ Cond.static yX7_at ∈ am_ws := ⟨by decide +kernel, by decide +kernel⟩
theorem kX7_112 : Cond.methodLink RX7 112 yX7_crowd ∈ am_ws ∧ Cond.instanceMethod yX7_crowd ∈ am_ws ∧ Cond.selects RX7 yX7_crowd yX7_crowd ∈ am_ws := ⟨by decide +kernel, by decide +kernel, by decide +kernel⟩
theorem kX7_106 : Cond.methodLink RX7 106 yX7_isOthers ∈ am_ws ∧ Cond.instanceMethod yX7_isOthers ∈ am_ws ∧ Cond.selects RX7 yX7_isOthers yX7_isOthers ∈ am_ws := ⟨by decide +kernel, by decide +kernel, by decide +kernel⟩
theorem kX7_71 : Cond.methodLink RX7 71 yX7_crowdAt ∈ am_ws ∧ Cond.instanceMethod yX7_crowdAt ∈ am_ws ∧ Cond.selects RX7 yX7_crowdAt yX7_crowdAt ∈ am_ws := ⟨by decide +kernel, by decide +kernel, by decide +kernel⟩
theorem kX7_67 : Cond.methodLink RX7 67 yX7_isFree ∈ am_ws ∧ Cond.instanceMethod yX7_isFree ∈ am_ws ∧ Cond.selects RX7 yX7_isFree yX7_isFree ∈ am_ws := ⟨by decide +kernel, by decide +kernel, by decide +kernel⟩
theorem kX7_32 : Cond.methodLink RX7 32 yX7_in ∈ am_ws ∧ Cond.static yX7_in ∈ am_ws := ⟨by decide +kernel, by decide +kernel⟩
theorem kX7_86 : Cond.methodLink RX7 86 yX7_remembers ∈ am_ws ∧ Cond.instanceMethod yX7_remembers ∈ am_ws ∧ Cond.selects RX7 yX7_remembers yX7_remembers ∈ am_ws := ⟨by decide +kernel, by decide +kernel, by decide +kernel⟩
theorem kX7_97 : Cond.methodLink RX7 97 yX7_comes ∈ am_ws ∧ Cond.instanceMethod yX7_comes ∈ am_ws ∧ Cond.selects RX7 yX7_comes yX7_comes ∈ am_ws := ⟨by decide +kernel, by decide +kernel, by decide +kernel⟩
theorem kX7_124 : Cond.methodLink RX7 124 yX7_standing ∈ am_ws ∧ Cond.instanceMethod yX7_standing ∈ am_ws ∧ Cond.selects RX7 yX7_standing yX7_standing ∈ am_ws := ⟨by decide +kernel, by decide +kernel, by decide +kernel⟩
theorem kX7_127 : Cond.methodLink RX7 127 yX7_crowdsNow ∈ am_ws ∧ Cond.instanceMethod yX7_crowdsNow ∈ am_ws ∧ Cond.selects RX7 yX7_crowdsNow yX7_crowdsNow ∈ am_ws := ⟨by decide +kernel, by decide +kernel, by decide +kernel⟩
theorem kX7_50 : Cond.methodLink RX7 50 yX7_crowds ∈ am_ws ∧ Cond.instanceMethod yX7_crowds ∈ am_ws ∧ Cond.selects RX7 yX7_crowds yX7_crowds ∈ am_ws := ⟨by decide +kernel, by decide +kernel, by decide +kernel⟩
theorem fX7_130 : am_fld RX7 130 6 6 (.int) false := ⟨RX7, TX7, 8, rfl, by decide, by decide +kernel, by decide +kernel, rfl, fun _ => rfl⟩
theorem fX7_40 : am_fld RX7 40 6 2 (.int) false := ⟨RX7, TX7, 8, rfl, by decide, by decide +kernel, by decide +kernel, rfl, fun _ => rfl⟩
theorem kX7_54 : Cond.methodLink RX7 54 yX7_crowdOf ∈ am_ws ∧ Cond.instanceMethod yX7_crowdOf ∈ am_ws ∧ Cond.selects RX7 yX7_crowdOf yX7_crowdOf ∈ am_ws := ⟨by decide +kernel, by decide +kernel, by decide +kernel⟩
theorem fX7_26 : am_fld RX7 26 6 7 (.array .int) true := ⟨RX7, TX7, 8, rfl, by decide, by decide +kernel, by decide +kernel, rfl, fun _ => rfl⟩
theorem kX7_47 : Cond.methodLink RX7 47 yX7_goes ∈ am_ws ∧ Cond.instanceMethod yX7_goes ∈ am_ws ∧ Cond.selects RX7 yX7_goes yX7_goes ∈ am_ws := ⟨by decide +kernel, by decide +kernel, by decide +kernel⟩
theorem kX7_138 : Cond.methodLink RX7 138 yX7_sign ∈ am_ws ∧ Cond.instanceMethod yX7_sign ∈ am_ws ∧ Cond.selects RX7 yX7_sign yX7_sign ∈ am_ws := ⟨by decide +kernel, by decide +kernel, by decide +kernel⟩
theorem cX7_57 : Cond.constantLong RX7 57 (1103515245) ∈ am_ws := by decide +kernel
theorem cX7_59 : Cond.constantLong RX7 59 (12345) ∈ am_ws := by decide +kernel
theorem cX7_61 : Cond.constantLong RX7 61 (2147483648) ∈ am_ws := by decide +kernel
theorem cX7_63 : Cond.constant RX7 63 (65536) ∈ am_ws := by decide +kernel
theorem kX7_144 : Cond.methodLink RX7 144 yX7_partEnd ∈ am_ws ∧ Cond.instanceMethod yX7_partEnd ∈ am_ws ∧ Cond.selects RX7 yX7_partEnd yX7_partEnd ∈ am_ws := ⟨by decide +kernel, by decide +kernel, by decide +kernel⟩
theorem kX7_44 : Cond.methodLink RX7 44 yX7_boothAt ∈ am_ws ∧ Cond.instanceMethod yX7_boothAt ∈ am_ws ∧ Cond.selects RX7 yX7_boothAt yX7_boothAt ∈ am_ws := ⟨by decide +kernel, by decide +kernel, by decide +kernel⟩
theorem kX7_133 : Cond.methodLink RX7 133 yX7_copies ∈ am_ws ∧ Cond.instanceMethod yX7_copies ∈ am_ws ∧ Cond.selects RX7 yX7_copies yX7_copies ∈ am_ws := ⟨by decide +kernel, by decide +kernel, by decide +kernel⟩
theorem kX7_109 : Cond.methodLink RX7 109 yX7_plays ∈ am_ws ∧ Cond.instanceMethod yX7_plays ∈ am_ws ∧ Cond.selects RX7 yX7_plays yX7_plays ∈ am_ws := ⟨by decide +kernel, by decide +kernel, by decide +kernel⟩
theorem kX7_89 : Cond.methodLink RX7 89 yX7_isPitch ∈ am_ws ∧ Cond.static yX7_isPitch ∈ am_ws := ⟨by decide +kernel, by decide +kernel⟩
theorem oX7_1 : Cond.methodLink RX7 1 objectInit ∈ am_ws := by decide +kernel
theorem fX7_13 : am_fld RX7 13 6 1 (.array .int) true := ⟨RX7, TX7, 8, rfl, by decide, by decide +kernel, by decide +kernel, rfl, fun _ => rfl⟩
theorem fX7_16 : am_fld RX7 16 6 3 (.array .int) true := ⟨RX7, TX7, 8, rfl, by decide, by decide +kernel, by decide +kernel, rfl, fun _ => rfl⟩
theorem fX7_19 : am_fld RX7 19 6 4 (.array .boolean) true := ⟨RX7, TX7, 8, rfl, by decide, by decide +kernel, by decide +kernel, rfl, fun _ => rfl⟩
theorem fX7_23 : am_fld RX7 23 6 5 (.array .int) true := ⟨RX7, TX7, 8, rfl, by decide, by decide +kernel, by decide +kernel, rfl, fun _ => rfl⟩
theorem kX7_29 : Cond.methodLink RX7 29 yX7_forgets ∈ am_ws ∧ Cond.instanceMethod yX7_forgets ∈ am_ws ∧ Cond.selects RX7 yX7_forgets yX7_forgets ∈ am_ws := ⟨by decide +kernel, by decide +kernel, by decide +kernel⟩
theorem kX7_115 : Cond.methodLink RX7 115 yX7_hides ∈ am_ws ∧ Cond.instanceMethod yX7_hides ∈ am_ws ∧ Cond.selects RX7 yX7_hides yX7_hides ∈ am_ws := ⟨by decide +kernel, by decide +kernel, by decide +kernel⟩
theorem kX7_147 : Cond.methodLink RX7 147 yX7_pitchOf ∈ am_ws ∧ Cond.instanceMethod yX7_pitchOf ∈ am_ws ∧ Cond.selects RX7 yX7_pitchOf yX7_pitchOf ∈ am_ws := ⟨by decide +kernel, by decide +kernel, by decide +kernel⟩
theorem kX7_64 : Cond.methodLink RX7 64 yX7_draws ∈ am_ws ∧ Cond.instanceMethod yX7_draws ∈ am_ws ∧ Cond.selects RX7 yX7_draws yX7_draws ∈ am_ws := ⟨by decide +kernel, by decide +kernel, by decide +kernel⟩
theorem kX7_141 : Cond.methodLink RX7 141 yX7_digit ∈ am_ws ∧ Cond.instanceMethod yX7_digit ∈ am_ws ∧ Cond.selects RX7 yX7_digit yX7_digit ∈ am_ws := ⟨by decide +kernel, by decide +kernel, by decide +kernel⟩
theorem kX7_75 : Cond.methodLink RX7 75 yX7_lots ∈ am_ws ∧ Cond.instanceMethod yX7_lots ∈ am_ws ∧ Cond.selects RX7 yX7_lots yX7_lots ∈ am_ws := ⟨by decide +kernel, by decide +kernel, by decide +kernel⟩
theorem kX7_79 : Cond.methodLink RX7 79 yX7_chooses ∈ am_ws ∧ Cond.instanceMethod yX7_chooses ∈ am_ws ∧ Cond.selects RX7 yX7_chooses yX7_chooses ∈ am_ws := ⟨by decide +kernel, by decide +kernel, by decide +kernel⟩
theorem cX7_136 : Cond.constantLong RX7 136 (255) ∈ am_ws := by decide +kernel
theorem kX7_150 : Cond.methodLink RX7 150 yX7_fault ∈ am_ws ∧ Cond.instanceMethod yX7_fault ∈ am_ws ∧ Cond.selects RX7 yX7_fault yX7_fault ∈ am_ws := ⟨by decide +kernel, by decide +kernel, by decide +kernel⟩
theorem kX7_153 : Cond.methodLink RX7 153 yX7_isTwice ∈ am_ws ∧ Cond.instanceMethod yX7_isTwice ∈ am_ws ∧ Cond.selects RX7 yX7_isTwice yX7_isTwice ∈ am_ws := ⟨by decide +kernel, by decide +kernel, by decide +kernel⟩
theorem kX7_93 : Cond.methodLink RX7 93 yX7_roofs ∈ am_ws ∧ Cond.instanceMethod yX7_roofs ∈ am_ws ∧ Cond.selects RX7 yX7_roofs yX7_roofs ∈ am_ws := ⟨by decide +kernel, by decide +kernel, by decide +kernel⟩
theorem kX7_118 : Cond.methodLink RX7 118 yX7_highest ∈ am_ws ∧ Cond.instanceMethod yX7_highest ∈ am_ws ∧ Cond.selects RX7 yX7_highest yX7_highest ∈ am_ws := ⟨by decide +kernel, by decide +kernel, by decide +kernel⟩
theorem kX7_121 : Cond.methodLink RX7 121 yX7_isHidden ∈ am_ws ∧ Cond.instanceMethod yX7_isHidden ∈ am_ws ∧ Cond.selects RX7 yX7_isHidden yX7_isHidden ∈ am_ws := ⟨by decide +kernel, by decide +kernel, by decide +kernel⟩
theorem kX7_83 : Cond.methodLink RX7 83 yX7_mostOf ∈ am_ws ∧ Cond.static yX7_mostOf ∈ am_ws := ⟨by decide +kernel, by decide +kernel⟩
theorem wt_int : Cond.arrayClass .int ∈ am_ws := by decide +kernel
theorem wt_char : Cond.arrayClass .char ∈ am_ws := by decide +kernel
theorem wt_boolean : Cond.arrayClass .boolean ∈ am_ws := by decide +kernel
theorem q_bipush_m6 : (Int8.ofInt (-6)).toInt32 = (-6 : Int32) := by decide +kernel
theorem q_bipush_m5 : (Int8.ofInt (-5)).toInt32 = (-5 : Int32) := by decide +kernel
theorem q_bipush_m4 : (Int8.ofInt (-4)).toInt32 = (-4 : Int32) := by decide +kernel
theorem q_bipush_m3 : (Int8.ofInt (-3)).toInt32 = (-3 : Int32) := by decide +kernel
theorem q_bipush_m2 : (Int8.ofInt (-2)).toInt32 = (-2 : Int32) := by decide +kernel
theorem q_bipush_6 : (Int8.ofInt (6)).toInt32 = (6 : Int32) := by decide +kernel
theorem q_bipush_7 : (Int8.ofInt (7)).toInt32 = (7 : Int32) := by decide +kernel
theorem q_bipush_8 : (Int8.ofInt (8)).toInt32 = (8 : Int32) := by decide +kernel
theorem q_bipush_9 : (Int8.ofInt (9)).toInt32 = (9 : Int32) := by decide +kernel
theorem q_bipush_10 : (Int8.ofInt (10)).toInt32 = (10 : Int32) := by decide +kernel
theorem q_bipush_11 : (Int8.ofInt (11)).toInt32 = (11 : Int32) := by decide +kernel
theorem q_bipush_12 : (Int8.ofInt (12)).toInt32 = (12 : Int32) := by decide +kernel
theorem q_bipush_16 : (Int8.ofInt (16)).toInt32 = (16 : Int32) := by decide +kernel
theorem q_bipush_20 : (Int8.ofInt (20)).toInt32 = (20 : Int32) := by decide +kernel
theorem q_bipush_25 : (Int8.ofInt (25)).toInt32 = (25 : Int32) := by decide +kernel
theorem q_bipush_31 : (Int8.ofInt (31)).toInt32 = (31 : Int32) := by decide +kernel
theorem q_bipush_32 : (Int8.ofInt (32)).toInt32 = (32 : Int32) := by decide +kernel
theorem q_bipush_33 : (Int8.ofInt (33)).toInt32 = (33 : Int32) := by decide +kernel
theorem q_bipush_40 : (Int8.ofInt (40)).toInt32 = (40 : Int32) := by decide +kernel
theorem q_bipush_44 : (Int8.ofInt (44)).toInt32 = (44 : Int32) := by decide +kernel
theorem q_bipush_48 : (Int8.ofInt (48)).toInt32 = (48 : Int32) := by decide +kernel
theorem q_bipush_49 : (Int8.ofInt (49)).toInt32 = (49 : Int32) := by decide +kernel
theorem q_bipush_57 : (Int8.ofInt (57)).toInt32 = (57 : Int32) := by decide +kernel
theorem q_bipush_60 : (Int8.ofInt (60)).toInt32 = (60 : Int32) := by decide +kernel
theorem q_bipush_63 : (Int8.ofInt (63)).toInt32 = (63 : Int32) := by decide +kernel
theorem q_bipush_64 : (Int8.ofInt (64)).toInt32 = (64 : Int32) := by decide +kernel
theorem q_bipush_70 : (Int8.ofInt (70)).toInt32 = (70 : Int32) := by decide +kernel
theorem q_bipush_100 : (Int8.ofInt (100)).toInt32 = (100 : Int32) := by decide +kernel
theorem q_bipush_120 : (Int8.ofInt (120)).toInt32 = (120 : Int32) := by decide +kernel
theorem q_bipush_126 : (Int8.ofInt (126)).toInt32 = (126 : Int32) := by decide +kernel
theorem q_iconst_m1 : Int32.ofInt (-1) = (-1 : Int32) := by decide +kernel
theorem q_iconst_0 : Int32.ofInt (0) = (0 : Int32) := by decide +kernel
theorem q_iconst_1 : Int32.ofInt (1) = (1 : Int32) := by decide +kernel
theorem q_iconst_2 : Int32.ofInt (2) = (2 : Int32) := by decide +kernel
theorem q_iconst_3 : Int32.ofInt (3) = (3 : Int32) := by decide +kernel
theorem q_iconst_4 : Int32.ofInt (4) = (4 : Int32) := by decide +kernel
theorem q_iconst_5 : Int32.ofInt (5) = (5 : Int32) := by decide +kernel
theorem q_lconst_0 : Int64.ofNat ((0 : Fin 2) : Nat) = (0 : Int64) := by decide +kernel
theorem q_lconst_1 : Int64.ofNat ((1 : Fin 2) : Nat) = (1 : Int64) := by decide +kernel
theorem q_sipush_200 : (Int16.ofInt (200)).toInt32 = (200 : Int32) := by decide +kernel
theorem q_sipush_300 : (Int16.ofInt (300)).toInt32 = (300 : Int32) := by decide +kernel
theorem q_sipush_360 : (Int16.ofInt (360)).toInt32 = (360 : Int32) := by decide +kernel
theorem q_sipush_999 : (Int16.ofInt (999)).toInt32 = (999 : Int32) := by decide +kernel
theorem q_sipush_9999 : (Int16.ofInt (9999)).toInt32 = (9999 : Int32) := by decide +kernel
