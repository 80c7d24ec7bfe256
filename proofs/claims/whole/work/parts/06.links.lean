theorem xtb_1 {w : Cond} (h : w ∈ tables_1_1) : w ∈ lw_tbl := List.mem_append_right _ (List.mem_append_left _ h)
theorem xtb_2 {w : Cond} (h : w ∈ tables_1_2) : w ∈ lw_tbl := List.mem_append_right _ (List.mem_append_right _ (List.mem_append_left _ h))
theorem xtb_3 {w : Cond} (h : w ∈ tables_1_3) : w ∈ lw_tbl := List.mem_append_right _ (List.mem_append_right _ (List.mem_append_right _ (List.mem_append_left _ h)))
theorem xtb_4 {w : Cond} (h : w ∈ tables_1_4) : w ∈ lw_tbl := List.mem_append_right _ (List.mem_append_right _ (List.mem_append_right _ (List.mem_append_right _ (List.mem_append_left _ h))))
theorem xtb_5 {w : Cond} (h : w ∈ tables_1_5) : w ∈ lw_tbl := List.mem_append_right _ (List.mem_append_right _ (List.mem_append_right _ (List.mem_append_right _ (List.mem_append_right _ (h)))))
theorem xtb_p {w : Cond} (h : w ∈ k2_sels lw_privs) : w ∈ lw_tbl := List.mem_append_left _ h
set_option maxRecDepth 20000 in
theorem xin_X0 : ∀ w ∈ u_ws RX0 TX0 2, w ∈ xTB := by
  intro w hw
  have h : w ∈ lw_tbl ∧ goodWord w = true := by
    revert w
    decide +kernel
  exact xTB_of h.1 h.2
set_option maxRecDepth 20000 in
theorem xin_X1 : ∀ w ∈ u_ws RX1 TX1 11, w ∈ xTB := by
  intro w hw
  have h : w ∈ lw_tbl ∧ goodWord w = true := by
    revert w
    decide +kernel
  exact xTB_of h.1 h.2
set_option maxRecDepth 20000 in
theorem xin_X2 : ∀ w ∈ u_ws RX2 TX2 4, w ∈ xTB := by
  intro w hw
  have h : w ∈ lw_tbl ∧ goodWord w = true := by
    revert w
    decide +kernel
  exact xTB_of h.1 h.2
set_option maxRecDepth 20000 in
theorem xin_X3 : ∀ w ∈ u_ws RX3 TX3 4, w ∈ xTB := by
  intro w hw
  have h : w ∈ lw_tbl ∧ goodWord w = true := by
    revert w
    decide +kernel
  exact xTB_of h.1 h.2
set_option maxRecDepth 20000 in
theorem xin_X5 : ∀ w ∈ u_ws RX5 TX5 9, w ∈ xTB := by
  intro w hw
  have h : w ∈ lw_tbl ∧ goodWord w = true := by
    revert w
    decide +kernel
  exact xTB_of h.1 h.2
set_option maxRecDepth 20000 in
theorem xin_X6 : ∀ w ∈ u_ws RX6 TX6 3, w ∈ xTB := by
  intro w hw
  have h : w ∈ lw_tbl ∧ goodWord w = true := by
    revert w
    decide +kernel
  exact xTB_of h.1 h.2
set_option maxRecDepth 20000 in
theorem xin_X7 : ∀ w ∈ u_ws RX7 TX7 8, w ∈ xTB := by
  intro w hw
  have h : w ∈ lw_tbl ∧ goodWord w = true := by
    revert w
    decide +kernel
  exact xTB_of h.1 h.2
set_option maxRecDepth 20000 in
theorem xin_X8 : ∀ w ∈ u_ws RX8 TX8 24, w ∈ xTB := by
  intro w hw
  have h : w ∈ lw_tbl ∧ goodWord w = true := by
    revert w
    decide +kernel
  exact xTB_of h.1 h.2
def mJ0_charAt_5068e : XY := (yJ0_charAt_5068e, cJ0_charAt_5068e, 2, some (.char))
set_option maxRecDepth 20000 in
theorem okJ0_charAt_5068e : XOk mJ0_charAt_5068e 1 := ⟨xtb_2 (List.mem_of_getElem? (i := 99) rfl), by decide +kernel, by decide +kernel, by decide⟩
def mJ0_checkIndex_df160 : XY := (yJ0_checkIndex_df160, cJ0_checkIndex_df160, 2, none)
set_option maxRecDepth 20000 in
theorem okJ0_checkIndex_df160 : XOk mJ0_checkIndex_df160 2 := ⟨xtb_2 (List.mem_of_getElem? (i := 109) rfl), by decide +kernel, by decide +kernel, by decide⟩
def mJ0_coder_7d493 : XY := (yJ0_coder_7d493, cJ0_coder_7d493, 1, some (.byte))
set_option maxRecDepth 20000 in
theorem okJ0_coder_7d493 : XOk mJ0_coder_7d493 0 := ⟨xtb_2 (List.mem_of_getElem? (i := 93) rfl), by decide +kernel, by decide +kernel, by decide⟩
def mJ0_isLatin1_aae02 : XY := (yJ0_isLatin1_aae02, cJ0_isLatin1_aae02, 1, some (.boolean))
set_option maxRecDepth 20000 in
theorem okJ0_isLatin1_aae02 : XOk mJ0_isLatin1_aae02 0 := ⟨xtb_2 (List.mem_of_getElem? (i := 103) rfl), by decide +kernel, by decide +kernel, by decide⟩
def mJ0_length_8abf5 : XY := (yJ0_length_8abf5, cJ0_length_8abf5, 1, some (.int))
set_option maxRecDepth 20000 in
theorem okJ0_length_8abf5 : XOk mJ0_length_8abf5 0 := ⟨xtb_2 (List.mem_of_getElem? (i := 89) rfl), by decide +kernel, by decide +kernel, by decide⟩
def mJ1_charAt_3b067 : XY := (yJ1_charAt_3b067, cJ1_charAt_3b067, 2, some (.char))
set_option maxRecDepth 20000 in
theorem okJ1_charAt_3b067 : XOk mJ1_charAt_3b067 2 := ⟨xtb_2 (List.mem_of_getElem? (i := 106) rfl), by decide +kernel, by decide +kernel, by decide⟩
def mJ2_charAt_3b067 : XY := (yJ2_charAt_3b067, cJ2_charAt_3b067, 2, some (.char))
set_option maxRecDepth 20000 in
theorem okJ2_charAt_3b067 : XOk mJ2_charAt_3b067 2 := ⟨xtb_2 (List.mem_of_getElem? (i := 117) rfl), by decide +kernel, by decide +kernel, by decide⟩
def mJ2_checkIndex_2214a : XY := (yJ2_checkIndex_2214a, cJ2_checkIndex_2214a, 2, none)
set_option maxRecDepth 20000 in
theorem okJ2_checkIndex_2214a : XOk mJ2_checkIndex_2214a 2 := ⟨xtb_2 (List.mem_of_getElem? (i := 120) rfl), by decide +kernel, by decide +kernel, by decide⟩
def mJ2_getChar_3b067 : XY := (yJ2_getChar_3b067, cJ2_getChar_3b067, 2, some (.char))
set_option maxRecDepth 20000 in
theorem okJ2_getChar_3b067 : XOk mJ2_getChar_3b067 2 := ⟨xtb_2 (List.mem_of_getElem? (i := 127) rfl), by decide +kernel, by decide +kernel, by decide⟩
def mJ2_length_9d52b : XY := (yJ2_length_9d52b, cJ2_length_9d52b, 1, some (.int))
set_option maxRecDepth 20000 in
theorem okJ2_length_9d52b : XOk mJ2_length_9d52b 1 := ⟨xtb_2 (List.mem_of_getElem? (i := 123) rfl), by decide +kernel, by decide +kernel, by decide⟩
def mJ3_checkIndex_8e157 : XY := (yJ3_checkIndex_8e157, cJ3_checkIndex_8e157, 3, some (.int))
set_option maxRecDepth 20000 in
theorem okJ3_checkIndex_8e157 : XOk mJ3_checkIndex_8e157 3 := ⟨xtb_2 (List.mem_of_getElem? (i := 114) rfl), by decide +kernel, by decide +kernel, by decide⟩
def mJ6_bitCount_0f7a4 : XY := (yJ6_bitCount_0f7a4, cJ6_bitCount_0f7a4, 1, some (.int))
set_option maxRecDepth 20000 in
theorem okJ6_bitCount_0f7a4 : XOk mJ6_bitCount_0f7a4 1 := ⟨xtb_3 (List.mem_of_getElem? (i := 147) rfl), by decide +kernel, by decide +kernel, by decide⟩
def mX0_asked : XY := (yX0_asked, cX0_asked, 5, some (.int))
set_option maxRecDepth 20000 in
theorem okX0_asked : XOk mX0_asked 4 := ⟨xtb_3 (List.mem_of_getElem? (i := 226) rfl), by decide +kernel, by decide +kernel, by decide⟩
def mX0_begin : XY := (yX0_begin, cX0_begin, 4, some (.int))
set_option maxRecDepth 20000 in
theorem okX0_begin : XOk mX0_begin 3 := ⟨xtb_3 (List.mem_of_getElem? (i := 222) rfl), by decide +kernel, by decide +kernel, by decide⟩
def mX0_bodyFor : XY := (yX0_bodyFor, cX0_bodyFor, 6, some (.int))
set_option maxRecDepth 20000 in
theorem okX0_bodyFor : XOk mX0_bodyFor 2 := ⟨xtb_3 (List.mem_of_getElem? (i := 230) rfl), by decide +kernel, by decide +kernel, by decide⟩
def mX0_given : XY := (yX0_given, cX0_given, 5, some (.int))
set_option maxRecDepth 20000 in
theorem okX0_given : XOk mX0_given 4 := ⟨xtb_3 (List.mem_of_getElem? (i := 239) rfl), by decide +kernel, by decide +kernel, by decide⟩
def mX0_init : XY := (yX0_init, cX0_init, 1, none)
set_option maxRecDepth 20000 in
theorem okX0_init : XOk mX0_init 0 := ⟨xtb_1 (List.mem_of_getElem? (i := 181) rfl), by decide +kernel, by decide +kernel, by decide⟩
def mX0_leaveTrace : XY := (yX0_leaveTrace, cX0_leaveTrace, 2, none)
set_option maxRecDepth 20000 in
theorem okX0_leaveTrace : XOk mX0_leaveTrace 1 := ⟨xtb_4 (List.mem_of_getElem? (i := 3) rfl), by decide +kernel, by decide +kernel, by decide⟩
def mX0_traced : XY := (yX0_traced, cX0_traced, 2, some (.int))
set_option maxRecDepth 20000 in
theorem okX0_traced : XOk mX0_traced 1 := ⟨xtb_4 (List.mem_of_getElem? (i := 12) rfl), by decide +kernel, by decide +kernel, by decide⟩
def mX1_addHouse : XY := (yX1_addHouse, cX1_addHouse, 6, none)
set_option maxRecDepth 20000 in
theorem okX1_addHouse : XOk mX1_addHouse 5 := ⟨xtb_2 (List.mem_of_getElem? (i := 193) rfl), by decide +kernel, by decide +kernel, by decide⟩
def mX1_afterSlide : XY := (yX1_afterSlide, cX1_afterSlide, 5, some (.int))
set_option maxRecDepth 20000 in
theorem okX1_afterSlide : XOk mX1_afterSlide 2 := ⟨xtb_3 (List.mem_of_getElem? (i := 35) rfl), by decide +kernel, by decide +kernel, by decide⟩
def mX1_allLies : XY := (yX1_allLies, cX1_allLies, 3, some (.int))
set_option maxRecDepth 20000 in
theorem okX1_allLies : XOk mX1_allLies 0 := ⟨xtb_4 (List.mem_of_getElem? (i := 30) rfl), by decide +kernel, by decide +kernel, by decide⟩
def mX1_allRents : XY := (yX1_allRents, cX1_allRents, 3, some (.int))
set_option maxRecDepth 20000 in
theorem okX1_allRents : XOk mX1_allRents 0 := ⟨xtb_4 (List.mem_of_getElem? (i := 34) rfl), by decide +kernel, by decide +kernel, by decide⟩
def mX1_become : XY := (yX1_become, cX1_become, 2, none)
set_option maxRecDepth 20000 in
theorem okX1_become : XOk mX1_become 1 := ⟨xtb_2 (List.mem_of_getElem? (i := 206) rfl), by decide +kernel, by decide +kernel, by decide⟩
def mX1_clear : XY := (yX1_clear, cX1_clear, 2, none)
set_option maxRecDepth 20000 in
theorem okX1_clear : XOk mX1_clear 0 := ⟨xtb_2 (List.mem_of_getElem? (i := 64) rfl), by decide +kernel, by decide +kernel, by decide⟩
def mX1_contentOf : XY := (yX1_contentOf, cX1_contentOf, 4, some (.int))
set_option maxRecDepth 20000 in
theorem okX1_contentOf : XOk mX1_contentOf 2 := ⟨xtb_3 (List.mem_of_getElem? (i := 97) rfl), by decide +kernel, by decide +kernel, by decide⟩
def mX1_eastOf : XY := (yX1_eastOf, cX1_eastOf, 3, some (.int))
set_option maxRecDepth 20000 in
theorem okX1_eastOf : XOk mX1_eastOf 2 := ⟨xtb_2 (List.mem_of_getElem? (i := 235) rfl), by decide +kernel, by decide +kernel, by decide⟩
def mX1_hasColumn : XY := (yX1_hasColumn, cX1_hasColumn, 5, some (.boolean))
set_option maxRecDepth 20000 in
theorem okX1_hasColumn : XOk mX1_hasColumn 3 := ⟨xtb_3 (List.mem_of_getElem? (i := 20) rfl), by decide +kernel, by decide +kernel, by decide⟩
def mX1_hasRoomFor : XY := (yX1_hasRoomFor, cX1_hasRoomFor, 7, some (.boolean))
set_option maxRecDepth 20000 in
theorem okX1_hasRoomFor : XOk mX1_hasRoomFor 4 := ⟨xtb_2 (List.mem_of_getElem? (i := 177) rfl), by decide +kernel, by decide +kernel, by decide⟩
def mX1_houseAt : XY := (yX1_houseAt, cX1_houseAt, 5, some (.int))
set_option maxRecDepth 20000 in
theorem okX1_houseAt : XOk mX1_houseAt 2 := ⟨xtb_2 (List.mem_of_getElem? (i := 185) rfl), by decide +kernel, by decide +kernel, by decide⟩
def mX1_init : XY := (yX1_init, cX1_init, 1, none)
set_option maxRecDepth 20000 in
theorem okX1_init : XOk mX1_init 0 := ⟨xtb_1 (List.mem_of_getElem? (i := 52) rfl), by decide +kernel, by decide +kernel, by decide⟩
def mX1_isBoxed : XY := (yX1_isBoxed, cX1_isBoxed, 5, some (.boolean))
set_option maxRecDepth 20000 in
theorem okX1_isBoxed : XOk mX1_isBoxed 1 := ⟨xtb_3 (List.mem_of_getElem? (i := 84) rfl), by decide +kernel, by decide +kernel, by decide⟩
def mX1_isDrowned : XY := (yX1_isDrowned, cX1_isDrowned, 3, some (.boolean))
set_option maxRecDepth 20000 in
theorem okX1_isDrowned : XOk mX1_isDrowned 2 := ⟨xtb_2 (List.mem_of_getElem? (i := 231) rfl), by decide +kernel, by decide +kernel, by decide⟩
def mX1_isHouse : XY := (yX1_isHouse, cX1_isHouse, 2, some (.boolean))
set_option maxRecDepth 20000 in
theorem okX1_isHouse : XOk mX1_isHouse 1 := ⟨xtb_2 (List.mem_of_getElem? (i := 227) rfl), by decide +kernel, by decide +kernel, by decide⟩
def mX1_isLie : XY := (yX1_isLie, cX1_isLie, 2, some (.boolean))
set_option maxRecDepth 20000 in
theorem okX1_isLie : XOk mX1_isLie 1 := ⟨xtb_3 (List.mem_of_getElem? (i := 4) rfl), by decide +kernel, by decide +kernel, by decide⟩
def mX1_isOpen : XY := (yX1_isOpen, cX1_isOpen, 4, some (.boolean))
set_option maxRecDepth 20000 in
theorem okX1_isOpen : XOk mX1_isOpen 1 := ⟨xtb_3 (List.mem_of_getElem? (i := 76) rfl), by decide +kernel, by decide +kernel, by decide⟩
def mX1_isPath : XY := (yX1_isPath, cX1_isPath, 3, some (.boolean))
set_option maxRecDepth 20000 in
theorem okX1_isPath : XOk mX1_isPath 2 := ⟨xtb_3 (List.mem_of_getElem? (i := 80) rfl), by decide +kernel, by decide +kernel, by decide⟩
def mX1_isStopped : XY := (yX1_isStopped, cX1_isStopped, 5, some (.boolean))
set_option maxRecDepth 20000 in
theorem okX1_isStopped : XOk mX1_isStopped 2 := ⟨xtb_3 (List.mem_of_getElem? (i := 12) rfl), by decide +kernel, by decide +kernel, by decide⟩
def mX1_isThere : XY := (yX1_isThere, cX1_isThere, 1, some (.boolean))
set_option maxRecDepth 20000 in
theorem okX1_isThere : XOk mX1_isThere 0 := ⟨xtb_3 (List.mem_of_getElem? (i := 43) rfl), by decide +kernel, by decide +kernel, by decide⟩
def mX1_isWall : XY := (yX1_isWall, cX1_isWall, 3, some (.boolean))
set_option maxRecDepth 20000 in
theorem okX1_isWall : XOk mX1_isWall 2 := ⟨xtb_2 (List.mem_of_getElem? (i := 181) rfl), by decide +kernel, by decide +kernel, by decide⟩
def mX1_pushedBy : XY := (yX1_pushedBy, cX1_pushedBy, 6, some (.int))
set_option maxRecDepth 20000 in
theorem okX1_pushedBy : XOk mX1_pushedBy 2 := ⟨xtb_3 (List.mem_of_getElem? (i := 16) rfl), by decide +kernel, by decide +kernel, by decide⟩
def mX1_rentOf : XY := (yX1_rentOf, cX1_rentOf, 2, some (.int))
set_option maxRecDepth 20000 in
theorem okX1_rentOf : XOk mX1_rentOf 1 := ⟨xtb_3 (List.mem_of_getElem? (i := 88) rfl), by decide +kernel, by decide +kernel, by decide⟩
def mX1_shareRow : XY := (yX1_shareRow, cX1_shareRow, 3, some (.boolean))
set_option maxRecDepth 20000 in
theorem okX1_shareRow : XOk mX1_shareRow 2 := ⟨xtb_3 (List.mem_of_getElem? (i := 24) rfl), by decide +kernel, by decide +kernel, by decide⟩
def mX1_slidBy : XY := (yX1_slidBy, cX1_slidBy, 7, some (.int))
set_option maxRecDepth 20000 in
theorem okX1_slidBy : XOk mX1_slidBy 2 := ⟨xtb_3 (List.mem_of_getElem? (i := 8) rfl), by decide +kernel, by decide +kernel, by decide⟩
def mX1_wallCells : XY := (yX1_wallCells, cX1_wallCells, 3, some (.int))
set_option maxRecDepth 20000 in
theorem okX1_wallCells : XOk mX1_wallCells 0 := ⟨xtb_4 (List.mem_of_getElem? (i := 25) rfl), by decide +kernel, by decide +kernel, by decide⟩
def mX1_xOf : XY := (yX1_xOf, cX1_xOf, 3, some (.int))
set_option maxRecDepth 20000 in
theorem okX1_xOf : XOk mX1_xOf 2 := ⟨xtb_2 (List.mem_of_getElem? (i := 189) rfl), by decide +kernel, by decide +kernel, by decide⟩
def mX2_addSaying : XY := (yX2_addSaying, cX2_addSaying, 7, none)
set_option maxRecDepth 20000 in
theorem okX2_addSaying : XOk mX2_addSaying 3 := ⟨xtb_3 (List.mem_of_getElem? (i := 117) rfl), by decide +kernel, by decide +kernel, by decide⟩
def mX2_beginAt : XY := (yX2_beginAt, cX2_beginAt, 2, none)
set_option maxRecDepth 20000 in
theorem okX2_beginAt : XOk mX2_beginAt 1 := ⟨xtb_3 (List.mem_of_getElem? (i := 113) rfl), by decide +kernel, by decide +kernel, by decide⟩
def mX2_bestQuestion : XY := (yX2_bestQuestion, cX2_bestQuestion, 7, some (.int))
set_option maxRecDepth 20000 in
theorem okX2_bestQuestion : XOk mX2_bestQuestion 1 := ⟨xtb_3 (List.mem_of_getElem? (i := 158) rfl), by decide +kernel, by decide +kernel, by decide⟩
def mX2_canReach : XY := (yX2_canReach, cX2_canReach, 10, some (.boolean))
set_option maxRecDepth 20000 in
theorem okX2_canReach : XOk mX2_canReach 6 := ⟨xtb_3 (List.mem_of_getElem? (i := 173) rfl), by decide +kernel, by decide +kernel, by decide⟩
def mX2_fewestLies : XY := (yX2_fewestLies, cX2_fewestLies, 3, some (.int))
set_option maxRecDepth 20000 in
theorem okX2_fewestLies : XOk mX2_fewestLies 0 := ⟨xtb_3 (List.mem_of_getElem? (i := 144) rfl), by decide +kernel, by decide +kernel, by decide⟩
def mX2_findLiars : XY := (yX2_findLiars, cX2_findLiars, 5, some (.int))
set_option maxRecDepth 20000 in
theorem okX2_findLiars : XOk mX2_findLiars 3 := ⟨xtb_3 (List.mem_of_getElem? (i := 169) rfl), by decide +kernel, by decide +kernel, by decide⟩
def mX2_fitting : XY := (yX2_fitting, cX2_fitting, 1, some (.int))
set_option maxRecDepth 20000 in
theorem okX2_fitting : XOk mX2_fitting 0 := ⟨xtb_3 (List.mem_of_getElem? (i := 131) rfl), by decide +kernel, by decide +kernel, by decide⟩
def mX2_fittingSet : XY := (yX2_fittingSet, cX2_fittingSet, 2, some (.int))
set_option maxRecDepth 20000 in
theorem okX2_fittingSet : XOk mX2_fittingSet 1 := ⟨xtb_3 (List.mem_of_getElem? (i := 135) rfl), by decide +kernel, by decide +kernel, by decide⟩
def mX2_init : XY := (yX2_init, cX2_init, 1, none)
set_option maxRecDepth 20000 in
theorem okX2_init : XOk mX2_init 0 := ⟨xtb_1 (List.mem_of_getElem? (i := 162) rfl), by decide +kernel, by decide +kernel, by decide⟩
def mX2_keepFitting : XY := (yX2_keepFitting, cX2_keepFitting, 4, none)
set_option maxRecDepth 20000 in
theorem okX2_keepFitting : XOk mX2_keepFitting 2 := ⟨xtb_3 (List.mem_of_getElem? (i := 127) rfl), by decide +kernel, by decide +kernel, by decide⟩
def mX2_liar : XY := (yX2_liar, cX2_liar, 3, some (.int))
set_option maxRecDepth 20000 in
theorem okX2_liar : XOk mX2_liar 2 := ⟨xtb_3 (List.mem_of_getElem? (i := 179) rfl), by decide +kernel, by decide +kernel, by decide⟩
def mX2_liesTillBrook : XY := (yX2_liesTillBrook, cX2_liesTillBrook, 6, some (.int))
set_option maxRecDepth 20000 in
theorem okX2_liesTillBrook : XOk mX2_liesTillBrook 2 := ⟨xtb_3 (List.mem_of_getElem? (i := 187) rfl), by decide +kernel, by decide +kernel, by decide⟩
def mX2_sureLies : XY := (yX2_sureLies, cX2_sureLies, 3, some (.int))
set_option maxRecDepth 20000 in
theorem okX2_sureLies : XOk mX2_sureLies 0 := ⟨xtb_3 (List.mem_of_getElem? (i := 154) rfl), by decide +kernel, by decide +kernel, by decide⟩
def mX3_forgetAll : XY := (yX3_forgetAll, cX3_forgetAll, 1, none)
set_option maxRecDepth 20000 in
theorem okX3_forgetAll : XOk mX3_forgetAll 0 := ⟨xtb_2 (List.mem_of_getElem? (i := 211) rfl), by decide +kernel, by decide +kernel, by decide⟩
def mX3_init : XY := (yX3_init, cX3_init, 1, none)
set_option maxRecDepth 20000 in
theorem okX3_init : XOk mX3_init 0 := ⟨xtb_1 (List.mem_of_getElem? (i := 143) rfl), by decide +kernel, by decide +kernel, by decide⟩
def mX3_keep : XY := (yX3_keep, cX3_keep, 3, none)
set_option maxRecDepth 20000 in
theorem okX3_keep : XOk mX3_keep 2 := ⟨xtb_3 (List.mem_of_getElem? (i := 28) rfl), by decide +kernel, by decide +kernel, by decide⟩
def mX3_size : XY := (yX3_size, cX3_size, 1, some (.int))
set_option maxRecDepth 20000 in
theorem okX3_size : XOk mX3_size 0 := ⟨xtb_3 (List.mem_of_getElem? (i := 63) rfl), by decide +kernel, by decide +kernel, by decide⟩
def mX3_undoLatest : XY := (yX3_undoLatest, cX3_undoLatest, 2, none)
set_option maxRecDepth 20000 in
theorem okX3_undoLatest : XOk mX3_undoLatest 1 := ⟨xtb_3 (List.mem_of_getElem? (i := 67) rfl), by decide +kernel, by decide +kernel, by decide⟩
def mX4_isNumber : XY := (yX4_isNumber, cX4_isNumber, 1, some (.boolean))
set_option maxRecDepth 20000 in
theorem okX4_isNumber : XOk mX4_isNumber 1 := ⟨xtb_3 (List.mem_of_getElem? (i := 206) rfl), by decide +kernel, by decide +kernel, by decide⟩
def mX4_isOne : XY := (yX4_isOne, cX4_isOne, 4, some (.boolean))
set_option maxRecDepth 20000 in
theorem okX4_isOne : XOk mX4_isOne 2 := ⟨xtb_3 (List.mem_of_getElem? (i := 209) rfl), by decide +kernel, by decide +kernel, by decide⟩
def mX4_parentOf : XY := (yX4_parentOf, cX4_parentOf, 1, some (.int))
set_option maxRecDepth 20000 in
theorem okX4_parentOf : XOk mX4_parentOf 1 := ⟨xtb_3 (List.mem_of_getElem? (i := 212) rfl), by decide +kernel, by decide +kernel, by decide⟩
def mX5_append : XY := (yX5_append, cX5_append, 5, some (.boolean))
set_option maxRecDepth 20000 in
theorem okX5_append : XOk mX5_append 2 := ⟨xtb_2 (List.mem_of_getElem? (i := 47) rfl), by decide +kernel, by decide +kernel, by decide⟩
def mX5_draft : XY := (yX5_draft, cX5_draft, 1, some ((.object "LieSlides$Field")))
set_option maxRecDepth 20000 in
theorem okX5_draft : XOk mX5_draft 0 := ⟨xtb_2 (List.mem_of_getElem? (i := 202) rfl), by decide +kernel, by decide +kernel, by decide⟩
def mX5_endOfRun : XY := (yX5_endOfRun, cX5_endOfRun, 4, some (.int))
set_option maxRecDepth 20000 in
theorem okX5_endOfRun : XOk mX5_endOfRun 2 := ⟨xtb_2 (List.mem_of_getElem? (i := 72) rfl), by decide +kernel, by decide +kernel, by decide⟩
def mX5_failWith : XY := (yX5_failWith, cX5_failWith, 2, some (.boolean))
set_option maxRecDepth 20000 in
theorem okX5_failWith : XOk mX5_failWith 1 := ⟨xtb_2 (List.mem_of_getElem? (i := 137) rfl), by decide +kernel, by decide +kernel, by decide⟩
def mX5_faultNumber : XY := (yX5_faultNumber, cX5_faultNumber, 1, some (.int))
set_option maxRecDepth 20000 in
theorem okX5_faultNumber : XOk mX5_faultNumber 0 := ⟨xtb_2 (List.mem_of_getElem? (i := 219) rfl), by decide +kernel, by decide +kernel, by decide⟩
def mX5_faultPlace : XY := (yX5_faultPlace, cX5_faultPlace, 1, some (.int))
set_option maxRecDepth 20000 in
theorem okX5_faultPlace : XOk mX5_faultPlace 0 := ⟨xtb_2 (List.mem_of_getElem? (i := 198) rfl), by decide +kernel, by decide +kernel, by decide⟩
def mX5_init : XY := (yX5_init, cX5_init, 1, none)
set_option maxRecDepth 20000 in
theorem okX5_init : XOk mX5_init 0 := ⟨xtb_1 (List.mem_of_getElem? (i := 46) rfl), by decide +kernel, by decide +kernel, by decide⟩
def mX5_isWord : XY := (yX5_isWord, cX5_isWord, 3, some (.boolean))
set_option maxRecDepth 20000 in
theorem okX5_isWord : XOk mX5_isWord 1 := ⟨xtb_2 (List.mem_of_getElem? (i := 85) rfl), by decide +kernel, by decide +kernel, by decide⟩
def mX5_kindOfWord : XY := (yX5_kindOfWord, cX5_kindOfWord, 1, some (.int))
set_option maxRecDepth 20000 in
theorem okX5_kindOfWord : XOk mX5_kindOfWord 0 := ⟨xtb_2 (List.mem_of_getElem? (i := 168) rfl), by decide +kernel, by decide +kernel, by decide⟩
def mX5_length : XY := (yX5_length, cX5_length, 1, some (.int))
set_option maxRecDepth 20000 in
theorem okX5_length : XOk mX5_length 0 := ⟨xtb_2 (List.mem_of_getElem? (i := 51) rfl), by decide +kernel, by decide +kernel, by decide⟩
def mX5_readFacts : XY := (yX5_readFacts, cX5_readFacts, 1, some (.boolean))
set_option maxRecDepth 20000 in
theorem okX5_readFacts : XOk mX5_readFacts 0 := ⟨xtb_2 (List.mem_of_getElem? (i := 80) rfl), by decide +kernel, by decide +kernel, by decide⟩
def mX5_readHouse : XY := (yX5_readHouse, cX5_readHouse, 5, some (.boolean))
set_option maxRecDepth 20000 in
theorem okX5_readHouse : XOk mX5_readHouse 0 := ⟨xtb_2 (List.mem_of_getElem? (i := 164) rfl), by decide +kernel, by decide +kernel, by decide⟩
def mX5_readHouses : XY := (yX5_readHouses, cX5_readHouses, 2, some (.boolean))
set_option maxRecDepth 20000 in
theorem okX5_readHouses : XOk mX5_readHouses 0 := ⟨xtb_2 (List.mem_of_getElem? (i := 159) rfl), by decide +kernel, by decide +kernel, by decide⟩
def mX5_readPaths : XY := (yX5_readPaths, cX5_readPaths, 4, some (.boolean))
set_option maxRecDepth 20000 in
theorem okX5_readPaths : XOk mX5_readPaths 0 := ⟨xtb_2 (List.mem_of_getElem? (i := 154) rfl), by decide +kernel, by decide +kernel, by decide⟩
def mX5_readTape : XY := (yX5_readTape, cX5_readTape, 2, some (.boolean))
set_option maxRecDepth 20000 in
theorem okX5_readTape : XOk mX5_readTape 0 := ⟨xtb_2 (List.mem_of_getElem? (i := 60) rfl), by decide +kernel, by decide +kernel, by decide⟩
def mX5_readWalls : XY := (yX5_readWalls, cX5_readWalls, 3, some (.boolean))
set_option maxRecDepth 20000 in
theorem okX5_readWalls : XOk mX5_readWalls 0 := ⟨xtb_2 (List.mem_of_getElem? (i := 149) rfl), by decide +kernel, by decide +kernel, by decide⟩
def mX5_takeNumber : XY := (yX5_takeNumber, cX5_takeNumber, 3, some (.boolean))
set_option maxRecDepth 20000 in
theorem okX5_takeNumber : XOk mX5_takeNumber 2 := ⟨xtb_2 (List.mem_of_getElem? (i := 141) rfl), by decide +kernel, by decide +kernel, by decide⟩
def mX5_takeSemicolon : XY := (yX5_takeSemicolon, cX5_takeSemicolon, 1, some (.boolean))
set_option maxRecDepth 20000 in
theorem okX5_takeSemicolon : XOk mX5_takeSemicolon 0 := ⟨xtb_2 (List.mem_of_getElem? (i := 145) rfl), by decide +kernel, by decide +kernel, by decide⟩
def mX5_takeToken : XY := (yX5_takeToken, cX5_takeToken, 1, none)
set_option maxRecDepth 20000 in
theorem okX5_takeToken : XOk mX5_takeToken 0 := ⟨xtb_2 (List.mem_of_getElem? (i := 68) rfl), by decide +kernel, by decide +kernel, by decide⟩
def mX5_valueOfFigures : XY := (yX5_valueOfFigures, cX5_valueOfFigures, 3, some (.int))
set_option maxRecDepth 20000 in
theorem okX5_valueOfFigures : XOk mX5_valueOfFigures 0 := ⟨xtb_2 (List.mem_of_getElem? (i := 76) rfl), by decide +kernel, by decide +kernel, by decide⟩
def mX6_hasPlaces : XY := (yX6_hasPlaces, cX6_hasPlaces, 4, some (.boolean))
set_option maxRecDepth 20000 in
theorem okX6_hasPlaces : XOk mX6_hasPlaces 3 := ⟨xtb_2 (List.mem_of_getElem? (i := 12) rfl), by decide +kernel, by decide +kernel, by decide⟩
def mX6_init : XY := (yX6_init, cX6_init, 1, none)
set_option maxRecDepth 20000 in
theorem okX6_init : XOk mX6_init 0 := ⟨xtb_1 (List.mem_of_getElem? (i := 29) rfl), by decide +kernel, by decide +kernel, by decide⟩
def mX6_isLane : XY := (yX6_isLane, cX6_isLane, 2, some (.boolean))
set_option maxRecDepth 20000 in
theorem okX6_isLane : XOk mX6_isLane 1 := ⟨xtb_1 (List.mem_of_getElem? (i := 226) rfl), by decide +kernel, by decide +kernel, by decide⟩
def mX6_isMissing : XY := (yX6_isMissing, cX6_isMissing, 2, some (.boolean))
set_option maxRecDepth 20000 in
theorem okX6_isMissing : XOk mX6_isMissing 1 := ⟨xtb_2 (List.mem_of_getElem? (i := 8) rfl), by decide +kernel, by decide +kernel, by decide⟩
def mX6_isNumber : XY := (yX6_isNumber, cX6_isNumber, 2, some (.boolean))
set_option maxRecDepth 20000 in
theorem okX6_isNumber : XOk mX6_isNumber 1 := ⟨xtb_1 (List.mem_of_getElem? (i := 222) rfl), by decide +kernel, by decide +kernel, by decide⟩
def mX6_item : XY := (yX6_item, cX6_item, 3, some (.int))
set_option maxRecDepth 20000 in
theorem okX6_item : XOk mX6_item 2 := ⟨xtb_3 (List.mem_of_getElem? (i := 51) rfl), by decide +kernel, by decide +kernel, by decide⟩
def mX6_laneOf : XY := (yX6_laneOf, cX6_laneOf, 2, some (.int))
set_option maxRecDepth 20000 in
theorem okX6_laneOf : XOk mX6_laneOf 1 := ⟨xtb_2 (List.mem_of_getElem? (i := 24) rfl), by decide +kernel, by decide +kernel, by decide⟩
def mX6_make : XY := (yX6_make, cX6_make, 6, none)
set_option maxRecDepth 20000 in
theorem okX6_make : XOk mX6_make 3 := ⟨xtb_1 (List.mem_of_getElem? (i := 236) rfl), by decide +kernel, by decide +kernel, by decide⟩
def mX6_move : XY := (yX6_move, cX6_move, 6, none)
set_option maxRecDepth 20000 in
theorem okX6_move : XOk mX6_move 5 := ⟨xtb_2 (List.mem_of_getElem? (i := 28) rfl), by decide +kernel, by decide +kernel, by decide⟩
def mX6_present : XY := (yX6_present, cX6_present, 3, some (.int))
set_option maxRecDepth 20000 in
theorem okX6_present : XOk mX6_present 0 := ⟨xtb_4 (List.mem_of_getElem? (i := 21) rfl), by decide +kernel, by decide +kernel, by decide⟩
def mX6_put : XY := (yX6_put, cX6_put, 5, some (.int))
set_option maxRecDepth 20000 in
theorem okX6_put : XOk mX6_put 3 := ⟨xtb_2 (List.mem_of_getElem? (i := 16) rfl), by decide +kernel, by decide +kernel, by decide⟩
def mX6_remove : XY := (yX6_remove, cX6_remove, 2, some (.int))
set_option maxRecDepth 20000 in
theorem okX6_remove : XOk mX6_remove 1 := ⟨xtb_2 (List.mem_of_getElem? (i := 39) rfl), by decide +kernel, by decide +kernel, by decide⟩
def mX7_answered : XY := (yX7_answered, cX7_answered, 2, some (.int))
set_option maxRecDepth 20000 in
theorem okX7_answered : XOk mX7_answered 1 := ⟨xtb_2 (List.mem_of_getElem? (i := 0) rfl), by decide +kernel, by decide +kernel, by decide⟩
def mX7_areSayings : XY := (yX7_areSayings, cX7_areSayings, 6, some (.boolean))
set_option maxRecDepth 20000 in
theorem okX7_areSayings : XOk mX7_areSayings 3 := ⟨xtb_3 (List.mem_of_getElem? (i := 47) rfl), by decide +kernel, by decide +kernel, by decide⟩
def mX7_as : XY := (yX7_as, cX7_as, 3, some (.int))
set_option maxRecDepth 20000 in
theorem okX7_as : XOk mX7_as 2 := ⟨xtb_3 (List.mem_of_getElem? (i := 203) rfl), by decide +kernel, by decide +kernel, by decide⟩
def mX7_ask : XY := (yX7_ask, cX7_ask, 3, some (.int))
set_option maxRecDepth 20000 in
theorem okX7_ask : XOk mX7_ask 2 := ⟨xtb_3 (List.mem_of_getElem? (i := 218) rfl), by decide +kernel, by decide +kernel, by decide⟩
def mX7_brook : XY := (yX7_brook, cX7_brook, 2, some (.int))
set_option maxRecDepth 20000 in
theorem okX7_brook : XOk mX7_brook 1 := ⟨xtb_3 (List.mem_of_getElem? (i := 183) rfl), by decide +kernel, by decide +kernel, by decide⟩
def mX7_cell : XY := (yX7_cell, cX7_cell, 2, some (.int))
set_option maxRecDepth 20000 in
theorem okX7_cell : XOk mX7_cell 1 := ⟨xtb_3 (List.mem_of_getElem? (i := 93) rfl), by decide +kernel, by decide +kernel, by decide⟩
def mX7_copy : XY := (yX7_copy, cX7_copy, 6, some (.int))
set_option maxRecDepth 20000 in
theorem okX7_copy : XOk mX7_copy 5 := ⟨xtb_2 (List.mem_of_getElem? (i := 20) rfl), by decide +kernel, by decide +kernel, by decide⟩
def mX7_count : XY := (yX7_count, cX7_count, 2, some (.int))
set_option maxRecDepth 20000 in
theorem okX7_count : XOk mX7_count 1 := ⟨xtb_4 (List.mem_of_getElem? (i := 17) rfl), by decide +kernel, by decide +kernel, by decide⟩
def mX7_drop : XY := (yX7_drop, cX7_drop, 2, some (.int))
set_option maxRecDepth 20000 in
theorem okX7_drop : XOk mX7_drop 1 := ⟨xtb_2 (List.mem_of_getElem? (i := 35) rfl), by decide +kernel, by decide +kernel, by decide⟩
def mX7_fault : XY := (yX7_fault, cX7_fault, 1, some (.int))
set_option maxRecDepth 20000 in
theorem okX7_fault : XOk mX7_fault 0 := ⟨xtb_2 (List.mem_of_getElem? (i := 215) rfl), by decide +kernel, by decide +kernel, by decide⟩
def mX7_feed : XY := (yX7_feed, cX7_feed, 4, some (.int))
set_option maxRecDepth 20000 in
theorem okX7_feed : XOk mX7_feed 2 := ⟨xtb_2 (List.mem_of_getElem? (i := 43) rfl), by decide +kernel, by decide +kernel, by decide⟩
def mX7_field : XY := (yX7_field, cX7_field, 1, some (.int))
set_option maxRecDepth 20000 in
theorem okX7_field : XOk mX7_field 0 := ⟨xtb_2 (List.mem_of_getElem? (i := 56) rfl), by decide +kernel, by decide +kernel, by decide⟩
def mX7_foretellLies : XY := (yX7_foretellLies, cX7_foretellLies, 5, none)
set_option maxRecDepth 20000 in
theorem okX7_foretellLies : XOk mX7_foretellLies 3 := ⟨xtb_3 (List.mem_of_getElem? (i := 109) rfl), by decide +kernel, by decide +kernel, by decide⟩
def mX7_found : XY := (yX7_found, cX7_found, 2, some (.int))
set_option maxRecDepth 20000 in
theorem okX7_found : XOk mX7_found 1 := ⟨xtb_1 (List.mem_of_getElem? (i := 231) rfl), by decide +kernel, by decide +kernel, by decide⟩
def mX7_guess : XY := (yX7_guess, cX7_guess, 6, some (.int))
set_option maxRecDepth 20000 in
theorem okX7_guess : XOk mX7_guess 4 := ⟨xtb_3 (List.mem_of_getElem? (i := 140) rfl), by decide +kernel, by decide +kernel, by decide⟩
def mX7_house : XY := (yX7_house, cX7_house, 3, some (.int))
set_option maxRecDepth 20000 in
theorem okX7_house : XOk mX7_house 2 := ⟨xtb_3 (List.mem_of_getElem? (i := 71) rfl), by decide +kernel, by decide +kernel, by decide⟩
def mX7_image : XY := (yX7_image, cX7_image, 2, some (.int))
set_option maxRecDepth 20000 in
theorem okX7_image : XOk mX7_image 1 := ⟨xtb_3 (List.mem_of_getElem? (i := 191) rfl), by decide +kernel, by decide +kernel, by decide⟩
def mX7_init : XY := (yX7_init, cX7_init, 1, none)
set_option maxRecDepth 20000 in
theorem okX7_init : XOk mX7_init 0 := ⟨xtb_1 (List.mem_of_getElem? (i := 21) rfl), by decide +kernel, by decide +kernel, by decide⟩
def mX7_kind : XY := (yX7_kind, cX7_kind, 2, some (.int))
set_option maxRecDepth 20000 in
theorem okX7_kind : XOk mX7_kind 1 := ⟨xtb_3 (List.mem_of_getElem? (i := 199) rfl), by decide +kernel, by decide +kernel, by decide⟩
def mX7_lies : XY := (yX7_lies, cX7_lies, 6, some (.int))
set_option maxRecDepth 20000 in
theorem okX7_lies : XOk mX7_lies 4 := ⟨xtb_3 (List.mem_of_getElem? (i := 101) rfl), by decide +kernel, by decide +kernel, by decide⟩
def mX7_refusalToForetell : XY := (yX7_refusalToForetell, cX7_refusalToForetell, 6, some (.int))
set_option maxRecDepth 20000 in
theorem okX7_refusalToForetell : XOk mX7_refusalToForetell 4 := ⟨xtb_3 (List.mem_of_getElem? (i := 105) rfl), by decide +kernel, by decide +kernel, by decide⟩
def mX7_restore : XY := (yX7_restore, cX7_restore, 2, some (.int))
set_option maxRecDepth 20000 in
theorem okX7_restore : XOk mX7_restore 1 := ⟨xtb_3 (List.mem_of_getElem? (i := 195) rfl), by decide +kernel, by decide +kernel, by decide⟩
def mX7_row : XY := (yX7_row, cX7_row, 4, some (.int))
set_option maxRecDepth 20000 in
theorem okX7_row : XOk mX7_row 3 := ⟨xtb_1 (List.mem_of_getElem? (i := 218) rfl), by decide +kernel, by decide +kernel, by decide⟩
def mX7_say : XY := (yX7_say, cX7_say, 3, some (.int))
set_option maxRecDepth 20000 in
theorem okX7_say : XOk mX7_say 2 := ⟨xtb_2 (List.mem_of_getElem? (i := 223) rfl), by decide +kernel, by decide +kernel, by decide⟩
def mX7_sayAll : XY := (yX7_sayAll, cX7_sayAll, 8, some (.int))
set_option maxRecDepth 20000 in
theorem okX7_sayAll : XOk mX7_sayAll 3 := ⟨xtb_3 (List.mem_of_getElem? (i := 55) rfl), by decide +kernel, by decide +kernel, by decide⟩
def mX7_sayIn : XY := (yX7_sayIn, cX7_sayIn, 5, some (.int))
set_option maxRecDepth 20000 in
theorem okX7_sayIn : XOk mX7_sayIn 2 := ⟨xtb_3 (List.mem_of_getElem? (i := 0) rfl), by decide +kernel, by decide +kernel, by decide⟩
def mX7_set : XY := (yX7_set, cX7_set, 4, some (.int))
set_option maxRecDepth 20000 in
theorem okX7_set : XOk mX7_set 3 := ⟨xtb_2 (List.mem_of_getElem? (i := 4) rfl), by decide +kernel, by decide +kernel, by decide⟩
def mX7_standsAsOne : XY := (yX7_standsAsOne, cX7_standsAsOne, 5, some (.int))
set_option maxRecDepth 20000 in
theorem okX7_standsAsOne : XOk mX7_standsAsOne 1 := ⟨xtb_3 (List.mem_of_getElem? (i := 123) rfl), by decide +kernel, by decide +kernel, by decide⟩
def mX7_status : XY := (yX7_status, cX7_status, 1, some (.int))
set_option maxRecDepth 20000 in
theorem okX7_status : XOk mX7_status 0 := ⟨xtb_4 (List.mem_of_getElem? (i := 39) rfl), by decide +kernel, by decide +kernel, by decide⟩
def mX7_talk : XY := (yX7_talk, cX7_talk, 4, some (.int))
set_option maxRecDepth 20000 in
theorem okX7_talk : XOk mX7_talk 3 := ⟨xtb_3 (List.mem_of_getElem? (i := 39) rfl), by decide +kernel, by decide +kernel, by decide⟩
def mX7_trace : XY := (yX7_trace, cX7_trace, 2, some (.int))
set_option maxRecDepth 20000 in
theorem okX7_trace : XOk mX7_trace 1 := ⟨xtb_4 (List.mem_of_getElem? (i := 8) rfl), by decide +kernel, by decide +kernel, by decide⟩
def mX7_undo : XY := (yX7_undo, cX7_undo, 1, some (.int))
set_option maxRecDepth 20000 in
theorem okX7_undo : XOk mX7_undo 0 := ⟨xtb_3 (List.mem_of_getElem? (i := 59) rfl), by decide +kernel, by decide +kernel, by decide⟩
def mX7_wanted : XY := (yX7_wanted, cX7_wanted, 5, some (.int))
set_option maxRecDepth 20000 in
theorem okX7_wanted : XOk mX7_wanted 3 := ⟨xtb_3 (List.mem_of_getElem? (i := 165) rfl), by decide +kernel, by decide +kernel, by decide⟩
def mX8_above : XY := (yX8_above, cX8_above, 1, some (.int))
set_option maxRecDepth 20000 in
theorem okX8_above : XOk mX8_above 1 := ⟨xtb_5 (List.mem_of_getElem? (i := 131) rfl), by decide +kernel, by decide +kernel, by decide⟩
def mX8_areItems : XY := (yX8_areItems, cX8_areItems, 7, some (.boolean))
set_option maxRecDepth 20000 in
theorem okX8_areItems : XOk mX8_areItems 3 := ⟨xtb_4 (List.mem_of_getElem? (i := 207) rfl), by decide +kernel, by decide +kernel, by decide⟩
def mX8_as : XY := (yX8_as, cX8_as, 3, some (.int))
set_option maxRecDepth 20000 in
theorem okX8_as : XOk mX8_as 2 := ⟨xtb_5 (List.mem_of_getElem? (i := 125) rfl), by decide +kernel, by decide +kernel, by decide⟩
def mX8_ask : XY := (yX8_ask, cX8_ask, 3, some (.int))
set_option maxRecDepth 20000 in
theorem okX8_ask : XOk mX8_ask 2 := ⟨xtb_5 (List.mem_of_getElem? (i := 135) rfl), by decide +kernel, by decide +kernel, by decide⟩
def mX8_bits : XY := (yX8_bits, cX8_bits, 3, some (.int))
set_option maxRecDepth 20000 in
theorem okX8_bits : XOk mX8_bits 1 := ⟨xtb_5 (List.mem_of_getElem? (i := 91) rfl), by decide +kernel, by decide +kernel, by decide⟩
def mX8_body10 : XY := (yX8_body10, cX8_body10, 2, some (.int))
set_option maxRecDepth 20000 in
theorem okX8_body10 : XOk mX8_body10 1 := ⟨xtb_5 (List.mem_of_getElem? (i := 159) rfl), by decide +kernel, by decide +kernel, by decide⟩
def mX8_body11 : XY := (yX8_body11, cX8_body11, 3, some (.int))
set_option maxRecDepth 20000 in
theorem okX8_body11 : XOk mX8_body11 1 := ⟨xtb_5 (List.mem_of_getElem? (i := 183) rfl), by decide +kernel, by decide +kernel, by decide⟩
def mX8_body12 : XY := (yX8_body12, cX8_body12, 2, some (.int))
set_option maxRecDepth 20000 in
theorem okX8_body12 : XOk mX8_body12 1 := ⟨xtb_5 (List.mem_of_getElem? (i := 179) rfl), by decide +kernel, by decide +kernel, by decide⟩
def mX8_body13 : XY := (yX8_body13, cX8_body13, 2, some (.int))
set_option maxRecDepth 20000 in
theorem okX8_body13 : XOk mX8_body13 1 := ⟨xtb_5 (List.mem_of_getElem? (i := 155) rfl), by decide +kernel, by decide +kernel, by decide⟩
def mX8_body14 : XY := (yX8_body14, cX8_body14, 2, some (.int))
set_option maxRecDepth 20000 in
theorem okX8_body14 : XOk mX8_body14 1 := ⟨xtb_5 (List.mem_of_getElem? (i := 187) rfl), by decide +kernel, by decide +kernel, by decide⟩
def mX8_body20 : XY := (yX8_body20, cX8_body20, 2, some (.int))
set_option maxRecDepth 20000 in
theorem okX8_body20 : XOk mX8_body20 1 := ⟨xtb_5 (List.mem_of_getElem? (i := 151) rfl), by decide +kernel, by decide +kernel, by decide⟩
def mX8_body21 : XY := (yX8_body21, cX8_body21, 2, some (.int))
set_option maxRecDepth 20000 in
theorem okX8_body21 : XOk mX8_body21 1 := ⟨xtb_5 (List.mem_of_getElem? (i := 167) rfl), by decide +kernel, by decide +kernel, by decide⟩
def mX8_body22 : XY := (yX8_body22, cX8_body22, 2, some (.int))
set_option maxRecDepth 20000 in
theorem okX8_body22 : XOk mX8_body22 1 := ⟨xtb_5 (List.mem_of_getElem? (i := 163) rfl), by decide +kernel, by decide +kernel, by decide⟩
def mX8_body23 : XY := (yX8_body23, cX8_body23, 3, some (.int))
set_option maxRecDepth 20000 in
theorem okX8_body23 : XOk mX8_body23 1 := ⟨xtb_5 (List.mem_of_getElem? (i := 143) rfl), by decide +kernel, by decide +kernel, by decide⟩
def mX8_body24 : XY := (yX8_body24, cX8_body24, 2, some (.int))
set_option maxRecDepth 20000 in
theorem okX8_body24 : XOk mX8_body24 1 := ⟨xtb_5 (List.mem_of_getElem? (i := 171) rfl), by decide +kernel, by decide +kernel, by decide⟩
def mX8_brings : XY := (yX8_brings, cX8_brings, 8, some (.boolean))
set_option maxRecDepth 20000 in
theorem okX8_brings : XOk mX8_brings 4 := ⟨xtb_5 (List.mem_of_getElem? (i := 102) rfl), by decide +kernel, by decide +kernel, by decide⟩
def mX8_brook : XY := (yX8_brook, cX8_brook, 4, some (.int))
set_option maxRecDepth 20000 in
theorem okX8_brook : XOk mX8_brook 1 := ⟨xtb_5 (List.mem_of_getElem? (i := 109) rfl), by decide +kernel, by decide +kernel, by decide⟩
def mX8_cell : XY := (yX8_cell, cX8_cell, 4, some (.int))
set_option maxRecDepth 20000 in
theorem okX8_cell : XOk mX8_cell 1 := ⟨xtb_5 (List.mem_of_getElem? (i := 64) rfl), by decide +kernel, by decide +kernel, by decide⟩
def mX8_copy : XY := (yX8_copy, cX8_copy, 7, some (.int))
set_option maxRecDepth 20000 in
theorem okX8_copy : XOk mX8_copy 5 := ⟨xtb_4 (List.mem_of_getElem? (i := 152) rfl), by decide +kernel, by decide +kernel, by decide⟩
def mX8_count : XY := (yX8_count, cX8_count, 4, some (.int))
set_option maxRecDepth 20000 in
theorem okX8_count : XOk mX8_count 1 := ⟨xtb_5 (List.mem_of_getElem? (i := 195) rfl), by decide +kernel, by decide +kernel, by decide⟩
def mX8_did : XY := (yX8_did, cX8_did, 2, some (.int))
set_option maxRecDepth 20000 in
theorem okX8_did : XOk mX8_did 1 := ⟨xtb_4 (List.mem_of_getElem? (i := 140) rfl), by decide +kernel, by decide +kernel, by decide⟩
def mX8_drop : XY := (yX8_drop, cX8_drop, 2, some (.int))
set_option maxRecDepth 20000 in
theorem okX8_drop : XOk mX8_drop 1 := ⟨xtb_4 (List.mem_of_getElem? (i := 156) rfl), by decide +kernel, by decide +kernel, by decide⟩
def mX8_fails : XY := (yX8_fails, cX8_fails, 2, some (.boolean))
set_option maxRecDepth 20000 in
theorem okX8_fails : XOk mX8_fails 1 := ⟨xtb_4 (List.mem_of_getElem? (i := 194) rfl), by decide +kernel, by decide +kernel, by decide⟩
def mX8_fault : XY := (yX8_fault, cX8_fault, 1, some (.int))
set_option maxRecDepth 20000 in
theorem okX8_fault : XOk mX8_fault 0 := ⟨xtb_5 (List.mem_of_getElem? (i := 0) rfl), by decide +kernel, by decide +kernel, by decide⟩
def mX8_feed : XY := (yX8_feed, cX8_feed, 5, some (.int))
set_option maxRecDepth 20000 in
theorem okX8_feed : XOk mX8_feed 2 := ⟨xtb_4 (List.mem_of_getElem? (i := 160) rfl), by decide +kernel, by decide +kernel, by decide⟩
def mX8_field : XY := (yX8_field, cX8_field, 3, some (.int))
set_option maxRecDepth 20000 in
theorem okX8_field : XOk mX8_field 0 := ⟨xtb_4 (List.mem_of_getElem? (i := 166) rfl), by decide +kernel, by decide +kernel, by decide⟩
def mX8_finds : XY := (yX8_finds, cX8_finds, 2, some (.int))
set_option maxRecDepth 20000 in
theorem okX8_finds : XOk mX8_finds 1 := ⟨xtb_4 (List.mem_of_getElem? (i := 135) rfl), by decide +kernel, by decide +kernel, by decide⟩
def mX8_guess : XY := (yX8_guess, cX8_guess, 13, some (.int))
set_option maxRecDepth 20000 in
theorem okX8_guess : XOk mX8_guess 4 := ⟨xtb_5 (List.mem_of_getElem? (i := 88) rfl), by decide +kernel, by decide +kernel, by decide⟩
def mX8_has : XY := (yX8_has, cX8_has, 2, some (.boolean))
set_option maxRecDepth 20000 in
theorem okX8_has : XOk mX8_has 2 := ⟨xtb_5 (List.mem_of_getElem? (i := 24) rfl), by decide +kernel, by decide +kernel, by decide⟩
def mX8_here : XY := (yX8_here, cX8_here, 1, some (.int))
set_option maxRecDepth 20000 in
theorem okX8_here : XOk mX8_here 0 := ⟨xtb_4 (List.mem_of_getElem? (i := 182) rfl), by decide +kernel, by decide +kernel, by decide⟩
def mX8_house : XY := (yX8_house, cX8_house, 3, some (.int))
set_option maxRecDepth 20000 in
theorem okX8_house : XOk mX8_house 2 := ⟨xtb_5 (List.mem_of_getElem? (i := 48) rfl), by decide +kernel, by decide +kernel, by decide⟩
def mX8_houseAt : XY := (yX8_houseAt, cX8_houseAt, 4, some (.int))
set_option maxRecDepth 20000 in
theorem okX8_houseAt : XOk mX8_houseAt 3 := ⟨xtb_4 (List.mem_of_getElem? (i := 230) rfl), by decide +kernel, by decide +kernel, by decide⟩
def mX8_image : XY := (yX8_image, cX8_image, 3, some (.int))
set_option maxRecDepth 20000 in
theorem okX8_image : XOk mX8_image 1 := ⟨xtb_5 (List.mem_of_getElem? (i := 113) rfl), by decide +kernel, by decide +kernel, by decide⟩
def mX8_in : XY := (yX8_in, cX8_in, 3, some (.boolean))
set_option maxRecDepth 20000 in
theorem okX8_in : XOk mX8_in 3 := ⟨xtb_4 (List.mem_of_getElem? (i := 130) rfl), by decide +kernel, by decide +kernel, by decide⟩
def mX8_init : XY := (yX8_init, cX8_init, 2, none)
set_option maxRecDepth 20000 in
theorem okX8_init : XOk mX8_init 0 := ⟨xtb_4 (List.mem_of_getElem? (i := 44) rfl), by decide +kernel, by decide +kernel, by decide⟩
def mX8_isBoxed : XY := (yX8_isBoxed, cX8_isBoxed, 4, some (.boolean))
set_option maxRecDepth 20000 in
theorem okX8_isBoxed : XOk mX8_isBoxed 1 := ⟨xtb_5 (List.mem_of_getElem? (i := 56) rfl), by decide +kernel, by decide +kernel, by decide⟩
def mX8_isDrowned : XY := (yX8_isDrowned, cX8_isDrowned, 2, some (.boolean))
set_option maxRecDepth 20000 in
theorem okX8_isDrowned : XOk mX8_isDrowned 1 := ⟨xtb_5 (List.mem_of_getElem? (i := 12) rfl), by decide +kernel, by decide +kernel, by decide⟩
def mX8_isEnd : XY := (yX8_isEnd, cX8_isEnd, 1, some (.boolean))
set_option maxRecDepth 20000 in
theorem okX8_isEnd : XOk mX8_isEnd 0 := ⟨xtb_4 (List.mem_of_getElem? (i := 202) rfl), by decide +kernel, by decide +kernel, by decide⟩
def mX8_isFacts : XY := (yX8_isFacts, cX8_isFacts, 1, some (.boolean))
set_option maxRecDepth 20000 in
theorem okX8_isFacts : XOk mX8_isFacts 0 := ⟨xtb_4 (List.mem_of_getElem? (i := 174) rfl), by decide +kernel, by decide +kernel, by decide⟩
def mX8_isField : XY := (yX8_isField, cX8_isField, 2, some (.boolean))
set_option maxRecDepth 20000 in
theorem okX8_isField : XOk mX8_isField 0 := ⟨xtb_4 (List.mem_of_getElem? (i := 170) rfl), by decide +kernel, by decide +kernel, by decide⟩
def mX8_isHouse : XY := (yX8_isHouse, cX8_isHouse, 5, some (.boolean))
set_option maxRecDepth 20000 in
theorem okX8_isHouse : XOk mX8_isHouse 0 := ⟨xtb_4 (List.mem_of_getElem? (i := 219) rfl), by decide +kernel, by decide +kernel, by decide⟩
def mX8_isKind : XY := (yX8_isKind, cX8_isKind, 3, some (.boolean))
set_option maxRecDepth 20000 in
theorem okX8_isKind : XOk mX8_isKind 2 := ⟨xtb_5 (List.mem_of_getElem? (i := 128) rfl), by decide +kernel, by decide +kernel, by decide⟩
def mX8_isLie : XY := (yX8_isLie, cX8_isLie, 2, some (.boolean))
set_option maxRecDepth 20000 in
theorem okX8_isLie : XOk mX8_isLie 1 := ⟨xtb_5 (List.mem_of_getElem? (i := 21) rfl), by decide +kernel, by decide +kernel, by decide⟩
def mX8_isMissing : XY := (yX8_isMissing, cX8_isMissing, 2, some (.boolean))
set_option maxRecDepth 20000 in
theorem okX8_isMissing : XOk mX8_isMissing 1 := ⟨xtb_4 (List.mem_of_getElem? (i := 148) rfl), by decide +kernel, by decide +kernel, by decide⟩
def mX8_isName : XY := (yX8_isName, cX8_isName, 3, some (.boolean))
set_option maxRecDepth 20000 in
theorem okX8_isName : XOk mX8_isName 1 := ⟨xtb_4 (List.mem_of_getElem? (i := 190) rfl), by decide +kernel, by decide +kernel, by decide⟩
def mX8_isNumber : XY := (yX8_isNumber, cX8_isNumber, 3, some (.boolean))
set_option maxRecDepth 20000 in
theorem okX8_isNumber : XOk mX8_isNumber 2 := ⟨xtb_4 (List.mem_of_getElem? (i := 198) rfl), by decide +kernel, by decide +kernel, by decide⟩
def mX8_isOf : XY := (yX8_isOf, cX8_isOf, 4, some (.boolean))
set_option maxRecDepth 20000 in
theorem okX8_isOf : XOk mX8_isOf 4 := ⟨xtb_4 (List.mem_of_getElem? (i := 233) rfl), by decide +kernel, by decide +kernel, by decide⟩
def mX8_isOpen : XY := (yX8_isOpen, cX8_isOpen, 4, some (.boolean))
set_option maxRecDepth 20000 in
theorem okX8_isOpen : XOk mX8_isOpen 1 := ⟨xtb_5 (List.mem_of_getElem? (i := 52) rfl), by decide +kernel, by decide +kernel, by decide⟩
def mX8_isPath : XY := (yX8_isPath, cX8_isPath, 4, some (.boolean))
set_option maxRecDepth 20000 in
theorem okX8_isPath : XOk mX8_isPath 0 := ⟨xtb_4 (List.mem_of_getElem? (i := 215) rfl), by decide +kernel, by decide +kernel, by decide⟩
def mX8_isRow : XY := (yX8_isRow, cX8_isRow, 1, some (.boolean))
set_option maxRecDepth 20000 in
theorem okX8_isRow : XOk mX8_isRow 1 := ⟨xtb_4 (List.mem_of_getElem? (i := 127) rfl), by decide +kernel, by decide +kernel, by decide⟩
def mX8_isSo : XY := (yX8_isSo, cX8_isSo, 8, some (.boolean))
set_option maxRecDepth 20000 in
theorem okX8_isSo : XOk mX8_isSo 4 := ⟨xtb_5 (List.mem_of_getElem? (i := 76) rfl), by decide +kernel, by decide +kernel, by decide⟩
def mX8_isStopped : XY := (yX8_isStopped, cX8_isStopped, 5, some (.boolean))
set_option maxRecDepth 20000 in
theorem okX8_isStopped : XOk mX8_isStopped 1 := ⟨xtb_5 (List.mem_of_getElem? (i := 36) rfl), by decide +kernel, by decide +kernel, by decide⟩
def mX8_isThere : XY := (yX8_isThere, cX8_isThere, 2, some (.boolean))
set_option maxRecDepth 20000 in
theorem okX8_isThere : XOk mX8_isThere 1 := ⟨xtb_5 (List.mem_of_getElem? (i := 8) rfl), by decide +kernel, by decide +kernel, by decide⟩
def mX8_isWall : XY := (yX8_isWall, cX8_isWall, 3, some (.boolean))
set_option maxRecDepth 20000 in
theorem okX8_isWall : XOk mX8_isWall 0 := ⟨xtb_4 (List.mem_of_getElem? (i := 211) rfl), by decide +kernel, by decide +kernel, by decide⟩
def mX8_isWallAt : XY := (yX8_isWallAt, cX8_isWallAt, 3, some (.boolean))
set_option maxRecDepth 20000 in
theorem okX8_isWallAt : XOk mX8_isWallAt 3 := ⟨xtb_4 (List.mem_of_getElem? (i := 227) rfl), by decide +kernel, by decide +kernel, by decide⟩
def mX8_kind : XY := (yX8_kind, cX8_kind, 2, some (.int))
set_option maxRecDepth 20000 in
theorem okX8_kind : XOk mX8_kind 1 := ⟨xtb_5 (List.mem_of_getElem? (i := 121) rfl), by decide +kernel, by decide +kernel, by decide⟩
def mX8_leave : XY := (yX8_leave, cX8_leave, 2, none)
set_option maxRecDepth 20000 in
theorem okX8_leave : XOk mX8_leave 1 := ⟨xtb_5 (List.mem_of_getElem? (i := 147) rfl), by decide +kernel, by decide +kernel, by decide⟩
def mX8_lies : XY := (yX8_lies, cX8_lies, 8, some (.int))
set_option maxRecDepth 20000 in
theorem okX8_lies : XOk mX8_lies 4 := ⟨xtb_5 (List.mem_of_getElem? (i := 68) rfl), by decide +kernel, by decide +kernel, by decide⟩
def mX8_markOf : XY := (yX8_markOf, cX8_markOf, 2, some (.int))
set_option maxRecDepth 20000 in
theorem okX8_markOf : XOk mX8_markOf 1 := ⟨xtb_5 (List.mem_of_getElem? (i := 139) rfl), by decide +kernel, by decide +kernel, by decide⟩
def mX8_meetsEast : XY := (yX8_meetsEast, cX8_meetsEast, 5, some (.boolean))
set_option maxRecDepth 20000 in
theorem okX8_meetsEast : XOk mX8_meetsEast 2 := ⟨xtb_5 (List.mem_of_getElem? (i := 32) rfl), by decide +kernel, by decide +kernel, by decide⟩
def mX8_nextToken : XY := (yX8_nextToken, cX8_nextToken, 1, none)
set_option maxRecDepth 20000 in
theorem okX8_nextToken : XOk mX8_nextToken 0 := ⟨xtb_4 (List.mem_of_getElem? (i := 178) rfl), by decide +kernel, by decide +kernel, by decide⟩
def mX8_putAside : XY := (yX8_putAside, cX8_putAside, 2, none)
set_option maxRecDepth 20000 in
theorem okX8_putAside : XOk mX8_putAside 0 := ⟨xtb_5 (List.mem_of_getElem? (i := 80) rfl), by decide +kernel, by decide +kernel, by decide⟩
def mX8_putBack : XY := (yX8_putBack, cX8_putBack, 2, none)
set_option maxRecDepth 20000 in
theorem okX8_putBack : XOk mX8_putBack 0 := ⟨xtb_5 (List.mem_of_getElem? (i := 84) rfl), by decide +kernel, by decide +kernel, by decide⟩
def mX8_rentOf : XY := (yX8_rentOf, cX8_rentOf, 2, some (.int))
set_option maxRecDepth 20000 in
theorem okX8_rentOf : XOk mX8_rentOf 1 := ⟨xtb_5 (List.mem_of_getElem? (i := 60) rfl), by decide +kernel, by decide +kernel, by decide⟩
def mX8_restore : XY := (yX8_restore, cX8_restore, 3, some (.int))
set_option maxRecDepth 20000 in
theorem okX8_restore : XOk mX8_restore 1 := ⟨xtb_5 (List.mem_of_getElem? (i := 117) rfl), by decide +kernel, by decide +kernel, by decide⟩
def mX8_row : XY := (yX8_row, cX8_row, 5, some (.int))
set_option maxRecDepth 20000 in
theorem okX8_row : XOk mX8_row 3 := ⟨xtb_4 (List.mem_of_getElem? (i := 124) rfl), by decide +kernel, by decide +kernel, by decide⟩
def mX8_rows : XY := (yX8_rows, cX8_rows, 3, some (.int))
set_option maxRecDepth 20000 in
theorem okX8_rows : XOk mX8_rows 1 := ⟨xtb_5 (List.mem_of_getElem? (i := 98) rfl), by decide +kernel, by decide +kernel, by decide⟩
def mX8_say : XY := (yX8_say, cX8_say, 3, some (.int))
set_option maxRecDepth 20000 in
theorem okX8_say : XOk mX8_say 2 := ⟨xtb_5 (List.mem_of_getElem? (i := 4) rfl), by decide +kernel, by decide +kernel, by decide⟩
def mX8_saying : XY := (yX8_saying, cX8_saying, 4, some (.int))
set_option maxRecDepth 20000 in
theorem okX8_saying : XOk mX8_saying 2 := ⟨xtb_5 (List.mem_of_getElem? (i := 17) rfl), by decide +kernel, by decide +kernel, by decide⟩
def mX8_set : XY := (yX8_set, cX8_set, 4, some (.int))
set_option maxRecDepth 20000 in
theorem okX8_set : XOk mX8_set 3 := ⟨xtb_4 (List.mem_of_getElem? (i := 144) rfl), by decide +kernel, by decide +kernel, by decide⟩
def mX8_sizeOfOther : XY := (yX8_sizeOfOther, cX8_sizeOfOther, 2, some (.int))
set_option maxRecDepth 20000 in
theorem okX8_sizeOfOther : XOk mX8_sizeOfOther 1 := ⟨xtb_5 (List.mem_of_getElem? (i := 175) rfl), by decide +kernel, by decide +kernel, by decide⟩
def mX8_slide : XY := (yX8_slide, cX8_slide, 6, some (.int))
set_option maxRecDepth 20000 in
theorem okX8_slide : XOk mX8_slide 1 := ⟨xtb_5 (List.mem_of_getElem? (i := 28) rfl), by decide +kernel, by decide +kernel, by decide⟩
def mX8_status : XY := (yX8_status, cX8_status, 1, some (.int))
set_option maxRecDepth 20000 in
theorem okX8_status : XOk mX8_status 0 := ⟨xtb_5 (List.mem_of_getElem? (i := 199) rfl), by decide +kernel, by decide +kernel, by decide⟩
def mX8_talk : XY := (yX8_talk, cX8_talk, 7, some (.int))
set_option maxRecDepth 20000 in
theorem okX8_talk : XOk mX8_talk 3 := ⟨xtb_5 (List.mem_of_getElem? (i := 40) rfl), by decide +kernel, by decide +kernel, by decide⟩
def mX8_trace : XY := (yX8_trace, cX8_trace, 2, some (.int))
set_option maxRecDepth 20000 in
theorem okX8_trace : XOk mX8_trace 1 := ⟨xtb_5 (List.mem_of_getElem? (i := 191) rfl), by decide +kernel, by decide +kernel, by decide⟩
def mX8_undo : XY := (yX8_undo, cX8_undo, 2, some (.int))
set_option maxRecDepth 20000 in
theorem okX8_undo : XOk mX8_undo 0 := ⟨xtb_5 (List.mem_of_getElem? (i := 44) rfl), by decide +kernel, by decide +kernel, by decide⟩
def mX8_wanted : XY := (yX8_wanted, cX8_wanted, 6, some (.int))
set_option maxRecDepth 20000 in
theorem okX8_wanted : XOk mX8_wanted 3 := ⟨xtb_5 (List.mem_of_getElem? (i := 95) rfl), by decide +kernel, by decide +kernel, by decide⟩
def mX8_whose : XY := (yX8_whose, cX8_whose, 3, some (.int))
set_option maxRecDepth 20000 in
theorem okX8_whose : XOk mX8_whose 3 := ⟨xtb_5 (List.mem_of_getElem? (i := 105) rfl), by decide +kernel, by decide +kernel, by decide⟩
def mX8_whyNot : XY := (yX8_whyNot, cX8_whyNot, 6, some (.int))
set_option maxRecDepth 20000 in
theorem okX8_whyNot : XOk mX8_whyNot 4 := ⟨xtb_5 (List.mem_of_getElem? (i := 72) rfl), by decide +kernel, by decide +kernel, by decide⟩
set_option maxRecDepth 20000 in
theorem fp_X0_15 : XFP RX0 15 0 1 .int := ⟨RX0, TX0, 2, tyX0, rfl, by decide, xTB_of (xtb_1 (List.mem_of_getElem? (i := 184) rfl)) rfl, xin_X0, rfl, tyX0_ok, nmX0, rfl, rfl⟩
set_option maxRecDepth 20000 in
theorem ml_X0_19 : XLV RX0 19 mX0_asked := ⟨xTB_of (xtb_3 (List.mem_of_getElem? (i := 223) rfl)) rfl, xTB_of (xtb_3 (List.mem_of_getElem? (i := 225) rfl)) rfl, xTB_of (xtb_p (List.mem_of_getElem? (i := 29) rfl)) rfl, xTB_of (xtb_1 (List.mem_of_getElem? (i := 7) rfl)) rfl⟩
set_option maxRecDepth 20000 in
theorem fl_X0_15 : XFL RX0 15 0 1 := ⟨RX0, TX0, 2, rfl, by decide, xTB_of (xtb_1 (List.mem_of_getElem? (i := 184) rfl)) rfl, xin_X0, rfl⟩
set_option maxRecDepth 20000 in
theorem fl_X0_11 : XFL RX0 11 0 0 := ⟨RX0, TX0, 2, rfl, by decide, xTB_of (xtb_1 (List.mem_of_getElem? (i := 183) rfl)) rfl, xin_X0, rfl⟩
set_option maxRecDepth 20000 in
theorem kc_X0_23 : Cond.constant RX0 23 (-1000000) ∈ xTB := xTB_of (xtb_4 (List.mem_of_getElem? (i := 13) rfl)) rfl
set_option maxRecDepth 20000 in
theorem fl_X0_24 : XFL RX0 24 1 6 := ⟨RX1, TX1, 11, rfl, by decide, xTB_of (xtb_1 (List.mem_of_getElem? (i := 71) rfl)) rfl, xin_X1, rfl⟩
set_option maxRecDepth 20000 in
theorem ml_X0_29 : XLV RX0 29 mX0_bodyFor := ⟨xTB_of (xtb_3 (List.mem_of_getElem? (i := 227) rfl)) rfl, xTB_of (xtb_3 (List.mem_of_getElem? (i := 229) rfl)) rfl, xTB_of (xtb_p (List.mem_of_getElem? (i := 30) rfl)) rfl, xTB_of (xtb_1 (List.mem_of_getElem? (i := 7) rfl)) rfl⟩
set_option maxRecDepth 20000 in
theorem ml_X0_33 : XLV RX0 33 mX0_given := ⟨xTB_of (xtb_3 (List.mem_of_getElem? (i := 236) rfl)) rfl, xTB_of (xtb_3 (List.mem_of_getElem? (i := 238) rfl)) rfl, xTB_of (xtb_p (List.mem_of_getElem? (i := 31) rfl)) rfl, xTB_of (xtb_1 (List.mem_of_getElem? (i := 7) rfl)) rfl⟩
set_option maxRecDepth 20000 in
theorem fs_X0_38 : Cond.fieldLink RX0 38 "LieSlides$Bodies" "SIZE_BODIES" "[I" ∈ xTB := xTB_of (xtb_3 (List.mem_of_getElem? (i := 231) rfl)) rfl
set_option maxRecDepth 20000 in
theorem fs_X0_41 : Cond.fieldLink RX0 41 "LieSlides$Bodies" "MARK_BODIES" "[I" ∈ xTB := xTB_of (xtb_3 (List.mem_of_getElem? (i := 233) rfl)) rfl
set_option maxRecDepth 20000 in
theorem ml_X0_44 : XLS RX0 44 mX4_parentOf := ⟨xTB_of (xtb_3 (List.mem_of_getElem? (i := 235) rfl)) rfl, xTB_of (xtb_3 (List.mem_of_getElem? (i := 211) rfl)) rfl, xTB_of (xtb_1 (List.mem_of_getElem? (i := 16) rfl)) rfl⟩
set_option maxRecDepth 20000 in
theorem ml_X0_48 : XLV RX0 48 mX0_leaveTrace := ⟨xTB_of (xtb_4 (List.mem_of_getElem? (i := 0) rfl)) rfl, xTB_of (xtb_4 (List.mem_of_getElem? (i := 2) rfl)) rfl, xTB_of (xtb_p (List.mem_of_getElem? (i := 32) rfl)) rfl, xTB_of (xtb_1 (List.mem_of_getElem? (i := 7) rfl)) rfl⟩
set_option maxRecDepth 20000 in
theorem fl_X0_52 : XFL RX0 52 1 8 := ⟨RX1, TX1, 11, rfl, by decide, xTB_of (xtb_1 (List.mem_of_getElem? (i := 76) rfl)) rfl, xin_X1, rfl⟩
set_option maxRecDepth 20000 in
theorem fl_X0_55 : XFL RX0 55 1 9 := ⟨RX1, TX1, 11, rfl, by decide, xTB_of (xtb_1 (List.mem_of_getElem? (i := 79) rfl)) rfl, xin_X1, rfl⟩
set_option maxRecDepth 20000 in
theorem fl_X0_58 : XFL RX0 58 1 3 := ⟨RX1, TX1, 11, rfl, by decide, xTB_of (xtb_1 (List.mem_of_getElem? (i := 63) rfl)) rfl, xin_X1, rfl⟩
set_option maxRecDepth 20000 in
theorem ml_X0_61 : XLV RX0 61 mX1_xOf := ⟨xTB_of (xtb_4 (List.mem_of_getElem? (i := 4) rfl)) rfl, xTB_of (xtb_2 (List.mem_of_getElem? (i := 187) rfl)) rfl, xTB_of (xtb_2 (List.mem_of_getElem? (i := 188) rfl)) rfl, xTB_of (xtb_1 (List.mem_of_getElem? (i := 4) rfl)) rfl⟩
set_option maxRecDepth 20000 in
theorem fp_X1_9 : XFP RX1 9 1 0 .int := ⟨RX1, TX1, 11, tyX1, rfl, by decide, xTB_of (xtb_1 (List.mem_of_getElem? (i := 54) rfl)) rfl, xin_X1, rfl, tyX1_ok, nmX1, rfl, rfl⟩
set_option maxRecDepth 20000 in
theorem fp_X1_15 : XFP RX1 15 1 1 .int := ⟨RX1, TX1, 11, tyX1, rfl, by decide, xTB_of (xtb_1 (List.mem_of_getElem? (i := 56) rfl)) rfl, xin_X1, rfl, tyX1_ok, nmX1, rfl, rfl⟩
set_option maxRecDepth 20000 in
theorem fp_X1_18 : XFP RX1 18 1 2 .int := ⟨RX1, TX1, 11, tyX1, rfl, by decide, xTB_of (xtb_1 (List.mem_of_getElem? (i := 58) rfl)) rfl, xin_X1, rfl, tyX1_ok, nmX1, rfl, rfl⟩
set_option maxRecDepth 20000 in
theorem fp_X1_21 : XFP RX1 21 1 3 .int := ⟨RX1, TX1, 11, tyX1, rfl, by decide, xTB_of (xtb_1 (List.mem_of_getElem? (i := 61) rfl)) rfl, xin_X1, rfl, tyX1_ok, nmX1, rfl, rfl⟩
set_option maxRecDepth 20000 in
theorem fl_X1_18 : XFL RX1 18 1 2 := ⟨RX1, TX1, 11, rfl, by decide, xTB_of (xtb_1 (List.mem_of_getElem? (i := 58) rfl)) rfl, xin_X1, rfl⟩
set_option maxRecDepth 20000 in
theorem fl_X1_24 : XFL RX1 24 1 4 := ⟨RX1, TX1, 11, rfl, by decide, xTB_of (xtb_1 (List.mem_of_getElem? (i := 66) rfl)) rfl, xin_X1, rfl⟩
set_option maxRecDepth 20000 in
theorem fl_X1_28 : XFL RX1 28 1 5 := ⟨RX1, TX1, 11, rfl, by decide, xTB_of (xtb_1 (List.mem_of_getElem? (i := 68) rfl)) rfl, xin_X1, rfl⟩
set_option maxRecDepth 20000 in
theorem fl_X1_9 : XFL RX1 9 1 0 := ⟨RX1, TX1, 11, rfl, by decide, xTB_of (xtb_1 (List.mem_of_getElem? (i := 54) rfl)) rfl, xin_X1, rfl⟩
set_option maxRecDepth 20000 in
theorem fl_X1_15 : XFL RX1 15 1 1 := ⟨RX1, TX1, 11, rfl, by decide, xTB_of (xtb_1 (List.mem_of_getElem? (i := 56) rfl)) rfl, xin_X1, rfl⟩
set_option maxRecDepth 20000 in
theorem fl_X1_21 : XFL RX1 21 1 3 := ⟨RX1, TX1, 11, rfl, by decide, xTB_of (xtb_1 (List.mem_of_getElem? (i := 61) rfl)) rfl, xin_X1, rfl⟩
set_option maxRecDepth 20000 in
theorem ml_X1_46 : Cond.methodLink RX1 46 arraycopyName ∈ xTB := xTB_of (xtb_2 (List.mem_of_getElem? (i := 207) rfl)) rfl
set_option maxRecDepth 20000 in
theorem kz_arraycopy : Cond.native arraycopyName ∈ xTB ∧ Cond.static arraycopyName ∈ xTB ∧ Cond.initialized "java/lang/System" ∈ xTB := ⟨xTB_of (xtb_2 (List.mem_of_getElem? (i := 31) rfl)) rfl, xTB_of (xtb_2 (List.mem_of_getElem? (i := 30) rfl)) rfl, xTB_of (xtb_1 (List.mem_of_getElem? (i := 9) rfl)) rfl⟩
set_option maxRecDepth 20000 in
theorem fl_X1_31 : XFL RX1 31 1 6 := ⟨RX1, TX1, 11, rfl, by decide, xTB_of (xtb_1 (List.mem_of_getElem? (i := 70) rfl)) rfl, xin_X1, rfl⟩
set_option maxRecDepth 20000 in
theorem fl_X1_34 : XFL RX1 34 1 7 := ⟨RX1, TX1, 11, rfl, by decide, xTB_of (xtb_1 (List.mem_of_getElem? (i := 73) rfl)) rfl, xin_X1, rfl⟩
set_option maxRecDepth 20000 in
theorem fl_X1_37 : XFL RX1 37 1 8 := ⟨RX1, TX1, 11, rfl, by decide, xTB_of (xtb_1 (List.mem_of_getElem? (i := 75) rfl)) rfl, xin_X1, rfl⟩
set_option maxRecDepth 20000 in
theorem fl_X1_40 : XFL RX1 40 1 9 := ⟨RX1, TX1, 11, rfl, by decide, xTB_of (xtb_1 (List.mem_of_getElem? (i := 78) rfl)) rfl, xin_X1, rfl⟩
set_option maxRecDepth 20000 in
theorem fl_X1_43 : XFL RX1 43 1 10 := ⟨RX1, TX1, 11, rfl, by decide, xTB_of (xtb_1 (List.mem_of_getElem? (i := 81) rfl)) rfl, xin_X1, rfl⟩
set_option maxRecDepth 20000 in
theorem ml_X1_52 : XLV RX1 52 mX1_isWall := ⟨xTB_of (xtb_2 (List.mem_of_getElem? (i := 178) rfl)) rfl, xTB_of (xtb_2 (List.mem_of_getElem? (i := 180) rfl)) rfl, xTB_of (xtb_p (List.mem_of_getElem? (i := 15) rfl)) rfl, xTB_of (xtb_1 (List.mem_of_getElem? (i := 4) rfl)) rfl⟩
set_option maxRecDepth 20000 in
theorem ml_X1_56 : XLV RX1 56 mX1_houseAt := ⟨xTB_of (xtb_2 (List.mem_of_getElem? (i := 182) rfl)) rfl, xTB_of (xtb_2 (List.mem_of_getElem? (i := 184) rfl)) rfl, xTB_of (xtb_p (List.mem_of_getElem? (i := 16) rfl)) rfl, xTB_of (xtb_1 (List.mem_of_getElem? (i := 4) rfl)) rfl⟩
set_option maxRecDepth 20000 in
theorem ml_X1_60 : XLV RX1 60 mX1_xOf := ⟨xTB_of (xtb_2 (List.mem_of_getElem? (i := 186) rfl)) rfl, xTB_of (xtb_2 (List.mem_of_getElem? (i := 187) rfl)) rfl, xTB_of (xtb_2 (List.mem_of_getElem? (i := 188) rfl)) rfl, xTB_of (xtb_1 (List.mem_of_getElem? (i := 4) rfl)) rfl⟩
set_option maxRecDepth 20000 in
theorem ml_X1_63 : XLV RX1 63 mX1_eastOf := ⟨xTB_of (xtb_2 (List.mem_of_getElem? (i := 232) rfl)) rfl, xTB_of (xtb_2 (List.mem_of_getElem? (i := 233) rfl)) rfl, xTB_of (xtb_2 (List.mem_of_getElem? (i := 234) rfl)) rfl, xTB_of (xtb_1 (List.mem_of_getElem? (i := 4) rfl)) rfl⟩
set_option maxRecDepth 20000 in
theorem ml_X1_66 : XLV RX1 66 mX1_isPath := ⟨xTB_of (xtb_3 (List.mem_of_getElem? (i := 77) rfl)) rfl, xTB_of (xtb_3 (List.mem_of_getElem? (i := 79) rfl)) rfl, xTB_of (xtb_p (List.mem_of_getElem? (i := 24) rfl)) rfl, xTB_of (xtb_1 (List.mem_of_getElem? (i := 4) rfl)) rfl⟩
set_option maxRecDepth 20000 in
theorem ml_X1_69 : XLV RX1 69 mX1_isDrowned := ⟨xTB_of (xtb_3 (List.mem_of_getElem? (i := 89) rfl)) rfl, xTB_of (xtb_2 (List.mem_of_getElem? (i := 229) rfl)) rfl, xTB_of (xtb_2 (List.mem_of_getElem? (i := 230) rfl)) rfl, xTB_of (xtb_1 (List.mem_of_getElem? (i := 4) rfl)) rfl⟩
set_option maxRecDepth 20000 in
theorem ml_X1_72 : XLV RX1 72 mX1_rentOf := ⟨xTB_of (xtb_4 (List.mem_of_getElem? (i := 35) rfl)) rfl, xTB_of (xtb_3 (List.mem_of_getElem? (i := 86) rfl)) rfl, xTB_of (xtb_3 (List.mem_of_getElem? (i := 87) rfl)) rfl, xTB_of (xtb_1 (List.mem_of_getElem? (i := 4) rfl)) rfl⟩
set_option maxRecDepth 20000 in
theorem ml_X1_76 : XLS RX1 76 mJ6_bitCount_0f7a4 := ⟨xTB_of (xtb_4 (List.mem_of_getElem? (i := 26) rfl)) rfl, xTB_of (xtb_3 (List.mem_of_getElem? (i := 146) rfl)) rfl, xTB_of (xtb_1 (List.mem_of_getElem? (i := 15) rfl)) rfl⟩
set_option maxRecDepth 20000 in
theorem ml_X1_81 : XLV RX1 81 mX1_isStopped := ⟨xTB_of (xtb_3 (List.mem_of_getElem? (i := 9) rfl)) rfl, xTB_of (xtb_3 (List.mem_of_getElem? (i := 11) rfl)) rfl, xTB_of (xtb_p (List.mem_of_getElem? (i := 18) rfl)) rfl, xTB_of (xtb_1 (List.mem_of_getElem? (i := 4) rfl)) rfl⟩
set_option maxRecDepth 20000 in
theorem ml_X1_84 : XLV RX1 84 mX1_pushedBy := ⟨xTB_of (xtb_3 (List.mem_of_getElem? (i := 13) rfl)) rfl, xTB_of (xtb_3 (List.mem_of_getElem? (i := 15) rfl)) rfl, xTB_of (xtb_p (List.mem_of_getElem? (i := 19) rfl)) rfl, xTB_of (xtb_1 (List.mem_of_getElem? (i := 4) rfl)) rfl⟩
set_option maxRecDepth 20000 in
theorem ml_X1_87 : XLV RX1 87 mX1_hasColumn := ⟨xTB_of (xtb_3 (List.mem_of_getElem? (i := 17) rfl)) rfl, xTB_of (xtb_3 (List.mem_of_getElem? (i := 19) rfl)) rfl, xTB_of (xtb_p (List.mem_of_getElem? (i := 20) rfl)) rfl, xTB_of (xtb_1 (List.mem_of_getElem? (i := 4) rfl)) rfl⟩
set_option maxRecDepth 20000 in
theorem ml_X1_91 : XLV RX1 91 mX1_shareRow := ⟨xTB_of (xtb_3 (List.mem_of_getElem? (i := 21) rfl)) rfl, xTB_of (xtb_3 (List.mem_of_getElem? (i := 23) rfl)) rfl, xTB_of (xtb_p (List.mem_of_getElem? (i := 21) rfl)) rfl, xTB_of (xtb_1 (List.mem_of_getElem? (i := 4) rfl)) rfl⟩
set_option maxRecDepth 20000 in
theorem fp_X2_18 : XFP RX2 18 2 2 .int := ⟨RX2, TX2, 4, tyX2, rfl, by decide, xTB_of (xtb_1 (List.mem_of_getElem? (i := 166) rfl)) rfl, xin_X2, rfl, tyX2_ok, nmX2, rfl, rfl⟩
set_option maxRecDepth 20000 in
theorem fl_X2_11 : XFL RX2 11 2 0 := ⟨RX2, TX2, 4, rfl, by decide, xTB_of (xtb_1 (List.mem_of_getElem? (i := 164) rfl)) rfl, xin_X2, rfl⟩
set_option maxRecDepth 20000 in
theorem ml_X2_25 : XLV RX2 25 mX1_slidBy := ⟨xTB_of (xtb_3 (List.mem_of_getElem? (i := 118) rfl)) rfl, xTB_of (xtb_3 (List.mem_of_getElem? (i := 6) rfl)) rfl, xTB_of (xtb_3 (List.mem_of_getElem? (i := 7) rfl)) rfl, xTB_of (xtb_1 (List.mem_of_getElem? (i := 4) rfl)) rfl⟩
set_option maxRecDepth 20000 in
theorem ml_X2_31 : XLV RX2 31 mX1_afterSlide := ⟨xTB_of (xtb_3 (List.mem_of_getElem? (i := 119) rfl)) rfl, xTB_of (xtb_3 (List.mem_of_getElem? (i := 33) rfl)) rfl, xTB_of (xtb_3 (List.mem_of_getElem? (i := 34) rfl)) rfl, xTB_of (xtb_1 (List.mem_of_getElem? (i := 4) rfl)) rfl⟩
set_option maxRecDepth 20000 in
theorem fl_X2_15 : XFL RX2 15 2 1 := ⟨RX2, TX2, 4, rfl, by decide, xTB_of (xtb_1 (List.mem_of_getElem? (i := 165) rfl)) rfl, xin_X2, rfl⟩
set_option maxRecDepth 20000 in
theorem fl_X2_18 : XFL RX2 18 2 2 := ⟨RX2, TX2, 4, rfl, by decide, xTB_of (xtb_1 (List.mem_of_getElem? (i := 166) rfl)) rfl, xin_X2, rfl⟩
set_option maxRecDepth 20000 in
theorem kc_X2_34 : Cond.constant RX2 34 (-1000000) ∈ xTB := xTB_of (xtb_3 (List.mem_of_getElem? (i := 136) rfl)) rfl
set_option maxRecDepth 20000 in
theorem ml_X2_35 : XLS RX2 35 mJ6_bitCount_0f7a4 := ⟨xTB_of (xtb_3 (List.mem_of_getElem? (i := 145) rfl)) rfl, xTB_of (xtb_3 (List.mem_of_getElem? (i := 146) rfl)) rfl, xTB_of (xtb_1 (List.mem_of_getElem? (i := 15) rfl)) rfl⟩
set_option maxRecDepth 20000 in
theorem ml_X2_41 : Cond.methodLink RX2 41 Lib.Math.max.name ∈ xTB := xTB_of (xtb_3 (List.mem_of_getElem? (i := 159) rfl)) rfl
set_option maxRecDepth 20000 in
theorem kz_max : Cond.static Lib.Math.max.name ∈ xTB ∧ Cond.initialized "java/lang/Math" ∈ xTB ∧ Cond.code Lib.Math.max.name Lib.Math.max.code 2 (some .int) ∈ lw_tbl := ⟨xTB_of (xtb_3 (List.mem_of_getElem? (i := 160) rfl)) rfl, xTB_of (xtb_1 (List.mem_of_getElem? (i := 14) rfl)) rfl, xtb_3 (List.mem_of_getElem? (i := 161) rfl)⟩
set_option maxRecDepth 20000 in
theorem fl_X2_46 : XFL RX2 46 1 3 := ⟨RX1, TX1, 11, rfl, by decide, xTB_of (xtb_1 (List.mem_of_getElem? (i := 65) rfl)) rfl, xin_X1, rfl⟩
set_option maxRecDepth 20000 in
theorem ml_X2_49 : XLV RX2 49 mX2_canReach := ⟨xTB_of (xtb_3 (List.mem_of_getElem? (i := 170) rfl)) rfl, xTB_of (xtb_3 (List.mem_of_getElem? (i := 172) rfl)) rfl, xTB_of (xtb_p (List.mem_of_getElem? (i := 28) rfl)) rfl, xTB_of (xtb_1 (List.mem_of_getElem? (i := 6) rfl)) rfl⟩
set_option maxRecDepth 20000 in
theorem ml_X2_53 : XLV RX2 53 mX1_xOf := ⟨xTB_of (xtb_3 (List.mem_of_getElem? (i := 174) rfl)) rfl, xTB_of (xtb_2 (List.mem_of_getElem? (i := 187) rfl)) rfl, xTB_of (xtb_2 (List.mem_of_getElem? (i := 188) rfl)) rfl, xTB_of (xtb_1 (List.mem_of_getElem? (i := 4) rfl)) rfl⟩
set_option maxRecDepth 20000 in
theorem fl_X2_56 : XFL RX2 56 1 2 := ⟨RX1, TX1, 11, rfl, by decide, xTB_of (xtb_1 (List.mem_of_getElem? (i := 60) rfl)) rfl, xin_X1, rfl⟩
set_option maxRecDepth 20000 in
theorem ml_X2_59 : XLV RX2 59 mX1_isDrowned := ⟨xTB_of (xtb_3 (List.mem_of_getElem? (i := 175) rfl)) rfl, xTB_of (xtb_2 (List.mem_of_getElem? (i := 229) rfl)) rfl, xTB_of (xtb_2 (List.mem_of_getElem? (i := 230) rfl)) rfl, xTB_of (xtb_1 (List.mem_of_getElem? (i := 4) rfl)) rfl⟩
set_option maxRecDepth 20000 in
theorem fl_X2_22 : XFL RX2 22 2 3 := ⟨RX2, TX2, 4, rfl, by decide, xTB_of (xtb_1 (List.mem_of_getElem? (i := 167) rfl)) rfl, xin_X2, rfl⟩
set_option maxRecDepth 20000 in
theorem fp_X3_16 : XFP RX3 16 3 2 .int := ⟨RX3, TX3, 4, tyX3, rfl, by decide, xTB_of (xtb_1 (List.mem_of_getElem? (i := 147) rfl)) rfl, xin_X3, rfl, tyX3_ok, nmX3, rfl, rfl⟩
set_option maxRecDepth 20000 in
theorem fp_X3_20 : XFP RX3 20 3 3 .int := ⟨RX3, TX3, 4, tyX3, rfl, by decide, xTB_of (xtb_1 (List.mem_of_getElem? (i := 148) rfl)) rfl, xin_X3, rfl, tyX3_ok, nmX3, rfl, rfl⟩
set_option maxRecDepth 20000 in
theorem fl_X3_20 : XFL RX3 20 3 3 := ⟨RX3, TX3, 4, rfl, by decide, xTB_of (xtb_1 (List.mem_of_getElem? (i := 148) rfl)) rfl, xin_X3, rfl⟩
set_option maxRecDepth 20000 in
theorem fl_X3_9 : XFL RX3 9 3 0 := ⟨RX3, TX3, 4, rfl, by decide, xTB_of (xtb_1 (List.mem_of_getElem? (i := 145) rfl)) rfl, xin_X3, rfl⟩
set_option maxRecDepth 20000 in
theorem fl_X3_16 : XFL RX3 16 3 2 := ⟨RX3, TX3, 4, rfl, by decide, xTB_of (xtb_1 (List.mem_of_getElem? (i := 147) rfl)) rfl, xin_X3, rfl⟩
set_option maxRecDepth 20000 in
theorem fl_X3_13 : XFL RX3 13 3 1 := ⟨RX3, TX3, 4, rfl, by decide, xTB_of (xtb_1 (List.mem_of_getElem? (i := 146) rfl)) rfl, xin_X3, rfl⟩
set_option maxRecDepth 20000 in
theorem ml_X3_23 : Cond.methodLink RX3 23 Lib.Math.min.name ∈ xTB := xTB_of (xtb_3 (List.mem_of_getElem? (i := 29) rfl)) rfl
set_option maxRecDepth 20000 in
theorem kz_min : Cond.static Lib.Math.min.name ∈ xTB ∧ Cond.initialized "java/lang/Math" ∈ xTB ∧ Cond.code Lib.Math.min.name Lib.Math.min.code 2 (some .int) ∈ lw_tbl := ⟨xTB_of (xtb_3 (List.mem_of_getElem? (i := 30) rfl)) rfl, xTB_of (xtb_1 (List.mem_of_getElem? (i := 14) rfl)) rfl, xtb_3 (List.mem_of_getElem? (i := 31) rfl)⟩
set_option maxRecDepth 20000 in
theorem fp_X3_29 : XFP RX3 29 1 3 .int := ⟨RX1, TX1, 11, tyX1, rfl, by decide, xTB_of (xtb_1 (List.mem_of_getElem? (i := 62) rfl)) rfl, xin_X1, rfl, tyX1_ok, nmX1, rfl, rfl⟩
set_option maxRecDepth 20000 in
theorem fl_X3_34 : XFL RX3 34 1 10 := ⟨RX1, TX1, 11, rfl, by decide, xTB_of (xtb_1 (List.mem_of_getElem? (i := 82) rfl)) rfl, xin_X1, rfl⟩
set_option maxRecDepth 20000 in
theorem fs_X4_9 : Cond.fieldLink RX4 9 "LieSlides$Kinds" "PARENTS" "[I" ∈ xTB := xTB_of (xtb_3 (List.mem_of_getElem? (i := 213) rfl)) rfl
set_option maxRecDepth 20000 in
theorem ml_X4_13 : XLS RX4 13 mX4_parentOf := ⟨xTB_of (xtb_3 (List.mem_of_getElem? (i := 210) rfl)) rfl, xTB_of (xtb_3 (List.mem_of_getElem? (i := 211) rfl)) rfl, xTB_of (xtb_1 (List.mem_of_getElem? (i := 16) rfl)) rfl⟩
set_option maxRecDepth 20000 in
theorem fp_X5_15 : XFP RX5 15 4 1 .int := ⟨RX5, TX5, 9, tyX5, rfl, by decide, xTB_of (xtb_1 (List.mem_of_getElem? (i := 109) rfl)) rfl, xin_X5, rfl, tyX5_ok, nmX5, rfl, rfl⟩
set_option maxRecDepth 20000 in
theorem fp_X5_26 : XFP RX5 26 4 3 .int := ⟨RX5, TX5, 9, tyX5, rfl, by decide, xTB_of (xtb_1 (List.mem_of_getElem? (i := 111) rfl)) rfl, xin_X5, rfl, tyX5_ok, nmX5, rfl, rfl⟩
set_option maxRecDepth 20000 in
theorem fp_X5_29 : XFP RX5 29 4 4 .int := ⟨RX5, TX5, 9, tyX5, rfl, by decide, xTB_of (xtb_1 (List.mem_of_getElem? (i := 112) rfl)) rfl, xin_X5, rfl, tyX5_ok, nmX5, rfl, rfl⟩
set_option maxRecDepth 20000 in
theorem fp_X5_32 : XFP RX5 32 4 5 .int := ⟨RX5, TX5, 9, tyX5, rfl, by decide, xTB_of (xtb_1 (List.mem_of_getElem? (i := 113) rfl)) rfl, xin_X5, rfl, tyX5_ok, nmX5, rfl, rfl⟩
set_option maxRecDepth 20000 in
theorem fp_X5_35 : XFP RX5 35 4 6 .int := ⟨RX5, TX5, 9, tyX5, rfl, by decide, xTB_of (xtb_1 (List.mem_of_getElem? (i := 114) rfl)) rfl, xin_X5, rfl, tyX5_ok, nmX5, rfl, rfl⟩
set_option maxRecDepth 20000 in
theorem fp_X5_38 : XFP RX5 38 4 7 .int := ⟨RX5, TX5, 9, tyX5, rfl, by decide, xTB_of (xtb_1 (List.mem_of_getElem? (i := 115) rfl)) rfl, xin_X5, rfl, tyX5_ok, nmX5, rfl, rfl⟩
set_option maxRecDepth 20000 in
theorem fp_X5_41 : XFP RX5 41 4 8 .int := ⟨RX5, TX5, 9, tyX5, rfl, by decide, xTB_of (xtb_1 (List.mem_of_getElem? (i := 116) rfl)) rfl, xin_X5, rfl, tyX5_ok, nmX5, rfl, rfl⟩
set_option maxRecDepth 20000 in
theorem fl_X5_15 : XFL RX5 15 4 1 := ⟨RX5, TX5, 9, rfl, by decide, xTB_of (xtb_1 (List.mem_of_getElem? (i := 109) rfl)) rfl, xin_X5, rfl⟩
set_option maxRecDepth 20000 in
theorem fl_X5_26 : XFL RX5 26 4 3 := ⟨RX5, TX5, 9, rfl, by decide, xTB_of (xtb_1 (List.mem_of_getElem? (i := 111) rfl)) rfl, xin_X5, rfl⟩
set_option maxRecDepth 20000 in
theorem fl_X5_29 : XFL RX5 29 4 4 := ⟨RX5, TX5, 9, rfl, by decide, xTB_of (xtb_1 (List.mem_of_getElem? (i := 112) rfl)) rfl, xin_X5, rfl⟩
set_option maxRecDepth 20000 in
theorem fl_X5_22 : XFL RX5 22 4 2 := ⟨RX5, TX5, 9, rfl, by decide, xTB_of (xtb_1 (List.mem_of_getElem? (i := 110) rfl)) rfl, xin_X5, rfl⟩
set_option maxRecDepth 20000 in
theorem fl_X5_11 : XFL RX5 11 4 0 := ⟨RX5, TX5, 9, rfl, by decide, xTB_of (xtb_1 (List.mem_of_getElem? (i := 108) rfl)) rfl, xin_X5, rfl⟩
set_option maxRecDepth 20000 in
theorem ml_X5_44 : XLV RX5 44 mX1_clear := ⟨xTB_of (xtb_2 (List.mem_of_getElem? (i := 61) rfl)) rfl, xTB_of (xtb_2 (List.mem_of_getElem? (i := 62) rfl)) rfl, xTB_of (xtb_2 (List.mem_of_getElem? (i := 63) rfl)) rfl, xTB_of (xtb_1 (List.mem_of_getElem? (i := 4) rfl)) rfl⟩
set_option maxRecDepth 20000 in
theorem ml_X5_47 : XLV RX5 47 mX5_takeToken := ⟨xTB_of (xtb_2 (List.mem_of_getElem? (i := 65) rfl)) rfl, xTB_of (xtb_2 (List.mem_of_getElem? (i := 67) rfl)) rfl, xTB_of (xtb_p (List.mem_of_getElem? (i := 2) rfl)) rfl, xTB_of (xtb_1 (List.mem_of_getElem? (i := 3) rfl)) rfl⟩
set_option maxRecDepth 20000 in
theorem ml_X5_50 : XLV RX5 50 mX5_readFacts := ⟨xTB_of (xtb_2 (List.mem_of_getElem? (i := 77) rfl)) rfl, xTB_of (xtb_2 (List.mem_of_getElem? (i := 79) rfl)) rfl, xTB_of (xtb_p (List.mem_of_getElem? (i := 5) rfl)) rfl, xTB_of (xtb_1 (List.mem_of_getElem? (i := 3) rfl)) rfl⟩
set_option maxRecDepth 20000 in
theorem ml_X5_54 : XLV RX5 54 mX5_readWalls := ⟨xTB_of (xtb_2 (List.mem_of_getElem? (i := 146) rfl)) rfl, xTB_of (xtb_2 (List.mem_of_getElem? (i := 148) rfl)) rfl, xTB_of (xtb_p (List.mem_of_getElem? (i := 10) rfl)) rfl, xTB_of (xtb_1 (List.mem_of_getElem? (i := 3) rfl)) rfl⟩
set_option maxRecDepth 20000 in
theorem ml_X5_57 : XLV RX5 57 mX5_readPaths := ⟨xTB_of (xtb_2 (List.mem_of_getElem? (i := 151) rfl)) rfl, xTB_of (xtb_2 (List.mem_of_getElem? (i := 153) rfl)) rfl, xTB_of (xtb_p (List.mem_of_getElem? (i := 11) rfl)) rfl, xTB_of (xtb_1 (List.mem_of_getElem? (i := 3) rfl)) rfl⟩
set_option maxRecDepth 20000 in
theorem ml_X5_60 : XLV RX5 60 mX5_readHouses := ⟨xTB_of (xtb_2 (List.mem_of_getElem? (i := 156) rfl)) rfl, xTB_of (xtb_2 (List.mem_of_getElem? (i := 158) rfl)) rfl, xTB_of (xtb_p (List.mem_of_getElem? (i := 12) rfl)) rfl, xTB_of (xtb_1 (List.mem_of_getElem? (i := 3) rfl)) rfl⟩
set_option maxRecDepth 20000 in
theorem ml_X5_65 : XLV RX5 65 mX5_isWord := ⟨xTB_of (xtb_2 (List.mem_of_getElem? (i := 82) rfl)) rfl, xTB_of (xtb_2 (List.mem_of_getElem? (i := 84) rfl)) rfl, xTB_of (xtb_p (List.mem_of_getElem? (i := 6) rfl)) rfl, xTB_of (xtb_1 (List.mem_of_getElem? (i := 3) rfl)) rfl⟩
set_option maxRecDepth 20000 in
theorem ml_X5_69 : XLV RX5 69 mX5_failWith := ⟨xTB_of (xtb_2 (List.mem_of_getElem? (i := 134) rfl)) rfl, xTB_of (xtb_2 (List.mem_of_getElem? (i := 136) rfl)) rfl, xTB_of (xtb_p (List.mem_of_getElem? (i := 7) rfl)) rfl, xTB_of (xtb_1 (List.mem_of_getElem? (i := 3) rfl)) rfl⟩
set_option maxRecDepth 20000 in
theorem ml_X5_73 : XLV RX5 73 mX5_takeNumber := ⟨xTB_of (xtb_2 (List.mem_of_getElem? (i := 138) rfl)) rfl, xTB_of (xtb_2 (List.mem_of_getElem? (i := 140) rfl)) rfl, xTB_of (xtb_p (List.mem_of_getElem? (i := 8) rfl)) rfl, xTB_of (xtb_1 (List.mem_of_getElem? (i := 3) rfl)) rfl⟩
set_option maxRecDepth 20000 in
theorem fl_X5_41 : XFL RX5 41 4 8 := ⟨RX5, TX5, 9, rfl, by decide, xTB_of (xtb_1 (List.mem_of_getElem? (i := 116) rfl)) rfl, xin_X5, rfl⟩
set_option maxRecDepth 20000 in
theorem fp_X5_77 : XFP RX5 77 1 0 .int := ⟨RX1, TX1, 11, tyX1, rfl, by decide, xTB_of (xtb_1 (List.mem_of_getElem? (i := 55) rfl)) rfl, xin_X1, rfl, tyX1_ok, nmX1, rfl, rfl⟩
set_option maxRecDepth 20000 in
theorem fp_X5_80 : XFP RX5 80 1 1 .int := ⟨RX1, TX1, 11, tyX1, rfl, by decide, xTB_of (xtb_1 (List.mem_of_getElem? (i := 57) rfl)) rfl, xin_X1, rfl, tyX1_ok, nmX1, rfl, rfl⟩
set_option maxRecDepth 20000 in
theorem ml_X5_83 : XLV RX5 83 mX5_takeSemicolon := ⟨xTB_of (xtb_2 (List.mem_of_getElem? (i := 142) rfl)) rfl, xTB_of (xtb_2 (List.mem_of_getElem? (i := 144) rfl)) rfl, xTB_of (xtb_p (List.mem_of_getElem? (i := 9) rfl)) rfl, xTB_of (xtb_1 (List.mem_of_getElem? (i := 3) rfl)) rfl⟩
set_option maxRecDepth 20000 in
theorem fl_X5_88 : XFL RX5 88 1 4 := ⟨RX1, TX1, 11, rfl, by decide, xTB_of (xtb_1 (List.mem_of_getElem? (i := 67) rfl)) rfl, xin_X1, rfl⟩
set_option maxRecDepth 20000 in
theorem fl_X5_94 : XFL RX5 94 1 5 := ⟨RX1, TX1, 11, rfl, by decide, xTB_of (xtb_1 (List.mem_of_getElem? (i := 69) rfl)) rfl, xin_X1, rfl⟩
set_option maxRecDepth 20000 in
theorem ml_X5_99 : XLV RX5 99 mX5_readHouse := ⟨xTB_of (xtb_2 (List.mem_of_getElem? (i := 161) rfl)) rfl, xTB_of (xtb_2 (List.mem_of_getElem? (i := 163) rfl)) rfl, xTB_of (xtb_p (List.mem_of_getElem? (i := 13) rfl)) rfl, xTB_of (xtb_1 (List.mem_of_getElem? (i := 3) rfl)) rfl⟩
set_option maxRecDepth 20000 in
theorem fl_X5_38 : XFL RX5 38 4 7 := ⟨RX5, TX5, 9, rfl, by decide, xTB_of (xtb_1 (List.mem_of_getElem? (i := 115) rfl)) rfl, xin_X5, rfl⟩
set_option maxRecDepth 20000 in
theorem ml_X5_102 : XLV RX5 102 mX5_kindOfWord := ⟨xTB_of (xtb_2 (List.mem_of_getElem? (i := 165) rfl)) rfl, xTB_of (xtb_2 (List.mem_of_getElem? (i := 167) rfl)) rfl, xTB_of (xtb_p (List.mem_of_getElem? (i := 14) rfl)) rfl, xTB_of (xtb_1 (List.mem_of_getElem? (i := 3) rfl)) rfl⟩
set_option maxRecDepth 20000 in
theorem ml_X5_106 : XLV RX5 106 mX1_hasRoomFor := ⟨xTB_of (xtb_2 (List.mem_of_getElem? (i := 174) rfl)) rfl, xTB_of (xtb_2 (List.mem_of_getElem? (i := 175) rfl)) rfl, xTB_of (xtb_2 (List.mem_of_getElem? (i := 176) rfl)) rfl, xTB_of (xtb_1 (List.mem_of_getElem? (i := 4) rfl)) rfl⟩
set_option maxRecDepth 20000 in
theorem ml_X5_110 : XLV RX5 110 mX1_addHouse := ⟨xTB_of (xtb_2 (List.mem_of_getElem? (i := 190) rfl)) rfl, xTB_of (xtb_2 (List.mem_of_getElem? (i := 191) rfl)) rfl, xTB_of (xtb_2 (List.mem_of_getElem? (i := 192) rfl)) rfl, xTB_of (xtb_1 (List.mem_of_getElem? (i := 4) rfl)) rfl⟩
set_option maxRecDepth 20000 in
theorem fl_X5_32 : XFL RX5 32 4 5 := ⟨RX5, TX5, 9, rfl, by decide, xTB_of (xtb_1 (List.mem_of_getElem? (i := 113) rfl)) rfl, xin_X5, rfl⟩
set_option maxRecDepth 20000 in
theorem fl_X5_35 : XFL RX5 35 4 6 := ⟨RX5, TX5, 9, rfl, by decide, xTB_of (xtb_1 (List.mem_of_getElem? (i := 114) rfl)) rfl, xin_X5, rfl⟩
set_option maxRecDepth 20000 in
theorem ml_X5_126 : XLV RX5 126 mJ0_length_8abf5 := ⟨xTB_of (xtb_2 (List.mem_of_getElem? (i := 86) rfl)) rfl, xTB_of (xtb_2 (List.mem_of_getElem? (i := 87) rfl)) rfl, xTB_of (xtb_2 (List.mem_of_getElem? (i := 88) rfl)) rfl, xTB_of (xtb_1 (List.mem_of_getElem? (i := 10) rfl)) rfl⟩
set_option maxRecDepth 20000 in
theorem ml_X5_131 : XLV RX5 131 mJ0_charAt_5068e := ⟨xTB_of (xtb_2 (List.mem_of_getElem? (i := 96) rfl)) rfl, xTB_of (xtb_2 (List.mem_of_getElem? (i := 97) rfl)) rfl, xTB_of (xtb_2 (List.mem_of_getElem? (i := 98) rfl)) rfl, xTB_of (xtb_1 (List.mem_of_getElem? (i := 10) rfl)) rfl⟩
set_option maxRecDepth 20000 in
theorem ml_X5_135 : XLV RX5 135 mX5_endOfRun := ⟨xTB_of (xtb_2 (List.mem_of_getElem? (i := 69) rfl)) rfl, xTB_of (xtb_2 (List.mem_of_getElem? (i := 71) rfl)) rfl, xTB_of (xtb_p (List.mem_of_getElem? (i := 3) rfl)) rfl, xTB_of (xtb_1 (List.mem_of_getElem? (i := 3) rfl)) rfl⟩
set_option maxRecDepth 20000 in
theorem ml_X5_139 : XLV RX5 139 mX5_valueOfFigures := ⟨xTB_of (xtb_2 (List.mem_of_getElem? (i := 73) rfl)) rfl, xTB_of (xtb_2 (List.mem_of_getElem? (i := 75) rfl)) rfl, xTB_of (xtb_p (List.mem_of_getElem? (i := 4) rfl)) rfl, xTB_of (xtb_1 (List.mem_of_getElem? (i := 3) rfl)) rfl⟩
set_option maxRecDepth 20000 in
theorem fl_X6_9 : XFL RX6 9 5 0 := ⟨RX6, TX6, 3, rfl, by decide, xTB_of (xtb_1 (List.mem_of_getElem? (i := 31) rfl)) rfl, xin_X6, rfl⟩
set_option maxRecDepth 20000 in
theorem fl_X6_16 : XFL RX6 16 5 2 := ⟨RX6, TX6, 3, rfl, by decide, xTB_of (xtb_1 (List.mem_of_getElem? (i := 33) rfl)) rfl, xin_X6, rfl⟩
set_option maxRecDepth 20000 in
theorem fl_X6_13 : XFL RX6 13 5 1 := ⟨RX6, TX6, 3, rfl, by decide, xTB_of (xtb_1 (List.mem_of_getElem? (i := 32) rfl)) rfl, xin_X6, rfl⟩
set_option maxRecDepth 20000 in
theorem ml_X6_19 : Cond.methodLink RX6 19 arraycopyName ∈ xTB := xTB_of (xtb_2 (List.mem_of_getElem? (i := 29) rfl)) rfl
set_option maxRecDepth 20000 in
theorem fp_X7_55 : XFP RX7 55 6 7 .int := ⟨RX7, TX7, 8, tyX7, rfl, by decide, xTB_of (xtb_1 (List.mem_of_getElem? (i := 197) rfl)) rfl, xin_X7, rfl, tyX7_ok, nmX7, rfl, rfl⟩
set_option maxRecDepth 20000 in
theorem fl_X7_10 : XFL RX7 10 6 0 := ⟨RX7, TX7, 8, rfl, by decide, xTB_of (xtb_1 (List.mem_of_getElem? (i := 190) rfl)) rfl, xin_X7, rfl⟩
set_option maxRecDepth 20000 in
theorem ml_X7_59 : XLV RX7 59 mX6_isNumber := ⟨xTB_of (xtb_1 (List.mem_of_getElem? (i := 219) rfl)) rfl, xTB_of (xtb_1 (List.mem_of_getElem? (i := 220) rfl)) rfl, xTB_of (xtb_1 (List.mem_of_getElem? (i := 221) rfl)) rfl, xTB_of (xtb_1 (List.mem_of_getElem? (i := 2) rfl)) rfl⟩
set_option maxRecDepth 20000 in
theorem ml_X7_63 : XLV RX7 63 mX6_isLane := ⟨xTB_of (xtb_1 (List.mem_of_getElem? (i := 223) rfl)) rfl, xTB_of (xtb_1 (List.mem_of_getElem? (i := 224) rfl)) rfl, xTB_of (xtb_1 (List.mem_of_getElem? (i := 225) rfl)) rfl, xTB_of (xtb_1 (List.mem_of_getElem? (i := 2) rfl)) rfl⟩
set_option maxRecDepth 20000 in
theorem kc_X7_66 : Cond.constant RX7 66 (-1000001) ∈ xTB := xTB_of (xtb_1 (List.mem_of_getElem? (i := 227) rfl)) rfl
set_option maxRecDepth 20000 in
theorem ml_X7_67 : XLV RX7 67 mX7_found := ⟨xTB_of (xtb_1 (List.mem_of_getElem? (i := 228) rfl)) rfl, xTB_of (xtb_1 (List.mem_of_getElem? (i := 230) rfl)) rfl, xTB_of (xtb_p (List.mem_of_getElem? (i := 0) rfl)) rfl, xTB_of (xtb_1 (List.mem_of_getElem? (i := 1) rfl)) rfl⟩
set_option maxRecDepth 20000 in
theorem ml_X7_71 : XLV RX7 71 mX6_make := ⟨xTB_of (xtb_1 (List.mem_of_getElem? (i := 233) rfl)) rfl, xTB_of (xtb_1 (List.mem_of_getElem? (i := 234) rfl)) rfl, xTB_of (xtb_1 (List.mem_of_getElem? (i := 235) rfl)) rfl, xTB_of (xtb_1 (List.mem_of_getElem? (i := 2) rfl)) rfl⟩
set_option maxRecDepth 20000 in
theorem ml_X7_75 : XLV RX7 75 mX7_answered := ⟨xTB_of (xtb_1 (List.mem_of_getElem? (i := 237) rfl)) rfl, xTB_of (xtb_1 (List.mem_of_getElem? (i := 239) rfl)) rfl, xTB_of (xtb_p (List.mem_of_getElem? (i := 1) rfl)) rfl, xTB_of (xtb_1 (List.mem_of_getElem? (i := 1) rfl)) rfl⟩
set_option maxRecDepth 20000 in
theorem ml_X7_78 : XLV RX7 78 mX6_isMissing := ⟨xTB_of (xtb_2 (List.mem_of_getElem? (i := 5) rfl)) rfl, xTB_of (xtb_2 (List.mem_of_getElem? (i := 6) rfl)) rfl, xTB_of (xtb_2 (List.mem_of_getElem? (i := 7) rfl)) rfl, xTB_of (xtb_1 (List.mem_of_getElem? (i := 2) rfl)) rfl⟩
set_option maxRecDepth 20000 in
theorem ml_X7_81 : XLV RX7 81 mX6_hasPlaces := ⟨xTB_of (xtb_2 (List.mem_of_getElem? (i := 9) rfl)) rfl, xTB_of (xtb_2 (List.mem_of_getElem? (i := 10) rfl)) rfl, xTB_of (xtb_2 (List.mem_of_getElem? (i := 11) rfl)) rfl, xTB_of (xtb_1 (List.mem_of_getElem? (i := 2) rfl)) rfl⟩
set_option maxRecDepth 20000 in
theorem ml_X7_85 : XLV RX7 85 mX6_put := ⟨xTB_of (xtb_2 (List.mem_of_getElem? (i := 13) rfl)) rfl, xTB_of (xtb_2 (List.mem_of_getElem? (i := 14) rfl)) rfl, xTB_of (xtb_2 (List.mem_of_getElem? (i := 15) rfl)) rfl, xTB_of (xtb_1 (List.mem_of_getElem? (i := 2) rfl)) rfl⟩
set_option maxRecDepth 20000 in
theorem ml_X7_89 : XLV RX7 89 mX6_laneOf := ⟨xTB_of (xtb_2 (List.mem_of_getElem? (i := 21) rfl)) rfl, xTB_of (xtb_2 (List.mem_of_getElem? (i := 22) rfl)) rfl, xTB_of (xtb_2 (List.mem_of_getElem? (i := 23) rfl)) rfl, xTB_of (xtb_1 (List.mem_of_getElem? (i := 2) rfl)) rfl⟩
set_option maxRecDepth 20000 in
theorem ml_X7_92 : XLV RX7 92 mX6_move := ⟨xTB_of (xtb_2 (List.mem_of_getElem? (i := 25) rfl)) rfl, xTB_of (xtb_2 (List.mem_of_getElem? (i := 26) rfl)) rfl, xTB_of (xtb_2 (List.mem_of_getElem? (i := 27) rfl)) rfl, xTB_of (xtb_1 (List.mem_of_getElem? (i := 2) rfl)) rfl⟩
set_option maxRecDepth 20000 in
theorem ml_X7_96 : XLV RX7 96 mX6_remove := ⟨xTB_of (xtb_2 (List.mem_of_getElem? (i := 36) rfl)) rfl, xTB_of (xtb_2 (List.mem_of_getElem? (i := 37) rfl)) rfl, xTB_of (xtb_2 (List.mem_of_getElem? (i := 38) rfl)) rfl, xTB_of (xtb_1 (List.mem_of_getElem? (i := 2) rfl)) rfl⟩
set_option maxRecDepth 20000 in
theorem fl_X7_19 : XFL RX7 19 6 1 := ⟨RX7, TX7, 8, rfl, by decide, xTB_of (xtb_1 (List.mem_of_getElem? (i := 191) rfl)) rfl, xin_X7, rfl⟩
set_option maxRecDepth 20000 in
theorem ml_X7_99 : XLV RX7 99 mX5_append := ⟨xTB_of (xtb_2 (List.mem_of_getElem? (i := 44) rfl)) rfl, xTB_of (xtb_2 (List.mem_of_getElem? (i := 45) rfl)) rfl, xTB_of (xtb_2 (List.mem_of_getElem? (i := 46) rfl)) rfl, xTB_of (xtb_1 (List.mem_of_getElem? (i := 3) rfl)) rfl⟩
set_option maxRecDepth 20000 in
theorem ml_X7_103 : XLV RX7 103 mX5_length := ⟨xTB_of (xtb_2 (List.mem_of_getElem? (i := 48) rfl)) rfl, xTB_of (xtb_2 (List.mem_of_getElem? (i := 49) rfl)) rfl, xTB_of (xtb_2 (List.mem_of_getElem? (i := 50) rfl)) rfl, xTB_of (xtb_1 (List.mem_of_getElem? (i := 3) rfl)) rfl⟩
set_option maxRecDepth 20000 in
theorem kc_X7_107 : Cond.constant RX7 107 (-1000003) ∈ xTB := xTB_of (xtb_2 (List.mem_of_getElem? (i := 52) rfl)) rfl
set_option maxRecDepth 20000 in
theorem ml_X7_108 : XLV RX7 108 mX5_readTape := ⟨xTB_of (xtb_2 (List.mem_of_getElem? (i := 57) rfl)) rfl, xTB_of (xtb_2 (List.mem_of_getElem? (i := 58) rfl)) rfl, xTB_of (xtb_2 (List.mem_of_getElem? (i := 59) rfl)) rfl, xTB_of (xtb_1 (List.mem_of_getElem? (i := 3) rfl)) rfl⟩
set_option maxRecDepth 20000 in
theorem kc_X7_112 : Cond.constant RX7 112 (-1000100) ∈ xTB := xTB_of (xtb_2 (List.mem_of_getElem? (i := 194) rfl)) rfl
set_option maxRecDepth 20000 in
theorem ml_X7_113 : XLV RX7 113 mX5_faultPlace := ⟨xTB_of (xtb_2 (List.mem_of_getElem? (i := 195) rfl)) rfl, xTB_of (xtb_2 (List.mem_of_getElem? (i := 196) rfl)) rfl, xTB_of (xtb_2 (List.mem_of_getElem? (i := 197) rfl)) rfl, xTB_of (xtb_1 (List.mem_of_getElem? (i := 3) rfl)) rfl⟩
set_option maxRecDepth 20000 in
theorem fl_X7_26 : XFL RX7 26 6 2 := ⟨RX7, TX7, 8, rfl, by decide, xTB_of (xtb_1 (List.mem_of_getElem? (i := 192) rfl)) rfl, xin_X7, rfl⟩
set_option maxRecDepth 20000 in
theorem ml_X7_116 : XLV RX7 116 mX5_draft := ⟨xTB_of (xtb_2 (List.mem_of_getElem? (i := 199) rfl)) rfl, xTB_of (xtb_2 (List.mem_of_getElem? (i := 200) rfl)) rfl, xTB_of (xtb_2 (List.mem_of_getElem? (i := 201) rfl)) rfl, xTB_of (xtb_1 (List.mem_of_getElem? (i := 3) rfl)) rfl⟩
set_option maxRecDepth 20000 in
theorem ml_X7_120 : XLV RX7 120 mX1_become := ⟨xTB_of (xtb_2 (List.mem_of_getElem? (i := 203) rfl)) rfl, xTB_of (xtb_2 (List.mem_of_getElem? (i := 204) rfl)) rfl, xTB_of (xtb_2 (List.mem_of_getElem? (i := 205) rfl)) rfl, xTB_of (xtb_1 (List.mem_of_getElem? (i := 4) rfl)) rfl⟩
set_option maxRecDepth 20000 in
theorem fl_X7_37 : XFL RX7 37 6 4 := ⟨RX7, TX7, 8, rfl, by decide, xTB_of (xtb_1 (List.mem_of_getElem? (i := 194) rfl)) rfl, xin_X7, rfl⟩
set_option maxRecDepth 20000 in
theorem ml_X7_124 : XLV RX7 124 mX3_forgetAll := ⟨xTB_of (xtb_2 (List.mem_of_getElem? (i := 208) rfl)) rfl, xTB_of (xtb_2 (List.mem_of_getElem? (i := 209) rfl)) rfl, xTB_of (xtb_2 (List.mem_of_getElem? (i := 210) rfl)) rfl, xTB_of (xtb_1 (List.mem_of_getElem? (i := 5) rfl)) rfl⟩
set_option maxRecDepth 20000 in
theorem fl_X7_127 : XFL RX7 127 1 2 := ⟨RX1, TX1, 11, rfl, by decide, xTB_of (xtb_1 (List.mem_of_getElem? (i := 59) rfl)) rfl, xin_X1, rfl⟩
set_option maxRecDepth 20000 in
theorem ml_X7_130 : XLV RX7 130 mX5_faultNumber := ⟨xTB_of (xtb_2 (List.mem_of_getElem? (i := 216) rfl)) rfl, xTB_of (xtb_2 (List.mem_of_getElem? (i := 217) rfl)) rfl, xTB_of (xtb_2 (List.mem_of_getElem? (i := 218) rfl)) rfl, xTB_of (xtb_1 (List.mem_of_getElem? (i := 3) rfl)) rfl⟩
set_option maxRecDepth 20000 in
theorem ml_X7_133 : XLV RX7 133 mX1_isHouse := ⟨xTB_of (xtb_2 (List.mem_of_getElem? (i := 224) rfl)) rfl, xTB_of (xtb_2 (List.mem_of_getElem? (i := 225) rfl)) rfl, xTB_of (xtb_2 (List.mem_of_getElem? (i := 226) rfl)) rfl, xTB_of (xtb_1 (List.mem_of_getElem? (i := 4) rfl)) rfl⟩
set_option maxRecDepth 20000 in
theorem fl_X7_136 : XFL RX7 136 1 3 := ⟨RX1, TX1, 11, rfl, by decide, xTB_of (xtb_1 (List.mem_of_getElem? (i := 64) rfl)) rfl, xin_X1, rfl⟩
set_option maxRecDepth 20000 in
theorem ml_X7_139 : XLV RX7 139 mX1_isDrowned := ⟨xTB_of (xtb_2 (List.mem_of_getElem? (i := 228) rfl)) rfl, xTB_of (xtb_2 (List.mem_of_getElem? (i := 229) rfl)) rfl, xTB_of (xtb_2 (List.mem_of_getElem? (i := 230) rfl)) rfl, xTB_of (xtb_1 (List.mem_of_getElem? (i := 4) rfl)) rfl⟩
set_option maxRecDepth 20000 in
theorem kc_X7_143 : Cond.constant RX7 143 (-1000002) ∈ xTB := xTB_of (xtb_2 (List.mem_of_getElem? (i := 236) rfl)) rfl
set_option maxRecDepth 20000 in
theorem ml_X7_144 : XLV RX7 144 mX7_sayIn := ⟨xTB_of (xtb_2 (List.mem_of_getElem? (i := 237) rfl)) rfl, xTB_of (xtb_2 (List.mem_of_getElem? (i := 239) rfl)) rfl, xTB_of (xtb_p (List.mem_of_getElem? (i := 17) rfl)) rfl, xTB_of (xtb_1 (List.mem_of_getElem? (i := 1) rfl)) rfl⟩
set_option maxRecDepth 20000 in
theorem ml_X7_148 : XLV RX7 148 mX1_isThere := ⟨xTB_of (xtb_3 (List.mem_of_getElem? (i := 40) rfl)) rfl, xTB_of (xtb_3 (List.mem_of_getElem? (i := 41) rfl)) rfl, xTB_of (xtb_3 (List.mem_of_getElem? (i := 42) rfl)) rfl, xTB_of (xtb_1 (List.mem_of_getElem? (i := 4) rfl)) rfl⟩
set_option maxRecDepth 20000 in
theorem ml_X7_151 : XLV RX7 151 mX7_areSayings := ⟨xTB_of (xtb_3 (List.mem_of_getElem? (i := 44) rfl)) rfl, xTB_of (xtb_3 (List.mem_of_getElem? (i := 46) rfl)) rfl, xTB_of (xtb_p (List.mem_of_getElem? (i := 22) rfl)) rfl, xTB_of (xtb_1 (List.mem_of_getElem? (i := 1) rfl)) rfl⟩
set_option maxRecDepth 20000 in
theorem ml_X7_154 : XLV RX7 154 mX7_sayAll := ⟨xTB_of (xtb_3 (List.mem_of_getElem? (i := 52) rfl)) rfl, xTB_of (xtb_3 (List.mem_of_getElem? (i := 54) rfl)) rfl, xTB_of (xtb_p (List.mem_of_getElem? (i := 23) rfl)) rfl, xTB_of (xtb_1 (List.mem_of_getElem? (i := 1) rfl)) rfl⟩
set_option maxRecDepth 20000 in
theorem ml_X7_157 : XLV RX7 157 mX3_size := ⟨xTB_of (xtb_3 (List.mem_of_getElem? (i := 60) rfl)) rfl, xTB_of (xtb_3 (List.mem_of_getElem? (i := 61) rfl)) rfl, xTB_of (xtb_3 (List.mem_of_getElem? (i := 62) rfl)) rfl, xTB_of (xtb_1 (List.mem_of_getElem? (i := 5) rfl)) rfl⟩
set_option maxRecDepth 20000 in
theorem ml_X7_160 : XLV RX7 160 mX3_undoLatest := ⟨xTB_of (xtb_3 (List.mem_of_getElem? (i := 64) rfl)) rfl, xTB_of (xtb_3 (List.mem_of_getElem? (i := 65) rfl)) rfl, xTB_of (xtb_3 (List.mem_of_getElem? (i := 66) rfl)) rfl, xTB_of (xtb_1 (List.mem_of_getElem? (i := 5) rfl)) rfl⟩
set_option maxRecDepth 20000 in
theorem ml_X7_163 : XLV RX7 163 mX1_xOf := ⟨xTB_of (xtb_3 (List.mem_of_getElem? (i := 72) rfl)) rfl, xTB_of (xtb_2 (List.mem_of_getElem? (i := 187) rfl)) rfl, xTB_of (xtb_2 (List.mem_of_getElem? (i := 188) rfl)) rfl, xTB_of (xtb_1 (List.mem_of_getElem? (i := 4) rfl)) rfl⟩
set_option maxRecDepth 20000 in
theorem fl_X7_166 : XFL RX7 166 1 7 := ⟨RX1, TX1, 11, rfl, by decide, xTB_of (xtb_1 (List.mem_of_getElem? (i := 74) rfl)) rfl, xin_X1, rfl⟩
set_option maxRecDepth 20000 in
theorem fl_X7_170 : XFL RX7 170 1 8 := ⟨RX1, TX1, 11, rfl, by decide, xTB_of (xtb_1 (List.mem_of_getElem? (i := 77) rfl)) rfl, xin_X1, rfl⟩
set_option maxRecDepth 20000 in
theorem fl_X7_173 : XFL RX7 173 1 9 := ⟨RX1, TX1, 11, rfl, by decide, xTB_of (xtb_1 (List.mem_of_getElem? (i := 80) rfl)) rfl, xin_X1, rfl⟩
set_option maxRecDepth 20000 in
theorem ml_X7_176 : XLV RX7 176 mX1_isOpen := ⟨xTB_of (xtb_3 (List.mem_of_getElem? (i := 73) rfl)) rfl, xTB_of (xtb_3 (List.mem_of_getElem? (i := 74) rfl)) rfl, xTB_of (xtb_3 (List.mem_of_getElem? (i := 75) rfl)) rfl, xTB_of (xtb_1 (List.mem_of_getElem? (i := 4) rfl)) rfl⟩
set_option maxRecDepth 20000 in
theorem ml_X7_179 : XLV RX7 179 mX1_isBoxed := ⟨xTB_of (xtb_3 (List.mem_of_getElem? (i := 81) rfl)) rfl, xTB_of (xtb_3 (List.mem_of_getElem? (i := 82) rfl)) rfl, xTB_of (xtb_3 (List.mem_of_getElem? (i := 83) rfl)) rfl, xTB_of (xtb_1 (List.mem_of_getElem? (i := 4) rfl)) rfl⟩
set_option maxRecDepth 20000 in
theorem ml_X7_182 : XLV RX7 182 mX1_rentOf := ⟨xTB_of (xtb_3 (List.mem_of_getElem? (i := 85) rfl)) rfl, xTB_of (xtb_3 (List.mem_of_getElem? (i := 86) rfl)) rfl, xTB_of (xtb_3 (List.mem_of_getElem? (i := 87) rfl)) rfl, xTB_of (xtb_1 (List.mem_of_getElem? (i := 4) rfl)) rfl⟩
set_option maxRecDepth 20000 in
theorem fl_X7_185 : XFL RX7 185 1 10 := ⟨RX1, TX1, 11, rfl, by decide, xTB_of (xtb_1 (List.mem_of_getElem? (i := 83) rfl)) rfl, xin_X1, rfl⟩
set_option maxRecDepth 20000 in
theorem ml_X7_188 : XLV RX7 188 mX1_contentOf := ⟨xTB_of (xtb_3 (List.mem_of_getElem? (i := 94) rfl)) rfl, xTB_of (xtb_3 (List.mem_of_getElem? (i := 95) rfl)) rfl, xTB_of (xtb_3 (List.mem_of_getElem? (i := 96) rfl)) rfl, xTB_of (xtb_1 (List.mem_of_getElem? (i := 4) rfl)) rfl⟩
set_option maxRecDepth 20000 in
theorem ml_X7_191 : XLV RX7 191 mX7_refusalToForetell := ⟨xTB_of (xtb_3 (List.mem_of_getElem? (i := 102) rfl)) rfl, xTB_of (xtb_3 (List.mem_of_getElem? (i := 104) rfl)) rfl, xTB_of (xtb_p (List.mem_of_getElem? (i := 25) rfl)) rfl, xTB_of (xtb_1 (List.mem_of_getElem? (i := 1) rfl)) rfl⟩
set_option maxRecDepth 20000 in
theorem ml_X7_195 : XLV RX7 195 mX7_foretellLies := ⟨xTB_of (xtb_3 (List.mem_of_getElem? (i := 106) rfl)) rfl, xTB_of (xtb_3 (List.mem_of_getElem? (i := 108) rfl)) rfl, xTB_of (xtb_p (List.mem_of_getElem? (i := 26) rfl)) rfl, xTB_of (xtb_1 (List.mem_of_getElem? (i := 1) rfl)) rfl⟩
set_option maxRecDepth 20000 in
theorem fl_X7_44 : XFL RX7 44 6 5 := ⟨RX7, TX7, 8, rfl, by decide, xTB_of (xtb_1 (List.mem_of_getElem? (i := 195) rfl)) rfl, xin_X7, rfl⟩
set_option maxRecDepth 20000 in
theorem ml_X7_198 : XLV RX7 198 mX2_fitting := ⟨xTB_of (xtb_3 (List.mem_of_getElem? (i := 128) rfl)) rfl, xTB_of (xtb_3 (List.mem_of_getElem? (i := 129) rfl)) rfl, xTB_of (xtb_3 (List.mem_of_getElem? (i := 130) rfl)) rfl, xTB_of (xtb_1 (List.mem_of_getElem? (i := 6) rfl)) rfl⟩
set_option maxRecDepth 20000 in
theorem ml_X7_201 : XLV RX7 201 mX2_fittingSet := ⟨xTB_of (xtb_3 (List.mem_of_getElem? (i := 132) rfl)) rfl, xTB_of (xtb_3 (List.mem_of_getElem? (i := 133) rfl)) rfl, xTB_of (xtb_3 (List.mem_of_getElem? (i := 134) rfl)) rfl, xTB_of (xtb_1 (List.mem_of_getElem? (i := 6) rfl)) rfl⟩
set_option maxRecDepth 20000 in
theorem ml_X7_204 : XLV RX7 204 mX2_fewestLies := ⟨xTB_of (xtb_3 (List.mem_of_getElem? (i := 141) rfl)) rfl, xTB_of (xtb_3 (List.mem_of_getElem? (i := 142) rfl)) rfl, xTB_of (xtb_3 (List.mem_of_getElem? (i := 143) rfl)) rfl, xTB_of (xtb_1 (List.mem_of_getElem? (i := 6) rfl)) rfl⟩
set_option maxRecDepth 20000 in
theorem ml_X7_207 : XLV RX7 207 mX2_sureLies := ⟨xTB_of (xtb_3 (List.mem_of_getElem? (i := 151) rfl)) rfl, xTB_of (xtb_3 (List.mem_of_getElem? (i := 152) rfl)) rfl, xTB_of (xtb_3 (List.mem_of_getElem? (i := 153) rfl)) rfl, xTB_of (xtb_1 (List.mem_of_getElem? (i := 6) rfl)) rfl⟩
set_option maxRecDepth 20000 in
theorem ml_X7_210 : XLV RX7 210 mX2_bestQuestion := ⟨xTB_of (xtb_3 (List.mem_of_getElem? (i := 155) rfl)) rfl, xTB_of (xtb_3 (List.mem_of_getElem? (i := 156) rfl)) rfl, xTB_of (xtb_3 (List.mem_of_getElem? (i := 157) rfl)) rfl, xTB_of (xtb_1 (List.mem_of_getElem? (i := 6) rfl)) rfl⟩
set_option maxRecDepth 20000 in
theorem ml_X7_213 : XLV RX7 213 mX2_findLiars := ⟨xTB_of (xtb_3 (List.mem_of_getElem? (i := 166) rfl)) rfl, xTB_of (xtb_3 (List.mem_of_getElem? (i := 167) rfl)) rfl, xTB_of (xtb_3 (List.mem_of_getElem? (i := 168) rfl)) rfl, xTB_of (xtb_1 (List.mem_of_getElem? (i := 6) rfl)) rfl⟩
set_option maxRecDepth 20000 in
theorem ml_X7_217 : XLV RX7 217 mX2_liar := ⟨xTB_of (xtb_3 (List.mem_of_getElem? (i := 176) rfl)) rfl, xTB_of (xtb_3 (List.mem_of_getElem? (i := 177) rfl)) rfl, xTB_of (xtb_3 (List.mem_of_getElem? (i := 178) rfl)) rfl, xTB_of (xtb_1 (List.mem_of_getElem? (i := 6) rfl)) rfl⟩
set_option maxRecDepth 20000 in
theorem ml_X7_220 : XLV RX7 220 mX2_liesTillBrook := ⟨xTB_of (xtb_3 (List.mem_of_getElem? (i := 184) rfl)) rfl, xTB_of (xtb_3 (List.mem_of_getElem? (i := 185) rfl)) rfl, xTB_of (xtb_3 (List.mem_of_getElem? (i := 186) rfl)) rfl, xTB_of (xtb_1 (List.mem_of_getElem? (i := 6) rfl)) rfl⟩
set_option maxRecDepth 20000 in
theorem fl_X7_30 : XFL RX7 30 6 3 := ⟨RX7, TX7, 8, rfl, by decide, xTB_of (xtb_1 (List.mem_of_getElem? (i := 193) rfl)) rfl, xin_X7, rfl⟩
set_option maxRecDepth 20000 in
theorem fl_X7_224 : XFL RX7 224 1 6 := ⟨RX1, TX1, 11, rfl, by decide, xTB_of (xtb_1 (List.mem_of_getElem? (i := 72) rfl)) rfl, xin_X1, rfl⟩
set_option maxRecDepth 20000 in
theorem ml_X7_227 : XLS RX7 227 mX4_isNumber := ⟨xTB_of (xtb_3 (List.mem_of_getElem? (i := 204) rfl)) rfl, xTB_of (xtb_3 (List.mem_of_getElem? (i := 205) rfl)) rfl, xTB_of (xtb_1 (List.mem_of_getElem? (i := 16) rfl)) rfl⟩
set_option maxRecDepth 20000 in
theorem ml_X7_230 : XLS RX7 230 mX4_isOne := ⟨xTB_of (xtb_3 (List.mem_of_getElem? (i := 207) rfl)) rfl, xTB_of (xtb_3 (List.mem_of_getElem? (i := 208) rfl)) rfl, xTB_of (xtb_1 (List.mem_of_getElem? (i := 16) rfl)) rfl⟩
set_option maxRecDepth 20000 in
theorem fl_X7_51 : XFL RX7 51 6 6 := ⟨RX7, TX7, 8, rfl, by decide, xTB_of (xtb_1 (List.mem_of_getElem? (i := 196) rfl)) rfl, xin_X7, rfl⟩
set_option maxRecDepth 20000 in
theorem ml_X7_233 : XLV RX7 233 mX0_begin := ⟨xTB_of (xtb_3 (List.mem_of_getElem? (i := 219) rfl)) rfl, xTB_of (xtb_3 (List.mem_of_getElem? (i := 220) rfl)) rfl, xTB_of (xtb_3 (List.mem_of_getElem? (i := 221) rfl)) rfl, xTB_of (xtb_1 (List.mem_of_getElem? (i := 7) rfl)) rfl⟩
set_option maxRecDepth 20000 in
theorem ml_X7_236 : XLV RX7 236 mX0_traced := ⟨xTB_of (xtb_4 (List.mem_of_getElem? (i := 9) rfl)) rfl, xTB_of (xtb_4 (List.mem_of_getElem? (i := 10) rfl)) rfl, xTB_of (xtb_4 (List.mem_of_getElem? (i := 11) rfl)) rfl, xTB_of (xtb_1 (List.mem_of_getElem? (i := 7) rfl)) rfl⟩
set_option maxRecDepth 20000 in
theorem ml_X7_239 : XLV RX7 239 mX6_present := ⟨xTB_of (xtb_4 (List.mem_of_getElem? (i := 18) rfl)) rfl, xTB_of (xtb_4 (List.mem_of_getElem? (i := 19) rfl)) rfl, xTB_of (xtb_4 (List.mem_of_getElem? (i := 20) rfl)) rfl, xTB_of (xtb_1 (List.mem_of_getElem? (i := 2) rfl)) rfl⟩
set_option maxRecDepth 20000 in
theorem ml_X7_242 : XLV RX7 242 mX1_wallCells := ⟨xTB_of (xtb_4 (List.mem_of_getElem? (i := 22) rfl)) rfl, xTB_of (xtb_4 (List.mem_of_getElem? (i := 23) rfl)) rfl, xTB_of (xtb_4 (List.mem_of_getElem? (i := 24) rfl)) rfl, xTB_of (xtb_1 (List.mem_of_getElem? (i := 4) rfl)) rfl⟩
set_option maxRecDepth 20000 in
theorem ml_X7_245 : XLV RX7 245 mX1_allLies := ⟨xTB_of (xtb_4 (List.mem_of_getElem? (i := 27) rfl)) rfl, xTB_of (xtb_4 (List.mem_of_getElem? (i := 28) rfl)) rfl, xTB_of (xtb_4 (List.mem_of_getElem? (i := 29) rfl)) rfl, xTB_of (xtb_1 (List.mem_of_getElem? (i := 4) rfl)) rfl⟩
set_option maxRecDepth 20000 in
theorem ml_X7_248 : XLV RX7 248 mX1_allRents := ⟨xTB_of (xtb_4 (List.mem_of_getElem? (i := 31) rfl)) rfl, xTB_of (xtb_4 (List.mem_of_getElem? (i := 32) rfl)) rfl, xTB_of (xtb_4 (List.mem_of_getElem? (i := 33) rfl)) rfl, xTB_of (xtb_1 (List.mem_of_getElem? (i := 4) rfl)) rfl⟩
set_option maxRecDepth 20000 in
theorem fl_X7_55 : XFL RX7 55 6 7 := ⟨RX7, TX7, 8, rfl, by decide, xTB_of (xtb_1 (List.mem_of_getElem? (i := 197) rfl)) rfl, xin_X7, rfl⟩
set_option maxRecDepth 20000 in
theorem kc_X7_251 : Cond.constant RX7 251 (-1000010) ∈ xTB := xTB_of (xtb_1 (List.mem_of_getElem? (i := 232) rfl)) rfl
set_option maxRecDepth 20000 in
theorem ml_X7_252 : XLV RX7 252 mX1_isLie := ⟨xTB_of (xtb_3 (List.mem_of_getElem? (i := 1) rfl)) rfl, xTB_of (xtb_3 (List.mem_of_getElem? (i := 2) rfl)) rfl, xTB_of (xtb_3 (List.mem_of_getElem? (i := 3) rfl)) rfl, xTB_of (xtb_1 (List.mem_of_getElem? (i := 4) rfl)) rfl⟩
set_option maxRecDepth 20000 in
theorem ml_X7_255 : XLV RX7 255 mX1_slidBy := ⟨xTB_of (xtb_3 (List.mem_of_getElem? (i := 5) rfl)) rfl, xTB_of (xtb_3 (List.mem_of_getElem? (i := 6) rfl)) rfl, xTB_of (xtb_3 (List.mem_of_getElem? (i := 7) rfl)) rfl, xTB_of (xtb_1 (List.mem_of_getElem? (i := 4) rfl)) rfl⟩
set_option maxRecDepth 20000 in
theorem ml_X7_258 : XLV RX7 258 mX3_keep := ⟨xTB_of (xtb_3 (List.mem_of_getElem? (i := 25) rfl)) rfl, xTB_of (xtb_3 (List.mem_of_getElem? (i := 26) rfl)) rfl, xTB_of (xtb_3 (List.mem_of_getElem? (i := 27) rfl)) rfl, xTB_of (xtb_1 (List.mem_of_getElem? (i := 5) rfl)) rfl⟩
set_option maxRecDepth 20000 in
theorem ml_X7_262 : XLV RX7 262 mX1_afterSlide := ⟨xTB_of (xtb_3 (List.mem_of_getElem? (i := 32) rfl)) rfl, xTB_of (xtb_3 (List.mem_of_getElem? (i := 33) rfl)) rfl, xTB_of (xtb_3 (List.mem_of_getElem? (i := 34) rfl)) rfl, xTB_of (xtb_1 (List.mem_of_getElem? (i := 4) rfl)) rfl⟩
set_option maxRecDepth 20000 in
theorem fp_X7_136 : XFP RX7 136 1 3 .int := ⟨RX1, TX1, 11, tyX1, rfl, by decide, xTB_of (xtb_1 (List.mem_of_getElem? (i := 64) rfl)) rfl, xin_X1, rfl, tyX1_ok, nmX1, rfl, rfl⟩
set_option maxRecDepth 20000 in
theorem ml_X7_265 : XLV RX7 265 mX6_item := ⟨xTB_of (xtb_3 (List.mem_of_getElem? (i := 48) rfl)) rfl, xTB_of (xtb_3 (List.mem_of_getElem? (i := 49) rfl)) rfl, xTB_of (xtb_3 (List.mem_of_getElem? (i := 50) rfl)) rfl, xTB_of (xtb_1 (List.mem_of_getElem? (i := 2) rfl)) rfl⟩
set_option maxRecDepth 20000 in
theorem ml_X7_268 : XLV RX7 268 mX2_beginAt := ⟨xTB_of (xtb_3 (List.mem_of_getElem? (i := 110) rfl)) rfl, xTB_of (xtb_3 (List.mem_of_getElem? (i := 111) rfl)) rfl, xTB_of (xtb_3 (List.mem_of_getElem? (i := 112) rfl)) rfl, xTB_of (xtb_1 (List.mem_of_getElem? (i := 6) rfl)) rfl⟩
set_option maxRecDepth 20000 in
theorem ml_X7_272 : XLV RX7 272 mX2_addSaying := ⟨xTB_of (xtb_3 (List.mem_of_getElem? (i := 114) rfl)) rfl, xTB_of (xtb_3 (List.mem_of_getElem? (i := 115) rfl)) rfl, xTB_of (xtb_3 (List.mem_of_getElem? (i := 116) rfl)) rfl, xTB_of (xtb_1 (List.mem_of_getElem? (i := 6) rfl)) rfl⟩
set_option maxRecDepth 20000 in
theorem ml_X7_276 : XLV RX7 276 mX7_standsAsOne := ⟨xTB_of (xtb_3 (List.mem_of_getElem? (i := 120) rfl)) rfl, xTB_of (xtb_3 (List.mem_of_getElem? (i := 122) rfl)) rfl, xTB_of (xtb_p (List.mem_of_getElem? (i := 27) rfl)) rfl, xTB_of (xtb_1 (List.mem_of_getElem? (i := 1) rfl)) rfl⟩
set_option maxRecDepth 20000 in
theorem ml_X7_279 : XLV RX7 279 mX2_keepFitting := ⟨xTB_of (xtb_3 (List.mem_of_getElem? (i := 124) rfl)) rfl, xTB_of (xtb_3 (List.mem_of_getElem? (i := 125) rfl)) rfl, xTB_of (xtb_3 (List.mem_of_getElem? (i := 126) rfl)) rfl, xTB_of (xtb_1 (List.mem_of_getElem? (i := 6) rfl)) rfl⟩
set_option maxRecDepth 20000 in
theorem fl_X8_7 : XFL RX8 7 7 0 := ⟨RX8, TX8, 24, rfl, by decide, xTB_of (xtb_4 (List.mem_of_getElem? (i := 47) rfl)) rfl, xin_X8, rfl⟩
set_option maxRecDepth 20000 in
theorem kc_X8_50 : Cond.constant RX8 50 (-1000000) ∈ xTB := xTB_of (xtb_4 (List.mem_of_getElem? (i := 46) rfl)) rfl
set_option maxRecDepth 20000 in
theorem fp_X8_51 : XFP RX8 51 7 3 .int := ⟨RX8, TX8, 24, tyX8, rfl, by decide, xTB_of (xtb_4 (List.mem_of_getElem? (i := 50) rfl)) rfl, xin_X8, rfl, tyX8_ok, nmX8, rfl, rfl⟩
set_option maxRecDepth 20000 in
theorem kc_X8_55 : Cond.constant RX8 55 (-1000010) ∈ xTB := xTB_of (xtb_4 (List.mem_of_getElem? (i := 136) rfl)) rfl
set_option maxRecDepth 20000 in
theorem ml_X8_56 : XLS RX8 56 mX8_in := ⟨xTB_of (xtb_4 (List.mem_of_getElem? (i := 128) rfl)) rfl, xTB_of (xtb_4 (List.mem_of_getElem? (i := 129) rfl)) rfl, xTB_of (xtb_1 (List.mem_of_getElem? (i := 8) rfl)) rfl⟩
set_option maxRecDepth 20000 in
theorem ml_X8_60 : XLS RX8 60 mX8_isRow := ⟨xTB_of (xtb_4 (List.mem_of_getElem? (i := 125) rfl)) rfl, xTB_of (xtb_4 (List.mem_of_getElem? (i := 126) rfl)) rfl, xTB_of (xtb_1 (List.mem_of_getElem? (i := 8) rfl)) rfl⟩
set_option maxRecDepth 20000 in
theorem kc_X8_64 : Cond.constant RX8 64 (-1000001) ∈ xTB := xTB_of (xtb_4 (List.mem_of_getElem? (i := 131) rfl)) rfl
set_option maxRecDepth 20000 in
theorem ml_X8_65 : XLV RX8 65 mX8_finds := ⟨xTB_of (xtb_4 (List.mem_of_getElem? (i := 132) rfl)) rfl, xTB_of (xtb_4 (List.mem_of_getElem? (i := 134) rfl)) rfl, xTB_of (xtb_p (List.mem_of_getElem? (i := 33) rfl)) rfl, xTB_of (xtb_1 (List.mem_of_getElem? (i := 8) rfl)) rfl⟩
set_option maxRecDepth 20000 in
theorem fl_X8_13 : XFL RX8 13 7 1 := ⟨RX8, TX8, 24, rfl, by decide, xTB_of (xtb_4 (List.mem_of_getElem? (i := 48) rfl)) rfl, xin_X8, rfl⟩
set_option maxRecDepth 20000 in
theorem fl_X8_16 : XFL RX8 16 7 2 := ⟨RX8, TX8, 24, rfl, by decide, xTB_of (xtb_4 (List.mem_of_getElem? (i := 49) rfl)) rfl, xin_X8, rfl⟩
set_option maxRecDepth 20000 in
theorem ml_X8_69 : XLV RX8 69 mX8_did := ⟨xTB_of (xtb_4 (List.mem_of_getElem? (i := 137) rfl)) rfl, xTB_of (xtb_4 (List.mem_of_getElem? (i := 139) rfl)) rfl, xTB_of (xtb_p (List.mem_of_getElem? (i := 34) rfl)) rfl, xTB_of (xtb_1 (List.mem_of_getElem? (i := 8) rfl)) rfl⟩
set_option maxRecDepth 20000 in
theorem ml_X8_72 : XLV RX8 72 mX8_isMissing := ⟨xTB_of (xtb_4 (List.mem_of_getElem? (i := 145) rfl)) rfl, xTB_of (xtb_4 (List.mem_of_getElem? (i := 147) rfl)) rfl, xTB_of (xtb_p (List.mem_of_getElem? (i := 35) rfl)) rfl, xTB_of (xtb_1 (List.mem_of_getElem? (i := 8) rfl)) rfl⟩
set_option maxRecDepth 20000 in
theorem fl_X8_44 : XFL RX8 44 7 22 := ⟨RX8, TX8, 24, rfl, by decide, xTB_of (xtb_4 (List.mem_of_getElem? (i := 69) rfl)) rfl, xin_X8, rfl⟩
set_option maxRecDepth 20000 in
theorem fl_X8_75 : XFL RX8 75 7 4 := ⟨RX8, TX8, 24, rfl, by decide, xTB_of (xtb_4 (List.mem_of_getElem? (i := 51) rfl)) rfl, xin_X8, rfl⟩
set_option maxRecDepth 20000 in
theorem kc_X8_78 : Cond.constant RX8 78 (-1000003) ∈ xTB := xTB_of (xtb_4 (List.mem_of_getElem? (i := 161) rfl)) rfl
set_option maxRecDepth 20000 in
theorem fl_X8_19 : XFL RX8 19 7 5 := ⟨RX8, TX8, 24, rfl, by decide, xTB_of (xtb_4 (List.mem_of_getElem? (i := 52) rfl)) rfl, xin_X8, rfl⟩
set_option maxRecDepth 20000 in
theorem kc_X8_79 : Cond.constantLong RX8 79 (255) ∈ xTB := xTB_of (xtb_4 (List.mem_of_getElem? (i := 162) rfl)) rfl
set_option maxRecDepth 20000 in
theorem fp_X8_75 : XFP RX8 75 7 4 .int := ⟨RX8, TX8, 24, tyX8, rfl, by decide, xTB_of (xtb_4 (List.mem_of_getElem? (i := 51) rfl)) rfl, xin_X8, rfl, tyX8_ok, nmX8, rfl, rfl⟩
set_option maxRecDepth 20000 in
theorem fl_X8_81 : XFL RX8 81 7 6 := ⟨RX8, TX8, 24, rfl, by decide, xTB_of (xtb_4 (List.mem_of_getElem? (i := 53) rfl)) rfl, xin_X8, rfl⟩
set_option maxRecDepth 20000 in
theorem ml_X8_84 : XLV RX8 84 mX8_here := ⟨xTB_of (xtb_4 (List.mem_of_getElem? (i := 179) rfl)) rfl, xTB_of (xtb_4 (List.mem_of_getElem? (i := 181) rfl)) rfl, xTB_of (xtb_p (List.mem_of_getElem? (i := 39) rfl)) rfl, xTB_of (xtb_1 (List.mem_of_getElem? (i := 8) rfl)) rfl⟩
set_option maxRecDepth 20000 in
theorem fp_X8_81 : XFP RX8 81 7 6 .int := ⟨RX8, TX8, 24, tyX8, rfl, by decide, xTB_of (xtb_4 (List.mem_of_getElem? (i := 53) rfl)) rfl, xin_X8, rfl, tyX8_ok, nmX8, rfl, rfl⟩
set_option maxRecDepth 20000 in
theorem fp_X8_88 : XFP RX8 88 7 7 .int := ⟨RX8, TX8, 24, tyX8, rfl, by decide, xTB_of (xtb_4 (List.mem_of_getElem? (i := 54) rfl)) rfl, xin_X8, rfl, tyX8_ok, nmX8, rfl, rfl⟩
set_option maxRecDepth 20000 in
theorem fp_X8_91 : XFP RX8 91 7 8 .int := ⟨RX8, TX8, 24, tyX8, rfl, by decide, xTB_of (xtb_4 (List.mem_of_getElem? (i := 55) rfl)) rfl, xin_X8, rfl, tyX8_ok, nmX8, rfl, rfl⟩
set_option maxRecDepth 20000 in
theorem fp_X8_94 : XFP RX8 94 7 9 .long := ⟨RX8, TX8, 24, tyX8, rfl, by decide, xTB_of (xtb_4 (List.mem_of_getElem? (i := 56) rfl)) rfl, xin_X8, rfl, tyX8_ok, nmX8, rfl, rfl⟩
set_option maxRecDepth 20000 in
theorem fl_X8_88 : XFL RX8 88 7 7 := ⟨RX8, TX8, 24, rfl, by decide, xTB_of (xtb_4 (List.mem_of_getElem? (i := 54) rfl)) rfl, xin_X8, rfl⟩
set_option maxRecDepth 20000 in
theorem kc_X8_98 : Cond.constantLong RX8 98 (27) ∈ xTB := xTB_of (xtb_4 (List.mem_of_getElem? (i := 183) rfl)) rfl
set_option maxRecDepth 20000 in
theorem fl_X8_94 : XFL RX8 94 7 9 := ⟨RX8, TX8, 24, rfl, by decide, xTB_of (xtb_4 (List.mem_of_getElem? (i := 56) rfl)) rfl, xin_X8, rfl⟩
set_option maxRecDepth 20000 in
theorem kc_X8_100 : Cond.constantLong RX8 100 (96) ∈ xTB := xTB_of (xtb_4 (List.mem_of_getElem? (i := 184) rfl)) rfl
set_option maxRecDepth 20000 in
theorem kc_X8_102 : Cond.constantLong RX8 102 (-1) ∈ xTB := xTB_of (xtb_4 (List.mem_of_getElem? (i := 185) rfl)) rfl
set_option maxRecDepth 20000 in
theorem fp_X8_104 : XFP RX8 104 7 10 .int := ⟨RX8, TX8, 24, tyX8, rfl, by decide, xTB_of (xtb_4 (List.mem_of_getElem? (i := 57) rfl)) rfl, xin_X8, rfl, tyX8_ok, nmX8, rfl, rfl⟩
set_option maxRecDepth 20000 in
theorem fl_X8_104 : XFL RX8 104 7 10 := ⟨RX8, TX8, 24, rfl, by decide, xTB_of (xtb_4 (List.mem_of_getElem? (i := 57) rfl)) rfl, xin_X8, rfl⟩
set_option maxRecDepth 20000 in
theorem fp_X8_107 : XFP RX8 107 7 12 .int := ⟨RX8, TX8, 24, tyX8, rfl, by decide, xTB_of (xtb_4 (List.mem_of_getElem? (i := 59) rfl)) rfl, xin_X8, rfl, tyX8_ok, nmX8, rfl, rfl⟩
set_option maxRecDepth 20000 in
theorem fl_X8_91 : XFL RX8 91 7 8 := ⟨RX8, TX8, 24, rfl, by decide, xTB_of (xtb_4 (List.mem_of_getElem? (i := 55) rfl)) rfl, xin_X8, rfl⟩
set_option maxRecDepth 20000 in
theorem ml_X8_110 : XLV RX8 110 mX8_nextToken := ⟨xTB_of (xtb_4 (List.mem_of_getElem? (i := 175) rfl)) rfl, xTB_of (xtb_4 (List.mem_of_getElem? (i := 177) rfl)) rfl, xTB_of (xtb_p (List.mem_of_getElem? (i := 38) rfl)) rfl, xTB_of (xtb_1 (List.mem_of_getElem? (i := 8) rfl)) rfl⟩
set_option maxRecDepth 20000 in
theorem ml_X8_113 : XLV RX8 113 mX8_fails := ⟨xTB_of (xtb_4 (List.mem_of_getElem? (i := 191) rfl)) rfl, xTB_of (xtb_4 (List.mem_of_getElem? (i := 193) rfl)) rfl, xTB_of (xtb_p (List.mem_of_getElem? (i := 41) rfl)) rfl, xTB_of (xtb_1 (List.mem_of_getElem? (i := 8) rfl)) rfl⟩
set_option maxRecDepth 20000 in
theorem kc_X8_116 : Cond.constantLong RX8 116 (3211075) ∈ xTB := xTB_of (xtb_4 (List.mem_of_getElem? (i := 186) rfl)) rfl
set_option maxRecDepth 20000 in
theorem ml_X8_118 : XLV RX8 118 mX8_isName := ⟨xTB_of (xtb_4 (List.mem_of_getElem? (i := 187) rfl)) rfl, xTB_of (xtb_4 (List.mem_of_getElem? (i := 189) rfl)) rfl, xTB_of (xtb_p (List.mem_of_getElem? (i := 40) rfl)) rfl, xTB_of (xtb_1 (List.mem_of_getElem? (i := 8) rfl)) rfl⟩
set_option maxRecDepth 20000 in
theorem ml_X8_122 : XLV RX8 122 mX8_isNumber := ⟨xTB_of (xtb_4 (List.mem_of_getElem? (i := 195) rfl)) rfl, xTB_of (xtb_4 (List.mem_of_getElem? (i := 197) rfl)) rfl, xTB_of (xtb_p (List.mem_of_getElem? (i := 42) rfl)) rfl, xTB_of (xtb_1 (List.mem_of_getElem? (i := 8) rfl)) rfl⟩
set_option maxRecDepth 20000 in
theorem fl_X8_25 : XFL RX8 25 7 14 := ⟨RX8, TX8, 24, rfl, by decide, xTB_of (xtb_4 (List.mem_of_getElem? (i := 61) rfl)) rfl, xin_X8, rfl⟩
set_option maxRecDepth 20000 in
theorem ml_X8_126 : XLV RX8 126 mX8_isEnd := ⟨xTB_of (xtb_4 (List.mem_of_getElem? (i := 199) rfl)) rfl, xTB_of (xtb_4 (List.mem_of_getElem? (i := 201) rfl)) rfl, xTB_of (xtb_p (List.mem_of_getElem? (i := 43) rfl)) rfl, xTB_of (xtb_1 (List.mem_of_getElem? (i := 8) rfl)) rfl⟩
set_option maxRecDepth 20000 in
theorem ml_X8_130 : XLS RX8 130 mX8_isOf := ⟨xTB_of (xtb_4 (List.mem_of_getElem? (i := 231) rfl)) rfl, xTB_of (xtb_4 (List.mem_of_getElem? (i := 232) rfl)) rfl, xTB_of (xtb_1 (List.mem_of_getElem? (i := 8) rfl)) rfl⟩
set_option maxRecDepth 20000 in
theorem kc_X8_134 : Cond.constantLong RX8 134 (5730863) ∈ xTB := xTB_of (xtb_4 (List.mem_of_getElem? (i := 220) rfl)) rfl
set_option maxRecDepth 20000 in
theorem kc_X8_136 : Cond.constantLong RX8 136 (6953) ∈ xTB := xTB_of (xtb_4 (List.mem_of_getElem? (i := 221) rfl)) rfl
set_option maxRecDepth 20000 in
theorem kc_X8_138 : Cond.constantLong RX8 138 (262776) ∈ xTB := xTB_of (xtb_4 (List.mem_of_getElem? (i := 222) rfl)) rfl
set_option maxRecDepth 20000 in
theorem kc_X8_140 : Cond.constantLong RX8 140 (380230) ∈ xTB := xTB_of (xtb_4 (List.mem_of_getElem? (i := 223) rfl)) rfl
set_option maxRecDepth 20000 in
theorem kc_X8_142 : Cond.constantLong RX8 142 (6419) ∈ xTB := xTB_of (xtb_4 (List.mem_of_getElem? (i := 224) rfl)) rfl
set_option maxRecDepth 20000 in
theorem ml_X8_144 : XLS RX8 144 mX8_isWallAt := ⟨xTB_of (xtb_4 (List.mem_of_getElem? (i := 225) rfl)) rfl, xTB_of (xtb_4 (List.mem_of_getElem? (i := 226) rfl)) rfl, xTB_of (xtb_1 (List.mem_of_getElem? (i := 8) rfl)) rfl⟩
set_option maxRecDepth 20000 in
theorem ml_X8_148 : XLS RX8 148 mX8_houseAt := ⟨xTB_of (xtb_4 (List.mem_of_getElem? (i := 228) rfl)) rfl, xTB_of (xtb_4 (List.mem_of_getElem? (i := 229) rfl)) rfl, xTB_of (xtb_1 (List.mem_of_getElem? (i := 8) rfl)) rfl⟩
set_option maxRecDepth 20000 in
theorem ml_X8_152 : XLV RX8 152 mX8_isWall := ⟨xTB_of (xtb_4 (List.mem_of_getElem? (i := 208) rfl)) rfl, xTB_of (xtb_4 (List.mem_of_getElem? (i := 210) rfl)) rfl, xTB_of (xtb_p (List.mem_of_getElem? (i := 45) rfl)) rfl, xTB_of (xtb_1 (List.mem_of_getElem? (i := 8) rfl)) rfl⟩
set_option maxRecDepth 20000 in
theorem ml_X8_155 : XLV RX8 155 mX8_isPath := ⟨xTB_of (xtb_4 (List.mem_of_getElem? (i := 212) rfl)) rfl, xTB_of (xtb_4 (List.mem_of_getElem? (i := 214) rfl)) rfl, xTB_of (xtb_p (List.mem_of_getElem? (i := 46) rfl)) rfl, xTB_of (xtb_1 (List.mem_of_getElem? (i := 8) rfl)) rfl⟩
set_option maxRecDepth 20000 in
theorem ml_X8_158 : XLV RX8 158 mX8_isHouse := ⟨xTB_of (xtb_4 (List.mem_of_getElem? (i := 216) rfl)) rfl, xTB_of (xtb_4 (List.mem_of_getElem? (i := 218) rfl)) rfl, xTB_of (xtb_p (List.mem_of_getElem? (i := 47) rfl)) rfl, xTB_of (xtb_1 (List.mem_of_getElem? (i := 8) rfl)) rfl⟩
set_option maxRecDepth 20000 in
theorem ml_X8_161 : XLV RX8 161 mX8_isFacts := ⟨xTB_of (xtb_4 (List.mem_of_getElem? (i := 171) rfl)) rfl, xTB_of (xtb_4 (List.mem_of_getElem? (i := 173) rfl)) rfl, xTB_of (xtb_p (List.mem_of_getElem? (i := 37) rfl)) rfl, xTB_of (xtb_1 (List.mem_of_getElem? (i := 8) rfl)) rfl⟩
set_option maxRecDepth 20000 in
theorem kc_X8_164 : Cond.constantLong RX8 164 (453774) ∈ xTB := xTB_of (xtb_4 (List.mem_of_getElem? (i := 203) rfl)) rfl
set_option maxRecDepth 20000 in
theorem ml_X8_166 : XLV RX8 166 mX8_areItems := ⟨xTB_of (xtb_4 (List.mem_of_getElem? (i := 204) rfl)) rfl, xTB_of (xtb_4 (List.mem_of_getElem? (i := 206) rfl)) rfl, xTB_of (xtb_p (List.mem_of_getElem? (i := 44) rfl)) rfl, xTB_of (xtb_1 (List.mem_of_getElem? (i := 8) rfl)) rfl⟩
set_option maxRecDepth 20000 in
theorem kc_X8_170 : Cond.constantLong RX8 170 (316205) ∈ xTB := xTB_of (xtb_4 (List.mem_of_getElem? (i := 234) rfl)) rfl
set_option maxRecDepth 20000 in
theorem kc_X8_172 : Cond.constantLong RX8 172 (4562600) ∈ xTB := xTB_of (xtb_4 (List.mem_of_getElem? (i := 235) rfl)) rfl
set_option maxRecDepth 20000 in
theorem ml_X8_174 : XLV RX8 174 mX8_isField := ⟨xTB_of (xtb_4 (List.mem_of_getElem? (i := 167) rfl)) rfl, xTB_of (xtb_4 (List.mem_of_getElem? (i := 169) rfl)) rfl, xTB_of (xtb_p (List.mem_of_getElem? (i := 36) rfl)) rfl, xTB_of (xtb_1 (List.mem_of_getElem? (i := 8) rfl)) rfl⟩
set_option maxRecDepth 20000 in
theorem fl_X8_107 : XFL RX8 107 7 12 := ⟨RX8, TX8, 24, rfl, by decide, xTB_of (xtb_4 (List.mem_of_getElem? (i := 59) rfl)) rfl, xin_X8, rfl⟩
set_option maxRecDepth 20000 in
theorem fp_X8_177 : XFP RX8 177 7 11 .int := ⟨RX8, TX8, 24, tyX8, rfl, by decide, xTB_of (xtb_4 (List.mem_of_getElem? (i := 58) rfl)) rfl, xin_X8, rfl, tyX8_ok, nmX8, rfl, rfl⟩
set_option maxRecDepth 20000 in
theorem kc_X8_180 : Cond.constant RX8 180 (-1000100) ∈ xTB := xTB_of (xtb_4 (List.mem_of_getElem? (i := 236) rfl)) rfl
set_option maxRecDepth 20000 in
theorem fl_X8_22 : XFL RX8 22 7 13 := ⟨RX8, TX8, 24, rfl, by decide, xTB_of (xtb_4 (List.mem_of_getElem? (i := 60) rfl)) rfl, xin_X8, rfl⟩
set_option maxRecDepth 20000 in
theorem fp_X8_181 : XFP RX8 181 7 17 .int := ⟨RX8, TX8, 24, tyX8, rfl, by decide, xTB_of (xtb_4 (List.mem_of_getElem? (i := 64) rfl)) rfl, xin_X8, rfl, tyX8_ok, nmX8, rfl, rfl⟩
set_option maxRecDepth 20000 in
theorem fl_X8_177 : XFL RX8 177 7 11 := ⟨RX8, TX8, 24, rfl, by decide, xTB_of (xtb_4 (List.mem_of_getElem? (i := 58) rfl)) rfl, xin_X8, rfl⟩
set_option maxRecDepth 20000 in
theorem ml_X8_184 : XLS RX8 184 mX8_has := ⟨xTB_of (xtb_5 (List.mem_of_getElem? (i := 22) rfl)) rfl, xTB_of (xtb_5 (List.mem_of_getElem? (i := 23) rfl)) rfl, xTB_of (xtb_1 (List.mem_of_getElem? (i := 8) rfl)) rfl⟩
set_option maxRecDepth 20000 in
theorem ml_X8_187 : XLV RX8 187 mX8_meetsEast := ⟨xTB_of (xtb_5 (List.mem_of_getElem? (i := 29) rfl)) rfl, xTB_of (xtb_5 (List.mem_of_getElem? (i := 31) rfl)) rfl, xTB_of (xtb_p (List.mem_of_getElem? (i := 53) rfl)) rfl, xTB_of (xtb_1 (List.mem_of_getElem? (i := 8) rfl)) rfl⟩
set_option maxRecDepth 20000 in
theorem ml_X8_190 : XLV RX8 190 mX8_isStopped := ⟨xTB_of (xtb_5 (List.mem_of_getElem? (i := 33) rfl)) rfl, xTB_of (xtb_5 (List.mem_of_getElem? (i := 35) rfl)) rfl, xTB_of (xtb_p (List.mem_of_getElem? (i := 54) rfl)) rfl, xTB_of (xtb_1 (List.mem_of_getElem? (i := 8) rfl)) rfl⟩
set_option maxRecDepth 20000 in
theorem fl_X8_181 : XFL RX8 181 7 17 := ⟨RX8, TX8, 24, rfl, by decide, xTB_of (xtb_4 (List.mem_of_getElem? (i := 64) rfl)) rfl, xin_X8, rfl⟩
set_option maxRecDepth 20000 in
theorem fl_X8_35 : XFL RX8 35 7 18 := ⟨RX8, TX8, 24, rfl, by decide, xTB_of (xtb_4 (List.mem_of_getElem? (i := 65) rfl)) rfl, xin_X8, rfl⟩
set_option maxRecDepth 20000 in
theorem ml_X8_193 : XLV RX8 193 mX8_isLie := ⟨xTB_of (xtb_5 (List.mem_of_getElem? (i := 18) rfl)) rfl, xTB_of (xtb_5 (List.mem_of_getElem? (i := 20) rfl)) rfl, xTB_of (xtb_p (List.mem_of_getElem? (i := 51) rfl)) rfl, xTB_of (xtb_1 (List.mem_of_getElem? (i := 8) rfl)) rfl⟩
set_option maxRecDepth 20000 in
theorem ml_X8_196 : XLV RX8 196 mX8_slide := ⟨xTB_of (xtb_5 (List.mem_of_getElem? (i := 25) rfl)) rfl, xTB_of (xtb_5 (List.mem_of_getElem? (i := 27) rfl)) rfl, xTB_of (xtb_p (List.mem_of_getElem? (i := 52) rfl)) rfl, xTB_of (xtb_1 (List.mem_of_getElem? (i := 8) rfl)) rfl⟩
set_option maxRecDepth 20000 in
theorem ml_X8_199 : XLV RX8 199 mX8_isThere := ⟨xTB_of (xtb_5 (List.mem_of_getElem? (i := 5) rfl)) rfl, xTB_of (xtb_5 (List.mem_of_getElem? (i := 7) rfl)) rfl, xTB_of (xtb_p (List.mem_of_getElem? (i := 48) rfl)) rfl, xTB_of (xtb_1 (List.mem_of_getElem? (i := 8) rfl)) rfl⟩
set_option maxRecDepth 20000 in
theorem ml_X8_202 : XLV RX8 202 mX8_isDrowned := ⟨xTB_of (xtb_5 (List.mem_of_getElem? (i := 9) rfl)) rfl, xTB_of (xtb_5 (List.mem_of_getElem? (i := 11) rfl)) rfl, xTB_of (xtb_p (List.mem_of_getElem? (i := 49) rfl)) rfl, xTB_of (xtb_1 (List.mem_of_getElem? (i := 8) rfl)) rfl⟩
set_option maxRecDepth 20000 in
theorem kc_X8_205 : Cond.constant RX8 205 (-1000002) ∈ xTB := xTB_of (xtb_5 (List.mem_of_getElem? (i := 13) rfl)) rfl
set_option maxRecDepth 20000 in
theorem ml_X8_206 : XLV RX8 206 mX8_saying := ⟨xTB_of (xtb_5 (List.mem_of_getElem? (i := 14) rfl)) rfl, xTB_of (xtb_5 (List.mem_of_getElem? (i := 16) rfl)) rfl, xTB_of (xtb_p (List.mem_of_getElem? (i := 50) rfl)) rfl, xTB_of (xtb_1 (List.mem_of_getElem? (i := 8) rfl)) rfl⟩
set_option maxRecDepth 20000 in
theorem ml_X8_210 : XLV RX8 210 mX8_isOpen := ⟨xTB_of (xtb_5 (List.mem_of_getElem? (i := 49) rfl)) rfl, xTB_of (xtb_5 (List.mem_of_getElem? (i := 51) rfl)) rfl, xTB_of (xtb_p (List.mem_of_getElem? (i := 55) rfl)) rfl, xTB_of (xtb_1 (List.mem_of_getElem? (i := 8) rfl)) rfl⟩
set_option maxRecDepth 20000 in
theorem ml_X8_213 : XLV RX8 213 mX8_isBoxed := ⟨xTB_of (xtb_5 (List.mem_of_getElem? (i := 53) rfl)) rfl, xTB_of (xtb_5 (List.mem_of_getElem? (i := 55) rfl)) rfl, xTB_of (xtb_p (List.mem_of_getElem? (i := 56) rfl)) rfl, xTB_of (xtb_1 (List.mem_of_getElem? (i := 8) rfl)) rfl⟩
set_option maxRecDepth 20000 in
theorem ml_X8_216 : XLV RX8 216 mX8_rentOf := ⟨xTB_of (xtb_5 (List.mem_of_getElem? (i := 57) rfl)) rfl, xTB_of (xtb_5 (List.mem_of_getElem? (i := 59) rfl)) rfl, xTB_of (xtb_p (List.mem_of_getElem? (i := 57) rfl)) rfl, xTB_of (xtb_1 (List.mem_of_getElem? (i := 8) rfl)) rfl⟩
set_option maxRecDepth 20000 in
theorem fl_X8_38 : XFL RX8 38 7 19 := ⟨RX8, TX8, 24, rfl, by decide, xTB_of (xtb_4 (List.mem_of_getElem? (i := 66) rfl)) rfl, xin_X8, rfl⟩
set_option maxRecDepth 20000 in
theorem ml_X8_219 : XLV RX8 219 mX8_putAside := ⟨xTB_of (xtb_5 (List.mem_of_getElem? (i := 77) rfl)) rfl, xTB_of (xtb_5 (List.mem_of_getElem? (i := 79) rfl)) rfl, xTB_of (xtb_p (List.mem_of_getElem? (i := 60) rfl)) rfl, xTB_of (xtb_1 (List.mem_of_getElem? (i := 8) rfl)) rfl⟩
set_option maxRecDepth 20000 in
theorem ml_X8_222 : XLV RX8 222 mX8_putBack := ⟨xTB_of (xtb_5 (List.mem_of_getElem? (i := 81) rfl)) rfl, xTB_of (xtb_5 (List.mem_of_getElem? (i := 83) rfl)) rfl, xTB_of (xtb_p (List.mem_of_getElem? (i := 61) rfl)) rfl, xTB_of (xtb_1 (List.mem_of_getElem? (i := 8) rfl)) rfl⟩
set_option maxRecDepth 20000 in
theorem ml_X8_225 : XLV RX8 225 mX8_whyNot := ⟨xTB_of (xtb_5 (List.mem_of_getElem? (i := 69) rfl)) rfl, xTB_of (xtb_5 (List.mem_of_getElem? (i := 71) rfl)) rfl, xTB_of (xtb_p (List.mem_of_getElem? (i := 58) rfl)) rfl, xTB_of (xtb_1 (List.mem_of_getElem? (i := 8) rfl)) rfl⟩
set_option maxRecDepth 20000 in
theorem ml_X8_229 : XLV RX8 229 mX8_isSo := ⟨xTB_of (xtb_5 (List.mem_of_getElem? (i := 73) rfl)) rfl, xTB_of (xtb_5 (List.mem_of_getElem? (i := 75) rfl)) rfl, xTB_of (xtb_p (List.mem_of_getElem? (i := 59) rfl)) rfl, xTB_of (xtb_1 (List.mem_of_getElem? (i := 8) rfl)) rfl⟩
set_option maxRecDepth 20000 in
theorem fl_X8_47 : XFL RX8 47 7 23 := ⟨RX8, TX8, 24, rfl, by decide, xTB_of (xtb_4 (List.mem_of_getElem? (i := 70) rfl)) rfl, xin_X8, rfl⟩
set_option maxRecDepth 20000 in
theorem ml_X8_233 : XLS RX8 233 mX8_bits := ⟨xTB_of (xtb_5 (List.mem_of_getElem? (i := 89) rfl)) rfl, xTB_of (xtb_5 (List.mem_of_getElem? (i := 90) rfl)) rfl, xTB_of (xtb_1 (List.mem_of_getElem? (i := 8) rfl)) rfl⟩
set_option maxRecDepth 20000 in
theorem ml_X8_236 : XLS RX8 236 mX8_rows := ⟨xTB_of (xtb_5 (List.mem_of_getElem? (i := 96) rfl)) rfl, xTB_of (xtb_5 (List.mem_of_getElem? (i := 97) rfl)) rfl, xTB_of (xtb_1 (List.mem_of_getElem? (i := 8) rfl)) rfl⟩
set_option maxRecDepth 20000 in
theorem ml_X8_239 : XLS RX8 239 mX8_whose := ⟨xTB_of (xtb_5 (List.mem_of_getElem? (i := 103) rfl)) rfl, xTB_of (xtb_5 (List.mem_of_getElem? (i := 104) rfl)) rfl, xTB_of (xtb_1 (List.mem_of_getElem? (i := 8) rfl)) rfl⟩
set_option maxRecDepth 20000 in
theorem ml_X8_243 : XLV RX8 243 mX8_brings := ⟨xTB_of (xtb_5 (List.mem_of_getElem? (i := 99) rfl)) rfl, xTB_of (xtb_5 (List.mem_of_getElem? (i := 101) rfl)) rfl, xTB_of (xtb_p (List.mem_of_getElem? (i := 62) rfl)) rfl, xTB_of (xtb_1 (List.mem_of_getElem? (i := 8) rfl)) rfl⟩
set_option maxRecDepth 20000 in
theorem fl_X8_28 : XFL RX8 28 7 15 := ⟨RX8, TX8, 24, rfl, by decide, xTB_of (xtb_4 (List.mem_of_getElem? (i := 62) rfl)) rfl, xin_X8, rfl⟩
set_option maxRecDepth 20000 in
theorem fl_X8_31 : XFL RX8 31 7 16 := ⟨RX8, TX8, 24, rfl, by decide, xTB_of (xtb_4 (List.mem_of_getElem? (i := 63) rfl)) rfl, xin_X8, rfl⟩
set_option maxRecDepth 20000 in
theorem ml_X8_246 : XLS RX8 246 mX8_above := ⟨xTB_of (xtb_5 (List.mem_of_getElem? (i := 129) rfl)) rfl, xTB_of (xtb_5 (List.mem_of_getElem? (i := 130) rfl)) rfl, xTB_of (xtb_1 (List.mem_of_getElem? (i := 8) rfl)) rfl⟩
set_option maxRecDepth 20000 in
theorem ml_X8_249 : XLS RX8 249 mX8_isKind := ⟨xTB_of (xtb_5 (List.mem_of_getElem? (i := 126) rfl)) rfl, xTB_of (xtb_5 (List.mem_of_getElem? (i := 127) rfl)) rfl, xTB_of (xtb_1 (List.mem_of_getElem? (i := 8) rfl)) rfl⟩
set_option maxRecDepth 20000 in
theorem fl_X8_252 : XFL RX8 252 7 20 := ⟨RX8, TX8, 24, rfl, by decide, xTB_of (xtb_4 (List.mem_of_getElem? (i := 67) rfl)) rfl, xin_X8, rfl⟩
set_option maxRecDepth 20000 in
theorem fl_X8_41 : XFL RX8 41 7 21 := ⟨RX8, TX8, 24, rfl, by decide, xTB_of (xtb_4 (List.mem_of_getElem? (i := 68) rfl)) rfl, xin_X8, rfl⟩
set_option maxRecDepth 20000 in
theorem fp_X8_252 : XFP RX8 252 7 20 .int := ⟨RX8, TX8, 24, tyX8, rfl, by decide, xTB_of (xtb_4 (List.mem_of_getElem? (i := 67) rfl)) rfl, xin_X8, rfl, tyX8_ok, nmX8, rfl, rfl⟩
set_option maxRecDepth 20000 in
theorem ml_X8_255 : XLV RX8 255 mX8_leave := ⟨xTB_of (xtb_5 (List.mem_of_getElem? (i := 144) rfl)) rfl, xTB_of (xtb_5 (List.mem_of_getElem? (i := 146) rfl)) rfl, xTB_of (xtb_p (List.mem_of_getElem? (i := 65) rfl)) rfl, xTB_of (xtb_1 (List.mem_of_getElem? (i := 8) rfl)) rfl⟩
set_option maxRecDepth 20000 in
theorem ml_X8_259 : XLV RX8 259 mX8_body10 := ⟨xTB_of (xtb_5 (List.mem_of_getElem? (i := 156) rfl)) rfl, xTB_of (xtb_5 (List.mem_of_getElem? (i := 158) rfl)) rfl, xTB_of (xtb_p (List.mem_of_getElem? (i := 68) rfl)) rfl, xTB_of (xtb_1 (List.mem_of_getElem? (i := 8) rfl)) rfl⟩
set_option maxRecDepth 20000 in
theorem ml_X8_262 : XLV RX8 262 mX8_markOf := ⟨xTB_of (xtb_5 (List.mem_of_getElem? (i := 136) rfl)) rfl, xTB_of (xtb_5 (List.mem_of_getElem? (i := 138) rfl)) rfl, xTB_of (xtb_p (List.mem_of_getElem? (i := 63) rfl)) rfl, xTB_of (xtb_1 (List.mem_of_getElem? (i := 8) rfl)) rfl⟩
set_option maxRecDepth 20000 in
theorem ml_X8_265 : XLV RX8 265 mX8_body11 := ⟨xTB_of (xtb_5 (List.mem_of_getElem? (i := 180) rfl)) rfl, xTB_of (xtb_5 (List.mem_of_getElem? (i := 182) rfl)) rfl, xTB_of (xtb_p (List.mem_of_getElem? (i := 74) rfl)) rfl, xTB_of (xtb_1 (List.mem_of_getElem? (i := 8) rfl)) rfl⟩
set_option maxRecDepth 20000 in
theorem ml_X8_268 : XLV RX8 268 mX8_body12 := ⟨xTB_of (xtb_5 (List.mem_of_getElem? (i := 176) rfl)) rfl, xTB_of (xtb_5 (List.mem_of_getElem? (i := 178) rfl)) rfl, xTB_of (xtb_p (List.mem_of_getElem? (i := 73) rfl)) rfl, xTB_of (xtb_1 (List.mem_of_getElem? (i := 8) rfl)) rfl⟩
set_option maxRecDepth 20000 in
theorem ml_X8_271 : XLV RX8 271 mX8_body14 := ⟨xTB_of (xtb_5 (List.mem_of_getElem? (i := 184) rfl)) rfl, xTB_of (xtb_5 (List.mem_of_getElem? (i := 186) rfl)) rfl, xTB_of (xtb_p (List.mem_of_getElem? (i := 75) rfl)) rfl, xTB_of (xtb_1 (List.mem_of_getElem? (i := 8) rfl)) rfl⟩
set_option maxRecDepth 20000 in
theorem ml_X8_274 : XLV RX8 274 mX8_body20 := ⟨xTB_of (xtb_5 (List.mem_of_getElem? (i := 148) rfl)) rfl, xTB_of (xtb_5 (List.mem_of_getElem? (i := 150) rfl)) rfl, xTB_of (xtb_p (List.mem_of_getElem? (i := 66) rfl)) rfl, xTB_of (xtb_1 (List.mem_of_getElem? (i := 8) rfl)) rfl⟩
set_option maxRecDepth 20000 in
theorem ml_X8_277 : XLV RX8 277 mX8_body21 := ⟨xTB_of (xtb_5 (List.mem_of_getElem? (i := 164) rfl)) rfl, xTB_of (xtb_5 (List.mem_of_getElem? (i := 166) rfl)) rfl, xTB_of (xtb_p (List.mem_of_getElem? (i := 70) rfl)) rfl, xTB_of (xtb_1 (List.mem_of_getElem? (i := 8) rfl)) rfl⟩
set_option maxRecDepth 20000 in
theorem ml_X8_280 : XLV RX8 280 mX8_body13 := ⟨xTB_of (xtb_5 (List.mem_of_getElem? (i := 152) rfl)) rfl, xTB_of (xtb_5 (List.mem_of_getElem? (i := 154) rfl)) rfl, xTB_of (xtb_p (List.mem_of_getElem? (i := 67) rfl)) rfl, xTB_of (xtb_1 (List.mem_of_getElem? (i := 8) rfl)) rfl⟩
set_option maxRecDepth 20000 in
theorem ml_X8_283 : XLV RX8 283 mX8_body22 := ⟨xTB_of (xtb_5 (List.mem_of_getElem? (i := 160) rfl)) rfl, xTB_of (xtb_5 (List.mem_of_getElem? (i := 162) rfl)) rfl, xTB_of (xtb_p (List.mem_of_getElem? (i := 69) rfl)) rfl, xTB_of (xtb_1 (List.mem_of_getElem? (i := 8) rfl)) rfl⟩
set_option maxRecDepth 20000 in
theorem ml_X8_286 : XLV RX8 286 mX8_body23 := ⟨xTB_of (xtb_5 (List.mem_of_getElem? (i := 140) rfl)) rfl, xTB_of (xtb_5 (List.mem_of_getElem? (i := 142) rfl)) rfl, xTB_of (xtb_p (List.mem_of_getElem? (i := 64) rfl)) rfl, xTB_of (xtb_1 (List.mem_of_getElem? (i := 8) rfl)) rfl⟩
set_option maxRecDepth 20000 in
theorem ml_X8_289 : XLV RX8 289 mX8_body24 := ⟨xTB_of (xtb_5 (List.mem_of_getElem? (i := 168) rfl)) rfl, xTB_of (xtb_5 (List.mem_of_getElem? (i := 170) rfl)) rfl, xTB_of (xtb_p (List.mem_of_getElem? (i := 71) rfl)) rfl, xTB_of (xtb_1 (List.mem_of_getElem? (i := 8) rfl)) rfl⟩
set_option maxRecDepth 20000 in
theorem ml_X8_292 : XLV RX8 292 mX8_sizeOfOther := ⟨xTB_of (xtb_5 (List.mem_of_getElem? (i := 172) rfl)) rfl, xTB_of (xtb_5 (List.mem_of_getElem? (i := 174) rfl)) rfl, xTB_of (xtb_p (List.mem_of_getElem? (i := 72) rfl)) rfl, xTB_of (xtb_1 (List.mem_of_getElem? (i := 8) rfl)) rfl⟩
set_option maxRecDepth 20000 in
theorem fl_X8_51 : XFL RX8 51 7 3 := ⟨RX8, TX8, 24, rfl, by decide, xTB_of (xtb_4 (List.mem_of_getElem? (i := 50) rfl)) rfl, xin_X8, rfl⟩
set_option maxRecDepth 20000 in
theorem kc_J6_265 : Cond.constant RJ6 265 (1431655765) ∈ xTB := xTB_of (xtb_3 (List.mem_of_getElem? (i := 148) rfl)) rfl
set_option maxRecDepth 20000 in
theorem kc_J6_266 : Cond.constant RJ6 266 (858993459) ∈ xTB := xTB_of (xtb_3 (List.mem_of_getElem? (i := 149) rfl)) rfl
set_option maxRecDepth 20000 in
theorem kc_J6_267 : Cond.constant RJ6 267 (252645135) ∈ xTB := xTB_of (xtb_3 (List.mem_of_getElem? (i := 150) rfl)) rfl
set_option maxRecDepth 20000 in
theorem fj_J0_9 : Cond.fieldLink RJ0 9 "java/lang/String" "value" "[B" ∈ xTB := xTB_of (xtb_5 (List.mem_of_getElem? (i := 201) rfl)) rfl
set_option maxRecDepth 20000 in
theorem ml_J0_335 : XLV RJ0 335 mJ0_coder_7d493 := ⟨xTB_of (xtb_2 (List.mem_of_getElem? (i := 90) rfl)) rfl, xTB_of (xtb_2 (List.mem_of_getElem? (i := 91) rfl)) rfl, xTB_of (xtb_2 (List.mem_of_getElem? (i := 92) rfl)) rfl, xTB_of (xtb_1 (List.mem_of_getElem? (i := 10) rfl)) rfl⟩
set_option maxRecDepth 20000 in
theorem ml_J0_492 : XLV RJ0 492 mJ0_isLatin1_aae02 := ⟨xTB_of (xtb_2 (List.mem_of_getElem? (i := 100) rfl)) rfl, xTB_of (xtb_2 (List.mem_of_getElem? (i := 101) rfl)) rfl, xTB_of (xtb_2 (List.mem_of_getElem? (i := 102) rfl)) rfl, xTB_of (xtb_1 (List.mem_of_getElem? (i := 10) rfl)) rfl⟩
set_option maxRecDepth 20000 in
theorem ml_J0_495 : XLS RJ0 495 mJ1_charAt_3b067 := ⟨xTB_of (xtb_2 (List.mem_of_getElem? (i := 104) rfl)) rfl, xTB_of (xtb_2 (List.mem_of_getElem? (i := 105) rfl)) rfl, xTB_of (xtb_1 (List.mem_of_getElem? (i := 11) rfl)) rfl⟩
set_option maxRecDepth 20000 in
theorem ml_J0_498 : XLS RJ0 498 mJ2_charAt_3b067 := ⟨xTB_of (xtb_2 (List.mem_of_getElem? (i := 115) rfl)) rfl, xTB_of (xtb_2 (List.mem_of_getElem? (i := 116) rfl)) rfl, xTB_of (xtb_1 (List.mem_of_getElem? (i := 13) rfl)) rfl⟩
set_option maxRecDepth 20000 in
theorem fs_J0_38 : Cond.fieldLink RJ0 38 "java/lang/String" "COMPACT_STRINGS" "Z" ∈ xTB := xTB_of (xtb_2 (List.mem_of_getElem? (i := 94) rfl)) rfl
set_option maxRecDepth 20000 in
theorem fj_J0_15 : Cond.fieldLink RJ0 15 "java/lang/String" "coder" "B" ∈ xTB := xTB_of (xtb_5 (List.mem_of_getElem? (i := 202) rfl)) rfl
set_option maxRecDepth 20000 in
theorem fs_J0_1053 : Cond.fieldLink RJ0 1053 "jdk/internal/util/Preconditions" "SIOOBE_FORMATTER" "Ljava/util/function/BiFunction;" ∈ xTB := xTB_of (xtb_2 (List.mem_of_getElem? (i := 110) rfl)) rfl
set_option maxRecDepth 20000 in
theorem ml_J0_1059 : XLS RJ0 1059 mJ3_checkIndex_8e157 := ⟨xTB_of (xtb_2 (List.mem_of_getElem? (i := 112) rfl)) rfl, xTB_of (xtb_2 (List.mem_of_getElem? (i := 113) rfl)) rfl, xTB_of (xtb_1 (List.mem_of_getElem? (i := 12) rfl)) rfl⟩
set_option maxRecDepth 20000 in
theorem ml_J1_9 : XLS RJ1 9 mJ0_checkIndex_df160 := ⟨xTB_of (xtb_2 (List.mem_of_getElem? (i := 107) rfl)) rfl, xTB_of (xtb_2 (List.mem_of_getElem? (i := 108) rfl)) rfl, xTB_of (xtb_1 (List.mem_of_getElem? (i := 10) rfl)) rfl⟩
set_option maxRecDepth 20000 in
theorem fs_J2_44 : Cond.fieldLink RJ2 44 "java/lang/StringUTF16" "$assertionsDisabled" "Z" ∈ xTB := xTB_of (xtb_2 (List.mem_of_getElem? (i := 128) rfl)) rfl
set_option maxRecDepth 20000 in
theorem ml_J2_48 : XLS RJ2 48 mJ2_length_9d52b := ⟨xTB_of (xtb_2 (List.mem_of_getElem? (i := 121) rfl)) rfl, xTB_of (xtb_2 (List.mem_of_getElem? (i := 122) rfl)) rfl, xTB_of (xtb_1 (List.mem_of_getElem? (i := 13) rfl)) rfl⟩
set_option maxRecDepth 20000 in
theorem fs_J2_59 : Cond.fieldLink RJ2 59 "java/lang/StringUTF16" "HI_BYTE_SHIFT" "I" ∈ xTB := xTB_of (xtb_2 (List.mem_of_getElem? (i := 130) rfl)) rfl
set_option maxRecDepth 20000 in
theorem fs_J2_63 : Cond.fieldLink RJ2 63 "java/lang/StringUTF16" "LO_BYTE_SHIFT" "I" ∈ xTB := xTB_of (xtb_2 (List.mem_of_getElem? (i := 132) rfl)) rfl
set_option maxRecDepth 20000 in
theorem ml_J2_67 : XLS RJ2 67 mJ2_checkIndex_2214a := ⟨xTB_of (xtb_2 (List.mem_of_getElem? (i := 118) rfl)) rfl, xTB_of (xtb_2 (List.mem_of_getElem? (i := 119) rfl)) rfl, xTB_of (xtb_1 (List.mem_of_getElem? (i := 13) rfl)) rfl⟩
set_option maxRecDepth 20000 in
theorem ml_J2_71 : XLS RJ2 71 mJ2_getChar_3b067 := ⟨xTB_of (xtb_2 (List.mem_of_getElem? (i := 125) rfl)) rfl, xTB_of (xtb_2 (List.mem_of_getElem? (i := 126) rfl)) rfl, xTB_of (xtb_1 (List.mem_of_getElem? (i := 13) rfl)) rfl⟩
set_option maxRecDepth 20000 in
theorem ml_J2_414 : XLS RJ2 414 mJ0_checkIndex_df160 := ⟨xTB_of (xtb_2 (List.mem_of_getElem? (i := 124) rfl)) rfl, xTB_of (xtb_2 (List.mem_of_getElem? (i := 108) rfl)) rfl, xTB_of (xtb_1 (List.mem_of_getElem? (i := 10) rfl)) rfl⟩
set_option maxRecDepth 20000 in
theorem ml_L_13 : XLV RL 13 mX7_row := ⟨xTB_of (xtb_1 (List.mem_of_getElem? (i := 215) rfl)) rfl, xTB_of (xtb_1 (List.mem_of_getElem? (i := 216) rfl)) rfl, xTB_of (xtb_1 (List.mem_of_getElem? (i := 217) rfl)) rfl, xTB_of (xtb_1 (List.mem_of_getElem? (i := 1) rfl)) rfl⟩
set_option maxRecDepth 20000 in
theorem ml_L_17 : XLV RL 17 mX8_row := ⟨xTB_of (xtb_4 (List.mem_of_getElem? (i := 121) rfl)) rfl, xTB_of (xtb_4 (List.mem_of_getElem? (i := 122) rfl)) rfl, xTB_of (xtb_4 (List.mem_of_getElem? (i := 123) rfl)) rfl, xTB_of (xtb_1 (List.mem_of_getElem? (i := 8) rfl)) rfl⟩
set_option maxRecDepth 20000 in
theorem ml_L_18 : XLV RL 18 mX7_set := ⟨xTB_of (xtb_2 (List.mem_of_getElem? (i := 1) rfl)) rfl, xTB_of (xtb_2 (List.mem_of_getElem? (i := 2) rfl)) rfl, xTB_of (xtb_2 (List.mem_of_getElem? (i := 3) rfl)) rfl, xTB_of (xtb_1 (List.mem_of_getElem? (i := 1) rfl)) rfl⟩
set_option maxRecDepth 20000 in
theorem ml_L_21 : XLV RL 21 mX8_set := ⟨xTB_of (xtb_4 (List.mem_of_getElem? (i := 141) rfl)) rfl, xTB_of (xtb_4 (List.mem_of_getElem? (i := 142) rfl)) rfl, xTB_of (xtb_4 (List.mem_of_getElem? (i := 143) rfl)) rfl, xTB_of (xtb_1 (List.mem_of_getElem? (i := 8) rfl)) rfl⟩
set_option maxRecDepth 20000 in
theorem ml_L_22 : XLV RL 22 mX7_copy := ⟨xTB_of (xtb_2 (List.mem_of_getElem? (i := 17) rfl)) rfl, xTB_of (xtb_2 (List.mem_of_getElem? (i := 18) rfl)) rfl, xTB_of (xtb_2 (List.mem_of_getElem? (i := 19) rfl)) rfl, xTB_of (xtb_1 (List.mem_of_getElem? (i := 1) rfl)) rfl⟩
set_option maxRecDepth 20000 in
theorem ml_L_26 : XLV RL 26 mX8_copy := ⟨xTB_of (xtb_4 (List.mem_of_getElem? (i := 149) rfl)) rfl, xTB_of (xtb_4 (List.mem_of_getElem? (i := 150) rfl)) rfl, xTB_of (xtb_4 (List.mem_of_getElem? (i := 151) rfl)) rfl, xTB_of (xtb_1 (List.mem_of_getElem? (i := 8) rfl)) rfl⟩
set_option maxRecDepth 20000 in
theorem ml_L_27 : XLV RL 27 mX7_drop := ⟨xTB_of (xtb_2 (List.mem_of_getElem? (i := 32) rfl)) rfl, xTB_of (xtb_2 (List.mem_of_getElem? (i := 33) rfl)) rfl, xTB_of (xtb_2 (List.mem_of_getElem? (i := 34) rfl)) rfl, xTB_of (xtb_1 (List.mem_of_getElem? (i := 1) rfl)) rfl⟩
set_option maxRecDepth 20000 in
theorem ml_L_31 : XLV RL 31 mX8_drop := ⟨xTB_of (xtb_4 (List.mem_of_getElem? (i := 153) rfl)) rfl, xTB_of (xtb_4 (List.mem_of_getElem? (i := 154) rfl)) rfl, xTB_of (xtb_4 (List.mem_of_getElem? (i := 155) rfl)) rfl, xTB_of (xtb_1 (List.mem_of_getElem? (i := 8) rfl)) rfl⟩
set_option maxRecDepth 20000 in
theorem kc_L_32 : Cond.constantLong RL 32 (4294967295) ∈ xTB := xTB_of (xtb_5 (List.mem_of_getElem? (i := 200) rfl)) rfl
set_option maxRecDepth 20000 in
theorem ml_L_34 : XLV RL 34 mX7_feed := ⟨xTB_of (xtb_2 (List.mem_of_getElem? (i := 40) rfl)) rfl, xTB_of (xtb_2 (List.mem_of_getElem? (i := 41) rfl)) rfl, xTB_of (xtb_2 (List.mem_of_getElem? (i := 42) rfl)) rfl, xTB_of (xtb_1 (List.mem_of_getElem? (i := 1) rfl)) rfl⟩
set_option maxRecDepth 20000 in
theorem ml_L_38 : XLV RL 38 mX8_feed := ⟨xTB_of (xtb_4 (List.mem_of_getElem? (i := 157) rfl)) rfl, xTB_of (xtb_4 (List.mem_of_getElem? (i := 158) rfl)) rfl, xTB_of (xtb_4 (List.mem_of_getElem? (i := 159) rfl)) rfl, xTB_of (xtb_1 (List.mem_of_getElem? (i := 8) rfl)) rfl⟩
set_option maxRecDepth 20000 in
theorem ml_L_39 : XLV RL 39 mX7_field := ⟨xTB_of (xtb_2 (List.mem_of_getElem? (i := 53) rfl)) rfl, xTB_of (xtb_2 (List.mem_of_getElem? (i := 54) rfl)) rfl, xTB_of (xtb_2 (List.mem_of_getElem? (i := 55) rfl)) rfl, xTB_of (xtb_1 (List.mem_of_getElem? (i := 1) rfl)) rfl⟩
set_option maxRecDepth 20000 in
theorem ml_L_43 : XLV RL 43 mX8_field := ⟨xTB_of (xtb_4 (List.mem_of_getElem? (i := 163) rfl)) rfl, xTB_of (xtb_4 (List.mem_of_getElem? (i := 164) rfl)) rfl, xTB_of (xtb_4 (List.mem_of_getElem? (i := 165) rfl)) rfl, xTB_of (xtb_1 (List.mem_of_getElem? (i := 8) rfl)) rfl⟩
set_option maxRecDepth 20000 in
theorem ml_L_44 : XLV RL 44 mX7_fault := ⟨xTB_of (xtb_2 (List.mem_of_getElem? (i := 212) rfl)) rfl, xTB_of (xtb_2 (List.mem_of_getElem? (i := 213) rfl)) rfl, xTB_of (xtb_2 (List.mem_of_getElem? (i := 214) rfl)) rfl, xTB_of (xtb_1 (List.mem_of_getElem? (i := 1) rfl)) rfl⟩
set_option maxRecDepth 20000 in
theorem ml_L_47 : XLV RL 47 mX8_fault := ⟨xTB_of (xtb_4 (List.mem_of_getElem? (i := 237) rfl)) rfl, xTB_of (xtb_4 (List.mem_of_getElem? (i := 238) rfl)) rfl, xTB_of (xtb_4 (List.mem_of_getElem? (i := 239) rfl)) rfl, xTB_of (xtb_1 (List.mem_of_getElem? (i := 8) rfl)) rfl⟩
set_option maxRecDepth 20000 in
theorem ml_L_48 : XLV RL 48 mX7_say := ⟨xTB_of (xtb_2 (List.mem_of_getElem? (i := 220) rfl)) rfl, xTB_of (xtb_2 (List.mem_of_getElem? (i := 221) rfl)) rfl, xTB_of (xtb_2 (List.mem_of_getElem? (i := 222) rfl)) rfl, xTB_of (xtb_1 (List.mem_of_getElem? (i := 1) rfl)) rfl⟩
set_option maxRecDepth 20000 in
theorem ml_L_52 : XLV RL 52 mX8_say := ⟨xTB_of (xtb_5 (List.mem_of_getElem? (i := 1) rfl)) rfl, xTB_of (xtb_5 (List.mem_of_getElem? (i := 2) rfl)) rfl, xTB_of (xtb_5 (List.mem_of_getElem? (i := 3) rfl)) rfl, xTB_of (xtb_1 (List.mem_of_getElem? (i := 8) rfl)) rfl⟩
set_option maxRecDepth 20000 in
theorem ml_L_53 : XLV RL 53 mX7_talk := ⟨xTB_of (xtb_3 (List.mem_of_getElem? (i := 36) rfl)) rfl, xTB_of (xtb_3 (List.mem_of_getElem? (i := 37) rfl)) rfl, xTB_of (xtb_3 (List.mem_of_getElem? (i := 38) rfl)) rfl, xTB_of (xtb_1 (List.mem_of_getElem? (i := 1) rfl)) rfl⟩
set_option maxRecDepth 20000 in
theorem ml_L_56 : XLV RL 56 mX8_talk := ⟨xTB_of (xtb_5 (List.mem_of_getElem? (i := 37) rfl)) rfl, xTB_of (xtb_5 (List.mem_of_getElem? (i := 38) rfl)) rfl, xTB_of (xtb_5 (List.mem_of_getElem? (i := 39) rfl)) rfl, xTB_of (xtb_1 (List.mem_of_getElem? (i := 8) rfl)) rfl⟩
set_option maxRecDepth 20000 in
theorem ml_L_57 : XLV RL 57 mX7_undo := ⟨xTB_of (xtb_3 (List.mem_of_getElem? (i := 56) rfl)) rfl, xTB_of (xtb_3 (List.mem_of_getElem? (i := 57) rfl)) rfl, xTB_of (xtb_3 (List.mem_of_getElem? (i := 58) rfl)) rfl, xTB_of (xtb_1 (List.mem_of_getElem? (i := 1) rfl)) rfl⟩
set_option maxRecDepth 20000 in
theorem ml_L_60 : XLV RL 60 mX8_undo := ⟨xTB_of (xtb_5 (List.mem_of_getElem? (i := 41) rfl)) rfl, xTB_of (xtb_5 (List.mem_of_getElem? (i := 42) rfl)) rfl, xTB_of (xtb_5 (List.mem_of_getElem? (i := 43) rfl)) rfl, xTB_of (xtb_1 (List.mem_of_getElem? (i := 8) rfl)) rfl⟩
set_option maxRecDepth 20000 in
theorem ml_L_61 : XLV RL 61 mX7_house := ⟨xTB_of (xtb_3 (List.mem_of_getElem? (i := 68) rfl)) rfl, xTB_of (xtb_3 (List.mem_of_getElem? (i := 69) rfl)) rfl, xTB_of (xtb_3 (List.mem_of_getElem? (i := 70) rfl)) rfl, xTB_of (xtb_1 (List.mem_of_getElem? (i := 1) rfl)) rfl⟩
set_option maxRecDepth 20000 in
theorem ml_L_64 : XLV RL 64 mX8_house := ⟨xTB_of (xtb_5 (List.mem_of_getElem? (i := 45) rfl)) rfl, xTB_of (xtb_5 (List.mem_of_getElem? (i := 46) rfl)) rfl, xTB_of (xtb_5 (List.mem_of_getElem? (i := 47) rfl)) rfl, xTB_of (xtb_1 (List.mem_of_getElem? (i := 8) rfl)) rfl⟩
set_option maxRecDepth 20000 in
theorem ml_L_65 : XLV RL 65 mX7_cell := ⟨xTB_of (xtb_3 (List.mem_of_getElem? (i := 90) rfl)) rfl, xTB_of (xtb_3 (List.mem_of_getElem? (i := 91) rfl)) rfl, xTB_of (xtb_3 (List.mem_of_getElem? (i := 92) rfl)) rfl, xTB_of (xtb_1 (List.mem_of_getElem? (i := 1) rfl)) rfl⟩
set_option maxRecDepth 20000 in
theorem ml_L_68 : XLV RL 68 mX8_cell := ⟨xTB_of (xtb_5 (List.mem_of_getElem? (i := 61) rfl)) rfl, xTB_of (xtb_5 (List.mem_of_getElem? (i := 62) rfl)) rfl, xTB_of (xtb_5 (List.mem_of_getElem? (i := 63) rfl)) rfl, xTB_of (xtb_1 (List.mem_of_getElem? (i := 8) rfl)) rfl⟩
set_option maxRecDepth 20000 in
theorem ml_L_69 : XLV RL 69 mX7_lies := ⟨xTB_of (xtb_3 (List.mem_of_getElem? (i := 98) rfl)) rfl, xTB_of (xtb_3 (List.mem_of_getElem? (i := 99) rfl)) rfl, xTB_of (xtb_3 (List.mem_of_getElem? (i := 100) rfl)) rfl, xTB_of (xtb_1 (List.mem_of_getElem? (i := 1) rfl)) rfl⟩
set_option maxRecDepth 20000 in
theorem ml_L_73 : XLV RL 73 mX8_lies := ⟨xTB_of (xtb_5 (List.mem_of_getElem? (i := 65) rfl)) rfl, xTB_of (xtb_5 (List.mem_of_getElem? (i := 66) rfl)) rfl, xTB_of (xtb_5 (List.mem_of_getElem? (i := 67) rfl)) rfl, xTB_of (xtb_1 (List.mem_of_getElem? (i := 8) rfl)) rfl⟩
set_option maxRecDepth 20000 in
theorem ml_L_74 : XLV RL 74 mX7_guess := ⟨xTB_of (xtb_3 (List.mem_of_getElem? (i := 137) rfl)) rfl, xTB_of (xtb_3 (List.mem_of_getElem? (i := 138) rfl)) rfl, xTB_of (xtb_3 (List.mem_of_getElem? (i := 139) rfl)) rfl, xTB_of (xtb_1 (List.mem_of_getElem? (i := 1) rfl)) rfl⟩
set_option maxRecDepth 20000 in
theorem ml_L_77 : XLV RL 77 mX8_guess := ⟨xTB_of (xtb_5 (List.mem_of_getElem? (i := 85) rfl)) rfl, xTB_of (xtb_5 (List.mem_of_getElem? (i := 86) rfl)) rfl, xTB_of (xtb_5 (List.mem_of_getElem? (i := 87) rfl)) rfl, xTB_of (xtb_1 (List.mem_of_getElem? (i := 8) rfl)) rfl⟩
set_option maxRecDepth 20000 in
theorem ml_L_78 : XLV RL 78 mX7_wanted := ⟨xTB_of (xtb_3 (List.mem_of_getElem? (i := 162) rfl)) rfl, xTB_of (xtb_3 (List.mem_of_getElem? (i := 163) rfl)) rfl, xTB_of (xtb_3 (List.mem_of_getElem? (i := 164) rfl)) rfl, xTB_of (xtb_1 (List.mem_of_getElem? (i := 1) rfl)) rfl⟩
set_option maxRecDepth 20000 in
theorem ml_L_81 : XLV RL 81 mX8_wanted := ⟨xTB_of (xtb_5 (List.mem_of_getElem? (i := 92) rfl)) rfl, xTB_of (xtb_5 (List.mem_of_getElem? (i := 93) rfl)) rfl, xTB_of (xtb_5 (List.mem_of_getElem? (i := 94) rfl)) rfl, xTB_of (xtb_1 (List.mem_of_getElem? (i := 8) rfl)) rfl⟩
set_option maxRecDepth 20000 in
theorem ml_L_82 : XLV RL 82 mX7_brook := ⟨xTB_of (xtb_3 (List.mem_of_getElem? (i := 180) rfl)) rfl, xTB_of (xtb_3 (List.mem_of_getElem? (i := 181) rfl)) rfl, xTB_of (xtb_3 (List.mem_of_getElem? (i := 182) rfl)) rfl, xTB_of (xtb_1 (List.mem_of_getElem? (i := 1) rfl)) rfl⟩
set_option maxRecDepth 20000 in
theorem ml_L_85 : XLV RL 85 mX8_brook := ⟨xTB_of (xtb_5 (List.mem_of_getElem? (i := 106) rfl)) rfl, xTB_of (xtb_5 (List.mem_of_getElem? (i := 107) rfl)) rfl, xTB_of (xtb_5 (List.mem_of_getElem? (i := 108) rfl)) rfl, xTB_of (xtb_1 (List.mem_of_getElem? (i := 8) rfl)) rfl⟩
set_option maxRecDepth 20000 in
theorem ml_L_86 : XLV RL 86 mX7_image := ⟨xTB_of (xtb_3 (List.mem_of_getElem? (i := 188) rfl)) rfl, xTB_of (xtb_3 (List.mem_of_getElem? (i := 189) rfl)) rfl, xTB_of (xtb_3 (List.mem_of_getElem? (i := 190) rfl)) rfl, xTB_of (xtb_1 (List.mem_of_getElem? (i := 1) rfl)) rfl⟩
set_option maxRecDepth 20000 in
theorem ml_L_89 : XLV RL 89 mX8_image := ⟨xTB_of (xtb_5 (List.mem_of_getElem? (i := 110) rfl)) rfl, xTB_of (xtb_5 (List.mem_of_getElem? (i := 111) rfl)) rfl, xTB_of (xtb_5 (List.mem_of_getElem? (i := 112) rfl)) rfl, xTB_of (xtb_1 (List.mem_of_getElem? (i := 8) rfl)) rfl⟩
set_option maxRecDepth 20000 in
theorem ml_L_90 : XLV RL 90 mX7_restore := ⟨xTB_of (xtb_3 (List.mem_of_getElem? (i := 192) rfl)) rfl, xTB_of (xtb_3 (List.mem_of_getElem? (i := 193) rfl)) rfl, xTB_of (xtb_3 (List.mem_of_getElem? (i := 194) rfl)) rfl, xTB_of (xtb_1 (List.mem_of_getElem? (i := 1) rfl)) rfl⟩
set_option maxRecDepth 20000 in
theorem ml_L_93 : XLV RL 93 mX8_restore := ⟨xTB_of (xtb_5 (List.mem_of_getElem? (i := 114) rfl)) rfl, xTB_of (xtb_5 (List.mem_of_getElem? (i := 115) rfl)) rfl, xTB_of (xtb_5 (List.mem_of_getElem? (i := 116) rfl)) rfl, xTB_of (xtb_1 (List.mem_of_getElem? (i := 8) rfl)) rfl⟩
set_option maxRecDepth 20000 in
theorem ml_L_94 : XLV RL 94 mX7_kind := ⟨xTB_of (xtb_3 (List.mem_of_getElem? (i := 196) rfl)) rfl, xTB_of (xtb_3 (List.mem_of_getElem? (i := 197) rfl)) rfl, xTB_of (xtb_3 (List.mem_of_getElem? (i := 198) rfl)) rfl, xTB_of (xtb_1 (List.mem_of_getElem? (i := 1) rfl)) rfl⟩
set_option maxRecDepth 20000 in
theorem ml_L_97 : XLV RL 97 mX8_kind := ⟨xTB_of (xtb_5 (List.mem_of_getElem? (i := 118) rfl)) rfl, xTB_of (xtb_5 (List.mem_of_getElem? (i := 119) rfl)) rfl, xTB_of (xtb_5 (List.mem_of_getElem? (i := 120) rfl)) rfl, xTB_of (xtb_1 (List.mem_of_getElem? (i := 8) rfl)) rfl⟩
set_option maxRecDepth 20000 in
theorem ml_L_98 : XLV RL 98 mX7_as := ⟨xTB_of (xtb_3 (List.mem_of_getElem? (i := 200) rfl)) rfl, xTB_of (xtb_3 (List.mem_of_getElem? (i := 201) rfl)) rfl, xTB_of (xtb_3 (List.mem_of_getElem? (i := 202) rfl)) rfl, xTB_of (xtb_1 (List.mem_of_getElem? (i := 1) rfl)) rfl⟩
set_option maxRecDepth 20000 in
theorem ml_L_101 : XLV RL 101 mX8_as := ⟨xTB_of (xtb_5 (List.mem_of_getElem? (i := 122) rfl)) rfl, xTB_of (xtb_5 (List.mem_of_getElem? (i := 123) rfl)) rfl, xTB_of (xtb_5 (List.mem_of_getElem? (i := 124) rfl)) rfl, xTB_of (xtb_1 (List.mem_of_getElem? (i := 8) rfl)) rfl⟩
set_option maxRecDepth 20000 in
theorem ml_L_102 : XLV RL 102 mX7_ask := ⟨xTB_of (xtb_3 (List.mem_of_getElem? (i := 215) rfl)) rfl, xTB_of (xtb_3 (List.mem_of_getElem? (i := 216) rfl)) rfl, xTB_of (xtb_3 (List.mem_of_getElem? (i := 217) rfl)) rfl, xTB_of (xtb_1 (List.mem_of_getElem? (i := 1) rfl)) rfl⟩
set_option maxRecDepth 20000 in
theorem ml_L_105 : XLV RL 105 mX8_ask := ⟨xTB_of (xtb_5 (List.mem_of_getElem? (i := 132) rfl)) rfl, xTB_of (xtb_5 (List.mem_of_getElem? (i := 133) rfl)) rfl, xTB_of (xtb_5 (List.mem_of_getElem? (i := 134) rfl)) rfl, xTB_of (xtb_1 (List.mem_of_getElem? (i := 8) rfl)) rfl⟩
set_option maxRecDepth 20000 in
theorem ml_L_106 : XLV RL 106 mX7_trace := ⟨xTB_of (xtb_4 (List.mem_of_getElem? (i := 5) rfl)) rfl, xTB_of (xtb_4 (List.mem_of_getElem? (i := 6) rfl)) rfl, xTB_of (xtb_4 (List.mem_of_getElem? (i := 7) rfl)) rfl, xTB_of (xtb_1 (List.mem_of_getElem? (i := 1) rfl)) rfl⟩
set_option maxRecDepth 20000 in
theorem ml_L_109 : XLV RL 109 mX8_trace := ⟨xTB_of (xtb_5 (List.mem_of_getElem? (i := 188) rfl)) rfl, xTB_of (xtb_5 (List.mem_of_getElem? (i := 189) rfl)) rfl, xTB_of (xtb_5 (List.mem_of_getElem? (i := 190) rfl)) rfl, xTB_of (xtb_1 (List.mem_of_getElem? (i := 8) rfl)) rfl⟩
set_option maxRecDepth 20000 in
theorem ml_L_110 : XLV RL 110 mX7_count := ⟨xTB_of (xtb_4 (List.mem_of_getElem? (i := 14) rfl)) rfl, xTB_of (xtb_4 (List.mem_of_getElem? (i := 15) rfl)) rfl, xTB_of (xtb_4 (List.mem_of_getElem? (i := 16) rfl)) rfl, xTB_of (xtb_1 (List.mem_of_getElem? (i := 1) rfl)) rfl⟩
set_option maxRecDepth 20000 in
theorem ml_L_113 : XLV RL 113 mX8_count := ⟨xTB_of (xtb_5 (List.mem_of_getElem? (i := 192) rfl)) rfl, xTB_of (xtb_5 (List.mem_of_getElem? (i := 193) rfl)) rfl, xTB_of (xtb_5 (List.mem_of_getElem? (i := 194) rfl)) rfl, xTB_of (xtb_1 (List.mem_of_getElem? (i := 8) rfl)) rfl⟩
set_option maxRecDepth 20000 in
theorem ml_L_114 : XLV RL 114 mX7_status := ⟨xTB_of (xtb_4 (List.mem_of_getElem? (i := 36) rfl)) rfl, xTB_of (xtb_4 (List.mem_of_getElem? (i := 37) rfl)) rfl, xTB_of (xtb_4 (List.mem_of_getElem? (i := 38) rfl)) rfl, xTB_of (xtb_1 (List.mem_of_getElem? (i := 1) rfl)) rfl⟩
set_option maxRecDepth 20000 in
theorem ml_L_117 : XLV RL 117 mX8_status := ⟨xTB_of (xtb_5 (List.mem_of_getElem? (i := 196) rfl)) rfl, xTB_of (xtb_5 (List.mem_of_getElem? (i := 197) rfl)) rfl, xTB_of (xtb_5 (List.mem_of_getElem? (i := 198) rfl)) rfl, xTB_of (xtb_1 (List.mem_of_getElem? (i := 8) rfl)) rfl⟩
