/-! rows of the tables, by name -/
theorem oc_X0_init : am_oc kX0_init = 0 := by decide +kernel
theorem ml_X0_init : am_ml kX0_init = 1 := by decide +kernel
theorem rt_X0_init : am_rt kX0_init = none := by decide +kernel
theorem oc_X0_begin : am_oc kX0_begin = 0 := by decide +kernel
theorem ml_X0_begin : am_ml kX0_begin = 3 := by decide +kernel
theorem rt_X0_begin : am_rt kX0_begin = none := by decide +kernel
theorem oc_X0_put : am_oc kX0_put = 0 := by decide +kernel
theorem ml_X0_put : am_ml kX0_put = 5 := by decide +kernel
theorem rt_X0_put : am_rt kX0_put = none := by decide +kernel
theorem oc_X0_admit : am_oc kX0_admit = 0 := by decide +kernel
theorem ml_X0_admit : am_ml kX0_admit = 4 := by decide +kernel
theorem rt_X0_admit : am_rt kX0_admit = none := by decide +kernel
theorem oc_X0_startOf : am_oc kX0_startOf = 0 := by decide +kernel
theorem ml_X0_startOf : am_ml kX0_startOf = 4 := by decide +kernel
theorem rt_X0_startOf : am_rt kX0_startOf = (some .int) := by decide +kernel
theorem oc_X0_extent : am_oc kX0_extent = 0 := by decide +kernel
theorem ml_X0_extent : am_ml kX0_extent = 5 := by decide +kernel
theorem rt_X0_extent : am_rt kX0_extent = (some .int) := by decide +kernel
theorem oc_X0_lack : am_oc kX0_lack = 0 := by decide +kernel
theorem ml_X0_lack : am_ml kX0_lack = 2 := by decide +kernel
theorem rt_X0_lack : am_rt kX0_lack = (some .int) := by decide +kernel
theorem oc_X0_flexShares : am_oc kX0_flexShares = 0 := by decide +kernel
theorem ml_X0_flexShares : am_ml kX0_flexShares = 4 := by decide +kernel
theorem rt_X0_flexShares : am_rt kX0_flexShares = (some .int) := by decide +kernel
theorem oc_X0_growBy : am_oc kX0_growBy = 0 := by decide +kernel
theorem ml_X0_growBy : am_ml kX0_growBy = 3 := by decide +kernel
theorem rt_X0_growBy : am_rt kX0_growBy = none := by decide +kernel
theorem oc_X0_deal : am_oc kX0_deal = 0 := by decide +kernel
theorem ml_X0_deal : am_ml kX0_deal = 7 := by decide +kernel
theorem rt_X0_deal : am_rt kX0_deal = none := by decide +kernel
theorem oc_X0_autosOf : am_oc kX0_autosOf = 0 := by decide +kernel
theorem ml_X0_autosOf : am_ml kX0_autosOf = 4 := by decide +kernel
theorem rt_X0_autosOf : am_rt kX0_autosOf = (some .int) := by decide +kernel
theorem oc_X1_init : am_oc kX1_init = 1 := by decide +kernel
theorem ml_X1_init : am_ml kX1_init = 1 := by decide +kernel
theorem rt_X1_init : am_rt kX1_init = none := by decide +kernel
theorem oc_X1_clear : am_oc kX1_clear = 1 := by decide +kernel
theorem ml_X1_clear : am_ml kX1_clear = 1 := by decide +kernel
theorem rt_X1_clear : am_rt kX1_clear = none := by decide +kernel
theorem oc_X1_become : am_oc kX1_become = 1 := by decide +kernel
theorem ml_X1_become : am_ml kX1_become = 3 := by decide +kernel
theorem rt_X1_become : am_rt kX1_become = none := by decide +kernel
theorem oc_X1_isItemSize : am_oc kX1_isItemSize = 1 := by decide +kernel
theorem ml_X1_isItemSize : am_ml kX1_isItemSize = 3 := by decide +kernel
theorem rt_X1_isItemSize : am_rt kX1_isItemSize = (some .boolean) := by decide +kernel
theorem oc_X1_isItem : am_oc kX1_isItem = 1 := by decide +kernel
theorem ml_X1_isItem : am_ml kX1_isItem = 5 := by decide +kernel
theorem rt_X1_isItem : am_rt kX1_isItem = (some .boolean) := by decide +kernel
theorem oc_X1_isPin : am_oc kX1_isPin = 1 := by decide +kernel
theorem ml_X1_isPin : am_ml kX1_isPin = 4 := by decide +kernel
theorem rt_X1_isPin : am_rt kX1_isPin = (some .boolean) := by decide +kernel
theorem oc_X1_isInside : am_oc kX1_isInside = 1 := by decide +kernel
theorem ml_X1_isInside : am_ml kX1_isInside = 2 := by decide +kernel
theorem rt_X1_isInside : am_rt kX1_isInside = (some .boolean) := by decide +kernel
theorem oc_X1_append : am_oc kX1_append = 1 := by decide +kernel
theorem ml_X1_append : am_ml kX1_append = 5 := by decide +kernel
theorem rt_X1_append : am_rt kX1_append = (some .boolean) := by decide +kernel
theorem oc_X1_remove : am_oc kX1_remove = 1 := by decide +kernel
theorem ml_X1_remove : am_ml kX1_remove = 4 := by decide +kernel
theorem rt_X1_remove : am_rt kX1_remove = none := by decide +kernel
theorem oc_X1_exchange : am_oc kX1_exchange = 1 := by decide +kernel
theorem ml_X1_exchange : am_ml kX1_exchange = 5 := by decide +kernel
theorem rt_X1_exchange : am_rt kX1_exchange = none := by decide +kernel
theorem oc_X1_pinnedItems : am_oc kX1_pinnedItems = 1 := by decide +kernel
theorem ml_X1_pinnedItems : am_ml kX1_pinnedItems = 3 := by decide +kernel
theorem rt_X1_pinnedItems : am_rt kX1_pinnedItems = (some .int) := by decide +kernel
theorem oc_X1_allShares : am_oc kX1_allShares = 1 := by decide +kernel
theorem ml_X1_allShares : am_ml kX1_allShares = 3 := by decide +kernel
theorem rt_X1_allShares : am_rt kX1_allShares = (some .int) := by decide +kernel
theorem oc_X1_allNeedsInWidth : am_oc kX1_allNeedsInWidth = 1 := by decide +kernel
theorem ml_X1_allNeedsInWidth : am_ml kX1_allNeedsInWidth = 3 := by decide +kernel
theorem rt_X1_allNeedsInWidth : am_rt kX1_allNeedsInWidth = (some .int) := by decide +kernel
theorem oc_X2_init : am_oc kX2_init = 2 := by decide +kernel
theorem ml_X2_init : am_ml kX2_init = 1 := by decide +kernel
theorem rt_X2_init : am_rt kX2_init = none := by decide +kernel
theorem oc_X3_init : am_oc kX3_init = 3 := by decide +kernel
theorem ml_X3_init : am_ml kX3_init = 1 := by decide +kernel
theorem rt_X3_init : am_rt kX3_init = none := by decide +kernel
theorem oc_X3_placeAll : am_oc kX3_placeAll = 3 := by decide +kernel
theorem ml_X3_placeAll : am_ml kX3_placeAll = 4 := by decide +kernel
theorem rt_X3_placeAll : am_rt kX3_placeAll = none := by decide +kernel
theorem oc_X3_isLost : am_oc kX3_isLost = 3 := by decide +kernel
theorem ml_X3_isLost : am_ml kX3_isLost = 2 := by decide +kernel
theorem rt_X3_isLost : am_rt kX3_isLost = (some .boolean) := by decide +kernel
theorem oc_X3_itemAt : am_oc kX3_itemAt = 3 := by decide +kernel
theorem ml_X3_itemAt : am_ml kX3_itemAt = 5 := by decide +kernel
theorem rt_X3_itemAt : am_rt kX3_itemAt = (some .int) := by decide +kernel
theorem oc_X3_firstHole : am_oc kX3_firstHole = 3 := by decide +kernel
theorem ml_X3_firstHole : am_ml kX3_firstHole = 12 := by decide +kernel
theorem rt_X3_firstHole : am_rt kX3_firstHole = (some .int) := by decide +kernel
theorem oc_X3_turnOf : am_oc kX3_turnOf = 3 := by decide +kernel
theorem ml_X3_turnOf : am_ml kX3_turnOf = 2 := by decide +kernel
theorem rt_X3_turnOf : am_rt kX3_turnOf = (some .int) := by decide +kernel
theorem oc_X3_place : am_oc kX3_place = 3 := by decide +kernel
theorem ml_X3_place : am_ml kX3_place = 7 := by decide +kernel
theorem rt_X3_place : am_rt kX3_place = none := by decide +kernel
theorem oc_X3_isFree : am_oc kX3_isFree = 3 := by decide +kernel
theorem ml_X3_isFree : am_ml kX3_isFree = 6 := by decide +kernel
theorem rt_X3_isFree : am_rt kX3_isFree = (some .boolean) := by decide +kernel
theorem oc_X3_bits : am_oc kX3_bits = 3 := by decide +kernel
theorem ml_X3_bits : am_ml kX3_bits = 2 := by decide +kernel
theorem rt_X3_bits : am_rt kX3_bits = (some .int) := by decide +kernel
theorem oc_X4_init : am_oc kX4_init = 4 := by decide +kernel
theorem ml_X4_init : am_ml kX4_init = 1 := by decide +kernel
theorem rt_X4_init : am_rt kX4_init = none := by decide +kernel
theorem oc_X4_dealByNeed : am_oc kX4_dealByNeed = 4 := by decide +kernel
theorem ml_X4_dealByNeed : am_ml kX4_dealByNeed = 6 := by decide +kernel
theorem rt_X4_dealByNeed : am_rt kX4_dealByNeed = none := by decide +kernel
theorem oc_X4_dealByWidth : am_oc kX4_dealByWidth = 4 := by decide +kernel
theorem ml_X4_dealByWidth : am_ml kX4_dealByWidth = 6 := by decide +kernel
theorem rt_X4_dealByWidth : am_rt kX4_dealByWidth = none := by decide +kernel
theorem oc_X4_findLeast : am_oc kX4_findLeast = 4 := by decide +kernel
theorem ml_X4_findLeast : am_ml kX4_findLeast = 4 := by decide +kernel
theorem rt_X4_findLeast : am_rt kX4_findLeast = none := by decide +kernel
theorem oc_X4_isFrozen : am_oc kX4_isFrozen = 4 := by decide +kernel
theorem ml_X4_isFrozen : am_ml kX4_isFrozen = 2 := by decide +kernel
theorem rt_X4_isFrozen : am_rt kX4_isFrozen = (some .boolean) := by decide +kernel
theorem oc_X4_isOpen : am_oc kX4_isOpen = 4 := by decide +kernel
theorem ml_X4_isOpen : am_ml kX4_isOpen = 3 := by decide +kernel
theorem rt_X4_isOpen : am_rt kX4_isOpen = (some .boolean) := by decide +kernel
theorem oc_X4_openShares : am_oc kX4_openShares = 4 := by decide +kernel
theorem ml_X4_openShares : am_ml kX4_openShares = 4 := by decide +kernel
theorem rt_X4_openShares : am_rt kX4_openShares = (some .int) := by decide +kernel
theorem oc_X4_openWidth : am_oc kX4_openWidth = 4 := by decide +kernel
theorem ml_X4_openWidth : am_ml kX4_openWidth = 5 := by decide +kernel
theorem rt_X4_openWidth : am_rt kX4_openWidth = (some .int) := by decide +kernel
theorem oc_X4_freeze : am_oc kX4_freeze = 4 := by decide +kernel
theorem ml_X4_freeze : am_ml kX4_freeze = 7 := by decide +kernel
theorem rt_X4_freeze : am_rt kX4_freeze = (some .boolean) := by decide +kernel
theorem oc_X4_dealParts : am_oc kX4_dealParts = 4 := by decide +kernel
theorem ml_X4_dealParts : am_ml kX4_dealParts = 7 := by decide +kernel
theorem rt_X4_dealParts : am_rt kX4_dealParts = none := by decide +kernel
theorem oc_X5_init : am_oc kX5_init = 5 := by decide +kernel
theorem ml_X5_init : am_ml kX5_init = 1 := by decide +kernel
theorem rt_X5_init : am_rt kX5_init = none := by decide +kernel
theorem oc_X5_renew : am_oc kX5_renew = 5 := by decide +kernel
theorem ml_X5_renew : am_ml kX5_renew = 3 := by decide +kernel
theorem rt_X5_renew : am_rt kX5_renew = none := by decide +kernel
theorem oc_X5_faultAs : am_oc kX5_faultAs = 5 := by decide +kernel
theorem ml_X5_faultAs : am_ml kX5_faultAs = 5 := by decide +kernel
theorem rt_X5_faultAs : am_rt kX5_faultAs = (some .int) := by decide +kernel
theorem oc_X5_faultOf : am_oc kX5_faultOf = 5 := by decide +kernel
theorem ml_X5_faultOf : am_ml kX5_faultOf = 4 := by decide +kernel
theorem rt_X5_faultOf : am_rt kX5_faultOf = (some .int) := by decide +kernel
theorem oc_X5_write : am_oc kX5_write = 5 := by decide +kernel
theorem ml_X5_write : am_ml kX5_write = 3 := by decide +kernel
theorem rt_X5_write : am_rt kX5_write = none := by decide +kernel
theorem oc_X6_init : am_oc kX6_init = 6 := by decide +kernel
theorem ml_X6_init : am_ml kX6_init = 1 := by decide +kernel
theorem rt_X6_init : am_rt kX6_init = none := by decide +kernel
theorem oc_X6_tellAll : am_oc kX6_tellAll = 6 := by decide +kernel
theorem ml_X6_tellAll : am_ml kX6_tellAll = 2 := by decide +kernel
theorem rt_X6_tellAll : am_rt kX6_tellAll = (some .int) := by decide +kernel
theorem oc_X6_clear : am_oc kX6_clear = 6 := by decide +kernel
theorem ml_X6_clear : am_ml kX6_clear = 1 := by decide +kernel
theorem rt_X6_clear : am_rt kX6_clear = none := by decide +kernel
theorem oc_X6_isDraftWhole : am_oc kX6_isDraftWhole = 6 := by decide +kernel
theorem ml_X6_isDraftWhole : am_ml kX6_isDraftWhole = 2 := by decide +kernel
theorem rt_X6_isDraftWhole : am_rt kX6_isDraftWhole = (some .boolean) := by decide +kernel
theorem oc_X6_takeLine : am_oc kX6_takeLine = 6 := by decide +kernel
theorem ml_X6_takeLine : am_ml kX6_takeLine = 1 := by decide +kernel
theorem rt_X6_takeLine : am_rt kX6_takeLine = (some .boolean) := by decide +kernel
theorem oc_X6_takeColumns : am_oc kX6_takeColumns = 6 := by decide +kernel
theorem ml_X6_takeColumns : am_ml kX6_takeColumns = 3 := by decide +kernel
theorem rt_X6_takeColumns : am_rt kX6_takeColumns = (some .boolean) := by decide +kernel
theorem oc_X6_takeTrack : am_oc kX6_takeTrack = 6 := by decide +kernel
theorem ml_X6_takeTrack : am_ml kX6_takeTrack = 3 := by decide +kernel
theorem rt_X6_takeTrack : am_rt kX6_takeTrack = (some .boolean) := by decide +kernel
theorem oc_X6_trackKind : am_oc kX6_trackKind = 6 := by decide +kernel
theorem ml_X6_trackKind : am_ml kX6_trackKind = 1 := by decide +kernel
theorem rt_X6_trackKind : am_rt kX6_trackKind = (some .int) := by decide +kernel
theorem oc_X6_repeatTracks : am_oc kX6_repeatTracks = 6 := by decide +kernel
theorem ml_X6_repeatTracks : am_ml kX6_repeatTracks = 4 := by decide +kernel
theorem rt_X6_repeatTracks : am_rt kX6_repeatTracks = (some .boolean) := by decide +kernel
theorem oc_X6_takeGap : am_oc kX6_takeGap = 6 := by decide +kernel
theorem ml_X6_takeGap : am_ml kX6_takeGap = 1 := by decide +kernel
theorem rt_X6_takeGap : am_rt kX6_takeGap = (some .boolean) := by decide +kernel
theorem oc_X6_takeWidth : am_oc kX6_takeWidth = 6 := by decide +kernel
theorem ml_X6_takeWidth : am_ml kX6_takeWidth = 1 := by decide +kernel
theorem rt_X6_takeWidth : am_rt kX6_takeWidth = (some .boolean) := by decide +kernel
theorem oc_X6_takeHigh : am_oc kX6_takeHigh = 6 := by decide +kernel
theorem ml_X6_takeHigh : am_ml kX6_takeHigh = 1 := by decide +kernel
theorem rt_X6_takeHigh : am_rt kX6_takeHigh = (some .boolean) := by decide +kernel
theorem oc_X6_takeNamedLine : am_oc kX6_takeNamedLine = 6 := by decide +kernel
theorem ml_X6_takeNamedLine : am_ml kX6_takeNamedLine = 2 := by decide +kernel
theorem rt_X6_takeNamedLine : am_rt kX6_takeNamedLine = (some .boolean) := by decide +kernel
theorem oc_X6_takeItemLine : am_oc kX6_takeItemLine = 6 := by decide +kernel
theorem ml_X6_takeItemLine : am_ml kX6_takeItemLine = 3 := by decide +kernel
theorem rt_X6_takeItemLine : am_rt kX6_takeItemLine = (some .boolean) := by decide +kernel
theorem oc_X6_takePin : am_oc kX6_takePin = 6 := by decide +kernel
theorem ml_X6_takePin : am_ml kX6_takePin = 5 := by decide +kernel
theorem rt_X6_takePin : am_rt kX6_takePin = (some .boolean) := by decide +kernel
theorem oc_X6_takePinLetter : am_oc kX6_takePinLetter = 6 := by decide +kernel
theorem ml_X6_takePinLetter : am_ml kX6_takePinLetter = 3 := by decide +kernel
theorem rt_X6_takePinLetter : am_rt kX6_takePinLetter = (some .boolean) := by decide +kernel
theorem oc_X6_takeNumber : am_oc kX6_takeNumber = 6 := by decide +kernel
theorem ml_X6_takeNumber : am_ml kX6_takeNumber = 3 := by decide +kernel
theorem rt_X6_takeNumber : am_rt kX6_takeNumber = (some .boolean) := by decide +kernel
theorem oc_X6_takeSemicolon : am_oc kX6_takeSemicolon = 6 := by decide +kernel
theorem ml_X6_takeSemicolon : am_ml kX6_takeSemicolon = 1 := by decide +kernel
theorem rt_X6_takeSemicolon : am_rt kX6_takeSemicolon = (some .boolean) := by decide +kernel
theorem oc_X6_refuse : am_oc kX6_refuse = 6 := by decide +kernel
theorem ml_X6_refuse : am_ml kX6_refuse = 2 := by decide +kernel
theorem rt_X6_refuse : am_rt kX6_refuse = (some .boolean) := by decide +kernel
theorem oc_X6_refuseToken : am_oc kX6_refuseToken = 6 := by decide +kernel
theorem ml_X6_refuseToken : am_ml kX6_refuseToken = 1 := by decide +kernel
theorem rt_X6_refuseToken : am_rt kX6_refuseToken = (some .boolean) := by decide +kernel
theorem oc_X7_init : am_oc kX7_init = 7 := by decide +kernel
theorem ml_X7_init : am_ml kX7_init = 1 := by decide +kernel
theorem rt_X7_init : am_rt kX7_init = none := by decide +kernel
theorem oc_X7_append : am_oc kX7_append = 7 := by decide +kernel
theorem ml_X7_append : am_ml kX7_append = 2 := by decide +kernel
theorem rt_X7_append : am_rt kX7_append = (some .boolean) := by decide +kernel
theorem oc_X7_rewind : am_oc kX7_rewind = 7 := by decide +kernel
theorem ml_X7_rewind : am_ml kX7_rewind = 1 := by decide +kernel
theorem rt_X7_rewind : am_rt kX7_rewind = none := by decide +kernel
theorem oc_X7_advance : am_oc kX7_advance = 7 := by decide +kernel
theorem ml_X7_advance : am_ml kX7_advance = 1 := by decide +kernel
theorem rt_X7_advance : am_rt kX7_advance = none := by decide +kernel
theorem oc_X7_isName : am_oc kX7_isName = 7 := by decide +kernel
theorem ml_X7_isName : am_ml kX7_isName = 3 := by decide +kernel
theorem rt_X7_isName : am_rt kX7_isName = (some .boolean) := by decide +kernel
theorem oc_X7_letter : am_oc kX7_letter = 7 := by decide +kernel
theorem ml_X7_letter : am_ml kX7_letter = 1 := by decide +kernel
theorem rt_X7_letter : am_rt kX7_letter = (some .int) := by decide +kernel
theorem oc_X8_init : am_oc kX8_init = 8 := by decide +kernel
theorem ml_X8_init : am_ml kX8_init = 2 := by decide +kernel
theorem rt_X8_init : am_rt kX8_init = none := by decide +kernel
theorem oc_X8_feed : am_oc kX8_feed = 8 := by decide +kernel
theorem ml_X8_feed : am_ml kX8_feed = 2 := by decide +kernel
theorem rt_X8_feed : am_rt kX8_feed = (some .int) := by decide +kernel
theorem oc_X8_end : am_oc kX8_end = 8 := by decide +kernel
theorem ml_X8_end : am_ml kX8_end = 3 := by decide +kernel
theorem rt_X8_end : am_rt kX8_end = (some .int) := by decide +kernel
theorem oc_X8_text : am_oc kX8_text = 8 := by decide +kernel
theorem ml_X8_text : am_ml kX8_text = 2 := by decide +kernel
theorem rt_X8_text : am_rt kX8_text = (some .int) := by decide +kernel
theorem oc_X8_fault : am_oc kX8_fault = 8 := by decide +kernel
theorem ml_X8_fault : am_ml kX8_fault = 1 := by decide +kernel
theorem rt_X8_fault : am_rt kX8_fault = (some .int) := by decide +kernel
theorem oc_X8_rule : am_oc kX8_rule = 8 := by decide +kernel
theorem ml_X8_rule : am_ml kX8_rule = 2 := by decide +kernel
theorem rt_X8_rule : am_rt kX8_rule = (some .int) := by decide +kernel
theorem oc_X8_column : am_oc kX8_column = 8 := by decide +kernel
theorem ml_X8_column : am_ml kX8_column = 3 := by decide +kernel
theorem rt_X8_column : am_rt kX8_column = (some .int) := by decide +kernel
theorem oc_X8_row : am_oc kX8_row = 8 := by decide +kernel
theorem ml_X8_row : am_ml kX8_row = 3 := by decide +kernel
theorem rt_X8_row : am_rt kX8_row = (some .int) := by decide +kernel
theorem oc_X8_item : am_oc kX8_item = 8 := by decide +kernel
theorem ml_X8_item : am_ml kX8_item = 3 := by decide +kernel
theorem rt_X8_item : am_rt kX8_item = (some .int) := by decide +kernel
theorem oc_X8_line : am_oc kX8_line = 8 := by decide +kernel
theorem ml_X8_line : am_ml kX8_line = 2 := by decide +kernel
theorem rt_X8_line : am_rt kX8_line = (some .int) := by decide +kernel
theorem oc_X8_at : am_oc kX8_at = 8 := by decide +kernel
theorem ml_X8_at : am_ml kX8_at = 3 := by decide +kernel
theorem rt_X8_at : am_rt kX8_at = (some .int) := by decide +kernel
theorem oc_X8_box : am_oc kX8_box = 8 := by decide +kernel
theorem ml_X8_box : am_ml kX8_box = 3 := by decide +kernel
theorem rt_X8_box : am_rt kX8_box = (some .int) := by decide +kernel
theorem oc_X8_over : am_oc kX8_over = 8 := by decide +kernel
theorem ml_X8_over : am_ml kX8_over = 4 := by decide +kernel
theorem rt_X8_over : am_rt kX8_over = (some .int) := by decide +kernel
theorem oc_X8_total : am_oc kX8_total = 8 := by decide +kernel
theorem ml_X8_total : am_ml kX8_total = 2 := by decide +kernel
theorem rt_X8_total : am_rt kX8_total = (some .int) := by decide +kernel
theorem oc_X8_empty : am_oc kX8_empty = 8 := by decide +kernel
theorem ml_X8_empty : am_ml kX8_empty = 1 := by decide +kernel
theorem rt_X8_empty : am_rt kX8_empty = (some .int) := by decide +kernel
theorem oc_X8_hole : am_oc kX8_hole = 8 := by decide +kernel
theorem ml_X8_hole : am_ml kX8_hole = 3 := by decide +kernel
theorem rt_X8_hole : am_rt kX8_hole = (some .int) := by decide +kernel
theorem oc_X8_add : am_oc kX8_add = 8 := by decide +kernel
theorem ml_X8_add : am_ml kX8_add = 5 := by decide +kernel
theorem rt_X8_add : am_rt kX8_add = (some .int) := by decide +kernel
theorem oc_X8_drop : am_oc kX8_drop = 8 := by decide +kernel
theorem ml_X8_drop : am_ml kX8_drop = 2 := by decide +kernel
theorem rt_X8_drop : am_rt kX8_drop = (some .int) := by decide +kernel
theorem oc_X8_pin : am_oc kX8_pin = 8 := by decide +kernel
theorem ml_X8_pin : am_ml kX8_pin = 4 := by decide +kernel
theorem rt_X8_pin : am_rt kX8_pin = (some .int) := by decide +kernel
theorem oc_X8_set : am_oc kX8_set = 8 := by decide +kernel
theorem ml_X8_set : am_ml kX8_set = 5 := by decide +kernel
theorem rt_X8_set : am_rt kX8_set = (some .int) := by decide +kernel
theorem oc_X8_swap : am_oc kX8_swap = 8 := by decide +kernel
theorem ml_X8_swap : am_ml kX8_swap = 3 := by decide +kernel
theorem rt_X8_swap : am_rt kX8_swap = (some .int) := by decide +kernel
theorem oc_X8_track : am_oc kX8_track = 8 := by decide +kernel
theorem ml_X8_track : am_ml kX8_track = 5 := by decide +kernel
theorem rt_X8_track : am_rt kX8_track = (some .int) := by decide +kernel
theorem oc_X8_width : am_oc kX8_width = 8 := by decide +kernel
theorem ml_X8_width : am_ml kX8_width = 3 := by decide +kernel
theorem rt_X8_width : am_rt kX8_width = (some .int) := by decide +kernel
theorem oc_X8_gap : am_oc kX8_gap = 8 := by decide +kernel
theorem ml_X8_gap : am_ml kX8_gap = 4 := by decide +kernel
theorem rt_X8_gap : am_rt kX8_gap = (some .int) := by decide +kernel
theorem oc_X8_high : am_oc kX8_high = 8 := by decide +kernel
theorem ml_X8_high : am_ml kX8_high = 3 := by decide +kernel
theorem rt_X8_high : am_rt kX8_high = (some .int) := by decide +kernel
theorem oc_X8_scatter : am_oc kX8_scatter = 8 := by decide +kernel
theorem ml_X8_scatter : am_ml kX8_scatter = 8 := by decide +kernel
theorem rt_X8_scatter : am_rt kX8_scatter = (some .int) := by decide +kernel
theorem oc_X8_keep : am_oc kX8_keep = 8 := by decide +kernel
theorem ml_X8_keep : am_ml kX8_keep = 4 := by decide +kernel
theorem rt_X8_keep : am_rt kX8_keep = (some .int) := by decide +kernel
theorem oc_X8_back : am_oc kX8_back = 8 := by decide +kernel
theorem ml_X8_back : am_ml kX8_back = 3 := by decide +kernel
theorem rt_X8_back : am_rt kX8_back = (some .int) := by decide +kernel
theorem oc_X8_sheet : am_oc kX8_sheet = 8 := by decide +kernel
theorem ml_X8_sheet : am_ml kX8_sheet = 5 := by decide +kernel
theorem rt_X8_sheet : am_rt kX8_sheet = (some .int) := by decide +kernel
theorem oc_X8_lay : am_oc kX8_lay = 8 := by decide +kernel
theorem ml_X8_lay : am_ml kX8_lay = 6 := by decide +kernel
theorem rt_X8_lay : am_rt kX8_lay = (some .int) := by decide +kernel
theorem oc_X8_read : am_oc kX8_read = 8 := by decide +kernel
theorem ml_X8_read : am_ml kX8_read = 12 := by decide +kernel
theorem rt_X8_read : am_rt kX8_read = (some .int) := by decide +kernel
theorem oc_X8_torn : am_oc kX8_torn = 8 := by decide +kernel
theorem ml_X8_torn : am_ml kX8_torn = 1 := by decide +kernel
theorem rt_X8_torn : am_rt kX8_torn = (some .int) := by decide +kernel
theorem oc_X8_count : am_oc kX8_count = 8 := by decide +kernel
theorem ml_X8_count : am_ml kX8_count = 2 := by decide +kernel
theorem rt_X8_count : am_rt kX8_count = (some .int) := by decide +kernel
theorem oc_X8_isBetween : am_oc kX8_isBetween = 8 := by decide +kernel
theorem ml_X8_isBetween : am_ml kX8_isBetween = 3 := by decide +kernel
theorem rt_X8_isBetween : am_rt kX8_isBetween = (some .boolean) := by decide +kernel
theorem oc_X8_isLane : am_oc kX8_isLane = 8 := by decide +kernel
theorem ml_X8_isLane : am_ml kX8_isLane = 1 := by decide +kernel
theorem rt_X8_isLane : am_rt kX8_isLane = (some .boolean) := by decide +kernel
theorem oc_X8_isTrack : am_oc kX8_isTrack = 8 := by decide +kernel
theorem ml_X8_isTrack : am_ml kX8_isTrack = 2 := by decide +kernel
theorem rt_X8_isTrack : am_rt kX8_isTrack = (some .boolean) := by decide +kernel
theorem oc_X8_isItem : am_oc kX8_isItem = 8 := by decide +kernel
theorem ml_X8_isItem : am_ml kX8_isItem = 2 := by decide +kernel
theorem rt_X8_isItem : am_rt kX8_isItem = (some .boolean) := by decide +kernel
theorem oc_X8_imageOf : am_oc kX8_imageOf = 8 := by decide +kernel
theorem ml_X8_imageOf : am_ml kX8_imageOf = 2 := by decide +kernel
theorem rt_X8_imageOf : am_rt kX8_imageOf = (some (.object "GridTracks$Image")) := by decide +kernel
theorem oc_X8_sheetOf : am_oc kX8_sheetOf = 8 := by decide +kernel
theorem ml_X8_sheetOf : am_ml kX8_sheetOf = 2 := by decide +kernel
theorem rt_X8_sheetOf : am_rt kX8_sheetOf = (some (.object "GridTracks$Sheet")) := by decide +kernel
theorem oc_X8_heldImages : am_oc kX8_heldImages = 8 := by decide +kernel
theorem ml_X8_heldImages : am_ml kX8_heldImages = 4 := by decide +kernel
theorem rt_X8_heldImages : am_rt kX8_heldImages = (some .int) := by decide +kernel
theorem oc_X8_forgetImages : am_oc kX8_forgetImages = 8 := by decide +kernel
theorem ml_X8_forgetImages : am_ml kX8_forgetImages = 3 := by decide +kernel
theorem rt_X8_forgetImages : am_rt kX8_forgetImages = none := by decide +kernel
theorem oc_X8_cellsOf : am_oc kX8_cellsOf = 8 := by decide +kernel
theorem ml_X8_cellsOf : am_ml kX8_cellsOf = 3 := by decide +kernel
theorem rt_X8_cellsOf : am_rt kX8_cellsOf = (some .int) := by decide +kernel
theorem oc_X8_takeItem : am_oc kX8_takeItem = 8 := by decide +kernel
theorem ml_X8_takeItem : am_ml kX8_takeItem = 3 := by decide +kernel
theorem rt_X8_takeItem : am_rt kX8_takeItem = (some .boolean) := by decide +kernel
theorem oc_X8_boxWidth : am_oc kX8_boxWidth = 8 := by decide +kernel
theorem ml_X8_boxWidth : am_ml kX8_boxWidth = 2 := by decide +kernel
theorem rt_X8_boxWidth : am_rt kX8_boxWidth = (some .int) := by decide +kernel
theorem oc_X8_boxHeight : am_oc kX8_boxHeight = 8 := by decide +kernel
theorem ml_X8_boxHeight : am_ml kX8_boxHeight = 2 := by decide +kernel
theorem rt_X8_boxHeight : am_rt kX8_boxHeight = (some .int) := by decide +kernel
theorem oc_X8_arrange : am_oc kX8_arrange = 8 := by decide +kernel
theorem ml_X8_arrange : am_ml kX8_arrange = 1 := by decide +kernel
theorem rt_X8_arrange : am_rt kX8_arrange = none := by decide +kernel
theorem oc_X8_measureColumns : am_oc kX8_measureColumns = 8 := by decide +kernel
theorem ml_X8_measureColumns : am_ml kX8_measureColumns = 2 := by decide +kernel
theorem rt_X8_measureColumns : am_rt kX8_measureColumns = none := by decide +kernel
theorem oc_X8_measureRows : am_oc kX8_measureRows = 8 := by decide +kernel
theorem ml_X8_measureRows : am_ml kX8_measureRows = 2 := by decide +kernel
theorem rt_X8_measureRows : am_rt kX8_measureRows = none := by decide +kernel
theorem oc_X9_init : am_oc kX9_init = 9 := by decide +kernel
theorem ml_X9_init : am_ml kX9_init = 2 := by decide +kernel
theorem rt_X9_init : am_rt kX9_init = none := by decide +kernel
theorem oc_X9_in : am_oc kX9_in = 9 := by decide +kernel
theorem ml_X9_in : am_ml kX9_in = 6 := by decide +kernel
theorem rt_X9_in : am_rt kX9_in = (some .boolean) := by decide +kernel
theorem oc_X9_flag : am_oc kX9_flag = 9 := by decide +kernel
theorem ml_X9_flag : am_ml kX9_flag = 1 := by decide +kernel
theorem rt_X9_flag : am_rt kX9_flag = (some .int) := by decide +kernel
theorem oc_X9_firstDraft : am_oc kX9_firstDraft = 9 := by decide +kernel
theorem ml_X9_firstDraft : am_ml kX9_firstDraft = 2 := by decide +kernel
theorem rt_X9_firstDraft : am_rt kX9_firstDraft = none := by decide +kernel
theorem oc_X9_keepDraft : am_oc kX9_keepDraft = 9 := by decide +kernel
theorem ml_X9_keepDraft : am_ml kX9_keepDraft = 2 := by decide +kernel
theorem rt_X9_keepDraft : am_rt kX9_keepDraft = none := by decide +kernel
theorem oc_X9_feed : am_oc kX9_feed = 9 := by decide +kernel
theorem ml_X9_feed : am_ml kX9_feed = 2 := by decide +kernel
theorem rt_X9_feed : am_rt kX9_feed = (some .int) := by decide +kernel
theorem oc_X9_end : am_oc kX9_end = 9 := by decide +kernel
theorem ml_X9_end : am_ml kX9_end = 3 := by decide +kernel
theorem rt_X9_end : am_rt kX9_end = (some .int) := by decide +kernel
theorem oc_X9_requires : am_oc kX9_requires = 9 := by decide +kernel
theorem ml_X9_requires : am_ml kX9_requires = 3 := by decide +kernel
theorem rt_X9_requires : am_rt kX9_requires = none := by decide +kernel
theorem oc_X9_byteAt : am_oc kX9_byteAt = 9 := by decide +kernel
theorem ml_X9_byteAt : am_ml kX9_byteAt = 2 := by decide +kernel
theorem rt_X9_byteAt : am_rt kX9_byteAt = (some .int) := by decide +kernel
theorem oc_X9_is : am_oc kX9_is = 9 := by decide +kernel
theorem ml_X9_is : am_ml kX9_is = 5 := by decide +kernel
theorem rt_X9_is : am_rt kX9_is = (some .boolean) := by decide +kernel
theorem oc_X9_then : am_oc kX9_then = 9 := by decide +kernel
theorem ml_X9_then : am_ml kX9_then = 4 := by decide +kernel
theorem rt_X9_then : am_rt kX9_then = (some .boolean) := by decide +kernel
theorem oc_X9_lineName : am_oc kX9_lineName = 9 := by decide +kernel
theorem ml_X9_lineName : am_ml kX9_lineName = 1 := by decide +kernel
theorem rt_X9_lineName : am_rt kX9_lineName = (some .int) := by decide +kernel
theorem oc_X9_trackName : am_oc kX9_trackName = 9 := by decide +kernel
theorem ml_X9_trackName : am_ml kX9_trackName = 1 := by decide +kernel
theorem rt_X9_trackName : am_rt kX9_trackName = (some .int) := by decide +kernel
theorem oc_X9_pinName : am_oc kX9_pinName = 9 := by decide +kernel
theorem ml_X9_pinName : am_ml kX9_pinName = 1 := by decide +kernel
theorem rt_X9_pinName : am_rt kX9_pinName = (some .int) := by decide +kernel
theorem oc_X9_isRepeat : am_oc kX9_isRepeat = 9 := by decide +kernel
theorem ml_X9_isRepeat : am_ml kX9_isRepeat = 1 := by decide +kernel
theorem rt_X9_isRepeat : am_rt kX9_isRepeat = (some .boolean) := by decide +kernel
theorem oc_X9_reads : am_oc kX9_reads = 9 := by decide +kernel
theorem ml_X9_reads : am_ml kX9_reads = 2 := by decide +kernel
theorem rt_X9_reads : am_rt kX9_reads = none := by decide +kernel
theorem oc_X9_readNumber : am_oc kX9_readNumber = 9 := by decide +kernel
theorem ml_X9_readNumber : am_ml kX9_readNumber = 4 := by decide +kernel
theorem rt_X9_readNumber : am_rt kX9_readNumber = (some .int) := by decide +kernel
theorem oc_X9_lineNow : am_oc kX9_lineNow = 9 := by decide +kernel
theorem ml_X9_lineNow : am_ml kX9_lineNow = 2 := by decide +kernel
theorem rt_X9_lineNow : am_rt kX9_lineNow = (some .int) := by decide +kernel
theorem oc_X9_readTracks : am_oc kX9_readTracks = 9 := by decide +kernel
theorem ml_X9_readTracks : am_ml kX9_readTracks = 5 := by decide +kernel
theorem rt_X9_readTracks : am_rt kX9_readTracks = none := by decide +kernel
theorem oc_X9_readLineTold : am_oc kX9_readLineTold = 9 := by decide +kernel
theorem ml_X9_readLineTold : am_ml kX9_readLineTold = 3 := by decide +kernel
theorem rt_X9_readLineTold : am_rt kX9_readLineTold = none := by decide +kernel
theorem oc_X9_readPin : am_oc kX9_readPin = 9 := by decide +kernel
theorem ml_X9_readPin : am_ml kX9_readPin = 5 := by decide +kernel
theorem rt_X9_readPin : am_rt kX9_readPin = none := by decide +kernel
theorem oc_X9_readItem : am_oc kX9_readItem = 9 := by decide +kernel
theorem ml_X9_readItem : am_ml kX9_readItem = 2 := by decide +kernel
theorem rt_X9_readItem : am_rt kX9_readItem = none := by decide +kernel
theorem oc_X9_readLineOf : am_oc kX9_readLineOf = 9 := by decide +kernel
theorem ml_X9_readLineOf : am_ml kX9_readLineOf = 2 := by decide +kernel
theorem rt_X9_readLineOf : am_rt kX9_readLineOf = none := by decide +kernel
theorem oc_X9_readLine : am_oc kX9_readLine = 9 := by decide +kernel
theorem ml_X9_readLine : am_ml kX9_readLine = 2 := by decide +kernel
theorem rt_X9_readLine : am_rt kX9_readLine = none := by decide +kernel
theorem oc_X9_isWhole : am_oc kX9_isWhole = 9 := by decide +kernel
theorem ml_X9_isWhole : am_ml kX9_isWhole = 6 := by decide +kernel
theorem rt_X9_isWhole : am_rt kX9_isWhole = (some .boolean) := by decide +kernel
theorem oc_X9_text : am_oc kX9_text = 9 := by decide +kernel
theorem ml_X9_text : am_ml kX9_text = 2 := by decide +kernel
theorem rt_X9_text : am_rt kX9_text = (some .int) := by decide +kernel
theorem oc_X9_fault : am_oc kX9_fault = 9 := by decide +kernel
theorem ml_X9_fault : am_ml kX9_fault = 1 := by decide +kernel
theorem rt_X9_fault : am_rt kX9_fault = (some .int) := by decide +kernel
theorem oc_X9_isColumn : am_oc kX9_isColumn = 9 := by decide +kernel
theorem ml_X9_isColumn : am_ml kX9_isColumn = 2 := by decide +kernel
theorem rt_X9_isColumn : am_rt kX9_isColumn = (some .boolean) := by decide +kernel
theorem oc_X9_isItem : am_oc kX9_isItem = 9 := by decide +kernel
theorem ml_X9_isItem : am_ml kX9_isItem = 2 := by decide +kernel
theorem rt_X9_isItem : am_rt kX9_isItem = (some .boolean) := by decide +kernel
theorem oc_X9_of : am_oc kX9_of = 9 := by decide +kernel
theorem ml_X9_of : am_ml kX9_of = 3 := by decide +kernel
theorem rt_X9_of : am_rt kX9_of = (some .int) := by decide +kernel
theorem oc_X9_isPart : am_oc kX9_isPart = 9 := by decide +kernel
theorem ml_X9_isPart : am_ml kX9_isPart = 1 := by decide +kernel
theorem rt_X9_isPart : am_rt kX9_isPart = (some .boolean) := by decide +kernel
theorem oc_X9_isFree : am_oc kX9_isFree = 9 := by decide +kernel
theorem ml_X9_isFree : am_ml kX9_isFree = 8 := by decide +kernel
theorem rt_X9_isFree : am_rt kX9_isFree = (some .boolean) := by decide +kernel
theorem oc_X9_stands : am_oc kX9_stands = 9 := by decide +kernel
theorem ml_X9_stands : am_ml kX9_stands = 8 := by decide +kernel
theorem rt_X9_stands : am_rt kX9_stands = none := by decide +kernel
theorem oc_X9_holeIn : am_oc kX9_holeIn = 9 := by decide +kernel
theorem ml_X9_holeIn : am_ml kX9_holeIn = 9 := by decide +kernel
theorem rt_X9_holeIn : am_rt kX9_holeIn = (some .int) := by decide +kernel
theorem oc_X9_seeks : am_oc kX9_seeks = 9 := by decide +kernel
theorem ml_X9_seeks : am_ml kX9_seeks = 5 := by decide +kernel
theorem rt_X9_seeks : am_rt kX9_seeks = none := by decide +kernel
theorem oc_X9_turnOf : am_oc kX9_turnOf = 9 := by decide +kernel
theorem ml_X9_turnOf : am_ml kX9_turnOf = 2 := by decide +kernel
theorem rt_X9_turnOf : am_rt kX9_turnOf = (some .int) := by decide +kernel
theorem oc_X9_place : am_oc kX9_place = 9 := by decide +kernel
theorem ml_X9_place : am_ml kX9_place = 3 := by decide +kernel
theorem rt_X9_place : am_rt kX9_place = none := by decide +kernel
theorem oc_X9_lost : am_oc kX9_lost = 9 := by decide +kernel
theorem ml_X9_lost : am_ml kX9_lost = 3 := by decide +kernel
theorem rt_X9_lost : am_rt kX9_lost = (some .int) := by decide +kernel
theorem oc_X9_gapsIn : am_oc kX9_gapsIn = 9 := by decide +kernel
theorem ml_X9_gapsIn : am_ml kX9_gapsIn = 2 := by decide +kernel
theorem rt_X9_gapsIn : am_rt kX9_gapsIn = (some .int) := by decide +kernel
theorem oc_X9_columnsOf : am_oc kX9_columnsOf = 9 := by decide +kernel
theorem ml_X9_columnsOf : am_ml kX9_columnsOf = 6 := by decide +kernel
theorem rt_X9_columnsOf : am_rt kX9_columnsOf = (some .int) := by decide +kernel
theorem oc_X9_lacksX : am_oc kX9_lacksX = 9 := by decide +kernel
theorem ml_X9_lacksX : am_ml kX9_lacksX = 4 := by decide +kernel
theorem rt_X9_lacksX : am_rt kX9_lacksX = (some .int) := by decide +kernel
theorem oc_X9_lacksY : am_oc kX9_lacksY = 9 := by decide +kernel
theorem ml_X9_lacksY : am_ml kX9_lacksY = 4 := by decide +kernel
theorem rt_X9_lacksY : am_rt kX9_lacksY = (some .int) := by decide +kernel
theorem oc_X9_noGrowth : am_oc kX9_noGrowth = 9 := by decide +kernel
theorem ml_X9_noGrowth : am_ml kX9_noGrowth = 2 := by decide +kernel
theorem rt_X9_noGrowth : am_rt kX9_noGrowth = none := by decide +kernel
theorem oc_X9_deals : am_oc kX9_deals = 9 := by decide +kernel
theorem ml_X9_deals : am_ml kX9_deals = 6 := by decide +kernel
theorem rt_X9_deals : am_rt kX9_deals = none := by decide +kernel
theorem oc_X9_dealsX : am_oc kX9_dealsX = 9 := by decide +kernel
theorem ml_X9_dealsX : am_ml kX9_dealsX = 6 := by decide +kernel
theorem rt_X9_dealsX : am_rt kX9_dealsX = none := by decide +kernel
theorem oc_X9_dealsY : am_oc kX9_dealsY = 9 := by decide +kernel
theorem ml_X9_dealsY : am_ml kX9_dealsY = 4 := by decide +kernel
theorem rt_X9_dealsY : am_rt kX9_dealsY = none := by decide +kernel
theorem oc_X9_findAutos : am_oc kX9_findAutos = 9 := by decide +kernel
theorem ml_X9_findAutos : am_ml kX9_findAutos = 3 := by decide +kernel
theorem rt_X9_findAutos : am_rt kX9_findAutos = none := by decide +kernel
theorem oc_X9_findRows : am_oc kX9_findRows = 9 := by decide +kernel
theorem ml_X9_findRows : am_ml kX9_findRows = 3 := by decide +kernel
theorem rt_X9_findRows : am_rt kX9_findRows = none := by decide +kernel
theorem oc_X9_findFlexFree : am_oc kX9_findFlexFree = 9 := by decide +kernel
theorem ml_X9_findFlexFree : am_ml kX9_findFlexFree = 6 := by decide +kernel
theorem rt_X9_findFlexFree : am_rt kX9_findFlexFree = none := by decide +kernel
theorem oc_X9_findLeast : am_oc kX9_findLeast = 9 := by decide +kernel
theorem ml_X9_findLeast : am_ml kX9_findLeast = 2 := by decide +kernel
theorem rt_X9_findLeast : am_rt kX9_findLeast = none := by decide +kernel
theorem oc_X9_isOpen : am_oc kX9_isOpen = 9 := by decide +kernel
theorem ml_X9_isOpen : am_ml kX9_isOpen = 2 := by decide +kernel
theorem rt_X9_isOpen : am_rt kX9_isOpen = (some .boolean) := by decide +kernel
theorem oc_X9_leftWidth : am_oc kX9_leftWidth = 9 := by decide +kernel
theorem ml_X9_leftWidth : am_ml kX9_leftWidth = 3 := by decide +kernel
theorem rt_X9_leftWidth : am_rt kX9_leftWidth = (some .int) := by decide +kernel
theorem oc_X9_leftBy : am_oc kX9_leftBy = 9 := by decide +kernel
theorem ml_X9_leftBy : am_ml kX9_leftBy = 4 := by decide +kernel
theorem rt_X9_leftBy : am_rt kX9_leftBy = (some .int) := by decide +kernel
theorem oc_X9_openShares : am_oc kX9_openShares = 9 := by decide +kernel
theorem ml_X9_openShares : am_ml kX9_openShares = 3 := by decide +kernel
theorem rt_X9_openShares : am_rt kX9_openShares = (some .int) := by decide +kernel
theorem oc_X9_freezes : am_oc kX9_freezes = 9 := by decide +kernel
theorem ml_X9_freezes : am_ml kX9_freezes = 6 := by decide +kernel
theorem rt_X9_freezes : am_rt kX9_freezes = (some .boolean) := by decide +kernel
theorem oc_X9_findFlexIn : am_oc kX9_findFlexIn = 9 := by decide +kernel
theorem ml_X9_findFlexIn : am_ml kX9_findFlexIn = 7 := by decide +kernel
theorem rt_X9_findFlexIn : am_rt kX9_findFlexIn = none := by decide +kernel
theorem oc_X9_find : am_oc kX9_find = 9 := by decide +kernel
theorem ml_X9_find : am_ml kX9_find = 1 := by decide +kernel
theorem rt_X9_find : am_rt kX9_find = none := by decide +kernel
theorem oc_X9_startX : am_oc kX9_startX = 9 := by decide +kernel
theorem ml_X9_startX : am_ml kX9_startX = 4 := by decide +kernel
theorem rt_X9_startX : am_rt kX9_startX = (some .int) := by decide +kernel
theorem oc_X9_startY : am_oc kX9_startY = 9 := by decide +kernel
theorem ml_X9_startY : am_ml kX9_startY = 4 := by decide +kernel
theorem rt_X9_startY : am_rt kX9_startY = (some .int) := by decide +kernel
theorem oc_X9_spanX : am_oc kX9_spanX = 9 := by decide +kernel
theorem ml_X9_spanX : am_ml kX9_spanX = 3 := by decide +kernel
theorem rt_X9_spanX : am_rt kX9_spanX = (some .int) := by decide +kernel
theorem oc_X9_spanY : am_oc kX9_spanY = 9 := by decide +kernel
theorem ml_X9_spanY : am_ml kX9_spanY = 3 := by decide +kernel
theorem rt_X9_spanY : am_rt kX9_spanY = (some .int) := by decide +kernel
theorem oc_X9_rule : am_oc kX9_rule = 9 := by decide +kernel
theorem ml_X9_rule : am_ml kX9_rule = 2 := by decide +kernel
theorem rt_X9_rule : am_rt kX9_rule = (some .int) := by decide +kernel
theorem oc_X9_column : am_oc kX9_column = 9 := by decide +kernel
theorem ml_X9_column : am_ml kX9_column = 3 := by decide +kernel
theorem rt_X9_column : am_rt kX9_column = (some .int) := by decide +kernel
theorem oc_X9_row : am_oc kX9_row = 9 := by decide +kernel
theorem ml_X9_row : am_ml kX9_row = 3 := by decide +kernel
theorem rt_X9_row : am_rt kX9_row = (some .int) := by decide +kernel
theorem oc_X9_item : am_oc kX9_item = 9 := by decide +kernel
theorem ml_X9_item : am_ml kX9_item = 3 := by decide +kernel
theorem rt_X9_item : am_rt kX9_item = (some .int) := by decide +kernel
theorem oc_X9_line : am_oc kX9_line = 9 := by decide +kernel
theorem ml_X9_line : am_ml kX9_line = 2 := by decide +kernel
theorem rt_X9_line : am_rt kX9_line = (some .int) := by decide +kernel
theorem oc_X9_at : am_oc kX9_at = 9 := by decide +kernel
theorem ml_X9_at : am_ml kX9_at = 3 := by decide +kernel
theorem rt_X9_at : am_rt kX9_at = (some .int) := by decide +kernel
theorem oc_X9_boxOf : am_oc kX9_boxOf = 9 := by decide +kernel
theorem ml_X9_boxOf : am_ml kX9_boxOf = 3 := by decide +kernel
theorem rt_X9_boxOf : am_rt kX9_boxOf = (some .int) := by decide +kernel
theorem oc_X9_box : am_oc kX9_box = 9 := by decide +kernel
theorem ml_X9_box : am_ml kX9_box = 3 := by decide +kernel
theorem rt_X9_box : am_rt kX9_box = (some .int) := by decide +kernel
theorem oc_X9_over : am_oc kX9_over = 9 := by decide +kernel
theorem ml_X9_over : am_ml kX9_over = 4 := by decide +kernel
theorem rt_X9_over : am_rt kX9_over = (some .int) := by decide +kernel
theorem oc_X9_total : am_oc kX9_total = 9 := by decide +kernel
theorem ml_X9_total : am_ml kX9_total = 2 := by decide +kernel
theorem rt_X9_total : am_rt kX9_total = (some .int) := by decide +kernel
theorem oc_X9_empty : am_oc kX9_empty = 9 := by decide +kernel
theorem ml_X9_empty : am_ml kX9_empty = 4 := by decide +kernel
theorem rt_X9_empty : am_rt kX9_empty = (some .int) := by decide +kernel
theorem oc_X9_isBox : am_oc kX9_isBox = 9 := by decide +kernel
theorem ml_X9_isBox : am_ml kX9_isBox = 3 := by decide +kernel
theorem rt_X9_isBox : am_rt kX9_isBox = (some .boolean) := by decide +kernel
theorem oc_X9_hole : am_oc kX9_hole = 9 := by decide +kernel
theorem ml_X9_hole : am_ml kX9_hole = 3 := by decide +kernel
theorem rt_X9_hole : am_rt kX9_hole = (some .int) := by decide +kernel
theorem oc_X9_isNeed : am_oc kX9_isNeed = 9 := by decide +kernel
theorem ml_X9_isNeed : am_ml kX9_isNeed = 1 := by decide +kernel
theorem rt_X9_isNeed : am_rt kX9_isNeed = (some .boolean) := by decide +kernel
theorem oc_X9_comes : am_oc kX9_comes = 9 := by decide +kernel
theorem ml_X9_comes : am_ml kX9_comes = 6 := by decide +kernel
theorem rt_X9_comes : am_rt kX9_comes = none := by decide +kernel
theorem oc_X9_add : am_oc kX9_add = 9 := by decide +kernel
theorem ml_X9_add : am_ml kX9_add = 5 := by decide +kernel
theorem rt_X9_add : am_rt kX9_add = (some .int) := by decide +kernel
theorem oc_X9_drop : am_oc kX9_drop = 9 := by decide +kernel
theorem ml_X9_drop : am_ml kX9_drop = 3 := by decide +kernel
theorem rt_X9_drop : am_rt kX9_drop = (some .int) := by decide +kernel
theorem oc_X9_pin : am_oc kX9_pin = 9 := by decide +kernel
theorem ml_X9_pin : am_ml kX9_pin = 4 := by decide +kernel
theorem rt_X9_pin : am_rt kX9_pin = (some .int) := by decide +kernel
theorem oc_X9_becomes : am_oc kX9_becomes = 9 := by decide +kernel
theorem ml_X9_becomes : am_ml kX9_becomes = 4 := by decide +kernel
theorem rt_X9_becomes : am_rt kX9_becomes = (some .int) := by decide +kernel
theorem oc_X9_set : am_oc kX9_set = 9 := by decide +kernel
theorem ml_X9_set : am_ml kX9_set = 7 := by decide +kernel
theorem rt_X9_set : am_rt kX9_set = (some .int) := by decide +kernel
theorem oc_X9_swap : am_oc kX9_swap = 9 := by decide +kernel
theorem ml_X9_swap : am_ml kX9_swap = 5 := by decide +kernel
theorem rt_X9_swap : am_rt kX9_swap = (some .int) := by decide +kernel
theorem oc_X9_track : am_oc kX9_track = 9 := by decide +kernel
theorem ml_X9_track : am_ml kX9_track = 5 := by decide +kernel
theorem rt_X9_track : am_rt kX9_track = (some .int) := by decide +kernel
theorem oc_X9_width : am_oc kX9_width = 9 := by decide +kernel
theorem ml_X9_width : am_ml kX9_width = 2 := by decide +kernel
theorem rt_X9_width : am_rt kX9_width = (some .int) := by decide +kernel
theorem oc_X9_gap : am_oc kX9_gap = 9 := by decide +kernel
theorem ml_X9_gap : am_ml kX9_gap = 3 := by decide +kernel
theorem rt_X9_gap : am_rt kX9_gap = (some .int) := by decide +kernel
theorem oc_X9_high : am_oc kX9_high = 9 := by decide +kernel
theorem ml_X9_high : am_ml kX9_high = 2 := by decide +kernel
theorem rt_X9_high : am_rt kX9_high = (some .int) := by decide +kernel
theorem oc_X9_scatter : am_oc kX9_scatter = 9 := by decide +kernel
theorem ml_X9_scatter : am_ml kX9_scatter = 6 := by decide +kernel
theorem rt_X9_scatter : am_rt kX9_scatter = (some .int) := by decide +kernel
theorem oc_X9_keep : am_oc kX9_keep = 9 := by decide +kernel
theorem ml_X9_keep : am_ml kX9_keep = 4 := by decide +kernel
theorem rt_X9_keep : am_rt kX9_keep = (some .int) := by decide +kernel
theorem oc_X9_back : am_oc kX9_back = 9 := by decide +kernel
theorem ml_X9_back : am_ml kX9_back = 3 := by decide +kernel
theorem rt_X9_back : am_rt kX9_back = (some .int) := by decide +kernel
theorem oc_X9_isSheet : am_oc kX9_isSheet = 9 := by decide +kernel
theorem ml_X9_isSheet : am_ml kX9_isSheet = 2 := by decide +kernel
theorem rt_X9_isSheet : am_rt kX9_isSheet = (some .boolean) := by decide +kernel
theorem oc_X9_sheet : am_oc kX9_sheet = 9 := by decide +kernel
theorem ml_X9_sheet : am_ml kX9_sheet = 5 := by decide +kernel
theorem rt_X9_sheet : am_rt kX9_sheet = (some .int) := by decide +kernel
theorem oc_X9_lay : am_oc kX9_lay = 9 := by decide +kernel
theorem ml_X9_lay : am_ml kX9_lay = 4 := by decide +kernel
theorem rt_X9_lay : am_rt kX9_lay = (some .int) := by decide +kernel
theorem oc_X9_read : am_oc kX9_read = 9 := by decide +kernel
theorem ml_X9_read : am_ml kX9_read = 12 := by decide +kernel
theorem rt_X9_read : am_rt kX9_read = (some .int) := by decide +kernel
theorem oc_X9_torn : am_oc kX9_torn = 9 := by decide +kernel
theorem ml_X9_torn : am_ml kX9_torn = 1 := by decide +kernel
theorem rt_X9_torn : am_rt kX9_torn = (some .int) := by decide +kernel
theorem oc_X9_pinned : am_oc kX9_pinned = 9 := by decide +kernel
theorem ml_X9_pinned : am_ml kX9_pinned = 3 := by decide +kernel
theorem rt_X9_pinned : am_rt kX9_pinned = (some .int) := by decide +kernel
theorem oc_X9_sharesOfAll : am_oc kX9_sharesOfAll = 9 := by decide +kernel
theorem ml_X9_sharesOfAll : am_ml kX9_sharesOfAll = 3 := by decide +kernel
theorem rt_X9_sharesOfAll : am_rt kX9_sharesOfAll = (some .int) := by decide +kernel
theorem oc_X9_needsOfAll : am_oc kX9_needsOfAll = 9 := by decide +kernel
theorem ml_X9_needsOfAll : am_ml kX9_needsOfAll = 3 := by decide +kernel
theorem rt_X9_needsOfAll : am_rt kX9_needsOfAll = (some .int) := by decide +kernel
theorem oc_X9_count : am_oc kX9_count = 9 := by decide +kernel
theorem ml_X9_count : am_ml kX9_count = 2 := by decide +kernel
theorem rt_X9_count : am_rt kX9_count = (some .int) := by decide +kernel
theorem oc_J0_length_8abf5 : am_oc kJ0_length_8abf5 = 11 := by decide +kernel
theorem ml_J0_length_8abf5 : am_ml kJ0_length_8abf5 = 1 := by decide +kernel
theorem rt_J0_length_8abf5 : am_rt kJ0_length_8abf5 = (some .int) := by decide +kernel
theorem oc_J0_charAt_5068e : am_oc kJ0_charAt_5068e = 11 := by decide +kernel
theorem ml_J0_charAt_5068e : am_ml kJ0_charAt_5068e = 2 := by decide +kernel
theorem rt_J0_charAt_5068e : am_rt kJ0_charAt_5068e = (some .char) := by decide +kernel
theorem oc_J0_coder_7d493 : am_oc kJ0_coder_7d493 = 11 := by decide +kernel
theorem ml_J0_coder_7d493 : am_ml kJ0_coder_7d493 = 1 := by decide +kernel
theorem rt_J0_coder_7d493 : am_rt kJ0_coder_7d493 = (some .byte) := by decide +kernel
theorem oc_J0_isLatin1_aae02 : am_oc kJ0_isLatin1_aae02 = 11 := by decide +kernel
theorem ml_J0_isLatin1_aae02 : am_ml kJ0_isLatin1_aae02 = 1 := by decide +kernel
theorem rt_J0_isLatin1_aae02 : am_rt kJ0_isLatin1_aae02 = (some .boolean) := by decide +kernel
theorem oc_J0_checkIndex_df160 : am_oc kJ0_checkIndex_df160 = 11 := by decide +kernel
theorem ml_J0_checkIndex_df160 : am_ml kJ0_checkIndex_df160 = 2 := by decide +kernel
theorem rt_J0_checkIndex_df160 : am_rt kJ0_checkIndex_df160 = none := by decide +kernel
theorem oc_J1_charAt_3b067 : am_oc kJ1_charAt_3b067 = 12 := by decide +kernel
theorem ml_J1_charAt_3b067 : am_ml kJ1_charAt_3b067 = 2 := by decide +kernel
theorem rt_J1_charAt_3b067 : am_rt kJ1_charAt_3b067 = (some .char) := by decide +kernel
theorem oc_J7_fill_53178 : am_oc kJ7_fill_53178 = 15 := by decide +kernel
theorem ml_J7_fill_53178 : am_ml kJ7_fill_53178 = 4 := by decide +kernel
theorem rt_J7_fill_53178 : am_rt kJ7_fill_53178 = none := by decide +kernel
theorem oc_J3_checkIndex_8e157 : am_oc kJ3_checkIndex_8e157 = 14 := by decide +kernel
theorem ml_J3_checkIndex_8e157 : am_ml kJ3_checkIndex_8e157 = 3 := by decide +kernel
theorem rt_J3_checkIndex_8e157 : am_rt kJ3_checkIndex_8e157 = (some .int) := by decide +kernel
theorem oc_L_law : am_oc kL_law = 10 := by decide +kernel
theorem ml_L_law : am_ml kL_law = 4 := by decide +kernel
theorem rt_L_law : am_rt kL_law = (some .boolean) := by decide +kernel
theorem fl_0_9 : am_lk am_fl 0 9 = some (0, 2, 335) := by decide +kernel
theorem fl_0_15 : am_lk am_fl 0 15 = some (0, 3, 337) := by decide +kernel
theorem fl_0_18 : am_lk am_fl 0 18 = some (0, 4, 339) := by decide +kernel
theorem fl_0_21 : am_lk am_fl 0 21 = some (0, 5, 342) := by decide +kernel
theorem fl_0_24 : am_lk am_fl 0 24 = some (0, 7, 345) := by decide +kernel
theorem fl_0_27 : am_lk am_fl 0 27 = some (0, 8, 347) := by decide +kernel
theorem fl_0_30 : am_lk am_fl 0 30 = some (0, 9, 349) := by decide +kernel
theorem fl_0_33 : am_lk am_fl 0 33 = some (0, 0, 332) := by decide +kernel
theorem fl_0_37 : am_lk am_fl 0 37 = some (0, 1, 334) := by decide +kernel
theorem fl_0_40 : am_lk am_fl 0 40 = some (0, 6, 344) := by decide +kernel
theorem fl_1_9 : am_lk am_fl 1 9 = some (1, 1, 141) := by decide +kernel
theorem fl_1_15 : am_lk am_fl 1 15 = some (1, 2, 144) := by decide +kernel
theorem fl_1_20 : am_lk am_fl 1 20 = some (1, 8, 163) := by decide +kernel
theorem fl_1_23 : am_lk am_fl 1 23 = some (1, 9, 167) := by decide +kernel
theorem fl_1_26 : am_lk am_fl 1 26 = some (1, 5, 153) := by decide +kernel
theorem fl_1_36 : am_lk am_fl 1 36 = some (1, 0, 137) := by decide +kernel
theorem fl_1_39 : am_lk am_fl 1 39 = some (1, 3, 147) := by decide +kernel
theorem fl_1_42 : am_lk am_fl 1 42 = some (1, 4, 150) := by decide +kernel
theorem fl_1_45 : am_lk am_fl 1 45 = some (1, 6, 156) := by decide +kernel
theorem fl_1_48 : am_lk am_fl 1 48 = some (1, 7, 159) := by decide +kernel
theorem fl_2_10 : am_lk am_fl 2 10 = some (2, 0, 269) := by decide +kernel
theorem fl_3_9 : am_lk am_fl 3 9 = some (3, 0, 302) := by decide +kernel
theorem fl_3_15 : am_lk am_fl 3 15 = some (3, 1, 304) := by decide +kernel
theorem fl_3_18 : am_lk am_fl 3 18 = some (3, 2, 306) := by decide +kernel
theorem fl_3_27 : am_lk am_fl 3 27 = some (3, 3, 307) := by decide +kernel
theorem fl_3_31 : am_lk am_fl 3 31 = some (3, 4, 309) := by decide +kernel
theorem fl_3_34 : am_lk am_fl 3 34 = some (3, 5, 311) := by decide +kernel
theorem fl_3_37 : am_lk am_fl 3 37 = some (1, 7, 160) := by decide +kernel
theorem fl_3_54 : am_lk am_fl 3 54 = some (1, 8, 164) := by decide +kernel
theorem fl_3_66 : am_lk am_fl 3 66 = some (1, 0, 140) := by decide +kernel
theorem fl_4_9 : am_lk am_fl 4 9 = some (4, 0, 378) := by decide +kernel
theorem fl_4_15 : am_lk am_fl 4 15 = some (0, 6, 343) := by decide +kernel
theorem fl_4_34 : am_lk am_fl 4 34 = some (0, 0, 333) := by decide +kernel
theorem fl_4_37 : am_lk am_fl 4 37 = some (0, 2, 336) := by decide +kernel
theorem fl_4_40 : am_lk am_fl 4 40 = some (0, 4, 340) := by decide +kernel
theorem fl_4_43 : am_lk am_fl 4 43 = some (0, 3, 338) := by decide +kernel
theorem fl_4_53 : am_lk am_fl 4 53 = some (4, 1, 379) := by decide +kernel
theorem fl_4_70 : am_lk am_fl 4 70 = some (0, 8, 348) := by decide +kernel
theorem fl_4_73 : am_lk am_fl 4 73 = some (0, 7, 346) := by decide +kernel
theorem fl_4_76 : am_lk am_fl 4 76 = some (0, 9, 350) := by decide +kernel
theorem fl_5_9 : am_lk am_fl 5 9 = some (5, 0, 284) := by decide +kernel
theorem fl_5_15 : am_lk am_fl 5 15 = some (5, 2, 287) := by decide +kernel
theorem fl_5_19 : am_lk am_fl 5 19 = some (5, 1, 286) := by decide +kernel
theorem fl_6_12 : am_lk am_fl 6 12 = some (6, 0, 231) := by decide +kernel
theorem fl_6_21 : am_lk am_fl 6 21 = some (6, 1, 233) := by decide +kernel
theorem fl_6_31 : am_lk am_fl 6 31 = some (7, 2, 208) := by decide +kernel
theorem fl_6_42 : am_lk am_fl 6 42 = some (6, 2, 235) := by decide +kernel
theorem fl_6_45 : am_lk am_fl 6 45 = some (7, 1, 207) := by decide +kernel
theorem fl_6_48 : am_lk am_fl 6 48 = some (6, 3, 237) := by decide +kernel
theorem fl_6_55 : am_lk am_fl 6 55 = some (6, 4, 239) := by decide +kernel
theorem fl_6_59 : am_lk am_fl 6 59 = some (6, 5, 240) := by decide +kernel
theorem fl_6_62 : am_lk am_fl 6 62 = some (6, 6, 241) := by decide +kernel
theorem fl_6_65 : am_lk am_fl 6 65 = some (6, 7, 242) := by decide +kernel
theorem fl_6_68 : am_lk am_fl 6 68 = some (1, 7, 161) := by decide +kernel
theorem fl_6_75 : am_lk am_fl 6 75 = some (1, 9, 168) := by decide +kernel
theorem fl_6_79 : am_lk am_fl 6 79 = some (1, 0, 138) := by decide +kernel
theorem fl_6_128 : am_lk am_fl 6 128 = some (7, 4, 213) := by decide +kernel
theorem fl_6_141 : am_lk am_fl 6 141 = some (1, 1, 142) := by decide +kernel
theorem fl_6_144 : am_lk am_fl 6 144 = some (1, 2, 145) := by decide +kernel
theorem fl_6_153 : am_lk am_fl 6 153 = some (1, 3, 149) := by decide +kernel
theorem fl_6_156 : am_lk am_fl 6 156 = some (1, 4, 152) := by decide +kernel
theorem fl_6_162 : am_lk am_fl 6 162 = some (1, 5, 155) := by decide +kernel
theorem fl_6_164 : am_lk am_fl 6 164 = some (1, 6, 158) := by decide +kernel
theorem fl_6_179 : am_lk am_fl 6 179 = some (1, 8, 166) := by decide +kernel
theorem fl_6_199 : am_lk am_fl 6 199 = some (7, 3, 211) := by decide +kernel
theorem fl_7_9 : am_lk am_fl 7 9 = some (7, 0, 204) := by decide +kernel
theorem fl_7_15 : am_lk am_fl 7 15 = some (7, 1, 205) := by decide +kernel
theorem fl_7_19 : am_lk am_fl 7 19 = some (7, 5, 214) := by decide +kernel
theorem fl_7_22 : am_lk am_fl 7 22 = some (7, 3, 210) := by decide +kernel
theorem fl_7_25 : am_lk am_fl 7 25 = some (7, 4, 212) := by decide +kernel
theorem fl_7_28 : am_lk am_fl 7 28 = some (7, 2, 209) := by decide +kernel
theorem fl_8_10 : am_lk am_fl 8 10 = some (8, 0, 385) := by decide +kernel
theorem fl_8_19 : am_lk am_fl 8 19 = some (8, 1, 386) := by decide +kernel
theorem fl_8_25 : am_lk am_fl 8 25 = some (8, 2, 387) := by decide +kernel
theorem fl_8_32 : am_lk am_fl 8 32 = some (8, 3, 388) := by decide +kernel
theorem fl_8_40 : am_lk am_fl 8 40 = some (8, 4, 389) := by decide +kernel
theorem fl_8_47 : am_lk am_fl 8 47 = some (8, 5, 390) := by decide +kernel
theorem fl_8_51 : am_lk am_fl 8 51 = some (8, 6, 391) := by decide +kernel
theorem fl_8_57 : am_lk am_fl 8 57 = some (8, 7, 392) := by decide +kernel
theorem fl_8_61 : am_lk am_fl 8 61 = some (8, 8, 393) := by decide +kernel
theorem fl_8_69 : am_lk am_fl 8 69 = some (6, 0, 232) := by decide +kernel
theorem fl_8_79 : am_lk am_fl 8 79 = some (7, 1, 206) := by decide +kernel
theorem fl_8_87 : am_lk am_fl 8 87 = some (6, 2, 236) := by decide +kernel
theorem fl_8_90 : am_lk am_fl 8 90 = some (6, 3, 238) := by decide +kernel
theorem fl_8_93 : am_lk am_fl 8 93 = some (6, 1, 234) := by decide +kernel
theorem fl_8_106 : am_lk am_fl 8 106 = some (1, 0, 139) := by decide +kernel
theorem fl_8_109 : am_lk am_fl 8 109 = some (3, 3, 308) := by decide +kernel
theorem fl_8_112 : am_lk am_fl 8 112 = some (1, 7, 162) := by decide +kernel
theorem fl_8_115 : am_lk am_fl 8 115 = some (3, 4, 310) := by decide +kernel
theorem fl_8_118 : am_lk am_fl 8 118 = some (1, 5, 154) := by decide +kernel
theorem fl_8_121 : am_lk am_fl 8 121 = some (1, 3, 148) := by decide +kernel
theorem fl_8_124 : am_lk am_fl 8 124 = some (1, 4, 151) := by decide +kernel
theorem fl_8_127 : am_lk am_fl 8 127 = some (1, 6, 157) := by decide +kernel
theorem fl_8_130 : am_lk am_fl 8 130 = some (1, 1, 143) := by decide +kernel
theorem fl_8_134 : am_lk am_fl 8 134 = some (1, 2, 146) := by decide +kernel
theorem fl_8_137 : am_lk am_fl 8 137 = some (0, 4, 341) := by decide +kernel
theorem fl_8_147 : am_lk am_fl 8 147 = some (1, 8, 165) := by decide +kernel
theorem fl_8_151 : am_lk am_fl 8 151 = some (3, 0, 303) := by decide +kernel
theorem fl_8_153 : am_lk am_fl 8 153 = some (3, 1, 305) := by decide +kernel
theorem fl_8_156 : am_lk am_fl 8 156 = some (1, 9, 169) := by decide +kernel
theorem fl_8_181 : am_lk am_fl 8 181 = some (3, 5, 312) := by decide +kernel
theorem fl_8_225 : am_lk am_fl 8 225 = some (2, 1, 271) := by decide +kernel
theorem fl_8_228 : am_lk am_fl 8 228 = some (2, 0, 270) := by decide +kernel
theorem fl_8_256 : am_lk am_fl 8 256 = some (8, 9, 394) := by decide +kernel
theorem fl_8_274 : am_lk am_fl 8 274 = some (5, 2, 288) := by decide +kernel
theorem fl_8_275 : am_lk am_fl 8 275 = some (5, 0, 285) := by decide +kernel
theorem fl_9_7 : am_lk am_fl 9 7 = some (9, 0, 978) := by decide +kernel
theorem fl_9_13 : am_lk am_fl 9 13 = some (9, 1, 979) := by decide +kernel
theorem fl_9_16 : am_lk am_fl 9 16 = some (9, 2, 980) := by decide +kernel
theorem fl_9_20 : am_lk am_fl 9 20 = some (9, 3, 981) := by decide +kernel
theorem fl_9_23 : am_lk am_fl 9 23 = some (9, 4, 982) := by decide +kernel
theorem fl_9_26 : am_lk am_fl 9 26 = some (9, 5, 983) := by decide +kernel
theorem fl_9_29 : am_lk am_fl 9 29 = some (9, 13, 991) := by decide +kernel
theorem fl_9_32 : am_lk am_fl 9 32 = some (9, 14, 992) := by decide +kernel
theorem fl_9_35 : am_lk am_fl 9 35 = some (9, 15, 993) := by decide +kernel
theorem fl_9_38 : am_lk am_fl 9 38 = some (9, 17, 995) := by decide +kernel
theorem fl_9_41 : am_lk am_fl 9 41 = some (9, 18, 996) := by decide +kernel
theorem fl_9_44 : am_lk am_fl 9 44 = some (9, 19, 997) := by decide +kernel
theorem fl_9_47 : am_lk am_fl 9 47 = some (9, 20, 998) := by decide +kernel
theorem fl_9_50 : am_lk am_fl 9 50 = some (9, 21, 999) := by decide +kernel
theorem fl_9_53 : am_lk am_fl 9 53 = some (9, 22, 1000) := by decide +kernel
theorem fl_9_56 : am_lk am_fl 9 56 = some (9, 23, 1001) := by decide +kernel
theorem fl_9_59 : am_lk am_fl 9 59 = some (9, 24, 1002) := by decide +kernel
theorem fl_9_74 : am_lk am_fl 9 74 = some (9, 6, 984) := by decide +kernel
theorem fl_9_78 : am_lk am_fl 9 78 = some (9, 11, 989) := by decide +kernel
theorem fl_9_81 : am_lk am_fl 9 81 = some (9, 8, 986) := by decide +kernel
theorem fl_9_84 : am_lk am_fl 9 84 = some (9, 12, 990) := by decide +kernel
theorem fl_9_87 : am_lk am_fl 9 87 = some (9, 9, 987) := by decide +kernel
theorem fl_9_90 : am_lk am_fl 9 90 = some (9, 7, 985) := by decide +kernel
theorem fl_9_113 : am_lk am_fl 9 113 = some (9, 10, 988) := by decide +kernel
theorem fl_9_168 : am_lk am_fl 9 168 = some (9, 16, 994) := by decide +kernel
theorem fl_9_324 : am_lk am_fl 9 324 = some (9, 25, 1003) := by decide +kernel
set_option maxRecDepth 100000 in
theorem ct_0_43 : am_lk am_ct 0 43 = some (0, kX0_extent, 2, 704, 705, 706, 109) := rfl
set_option maxRecDepth 100000 in
theorem ct_0_47 : am_lk am_ct 0 47 = some (1, kJ7_fill_53178, 2, 687, 135, 0, 103) := rfl
set_option maxRecDepth 100000 in
theorem ct_0_53 : am_lk am_ct 0 53 = some (0, kX0_flexShares, 1, 688, 689, 690, 109) := rfl
set_option maxRecDepth 100000 in
theorem ct_0_57 : am_lk am_ct 0 57 = some (0, kX0_deal, 1, 692, 694, 24, 109) := rfl
set_option maxRecDepth 100000 in
theorem ct_0_61 : am_lk am_ct 0 61 = some (0, kX0_autosOf, 1, 696, 698, 25, 109) := rfl
set_option maxRecDepth 100000 in
theorem ct_0_64 : am_lk am_ct 0 64 = some (0, kX0_lack, 1, 700, 701, 702, 109) := rfl
set_option maxRecDepth 100000 in
theorem ct_1_30 : am_lk am_ct 1 30 = some (1, kJ7_fill_53178, 2, 134, 135, 0, 103) := rfl
set_option maxRecDepth 100000 in
theorem ct_1_57 : am_lk am_ct 1 57 = some (4, kX8_isBetween, 3, 609, 421, 0, 101) := rfl
set_option maxRecDepth 100000 in
theorem ct_1_61 : am_lk am_ct 1 61 = some (0, kX1_isItemSize, 2, 831, 819, 820, 102) := rfl
set_option maxRecDepth 100000 in
theorem ct_1_65 : am_lk am_ct 1 65 = some (0, kX1_isPin, 3, 605, 606, 607, 102) := rfl
set_option maxRecDepth 100000 in
theorem ct_2_9 : am_lk am_ct 2 9 = some (2, kX1_init, 0, 268, 129, 0, 102) := rfl
set_option maxRecDepth 100000 in
theorem ct_3_21 : am_lk am_ct 3 21 = some (1, kJ7_fill_53178, 2, 641, 135, 0, 103) := rfl
set_option maxRecDepth 100000 in
theorem ct_3_42 : am_lk am_ct 3 42 = some (1, kX3_turnOf, 2, 642, 643, 0, 108) := rfl
set_option maxRecDepth 100000 in
theorem ct_3_46 : am_lk am_ct 3 46 = some (0, kX3_place, 2, 645, 647, 21, 108) := rfl
set_option maxRecDepth 100000 in
theorem ct_3_50 : am_lk am_ct 3 50 = some (0, kX3_isLost, 1, 786, 676, 677, 108) := rfl
set_option maxRecDepth 100000 in
theorem ct_3_58 : am_lk am_ct 3 58 = some (4, kX8_isBetween, 3, 787, 421, 0, 101) := rfl
set_option maxRecDepth 100000 in
theorem ct_3_62 : am_lk am_ct 3 62 = some (0, kX3_isFree, 4, 653, 655, 22, 108) := rfl
set_option maxRecDepth 100000 in
theorem ct_3_68 : am_lk am_ct 3 68 = some (0, kX3_firstHole, 5, 649, 650, 651, 108) := rfl
set_option maxRecDepth 100000 in
theorem ct_3_72 : am_lk am_ct 3 72 = some (1, kX3_bits, 2, 657, 658, 0, 108) := rfl
set_option maxRecDepth 100000 in
theorem ct_4_21 : am_lk am_ct 4 21 = some (0, kX0_flexShares, 1, 713, 689, 690, 109) := rfl
set_option maxRecDepth 100000 in
theorem ct_4_25 : am_lk am_ct 4 25 = some (0, kX0_lack, 1, 714, 701, 702, 109) := rfl
set_option maxRecDepth 100000 in
theorem ct_4_46 : am_lk am_ct 4 46 = some (0, kX0_extent, 2, 720, 705, 706, 109) := rfl
set_option maxRecDepth 100000 in
theorem ct_4_49 : am_lk am_ct 4 49 = some (0, kX4_findLeast, 1, 721, 723, 26, 110) := rfl
set_option maxRecDepth 100000 in
theorem ct_4_56 : am_lk am_ct 4 56 = some (0, kX4_freeze, 2, 726, 728, 27, 110) := rfl
set_option maxRecDepth 100000 in
theorem ct_4_60 : am_lk am_ct 4 60 = some (0, kX4_dealParts, 2, 746, 748, 32, 110) := rfl
set_option maxRecDepth 100000 in
theorem ct_4_64 : am_lk am_ct 4 64 = some (1, kJ7_fill_53178, 2, 725, 135, 0, 103) := rfl
set_option maxRecDepth 100000 in
theorem ct_4_79 : am_lk am_ct 4 79 = some (0, kX4_isFrozen, 1, 738, 740, 30, 110) := rfl
set_option maxRecDepth 100000 in
theorem ct_4_83 : am_lk am_ct 4 83 = some (0, kX4_isOpen, 2, 734, 736, 29, 110) := rfl
set_option maxRecDepth 100000 in
theorem ct_4_86 : am_lk am_ct 4 86 = some (0, kX4_openShares, 1, 730, 732, 28, 110) := rfl
set_option maxRecDepth 100000 in
theorem ct_4_90 : am_lk am_ct 4 90 = some (0, kX4_openWidth, 2, 742, 744, 31, 110) := rfl
set_option maxRecDepth 100000 in
theorem ct_5_22 : am_lk am_ct 5 22 = some (1, kJ7_fill_53178, 2, 908, 135, 0, 103) := rfl
set_option maxRecDepth 100000 in
theorem ct_5_28 : am_lk am_ct 5 28 = some (0, kX5_faultOf, 2, 930, 914, 915, 107) := rfl
set_option maxRecDepth 100000 in
theorem ct_6_11 : am_lk am_ct 6 11 = some (3, kX7_init, 0, 200, 201, 0, 105) := rfl
set_option maxRecDepth 100000 in
theorem ct_6_20 : am_lk am_ct 6 20 = some (2, kX1_init, 0, 230, 129, 0, 102) := rfl
set_option maxRecDepth 100000 in
theorem ct_6_25 : am_lk am_ct 6 25 = some (0, kX6_clear, 0, 439, 441, 0, 104) := rfl
set_option maxRecDepth 100000 in
theorem ct_6_28 : am_lk am_ct 6 28 = some (0, kX7_advance, 0, 451, 452, 453, 105) := rfl
set_option maxRecDepth 100000 in
theorem ct_6_35 : am_lk am_ct 6 35 = some (0, kX6_takeLine, 0, 455, 457, 1, 104) := rfl
set_option maxRecDepth 100000 in
theorem ct_6_39 : am_lk am_ct 6 39 = some (0, kX6_isDraftWhole, 0, 597, 599, 17, 104) := rfl
set_option maxRecDepth 100000 in
theorem ct_6_51 : am_lk am_ct 6 51 = some (0, kX7_rewind, 0, 443, 444, 445, 105) := rfl
set_option maxRecDepth 100000 in
theorem ct_6_54 : am_lk am_ct 6 54 = some (0, kX1_clear, 0, 447, 448, 449, 102) := rfl
set_option maxRecDepth 100000 in
theorem ct_6_71 : am_lk am_ct 6 71 = some (0, kX1_isInside, 1, 601, 602, 603, 102) := rfl
set_option maxRecDepth 100000 in
theorem ct_6_84 : am_lk am_ct 6 84 = some (0, kX7_isName, 1, 460, 461, 462, 105) := rfl
set_option maxRecDepth 100000 in
theorem ct_6_88 : am_lk am_ct 6 88 = some (0, kX6_takeColumns, 0, 512, 514, 2, 104) := rfl
set_option maxRecDepth 100000 in
theorem ct_6_93 : am_lk am_ct 6 93 = some (0, kX6_takeGap, 0, 546, 548, 9, 104) := rfl
set_option maxRecDepth 100000 in
theorem ct_6_98 : am_lk am_ct 6 98 = some (0, kX6_takeWidth, 0, 555, 557, 11, 104) := rfl
set_option maxRecDepth 100000 in
theorem ct_6_103 : am_lk am_ct 6 103 = some (0, kX6_takeHigh, 0, 560, 562, 12, 104) := rfl
set_option maxRecDepth 100000 in
theorem ct_6_108 : am_lk am_ct 6 108 = some (0, kX6_takeNamedLine, 0, 565, 567, 13, 104) := rfl
set_option maxRecDepth 100000 in
theorem ct_6_113 : am_lk am_ct 6 113 = some (0, kX6_takeItemLine, 0, 574, 576, 14, 104) := rfl
set_option maxRecDepth 100000 in
theorem ct_6_116 : am_lk am_ct 6 116 = some (0, kX6_refuseToken, 0, 525, 527, 5, 104) := rfl
set_option maxRecDepth 100000 in
theorem ct_6_119 : am_lk am_ct 6 119 = some (0, kX6_refuse, 1, 516, 518, 3, 104) := rfl
set_option maxRecDepth 100000 in
theorem ct_6_124 : am_lk am_ct 6 124 = some (0, kX6_takeNumber, 2, 521, 523, 4, 104) := rfl
set_option maxRecDepth 100000 in
theorem ct_6_131 : am_lk am_ct 6 131 = some (0, kX6_takeTrack, 1, 530, 532, 6, 104) := rfl
set_option maxRecDepth 100000 in
theorem ct_6_134 : am_lk am_ct 6 134 = some (0, kX6_repeatTracks, 2, 541, 543, 8, 104) := rfl
set_option maxRecDepth 100000 in
theorem ct_6_137 : am_lk am_ct 6 137 = some (0, kX6_trackKind, 0, 534, 536, 7, 104) := rfl
set_option maxRecDepth 100000 in
theorem ct_6_159 : am_lk am_ct 6 159 = some (0, kX6_takeSemicolon, 0, 550, 552, 10, 104) := rfl
set_option maxRecDepth 100000 in
theorem ct_6_166 : am_lk am_ct 6 166 = some (0, kX7_letter, 0, 569, 570, 571, 105) := rfl
set_option maxRecDepth 100000 in
theorem ct_6_169 : am_lk am_ct 6 169 = some (0, kX1_append, 4, 578, 579, 580, 102) := rfl
set_option maxRecDepth 100000 in
theorem ct_6_183 : am_lk am_ct 6 183 = some (0, kX6_takePin, 1, 586, 588, 15, 104) := rfl
set_option maxRecDepth 100000 in
theorem ct_6_192 : am_lk am_ct 6 192 = some (0, kX6_takePinLetter, 1, 593, 595, 16, 104) := rfl
set_option maxRecDepth 100000 in
theorem ct_6_195 : am_lk am_ct 6 195 = some (4, kX8_isBetween, 3, 529, 421, 0, 101) := rfl
set_option maxRecDepth 100000 in
theorem ct_7_31 : am_lk am_ct 7 31 = some (0, kJ0_length_8abf5, 0, 464, 465, 466, 112) := rfl
set_option maxRecDepth 100000 in
theorem ct_7_36 : am_lk am_ct 7 36 = some (0, kJ0_charAt_5068e, 1, 474, 475, 476, 112) := rfl
set_option maxRecDepth 100000 in
theorem ct_8_9 : am_lk am_ct 8 9 = some (2, kX1_init, 0, 128, 129, 0, 102) := rfl
set_option maxRecDepth 100000 in
theorem ct_8_18 : am_lk am_ct 8 18 = some (3, kX6_init, 0, 194, 195, 0, 104) := rfl
set_option maxRecDepth 100000 in
theorem ct_8_29 : am_lk am_ct 8 29 = some (3, kX2_init, 0, 263, 264, 0, 106) := rfl
set_option maxRecDepth 100000 in
theorem ct_8_36 : am_lk am_ct 8 36 = some (2, kX5_init, 0, 280, 281, 0, 107) := rfl
set_option maxRecDepth 100000 in
theorem ct_8_39 : am_lk am_ct 8 39 = some (3, kX3_init, 0, 298, 299, 0, 108) := rfl
set_option maxRecDepth 100000 in
theorem ct_8_46 : am_lk am_ct 8 46 = some (3, kX0_init, 0, 328, 329, 0, 109) := rfl
set_option maxRecDepth 100000 in
theorem ct_8_56 : am_lk am_ct 8 56 = some (3, kX4_init, 0, 374, 375, 0, 110) := rfl
set_option maxRecDepth 100000 in
theorem ct_8_65 : am_lk am_ct 8 65 = some (1, kX8_isBetween, 3, 420, 421, 0, 101) := rfl
set_option maxRecDepth 100000 in
theorem ct_8_73 : am_lk am_ct 8 73 = some (0, kX7_append, 1, 423, 424, 425, 105) := rfl
set_option maxRecDepth 100000 in
theorem ct_8_83 : am_lk am_ct 8 83 = some (0, kX6_tellAll, 0, 435, 436, 437, 104) := rfl
set_option maxRecDepth 100000 in
theorem ct_8_96 : am_lk am_ct 8 96 = some (0, kX1_become, 1, 610, 611, 612, 102) := rfl
set_option maxRecDepth 100000 in
theorem ct_8_100 : am_lk am_ct 8 100 = some (0, kX8_forgetImages, 0, 617, 619, 18, 101) := rfl
set_option maxRecDepth 100000 in
theorem ct_8_103 : am_lk am_ct 8 103 = some (0, kX8_arrange, 0, 633, 635, 20, 101) := rfl
set_option maxRecDepth 100000 in
theorem ct_8_140 : am_lk am_ct 8 140 = some (0, kX0_startOf, 1, 758, 759, 760, 109) := rfl
set_option maxRecDepth 100000 in
theorem ct_8_144 : am_lk am_ct 8 144 = some (0, kX8_isItem, 1, 770, 772, 34, 101) := rfl
set_option maxRecDepth 100000 in
theorem ct_8_159 : am_lk am_ct 8 159 = some (0, kX3_itemAt, 3, 782, 783, 784, 108) := rfl
set_option maxRecDepth 100000 in
theorem ct_8_163 : am_lk am_ct 8 163 = some (0, kX3_isLost, 1, 675, 676, 677, 108) := rfl
set_option maxRecDepth 100000 in
theorem ct_8_166 : am_lk am_ct 8 166 = some (0, kX8_boxWidth, 1, 792, 794, 35, 101) := rfl
set_option maxRecDepth 100000 in
theorem ct_8_169 : am_lk am_ct 8 169 = some (0, kX8_boxHeight, 1, 797, 799, 36, 101) := rfl
set_option maxRecDepth 100000 in
theorem ct_8_178 : am_lk am_ct 8 178 = some (0, kX0_extent, 2, 796, 705, 706, 109) := rfl
set_option maxRecDepth 100000 in
theorem ct_8_184 : am_lk am_ct 8 184 = some (0, kX1_isItemSize, 2, 818, 819, 820, 102) := rfl
set_option maxRecDepth 100000 in
theorem ct_8_188 : am_lk am_ct 8 188 = some (0, kX3_firstHole, 5, 822, 650, 651, 108) := rfl
set_option maxRecDepth 100000 in
theorem ct_8_192 : am_lk am_ct 8 192 = some (0, kX1_isItem, 4, 827, 828, 829, 102) := rfl
set_option maxRecDepth 100000 in
theorem ct_8_195 : am_lk am_ct 8 195 = some (0, kX1_append, 4, 832, 579, 580, 102) := rfl
set_option maxRecDepth 100000 in
theorem ct_8_197 : am_lk am_ct 8 197 = some (0, kX1_remove, 1, 837, 838, 839, 102) := rfl
set_option maxRecDepth 100000 in
theorem ct_8_201 : am_lk am_ct 8 201 = some (0, kX1_isPin, 3, 845, 606, 607, 102) := rfl
set_option maxRecDepth 100000 in
theorem ct_8_210 : am_lk am_ct 8 210 = some (0, kX1_isInside, 1, 852, 602, 603, 102) := rfl
set_option maxRecDepth 100000 in
theorem ct_8_213 : am_lk am_ct 8 213 = some (0, kX1_exchange, 2, 857, 858, 859, 102) := rfl
set_option maxRecDepth 100000 in
theorem ct_8_217 : am_lk am_ct 8 217 = some (1, kX8_isTrack, 2, 865, 866, 0, 101) := rfl
set_option maxRecDepth 100000 in
theorem ct_8_221 : am_lk am_ct 8 221 = some (0, kX8_imageOf, 1, 621, 623, 19, 101) := rfl
set_option maxRecDepth 100000 in
theorem ct_8_229 : am_lk am_ct 8 229 = some (0, kX8_sheetOf, 1, 897, 899, 37, 101) := rfl
set_option maxRecDepth 100000 in
theorem ct_8_233 : am_lk am_ct 8 233 = some (1, kX8_isLane, 1, 901, 902, 0, 101) := rfl
set_option maxRecDepth 100000 in
theorem ct_8_236 : am_lk am_ct 8 236 = some (0, kX5_renew, 2, 904, 905, 906, 107) := rfl
set_option maxRecDepth 100000 in
theorem ct_8_239 : am_lk am_ct 8 239 = some (0, kX5_faultOf, 2, 913, 914, 915, 107) := rfl
set_option maxRecDepth 100000 in
theorem ct_8_243 : am_lk am_ct 8 243 = some (0, kX5_write, 2, 917, 918, 919, 107) := rfl
set_option maxRecDepth 100000 in
theorem ct_8_248 : am_lk am_ct 8 248 = some (0, kX5_faultAs, 3, 926, 927, 928, 107) := rfl
set_option maxRecDepth 100000 in
theorem ct_8_252 : am_lk am_ct 8 252 = some (0, kX8_takeItem, 2, 931, 933, 38, 101) := rfl
set_option maxRecDepth 100000 in
theorem ct_8_259 : am_lk am_ct 8 259 = some (0, kX8_heldImages, 0, 944, 946, 39, 101) := rfl
set_option maxRecDepth 100000 in
theorem ct_8_262 : am_lk am_ct 8 262 = some (0, kX1_pinnedItems, 0, 948, 949, 950, 102) := rfl
set_option maxRecDepth 100000 in
theorem ct_8_265 : am_lk am_ct 8 265 = some (0, kX8_cellsOf, 1, 952, 954, 40, 101) := rfl
set_option maxRecDepth 100000 in
theorem ct_8_268 : am_lk am_ct 8 268 = some (0, kX1_allShares, 0, 956, 957, 958, 102) := rfl
set_option maxRecDepth 100000 in
theorem ct_8_271 : am_lk am_ct 8 271 = some (0, kX1_allNeedsInWidth, 0, 960, 961, 962, 102) := rfl
set_option maxRecDepth 100000 in
theorem ct_8_278 : am_lk am_ct 8 278 = some (0, kX8_add, 4, 935, 824, 825, 101) := rfl
set_option maxRecDepth 100000 in
theorem ct_8_282 : am_lk am_ct 8 282 = some (0, kX3_placeAll, 1, 637, 638, 639, 108) := rfl
set_option maxRecDepth 100000 in
theorem ct_8_285 : am_lk am_ct 8 285 = some (0, kX8_measureColumns, 0, 663, 665, 23, 101) := rfl
set_option maxRecDepth 100000 in
theorem ct_8_288 : am_lk am_ct 8 288 = some (0, kX8_measureRows, 0, 750, 752, 33, 101) := rfl
set_option maxRecDepth 100000 in
theorem ct_8_291 : am_lk am_ct 8 291 = some (0, kX0_begin, 2, 667, 668, 669, 109) := rfl
set_option maxRecDepth 100000 in
theorem ct_8_294 : am_lk am_ct 8 294 = some (0, kX0_put, 4, 671, 672, 673, 109) := rfl
set_option maxRecDepth 100000 in
theorem ct_8_298 : am_lk am_ct 8 298 = some (0, kX0_admit, 3, 679, 680, 681, 109) := rfl
set_option maxRecDepth 100000 in
theorem ct_8_302 : am_lk am_ct 8 302 = some (0, kX0_growBy, 1, 683, 684, 685, 109) := rfl
set_option maxRecDepth 100000 in
theorem ct_8_305 : am_lk am_ct 8 305 = some (0, kX4_dealByNeed, 1, 709, 710, 711, 110) := rfl
set_option maxRecDepth 100000 in
theorem ct_8_309 : am_lk am_ct 8 309 = some (0, kX4_dealByWidth, 2, 716, 717, 718, 110) := rfl
set_option maxRecDepth 100000 in
theorem ct_9_62 : am_lk am_ct 9 62 = some (0, kX9_firstDraft, 0, 970, 972, 41, 111) := rfl
set_option maxRecDepth 100000 in
theorem ct_9_65 : am_lk am_ct 9 65 = some (0, kX9_keepDraft, 0, 974, 976, 42, 111) := rfl
set_option maxRecDepth 100000 in
theorem ct_9_70 : am_lk am_ct 9 70 = some (1, kX9_in, 3, 1063, 1064, 0, 111) := rfl
set_option maxRecDepth 100000 in
theorem ct_9_93 : am_lk am_ct 9 93 = some (0, kX9_byteAt, 1, 1078, 1080, 44, 111) := rfl
set_option maxRecDepth 100000 in
theorem ct_9_97 : am_lk am_ct 9 97 = some (0, kX9_is, 4, 1098, 1100, 48, 111) := rfl
set_option maxRecDepth 100000 in
theorem ct_9_101 : am_lk am_ct 9 101 = some (0, kX9_then, 3, 1102, 1104, 49, 111) := rfl
set_option maxRecDepth 100000 in
theorem ct_9_116 : am_lk am_ct 9 116 = some (0, kX9_requires, 2, 1086, 1088, 45, 111) := rfl
set_option maxRecDepth 100000 in
theorem ct_9_120 : am_lk am_ct 9 120 = some (0, kX9_reads, 0, 1074, 1076, 43, 111) := rfl
set_option maxRecDepth 100000 in
theorem ct_9_125 : am_lk am_ct 9 125 = some (0, kX9_isRepeat, 0, 1114, 1116, 52, 111) := rfl
set_option maxRecDepth 100000 in
theorem ct_9_129 : am_lk am_ct 9 129 = some (0, kX9_readNumber, 2, 1118, 1120, 53, 111) := rfl
set_option maxRecDepth 100000 in
theorem ct_9_133 : am_lk am_ct 9 133 = some (0, kX9_trackName, 0, 1122, 1124, 54, 111) := rfl
set_option maxRecDepth 100000 in
theorem ct_9_137 : am_lk am_ct 9 137 = some (0, kX9_lineNow, 0, 1130, 1132, 56, 111) := rfl
set_option maxRecDepth 100000 in
theorem ct_9_140 : am_lk am_ct 9 140 = some (0, kX9_pinName, 0, 1139, 1141, 58, 111) := rfl
set_option maxRecDepth 100000 in
theorem ct_9_143 : am_lk am_ct 9 143 = some (0, kX9_readPin, 1, 1143, 1145, 59, 111) := rfl
set_option maxRecDepth 100000 in
theorem ct_9_147 : am_lk am_ct 9 147 = some (0, kX9_readTracks, 0, 1110, 1112, 51, 111) := rfl
set_option maxRecDepth 100000 in
theorem ct_9_150 : am_lk am_ct 9 150 = some (0, kX9_readLineTold, 0, 1126, 1128, 55, 111) := rfl
set_option maxRecDepth 100000 in
theorem ct_9_153 : am_lk am_ct 9 153 = some (0, kX9_readItem, 0, 1135, 1137, 57, 111) := rfl
set_option maxRecDepth 100000 in
theorem ct_9_156 : am_lk am_ct 9 156 = some (0, kX9_lineName, 0, 1094, 1096, 47, 111) := rfl
set_option maxRecDepth 100000 in
theorem ct_9_159 : am_lk am_ct 9 159 = some (0, kX9_readLineOf, 1, 1106, 1108, 50, 111) := rfl
set_option maxRecDepth 100000 in
theorem ct_9_162 : am_lk am_ct 9 162 = some (0, kX9_readLine, 0, 1090, 1092, 46, 111) := rfl
set_option maxRecDepth 100000 in
theorem ct_9_165 : am_lk am_ct 9 165 = some (0, kX9_isWhole, 0, 1147, 1149, 60, 111) := rfl
set_option maxRecDepth 100000 in
theorem ct_9_171 : am_lk am_ct 9 171 = some (0, kX9_isFree, 4, 1183, 1185, 67, 111) := rfl
set_option maxRecDepth 100000 in
theorem ct_9_174 : am_lk am_ct 9 174 = some (0, kX9_of, 2, 1171, 1173, 64, 111) := rfl
set_option maxRecDepth 100000 in
theorem ct_9_177 : am_lk am_ct 9 177 = some (0, kX9_holeIn, 6, 1179, 1181, 66, 111) := rfl
set_option maxRecDepth 100000 in
theorem ct_9_181 : am_lk am_ct 9 181 = some (0, kX9_stands, 5, 1187, 1189, 68, 111) := rfl
set_option maxRecDepth 100000 in
theorem ct_9_185 : am_lk am_ct 9 185 = some (0, kX9_turnOf, 1, 1167, 1169, 63, 111) := rfl
set_option maxRecDepth 100000 in
theorem ct_9_188 : am_lk am_ct 9 188 = some (0, kX9_seeks, 1, 1175, 1177, 65, 111) := rfl
set_option maxRecDepth 100000 in
theorem ct_9_191 : am_lk am_ct 9 191 = some (1, kX9_flag, 1, 1218, 1219, 0, 111) := rfl
set_option maxRecDepth 100000 in
theorem ct_9_195 : am_lk am_ct 9 195 = some (1, kX9_gapsIn, 2, 1211, 1212, 0, 111) := rfl
set_option maxRecDepth 100000 in
theorem ct_9_198 : am_lk am_ct 9 198 = some (0, kX9_columnsOf, 3, 1199, 1201, 71, 111) := rfl
set_option maxRecDepth 100000 in
theorem ct_9_202 : am_lk am_ct 9 202 = some (0, kX9_lacksX, 1, 1207, 1209, 73, 111) := rfl
set_option maxRecDepth 100000 in
theorem ct_9_205 : am_lk am_ct 9 205 = some (0, kX9_deals, 4, 1214, 1216, 74, 111) := rfl
set_option maxRecDepth 100000 in
theorem ct_9_209 : am_lk am_ct 9 209 = some (0, kX9_lacksY, 1, 1261, 1263, 85, 111) := rfl
set_option maxRecDepth 100000 in
theorem ct_9_212 : am_lk am_ct 9 212 = some (0, kX9_noGrowth, 0, 1195, 1197, 70, 111) := rfl
set_option maxRecDepth 100000 in
theorem ct_9_215 : am_lk am_ct 9 215 = some (0, kX9_dealsX, 1, 1203, 1205, 72, 111) := rfl
set_option maxRecDepth 100000 in
theorem ct_9_218 : am_lk am_ct 9 218 = some (0, kX9_dealsY, 1, 1257, 1259, 84, 111) := rfl
set_option maxRecDepth 100000 in
theorem ct_9_221 : am_lk am_ct 9 221 = some (0, kX9_isOpen, 1, 1249, 1251, 82, 111) := rfl
set_option maxRecDepth 100000 in
theorem ct_9_225 : am_lk am_ct 9 225 = some (0, kX9_leftBy, 1, 1241, 1243, 80, 111) := rfl
set_option maxRecDepth 100000 in
theorem ct_9_228 : am_lk am_ct 9 228 = some (0, kX9_openShares, 0, 1245, 1247, 81, 111) := rfl
set_option maxRecDepth 100000 in
theorem ct_9_231 : am_lk am_ct 9 231 = some (0, kX9_leftWidth, 0, 1229, 1231, 77, 111) := rfl
set_option maxRecDepth 100000 in
theorem ct_9_234 : am_lk am_ct 9 234 = some (0, kX9_findLeast, 0, 1233, 1235, 78, 111) := rfl
set_option maxRecDepth 100000 in
theorem ct_9_237 : am_lk am_ct 9 237 = some (0, kX9_freezes, 1, 1237, 1239, 79, 111) := rfl
set_option maxRecDepth 100000 in
theorem ct_9_240 : am_lk am_ct 9 240 = some (0, kX9_place, 0, 1163, 1165, 62, 111) := rfl
set_option maxRecDepth 100000 in
theorem ct_9_243 : am_lk am_ct 9 243 = some (0, kX9_findAutos, 0, 1191, 1193, 69, 111) := rfl
set_option maxRecDepth 100000 in
theorem ct_9_246 : am_lk am_ct 9 246 = some (0, kX9_findFlexFree, 0, 1221, 1223, 75, 111) := rfl
set_option maxRecDepth 100000 in
theorem ct_9_249 : am_lk am_ct 9 249 = some (0, kX9_findFlexIn, 0, 1225, 1227, 76, 111) := rfl
set_option maxRecDepth 100000 in
theorem ct_9_252 : am_lk am_ct 9 252 = some (0, kX9_findRows, 0, 1253, 1255, 83, 111) := rfl
set_option maxRecDepth 100000 in
theorem ct_9_255 : am_lk am_ct 9 255 = some (0, kX9_startX, 1, 1277, 1279, 88, 111) := rfl
set_option maxRecDepth 100000 in
theorem ct_9_258 : am_lk am_ct 9 258 = some (0, kX9_startY, 1, 1288, 1290, 89, 111) := rfl
set_option maxRecDepth 100000 in
theorem ct_9_261 : am_lk am_ct 9 261 = some (0, kX9_find, 0, 1159, 1161, 61, 111) := rfl
set_option maxRecDepth 100000 in
theorem ct_9_264 : am_lk am_ct 9 264 = some (0, kX9_lost, 0, 1265, 1267, 86, 111) := rfl
set_option maxRecDepth 100000 in
theorem ct_9_267 : am_lk am_ct 9 267 = some (0, kX9_isColumn, 1, 1273, 1275, 87, 111) := rfl
set_option maxRecDepth 100000 in
theorem ct_9_270 : am_lk am_ct 9 270 = some (1, kX9_isPart, 1, 1285, 1286, 0, 111) := rfl
set_option maxRecDepth 100000 in
theorem ct_9_273 : am_lk am_ct 9 273 = some (0, kX9_isItem, 1, 1296, 1298, 90, 111) := rfl
set_option maxRecDepth 100000 in
theorem ct_9_278 : am_lk am_ct 9 278 = some (0, kX9_spanX, 2, 1318, 1320, 92, 111) := rfl
set_option maxRecDepth 100000 in
theorem ct_9_281 : am_lk am_ct 9 281 = some (0, kX9_spanY, 2, 1322, 1324, 93, 111) := rfl
set_option maxRecDepth 100000 in
theorem ct_9_286 : am_lk am_ct 9 286 = some (0, kX9_boxOf, 2, 1314, 1316, 91, 111) := rfl
set_option maxRecDepth 100000 in
theorem ct_9_291 : am_lk am_ct 9 291 = some (0, kX9_isBox, 2, 1342, 1344, 94, 111) := rfl
set_option maxRecDepth 100000 in
theorem ct_9_297 : am_lk am_ct 9 297 = some (1, kX9_isNeed, 1, 1351, 1352, 0, 111) := rfl
set_option maxRecDepth 100000 in
theorem ct_9_300 : am_lk am_ct 9 300 = some (0, kX9_comes, 4, 1355, 1357, 95, 111) := rfl
set_option maxRecDepth 100000 in
theorem ct_9_303 : am_lk am_ct 9 303 = some (0, kX9_becomes, 2, 1371, 1373, 96, 111) := rfl
set_option maxRecDepth 100000 in
theorem ct_9_317 : am_lk am_ct 9 317 = some (1, kX9_isSheet, 2, 1416, 1417, 0, 111) := rfl
set_option maxRecDepth 100000 in
theorem ct_9_320 : am_lk am_ct 9 320 = some (0, kX9_add, 4, 1428, 1348, 1349, 111) := rfl
set_option maxRecDepth 100000 in
theorem ct_9_327 : am_lk am_ct 9 327 = some (0, kX9_pinned, 0, 1437, 1439, 97, 111) := rfl
set_option maxRecDepth 100000 in
theorem ct_9_330 : am_lk am_ct 9 330 = some (0, kX9_sharesOfAll, 0, 1441, 1443, 98, 111) := rfl
set_option maxRecDepth 100000 in
theorem ct_9_333 : am_lk am_ct 9 333 = some (0, kX9_needsOfAll, 0, 1445, 1447, 99, 111) := rfl
set_option maxRecDepth 100000 in
theorem ct_10_9 : am_lk am_ct 10 9 = some (2, kX8_init, 0, 120, 121, 0, 101) := rfl
set_option maxRecDepth 100000 in
theorem ct_10_12 : am_lk am_ct 10 12 = some (2, kX9_init, 0, 966, 967, 0, 111) := rfl
set_option maxRecDepth 100000 in
theorem ct_10_13 : am_lk am_ct 10 13 = some (0, kX8_feed, 1, 416, 417, 418, 101) := rfl
set_option maxRecDepth 100000 in
theorem ct_10_17 : am_lk am_ct 10 17 = some (0, kX9_feed, 1, 1058, 1059, 1060, 111) := rfl
set_option maxRecDepth 100000 in
theorem ct_10_18 : am_lk am_ct 10 18 = some (0, kX8_end, 1, 427, 428, 429, 101) := rfl
set_option maxRecDepth 100000 in
theorem ct_10_21 : am_lk am_ct 10 21 = some (0, kX9_end, 1, 1066, 1067, 1068, 111) := rfl
set_option maxRecDepth 100000 in
theorem ct_10_22 : am_lk am_ct 10 22 = some (0, kX8_text, 0, 431, 432, 433, 101) := rfl
set_option maxRecDepth 100000 in
theorem ct_10_26 : am_lk am_ct 10 26 = some (0, kX9_text, 0, 1070, 1071, 1072, 111) := rfl
set_option maxRecDepth 100000 in
theorem ct_10_27 : am_lk am_ct 10 27 = some (0, kX8_fault, 0, 625, 626, 627, 101) := rfl
set_option maxRecDepth 100000 in
theorem ct_10_30 : am_lk am_ct 10 30 = some (0, kX9_fault, 0, 1151, 1152, 1153, 111) := rfl
set_option maxRecDepth 100000 in
theorem ct_10_31 : am_lk am_ct 10 31 = some (0, kX8_rule, 1, 629, 630, 631, 101) := rfl
set_option maxRecDepth 100000 in
theorem ct_10_34 : am_lk am_ct 10 34 = some (0, kX9_rule, 1, 1155, 1156, 1157, 111) := rfl
set_option maxRecDepth 100000 in
theorem ct_10_35 : am_lk am_ct 10 35 = some (0, kX8_column, 2, 754, 755, 756, 101) := rfl
set_option maxRecDepth 100000 in
theorem ct_10_39 : am_lk am_ct 10 39 = some (0, kX9_column, 2, 1269, 1270, 1271, 111) := rfl
set_option maxRecDepth 100000 in
theorem ct_10_40 : am_lk am_ct 10 40 = some (0, kX8_row, 2, 762, 763, 764, 101) := rfl
set_option maxRecDepth 100000 in
theorem ct_10_43 : am_lk am_ct 10 43 = some (0, kX9_row, 2, 1281, 1282, 1283, 111) := rfl
set_option maxRecDepth 100000 in
theorem ct_10_44 : am_lk am_ct 10 44 = some (0, kX8_item, 2, 766, 767, 768, 101) := rfl
set_option maxRecDepth 100000 in
theorem ct_10_47 : am_lk am_ct 10 47 = some (0, kX9_item, 2, 1292, 1293, 1294, 111) := rfl
set_option maxRecDepth 100000 in
theorem ct_10_48 : am_lk am_ct 10 48 = some (0, kX8_line, 1, 774, 775, 776, 101) := rfl
set_option maxRecDepth 100000 in
theorem ct_10_51 : am_lk am_ct 10 51 = some (0, kX9_line, 1, 1301, 1302, 1303, 111) := rfl
set_option maxRecDepth 100000 in
theorem ct_10_52 : am_lk am_ct 10 52 = some (0, kX8_at, 2, 778, 779, 780, 101) := rfl
set_option maxRecDepth 100000 in
theorem ct_10_55 : am_lk am_ct 10 55 = some (0, kX9_at, 2, 1305, 1306, 1307, 111) := rfl
set_option maxRecDepth 100000 in
theorem ct_10_56 : am_lk am_ct 10 56 = some (0, kX8_box, 2, 788, 789, 790, 101) := rfl
set_option maxRecDepth 100000 in
theorem ct_10_59 : am_lk am_ct 10 59 = some (0, kX9_box, 2, 1309, 1310, 1311, 111) := rfl
set_option maxRecDepth 100000 in
theorem ct_10_60 : am_lk am_ct 10 60 = some (0, kX8_over, 2, 801, 802, 803, 101) := rfl
set_option maxRecDepth 100000 in
theorem ct_10_63 : am_lk am_ct 10 63 = some (0, kX9_over, 2, 1326, 1327, 1328, 111) := rfl
set_option maxRecDepth 100000 in
theorem ct_10_64 : am_lk am_ct 10 64 = some (0, kX8_total, 1, 806, 807, 808, 101) := rfl
set_option maxRecDepth 100000 in
theorem ct_10_67 : am_lk am_ct 10 67 = some (0, kX9_total, 1, 1330, 1331, 1332, 111) := rfl
set_option maxRecDepth 100000 in
theorem ct_10_68 : am_lk am_ct 10 68 = some (0, kX8_empty, 0, 810, 811, 812, 101) := rfl
set_option maxRecDepth 100000 in
theorem ct_10_71 : am_lk am_ct 10 71 = some (0, kX9_empty, 0, 1334, 1335, 1336, 111) := rfl
set_option maxRecDepth 100000 in
theorem ct_10_72 : am_lk am_ct 10 72 = some (0, kX8_hole, 2, 814, 815, 816, 101) := rfl
set_option maxRecDepth 100000 in
theorem ct_10_75 : am_lk am_ct 10 75 = some (0, kX9_hole, 2, 1338, 1339, 1340, 111) := rfl
set_option maxRecDepth 100000 in
theorem ct_10_76 : am_lk am_ct 10 76 = some (0, kX8_add, 4, 823, 824, 825, 101) := rfl
set_option maxRecDepth 100000 in
theorem ct_10_80 : am_lk am_ct 10 80 = some (0, kX9_add, 4, 1347, 1348, 1349, 111) := rfl
set_option maxRecDepth 100000 in
theorem ct_10_81 : am_lk am_ct 10 81 = some (0, kX8_drop, 1, 833, 834, 835, 101) := rfl
set_option maxRecDepth 100000 in
theorem ct_10_84 : am_lk am_ct 10 84 = some (0, kX9_drop, 1, 1359, 1360, 1361, 111) := rfl
set_option maxRecDepth 100000 in
theorem ct_10_85 : am_lk am_ct 10 85 = some (0, kX8_pin, 3, 841, 842, 843, 101) := rfl
set_option maxRecDepth 100000 in
theorem ct_10_89 : am_lk am_ct 10 89 = some (0, kX9_pin, 3, 1363, 1364, 1365, 111) := rfl
set_option maxRecDepth 100000 in
theorem ct_10_90 : am_lk am_ct 10 90 = some (0, kX8_set, 3, 846, 847, 848, 101) := rfl
set_option maxRecDepth 100000 in
theorem ct_10_93 : am_lk am_ct 10 93 = some (0, kX9_set, 3, 1367, 1368, 1369, 111) := rfl
set_option maxRecDepth 100000 in
theorem ct_10_94 : am_lk am_ct 10 94 = some (0, kX8_swap, 2, 853, 854, 855, 101) := rfl
set_option maxRecDepth 100000 in
theorem ct_10_97 : am_lk am_ct 10 97 = some (0, kX9_swap, 2, 1375, 1376, 1377, 111) := rfl
set_option maxRecDepth 100000 in
theorem ct_10_98 : am_lk am_ct 10 98 = some (0, kX8_track, 3, 861, 862, 863, 101) := rfl
set_option maxRecDepth 100000 in
theorem ct_10_101 : am_lk am_ct 10 101 = some (0, kX9_track, 3, 1379, 1380, 1381, 111) := rfl
set_option maxRecDepth 100000 in
theorem ct_10_102 : am_lk am_ct 10 102 = some (0, kX8_width, 1, 868, 869, 870, 101) := rfl
set_option maxRecDepth 100000 in
theorem ct_10_105 : am_lk am_ct 10 105 = some (0, kX9_width, 1, 1384, 1385, 1386, 111) := rfl
set_option maxRecDepth 100000 in
theorem ct_10_106 : am_lk am_ct 10 106 = some (0, kX8_gap, 2, 872, 873, 874, 101) := rfl
set_option maxRecDepth 100000 in
theorem ct_10_109 : am_lk am_ct 10 109 = some (0, kX9_gap, 2, 1389, 1390, 1391, 111) := rfl
set_option maxRecDepth 100000 in
theorem ct_10_110 : am_lk am_ct 10 110 = some (0, kX8_high, 1, 876, 877, 878, 101) := rfl
set_option maxRecDepth 100000 in
theorem ct_10_113 : am_lk am_ct 10 113 = some (0, kX9_high, 1, 1394, 1395, 1396, 111) := rfl
set_option maxRecDepth 100000 in
theorem ct_10_114 : am_lk am_ct 10 114 = some (0, kX8_scatter, 2, 880, 881, 882, 101) := rfl
set_option maxRecDepth 100000 in
theorem ct_10_117 : am_lk am_ct 10 117 = some (0, kX9_scatter, 2, 1398, 1399, 1400, 111) := rfl
set_option maxRecDepth 100000 in
theorem ct_10_118 : am_lk am_ct 10 118 = some (0, kX8_keep, 1, 885, 886, 887, 101) := rfl
set_option maxRecDepth 100000 in
theorem ct_10_121 : am_lk am_ct 10 121 = some (0, kX9_keep, 1, 1404, 1405, 1406, 111) := rfl
set_option maxRecDepth 100000 in
theorem ct_10_122 : am_lk am_ct 10 122 = some (0, kX8_back, 1, 889, 890, 891, 101) := rfl
set_option maxRecDepth 100000 in
theorem ct_10_125 : am_lk am_ct 10 125 = some (0, kX9_back, 1, 1408, 1409, 1410, 111) := rfl
set_option maxRecDepth 100000 in
theorem ct_10_126 : am_lk am_ct 10 126 = some (0, kX8_sheet, 3, 893, 894, 895, 101) := rfl
set_option maxRecDepth 100000 in
theorem ct_10_129 : am_lk am_ct 10 129 = some (0, kX9_sheet, 3, 1412, 1413, 1414, 111) := rfl
set_option maxRecDepth 100000 in
theorem ct_10_130 : am_lk am_ct 10 130 = some (0, kX8_lay, 3, 909, 910, 911, 101) := rfl
set_option maxRecDepth 100000 in
theorem ct_10_133 : am_lk am_ct 10 133 = some (0, kX9_lay, 3, 1420, 1421, 1422, 111) := rfl
set_option maxRecDepth 100000 in
theorem ct_10_134 : am_lk am_ct 10 134 = some (0, kX8_read, 4, 921, 922, 923, 101) := rfl
set_option maxRecDepth 100000 in
theorem ct_10_137 : am_lk am_ct 10 137 = some (0, kX9_read, 4, 1424, 1425, 1426, 111) := rfl
set_option maxRecDepth 100000 in
theorem ct_10_138 : am_lk am_ct 10 138 = some (0, kX8_torn, 0, 936, 937, 938, 101) := rfl
set_option maxRecDepth 100000 in
theorem ct_10_141 : am_lk am_ct 10 141 = some (0, kX9_torn, 0, 1429, 1430, 1431, 111) := rfl
set_option maxRecDepth 100000 in
theorem ct_10_142 : am_lk am_ct 10 142 = some (0, kX8_count, 1, 940, 941, 942, 101) := rfl
set_option maxRecDepth 100000 in
theorem ct_10_145 : am_lk am_ct 10 145 = some (0, kX9_count, 1, 1433, 1434, 1435, 111) := rfl
set_option maxRecDepth 100000 in
theorem ct_11_335 : am_lk am_ct 11 335 = some (0, kJ0_coder_7d493, 0, 468, 469, 470, 112) := rfl
set_option maxRecDepth 100000 in
theorem ct_11_492 : am_lk am_ct 11 492 = some (0, kJ0_isLatin1_aae02, 0, 478, 479, 480, 112) := rfl
set_option maxRecDepth 100000 in
theorem ct_11_495 : am_lk am_ct 11 495 = some (1, kJ1_charAt_3b067, 2, 482, 483, 0, 113) := rfl
set_option maxRecDepth 100000 in
theorem ct_11_498 : am_lk am_ct 11 498 = some (1, kJ2_charAt_3b067, 2, 493, 494, 0, 115) := rfl
set_option maxRecDepth 100000 in
theorem ct_11_1059 : am_lk am_ct 11 1059 = some (1, kJ3_checkIndex_8e157, 3, 490, 491, 0, 114) := rfl
set_option maxRecDepth 100000 in
theorem ct_12_9 : am_lk am_ct 12 9 = some (1, kJ0_checkIndex_df160, 2, 485, 486, 0, 112) := rfl
set_option maxRecDepth 100000 in
theorem ct_13_48 : am_lk am_ct 13 48 = some (1, kJ2_length_9d52b, 1, 499, 500, 0, 115) := rfl
set_option maxRecDepth 100000 in
theorem ct_13_67 : am_lk am_ct 13 67 = some (1, kJ2_checkIndex_2214a, 2, 496, 497, 0, 115) := rfl
set_option maxRecDepth 100000 in
theorem ct_13_71 : am_lk am_ct 13 71 = some (1, kJ2_getChar_3b067, 2, 503, 504, 0, 115) := rfl
set_option maxRecDepth 100000 in
theorem ct_13_414 : am_lk am_ct 13 414 = some (1, kJ0_checkIndex_df160, 2, 502, 486, 0, 112) := rfl
theorem pt_0_3 : am_lk am_pt 0 3 = some (0, 331) := by decide +kernel
theorem pt_0_67 : am_lk am_pt 0 67 = some (1, 708) := by decide +kernel
theorem pt_1_3 : am_lk am_pt 1 3 = some (0, 131) := by decide +kernel
theorem pt_1_51 : am_lk am_pt 1 51 = some (2, 614) := by decide +kernel
theorem pt_2_1 : am_lk am_pt 2 1 = some (0, 266) := by decide +kernel
theorem pt_3_3 : am_lk am_pt 3 3 = some (0, 301) := by decide +kernel
theorem pt_3_76 : am_lk am_pt 3 76 = some (1, 660) := by decide +kernel
theorem pt_4_3 : am_lk am_pt 4 3 = some (0, 377) := by decide +kernel
theorem pt_4_28 : am_lk am_pt 4 28 = some (1, 715) := by decide +kernel
theorem pt_5_3 : am_lk am_pt 5 3 = some (0, 283) := by decide +kernel
theorem pt_6_3 : am_lk am_pt 6 3 = some (0, 197) := by decide +kernel
theorem pt_7_3 : am_lk am_pt 7 3 = some (0, 203) := by decide +kernel
theorem pt_8_1 : am_lk am_pt 8 1 = some (0, 123) := by decide +kernel
theorem pt_8_172 : am_lk am_pt 8 172 = some (1, 805) := by decide +kernel
theorem pt_9_1 : am_lk am_pt 9 1 = some (0, 969) := by decide +kernel
