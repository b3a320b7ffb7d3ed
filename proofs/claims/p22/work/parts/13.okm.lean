/-! ===== every method's list is its code; its words are there ===== -/
set_option maxRecDepth 100000 in
theorem omX0_init : ab_okM iX0_init ∧ ab_np iX0_init = some (ab_pn iX0_init) := ⟨⟨wd_691, wd_327, by decide +kernel, by decide +kernel, by decide +kernel⟩, by decide +kernel⟩
set_option maxRecDepth 100000 in
theorem omX0_change : ab_okM iX0_change ∧ ab_np iX0_change = some (ab_pn iX0_change) := ⟨⟨wd_692, wd_327, by decide +kernel, by decide +kernel, by decide +kernel⟩, by decide +kernel⟩
set_option maxRecDepth 100000 in
theorem omX0_focusCount : ab_okM iX0_focusCount ∧ ab_np iX0_focusCount = some (ab_pn iX0_focusCount) := ⟨⟨wd_693, wd_327, by decide +kernel, by decide +kernel, by decide +kernel⟩, by decide +kernel⟩
set_option maxRecDepth 100000 in
theorem omX0_changeWithin : ab_okM iX0_changeWithin ∧ ab_np iX0_changeWithin = some (ab_pn iX0_changeWithin) := ⟨⟨wd_694, wd_327, by decide +kernel, by decide +kernel, by decide +kernel⟩, by decide +kernel⟩
set_option maxRecDepth 100000 in
theorem omX0_changeFocus : ab_okM iX0_changeFocus ∧ ab_np iX0_changeFocus = some (ab_pn iX0_changeFocus) := ⟨⟨wd_695, wd_327, by decide +kernel, by decide +kernel, by decide +kernel⟩, by decide +kernel⟩
set_option maxRecDepth 100000 in
theorem omX0_changeOrder : ab_okM iX0_changeOrder ∧ ab_np iX0_changeOrder = some (ab_pn iX0_changeOrder) := ⟨⟨wd_696, wd_327, by decide +kernel, by decide +kernel, by decide +kernel⟩, by decide +kernel⟩
set_option maxRecDepth 100000 in
theorem omX0_makeNumberOf : ab_okM iX0_makeNumberOf ∧ ab_np iX0_makeNumberOf = some (ab_pn iX0_makeNumberOf) := ⟨⟨wd_697, wd_327, by decide +kernel, by decide +kernel, by decide +kernel⟩, by decide +kernel⟩
set_option maxRecDepth 100000 in
theorem omX0_make : ab_okM iX0_make ∧ ab_np iX0_make = some (ab_pn iX0_make) := ⟨⟨wd_698, wd_327, by decide +kernel, by decide +kernel, by decide +kernel⟩, by decide +kernel⟩
set_option maxRecDepth 100000 in
theorem omX0_makeAround : ab_okM iX0_makeAround ∧ ab_np iX0_makeAround = some (ab_pn iX0_makeAround) := ⟨⟨wd_699, wd_327, by decide +kernel, by decide +kernel, by decide +kernel⟩, by decide +kernel⟩
set_option maxRecDepth 100000 in
theorem omX0_mayMake : ab_okM iX0_mayMake ∧ ab_np iX0_mayMake = some (ab_pn iX0_mayMake) := ⟨⟨wd_700, wd_327, by decide +kernel, by decide +kernel, by decide +kernel⟩, by decide +kernel⟩
set_option maxRecDepth 100000 in
theorem omX0_justOne : ab_okM iX0_justOne ∧ ab_np iX0_justOne = some (ab_pn iX0_justOne) := ⟨⟨wd_701, wd_327, by decide +kernel, by decide +kernel, by decide +kernel⟩, by decide +kernel⟩
set_option maxRecDepth 100000 in
theorem omX0_reversed : ab_okM iX0_reversed ∧ ab_np iX0_reversed = some (ab_pn iX0_reversed) := ⟨⟨wd_702, wd_327, by decide +kernel, by decide +kernel, by decide +kernel⟩, by decide +kernel⟩
set_option maxRecDepth 100000 in
theorem omX0_turned : ab_okM iX0_turned ∧ ab_np iX0_turned = some (ab_pn iX0_turned) := ⟨⟨wd_703, wd_327, by decide +kernel, by decide +kernel, by decide +kernel⟩, by decide +kernel⟩
set_option maxRecDepth 100000 in
theorem omX0_sorted : ab_okM iX0_sorted ∧ ab_np iX0_sorted = some (ab_pn iX0_sorted) := ⟨⟨wd_704, wd_327, by decide +kernel, by decide +kernel, by decide +kernel⟩, by decide +kernel⟩
set_option maxRecDepth 100000 in
theorem omX1_init : ab_okM iX1_init ∧ ab_np iX1_init = some (ab_pn iX1_init) := ⟨⟨wd_705, wd_339, by decide +kernel, by decide +kernel, by decide +kernel⟩, by decide +kernel⟩
set_option maxRecDepth 100000 in
theorem omX1_find : ab_okM iX1_find ∧ ab_np iX1_find = some (ab_pn iX1_find) := ⟨⟨wd_706, wd_339, by decide +kernel, by decide +kernel, by decide +kernel⟩, by decide +kernel⟩
set_option maxRecDepth 100000 in
theorem omX1_findWithin : ab_okM iX1_findWithin ∧ ab_np iX1_findWithin = some (ab_pn iX1_findWithin) := ⟨⟨wd_707, wd_339, by decide +kernel, by decide +kernel, by decide +kernel⟩, by decide +kernel⟩
set_option maxRecDepth 100000 in
theorem omX1_add : ab_okM iX1_add ∧ ab_np iX1_add = some (ab_pn iX1_add) := ⟨⟨wd_708, wd_339, by decide +kernel, by decide +kernel, by decide +kernel⟩, by decide +kernel⟩
set_option maxRecDepth 100000 in
theorem omX1_size : ab_okM iX1_size ∧ ab_np iX1_size = some (ab_pn iX1_size) := ⟨⟨wd_709, wd_339, by decide +kernel, by decide +kernel, by decide +kernel⟩, by decide +kernel⟩
set_option maxRecDepth 100000 in
theorem omX1_place : ab_okM iX1_place ∧ ab_np iX1_place = some (ab_pn iX1_place) := ⟨⟨wd_710, wd_339, by decide +kernel, by decide +kernel, by decide +kernel⟩, by decide +kernel⟩
set_option maxRecDepth 100000 in
theorem omX2_init : ab_okM iX2_init ∧ ab_np iX2_init = some (ab_pn iX2_init) := ⟨⟨wd_711, wd_333, by decide +kernel, by decide +kernel, by decide +kernel⟩, by decide +kernel⟩
set_option maxRecDepth 100000 in
theorem omX2_find : ab_okM iX2_find ∧ ab_np iX2_find = some (ab_pn iX2_find) := ⟨⟨wd_712, wd_333, by decide +kernel, by decide +kernel, by decide +kernel⟩, by decide +kernel⟩
set_option maxRecDepth 100000 in
theorem omX2_findWithin : ab_okM iX2_findWithin ∧ ab_np iX2_findWithin = some (ab_pn iX2_findWithin) := ⟨⟨wd_713, wd_333, by decide +kernel, by decide +kernel, by decide +kernel⟩, by decide +kernel⟩
set_option maxRecDepth 100000 in
theorem omX2_add : ab_okM iX2_add ∧ ab_np iX2_add = some (ab_pn iX2_add) := ⟨⟨wd_714, wd_333, by decide +kernel, by decide +kernel, by decide +kernel⟩, by decide +kernel⟩
set_option maxRecDepth 100000 in
theorem omX2_size : ab_okM iX2_size ∧ ab_np iX2_size = some (ab_pn iX2_size) := ⟨⟨wd_715, wd_333, by decide +kernel, by decide +kernel, by decide +kernel⟩, by decide +kernel⟩
set_option maxRecDepth 100000 in
theorem omX2_isEmpty : ab_okM iX2_isEmpty ∧ ab_np iX2_isEmpty = some (ab_pn iX2_isEmpty) := ⟨⟨wd_716, wd_333, by decide +kernel, by decide +kernel, by decide +kernel⟩, by decide +kernel⟩
set_option maxRecDepth 100000 in
theorem omX2_at : ab_okM iX2_at ∧ ab_np iX2_at = some (ab_pn iX2_at) := ⟨⟨wd_717, wd_333, by decide +kernel, by decide +kernel, by decide +kernel⟩, by decide +kernel⟩
set_option maxRecDepth 100000 in
theorem omX2_sum : ab_okM iX2_sum ∧ ab_np iX2_sum = some (ab_pn iX2_sum) := ⟨⟨wd_718, wd_333, by decide +kernel, by decide +kernel, by decide +kernel⟩, by decide +kernel⟩
set_option maxRecDepth 100000 in
theorem omX2_numbersWithin : ab_okM iX2_numbersWithin ∧ ab_np iX2_numbersWithin = some (ab_pn iX2_numbersWithin) := ⟨⟨wd_719, wd_333, by decide +kernel, by decide +kernel, by decide +kernel⟩, by decide +kernel⟩
set_option maxRecDepth 100000 in
theorem omX2_greatest : ab_okM iX2_greatest ∧ ab_np iX2_greatest = some (ab_pn iX2_greatest) := ⟨⟨wd_720, wd_333, by decide +kernel, by decide +kernel, by decide +kernel⟩, by decide +kernel⟩
set_option maxRecDepth 100000 in
theorem omX2_least : ab_okM iX2_least ∧ ab_np iX2_least = some (ab_pn iX2_least) := ⟨⟨wd_721, wd_333, by decide +kernel, by decide +kernel, by decide +kernel⟩, by decide +kernel⟩
set_option maxRecDepth 100000 in
theorem omX2_unlike : ab_okM iX2_unlike ∧ ab_np iX2_unlike = some (ab_pn iX2_unlike) := ⟨⟨wd_722, wd_333, by decide +kernel, by decide +kernel, by decide +kernel⟩, by decide +kernel⟩
set_option maxRecDepth 100000 in
theorem omX2_isLikeOneAhead : ab_okM iX2_isLikeOneAhead ∧ ab_np iX2_isLikeOneAhead = some (ab_pn iX2_isLikeOneAhead) := ⟨⟨wd_723, wd_333, by decide +kernel, by decide +kernel, by decide +kernel⟩, by decide +kernel⟩
set_option maxRecDepth 100000 in
theorem omX2_height : ab_okM iX2_height ∧ ab_np iX2_height = some (ab_pn iX2_height) := ⟨⟨wd_724, wd_333, by decide +kernel, by decide +kernel, by decide +kernel⟩, by decide +kernel⟩
set_option maxRecDepth 100000 in
theorem omX2_nodes : ab_okM iX2_nodes ∧ ab_np iX2_nodes = some (ab_pn iX2_nodes) := ⟨⟨wd_725, wd_333, by decide +kernel, by decide +kernel, by decide +kernel⟩, by decide +kernel⟩
set_option maxRecDepth 100000 in
theorem omP35 : ab_okM iP35 ∧ ab_np iP35 = some (ab_pn iP35) := ⟨⟨wd_691, wd_327, by decide +kernel, by decide +kernel, by decide +kernel⟩, by decide +kernel⟩
set_option maxRecDepth 100000 in
theorem omX2_sorted : ab_okM iX2_sorted ∧ ab_np iX2_sorted = some (ab_pn iX2_sorted) := ⟨⟨wd_726, wd_333, by decide +kernel, by decide +kernel, by decide +kernel⟩, by decide +kernel⟩
set_option maxRecDepth 100000 in
theorem omX2_isAhead : ab_okM iX2_isAhead ∧ ab_np iX2_isAhead = some (ab_pn iX2_isAhead) := ⟨⟨wd_727, wd_333, by decide +kernel, by decide +kernel, by decide +kernel⟩, by decide +kernel⟩
set_option maxRecDepth 100000 in
theorem omX3_init : ab_okM iX3_init ∧ ab_np iX3_init = some (ab_pn iX3_init) := ⟨⟨wd_728, wd_274, by decide +kernel, by decide +kernel, by decide +kernel⟩, by decide +kernel⟩
set_option maxRecDepth 100000 in
theorem omX3_add : ab_okM iX3_add ∧ ab_np iX3_add = some (ab_pn iX3_add) := ⟨⟨wd_729, wd_274, by decide +kernel, by decide +kernel, by decide +kernel⟩, by decide +kernel⟩
set_option maxRecDepth 100000 in
theorem omX3_hasKey : ab_okM iX3_hasKey ∧ ab_np iX3_hasKey = some (ab_pn iX3_hasKey) := ⟨⟨wd_730, wd_274, by decide +kernel, by decide +kernel, by decide +kernel⟩, by decide +kernel⟩
set_option maxRecDepth 100000 in
theorem omX3_putByKey : ab_okM iX3_putByKey ∧ ab_np iX3_putByKey = some (ab_pn iX3_putByKey) := ⟨⟨wd_731, wd_274, by decide +kernel, by decide +kernel, by decide +kernel⟩, by decide +kernel⟩
set_option maxRecDepth 100000 in
theorem omX3_together : ab_okM iX3_together ∧ ab_np iX3_together = some (ab_pn iX3_together) := ⟨⟨wd_732, wd_274, by decide +kernel, by decide +kernel, by decide +kernel⟩, by decide +kernel⟩
set_option maxRecDepth 100000 in
theorem omX3_placeOf : ab_okM iX3_placeOf ∧ ab_np iX3_placeOf = some (ab_pn iX3_placeOf) := ⟨⟨wd_733, wd_274, by decide +kernel, by decide +kernel, by decide +kernel⟩, by decide +kernel⟩
set_option maxRecDepth 100000 in
theorem omX3_insert : ab_okM iX3_insert ∧ ab_np iX3_insert = some (ab_pn iX3_insert) := ⟨⟨wd_734, wd_274, by decide +kernel, by decide +kernel, by decide +kernel⟩, by decide +kernel⟩
set_option maxRecDepth 100000 in
theorem omX4_init : ab_okM iX4_init ∧ ab_np iX4_init = some (ab_pn iX4_init) := ⟨⟨wd_735, wd_180, by decide +kernel, by decide +kernel, by decide +kernel⟩, by decide +kernel⟩
set_option maxRecDepth 100000 in
theorem omX4_size : ab_okM iX4_size ∧ ab_np iX4_size = some (ab_pn iX4_size) := ⟨⟨wd_736, wd_180, by decide +kernel, by decide +kernel, by decide +kernel⟩, by decide +kernel⟩
set_option maxRecDepth 100000 in
theorem omP47 : ab_okM iP47 ∧ ab_np iP47 = some (ab_pn iP47) := ⟨⟨wd_691, wd_327, by decide +kernel, by decide +kernel, by decide +kernel⟩, by decide +kernel⟩
set_option maxRecDepth 100000 in
theorem omX4_keeps : ab_okM iX4_keeps ∧ ab_np iX4_keeps = some (ab_pn iX4_keeps) := ⟨⟨wd_737, wd_180, by decide +kernel, by decide +kernel, by decide +kernel⟩, by decide +kernel⟩
set_option maxRecDepth 100000 in
theorem omX4_enters : ab_okM iX4_enters ∧ ab_np iX4_enters = some (ab_pn iX4_enters) := ⟨⟨wd_738, wd_180, by decide +kernel, by decide +kernel, by decide +kernel⟩, by decide +kernel⟩
set_option maxRecDepth 100000 in
theorem omX4_stepWithin : ab_okM iX4_stepWithin ∧ ab_np iX4_stepWithin = some (ab_pn iX4_stepWithin) := ⟨⟨wd_739, wd_180, by decide +kernel, by decide +kernel, by decide +kernel⟩, by decide +kernel⟩
set_option maxRecDepth 100000 in
theorem omX4_sign : ab_okM iX4_sign ∧ ab_np iX4_sign = some (ab_pn iX4_sign) := ⟨⟨wd_740, wd_180, by decide +kernel, by decide +kernel, by decide +kernel⟩, by decide +kernel⟩
set_option maxRecDepth 100000 in
theorem omX4_word : ab_okM iX4_word ∧ ab_np iX4_word = some (ab_pn iX4_word) := ⟨⟨wd_741, wd_180, by decide +kernel, by decide +kernel, by decide +kernel⟩, by decide +kernel⟩
set_option maxRecDepth 100000 in
theorem omX5_init : ab_okM iX5_init ∧ ab_np iX5_init = some (ab_pn iX5_init) := ⟨⟨wd_742, wd_309, by decide +kernel, by decide +kernel, by decide +kernel⟩, by decide +kernel⟩
set_option maxRecDepth 100000 in
theorem omX5_readWhole : ab_okM iX5_readWhole ∧ ab_np iX5_readWhole = some (ab_pn iX5_readWhole) := ⟨⟨wd_743, wd_309, by decide +kernel, by decide +kernel, by decide +kernel⟩, by decide +kernel⟩
set_option maxRecDepth 100000 in
theorem omX5_readStep : ab_okM iX5_readStep ∧ ab_np iX5_readStep = some (ab_pn iX5_readStep) := ⟨⟨wd_744, wd_309, by decide +kernel, by decide +kernel, by decide +kernel⟩, by decide +kernel⟩
set_option maxRecDepth 100000 in
theorem omX5_readSide : ab_okM iX5_readSide ∧ ab_np iX5_readSide = some (ab_pn iX5_readSide) := ⟨⟨wd_745, wd_309, by decide +kernel, by decide +kernel, by decide +kernel⟩, by decide +kernel⟩
set_option maxRecDepth 100000 in
theorem omX5_closed : ab_okM iX5_closed ∧ ab_np iX5_closed = some (ab_pn iX5_closed) := ⟨⟨wd_746, wd_309, by decide +kernel, by decide +kernel, by decide +kernel⟩, by decide +kernel⟩
set_option maxRecDepth 100000 in
theorem omX5_firstOf : ab_okM iX5_firstOf ∧ ab_np iX5_firstOf = some (ab_pn iX5_firstOf) := ⟨⟨wd_747, wd_309, by decide +kernel, by decide +kernel, by decide +kernel⟩, by decide +kernel⟩
set_option maxRecDepth 100000 in
theorem omX6_init : ab_okM iX6_init ∧ ab_np iX6_init = some (ab_pn iX6_init) := ⟨⟨wd_748, wd_348, by decide +kernel, by decide +kernel, by decide +kernel⟩, by decide +kernel⟩
set_option maxRecDepth 100000 in
theorem omX6_held : ab_okM iX6_held ∧ ab_np iX6_held = some (ab_pn iX6_held) := ⟨⟨wd_749, wd_348, by decide +kernel, by decide +kernel, by decide +kernel⟩, by decide +kernel⟩
set_option maxRecDepth 100000 in
theorem omX6_oldCount : ab_okM iX6_oldCount ∧ ab_np iX6_oldCount = some (ab_pn iX6_oldCount) := ⟨⟨wd_750, wd_348, by decide +kernel, by decide +kernel, by decide +kernel⟩, by decide +kernel⟩
set_option maxRecDepth 100000 in
theorem omX6_become : ab_okM iX6_become ∧ ab_np iX6_become = some (ab_pn iX6_become) := ⟨⟨wd_751, wd_348, by decide +kernel, by decide +kernel, by decide +kernel⟩, by decide +kernel⟩
set_option maxRecDepth 100000 in
theorem omX6_becomeLastOld : ab_okM iX6_becomeLastOld ∧ ab_np iX6_becomeLastOld = some (ab_pn iX6_becomeLastOld) := ⟨⟨wd_752, wd_348, by decide +kernel, by decide +kernel, by decide +kernel⟩, by decide +kernel⟩
set_option maxRecDepth 100000 in
theorem omX6_restart : ab_okM iX6_restart ∧ ab_np iX6_restart = some (ab_pn iX6_restart) := ⟨⟨wd_753, wd_348, by decide +kernel, by decide +kernel, by decide +kernel⟩, by decide +kernel⟩
set_option maxRecDepth 100000 in
theorem omX7_init : ab_okM iX7_init ∧ ab_np iX7_init = some (ab_pn iX7_init) := ⟨⟨wd_754, wd_321, by decide +kernel, by decide +kernel, by decide +kernel⟩, by decide +kernel⟩
set_option maxRecDepth 100000 in
theorem omX7_sum : ab_okM iX7_sum ∧ ab_np iX7_sum = some (ab_pn iX7_sum) := ⟨⟨wd_755, wd_321, by decide +kernel, by decide +kernel, by decide +kernel⟩, by decide +kernel⟩
set_option maxRecDepth 100000 in
theorem omX7_hasRoomFor : ab_okM iX7_hasRoomFor ∧ ab_np iX7_hasRoomFor = some (ab_pn iX7_hasRoomFor) := ⟨⟨wd_756, wd_321, by decide +kernel, by decide +kernel, by decide +kernel⟩, by decide +kernel⟩
set_option maxRecDepth 100000 in
theorem omX7_adds : ab_okM iX7_adds ∧ ab_np iX7_adds = some (ab_pn iX7_adds) := ⟨⟨wd_757, wd_321, by decide +kernel, by decide +kernel, by decide +kernel⟩, by decide +kernel⟩
set_option maxRecDepth 100000 in
theorem omX8_init : ab_okM iX8_init ∧ ab_np iX8_init = some (ab_pn iX8_init) := ⟨⟨wd_758, wd_297, by decide +kernel, by decide +kernel, by decide +kernel⟩, by decide +kernel⟩
set_option maxRecDepth 100000 in
theorem omX8_size : ab_okM iX8_size ∧ ab_np iX8_size = some (ab_pn iX8_size) := ⟨⟨wd_759, wd_297, by decide +kernel, by decide +kernel, by decide +kernel⟩, by decide +kernel⟩
set_option maxRecDepth 100000 in
theorem omX8_add : ab_okM iX8_add ∧ ab_np iX8_add = some (ab_pn iX8_add) := ⟨⟨wd_760, wd_297, by decide +kernel, by decide +kernel, by decide +kernel⟩, by decide +kernel⟩
set_option maxRecDepth 100000 in
theorem omX8_clear : ab_okM iX8_clear ∧ ab_np iX8_clear = some (ab_pn iX8_clear) := ⟨⟨wd_761, wd_297, by decide +kernel, by decide +kernel, by decide +kernel⟩, by decide +kernel⟩
set_option maxRecDepth 100000 in
theorem omX8_rewind : ab_okM iX8_rewind ∧ ab_np iX8_rewind = some (ab_pn iX8_rewind) := ⟨⟨wd_762, wd_297, by decide +kernel, by decide +kernel, by decide +kernel⟩, by decide +kernel⟩
set_option maxRecDepth 100000 in
theorem omX8_at : ab_okM iX8_at ∧ ab_np iX8_at = some (ab_pn iX8_at) := ⟨⟨wd_763, wd_297, by decide +kernel, by decide +kernel, by decide +kernel⟩, by decide +kernel⟩
set_option maxRecDepth 100000 in
theorem omX8_fault : ab_okM iX8_fault ∧ ab_np iX8_fault = some (ab_pn iX8_fault) := ⟨⟨wd_764, wd_297, by decide +kernel, by decide +kernel, by decide +kernel⟩, by decide +kernel⟩
set_option maxRecDepth 100000 in
theorem omX8_isFaulty : ab_okM iX8_isFaulty ∧ ab_np iX8_isFaulty = some (ab_pn iX8_isFaulty) := ⟨⟨wd_765, wd_297, by decide +kernel, by decide +kernel, by decide +kernel⟩, by decide +kernel⟩
set_option maxRecDepth 100000 in
theorem omX8_isAtEnd : ab_okM iX8_isAtEnd ∧ ab_np iX8_isAtEnd = some (ab_pn iX8_isAtEnd) := ⟨⟨wd_766, wd_297, by decide +kernel, by decide +kernel, by decide +kernel⟩, by decide +kernel⟩
set_option maxRecDepth 100000 in
theorem omX8_fail : ab_okM iX8_fail ∧ ab_np iX8_fail = some (ab_pn iX8_fail) := ⟨⟨wd_767, wd_297, by decide +kernel, by decide +kernel, by decide +kernel⟩, by decide +kernel⟩
set_option maxRecDepth 100000 in
theorem omX8_next : ab_okM iX8_next ∧ ab_np iX8_next = some (ab_pn iX8_next) := ⟨⟨wd_768, wd_297, by decide +kernel, by decide +kernel, by decide +kernel⟩, by decide +kernel⟩
set_option maxRecDepth 100000 in
theorem omX8_step : ab_okM iX8_step ∧ ab_np iX8_step = some (ab_pn iX8_step) := ⟨⟨wd_769, wd_297, by decide +kernel, by decide +kernel, by decide +kernel⟩, by decide +kernel⟩
set_option maxRecDepth 100000 in
theorem omX8_takes : ab_okM iX8_takes ∧ ab_np iX8_takes = some (ab_pn iX8_takes) := ⟨⟨wd_770, wd_297, by decide +kernel, by decide +kernel, by decide +kernel⟩, by decide +kernel⟩
set_option maxRecDepth 100000 in
theorem omX8_needs : ab_okM iX8_needs ∧ ab_np iX8_needs = some (ab_pn iX8_needs) := ⟨⟨wd_771, wd_297, by decide +kernel, by decide +kernel, by decide +kernel⟩, by decide +kernel⟩
set_option maxRecDepth 100000 in
theorem omX8_digits : ab_okM iX8_digits ∧ ab_np iX8_digits = some (ab_pn iX8_digits) := ⟨⟨wd_772, wd_297, by decide +kernel, by decide +kernel, by decide +kernel⟩, by decide +kernel⟩
set_option maxRecDepth 100000 in
theorem omX8_signedNumber : ab_okM iX8_signedNumber ∧ ab_np iX8_signedNumber = some (ab_pn iX8_signedNumber) := ⟨⟨wd_773, wd_297, by decide +kernel, by decide +kernel, by decide +kernel⟩, by decide +kernel⟩
set_option maxRecDepth 100000 in
theorem omX8_letters : ab_okM iX8_letters ∧ ab_np iX8_letters = some (ab_pn iX8_letters) := ⟨⟨wd_774, wd_297, by decide +kernel, by decide +kernel, by decide +kernel⟩, by decide +kernel⟩
set_option maxRecDepth 100000 in
theorem omX9_init : ab_okM iX9_init ∧ ab_np iX9_init = some (ab_pn iX9_init) := ⟨⟨wd_775, wd_65, by decide +kernel, by decide +kernel, by decide +kernel⟩, by decide +kernel⟩
set_option maxRecDepth 100000 in
theorem omX9_size : ab_okM iX9_size ∧ ab_np iX9_size = some (ab_pn iX9_size) := ⟨⟨wd_776, wd_65, by decide +kernel, by decide +kernel, by decide +kernel⟩, by decide +kernel⟩
set_option maxRecDepth 100000 in
theorem omX9_part : ab_okM iX9_part ∧ ab_np iX9_part = some (ab_pn iX9_part) := ⟨⟨wd_777, wd_65, by decide +kernel, by decide +kernel, by decide +kernel⟩, by decide +kernel⟩
set_option maxRecDepth 100000 in
theorem omX9_copyOfParts : ab_okM iX9_copyOfParts ∧ ab_np iX9_copyOfParts = some (ab_pn iX9_copyOfParts) := ⟨⟨wd_778, wd_65, by decide +kernel, by decide +kernel, by decide +kernel⟩, by decide +kernel⟩
set_option maxRecDepth 100000 in
theorem omX9_letters : ab_okM iX9_letters ∧ ab_np iX9_letters = some (ab_pn iX9_letters) := ⟨⟨wd_779, wd_65, by decide +kernel, by decide +kernel, by decide +kernel⟩, by decide +kernel⟩
set_option maxRecDepth 100000 in
theorem omX9_isTooMuch : ab_okM iX9_isTooMuch ∧ ab_np iX9_isTooMuch = some (ab_pn iX9_isTooMuch) := ⟨⟨wd_780, wd_65, by decide +kernel, by decide +kernel, by decide +kernel⟩, by decide +kernel⟩
set_option maxRecDepth 100000 in
theorem omX9_isFramedLike : ab_okM iX9_isFramedLike ∧ ab_np iX9_isFramedLike = some (ab_pn iX9_isFramedLike) := ⟨⟨wd_781, wd_65, by decide +kernel, by decide +kernel, by decide +kernel⟩, by decide +kernel⟩
set_option maxRecDepth 100000 in
theorem omX9_areAlike : ab_okM iX9_areAlike ∧ ab_np iX9_areAlike = some (ab_pn iX9_areAlike) := ⟨⟨wd_782, wd_65, by decide +kernel, by decide +kernel, by decide +kernel⟩, by decide +kernel⟩
set_option maxRecDepth 100000 in
theorem omX9_compare : ab_okM iX9_compare ∧ ab_np iX9_compare = some (ab_pn iX9_compare) := ⟨⟨wd_783, wd_65, by decide +kernel, by decide +kernel, by decide +kernel⟩, by decide +kernel⟩
set_option maxRecDepth 100000 in
theorem omX9_holds : ab_okM iX9_holds ∧ ab_np iX9_holds = some (ab_pn iX9_holds) := ⟨⟨wd_784, wd_65, by decide +kernel, by decide +kernel, by decide +kernel⟩, by decide +kernel⟩
set_option maxRecDepth 100000 in
theorem omX10_init : ab_okM iX10_init ∧ ab_np iX10_init = some (ab_pn iX10_init) := ⟨⟨wd_785, wd_303, by decide +kernel, by decide +kernel, by decide +kernel⟩, by decide +kernel⟩
set_option maxRecDepth 100000 in
theorem omX10_readWhole : ab_okM iX10_readWhole ∧ ab_np iX10_readWhole = some (ab_pn iX10_readWhole) := ⟨⟨wd_786, wd_303, by decide +kernel, by decide +kernel, by decide +kernel⟩, by decide +kernel⟩
set_option maxRecDepth 100000 in
theorem omX10_readOne : ab_okM iX10_readOne ∧ ab_np iX10_readOne = some (ab_pn iX10_readOne) := ⟨⟨wd_787, wd_303, by decide +kernel, by decide +kernel, by decide +kernel⟩, by decide +kernel⟩
set_option maxRecDepth 100000 in
theorem omX10_readPair : ab_okM iX10_readPair ∧ ab_np iX10_readPair = some (ab_pn iX10_readPair) := ⟨⟨wd_788, wd_303, by decide +kernel, by decide +kernel, by decide +kernel⟩, by decide +kernel⟩
set_option maxRecDepth 100000 in
theorem omX10_readTagged : ab_okM iX10_readTagged ∧ ab_np iX10_readTagged = some (ab_pn iX10_readTagged) := ⟨⟨wd_789, wd_303, by decide +kernel, by decide +kernel, by decide +kernel⟩, by decide +kernel⟩
set_option maxRecDepth 100000 in
theorem omX10_readMany : ab_okM iX10_readMany ∧ ab_np iX10_readMany = some (ab_pn iX10_readMany) := ⟨⟨wd_790, wd_303, by decide +kernel, by decide +kernel, by decide +kernel⟩, by decide +kernel⟩
set_option maxRecDepth 100000 in
theorem omX10_readNewKey : ab_okM iX10_readNewKey ∧ ab_np iX10_readNewKey = some (ab_pn iX10_readNewKey) := ⟨⟨wd_791, wd_303, by decide +kernel, by decide +kernel, by decide +kernel⟩, by decide +kernel⟩
set_option maxRecDepth 100000 in
theorem omX11_init : ab_okM iX11_init ∧ ab_np iX11_init = some (ab_pn iX11_init) := ⟨⟨wd_792, wd_644, by decide +kernel, by decide +kernel, by decide +kernel⟩, by decide +kernel⟩
set_option maxRecDepth 100000 in
theorem omX11_feed : ab_okM iX11_feed ∧ ab_np iX11_feed = some (ab_pn iX11_feed) := ⟨⟨wd_793, wd_644, by decide +kernel, by decide +kernel, by decide +kernel⟩, by decide +kernel⟩
set_option maxRecDepth 100000 in
theorem omX11_thing : ab_okM iX11_thing ∧ ab_np iX11_thing = some (ab_pn iX11_thing) := ⟨⟨wd_794, wd_644, by decide +kernel, by decide +kernel, by decide +kernel⟩, by decide +kernel⟩
set_option maxRecDepth 100000 in
theorem omX11_path : ab_okM iX11_path ∧ ab_np iX11_path = some (ab_pn iX11_path) := ⟨⟨wd_795, wd_644, by decide +kernel, by decide +kernel, by decide +kernel⟩, by decide +kernel⟩
set_option maxRecDepth 100000 in
theorem omP107 : ab_okM iP107 ∧ ab_np iP107 = some (ab_pn iP107) := ⟨⟨wd_691, wd_327, by decide +kernel, by decide +kernel, by decide +kernel⟩, by decide +kernel⟩
set_option maxRecDepth 100000 in
theorem omX11_over : ab_okM iX11_over ∧ ab_np iX11_over = some (ab_pn iX11_over) := ⟨⟨wd_796, wd_644, by decide +kernel, by decide +kernel, by decide +kernel⟩, by decide +kernel⟩
set_option maxRecDepth 100000 in
theorem omX11_put : ab_okM iX11_put ∧ ab_np iX11_put = some (ab_pn iX11_put) := ⟨⟨wd_797, wd_644, by decide +kernel, by decide +kernel, by decide +kernel⟩, by decide +kernel⟩
set_option maxRecDepth 100000 in
theorem omX11_take : ab_okM iX11_take ∧ ab_np iX11_take = some (ab_pn iX11_take) := ⟨⟨wd_798, wd_644, by decide +kernel, by decide +kernel, by decide +kernel⟩, by decide +kernel⟩
set_option maxRecDepth 100000 in
theorem omX11_undo : ab_okM iX11_undo ∧ ab_np iX11_undo = some (ab_pn iX11_undo) := ⟨⟨wd_799, wd_644, by decide +kernel, by decide +kernel, by decide +kernel⟩, by decide +kernel⟩
set_option maxRecDepth 100000 in
theorem omX11_look : ab_okM iX11_look ∧ ab_np iX11_look = some (ab_pn iX11_look) := ⟨⟨wd_800, wd_644, by decide +kernel, by decide +kernel, by decide +kernel⟩, by decide +kernel⟩
set_option maxRecDepth 100000 in
theorem omX11_key : ab_okM iX11_key ∧ ab_np iX11_key = some (ab_pn iX11_key) := ⟨⟨wd_801, wd_644, by decide +kernel, by decide +kernel, by decide +kernel⟩, by decide +kernel⟩
set_option maxRecDepth 100000 in
theorem omX11_fold : ab_okM iX11_fold ∧ ab_np iX11_fold = some (ab_pn iX11_fold) := ⟨⟨wd_802, wd_644, by decide +kernel, by decide +kernel, by decide +kernel⟩, by decide +kernel⟩
set_option maxRecDepth 100000 in
theorem omX11_best : ab_okM iX11_best ∧ ab_np iX11_best = some (ab_pn iX11_best) := ⟨⟨wd_803, wd_644, by decide +kernel, by decide +kernel, by decide +kernel⟩, by decide +kernel⟩
set_option maxRecDepth 100000 in
theorem omX11_order : ab_okM iX11_order ∧ ab_np iX11_order = some (ab_pn iX11_order) := ⟨⟨wd_804, wd_644, by decide +kernel, by decide +kernel, by decide +kernel⟩, by decide +kernel⟩
set_option maxRecDepth 100000 in
theorem omX11_shared : ab_okM iX11_shared ∧ ab_np iX11_shared = some (ab_pn iX11_shared) := ⟨⟨wd_805, wd_644, by decide +kernel, by decide +kernel, by decide +kernel⟩, by decide +kernel⟩
set_option maxRecDepth 100000 in
theorem omX11_differ : ab_okM iX11_differ ∧ ab_np iX11_differ = some (ab_pn iX11_differ) := ⟨⟨wd_806, wd_644, by decide +kernel, by decide +kernel, by decide +kernel⟩, by decide +kernel⟩
set_option maxRecDepth 100000 in
theorem omP119 : ab_okM iP119 ∧ ab_np iP119 = some (ab_pn iP119) := ⟨⟨wd_691, wd_327, by decide +kernel, by decide +kernel, by decide +kernel⟩, by decide +kernel⟩
set_option maxRecDepth 100000 in
theorem omX11_image : ab_okM iX11_image ∧ ab_np iX11_image = some (ab_pn iX11_image) := ⟨⟨wd_807, wd_644, by decide +kernel, by decide +kernel, by decide +kernel⟩, by decide +kernel⟩
set_option maxRecDepth 100000 in
theorem omX11_back : ab_okM iX11_back ∧ ab_np iX11_back = some (ab_pn iX11_back) := ⟨⟨wd_808, wd_644, by decide +kernel, by decide +kernel, by decide +kernel⟩, by decide +kernel⟩
set_option maxRecDepth 100000 in
theorem omX11_count : ab_okM iX11_count ∧ ab_np iX11_count = some (ab_pn iX11_count) := ⟨⟨wd_809, wd_644, by decide +kernel, by decide +kernel, by decide +kernel⟩, by decide +kernel⟩
set_option maxRecDepth 100000 in
theorem omX11_isShelf : ab_okM iX11_isShelf ∧ ab_np iX11_isShelf = some (ab_pn iX11_isShelf) := ⟨⟨wd_810, wd_644, by decide +kernel, by decide +kernel, by decide +kernel⟩, by decide +kernel⟩
set_option maxRecDepth 100000 in
theorem omX11_isPath : ab_okM iX11_isPath ∧ ab_np iX11_isPath = some (ab_pn iX11_isPath) := ⟨⟨wd_811, wd_644, by decide +kernel, by decide +kernel, by decide +kernel⟩, by decide +kernel⟩
set_option maxRecDepth 100000 in
theorem omX11_isHow : ab_okM iX11_isHow ∧ ab_np iX11_isHow = some (ab_pn iX11_isHow) := ⟨⟨wd_812, wd_644, by decide +kernel, by decide +kernel, by decide +kernel⟩, by decide +kernel⟩
set_option maxRecDepth 100000 in
theorem omX11_held : ab_okM iX11_held ∧ ab_np iX11_held = some (ab_pn iX11_held) := ⟨⟨wd_813, wd_644, by decide +kernel, by decide +kernel, by decide +kernel⟩, by decide +kernel⟩
set_option maxRecDepth 100000 in
theorem omX11_focusAt : ab_okM iX11_focusAt ∧ ab_np iX11_focusAt = some (ab_pn iX11_focusAt) := ⟨⟨wd_814, wd_644, by decide +kernel, by decide +kernel, by decide +kernel⟩, by decide +kernel⟩
set_option maxRecDepth 100000 in
theorem omX11_allNodes : ab_okM iX11_allNodes ∧ ab_np iX11_allNodes = some (ab_pn iX11_allNodes) := ⟨⟨wd_815, wd_644, by decide +kernel, by decide +kernel, by decide +kernel⟩, by decide +kernel⟩
set_option maxRecDepth 100000 in
theorem omX11_ofTwo : ab_okM iX11_ofTwo ∧ ab_np iX11_ofTwo = some (ab_pn iX11_ofTwo) := ⟨⟨wd_816, wd_644, by decide +kernel, by decide +kernel, by decide +kernel⟩, by decide +kernel⟩
set_option maxRecDepth 100000 in
theorem omX11_withKey : ab_okM iX11_withKey ∧ ab_np iX11_withKey = some (ab_pn iX11_withKey) := ⟨⟨wd_817, wd_644, by decide +kernel, by decide +kernel, by decide +kernel⟩, by decide +kernel⟩
set_option maxRecDepth 100000 in
theorem omX11_sharedNodes : ab_okM iX11_sharedNodes ∧ ab_np iX11_sharedNodes = some (ab_pn iX11_sharedNodes) := ⟨⟨wd_818, wd_644, by decide +kernel, by decide +kernel, by decide +kernel⟩, by decide +kernel⟩
set_option maxRecDepth 100000 in
theorem omP132 : ab_okM iP132 ∧ ab_np iP132 = some (ab_pn iP132) := ⟨⟨wd_691, wd_327, by decide +kernel, by decide +kernel, by decide +kernel⟩, by decide +kernel⟩
set_option maxRecDepth 100000 in
theorem omP133 : ab_okM iP133 ∧ ab_np iP133 = some (ab_pn iP133) := ⟨⟨wd_691, wd_327, by decide +kernel, by decide +kernel, by decide +kernel⟩, by decide +kernel⟩
set_option maxRecDepth 100000 in
theorem omP134 : ab_okM iP134 ∧ ab_np iP134 = some (ab_pn iP134) := ⟨⟨wd_691, wd_327, by decide +kernel, by decide +kernel, by decide +kernel⟩, by decide +kernel⟩
set_option maxRecDepth 100000 in
theorem omP135 : ab_okM iP135 ∧ ab_np iP135 = some (ab_pn iP135) := ⟨⟨wd_691, wd_327, by decide +kernel, by decide +kernel, by decide +kernel⟩, by decide +kernel⟩
set_option maxRecDepth 100000 in
theorem omP136 : ab_okM iP136 ∧ ab_np iP136 = some (ab_pn iP136) := ⟨⟨wd_691, wd_327, by decide +kernel, by decide +kernel, by decide +kernel⟩, by decide +kernel⟩
set_option maxRecDepth 100000 in
theorem omP137 : ab_okM iP137 ∧ ab_np iP137 = some (ab_pn iP137) := ⟨⟨wd_691, wd_327, by decide +kernel, by decide +kernel, by decide +kernel⟩, by decide +kernel⟩
set_option maxRecDepth 100000 in
theorem omP138 : ab_okM iP138 ∧ ab_np iP138 = some (ab_pn iP138) := ⟨⟨wd_691, wd_327, by decide +kernel, by decide +kernel, by decide +kernel⟩, by decide +kernel⟩
set_option maxRecDepth 100000 in
theorem omP139 : ab_okM iP139 ∧ ab_np iP139 = some (ab_pn iP139) := ⟨⟨wd_691, wd_327, by decide +kernel, by decide +kernel, by decide +kernel⟩, by decide +kernel⟩
set_option maxRecDepth 100000 in
theorem omP140 : ab_okM iP140 ∧ ab_np iP140 = some (ab_pn iP140) := ⟨⟨wd_691, wd_327, by decide +kernel, by decide +kernel, by decide +kernel⟩, by decide +kernel⟩
set_option maxRecDepth 100000 in
theorem omP141 : ab_okM iP141 ∧ ab_np iP141 = some (ab_pn iP141) := ⟨⟨wd_691, wd_327, by decide +kernel, by decide +kernel, by decide +kernel⟩, by decide +kernel⟩
set_option maxRecDepth 100000 in
theorem omJ5_init_d00df : ab_okM iJ5_init_d00df ∧ ab_np iJ5_init_d00df = some (ab_pn iJ5_init_d00df) := ⟨⟨wd_819, wd_820, by decide +kernel, by decide +kernel, by decide +kernel⟩, by decide +kernel⟩
set_option maxRecDepth 100000 in
theorem omJ5_length_8abf5 : ab_okM iJ5_length_8abf5 ∧ ab_np iJ5_length_8abf5 = some (ab_pn iJ5_length_8abf5) := ⟨⟨wd_821, wd_820, by decide +kernel, by decide +kernel, by decide +kernel⟩, by decide +kernel⟩
set_option maxRecDepth 100000 in
theorem omJ5_ensureCapacityInternal_d00df : ab_okM iJ5_ensureCapacityInternal_d00df ∧ ab_np iJ5_ensureCapacityInternal_d00df = some (ab_pn iJ5_ensureCapacityInternal_d00df) := ⟨⟨wd_822, wd_820, by decide +kernel, by decide +kernel, by decide +kernel⟩, by decide +kernel⟩
set_option maxRecDepth 100000 in
theorem omJ5_newCapacity_0f7a4 : ab_okM iJ5_newCapacity_0f7a4 ∧ ab_np iJ5_newCapacity_0f7a4 = some (ab_pn iJ5_newCapacity_0f7a4) := ⟨⟨wd_823, wd_820, by decide +kernel, by decide +kernel, by decide +kernel⟩, by decide +kernel⟩
set_option maxRecDepth 100000 in
theorem omJ5_append_cf1ce : ab_okM iJ5_append_cf1ce ∧ ab_np iJ5_append_cf1ce = some (ab_pn iJ5_append_cf1ce) := ⟨⟨wd_824, wd_820, by decide +kernel, by decide +kernel, by decide +kernel⟩, by decide +kernel⟩
set_option maxRecDepth 100000 in
theorem omJ5_append_3fe6f : ab_okM iJ5_append_3fe6f ∧ ab_np iJ5_append_3fe6f = some (ab_pn iJ5_append_3fe6f) := ⟨⟨wd_825, wd_820, by decide +kernel, by decide +kernel, by decide +kernel⟩, by decide +kernel⟩
set_option maxRecDepth 100000 in
theorem omJ5_append_c97b9 : ab_okM iJ5_append_c97b9 ∧ ab_np iJ5_append_c97b9 = some (ab_pn iJ5_append_c97b9) := ⟨⟨wd_826, wd_820, by decide +kernel, by decide +kernel, by decide +kernel⟩, by decide +kernel⟩
set_option maxRecDepth 100000 in
theorem omJ5_getValue_6d5f1 : ab_okM iJ5_getValue_6d5f1 ∧ ab_np iJ5_getValue_6d5f1 = some (ab_pn iJ5_getValue_6d5f1) := ⟨⟨wd_827, wd_820, by decide +kernel, by decide +kernel, by decide +kernel⟩, by decide +kernel⟩
set_option maxRecDepth 100000 in
theorem omJ5_isLatin1_aae02 : ab_okM iJ5_isLatin1_aae02 ∧ ab_np iJ5_isLatin1_aae02 = some (ab_pn iJ5_isLatin1_aae02) := ⟨⟨wd_828, wd_820, by decide +kernel, by decide +kernel, by decide +kernel⟩, by decide +kernel⟩
set_option maxRecDepth 100000 in
theorem omJ5_inflateIfNeededFor_a7421 : ab_okM iJ5_inflateIfNeededFor_a7421 ∧ ab_np iJ5_inflateIfNeededFor_a7421 = some (ab_pn iJ5_inflateIfNeededFor_a7421) := ⟨⟨wd_829, wd_820, by decide +kernel, by decide +kernel, by decide +kernel⟩, by decide +kernel⟩
set_option maxRecDepth 100000 in
theorem omJ5_putStringAt_47b60 : ab_okM iJ5_putStringAt_47b60 ∧ ab_np iJ5_putStringAt_47b60 = some (ab_pn iJ5_putStringAt_47b60) := ⟨⟨wd_830, wd_820, by decide +kernel, by decide +kernel, by decide +kernel⟩, by decide +kernel⟩
set_option maxRecDepth 100000 in
theorem omJ6_getChars_ba4f3 : ab_okM iJ6_getChars_ba4f3 ∧ ab_np iJ6_getChars_ba4f3 = some (ab_pn iJ6_getChars_ba4f3) := ⟨⟨wd_831, wd_832, by decide +kernel, by decide +kernel, by decide +kernel⟩, by decide +kernel⟩
set_option maxRecDepth 100000 in
theorem omJ6_stringSize_0f7a4 : ab_okM iJ6_stringSize_0f7a4 ∧ ab_np iJ6_stringSize_0f7a4 = some (ab_pn iJ6_stringSize_0f7a4) := ⟨⟨wd_833, wd_832, by decide +kernel, by decide +kernel, by decide +kernel⟩, by decide +kernel⟩
set_option maxRecDepth 100000 in
theorem omJ0_init_81219 : ab_okM iJ0_init_81219 ∧ ab_np iJ0_init_81219 = some (ab_pn iJ0_init_81219) := ⟨⟨wd_834, wd_569, by decide +kernel, by decide +kernel, by decide +kernel⟩, by decide +kernel⟩
set_option maxRecDepth 100000 in
theorem omJ0_length_8abf5 : ab_okM iJ0_length_8abf5 ∧ ab_np iJ0_length_8abf5 = some (ab_pn iJ0_length_8abf5) := ⟨⟨wd_835, wd_569, by decide +kernel, by decide +kernel, by decide +kernel⟩, by decide +kernel⟩
set_option maxRecDepth 100000 in
theorem omJ0_charAt_5068e : ab_okM iJ0_charAt_5068e ∧ ab_np iJ0_charAt_5068e = some (ab_pn iJ0_charAt_5068e) := ⟨⟨wd_836, wd_569, by decide +kernel, by decide +kernel, by decide +kernel⟩, by decide +kernel⟩
set_option maxRecDepth 100000 in
theorem omJ0_getBytes_840e7 : ab_okM iJ0_getBytes_840e7 ∧ ab_np iJ0_getBytes_840e7 = some (ab_pn iJ0_getBytes_840e7) := ⟨⟨wd_837, wd_569, by decide +kernel, by decide +kernel, by decide +kernel⟩, by decide +kernel⟩
set_option maxRecDepth 100000 in
theorem omJ0_init_db425 : ab_okM iJ0_init_db425 ∧ ab_np iJ0_init_db425 = some (ab_pn iJ0_init_db425) := ⟨⟨wd_838, wd_569, by decide +kernel, by decide +kernel, by decide +kernel⟩, by decide +kernel⟩
set_option maxRecDepth 100000 in
theorem omJ0_coder_7d493 : ab_okM iJ0_coder_7d493 ∧ ab_np iJ0_coder_7d493 = some (ab_pn iJ0_coder_7d493) := ⟨⟨wd_839, wd_569, by decide +kernel, by decide +kernel, by decide +kernel⟩, by decide +kernel⟩
set_option maxRecDepth 100000 in
theorem omJ0_isLatin1_aae02 : ab_okM iJ0_isLatin1_aae02 ∧ ab_np iJ0_isLatin1_aae02 = some (ab_pn iJ0_isLatin1_aae02) := ⟨⟨wd_840, wd_569, by decide +kernel, by decide +kernel, by decide +kernel⟩, by decide +kernel⟩
set_option maxRecDepth 100000 in
theorem omJ0_checkIndex_df160 : ab_okM iJ0_checkIndex_df160 ∧ ab_np iJ0_checkIndex_df160 = some (ab_pn iJ0_checkIndex_df160) := ⟨⟨wd_841, wd_569, by decide +kernel, by decide +kernel, by decide +kernel⟩, by decide +kernel⟩
set_option maxRecDepth 100000 in
theorem omJ4_init_da8c8 : ab_okM iJ4_init_da8c8 ∧ ab_np iJ4_init_da8c8 = some (ab_pn iJ4_init_da8c8) := ⟨⟨wd_842, wd_603, by decide +kernel, by decide +kernel, by decide +kernel⟩, by decide +kernel⟩
set_option maxRecDepth 100000 in
theorem omJ4_append_15ec4 : ab_okM iJ4_append_15ec4 ∧ ab_np iJ4_append_15ec4 = some (ab_pn iJ4_append_15ec4) := ⟨⟨wd_843, wd_603, by decide +kernel, by decide +kernel, by decide +kernel⟩, by decide +kernel⟩
set_option maxRecDepth 100000 in
theorem omJ4_append_cf468 : ab_okM iJ4_append_cf468 ∧ ab_np iJ4_append_cf468 = some (ab_pn iJ4_append_cf468) := ⟨⟨wd_844, wd_603, by decide +kernel, by decide +kernel, by decide +kernel⟩, by decide +kernel⟩
set_option maxRecDepth 100000 in
theorem omJ4_append_bf812 : ab_okM iJ4_append_bf812 ∧ ab_np iJ4_append_bf812 = some (ab_pn iJ4_append_bf812) := ⟨⟨wd_845, wd_603, by decide +kernel, by decide +kernel, by decide +kernel⟩, by decide +kernel⟩
set_option maxRecDepth 100000 in
theorem omJ4_toString_0e30d : ab_okM iJ4_toString_0e30d ∧ ab_np iJ4_toString_0e30d = some (ab_pn iJ4_toString_0e30d) := ⟨⟨wd_846, wd_603, by decide +kernel, by decide +kernel, by decide +kernel⟩, by decide +kernel⟩
set_option maxRecDepth 100000 in
theorem omJ4_length_8abf5 : ab_okM iJ4_length_8abf5 ∧ ab_np iJ4_length_8abf5 = some (ab_pn iJ4_length_8abf5) := ⟨⟨wd_847, wd_603, by decide +kernel, by decide +kernel, by decide +kernel⟩, by decide +kernel⟩
set_option maxRecDepth 100000 in
theorem omJ1_charAt_3b067 : ab_okM iJ1_charAt_3b067 ∧ ab_np iJ1_charAt_3b067 = some (ab_pn iJ1_charAt_3b067) := ⟨⟨wd_848, wd_849, by decide +kernel, by decide +kernel, by decide +kernel⟩, by decide +kernel⟩
set_option maxRecDepth 100000 in
theorem omJ1_canEncode_fc78d : ab_okM iJ1_canEncode_fc78d ∧ ab_np iJ1_canEncode_fc78d = some (ab_pn iJ1_canEncode_fc78d) := ⟨⟨wd_850, wd_849, by decide +kernel, by decide +kernel, by decide +kernel⟩, by decide +kernel⟩
set_option maxRecDepth 100000 in
theorem omJ7_copyOf_9075b : ab_okM iJ7_copyOf_9075b ∧ ab_np iJ7_copyOf_9075b = some (ab_pn iJ7_copyOf_9075b) := ⟨⟨wd_851, wd_852, by decide +kernel, by decide +kernel, by decide +kernel⟩, by decide +kernel⟩
set_option maxRecDepth 100000 in
theorem omJ7_checkLength_df160 : ab_okM iJ7_checkLength_df160 ∧ ab_np iJ7_checkLength_df160 = some (ab_pn iJ7_checkLength_df160) := ⟨⟨wd_853, wd_852, by decide +kernel, by decide +kernel, by decide +kernel⟩, by decide +kernel⟩
set_option maxRecDepth 100000 in
theorem omJ7_copyOfRange_39247 : ab_okM iJ7_copyOfRange_39247 ∧ ab_np iJ7_copyOfRange_39247 = some (ab_pn iJ7_copyOfRange_39247) := ⟨⟨wd_854, wd_852, by decide +kernel, by decide +kernel, by decide +kernel⟩, by decide +kernel⟩
set_option maxRecDepth 100000 in
theorem omJ7_copyOfRangeByte_39247 : ab_okM iJ7_copyOfRangeByte_39247 ∧ ab_np iJ7_copyOfRangeByte_39247 = some (ab_pn iJ7_copyOfRangeByte_39247) := ⟨⟨wd_855, wd_852, by decide +kernel, by decide +kernel, by decide +kernel⟩, by decide +kernel⟩
set_option maxRecDepth 100000 in
theorem omJ8_newLength_cabcc : ab_okM iJ8_newLength_cabcc ∧ ab_np iJ8_newLength_cabcc = some (ab_pn iJ8_newLength_cabcc) := ⟨⟨wd_856, wd_857, by decide +kernel, by decide +kernel, by decide +kernel⟩, by decide +kernel⟩
set_option maxRecDepth 100000 in
theorem omJ3_checkIndex_8e157 : ab_okM iJ3_checkIndex_8e157 ∧ ab_np iJ3_checkIndex_8e157 = some (ab_pn iJ3_checkIndex_8e157) := ⟨⟨wd_858, wd_859, by decide +kernel, by decide +kernel, by decide +kernel⟩, by decide +kernel⟩
set_option maxRecDepth 100000 in
theorem omL_at : ab_okM iL_at ∧ ab_np iL_at = some (ab_pn iL_at) := ⟨⟨wd_860, wd_861, by decide +kernel, by decide +kernel, by decide +kernel⟩, by decide +kernel⟩
set_option maxRecDepth 100000 in
theorem omL_some : ab_okM iL_some ∧ ab_np iL_some = some (ab_pn iL_some) := ⟨⟨wd_862, wd_861, by decide +kernel, by decide +kernel, by decide +kernel⟩, by decide +kernel⟩
set_option maxRecDepth 100000 in
theorem omL_next : ab_okM iL_next ∧ ab_np iL_next = some (ab_pn iL_next) := ⟨⟨wd_863, wd_861, by decide +kernel, by decide +kernel, by decide +kernel⟩, by decide +kernel⟩
set_option maxRecDepth 100000 in
theorem omL_says : ab_okM iL_says ∧ ab_np iL_says = some (ab_pn iL_says) := ⟨⟨wd_864, wd_861, by decide +kernel, by decide +kernel, by decide +kernel⟩, by decide +kernel⟩
set_option maxRecDepth 100000 in
theorem omL_thing : ab_okM iL_thing ∧ ab_np iL_thing = some (ab_pn iL_thing) := ⟨⟨wd_865, wd_861, by decide +kernel, by decide +kernel, by decide +kernel⟩, by decide +kernel⟩
set_option maxRecDepth 100000 in
theorem omL_step : ab_okM iL_step ∧ ab_np iL_step = some (ab_pn iL_step) := ⟨⟨wd_866, wd_861, by decide +kernel, by decide +kernel, by decide +kernel⟩, by decide +kernel⟩
set_option maxRecDepth 100000 in
theorem omL_puts : ab_okM iL_puts ∧ ab_np iL_puts = some (ab_pn iL_puts) := ⟨⟨wd_867, wd_861, by decide +kernel, by decide +kernel, by decide +kernel⟩, by decide +kernel⟩
set_option maxRecDepth 100000 in
theorem omL_walks : ab_okM iL_walks ∧ ab_np iL_walks = some (ab_pn iL_walks) := ⟨⟨wd_868, wd_861, by decide +kernel, by decide +kernel, by decide +kernel⟩, by decide +kernel⟩
set_option maxRecDepth 100000 in
theorem omL_worth : ab_okM iL_worth ∧ ab_np iL_worth = some (ab_pn iL_worth) := ⟨⟨wd_869, wd_861, by decide +kernel, by decide +kernel, by decide +kernel⟩, by decide +kernel⟩
set_option maxRecDepth 100000 in
theorem omL_stock : ab_okM iL_stock ∧ ab_np iL_stock = some (ab_pn iL_stock) := ⟨⟨wd_870, wd_861, by decide +kernel, by decide +kernel, by decide +kernel⟩, by decide +kernel⟩
set_option maxRecDepth 100000 in
theorem omP187 : ab_okM iP187 ∧ ab_np iP187 = some (ab_pn iP187) := ⟨⟨wd_691, wd_327, by decide +kernel, by decide +kernel, by decide +kernel⟩, by decide +kernel⟩
set_option maxRecDepth 100000 in
theorem omP188 : ab_okM iP188 ∧ ab_np iP188 = some (ab_pn iP188) := ⟨⟨wd_691, wd_327, by decide +kernel, by decide +kernel, by decide +kernel⟩, by decide +kernel⟩
set_option maxRecDepth 100000 in
theorem omP189 : ab_okM iP189 ∧ ab_np iP189 = some (ab_pn iP189) := ⟨⟨wd_691, wd_327, by decide +kernel, by decide +kernel, by decide +kernel⟩, by decide +kernel⟩
set_option maxRecDepth 100000 in
theorem omP190 : ab_okM iP190 ∧ ab_np iP190 = some (ab_pn iP190) := ⟨⟨wd_691, wd_327, by decide +kernel, by decide +kernel, by decide +kernel⟩, by decide +kernel⟩
set_option maxRecDepth 100000 in
theorem omP191 : ab_okM iP191 ∧ ab_np iP191 = some (ab_pn iP191) := ⟨⟨wd_691, wd_327, by decide +kernel, by decide +kernel, by decide +kernel⟩, by decide +kernel⟩
set_option maxRecDepth 100000 in
theorem omP192 : ab_okM iP192 ∧ ab_np iP192 = some (ab_pn iP192) := ⟨⟨wd_691, wd_327, by decide +kernel, by decide +kernel, by decide +kernel⟩, by decide +kernel⟩
set_option maxRecDepth 100000 in
theorem omP193 : ab_okM iP193 ∧ ab_np iP193 = some (ab_pn iP193) := ⟨⟨wd_691, wd_327, by decide +kernel, by decide +kernel, by decide +kernel⟩, by decide +kernel⟩
set_option maxRecDepth 100000 in
theorem omP194 : ab_okM iP194 ∧ ab_np iP194 = some (ab_pn iP194) := ⟨⟨wd_691, wd_327, by decide +kernel, by decide +kernel, by decide +kernel⟩, by decide +kernel⟩
set_option maxRecDepth 100000 in
theorem omP195 : ab_okM iP195 ∧ ab_np iP195 = some (ab_pn iP195) := ⟨⟨wd_691, wd_327, by decide +kernel, by decide +kernel, by decide +kernel⟩, by decide +kernel⟩
set_option maxRecDepth 100000 in
theorem omP196 : ab_okM iP196 ∧ ab_np iP196 = some (ab_pn iP196) := ⟨⟨wd_691, wd_327, by decide +kernel, by decide +kernel, by decide +kernel⟩, by decide +kernel⟩
set_option maxRecDepth 100000 in
theorem omP197 : ab_okM iP197 ∧ ab_np iP197 = some (ab_pn iP197) := ⟨⟨wd_691, wd_327, by decide +kernel, by decide +kernel, by decide +kernel⟩, by decide +kernel⟩
set_option maxRecDepth 100000 in
theorem omJ6_compare_7cf53 : ab_okM iJ6_compare_7cf53 ∧ ab_np iJ6_compare_7cf53 = some (ab_pn iJ6_compare_7cf53) := ⟨⟨wd_871, wd_832, by decide +kernel, by decide +kernel, by decide +kernel⟩, by decide +kernel⟩
set_option maxRecDepth 100000 in
theorem omJ9_max_7cf53 : ab_okM iJ9_max_7cf53 ∧ ab_np iJ9_max_7cf53 = some (ab_pn iJ9_max_7cf53) := ⟨⟨wd_872, wd_873, by decide +kernel, by decide +kernel, by decide +kernel⟩, by decide +kernel⟩
set_option maxRecDepth 100000 in
theorem omJ9_min_7cf53 : ab_okM iJ9_min_7cf53 ∧ ab_np iJ9_min_7cf53 = some (ab_pn iJ9_min_7cf53) := ⟨⟨wd_874, wd_873, by decide +kernel, by decide +kernel, by decide +kernel⟩, by decide +kernel⟩
theorem pfX0_init : plainFor (ab_nm iX0_init) = true := by decide +kernel
theorem pfX0_change : plainFor (ab_nm iX0_change) = true := by decide +kernel
theorem pfX0_focusCount : plainFor (ab_nm iX0_focusCount) = true := by decide +kernel
theorem pfX0_changeWithin : plainFor (ab_nm iX0_changeWithin) = true := by decide +kernel
theorem pfX0_changeFocus : plainFor (ab_nm iX0_changeFocus) = true := by decide +kernel
theorem pfX0_changeOrder : plainFor (ab_nm iX0_changeOrder) = true := by decide +kernel
theorem pfX0_makeNumberOf : plainFor (ab_nm iX0_makeNumberOf) = true := by decide +kernel
theorem pfX0_make : plainFor (ab_nm iX0_make) = true := by decide +kernel
theorem pfX0_makeAround : plainFor (ab_nm iX0_makeAround) = true := by decide +kernel
theorem pfX0_mayMake : plainFor (ab_nm iX0_mayMake) = true := by decide +kernel
theorem pfX0_justOne : plainFor (ab_nm iX0_justOne) = true := by decide +kernel
theorem pfX0_reversed : plainFor (ab_nm iX0_reversed) = true := by decide +kernel
theorem pfX0_turned : plainFor (ab_nm iX0_turned) = true := by decide +kernel
theorem pfX0_sorted : plainFor (ab_nm iX0_sorted) = true := by decide +kernel
theorem pfX1_init : plainFor (ab_nm iX1_init) = true := by decide +kernel
theorem pfX1_find : plainFor (ab_nm iX1_find) = true := by decide +kernel
theorem pfX1_findWithin : plainFor (ab_nm iX1_findWithin) = true := by decide +kernel
theorem pfX1_add : plainFor (ab_nm iX1_add) = true := by decide +kernel
theorem pfX1_size : plainFor (ab_nm iX1_size) = true := by decide +kernel
theorem pfX1_place : plainFor (ab_nm iX1_place) = true := by decide +kernel
theorem pfX2_init : plainFor (ab_nm iX2_init) = true := by decide +kernel
theorem pfX2_find : plainFor (ab_nm iX2_find) = true := by decide +kernel
theorem pfX2_findWithin : plainFor (ab_nm iX2_findWithin) = true := by decide +kernel
theorem pfX2_add : plainFor (ab_nm iX2_add) = true := by decide +kernel
theorem pfX2_size : plainFor (ab_nm iX2_size) = true := by decide +kernel
theorem pfX2_isEmpty : plainFor (ab_nm iX2_isEmpty) = true := by decide +kernel
theorem pfX2_at : plainFor (ab_nm iX2_at) = true := by decide +kernel
theorem pfX2_sum : plainFor (ab_nm iX2_sum) = true := by decide +kernel
theorem pfX2_numbersWithin : plainFor (ab_nm iX2_numbersWithin) = true := by decide +kernel
theorem pfX2_greatest : plainFor (ab_nm iX2_greatest) = true := by decide +kernel
theorem pfX2_least : plainFor (ab_nm iX2_least) = true := by decide +kernel
theorem pfX2_unlike : plainFor (ab_nm iX2_unlike) = true := by decide +kernel
theorem pfX2_isLikeOneAhead : plainFor (ab_nm iX2_isLikeOneAhead) = true := by decide +kernel
theorem pfX2_height : plainFor (ab_nm iX2_height) = true := by decide +kernel
theorem pfX2_nodes : plainFor (ab_nm iX2_nodes) = true := by decide +kernel
theorem pfP35 : plainFor (ab_nm iP35) = true := by decide +kernel
theorem pfX2_sorted : plainFor (ab_nm iX2_sorted) = true := by decide +kernel
theorem pfX2_isAhead : plainFor (ab_nm iX2_isAhead) = true := by decide +kernel
theorem pfX3_init : plainFor (ab_nm iX3_init) = true := by decide +kernel
theorem pfX3_add : plainFor (ab_nm iX3_add) = true := by decide +kernel
theorem pfX3_hasKey : plainFor (ab_nm iX3_hasKey) = true := by decide +kernel
theorem pfX3_putByKey : plainFor (ab_nm iX3_putByKey) = true := by decide +kernel
theorem pfX3_together : plainFor (ab_nm iX3_together) = true := by decide +kernel
theorem pfX3_placeOf : plainFor (ab_nm iX3_placeOf) = true := by decide +kernel
theorem pfX3_insert : plainFor (ab_nm iX3_insert) = true := by decide +kernel
theorem pfX4_init : plainFor (ab_nm iX4_init) = true := by decide +kernel
theorem pfX4_size : plainFor (ab_nm iX4_size) = true := by decide +kernel
theorem pfP47 : plainFor (ab_nm iP47) = true := by decide +kernel
theorem pfX4_keeps : plainFor (ab_nm iX4_keeps) = true := by decide +kernel
theorem pfX4_enters : plainFor (ab_nm iX4_enters) = true := by decide +kernel
theorem pfX4_stepWithin : plainFor (ab_nm iX4_stepWithin) = true := by decide +kernel
theorem pfX4_sign : plainFor (ab_nm iX4_sign) = true := by decide +kernel
theorem pfX4_word : plainFor (ab_nm iX4_word) = true := by decide +kernel
theorem pfX5_init : plainFor (ab_nm iX5_init) = true := by decide +kernel
theorem pfX5_readWhole : plainFor (ab_nm iX5_readWhole) = true := by decide +kernel
theorem pfX5_readStep : plainFor (ab_nm iX5_readStep) = true := by decide +kernel
theorem pfX5_readSide : plainFor (ab_nm iX5_readSide) = true := by decide +kernel
theorem pfX5_closed : plainFor (ab_nm iX5_closed) = true := by decide +kernel
theorem pfX5_firstOf : plainFor (ab_nm iX5_firstOf) = true := by decide +kernel
theorem pfX6_init : plainFor (ab_nm iX6_init) = true := by decide +kernel
theorem pfX6_held : plainFor (ab_nm iX6_held) = true := by decide +kernel
theorem pfX6_oldCount : plainFor (ab_nm iX6_oldCount) = true := by decide +kernel
theorem pfX6_become : plainFor (ab_nm iX6_become) = true := by decide +kernel
theorem pfX6_becomeLastOld : plainFor (ab_nm iX6_becomeLastOld) = true := by decide +kernel
theorem pfX6_restart : plainFor (ab_nm iX6_restart) = true := by decide +kernel
theorem pfX7_init : plainFor (ab_nm iX7_init) = true := by decide +kernel
theorem pfX7_sum : plainFor (ab_nm iX7_sum) = true := by decide +kernel
theorem pfX7_hasRoomFor : plainFor (ab_nm iX7_hasRoomFor) = true := by decide +kernel
theorem pfX7_adds : plainFor (ab_nm iX7_adds) = true := by decide +kernel
theorem pfX8_init : plainFor (ab_nm iX8_init) = true := by decide +kernel
theorem pfX8_size : plainFor (ab_nm iX8_size) = true := by decide +kernel
theorem pfX8_add : plainFor (ab_nm iX8_add) = true := by decide +kernel
theorem pfX8_clear : plainFor (ab_nm iX8_clear) = true := by decide +kernel
theorem pfX8_rewind : plainFor (ab_nm iX8_rewind) = true := by decide +kernel
theorem pfX8_at : plainFor (ab_nm iX8_at) = true := by decide +kernel
theorem pfX8_fault : plainFor (ab_nm iX8_fault) = true := by decide +kernel
theorem pfX8_isFaulty : plainFor (ab_nm iX8_isFaulty) = true := by decide +kernel
theorem pfX8_isAtEnd : plainFor (ab_nm iX8_isAtEnd) = true := by decide +kernel
theorem pfX8_fail : plainFor (ab_nm iX8_fail) = true := by decide +kernel
theorem pfX8_next : plainFor (ab_nm iX8_next) = true := by decide +kernel
theorem pfX8_step : plainFor (ab_nm iX8_step) = true := by decide +kernel
theorem pfX8_takes : plainFor (ab_nm iX8_takes) = true := by decide +kernel
theorem pfX8_needs : plainFor (ab_nm iX8_needs) = true := by decide +kernel
theorem pfX8_digits : plainFor (ab_nm iX8_digits) = true := by decide +kernel
theorem pfX8_signedNumber : plainFor (ab_nm iX8_signedNumber) = true := by decide +kernel
theorem pfX8_letters : plainFor (ab_nm iX8_letters) = true := by decide +kernel
theorem pfX9_init : plainFor (ab_nm iX9_init) = true := by decide +kernel
theorem pfX9_size : plainFor (ab_nm iX9_size) = true := by decide +kernel
theorem pfX9_part : plainFor (ab_nm iX9_part) = true := by decide +kernel
theorem pfX9_copyOfParts : plainFor (ab_nm iX9_copyOfParts) = true := by decide +kernel
theorem pfX9_letters : plainFor (ab_nm iX9_letters) = true := by decide +kernel
theorem pfX9_isTooMuch : plainFor (ab_nm iX9_isTooMuch) = true := by decide +kernel
theorem pfX9_isFramedLike : plainFor (ab_nm iX9_isFramedLike) = true := by decide +kernel
theorem pfX9_areAlike : plainFor (ab_nm iX9_areAlike) = true := by decide +kernel
theorem pfX9_compare : plainFor (ab_nm iX9_compare) = true := by decide +kernel
theorem pfX9_holds : plainFor (ab_nm iX9_holds) = true := by decide +kernel
theorem pfX10_init : plainFor (ab_nm iX10_init) = true := by decide +kernel
theorem pfX10_readWhole : plainFor (ab_nm iX10_readWhole) = true := by decide +kernel
theorem pfX10_readOne : plainFor (ab_nm iX10_readOne) = true := by decide +kernel
theorem pfX10_readPair : plainFor (ab_nm iX10_readPair) = true := by decide +kernel
theorem pfX10_readTagged : plainFor (ab_nm iX10_readTagged) = true := by decide +kernel
theorem pfX10_readMany : plainFor (ab_nm iX10_readMany) = true := by decide +kernel
theorem pfX10_readNewKey : plainFor (ab_nm iX10_readNewKey) = true := by decide +kernel
theorem pfX11_init : plainFor (ab_nm iX11_init) = true := by decide +kernel
theorem pfX11_feed : plainFor (ab_nm iX11_feed) = true := by decide +kernel
theorem pfX11_thing : plainFor (ab_nm iX11_thing) = true := by decide +kernel
theorem pfX11_path : plainFor (ab_nm iX11_path) = true := by decide +kernel
theorem pfP107 : plainFor (ab_nm iP107) = true := by decide +kernel
theorem pfX11_over : plainFor (ab_nm iX11_over) = true := by decide +kernel
theorem pfX11_put : plainFor (ab_nm iX11_put) = true := by decide +kernel
theorem pfX11_take : plainFor (ab_nm iX11_take) = true := by decide +kernel
theorem pfX11_undo : plainFor (ab_nm iX11_undo) = true := by decide +kernel
theorem pfX11_look : plainFor (ab_nm iX11_look) = true := by decide +kernel
theorem pfX11_key : plainFor (ab_nm iX11_key) = true := by decide +kernel
theorem pfX11_fold : plainFor (ab_nm iX11_fold) = true := by decide +kernel
theorem pfX11_best : plainFor (ab_nm iX11_best) = true := by decide +kernel
theorem pfX11_order : plainFor (ab_nm iX11_order) = true := by decide +kernel
theorem pfX11_shared : plainFor (ab_nm iX11_shared) = true := by decide +kernel
theorem pfX11_differ : plainFor (ab_nm iX11_differ) = true := by decide +kernel
theorem pfP119 : plainFor (ab_nm iP119) = true := by decide +kernel
theorem pfX11_image : plainFor (ab_nm iX11_image) = true := by decide +kernel
theorem pfX11_back : plainFor (ab_nm iX11_back) = true := by decide +kernel
theorem pfX11_count : plainFor (ab_nm iX11_count) = true := by decide +kernel
theorem pfX11_isShelf : plainFor (ab_nm iX11_isShelf) = true := by decide +kernel
theorem pfX11_isPath : plainFor (ab_nm iX11_isPath) = true := by decide +kernel
theorem pfX11_isHow : plainFor (ab_nm iX11_isHow) = true := by decide +kernel
theorem pfX11_held : plainFor (ab_nm iX11_held) = true := by decide +kernel
theorem pfX11_focusAt : plainFor (ab_nm iX11_focusAt) = true := by decide +kernel
theorem pfX11_allNodes : plainFor (ab_nm iX11_allNodes) = true := by decide +kernel
theorem pfX11_ofTwo : plainFor (ab_nm iX11_ofTwo) = true := by decide +kernel
theorem pfX11_withKey : plainFor (ab_nm iX11_withKey) = true := by decide +kernel
theorem pfX11_sharedNodes : plainFor (ab_nm iX11_sharedNodes) = true := by decide +kernel
theorem pfP132 : plainFor (ab_nm iP132) = true := by decide +kernel
theorem pfP133 : plainFor (ab_nm iP133) = true := by decide +kernel
theorem pfP134 : plainFor (ab_nm iP134) = true := by decide +kernel
theorem pfP135 : plainFor (ab_nm iP135) = true := by decide +kernel
theorem pfP136 : plainFor (ab_nm iP136) = true := by decide +kernel
theorem pfP137 : plainFor (ab_nm iP137) = true := by decide +kernel
theorem pfP138 : plainFor (ab_nm iP138) = true := by decide +kernel
theorem pfP139 : plainFor (ab_nm iP139) = true := by decide +kernel
theorem pfP140 : plainFor (ab_nm iP140) = true := by decide +kernel
theorem pfP141 : plainFor (ab_nm iP141) = true := by decide +kernel
theorem pfJ5_init_d00df : plainFor (ab_nm iJ5_init_d00df) = true := by decide +kernel
theorem pfJ5_length_8abf5 : plainFor (ab_nm iJ5_length_8abf5) = true := by decide +kernel
theorem pfJ5_ensureCapacityInternal_d00df : plainFor (ab_nm iJ5_ensureCapacityInternal_d00df) = true := by decide +kernel
theorem pfJ5_newCapacity_0f7a4 : plainFor (ab_nm iJ5_newCapacity_0f7a4) = true := by decide +kernel
theorem pfJ5_append_cf1ce : plainFor (ab_nm iJ5_append_cf1ce) = true := by decide +kernel
theorem pfJ5_append_3fe6f : plainFor (ab_nm iJ5_append_3fe6f) = true := by decide +kernel
theorem pfJ5_append_c97b9 : plainFor (ab_nm iJ5_append_c97b9) = true := by decide +kernel
theorem pfJ5_getValue_6d5f1 : plainFor (ab_nm iJ5_getValue_6d5f1) = true := by decide +kernel
theorem pfJ5_isLatin1_aae02 : plainFor (ab_nm iJ5_isLatin1_aae02) = true := by decide +kernel
theorem pfJ5_inflateIfNeededFor_a7421 : plainFor (ab_nm iJ5_inflateIfNeededFor_a7421) = true := by decide +kernel
theorem pfJ5_putStringAt_47b60 : plainFor (ab_nm iJ5_putStringAt_47b60) = true := by decide +kernel
theorem pfJ6_getChars_ba4f3 : plainFor (ab_nm iJ6_getChars_ba4f3) = true := by decide +kernel
theorem pfJ6_stringSize_0f7a4 : plainFor (ab_nm iJ6_stringSize_0f7a4) = true := by decide +kernel
theorem pfJ0_init_81219 : plainFor (ab_nm iJ0_init_81219) = true := by decide +kernel
theorem pfJ0_length_8abf5 : plainFor (ab_nm iJ0_length_8abf5) = true := by decide +kernel
theorem pfJ0_charAt_5068e : plainFor (ab_nm iJ0_charAt_5068e) = true := by decide +kernel
theorem pfJ0_getBytes_840e7 : plainFor (ab_nm iJ0_getBytes_840e7) = true := by decide +kernel
theorem pfJ0_init_db425 : plainFor (ab_nm iJ0_init_db425) = true := by decide +kernel
theorem pfJ0_coder_7d493 : plainFor (ab_nm iJ0_coder_7d493) = true := by decide +kernel
theorem pfJ0_isLatin1_aae02 : plainFor (ab_nm iJ0_isLatin1_aae02) = true := by decide +kernel
theorem pfJ0_checkIndex_df160 : plainFor (ab_nm iJ0_checkIndex_df160) = true := by decide +kernel
theorem pfJ4_init_da8c8 : plainFor (ab_nm iJ4_init_da8c8) = true := by decide +kernel
theorem pfJ4_append_15ec4 : plainFor (ab_nm iJ4_append_15ec4) = true := by decide +kernel
theorem pfJ4_append_cf468 : plainFor (ab_nm iJ4_append_cf468) = true := by decide +kernel
theorem pfJ4_append_bf812 : plainFor (ab_nm iJ4_append_bf812) = true := by decide +kernel
theorem pfJ4_toString_0e30d : plainFor (ab_nm iJ4_toString_0e30d) = true := by decide +kernel
theorem pfJ4_length_8abf5 : plainFor (ab_nm iJ4_length_8abf5) = true := by decide +kernel
theorem pfJ1_charAt_3b067 : plainFor (ab_nm iJ1_charAt_3b067) = true := by decide +kernel
theorem pfJ1_canEncode_fc78d : plainFor (ab_nm iJ1_canEncode_fc78d) = true := by decide +kernel
theorem pfJ7_copyOf_9075b : plainFor (ab_nm iJ7_copyOf_9075b) = true := by decide +kernel
theorem pfJ7_checkLength_df160 : plainFor (ab_nm iJ7_checkLength_df160) = true := by decide +kernel
theorem pfJ7_copyOfRange_39247 : plainFor (ab_nm iJ7_copyOfRange_39247) = true := by decide +kernel
theorem pfJ7_copyOfRangeByte_39247 : plainFor (ab_nm iJ7_copyOfRangeByte_39247) = true := by decide +kernel
theorem pfJ8_newLength_cabcc : plainFor (ab_nm iJ8_newLength_cabcc) = true := by decide +kernel
theorem pfJ3_checkIndex_8e157 : plainFor (ab_nm iJ3_checkIndex_8e157) = true := by decide +kernel
theorem pfL_at : plainFor (ab_nm iL_at) = true := by decide +kernel
theorem pfL_some : plainFor (ab_nm iL_some) = true := by decide +kernel
theorem pfL_next : plainFor (ab_nm iL_next) = true := by decide +kernel
theorem pfL_says : plainFor (ab_nm iL_says) = true := by decide +kernel
theorem pfL_thing : plainFor (ab_nm iL_thing) = true := by decide +kernel
theorem pfL_step : plainFor (ab_nm iL_step) = true := by decide +kernel
theorem pfL_puts : plainFor (ab_nm iL_puts) = true := by decide +kernel
theorem pfL_walks : plainFor (ab_nm iL_walks) = true := by decide +kernel
theorem pfL_worth : plainFor (ab_nm iL_worth) = true := by decide +kernel
theorem pfL_stock : plainFor (ab_nm iL_stock) = true := by decide +kernel
theorem pfP187 : plainFor (ab_nm iP187) = true := by decide +kernel
theorem pfP188 : plainFor (ab_nm iP188) = true := by decide +kernel
theorem pfP189 : plainFor (ab_nm iP189) = true := by decide +kernel
theorem pfP190 : plainFor (ab_nm iP190) = true := by decide +kernel
theorem pfP191 : plainFor (ab_nm iP191) = true := by decide +kernel
theorem pfP192 : plainFor (ab_nm iP192) = true := by decide +kernel
theorem pfP193 : plainFor (ab_nm iP193) = true := by decide +kernel
theorem pfP194 : plainFor (ab_nm iP194) = true := by decide +kernel
theorem pfP195 : plainFor (ab_nm iP195) = true := by decide +kernel
theorem pfP196 : plainFor (ab_nm iP196) = true := by decide +kernel
theorem pfP197 : plainFor (ab_nm iP197) = true := by decide +kernel
theorem pfJ6_compare_7cf53 : plainFor (ab_nm iJ6_compare_7cf53) = true := by decide +kernel
theorem pfJ9_max_7cf53 : plainFor (ab_nm iJ9_max_7cf53) = true := by decide +kernel
theorem pfJ9_min_7cf53 : plainFor (ab_nm iJ9_min_7cf53) = true := by decide +kernel
theorem pfL_law : plainFor (ab_nm iL_law) = true := by decide +kernel
