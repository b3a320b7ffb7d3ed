/-! ===== every method's list is its code; its words are there ===== -/
set_option maxRecDepth 100000 in
theorem omX0_init : ab_okM iX0_init ∧ ab_np iX0_init = some (ab_pn iX0_init) := ⟨⟨wd_793, wd_330, by decide +kernel, by decide +kernel, by decide +kernel⟩, by decide +kernel⟩
set_option maxRecDepth 100000 in
theorem omX0_change : ab_okM iX0_change ∧ ab_np iX0_change = some (ab_pn iX0_change) := ⟨⟨wd_794, wd_330, by decide +kernel, by decide +kernel, by decide +kernel⟩, by decide +kernel⟩
set_option maxRecDepth 100000 in
theorem omX0_focusCount : ab_okM iX0_focusCount ∧ ab_np iX0_focusCount = some (ab_pn iX0_focusCount) := ⟨⟨wd_795, wd_330, by decide +kernel, by decide +kernel, by decide +kernel⟩, by decide +kernel⟩
set_option maxRecDepth 100000 in
theorem omX0_changeWithin : ab_okM iX0_changeWithin ∧ ab_np iX0_changeWithin = some (ab_pn iX0_changeWithin) := ⟨⟨wd_796, wd_330, by decide +kernel, by decide +kernel, by decide +kernel⟩, by decide +kernel⟩
set_option maxRecDepth 100000 in
theorem omX0_changeFocus : ab_okM iX0_changeFocus ∧ ab_np iX0_changeFocus = some (ab_pn iX0_changeFocus) := ⟨⟨wd_797, wd_330, by decide +kernel, by decide +kernel, by decide +kernel⟩, by decide +kernel⟩
set_option maxRecDepth 100000 in
theorem omX0_changeOrder : ab_okM iX0_changeOrder ∧ ab_np iX0_changeOrder = some (ab_pn iX0_changeOrder) := ⟨⟨wd_798, wd_330, by decide +kernel, by decide +kernel, by decide +kernel⟩, by decide +kernel⟩
set_option maxRecDepth 100000 in
theorem omX0_makeNumberOf : ab_okM iX0_makeNumberOf ∧ ab_np iX0_makeNumberOf = some (ab_pn iX0_makeNumberOf) := ⟨⟨wd_799, wd_330, by decide +kernel, by decide +kernel, by decide +kernel⟩, by decide +kernel⟩
set_option maxRecDepth 100000 in
theorem omX0_make : ab_okM iX0_make ∧ ab_np iX0_make = some (ab_pn iX0_make) := ⟨⟨wd_800, wd_330, by decide +kernel, by decide +kernel, by decide +kernel⟩, by decide +kernel⟩
set_option maxRecDepth 100000 in
theorem omX0_makeAround : ab_okM iX0_makeAround ∧ ab_np iX0_makeAround = some (ab_pn iX0_makeAround) := ⟨⟨wd_801, wd_330, by decide +kernel, by decide +kernel, by decide +kernel⟩, by decide +kernel⟩
set_option maxRecDepth 100000 in
theorem omX0_mayMake : ab_okM iX0_mayMake ∧ ab_np iX0_mayMake = some (ab_pn iX0_mayMake) := ⟨⟨wd_802, wd_330, by decide +kernel, by decide +kernel, by decide +kernel⟩, by decide +kernel⟩
set_option maxRecDepth 100000 in
theorem omX0_justOne : ab_okM iX0_justOne ∧ ab_np iX0_justOne = some (ab_pn iX0_justOne) := ⟨⟨wd_803, wd_330, by decide +kernel, by decide +kernel, by decide +kernel⟩, by decide +kernel⟩
set_option maxRecDepth 100000 in
theorem omX0_reversed : ab_okM iX0_reversed ∧ ab_np iX0_reversed = some (ab_pn iX0_reversed) := ⟨⟨wd_804, wd_330, by decide +kernel, by decide +kernel, by decide +kernel⟩, by decide +kernel⟩
set_option maxRecDepth 100000 in
theorem omX0_turned : ab_okM iX0_turned ∧ ab_np iX0_turned = some (ab_pn iX0_turned) := ⟨⟨wd_805, wd_330, by decide +kernel, by decide +kernel, by decide +kernel⟩, by decide +kernel⟩
set_option maxRecDepth 100000 in
theorem omX0_sorted : ab_okM iX0_sorted ∧ ab_np iX0_sorted = some (ab_pn iX0_sorted) := ⟨⟨wd_806, wd_330, by decide +kernel, by decide +kernel, by decide +kernel⟩, by decide +kernel⟩
set_option maxRecDepth 100000 in
theorem omX1_init : ab_okM iX1_init ∧ ab_np iX1_init = some (ab_pn iX1_init) := ⟨⟨wd_807, wd_342, by decide +kernel, by decide +kernel, by decide +kernel⟩, by decide +kernel⟩
set_option maxRecDepth 100000 in
theorem omX1_find : ab_okM iX1_find ∧ ab_np iX1_find = some (ab_pn iX1_find) := ⟨⟨wd_808, wd_342, by decide +kernel, by decide +kernel, by decide +kernel⟩, by decide +kernel⟩
set_option maxRecDepth 100000 in
theorem omX1_findWithin : ab_okM iX1_findWithin ∧ ab_np iX1_findWithin = some (ab_pn iX1_findWithin) := ⟨⟨wd_809, wd_342, by decide +kernel, by decide +kernel, by decide +kernel⟩, by decide +kernel⟩
set_option maxRecDepth 100000 in
theorem omX1_add : ab_okM iX1_add ∧ ab_np iX1_add = some (ab_pn iX1_add) := ⟨⟨wd_810, wd_342, by decide +kernel, by decide +kernel, by decide +kernel⟩, by decide +kernel⟩
set_option maxRecDepth 100000 in
theorem omX1_size : ab_okM iX1_size ∧ ab_np iX1_size = some (ab_pn iX1_size) := ⟨⟨wd_811, wd_342, by decide +kernel, by decide +kernel, by decide +kernel⟩, by decide +kernel⟩
set_option maxRecDepth 100000 in
theorem omX1_place : ab_okM iX1_place ∧ ab_np iX1_place = some (ab_pn iX1_place) := ⟨⟨wd_812, wd_342, by decide +kernel, by decide +kernel, by decide +kernel⟩, by decide +kernel⟩
set_option maxRecDepth 100000 in
theorem omX2_init : ab_okM iX2_init ∧ ab_np iX2_init = some (ab_pn iX2_init) := ⟨⟨wd_813, wd_336, by decide +kernel, by decide +kernel, by decide +kernel⟩, by decide +kernel⟩
set_option maxRecDepth 100000 in
theorem omX2_find : ab_okM iX2_find ∧ ab_np iX2_find = some (ab_pn iX2_find) := ⟨⟨wd_814, wd_336, by decide +kernel, by decide +kernel, by decide +kernel⟩, by decide +kernel⟩
set_option maxRecDepth 100000 in
theorem omX2_findWithin : ab_okM iX2_findWithin ∧ ab_np iX2_findWithin = some (ab_pn iX2_findWithin) := ⟨⟨wd_815, wd_336, by decide +kernel, by decide +kernel, by decide +kernel⟩, by decide +kernel⟩
set_option maxRecDepth 100000 in
theorem omX2_add : ab_okM iX2_add ∧ ab_np iX2_add = some (ab_pn iX2_add) := ⟨⟨wd_816, wd_336, by decide +kernel, by decide +kernel, by decide +kernel⟩, by decide +kernel⟩
set_option maxRecDepth 100000 in
theorem omX2_size : ab_okM iX2_size ∧ ab_np iX2_size = some (ab_pn iX2_size) := ⟨⟨wd_817, wd_336, by decide +kernel, by decide +kernel, by decide +kernel⟩, by decide +kernel⟩
set_option maxRecDepth 100000 in
theorem omX2_isEmpty : ab_okM iX2_isEmpty ∧ ab_np iX2_isEmpty = some (ab_pn iX2_isEmpty) := ⟨⟨wd_818, wd_336, by decide +kernel, by decide +kernel, by decide +kernel⟩, by decide +kernel⟩
set_option maxRecDepth 100000 in
theorem omX2_at : ab_okM iX2_at ∧ ab_np iX2_at = some (ab_pn iX2_at) := ⟨⟨wd_819, wd_336, by decide +kernel, by decide +kernel, by decide +kernel⟩, by decide +kernel⟩
set_option maxRecDepth 100000 in
theorem omX2_sum : ab_okM iX2_sum ∧ ab_np iX2_sum = some (ab_pn iX2_sum) := ⟨⟨wd_820, wd_336, by decide +kernel, by decide +kernel, by decide +kernel⟩, by decide +kernel⟩
set_option maxRecDepth 100000 in
theorem omX2_numbersWithin : ab_okM iX2_numbersWithin ∧ ab_np iX2_numbersWithin = some (ab_pn iX2_numbersWithin) := ⟨⟨wd_821, wd_336, by decide +kernel, by decide +kernel, by decide +kernel⟩, by decide +kernel⟩
set_option maxRecDepth 100000 in
theorem omX2_greatest : ab_okM iX2_greatest ∧ ab_np iX2_greatest = some (ab_pn iX2_greatest) := ⟨⟨wd_822, wd_336, by decide +kernel, by decide +kernel, by decide +kernel⟩, by decide +kernel⟩
set_option maxRecDepth 100000 in
theorem omX2_least : ab_okM iX2_least ∧ ab_np iX2_least = some (ab_pn iX2_least) := ⟨⟨wd_823, wd_336, by decide +kernel, by decide +kernel, by decide +kernel⟩, by decide +kernel⟩
set_option maxRecDepth 100000 in
theorem omX2_unlike : ab_okM iX2_unlike ∧ ab_np iX2_unlike = some (ab_pn iX2_unlike) := ⟨⟨wd_824, wd_336, by decide +kernel, by decide +kernel, by decide +kernel⟩, by decide +kernel⟩
set_option maxRecDepth 100000 in
theorem omX2_isLikeOneAhead : ab_okM iX2_isLikeOneAhead ∧ ab_np iX2_isLikeOneAhead = some (ab_pn iX2_isLikeOneAhead) := ⟨⟨wd_825, wd_336, by decide +kernel, by decide +kernel, by decide +kernel⟩, by decide +kernel⟩
set_option maxRecDepth 100000 in
theorem omX2_height : ab_okM iX2_height ∧ ab_np iX2_height = some (ab_pn iX2_height) := ⟨⟨wd_826, wd_336, by decide +kernel, by decide +kernel, by decide +kernel⟩, by decide +kernel⟩
set_option maxRecDepth 100000 in
theorem omX2_nodes : ab_okM iX2_nodes ∧ ab_np iX2_nodes = some (ab_pn iX2_nodes) := ⟨⟨wd_827, wd_336, by decide +kernel, by decide +kernel, by decide +kernel⟩, by decide +kernel⟩
set_option maxRecDepth 100000 in
theorem omX2_areAllAlike : ab_okM iX2_areAllAlike ∧ ab_np iX2_areAllAlike = some (ab_pn iX2_areAllAlike) := ⟨⟨wd_828, wd_336, by decide +kernel, by decide +kernel, by decide +kernel⟩, by decide +kernel⟩
set_option maxRecDepth 100000 in
theorem omX2_sorted : ab_okM iX2_sorted ∧ ab_np iX2_sorted = some (ab_pn iX2_sorted) := ⟨⟨wd_829, wd_336, by decide +kernel, by decide +kernel, by decide +kernel⟩, by decide +kernel⟩
set_option maxRecDepth 100000 in
theorem omX2_isAhead : ab_okM iX2_isAhead ∧ ab_np iX2_isAhead = some (ab_pn iX2_isAhead) := ⟨⟨wd_830, wd_336, by decide +kernel, by decide +kernel, by decide +kernel⟩, by decide +kernel⟩
set_option maxRecDepth 100000 in
theorem omX3_init : ab_okM iX3_init ∧ ab_np iX3_init = some (ab_pn iX3_init) := ⟨⟨wd_831, wd_277, by decide +kernel, by decide +kernel, by decide +kernel⟩, by decide +kernel⟩
set_option maxRecDepth 100000 in
theorem omX3_add : ab_okM iX3_add ∧ ab_np iX3_add = some (ab_pn iX3_add) := ⟨⟨wd_832, wd_277, by decide +kernel, by decide +kernel, by decide +kernel⟩, by decide +kernel⟩
set_option maxRecDepth 100000 in
theorem omX3_hasKey : ab_okM iX3_hasKey ∧ ab_np iX3_hasKey = some (ab_pn iX3_hasKey) := ⟨⟨wd_833, wd_277, by decide +kernel, by decide +kernel, by decide +kernel⟩, by decide +kernel⟩
set_option maxRecDepth 100000 in
theorem omX3_putByKey : ab_okM iX3_putByKey ∧ ab_np iX3_putByKey = some (ab_pn iX3_putByKey) := ⟨⟨wd_834, wd_277, by decide +kernel, by decide +kernel, by decide +kernel⟩, by decide +kernel⟩
set_option maxRecDepth 100000 in
theorem omX3_together : ab_okM iX3_together ∧ ab_np iX3_together = some (ab_pn iX3_together) := ⟨⟨wd_835, wd_277, by decide +kernel, by decide +kernel, by decide +kernel⟩, by decide +kernel⟩
set_option maxRecDepth 100000 in
theorem omX3_placeOf : ab_okM iX3_placeOf ∧ ab_np iX3_placeOf = some (ab_pn iX3_placeOf) := ⟨⟨wd_836, wd_277, by decide +kernel, by decide +kernel, by decide +kernel⟩, by decide +kernel⟩
set_option maxRecDepth 100000 in
theorem omX3_insert : ab_okM iX3_insert ∧ ab_np iX3_insert = some (ab_pn iX3_insert) := ⟨⟨wd_837, wd_277, by decide +kernel, by decide +kernel, by decide +kernel⟩, by decide +kernel⟩
set_option maxRecDepth 100000 in
theorem omX4_init : ab_okM iX4_init ∧ ab_np iX4_init = some (ab_pn iX4_init) := ⟨⟨wd_838, wd_150, by decide +kernel, by decide +kernel, by decide +kernel⟩, by decide +kernel⟩
set_option maxRecDepth 100000 in
theorem omX4_size : ab_okM iX4_size ∧ ab_np iX4_size = some (ab_pn iX4_size) := ⟨⟨wd_839, wd_150, by decide +kernel, by decide +kernel, by decide +kernel⟩, by decide +kernel⟩
set_option maxRecDepth 100000 in
theorem omX4_goingOnBy : ab_okM iX4_goingOnBy ∧ ab_np iX4_goingOnBy = some (ab_pn iX4_goingOnBy) := ⟨⟨wd_840, wd_150, by decide +kernel, by decide +kernel, by decide +kernel⟩, by decide +kernel⟩
set_option maxRecDepth 100000 in
theorem omX4_keeps : ab_okM iX4_keeps ∧ ab_np iX4_keeps = some (ab_pn iX4_keeps) := ⟨⟨wd_841, wd_150, by decide +kernel, by decide +kernel, by decide +kernel⟩, by decide +kernel⟩
set_option maxRecDepth 100000 in
theorem omX4_enters : ab_okM iX4_enters ∧ ab_np iX4_enters = some (ab_pn iX4_enters) := ⟨⟨wd_842, wd_150, by decide +kernel, by decide +kernel, by decide +kernel⟩, by decide +kernel⟩
set_option maxRecDepth 100000 in
theorem omX4_stepWithin : ab_okM iX4_stepWithin ∧ ab_np iX4_stepWithin = some (ab_pn iX4_stepWithin) := ⟨⟨wd_843, wd_150, by decide +kernel, by decide +kernel, by decide +kernel⟩, by decide +kernel⟩
set_option maxRecDepth 100000 in
theorem omX4_sign : ab_okM iX4_sign ∧ ab_np iX4_sign = some (ab_pn iX4_sign) := ⟨⟨wd_844, wd_150, by decide +kernel, by decide +kernel, by decide +kernel⟩, by decide +kernel⟩
set_option maxRecDepth 100000 in
theorem omX4_word : ab_okM iX4_word ∧ ab_np iX4_word = some (ab_pn iX4_word) := ⟨⟨wd_845, wd_150, by decide +kernel, by decide +kernel, by decide +kernel⟩, by decide +kernel⟩
set_option maxRecDepth 100000 in
theorem omX5_init : ab_okM iX5_init ∧ ab_np iX5_init = some (ab_pn iX5_init) := ⟨⟨wd_846, wd_312, by decide +kernel, by decide +kernel, by decide +kernel⟩, by decide +kernel⟩
set_option maxRecDepth 100000 in
theorem omX5_readWhole : ab_okM iX5_readWhole ∧ ab_np iX5_readWhole = some (ab_pn iX5_readWhole) := ⟨⟨wd_847, wd_312, by decide +kernel, by decide +kernel, by decide +kernel⟩, by decide +kernel⟩
set_option maxRecDepth 100000 in
theorem omX5_readStep : ab_okM iX5_readStep ∧ ab_np iX5_readStep = some (ab_pn iX5_readStep) := ⟨⟨wd_848, wd_312, by decide +kernel, by decide +kernel, by decide +kernel⟩, by decide +kernel⟩
set_option maxRecDepth 100000 in
theorem omX5_readSide : ab_okM iX5_readSide ∧ ab_np iX5_readSide = some (ab_pn iX5_readSide) := ⟨⟨wd_849, wd_312, by decide +kernel, by decide +kernel, by decide +kernel⟩, by decide +kernel⟩
set_option maxRecDepth 100000 in
theorem omX5_closed : ab_okM iX5_closed ∧ ab_np iX5_closed = some (ab_pn iX5_closed) := ⟨⟨wd_850, wd_312, by decide +kernel, by decide +kernel, by decide +kernel⟩, by decide +kernel⟩
set_option maxRecDepth 100000 in
theorem omX5_firstOf : ab_okM iX5_firstOf ∧ ab_np iX5_firstOf = some (ab_pn iX5_firstOf) := ⟨⟨wd_851, wd_312, by decide +kernel, by decide +kernel, by decide +kernel⟩, by decide +kernel⟩
set_option maxRecDepth 100000 in
theorem omX6_init : ab_okM iX6_init ∧ ab_np iX6_init = some (ab_pn iX6_init) := ⟨⟨wd_852, wd_351, by decide +kernel, by decide +kernel, by decide +kernel⟩, by decide +kernel⟩
set_option maxRecDepth 100000 in
theorem omX6_held : ab_okM iX6_held ∧ ab_np iX6_held = some (ab_pn iX6_held) := ⟨⟨wd_853, wd_351, by decide +kernel, by decide +kernel, by decide +kernel⟩, by decide +kernel⟩
set_option maxRecDepth 100000 in
theorem omX6_oldCount : ab_okM iX6_oldCount ∧ ab_np iX6_oldCount = some (ab_pn iX6_oldCount) := ⟨⟨wd_854, wd_351, by decide +kernel, by decide +kernel, by decide +kernel⟩, by decide +kernel⟩
set_option maxRecDepth 100000 in
theorem omX6_become : ab_okM iX6_become ∧ ab_np iX6_become = some (ab_pn iX6_become) := ⟨⟨wd_855, wd_351, by decide +kernel, by decide +kernel, by decide +kernel⟩, by decide +kernel⟩
set_option maxRecDepth 100000 in
theorem omX6_becomeLastOld : ab_okM iX6_becomeLastOld ∧ ab_np iX6_becomeLastOld = some (ab_pn iX6_becomeLastOld) := ⟨⟨wd_856, wd_351, by decide +kernel, by decide +kernel, by decide +kernel⟩, by decide +kernel⟩
set_option maxRecDepth 100000 in
theorem omX6_restart : ab_okM iX6_restart ∧ ab_np iX6_restart = some (ab_pn iX6_restart) := ⟨⟨wd_857, wd_351, by decide +kernel, by decide +kernel, by decide +kernel⟩, by decide +kernel⟩
set_option maxRecDepth 100000 in
theorem omX7_init : ab_okM iX7_init ∧ ab_np iX7_init = some (ab_pn iX7_init) := ⟨⟨wd_858, wd_324, by decide +kernel, by decide +kernel, by decide +kernel⟩, by decide +kernel⟩
set_option maxRecDepth 100000 in
theorem omX7_sum : ab_okM iX7_sum ∧ ab_np iX7_sum = some (ab_pn iX7_sum) := ⟨⟨wd_859, wd_324, by decide +kernel, by decide +kernel, by decide +kernel⟩, by decide +kernel⟩
set_option maxRecDepth 100000 in
theorem omX7_hasRoomFor : ab_okM iX7_hasRoomFor ∧ ab_np iX7_hasRoomFor = some (ab_pn iX7_hasRoomFor) := ⟨⟨wd_860, wd_324, by decide +kernel, by decide +kernel, by decide +kernel⟩, by decide +kernel⟩
set_option maxRecDepth 100000 in
theorem omX7_adds : ab_okM iX7_adds ∧ ab_np iX7_adds = some (ab_pn iX7_adds) := ⟨⟨wd_861, wd_324, by decide +kernel, by decide +kernel, by decide +kernel⟩, by decide +kernel⟩
set_option maxRecDepth 100000 in
theorem omX8_init : ab_okM iX8_init ∧ ab_np iX8_init = some (ab_pn iX8_init) := ⟨⟨wd_862, wd_300, by decide +kernel, by decide +kernel, by decide +kernel⟩, by decide +kernel⟩
set_option maxRecDepth 100000 in
theorem omX8_size : ab_okM iX8_size ∧ ab_np iX8_size = some (ab_pn iX8_size) := ⟨⟨wd_863, wd_300, by decide +kernel, by decide +kernel, by decide +kernel⟩, by decide +kernel⟩
set_option maxRecDepth 100000 in
theorem omX8_add : ab_okM iX8_add ∧ ab_np iX8_add = some (ab_pn iX8_add) := ⟨⟨wd_864, wd_300, by decide +kernel, by decide +kernel, by decide +kernel⟩, by decide +kernel⟩
set_option maxRecDepth 100000 in
theorem omX8_clear : ab_okM iX8_clear ∧ ab_np iX8_clear = some (ab_pn iX8_clear) := ⟨⟨wd_865, wd_300, by decide +kernel, by decide +kernel, by decide +kernel⟩, by decide +kernel⟩
set_option maxRecDepth 100000 in
theorem omX8_rewind : ab_okM iX8_rewind ∧ ab_np iX8_rewind = some (ab_pn iX8_rewind) := ⟨⟨wd_866, wd_300, by decide +kernel, by decide +kernel, by decide +kernel⟩, by decide +kernel⟩
set_option maxRecDepth 100000 in
theorem omX8_at : ab_okM iX8_at ∧ ab_np iX8_at = some (ab_pn iX8_at) := ⟨⟨wd_867, wd_300, by decide +kernel, by decide +kernel, by decide +kernel⟩, by decide +kernel⟩
set_option maxRecDepth 100000 in
theorem omX8_fault : ab_okM iX8_fault ∧ ab_np iX8_fault = some (ab_pn iX8_fault) := ⟨⟨wd_868, wd_300, by decide +kernel, by decide +kernel, by decide +kernel⟩, by decide +kernel⟩
set_option maxRecDepth 100000 in
theorem omX8_isFaulty : ab_okM iX8_isFaulty ∧ ab_np iX8_isFaulty = some (ab_pn iX8_isFaulty) := ⟨⟨wd_869, wd_300, by decide +kernel, by decide +kernel, by decide +kernel⟩, by decide +kernel⟩
set_option maxRecDepth 100000 in
theorem omX8_isAtEnd : ab_okM iX8_isAtEnd ∧ ab_np iX8_isAtEnd = some (ab_pn iX8_isAtEnd) := ⟨⟨wd_870, wd_300, by decide +kernel, by decide +kernel, by decide +kernel⟩, by decide +kernel⟩
set_option maxRecDepth 100000 in
theorem omX8_fail : ab_okM iX8_fail ∧ ab_np iX8_fail = some (ab_pn iX8_fail) := ⟨⟨wd_871, wd_300, by decide +kernel, by decide +kernel, by decide +kernel⟩, by decide +kernel⟩
set_option maxRecDepth 100000 in
theorem omX8_next : ab_okM iX8_next ∧ ab_np iX8_next = some (ab_pn iX8_next) := ⟨⟨wd_872, wd_300, by decide +kernel, by decide +kernel, by decide +kernel⟩, by decide +kernel⟩
set_option maxRecDepth 100000 in
theorem omX8_step : ab_okM iX8_step ∧ ab_np iX8_step = some (ab_pn iX8_step) := ⟨⟨wd_873, wd_300, by decide +kernel, by decide +kernel, by decide +kernel⟩, by decide +kernel⟩
set_option maxRecDepth 100000 in
theorem omX8_takes : ab_okM iX8_takes ∧ ab_np iX8_takes = some (ab_pn iX8_takes) := ⟨⟨wd_874, wd_300, by decide +kernel, by decide +kernel, by decide +kernel⟩, by decide +kernel⟩
set_option maxRecDepth 100000 in
theorem omX8_needs : ab_okM iX8_needs ∧ ab_np iX8_needs = some (ab_pn iX8_needs) := ⟨⟨wd_875, wd_300, by decide +kernel, by decide +kernel, by decide +kernel⟩, by decide +kernel⟩
set_option maxRecDepth 100000 in
theorem omX8_digits : ab_okM iX8_digits ∧ ab_np iX8_digits = some (ab_pn iX8_digits) := ⟨⟨wd_876, wd_300, by decide +kernel, by decide +kernel, by decide +kernel⟩, by decide +kernel⟩
set_option maxRecDepth 100000 in
theorem omX8_signedNumber : ab_okM iX8_signedNumber ∧ ab_np iX8_signedNumber = some (ab_pn iX8_signedNumber) := ⟨⟨wd_877, wd_300, by decide +kernel, by decide +kernel, by decide +kernel⟩, by decide +kernel⟩
set_option maxRecDepth 100000 in
theorem omX8_letters : ab_okM iX8_letters ∧ ab_np iX8_letters = some (ab_pn iX8_letters) := ⟨⟨wd_878, wd_300, by decide +kernel, by decide +kernel, by decide +kernel⟩, by decide +kernel⟩
set_option maxRecDepth 100000 in
theorem omX9_init : ab_okM iX9_init ∧ ab_np iX9_init = some (ab_pn iX9_init) := ⟨⟨wd_879, wd_65, by decide +kernel, by decide +kernel, by decide +kernel⟩, by decide +kernel⟩
set_option maxRecDepth 100000 in
theorem omX9_size : ab_okM iX9_size ∧ ab_np iX9_size = some (ab_pn iX9_size) := ⟨⟨wd_880, wd_65, by decide +kernel, by decide +kernel, by decide +kernel⟩, by decide +kernel⟩
set_option maxRecDepth 100000 in
theorem omX9_part : ab_okM iX9_part ∧ ab_np iX9_part = some (ab_pn iX9_part) := ⟨⟨wd_881, wd_65, by decide +kernel, by decide +kernel, by decide +kernel⟩, by decide +kernel⟩
set_option maxRecDepth 100000 in
theorem omX9_copyOfParts : ab_okM iX9_copyOfParts ∧ ab_np iX9_copyOfParts = some (ab_pn iX9_copyOfParts) := ⟨⟨wd_882, wd_65, by decide +kernel, by decide +kernel, by decide +kernel⟩, by decide +kernel⟩
set_option maxRecDepth 100000 in
theorem omX9_letters : ab_okM iX9_letters ∧ ab_np iX9_letters = some (ab_pn iX9_letters) := ⟨⟨wd_883, wd_65, by decide +kernel, by decide +kernel, by decide +kernel⟩, by decide +kernel⟩
set_option maxRecDepth 100000 in
theorem omX9_isTooMuch : ab_okM iX9_isTooMuch ∧ ab_np iX9_isTooMuch = some (ab_pn iX9_isTooMuch) := ⟨⟨wd_884, wd_65, by decide +kernel, by decide +kernel, by decide +kernel⟩, by decide +kernel⟩
set_option maxRecDepth 100000 in
theorem omX9_isFramedLike : ab_okM iX9_isFramedLike ∧ ab_np iX9_isFramedLike = some (ab_pn iX9_isFramedLike) := ⟨⟨wd_885, wd_65, by decide +kernel, by decide +kernel, by decide +kernel⟩, by decide +kernel⟩
set_option maxRecDepth 100000 in
theorem omX9_areAlike : ab_okM iX9_areAlike ∧ ab_np iX9_areAlike = some (ab_pn iX9_areAlike) := ⟨⟨wd_886, wd_65, by decide +kernel, by decide +kernel, by decide +kernel⟩, by decide +kernel⟩
set_option maxRecDepth 100000 in
theorem omX9_compare : ab_okM iX9_compare ∧ ab_np iX9_compare = some (ab_pn iX9_compare) := ⟨⟨wd_887, wd_65, by decide +kernel, by decide +kernel, by decide +kernel⟩, by decide +kernel⟩
set_option maxRecDepth 100000 in
theorem omX9_holds : ab_okM iX9_holds ∧ ab_np iX9_holds = some (ab_pn iX9_holds) := ⟨⟨wd_888, wd_65, by decide +kernel, by decide +kernel, by decide +kernel⟩, by decide +kernel⟩
set_option maxRecDepth 100000 in
theorem omX10_init : ab_okM iX10_init ∧ ab_np iX10_init = some (ab_pn iX10_init) := ⟨⟨wd_889, wd_306, by decide +kernel, by decide +kernel, by decide +kernel⟩, by decide +kernel⟩
set_option maxRecDepth 100000 in
theorem omX10_readWhole : ab_okM iX10_readWhole ∧ ab_np iX10_readWhole = some (ab_pn iX10_readWhole) := ⟨⟨wd_890, wd_306, by decide +kernel, by decide +kernel, by decide +kernel⟩, by decide +kernel⟩
set_option maxRecDepth 100000 in
theorem omX10_readOne : ab_okM iX10_readOne ∧ ab_np iX10_readOne = some (ab_pn iX10_readOne) := ⟨⟨wd_891, wd_306, by decide +kernel, by decide +kernel, by decide +kernel⟩, by decide +kernel⟩
set_option maxRecDepth 100000 in
theorem omX10_readPair : ab_okM iX10_readPair ∧ ab_np iX10_readPair = some (ab_pn iX10_readPair) := ⟨⟨wd_892, wd_306, by decide +kernel, by decide +kernel, by decide +kernel⟩, by decide +kernel⟩
set_option maxRecDepth 100000 in
theorem omX10_readTagged : ab_okM iX10_readTagged ∧ ab_np iX10_readTagged = some (ab_pn iX10_readTagged) := ⟨⟨wd_893, wd_306, by decide +kernel, by decide +kernel, by decide +kernel⟩, by decide +kernel⟩
set_option maxRecDepth 100000 in
theorem omX10_readMany : ab_okM iX10_readMany ∧ ab_np iX10_readMany = some (ab_pn iX10_readMany) := ⟨⟨wd_894, wd_306, by decide +kernel, by decide +kernel, by decide +kernel⟩, by decide +kernel⟩
set_option maxRecDepth 100000 in
theorem omX10_readNewKey : ab_okM iX10_readNewKey ∧ ab_np iX10_readNewKey = some (ab_pn iX10_readNewKey) := ⟨⟨wd_895, wd_306, by decide +kernel, by decide +kernel, by decide +kernel⟩, by decide +kernel⟩
set_option maxRecDepth 100000 in
theorem omX11_init : ab_okM iX11_init ∧ ab_np iX11_init = some (ab_pn iX11_init) := ⟨⟨wd_896, wd_671, by decide +kernel, by decide +kernel, by decide +kernel⟩, by decide +kernel⟩
set_option maxRecDepth 100000 in
theorem omX11_feed : ab_okM iX11_feed ∧ ab_np iX11_feed = some (ab_pn iX11_feed) := ⟨⟨wd_897, wd_671, by decide +kernel, by decide +kernel, by decide +kernel⟩, by decide +kernel⟩
set_option maxRecDepth 100000 in
theorem omX11_thing : ab_okM iX11_thing ∧ ab_np iX11_thing = some (ab_pn iX11_thing) := ⟨⟨wd_898, wd_671, by decide +kernel, by decide +kernel, by decide +kernel⟩, by decide +kernel⟩
set_option maxRecDepth 100000 in
theorem omX11_path : ab_okM iX11_path ∧ ab_np iX11_path = some (ab_pn iX11_path) := ⟨⟨wd_899, wd_671, by decide +kernel, by decide +kernel, by decide +kernel⟩, by decide +kernel⟩
set_option maxRecDepth 100000 in
theorem omX11_join : ab_okM iX11_join ∧ ab_np iX11_join = some (ab_pn iX11_join) := ⟨⟨wd_900, wd_671, by decide +kernel, by decide +kernel, by decide +kernel⟩, by decide +kernel⟩
set_option maxRecDepth 100000 in
theorem omX11_over : ab_okM iX11_over ∧ ab_np iX11_over = some (ab_pn iX11_over) := ⟨⟨wd_901, wd_671, by decide +kernel, by decide +kernel, by decide +kernel⟩, by decide +kernel⟩
set_option maxRecDepth 100000 in
theorem omX11_put : ab_okM iX11_put ∧ ab_np iX11_put = some (ab_pn iX11_put) := ⟨⟨wd_902, wd_671, by decide +kernel, by decide +kernel, by decide +kernel⟩, by decide +kernel⟩
set_option maxRecDepth 100000 in
theorem omX11_take : ab_okM iX11_take ∧ ab_np iX11_take = some (ab_pn iX11_take) := ⟨⟨wd_903, wd_671, by decide +kernel, by decide +kernel, by decide +kernel⟩, by decide +kernel⟩
set_option maxRecDepth 100000 in
theorem omX11_undo : ab_okM iX11_undo ∧ ab_np iX11_undo = some (ab_pn iX11_undo) := ⟨⟨wd_904, wd_671, by decide +kernel, by decide +kernel, by decide +kernel⟩, by decide +kernel⟩
set_option maxRecDepth 100000 in
theorem omX11_look : ab_okM iX11_look ∧ ab_np iX11_look = some (ab_pn iX11_look) := ⟨⟨wd_905, wd_671, by decide +kernel, by decide +kernel, by decide +kernel⟩, by decide +kernel⟩
set_option maxRecDepth 100000 in
theorem omX11_key : ab_okM iX11_key ∧ ab_np iX11_key = some (ab_pn iX11_key) := ⟨⟨wd_906, wd_671, by decide +kernel, by decide +kernel, by decide +kernel⟩, by decide +kernel⟩
set_option maxRecDepth 100000 in
theorem omX11_fold : ab_okM iX11_fold ∧ ab_np iX11_fold = some (ab_pn iX11_fold) := ⟨⟨wd_907, wd_671, by decide +kernel, by decide +kernel, by decide +kernel⟩, by decide +kernel⟩
set_option maxRecDepth 100000 in
theorem omX11_best : ab_okM iX11_best ∧ ab_np iX11_best = some (ab_pn iX11_best) := ⟨⟨wd_908, wd_671, by decide +kernel, by decide +kernel, by decide +kernel⟩, by decide +kernel⟩
set_option maxRecDepth 100000 in
theorem omX11_order : ab_okM iX11_order ∧ ab_np iX11_order = some (ab_pn iX11_order) := ⟨⟨wd_909, wd_671, by decide +kernel, by decide +kernel, by decide +kernel⟩, by decide +kernel⟩
set_option maxRecDepth 100000 in
theorem omX11_shared : ab_okM iX11_shared ∧ ab_np iX11_shared = some (ab_pn iX11_shared) := ⟨⟨wd_910, wd_671, by decide +kernel, by decide +kernel, by decide +kernel⟩, by decide +kernel⟩
set_option maxRecDepth 100000 in
theorem omX11_differ : ab_okM iX11_differ ∧ ab_np iX11_differ = some (ab_pn iX11_differ) := ⟨⟨wd_911, wd_671, by decide +kernel, by decide +kernel, by decide +kernel⟩, by decide +kernel⟩
set_option maxRecDepth 100000 in
theorem omX11_fit : ab_okM iX11_fit ∧ ab_np iX11_fit = some (ab_pn iX11_fit) := ⟨⟨wd_912, wd_671, by decide +kernel, by decide +kernel, by decide +kernel⟩, by decide +kernel⟩
set_option maxRecDepth 100000 in
theorem omX11_image : ab_okM iX11_image ∧ ab_np iX11_image = some (ab_pn iX11_image) := ⟨⟨wd_913, wd_671, by decide +kernel, by decide +kernel, by decide +kernel⟩, by decide +kernel⟩
set_option maxRecDepth 100000 in
theorem omX11_back : ab_okM iX11_back ∧ ab_np iX11_back = some (ab_pn iX11_back) := ⟨⟨wd_914, wd_671, by decide +kernel, by decide +kernel, by decide +kernel⟩, by decide +kernel⟩
set_option maxRecDepth 100000 in
theorem omX11_count : ab_okM iX11_count ∧ ab_np iX11_count = some (ab_pn iX11_count) := ⟨⟨wd_915, wd_671, by decide +kernel, by decide +kernel, by decide +kernel⟩, by decide +kernel⟩
set_option maxRecDepth 100000 in
theorem omX11_isShelf : ab_okM iX11_isShelf ∧ ab_np iX11_isShelf = some (ab_pn iX11_isShelf) := ⟨⟨wd_916, wd_671, by decide +kernel, by decide +kernel, by decide +kernel⟩, by decide +kernel⟩
set_option maxRecDepth 100000 in
theorem omX11_isPath : ab_okM iX11_isPath ∧ ab_np iX11_isPath = some (ab_pn iX11_isPath) := ⟨⟨wd_917, wd_671, by decide +kernel, by decide +kernel, by decide +kernel⟩, by decide +kernel⟩
set_option maxRecDepth 100000 in
theorem omX11_isHow : ab_okM iX11_isHow ∧ ab_np iX11_isHow = some (ab_pn iX11_isHow) := ⟨⟨wd_918, wd_671, by decide +kernel, by decide +kernel, by decide +kernel⟩, by decide +kernel⟩
set_option maxRecDepth 100000 in
theorem omX11_held : ab_okM iX11_held ∧ ab_np iX11_held = some (ab_pn iX11_held) := ⟨⟨wd_919, wd_671, by decide +kernel, by decide +kernel, by decide +kernel⟩, by decide +kernel⟩
set_option maxRecDepth 100000 in
theorem omX11_focusAt : ab_okM iX11_focusAt ∧ ab_np iX11_focusAt = some (ab_pn iX11_focusAt) := ⟨⟨wd_920, wd_671, by decide +kernel, by decide +kernel, by decide +kernel⟩, by decide +kernel⟩
set_option maxRecDepth 100000 in
theorem omX11_allNodes : ab_okM iX11_allNodes ∧ ab_np iX11_allNodes = some (ab_pn iX11_allNodes) := ⟨⟨wd_921, wd_671, by decide +kernel, by decide +kernel, by decide +kernel⟩, by decide +kernel⟩
set_option maxRecDepth 100000 in
theorem omX11_ofTwo : ab_okM iX11_ofTwo ∧ ab_np iX11_ofTwo = some (ab_pn iX11_ofTwo) := ⟨⟨wd_922, wd_671, by decide +kernel, by decide +kernel, by decide +kernel⟩, by decide +kernel⟩
set_option maxRecDepth 100000 in
theorem omX11_withKey : ab_okM iX11_withKey ∧ ab_np iX11_withKey = some (ab_pn iX11_withKey) := ⟨⟨wd_923, wd_671, by decide +kernel, by decide +kernel, by decide +kernel⟩, by decide +kernel⟩
set_option maxRecDepth 100000 in
theorem omX11_sharedNodes : ab_okM iX11_sharedNodes ∧ ab_np iX11_sharedNodes = some (ab_pn iX11_sharedNodes) := ⟨⟨wd_924, wd_671, by decide +kernel, by decide +kernel, by decide +kernel⟩, by decide +kernel⟩
set_option maxRecDepth 100000 in
theorem omX12_init : ab_okM iX12_init ∧ ab_np iX12_init = some (ab_pn iX12_init) := ⟨⟨wd_925, wd_676, by decide +kernel, by decide +kernel, by decide +kernel⟩, by decide +kernel⟩
set_option maxRecDepth 100000 in
theorem omX12_in : ab_okM iX12_in ∧ ab_np iX12_in = some (ab_pn iX12_in) := ⟨⟨wd_926, wd_676, by decide +kernel, by decide +kernel, by decide +kernel⟩, by decide +kernel⟩
set_option maxRecDepth 100000 in
theorem omX12_isShelf : ab_okM iX12_isShelf ∧ ab_np iX12_isShelf = some (ab_pn iX12_isShelf) := ⟨⟨wd_927, wd_676, by decide +kernel, by decide +kernel, by decide +kernel⟩, by decide +kernel⟩
set_option maxRecDepth 100000 in
theorem omX12_isPath : ab_okM iX12_isPath ∧ ab_np iX12_isPath = some (ab_pn iX12_isPath) := ⟨⟨wd_928, wd_676, by decide +kernel, by decide +kernel, by decide +kernel⟩, by decide +kernel⟩
set_option maxRecDepth 100000 in
theorem omX12_begins : ab_okM iX12_begins ∧ ab_np iX12_begins = some (ab_pn iX12_begins) := ⟨⟨wd_929, wd_676, by decide +kernel, by decide +kernel, by decide +kernel⟩, by decide +kernel⟩
set_option maxRecDepth 100000 in
theorem omX12_ends : ab_okM iX12_ends ∧ ab_np iX12_ends = some (ab_pn iX12_ends) := ⟨⟨wd_930, wd_676, by decide +kernel, by decide +kernel, by decide +kernel⟩, by decide +kernel⟩
set_option maxRecDepth 100000 in
theorem omX12_number : ab_okM iX12_number ∧ ab_np iX12_number = some (ab_pn iX12_number) := ⟨⟨wd_931, wd_676, by decide +kernel, by decide +kernel, by decide +kernel⟩, by decide +kernel⟩
set_option maxRecDepth 100000 in
theorem omX12_isFull : ab_okM iX12_isFull ∧ ab_np iX12_isFull = some (ab_pn iX12_isFull) := ⟨⟨wd_932, wd_676, by decide +kernel, by decide +kernel, by decide +kernel⟩, by decide +kernel⟩
set_option maxRecDepth 100000 in
theorem omX12_compared : ab_okM iX12_compared ∧ ab_np iX12_compared = some (ab_pn iX12_compared) := ⟨⟨wd_933, wd_676, by decide +kernel, by decide +kernel, by decide +kernel⟩, by decide +kernel⟩
set_option maxRecDepth 100000 in
theorem omX12_becomes : ab_okM iX12_becomes ∧ ab_np iX12_becomes = some (ab_pn iX12_becomes) := ⟨⟨wd_934, wd_676, by decide +kernel, by decide +kernel, by decide +kernel⟩, by decide +kernel⟩
set_option maxRecDepth 100000 in
theorem omX12_feed : ab_okM iX12_feed ∧ ab_np iX12_feed = some (ab_pn iX12_feed) := ⟨⟨wd_935, wd_676, by decide +kernel, by decide +kernel, by decide +kernel⟩, by decide +kernel⟩
set_option maxRecDepth 100000 in
theorem omX12_here : ab_okM iX12_here ∧ ab_np iX12_here = some (ab_pn iX12_here) := ⟨⟨wd_936, wd_676, by decide +kernel, by decide +kernel, by decide +kernel⟩, by decide +kernel⟩
set_option maxRecDepth 100000 in
theorem omX12_fails : ab_okM iX12_fails ∧ ab_np iX12_fails = some (ab_pn iX12_fails) := ⟨⟨wd_937, wd_676, by decide +kernel, by decide +kernel, by decide +kernel⟩, by decide +kernel⟩
set_option maxRecDepth 100000 in
theorem omX12_isFault : ab_okM iX12_isFault ∧ ab_np iX12_isFault = some (ab_pn iX12_isFault) := ⟨⟨wd_938, wd_676, by decide +kernel, by decide +kernel, by decide +kernel⟩, by decide +kernel⟩
set_option maxRecDepth 100000 in
theorem omX12_one : ab_okM iX12_one ∧ ab_np iX12_one = some (ab_pn iX12_one) := ⟨⟨wd_939, wd_676, by decide +kernel, by decide +kernel, by decide +kernel⟩, by decide +kernel⟩
set_option maxRecDepth 100000 in
theorem omX12_isHere : ab_okM iX12_isHere ∧ ab_np iX12_isHere = some (ab_pn iX12_isHere) := ⟨⟨wd_940, wd_676, by decide +kernel, by decide +kernel, by decide +kernel⟩, by decide +kernel⟩
set_option maxRecDepth 100000 in
theorem omX12_digits : ab_okM iX12_digits ∧ ab_np iX12_digits = some (ab_pn iX12_digits) := ⟨⟨wd_941, wd_676, by decide +kernel, by decide +kernel, by decide +kernel⟩, by decide +kernel⟩
set_option maxRecDepth 100000 in
theorem omX12_signed : ab_okM iX12_signed ∧ ab_np iX12_signed = some (ab_pn iX12_signed) := ⟨⟨wd_942, wd_676, by decide +kernel, by decide +kernel, by decide +kernel⟩, by decide +kernel⟩
set_option maxRecDepth 100000 in
theorem omX12_letters : ab_okM iX12_letters ∧ ab_np iX12_letters = some (ab_pn iX12_letters) := ⟨⟨wd_943, wd_676, by decide +kernel, by decide +kernel, by decide +kernel⟩, by decide +kernel⟩
set_option maxRecDepth 100000 in
theorem omX12_adds : ab_okM iX12_adds ∧ ab_np iX12_adds = some (ab_pn iX12_adds) := ⟨⟨wd_944, wd_676, by decide +kernel, by decide +kernel, by decide +kernel⟩, by decide +kernel⟩
set_option maxRecDepth 100000 in
theorem omX12_puts : ab_okM iX12_puts ∧ ab_np iX12_puts = some (ab_pn iX12_puts) := ⟨⟨wd_945, wd_676, by decide +kernel, by decide +kernel, by decide +kernel⟩, by decide +kernel⟩
set_option maxRecDepth 100000 in
theorem omX12_hasKey : ab_okM iX12_hasKey ∧ ab_np iX12_hasKey = some (ab_pn iX12_hasKey) := ⟨⟨wd_946, wd_676, by decide +kernel, by decide +kernel, by decide +kernel⟩, by decide +kernel⟩
set_option maxRecDepth 100000 in
theorem omX12_readsEntry : ab_okM iX12_readsEntry ∧ ab_np iX12_readsEntry = some (ab_pn iX12_readsEntry) := ⟨⟨wd_947, wd_676, by decide +kernel, by decide +kernel, by decide +kernel⟩, by decide +kernel⟩
set_option maxRecDepth 100000 in
theorem omX12_readsAll : ab_okM iX12_readsAll ∧ ab_np iX12_readsAll = some (ab_pn iX12_readsAll) := ⟨⟨wd_948, wd_676, by decide +kernel, by decide +kernel, by decide +kernel⟩, by decide +kernel⟩
set_option maxRecDepth 100000 in
theorem omX12_reads : ab_okM iX12_reads ∧ ab_np iX12_reads = some (ab_pn iX12_reads) := ⟨⟨wd_949, wd_676, by decide +kernel, by decide +kernel, by decide +kernel⟩, by decide +kernel⟩
set_option maxRecDepth 100000 in
theorem omX12_thing : ab_okM iX12_thing ∧ ab_np iX12_thing = some (ab_pn iX12_thing) := ⟨⟨wd_950, wd_676, by decide +kernel, by decide +kernel, by decide +kernel⟩, by decide +kernel⟩
set_option maxRecDepth 100000 in
theorem omX12_readsStep : ab_okM iX12_readsStep ∧ ab_np iX12_readsStep = some (ab_pn iX12_readsStep) := ⟨⟨wd_951, wd_676, by decide +kernel, by decide +kernel, by decide +kernel⟩, by decide +kernel⟩
set_option maxRecDepth 100000 in
theorem omX12_path : ab_okM iX12_path ∧ ab_np iX12_path = some (ab_pn iX12_path) := ⟨⟨wd_952, wd_676, by decide +kernel, by decide +kernel, by decide +kernel⟩, by decide +kernel⟩
set_option maxRecDepth 100000 in
theorem omX12_join : ab_okM iX12_join ∧ ab_np iX12_join = some (ab_pn iX12_join) := ⟨⟨wd_953, wd_676, by decide +kernel, by decide +kernel, by decide +kernel⟩, by decide +kernel⟩
set_option maxRecDepth 100000 in
theorem omX12_isItself : ab_okM iX12_isItself ∧ ab_np iX12_isItself = some (ab_pn iX12_isItself) := ⟨⟨wd_954, wd_676, by decide +kernel, by decide +kernel, by decide +kernel⟩, by decide +kernel⟩
set_option maxRecDepth 100000 in
theorem omX12_isPart : ab_okM iX12_isPart ∧ ab_np iX12_isPart = some (ab_pn iX12_isPart) := ⟨⟨wd_955, wd_676, by decide +kernel, by decide +kernel, by decide +kernel⟩, by decide +kernel⟩
set_option maxRecDepth 100000 in
theorem omX12_nextStep : ab_okM iX12_nextStep ∧ ab_np iX12_nextStep = some (ab_pn iX12_nextStep) := ⟨⟨wd_956, wd_676, by decide +kernel, by decide +kernel, by decide +kernel⟩, by decide +kernel⟩
set_option maxRecDepth 100000 in
theorem omX12_goes : ab_okM iX12_goes ∧ ab_np iX12_goes = some (ab_pn iX12_goes) := ⟨⟨wd_957, wd_676, by decide +kernel, by decide +kernel, by decide +kernel⟩, by decide +kernel⟩
set_option maxRecDepth 100000 in
theorem omX12_looksFor : ab_okM iX12_looksFor ∧ ab_np iX12_looksFor = some (ab_pn iX12_looksFor) := ⟨⟨wd_958, wd_676, by decide +kernel, by decide +kernel, by decide +kernel⟩, by decide +kernel⟩
set_option maxRecDepth 100000 in
theorem omX12_makes : ab_okM iX12_makes ∧ ab_np iX12_makes = some (ab_pn iX12_makes) := ⟨⟨wd_959, wd_676, by decide +kernel, by decide +kernel, by decide +kernel⟩, by decide +kernel⟩
set_option maxRecDepth 100000 in
theorem omX12_numbered : ab_okM iX12_numbered ∧ ab_np iX12_numbered = some (ab_pn iX12_numbered) := ⟨⟨wd_960, wd_676, by decide +kernel, by decide +kernel, by decide +kernel⟩, by decide +kernel⟩
set_option maxRecDepth 100000 in
theorem omX12_copyOf : ab_okM iX12_copyOf ∧ ab_np iX12_copyOf = some (ab_pn iX12_copyOf) := ⟨⟨wd_961, wd_676, by decide +kernel, by decide +kernel, by decide +kernel⟩, by decide +kernel⟩
set_option maxRecDepth 100000 in
theorem omX12_changed : ab_okM iX12_changed ∧ ab_np iX12_changed = some (ab_pn iX12_changed) := ⟨⟨wd_962, wd_676, by decide +kernel, by decide +kernel, by decide +kernel⟩, by decide +kernel⟩
set_option maxRecDepth 100000 in
theorem omX12_around : ab_okM iX12_around ∧ ab_np iX12_around = some (ab_pn iX12_around) := ⟨⟨wd_963, wd_676, by decide +kernel, by decide +kernel, by decide +kernel⟩, by decide +kernel⟩
set_option maxRecDepth 100000 in
theorem omX12_became : ab_okM iX12_became ∧ ab_np iX12_became = some (ab_pn iX12_became) := ⟨⟨wd_964, wd_676, by decide +kernel, by decide +kernel, by decide +kernel⟩, by decide +kernel⟩
set_option maxRecDepth 100000 in
theorem omX12_goesOver : ab_okM iX12_goesOver ∧ ab_np iX12_goesOver = some (ab_pn iX12_goesOver) := ⟨⟨wd_965, wd_676, by decide +kernel, by decide +kernel, by decide +kernel⟩, by decide +kernel⟩
set_option maxRecDepth 100000 in
theorem omX12_comesOf : ab_okM iX12_comesOf ∧ ab_np iX12_comesOf = some (ab_pn iX12_comesOf) := ⟨⟨wd_966, wd_676, by decide +kernel, by decide +kernel, by decide +kernel⟩, by decide +kernel⟩
set_option maxRecDepth 100000 in
theorem omX12_over : ab_okM iX12_over ∧ ab_np iX12_over = some (ab_pn iX12_over) := ⟨⟨wd_967, wd_676, by decide +kernel, by decide +kernel, by decide +kernel⟩, by decide +kernel⟩
set_option maxRecDepth 100000 in
theorem omX12_put : ab_okM iX12_put ∧ ab_np iX12_put = some (ab_pn iX12_put) := ⟨⟨wd_968, wd_676, by decide +kernel, by decide +kernel, by decide +kernel⟩, by decide +kernel⟩
set_option maxRecDepth 100000 in
theorem omX12_take : ab_okM iX12_take ∧ ab_np iX12_take = some (ab_pn iX12_take) := ⟨⟨wd_969, wd_676, by decide +kernel, by decide +kernel, by decide +kernel⟩, by decide +kernel⟩
set_option maxRecDepth 100000 in
theorem omX12_undo : ab_okM iX12_undo ∧ ab_np iX12_undo = some (ab_pn iX12_undo) := ⟨⟨wd_970, wd_676, by decide +kernel, by decide +kernel, by decide +kernel⟩, by decide +kernel⟩
set_option maxRecDepth 100000 in
theorem omX12_focusOf : ab_okM iX12_focusOf ∧ ab_np iX12_focusOf = some (ab_pn iX12_focusOf) := ⟨⟨wd_971, wd_676, by decide +kernel, by decide +kernel, by decide +kernel⟩, by decide +kernel⟩
set_option maxRecDepth 100000 in
theorem omX12_look : ab_okM iX12_look ∧ ab_np iX12_look = some (ab_pn iX12_look) := ⟨⟨wd_972, wd_676, by decide +kernel, by decide +kernel, by decide +kernel⟩, by decide +kernel⟩
set_option maxRecDepth 100000 in
theorem omX12_key : ab_okM iX12_key ∧ ab_np iX12_key = some (ab_pn iX12_key) := ⟨⟨wd_973, wd_676, by decide +kernel, by decide +kernel, by decide +kernel⟩, by decide +kernel⟩
set_option maxRecDepth 100000 in
theorem omX12_sumOf : ab_okM iX12_sumOf ∧ ab_np iX12_sumOf = some (ab_pn iX12_sumOf) := ⟨⟨wd_974, wd_676, by decide +kernel, by decide +kernel, by decide +kernel⟩, by decide +kernel⟩
set_option maxRecDepth 100000 in
theorem omX12_isNew : ab_okM iX12_isNew ∧ ab_np iX12_isNew = some (ab_pn iX12_isNew) := ⟨⟨wd_975, wd_676, by decide +kernel, by decide +kernel, by decide +kernel⟩, by decide +kernel⟩
set_option maxRecDepth 100000 in
theorem omX12_fold : ab_okM iX12_fold ∧ ab_np iX12_fold = some (ab_pn iX12_fold) := ⟨⟨wd_976, wd_676, by decide +kernel, by decide +kernel, by decide +kernel⟩, by decide +kernel⟩
set_option maxRecDepth 100000 in
theorem omX12_orderedBy : ab_okM iX12_orderedBy ∧ ab_np iX12_orderedBy = some (ab_pn iX12_orderedBy) := ⟨⟨wd_977, wd_676, by decide +kernel, by decide +kernel, by decide +kernel⟩, by decide +kernel⟩
set_option maxRecDepth 100000 in
theorem omX12_best : ab_okM iX12_best ∧ ab_np iX12_best = some (ab_pn iX12_best) := ⟨⟨wd_978, wd_676, by decide +kernel, by decide +kernel, by decide +kernel⟩, by decide +kernel⟩
set_option maxRecDepth 100000 in
theorem omX12_order : ab_okM iX12_order ∧ ab_np iX12_order = some (ab_pn iX12_order) := ⟨⟨wd_979, wd_676, by decide +kernel, by decide +kernel, by decide +kernel⟩, by decide +kernel⟩
set_option maxRecDepth 100000 in
theorem omX12_marks : ab_okM iX12_marks ∧ ab_np iX12_marks = some (ab_pn iX12_marks) := ⟨⟨wd_980, wd_676, by decide +kernel, by decide +kernel, by decide +kernel⟩, by decide +kernel⟩
set_option maxRecDepth 100000 in
theorem omX12_sharedIn : ab_okM iX12_sharedIn ∧ ab_np iX12_sharedIn = some (ab_pn iX12_sharedIn) := ⟨⟨wd_981, wd_676, by decide +kernel, by decide +kernel, by decide +kernel⟩, by decide +kernel⟩
set_option maxRecDepth 100000 in
theorem omX12_shared : ab_okM iX12_shared ∧ ab_np iX12_shared = some (ab_pn iX12_shared) := ⟨⟨wd_982, wd_676, by decide +kernel, by decide +kernel, by decide +kernel⟩, by decide +kernel⟩
set_option maxRecDepth 100000 in
theorem omX12_isLikeBuilt : ab_okM iX12_isLikeBuilt ∧ ab_np iX12_isLikeBuilt = some (ab_pn iX12_isLikeBuilt) := ⟨⟨wd_983, wd_676, by decide +kernel, by decide +kernel, by decide +kernel⟩, by decide +kernel⟩
set_option maxRecDepth 100000 in
theorem omX12_differsIn : ab_okM iX12_differsIn ∧ ab_np iX12_differsIn = some (ab_pn iX12_differsIn) := ⟨⟨wd_984, wd_676, by decide +kernel, by decide +kernel, by decide +kernel⟩, by decide +kernel⟩
set_option maxRecDepth 100000 in
theorem omX12_differ : ab_okM iX12_differ ∧ ab_np iX12_differ = some (ab_pn iX12_differ) := ⟨⟨wd_985, wd_676, by decide +kernel, by decide +kernel, by decide +kernel⟩, by decide +kernel⟩
set_option maxRecDepth 100000 in
theorem omX12_fit : ab_okM iX12_fit ∧ ab_np iX12_fit = some (ab_pn iX12_fit) := ⟨⟨wd_986, wd_676, by decide +kernel, by decide +kernel, by decide +kernel⟩, by decide +kernel⟩
set_option maxRecDepth 100000 in
theorem omX12_allNodes : ab_okM iX12_allNodes ∧ ab_np iX12_allNodes = some (ab_pn iX12_allNodes) := ⟨⟨wd_987, wd_676, by decide +kernel, by decide +kernel, by decide +kernel⟩, by decide +kernel⟩
set_option maxRecDepth 100000 in
theorem omX12_image : ab_okM iX12_image ∧ ab_np iX12_image = some (ab_pn iX12_image) := ⟨⟨wd_988, wd_676, by decide +kernel, by decide +kernel, by decide +kernel⟩, by decide +kernel⟩
set_option maxRecDepth 100000 in
theorem omX12_back : ab_okM iX12_back ∧ ab_np iX12_back = some (ab_pn iX12_back) := ⟨⟨wd_989, wd_676, by decide +kernel, by decide +kernel, by decide +kernel⟩, by decide +kernel⟩
set_option maxRecDepth 100000 in
theorem omX12_count : ab_okM iX12_count ∧ ab_np iX12_count = some (ab_pn iX12_count) := ⟨⟨wd_990, wd_676, by decide +kernel, by decide +kernel, by decide +kernel⟩, by decide +kernel⟩
set_option maxRecDepth 100000 in
theorem omJ6_compare_7cf53 : ab_okM iJ6_compare_7cf53 ∧ ab_np iJ6_compare_7cf53 = some (ab_pn iJ6_compare_7cf53) := ⟨⟨wd_991, wd_992, by decide +kernel, by decide +kernel, by decide +kernel⟩, by decide +kernel⟩
set_option maxRecDepth 100000 in
theorem omJ9_max_7cf53 : ab_okM iJ9_max_7cf53 ∧ ab_np iJ9_max_7cf53 = some (ab_pn iJ9_max_7cf53) := ⟨⟨wd_993, wd_994, by decide +kernel, by decide +kernel, by decide +kernel⟩, by decide +kernel⟩
set_option maxRecDepth 100000 in
theorem omJ9_min_7cf53 : ab_okM iJ9_min_7cf53 ∧ ab_np iJ9_min_7cf53 = some (ab_pn iJ9_min_7cf53) := ⟨⟨wd_995, wd_994, by decide +kernel, by decide +kernel, by decide +kernel⟩, by decide +kernel⟩
theorem pfX0_init : plainFor (ab_nm iX0_init) = true := by decide +kernel
theorem pfX0_change : plainFor (ab_nm iX0_change) = true := by decide +kernel
theorem pfX0_focusCount : plainFor (ab_nm iX0_focusCount) = true := by decide +kernel
theorem pfX0_changeWithin : plainFor (ab_nm iX0_changeWithin) = true := by decide +kernel
theorem pfX0_changeFocus : plainFor (ab_nm iX0_changeFocus) = true := by decide +kernel
theorem pfX0_changeOrder : plainFor (ab_nm iX0_changeOrder) = true := by decide +kernel
theorem pfX0_makeNumberOf : plainFor (ab_nm iX0_makeNumberOf) = true := by decide +kernel
theorem pfX0_make : plainFor (ab_nm iX0_make) = true := by decide +kernel
theorem pfX0_makeAround : plainFor (ab_nm iX0_makeAround) = true := by decide +kernel
theorem pfX0_mayMake : plainFor (ab_nm iX0_mayMake) = true := by decide +kernel
theorem pfX0_justOne : plainFor (ab_nm iX0_justOne) = true := by decide +kernel
theorem pfX0_reversed : plainFor (ab_nm iX0_reversed) = true := by decide +kernel
theorem pfX0_turned : plainFor (ab_nm iX0_turned) = true := by decide +kernel
theorem pfX0_sorted : plainFor (ab_nm iX0_sorted) = true := by decide +kernel
theorem pfX1_init : plainFor (ab_nm iX1_init) = true := by decide +kernel
theorem pfX1_find : plainFor (ab_nm iX1_find) = true := by decide +kernel
theorem pfX1_findWithin : plainFor (ab_nm iX1_findWithin) = true := by decide +kernel
theorem pfX1_add : plainFor (ab_nm iX1_add) = true := by decide +kernel
theorem pfX1_size : plainFor (ab_nm iX1_size) = true := by decide +kernel
theorem pfX1_place : plainFor (ab_nm iX1_place) = true := by decide +kernel
theorem pfX2_init : plainFor (ab_nm iX2_init) = true := by decide +kernel
theorem pfX2_find : plainFor (ab_nm iX2_find) = true := by decide +kernel
theorem pfX2_findWithin : plainFor (ab_nm iX2_findWithin) = true := by decide +kernel
theorem pfX2_add : plainFor (ab_nm iX2_add) = true := by decide +kernel
theorem pfX2_size : plainFor (ab_nm iX2_size) = true := by decide +kernel
theorem pfX2_isEmpty : plainFor (ab_nm iX2_isEmpty) = true := by decide +kernel
theorem pfX2_at : plainFor (ab_nm iX2_at) = true := by decide +kernel
theorem pfX2_sum : plainFor (ab_nm iX2_sum) = true := by decide +kernel
theorem pfX2_numbersWithin : plainFor (ab_nm iX2_numbersWithin) = true := by decide +kernel
theorem pfX2_greatest : plainFor (ab_nm iX2_greatest) = true := by decide +kernel
theorem pfX2_least : plainFor (ab_nm iX2_least) = true := by decide +kernel
theorem pfX2_unlike : plainFor (ab_nm iX2_unlike) = true := by decide +kernel
theorem pfX2_isLikeOneAhead : plainFor (ab_nm iX2_isLikeOneAhead) = true := by decide +kernel
theorem pfX2_height : plainFor (ab_nm iX2_height) = true := by decide +kernel
theorem pfX2_nodes : plainFor (ab_nm iX2_nodes) = true := by decide +kernel
theorem pfX2_areAllAlike : plainFor (ab_nm iX2_areAllAlike) = true := by decide +kernel
theorem pfX2_sorted : plainFor (ab_nm iX2_sorted) = true := by decide +kernel
theorem pfX2_isAhead : plainFor (ab_nm iX2_isAhead) = true := by decide +kernel
theorem pfX3_init : plainFor (ab_nm iX3_init) = true := by decide +kernel
theorem pfX3_add : plainFor (ab_nm iX3_add) = true := by decide +kernel
theorem pfX3_hasKey : plainFor (ab_nm iX3_hasKey) = true := by decide +kernel
theorem pfX3_putByKey : plainFor (ab_nm iX3_putByKey) = true := by decide +kernel
theorem pfX3_together : plainFor (ab_nm iX3_together) = true := by decide +kernel
theorem pfX3_placeOf : plainFor (ab_nm iX3_placeOf) = true := by decide +kernel
theorem pfX3_insert : plainFor (ab_nm iX3_insert) = true := by decide +kernel
theorem pfX4_init : plainFor (ab_nm iX4_init) = true := by decide +kernel
theorem pfX4_size : plainFor (ab_nm iX4_size) = true := by decide +kernel
theorem pfX4_goingOnBy : plainFor (ab_nm iX4_goingOnBy) = true := by decide +kernel
theorem pfX4_keeps : plainFor (ab_nm iX4_keeps) = true := by decide +kernel
theorem pfX4_enters : plainFor (ab_nm iX4_enters) = true := by decide +kernel
theorem pfX4_stepWithin : plainFor (ab_nm iX4_stepWithin) = true := by decide +kernel
theorem pfX4_sign : plainFor (ab_nm iX4_sign) = true := by decide +kernel
theorem pfX4_word : plainFor (ab_nm iX4_word) = true := by decide +kernel
theorem pfX5_init : plainFor (ab_nm iX5_init) = true := by decide +kernel
theorem pfX5_readWhole : plainFor (ab_nm iX5_readWhole) = true := by decide +kernel
theorem pfX5_readStep : plainFor (ab_nm iX5_readStep) = true := by decide +kernel
theorem pfX5_readSide : plainFor (ab_nm iX5_readSide) = true := by decide +kernel
theorem pfX5_closed : plainFor (ab_nm iX5_closed) = true := by decide +kernel
theorem pfX5_firstOf : plainFor (ab_nm iX5_firstOf) = true := by decide +kernel
theorem pfX6_init : plainFor (ab_nm iX6_init) = true := by decide +kernel
theorem pfX6_held : plainFor (ab_nm iX6_held) = true := by decide +kernel
theorem pfX6_oldCount : plainFor (ab_nm iX6_oldCount) = true := by decide +kernel
theorem pfX6_become : plainFor (ab_nm iX6_become) = true := by decide +kernel
theorem pfX6_becomeLastOld : plainFor (ab_nm iX6_becomeLastOld) = true := by decide +kernel
theorem pfX6_restart : plainFor (ab_nm iX6_restart) = true := by decide +kernel
theorem pfX7_init : plainFor (ab_nm iX7_init) = true := by decide +kernel
theorem pfX7_sum : plainFor (ab_nm iX7_sum) = true := by decide +kernel
theorem pfX7_hasRoomFor : plainFor (ab_nm iX7_hasRoomFor) = true := by decide +kernel
theorem pfX7_adds : plainFor (ab_nm iX7_adds) = true := by decide +kernel
theorem pfX8_init : plainFor (ab_nm iX8_init) = true := by decide +kernel
theorem pfX8_size : plainFor (ab_nm iX8_size) = true := by decide +kernel
theorem pfX8_add : plainFor (ab_nm iX8_add) = true := by decide +kernel
theorem pfX8_clear : plainFor (ab_nm iX8_clear) = true := by decide +kernel
theorem pfX8_rewind : plainFor (ab_nm iX8_rewind) = true := by decide +kernel
theorem pfX8_at : plainFor (ab_nm iX8_at) = true := by decide +kernel
theorem pfX8_fault : plainFor (ab_nm iX8_fault) = true := by decide +kernel
theorem pfX8_isFaulty : plainFor (ab_nm iX8_isFaulty) = true := by decide +kernel
theorem pfX8_isAtEnd : plainFor (ab_nm iX8_isAtEnd) = true := by decide +kernel
theorem pfX8_fail : plainFor (ab_nm iX8_fail) = true := by decide +kernel
theorem pfX8_next : plainFor (ab_nm iX8_next) = true := by decide +kernel
theorem pfX8_step : plainFor (ab_nm iX8_step) = true := by decide +kernel
theorem pfX8_takes : plainFor (ab_nm iX8_takes) = true := by decide +kernel
theorem pfX8_needs : plainFor (ab_nm iX8_needs) = true := by decide +kernel
theorem pfX8_digits : plainFor (ab_nm iX8_digits) = true := by decide +kernel
theorem pfX8_signedNumber : plainFor (ab_nm iX8_signedNumber) = true := by decide +kernel
theorem pfX8_letters : plainFor (ab_nm iX8_letters) = true := by decide +kernel
theorem pfX9_init : plainFor (ab_nm iX9_init) = true := by decide +kernel
theorem pfX9_size : plainFor (ab_nm iX9_size) = true := by decide +kernel
theorem pfX9_part : plainFor (ab_nm iX9_part) = true := by decide +kernel
theorem pfX9_copyOfParts : plainFor (ab_nm iX9_copyOfParts) = true := by decide +kernel
theorem pfX9_letters : plainFor (ab_nm iX9_letters) = true := by decide +kernel
theorem pfX9_isTooMuch : plainFor (ab_nm iX9_isTooMuch) = true := by decide +kernel
theorem pfX9_isFramedLike : plainFor (ab_nm iX9_isFramedLike) = true := by decide +kernel
theorem pfX9_areAlike : plainFor (ab_nm iX9_areAlike) = true := by decide +kernel
theorem pfX9_compare : plainFor (ab_nm iX9_compare) = true := by decide +kernel
theorem pfX9_holds : plainFor (ab_nm iX9_holds) = true := by decide +kernel
theorem pfX10_init : plainFor (ab_nm iX10_init) = true := by decide +kernel
theorem pfX10_readWhole : plainFor (ab_nm iX10_readWhole) = true := by decide +kernel
theorem pfX10_readOne : plainFor (ab_nm iX10_readOne) = true := by decide +kernel
theorem pfX10_readPair : plainFor (ab_nm iX10_readPair) = true := by decide +kernel
theorem pfX10_readTagged : plainFor (ab_nm iX10_readTagged) = true := by decide +kernel
theorem pfX10_readMany : plainFor (ab_nm iX10_readMany) = true := by decide +kernel
theorem pfX10_readNewKey : plainFor (ab_nm iX10_readNewKey) = true := by decide +kernel
theorem pfX11_init : plainFor (ab_nm iX11_init) = true := by decide +kernel
theorem pfX11_feed : plainFor (ab_nm iX11_feed) = true := by decide +kernel
theorem pfX11_thing : plainFor (ab_nm iX11_thing) = true := by decide +kernel
theorem pfX11_path : plainFor (ab_nm iX11_path) = true := by decide +kernel
theorem pfX11_join : plainFor (ab_nm iX11_join) = true := by decide +kernel
theorem pfX11_over : plainFor (ab_nm iX11_over) = true := by decide +kernel
theorem pfX11_put : plainFor (ab_nm iX11_put) = true := by decide +kernel
theorem pfX11_take : plainFor (ab_nm iX11_take) = true := by decide +kernel
theorem pfX11_undo : plainFor (ab_nm iX11_undo) = true := by decide +kernel
theorem pfX11_look : plainFor (ab_nm iX11_look) = true := by decide +kernel
theorem pfX11_key : plainFor (ab_nm iX11_key) = true := by decide +kernel
theorem pfX11_fold : plainFor (ab_nm iX11_fold) = true := by decide +kernel
theorem pfX11_best : plainFor (ab_nm iX11_best) = true := by decide +kernel
theorem pfX11_order : plainFor (ab_nm iX11_order) = true := by decide +kernel
theorem pfX11_shared : plainFor (ab_nm iX11_shared) = true := by decide +kernel
theorem pfX11_differ : plainFor (ab_nm iX11_differ) = true := by decide +kernel
theorem pfX11_fit : plainFor (ab_nm iX11_fit) = true := by decide +kernel
theorem pfX11_image : plainFor (ab_nm iX11_image) = true := by decide +kernel
theorem pfX11_back : plainFor (ab_nm iX11_back) = true := by decide +kernel
theorem pfX11_count : plainFor (ab_nm iX11_count) = true := by decide +kernel
theorem pfX11_isShelf : plainFor (ab_nm iX11_isShelf) = true := by decide +kernel
theorem pfX11_isPath : plainFor (ab_nm iX11_isPath) = true := by decide +kernel
theorem pfX11_isHow : plainFor (ab_nm iX11_isHow) = true := by decide +kernel
theorem pfX11_held : plainFor (ab_nm iX11_held) = true := by decide +kernel
theorem pfX11_focusAt : plainFor (ab_nm iX11_focusAt) = true := by decide +kernel
theorem pfX11_allNodes : plainFor (ab_nm iX11_allNodes) = true := by decide +kernel
theorem pfX11_ofTwo : plainFor (ab_nm iX11_ofTwo) = true := by decide +kernel
theorem pfX11_withKey : plainFor (ab_nm iX11_withKey) = true := by decide +kernel
theorem pfX11_sharedNodes : plainFor (ab_nm iX11_sharedNodes) = true := by decide +kernel
theorem pfX12_init : plainFor (ab_nm iX12_init) = true := by decide +kernel
theorem pfX12_in : plainFor (ab_nm iX12_in) = true := by decide +kernel
theorem pfX12_isShelf : plainFor (ab_nm iX12_isShelf) = true := by decide +kernel
theorem pfX12_isPath : plainFor (ab_nm iX12_isPath) = true := by decide +kernel
theorem pfX12_begins : plainFor (ab_nm iX12_begins) = true := by decide +kernel
theorem pfX12_ends : plainFor (ab_nm iX12_ends) = true := by decide +kernel
theorem pfX12_number : plainFor (ab_nm iX12_number) = true := by decide +kernel
theorem pfX12_isFull : plainFor (ab_nm iX12_isFull) = true := by decide +kernel
theorem pfX12_compared : plainFor (ab_nm iX12_compared) = true := by decide +kernel
theorem pfX12_becomes : plainFor (ab_nm iX12_becomes) = true := by decide +kernel
theorem pfX12_feed : plainFor (ab_nm iX12_feed) = true := by decide +kernel
theorem pfX12_here : plainFor (ab_nm iX12_here) = true := by decide +kernel
theorem pfX12_fails : plainFor (ab_nm iX12_fails) = true := by decide +kernel
theorem pfX12_isFault : plainFor (ab_nm iX12_isFault) = true := by decide +kernel
theorem pfX12_one : plainFor (ab_nm iX12_one) = true := by decide +kernel
theorem pfX12_isHere : plainFor (ab_nm iX12_isHere) = true := by decide +kernel
theorem pfX12_digits : plainFor (ab_nm iX12_digits) = true := by decide +kernel
theorem pfX12_signed : plainFor (ab_nm iX12_signed) = true := by decide +kernel
theorem pfX12_letters : plainFor (ab_nm iX12_letters) = true := by decide +kernel
theorem pfX12_adds : plainFor (ab_nm iX12_adds) = true := by decide +kernel
theorem pfX12_puts : plainFor (ab_nm iX12_puts) = true := by decide +kernel
theorem pfX12_hasKey : plainFor (ab_nm iX12_hasKey) = true := by decide +kernel
theorem pfX12_readsEntry : plainFor (ab_nm iX12_readsEntry) = true := by decide +kernel
theorem pfX12_readsAll : plainFor (ab_nm iX12_readsAll) = true := by decide +kernel
theorem pfX12_reads : plainFor (ab_nm iX12_reads) = true := by decide +kernel
theorem pfX12_thing : plainFor (ab_nm iX12_thing) = true := by decide +kernel
theorem pfX12_readsStep : plainFor (ab_nm iX12_readsStep) = true := by decide +kernel
theorem pfX12_path : plainFor (ab_nm iX12_path) = true := by decide +kernel
theorem pfX12_join : plainFor (ab_nm iX12_join) = true := by decide +kernel
theorem pfX12_isItself : plainFor (ab_nm iX12_isItself) = true := by decide +kernel
theorem pfX12_isPart : plainFor (ab_nm iX12_isPart) = true := by decide +kernel
theorem pfX12_nextStep : plainFor (ab_nm iX12_nextStep) = true := by decide +kernel
theorem pfX12_goes : plainFor (ab_nm iX12_goes) = true := by decide +kernel
theorem pfX12_looksFor : plainFor (ab_nm iX12_looksFor) = true := by decide +kernel
theorem pfX12_makes : plainFor (ab_nm iX12_makes) = true := by decide +kernel
theorem pfX12_numbered : plainFor (ab_nm iX12_numbered) = true := by decide +kernel
theorem pfX12_copyOf : plainFor (ab_nm iX12_copyOf) = true := by decide +kernel
theorem pfX12_changed : plainFor (ab_nm iX12_changed) = true := by decide +kernel
theorem pfX12_around : plainFor (ab_nm iX12_around) = true := by decide +kernel
theorem pfX12_became : plainFor (ab_nm iX12_became) = true := by decide +kernel
theorem pfX12_goesOver : plainFor (ab_nm iX12_goesOver) = true := by decide +kernel
theorem pfX12_comesOf : plainFor (ab_nm iX12_comesOf) = true := by decide +kernel
theorem pfX12_over : plainFor (ab_nm iX12_over) = true := by decide +kernel
theorem pfX12_put : plainFor (ab_nm iX12_put) = true := by decide +kernel
theorem pfX12_take : plainFor (ab_nm iX12_take) = true := by decide +kernel
theorem pfX12_undo : plainFor (ab_nm iX12_undo) = true := by decide +kernel
theorem pfX12_focusOf : plainFor (ab_nm iX12_focusOf) = true := by decide +kernel
theorem pfX12_look : plainFor (ab_nm iX12_look) = true := by decide +kernel
theorem pfX12_key : plainFor (ab_nm iX12_key) = true := by decide +kernel
theorem pfX12_sumOf : plainFor (ab_nm iX12_sumOf) = true := by decide +kernel
theorem pfX12_isNew : plainFor (ab_nm iX12_isNew) = true := by decide +kernel
theorem pfX12_fold : plainFor (ab_nm iX12_fold) = true := by decide +kernel
theorem pfX12_orderedBy : plainFor (ab_nm iX12_orderedBy) = true := by decide +kernel
theorem pfX12_best : plainFor (ab_nm iX12_best) = true := by decide +kernel
theorem pfX12_order : plainFor (ab_nm iX12_order) = true := by decide +kernel
theorem pfX12_marks : plainFor (ab_nm iX12_marks) = true := by decide +kernel
theorem pfX12_sharedIn : plainFor (ab_nm iX12_sharedIn) = true := by decide +kernel
theorem pfX12_shared : plainFor (ab_nm iX12_shared) = true := by decide +kernel
theorem pfX12_isLikeBuilt : plainFor (ab_nm iX12_isLikeBuilt) = true := by decide +kernel
theorem pfX12_differsIn : plainFor (ab_nm iX12_differsIn) = true := by decide +kernel
theorem pfX12_differ : plainFor (ab_nm iX12_differ) = true := by decide +kernel
theorem pfX12_fit : plainFor (ab_nm iX12_fit) = true := by decide +kernel
theorem pfX12_allNodes : plainFor (ab_nm iX12_allNodes) = true := by decide +kernel
theorem pfX12_image : plainFor (ab_nm iX12_image) = true := by decide +kernel
theorem pfX12_back : plainFor (ab_nm iX12_back) = true := by decide +kernel
theorem pfX12_count : plainFor (ab_nm iX12_count) = true := by decide +kernel
theorem pfJ6_compare_7cf53 : plainFor (ab_nm iJ6_compare_7cf53) = true := by decide +kernel
theorem pfJ9_max_7cf53 : plainFor (ab_nm iJ9_max_7cf53) = true := by decide +kernel
theorem pfJ9_min_7cf53 : plainFor (ab_nm iJ9_min_7cf53) = true := by decide +kernel
theorem pfL_law : plainFor (ab_nm iL_law) = true := by decide +kernel
