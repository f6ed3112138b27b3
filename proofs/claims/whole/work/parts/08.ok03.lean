set_option maxRecDepth 100000 in
theorem oX7_holdNoon : dm_okM RX7 rX7_holdNoon.2.1 false qX7_holdNoon = true := by decide +kernel
set_option maxRecDepth 100000 in
theorem oX7_perform : dm_okM RX7 rX7_perform.2.1 false qX7_perform = true := by decide +kernel
set_option maxRecDepth 100000 in
theorem oX7_haunted : dm_okM RX7 rX7_haunted.2.1 false qX7_haunted = true := by decide +kernel
set_option maxRecDepth 100000 in
theorem oX7_savedBy : dm_okM RX7 rX7_savedBy.2.1 false qX7_savedBy = true := by decide +kernel
set_option maxRecDepth 100000 in
theorem oX7_drawDeeds : dm_okM RX7 rX7_drawDeeds.2.1 false qX7_drawDeeds = true := by decide +kernel
set_option maxRecDepth 100000 in
theorem oX8_init : dm_okM RX8 rX8_init.2.1 true qX8_init = true := by decide +kernel
set_option maxRecDepth 100000 in
theorem oX8_has : dm_okM RX8 rX8_has.2.1 false qX8_has = true := by decide +kernel
set_option maxRecDepth 100000 in
theorem oX8_isFull : dm_okM RX8 rX8_isFull.2.1 false qX8_isFull = true := by decide +kernel
set_option maxRecDepth 100000 in
theorem oX8_find : dm_okM RX8 rX8_find.2.1 false qX8_find = true := by decide +kernel
set_option maxRecDepth 100000 in
theorem oX8_fact : dm_okM RX8 rX8_fact.2.1 false qX8_fact = true := by decide +kernel
set_option maxRecDepth 100000 in
theorem oX8_put : dm_okM RX8 rX8_put.2.1 false qX8_put = true := by decide +kernel
set_option maxRecDepth 100000 in
theorem oX8_add : dm_okM RX8 rX8_add.2.1 false qX8_add = true := by decide +kernel
set_option maxRecDepth 100000 in
theorem oX9_init : dm_okM RX9 rX9_init.2.1 true qX9_init = true := by decide +kernel
set_option maxRecDepth 100000 in
theorem oX9_addBytes : dm_okM RX9 rX9_addBytes.2.1 false qX9_addBytes = true := by decide +kernel
set_option maxRecDepth 100000 in
theorem oX9_rewind : dm_okM RX9 rX9_rewind.2.1 false qX9_rewind = true := by decide +kernel
set_option maxRecDepth 100000 in
theorem oX9_takeAway : dm_okM RX9 rX9_takeAway.2.1 false qX9_takeAway = true := by decide +kernel
set_option maxRecDepth 100000 in
theorem oX9_advance : dm_okM RX9 rX9_advance.2.1 false qX9_advance = true := by decide +kernel
set_option maxRecDepth 100000 in
theorem oX9_scanWord : dm_okM RX9 rX9_scanWord.2.1 false qX9_scanWord = true := by decide +kernel
set_option maxRecDepth 100000 in
theorem oX9_scanNumber : dm_okM RX9 rX9_scanNumber.2.1 false qX9_scanNumber = true := by decide +kernel
set_option maxRecDepth 100000 in
theorem oX9_isLetter : dm_okM RX9 rX9_isLetter.2.1 false qX9_isLetter = true := by decide +kernel
set_option maxRecDepth 100000 in
theorem oX9_isDigit : dm_okM RX9 rX9_isDigit.2.1 false qX9_isDigit = true := by decide +kernel
set_option maxRecDepth 100000 in
theorem oX9_fail : dm_okM RX9 rX9_fail.2.1 false qX9_fail = true := by decide +kernel
set_option maxRecDepth 100000 in
theorem oX9_isOver : dm_okM RX9 rX9_isOver.2.1 false qX9_isOver = true := by decide +kernel
set_option maxRecDepth 100000 in
theorem oX9_isWord : dm_okM RX9 rX9_isWord.2.1 false qX9_isWord = true := by decide +kernel
set_option maxRecDepth 100000 in
theorem oX9_isSign : dm_okM RX9 rX9_isSign.2.1 false qX9_isSign = true := by decide +kernel
set_option maxRecDepth 100000 in
theorem oX9_isNumber : dm_okM RX9 rX9_isNumber.2.1 false qX9_isNumber = true := by decide +kernel
set_option maxRecDepth 100000 in
theorem oX9_isName : dm_okM RX9 rX9_isName.2.1 false qX9_isName = true := by decide +kernel
set_option maxRecDepth 100000 in
theorem oX9_needWord : dm_okM RX9 rX9_needWord.2.1 false qX9_needWord = true := by decide +kernel
set_option maxRecDepth 100000 in
theorem oX9_needSign : dm_okM RX9 rX9_needSign.2.1 false qX9_needSign = true := by decide +kernel
set_option maxRecDepth 100000 in
theorem oX9_needNumber : dm_okM RX9 rX9_needNumber.2.1 false qX9_needNumber = true := by decide +kernel
set_option maxRecDepth 100000 in
theorem oX9_seeTold : dm_okM RX9 rX9_seeTold.2.1 false qX9_seeTold = true := by decide +kernel
set_option maxRecDepth 100000 in
theorem oX10_longer : dm_okM RX10 rX10_longer.2.1 false qX10_longer = true := by decide +kernel
set_option maxRecDepth 100000 in
theorem oX10_coded : dm_okM RX10 rX10_coded.2.1 false qX10_coded = true := by decide +kernel
