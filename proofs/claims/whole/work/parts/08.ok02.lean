set_option maxRecDepth 100000 in
theorem oX5_find : dm_okM RX5 rX5_find.2.1 false qX5_find = true := by decide +kernel
set_option maxRecDepth 100000 in
theorem oX5_stop : dm_okM RX5 rX5_stop.2.1 false qX5_stop = true := by decide +kernel
set_option maxRecDepth 100000 in
theorem oX5_extend : dm_okM RX5 rX5_extend.2.1 false qX5_extend = true := by decide +kernel
set_option maxRecDepth 100000 in
theorem oX5_goOn : dm_okM RX5 rX5_goOn.2.1 false qX5_goOn = true := by decide +kernel
set_option maxRecDepth 100000 in
theorem oX5_walk : dm_okM RX5 rX5_walk.2.1 false qX5_walk = true := by decide +kernel
set_option maxRecDepth 100000 in
theorem oX6_init : dm_okM RX6 rX6_init.2.1 true qX6_init = true := by decide +kernel
set_option maxRecDepth 100000 in
theorem oX6_add : dm_okM RX6 rX6_add.2.1 false qX6_add = true := by decide +kernel
set_option maxRecDepth 100000 in
theorem oX6_copyFrom : dm_okM RX6 rX6_copyFrom.2.1 false qX6_copyFrom = true := by decide +kernel
set_option maxRecDepth 100000 in
theorem oX6_allow : dm_okM RX6 rX6_allow.2.1 false qX6_allow = true := by decide +kernel
set_option maxRecDepth 100000 in
theorem oX7_init : dm_okM RX7 rX7_init.2.1 true qX7_init = true := by decide +kernel
set_option maxRecDepth 100000 in
theorem oX7_begin : dm_okM RX7 rX7_begin.2.1 false qX7_begin = true := by decide +kernel
set_option maxRecDepth 100000 in
theorem oX7_copyFrom : dm_okM RX7 rX7_copyFrom.2.1 false qX7_copyFrom = true := by decide +kernel
set_option maxRecDepth 100000 in
theorem oX7_isIn : dm_okM RX7 rX7_isIn.2.1 false qX7_isIn = true := by decide +kernel
set_option maxRecDepth 100000 in
theorem oX7_isEvicted : dm_okM RX7 rX7_isEvicted.2.1 false qX7_isEvicted = true := by decide +kernel
set_option maxRecDepth 100000 in
theorem oX7_inBits : dm_okM RX7 rX7_inBits.2.1 false qX7_inBits = true := by decide +kernel
set_option maxRecDepth 100000 in
theorem oX7_whoIsIn : dm_okM RX7 rX7_whoIsIn.2.1 false qX7_whoIsIn = true := by decide +kernel
set_option maxRecDepth 100000 in
theorem oX7_coinsOfAll : dm_okM RX7 rX7_coinsOfAll.2.1 false qX7_coinsOfAll = true := by decide +kernel
set_option maxRecDepth 100000 in
theorem oX7_factOf : dm_okM RX7 rX7_factOf.2.1 false qX7_factOf = true := by decide +kernel
set_option maxRecDepth 100000 in
theorem oX7_pulseOf : dm_okM RX7 rX7_pulseOf.2.1 false qX7_pulseOf = true := by decide +kernel
set_option maxRecDepth 100000 in
theorem oX7_steadyBeats : dm_okM RX7 rX7_steadyBeats.2.1 false qX7_steadyBeats = true := by decide +kernel
set_option maxRecDepth 100000 in
theorem oX7_doClimb : dm_okM RX7 rX7_doClimb.2.1 false qX7_doClimb = true := by decide +kernel
set_option maxRecDepth 100000 in
theorem oX7_doFright : dm_okM RX7 rX7_doFright.2.1 false qX7_doFright = true := by decide +kernel
set_option maxRecDepth 100000 in
theorem oX7_doDrink : dm_okM RX7 rX7_doDrink.2.1 false qX7_doDrink = true := by decide +kernel
set_option maxRecDepth 100000 in
theorem oX7_canMove : dm_okM RX7 rX7_canMove.2.1 false qX7_canMove = true := by decide +kernel
set_option maxRecDepth 100000 in
theorem oX7_doMove : dm_okM RX7 rX7_doMove.2.1 false qX7_doMove = true := by decide +kernel
set_option maxRecDepth 100000 in
theorem oX7_passMinutes : dm_okM RX7 rX7_passMinutes.2.1 false qX7_passMinutes = true := by decide +kernel
set_option maxRecDepth 100000 in
theorem oX7_countBeats : dm_okM RX7 rX7_countBeats.2.1 false qX7_countBeats = true := by decide +kernel
set_option maxRecDepth 100000 in
theorem oX7_dueOf : dm_okM RX7 rX7_dueOf.2.1 false qX7_dueOf = true := by decide +kernel
