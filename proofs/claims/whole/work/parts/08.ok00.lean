set_option maxRecDepth 100000 in
theorem oX0_init : dm_okM RX0 rX0_init.2.1 true qX0_init = true := by decide +kernel
set_option maxRecDepth 100000 in
theorem oX0_find : dm_okM RX0 rX0_find.2.1 false qX0_find = true := by decide +kernel
set_option maxRecDepth 100000 in
theorem oX0_live : dm_okM RX0 rX0_live.2.1 false qX0_live = true := by decide +kernel
set_option maxRecDepth 100000 in
theorem oX0_liveBy : dm_okM RX0 rX0_liveBy.2.1 false qX0_liveBy = true := by decide +kernel
set_option maxRecDepth 100000 in
theorem oX0_keepDay : dm_okM RX0 rX0_keepDay.2.1 false qX0_keepDay = true := by decide +kernel
set_option maxRecDepth 100000 in
theorem oX0_bestMinute : dm_okM RX0 rX0_bestMinute.2.1 false qX0_bestMinute = true := by decide +kernel
set_option maxRecDepth 100000 in
theorem oX1_init : dm_okM RX1 rX1_init.2.1 true qX1_init = true := by decide +kernel
set_option maxRecDepth 100000 in
theorem oX1_readFrom : dm_okM RX1 rX1_readFrom.2.1 false qX1_readFrom = true := by decide +kernel
set_option maxRecDepth 100000 in
theorem oX1_readE : dm_okM RX1 rX1_readE.2.1 false qX1_readE = true := by decide +kernel
set_option maxRecDepth 100000 in
theorem oX1_readTest : dm_okM RX1 rX1_readTest.2.1 false qX1_readTest = true := by decide +kernel
set_option maxRecDepth 100000 in
theorem oX1_readSum : dm_okM RX1 rX1_readSum.2.1 false qX1_readSum = true := by decide +kernel
set_option maxRecDepth 100000 in
theorem oX1_readProduct : dm_okM RX1 rX1_readProduct.2.1 false qX1_readProduct = true := by decide +kernel
set_option maxRecDepth 100000 in
theorem oX1_readPart : dm_okM RX1 rX1_readPart.2.1 false qX1_readPart = true := by decide +kernel
set_option maxRecDepth 100000 in
theorem oX1_factOn : dm_okM RX1 rX1_factOn.2.1 false qX1_factOn = true := by decide +kernel
set_option maxRecDepth 100000 in
theorem oX1_addStep : dm_okM RX1 rX1_addStep.2.1 false qX1_addStep = true := by decide +kernel
set_option maxRecDepth 100000 in
theorem oX1_value : dm_okM RX1 rX1_value.2.1 false qX1_value = true := by decide +kernel
set_option maxRecDepth 100000 in
theorem oX1_joined : dm_okM RX1 rX1_joined.2.1 false qX1_joined = true := by decide +kernel
set_option maxRecDepth 100000 in
theorem oX2_init : dm_okM RX2 rX2_init.2.1 true qX2_init = true := by decide +kernel
set_option maxRecDepth 100000 in
theorem oX2_readFrom : dm_okM RX2 rX2_readFrom.2.1 false qX2_readFrom = true := by decide +kernel
set_option maxRecDepth 100000 in
theorem oX2_clear : dm_okM RX2 rX2_clear.2.1 false qX2_clear = true := by decide +kernel
