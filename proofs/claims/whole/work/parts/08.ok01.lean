set_option maxRecDepth 100000 in
theorem oX2_readRoom : dm_okM RX2 rX2_readRoom.2.1 false qX2_readRoom = true := by decide +kernel
set_option maxRecDepth 100000 in
theorem oX2_readTenant : dm_okM RX2 rX2_readTenant.2.1 false qX2_readTenant = true := by decide +kernel
set_option maxRecDepth 100000 in
theorem oX2_readLoves : dm_okM RX2 rX2_readLoves.2.1 false qX2_readLoves = true := by decide +kernel
set_option maxRecDepth 100000 in
theorem oX2_readErrand : dm_okM RX2 rX2_readErrand.2.1 false qX2_readErrand = true := by decide +kernel
set_option maxRecDepth 100000 in
theorem oX2_readCoffee : dm_okM RX2 rX2_readCoffee.2.1 false qX2_readCoffee = true := by decide +kernel
set_option maxRecDepth 100000 in
theorem oX2_readEvery : dm_okM RX2 rX2_readEvery.2.1 false qX2_readEvery = true := by decide +kernel
set_option maxRecDepth 100000 in
theorem oX2_readFact : dm_okM RX2 rX2_readFact.2.1 false qX2_readFact = true := by decide +kernel
set_option maxRecDepth 100000 in
theorem oX2_readNewName : dm_okM RX2 rX2_readNewName.2.1 false qX2_readNewName = true := by decide +kernel
set_option maxRecDepth 100000 in
theorem oX2_readKind : dm_okM RX2 rX2_readKind.2.1 false qX2_readKind = true := by decide +kernel
set_option maxRecDepth 100000 in
theorem oX2_readHome : dm_okM RX2 rX2_readHome.2.1 false qX2_readHome = true := by decide +kernel
set_option maxRecDepth 100000 in
theorem oX2_isCounted : dm_okM RX2 rX2_isCounted.2.1 false qX2_isCounted = true := by decide +kernel
set_option maxRecDepth 100000 in
theorem oX2_isKind : dm_okM RX2 rX2_isKind.2.1 false qX2_isKind = true := by decide +kernel
set_option maxRecDepth 100000 in
theorem oX2_restOf : dm_okM RX2 rX2_restOf.2.1 false qX2_restOf = true := by decide +kernel
set_option maxRecDepth 100000 in
theorem oX2_climbing : dm_okM RX2 rX2_climbing.2.1 false qX2_climbing = true := by decide +kernel
set_option maxRecDepth 100000 in
theorem oX2_scare : dm_okM RX2 rX2_scare.2.1 false qX2_scare = true := by decide +kernel
set_option maxRecDepth 100000 in
theorem oX2_calmed : dm_okM RX2 rX2_calmed.2.1 false qX2_calmed = true := by decide +kernel
set_option maxRecDepth 100000 in
theorem oX2_dueFor : dm_okM RX2 rX2_dueFor.2.1 false qX2_dueFor = true := by decide +kernel
set_option maxRecDepth 100000 in
theorem oX2_wishFor : dm_okM RX2 rX2_wishFor.2.1 false qX2_wishFor = true := by decide +kernel
set_option maxRecDepth 100000 in
theorem oX2_wouldRather : dm_okM RX2 rX2_wouldRather.2.1 false qX2_wouldRather = true := by decide +kernel
set_option maxRecDepth 100000 in
theorem oX3_init : dm_okM RX3 rX3_init.2.1 true qX3_init = true := by decide +kernel
set_option maxRecDepth 100000 in
theorem oX3_settle : dm_okM RX3 rX3_settle.2.1 false qX3_settle = true := by decide +kernel
set_option maxRecDepth 100000 in
theorem oX3_roomFor : dm_okM RX3 rX3_roomFor.2.1 false qX3_roomFor = true := by decide +kernel
set_option maxRecDepth 100000 in
theorem oX3_mostRested : dm_okM RX3 rX3_mostRested.2.1 false qX3_mostRested = true := by decide +kernel
set_option maxRecDepth 100000 in
theorem oX3_bestLeft : dm_okM RX3 rX3_bestLeft.2.1 false qX3_bestLeft = true := by decide +kernel
set_option maxRecDepth 100000 in
theorem oX4_init : dm_okM RX4 rX4_init.2.1 true qX4_init = true := by decide +kernel
set_option maxRecDepth 100000 in
theorem oX4_readFrom : dm_okM RX4 rX4_readFrom.2.1 false qX4_readFrom = true := by decide +kernel
set_option maxRecDepth 100000 in
theorem oX4_deedOn : dm_okM RX4 rX4_deedOn.2.1 false qX4_deedOn = true := by decide +kernel
set_option maxRecDepth 100000 in
theorem oX4_readLine : dm_okM RX4 rX4_readLine.2.1 false qX4_readLine = true := by decide +kernel
set_option maxRecDepth 100000 in
theorem oX5_init : dm_okM RX5 rX5_init.2.1 true qX5_init = true := by decide +kernel
