set_option maxRecDepth 100000 in
theorem oX2_readRoom : dm_okM RX2 rX2_readRoom.2.1 false qX2_readRoom = true := by decide +kernel
set_option maxRecDepth 100000 in
theorem pX2_readRoom : dm_RP 20 rX2_readRoom := dm_RPof 654 110 653 3 (by decide +kernel)
set_option maxRecDepth 100000 in
theorem oX2_readTenant : dm_okM RX2 rX2_readTenant.2.1 false qX2_readTenant = true := by decide +kernel
set_option maxRecDepth 100000 in
theorem pX2_readTenant : dm_RP 21 rX2_readTenant := dm_RPof 717 110 716 5 (by decide +kernel)
set_option maxRecDepth 100000 in
theorem oX2_readLoves : dm_okM RX2 rX2_readLoves.2.1 false qX2_readLoves = true := by decide +kernel
set_option maxRecDepth 100000 in
theorem pX2_readLoves : dm_RP 22 rX2_readLoves := dm_RPof 756 110 755 7 (by decide +kernel)
set_option maxRecDepth 100000 in
theorem oX2_readErrand : dm_okM RX2 rX2_readErrand.2.1 false qX2_readErrand = true := by decide +kernel
set_option maxRecDepth 100000 in
theorem pX2_readErrand : dm_RP 23 rX2_readErrand := dm_RPof 763 110 762 8 (by decide +kernel)
set_option maxRecDepth 100000 in
theorem oX2_readCoffee : dm_okM RX2 rX2_readCoffee.2.1 false qX2_readCoffee = true := by decide +kernel
set_option maxRecDepth 100000 in
theorem pX2_readCoffee : dm_RP 24 rX2_readCoffee := dm_RPof 775 110 774 9 (by decide +kernel)
set_option maxRecDepth 100000 in
theorem oX2_readEvery : dm_okM RX2 rX2_readEvery.2.1 false qX2_readEvery = true := by decide +kernel
set_option maxRecDepth 100000 in
theorem pX2_readEvery : dm_RP 25 rX2_readEvery := dm_RPof 783 110 782 10 (by decide +kernel)
set_option maxRecDepth 100000 in
theorem oX2_readFact : dm_okM RX2 rX2_readFact.2.1 false qX2_readFact = true := by decide +kernel
set_option maxRecDepth 100000 in
theorem pX2_readFact : dm_RP 26 rX2_readFact := dm_RPof 680 110 679 0 (by decide +kernel)
set_option maxRecDepth 100000 in
theorem oX2_readNewName : dm_okM RX2 rX2_readNewName.2.1 false qX2_readNewName = true := by decide +kernel
set_option maxRecDepth 100000 in
theorem pX2_readNewName : dm_RP 27 rX2_readNewName := dm_RPof 658 110 657 4 (by decide +kernel)
set_option maxRecDepth 100000 in
theorem oX2_readKind : dm_okM RX2 rX2_readKind.2.1 false qX2_readKind = true := by decide +kernel
set_option maxRecDepth 100000 in
theorem pX2_readKind : dm_RP 28 rX2_readKind := dm_RPof 720 110 719 0 (by decide +kernel)
set_option maxRecDepth 100000 in
theorem oX2_readHome : dm_okM RX2 rX2_readHome.2.1 false qX2_readHome = true := by decide +kernel
set_option maxRecDepth 100000 in
theorem pX2_readHome : dm_RP 29 rX2_readHome := dm_RPof 738 110 737 6 (by decide +kernel)
set_option maxRecDepth 100000 in
theorem oX2_isCounted : dm_okM RX2 rX2_isCounted.2.1 false qX2_isCounted = true := by decide +kernel
set_option maxRecDepth 100000 in
theorem pX2_isCounted : dm_RP 30 rX2_isCounted := dm_RPof 1007 110 1005 1006 (by decide +kernel)
set_option maxRecDepth 100000 in
theorem oX2_isKind : dm_okM RX2 rX2_isKind.2.1 false qX2_isKind = true := by decide +kernel
set_option maxRecDepth 100000 in
theorem pX2_isKind : dm_RP 31 rX2_isKind := dm_RPof 973 110 971 972 (by decide +kernel)
set_option maxRecDepth 100000 in
theorem oX2_restOf : dm_okM RX2 rX2_restOf.2.1 false qX2_restOf = true := by decide +kernel
set_option maxRecDepth 100000 in
theorem pX2_restOf : dm_RP 32 rX2_restOf := dm_RPof 943 110 941 942 (by decide +kernel)
set_option maxRecDepth 100000 in
theorem oX2_climbing : dm_okM RX2 rX2_climbing.2.1 false qX2_climbing = true := by decide +kernel
set_option maxRecDepth 100000 in
theorem pX2_climbing : dm_RP 33 rX2_climbing := dm_RPof 969 110 967 968 (by decide +kernel)
set_option maxRecDepth 100000 in
theorem oX2_scare : dm_okM RX2 rX2_scare.2.1 false qX2_scare = true := by decide +kernel
set_option maxRecDepth 100000 in
theorem pX2_scare : dm_RP 34 rX2_scare := dm_RPof 986 110 984 985 (by decide +kernel)
set_option maxRecDepth 100000 in
theorem oX2_calmed : dm_okM RX2 rX2_calmed.2.1 false qX2_calmed = true := by decide +kernel
set_option maxRecDepth 100000 in
theorem pX2_calmed : dm_RP 35 rX2_calmed := dm_RPof 1016 110 1014 1015 (by decide +kernel)
set_option maxRecDepth 100000 in
theorem oX2_dueFor : dm_okM RX2 rX2_dueFor.2.1 false qX2_dueFor = true := by decide +kernel
set_option maxRecDepth 100000 in
theorem pX2_dueFor : dm_RP 36 rX2_dueFor := dm_RPof 1033 110 1031 1032 (by decide +kernel)
set_option maxRecDepth 100000 in
theorem oX2_wishFor : dm_okM RX2 rX2_wishFor.2.1 false qX2_wishFor = true := by decide +kernel
set_option maxRecDepth 100000 in
theorem pX2_wishFor : dm_RP 37 rX2_wishFor := dm_RPof 1147 110 1145 1146 (by decide +kernel)
set_option maxRecDepth 100000 in
theorem oX2_wouldRather : dm_okM RX2 rX2_wouldRather.2.1 false qX2_wouldRather = true := by decide +kernel
set_option maxRecDepth 100000 in
theorem pX2_wouldRather : dm_RP 38 rX2_wouldRather := dm_RPof 1143 110 1141 1142 (by decide +kernel)
set_option maxRecDepth 100000 in
theorem oX3_init : dm_okM RX3 rX3_init.2.1 true qX3_init = true := by decide +kernel
set_option maxRecDepth 100000 in
theorem pX3_init : dm_RP 39 rX3_init := dm_RPof 410 119 409 0 (by decide +kernel)
set_option maxRecDepth 100000 in
theorem oX3_settle : dm_okM RX3 rX3_settle.2.1 false qX3_settle = true := by decide +kernel
set_option maxRecDepth 100000 in
theorem pX3_settle : dm_RP 40 rX3_settle := dm_RPof 1131 119 1129 1130 (by decide +kernel)
set_option maxRecDepth 100000 in
theorem oX3_roomFor : dm_okM RX3 rX3_roomFor.2.1 false qX3_roomFor = true := by decide +kernel
set_option maxRecDepth 100000 in
theorem pX3_roomFor : dm_RP 41 rX3_roomFor := dm_RPof 1151 119 1149 1150 (by decide +kernel)
set_option maxRecDepth 100000 in
theorem oX3_mostRested : dm_okM RX3 rX3_mostRested.2.1 false qX3_mostRested = true := by decide +kernel
set_option maxRecDepth 100000 in
theorem pX3_mostRested : dm_RP 42 rX3_mostRested := dm_RPof 1135 119 1134 0 (by decide +kernel)
set_option maxRecDepth 100000 in
theorem oX3_bestLeft : dm_okM RX3 rX3_bestLeft.2.1 false qX3_bestLeft = true := by decide +kernel
set_option maxRecDepth 100000 in
theorem pX3_bestLeft : dm_RP 43 rX3_bestLeft := dm_RPof 1139 119 1138 0 (by decide +kernel)
set_option maxRecDepth 100000 in
theorem oX4_init : dm_okM RX4 rX4_init.2.1 true qX4_init = true := by decide +kernel
set_option maxRecDepth 100000 in
theorem pX4_init : dm_RP 44 rX4_init := dm_RPof 293 114 292 0 (by decide +kernel)
set_option maxRecDepth 100000 in
theorem oX4_readFrom : dm_okM RX4 rX4_readFrom.2.1 false qX4_readFrom = true := by decide +kernel
set_option maxRecDepth 100000 in
theorem pX4_readFrom : dm_RP 45 rX4_readFrom := dm_RPof 868 114 866 867 (by decide +kernel)
set_option maxRecDepth 100000 in
theorem oX4_deedOn : dm_okM RX4 rX4_deedOn.2.1 false qX4_deedOn = true := by decide +kernel
set_option maxRecDepth 100000 in
theorem pX4_deedOn : dm_RP 46 rX4_deedOn := dm_RPof 873 114 872 0 (by decide +kernel)
set_option maxRecDepth 100000 in
theorem oX4_readLine : dm_okM RX4 rX4_readLine.2.1 false qX4_readLine = true := by decide +kernel
set_option maxRecDepth 100000 in
theorem pX4_readLine : dm_RP 47 rX4_readLine := dm_RPof 892 114 891 18 (by decide +kernel)
set_option maxRecDepth 100000 in
theorem oX5_init : dm_okM RX5 rX5_init.2.1 true qX5_init = true := by decide +kernel
set_option maxRecDepth 100000 in
theorem pX5_init : dm_RP 48 rX5_init := dm_RPof 378 118 377 0 (by decide +kernel)
