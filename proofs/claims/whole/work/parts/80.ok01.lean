set_option maxRecDepth 100000 in
theorem oX2_readRoom : dm_okM RX2 rX2_readRoom.2.1 false qX2_readRoom = true := by decide +kernel
set_option maxRecDepth 100000 in
theorem pX2_readRoom : dm_RP 20 rX2_readRoom := dm_RPof 2070 3 2069 100003 (by decide +kernel)
set_option maxRecDepth 100000 in
theorem oX2_readTenant : dm_okM RX2 rX2_readTenant.2.1 false qX2_readTenant = true := by decide +kernel
set_option maxRecDepth 100000 in
theorem pX2_readTenant : dm_RP 21 rX2_readTenant := dm_RPof 2133 3 2132 100005 (by decide +kernel)
set_option maxRecDepth 100000 in
theorem oX2_readLoves : dm_okM RX2 rX2_readLoves.2.1 false qX2_readLoves = true := by decide +kernel
set_option maxRecDepth 100000 in
theorem pX2_readLoves : dm_RP 22 rX2_readLoves := dm_RPof 2172 3 2171 100007 (by decide +kernel)
set_option maxRecDepth 100000 in
theorem oX2_readErrand : dm_okM RX2 rX2_readErrand.2.1 false qX2_readErrand = true := by decide +kernel
set_option maxRecDepth 100000 in
theorem pX2_readErrand : dm_RP 23 rX2_readErrand := dm_RPof 2179 3 2178 100008 (by decide +kernel)
set_option maxRecDepth 100000 in
theorem oX2_readCoffee : dm_okM RX2 rX2_readCoffee.2.1 false qX2_readCoffee = true := by decide +kernel
set_option maxRecDepth 100000 in
theorem pX2_readCoffee : dm_RP 24 rX2_readCoffee := dm_RPof 2191 3 2190 100009 (by decide +kernel)
set_option maxRecDepth 100000 in
theorem oX2_readEvery : dm_okM RX2 rX2_readEvery.2.1 false qX2_readEvery = true := by decide +kernel
set_option maxRecDepth 100000 in
theorem pX2_readEvery : dm_RP 25 rX2_readEvery := dm_RPof 2199 3 2198 100010 (by decide +kernel)
set_option maxRecDepth 100000 in
theorem oX2_readFact : dm_okM RX2 rX2_readFact.2.1 false qX2_readFact = true := by decide +kernel
set_option maxRecDepth 100000 in
theorem pX2_readFact : dm_RP 26 rX2_readFact := dm_RPof 2096 3 2095 0 (by decide +kernel)
set_option maxRecDepth 100000 in
theorem oX2_readNewName : dm_okM RX2 rX2_readNewName.2.1 false qX2_readNewName = true := by decide +kernel
set_option maxRecDepth 100000 in
theorem pX2_readNewName : dm_RP 27 rX2_readNewName := dm_RPof 2074 3 2073 100004 (by decide +kernel)
set_option maxRecDepth 100000 in
theorem oX2_readKind : dm_okM RX2 rX2_readKind.2.1 false qX2_readKind = true := by decide +kernel
set_option maxRecDepth 100000 in
theorem pX2_readKind : dm_RP 28 rX2_readKind := dm_RPof 2136 3 2135 0 (by decide +kernel)
set_option maxRecDepth 100000 in
theorem oX2_readHome : dm_okM RX2 rX2_readHome.2.1 false qX2_readHome = true := by decide +kernel
set_option maxRecDepth 100000 in
theorem pX2_readHome : dm_RP 29 rX2_readHome := dm_RPof 2154 3 2153 100006 (by decide +kernel)
set_option maxRecDepth 100000 in
theorem oX2_isCounted : dm_okM RX2 rX2_isCounted.2.1 false qX2_isCounted = true := by decide +kernel
set_option maxRecDepth 100000 in
theorem pX2_isCounted : dm_RP 30 rX2_isCounted := dm_RPof 3187 3 3185 3186 (by decide +kernel)
set_option maxRecDepth 100000 in
theorem oX2_isKind : dm_okM RX2 rX2_isKind.2.1 false qX2_isKind = true := by decide +kernel
set_option maxRecDepth 100000 in
theorem pX2_isKind : dm_RP 31 rX2_isKind := dm_RPof 3153 3 3151 3152 (by decide +kernel)
set_option maxRecDepth 100000 in
theorem oX2_restOf : dm_okM RX2 rX2_restOf.2.1 false qX2_restOf = true := by decide +kernel
set_option maxRecDepth 100000 in
theorem pX2_restOf : dm_RP 32 rX2_restOf := dm_RPof 3119 3 3117 3118 (by decide +kernel)
set_option maxRecDepth 100000 in
theorem oX2_climbing : dm_okM RX2 rX2_climbing.2.1 false qX2_climbing = true := by decide +kernel
set_option maxRecDepth 100000 in
theorem pX2_climbing : dm_RP 33 rX2_climbing := dm_RPof 3149 3 3147 3148 (by decide +kernel)
set_option maxRecDepth 100000 in
theorem oX2_scare : dm_okM RX2 rX2_scare.2.1 false qX2_scare = true := by decide +kernel
set_option maxRecDepth 100000 in
theorem pX2_scare : dm_RP 34 rX2_scare := dm_RPof 3166 3 3164 3165 (by decide +kernel)
set_option maxRecDepth 100000 in
theorem oX2_calmed : dm_okM RX2 rX2_calmed.2.1 false qX2_calmed = true := by decide +kernel
set_option maxRecDepth 100000 in
theorem pX2_calmed : dm_RP 35 rX2_calmed := dm_RPof 3199 3 3197 3198 (by decide +kernel)
set_option maxRecDepth 100000 in
theorem oX2_dueFor : dm_okM RX2 rX2_dueFor.2.1 false qX2_dueFor = true := by decide +kernel
set_option maxRecDepth 100000 in
theorem pX2_dueFor : dm_RP 36 rX2_dueFor := dm_RPof 3215 3 3213 3214 (by decide +kernel)
set_option maxRecDepth 100000 in
theorem oX2_wishFor : dm_okM RX2 rX2_wishFor.2.1 false qX2_wishFor = true := by decide +kernel
set_option maxRecDepth 100000 in
theorem pX2_wishFor : dm_RP 37 rX2_wishFor := dm_RPof 4089 3 4087 4088 (by decide +kernel)
set_option maxRecDepth 100000 in
theorem oX2_wouldRather : dm_okM RX2 rX2_wouldRather.2.1 false qX2_wouldRather = true := by decide +kernel
set_option maxRecDepth 100000 in
theorem pX2_wouldRather : dm_RP 38 rX2_wouldRather := dm_RPof 4085 3 4083 4084 (by decide +kernel)
set_option maxRecDepth 100000 in
theorem oX3_init : dm_okM RX3 rX3_init.2.1 true qX3_init = true := by decide +kernel
set_option maxRecDepth 100000 in
theorem pX3_init : dm_RP 39 rX3_init := dm_RPof 1066 12 1065 0 (by decide +kernel)
set_option maxRecDepth 100000 in
theorem oX3_settle : dm_okM RX3 rX3_settle.2.1 false qX3_settle = true := by decide +kernel
set_option maxRecDepth 100000 in
theorem pX3_settle : dm_RP 40 rX3_settle := dm_RPof 4073 12 4071 4072 (by decide +kernel)
set_option maxRecDepth 100000 in
theorem oX3_roomFor : dm_okM RX3 rX3_roomFor.2.1 false qX3_roomFor = true := by decide +kernel
set_option maxRecDepth 100000 in
theorem pX3_roomFor : dm_RP 41 rX3_roomFor := dm_RPof 4093 12 4091 4092 (by decide +kernel)
set_option maxRecDepth 100000 in
theorem oX3_mostRested : dm_okM RX3 rX3_mostRested.2.1 false qX3_mostRested = true := by decide +kernel
set_option maxRecDepth 100000 in
theorem pX3_mostRested : dm_RP 42 rX3_mostRested := dm_RPof 4077 12 4076 0 (by decide +kernel)
set_option maxRecDepth 100000 in
theorem oX3_bestLeft : dm_okM RX3 rX3_bestLeft.2.1 false qX3_bestLeft = true := by decide +kernel
set_option maxRecDepth 100000 in
theorem pX3_bestLeft : dm_RP 43 rX3_bestLeft := dm_RPof 4081 12 4080 0 (by decide +kernel)
set_option maxRecDepth 100000 in
theorem oX4_init : dm_okM RX4 rX4_init.2.1 true qX4_init = true := by decide +kernel
set_option maxRecDepth 100000 in
theorem pX4_init : dm_RP 44 rX4_init := dm_RPof 186 7 185 0 (by decide +kernel)
set_option maxRecDepth 100000 in
theorem oX4_readFrom : dm_okM RX4 rX4_readFrom.2.1 false qX4_readFrom = true := by decide +kernel
set_option maxRecDepth 100000 in
theorem pX4_readFrom : dm_RP 45 rX4_readFrom := dm_RPof 3044 7 3042 3043 (by decide +kernel)
set_option maxRecDepth 100000 in
theorem oX4_deedOn : dm_okM RX4 rX4_deedOn.2.1 false qX4_deedOn = true := by decide +kernel
set_option maxRecDepth 100000 in
theorem pX4_deedOn : dm_RP 46 rX4_deedOn := dm_RPof 3049 7 3048 0 (by decide +kernel)
set_option maxRecDepth 100000 in
theorem oX4_readLine : dm_okM RX4 rX4_readLine.2.1 false qX4_readLine = true := by decide +kernel
set_option maxRecDepth 100000 in
theorem pX4_readLine : dm_RP 47 rX4_readLine := dm_RPof 3068 7 3067 100102 (by decide +kernel)
set_option maxRecDepth 100000 in
theorem oX5_init : dm_okM RX5 rX5_init.2.1 true qX5_init = true := by decide +kernel
set_option maxRecDepth 100000 in
theorem pX5_init : dm_RP 48 rX5_init := dm_RPof 1034 11 1033 0 (by decide +kernel)
