set_option maxRecDepth 100000 in
theorem oX0_init : dm_okM RX0 rX0_init.2.1 true qX0_init = true := by decide +kernel
set_option maxRecDepth 100000 in
theorem pX0_init : dm_RP 0 rX0_init := dm_RPof 1073 13 1072 0 (by decide +kernel)
set_option maxRecDepth 100000 in
theorem oX0_find : dm_okM RX0 rX0_find.2.1 false qX0_find = true := by decide +kernel
set_option maxRecDepth 100000 in
theorem pX0_find : dm_RP 1 rX0_find := dm_RPof 4126 13 4124 4125 (by decide +kernel)
set_option maxRecDepth 100000 in
theorem oX0_live : dm_okM RX0 rX0_live.2.1 false qX0_live = true := by decide +kernel
set_option maxRecDepth 100000 in
theorem pX0_live : dm_RP 2 rX0_live := dm_RPof 4131 13 4130 100109 (by decide +kernel)
set_option maxRecDepth 100000 in
theorem oX0_liveBy : dm_okM RX0 rX0_liveBy.2.1 false qX0_liveBy = true := by decide +kernel
set_option maxRecDepth 100000 in
theorem pX0_liveBy : dm_RP 3 rX0_liveBy := dm_RPof 4143 13 4142 100111 (by decide +kernel)
set_option maxRecDepth 100000 in
theorem oX0_keepDay : dm_okM RX0 rX0_keepDay.2.1 false qX0_keepDay = true := by decide +kernel
set_option maxRecDepth 100000 in
theorem pX0_keepDay : dm_RP 4 rX0_keepDay := dm_RPof 4135 13 4134 100110 (by decide +kernel)
set_option maxRecDepth 100000 in
theorem oX0_bestMinute : dm_okM RX0 rX0_bestMinute.2.1 false qX0_bestMinute = true := by decide +kernel
set_option maxRecDepth 100000 in
theorem pX0_bestMinute : dm_RP 5 rX0_bestMinute := dm_RPof 4162 13 4160 4161 (by decide +kernel)
set_option maxRecDepth 100000 in
theorem oX1_init : dm_okM RX1 rX1_init.2.1 true qX1_init = true := by decide +kernel
set_option maxRecDepth 100000 in
theorem pX1_init : dm_RP 6 rX1_init := dm_RPof 114 6 113 0 (by decide +kernel)
set_option maxRecDepth 100000 in
theorem oX1_readFrom : dm_okM RX1 rX1_readFrom.2.1 false qX1_readFrom = true := by decide +kernel
set_option maxRecDepth 100000 in
theorem pX1_readFrom : dm_RP 7 rX1_readFrom := dm_RPof 2202 6 2200 2201 (by decide +kernel)
set_option maxRecDepth 100000 in
theorem oX1_readE : dm_okM RX1 rX1_readE.2.1 false qX1_readE = true := by decide +kernel
set_option maxRecDepth 100000 in
theorem pX1_readE : dm_RP 8 rX1_readE := dm_RPof 2208 6 2207 100011 (by decide +kernel)
set_option maxRecDepth 100000 in
theorem oX1_readTest : dm_okM RX1 rX1_readTest.2.1 false qX1_readTest = true := by decide +kernel
set_option maxRecDepth 100000 in
theorem pX1_readTest : dm_RP 9 rX1_readTest := dm_RPof 2212 6 2211 100012 (by decide +kernel)
set_option maxRecDepth 100000 in
theorem oX1_readSum : dm_okM RX1 rX1_readSum.2.1 false qX1_readSum = true := by decide +kernel
set_option maxRecDepth 100000 in
theorem pX1_readSum : dm_RP 10 rX1_readSum := dm_RPof 2216 6 2215 100013 (by decide +kernel)
set_option maxRecDepth 100000 in
theorem oX1_readProduct : dm_okM RX1 rX1_readProduct.2.1 false qX1_readProduct = true := by decide +kernel
set_option maxRecDepth 100000 in
theorem pX1_readProduct : dm_RP 11 rX1_readProduct := dm_RPof 2220 6 2219 100014 (by decide +kernel)
set_option maxRecDepth 100000 in
theorem oX1_readPart : dm_okM RX1 rX1_readPart.2.1 false qX1_readPart = true := by decide +kernel
set_option maxRecDepth 100000 in
theorem pX1_readPart : dm_RP 12 rX1_readPart := dm_RPof 2224 6 2223 100015 (by decide +kernel)
set_option maxRecDepth 100000 in
theorem oX1_factOn : dm_okM RX1 rX1_factOn.2.1 false qX1_factOn = true := by decide +kernel
set_option maxRecDepth 100000 in
theorem pX1_factOn : dm_RP 13 rX1_factOn := dm_RPof 2228 6 2227 100100 (by decide +kernel)
set_option maxRecDepth 100000 in
theorem oX1_addStep : dm_okM RX1 rX1_addStep.2.1 false qX1_addStep = true := by decide +kernel
set_option maxRecDepth 100000 in
theorem pX1_addStep : dm_RP 14 rX1_addStep := dm_RPof 3015 6 3014 100101 (by decide +kernel)
set_option maxRecDepth 100000 in
theorem oX1_value : dm_okM RX1 rX1_value.2.1 false qX1_value = true := by decide +kernel
set_option maxRecDepth 100000 in
theorem pX1_value : dm_RP 15 rX1_value := dm_RPof 3210 6 3208 3209 (by decide +kernel)
set_option maxRecDepth 100000 in
theorem oX1_joined : dm_okM RX1 rX1_joined.2.1 false qX1_joined = true := by decide +kernel
set_option maxRecDepth 100000 in
theorem pX1_joined : dm_RP 16 rX1_joined := dm_RPof 3213 6 3212 0 (by decide +kernel)
set_option maxRecDepth 100000 in
theorem oX2_init : dm_okM RX2 rX2_init.2.1 true qX2_init = true := by decide +kernel
set_option maxRecDepth 100000 in
theorem pX2_init : dm_RP 17 rX2_init := dm_RPof 81 3 80 0 (by decide +kernel)
set_option maxRecDepth 100000 in
theorem oX2_readFrom : dm_okM RX2 rX2_readFrom.2.1 false qX2_readFrom = true := by decide +kernel
set_option maxRecDepth 100000 in
theorem pX2_readFrom : dm_RP 18 rX2_readFrom := dm_RPof 1173 3 1171 1172 (by decide +kernel)
set_option maxRecDepth 100000 in
theorem oX2_clear : dm_okM RX2 rX2_clear.2.1 false qX2_clear = true := by decide +kernel
set_option maxRecDepth 100000 in
theorem pX2_clear : dm_RP 19 rX2_clear := dm_RPof 1177 3 1176 100000 (by decide +kernel)
