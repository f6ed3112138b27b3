set_option maxRecDepth 100000 in
theorem oX0_init : dm_okM RX0 rX0_init.2.1 true qX0_init = true := by decide +kernel
set_option maxRecDepth 100000 in
theorem pX0_init : dm_RP 0 rX0_init := dm_RPof 1076 13 1075 0 (by decide +kernel)
set_option maxRecDepth 100000 in
theorem oX0_find : dm_okM RX0 rX0_find.2.1 false qX0_find = true := by decide +kernel
set_option maxRecDepth 100000 in
theorem pX0_find : dm_RP 1 rX0_find := dm_RPof 4135 13 4133 4134 (by decide +kernel)
set_option maxRecDepth 100000 in
theorem oX0_live : dm_okM RX0 rX0_live.2.1 false qX0_live = true := by decide +kernel
set_option maxRecDepth 100000 in
theorem pX0_live : dm_RP 2 rX0_live := dm_RPof 4140 13 4139 100111 (by decide +kernel)
set_option maxRecDepth 100000 in
theorem oX0_liveBy : dm_okM RX0 rX0_liveBy.2.1 false qX0_liveBy = true := by decide +kernel
set_option maxRecDepth 100000 in
theorem pX0_liveBy : dm_RP 3 rX0_liveBy := dm_RPof 4152 13 4151 100113 (by decide +kernel)
set_option maxRecDepth 100000 in
theorem oX0_keepDay : dm_okM RX0 rX0_keepDay.2.1 false qX0_keepDay = true := by decide +kernel
set_option maxRecDepth 100000 in
theorem pX0_keepDay : dm_RP 4 rX0_keepDay := dm_RPof 4144 13 4143 100112 (by decide +kernel)
set_option maxRecDepth 100000 in
theorem oX0_bestMinute : dm_okM RX0 rX0_bestMinute.2.1 false qX0_bestMinute = true := by decide +kernel
set_option maxRecDepth 100000 in
theorem pX0_bestMinute : dm_RP 5 rX0_bestMinute := dm_RPof 4171 13 4169 4170 (by decide +kernel)
set_option maxRecDepth 100000 in
theorem oX1_init : dm_okM RX1 rX1_init.2.1 true qX1_init = true := by decide +kernel
set_option maxRecDepth 100000 in
theorem pX1_init : dm_RP 6 rX1_init := dm_RPof 114 6 113 0 (by decide +kernel)
set_option maxRecDepth 100000 in
theorem oX1_readFrom : dm_okM RX1 rX1_readFrom.2.1 false qX1_readFrom = true := by decide +kernel
set_option maxRecDepth 100000 in
theorem pX1_readFrom : dm_RP 7 rX1_readFrom := dm_RPof 2205 6 2203 2204 (by decide +kernel)
set_option maxRecDepth 100000 in
theorem oX1_readE : dm_okM RX1 rX1_readE.2.1 false qX1_readE = true := by decide +kernel
set_option maxRecDepth 100000 in
theorem pX1_readE : dm_RP 8 rX1_readE := dm_RPof 2211 6 2210 100011 (by decide +kernel)
set_option maxRecDepth 100000 in
theorem oX1_readTest : dm_okM RX1 rX1_readTest.2.1 false qX1_readTest = true := by decide +kernel
set_option maxRecDepth 100000 in
theorem pX1_readTest : dm_RP 9 rX1_readTest := dm_RPof 2215 6 2214 100012 (by decide +kernel)
set_option maxRecDepth 100000 in
theorem oX1_readSum : dm_okM RX1 rX1_readSum.2.1 false qX1_readSum = true := by decide +kernel
set_option maxRecDepth 100000 in
theorem pX1_readSum : dm_RP 10 rX1_readSum := dm_RPof 2219 6 2218 100013 (by decide +kernel)
set_option maxRecDepth 100000 in
theorem oX1_readProduct : dm_okM RX1 rX1_readProduct.2.1 false qX1_readProduct = true := by decide +kernel
set_option maxRecDepth 100000 in
theorem pX1_readProduct : dm_RP 11 rX1_readProduct := dm_RPof 2223 6 2222 100014 (by decide +kernel)
set_option maxRecDepth 100000 in
theorem oX1_readPart : dm_okM RX1 rX1_readPart.2.1 false qX1_readPart = true := by decide +kernel
set_option maxRecDepth 100000 in
theorem pX1_readPart : dm_RP 12 rX1_readPart := dm_RPof 2227 6 2226 100015 (by decide +kernel)
set_option maxRecDepth 100000 in
theorem oX1_factOn : dm_okM RX1 rX1_factOn.2.1 false qX1_factOn = true := by decide +kernel
set_option maxRecDepth 100000 in
theorem pX1_factOn : dm_RP 13 rX1_factOn := dm_RPof 2231 6 2230 100100 (by decide +kernel)
set_option maxRecDepth 100000 in
theorem oX1_addStep : dm_okM RX1 rX1_addStep.2.1 false qX1_addStep = true := by decide +kernel
set_option maxRecDepth 100000 in
theorem pX1_addStep : dm_RP 14 rX1_addStep := dm_RPof 3018 6 3017 100101 (by decide +kernel)
set_option maxRecDepth 100000 in
theorem oX1_value : dm_okM RX1 rX1_value.2.1 false qX1_value = true := by decide +kernel
set_option maxRecDepth 100000 in
theorem pX1_value : dm_RP 15 rX1_value := dm_RPof 3219 6 3217 3218 (by decide +kernel)
set_option maxRecDepth 100000 in
theorem oX1_joined : dm_okM RX1 rX1_joined.2.1 false qX1_joined = true := by decide +kernel
set_option maxRecDepth 100000 in
theorem pX1_joined : dm_RP 16 rX1_joined := dm_RPof 3222 6 3221 0 (by decide +kernel)
set_option maxRecDepth 100000 in
theorem oX2_init : dm_okM RX2 rX2_init.2.1 true qX2_init = true := by decide +kernel
set_option maxRecDepth 100000 in
theorem pX2_init : dm_RP 17 rX2_init := dm_RPof 81 3 80 0 (by decide +kernel)
set_option maxRecDepth 100000 in
theorem oX2_readFrom : dm_okM RX2 rX2_readFrom.2.1 false qX2_readFrom = true := by decide +kernel
set_option maxRecDepth 100000 in
theorem pX2_readFrom : dm_RP 18 rX2_readFrom := dm_RPof 1176 3 1174 1175 (by decide +kernel)
set_option maxRecDepth 100000 in
theorem oX2_clear : dm_okM RX2 rX2_clear.2.1 false qX2_clear = true := by decide +kernel
set_option maxRecDepth 100000 in
theorem pX2_clear : dm_RP 19 rX2_clear := dm_RPof 1180 3 1179 100000 (by decide +kernel)
