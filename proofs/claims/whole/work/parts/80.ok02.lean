set_option maxRecDepth 100000 in
theorem oX5_find : dm_okM RX5 rX5_find.2.1 false qX5_find = true := by decide +kernel
set_option maxRecDepth 100000 in
theorem pX5_find : dm_RP 49 rX5_find := dm_RPof 4034 11 4032 4033 (by decide +kernel)
set_option maxRecDepth 100000 in
theorem oX5_stop : dm_okM RX5 rX5_stop.2.1 false qX5_stop = true := by decide +kernel
set_option maxRecDepth 100000 in
theorem pX5_stop : dm_RP 50 rX5_stop := dm_RPof 4056 11 4054 4055 (by decide +kernel)
set_option maxRecDepth 100000 in
theorem oX5_extend : dm_okM RX5 rX5_extend.2.1 false qX5_extend = true := by decide +kernel
set_option maxRecDepth 100000 in
theorem pX5_extend : dm_RP 51 rX5_extend := dm_RPof 4039 11 4038 100106 (by decide +kernel)
set_option maxRecDepth 100000 in
theorem oX5_goOn : dm_okM RX5 rX5_goOn.2.1 false qX5_goOn = true := by decide +kernel
set_option maxRecDepth 100000 in
theorem pX5_goOn : dm_RP 52 rX5_goOn := dm_RPof 4044 11 4043 100107 (by decide +kernel)
set_option maxRecDepth 100000 in
theorem oX5_walk : dm_okM RX5 rX5_walk.2.1 false qX5_walk = true := by decide +kernel
set_option maxRecDepth 100000 in
theorem pX5_walk : dm_RP 53 rX5_walk := dm_RPof 4048 11 4047 100108 (by decide +kernel)
set_option maxRecDepth 100000 in
theorem oX6_init : dm_okM RX6 rX6_init.2.1 true qX6_init = true := by decide +kernel
set_option maxRecDepth 100000 in
theorem pX6_init : dm_RP 54 rX6_init := dm_RPof 1014 10 1013 0 (by decide +kernel)
set_option maxRecDepth 100000 in
theorem oX6_add : dm_okM RX6 rX6_add.2.1 false qX6_add = true := by decide +kernel
set_option maxRecDepth 100000 in
theorem pX6_add : dm_RP 55 rX6_add := dm_RPof 4118 10 4116 4117 (by decide +kernel)
set_option maxRecDepth 100000 in
theorem oX6_copyFrom : dm_okM RX6 rX6_copyFrom.2.1 false qX6_copyFrom = true := by decide +kernel
set_option maxRecDepth 100000 in
theorem pX6_copyFrom : dm_RP 56 rX6_copyFrom := dm_RPof 4185 10 4183 4184 (by decide +kernel)
set_option maxRecDepth 100000 in
theorem oX6_allow : dm_okM RX6 rX6_allow.2.1 false qX6_allow = true := by decide +kernel
set_option maxRecDepth 100000 in
theorem pX6_allow : dm_RP 57 rX6_allow := dm_RPof 4149 10 4147 4148 (by decide +kernel)
set_option maxRecDepth 100000 in
theorem oX7_init : dm_okM RX7 rX7_init.2.1 true qX7_init = true := by decide +kernel
set_option maxRecDepth 100000 in
theorem pX7_init : dm_RP 58 rX7_init := dm_RPof 210 8 209 0 (by decide +kernel)
set_option maxRecDepth 100000 in
theorem oX7_begin : dm_okM RX7 rX7_begin.2.1 false qX7_begin = true := by decide +kernel
set_option maxRecDepth 100000 in
theorem pX7_begin : dm_RP 59 rX7_begin := dm_RPof 3030 8 3028 3029 (by decide +kernel)
set_option maxRecDepth 100000 in
theorem oX7_copyFrom : dm_okM RX7 rX7_copyFrom.2.1 false qX7_copyFrom = true := by decide +kernel
set_option maxRecDepth 100000 in
theorem pX7_copyFrom : dm_RP 60 rX7_copyFrom := dm_RPof 3130 8 3128 3129 (by decide +kernel)
set_option maxRecDepth 100000 in
theorem oX7_isIn : dm_okM RX7 rX7_isIn.2.1 false qX7_isIn = true := by decide +kernel
set_option maxRecDepth 100000 in
theorem pX7_isIn : dm_RP 61 rX7_isIn := dm_RPof 3104 8 3102 3103 (by decide +kernel)
set_option maxRecDepth 100000 in
theorem oX7_isEvicted : dm_okM RX7 rX7_isEvicted.2.1 false qX7_isEvicted = true := by decide +kernel
set_option maxRecDepth 100000 in
theorem pX7_isEvicted : dm_RP 62 rX7_isEvicted := dm_RPof 3092 8 3090 3091 (by decide +kernel)
set_option maxRecDepth 100000 in
theorem oX7_inBits : dm_okM RX7 rX7_inBits.2.1 false qX7_inBits = true := by decide +kernel
set_option maxRecDepth 100000 in
theorem pX7_inBits : dm_RP 63 rX7_inBits := dm_RPof 3112 8 3110 3111 (by decide +kernel)
set_option maxRecDepth 100000 in
theorem oX7_whoIsIn : dm_okM RX7 rX7_whoIsIn.2.1 false qX7_whoIsIn = true := by decide +kernel
set_option maxRecDepth 100000 in
theorem pX7_whoIsIn : dm_RP 64 rX7_whoIsIn := dm_RPof 3078 8 3076 3077 (by decide +kernel)
set_option maxRecDepth 100000 in
theorem oX7_coinsOfAll : dm_okM RX7 rX7_coinsOfAll.2.1 false qX7_coinsOfAll = true := by decide +kernel
set_option maxRecDepth 100000 in
theorem pX7_coinsOfAll : dm_RP 65 rX7_coinsOfAll := dm_RPof 4194 8 4192 4193 (by decide +kernel)
set_option maxRecDepth 100000 in
theorem oX7_factOf : dm_okM RX7 rX7_factOf.2.1 false qX7_factOf = true := by decide +kernel
set_option maxRecDepth 100000 in
theorem pX7_factOf : dm_RP 66 rX7_factOf := dm_RPof 3087 8 3085 3086 (by decide +kernel)
set_option maxRecDepth 100000 in
theorem oX7_pulseOf : dm_okM RX7 rX7_pulseOf.2.1 false qX7_pulseOf = true := by decide +kernel
set_option maxRecDepth 100000 in
theorem pX7_pulseOf : dm_RP 67 rX7_pulseOf := dm_RPof 3100 8 3098 3099 (by decide +kernel)
set_option maxRecDepth 100000 in
theorem oX7_steadyBeats : dm_okM RX7 rX7_steadyBeats.2.1 false qX7_steadyBeats = true := by decide +kernel
set_option maxRecDepth 100000 in
theorem pX7_steadyBeats : dm_RP 68 rX7_steadyBeats := dm_RPof 3108 8 3107 100103 (by decide +kernel)
set_option maxRecDepth 100000 in
theorem oX7_doClimb : dm_okM RX7 rX7_doClimb.2.1 false qX7_doClimb = true := by decide +kernel
set_option maxRecDepth 100000 in
theorem pX7_doClimb : dm_RP 69 rX7_doClimb := dm_RPof 3138 8 3136 3137 (by decide +kernel)
set_option maxRecDepth 100000 in
theorem oX7_doFright : dm_okM RX7 rX7_doFright.2.1 false qX7_doFright = true := by decide +kernel
set_option maxRecDepth 100000 in
theorem pX7_doFright : dm_RP 70 rX7_doFright := dm_RPof 3155 8 3153 3154 (by decide +kernel)
set_option maxRecDepth 100000 in
theorem oX7_doDrink : dm_okM RX7 rX7_doDrink.2.1 false qX7_doDrink = true := by decide +kernel
set_option maxRecDepth 100000 in
theorem pX7_doDrink : dm_RP 71 rX7_doDrink := dm_RPof 3168 8 3166 3167 (by decide +kernel)
set_option maxRecDepth 100000 in
theorem oX7_canMove : dm_okM RX7 rX7_canMove.2.1 false qX7_canMove = true := by decide +kernel
set_option maxRecDepth 100000 in
theorem pX7_canMove : dm_RP 72 rX7_canMove := dm_RPof 3223 8 3221 3222 (by decide +kernel)
set_option maxRecDepth 100000 in
theorem oX7_doMove : dm_okM RX7 rX7_doMove.2.1 false qX7_doMove = true := by decide +kernel
set_option maxRecDepth 100000 in
theorem pX7_doMove : dm_RP 73 rX7_doMove := dm_RPof 3228 8 3226 3227 (by decide +kernel)
set_option maxRecDepth 100000 in
theorem oX7_passMinutes : dm_okM RX7 rX7_passMinutes.2.1 false qX7_passMinutes = true := by decide +kernel
set_option maxRecDepth 100000 in
theorem pX7_passMinutes : dm_RP 74 rX7_passMinutes := dm_RPof 3176 8 3174 3175 (by decide +kernel)
set_option maxRecDepth 100000 in
theorem oX7_countBeats : dm_okM RX7 rX7_countBeats.2.1 false qX7_countBeats = true := by decide +kernel
set_option maxRecDepth 100000 in
theorem pX7_countBeats : dm_RP 75 rX7_countBeats := dm_RPof 3184 8 3183 100105 (by decide +kernel)
set_option maxRecDepth 100000 in
theorem oX7_dueOf : dm_okM RX7 rX7_dueOf.2.1 false qX7_dueOf = true := by decide +kernel
set_option maxRecDepth 100000 in
theorem pX7_dueOf : dm_RP 76 rX7_dueOf := dm_RPof 3202 8 3200 3201 (by decide +kernel)
