set_option maxRecDepth 100000 in
theorem oX5_find : dm_okM RX5 rX5_find.2.1 false qX5_find = true := by decide +kernel
set_option maxRecDepth 100000 in
theorem pX5_find : dm_RP 49 rX5_find := dm_RPof 4043 11 4041 4042 (by decide +kernel)
set_option maxRecDepth 100000 in
theorem oX5_stop : dm_okM RX5 rX5_stop.2.1 false qX5_stop = true := by decide +kernel
set_option maxRecDepth 100000 in
theorem pX5_stop : dm_RP 50 rX5_stop := dm_RPof 4065 11 4063 4064 (by decide +kernel)
set_option maxRecDepth 100000 in
theorem oX5_extend : dm_okM RX5 rX5_extend.2.1 false qX5_extend = true := by decide +kernel
set_option maxRecDepth 100000 in
theorem pX5_extend : dm_RP 51 rX5_extend := dm_RPof 4048 11 4047 100108 (by decide +kernel)
set_option maxRecDepth 100000 in
theorem oX5_goOn : dm_okM RX5 rX5_goOn.2.1 false qX5_goOn = true := by decide +kernel
set_option maxRecDepth 100000 in
theorem pX5_goOn : dm_RP 52 rX5_goOn := dm_RPof 4053 11 4052 100109 (by decide +kernel)
set_option maxRecDepth 100000 in
theorem oX5_walk : dm_okM RX5 rX5_walk.2.1 false qX5_walk = true := by decide +kernel
set_option maxRecDepth 100000 in
theorem pX5_walk : dm_RP 53 rX5_walk := dm_RPof 4057 11 4056 100110 (by decide +kernel)
set_option maxRecDepth 100000 in
theorem oX6_init : dm_okM RX6 rX6_init.2.1 true qX6_init = true := by decide +kernel
set_option maxRecDepth 100000 in
theorem pX6_init : dm_RP 54 rX6_init := dm_RPof 1017 10 1016 0 (by decide +kernel)
set_option maxRecDepth 100000 in
theorem oX6_add : dm_okM RX6 rX6_add.2.1 false qX6_add = true := by decide +kernel
set_option maxRecDepth 100000 in
theorem pX6_add : dm_RP 55 rX6_add := dm_RPof 4127 10 4125 4126 (by decide +kernel)
set_option maxRecDepth 100000 in
theorem oX6_copyFrom : dm_okM RX6 rX6_copyFrom.2.1 false qX6_copyFrom = true := by decide +kernel
set_option maxRecDepth 100000 in
theorem pX6_copyFrom : dm_RP 56 rX6_copyFrom := dm_RPof 4194 10 4192 4193 (by decide +kernel)
set_option maxRecDepth 100000 in
theorem oX6_allow : dm_okM RX6 rX6_allow.2.1 false qX6_allow = true := by decide +kernel
set_option maxRecDepth 100000 in
theorem pX6_allow : dm_RP 57 rX6_allow := dm_RPof 4158 10 4156 4157 (by decide +kernel)
set_option maxRecDepth 100000 in
theorem oX7_init : dm_okM RX7 rX7_init.2.1 true qX7_init = true := by decide +kernel
set_option maxRecDepth 100000 in
theorem pX7_init : dm_RP 58 rX7_init := dm_RPof 210 8 209 0 (by decide +kernel)
set_option maxRecDepth 100000 in
theorem oX7_begin : dm_okM RX7 rX7_begin.2.1 false qX7_begin = true := by decide +kernel
set_option maxRecDepth 100000 in
theorem pX7_begin : dm_RP 59 rX7_begin := dm_RPof 3033 8 3031 3032 (by decide +kernel)
set_option maxRecDepth 100000 in
theorem oX7_copyFrom : dm_okM RX7 rX7_copyFrom.2.1 false qX7_copyFrom = true := by decide +kernel
set_option maxRecDepth 100000 in
theorem pX7_copyFrom : dm_RP 60 rX7_copyFrom := dm_RPof 3137 8 3135 3136 (by decide +kernel)
set_option maxRecDepth 100000 in
theorem oX7_isIn : dm_okM RX7 rX7_isIn.2.1 false qX7_isIn = true := by decide +kernel
set_option maxRecDepth 100000 in
theorem pX7_isIn : dm_RP 61 rX7_isIn := dm_RPof 3107 8 3105 3106 (by decide +kernel)
set_option maxRecDepth 100000 in
theorem oX7_isEvicted : dm_okM RX7 rX7_isEvicted.2.1 false qX7_isEvicted = true := by decide +kernel
set_option maxRecDepth 100000 in
theorem pX7_isEvicted : dm_RP 62 rX7_isEvicted := dm_RPof 3095 8 3093 3094 (by decide +kernel)
set_option maxRecDepth 100000 in
theorem oX7_inBits : dm_okM RX7 rX7_inBits.2.1 false qX7_inBits = true := by decide +kernel
set_option maxRecDepth 100000 in
theorem pX7_inBits : dm_RP 63 rX7_inBits := dm_RPof 3115 8 3113 3114 (by decide +kernel)
set_option maxRecDepth 100000 in
theorem oX7_whoIsIn : dm_okM RX7 rX7_whoIsIn.2.1 false qX7_whoIsIn = true := by decide +kernel
set_option maxRecDepth 100000 in
theorem pX7_whoIsIn : dm_RP 64 rX7_whoIsIn := dm_RPof 3081 8 3079 3080 (by decide +kernel)
set_option maxRecDepth 100000 in
theorem oX7_coinsOfAll : dm_okM RX7 rX7_coinsOfAll.2.1 false qX7_coinsOfAll = true := by decide +kernel
set_option maxRecDepth 100000 in
theorem pX7_coinsOfAll : dm_RP 65 rX7_coinsOfAll := dm_RPof 4203 8 4201 4202 (by decide +kernel)
set_option maxRecDepth 100000 in
theorem oX7_factOf : dm_okM RX7 rX7_factOf.2.1 false qX7_factOf = true := by decide +kernel
set_option maxRecDepth 100000 in
theorem pX7_factOf : dm_RP 66 rX7_factOf := dm_RPof 3090 8 3088 3089 (by decide +kernel)
set_option maxRecDepth 100000 in
theorem oX7_pulseOf : dm_okM RX7 rX7_pulseOf.2.1 false qX7_pulseOf = true := by decide +kernel
set_option maxRecDepth 100000 in
theorem pX7_pulseOf : dm_RP 67 rX7_pulseOf := dm_RPof 3103 8 3101 3102 (by decide +kernel)
set_option maxRecDepth 100000 in
theorem oX7_pulseBy : dm_okM RX7 rX7_pulseBy.2.1 false qX7_pulseBy = true := by decide +kernel
set_option maxRecDepth 100000 in
theorem pX7_pulseBy : dm_RP 274 rX7_pulseBy := dm_RPof 3123 8 3122 100104 (by decide +kernel)
set_option maxRecDepth 100000 in
theorem oX7_steadyBeats : dm_okM RX7 rX7_steadyBeats.2.1 false qX7_steadyBeats = true := by decide +kernel
set_option maxRecDepth 100000 in
theorem pX7_steadyBeats : dm_RP 68 rX7_steadyBeats := dm_RPof 3111 8 3110 100103 (by decide +kernel)
set_option maxRecDepth 100000 in
theorem oX7_doClimb : dm_okM RX7 rX7_doClimb.2.1 false qX7_doClimb = true := by decide +kernel
set_option maxRecDepth 100000 in
theorem pX7_doClimb : dm_RP 69 rX7_doClimb := dm_RPof 3145 8 3143 3144 (by decide +kernel)
set_option maxRecDepth 100000 in
theorem oX7_doFright : dm_okM RX7 rX7_doFright.2.1 false qX7_doFright = true := by decide +kernel
set_option maxRecDepth 100000 in
theorem pX7_doFright : dm_RP 70 rX7_doFright := dm_RPof 3162 8 3160 3161 (by decide +kernel)
set_option maxRecDepth 100000 in
theorem oX7_doDrink : dm_okM RX7 rX7_doDrink.2.1 false qX7_doDrink = true := by decide +kernel
set_option maxRecDepth 100000 in
theorem pX7_doDrink : dm_RP 71 rX7_doDrink := dm_RPof 3175 8 3173 3174 (by decide +kernel)
set_option maxRecDepth 100000 in
theorem oX7_canMove : dm_okM RX7 rX7_canMove.2.1 false qX7_canMove = true := by decide +kernel
set_option maxRecDepth 100000 in
theorem pX7_canMove : dm_RP 72 rX7_canMove := dm_RPof 3232 8 3230 3231 (by decide +kernel)
set_option maxRecDepth 100000 in
theorem oX7_doMove : dm_okM RX7 rX7_doMove.2.1 false qX7_doMove = true := by decide +kernel
set_option maxRecDepth 100000 in
theorem pX7_doMove : dm_RP 73 rX7_doMove := dm_RPof 3237 8 3235 3236 (by decide +kernel)
set_option maxRecDepth 100000 in
theorem oX7_passMinutes : dm_okM RX7 rX7_passMinutes.2.1 false qX7_passMinutes = true := by decide +kernel
set_option maxRecDepth 100000 in
theorem pX7_passMinutes : dm_RP 74 rX7_passMinutes := dm_RPof 3183 8 3181 3182 (by decide +kernel)
set_option maxRecDepth 100000 in
theorem oX7_countBeats : dm_okM RX7 rX7_countBeats.2.1 false qX7_countBeats = true := by decide +kernel
set_option maxRecDepth 100000 in
theorem pX7_countBeats : dm_RP 75 rX7_countBeats := dm_RPof 3191 8 3190 100106 (by decide +kernel)
