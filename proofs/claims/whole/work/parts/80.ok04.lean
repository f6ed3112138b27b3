set_option maxRecDepth 100000 in
theorem oX9_needNumber : dm_okM RX9 rX9_needNumber.2.1 false qX9_needNumber = true := by decide +kernel
set_option maxRecDepth 100000 in
theorem pX9_needNumber : dm_RP 106 rX9_needNumber := dm_RPof 2106 2 2104 2105 (by decide +kernel)
set_option maxRecDepth 100000 in
theorem oX9_seeTold : dm_okM RX9 rX9_seeTold.2.1 false qX9_seeTold = true := by decide +kernel
set_option maxRecDepth 100000 in
theorem pX9_seeTold : dm_RP 107 rX9_seeTold := dm_RPof 2160 2 2158 2159 (by decide +kernel)
set_option maxRecDepth 100000 in
theorem oX10_longer : dm_okM RX10 rX10_longer.2.1 false qX10_longer = true := by decide +kernel
set_option maxRecDepth 100000 in
theorem pX10_longer : dm_RP 108 rX10_longer := dm_RPof 1198 16 1197 0 (by decide +kernel)
set_option maxRecDepth 100000 in
theorem oX10_coded : dm_okM RX10 rX10_coded.2.1 false qX10_coded = true := by decide +kernel
set_option maxRecDepth 100000 in
theorem pX10_coded : dm_RP 109 rX10_coded := dm_RPof 1202 16 1201 0 (by decide +kernel)
set_option maxRecDepth 100000 in
theorem oX11_init : dm_okM RX11 rX11_init.2.1 true qX11_init = true := by decide +kernel
set_option maxRecDepth 100000 in
theorem pX11_init : dm_RP 110 rX11_init := dm_RPof 32 1 31 0 (by decide +kernel)
set_option maxRecDepth 100000 in
theorem oX11_feed : dm_okM RX11 rX11_feed.2.1 false qX11_feed = true := by decide +kernel
set_option maxRecDepth 100000 in
theorem pX11_feed : dm_RP 111 rX11_feed := dm_RPof 1161 1 1159 1160 (by decide +kernel)
set_option maxRecDepth 100000 in
theorem oX11_house : dm_okM RX11 rX11_house.2.1 false qX11_house = true := by decide +kernel
set_option maxRecDepth 100000 in
theorem pX11_house : dm_RP 112 rX11_house := dm_RPof 1172 1 1170 1171 (by decide +kernel)
set_option maxRecDepth 100000 in
theorem oX11_months : dm_okM RX11 rX11_months.2.1 false qX11_months = true := by decide +kernel
set_option maxRecDepth 100000 in
theorem pX11_months : dm_RP 113 rX11_months := dm_RPof 3040 1 3038 3039 (by decide +kernel)
set_option maxRecDepth 100000 in
theorem oX11_room : dm_okM RX11 rX11_room.2.1 false qX11_room = true := by decide +kernel
set_option maxRecDepth 100000 in
theorem pX11_room : dm_RP 114 rX11_room := dm_RPof 3076 1 3074 3075 (by decide +kernel)
set_option maxRecDepth 100000 in
theorem oX11_tenant : dm_okM RX11 rX11_tenant.2.1 false qX11_tenant = true := by decide +kernel
set_option maxRecDepth 100000 in
theorem pX11_tenant : dm_RP 115 rX11_tenant := dm_RPof 3086 1 3084 3085 (by decide +kernel)
set_option maxRecDepth 100000 in
theorem oX11_pulse : dm_okM RX11 rX11_pulse.2.1 false qX11_pulse = true := by decide +kernel
set_option maxRecDepth 100000 in
theorem pX11_pulse : dm_RP 116 rX11_pulse := dm_RPof 3099 1 3097 3098 (by decide +kernel)
set_option maxRecDepth 100000 in
theorem oX11_climb : dm_okM RX11 rX11_climb.2.1 false qX11_climb = true := by decide +kernel
set_option maxRecDepth 100000 in
theorem pX11_climb : dm_RP 117 rX11_climb := dm_RPof 3128 1 3126 3127 (by decide +kernel)
set_option maxRecDepth 100000 in
theorem oX11_fright : dm_okM RX11 rX11_fright.2.1 false qX11_fright = true := by decide +kernel
set_option maxRecDepth 100000 in
theorem pX11_fright : dm_RP 118 rX11_fright := dm_RPof 3157 1 3155 3156 (by decide +kernel)
set_option maxRecDepth 100000 in
theorem oX11_drink : dm_okM RX11 rX11_drink.2.1 false qX11_drink = true := by decide +kernel
set_option maxRecDepth 100000 in
theorem pX11_drink : dm_RP 119 rX11_drink := dm_RPof 3171 1 3169 3170 (by decide +kernel)
set_option maxRecDepth 100000 in
theorem oX11_minutes : dm_okM RX11 rX11_minutes.2.1 false qX11_minutes = true := by decide +kernel
set_option maxRecDepth 100000 in
theorem pX11_minutes : dm_RP 120 rX11_minutes := dm_RPof 3179 1 3177 3178 (by decide +kernel)
set_option maxRecDepth 100000 in
theorem oX11_noon : dm_okM RX11 rX11_noon.2.1 false qX11_noon = true := by decide +kernel
set_option maxRecDepth 100000 in
theorem pX11_noon : dm_RP 121 rX11_noon := dm_RPof 3203 1 3201 3202 (by decide +kernel)
set_option maxRecDepth 100000 in
theorem oX11_move : dm_okM RX11 rX11_move.2.1 false qX11_move = true := by decide +kernel
set_option maxRecDepth 100000 in
theorem pX11_move : dm_RP 122 rX11_move := dm_RPof 3228 1 3226 3227 (by decide +kernel)
set_option maxRecDepth 100000 in
theorem oX11_undo : dm_okM RX11 rX11_undo.2.1 false qX11_undo = true := by decide +kernel
set_option maxRecDepth 100000 in
theorem pX11_undo : dm_RP 123 rX11_undo := dm_RPof 4002 1 4000 4001 (by decide +kernel)
set_option maxRecDepth 100000 in
theorem oX11_judged : dm_okM RX11 rX11_judged.2.1 false qX11_judged = true := by decide +kernel
set_option maxRecDepth 100000 in
theorem pX11_judged : dm_RP 124 rX11_judged := dm_RPof 4006 1 4004 4005 (by decide +kernel)
set_option maxRecDepth 100000 in
theorem oX11_owed : dm_okM RX11 rX11_owed.2.1 false qX11_owed = true := by decide +kernel
set_option maxRecDepth 100000 in
theorem pX11_owed : dm_RP 125 rX11_owed := dm_RPof 4026 1 4024 4025 (by decide +kernel)
set_option maxRecDepth 100000 in
theorem oX11_will : dm_okM RX11 rX11_will.2.1 false qX11_will = true := by decide +kernel
set_option maxRecDepth 100000 in
theorem pX11_will : dm_RP 126 rX11_will := dm_RPof 4031 1 4029 4030 (by decide +kernel)
set_option maxRecDepth 100000 in
theorem oX11_last : dm_okM RX11 rX11_last.2.1 false qX11_last = true := by decide +kernel
set_option maxRecDepth 100000 in
theorem pX11_last : dm_RP 127 rX11_last := dm_RPof 4035 1 4033 4034 (by decide +kernel)
set_option maxRecDepth 100000 in
theorem oX11_errands : dm_okM RX11 rX11_errands.2.1 false qX11_errands = true := by decide +kernel
set_option maxRecDepth 100000 in
theorem pX11_errands : dm_RP 128 rX11_errands := dm_RPof 4039 1 4037 4038 (by decide +kernel)
set_option maxRecDepth 100000 in
theorem oX11_match : dm_okM RX11 rX11_match.2.1 false qX11_match = true := by decide +kernel
set_option maxRecDepth 100000 in
theorem pX11_match : dm_RP 129 rX11_match := dm_RPof 4069 1 4067 4068 (by decide +kernel)
set_option maxRecDepth 100000 in
theorem oX11_spare : dm_okM RX11 rX11_spare.2.1 false qX11_spare = true := by decide +kernel
set_option maxRecDepth 100000 in
theorem pX11_spare : dm_RP 130 rX11_spare := dm_RPof 4097 1 4095 4096 (by decide +kernel)
set_option maxRecDepth 100000 in
theorem oX11_sampled : dm_okM RX11 rX11_sampled.2.1 false qX11_sampled = true := by decide +kernel
set_option maxRecDepth 100000 in
theorem pX11_sampled : dm_RP 131 rX11_sampled := dm_RPof 4102 1 4100 4101 (by decide +kernel)
set_option maxRecDepth 100000 in
theorem oX11_haunt : dm_okM RX11 rX11_haunt.2.1 false qX11_haunt = true := by decide +kernel
set_option maxRecDepth 100000 in
theorem pX11_haunt : dm_RP 132 rX11_haunt := dm_RPof 4110 1 4108 4109 (by decide +kernel)
