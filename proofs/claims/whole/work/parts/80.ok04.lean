set_option maxRecDepth 100000 in
theorem oX11_init : dm_okM RX11 rX11_init.2.1 true qX11_init = true := by decide +kernel
set_option maxRecDepth 100000 in
theorem pX11_init : dm_RP 110 rX11_init := dm_RPof 32 1 31 0 (by decide +kernel)
set_option maxRecDepth 100000 in
theorem oX11_feed : dm_okM RX11 rX11_feed.2.1 false qX11_feed = true := by decide +kernel
set_option maxRecDepth 100000 in
theorem pX11_feed : dm_RP 111 rX11_feed := dm_RPof 1158 1 1156 1157 (by decide +kernel)
set_option maxRecDepth 100000 in
theorem oX11_house : dm_okM RX11 rX11_house.2.1 false qX11_house = true := by decide +kernel
set_option maxRecDepth 100000 in
theorem pX11_house : dm_RP 112 rX11_house := dm_RPof 1169 1 1167 1168 (by decide +kernel)
set_option maxRecDepth 100000 in
theorem oX11_months : dm_okM RX11 rX11_months.2.1 false qX11_months = true := by decide +kernel
set_option maxRecDepth 100000 in
theorem pX11_months : dm_RP 113 rX11_months := dm_RPof 3037 1 3035 3036 (by decide +kernel)
set_option maxRecDepth 100000 in
theorem oX11_room : dm_okM RX11 rX11_room.2.1 false qX11_room = true := by decide +kernel
set_option maxRecDepth 100000 in
theorem pX11_room : dm_RP 114 rX11_room := dm_RPof 3073 1 3071 3072 (by decide +kernel)
set_option maxRecDepth 100000 in
theorem oX11_tenant : dm_okM RX11 rX11_tenant.2.1 false qX11_tenant = true := by decide +kernel
set_option maxRecDepth 100000 in
theorem pX11_tenant : dm_RP 115 rX11_tenant := dm_RPof 3083 1 3081 3082 (by decide +kernel)
set_option maxRecDepth 100000 in
theorem oX11_pulse : dm_okM RX11 rX11_pulse.2.1 false qX11_pulse = true := by decide +kernel
set_option maxRecDepth 100000 in
theorem pX11_pulse : dm_RP 116 rX11_pulse := dm_RPof 3096 1 3094 3095 (by decide +kernel)
set_option maxRecDepth 100000 in
theorem oX11_climb : dm_okM RX11 rX11_climb.2.1 false qX11_climb = true := by decide +kernel
set_option maxRecDepth 100000 in
theorem pX11_climb : dm_RP 117 rX11_climb := dm_RPof 3121 1 3119 3120 (by decide +kernel)
set_option maxRecDepth 100000 in
theorem oX11_fright : dm_okM RX11 rX11_fright.2.1 false qX11_fright = true := by decide +kernel
set_option maxRecDepth 100000 in
theorem pX11_fright : dm_RP 118 rX11_fright := dm_RPof 3150 1 3148 3149 (by decide +kernel)
set_option maxRecDepth 100000 in
theorem oX11_drink : dm_okM RX11 rX11_drink.2.1 false qX11_drink = true := by decide +kernel
set_option maxRecDepth 100000 in
theorem pX11_drink : dm_RP 119 rX11_drink := dm_RPof 3164 1 3162 3163 (by decide +kernel)
set_option maxRecDepth 100000 in
theorem oX11_minutes : dm_okM RX11 rX11_minutes.2.1 false qX11_minutes = true := by decide +kernel
set_option maxRecDepth 100000 in
theorem pX11_minutes : dm_RP 120 rX11_minutes := dm_RPof 3172 1 3170 3171 (by decide +kernel)
set_option maxRecDepth 100000 in
theorem oX11_noon : dm_okM RX11 rX11_noon.2.1 false qX11_noon = true := by decide +kernel
set_option maxRecDepth 100000 in
theorem pX11_noon : dm_RP 121 rX11_noon := dm_RPof 3194 1 3192 3193 (by decide +kernel)
set_option maxRecDepth 100000 in
theorem oX11_move : dm_okM RX11 rX11_move.2.1 false qX11_move = true := by decide +kernel
set_option maxRecDepth 100000 in
theorem pX11_move : dm_RP 122 rX11_move := dm_RPof 3219 1 3217 3218 (by decide +kernel)
set_option maxRecDepth 100000 in
theorem oX11_undo : dm_okM RX11 rX11_undo.2.1 false qX11_undo = true := by decide +kernel
set_option maxRecDepth 100000 in
theorem pX11_undo : dm_RP 123 rX11_undo := dm_RPof 3233 1 3231 3232 (by decide +kernel)
set_option maxRecDepth 100000 in
theorem oX11_judged : dm_okM RX11 rX11_judged.2.1 false qX11_judged = true := by decide +kernel
set_option maxRecDepth 100000 in
theorem pX11_judged : dm_RP 124 rX11_judged := dm_RPof 3237 1 3235 3236 (by decide +kernel)
set_option maxRecDepth 100000 in
theorem oX11_owed : dm_okM RX11 rX11_owed.2.1 false qX11_owed = true := by decide +kernel
set_option maxRecDepth 100000 in
theorem pX11_owed : dm_RP 125 rX11_owed := dm_RPof 4017 1 4015 4016 (by decide +kernel)
set_option maxRecDepth 100000 in
theorem oX11_will : dm_okM RX11 rX11_will.2.1 false qX11_will = true := by decide +kernel
set_option maxRecDepth 100000 in
theorem pX11_will : dm_RP 126 rX11_will := dm_RPof 4022 1 4020 4021 (by decide +kernel)
set_option maxRecDepth 100000 in
theorem oX11_last : dm_okM RX11 rX11_last.2.1 false qX11_last = true := by decide +kernel
set_option maxRecDepth 100000 in
theorem pX11_last : dm_RP 127 rX11_last := dm_RPof 4026 1 4024 4025 (by decide +kernel)
set_option maxRecDepth 100000 in
theorem oX11_errands : dm_okM RX11 rX11_errands.2.1 false qX11_errands = true := by decide +kernel
set_option maxRecDepth 100000 in
theorem pX11_errands : dm_RP 128 rX11_errands := dm_RPof 4030 1 4028 4029 (by decide +kernel)
set_option maxRecDepth 100000 in
theorem oX11_match : dm_okM RX11 rX11_match.2.1 false qX11_match = true := by decide +kernel
set_option maxRecDepth 100000 in
theorem pX11_match : dm_RP 129 rX11_match := dm_RPof 4060 1 4058 4059 (by decide +kernel)
set_option maxRecDepth 100000 in
theorem oX11_spare : dm_okM RX11 rX11_spare.2.1 false qX11_spare = true := by decide +kernel
set_option maxRecDepth 100000 in
theorem pX11_spare : dm_RP 130 rX11_spare := dm_RPof 4088 1 4086 4087 (by decide +kernel)
set_option maxRecDepth 100000 in
theorem oX11_sampled : dm_okM RX11 rX11_sampled.2.1 false qX11_sampled = true := by decide +kernel
set_option maxRecDepth 100000 in
theorem pX11_sampled : dm_RP 131 rX11_sampled := dm_RPof 4093 1 4091 4092 (by decide +kernel)
set_option maxRecDepth 100000 in
theorem oX11_haunt : dm_okM RX11 rX11_haunt.2.1 false qX11_haunt = true := by decide +kernel
set_option maxRecDepth 100000 in
theorem pX11_haunt : dm_RP 132 rX11_haunt := dm_RPof 4101 1 4099 4100 (by decide +kernel)
set_option maxRecDepth 100000 in
theorem oX11_law : dm_okM RX11 rX11_law.2.1 false qX11_law = true := by decide +kernel
set_option maxRecDepth 100000 in
theorem pX11_law : dm_RP 133 rX11_law := dm_RPof 4110 1 4108 4109 (by decide +kernel)
set_option maxRecDepth 100000 in
theorem oX11_sample : dm_okM RX11 rX11_sample.2.1 false qX11_sample = true := by decide +kernel
set_option maxRecDepth 100000 in
theorem pX11_sample : dm_RP 134 rX11_sample := dm_RPof 4114 1 4112 4113 (by decide +kernel)
set_option maxRecDepth 100000 in
theorem oX11_days : dm_okM RX11 rX11_days.2.1 false qX11_days = true := by decide +kernel
set_option maxRecDepth 100000 in
theorem pX11_days : dm_RP 135 rX11_days := dm_RPof 4122 1 4120 4121 (by decide +kernel)
