set_option maxRecDepth 100000 in
theorem oX11_law : dm_okM RX11 rX11_law.2.1 false qX11_law = true := by decide +kernel
set_option maxRecDepth 100000 in
theorem pX11_law : dm_RP 133 rX11_law := dm_RPof 4119 1 4117 4118 (by decide +kernel)
set_option maxRecDepth 100000 in
theorem oX11_sample : dm_okM RX11 rX11_sample.2.1 false qX11_sample = true := by decide +kernel
set_option maxRecDepth 100000 in
theorem pX11_sample : dm_RP 134 rX11_sample := dm_RPof 4123 1 4121 4122 (by decide +kernel)
set_option maxRecDepth 100000 in
theorem oX11_days : dm_okM RX11 rX11_days.2.1 false qX11_days = true := by decide +kernel
set_option maxRecDepth 100000 in
theorem pX11_days : dm_RP 135 rX11_days := dm_RPof 4131 1 4129 4130 (by decide +kernel)
set_option maxRecDepth 100000 in
theorem oX11_did : dm_okM RX11 rX11_did.2.1 false qX11_did = true := by decide +kernel
set_option maxRecDepth 100000 in
theorem pX11_did : dm_RP 136 rX11_did := dm_RPof 4163 1 4161 4162 (by decide +kernel)
set_option maxRecDepth 100000 in
theorem oX11_next : dm_okM RX11 rX11_next.2.1 false qX11_next = true := by decide +kernel
set_option maxRecDepth 100000 in
theorem pX11_next : dm_RP 137 rX11_next := dm_RPof 4167 1 4165 4166 (by decide +kernel)
set_option maxRecDepth 100000 in
theorem oX11_years : dm_okM RX11 rX11_years.2.1 false qX11_years = true := by decide +kernel
set_option maxRecDepth 100000 in
theorem pX11_years : dm_RP 138 rX11_years := dm_RPof 4176 1 4174 4175 (by decide +kernel)
set_option maxRecDepth 100000 in
theorem oX11_mark : dm_okM RX11 rX11_mark.2.1 false qX11_mark = true := by decide +kernel
set_option maxRecDepth 100000 in
theorem pX11_mark : dm_RP 139 rX11_mark := dm_RPof 4190 1 4188 4189 (by decide +kernel)
set_option maxRecDepth 100000 in
theorem oX11_count : dm_okM RX11 rX11_count.2.1 false qX11_count = true := by decide +kernel
set_option maxRecDepth 100000 in
theorem pX11_count : dm_RP 140 rX11_count := dm_RPof 4199 1 4197 4198 (by decide +kernel)
set_option maxRecDepth 100000 in
theorem oX11_remember : dm_okM RX11 rX11_remember.2.1 false qX11_remember = true := by decide +kernel
set_option maxRecDepth 100000 in
theorem pX11_remember : dm_RP 141 rX11_remember := dm_RPof 3133 1 3132 100105 (by decide +kernel)
set_option maxRecDepth 100000 in
theorem oX11_areTwoIn : dm_okM RX11 rX11_areTwoIn.2.1 false qX11_areTwoIn = true := by decide +kernel
set_option maxRecDepth 100000 in
theorem pX11_areTwoIn : dm_RP 142 rX11_areTwoIn := dm_RPof 4215 1 4214 100114 (by decide +kernel)
set_option maxRecDepth 100000 in
theorem oX11_isWithin : dm_okM RX11 rX11_isWithin.2.1 false qX11_isWithin = true := by decide +kernel
set_option maxRecDepth 100000 in
theorem pX11_isWithin : dm_RP 143 rX11_isWithin := dm_RPof 1168 1 1167 0 (by decide +kernel)
set_option maxRecDepth 100000 in
theorem oX11_choices : dm_okM RX11 rX11_choices.2.1 false qX11_choices = true := by decide +kernel
set_option maxRecDepth 100000 in
theorem pX11_choices : dm_RP 144 rX11_choices := dm_RPof 4105 1 4104 0 (by decide +kernel)
set_option maxRecDepth 100000 in
theorem oX12_thrown : dm_okM RX12 rX12_thrown.2.1 false qX12_thrown = true := by decide +kernel
set_option maxRecDepth 100000 in
theorem pX12_thrown : dm_RP 145 rX12_thrown := dm_RPof 5055 14 5053 5054 (by decide +kernel)
set_option maxRecDepth 100000 in
theorem oX12_feed : dm_okM RX12 rX12_feed.2.1 false qX12_feed = true := by decide +kernel
set_option maxRecDepth 100000 in
theorem pX12_feed : dm_RP 146 rX12_feed := dm_RPof 5059 14 5057 5058 (by decide +kernel)
set_option maxRecDepth 100000 in
theorem oX12_lay : dm_okM RX12 rX12_lay.2.1 false qX12_lay = true := by decide +kernel
set_option maxRecDepth 100000 in
theorem pX12_lay : dm_RP 147 rX12_lay := dm_RPof 5064 14 5062 100200 (by decide +kernel)
set_option maxRecDepth 100000 in
theorem oX12_init : dm_okM RX12 rX12_init.2.1 true qX12_init = true := by decide +kernel
set_option maxRecDepth 100000 in
theorem pX12_init : dm_RP 148 rX12_init := dm_RPof 5068 14 5067 0 (by decide +kernel)
set_option maxRecDepth 100000 in
theorem oX12_isLetter : dm_okM RX12 rX12_isLetter.2.1 false qX12_isLetter = true := by decide +kernel
set_option maxRecDepth 100000 in
theorem pX12_isLetter : dm_RP 149 rX12_isLetter := dm_RPof 6019 14 6018 0 (by decide +kernel)
set_option maxRecDepth 100000 in
theorem oX12_isDigit : dm_okM RX12 rX12_isDigit.2.1 false qX12_isDigit = true := by decide +kernel
set_option maxRecDepth 100000 in
theorem pX12_isDigit : dm_RP 150 rX12_isDigit := dm_RPof 6026 14 6025 0 (by decide +kernel)
set_option maxRecDepth 100000 in
theorem oX12_rank : dm_okM RX12 rX12_rank.2.1 false qX12_rank = true := by decide +kernel
set_option maxRecDepth 100000 in
theorem pX12_rank : dm_RP 151 rX12_rank := dm_RPof 6023 14 6022 0 (by decide +kernel)
set_option maxRecDepth 100000 in
theorem oX12_isSignOf : dm_okM RX12 rX12_isSignOf.2.1 false qX12_isSignOf = true := by decide +kernel
set_option maxRecDepth 100000 in
theorem pX12_isSignOf : dm_RP 152 rX12_isSignOf := dm_RPof 6031 14 6030 0 (by decide +kernel)
