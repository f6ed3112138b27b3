set_option maxRecDepth 100000 in
theorem oX11_did : dm_okM RX11 rX11_did.2.1 false qX11_did = true := by decide +kernel
set_option maxRecDepth 100000 in
theorem pX11_did : dm_RP 136 rX11_did := dm_RPof 1221 108 1219 1220 (by decide +kernel)
set_option maxRecDepth 100000 in
theorem oX11_next : dm_okM RX11 rX11_next.2.1 false qX11_next = true := by decide +kernel
set_option maxRecDepth 100000 in
theorem pX11_next : dm_RP 137 rX11_next := dm_RPof 1225 108 1223 1224 (by decide +kernel)
set_option maxRecDepth 100000 in
theorem oX11_years : dm_okM RX11 rX11_years.2.1 false qX11_years = true := by decide +kernel
set_option maxRecDepth 100000 in
theorem pX11_years : dm_RP 138 rX11_years := dm_RPof 1234 108 1232 1233 (by decide +kernel)
set_option maxRecDepth 100000 in
theorem oX11_mark : dm_okM RX11 rX11_mark.2.1 false qX11_mark = true := by decide +kernel
set_option maxRecDepth 100000 in
theorem pX11_mark : dm_RP 139 rX11_mark := dm_RPof 1248 108 1246 1247 (by decide +kernel)
set_option maxRecDepth 100000 in
theorem oX11_count : dm_okM RX11 rX11_count.2.1 false qX11_count = true := by decide +kernel
set_option maxRecDepth 100000 in
theorem pX11_count : dm_RP 140 rX11_count := dm_RPof 1257 108 1255 1256 (by decide +kernel)
set_option maxRecDepth 100000 in
theorem oX11_remember : dm_okM RX11 rX11_remember.2.1 false qX11_remember = true := by decide +kernel
set_option maxRecDepth 100000 in
theorem pX11_remember : dm_RP 141 rX11_remember := dm_RPof 953 108 952 20 (by decide +kernel)
set_option maxRecDepth 100000 in
theorem oX11_areTwoIn : dm_okM RX11 rX11_areTwoIn.2.1 false qX11_areTwoIn = true := by decide +kernel
set_option maxRecDepth 100000 in
theorem pX11_areTwoIn : dm_RP 142 rX11_areTwoIn := dm_RPof 1273 108 1272 28 (by decide +kernel)
set_option maxRecDepth 100000 in
theorem oX11_isWithin : dm_okM RX11 rX11_isWithin.2.1 false qX11_isWithin = true := by decide +kernel
set_option maxRecDepth 100000 in
theorem pX11_isWithin : dm_RP 143 rX11_isWithin := dm_RPof 512 108 511 0 (by decide +kernel)
set_option maxRecDepth 100000 in
theorem oX11_choices : dm_okM RX11 rX11_choices.2.1 false qX11_choices = true := by decide +kernel
set_option maxRecDepth 100000 in
theorem pX11_choices : dm_RP 144 rX11_choices := dm_RPof 1163 108 1162 0 (by decide +kernel)
set_option maxRecDepth 100000 in
theorem oX12_thrown : dm_okM RX12 rX12_thrown.2.1 false qX12_thrown = true := by decide +kernel
set_option maxRecDepth 100000 in
theorem pX12_thrown : dm_RP 145 rX12_thrown := dm_RPof 1353 121 1351 1352 (by decide +kernel)
set_option maxRecDepth 100000 in
theorem oX12_feed : dm_okM RX12 rX12_feed.2.1 false qX12_feed = true := by decide +kernel
set_option maxRecDepth 100000 in
theorem pX12_feed : dm_RP 146 rX12_feed := dm_RPof 1357 121 1355 1356 (by decide +kernel)
set_option maxRecDepth 100000 in
theorem oX12_lay : dm_okM RX12 rX12_lay.2.1 false qX12_lay = true := by decide +kernel
set_option maxRecDepth 100000 in
theorem pX12_lay : dm_RP 147 rX12_lay := dm_RPof 1362 121 1360 30 (by decide +kernel)
set_option maxRecDepth 100000 in
theorem oX12_init : dm_okM RX12 rX12_init.2.1 true qX12_init = true := by decide +kernel
set_option maxRecDepth 100000 in
theorem pX12_init : dm_RP 148 rX12_init := dm_RPof 1366 121 1365 0 (by decide +kernel)
set_option maxRecDepth 100000 in
theorem oX12_isLetter : dm_okM RX12 rX12_isLetter.2.1 false qX12_isLetter = true := by decide +kernel
set_option maxRecDepth 100000 in
theorem pX12_isLetter : dm_RP 149 rX12_isLetter := dm_RPof 1557 121 1556 0 (by decide +kernel)
set_option maxRecDepth 100000 in
theorem oX12_isDigit : dm_okM RX12 rX12_isDigit.2.1 false qX12_isDigit = true := by decide +kernel
set_option maxRecDepth 100000 in
theorem pX12_isDigit : dm_RP 150 rX12_isDigit := dm_RPof 1564 121 1563 0 (by decide +kernel)
set_option maxRecDepth 100000 in
theorem oX12_rank : dm_okM RX12 rX12_rank.2.1 false qX12_rank = true := by decide +kernel
set_option maxRecDepth 100000 in
theorem pX12_rank : dm_RP 151 rX12_rank := dm_RPof 1561 121 1560 0 (by decide +kernel)
set_option maxRecDepth 100000 in
theorem oX12_isSignOf : dm_okM RX12 rX12_isSignOf.2.1 false qX12_isSignOf = true := by decide +kernel
set_option maxRecDepth 100000 in
theorem pX12_isSignOf : dm_RP 152 rX12_isSignOf := dm_RPof 1569 121 1568 0 (by decide +kernel)
set_option maxRecDepth 100000 in
theorem oX12_cutAll : dm_okM RX12 rX12_cutAll.2.1 false qX12_cutAll = true := by decide +kernel
set_option maxRecDepth 100000 in
theorem pX12_cutAll : dm_RP 153 rX12_cutAll := dm_RPof 1554 121 1553 36 (by decide +kernel)
set_option maxRecDepth 100000 in
theorem oX12_wrong : dm_okM RX12 rX12_wrong.2.1 false qX12_wrong = true := by decide +kernel
set_option maxRecDepth 100000 in
theorem pX12_wrong : dm_RP 154 rX12_wrong := dm_RPof 1585 121 1584 40 (by decide +kernel)
