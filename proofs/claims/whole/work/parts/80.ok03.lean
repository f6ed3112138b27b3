set_option maxRecDepth 100000 in
theorem oX7_calmDown : dm_okM RX7 rX7_calmDown.2.1 false qX7_calmDown = true := by decide +kernel
set_option maxRecDepth 100000 in
theorem pX7_calmDown : dm_RP 275 rX7_calmDown := dm_RPof 3195 8 3194 100107 (by decide +kernel)
set_option maxRecDepth 100000 in
theorem oX7_dueOf : dm_okM RX7 rX7_dueOf.2.1 false qX7_dueOf = true := by decide +kernel
set_option maxRecDepth 100000 in
theorem pX7_dueOf : dm_RP 76 rX7_dueOf := dm_RPof 3211 8 3209 3210 (by decide +kernel)
set_option maxRecDepth 100000 in
theorem oX7_holdNoon : dm_okM RX7 rX7_holdNoon.2.1 false qX7_holdNoon = true := by decide +kernel
set_option maxRecDepth 100000 in
theorem pX7_holdNoon : dm_RP 77 rX7_holdNoon := dm_RPof 3207 8 3205 3206 (by decide +kernel)
set_option maxRecDepth 100000 in
theorem oX7_perform : dm_okM RX7 rX7_perform.2.1 false qX7_perform = true := by decide +kernel
set_option maxRecDepth 100000 in
theorem pX7_perform : dm_RP 78 rX7_perform := dm_RPof 4010 8 4008 4009 (by decide +kernel)
set_option maxRecDepth 100000 in
theorem oX7_haunted : dm_okM RX7 rX7_haunted.2.1 false qX7_haunted = true := by decide +kernel
set_option maxRecDepth 100000 in
theorem pX7_haunted : dm_RP 79 rX7_haunted := dm_RPof 4114 8 4112 4113 (by decide +kernel)
set_option maxRecDepth 100000 in
theorem oX7_savedBy : dm_okM RX7 rX7_savedBy.2.1 false qX7_savedBy = true := by decide +kernel
set_option maxRecDepth 100000 in
theorem pX7_savedBy : dm_RP 80 rX7_savedBy := dm_RPof 5044 8 5042 5043 (by decide +kernel)
set_option maxRecDepth 100000 in
theorem oX7_drawDeeds : dm_okM RX7 rX7_drawDeeds.2.1 false qX7_drawDeeds = true := by decide +kernel
set_option maxRecDepth 100000 in
theorem pX7_drawDeeds : dm_RP 81 rX7_drawDeeds := dm_RPof 4180 8 4178 4179 (by decide +kernel)
set_option maxRecDepth 100000 in
theorem oX8_init : dm_okM RX8 rX8_init.2.1 true qX8_init = true := by decide +kernel
set_option maxRecDepth 100000 in
theorem pX8_init : dm_RP 82 rX8_init := dm_RPof 87 4 86 0 (by decide +kernel)
set_option maxRecDepth 100000 in
theorem oX8_has : dm_okM RX8 rX8_has.2.1 false qX8_has = true := by decide +kernel
set_option maxRecDepth 100000 in
theorem pX8_has : dm_RP 83 rX8_has := dm_RPof 2127 4 2125 2126 (by decide +kernel)
set_option maxRecDepth 100000 in
theorem oX8_isFull : dm_okM RX8 rX8_isFull.2.1 false qX8_isFull = true := by decide +kernel
set_option maxRecDepth 100000 in
theorem pX8_isFull : dm_RP 84 rX8_isFull := dm_RPof 2078 4 2076 2077 (by decide +kernel)
set_option maxRecDepth 100000 in
theorem oX8_find : dm_okM RX8 rX8_find.2.1 false qX8_find = true := by decide +kernel
set_option maxRecDepth 100000 in
theorem pX8_find : dm_RP 85 rX8_find := dm_RPof 2091 4 2089 2090 (by decide +kernel)
set_option maxRecDepth 100000 in
theorem oX8_fact : dm_okM RX8 rX8_fact.2.1 false qX8_fact = true := by decide +kernel
set_option maxRecDepth 100000 in
theorem pX8_fact : dm_RP 86 rX8_fact := dm_RPof 2166 4 2164 2165 (by decide +kernel)
set_option maxRecDepth 100000 in
theorem oX8_put : dm_okM RX8 rX8_put.2.1 false qX8_put = true := by decide +kernel
set_option maxRecDepth 100000 in
theorem pX8_put : dm_RP 87 rX8_put := dm_RPof 2123 4 2121 2122 (by decide +kernel)
set_option maxRecDepth 100000 in
theorem oX8_add : dm_okM RX8 rX8_add.2.1 false qX8_add = true := by decide +kernel
set_option maxRecDepth 100000 in
theorem pX8_add : dm_RP 88 rX8_add := dm_RPof 2118 4 2116 2117 (by decide +kernel)
set_option maxRecDepth 100000 in
theorem oX9_init : dm_okM RX9 rX9_init.2.1 true qX9_init = true := by decide +kernel
set_option maxRecDepth 100000 in
theorem pX9_init : dm_RP 89 rX9_init := dm_RPof 40 2 39 0 (by decide +kernel)
set_option maxRecDepth 100000 in
theorem oX9_addBytes : dm_okM RX9 rX9_addBytes.2.1 false qX9_addBytes = true := by decide +kernel
set_option maxRecDepth 100000 in
theorem pX9_addBytes : dm_RP 90 rX9_addBytes := dm_RPof 1165 2 1163 1164 (by decide +kernel)
set_option maxRecDepth 100000 in
theorem oX9_rewind : dm_okM RX9 rX9_rewind.2.1 false qX9_rewind = true := by decide +kernel
set_option maxRecDepth 100000 in
theorem pX9_rewind : dm_RP 91 rX9_rewind := dm_RPof 1184 2 1182 1183 (by decide +kernel)
set_option maxRecDepth 100000 in
theorem oX9_takeAway : dm_okM RX9 rX9_takeAway.2.1 false qX9_takeAway = true := by decide +kernel
set_option maxRecDepth 100000 in
theorem pX9_takeAway : dm_RP 92 rX9_takeAway := dm_RPof 3029 2 3027 3028 (by decide +kernel)
set_option maxRecDepth 100000 in
theorem oX9_advance : dm_okM RX9 rX9_advance.2.1 false qX9_advance = true := by decide +kernel
set_option maxRecDepth 100000 in
theorem pX9_advance : dm_RP 93 rX9_advance := dm_RPof 1188 2 1186 1187 (by decide +kernel)
set_option maxRecDepth 100000 in
theorem oX9_scanWord : dm_okM RX9 rX9_scanWord.2.1 false qX9_scanWord = true := by decide +kernel
set_option maxRecDepth 100000 in
theorem pX9_scanWord : dm_RP 94 rX9_scanWord := dm_RPof 1195 2 1194 100001 (by decide +kernel)
set_option maxRecDepth 100000 in
theorem oX9_scanNumber : dm_okM RX9 rX9_scanNumber.2.1 false qX9_scanNumber = true := by decide +kernel
set_option maxRecDepth 100000 in
theorem pX9_scanNumber : dm_RP 95 rX9_scanNumber := dm_RPof 1211 2 1210 100002 (by decide +kernel)
set_option maxRecDepth 100000 in
theorem oX9_isLetter : dm_okM RX9 rX9_isLetter.2.1 false qX9_isLetter = true := by decide +kernel
set_option maxRecDepth 100000 in
theorem pX9_isLetter : dm_RP 96 rX9_isLetter := dm_RPof 1191 2 1190 0 (by decide +kernel)
set_option maxRecDepth 100000 in
theorem oX9_isDigit : dm_okM RX9 rX9_isDigit.2.1 false qX9_isDigit = true := by decide +kernel
set_option maxRecDepth 100000 in
theorem pX9_isDigit : dm_RP 97 rX9_isDigit := dm_RPof 1207 2 1206 0 (by decide +kernel)
set_option maxRecDepth 100000 in
theorem oX9_fail : dm_okM RX9 rX9_fail.2.1 false qX9_fail = true := by decide +kernel
set_option maxRecDepth 100000 in
theorem pX9_fail : dm_RP 98 rX9_fail := dm_RPof 2082 2 2080 2081 (by decide +kernel)
set_option maxRecDepth 100000 in
theorem oX9_isOver : dm_okM RX9 rX9_isOver.2.1 false qX9_isOver = true := by decide +kernel
set_option maxRecDepth 100000 in
theorem pX9_isOver : dm_RP 99 rX9_isOver := dm_RPof 2060 2 2058 2059 (by decide +kernel)
set_option maxRecDepth 100000 in
theorem oX9_isWord : dm_okM RX9 rX9_isWord.2.1 false qX9_isWord = true := by decide +kernel
set_option maxRecDepth 100000 in
theorem pX9_isWord : dm_RP 100 rX9_isWord := dm_RPof 2066 2 2064 2065 (by decide +kernel)
set_option maxRecDepth 100000 in
theorem oX9_isSign : dm_okM RX9 rX9_isSign.2.1 false qX9_isSign = true := by decide +kernel
set_option maxRecDepth 100000 in
theorem pX9_isSign : dm_RP 101 rX9_isSign := dm_RPof 3006 2 3004 3005 (by decide +kernel)
set_option maxRecDepth 100000 in
theorem oX9_isNumber : dm_okM RX9 rX9_isNumber.2.1 false qX9_isNumber = true := by decide +kernel
set_option maxRecDepth 100000 in
theorem pX9_isNumber : dm_RP 102 rX9_isNumber := dm_RPof 2110 2 2108 2109 (by decide +kernel)
set_option maxRecDepth 100000 in
theorem oX9_isName : dm_okM RX9 rX9_isName.2.1 false qX9_isName = true := by decide +kernel
set_option maxRecDepth 100000 in
theorem pX9_isName : dm_RP 103 rX9_isName := dm_RPof 2087 2 2085 2086 (by decide +kernel)
set_option maxRecDepth 100000 in
theorem oX9_needWord : dm_okM RX9 rX9_needWord.2.1 false qX9_needWord = true := by decide +kernel
set_option maxRecDepth 100000 in
theorem pX9_needWord : dm_RP 104 rX9_needWord := dm_RPof 2100 2 2098 2099 (by decide +kernel)
set_option maxRecDepth 100000 in
theorem oX9_needSign : dm_okM RX9 rX9_needSign.2.1 false qX9_needSign = true := by decide +kernel
set_option maxRecDepth 100000 in
theorem pX9_needSign : dm_RP 105 rX9_needSign := dm_RPof 3013 2 3011 3012 (by decide +kernel)
