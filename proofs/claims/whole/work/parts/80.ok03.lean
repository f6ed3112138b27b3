set_option maxRecDepth 100000 in
theorem oX7_holdNoon : dm_okM RX7 rX7_holdNoon.2.1 false qX7_holdNoon = true := by decide +kernel
set_option maxRecDepth 100000 in
theorem pX7_holdNoon : dm_RP 77 rX7_holdNoon := dm_RPof 3198 8 3196 3197 (by decide +kernel)
set_option maxRecDepth 100000 in
theorem oX7_perform : dm_okM RX7 rX7_perform.2.1 false qX7_perform = true := by decide +kernel
set_option maxRecDepth 100000 in
theorem pX7_perform : dm_RP 78 rX7_perform := dm_RPof 4001 8 3239 4000 (by decide +kernel)
set_option maxRecDepth 100000 in
theorem oX7_haunted : dm_okM RX7 rX7_haunted.2.1 false qX7_haunted = true := by decide +kernel
set_option maxRecDepth 100000 in
theorem pX7_haunted : dm_RP 79 rX7_haunted := dm_RPof 4105 8 4103 4104 (by decide +kernel)
set_option maxRecDepth 100000 in
theorem oX7_savedBy : dm_okM RX7 rX7_savedBy.2.1 false qX7_savedBy = true := by decide +kernel
set_option maxRecDepth 100000 in
theorem pX7_savedBy : dm_RP 80 rX7_savedBy := dm_RPof 5035 8 5033 5034 (by decide +kernel)
set_option maxRecDepth 100000 in
theorem oX7_drawDeeds : dm_okM RX7 rX7_drawDeeds.2.1 false qX7_drawDeeds = true := by decide +kernel
set_option maxRecDepth 100000 in
theorem pX7_drawDeeds : dm_RP 81 rX7_drawDeeds := dm_RPof 4171 8 4169 4170 (by decide +kernel)
set_option maxRecDepth 100000 in
theorem oX8_init : dm_okM RX8 rX8_init.2.1 true qX8_init = true := by decide +kernel
set_option maxRecDepth 100000 in
theorem pX8_init : dm_RP 82 rX8_init := dm_RPof 87 4 86 0 (by decide +kernel)
set_option maxRecDepth 100000 in
theorem oX8_has : dm_okM RX8 rX8_has.2.1 false qX8_has = true := by decide +kernel
set_option maxRecDepth 100000 in
theorem pX8_has : dm_RP 83 rX8_has := dm_RPof 2124 4 2122 2123 (by decide +kernel)
set_option maxRecDepth 100000 in
theorem oX8_isFull : dm_okM RX8 rX8_isFull.2.1 false qX8_isFull = true := by decide +kernel
set_option maxRecDepth 100000 in
theorem pX8_isFull : dm_RP 84 rX8_isFull := dm_RPof 2075 4 2073 2074 (by decide +kernel)
set_option maxRecDepth 100000 in
theorem oX8_find : dm_okM RX8 rX8_find.2.1 false qX8_find = true := by decide +kernel
set_option maxRecDepth 100000 in
theorem pX8_find : dm_RP 85 rX8_find := dm_RPof 2088 4 2086 2087 (by decide +kernel)
set_option maxRecDepth 100000 in
theorem oX8_fact : dm_okM RX8 rX8_fact.2.1 false qX8_fact = true := by decide +kernel
set_option maxRecDepth 100000 in
theorem pX8_fact : dm_RP 86 rX8_fact := dm_RPof 2163 4 2161 2162 (by decide +kernel)
set_option maxRecDepth 100000 in
theorem oX8_put : dm_okM RX8 rX8_put.2.1 false qX8_put = true := by decide +kernel
set_option maxRecDepth 100000 in
theorem pX8_put : dm_RP 87 rX8_put := dm_RPof 2120 4 2118 2119 (by decide +kernel)
set_option maxRecDepth 100000 in
theorem oX8_add : dm_okM RX8 rX8_add.2.1 false qX8_add = true := by decide +kernel
set_option maxRecDepth 100000 in
theorem pX8_add : dm_RP 88 rX8_add := dm_RPof 2115 4 2113 2114 (by decide +kernel)
set_option maxRecDepth 100000 in
theorem oX9_init : dm_okM RX9 rX9_init.2.1 true qX9_init = true := by decide +kernel
set_option maxRecDepth 100000 in
theorem pX9_init : dm_RP 89 rX9_init := dm_RPof 40 2 39 0 (by decide +kernel)
set_option maxRecDepth 100000 in
theorem oX9_addBytes : dm_okM RX9 rX9_addBytes.2.1 false qX9_addBytes = true := by decide +kernel
set_option maxRecDepth 100000 in
theorem pX9_addBytes : dm_RP 90 rX9_addBytes := dm_RPof 1162 2 1160 1161 (by decide +kernel)
set_option maxRecDepth 100000 in
theorem oX9_rewind : dm_okM RX9 rX9_rewind.2.1 false qX9_rewind = true := by decide +kernel
set_option maxRecDepth 100000 in
theorem pX9_rewind : dm_RP 91 rX9_rewind := dm_RPof 1181 2 1179 1180 (by decide +kernel)
set_option maxRecDepth 100000 in
theorem oX9_takeAway : dm_okM RX9 rX9_takeAway.2.1 false qX9_takeAway = true := by decide +kernel
set_option maxRecDepth 100000 in
theorem pX9_takeAway : dm_RP 92 rX9_takeAway := dm_RPof 3026 2 3024 3025 (by decide +kernel)
set_option maxRecDepth 100000 in
theorem oX9_advance : dm_okM RX9 rX9_advance.2.1 false qX9_advance = true := by decide +kernel
set_option maxRecDepth 100000 in
theorem pX9_advance : dm_RP 93 rX9_advance := dm_RPof 1185 2 1183 1184 (by decide +kernel)
set_option maxRecDepth 100000 in
theorem oX9_scanWord : dm_okM RX9 rX9_scanWord.2.1 false qX9_scanWord = true := by decide +kernel
set_option maxRecDepth 100000 in
theorem pX9_scanWord : dm_RP 94 rX9_scanWord := dm_RPof 1192 2 1191 100001 (by decide +kernel)
set_option maxRecDepth 100000 in
theorem oX9_scanNumber : dm_okM RX9 rX9_scanNumber.2.1 false qX9_scanNumber = true := by decide +kernel
set_option maxRecDepth 100000 in
theorem pX9_scanNumber : dm_RP 95 rX9_scanNumber := dm_RPof 1208 2 1207 100002 (by decide +kernel)
set_option maxRecDepth 100000 in
theorem oX9_isLetter : dm_okM RX9 rX9_isLetter.2.1 false qX9_isLetter = true := by decide +kernel
set_option maxRecDepth 100000 in
theorem pX9_isLetter : dm_RP 96 rX9_isLetter := dm_RPof 1188 2 1187 0 (by decide +kernel)
set_option maxRecDepth 100000 in
theorem oX9_isDigit : dm_okM RX9 rX9_isDigit.2.1 false qX9_isDigit = true := by decide +kernel
set_option maxRecDepth 100000 in
theorem pX9_isDigit : dm_RP 97 rX9_isDigit := dm_RPof 1204 2 1203 0 (by decide +kernel)
set_option maxRecDepth 100000 in
theorem oX9_fail : dm_okM RX9 rX9_fail.2.1 false qX9_fail = true := by decide +kernel
set_option maxRecDepth 100000 in
theorem pX9_fail : dm_RP 98 rX9_fail := dm_RPof 2079 2 2077 2078 (by decide +kernel)
set_option maxRecDepth 100000 in
theorem oX9_isOver : dm_okM RX9 rX9_isOver.2.1 false qX9_isOver = true := by decide +kernel
set_option maxRecDepth 100000 in
theorem pX9_isOver : dm_RP 99 rX9_isOver := dm_RPof 2057 2 2055 2056 (by decide +kernel)
set_option maxRecDepth 100000 in
theorem oX9_isWord : dm_okM RX9 rX9_isWord.2.1 false qX9_isWord = true := by decide +kernel
set_option maxRecDepth 100000 in
theorem pX9_isWord : dm_RP 100 rX9_isWord := dm_RPof 2063 2 2061 2062 (by decide +kernel)
set_option maxRecDepth 100000 in
theorem oX9_isSign : dm_okM RX9 rX9_isSign.2.1 false qX9_isSign = true := by decide +kernel
set_option maxRecDepth 100000 in
theorem pX9_isSign : dm_RP 101 rX9_isSign := dm_RPof 3003 2 3001 3002 (by decide +kernel)
set_option maxRecDepth 100000 in
theorem oX9_isNumber : dm_okM RX9 rX9_isNumber.2.1 false qX9_isNumber = true := by decide +kernel
set_option maxRecDepth 100000 in
theorem pX9_isNumber : dm_RP 102 rX9_isNumber := dm_RPof 2107 2 2105 2106 (by decide +kernel)
set_option maxRecDepth 100000 in
theorem oX9_isName : dm_okM RX9 rX9_isName.2.1 false qX9_isName = true := by decide +kernel
set_option maxRecDepth 100000 in
theorem pX9_isName : dm_RP 103 rX9_isName := dm_RPof 2084 2 2082 2083 (by decide +kernel)
set_option maxRecDepth 100000 in
theorem oX9_needWord : dm_okM RX9 rX9_needWord.2.1 false qX9_needWord = true := by decide +kernel
set_option maxRecDepth 100000 in
theorem pX9_needWord : dm_RP 104 rX9_needWord := dm_RPof 2097 2 2095 2096 (by decide +kernel)
set_option maxRecDepth 100000 in
theorem oX9_needSign : dm_okM RX9 rX9_needSign.2.1 false qX9_needSign = true := by decide +kernel
set_option maxRecDepth 100000 in
theorem pX9_needSign : dm_RP 105 rX9_needSign := dm_RPof 3010 2 3008 3009 (by decide +kernel)
set_option maxRecDepth 100000 in
theorem oX9_needNumber : dm_okM RX9 rX9_needNumber.2.1 false qX9_needNumber = true := by decide +kernel
set_option maxRecDepth 100000 in
theorem pX9_needNumber : dm_RP 106 rX9_needNumber := dm_RPof 2103 2 2101 2102 (by decide +kernel)
set_option maxRecDepth 100000 in
theorem oX9_seeTold : dm_okM RX9 rX9_seeTold.2.1 false qX9_seeTold = true := by decide +kernel
set_option maxRecDepth 100000 in
theorem pX9_seeTold : dm_RP 107 rX9_seeTold := dm_RPof 2157 2 2155 2156 (by decide +kernel)
set_option maxRecDepth 100000 in
theorem oX10_longer : dm_okM RX10 rX10_longer.2.1 false qX10_longer = true := by decide +kernel
set_option maxRecDepth 100000 in
theorem pX10_longer : dm_RP 108 rX10_longer := dm_RPof 1195 16 1194 0 (by decide +kernel)
set_option maxRecDepth 100000 in
theorem oX10_coded : dm_okM RX10 rX10_coded.2.1 false qX10_coded = true := by decide +kernel
set_option maxRecDepth 100000 in
theorem pX10_coded : dm_RP 109 rX10_coded := dm_RPof 1199 16 1198 0 (by decide +kernel)
