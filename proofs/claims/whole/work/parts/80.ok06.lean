set_option maxRecDepth 100000 in
theorem oX12_isSign : dm_okM RX12 rX12_isSign.2.1 false qX12_isSign = true := by decide +kernel
set_option maxRecDepth 100000 in
theorem pX12_isSign : dm_RP 155 rX12_isSign := dm_RPof 6125 14 6124 100313 (by decide +kernel)
set_option maxRecDepth 100000 in
theorem oX12_isWord : dm_okM RX12 rX12_isWord.2.1 false qX12_isWord = true := by decide +kernel
set_option maxRecDepth 100000 in
theorem pX12_isWord : dm_RP 156 rX12_isWord := dm_RPof 6030 14 6029 100206 (by decide +kernel)
set_option maxRecDepth 100000 in
theorem oX12_takeSign : dm_okM RX12 rX12_takeSign.2.1 false qX12_takeSign = true := by decide +kernel
set_option maxRecDepth 100000 in
theorem pX12_takeSign : dm_RP 157 rX12_takeSign := dm_RPof 6137 14 6136 100400 (by decide +kernel)
set_option maxRecDepth 100000 in
theorem oX12_hasSign : dm_okM RX12 rX12_hasSign.2.1 false qX12_hasSign = true := by decide +kernel
set_option maxRecDepth 100000 in
theorem pX12_hasSign : dm_RP 158 rX12_hasSign := dm_RPof 6133 14 6132 100315 (by decide +kernel)
set_option maxRecDepth 100000 in
theorem oX12_hasWord : dm_okM RX12 rX12_hasWord.2.1 false qX12_hasWord = true := by decide +kernel
set_option maxRecDepth 100000 in
theorem pX12_hasWord : dm_RP 159 rX12_hasWord := dm_RPof 6066 14 6065 100215 (by decide +kernel)
set_option maxRecDepth 100000 in
theorem oX12_takeWord : dm_okM RX12 rX12_takeWord.2.1 false qX12_takeWord = true := by decide +kernel
set_option maxRecDepth 100000 in
theorem pX12_takeWord : dm_RP 160 rX12_takeWord := dm_RPof 6062 14 6061 100214 (by decide +kernel)
set_option maxRecDepth 100000 in
theorem oX12_within : dm_okM RX12 rX12_within.2.1 false qX12_within = true := by decide +kernel
set_option maxRecDepth 100000 in
theorem pX12_within : dm_RP 161 rX12_within := dm_RPof 6085 14 6084 0 (by decide +kernel)
set_option maxRecDepth 100000 in
theorem oX12_standsAsAlways : dm_okM RX12 rX12_standsAsAlways.2.1 false qX12_standsAsAlways = true := by decide +kernel
set_option maxRecDepth 100000 in
theorem pX12_standsAsAlways : dm_RP 162 rX12_standsAsAlways := dm_RPof 5101 14 5100 100115 (by decide +kernel)
set_option maxRecDepth 100000 in
theorem oX12_takeNumber : dm_okM RX12 rX12_takeNumber.2.1 false qX12_takeNumber = true := by decide +kernel
set_option maxRecDepth 100000 in
theorem pX12_takeNumber : dm_RP 163 rX12_takeNumber := dm_RPof 6070 14 6069 100300 (by decide +kernel)
set_option maxRecDepth 100000 in
theorem oX12_takeAfter : dm_okM RX12 rX12_takeAfter.2.1 false qX12_takeAfter = true := by decide +kernel
set_option maxRecDepth 100000 in
theorem pX12_takeAfter : dm_RP 164 rX12_takeAfter := dm_RPof 6058 14 6057 100213 (by decide +kernel)
set_option maxRecDepth 100000 in
theorem oX12_wordHere : dm_okM RX12 rX12_wordHere.2.1 false qX12_wordHere = true := by decide +kernel
set_option maxRecDepth 100000 in
theorem pX12_wordHere : dm_RP 165 rX12_wordHere := dm_RPof 6050 14 6049 100211 (by decide +kernel)
set_option maxRecDepth 100000 in
theorem oX12_takeOne : dm_okM RX12 rX12_takeOne.2.1 false qX12_takeOne = true := by decide +kernel
set_option maxRecDepth 100000 in
theorem pX12_takeOne : dm_RP 166 rX12_takeOne := dm_RPof 6078 14 6077 100302 (by decide +kernel)
set_option maxRecDepth 100000 in
theorem oX12_isName : dm_okM RX12 rX12_isName.2.1 false qX12_isName = true := by decide +kernel
set_option maxRecDepth 100000 in
theorem pX12_isName : dm_RP 167 rX12_isName := dm_RPof 6046 14 6045 100210 (by decide +kernel)
set_option maxRecDepth 100000 in
theorem oX12_find : dm_okM RX12 rX12_find.2.1 false qX12_find = true := by decide +kernel
set_option maxRecDepth 100000 in
theorem pX12_find : dm_RP 168 rX12_find := dm_RPof 6054 14 6053 100212 (by decide +kernel)
set_option maxRecDepth 100000 in
theorem oX12_toldHere : dm_okM RX12 rX12_toldHere.2.1 false qX12_toldHere = true := by decide +kernel
set_option maxRecDepth 100000 in
theorem pX12_toldHere : dm_RP 169 rX12_toldHere := dm_RPof 6082 14 6081 100303 (by decide +kernel)
set_option maxRecDepth 100000 in
theorem oX12_takeTold : dm_okM RX12 rX12_takeTold.2.1 false qX12_takeTold = true := by decide +kernel
set_option maxRecDepth 100000 in
theorem pX12_takeTold : dm_RP 170 rX12_takeTold := dm_RPof 6093 14 6092 100305 (by decide +kernel)
set_option maxRecDepth 100000 in
theorem oX12_house : dm_okM RX12 rX12_house.2.1 false qX12_house = true := by decide +kernel
set_option maxRecDepth 100000 in
theorem pX12_house : dm_RP 171 rX12_house := dm_RPof 6003 14 6001 6002 (by decide +kernel)
set_option maxRecDepth 100000 in
theorem oX12_readLine : dm_okM RX12 rX12_readLine.2.1 false qX12_readLine = true := by decide +kernel
set_option maxRecDepth 100000 in
theorem pX12_readLine : dm_RP 172 rX12_readLine := dm_RPof 6026 14 6025 100205 (by decide +kernel)
set_option maxRecDepth 100000 in
theorem oX12_readName : dm_okM RX12 rX12_readName.2.1 false qX12_readName = true := by decide +kernel
set_option maxRecDepth 100000 in
theorem pX12_readName : dm_RP 173 rX12_readName := dm_RPof 6042 14 6041 100209 (by decide +kernel)
set_option maxRecDepth 100000 in
theorem oX12_readRoom : dm_okM RX12 rX12_readRoom.2.1 false qX12_readRoom = true := by decide +kernel
set_option maxRecDepth 100000 in
theorem pX12_readRoom : dm_RP 174 rX12_readRoom := dm_RPof 6034 14 6033 100207 (by decide +kernel)
set_option maxRecDepth 100000 in
theorem oX12_readTenant : dm_okM RX12 rX12_readTenant.2.1 false qX12_readTenant = true := by decide +kernel
set_option maxRecDepth 100000 in
theorem pX12_readTenant : dm_RP 175 rX12_readTenant := dm_RPof 6074 14 6073 100301 (by decide +kernel)
set_option maxRecDepth 100000 in
theorem oX12_readLove : dm_okM RX12 rX12_readLove.2.1 false qX12_readLove = true := by decide +kernel
set_option maxRecDepth 100000 in
theorem pX12_readLove : dm_RP 176 rX12_readLove := dm_RPof 6089 14 6088 100304 (by decide +kernel)
