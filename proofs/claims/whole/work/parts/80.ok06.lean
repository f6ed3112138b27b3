set_option maxRecDepth 100000 in
theorem oX12_cutAll : dm_okM RX12 rX12_cutAll.2.1 false qX12_cutAll = true := by decide +kernel
set_option maxRecDepth 100000 in
theorem pX12_cutAll : dm_RP 153 rX12_cutAll := dm_RPof 6016 14 6015 100206 (by decide +kernel)
set_option maxRecDepth 100000 in
theorem oX12_wrong : dm_okM RX12 rX12_wrong.2.1 false qX12_wrong = true := by decide +kernel
set_option maxRecDepth 100000 in
theorem pX12_wrong : dm_RP 154 rX12_wrong := dm_RPof 6047 14 6046 100210 (by decide +kernel)
set_option maxRecDepth 100000 in
theorem oX12_isSign : dm_okM RX12 rX12_isSign.2.1 false qX12_isSign = true := by decide +kernel
set_option maxRecDepth 100000 in
theorem pX12_isSign : dm_RP 155 rX12_isSign := dm_RPof 6134 14 6133 100315 (by decide +kernel)
set_option maxRecDepth 100000 in
theorem oX12_isWord : dm_okM RX12 rX12_isWord.2.1 false qX12_isWord = true := by decide +kernel
set_option maxRecDepth 100000 in
theorem pX12_isWord : dm_RP 156 rX12_isWord := dm_RPof 6039 14 6038 100208 (by decide +kernel)
set_option maxRecDepth 100000 in
theorem oX12_takeSign : dm_okM RX12 rX12_takeSign.2.1 false qX12_takeSign = true := by decide +kernel
set_option maxRecDepth 100000 in
theorem pX12_takeSign : dm_RP 157 rX12_takeSign := dm_RPof 6146 14 6145 100402 (by decide +kernel)
set_option maxRecDepth 100000 in
theorem oX12_hasSign : dm_okM RX12 rX12_hasSign.2.1 false qX12_hasSign = true := by decide +kernel
set_option maxRecDepth 100000 in
theorem pX12_hasSign : dm_RP 158 rX12_hasSign := dm_RPof 6142 14 6141 100401 (by decide +kernel)
set_option maxRecDepth 100000 in
theorem oX12_hasWord : dm_okM RX12 rX12_hasWord.2.1 false qX12_hasWord = true := by decide +kernel
set_option maxRecDepth 100000 in
theorem pX12_hasWord : dm_RP 159 rX12_hasWord := dm_RPof 6075 14 6074 100301 (by decide +kernel)
set_option maxRecDepth 100000 in
theorem oX12_takeWord : dm_okM RX12 rX12_takeWord.2.1 false qX12_takeWord = true := by decide +kernel
set_option maxRecDepth 100000 in
theorem pX12_takeWord : dm_RP 160 rX12_takeWord := dm_RPof 6071 14 6070 100300 (by decide +kernel)
set_option maxRecDepth 100000 in
theorem oX12_within : dm_okM RX12 rX12_within.2.1 false qX12_within = true := by decide +kernel
set_option maxRecDepth 100000 in
theorem pX12_within : dm_RP 161 rX12_within := dm_RPof 6094 14 6093 0 (by decide +kernel)
set_option maxRecDepth 100000 in
theorem oX12_standsAsAlways : dm_okM RX12 rX12_standsAsAlways.2.1 false qX12_standsAsAlways = true := by decide +kernel
set_option maxRecDepth 100000 in
theorem pX12_standsAsAlways : dm_RP 162 rX12_standsAsAlways := dm_RPof 5110 14 5109 100201 (by decide +kernel)
set_option maxRecDepth 100000 in
theorem oX12_takeNumber : dm_okM RX12 rX12_takeNumber.2.1 false qX12_takeNumber = true := by decide +kernel
set_option maxRecDepth 100000 in
theorem pX12_takeNumber : dm_RP 163 rX12_takeNumber := dm_RPof 6079 14 6078 100302 (by decide +kernel)
set_option maxRecDepth 100000 in
theorem oX12_takeAfter : dm_okM RX12 rX12_takeAfter.2.1 false qX12_takeAfter = true := by decide +kernel
set_option maxRecDepth 100000 in
theorem pX12_takeAfter : dm_RP 164 rX12_takeAfter := dm_RPof 6067 14 6066 100215 (by decide +kernel)
set_option maxRecDepth 100000 in
theorem oX12_wordHere : dm_okM RX12 rX12_wordHere.2.1 false qX12_wordHere = true := by decide +kernel
set_option maxRecDepth 100000 in
theorem pX12_wordHere : dm_RP 165 rX12_wordHere := dm_RPof 6059 14 6058 100213 (by decide +kernel)
set_option maxRecDepth 100000 in
theorem oX12_takeOne : dm_okM RX12 rX12_takeOne.2.1 false qX12_takeOne = true := by decide +kernel
set_option maxRecDepth 100000 in
theorem pX12_takeOne : dm_RP 166 rX12_takeOne := dm_RPof 6087 14 6086 100304 (by decide +kernel)
set_option maxRecDepth 100000 in
theorem oX12_isName : dm_okM RX12 rX12_isName.2.1 false qX12_isName = true := by decide +kernel
set_option maxRecDepth 100000 in
theorem pX12_isName : dm_RP 167 rX12_isName := dm_RPof 6055 14 6054 100212 (by decide +kernel)
set_option maxRecDepth 100000 in
theorem oX12_find : dm_okM RX12 rX12_find.2.1 false qX12_find = true := by decide +kernel
set_option maxRecDepth 100000 in
theorem pX12_find : dm_RP 168 rX12_find := dm_RPof 6063 14 6062 100214 (by decide +kernel)
set_option maxRecDepth 100000 in
theorem oX12_toldHere : dm_okM RX12 rX12_toldHere.2.1 false qX12_toldHere = true := by decide +kernel
set_option maxRecDepth 100000 in
theorem pX12_toldHere : dm_RP 169 rX12_toldHere := dm_RPof 6091 14 6090 100305 (by decide +kernel)
set_option maxRecDepth 100000 in
theorem oX12_takeTold : dm_okM RX12 rX12_takeTold.2.1 false qX12_takeTold = true := by decide +kernel
set_option maxRecDepth 100000 in
theorem pX12_takeTold : dm_RP 170 rX12_takeTold := dm_RPof 6102 14 6101 100307 (by decide +kernel)
set_option maxRecDepth 100000 in
theorem oX12_house : dm_okM RX12 rX12_house.2.1 false qX12_house = true := by decide +kernel
set_option maxRecDepth 100000 in
theorem pX12_house : dm_RP 171 rX12_house := dm_RPof 6012 14 6010 6011 (by decide +kernel)
set_option maxRecDepth 100000 in
theorem oX12_readLine : dm_okM RX12 rX12_readLine.2.1 false qX12_readLine = true := by decide +kernel
set_option maxRecDepth 100000 in
theorem pX12_readLine : dm_RP 172 rX12_readLine := dm_RPof 6035 14 6034 100207 (by decide +kernel)
set_option maxRecDepth 100000 in
theorem oX12_readName : dm_okM RX12 rX12_readName.2.1 false qX12_readName = true := by decide +kernel
set_option maxRecDepth 100000 in
theorem pX12_readName : dm_RP 173 rX12_readName := dm_RPof 6051 14 6050 100211 (by decide +kernel)
set_option maxRecDepth 100000 in
theorem oX12_readRoom : dm_okM RX12 rX12_readRoom.2.1 false qX12_readRoom = true := by decide +kernel
set_option maxRecDepth 100000 in
theorem pX12_readRoom : dm_RP 174 rX12_readRoom := dm_RPof 6043 14 6042 100209 (by decide +kernel)
