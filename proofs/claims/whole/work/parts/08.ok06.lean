set_option maxRecDepth 100000 in
theorem oX12_isSign : dm_okM RX12 rX12_isSign.2.1 false qX12_isSign = true := by decide +kernel
set_option maxRecDepth 100000 in
theorem oX12_isWord : dm_okM RX12 rX12_isWord.2.1 false qX12_isWord = true := by decide +kernel
set_option maxRecDepth 100000 in
theorem oX12_takeSign : dm_okM RX12 rX12_takeSign.2.1 false qX12_takeSign = true := by decide +kernel
set_option maxRecDepth 100000 in
theorem oX12_hasSign : dm_okM RX12 rX12_hasSign.2.1 false qX12_hasSign = true := by decide +kernel
set_option maxRecDepth 100000 in
theorem oX12_hasWord : dm_okM RX12 rX12_hasWord.2.1 false qX12_hasWord = true := by decide +kernel
set_option maxRecDepth 100000 in
theorem oX12_takeWord : dm_okM RX12 rX12_takeWord.2.1 false qX12_takeWord = true := by decide +kernel
set_option maxRecDepth 100000 in
theorem oX12_within : dm_okM RX12 rX12_within.2.1 false qX12_within = true := by decide +kernel
set_option maxRecDepth 100000 in
theorem oX12_standsAsAlways : dm_okM RX12 rX12_standsAsAlways.2.1 false qX12_standsAsAlways = true := by decide +kernel
set_option maxRecDepth 100000 in
theorem oX12_takeNumber : dm_okM RX12 rX12_takeNumber.2.1 false qX12_takeNumber = true := by decide +kernel
set_option maxRecDepth 100000 in
theorem oX12_takeAfter : dm_okM RX12 rX12_takeAfter.2.1 false qX12_takeAfter = true := by decide +kernel
set_option maxRecDepth 100000 in
theorem oX12_wordHere : dm_okM RX12 rX12_wordHere.2.1 false qX12_wordHere = true := by decide +kernel
set_option maxRecDepth 100000 in
theorem oX12_takeOne : dm_okM RX12 rX12_takeOne.2.1 false qX12_takeOne = true := by decide +kernel
set_option maxRecDepth 100000 in
theorem oX12_isName : dm_okM RX12 rX12_isName.2.1 false qX12_isName = true := by decide +kernel
set_option maxRecDepth 100000 in
theorem oX12_find : dm_okM RX12 rX12_find.2.1 false qX12_find = true := by decide +kernel
set_option maxRecDepth 100000 in
theorem oX12_toldHere : dm_okM RX12 rX12_toldHere.2.1 false qX12_toldHere = true := by decide +kernel
set_option maxRecDepth 100000 in
theorem oX12_takeTold : dm_okM RX12 rX12_takeTold.2.1 false qX12_takeTold = true := by decide +kernel
set_option maxRecDepth 100000 in
theorem oX12_house : dm_okM RX12 rX12_house.2.1 false qX12_house = true := by decide +kernel
set_option maxRecDepth 100000 in
theorem oX12_readLine : dm_okM RX12 rX12_readLine.2.1 false qX12_readLine = true := by decide +kernel
set_option maxRecDepth 100000 in
theorem oX12_readName : dm_okM RX12 rX12_readName.2.1 false qX12_readName = true := by decide +kernel
set_option maxRecDepth 100000 in
theorem oX12_readRoom : dm_okM RX12 rX12_readRoom.2.1 false qX12_readRoom = true := by decide +kernel
set_option maxRecDepth 100000 in
theorem oX12_readTenant : dm_okM RX12 rX12_readTenant.2.1 false qX12_readTenant = true := by decide +kernel
set_option maxRecDepth 100000 in
theorem oX12_readLove : dm_okM RX12 rX12_readLove.2.1 false qX12_readLove = true := by decide +kernel
