set_option maxRecDepth 100000 in
theorem oX12_inMany : dm_okM RX12 rX12_inMany.2.1 false qX12_inMany = true := by decide +kernel
set_option maxRecDepth 100000 in
theorem pX12_inMany : dm_RP 259 rX12_inMany := dm_RPof 7187 14 7186 100609 (by decide +kernel)
set_option maxRecDepth 100000 in
theorem oX12_years : dm_okM RX12 rX12_years.2.1 false qX12_years = true := by decide +kernel
set_option maxRecDepth 100000 in
theorem pX12_years : dm_RP 260 rX12_years := dm_RPof 7171 14 7169 7170 (by decide +kernel)
set_option maxRecDepth 100000 in
theorem oX12_mark : dm_okM RX12 rX12_mark.2.1 false qX12_mark = true := by decide +kernel
set_option maxRecDepth 100000 in
theorem pX12_mark : dm_RP 261 rX12_mark := dm_RPof 7191 14 7189 7190 (by decide +kernel)
set_option maxRecDepth 100000 in
theorem oX12_coinsOfAll : dm_okM RX12 rX12_coinsOfAll.2.1 false qX12_coinsOfAll = true := by decide +kernel
set_option maxRecDepth 100000 in
theorem pX12_coinsOfAll : dm_RP 262 rX12_coinsOfAll := dm_RPof 7199 14 7198 100610 (by decide +kernel)
set_option maxRecDepth 100000 in
theorem oX12_count : dm_okM RX12 rX12_count.2.1 false qX12_count = true := by decide +kernel
set_option maxRecDepth 100000 in
theorem pX12_count : dm_RP 263 rX12_count := dm_RPof 7195 14 7193 7194 (by decide +kernel)
set_option maxRecDepth 100000 in
theorem oJ6_bitCount_0f7a4 : dm_okM RJ6 rJ6_bitCount_0f7a4.2.1 false qJ6_bitCount_0f7a4 = true := by decide +kernel
set_option maxRecDepth 100000 in
theorem pJ6_bitCount_0f7a4 : dm_RP 264 rJ6_bitCount_0f7a4 := dm_RPof 4010 23 4009 0 (by decide +kernel)
set_option maxRecDepth 100000 in
theorem oJ0_length_8abf5 : dm_okM RJ0 rJ0_length_8abf5.2.1 false qJ0_length_8abf5 = true := by decide +kernel
set_option maxRecDepth 100000 in
theorem pJ0_length_8abf5 : dm_RP 265 rJ0_length_8abf5 := dm_RPof 1227 17 1225 1226 (by decide +kernel)
set_option maxRecDepth 100000 in
theorem oJ0_indexOf_0f7a4 : dm_okM RJ0 rJ0_indexOf_0f7a4.2.1 false qJ0_indexOf_0f7a4 = true := by decide +kernel
set_option maxRecDepth 100000 in
theorem pJ0_indexOf_0f7a4 : dm_RP 266 rJ0_indexOf_0f7a4 := dm_RPof 1213 17 1211 1212 (by decide +kernel)
set_option maxRecDepth 100000 in
theorem oJ0_indexOf_7cf53 : dm_okM RJ0 rJ0_indexOf_7cf53.2.1 false qJ0_indexOf_7cf53 = true := by decide +kernel
set_option maxRecDepth 100000 in
theorem pJ0_indexOf_7cf53 : dm_RP 267 rJ0_indexOf_7cf53 := dm_RPof 1217 17 1215 1216 (by decide +kernel)
set_option maxRecDepth 100000 in
theorem oJ0_coder_7d493 : dm_okM RJ0 rJ0_coder_7d493.2.1 false qJ0_coder_7d493 = true := by decide +kernel
set_option maxRecDepth 100000 in
theorem pJ0_coder_7d493 : dm_RP 268 rJ0_coder_7d493 := dm_RPof 1231 17 1229 1230 (by decide +kernel)
set_option maxRecDepth 100000 in
theorem oJ0_isLatin1_aae02 : dm_okM RJ0 rJ0_isLatin1_aae02.2.1 false qJ0_isLatin1_aae02 = true := by decide +kernel
set_option maxRecDepth 100000 in
theorem pJ0_isLatin1_aae02 : dm_RP 269 rJ0_isLatin1_aae02 := dm_RPof 1221 17 1219 1220 (by decide +kernel)
set_option maxRecDepth 100000 in
theorem oJ1_canEncode_9a6ad : dm_okM RJ1 rJ1_canEncode_9a6ad.2.1 false qJ1_canEncode_9a6ad = true := by decide +kernel
set_option maxRecDepth 100000 in
theorem pJ1_canEncode_9a6ad : dm_RP 270 rJ1_canEncode_9a6ad := dm_RPof 1237 18 1236 0 (by decide +kernel)
set_option maxRecDepth 100000 in
theorem oJ1_indexOf_4cfef : dm_okM RJ1 rJ1_indexOf_4cfef.2.1 false qJ1_indexOf_4cfef = true := by decide +kernel
set_option maxRecDepth 100000 in
theorem pJ1_indexOf_4cfef : dm_RP 271 rJ1_indexOf_4cfef := dm_RPof 1234 18 1233 0 (by decide +kernel)
set_option maxRecDepth 100000 in
theorem oJ1_indexOfChar_4cfef : dm_okM RJ1 rJ1_indexOfChar_4cfef.2.1 false qJ1_indexOfChar_4cfef = true := by decide +kernel
set_option maxRecDepth 100000 in
theorem pJ1_indexOfChar_4cfef : dm_RP 272 rJ1_indexOfChar_4cfef := dm_RPof 2004 18 2003 0 (by decide +kernel)
set_option maxRecDepth 100000 in
theorem oJ7_fill_53178 : dm_okM RJ7 rJ7_fill_53178.2.1 false qJ7_fill_53178 = true := by decide +kernel
set_option maxRecDepth 100000 in
theorem pJ7_fill_53178 : dm_RP 273 rJ7_fill_53178 := dm_RPof 214 9 213 0 (by decide +kernel)
