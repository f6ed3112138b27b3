set_option maxRecDepth 100000 in
theorem oX12_findDays : dm_okM RX12 rX12_findDays.2.1 false qX12_findDays = true := by decide +kernel
set_option maxRecDepth 100000 in
theorem pX12_findDays : dm_RP 253 rX12_findDays := dm_RPof 7164 14 7163 100607 (by decide +kernel)
set_option maxRecDepth 100000 in
theorem oX12_days : dm_okM RX12 rX12_days.2.1 false qX12_days = true := by decide +kernel
set_option maxRecDepth 100000 in
theorem pX12_days : dm_RP 254 rX12_days := dm_RPof 7160 14 7158 7159 (by decide +kernel)
set_option maxRecDepth 100000 in
theorem oX12_did : dm_okM RX12 rX12_did.2.1 false qX12_did = true := by decide +kernel
set_option maxRecDepth 100000 in
theorem pX12_did : dm_RP 255 rX12_did := dm_RPof 7172 14 7170 7171 (by decide +kernel)
set_option maxRecDepth 100000 in
theorem oX12_next : dm_okM RX12 rX12_next.2.1 false qX12_next = true := by decide +kernel
set_option maxRecDepth 100000 in
theorem pX12_next : dm_RP 256 rX12_next := dm_RPof 7176 14 7174 7175 (by decide +kernel)
set_option maxRecDepth 100000 in
theorem oX12_draw : dm_okM RX12 rX12_draw.2.1 false qX12_draw = true := by decide +kernel
set_option maxRecDepth 100000 in
theorem pX12_draw : dm_RP 257 rX12_draw := dm_RPof 7188 14 7187 100610 (by decide +kernel)
set_option maxRecDepth 100000 in
theorem oX12_drawsActs : dm_okM RX12 rX12_drawsActs.2.1 false qX12_drawsActs = true := by decide +kernel
set_option maxRecDepth 100000 in
theorem pX12_drawsActs : dm_RP 258 rX12_drawsActs := dm_RPof 7184 14 7183 100609 (by decide +kernel)
set_option maxRecDepth 100000 in
theorem oX12_inMany : dm_okM RX12 rX12_inMany.2.1 false qX12_inMany = true := by decide +kernel
set_option maxRecDepth 100000 in
theorem pX12_inMany : dm_RP 259 rX12_inMany := dm_RPof 7196 14 7195 100611 (by decide +kernel)
set_option maxRecDepth 100000 in
theorem oX12_years : dm_okM RX12 rX12_years.2.1 false qX12_years = true := by decide +kernel
set_option maxRecDepth 100000 in
theorem pX12_years : dm_RP 260 rX12_years := dm_RPof 7180 14 7178 7179 (by decide +kernel)
set_option maxRecDepth 100000 in
theorem oX12_mark : dm_okM RX12 rX12_mark.2.1 false qX12_mark = true := by decide +kernel
set_option maxRecDepth 100000 in
theorem pX12_mark : dm_RP 261 rX12_mark := dm_RPof 7200 14 7198 7199 (by decide +kernel)
set_option maxRecDepth 100000 in
theorem oX12_coinsOfAll : dm_okM RX12 rX12_coinsOfAll.2.1 false qX12_coinsOfAll = true := by decide +kernel
set_option maxRecDepth 100000 in
theorem pX12_coinsOfAll : dm_RP 262 rX12_coinsOfAll := dm_RPof 7208 14 7207 100612 (by decide +kernel)
set_option maxRecDepth 100000 in
theorem oX12_count : dm_okM RX12 rX12_count.2.1 false qX12_count = true := by decide +kernel
set_option maxRecDepth 100000 in
theorem pX12_count : dm_RP 263 rX12_count := dm_RPof 7204 14 7202 7203 (by decide +kernel)
set_option maxRecDepth 100000 in
theorem oJ6_bitCount_0f7a4 : dm_okM RJ6 rJ6_bitCount_0f7a4.2.1 false qJ6_bitCount_0f7a4 = true := by decide +kernel
set_option maxRecDepth 100000 in
theorem pJ6_bitCount_0f7a4 : dm_RP 264 rJ6_bitCount_0f7a4 := dm_RPof 4019 23 4018 0 (by decide +kernel)
set_option maxRecDepth 100000 in
theorem oJ0_length_8abf5 : dm_okM RJ0 rJ0_length_8abf5.2.1 false qJ0_length_8abf5 = true := by decide +kernel
set_option maxRecDepth 100000 in
theorem pJ0_length_8abf5 : dm_RP 265 rJ0_length_8abf5 := dm_RPof 1230 17 1228 1229 (by decide +kernel)
set_option maxRecDepth 100000 in
theorem oJ0_indexOf_0f7a4 : dm_okM RJ0 rJ0_indexOf_0f7a4.2.1 false qJ0_indexOf_0f7a4 = true := by decide +kernel
set_option maxRecDepth 100000 in
theorem pJ0_indexOf_0f7a4 : dm_RP 266 rJ0_indexOf_0f7a4 := dm_RPof 1216 17 1214 1215 (by decide +kernel)
set_option maxRecDepth 100000 in
theorem oJ0_indexOf_7cf53 : dm_okM RJ0 rJ0_indexOf_7cf53.2.1 false qJ0_indexOf_7cf53 = true := by decide +kernel
set_option maxRecDepth 100000 in
theorem pJ0_indexOf_7cf53 : dm_RP 267 rJ0_indexOf_7cf53 := dm_RPof 1220 17 1218 1219 (by decide +kernel)
set_option maxRecDepth 100000 in
theorem oJ0_coder_7d493 : dm_okM RJ0 rJ0_coder_7d493.2.1 false qJ0_coder_7d493 = true := by decide +kernel
set_option maxRecDepth 100000 in
theorem pJ0_coder_7d493 : dm_RP 268 rJ0_coder_7d493 := dm_RPof 1234 17 1232 1233 (by decide +kernel)
set_option maxRecDepth 100000 in
theorem oJ0_isLatin1_aae02 : dm_okM RJ0 rJ0_isLatin1_aae02.2.1 false qJ0_isLatin1_aae02 = true := by decide +kernel
set_option maxRecDepth 100000 in
theorem pJ0_isLatin1_aae02 : dm_RP 269 rJ0_isLatin1_aae02 := dm_RPof 1224 17 1222 1223 (by decide +kernel)
set_option maxRecDepth 100000 in
theorem oJ1_canEncode_9a6ad : dm_okM RJ1 rJ1_canEncode_9a6ad.2.1 false qJ1_canEncode_9a6ad = true := by decide +kernel
set_option maxRecDepth 100000 in
theorem pJ1_canEncode_9a6ad : dm_RP 270 rJ1_canEncode_9a6ad := dm_RPof 2000 18 1239 0 (by decide +kernel)
set_option maxRecDepth 100000 in
theorem oJ1_indexOf_4cfef : dm_okM RJ1 rJ1_indexOf_4cfef.2.1 false qJ1_indexOf_4cfef = true := by decide +kernel
set_option maxRecDepth 100000 in
theorem pJ1_indexOf_4cfef : dm_RP 271 rJ1_indexOf_4cfef := dm_RPof 1237 18 1236 0 (by decide +kernel)
set_option maxRecDepth 100000 in
theorem oJ1_indexOfChar_4cfef : dm_okM RJ1 rJ1_indexOfChar_4cfef.2.1 false qJ1_indexOfChar_4cfef = true := by decide +kernel
set_option maxRecDepth 100000 in
theorem pJ1_indexOfChar_4cfef : dm_RP 272 rJ1_indexOfChar_4cfef := dm_RPof 2007 18 2006 0 (by decide +kernel)
set_option maxRecDepth 100000 in
theorem oJ7_fill_53178 : dm_okM RJ7 rJ7_fill_53178.2.1 false qJ7_fill_53178 = true := by decide +kernel
set_option maxRecDepth 100000 in
theorem pJ7_fill_53178 : dm_RP 273 rJ7_fill_53178 := dm_RPof 214 9 213 0 (by decide +kernel)
