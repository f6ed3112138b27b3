set_option maxRecDepth 100000 in
theorem oX12_inMany : dm_okM RX12 rX12_inMany.2.1 false qX12_inMany = true := by decide +kernel
set_option maxRecDepth 100000 in
theorem pX12_inMany : dm_RP 259 rX12_inMany := dm_RPof 1974 121 1973 105 (by decide +kernel)
set_option maxRecDepth 100000 in
theorem oX12_years : dm_okM RX12 rX12_years.2.1 false qX12_years = true := by decide +kernel
set_option maxRecDepth 100000 in
theorem pX12_years : dm_RP 260 rX12_years := dm_RPof 1958 121 1956 1957 (by decide +kernel)
set_option maxRecDepth 100000 in
theorem oX12_mark : dm_okM RX12 rX12_mark.2.1 false qX12_mark = true := by decide +kernel
set_option maxRecDepth 100000 in
theorem pX12_mark : dm_RP 261 rX12_mark := dm_RPof 1978 121 1976 1977 (by decide +kernel)
set_option maxRecDepth 100000 in
theorem oX12_coinsOfAll : dm_okM RX12 rX12_coinsOfAll.2.1 false qX12_coinsOfAll = true := by decide +kernel
set_option maxRecDepth 100000 in
theorem pX12_coinsOfAll : dm_RP 262 rX12_coinsOfAll := dm_RPof 1986 121 1985 106 (by decide +kernel)
set_option maxRecDepth 100000 in
theorem oX12_count : dm_okM RX12 rX12_count.2.1 false qX12_count = true := by decide +kernel
set_option maxRecDepth 100000 in
theorem pX12_count : dm_RP 263 rX12_count := dm_RPof 1982 121 1980 1981 (by decide +kernel)
set_option maxRecDepth 100000 in
theorem oJ6_bitCount_0f7a4 : dm_okM RJ6 rJ6_bitCount_0f7a4.2.1 false qJ6_bitCount_0f7a4 = true := by decide +kernel
set_option maxRecDepth 100000 in
theorem pJ6_bitCount_0f7a4 : dm_RP 264 rJ6_bitCount_0f7a4 := dm_RPof 1077 130 1076 0 (by decide +kernel)
set_option maxRecDepth 100000 in
theorem oJ9_max_7cf53 : dm_okM RJ9 rJ9_max_7cf53.2.1 false qJ9_max_7cf53 = true := by decide +kernel
set_option maxRecDepth 100000 in
theorem pJ9_max_7cf53 : dm_RP 265 rJ9_max_7cf53 := dm_RPof 198 112 197 0 (by decide +kernel)
set_option maxRecDepth 100000 in
theorem oJ9_min_7cf53 : dm_okM RJ9 rJ9_min_7cf53.2.1 false qJ9_min_7cf53 = true := by decide +kernel
set_option maxRecDepth 100000 in
theorem pJ9_min_7cf53 : dm_RP 266 rJ9_min_7cf53 := dm_RPof 588 112 587 0 (by decide +kernel)
set_option maxRecDepth 100000 in
theorem oJ0_length_8abf5 : dm_okM RJ0 rJ0_length_8abf5.2.1 false qJ0_length_8abf5 = true := by decide +kernel
set_option maxRecDepth 100000 in
theorem pJ0_length_8abf5 : dm_RP 267 rJ0_length_8abf5 := dm_RPof 574 124 572 573 (by decide +kernel)
set_option maxRecDepth 100000 in
theorem oJ0_indexOf_0f7a4 : dm_okM RJ0 rJ0_indexOf_0f7a4.2.1 false qJ0_indexOf_0f7a4 = true := by decide +kernel
set_option maxRecDepth 100000 in
theorem pJ0_indexOf_0f7a4 : dm_RP 268 rJ0_indexOf_0f7a4 := dm_RPof 560 124 558 559 (by decide +kernel)
set_option maxRecDepth 100000 in
theorem oJ0_indexOf_7cf53 : dm_okM RJ0 rJ0_indexOf_7cf53.2.1 false qJ0_indexOf_7cf53 = true := by decide +kernel
set_option maxRecDepth 100000 in
theorem pJ0_indexOf_7cf53 : dm_RP 269 rJ0_indexOf_7cf53 := dm_RPof 564 124 562 563 (by decide +kernel)
set_option maxRecDepth 100000 in
theorem oJ0_coder_7d493 : dm_okM RJ0 rJ0_coder_7d493.2.1 false qJ0_coder_7d493 = true := by decide +kernel
set_option maxRecDepth 100000 in
theorem pJ0_coder_7d493 : dm_RP 270 rJ0_coder_7d493 := dm_RPof 578 124 576 577 (by decide +kernel)
set_option maxRecDepth 100000 in
theorem oJ0_isLatin1_aae02 : dm_okM RJ0 rJ0_isLatin1_aae02.2.1 false qJ0_isLatin1_aae02 = true := by decide +kernel
set_option maxRecDepth 100000 in
theorem pJ0_isLatin1_aae02 : dm_RP 271 rJ0_isLatin1_aae02 := dm_RPof 568 124 566 567 (by decide +kernel)
set_option maxRecDepth 100000 in
theorem oJ1_canEncode_9a6ad : dm_okM RJ1 rJ1_canEncode_9a6ad.2.1 false qJ1_canEncode_9a6ad = true := by decide +kernel
set_option maxRecDepth 100000 in
theorem pJ1_canEncode_9a6ad : dm_RP 272 rJ1_canEncode_9a6ad := dm_RPof 584 125 583 0 (by decide +kernel)
set_option maxRecDepth 100000 in
theorem oJ1_indexOf_4cfef : dm_okM RJ1 rJ1_indexOf_4cfef.2.1 false qJ1_indexOf_4cfef = true := by decide +kernel
set_option maxRecDepth 100000 in
theorem pJ1_indexOf_4cfef : dm_RP 273 rJ1_indexOf_4cfef := dm_RPof 581 125 580 0 (by decide +kernel)
set_option maxRecDepth 100000 in
theorem oJ1_indexOfChar_4cfef : dm_okM RJ1 rJ1_indexOfChar_4cfef.2.1 false qJ1_indexOfChar_4cfef = true := by decide +kernel
set_option maxRecDepth 100000 in
theorem pJ1_indexOfChar_4cfef : dm_RP 274 rJ1_indexOfChar_4cfef := dm_RPof 591 125 590 0 (by decide +kernel)
set_option maxRecDepth 100000 in
theorem oJ7_fill_53178 : dm_okM RJ7 rJ7_fill_53178.2.1 false qJ7_fill_53178 = true := by decide +kernel
set_option maxRecDepth 100000 in
theorem pJ7_fill_53178 : dm_RP 275 rJ7_fill_53178 := dm_RPof 321 116 320 0 (by decide +kernel)
