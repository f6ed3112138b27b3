set_option maxRecDepth 100000 in
theorem oX12_inMany : dm_okM RX12 rX12_inMany.2.1 false qX12_inMany = true := by decide +kernel
set_option maxRecDepth 100000 in
theorem oX12_years : dm_okM RX12 rX12_years.2.1 false qX12_years = true := by decide +kernel
set_option maxRecDepth 100000 in
theorem oX12_mark : dm_okM RX12 rX12_mark.2.1 false qX12_mark = true := by decide +kernel
set_option maxRecDepth 100000 in
theorem oX12_coinsOfAll : dm_okM RX12 rX12_coinsOfAll.2.1 false qX12_coinsOfAll = true := by decide +kernel
set_option maxRecDepth 100000 in
theorem oX12_count : dm_okM RX12 rX12_count.2.1 false qX12_count = true := by decide +kernel
set_option maxRecDepth 100000 in
theorem oJ6_bitCount_0f7a4 : dm_okM RJ6 rJ6_bitCount_0f7a4.2.1 false qJ6_bitCount_0f7a4 = true := by decide +kernel
set_option maxRecDepth 100000 in
theorem oJ9_max_7cf53 : dm_okM RJ9 rJ9_max_7cf53.2.1 false qJ9_max_7cf53 = true := by decide +kernel
set_option maxRecDepth 100000 in
theorem oJ9_min_7cf53 : dm_okM RJ9 rJ9_min_7cf53.2.1 false qJ9_min_7cf53 = true := by decide +kernel
set_option maxRecDepth 100000 in
theorem oJ7_fill_53178 : dm_okM RJ7 rJ7_fill_53178.2.1 false qJ7_fill_53178 = true := by decide +kernel
