set_option maxRecDepth 100000 in
theorem oX12_readTenant : dm_okM RX12 rX12_readTenant.2.1 false qX12_readTenant = true := by decide +kernel
set_option maxRecDepth 100000 in
theorem pX12_readTenant : dm_RP 175 rX12_readTenant := dm_RPof 6083 14 6082 100303 (by decide +kernel)
set_option maxRecDepth 100000 in
theorem oX12_readLove : dm_okM RX12 rX12_readLove.2.1 false qX12_readLove = true := by decide +kernel
set_option maxRecDepth 100000 in
theorem pX12_readLove : dm_RP 176 rX12_readLove := dm_RPof 6098 14 6097 100306 (by decide +kernel)
set_option maxRecDepth 100000 in
theorem oX12_readErrand : dm_okM RX12 rX12_readErrand.2.1 false qX12_readErrand = true := by decide +kernel
set_option maxRecDepth 100000 in
theorem pX12_readErrand : dm_RP 177 rX12_readErrand := dm_RPof 6106 14 6105 100308 (by decide +kernel)
set_option maxRecDepth 100000 in
theorem oX12_readOnce : dm_okM RX12 rX12_readOnce.2.1 false qX12_readOnce = true := by decide +kernel
set_option maxRecDepth 100000 in
theorem pX12_readOnce : dm_RP 178 rX12_readOnce := dm_RPof 6110 14 6109 100309 (by decide +kernel)
set_option maxRecDepth 100000 in
theorem oX12_months : dm_okM RX12 rX12_months.2.1 false qX12_months = true := by decide +kernel
set_option maxRecDepth 100000 in
theorem pX12_months : dm_RP 179 rX12_months := dm_RPof 6150 14 6148 6149 (by decide +kernel)
set_option maxRecDepth 100000 in
theorem oX12_readMonth : dm_okM RX12 rX12_readMonth.2.1 false qX12_readMonth = true := by decide +kernel
set_option maxRecDepth 100000 in
theorem pX12_readMonth : dm_RP 180 rX12_readMonth := dm_RPof 6154 14 6153 100403 (by decide +kernel)
set_option maxRecDepth 100000 in
theorem oX12_emit : dm_okM RX12 rX12_emit.2.1 false qX12_emit = true := by decide +kernel
set_option maxRecDepth 100000 in
theorem pX12_emit : dm_RP 181 rX12_emit := dm_RPof 6138 14 6137 100400 (by decide +kernel)
set_option maxRecDepth 100000 in
theorem oX12_all : dm_okM RX12 rX12_all.2.1 false qX12_all = true := by decide +kernel
set_option maxRecDepth 100000 in
theorem pX12_all : dm_RP 182 rX12_all := dm_RPof 6114 14 6113 100310 (by decide +kernel)
set_option maxRecDepth 100000 in
theorem oX12_test : dm_okM RX12 rX12_test.2.1 false qX12_test = true := by decide +kernel
set_option maxRecDepth 100000 in
theorem pX12_test : dm_RP 183 rX12_test := dm_RPof 6118 14 6117 100311 (by decide +kernel)
set_option maxRecDepth 100000 in
theorem oX12_sums : dm_okM RX12 rX12_sums.2.1 false qX12_sums = true := by decide +kernel
set_option maxRecDepth 100000 in
theorem pX12_sums : dm_RP 184 rX12_sums := dm_RPof 6122 14 6121 100312 (by decide +kernel)
set_option maxRecDepth 100000 in
theorem oX12_products : dm_okM RX12 rX12_products.2.1 false qX12_products = true := by decide +kernel
set_option maxRecDepth 100000 in
theorem pX12_products : dm_RP 185 rX12_products := dm_RPof 6126 14 6125 100313 (by decide +kernel)
set_option maxRecDepth 100000 in
theorem oX12_takePart : dm_okM RX12 rX12_takePart.2.1 false qX12_takePart = true := by decide +kernel
set_option maxRecDepth 100000 in
theorem pX12_takePart : dm_RP 186 rX12_takePart := dm_RPof 6130 14 6129 100314 (by decide +kernel)
set_option maxRecDepth 100000 in
theorem oX12_worthAt : dm_okM RX12 rX12_worthAt.2.1 false qX12_worthAt = true := by decide +kernel
set_option maxRecDepth 100000 in
theorem pX12_worthAt : dm_RP 187 rX12_worthAt := dm_RPof 7026 14 7025 100507 (by decide +kernel)
set_option maxRecDepth 100000 in
theorem oX12_both : dm_okM RX12 rX12_both.2.1 false qX12_both = true := by decide +kernel
set_option maxRecDepth 100000 in
theorem pX12_both : dm_RP 188 rX12_both := dm_RPof 7029 14 7028 0 (by decide +kernel)
