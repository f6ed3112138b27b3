set_option maxRecDepth 100000 in
theorem oX12_readErrand : dm_okM RX12 rX12_readErrand.2.1 false qX12_readErrand = true := by decide +kernel
set_option maxRecDepth 100000 in
theorem pX12_readErrand : dm_RP 177 rX12_readErrand := dm_RPof 6097 14 6096 100306 (by decide +kernel)
set_option maxRecDepth 100000 in
theorem oX12_readOnce : dm_okM RX12 rX12_readOnce.2.1 false qX12_readOnce = true := by decide +kernel
set_option maxRecDepth 100000 in
theorem pX12_readOnce : dm_RP 178 rX12_readOnce := dm_RPof 6101 14 6100 100307 (by decide +kernel)
set_option maxRecDepth 100000 in
theorem oX12_months : dm_okM RX12 rX12_months.2.1 false qX12_months = true := by decide +kernel
set_option maxRecDepth 100000 in
theorem pX12_months : dm_RP 179 rX12_months := dm_RPof 6141 14 6139 6140 (by decide +kernel)
set_option maxRecDepth 100000 in
theorem oX12_readMonth : dm_okM RX12 rX12_readMonth.2.1 false qX12_readMonth = true := by decide +kernel
set_option maxRecDepth 100000 in
theorem pX12_readMonth : dm_RP 180 rX12_readMonth := dm_RPof 6145 14 6144 100401 (by decide +kernel)
set_option maxRecDepth 100000 in
theorem oX12_emit : dm_okM RX12 rX12_emit.2.1 false qX12_emit = true := by decide +kernel
set_option maxRecDepth 100000 in
theorem pX12_emit : dm_RP 181 rX12_emit := dm_RPof 6129 14 6128 100314 (by decide +kernel)
set_option maxRecDepth 100000 in
theorem oX12_all : dm_okM RX12 rX12_all.2.1 false qX12_all = true := by decide +kernel
set_option maxRecDepth 100000 in
theorem pX12_all : dm_RP 182 rX12_all := dm_RPof 6105 14 6104 100308 (by decide +kernel)
set_option maxRecDepth 100000 in
theorem oX12_test : dm_okM RX12 rX12_test.2.1 false qX12_test = true := by decide +kernel
set_option maxRecDepth 100000 in
theorem pX12_test : dm_RP 183 rX12_test := dm_RPof 6109 14 6108 100309 (by decide +kernel)
set_option maxRecDepth 100000 in
theorem oX12_sums : dm_okM RX12 rX12_sums.2.1 false qX12_sums = true := by decide +kernel
set_option maxRecDepth 100000 in
theorem pX12_sums : dm_RP 184 rX12_sums := dm_RPof 6113 14 6112 100310 (by decide +kernel)
set_option maxRecDepth 100000 in
theorem oX12_products : dm_okM RX12 rX12_products.2.1 false qX12_products = true := by decide +kernel
set_option maxRecDepth 100000 in
theorem pX12_products : dm_RP 185 rX12_products := dm_RPof 6117 14 6116 100311 (by decide +kernel)
set_option maxRecDepth 100000 in
theorem oX12_takePart : dm_okM RX12 rX12_takePart.2.1 false qX12_takePart = true := by decide +kernel
set_option maxRecDepth 100000 in
theorem pX12_takePart : dm_RP 186 rX12_takePart := dm_RPof 6121 14 6120 100312 (by decide +kernel)
set_option maxRecDepth 100000 in
theorem oX12_worthAt : dm_okM RX12 rX12_worthAt.2.1 false qX12_worthAt = true := by decide +kernel
set_option maxRecDepth 100000 in
theorem pX12_worthAt : dm_RP 187 rX12_worthAt := dm_RPof 7017 14 7016 100505 (by decide +kernel)
set_option maxRecDepth 100000 in
theorem oX12_both : dm_okM RX12 rX12_both.2.1 false qX12_both = true := by decide +kernel
set_option maxRecDepth 100000 in
theorem pX12_both : dm_RP 188 rX12_both := dm_RPof 7020 14 7019 0 (by decide +kernel)
set_option maxRecDepth 100000 in
theorem oX12_copies : dm_okM RX12 rX12_copies.2.1 false qX12_copies = true := by decide +kernel
set_option maxRecDepth 100000 in
theorem pX12_copies : dm_RP 189 rX12_copies := dm_RPof 6205 14 6204 100412 (by decide +kernel)
set_option maxRecDepth 100000 in
theorem oX12_starts : dm_okM RX12 rX12_starts.2.1 false qX12_starts = true := by decide +kernel
set_option maxRecDepth 100000 in
theorem pX12_starts : dm_RP 190 rX12_starts := dm_RPof 5109 14 5108 100201 (by decide +kernel)
set_option maxRecDepth 100000 in
theorem oX12_begins : dm_okM RX12 rX12_begins.2.1 false qX12_begins = true := by decide +kernel
set_option maxRecDepth 100000 in
theorem pX12_begins : dm_RP 191 rX12_begins := dm_RPof 5105 14 5104 100200 (by decide +kernel)
set_option maxRecDepth 100000 in
theorem oX12_keeps : dm_okM RX12 rX12_keeps.2.1 false qX12_keeps = true := by decide +kernel
set_option maxRecDepth 100000 in
theorem pX12_keeps : dm_RP 192 rX12_keeps := dm_RPof 6201 14 6200 100411 (by decide +kernel)
set_option maxRecDepth 100000 in
theorem oX12_rooms : dm_okM RX12 rX12_rooms.2.1 false qX12_rooms = true := by decide +kernel
set_option maxRecDepth 100000 in
theorem pX12_rooms : dm_RP 193 rX12_rooms := dm_RPof 6157 14 6156 100403 (by decide +kernel)
set_option maxRecDepth 100000 in
theorem oX12_tenants : dm_okM RX12 rX12_tenants.2.1 false qX12_tenants = true := by decide +kernel
set_option maxRecDepth 100000 in
theorem pX12_tenants : dm_RP 194 rX12_tenants := dm_RPof 5113 14 5112 100202 (by decide +kernel)
set_option maxRecDepth 100000 in
theorem oX12_errandsMany : dm_okM RX12 rX12_errandsMany.2.1 false qX12_errandsMany = true := by decide +kernel
set_option maxRecDepth 100000 in
theorem pX12_errandsMany : dm_RP 195 rX12_errandsMany := dm_RPof 7064 14 7063 100509 (by decide +kernel)
set_option maxRecDepth 100000 in
theorem oX12_roomOf : dm_okM RX12 rX12_roomOf.2.1 false qX12_roomOf = true := by decide +kernel
set_option maxRecDepth 100000 in
theorem pX12_roomOf : dm_RP 196 rX12_roomOf := dm_RPof 6161 14 6160 100404 (by decide +kernel)
set_option maxRecDepth 100000 in
theorem oX12_tenantOf : dm_okM RX12 rX12_tenantOf.2.1 false qX12_tenantOf = true := by decide +kernel
set_option maxRecDepth 100000 in
theorem pX12_tenantOf : dm_RP 197 rX12_tenantOf := dm_RPof 5117 14 5116 100203 (by decide +kernel)
