set_option maxRecDepth 100000 in
theorem oX12_readErrand : dm_okM RX12 rX12_readErrand.2.1 false qX12_readErrand = true := by decide +kernel
set_option maxRecDepth 100000 in
theorem oX12_readOnce : dm_okM RX12 rX12_readOnce.2.1 false qX12_readOnce = true := by decide +kernel
set_option maxRecDepth 100000 in
theorem oX12_months : dm_okM RX12 rX12_months.2.1 false qX12_months = true := by decide +kernel
set_option maxRecDepth 100000 in
theorem oX12_readMonth : dm_okM RX12 rX12_readMonth.2.1 false qX12_readMonth = true := by decide +kernel
set_option maxRecDepth 100000 in
theorem oX12_emit : dm_okM RX12 rX12_emit.2.1 false qX12_emit = true := by decide +kernel
set_option maxRecDepth 100000 in
theorem oX12_all : dm_okM RX12 rX12_all.2.1 false qX12_all = true := by decide +kernel
set_option maxRecDepth 100000 in
theorem oX12_test : dm_okM RX12 rX12_test.2.1 false qX12_test = true := by decide +kernel
set_option maxRecDepth 100000 in
theorem oX12_sums : dm_okM RX12 rX12_sums.2.1 false qX12_sums = true := by decide +kernel
set_option maxRecDepth 100000 in
theorem oX12_products : dm_okM RX12 rX12_products.2.1 false qX12_products = true := by decide +kernel
set_option maxRecDepth 100000 in
theorem oX12_takePart : dm_okM RX12 rX12_takePart.2.1 false qX12_takePart = true := by decide +kernel
set_option maxRecDepth 100000 in
theorem oX12_worthAt : dm_okM RX12 rX12_worthAt.2.1 false qX12_worthAt = true := by decide +kernel
set_option maxRecDepth 100000 in
theorem oX12_both : dm_okM RX12 rX12_both.2.1 false qX12_both = true := by decide +kernel
set_option maxRecDepth 100000 in
theorem oX12_copies : dm_okM RX12 rX12_copies.2.1 false qX12_copies = true := by decide +kernel
set_option maxRecDepth 100000 in
theorem oX12_starts : dm_okM RX12 rX12_starts.2.1 false qX12_starts = true := by decide +kernel
set_option maxRecDepth 100000 in
theorem oX12_begins : dm_okM RX12 rX12_begins.2.1 false qX12_begins = true := by decide +kernel
set_option maxRecDepth 100000 in
theorem oX12_keeps : dm_okM RX12 rX12_keeps.2.1 false qX12_keeps = true := by decide +kernel
set_option maxRecDepth 100000 in
theorem oX12_rooms : dm_okM RX12 rX12_rooms.2.1 false qX12_rooms = true := by decide +kernel
set_option maxRecDepth 100000 in
theorem oX12_tenants : dm_okM RX12 rX12_tenants.2.1 false qX12_tenants = true := by decide +kernel
set_option maxRecDepth 100000 in
theorem oX12_errandsMany : dm_okM RX12 rX12_errandsMany.2.1 false qX12_errandsMany = true := by decide +kernel
set_option maxRecDepth 100000 in
theorem oX12_roomOf : dm_okM RX12 rX12_roomOf.2.1 false qX12_roomOf = true := by decide +kernel
set_option maxRecDepth 100000 in
theorem oX12_tenantOf : dm_okM RX12 rX12_tenantOf.2.1 false qX12_tenantOf = true := by decide +kernel
