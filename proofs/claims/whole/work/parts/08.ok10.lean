set_option maxRecDepth 100000 in
theorem oX12_choose : dm_okM RX12 rX12_choose.2.1 false qX12_choose = true := by decide +kernel
set_option maxRecDepth 100000 in
theorem oX12_sampled : dm_okM RX12 rX12_sampled.2.1 false qX12_sampled = true := by decide +kernel
set_option maxRecDepth 100000 in
theorem oX12_haunted : dm_okM RX12 rX12_haunted.2.1 false qX12_haunted = true := by decide +kernel
set_option maxRecDepth 100000 in
theorem oX12_bits : dm_okM RX12 rX12_bits.2.1 false qX12_bits = true := by decide +kernel
set_option maxRecDepth 100000 in
theorem oX12_haunt : dm_okM RX12 rX12_haunt.2.1 false qX12_haunt = true := by decide +kernel
set_option maxRecDepth 100000 in
theorem oX12_areBothIn : dm_okM RX12 rX12_areBothIn.2.1 false qX12_areBothIn = true := by decide +kernel
set_option maxRecDepth 100000 in
theorem oX12_savedBy : dm_okM RX12 rX12_savedBy.2.1 false qX12_savedBy = true := by decide +kernel
set_option maxRecDepth 100000 in
theorem oX12_lease : dm_okM RX12 rX12_lease.2.1 false qX12_lease = true := by decide +kernel
set_option maxRecDepth 100000 in
theorem oX12_share : dm_okM RX12 rX12_share.2.1 false qX12_share = true := by decide +kernel
set_option maxRecDepth 100000 in
theorem oX12_law : dm_okM RX12 rX12_law.2.1 false qX12_law = true := by decide +kernel
set_option maxRecDepth 100000 in
theorem oX12_sample : dm_okM RX12 rX12_sample.2.1 false qX12_sample = true := by decide +kernel
set_option maxRecDepth 100000 in
theorem oX12_laysDay : dm_okM RX12 rX12_laysDay.2.1 false qX12_laysDay = true := by decide +kernel
set_option maxRecDepth 100000 in
theorem oX12_findDays : dm_okM RX12 rX12_findDays.2.1 false qX12_findDays = true := by decide +kernel
set_option maxRecDepth 100000 in
theorem oX12_days : dm_okM RX12 rX12_days.2.1 false qX12_days = true := by decide +kernel
set_option maxRecDepth 100000 in
theorem oX12_did : dm_okM RX12 rX12_did.2.1 false qX12_did = true := by decide +kernel
set_option maxRecDepth 100000 in
theorem oX12_next : dm_okM RX12 rX12_next.2.1 false qX12_next = true := by decide +kernel
set_option maxRecDepth 100000 in
theorem oX12_draw : dm_okM RX12 rX12_draw.2.1 false qX12_draw = true := by decide +kernel
set_option maxRecDepth 100000 in
theorem oX12_drawsActs : dm_okM RX12 rX12_drawsActs.2.1 false qX12_drawsActs = true := by decide +kernel
