set_option maxRecDepth 100000 in
theorem oX12_undo : dm_okM RX12 rX12_undo.2.1 false qX12_undo = true := by decide +kernel
set_option maxRecDepth 100000 in
theorem oX12_does : dm_okM RX12 rX12_does.2.1 false qX12_does = true := by decide +kernel
set_option maxRecDepth 100000 in
theorem oX12_judged : dm_okM RX12 rX12_judged.2.1 false qX12_judged = true := by decide +kernel
set_option maxRecDepth 100000 in
theorem oX12_owed : dm_okM RX12 rX12_owed.2.1 false qX12_owed = true := by decide +kernel
set_option maxRecDepth 100000 in
theorem oX12_will : dm_okM RX12 rX12_will.2.1 false qX12_will = true := by decide +kernel
set_option maxRecDepth 100000 in
theorem oX12_last : dm_okM RX12 rX12_last.2.1 false qX12_last = true := by decide +kernel
set_option maxRecDepth 100000 in
theorem oX12_beatsBy : dm_okM RX12 rX12_beatsBy.2.1 false qX12_beatsBy = true := by decide +kernel
set_option maxRecDepth 100000 in
theorem oX12_orders : dm_okM RX12 rX12_orders.2.1 false qX12_orders = true := by decide +kernel
set_option maxRecDepth 100000 in
theorem oX12_errands : dm_okM RX12 rX12_errands.2.1 false qX12_errands = true := by decide +kernel
set_option maxRecDepth 100000 in
theorem oX12_wishOf : dm_okM RX12 rX12_wishOf.2.1 false qX12_wishOf = true := by decide +kernel
set_option maxRecDepth 100000 in
theorem oX12_nextAsked : dm_okM RX12 rX12_nextAsked.2.1 false qX12_nextAsked = true := by decide +kernel
set_option maxRecDepth 100000 in
theorem oX12_keeperOf : dm_okM RX12 rX12_keeperOf.2.1 false qX12_keeperOf = true := by decide +kernel
set_option maxRecDepth 100000 in
theorem oX12_asksOnce : dm_okM RX12 rX12_asksOnce.2.1 false qX12_asksOnce = true := by decide +kernel
set_option maxRecDepth 100000 in
theorem oX12_findMatch : dm_okM RX12 rX12_findMatch.2.1 false qX12_findMatch = true := by decide +kernel
set_option maxRecDepth 100000 in
theorem oX12_match : dm_okM RX12 rX12_match.2.1 false qX12_match = true := by decide +kernel
set_option maxRecDepth 100000 in
theorem oX12_spare : dm_okM RX12 rX12_spare.2.1 false qX12_spare = true := by decide +kernel
