set_option maxRecDepth 100000 in
theorem oX12_undo : dm_okM RX12 rX12_undo.2.1 false qX12_undo = true := by decide +kernel
set_option maxRecDepth 100000 in
theorem pX12_undo : dm_RP 225 rX12_undo := dm_RPof 7032 14 7030 7031 (by decide +kernel)
set_option maxRecDepth 100000 in
theorem oX12_does : dm_okM RX12 rX12_does.2.1 false qX12_does = true := by decide +kernel
set_option maxRecDepth 100000 in
theorem pX12_does : dm_RP 226 rX12_does := dm_RPof 7040 14 7039 100507 (by decide +kernel)
set_option maxRecDepth 100000 in
theorem oX12_judged : dm_okM RX12 rX12_judged.2.1 false qX12_judged = true := by decide +kernel
set_option maxRecDepth 100000 in
theorem pX12_judged : dm_RP 227 rX12_judged := dm_RPof 7036 14 7034 7035 (by decide +kernel)
set_option maxRecDepth 100000 in
theorem oX12_owed : dm_okM RX12 rX12_owed.2.1 false qX12_owed = true := by decide +kernel
set_option maxRecDepth 100000 in
theorem pX12_owed : dm_RP 228 rX12_owed := dm_RPof 7048 14 7046 7047 (by decide +kernel)
set_option maxRecDepth 100000 in
theorem oX12_will : dm_okM RX12 rX12_will.2.1 false qX12_will = true := by decide +kernel
set_option maxRecDepth 100000 in
theorem pX12_will : dm_RP 229 rX12_will := dm_RPof 7052 14 7050 7051 (by decide +kernel)
set_option maxRecDepth 100000 in
theorem oX12_last : dm_okM RX12 rX12_last.2.1 false qX12_last = true := by decide +kernel
set_option maxRecDepth 100000 in
theorem pX12_last : dm_RP 230 rX12_last := dm_RPof 7056 14 7054 7055 (by decide +kernel)
set_option maxRecDepth 100000 in
theorem oX12_beatsBy : dm_okM RX12 rX12_beatsBy.2.1 false qX12_beatsBy = true := by decide +kernel
set_option maxRecDepth 100000 in
theorem pX12_beatsBy : dm_RP 231 rX12_beatsBy := dm_RPof 7072 14 7071 100511 (by decide +kernel)
set_option maxRecDepth 100000 in
theorem oX12_orders : dm_okM RX12 rX12_orders.2.1 false qX12_orders = true := by decide +kernel
set_option maxRecDepth 100000 in
theorem pX12_orders : dm_RP 232 rX12_orders := dm_RPof 7068 14 7067 100510 (by decide +kernel)
set_option maxRecDepth 100000 in
theorem oX12_errands : dm_okM RX12 rX12_errands.2.1 false qX12_errands = true := by decide +kernel
set_option maxRecDepth 100000 in
theorem pX12_errands : dm_RP 233 rX12_errands := dm_RPof 7060 14 7058 7059 (by decide +kernel)
set_option maxRecDepth 100000 in
theorem oX12_wishOf : dm_okM RX12 rX12_wishOf.2.1 false qX12_wishOf = true := by decide +kernel
set_option maxRecDepth 100000 in
theorem pX12_wishOf : dm_RP 234 rX12_wishOf := dm_RPof 7088 14 7087 100514 (by decide +kernel)
set_option maxRecDepth 100000 in
theorem oX12_nextAsked : dm_okM RX12 rX12_nextAsked.2.1 false qX12_nextAsked = true := by decide +kernel
set_option maxRecDepth 100000 in
theorem pX12_nextAsked : dm_RP 235 rX12_nextAsked := dm_RPof 7096 14 7095 100600 (by decide +kernel)
set_option maxRecDepth 100000 in
theorem oX12_keeperOf : dm_okM RX12 rX12_keeperOf.2.1 false qX12_keeperOf = true := by decide +kernel
set_option maxRecDepth 100000 in
theorem pX12_keeperOf : dm_RP 236 rX12_keeperOf := dm_RPof 7100 14 7099 100601 (by decide +kernel)
set_option maxRecDepth 100000 in
theorem oX12_asksOnce : dm_okM RX12 rX12_asksOnce.2.1 false qX12_asksOnce = true := by decide +kernel
set_option maxRecDepth 100000 in
theorem pX12_asksOnce : dm_RP 237 rX12_asksOnce := dm_RPof 7092 14 7091 100515 (by decide +kernel)
set_option maxRecDepth 100000 in
theorem oX12_findMatch : dm_okM RX12 rX12_findMatch.2.1 false qX12_findMatch = true := by decide +kernel
set_option maxRecDepth 100000 in
theorem pX12_findMatch : dm_RP 238 rX12_findMatch := dm_RPof 7084 14 7083 100513 (by decide +kernel)
set_option maxRecDepth 100000 in
theorem oX12_match : dm_okM RX12 rX12_match.2.1 false qX12_match = true := by decide +kernel
set_option maxRecDepth 100000 in
theorem pX12_match : dm_RP 239 rX12_match := dm_RPof 7080 14 7078 7079 (by decide +kernel)
set_option maxRecDepth 100000 in
theorem oX12_spare : dm_okM RX12 rX12_spare.2.1 false qX12_spare = true := by decide +kernel
set_option maxRecDepth 100000 in
theorem pX12_spare : dm_RP 240 rX12_spare := dm_RPof 7104 14 7102 7103 (by decide +kernel)
