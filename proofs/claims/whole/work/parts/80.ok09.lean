set_option maxRecDepth 100000 in
theorem oX12_pulse : dm_okM RX12 rX12_pulse.2.1 false qX12_pulse = true := by decide +kernel
set_option maxRecDepth 100000 in
theorem pX12_pulse : dm_RP 217 rX12_pulse := dm_RPof 6186 14 6184 6185 (by decide +kernel)
set_option maxRecDepth 100000 in
theorem oX12_climb : dm_okM RX12 rX12_climb.2.1 false qX12_climb = true := by decide +kernel
set_option maxRecDepth 100000 in
theorem pX12_climb : dm_RP 218 rX12_climb := dm_RPof 6206 14 6204 6205 (by decide +kernel)
set_option maxRecDepth 100000 in
theorem oX12_fright : dm_okM RX12 rX12_fright.2.1 false qX12_fright = true := by decide +kernel
set_option maxRecDepth 100000 in
theorem pX12_fright : dm_RP 219 rX12_fright := dm_RPof 6222 14 6220 6221 (by decide +kernel)
set_option maxRecDepth 100000 in
theorem oX12_drink : dm_okM RX12 rX12_drink.2.1 false qX12_drink = true := by decide +kernel
set_option maxRecDepth 100000 in
theorem pX12_drink : dm_RP 220 rX12_drink := dm_RPof 6234 14 6232 6233 (by decide +kernel)
set_option maxRecDepth 100000 in
theorem oX12_minutes : dm_okM RX12 rX12_minutes.2.1 false qX12_minutes = true := by decide +kernel
set_option maxRecDepth 100000 in
theorem pX12_minutes : dm_RP 221 rX12_minutes := dm_RPof 6238 14 6236 6237 (by decide +kernel)
set_option maxRecDepth 100000 in
theorem oX12_noon : dm_okM RX12 rX12_noon.2.1 false qX12_noon = true := by decide +kernel
set_option maxRecDepth 100000 in
theorem pX12_noon : dm_RP 222 rX12_noon := dm_RPof 7010 14 7008 7009 (by decide +kernel)
set_option maxRecDepth 100000 in
theorem oX12_mayMove : dm_okM RX12 rX12_mayMove.2.1 false qX12_mayMove = true := by decide +kernel
set_option maxRecDepth 100000 in
theorem pX12_mayMove : dm_RP 223 rX12_mayMove := dm_RPof 7037 14 7036 100508 (by decide +kernel)
set_option maxRecDepth 100000 in
theorem oX12_move : dm_okM RX12 rX12_move.2.1 false qX12_move = true := by decide +kernel
set_option maxRecDepth 100000 in
theorem pX12_move : dm_RP 224 rX12_move := dm_RPof 7033 14 7031 7032 (by decide +kernel)
set_option maxRecDepth 100000 in
theorem oX12_undo : dm_okM RX12 rX12_undo.2.1 false qX12_undo = true := by decide +kernel
set_option maxRecDepth 100000 in
theorem pX12_undo : dm_RP 225 rX12_undo := dm_RPof 7041 14 7039 7040 (by decide +kernel)
set_option maxRecDepth 100000 in
theorem oX12_does : dm_okM RX12 rX12_does.2.1 false qX12_does = true := by decide +kernel
set_option maxRecDepth 100000 in
theorem pX12_does : dm_RP 226 rX12_does := dm_RPof 7049 14 7048 100509 (by decide +kernel)
set_option maxRecDepth 100000 in
theorem oX12_judged : dm_okM RX12 rX12_judged.2.1 false qX12_judged = true := by decide +kernel
set_option maxRecDepth 100000 in
theorem pX12_judged : dm_RP 227 rX12_judged := dm_RPof 7045 14 7043 7044 (by decide +kernel)
set_option maxRecDepth 100000 in
theorem oX12_owed : dm_okM RX12 rX12_owed.2.1 false qX12_owed = true := by decide +kernel
set_option maxRecDepth 100000 in
theorem pX12_owed : dm_RP 228 rX12_owed := dm_RPof 7057 14 7055 7056 (by decide +kernel)
set_option maxRecDepth 100000 in
theorem oX12_will : dm_okM RX12 rX12_will.2.1 false qX12_will = true := by decide +kernel
set_option maxRecDepth 100000 in
theorem pX12_will : dm_RP 229 rX12_will := dm_RPof 7061 14 7059 7060 (by decide +kernel)
set_option maxRecDepth 100000 in
theorem oX12_last : dm_okM RX12 rX12_last.2.1 false qX12_last = true := by decide +kernel
set_option maxRecDepth 100000 in
theorem pX12_last : dm_RP 230 rX12_last := dm_RPof 7065 14 7063 7064 (by decide +kernel)
set_option maxRecDepth 100000 in
theorem oX12_beatsBy : dm_okM RX12 rX12_beatsBy.2.1 false qX12_beatsBy = true := by decide +kernel
set_option maxRecDepth 100000 in
theorem pX12_beatsBy : dm_RP 231 rX12_beatsBy := dm_RPof 7081 14 7080 100513 (by decide +kernel)
set_option maxRecDepth 100000 in
theorem oX12_orders : dm_okM RX12 rX12_orders.2.1 false qX12_orders = true := by decide +kernel
set_option maxRecDepth 100000 in
theorem pX12_orders : dm_RP 232 rX12_orders := dm_RPof 7077 14 7076 100512 (by decide +kernel)
set_option maxRecDepth 100000 in
theorem oX12_errands : dm_okM RX12 rX12_errands.2.1 false qX12_errands = true := by decide +kernel
set_option maxRecDepth 100000 in
theorem pX12_errands : dm_RP 233 rX12_errands := dm_RPof 7069 14 7067 7068 (by decide +kernel)
set_option maxRecDepth 100000 in
theorem oX12_wishOf : dm_okM RX12 rX12_wishOf.2.1 false qX12_wishOf = true := by decide +kernel
set_option maxRecDepth 100000 in
theorem pX12_wishOf : dm_RP 234 rX12_wishOf := dm_RPof 7097 14 7096 100600 (by decide +kernel)
set_option maxRecDepth 100000 in
theorem oX12_nextAsked : dm_okM RX12 rX12_nextAsked.2.1 false qX12_nextAsked = true := by decide +kernel
set_option maxRecDepth 100000 in
theorem pX12_nextAsked : dm_RP 235 rX12_nextAsked := dm_RPof 7105 14 7104 100602 (by decide +kernel)
set_option maxRecDepth 100000 in
theorem oX12_keeperOf : dm_okM RX12 rX12_keeperOf.2.1 false qX12_keeperOf = true := by decide +kernel
set_option maxRecDepth 100000 in
theorem pX12_keeperOf : dm_RP 236 rX12_keeperOf := dm_RPof 7109 14 7108 100603 (by decide +kernel)
