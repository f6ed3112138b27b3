set_option maxRecDepth 100000 in
theorem oX12_errandOf : dm_okM RX12 rX12_errandOf.2.1 false qX12_errandOf = true := by decide +kernel
set_option maxRecDepth 100000 in
theorem oX12_isTenant : dm_okM RX12 rX12_isTenant.2.1 false qX12_isTenant = true := by decide +kernel
set_option maxRecDepth 100000 in
theorem oX12_isRoom : dm_okM RX12 rX12_isRoom.2.1 false qX12_isRoom = true := by decide +kernel
set_option maxRecDepth 100000 in
theorem oX12_isIn : dm_okM RX12 rX12_isIn.2.1 false qX12_isIn = true := by decide +kernel
set_option maxRecDepth 100000 in
theorem oX12_whoIn : dm_okM RX12 rX12_whoIn.2.1 false qX12_whoIn = true := by decide +kernel
set_option maxRecDepth 100000 in
theorem oX12_restOf : dm_okM RX12 rX12_restOf.2.1 false qX12_restOf = true := by decide +kernel
set_option maxRecDepth 100000 in
theorem oX12_isLoving : dm_okM RX12 rX12_isLoving.2.1 false qX12_isLoving = true := by decide +kernel
set_option maxRecDepth 100000 in
theorem oX12_pulseOf : dm_okM RX12 rX12_pulseOf.2.1 false qX12_pulseOf = true := by decide +kernel
set_option maxRecDepth 100000 in
theorem oX12_calmed : dm_okM RX12 rX12_calmed.2.1 false qX12_calmed = true := by decide +kernel
set_option maxRecDepth 100000 in
theorem oX12_passes : dm_okM RX12 rX12_passes.2.1 false qX12_passes = true := by decide +kernel
set_option maxRecDepth 100000 in
theorem oX12_dueBy : dm_okM RX12 rX12_dueBy.2.1 false qX12_dueBy = true := by decide +kernel
set_option maxRecDepth 100000 in
theorem oX12_dueOf : dm_okM RX12 rX12_dueOf.2.1 false qX12_dueOf = true := by decide +kernel
set_option maxRecDepth 100000 in
theorem oX12_noons : dm_okM RX12 rX12_noons.2.1 false qX12_noons = true := by decide +kernel
set_option maxRecDepth 100000 in
theorem oX12_climbs : dm_okM RX12 rX12_climbs.2.1 false qX12_climbs = true := by decide +kernel
set_option maxRecDepth 100000 in
theorem oX12_frightened : dm_okM RX12 rX12_frightened.2.1 false qX12_frightened = true := by decide +kernel
set_option maxRecDepth 100000 in
theorem oX12_frights : dm_okM RX12 rX12_frights.2.1 false qX12_frights = true := by decide +kernel
set_option maxRecDepth 100000 in
theorem oX12_goneMany : dm_okM RX12 rX12_goneMany.2.1 false qX12_goneMany = true := by decide +kernel
set_option maxRecDepth 100000 in
theorem oX12_room : dm_okM RX12 rX12_room.2.1 false qX12_room = true := by decide +kernel
set_option maxRecDepth 100000 in
theorem oX12_tenant : dm_okM RX12 rX12_tenant.2.1 false qX12_tenant = true := by decide +kernel
set_option maxRecDepth 100000 in
theorem oX12_pulse : dm_okM RX12 rX12_pulse.2.1 false qX12_pulse = true := by decide +kernel
set_option maxRecDepth 100000 in
theorem oX12_climb : dm_okM RX12 rX12_climb.2.1 false qX12_climb = true := by decide +kernel
set_option maxRecDepth 100000 in
theorem oX12_fright : dm_okM RX12 rX12_fright.2.1 false qX12_fright = true := by decide +kernel
set_option maxRecDepth 100000 in
theorem oX12_drink : dm_okM RX12 rX12_drink.2.1 false qX12_drink = true := by decide +kernel
set_option maxRecDepth 100000 in
theorem oX12_minutes : dm_okM RX12 rX12_minutes.2.1 false qX12_minutes = true := by decide +kernel
set_option maxRecDepth 100000 in
theorem oX12_noon : dm_okM RX12 rX12_noon.2.1 false qX12_noon = true := by decide +kernel
set_option maxRecDepth 100000 in
theorem oX12_mayMove : dm_okM RX12 rX12_mayMove.2.1 false qX12_mayMove = true := by decide +kernel
set_option maxRecDepth 100000 in
theorem oX12_move : dm_okM RX12 rX12_move.2.1 false qX12_move = true := by decide +kernel
