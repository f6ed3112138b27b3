set_option maxRecDepth 100000 in
theorem oX11_init : dm_okM RX11 rX11_init.2.1 true qX11_init = true := by decide +kernel
set_option maxRecDepth 100000 in
theorem oX11_feed : dm_okM RX11 rX11_feed.2.1 false qX11_feed = true := by decide +kernel
set_option maxRecDepth 100000 in
theorem oX11_house : dm_okM RX11 rX11_house.2.1 false qX11_house = true := by decide +kernel
set_option maxRecDepth 100000 in
theorem oX11_months : dm_okM RX11 rX11_months.2.1 false qX11_months = true := by decide +kernel
set_option maxRecDepth 100000 in
theorem oX11_room : dm_okM RX11 rX11_room.2.1 false qX11_room = true := by decide +kernel
set_option maxRecDepth 100000 in
theorem oX11_tenant : dm_okM RX11 rX11_tenant.2.1 false qX11_tenant = true := by decide +kernel
set_option maxRecDepth 100000 in
theorem oX11_pulse : dm_okM RX11 rX11_pulse.2.1 false qX11_pulse = true := by decide +kernel
set_option maxRecDepth 100000 in
theorem oX11_climb : dm_okM RX11 rX11_climb.2.1 false qX11_climb = true := by decide +kernel
set_option maxRecDepth 100000 in
theorem oX11_fright : dm_okM RX11 rX11_fright.2.1 false qX11_fright = true := by decide +kernel
set_option maxRecDepth 100000 in
theorem oX11_drink : dm_okM RX11 rX11_drink.2.1 false qX11_drink = true := by decide +kernel
set_option maxRecDepth 100000 in
theorem oX11_minutes : dm_okM RX11 rX11_minutes.2.1 false qX11_minutes = true := by decide +kernel
set_option maxRecDepth 100000 in
theorem oX11_noon : dm_okM RX11 rX11_noon.2.1 false qX11_noon = true := by decide +kernel
set_option maxRecDepth 100000 in
theorem oX11_move : dm_okM RX11 rX11_move.2.1 false qX11_move = true := by decide +kernel
set_option maxRecDepth 100000 in
theorem oX11_undo : dm_okM RX11 rX11_undo.2.1 false qX11_undo = true := by decide +kernel
set_option maxRecDepth 100000 in
theorem oX11_judged : dm_okM RX11 rX11_judged.2.1 false qX11_judged = true := by decide +kernel
set_option maxRecDepth 100000 in
theorem oX11_owed : dm_okM RX11 rX11_owed.2.1 false qX11_owed = true := by decide +kernel
set_option maxRecDepth 100000 in
theorem oX11_will : dm_okM RX11 rX11_will.2.1 false qX11_will = true := by decide +kernel
set_option maxRecDepth 100000 in
theorem oX11_last : dm_okM RX11 rX11_last.2.1 false qX11_last = true := by decide +kernel
set_option maxRecDepth 100000 in
theorem oX11_errands : dm_okM RX11 rX11_errands.2.1 false qX11_errands = true := by decide +kernel
set_option maxRecDepth 100000 in
theorem oX11_match : dm_okM RX11 rX11_match.2.1 false qX11_match = true := by decide +kernel
set_option maxRecDepth 100000 in
theorem oX11_spare : dm_okM RX11 rX11_spare.2.1 false qX11_spare = true := by decide +kernel
set_option maxRecDepth 100000 in
theorem oX11_sampled : dm_okM RX11 rX11_sampled.2.1 false qX11_sampled = true := by decide +kernel
set_option maxRecDepth 100000 in
theorem oX11_haunt : dm_okM RX11 rX11_haunt.2.1 false qX11_haunt = true := by decide +kernel
set_option maxRecDepth 100000 in
theorem oX11_law : dm_okM RX11 rX11_law.2.1 false qX11_law = true := by decide +kernel
set_option maxRecDepth 100000 in
theorem oX11_sample : dm_okM RX11 rX11_sample.2.1 false qX11_sample = true := by decide +kernel
set_option maxRecDepth 100000 in
theorem oX11_days : dm_okM RX11 rX11_days.2.1 false qX11_days = true := by decide +kernel
