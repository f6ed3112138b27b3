set_option maxRecDepth 100000 in
theorem oX12_errandOf : dm_okM RX12 rX12_errandOf.2.1 false qX12_errandOf = true := by decide +kernel
set_option maxRecDepth 100000 in
theorem pX12_errandOf : dm_RP 198 rX12_errandOf := dm_RPof 7076 14 7075 100512 (by decide +kernel)
set_option maxRecDepth 100000 in
theorem oX12_isTenant : dm_okM RX12 rX12_isTenant.2.1 false qX12_isTenant = true := by decide +kernel
set_option maxRecDepth 100000 in
theorem pX12_isTenant : dm_RP 199 rX12_isTenant := dm_RPof 6173 14 6172 100406 (by decide +kernel)
set_option maxRecDepth 100000 in
theorem oX12_isRoom : dm_okM RX12 rX12_isRoom.2.1 false qX12_isRoom = true := by decide +kernel
set_option maxRecDepth 100000 in
theorem pX12_isRoom : dm_RP 200 rX12_isRoom := dm_RPof 6153 14 6152 100402 (by decide +kernel)
set_option maxRecDepth 100000 in
theorem oX12_isIn : dm_okM RX12 rX12_isIn.2.1 false qX12_isIn = true := by decide +kernel
set_option maxRecDepth 100000 in
theorem pX12_isIn : dm_RP 201 rX12_isIn := dm_RPof 6181 14 6180 100407 (by decide +kernel)
set_option maxRecDepth 100000 in
theorem oX12_whoIn : dm_okM RX12 rX12_whoIn.2.1 false qX12_whoIn = true := by decide +kernel
set_option maxRecDepth 100000 in
theorem pX12_whoIn : dm_RP 202 rX12_whoIn := dm_RPof 6165 14 6164 100405 (by decide +kernel)
set_option maxRecDepth 100000 in
theorem oX12_restOf : dm_okM RX12 rX12_restOf.2.1 false qX12_restOf = true := by decide +kernel
set_option maxRecDepth 100000 in
theorem pX12_restOf : dm_RP 203 rX12_restOf := dm_RPof 6189 14 6188 100409 (by decide +kernel)
set_option maxRecDepth 100000 in
theorem oX12_isLoving : dm_okM RX12 rX12_isLoving.2.1 false qX12_isLoving = true := by decide +kernel
set_option maxRecDepth 100000 in
theorem pX12_isLoving : dm_RP 204 rX12_isLoving := dm_RPof 6193 14 6192 100410 (by decide +kernel)
set_option maxRecDepth 100000 in
theorem oX12_pulseOf : dm_okM RX12 rX12_pulseOf.2.1 false qX12_pulseOf = true := by decide +kernel
set_option maxRecDepth 100000 in
theorem pX12_pulseOf : dm_RP 205 rX12_pulseOf := dm_RPof 6185 14 6184 100408 (by decide +kernel)
set_option maxRecDepth 100000 in
theorem oX12_calmed : dm_okM RX12 rX12_calmed.2.1 false qX12_calmed = true := by decide +kernel
set_option maxRecDepth 100000 in
theorem pX12_calmed : dm_RP 206 rX12_calmed := dm_RPof 6237 14 6236 100501 (by decide +kernel)
set_option maxRecDepth 100000 in
theorem oX12_passes : dm_okM RX12 rX12_passes.2.1 false qX12_passes = true := by decide +kernel
set_option maxRecDepth 100000 in
theorem pX12_passes : dm_RP 207 rX12_passes := dm_RPof 6233 14 6232 100500 (by decide +kernel)
set_option maxRecDepth 100000 in
theorem oX12_dueBy : dm_okM RX12 rX12_dueBy.2.1 false qX12_dueBy = true := by decide +kernel
set_option maxRecDepth 100000 in
theorem pX12_dueBy : dm_RP 208 rX12_dueBy := dm_RPof 7013 14 7012 100504 (by decide +kernel)
set_option maxRecDepth 100000 in
theorem oX12_dueOf : dm_okM RX12 rX12_dueOf.2.1 false qX12_dueOf = true := by decide +kernel
set_option maxRecDepth 100000 in
theorem pX12_dueOf : dm_RP 209 rX12_dueOf := dm_RPof 7009 14 7008 100503 (by decide +kernel)
set_option maxRecDepth 100000 in
theorem oX12_noons : dm_okM RX12 rX12_noons.2.1 false qX12_noons = true := by decide +kernel
set_option maxRecDepth 100000 in
theorem pX12_noons : dm_RP 210 rX12_noons := dm_RPof 7005 14 7004 100502 (by decide +kernel)
set_option maxRecDepth 100000 in
theorem oX12_climbs : dm_okM RX12 rX12_climbs.2.1 false qX12_climbs = true := by decide +kernel
set_option maxRecDepth 100000 in
theorem pX12_climbs : dm_RP 211 rX12_climbs := dm_RPof 6209 14 6208 100413 (by decide +kernel)
set_option maxRecDepth 100000 in
theorem oX12_frightened : dm_okM RX12 rX12_frightened.2.1 false qX12_frightened = true := by decide +kernel
set_option maxRecDepth 100000 in
theorem pX12_frightened : dm_RP 212 rX12_frightened := dm_RPof 6221 14 6220 100415 (by decide +kernel)
set_option maxRecDepth 100000 in
theorem oX12_frights : dm_okM RX12 rX12_frights.2.1 false qX12_frights = true := by decide +kernel
set_option maxRecDepth 100000 in
theorem pX12_frights : dm_RP 213 rX12_frights := dm_RPof 6217 14 6216 100414 (by decide +kernel)
set_option maxRecDepth 100000 in
theorem oX12_goneMany : dm_okM RX12 rX12_goneMany.2.1 false qX12_goneMany = true := by decide +kernel
set_option maxRecDepth 100000 in
theorem pX12_goneMany : dm_RP 214 rX12_goneMany := dm_RPof 7044 14 7043 100508 (by decide +kernel)
set_option maxRecDepth 100000 in
theorem oX12_room : dm_okM RX12 rX12_room.2.1 false qX12_room = true := by decide +kernel
set_option maxRecDepth 100000 in
theorem pX12_room : dm_RP 215 rX12_room := dm_RPof 6149 14 6147 6148 (by decide +kernel)
set_option maxRecDepth 100000 in
theorem oX12_tenant : dm_okM RX12 rX12_tenant.2.1 false qX12_tenant = true := by decide +kernel
set_option maxRecDepth 100000 in
theorem pX12_tenant : dm_RP 216 rX12_tenant := dm_RPof 6169 14 6167 6168 (by decide +kernel)
set_option maxRecDepth 100000 in
theorem oX12_pulse : dm_okM RX12 rX12_pulse.2.1 false qX12_pulse = true := by decide +kernel
set_option maxRecDepth 100000 in
theorem pX12_pulse : dm_RP 217 rX12_pulse := dm_RPof 6177 14 6175 6176 (by decide +kernel)
set_option maxRecDepth 100000 in
theorem oX12_climb : dm_okM RX12 rX12_climb.2.1 false qX12_climb = true := by decide +kernel
set_option maxRecDepth 100000 in
theorem pX12_climb : dm_RP 218 rX12_climb := dm_RPof 6197 14 6195 6196 (by decide +kernel)
set_option maxRecDepth 100000 in
theorem oX12_fright : dm_okM RX12 rX12_fright.2.1 false qX12_fright = true := by decide +kernel
set_option maxRecDepth 100000 in
theorem pX12_fright : dm_RP 219 rX12_fright := dm_RPof 6213 14 6211 6212 (by decide +kernel)
set_option maxRecDepth 100000 in
theorem oX12_drink : dm_okM RX12 rX12_drink.2.1 false qX12_drink = true := by decide +kernel
set_option maxRecDepth 100000 in
theorem pX12_drink : dm_RP 220 rX12_drink := dm_RPof 6225 14 6223 6224 (by decide +kernel)
set_option maxRecDepth 100000 in
theorem oX12_minutes : dm_okM RX12 rX12_minutes.2.1 false qX12_minutes = true := by decide +kernel
set_option maxRecDepth 100000 in
theorem pX12_minutes : dm_RP 221 rX12_minutes := dm_RPof 6229 14 6227 6228 (by decide +kernel)
set_option maxRecDepth 100000 in
theorem oX12_noon : dm_okM RX12 rX12_noon.2.1 false qX12_noon = true := by decide +kernel
set_option maxRecDepth 100000 in
theorem pX12_noon : dm_RP 222 rX12_noon := dm_RPof 7001 14 6239 7000 (by decide +kernel)
set_option maxRecDepth 100000 in
theorem oX12_mayMove : dm_okM RX12 rX12_mayMove.2.1 false qX12_mayMove = true := by decide +kernel
set_option maxRecDepth 100000 in
theorem pX12_mayMove : dm_RP 223 rX12_mayMove := dm_RPof 7028 14 7027 100506 (by decide +kernel)
set_option maxRecDepth 100000 in
theorem oX12_move : dm_okM RX12 rX12_move.2.1 false qX12_move = true := by decide +kernel
set_option maxRecDepth 100000 in
theorem pX12_move : dm_RP 224 rX12_move := dm_RPof 7024 14 7022 7023 (by decide +kernel)
