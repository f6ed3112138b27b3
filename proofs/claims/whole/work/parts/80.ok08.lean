set_option maxRecDepth 100000 in
theorem oX12_copies : dm_okM RX12 rX12_copies.2.1 false qX12_copies = true := by decide +kernel
set_option maxRecDepth 100000 in
theorem pX12_copies : dm_RP 189 rX12_copies := dm_RPof 6214 14 6213 100414 (by decide +kernel)
set_option maxRecDepth 100000 in
theorem oX12_starts : dm_okM RX12 rX12_starts.2.1 false qX12_starts = true := by decide +kernel
set_option maxRecDepth 100000 in
theorem pX12_starts : dm_RP 190 rX12_starts := dm_RPof 5118 14 5117 100203 (by decide +kernel)
set_option maxRecDepth 100000 in
theorem oX12_begins : dm_okM RX12 rX12_begins.2.1 false qX12_begins = true := by decide +kernel
set_option maxRecDepth 100000 in
theorem pX12_begins : dm_RP 191 rX12_begins := dm_RPof 5114 14 5113 100202 (by decide +kernel)
set_option maxRecDepth 100000 in
theorem oX12_keeps : dm_okM RX12 rX12_keeps.2.1 false qX12_keeps = true := by decide +kernel
set_option maxRecDepth 100000 in
theorem pX12_keeps : dm_RP 192 rX12_keeps := dm_RPof 6210 14 6209 100413 (by decide +kernel)
set_option maxRecDepth 100000 in
theorem oX12_rooms : dm_okM RX12 rX12_rooms.2.1 false qX12_rooms = true := by decide +kernel
set_option maxRecDepth 100000 in
theorem pX12_rooms : dm_RP 193 rX12_rooms := dm_RPof 6166 14 6165 100405 (by decide +kernel)
set_option maxRecDepth 100000 in
theorem oX12_tenants : dm_okM RX12 rX12_tenants.2.1 false qX12_tenants = true := by decide +kernel
set_option maxRecDepth 100000 in
theorem pX12_tenants : dm_RP 194 rX12_tenants := dm_RPof 5122 14 5121 100204 (by decide +kernel)
set_option maxRecDepth 100000 in
theorem oX12_errandsMany : dm_okM RX12 rX12_errandsMany.2.1 false qX12_errandsMany = true := by decide +kernel
set_option maxRecDepth 100000 in
theorem pX12_errandsMany : dm_RP 195 rX12_errandsMany := dm_RPof 7073 14 7072 100511 (by decide +kernel)
set_option maxRecDepth 100000 in
theorem oX12_roomOf : dm_okM RX12 rX12_roomOf.2.1 false qX12_roomOf = true := by decide +kernel
set_option maxRecDepth 100000 in
theorem pX12_roomOf : dm_RP 196 rX12_roomOf := dm_RPof 6170 14 6169 100406 (by decide +kernel)
set_option maxRecDepth 100000 in
theorem oX12_tenantOf : dm_okM RX12 rX12_tenantOf.2.1 false qX12_tenantOf = true := by decide +kernel
set_option maxRecDepth 100000 in
theorem pX12_tenantOf : dm_RP 197 rX12_tenantOf := dm_RPof 5126 14 5125 100205 (by decide +kernel)
set_option maxRecDepth 100000 in
theorem oX12_errandOf : dm_okM RX12 rX12_errandOf.2.1 false qX12_errandOf = true := by decide +kernel
set_option maxRecDepth 100000 in
theorem pX12_errandOf : dm_RP 198 rX12_errandOf := dm_RPof 7085 14 7084 100514 (by decide +kernel)
set_option maxRecDepth 100000 in
theorem oX12_isTenant : dm_okM RX12 rX12_isTenant.2.1 false qX12_isTenant = true := by decide +kernel
set_option maxRecDepth 100000 in
theorem pX12_isTenant : dm_RP 199 rX12_isTenant := dm_RPof 6182 14 6181 100408 (by decide +kernel)
set_option maxRecDepth 100000 in
theorem oX12_isRoom : dm_okM RX12 rX12_isRoom.2.1 false qX12_isRoom = true := by decide +kernel
set_option maxRecDepth 100000 in
theorem pX12_isRoom : dm_RP 200 rX12_isRoom := dm_RPof 6162 14 6161 100404 (by decide +kernel)
set_option maxRecDepth 100000 in
theorem oX12_isIn : dm_okM RX12 rX12_isIn.2.1 false qX12_isIn = true := by decide +kernel
set_option maxRecDepth 100000 in
theorem pX12_isIn : dm_RP 201 rX12_isIn := dm_RPof 6190 14 6189 100409 (by decide +kernel)
set_option maxRecDepth 100000 in
theorem oX12_whoIn : dm_okM RX12 rX12_whoIn.2.1 false qX12_whoIn = true := by decide +kernel
set_option maxRecDepth 100000 in
theorem pX12_whoIn : dm_RP 202 rX12_whoIn := dm_RPof 6174 14 6173 100407 (by decide +kernel)
set_option maxRecDepth 100000 in
theorem oX12_restOf : dm_okM RX12 rX12_restOf.2.1 false qX12_restOf = true := by decide +kernel
set_option maxRecDepth 100000 in
theorem pX12_restOf : dm_RP 203 rX12_restOf := dm_RPof 6198 14 6197 100411 (by decide +kernel)
set_option maxRecDepth 100000 in
theorem oX12_isLoving : dm_okM RX12 rX12_isLoving.2.1 false qX12_isLoving = true := by decide +kernel
set_option maxRecDepth 100000 in
theorem pX12_isLoving : dm_RP 204 rX12_isLoving := dm_RPof 6202 14 6201 100412 (by decide +kernel)
set_option maxRecDepth 100000 in
theorem oX12_pulseOf : dm_okM RX12 rX12_pulseOf.2.1 false qX12_pulseOf = true := by decide +kernel
set_option maxRecDepth 100000 in
theorem pX12_pulseOf : dm_RP 205 rX12_pulseOf := dm_RPof 6194 14 6193 100410 (by decide +kernel)
set_option maxRecDepth 100000 in
theorem oX12_calmed : dm_okM RX12 rX12_calmed.2.1 false qX12_calmed = true := by decide +kernel
set_option maxRecDepth 100000 in
theorem pX12_calmed : dm_RP 206 rX12_calmed := dm_RPof 7006 14 7005 100503 (by decide +kernel)
set_option maxRecDepth 100000 in
theorem oX12_passes : dm_okM RX12 rX12_passes.2.1 false qX12_passes = true := by decide +kernel
set_option maxRecDepth 100000 in
theorem pX12_passes : dm_RP 207 rX12_passes := dm_RPof 7002 14 7001 100502 (by decide +kernel)
set_option maxRecDepth 100000 in
theorem oX12_dueBy : dm_okM RX12 rX12_dueBy.2.1 false qX12_dueBy = true := by decide +kernel
set_option maxRecDepth 100000 in
theorem pX12_dueBy : dm_RP 208 rX12_dueBy := dm_RPof 7022 14 7021 100506 (by decide +kernel)
set_option maxRecDepth 100000 in
theorem oX12_dueOf : dm_okM RX12 rX12_dueOf.2.1 false qX12_dueOf = true := by decide +kernel
set_option maxRecDepth 100000 in
theorem pX12_dueOf : dm_RP 209 rX12_dueOf := dm_RPof 7018 14 7017 100505 (by decide +kernel)
set_option maxRecDepth 100000 in
theorem oX12_noons : dm_okM RX12 rX12_noons.2.1 false qX12_noons = true := by decide +kernel
set_option maxRecDepth 100000 in
theorem pX12_noons : dm_RP 210 rX12_noons := dm_RPof 7014 14 7013 100504 (by decide +kernel)
set_option maxRecDepth 100000 in
theorem oX12_climbs : dm_okM RX12 rX12_climbs.2.1 false qX12_climbs = true := by decide +kernel
set_option maxRecDepth 100000 in
theorem pX12_climbs : dm_RP 211 rX12_climbs := dm_RPof 6218 14 6217 100415 (by decide +kernel)
set_option maxRecDepth 100000 in
theorem oX12_frightened : dm_okM RX12 rX12_frightened.2.1 false qX12_frightened = true := by decide +kernel
set_option maxRecDepth 100000 in
theorem pX12_frightened : dm_RP 212 rX12_frightened := dm_RPof 6230 14 6229 100501 (by decide +kernel)
set_option maxRecDepth 100000 in
theorem oX12_frights : dm_okM RX12 rX12_frights.2.1 false qX12_frights = true := by decide +kernel
set_option maxRecDepth 100000 in
theorem pX12_frights : dm_RP 213 rX12_frights := dm_RPof 6226 14 6225 100500 (by decide +kernel)
set_option maxRecDepth 100000 in
theorem oX12_goneMany : dm_okM RX12 rX12_goneMany.2.1 false qX12_goneMany = true := by decide +kernel
set_option maxRecDepth 100000 in
theorem pX12_goneMany : dm_RP 214 rX12_goneMany := dm_RPof 7053 14 7052 100510 (by decide +kernel)
set_option maxRecDepth 100000 in
theorem oX12_room : dm_okM RX12 rX12_room.2.1 false qX12_room = true := by decide +kernel
set_option maxRecDepth 100000 in
theorem pX12_room : dm_RP 215 rX12_room := dm_RPof 6158 14 6156 6157 (by decide +kernel)
set_option maxRecDepth 100000 in
theorem oX12_tenant : dm_okM RX12 rX12_tenant.2.1 false qX12_tenant = true := by decide +kernel
set_option maxRecDepth 100000 in
theorem pX12_tenant : dm_RP 216 rX12_tenant := dm_RPof 6178 14 6176 6177 (by decide +kernel)
