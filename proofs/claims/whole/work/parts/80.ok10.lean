set_option maxRecDepth 100000 in
theorem oX12_choose : dm_okM RX12 rX12_choose.2.1 false qX12_choose = true := by decide +kernel
set_option maxRecDepth 100000 in
theorem pX12_choose : dm_RP 241 rX12_choose := dm_RPof 7111 14 7110 0 (by decide +kernel)
set_option maxRecDepth 100000 in
theorem oX12_sampled : dm_okM RX12 rX12_sampled.2.1 false qX12_sampled = true := by decide +kernel
set_option maxRecDepth 100000 in
theorem pX12_sampled : dm_RP 242 rX12_sampled := dm_RPof 7108 14 7106 7107 (by decide +kernel)
set_option maxRecDepth 100000 in
theorem oX12_haunted : dm_okM RX12 rX12_haunted.2.1 false qX12_haunted = true := by decide +kernel
set_option maxRecDepth 100000 in
theorem pX12_haunted : dm_RP 243 rX12_haunted := dm_RPof 7123 14 7122 100602 (by decide +kernel)
set_option maxRecDepth 100000 in
theorem oX12_bits : dm_okM RX12 rX12_bits.2.1 false qX12_bits = true := by decide +kernel
set_option maxRecDepth 100000 in
theorem pX12_bits : dm_RP 244 rX12_bits := dm_RPof 7119 14 7118 0 (by decide +kernel)
set_option maxRecDepth 100000 in
theorem oX12_haunt : dm_okM RX12 rX12_haunt.2.1 false qX12_haunt = true := by decide +kernel
set_option maxRecDepth 100000 in
theorem pX12_haunt : dm_RP 245 rX12_haunt := dm_RPof 7116 14 7114 7115 (by decide +kernel)
set_option maxRecDepth 100000 in
theorem oX12_areBothIn : dm_okM RX12 rX12_areBothIn.2.1 false qX12_areBothIn = true := by decide +kernel
set_option maxRecDepth 100000 in
theorem pX12_areBothIn : dm_RP 246 rX12_areBothIn := dm_RPof 7131 14 7130 100603 (by decide +kernel)
set_option maxRecDepth 100000 in
theorem oX12_savedBy : dm_okM RX12 rX12_savedBy.2.1 false qX12_savedBy = true := by decide +kernel
set_option maxRecDepth 100000 in
theorem pX12_savedBy : dm_RP 247 rX12_savedBy := dm_RPof 7135 14 7134 100604 (by decide +kernel)
set_option maxRecDepth 100000 in
theorem oX12_lease : dm_okM RX12 rX12_lease.2.1 false qX12_lease = true := by decide +kernel
set_option maxRecDepth 100000 in
theorem pX12_lease : dm_RP 248 rX12_lease := dm_RPof 7127 14 7125 7126 (by decide +kernel)
set_option maxRecDepth 100000 in
theorem oX12_share : dm_okM RX12 rX12_share.2.1 false qX12_share = true := by decide +kernel
set_option maxRecDepth 100000 in
theorem pX12_share : dm_RP 249 rX12_share := dm_RPof 7139 14 7137 7138 (by decide +kernel)
set_option maxRecDepth 100000 in
theorem oX12_law : dm_okM RX12 rX12_law.2.1 false qX12_law = true := by decide +kernel
set_option maxRecDepth 100000 in
theorem pX12_law : dm_RP 250 rX12_law := dm_RPof 7143 14 7141 7142 (by decide +kernel)
set_option maxRecDepth 100000 in
theorem oX12_sample : dm_okM RX12 rX12_sample.2.1 false qX12_sample = true := by decide +kernel
set_option maxRecDepth 100000 in
theorem pX12_sample : dm_RP 251 rX12_sample := dm_RPof 7147 14 7145 7146 (by decide +kernel)
set_option maxRecDepth 100000 in
theorem oX12_laysDay : dm_okM RX12 rX12_laysDay.2.1 false qX12_laysDay = true := by decide +kernel
set_option maxRecDepth 100000 in
theorem pX12_laysDay : dm_RP 252 rX12_laysDay := dm_RPof 7159 14 7158 100606 (by decide +kernel)
set_option maxRecDepth 100000 in
theorem oX12_findDays : dm_okM RX12 rX12_findDays.2.1 false qX12_findDays = true := by decide +kernel
set_option maxRecDepth 100000 in
theorem pX12_findDays : dm_RP 253 rX12_findDays := dm_RPof 7155 14 7154 100605 (by decide +kernel)
set_option maxRecDepth 100000 in
theorem oX12_days : dm_okM RX12 rX12_days.2.1 false qX12_days = true := by decide +kernel
set_option maxRecDepth 100000 in
theorem pX12_days : dm_RP 254 rX12_days := dm_RPof 7151 14 7149 7150 (by decide +kernel)
set_option maxRecDepth 100000 in
theorem oX12_did : dm_okM RX12 rX12_did.2.1 false qX12_did = true := by decide +kernel
set_option maxRecDepth 100000 in
theorem pX12_did : dm_RP 255 rX12_did := dm_RPof 7163 14 7161 7162 (by decide +kernel)
set_option maxRecDepth 100000 in
theorem oX12_next : dm_okM RX12 rX12_next.2.1 false qX12_next = true := by decide +kernel
set_option maxRecDepth 100000 in
theorem pX12_next : dm_RP 256 rX12_next := dm_RPof 7167 14 7165 7166 (by decide +kernel)
set_option maxRecDepth 100000 in
theorem oX12_draw : dm_okM RX12 rX12_draw.2.1 false qX12_draw = true := by decide +kernel
set_option maxRecDepth 100000 in
theorem pX12_draw : dm_RP 257 rX12_draw := dm_RPof 7179 14 7178 100608 (by decide +kernel)
set_option maxRecDepth 100000 in
theorem oX12_drawsActs : dm_okM RX12 rX12_drawsActs.2.1 false qX12_drawsActs = true := by decide +kernel
set_option maxRecDepth 100000 in
theorem pX12_drawsActs : dm_RP 258 rX12_drawsActs := dm_RPof 7175 14 7174 100607 (by decide +kernel)
