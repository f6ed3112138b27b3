set_option maxRecDepth 100000 in
theorem oX12_asksOnce : dm_okM RX12 rX12_asksOnce.2.1 false qX12_asksOnce = true := by decide +kernel
set_option maxRecDepth 100000 in
theorem pX12_asksOnce : dm_RP 237 rX12_asksOnce := dm_RPof 7101 14 7100 100601 (by decide +kernel)
set_option maxRecDepth 100000 in
theorem oX12_findMatch : dm_okM RX12 rX12_findMatch.2.1 false qX12_findMatch = true := by decide +kernel
set_option maxRecDepth 100000 in
theorem pX12_findMatch : dm_RP 238 rX12_findMatch := dm_RPof 7093 14 7092 100515 (by decide +kernel)
set_option maxRecDepth 100000 in
theorem oX12_match : dm_okM RX12 rX12_match.2.1 false qX12_match = true := by decide +kernel
set_option maxRecDepth 100000 in
theorem pX12_match : dm_RP 239 rX12_match := dm_RPof 7089 14 7087 7088 (by decide +kernel)
set_option maxRecDepth 100000 in
theorem oX12_spare : dm_okM RX12 rX12_spare.2.1 false qX12_spare = true := by decide +kernel
set_option maxRecDepth 100000 in
theorem pX12_spare : dm_RP 240 rX12_spare := dm_RPof 7113 14 7111 7112 (by decide +kernel)
set_option maxRecDepth 100000 in
theorem oX12_choose : dm_okM RX12 rX12_choose.2.1 false qX12_choose = true := by decide +kernel
set_option maxRecDepth 100000 in
theorem pX12_choose : dm_RP 241 rX12_choose := dm_RPof 7120 14 7119 0 (by decide +kernel)
set_option maxRecDepth 100000 in
theorem oX12_sampled : dm_okM RX12 rX12_sampled.2.1 false qX12_sampled = true := by decide +kernel
set_option maxRecDepth 100000 in
theorem pX12_sampled : dm_RP 242 rX12_sampled := dm_RPof 7117 14 7115 7116 (by decide +kernel)
set_option maxRecDepth 100000 in
theorem oX12_haunted : dm_okM RX12 rX12_haunted.2.1 false qX12_haunted = true := by decide +kernel
set_option maxRecDepth 100000 in
theorem pX12_haunted : dm_RP 243 rX12_haunted := dm_RPof 7132 14 7131 100604 (by decide +kernel)
set_option maxRecDepth 100000 in
theorem oX12_bits : dm_okM RX12 rX12_bits.2.1 false qX12_bits = true := by decide +kernel
set_option maxRecDepth 100000 in
theorem pX12_bits : dm_RP 244 rX12_bits := dm_RPof 7128 14 7127 0 (by decide +kernel)
set_option maxRecDepth 100000 in
theorem oX12_haunt : dm_okM RX12 rX12_haunt.2.1 false qX12_haunt = true := by decide +kernel
set_option maxRecDepth 100000 in
theorem pX12_haunt : dm_RP 245 rX12_haunt := dm_RPof 7125 14 7123 7124 (by decide +kernel)
set_option maxRecDepth 100000 in
theorem oX12_areBothIn : dm_okM RX12 rX12_areBothIn.2.1 false qX12_areBothIn = true := by decide +kernel
set_option maxRecDepth 100000 in
theorem pX12_areBothIn : dm_RP 246 rX12_areBothIn := dm_RPof 7140 14 7139 100605 (by decide +kernel)
set_option maxRecDepth 100000 in
theorem oX12_savedBy : dm_okM RX12 rX12_savedBy.2.1 false qX12_savedBy = true := by decide +kernel
set_option maxRecDepth 100000 in
theorem pX12_savedBy : dm_RP 247 rX12_savedBy := dm_RPof 7144 14 7143 100606 (by decide +kernel)
set_option maxRecDepth 100000 in
theorem oX12_lease : dm_okM RX12 rX12_lease.2.1 false qX12_lease = true := by decide +kernel
set_option maxRecDepth 100000 in
theorem pX12_lease : dm_RP 248 rX12_lease := dm_RPof 7136 14 7134 7135 (by decide +kernel)
set_option maxRecDepth 100000 in
theorem oX12_share : dm_okM RX12 rX12_share.2.1 false qX12_share = true := by decide +kernel
set_option maxRecDepth 100000 in
theorem pX12_share : dm_RP 249 rX12_share := dm_RPof 7148 14 7146 7147 (by decide +kernel)
set_option maxRecDepth 100000 in
theorem oX12_law : dm_okM RX12 rX12_law.2.1 false qX12_law = true := by decide +kernel
set_option maxRecDepth 100000 in
theorem pX12_law : dm_RP 250 rX12_law := dm_RPof 7152 14 7150 7151 (by decide +kernel)
set_option maxRecDepth 100000 in
theorem oX12_sample : dm_okM RX12 rX12_sample.2.1 false qX12_sample = true := by decide +kernel
set_option maxRecDepth 100000 in
theorem pX12_sample : dm_RP 251 rX12_sample := dm_RPof 7156 14 7154 7155 (by decide +kernel)
set_option maxRecDepth 100000 in
theorem oX12_laysDay : dm_okM RX12 rX12_laysDay.2.1 false qX12_laysDay = true := by decide +kernel
set_option maxRecDepth 100000 in
theorem pX12_laysDay : dm_RP 252 rX12_laysDay := dm_RPof 7168 14 7167 100608 (by decide +kernel)
