set_option maxRecDepth 100000 in
theorem oX12_errandOf : dm_okM RX12 rX12_errandOf.2.1 false qX12_errandOf = true := by decide +kernel
set_option maxRecDepth 100000 in
theorem pX12_errandOf : dm_RP 198 rX12_errandOf := dm_RPof 1863 121 1862 92 (by decide +kernel)
set_option maxRecDepth 100000 in
theorem oX12_isTenant : dm_okM RX12 rX12_isTenant.2.1 false qX12_isTenant = true := by decide +kernel
set_option maxRecDepth 100000 in
theorem pX12_isTenant : dm_RP 199 rX12_isTenant := dm_RPof 1720 121 1719 70 (by decide +kernel)
set_option maxRecDepth 100000 in
theorem oX12_isRoom : dm_okM RX12 rX12_isRoom.2.1 false qX12_isRoom = true := by decide +kernel
set_option maxRecDepth 100000 in
theorem pX12_isRoom : dm_RP 200 rX12_isRoom := dm_RPof 1700 121 1699 66 (by decide +kernel)
set_option maxRecDepth 100000 in
theorem oX12_isIn : dm_okM RX12 rX12_isIn.2.1 false qX12_isIn = true := by decide +kernel
set_option maxRecDepth 100000 in
theorem pX12_isIn : dm_RP 201 rX12_isIn := dm_RPof 1728 121 1727 71 (by decide +kernel)
set_option maxRecDepth 100000 in
theorem oX12_whoIn : dm_okM RX12 rX12_whoIn.2.1 false qX12_whoIn = true := by decide +kernel
set_option maxRecDepth 100000 in
theorem pX12_whoIn : dm_RP 202 rX12_whoIn := dm_RPof 1712 121 1711 69 (by decide +kernel)
set_option maxRecDepth 100000 in
theorem oX12_restOf : dm_okM RX12 rX12_restOf.2.1 false qX12_restOf = true := by decide +kernel
set_option maxRecDepth 100000 in
theorem pX12_restOf : dm_RP 203 rX12_restOf := dm_RPof 1736 121 1735 73 (by decide +kernel)
set_option maxRecDepth 100000 in
theorem oX12_isLoving : dm_okM RX12 rX12_isLoving.2.1 false qX12_isLoving = true := by decide +kernel
set_option maxRecDepth 100000 in
theorem pX12_isLoving : dm_RP 204 rX12_isLoving := dm_RPof 1740 121 1739 74 (by decide +kernel)
set_option maxRecDepth 100000 in
theorem oX12_pulseOf : dm_okM RX12 rX12_pulseOf.2.1 false qX12_pulseOf = true := by decide +kernel
set_option maxRecDepth 100000 in
theorem pX12_pulseOf : dm_RP 205 rX12_pulseOf := dm_RPof 1732 121 1731 72 (by decide +kernel)
set_option maxRecDepth 100000 in
theorem oX12_calmed : dm_okM RX12 rX12_calmed.2.1 false qX12_calmed = true := by decide +kernel
set_option maxRecDepth 100000 in
theorem pX12_calmed : dm_RP 206 rX12_calmed := dm_RPof 1784 121 1783 81 (by decide +kernel)
set_option maxRecDepth 100000 in
theorem oX12_passes : dm_okM RX12 rX12_passes.2.1 false qX12_passes = true := by decide +kernel
set_option maxRecDepth 100000 in
theorem pX12_passes : dm_RP 207 rX12_passes := dm_RPof 1780 121 1779 80 (by decide +kernel)
set_option maxRecDepth 100000 in
theorem oX12_dueBy : dm_okM RX12 rX12_dueBy.2.1 false qX12_dueBy = true := by decide +kernel
set_option maxRecDepth 100000 in
theorem pX12_dueBy : dm_RP 208 rX12_dueBy := dm_RPof 1800 121 1799 84 (by decide +kernel)
set_option maxRecDepth 100000 in
theorem oX12_dueOf : dm_okM RX12 rX12_dueOf.2.1 false qX12_dueOf = true := by decide +kernel
set_option maxRecDepth 100000 in
theorem pX12_dueOf : dm_RP 209 rX12_dueOf := dm_RPof 1796 121 1795 83 (by decide +kernel)
set_option maxRecDepth 100000 in
theorem oX12_noons : dm_okM RX12 rX12_noons.2.1 false qX12_noons = true := by decide +kernel
set_option maxRecDepth 100000 in
theorem pX12_noons : dm_RP 210 rX12_noons := dm_RPof 1792 121 1791 82 (by decide +kernel)
set_option maxRecDepth 100000 in
theorem oX12_climbs : dm_okM RX12 rX12_climbs.2.1 false qX12_climbs = true := by decide +kernel
set_option maxRecDepth 100000 in
theorem pX12_climbs : dm_RP 211 rX12_climbs := dm_RPof 1756 121 1755 77 (by decide +kernel)
set_option maxRecDepth 100000 in
theorem oX12_frightened : dm_okM RX12 rX12_frightened.2.1 false qX12_frightened = true := by decide +kernel
set_option maxRecDepth 100000 in
theorem pX12_frightened : dm_RP 212 rX12_frightened := dm_RPof 1768 121 1767 79 (by decide +kernel)
set_option maxRecDepth 100000 in
theorem oX12_frights : dm_okM RX12 rX12_frights.2.1 false qX12_frights = true := by decide +kernel
set_option maxRecDepth 100000 in
theorem pX12_frights : dm_RP 213 rX12_frights := dm_RPof 1764 121 1763 78 (by decide +kernel)
set_option maxRecDepth 100000 in
theorem oX12_goneMany : dm_okM RX12 rX12_goneMany.2.1 false qX12_goneMany = true := by decide +kernel
set_option maxRecDepth 100000 in
theorem pX12_goneMany : dm_RP 214 rX12_goneMany := dm_RPof 1831 121 1830 88 (by decide +kernel)
set_option maxRecDepth 100000 in
theorem oX12_room : dm_okM RX12 rX12_room.2.1 false qX12_room = true := by decide +kernel
set_option maxRecDepth 100000 in
theorem pX12_room : dm_RP 215 rX12_room := dm_RPof 1696 121 1694 1695 (by decide +kernel)
set_option maxRecDepth 100000 in
theorem oX12_tenant : dm_okM RX12 rX12_tenant.2.1 false qX12_tenant = true := by decide +kernel
set_option maxRecDepth 100000 in
theorem pX12_tenant : dm_RP 216 rX12_tenant := dm_RPof 1716 121 1714 1715 (by decide +kernel)
set_option maxRecDepth 100000 in
theorem oX12_pulse : dm_okM RX12 rX12_pulse.2.1 false qX12_pulse = true := by decide +kernel
set_option maxRecDepth 100000 in
theorem pX12_pulse : dm_RP 217 rX12_pulse := dm_RPof 1724 121 1722 1723 (by decide +kernel)
set_option maxRecDepth 100000 in
theorem oX12_climb : dm_okM RX12 rX12_climb.2.1 false qX12_climb = true := by decide +kernel
set_option maxRecDepth 100000 in
theorem pX12_climb : dm_RP 218 rX12_climb := dm_RPof 1744 121 1742 1743 (by decide +kernel)
set_option maxRecDepth 100000 in
theorem oX12_fright : dm_okM RX12 rX12_fright.2.1 false qX12_fright = true := by decide +kernel
set_option maxRecDepth 100000 in
theorem pX12_fright : dm_RP 219 rX12_fright := dm_RPof 1760 121 1758 1759 (by decide +kernel)
set_option maxRecDepth 100000 in
theorem oX12_drink : dm_okM RX12 rX12_drink.2.1 false qX12_drink = true := by decide +kernel
set_option maxRecDepth 100000 in
theorem pX12_drink : dm_RP 220 rX12_drink := dm_RPof 1772 121 1770 1771 (by decide +kernel)
set_option maxRecDepth 100000 in
theorem oX12_minutes : dm_okM RX12 rX12_minutes.2.1 false qX12_minutes = true := by decide +kernel
set_option maxRecDepth 100000 in
theorem pX12_minutes : dm_RP 221 rX12_minutes := dm_RPof 1776 121 1774 1775 (by decide +kernel)
set_option maxRecDepth 100000 in
theorem oX12_noon : dm_okM RX12 rX12_noon.2.1 false qX12_noon = true := by decide +kernel
set_option maxRecDepth 100000 in
theorem pX12_noon : dm_RP 222 rX12_noon := dm_RPof 1788 121 1786 1787 (by decide +kernel)
set_option maxRecDepth 100000 in
theorem oX12_mayMove : dm_okM RX12 rX12_mayMove.2.1 false qX12_mayMove = true := by decide +kernel
set_option maxRecDepth 100000 in
theorem pX12_mayMove : dm_RP 223 rX12_mayMove := dm_RPof 1815 121 1814 86 (by decide +kernel)
set_option maxRecDepth 100000 in
theorem oX12_move : dm_okM RX12 rX12_move.2.1 false qX12_move = true := by decide +kernel
set_option maxRecDepth 100000 in
theorem pX12_move : dm_RP 224 rX12_move := dm_RPof 1811 121 1809 1810 (by decide +kernel)
