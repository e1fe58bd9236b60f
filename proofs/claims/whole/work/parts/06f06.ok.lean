/-! the checks of the code tables, f6 -/
set_option maxRecDepth 100000 in
theorem ckX11_pilgrimGoes : ab_cm mX11_pilgrimGoes (1745, 1744, 88, 113) = true := ab_cm_of (by decide +kernel) (ab_sp 40 ckX11_pilgrimGoes_s0 (ab_sp 40 ckX11_pilgrimGoes_s1 (ab_sp 40 ckX11_pilgrimGoes_s2 (rfl))))
set_option maxRecDepth 100000 in
theorem ckX11_yearGoes : ab_cm mX11_yearGoes (1737, 1736, 86, 113) = true := by decide +kernel
set_option maxRecDepth 100000 in
theorem ckX11_yearsGo : ab_cm mX11_yearsGo (1733, 1732, 85, 113) = true := by decide +kernel
set_option maxRecDepth 100000 in
theorem ckX11_relicBits : ab_cm mX11_relicBits (1612, 1611, 66, 113) = true := by decide +kernel
set_option maxRecDepth 100000 in
theorem ckX11_church : ab_cm mX11_church (1597, 1595, 1596, 113) = true := by decide +kernel
set_option maxRecDepth 100000 in
theorem ckX11_relic : ab_cm mX11_relic (1620, 1618, 1619, 113) = true := by decide +kernel
set_option maxRecDepth 100000 in
theorem ckX11_pilgrim : ab_cm mX11_pilgrim (1628, 1626, 1627, 113) = true := by decide +kernel
set_option maxRecDepth 100000 in
theorem ckX11_tells : ab_cm mX11_tells (1636, 1634, 1635, 113) = true := by decide +kernel
set_option maxRecDepth 100000 in
theorem ckX11_heals : ab_cm mX11_heals (1676, 1674, 1675, 113) = true := by decide +kernel
set_option maxRecDepth 100000 in
theorem ckX11_records : ab_cm mX11_records (1717, 1716, 84, 113) = true := by decide +kernel
set_option maxRecDepth 100000 in
theorem ckX11_isNights : ab_cm mX11_isNights (1691, 1690, 0, 113) = true := by decide +kernel
set_option maxRecDepth 100000 in
theorem ckX11_triesFor : ab_cm mX11_triesFor (1695, 1694, 80, 113) = true := by decide +kernel
set_option maxRecDepth 100000 in
theorem ckX11_steal : ab_cm mX11_steal (1688, 1686, 1687, 113) = true := by decide +kernel
set_option maxRecDepth 100000 in
theorem ckX11_swap : ab_cm mX11_swap (1721, 1719, 1720, 113) = true := by decide +kernel
set_option maxRecDepth 100000 in
theorem ckX11_watch : ab_cm mX11_watch (1725, 1723, 1724, 113) = true := by decide +kernel
set_option maxRecDepth 100000 in
theorem ckX11_years : ab_cm mX11_years (1729, 1727, 1728, 113) = true := by decide +kernel
set_option maxRecDepth 100000 in
theorem ckX11_undo : ab_cm mX11_undo (1749, 1747, 1748, 113) = true := by decide +kernel
set_option maxRecDepth 100000 in
theorem ckX11_goes : ab_cm mX11_goes (1753, 1751, 1752, 113) = true := by decide +kernel
set_option maxRecDepth 100000 in
theorem ckX11_theftNow : ab_cm mX11_theftNow (1761, 1760, 89, 113) = true := by decide +kernel
set_option maxRecDepth 100000 in
theorem ckX11_theft : ab_cm mX11_theft (1757, 1755, 1756, 113) = true := by decide +kernel
set_option maxRecDepth 100000 in
theorem ckX11_nightsNow : ab_cm mX11_nightsNow (1769, 1768, 90, 113) = true := by decide +kernel
set_option maxRecDepth 100000 in
theorem ckX11_nights : ab_cm mX11_nights (1765, 1763, 1764, 113) = true := by decide +kernel
set_option maxRecDepth 100000 in
theorem ckX11_guardOf : ab_cm mX11_guardOf (1780, 1779, 91, 113) = true := by decide +kernel
set_option maxRecDepth 100000 in
theorem ckX11_isOdds : ab_cm mX11_isOdds (1776, 1775, 0, 113) = true := by decide +kernel
set_option maxRecDepth 100000 in
theorem ckX11_guard : ab_cm mX11_guard (1773, 1771, 1772, 113) = true := by decide +kernel
set_option maxRecDepth 100000 in
theorem ckX11_guards : ab_cm mX11_guards (1784, 1782, 1783, 113) = true := by decide +kernel
set_option maxRecDepth 100000 in
theorem ckX11_weak : ab_cm mX11_weak (1788, 1786, 1787, 113) = true := by decide +kernel
set_option maxRecDepth 100000 in
theorem ckX11_isFew : ab_cm mX11_isFew (1795, 1794, 0, 113) = true := by decide +kernel
set_option maxRecDepth 100000 in
theorem ckX11_isLong : ab_cm mX11_isLong (1814, 1813, 0, 113) = true := by decide +kernel
set_option maxRecDepth 100000 in
theorem ckX11_takesWith : ab_cm mX11_takesWith (1799, 1798, 92, 113) = true := by decide +kernel
set_option maxRecDepth 100000 in
theorem ckX11_worth : ab_cm mX11_worth (1792, 1790, 1791, 113) = true := by decide +kernel
set_option maxRecDepth 100000 in
theorem ckX11_isBarter : ab_cm mX11_isBarter (1807, 1806, 93, 113) = true := by decide +kernel
set_option maxRecDepth 100000 in
theorem ckX11_barter : ab_cm mX11_barter (1803, 1801, 1802, 113) = true := by decide +kernel
set_option maxRecDepth 100000 in
theorem ckX11_took : ab_cm mX11_took (1811, 1809, 1810, 113) = true := by decide +kernel
set_option maxRecDepth 100000 in
theorem ckX11_wonders : ab_cm mX11_wonders (1818, 1816, 1817, 113) = true := by decide +kernel
set_option maxRecDepth 100000 in
theorem ckX11_goesIn : ab_cm mX11_goesIn (1822, 1820, 1821, 113) = true := by decide +kernel
