/-! the checks of the code tables, f3 -/
set_option maxRecDepth 100000 in
theorem ckX11_termOf : ab_cm mX11_termOf (1665, 1664, 76, 113) = true := by decide +kernel
set_option maxRecDepth 100000 in
theorem ckX11_fillsFar : ab_cm mX11_fillsFar (1589, 1588, 63, 113) = true := by decide +kernel
set_option maxRecDepth 100000 in
theorem ckX11_in : ab_cm mX11_in (1604, 1603, 0, 113) = true := by decide +kernel
set_option maxRecDepth 100000 in
theorem ckX11_held : ab_cm mX11_held (1672, 1671, 0, 113) = true := by decide +kernel
set_option maxRecDepth 100000 in
theorem ckX11_isChurch : ab_cm mX11_isChurch (1601, 1600, 64, 113) = true := by decide +kernel
set_option maxRecDepth 100000 in
theorem ckX11_isRelic : ab_cm mX11_isRelic (1624, 1623, 68, 113) = true := by decide +kernel
set_option maxRecDepth 100000 in
theorem ckX11_isPilgrim : ab_cm mX11_isPilgrim (1632, 1631, 69, 113) = true := by decide +kernel
set_option maxRecDepth 100000 in
theorem ckX11_begins : ab_cm mX11_begins (1265, 1264, 36, 113) = true := by decide +kernel
set_option maxRecDepth 100000 in
theorem ckX11_keepsRow : ab_cm mX11_keepsRow (1269, 1268, 37, 113) = true := by decide +kernel
set_option maxRecDepth 100000 in
theorem ckX11_copies : ab_cm mX11_copies (1608, 1607, 65, 113) = true := by decide +kernel
set_option maxRecDepth 100000 in
theorem ckX11_mixed : ab_cm mX11_mixed (1703, 1702, 0, 113) = true := by decide +kernel
set_option maxRecDepth 100000 in
theorem ckX11_lotOf : ab_cm mX11_lotOf (1700, 1699, 81, 113) = true := by decide +kernel
set_option maxRecDepth 100000 in
theorem ckX11_relicsAt : ab_cm mX11_relicsAt (1653, 1652, 73, 113) = true := by decide +kernel
set_option maxRecDepth 100000 in
theorem ckX11_trueAt : ab_cm mX11_trueAt (1616, 1615, 67, 113) = true := by decide +kernel
set_option maxRecDepth 100000 in
theorem ckX11_farFor : ab_cm mX11_farFor (1657, 1656, 74, 113) = true := by decide +kernel
set_option maxRecDepth 100000 in
theorem ckX11_looks : ab_cm mX11_looks (1649, 1648, 72, 113) = true := by decide +kernel
set_option maxRecDepth 100000 in
theorem ckX11_looksAt : ab_cm mX11_looksAt (1645, 1644, 71, 113) = true := by decide +kernel
set_option maxRecDepth 100000 in
theorem ckX11_lawTells : ab_cm mX11_lawTells (1661, 1660, 75, 113) = true := by decide +kernel
set_option maxRecDepth 100000 in
theorem ckX11_drawsOf : ab_cm mX11_drawsOf (1641, 1640, 70, 113) = true := by decide +kernel
set_option maxRecDepth 100000 in
theorem ckX11_givesOf : ab_cm mX11_givesOf (1669, 1668, 77, 113) = true := by decide +kernel
set_option maxRecDepth 100000 in
theorem ckX11_healsBy : ab_cm mX11_healsBy (1684, 1683, 79, 113) = true := by decide +kernel
set_option maxRecDepth 100000 in
theorem ckX11_healsOf : ab_cm mX11_healsOf (1680, 1679, 78, 113) = true := by decide +kernel
set_option maxRecDepth 100000 in
theorem ckX11_leaveOf : ab_cm mX11_leaveOf (1713, 1712, 83, 113) = true := by decide +kernel
set_option maxRecDepth 100000 in
theorem ckX11_caughtBy : ab_cm mX11_caughtBy (1708, 1707, 82, 113) = true := by decide +kernel
set_option maxRecDepth 100000 in
theorem ckX11_goesNow : ab_cm mX11_goesNow (1741, 1740, 87, 113) = true := by decide +kernel
set_option maxRecDepth 100000 in
theorem ckX11_pilgrimGoes_s0 : (((ab_mo mX11_pilgrimGoes)).take 40).all (ab_ce mX11_pilgrimGoes) = true := by decide +kernel
set_option maxRecDepth 100000 in
theorem ckX11_pilgrimGoes_s1 : ((((ab_mo mX11_pilgrimGoes).drop 40)).take 40).all (ab_ce mX11_pilgrimGoes) = true := by decide +kernel
set_option maxRecDepth 100000 in
theorem ckX11_pilgrimGoes_s2 : (((((ab_mo mX11_pilgrimGoes).drop 40).drop 40)).take 40).all (ab_ce mX11_pilgrimGoes) = true := by decide +kernel
set_option maxRecDepth 100000 in
theorem ckX11_pilgrimGoes : ab_cm mX11_pilgrimGoes (1745, 1744, 88, 113) = true := ab_cm_of (by decide +kernel) (ab_sp 40 ckX11_pilgrimGoes_s0 (ab_sp 40 ckX11_pilgrimGoes_s1 (ab_sp 40 ckX11_pilgrimGoes_s2 (rfl))))
set_option maxRecDepth 100000 in
theorem ckX11_yearGoes : ab_cm mX11_yearGoes (1737, 1736, 86, 113) = true := by decide +kernel
set_option maxRecDepth 100000 in
theorem ckX11_yearsGo : ab_cm mX11_yearsGo (1733, 1732, 85, 113) = true := by decide +kernel
set_option maxRecDepth 100000 in
theorem ckX11_relicBits : ab_cm mX11_relicBits (1612, 1611, 66, 113) = true := by decide +kernel
set_option maxRecDepth 100000 in
theorem ckX11_church : ab_cm mX11_church (1597, 1595, 1596, 113) = true := by decide +kernel
set_option maxRecDepth 100000 in
theorem ckX11_relic : ab_cm mX11_relic (1620, 1618, 1619, 113) = true := by decide +kernel
set_option maxRecDepth 100000 in
theorem ckX11_pilgrim : ab_cm mX11_pilgrim (1628, 1626, 1627, 113) = true := by decide +kernel
set_option maxRecDepth 100000 in
theorem ckX11_tells : ab_cm mX11_tells (1636, 1634, 1635, 113) = true := by decide +kernel
set_option maxRecDepth 100000 in
theorem ckX11_heals : ab_cm mX11_heals (1676, 1674, 1675, 113) = true := by decide +kernel
set_option maxRecDepth 100000 in
theorem ckX11_records : ab_cm mX11_records (1717, 1716, 84, 113) = true := by decide +kernel
set_option maxRecDepth 100000 in
theorem ckX11_isNights : ab_cm mX11_isNights (1691, 1690, 0, 113) = true := by decide +kernel
set_option maxRecDepth 100000 in
theorem ckX11_triesFor : ab_cm mX11_triesFor (1695, 1694, 80, 113) = true := by decide +kernel
set_option maxRecDepth 100000 in
theorem ckX11_steal : ab_cm mX11_steal (1688, 1686, 1687, 113) = true := by decide +kernel
set_option maxRecDepth 100000 in
theorem ckX11_swap : ab_cm mX11_swap (1721, 1719, 1720, 113) = true := by decide +kernel
set_option maxRecDepth 100000 in
theorem ckX11_watch : ab_cm mX11_watch (1725, 1723, 1724, 113) = true := by decide +kernel
set_option maxRecDepth 100000 in
theorem ckX11_years : ab_cm mX11_years (1729, 1727, 1728, 113) = true := by decide +kernel
set_option maxRecDepth 100000 in
theorem ckX11_undo : ab_cm mX11_undo (1749, 1747, 1748, 113) = true := by decide +kernel
set_option maxRecDepth 100000 in
theorem ckX11_goes : ab_cm mX11_goes (1753, 1751, 1752, 113) = true := by decide +kernel
set_option maxRecDepth 100000 in
theorem ckX11_theftNow : ab_cm mX11_theftNow (1761, 1760, 89, 113) = true := by decide +kernel
set_option maxRecDepth 100000 in
theorem ckX11_theft : ab_cm mX11_theft (1757, 1755, 1756, 113) = true := by decide +kernel
set_option maxRecDepth 100000 in
theorem ckX11_nightsNow : ab_cm mX11_nightsNow (1769, 1768, 90, 113) = true := by decide +kernel
set_option maxRecDepth 100000 in
theorem ckX11_nights : ab_cm mX11_nights (1765, 1763, 1764, 113) = true := by decide +kernel
set_option maxRecDepth 100000 in
theorem ckX11_guardOf : ab_cm mX11_guardOf (1780, 1779, 91, 113) = true := by decide +kernel
set_option maxRecDepth 100000 in
theorem ckX11_isOdds : ab_cm mX11_isOdds (1776, 1775, 0, 113) = true := by decide +kernel
set_option maxRecDepth 100000 in
theorem ckX11_guard : ab_cm mX11_guard (1773, 1771, 1772, 113) = true := by decide +kernel
set_option maxRecDepth 100000 in
theorem ckX11_guards : ab_cm mX11_guards (1784, 1782, 1783, 113) = true := by decide +kernel
set_option maxRecDepth 100000 in
theorem ckX11_weak : ab_cm mX11_weak (1788, 1786, 1787, 113) = true := by decide +kernel
set_option maxRecDepth 100000 in
theorem ckX11_isFew : ab_cm mX11_isFew (1795, 1794, 0, 113) = true := by decide +kernel
set_option maxRecDepth 100000 in
theorem ckX11_isLong : ab_cm mX11_isLong (1814, 1813, 0, 113) = true := by decide +kernel
set_option maxRecDepth 100000 in
theorem ckX11_takesWith : ab_cm mX11_takesWith (1799, 1798, 92, 113) = true := by decide +kernel
set_option maxRecDepth 100000 in
theorem ckX11_worth : ab_cm mX11_worth (1792, 1790, 1791, 113) = true := by decide +kernel
set_option maxRecDepth 100000 in
theorem ckX11_isBarter : ab_cm mX11_isBarter (1807, 1806, 93, 113) = true := by decide +kernel
set_option maxRecDepth 100000 in
theorem ckX11_barter : ab_cm mX11_barter (1803, 1801, 1802, 113) = true := by decide +kernel
set_option maxRecDepth 100000 in
theorem ckX11_took : ab_cm mX11_took (1811, 1809, 1810, 113) = true := by decide +kernel
set_option maxRecDepth 100000 in
theorem ckX11_wonders : ab_cm mX11_wonders (1818, 1816, 1817, 113) = true := by decide +kernel
set_option maxRecDepth 100000 in
theorem ckX11_goesIn : ab_cm mX11_goesIn (1822, 1820, 1821, 113) = true := by decide +kernel
set_option maxRecDepth 100000 in
theorem ckX11_rich : ab_cm mX11_rich (1826, 1824, 1825, 113) = true := by decide +kernel
set_option maxRecDepth 100000 in
theorem ckX11_hub : ab_cm mX11_hub (1830, 1828, 1829, 113) = true := by decide +kernel
set_option maxRecDepth 100000 in
theorem ckX11_crowd : ab_cm mX11_crowd (1834, 1832, 1833, 113) = true := by decide +kernel
set_option maxRecDepth 100000 in
theorem ckX11_healed : ab_cm mX11_healed (1838, 1836, 1837, 113) = true := by decide +kernel
