/-! the checks of the code tables, f5 -/
set_option maxRecDepth 100000 in
theorem ckX11_expression : ab_cm mX11_expression (1569, 1568, 58, 113) = true := ab_cm_of (by decide +kernel) (ab_sp 40 ckX11_expression_s0 (ab_sp 40 ckX11_expression_s1 (ab_sp 40 ckX11_expression_s2 (ab_sp 40 ckX11_expression_s3 (rfl)))))
set_option maxRecDepth 100000 in
theorem ckX11_unit : ab_cm mX11_unit (1573, 1572, 59, 113) = true := by decide +kernel
set_option maxRecDepth 100000 in
theorem ckX11_termOf : ab_cm mX11_termOf (1665, 1664, 76, 113) = true := by decide +kernel
set_option maxRecDepth 100000 in
theorem ckX11_fillsFar : ab_cm mX11_fillsFar (1589, 1588, 63, 113) = true := by decide +kernel
set_option maxRecDepth 100000 in
theorem ckX11_in : ab_cm mX11_in (1604, 1603, 0, 113) = true := by decide +kernel
set_option maxRecDepth 100000 in
theorem ckX11_held : ab_cm mX11_held (1672, 1671, 0, 113) = true := by decide +kernel
set_option maxRecDepth 100000 in
theorem ckX11_isChurch : ab_cm mX11_isChurch (1601, 1600, 64, 113) = true := by decide +kernel
set_option maxRecDepth 100000 in
theorem ckX11_isRelic : ab_cm mX11_isRelic (1624, 1623, 68, 113) = true := by decide +kernel
set_option maxRecDepth 100000 in
theorem ckX11_isPilgrim : ab_cm mX11_isPilgrim (1632, 1631, 69, 113) = true := by decide +kernel
set_option maxRecDepth 100000 in
theorem ckX11_begins : ab_cm mX11_begins (1265, 1264, 36, 113) = true := by decide +kernel
set_option maxRecDepth 100000 in
theorem ckX11_keepsRow : ab_cm mX11_keepsRow (1269, 1268, 37, 113) = true := by decide +kernel
set_option maxRecDepth 100000 in
theorem ckX11_copies : ab_cm mX11_copies (1608, 1607, 65, 113) = true := by decide +kernel
set_option maxRecDepth 100000 in
theorem ckX11_mixed : ab_cm mX11_mixed (1703, 1702, 0, 113) = true := by decide +kernel
set_option maxRecDepth 100000 in
theorem ckX11_lotOf : ab_cm mX11_lotOf (1700, 1699, 81, 113) = true := by decide +kernel
set_option maxRecDepth 100000 in
theorem ckX11_relicsAt : ab_cm mX11_relicsAt (1653, 1652, 73, 113) = true := by decide +kernel
set_option maxRecDepth 100000 in
theorem ckX11_trueAt : ab_cm mX11_trueAt (1616, 1615, 67, 113) = true := by decide +kernel
set_option maxRecDepth 100000 in
theorem ckX11_farFor : ab_cm mX11_farFor (1657, 1656, 74, 113) = true := by decide +kernel
set_option maxRecDepth 100000 in
theorem ckX11_looks : ab_cm mX11_looks (1649, 1648, 72, 113) = true := by decide +kernel
set_option maxRecDepth 100000 in
theorem ckX11_looksAt : ab_cm mX11_looksAt (1645, 1644, 71, 113) = true := by decide +kernel
set_option maxRecDepth 100000 in
theorem ckX11_lawTells : ab_cm mX11_lawTells (1661, 1660, 75, 113) = true := by decide +kernel
set_option maxRecDepth 100000 in
theorem ckX11_drawsOf : ab_cm mX11_drawsOf (1641, 1640, 70, 113) = true := by decide +kernel
set_option maxRecDepth 100000 in
theorem ckX11_givesOf : ab_cm mX11_givesOf (1669, 1668, 77, 113) = true := by decide +kernel
set_option maxRecDepth 100000 in
theorem ckX11_healsBy : ab_cm mX11_healsBy (1684, 1683, 79, 113) = true := by decide +kernel
set_option maxRecDepth 100000 in
theorem ckX11_healsOf : ab_cm mX11_healsOf (1680, 1679, 78, 113) = true := by decide +kernel
set_option maxRecDepth 100000 in
theorem ckX11_leaveOf : ab_cm mX11_leaveOf (1713, 1712, 83, 113) = true := by decide +kernel
set_option maxRecDepth 100000 in
theorem ckX11_caughtBy : ab_cm mX11_caughtBy (1708, 1707, 82, 113) = true := by decide +kernel
set_option maxRecDepth 100000 in
theorem ckX11_goesNow : ab_cm mX11_goesNow (1741, 1740, 87, 113) = true := by decide +kernel
set_option maxRecDepth 100000 in
theorem ckX11_pilgrimGoes_s0 : (((ab_mo mX11_pilgrimGoes)).take 40).all (ab_ce mX11_pilgrimGoes) = true := by decide +kernel
set_option maxRecDepth 100000 in
theorem ckX11_pilgrimGoes_s1 : ((((ab_mo mX11_pilgrimGoes).drop 40)).take 40).all (ab_ce mX11_pilgrimGoes) = true := by decide +kernel
set_option maxRecDepth 100000 in
theorem ckX11_pilgrimGoes_s2 : (((((ab_mo mX11_pilgrimGoes).drop 40).drop 40)).take 40).all (ab_ce mX11_pilgrimGoes) = true := by decide +kernel
