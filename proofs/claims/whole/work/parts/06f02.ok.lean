/-! the checks of the code tables, f2 -/
set_option maxRecDepth 100000 in
theorem ckX11_tellOne_s0 : (((ab_mo mX11_tellOne)).take 40).all (ab_ce mX11_tellOne) = true := by decide +kernel
set_option maxRecDepth 100000 in
theorem ckX11_tellOne_s1 : ((((ab_mo mX11_tellOne).drop 40)).take 40).all (ab_ce mX11_tellOne) = true := by decide +kernel
set_option maxRecDepth 100000 in
theorem ckX11_tellOne_s2 : (((((ab_mo mX11_tellOne).drop 40).drop 40)).take 40).all (ab_ce mX11_tellOne) = true := by decide +kernel
set_option maxRecDepth 100000 in
theorem ckX11_tellOne_s3 : ((((((ab_mo mX11_tellOne).drop 40).drop 40).drop 40)).take 40).all (ab_ce mX11_tellOne) = true := by decide +kernel
set_option maxRecDepth 100000 in
theorem ckX11_tellOne : ab_cm mX11_tellOne (1513, 1512, 44, 113) = true := ab_cm_of (by decide +kernel) (ab_sp 40 ckX11_tellOne_s0 (ab_sp 40 ckX11_tellOne_s1 (ab_sp 40 ckX11_tellOne_s2 (ab_sp 40 ckX11_tellOne_s3 (rfl)))))
set_option maxRecDepth 100000 in
theorem ckX11_named : ab_cm mX11_named (1529, 1528, 48, 113) = true := by decide +kernel
set_option maxRecDepth 100000 in
theorem ckX11_ends : ab_cm mX11_ends (1545, 1544, 52, 113) = true := by decide +kernel
set_option maxRecDepth 100000 in
theorem ckX11_knownChurch : ab_cm mX11_knownChurch (1553, 1552, 54, 113) = true := by decide +kernel
set_option maxRecDepth 100000 in
theorem ckX11_bounded : ab_cm mX11_bounded (1541, 1540, 51, 113) = true := by decide +kernel
set_option maxRecDepth 100000 in
theorem ckX11_tellRoad : ab_cm mX11_tellRoad (1549, 1548, 53, 113) = true := by decide +kernel
set_option maxRecDepth 100000 in
theorem ckX11_tellRelic : ab_cm mX11_tellRelic (1557, 1556, 55, 113) = true := by decide +kernel
set_option maxRecDepth 100000 in
theorem ckX11_tellPilgrim : ab_cm mX11_tellPilgrim (1561, 1560, 56, 113) = true := by decide +kernel
set_option maxRecDepth 100000 in
theorem ckX11_tellLaw_s0 : (((ab_mo mX11_tellLaw)).take 40).all (ab_ce mX11_tellLaw) = true := by decide +kernel
set_option maxRecDepth 100000 in
theorem ckX11_tellLaw_s1 : ((((ab_mo mX11_tellLaw).drop 40)).take 40).all (ab_ce mX11_tellLaw) = true := by decide +kernel
set_option maxRecDepth 100000 in
theorem ckX11_tellLaw_s2 : (((((ab_mo mX11_tellLaw).drop 40).drop 40)).take 40).all (ab_ce mX11_tellLaw) = true := by decide +kernel
set_option maxRecDepth 100000 in
theorem ckX11_tellLaw : ab_cm mX11_tellLaw (1565, 1564, 57, 113) = true := ab_cm_of (by decide +kernel) (ab_sp 40 ckX11_tellLaw_s0 (ab_sp 40 ckX11_tellLaw_s1 (ab_sp 40 ckX11_tellLaw_s2 (rfl))))
set_option maxRecDepth 100000 in
theorem ckX11_term : ab_cm mX11_term (1585, 1584, 62, 113) = true := by decide +kernel
set_option maxRecDepth 100000 in
theorem ckX11_emit : ab_cm mX11_emit (1577, 1576, 60, 113) = true := by decide +kernel
set_option maxRecDepth 100000 in
theorem ckX11_comesOut : ab_cm mX11_comesOut (1581, 1580, 61, 113) = true := by decide +kernel
set_option maxRecDepth 100000 in
theorem ckX11_expression_s0 : (((ab_mo mX11_expression)).take 40).all (ab_ce mX11_expression) = true := by decide +kernel
set_option maxRecDepth 100000 in
theorem ckX11_expression_s1 : ((((ab_mo mX11_expression).drop 40)).take 40).all (ab_ce mX11_expression) = true := by decide +kernel
set_option maxRecDepth 100000 in
theorem ckX11_expression_s2 : (((((ab_mo mX11_expression).drop 40).drop 40)).take 40).all (ab_ce mX11_expression) = true := by decide +kernel
set_option maxRecDepth 100000 in
theorem ckX11_expression_s3 : ((((((ab_mo mX11_expression).drop 40).drop 40).drop 40)).take 40).all (ab_ce mX11_expression) = true := by decide +kernel
set_option maxRecDepth 100000 in
theorem ckX11_expression : ab_cm mX11_expression (1569, 1568, 58, 113) = true := ab_cm_of (by decide +kernel) (ab_sp 40 ckX11_expression_s0 (ab_sp 40 ckX11_expression_s1 (ab_sp 40 ckX11_expression_s2 (ab_sp 40 ckX11_expression_s3 (rfl)))))
set_option maxRecDepth 100000 in
theorem ckX11_unit : ab_cm mX11_unit (1573, 1572, 59, 113) = true := by decide +kernel
