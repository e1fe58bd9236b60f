/-! the checks of the code tables, f3 -/
set_option maxRecDepth 100000 in
theorem ckX11_read_s0 : (((ab_mo mX11_read)).take 40).all (ab_ce mX11_read) = true := by decide +kernel
set_option maxRecDepth 100000 in
theorem ckX11_read_s1 : ((((ab_mo mX11_read).drop 40)).take 40).all (ab_ce mX11_read) = true := by decide +kernel
set_option maxRecDepth 100000 in
theorem ckX11_read_s2 : (((((ab_mo mX11_read).drop 40).drop 40)).take 40).all (ab_ce mX11_read) = true := by decide +kernel
set_option maxRecDepth 100000 in
theorem ckX11_read_s3 : ((((((ab_mo mX11_read).drop 40).drop 40).drop 40)).take 40).all (ab_ce mX11_read) = true := by decide +kernel
set_option maxRecDepth 100000 in
theorem ckX11_read : ab_cm mX11_read (1483, 1481, 1482, 113) = true := ab_cm_of (by decide +kernel) (ab_sp 40 ckX11_read_s0 (ab_sp 40 ckX11_read_s1 (ab_sp 40 ckX11_read_s2 (ab_sp 40 ckX11_read_s3 (rfl)))))
set_option maxRecDepth 100000 in
theorem ckX11_place : ab_cm mX11_place (1593, 1591, 1592, 113) = true := by decide +kernel
set_option maxRecDepth 100000 in
theorem ckX11_roomFor : ab_cm mX11_roomFor (1517, 1516, 45, 113) = true := by decide +kernel
set_option maxRecDepth 100000 in
theorem ckX11_tellOne_s0 : (((ab_mo mX11_tellOne)).take 40).all (ab_ce mX11_tellOne) = true := by decide +kernel
set_option maxRecDepth 100000 in
theorem ckX11_tellOne_s1 : ((((ab_mo mX11_tellOne).drop 40)).take 40).all (ab_ce mX11_tellOne) = true := by decide +kernel
set_option maxRecDepth 100000 in
theorem ckX11_tellOne_s2 : (((((ab_mo mX11_tellOne).drop 40).drop 40)).take 40).all (ab_ce mX11_tellOne) = true := by decide +kernel
set_option maxRecDepth 100000 in
theorem ckX11_tellOne_s3 : ((((((ab_mo mX11_tellOne).drop 40).drop 40).drop 40)).take 40).all (ab_ce mX11_tellOne) = true := by decide +kernel
set_option maxRecDepth 100000 in
theorem ckX11_tellOne : ab_cm mX11_tellOne (1513, 1512, 44, 113) = true := ab_cm_of (by decide +kernel) (ab_sp 40 ckX11_tellOne_s0 (ab_sp 40 ckX11_tellOne_s1 (ab_sp 40 ckX11_tellOne_s2 (ab_sp 40 ckX11_tellOne_s3 (rfl)))))
set_option maxRecDepth 100000 in
theorem ckX11_named : ab_cm mX11_named (1529, 1528, 48, 113) = true := by decide +kernel
set_option maxRecDepth 100000 in
theorem ckX11_ends : ab_cm mX11_ends (1545, 1544, 52, 113) = true := by decide +kernel
