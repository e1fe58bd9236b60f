/-! the checks of the code tables, f8 -/
set_option maxRecDepth 100000 in
theorem ckL_law_s0 : (((ab_mo mL_law)).take 40).all (ab_ce mL_law) = true := by decide +kernel
set_option maxRecDepth 100000 in
theorem ckL_law_s1 : ((((ab_mo mL_law).drop 40)).take 40).all (ab_ce mL_law) = true := by decide +kernel
set_option maxRecDepth 100000 in
theorem ckL_law_s2 : (((((ab_mo mL_law).drop 40).drop 40)).take 40).all (ab_ce mL_law) = true := by decide +kernel
