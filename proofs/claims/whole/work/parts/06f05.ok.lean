/-! the checks of the code tables, f5 -/
set_option maxRecDepth 100000 in
theorem ckL_law_s3 : ((((((ab_mo mL_law).drop 40).drop 40).drop 40)).take 40).all (ab_ce mL_law) = true := by decide +kernel
set_option maxRecDepth 100000 in
theorem ckL_law_s4 : (((((((ab_mo mL_law).drop 40).drop 40).drop 40).drop 40)).take 40).all (ab_ce mL_law) = true := by decide +kernel
set_option maxRecDepth 100000 in
theorem ckL_law_s5 : ((((((((ab_mo mL_law).drop 40).drop 40).drop 40).drop 40).drop 40)).take 40).all (ab_ce mL_law) = true := by decide +kernel
set_option maxRecDepth 100000 in
theorem ckL_law_s6 : (((((((((ab_mo mL_law).drop 40).drop 40).drop 40).drop 40).drop 40).drop 40)).take 40).all (ab_ce mL_law) = true := by decide +kernel
set_option maxRecDepth 100000 in
theorem ckL_law_s7 : ((((((((((ab_mo mL_law).drop 40).drop 40).drop 40).drop 40).drop 40).drop 40).drop 40)).take 40).all (ab_ce mL_law) = true := by decide +kernel
set_option maxRecDepth 100000 in
theorem ckL_law_s8 : (((((((((((ab_mo mL_law).drop 40).drop 40).drop 40).drop 40).drop 40).drop 40).drop 40).drop 40)).take 40).all (ab_ce mL_law) = true := by decide +kernel
