/-! the checks of the code tables, f7 -/
set_option maxRecDepth 100000 in
theorem ckL_law_s15 : ((((((((((((((((((ab_mo mL_law).drop 40).drop 40).drop 40).drop 40).drop 40).drop 40).drop 40).drop 40).drop 40).drop 40).drop 40).drop 40).drop 40).drop 40).drop 40)).take 40).all (ab_ce mL_law) = true := by decide +kernel
set_option maxRecDepth 100000 in
theorem ckL_law_s16 : (((((((((((((((((((ab_mo mL_law).drop 40).drop 40).drop 40).drop 40).drop 40).drop 40).drop 40).drop 40).drop 40).drop 40).drop 40).drop 40).drop 40).drop 40).drop 40).drop 40)).take 40).all (ab_ce mL_law) = true := by decide +kernel
set_option maxRecDepth 100000 in
theorem ckL_law_s17 : ((((((((((((((((((((ab_mo mL_law).drop 40).drop 40).drop 40).drop 40).drop 40).drop 40).drop 40).drop 40).drop 40).drop 40).drop 40).drop 40).drop 40).drop 40).drop 40).drop 40).drop 40)).take 40).all (ab_ce mL_law) = true := by decide +kernel
set_option maxRecDepth 100000 in
theorem ckL_law_s18 : (((((((((((((((((((((ab_mo mL_law).drop 40).drop 40).drop 40).drop 40).drop 40).drop 40).drop 40).drop 40).drop 40).drop 40).drop 40).drop 40).drop 40).drop 40).drop 40).drop 40).drop 40).drop 40)).take 40).all (ab_ce mL_law) = true := by decide +kernel
set_option maxRecDepth 100000 in
theorem ckL_law_s19 : ((((((((((((((((((((((ab_mo mL_law).drop 40).drop 40).drop 40).drop 40).drop 40).drop 40).drop 40).drop 40).drop 40).drop 40).drop 40).drop 40).drop 40).drop 40).drop 40).drop 40).drop 40).drop 40).drop 40)).take 40).all (ab_ce mL_law) = true := by decide +kernel
set_option maxRecDepth 100000 in
theorem ckL_law_s20 : (((((((((((((((((((((((ab_mo mL_law).drop 40).drop 40).drop 40).drop 40).drop 40).drop 40).drop 40).drop 40).drop 40).drop 40).drop 40).drop 40).drop 40).drop 40).drop 40).drop 40).drop 40).drop 40).drop 40).drop 40)).take 40).all (ab_ce mL_law) = true := by decide +kernel
