/-! the checks of the code tables, f15 -/
set_option maxRecDepth 100000 in
theorem ckL_law_s21 : ((((((((((((((((((((((((ab_mo mL_law).drop 40).drop 40).drop 40).drop 40).drop 40).drop 40).drop 40).drop 40).drop 40).drop 40).drop 40).drop 40).drop 40).drop 40).drop 40).drop 40).drop 40).drop 40).drop 40).drop 40).drop 40)).take 40).all (ab_ce mL_law) = true := by decide +kernel
set_option maxRecDepth 100000 in
theorem ckL_law_s22 : (((((((((((((((((((((((((ab_mo mL_law).drop 40).drop 40).drop 40).drop 40).drop 40).drop 40).drop 40).drop 40).drop 40).drop 40).drop 40).drop 40).drop 40).drop 40).drop 40).drop 40).drop 40).drop 40).drop 40).drop 40).drop 40).drop 40)).take 40).all (ab_ce mL_law) = true := by decide +kernel
set_option maxRecDepth 100000 in
theorem ckL_law_s23 : ((((((((((((((((((((((((((ab_mo mL_law).drop 40).drop 40).drop 40).drop 40).drop 40).drop 40).drop 40).drop 40).drop 40).drop 40).drop 40).drop 40).drop 40).drop 40).drop 40).drop 40).drop 40).drop 40).drop 40).drop 40).drop 40).drop 40).drop 40)).take 40).all (ab_ce mL_law) = true := by decide +kernel
