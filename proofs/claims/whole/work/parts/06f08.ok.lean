/-! the checks of the code tables, f8 -/
set_option maxRecDepth 100000 in
theorem ckL_law_s21 : ((((((((((((((((((((((((ab_mo mL_law).drop 40).drop 40).drop 40).drop 40).drop 40).drop 40).drop 40).drop 40).drop 40).drop 40).drop 40).drop 40).drop 40).drop 40).drop 40).drop 40).drop 40).drop 40).drop 40).drop 40).drop 40)).take 40).all (ab_ce mL_law) = true := by decide +kernel
set_option maxRecDepth 100000 in
theorem ckL_law_s22 : (((((((((((((((((((((((((ab_mo mL_law).drop 40).drop 40).drop 40).drop 40).drop 40).drop 40).drop 40).drop 40).drop 40).drop 40).drop 40).drop 40).drop 40).drop 40).drop 40).drop 40).drop 40).drop 40).drop 40).drop 40).drop 40).drop 40)).take 40).all (ab_ce mL_law) = true := by decide +kernel
set_option maxRecDepth 100000 in
theorem ckL_law_s23 : ((((((((((((((((((((((((((ab_mo mL_law).drop 40).drop 40).drop 40).drop 40).drop 40).drop 40).drop 40).drop 40).drop 40).drop 40).drop 40).drop 40).drop 40).drop 40).drop 40).drop 40).drop 40).drop 40).drop 40).drop 40).drop 40).drop 40).drop 40)).take 40).all (ab_ce mL_law) = true := by decide +kernel
set_option maxRecDepth 100000 in
theorem ckL_law_s24 : (((((((((((((((((((((((((((ab_mo mL_law).drop 40).drop 40).drop 40).drop 40).drop 40).drop 40).drop 40).drop 40).drop 40).drop 40).drop 40).drop 40).drop 40).drop 40).drop 40).drop 40).drop 40).drop 40).drop 40).drop 40).drop 40).drop 40).drop 40).drop 40)).take 40).all (ab_ce mL_law) = true := by decide +kernel
set_option maxRecDepth 100000 in
theorem ckL_law_s25 : ((((((((((((((((((((((((((((ab_mo mL_law).drop 40).drop 40).drop 40).drop 40).drop 40).drop 40).drop 40).drop 40).drop 40).drop 40).drop 40).drop 40).drop 40).drop 40).drop 40).drop 40).drop 40).drop 40).drop 40).drop 40).drop 40).drop 40).drop 40).drop 40).drop 40)).take 40).all (ab_ce mL_law) = true := by decide +kernel
set_option maxRecDepth 100000 in
theorem ckL_law : (ab_mo mL_law).all (ab_ce mL_law) = true := ab_sp 40 ckL_law_s0 (ab_sp 40 ckL_law_s1 (ab_sp 40 ckL_law_s2 (ab_sp 40 ckL_law_s3 (ab_sp 40 ckL_law_s4 (ab_sp 40 ckL_law_s5 (ab_sp 40 ckL_law_s6 (ab_sp 40 ckL_law_s7 (ab_sp 40 ckL_law_s8 (ab_sp 40 ckL_law_s9 (ab_sp 40 ckL_law_s10 (ab_sp 40 ckL_law_s11 (ab_sp 40 ckL_law_s12 (ab_sp 40 ckL_law_s13 (ab_sp 40 ckL_law_s14 (ab_sp 40 ckL_law_s15 (ab_sp 40 ckL_law_s16 (ab_sp 40 ckL_law_s17 (ab_sp 40 ckL_law_s18 (ab_sp 40 ckL_law_s19 (ab_sp 40 ckL_law_s20 (ab_sp 40 ckL_law_s21 (ab_sp 40 ckL_law_s22 (ab_sp 40 ckL_law_s23 (ab_sp 40 ckL_law_s24 (ab_sp 40 ckL_law_s25 (rfl))))))))))))))))))))))))))
