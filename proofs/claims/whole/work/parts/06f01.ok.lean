/-! the checks of the code tables, f1 -/
set_option maxRecDepth 100000 in
theorem ckX11_init_s6 : (((((((((ab_mo mX11_init).drop 40).drop 40).drop 40).drop 40).drop 40).drop 40)).take 40).all (ab_ce mX11_init) = true := by decide +kernel
set_option maxRecDepth 100000 in
theorem ckX11_init_s7 : ((((((((((ab_mo mX11_init).drop 40).drop 40).drop 40).drop 40).drop 40).drop 40).drop 40)).take 40).all (ab_ce mX11_init) = true := by decide +kernel
set_option maxRecDepth 100000 in
theorem ckX11_init_s8 : (((((((((((ab_mo mX11_init).drop 40).drop 40).drop 40).drop 40).drop 40).drop 40).drop 40).drop 40)).take 40).all (ab_ce mX11_init) = true := by decide +kernel
set_option maxRecDepth 100000 in
theorem ckX11_init_s9 : ((((((((((((ab_mo mX11_init).drop 40).drop 40).drop 40).drop 40).drop 40).drop 40).drop 40).drop 40).drop 40)).take 40).all (ab_ce mX11_init) = true := by decide +kernel
set_option maxRecDepth 100000 in
theorem ckX11_init_s10 : (((((((((((((ab_mo mX11_init).drop 40).drop 40).drop 40).drop 40).drop 40).drop 40).drop 40).drop 40).drop 40).drop 40)).take 40).all (ab_ce mX11_init) = true := by decide +kernel
set_option maxRecDepth 100000 in
theorem ckX11_init_s11 : ((((((((((((((ab_mo mX11_init).drop 40).drop 40).drop 40).drop 40).drop 40).drop 40).drop 40).drop 40).drop 40).drop 40).drop 40)).take 40).all (ab_ce mX11_init) = true := by decide +kernel
