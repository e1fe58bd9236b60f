/-! the checks of the code tables, f1 -/
set_option maxRecDepth 100000 in
theorem ckX11_init_s10 : (((((((((((((ab_mo mX11_init).drop 40).drop 40).drop 40).drop 40).drop 40).drop 40).drop 40).drop 40).drop 40).drop 40)).take 40).all (ab_ce mX11_init) = true := by decide +kernel
set_option maxRecDepth 100000 in
theorem ckX11_init_s11 : ((((((((((((((ab_mo mX11_init).drop 40).drop 40).drop 40).drop 40).drop 40).drop 40).drop 40).drop 40).drop 40).drop 40).drop 40)).take 40).all (ab_ce mX11_init) = true := by decide +kernel
set_option maxRecDepth 100000 in
theorem zwX11_init : lw_tbl[1249]? = some (.code (ab_my mX11_init) (ab_mb mX11_init) (ab_ml mX11_init) (ab_mr mX11_init)) := by rfl
set_option maxRecDepth 100000 in
theorem ckX11_init : ab_cm mX11_init (1249, 1248, 0, 113) = true := ab_cm_of2 zwX11_init (by decide +kernel) (ab_sp 40 ckX11_init_s0 (ab_sp 40 ckX11_init_s1 (ab_sp 40 ckX11_init_s2 (ab_sp 40 ckX11_init_s3 (ab_sp 40 ckX11_init_s4 (ab_sp 40 ckX11_init_s5 (ab_sp 40 ckX11_init_s6 (ab_sp 40 ckX11_init_s7 (ab_sp 40 ckX11_init_s8 (ab_sp 40 ckX11_init_s9 (ab_sp 40 ckX11_init_s10 (ab_sp 40 ckX11_init_s11 (rfl)))))))))))))
set_option maxRecDepth 100000 in
theorem ckX11_feed : ab_cm mX11_feed (1471, 1469, 1470, 113) = true := by decide +kernel
set_option maxRecDepth 100000 in
theorem ckX11_put : ab_cm mX11_put (1475, 1474, 38, 113) = true := by decide +kernel
set_option maxRecDepth 100000 in
theorem ckX11_back : ab_cm mX11_back (1479, 1477, 1478, 113) = true := by decide +kernel
set_option maxRecDepth 100000 in
theorem ckX11_byteAt : ab_cm mX11_byteAt (1491, 1490, 40, 113) = true := by decide +kernel
set_option maxRecDepth 100000 in
theorem ckX11_isDigit : ab_cm mX11_isDigit (1501, 1500, 0, 113) = true := by decide +kernel
set_option maxRecDepth 100000 in
theorem ckX11_isLetter : ab_cm mX11_isLetter (1498, 1497, 0, 113) = true := by decide +kernel
set_option maxRecDepth 100000 in
theorem ckX11_appends : ab_cm mX11_appends (1260, 1259, 0, 113) = true := by decide +kernel
set_option maxRecDepth 100000 in
theorem ckX11_word : ab_cm mX11_word (1257, 1256, 0, 113) = true := by decide +kernel
set_option maxRecDepth 100000 in
theorem ckX11_token : ab_cm mX11_token (1495, 1494, 41, 113) = true := by decide +kernel
set_option maxRecDepth 100000 in
theorem ckX11_cut_s0 : (((ab_mo mX11_cut)).take 40).all (ab_ce mX11_cut) = true := by decide +kernel
set_option maxRecDepth 100000 in
theorem ckX11_cut_s1 : ((((ab_mo mX11_cut).drop 40)).take 40).all (ab_ce mX11_cut) = true := by decide +kernel
set_option maxRecDepth 100000 in
theorem ckX11_cut_s2 : (((((ab_mo mX11_cut).drop 40).drop 40)).take 40).all (ab_ce mX11_cut) = true := by decide +kernel
set_option maxRecDepth 100000 in
theorem ckX11_cut_s3 : ((((((ab_mo mX11_cut).drop 40).drop 40).drop 40)).take 40).all (ab_ce mX11_cut) = true := by decide +kernel
set_option maxRecDepth 100000 in
theorem ckX11_cut_s4 : (((((((ab_mo mX11_cut).drop 40).drop 40).drop 40).drop 40)).take 40).all (ab_ce mX11_cut) = true := by decide +kernel
set_option maxRecDepth 100000 in
theorem ckX11_cut : ab_cm mX11_cut (1487, 1486, 39, 113) = true := ab_cm_of (by decide +kernel) (ab_sp 40 ckX11_cut_s0 (ab_sp 40 ckX11_cut_s1 (ab_sp 40 ckX11_cut_s2 (ab_sp 40 ckX11_cut_s3 (ab_sp 40 ckX11_cut_s4 (rfl))))))
set_option maxRecDepth 100000 in
theorem ckX11_sign : ab_cm mX11_sign (1505, 1504, 42, 113) = true := by decide +kernel
set_option maxRecDepth 100000 in
theorem ckX11_is : ab_cm mX11_is (1509, 1508, 43, 113) = true := by decide +kernel
set_option maxRecDepth 100000 in
theorem ckX11_fail : ab_cm mX11_fail (1521, 1520, 46, 113) = true := by decide +kernel
set_option maxRecDepth 100000 in
theorem ckX11_wrong : ab_cm mX11_wrong (1537, 1536, 50, 113) = true := by decide +kernel
set_option maxRecDepth 100000 in
theorem ckX11_goesOn : ab_cm mX11_goesOn (1525, 1524, 47, 113) = true := by decide +kernel
set_option maxRecDepth 100000 in
theorem ckX11_must : ab_cm mX11_must (1533, 1532, 49, 113) = true := by decide +kernel
set_option maxRecDepth 100000 in
theorem ckX11_plain : ab_cm mX11_plain (1254, 1253, 35, 113) = true := by decide +kernel
set_option maxRecDepth 100000 in
theorem ckX11_read_s0 : (((ab_mo mX11_read)).take 40).all (ab_ce mX11_read) = true := by decide +kernel
set_option maxRecDepth 100000 in
theorem ckX11_read_s1 : ((((ab_mo mX11_read).drop 40)).take 40).all (ab_ce mX11_read) = true := by decide +kernel
set_option maxRecDepth 100000 in
theorem ckX11_read_s2 : (((((ab_mo mX11_read).drop 40).drop 40)).take 40).all (ab_ce mX11_read) = true := by decide +kernel
set_option maxRecDepth 100000 in
theorem ckX11_read_s3 : ((((((ab_mo mX11_read).drop 40).drop 40).drop 40)).take 40).all (ab_ce mX11_read) = true := by decide +kernel
set_option maxRecDepth 100000 in
theorem ckX11_read : ab_cm mX11_read (1483, 1481, 1482, 113) = true := ab_cm_of (by decide +kernel) (ab_sp 40 ckX11_read_s0 (ab_sp 40 ckX11_read_s1 (ab_sp 40 ckX11_read_s2 (ab_sp 40 ckX11_read_s3 (rfl)))))
set_option maxRecDepth 100000 in
theorem ckX11_place : ab_cm mX11_place (1593, 1591, 1592, 113) = true := by decide +kernel
set_option maxRecDepth 100000 in
theorem ckX11_roomFor : ab_cm mX11_roomFor (1517, 1516, 45, 113) = true := by decide +kernel
