/-! the checks of the code tables, 0 -/
set_option maxRecDepth 100000 in
theorem ckX0_init : ab_cm mX0_init (368, 367, 0, 109) = true := by decide +kernel
set_option maxRecDepth 100000 in
theorem ckX0_turnTo : ab_cm mX0_turnTo (478, 476, 477, 109) = true := by decide +kernel
set_option maxRecDepth 100000 in
theorem ckX0_text : ab_cm mX0_text (1041, 1039, 1040, 109) = true := by decide +kernel
set_option maxRecDepth 100000 in
theorem ckX0_writtenFor : ab_cm mX0_writtenFor (1200, 1198, 1199, 109) = true := by decide +kernel
set_option maxRecDepth 100000 in
theorem ckX0_lot : ab_cm mX0_lot (939, 938, 0, 109) = true := by decide +kernel
set_option maxRecDepth 100000 in
theorem ckX0_mixed : ab_cm mX0_mixed (942, 941, 0, 109) = true := by decide +kernel
set_option maxRecDepth 100000 in
theorem ckX0_falls : ab_cm mX0_falls (936, 935, 0, 109) = true := by decide +kernel
set_option maxRecDepth 100000 in
theorem ckX0_lookAt : ab_cm mX0_lookAt (857, 856, 24, 109) = true := by decide +kernel
set_option maxRecDepth 100000 in
theorem ckX0_lookAtPilgrim : ab_cm mX0_lookAtPilgrim (871, 870, 25, 109) = true := by decide +kernel
set_option maxRecDepth 100000 in
theorem ckX0_visitValue : ab_cm mX0_visitValue (853, 851, 852, 109) = true := by decide +kernel
set_option maxRecDepth 100000 in
theorem ckX0_healing : ab_cm mX0_healing (902, 900, 901, 109) = true := by decide +kernel
set_option maxRecDepth 100000 in
theorem ckX0_leaving : ab_cm mX0_leaving (950, 949, 28, 109) = true := by decide +kernel
set_option maxRecDepth 100000 in
theorem ckX0_catching : ab_cm mX0_catching (933, 932, 27, 109) = true := by decide +kernel
set_option maxRecDepth 100000 in
theorem ckX0_goal : ab_cm mX0_goal (979, 977, 978, 109) = true := by decide +kernel
set_option maxRecDepth 100000 in
theorem ckX0_pass : ab_cm mX0_pass (974, 972, 973, 109) = true := by decide +kernel
set_option maxRecDepth 100000 in
theorem ckX0_visit : ab_cm mX0_visit (985, 984, 29, 109) = true := by decide +kernel
set_option maxRecDepth 100000 in
theorem ckX0_tryTheft : ab_cm mX0_tryTheft (920, 918, 919, 109) = true := by decide +kernel
set_option maxRecDepth 100000 in
theorem ckX0_likely : ab_cm mX0_likely (1011, 1009, 1010, 109) = true := by decide +kernel
set_option maxRecDepth 100000 in
theorem ckX0_bestNights : ab_cm mX0_bestNights (1019, 1017, 1018, 109) = true := by decide +kernel
set_option maxRecDepth 100000 in
theorem ckX0_weakest : ab_cm mX0_weakest (1075, 1073, 1074, 109) = true := by decide +kernel
set_option maxRecDepth 100000 in
theorem ckX0_watchersFor : ab_cm mX0_watchersFor (1062, 1060, 1061, 109) = true := by decide +kernel
set_option maxRecDepth 100000 in
theorem ckX1_init : ab_cm mX1_init (388, 387, 0, 110) = true := by decide +kernel
set_option maxRecDepth 100000 in
theorem ckX1_after : ab_cm mX1_after (1089, 1087, 1088, 110) = true := by decide +kernel
set_option maxRecDepth 100000 in
theorem ckX1_more : ab_cm mX1_more (1103, 1101, 1102, 110) = true := by decide +kernel
set_option maxRecDepth 100000 in
theorem ckX1_keepTook : ab_cm mX1_keepTook (1047, 1046, 31, 110) = true := by decide +kernel
set_option maxRecDepth 100000 in
theorem ckX1_tookMoreThanElse : ab_cm mX1_tookMoreThanElse (1053, 1052, 32, 110) = true := by decide +kernel
set_option maxRecDepth 100000 in
theorem ckX1_passWithRelicAt : ab_cm mX1_passWithRelicAt (1032, 1031, 30, 110) = true := by decide +kernel
set_option maxRecDepth 100000 in
theorem ckX1_bestHome : ab_cm mX1_bestHome (1028, 1026, 1027, 110) = true := by decide +kernel
set_option maxRecDepth 100000 in
theorem ckX1_barters : ab_cm mX1_barters (1085, 1083, 1084, 110) = true := by decide +kernel
set_option maxRecDepth 100000 in
theorem ckX1_bothGain : ab_cm mX1_bothGain (1094, 1093, 33, 110) = true := by decide +kernel
set_option maxRecDepth 100000 in
theorem ckX1_richest : ab_cm mX1_richest (1120, 1118, 1119, 110) = true := by decide +kernel
set_option maxRecDepth 100000 in
theorem ckX1_mostFamed : ab_cm mX1_mostFamed (1141, 1139, 1140, 110) = true := by decide +kernel
set_option maxRecDepth 100000 in
theorem ckX1_seedsWithWonder : ab_cm mX1_seedsWithWonder (1149, 1147, 1148, 110) = true := by decide +kernel
set_option maxRecDepth 100000 in
theorem ckX1_hasWonderBy : ab_cm mX1_hasWonderBy (1153, 1152, 34, 110) = true := by decide +kernel
set_option maxRecDepth 100000 in
theorem ckX2_init : ab_cm mX2_init (135, 134, 0, 100) = true := by decide +kernel
