/-! the checks of the code tables, 3 -/
set_option maxRecDepth 100000 in
theorem ckX8_kindAt : ab_cm mX8_kindAt (650, 648, 649, 103) = true := by decide +kernel
set_option maxRecDepth 100000 in
theorem ckX8_placeAt : ab_cm mX8_placeAt (788, 786, 787, 103) = true := by decide +kernel
set_option maxRecDepth 100000 in
theorem ckX8_valueAt : ab_cm mX8_valueAt (676, 674, 675, 103) = true := by decide +kernel
set_option maxRecDepth 100000 in
theorem ckX8_scan : ab_cm mX8_scan (551, 549, 550, 103) = true := by decide +kernel
set_option maxRecDepth 100000 in
theorem ckX8_addToken : ab_cm mX8_addToken (563, 562, 3, 103) = true := by decide +kernel
set_option maxRecDepth 100000 in
theorem ckX8_addLetters : ab_cm mX8_addLetters (570, 569, 4, 103) = true := by decide +kernel
set_option maxRecDepth 100000 in
theorem ckX8_addDigits : ab_cm mX8_addDigits (585, 584, 7, 103) = true := by decide +kernel
set_option maxRecDepth 100000 in
theorem ckX8_wordKind : ab_cm mX8_wordKind (574, 573, 5, 103) = true := by decide +kernel
set_option maxRecDepth 100000 in
theorem ckX8_put : ab_cm mX8_put (578, 577, 6, 103) = true := by decide +kernel
set_option maxRecDepth 100000 in
theorem ckX9_init : ab_cm mX9_init (432, 431, 0, 112) = true := by decide +kernel
set_option maxRecDepth 100000 in
theorem ckX9_clear : ab_cm mX9_clear (486, 484, 485, 112) = true := by decide +kernel
set_option maxRecDepth 100000 in
theorem ckX9_size : ab_cm mX9_size (1187, 1185, 1186, 112) = true := by decide +kernel
set_option maxRecDepth 100000 in
theorem ckX9_add : ab_cm mX9_add (1179, 1177, 1178, 112) = true := by decide +kernel
set_option maxRecDepth 100000 in
theorem ckX9_relicsLeft : ab_cm mX9_relicsLeft (1196, 1194, 1195, 112) = true := by decide +kernel
set_option maxRecDepth 100000 in
theorem ckX9_bestToAsk : ab_cm mX9_bestToAsk (1208, 1206, 1207, 112) = true := by decide +kernel
set_option maxRecDepth 100000 in
theorem ckX10_init : ab_cm mX10_init (121, 120, 0, 98) = true := by decide +kernel
set_option maxRecDepth 100000 in
theorem ckX10_feed : ab_cm mX10_feed (518, 516, 517, 98) = true := by decide +kernel
set_option maxRecDepth 100000 in
theorem ckX10_back : ab_cm mX10_back (530, 528, 529, 98) = true := by decide +kernel
set_option maxRecDepth 100000 in
theorem ckX10_read : ab_cm mX10_read (539, 537, 538, 98) = true := by decide +kernel
set_option maxRecDepth 100000 in
theorem ckX10_startText : ab_cm mX10_startText (447, 446, 1, 98) = true := by decide +kernel
set_option maxRecDepth 100000 in
theorem ckX10_place : ab_cm mX10_place (792, 790, 791, 98) = true := by decide +kernel
set_option maxRecDepth 100000 in
theorem ckX10_church : ab_cm mX10_church (800, 798, 799, 98) = true := by decide +kernel
set_option maxRecDepth 100000 in
theorem ckX10_relic : ab_cm mX10_relic (816, 814, 815, 98) = true := by decide +kernel
set_option maxRecDepth 100000 in
theorem ckX10_pilgrim : ab_cm mX10_pilgrim (828, 826, 827, 98) = true := by decide +kernel
set_option maxRecDepth 100000 in
theorem ckX10_tells : ab_cm mX10_tells (848, 846, 847, 98) = true := by decide +kernel
set_option maxRecDepth 100000 in
theorem ckX10_heals : ab_cm mX10_heals (898, 896, 897, 98) = true := by decide +kernel
set_option maxRecDepth 100000 in
theorem ckX10_steal : ab_cm mX10_steal (906, 904, 905, 98) = true := by decide +kernel
set_option maxRecDepth 100000 in
theorem ckX10_swap : ab_cm mX10_swap (956, 954, 955, 98) = true := by decide +kernel
set_option maxRecDepth 100000 in
theorem ckX10_watch : ab_cm mX10_watch (964, 962, 963, 98) = true := by decide +kernel
set_option maxRecDepth 100000 in
theorem ckX10_years : ab_cm mX10_years (969, 967, 968, 98) = true := by decide +kernel
set_option maxRecDepth 100000 in
theorem ckX10_undo : ab_cm mX10_undo (990, 988, 989, 98) = true := by decide +kernel
set_option maxRecDepth 100000 in
theorem ckX10_goes : ab_cm mX10_goes (1002, 1000, 1001, 98) = true := by decide +kernel
set_option maxRecDepth 100000 in
theorem ckX10_theft : ab_cm mX10_theft (1007, 1005, 1006, 98) = true := by decide +kernel
set_option maxRecDepth 100000 in
theorem ckX10_nights : ab_cm mX10_nights (1015, 1013, 1014, 98) = true := by decide +kernel
set_option maxRecDepth 100000 in
theorem ckX10_worth : ab_cm mX10_worth (1024, 1022, 1023, 98) = true := by decide +kernel
set_option maxRecDepth 100000 in
theorem ckX10_guard : ab_cm mX10_guard (1058, 1056, 1057, 98) = true := by decide +kernel
set_option maxRecDepth 100000 in
theorem ckX10_guards : ab_cm mX10_guards (1066, 1064, 1065, 98) = true := by decide +kernel
set_option maxRecDepth 100000 in
theorem ckX10_weak : ab_cm mX10_weak (1071, 1069, 1070, 98) = true := by decide +kernel
set_option maxRecDepth 100000 in
theorem ckX10_barter : ab_cm mX10_barter (1081, 1079, 1080, 98) = true := by decide +kernel
