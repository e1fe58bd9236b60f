/-! the checks of the code tables, 1 -/
set_option maxRecDepth 100000 in
theorem ckX2_clear : ab_cm mX2_clear (164, 162, 163, 100) = true := by decide +kernel
set_option maxRecDepth 100000 in
theorem ckX2_beginTimes : ab_cm mX2_beginTimes (176, 175, 0, 100) = true := by decide +kernel
set_option maxRecDepth 100000 in
theorem ckX2_begin : ab_cm mX2_begin (168, 166, 167, 100) = true := by decide +kernel
set_option maxRecDepth 100000 in
theorem ckX2_emit : ab_cm mX2_emit (172, 170, 171, 100) = true := by decide +kernel
set_option maxRecDepth 100000 in
theorem ckX2_aimHere : ab_cm mX2_aimHere (775, 773, 774, 100) = true := by decide +kernel
set_option maxRecDepth 100000 in
theorem ckX2_clearVars : ab_cm mX2_clearVars (861, 859, 860, 100) = true := by decide +kernel
set_option maxRecDepth 100000 in
theorem ckX2_setVar : ab_cm mX2_setVar (867, 865, 866, 100) = true := by decide +kernel
set_option maxRecDepth 100000 in
theorem ckX2_varOf : ab_cm mX2_varOf (885, 884, 26, 100) = true := by decide +kernel
set_option maxRecDepth 100000 in
theorem ckX2_value : ab_cm mX2_value (880, 878, 879, 100) = true := by decide +kernel
set_option maxRecDepth 100000 in
theorem ckX2_worked : ab_cm mX2_worked (888, 887, 0, 100) = true := by decide +kernel
set_option maxRecDepth 100000 in
theorem ckX3_init : ab_cm mX3_init (409, 408, 0, 111) = true := by decide +kernel
set_option maxRecDepth 100000 in
theorem ckX3_clear : ab_cm mX3_clear (482, 480, 481, 111) = true := by decide +kernel
set_option maxRecDepth 100000 in
theorem ckX3_size : ab_cm mX3_size (1240, 1238, 1239, 111) = true := by decide +kernel
set_option maxRecDepth 100000 in
theorem ckX3_slotsHeld : ab_cm mX3_slotsHeld (1244, 1242, 1243, 111) = true := by decide +kernel
set_option maxRecDepth 100000 in
theorem ckX3_keep : ab_cm mX3_keep (911, 909, 910, 111) = true := by decide +kernel
set_option maxRecDepth 100000 in
theorem ckX3_takeBack : ab_cm mX3_takeBack (994, 992, 993, 111) = true := by decide +kernel
set_option maxRecDepth 100000 in
theorem ckX3_putInSlot : ab_cm mX3_putInSlot (1218, 1216, 1217, 111) = true := by decide +kernel
set_option maxRecDepth 100000 in
theorem ckX3_takeFromSlot : ab_cm mX3_takeFromSlot (1227, 1225, 1226, 111) = true := by decide +kernel
set_option maxRecDepth 100000 in
theorem ckX4_init : ab_cm mX4_init (245, 244, 0, 102) = true := by decide +kernel
set_option maxRecDepth 100000 in
theorem ckX4_faultPlace : ab_cm mX4_faultPlace (796, 794, 795, 102) = true := by decide +kernel
set_option maxRecDepth 100000 in
theorem ckX4_readInto : ab_cm mX4_readInto (543, 541, 542, 102) = true := by decide +kernel
set_option maxRecDepth 100000 in
theorem ckX4_begin : ab_cm mX4_begin (547, 546, 2, 102) = true := by decide +kernel
set_option maxRecDepth 100000 in
theorem ckX4_settle : ab_cm mX4_settle (779, 778, 23, 102) = true := by decide +kernel
set_option maxRecDepth 100000 in
theorem ckX4_take : ab_cm mX4_take (668, 667, 10, 102) = true := by decide +kernel
set_option maxRecDepth 100000 in
theorem ckX4_refuse : ab_cm mX4_refuse (664, 663, 9, 102) = true := by decide +kernel
set_option maxRecDepth 100000 in
theorem ckX4_refuseLate : ab_cm mX4_refuseLate (684, 683, 12, 102) = true := by decide +kernel
set_option maxRecDepth 100000 in
theorem ckX4_readChurch : ab_cm mX4_readChurch (656, 655, 8, 102) = true := by decide +kernel
set_option maxRecDepth 100000 in
theorem ckX4_readRoad : ab_cm mX4_readRoad (697, 696, 14, 102) = true := by decide +kernel
set_option maxRecDepth 100000 in
theorem ckX4_readRelic : ab_cm mX4_readRelic (725, 724, 16, 102) = true := by decide +kernel
set_option maxRecDepth 100000 in
theorem ckX4_readPilgrim : ab_cm mX4_readPilgrim (737, 736, 17, 102) = true := by decide +kernel
set_option maxRecDepth 100000 in
theorem ckX4_readSeed : ab_cm mX4_readSeed (749, 748, 18, 102) = true := by decide +kernel
set_option maxRecDepth 100000 in
theorem ckX4_addName : ab_cm mX4_addName (672, 671, 11, 102) = true := by decide +kernel
set_option maxRecDepth 100000 in
theorem ckX4_churchAt : ab_cm mX4_churchAt (705, 704, 15, 102) = true := by decide +kernel
set_option maxRecDepth 100000 in
theorem ckX4_numberAt : ab_cm mX4_numberAt (688, 687, 13, 102) = true := by decide +kernel
set_option maxRecDepth 100000 in
theorem ckX4_readLaw : ab_cm mX4_readLaw (757, 756, 19, 102) = true := by decide +kernel
