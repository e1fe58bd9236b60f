/-! the checks of the code tables, 4 -/
set_option maxRecDepth 100000 in
theorem ckX10_took : ab_cm mX10_took (1099, 1097, 1098, 98) = true := by decide +kernel
set_option maxRecDepth 100000 in
theorem ckX10_wonders : ab_cm mX10_wonders (1107, 1105, 1106, 98) = true := by decide +kernel
set_option maxRecDepth 100000 in
theorem ckX10_goesIn : ab_cm mX10_goesIn (1111, 1109, 1110, 98) = true := by decide +kernel
set_option maxRecDepth 100000 in
theorem ckX10_rich : ab_cm mX10_rich (1116, 1114, 1115, 98) = true := by decide +kernel
set_option maxRecDepth 100000 in
theorem ckX10_hub : ab_cm mX10_hub (1124, 1122, 1123, 98) = true := by decide +kernel
set_option maxRecDepth 100000 in
theorem ckX10_crowd : ab_cm mX10_crowd (1128, 1126, 1127, 98) = true := by decide +kernel
set_option maxRecDepth 100000 in
theorem ckX10_healed : ab_cm mX10_healed (1133, 1131, 1132, 98) = true := by decide +kernel
set_option maxRecDepth 100000 in
theorem ckX10_famed : ab_cm mX10_famed (1137, 1135, 1136, 98) = true := by decide +kernel
set_option maxRecDepth 100000 in
theorem ckX10_year : ab_cm mX10_year (1145, 1143, 1144, 98) = true := by decide +kernel
set_option maxRecDepth 100000 in
theorem ckX10_belief : ab_cm mX10_belief (1157, 1155, 1156, 98) = true := by decide +kernel
set_option maxRecDepth 100000 in
theorem ckX10_certain : ab_cm mX10_certain (1170, 1168, 1169, 98) = true := by decide +kernel
set_option maxRecDepth 100000 in
theorem ckX10_tell : ab_cm mX10_tell (1175, 1173, 1174, 98) = true := by decide +kernel
set_option maxRecDepth 100000 in
theorem ckX10_forget : ab_cm mX10_forget (1183, 1181, 1182, 98) = true := by decide +kernel
set_option maxRecDepth 100000 in
theorem ckX10_whose : ab_cm mX10_whose (1191, 1189, 1190, 98) = true := by decide +kernel
set_option maxRecDepth 100000 in
theorem ckX10_ask : ab_cm mX10_ask (1204, 1202, 1203, 98) = true := by decide +kernel
set_option maxRecDepth 100000 in
theorem ckX10_hold : ab_cm mX10_hold (1214, 1212, 1213, 98) = true := by decide +kernel
set_option maxRecDepth 100000 in
theorem ckX10_restore : ab_cm mX10_restore (1223, 1221, 1222, 98) = true := by decide +kernel
set_option maxRecDepth 100000 in
theorem ckX10_count : ab_cm mX10_count (1231, 1229, 1230, 98) = true := by decide +kernel
set_option maxRecDepth 100000 in
theorem ckX10_likelyRow : ab_cm mX10_likelyRow (1160, 1159, 0, 98) = true := by decide +kernel
set_option maxRecDepth 100000 in
theorem ckX10_commonDivisor : ab_cm mX10_commonDivisor (1163, 1162, 0, 98) = true := by decide +kernel
set_option maxRecDepth 100000 in
theorem ckX10_isWithin : ab_cm mX10_isWithin (470, 469, 0, 98) = true := by decide +kernel
set_option maxRecDepth 100000 in
theorem ckX10_heldTo : ab_cm mX10_heldTo (891, 890, 0, 98) = true := by decide +kernel
