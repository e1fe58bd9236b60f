/-! the checks of the code tables, 2 -/
set_option maxRecDepth 100000 in
theorem ckX4_readIf : ab_cm mX4_readIf (762, 761, 20, 102) = true := by decide +kernel
set_option maxRecDepth 100000 in
theorem ckX4_readSum : ab_cm mX4_readSum (766, 765, 21, 102) = true := by decide +kernel
set_option maxRecDepth 100000 in
theorem ckX4_readUnit : ab_cm mX4_readUnit (770, 769, 22, 102) = true := by decide +kernel
set_option maxRecDepth 100000 in
theorem ckX5_init : ab_cm mX5_init (358, 357, 0, 108) = true := by decide +kernel
set_option maxRecDepth 100000 in
theorem ckX5_get : ab_cm mX5_get (467, 465, 466, 108) = true := by decide +kernel
set_option maxRecDepth 100000 in
theorem ckX5_set : ab_cm mX5_set (474, 472, 473, 108) = true := by decide +kernel
set_option maxRecDepth 100000 in
theorem ckX5_add : ab_cm mX5_add (924, 922, 923, 108) = true := by decide +kernel
set_option maxRecDepth 100000 in
theorem ckX5_total : ab_cm mX5_total (1236, 1234, 1235, 108) = true := by decide +kernel
set_option maxRecDepth 100000 in
theorem ckX5_move : ab_cm mX5_move (463, 461, 462, 108) = true := by decide +kernel
set_option maxRecDepth 100000 in
theorem ckX5_exchange : ab_cm mX5_exchange (960, 958, 959, 108) = true := by decide +kernel
set_option maxRecDepth 100000 in
theorem ckX5_begin : ab_cm mX5_begin (451, 449, 450, 108) = true := by decide +kernel
set_option maxRecDepth 100000 in
theorem ckX5_copyOf : ab_cm mX5_copyOf (1036, 1034, 1035, 108) = true := by decide +kernel
set_option maxRecDepth 100000 in
theorem ckX5_writeTo : ab_cm mX5_writeTo (915, 913, 914, 108) = true := by decide +kernel
set_option maxRecDepth 100000 in
theorem ckX5_readFrom : ab_cm mX5_readFrom (998, 996, 997, 108) = true := by decide +kernel
set_option maxRecDepth 100000 in
theorem ckX6_init : ab_cm mX6_init (231, 230, 0, 101) = true := by decide +kernel
set_option maxRecDepth 100000 in
theorem ckX6_length : ab_cm mX6_length (522, 520, 521, 101) = true := by decide +kernel
set_option maxRecDepth 100000 in
theorem ckX6_append : ab_cm mX6_append (526, 524, 525, 101) = true := by decide +kernel
set_option maxRecDepth 100000 in
theorem ckX6_cutTo : ab_cm mX6_cutTo (534, 532, 533, 101) = true := by decide +kernel
set_option maxRecDepth 100000 in
theorem ckX6_at : ab_cm mX6_at (556, 554, 555, 101) = true := by decide +kernel
set_option maxRecDepth 100000 in
theorem ckX7_init : ab_cm mX7_init (129, 128, 0, 99) = true := by decide +kernel
set_option maxRecDepth 100000 in
theorem ckX7_clear : ab_cm mX7_clear (160, 158, 159, 99) = true := by decide +kernel
set_option maxRecDepth 100000 in
theorem ckX7_laws : ab_cm mX7_laws (325, 323, 324, 99) = true := by decide +kernel
set_option maxRecDepth 100000 in
theorem ckX7_churches : ab_cm mX7_churches (660, 658, 659, 99) = true := by decide +kernel
set_option maxRecDepth 100000 in
theorem ckX7_roads : ab_cm mX7_roads (701, 699, 700, 99) = true := by decide +kernel
set_option maxRecDepth 100000 in
theorem ckX7_relics : ab_cm mX7_relics (729, 727, 728, 99) = true := by decide +kernel
set_option maxRecDepth 100000 in
theorem ckX7_trueRelics : ab_cm mX7_trueRelics (806, 804, 805, 99) = true := by decide +kernel
set_option maxRecDepth 100000 in
theorem ckX7_pilgrims : ab_cm mX7_pilgrims (741, 739, 740, 99) = true := by decide +kernel
set_option maxRecDepth 100000 in
theorem ckX7_seed : ab_cm mX7_seed (928, 926, 927, 99) = true := by decide +kernel
set_option maxRecDepth 100000 in
theorem ckX7_hasChurch : ab_cm mX7_hasChurch (721, 719, 720, 99) = true := by decide +kernel
set_option maxRecDepth 100000 in
theorem ckX7_hasRelic : ab_cm mX7_hasRelic (820, 818, 819, 99) = true := by decide +kernel
set_option maxRecDepth 100000 in
theorem ckX7_hasPilgrim : ab_cm mX7_hasPilgrim (832, 830, 831, 99) = true := by decide +kernel
set_option maxRecDepth 100000 in
theorem ckX7_truth : ab_cm mX7_truth (824, 822, 823, 99) = true := by decide +kernel
set_option maxRecDepth 100000 in
theorem ckX7_watchersOf : ab_cm mX7_watchersOf (455, 453, 454, 99) = true := by decide +kernel
set_option maxRecDepth 100000 in
theorem ckX7_churchOf : ab_cm mX7_churchOf (459, 457, 458, 99) = true := by decide +kernel
set_option maxRecDepth 100000 in
theorem ckX7_home : ab_cm mX7_home (836, 834, 835, 99) = true := by decide +kernel
set_option maxRecDepth 100000 in
theorem ckX7_needOf : ab_cm mX7_needOf (840, 838, 839, 99) = true := by decide +kernel
set_option maxRecDepth 100000 in
theorem ckX7_giftOf : ab_cm mX7_giftOf (844, 842, 843, 99) = true := by decide +kernel
set_option maxRecDepth 100000 in
theorem ckX7_far : ab_cm mX7_far (713, 711, 712, 99) = true := by decide +kernel
set_option maxRecDepth 100000 in
theorem ckX7_churchNamed : ab_cm mX7_churchNamed (709, 707, 708, 99) = true := by decide +kernel
set_option maxRecDepth 100000 in
theorem ckX7_addName : ab_cm mX7_addName (680, 678, 679, 99) = true := by decide +kernel
set_option maxRecDepth 100000 in
theorem ckX7_addChurch : ab_cm mX7_addChurch (693, 691, 692, 99) = true := by decide +kernel
set_option maxRecDepth 100000 in
theorem ckX7_addRoad : ab_cm mX7_addRoad (717, 715, 716, 99) = true := by decide +kernel
set_option maxRecDepth 100000 in
theorem ckX7_addRelic : ab_cm mX7_addRelic (733, 731, 732, 99) = true := by decide +kernel
set_option maxRecDepth 100000 in
theorem ckX7_addPilgrim : ab_cm mX7_addPilgrim (745, 743, 744, 99) = true := by decide +kernel
set_option maxRecDepth 100000 in
theorem ckX7_sow : ab_cm mX7_sow (753, 751, 752, 99) = true := by decide +kernel
set_option maxRecDepth 100000 in
theorem ckX7_joinRoads : ab_cm mX7_joinRoads (783, 781, 782, 99) = true := by decide +kernel
set_option maxRecDepth 100000 in
theorem ckX8_init : ab_cm mX8_init (251, 250, 0, 103) = true := by decide +kernel
set_option maxRecDepth 100000 in
theorem ckX8_withLetter : ab_cm mX8_withLetter (304, 303, 0, 103) = true := by decide +kernel
set_option maxRecDepth 100000 in
theorem ckX8_isLetter : ab_cm mX8_isLetter (566, 565, 0, 103) = true := by decide +kernel
set_option maxRecDepth 100000 in
theorem ckX8_isDigit : ab_cm mX8_isDigit (581, 580, 0, 103) = true := by decide +kernel
set_option maxRecDepth 100000 in
theorem ckX8_isBlank : ab_cm mX8_isBlank (559, 558, 0, 103) = true := by decide +kernel
