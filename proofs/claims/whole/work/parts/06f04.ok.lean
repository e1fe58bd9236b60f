/-! the checks of the code tables, f4 -/
set_option maxRecDepth 100000 in
theorem ckX11_famed : ab_cm mX11_famed (1842, 1840, 1841, 113) = true := by decide +kernel
set_option maxRecDepth 100000 in
theorem ckX11_year : ab_cm mX11_year (1846, 1844, 1845, 113) = true := by decide +kernel
set_option maxRecDepth 100000 in
theorem ckX11_rowOdds : ab_cm mX11_rowOdds (1857, 1856, 0, 113) = true := by decide +kernel
set_option maxRecDepth 100000 in
theorem ckX11_fillsBelief : ab_cm mX11_fillsBelief (1854, 1853, 94, 113) = true := by decide +kernel
set_option maxRecDepth 100000 in
theorem ckX11_belief : ab_cm mX11_belief (1850, 1848, 1849, 113) = true := by decide +kernel
set_option maxRecDepth 100000 in
theorem ckX11_certain : ab_cm mX11_certain (1861, 1859, 1860, 113) = true := by decide +kernel
set_option maxRecDepth 100000 in
theorem ckX11_tell : ab_cm mX11_tell (1866, 1864, 1865, 113) = true := by decide +kernel
set_option maxRecDepth 100000 in
theorem ckX11_forget : ab_cm mX11_forget (1870, 1868, 1869, 113) = true := by decide +kernel
set_option maxRecDepth 100000 in
theorem ckX11_whoseBits : ab_cm mX11_whoseBits (1878, 1877, 95, 113) = true := by decide +kernel
set_option maxRecDepth 100000 in
theorem ckX11_bits : ab_cm mX11_bits (1881, 1880, 0, 113) = true := by decide +kernel
set_option maxRecDepth 100000 in
theorem ckX11_whose : ab_cm mX11_whose (1874, 1872, 1873, 113) = true := by decide +kernel
set_option maxRecDepth 100000 in
theorem ckX11_ask : ab_cm mX11_ask (1885, 1883, 1884, 113) = true := by decide +kernel
set_option maxRecDepth 100000 in
theorem ckX11_hold : ab_cm mX11_hold (1889, 1887, 1888, 113) = true := by decide +kernel
set_option maxRecDepth 100000 in
theorem ckX11_restore : ab_cm mX11_restore (1893, 1891, 1892, 113) = true := by decide +kernel
set_option maxRecDepth 100000 in
theorem ckX11_sumNow : ab_cm mX11_sumNow (1901, 1900, 96, 113) = true := by decide +kernel
set_option maxRecDepth 100000 in
theorem ckX11_count_s0 : (((ab_mo mX11_count)).take 40).all (ab_ce mX11_count) = true := by decide +kernel
set_option maxRecDepth 100000 in
theorem ckX11_count_s1 : ((((ab_mo mX11_count).drop 40)).take 40).all (ab_ce mX11_count) = true := by decide +kernel
set_option maxRecDepth 100000 in
theorem ckX11_count_s2 : (((((ab_mo mX11_count).drop 40).drop 40)).take 40).all (ab_ce mX11_count) = true := by decide +kernel
set_option maxRecDepth 100000 in
theorem ckX11_count_s3 : ((((((ab_mo mX11_count).drop 40).drop 40).drop 40)).take 40).all (ab_ce mX11_count) = true := by decide +kernel
set_option maxRecDepth 100000 in
theorem ckX11_count : ab_cm mX11_count (1897, 1895, 1896, 113) = true := ab_cm_of (by decide +kernel) (ab_sp 40 ckX11_count_s0 (ab_sp 40 ckX11_count_s1 (ab_sp 40 ckX11_count_s2 (ab_sp 40 ckX11_count_s3 (rfl)))))
set_option maxRecDepth 100000 in
theorem ckJ6_bitCount_0f7a4 : ab_cm mJ6_bitCount_0f7a4 (809, 808, 0, 116) = true := by decide +kernel
set_option maxRecDepth 100000 in
theorem ckJ0_length_8abf5 : ab_cm mJ0_length_8abf5 (257, 255, 256, 104) = true := by decide +kernel
set_option maxRecDepth 100000 in
theorem ckJ0_charAt_5068e : ab_cm mJ0_charAt_5068e (267, 265, 266, 104) = true := by decide +kernel
set_option maxRecDepth 100000 in
theorem ckJ0_indexOf_0f7a4 : ab_cm mJ0_indexOf_0f7a4 (590, 588, 589, 104) = true := by decide +kernel
set_option maxRecDepth 100000 in
theorem ckJ0_indexOf_7cf53 : ab_cm mJ0_indexOf_7cf53 (594, 592, 593, 104) = true := by decide +kernel
set_option maxRecDepth 100000 in
theorem ckJ0_coder_7d493 : ab_cm mJ0_coder_7d493 (261, 259, 260, 104) = true := by decide +kernel
set_option maxRecDepth 100000 in
theorem ckJ0_isLatin1_aae02 : ab_cm mJ0_isLatin1_aae02 (271, 269, 270, 104) = true := by decide +kernel
set_option maxRecDepth 100000 in
theorem ckJ0_checkIndex_df160 : ab_cm mJ0_checkIndex_df160 (277, 276, 0, 104) = true := by decide +kernel
set_option maxRecDepth 100000 in
theorem ckJ1_charAt_3b067 : ab_cm mJ1_charAt_3b067 (274, 273, 0, 105) = true := by decide +kernel
set_option maxRecDepth 100000 in
theorem ckJ1_canEncode_9a6ad : ab_cm mJ1_canEncode_9a6ad (601, 600, 0, 105) = true := by decide +kernel
set_option maxRecDepth 100000 in
theorem ckJ1_indexOf_4cfef : ab_cm mJ1_indexOf_4cfef (598, 597, 0, 105) = true := by decide +kernel
set_option maxRecDepth 100000 in
theorem ckJ1_indexOfChar_4cfef : ab_cm mJ1_indexOfChar_4cfef (610, 609, 0, 105) = true := by decide +kernel
set_option maxRecDepth 100000 in
theorem ckJ3_checkIndex_8e157 : ab_cm mJ3_checkIndex_8e157 (282, 281, 0, 106) = true := by decide +kernel
set_option maxRecDepth 100000 in
theorem ckL_law_s0 : (((ab_mo mL_law)).take 40).all (ab_ce mL_law) = true := by decide +kernel
set_option maxRecDepth 100000 in
theorem ckL_law_s1 : ((((ab_mo mL_law).drop 40)).take 40).all (ab_ce mL_law) = true := by decide +kernel
set_option maxRecDepth 100000 in
theorem ckL_law_s2 : (((((ab_mo mL_law).drop 40).drop 40)).take 40).all (ab_ce mL_law) = true := by decide +kernel
