/-! words of the classes, by program -/
set_option maxRecDepth 100000 in
theorem ab_ly0 : ∀ w ∈ u_ws RX0 TX0 4, w ∈ lw_tbl ∧ goodWord w = true := by decide +kernel
set_option maxRecDepth 100000 in
theorem ab_ly1 : ∀ w ∈ u_ws RX1 TX1 4, w ∈ lw_tbl ∧ goodWord w = true := by decide +kernel
set_option maxRecDepth 100000 in
theorem ab_ly2 : ∀ w ∈ u_ws RX2 TX2 6, w ∈ lw_tbl ∧ goodWord w = true := by decide +kernel
set_option maxRecDepth 100000 in
theorem ab_ly3 : ∀ w ∈ u_ws RX3 TX3 5, w ∈ lw_tbl ∧ goodWord w = true := by decide +kernel
set_option maxRecDepth 100000 in
theorem ab_ly4 : ∀ w ∈ u_ws RX4 TX4 9, w ∈ lw_tbl ∧ goodWord w = true := by decide +kernel
set_option maxRecDepth 100000 in
theorem ab_ly5 : ∀ w ∈ u_ws RX5 TX5 1, w ∈ lw_tbl ∧ goodWord w = true := by decide +kernel
set_option maxRecDepth 100000 in
theorem ab_ly6 : ∀ w ∈ u_ws RX6 TX6 2, w ∈ lw_tbl ∧ goodWord w = true := by decide +kernel
set_option maxRecDepth 100000 in
theorem ab_ly7 : ∀ w ∈ u_ws RX7 TX7 16, w ∈ lw_tbl ∧ goodWord w = true := by decide +kernel
set_option maxRecDepth 100000 in
theorem ab_ly8 : ∀ w ∈ u_ws RX8 TX8 5, w ∈ lw_tbl ∧ goodWord w = true := by decide +kernel
set_option maxRecDepth 100000 in
theorem ab_ly9 : ∀ w ∈ u_ws RX9 TX9 3, w ∈ lw_tbl ∧ goodWord w = true := by decide +kernel
set_option maxRecDepth 100000 in
theorem ab_ly10 : ∀ w ∈ u_ws RX10 TX10 9, w ∈ lw_tbl ∧ goodWord w = true := by decide +kernel
set_option maxRecDepth 100000 in
theorem ab_ly11 : ∀ w ∈ u_ws RX11 TX11 66, w ∈ lw_tbl ∧ goodWord w = true := by decide +kernel
theorem ab_ins0 : ab_at 365 (.instantiable RX0 4) = true ∧ ab_at 109 (.initialized RX0) = true := by decide +kernel
theorem ab_ins1 : ab_at 385 (.instantiable RX1 4) = true ∧ ab_at 110 (.initialized RX1) = true := by decide +kernel
theorem ab_ins2 : ab_at 132 (.instantiable RX2 6) = true ∧ ab_at 100 (.initialized RX2) = true := by decide +kernel
theorem ab_ins3 : ab_at 406 (.instantiable RX3 5) = true ∧ ab_at 111 (.initialized RX3) = true := by decide +kernel
theorem ab_ins4 : ab_at 242 (.instantiable RX4 9) = true ∧ ab_at 102 (.initialized RX4) = true := by decide +kernel
theorem ab_ins5 : ab_at 355 (.instantiable RX5 1) = true ∧ ab_at 108 (.initialized RX5) = true := by decide +kernel
theorem ab_ins6 : ab_at 228 (.instantiable RX6 2) = true ∧ ab_at 101 (.initialized RX6) = true := by decide +kernel
theorem ab_ins7 : ab_at 126 (.instantiable RX7 16) = true ∧ ab_at 99 (.initialized RX7) = true := by decide +kernel
theorem ab_ins8 : ab_at 248 (.instantiable RX8 5) = true ∧ ab_at 103 (.initialized RX8) = true := by decide +kernel
theorem ab_ins9 : ab_at 429 (.instantiable RX9 3) = true ∧ ab_at 112 (.initialized RX9) = true := by decide +kernel
theorem ab_ins10 : ab_at 118 (.instantiable RX10 9) = true ∧ ab_at 98 (.initialized RX10) = true := by decide +kernel
theorem ab_ins11 : ab_at 1246 (.instantiable RX11 66) = true ∧ ab_at 113 (.initialized RX11) = true := by decide +kernel
theorem ab_obj0 : ab_at 123 (.instanceMethod objectInit) = true ∧ ab_at 124 (.code objectInit ⟨#[0xb1]⟩ 1 none) = true := by decide +kernel
theorem ab_arr_int : ab_at 156 (.arrayClass .int) = true := by decide +kernel
theorem ab_arr_long : ab_at 226 (.arrayClass .long) = true := by decide +kernel
theorem ab_arr_byte : ab_at 240 (.arrayClass .byte) = true := by decide +kernel
theorem ab_arr_boolean : ab_at 427 (.arrayClass .boolean) = true := by decide +kernel
theorem ab_st_cs : ab_atN 263 (.laysStatic "java/lang/String" "COMPACT_STRINGS" "Z") = true ∧ ab_at 104 (.initialized "java/lang/String") = true := by decide +kernel
theorem ab_st_fm : ab_atN 279 (.laysStatic "jdk/internal/util/Preconditions" "SIOOBE_FORMATTER" "Ljava/util/function/BiFunction;") = true ∧ ab_at 106 (.initialized "jdk/internal/util/Preconditions") = true := by decide +kernel
theorem ab_sr0 : ab_atN 253 (.stringRef RX8 25 "church road relic pilgrim draws heals gives leave caught seed true copy if then else relics wonders far need gift nights watch years truth ") = true := by decide +kernel
theorem ab_sr1 : ab_atN 586 (.stringRef RX8 88 ";=+-*/<()") = true := by decide +kernel
