/-! ===== printed by program: words by their places ===== -/
set_option maxRecDepth 100000 in
theorem wz_L : Cond.initialized RL ∈ lw_tbl := List.mem_of_getElem? (i := 67) rfl
set_option maxRecDepth 100000 in
theorem wz_X8 : Cond.initialized RX8 ∈ lw_tbl := List.mem_of_getElem? (i := 68) rfl
set_option maxRecDepth 100000 in
theorem wz_X4 : Cond.initialized RX4 ∈ lw_tbl := List.mem_of_getElem? (i := 69) rfl
set_option maxRecDepth 100000 in
theorem wz_X6 : Cond.initialized RX6 ∈ lw_tbl := List.mem_of_getElem? (i := 70) rfl
set_option maxRecDepth 100000 in
theorem wz_X5 : Cond.initialized RX5 ∈ lw_tbl := List.mem_of_getElem? (i := 71) rfl
set_option maxRecDepth 100000 in
theorem wz_X0 : Cond.initialized RX0 ∈ lw_tbl := List.mem_of_getElem? (i := 73) rfl
set_option maxRecDepth 100000 in
theorem wz_X1 : Cond.initialized RX1 ∈ lw_tbl := List.mem_of_getElem? (i := 74) rfl
set_option maxRecDepth 100000 in
theorem wz_X7 : Cond.initialized RX7 ∈ lw_tbl := List.mem_of_getElem? (i := 75) rfl
set_option maxRecDepth 100000 in
theorem wz_X2 : Cond.initialized RX2 ∈ lw_tbl := List.mem_of_getElem? (i := 76) rfl
set_option maxRecDepth 100000 in
theorem wz_X9 : Cond.initialized RX9 ∈ lw_tbl := List.mem_of_getElem? (i := 77) rfl
set_option maxRecDepth 100000 in
theorem wz_X3 : Cond.initialized RX3 ∈ lw_tbl := List.mem_of_getElem? (i := 95) rfl
set_option maxRecDepth 100000 in
theorem wc_L_8 : Cond.classLink RL 8 RX8 ∈ lw_tbl := List.mem_of_getElem? (i := 96) rfl
set_option maxRecDepth 100000 in
theorem wn_X8 : Cond.instantiable RX8 18 ∈ lw_tbl := List.mem_of_getElem? (i := 97) rfl
set_option maxRecDepth 100000 in
theorem wm_L_73 : Cond.methodLink RL 73 yX8_init ∈ lw_tbl := List.mem_of_getElem? (i := 98) rfl
set_option maxRecDepth 100000 in
theorem wi_X8_init : Cond.instanceMethod yX8_init ∈ lw_tbl := List.mem_of_getElem? (i := 99) rfl
set_option maxRecDepth 100000 in
theorem wm_X8_1 : Cond.methodLink RX8 1 ⟨"java/lang/Object", "<init>", "()V"⟩ ∈ lw_tbl := List.mem_of_getElem? (i := 101) rfl
set_option maxRecDepth 100000 in
theorem wc_X8_13 : Cond.classLink RX8 13 RX4 ∈ lw_tbl := List.mem_of_getElem? (i := 104) rfl
set_option maxRecDepth 100000 in
theorem wn_X4 : Cond.instantiable RX4 7 ∈ lw_tbl := List.mem_of_getElem? (i := 106) rfl
set_option maxRecDepth 100000 in
theorem wi_X4_init : Cond.instanceMethod yX4_init ∈ lw_tbl := List.mem_of_getElem? (i := 108) rfl
set_option maxRecDepth 100000 in
theorem wm_X4_3 : Cond.methodLink RX4 3 ⟨"java/lang/Object", "<init>", "()V"⟩ ∈ lw_tbl := List.mem_of_getElem? (i := 110) rfl
set_option maxRecDepth 100000 in
theorem wf_X4_9 : Cond.fieldLink RX4 9 RX4 "owns" "I" ∈ lw_tbl := List.mem_of_getElem? (i := 111) rfl
set_option maxRecDepth 100000 in
theorem wf_X5_56 : Cond.fieldLink RX5 56 RX4 "owns" "I" ∈ lw_tbl := List.mem_of_getElem? (i := 112) rfl
set_option maxRecDepth 100000 in
theorem wf_X3_34 : Cond.fieldLink RX3 34 RX4 "owns" "I" ∈ lw_tbl := List.mem_of_getElem? (i := 113) rfl
set_option maxRecDepth 100000 in
theorem wf_X4_15 : Cond.fieldLink RX4 15 RX4 "others" "I" ∈ lw_tbl := List.mem_of_getElem? (i := 114) rfl
set_option maxRecDepth 100000 in
theorem wf_X5_61 : Cond.fieldLink RX5 61 RX4 "others" "I" ∈ lw_tbl := List.mem_of_getElem? (i := 115) rfl
set_option maxRecDepth 100000 in
theorem wf_X3_40 : Cond.fieldLink RX3 40 RX4 "others" "I" ∈ lw_tbl := List.mem_of_getElem? (i := 116) rfl
set_option maxRecDepth 100000 in
theorem wf_X4_18 : Cond.fieldLink RX4 18 RX4 "multiple" "I" ∈ lw_tbl := List.mem_of_getElem? (i := 117) rfl
set_option maxRecDepth 100000 in
theorem wf_X8_211 : Cond.fieldLink RX8 211 RX4 "multiple" "I" ∈ lw_tbl := List.mem_of_getElem? (i := 118) rfl
set_option maxRecDepth 100000 in
theorem wf_X4_21 : Cond.fieldLink RX4 21 RX4 "least" "I" ∈ lw_tbl := List.mem_of_getElem? (i := 119) rfl
set_option maxRecDepth 100000 in
theorem wf_X4_24 : Cond.fieldLink RX4 24 RX4 "above" "[I" ∈ lw_tbl := List.mem_of_getElem? (i := 120) rfl
set_option maxRecDepth 100000 in
theorem wf_X4_28 : Cond.fieldLink RX4 28 RX4 "below" "[I" ∈ lw_tbl := List.mem_of_getElem? (i := 121) rfl
set_option maxRecDepth 100000 in
theorem wf_X4_31 : Cond.fieldLink RX4 31 RX4 "whole" "[I" ∈ lw_tbl := List.mem_of_getElem? (i := 122) rfl
set_option maxRecDepth 100000 in
theorem wc_X8_20 : Cond.classLink RX8 20 RX6 ∈ lw_tbl := List.mem_of_getElem? (i := 139) rfl
set_option maxRecDepth 100000 in
theorem wn_X6 : Cond.instantiable RX6 2 ∈ lw_tbl := List.mem_of_getElem? (i := 141) rfl
set_option maxRecDepth 100000 in
theorem wi_X6_init : Cond.instanceMethod yX6_init ∈ lw_tbl := List.mem_of_getElem? (i := 143) rfl
set_option maxRecDepth 100000 in
theorem wm_X6_3 : Cond.methodLink RX6 3 ⟨"java/lang/Object", "<init>", "()V"⟩ ∈ lw_tbl := List.mem_of_getElem? (i := 145) rfl
set_option maxRecDepth 100000 in
theorem wf_X6_9 : Cond.fieldLink RX6 9 RX6 "above" "[I" ∈ lw_tbl := List.mem_of_getElem? (i := 146) rfl
set_option maxRecDepth 100000 in
theorem wf_X6_15 : Cond.fieldLink RX6 15 RX6 "below" "[I" ∈ lw_tbl := List.mem_of_getElem? (i := 147) rfl
set_option maxRecDepth 100000 in
theorem wc_X8_30 : Cond.classLink RX8 30 RX5 ∈ lw_tbl := List.mem_of_getElem? (i := 153) rfl
set_option maxRecDepth 100000 in
theorem wn_X5 : Cond.instantiable RX5 10 ∈ lw_tbl := List.mem_of_getElem? (i := 155) rfl
set_option maxRecDepth 100000 in
theorem wi_X5_init : Cond.instanceMethod yX5_init ∈ lw_tbl := List.mem_of_getElem? (i := 157) rfl
set_option maxRecDepth 100000 in
theorem wm_X5_3 : Cond.methodLink RX5 3 ⟨"java/lang/Object", "<init>", "()V"⟩ ∈ lw_tbl := List.mem_of_getElem? (i := 159) rfl
set_option maxRecDepth 100000 in
theorem ws_X8_bigs : Cond.static yX8_bigs ∈ lw_tbl := List.mem_of_getElem? (i := 161) rfl
set_option maxRecDepth 100000 in
theorem wm_X8_311 : Cond.methodLink RX8 311 yJ9_max_7cf53 ∈ lw_tbl := List.mem_of_getElem? (i := 163) rfl
set_option maxRecDepth 100000 in
theorem wc_X8_78 : Cond.classLink RX8 78 RX0 ∈ lw_tbl := List.mem_of_getElem? (i := 166) rfl
set_option maxRecDepth 100000 in
theorem wn_X0 : Cond.instantiable RX0 3 ∈ lw_tbl := List.mem_of_getElem? (i := 168) rfl
set_option maxRecDepth 100000 in
theorem wi_X0_init : Cond.instanceMethod yX0_init ∈ lw_tbl := List.mem_of_getElem? (i := 170) rfl
set_option maxRecDepth 100000 in
theorem wm_X0_1 : Cond.methodLink RX0 1 ⟨"java/lang/Object", "<init>", "()V"⟩ ∈ lw_tbl := List.mem_of_getElem? (i := 172) rfl
set_option maxRecDepth 100000 in
theorem wf_X0_7 : Cond.fieldLink RX0 7 RX0 "signum" "I" ∈ lw_tbl := List.mem_of_getElem? (i := 173) rfl
set_option maxRecDepth 100000 in
theorem wf_X1_36 : Cond.fieldLink RX1 36 RX0 "signum" "I" ∈ lw_tbl := List.mem_of_getElem? (i := 174) rfl
set_option maxRecDepth 100000 in
theorem wf_X7_33 : Cond.fieldLink RX7 33 RX0 "signum" "I" ∈ lw_tbl := List.mem_of_getElem? (i := 175) rfl
set_option maxRecDepth 100000 in
theorem wf_X5_93 : Cond.fieldLink RX5 93 RX0 "signum" "I" ∈ lw_tbl := List.mem_of_getElem? (i := 176) rfl
set_option maxRecDepth 100000 in
theorem wf_X8_194 : Cond.fieldLink RX8 194 RX0 "signum" "I" ∈ lw_tbl := List.mem_of_getElem? (i := 177) rfl
set_option maxRecDepth 100000 in
theorem wf_X0_13 : Cond.fieldLink RX0 13 RX0 "length" "I" ∈ lw_tbl := List.mem_of_getElem? (i := 178) rfl
set_option maxRecDepth 100000 in
theorem wf_X1_54 : Cond.fieldLink RX1 54 RX0 "length" "I" ∈ lw_tbl := List.mem_of_getElem? (i := 179) rfl
set_option maxRecDepth 100000 in
theorem wf_X0_16 : Cond.fieldLink RX0 16 RX0 "limbs" "[I" ∈ lw_tbl := List.mem_of_getElem? (i := 180) rfl
set_option maxRecDepth 100000 in
theorem wf_X1_60 : Cond.fieldLink RX1 60 RX0 "limbs" "[I" ∈ lw_tbl := List.mem_of_getElem? (i := 181) rfl
set_option maxRecDepth 100000 in
theorem wc_X5_36 : Cond.classLink RX5 36 RX0 ∈ lw_tbl := List.mem_of_getElem? (i := 189) rfl
set_option maxRecDepth 100000 in
theorem wc_X5_49 : Cond.classLink RX5 49 RX1 ∈ lw_tbl := List.mem_of_getElem? (i := 191) rfl
set_option maxRecDepth 100000 in
theorem wn_X1 : Cond.instantiable RX1 6 ∈ lw_tbl := List.mem_of_getElem? (i := 192) rfl
set_option maxRecDepth 100000 in
theorem wi_X1_init : Cond.instanceMethod yX1_init ∈ lw_tbl := List.mem_of_getElem? (i := 194) rfl
set_option maxRecDepth 100000 in
theorem wm_X1_1 : Cond.methodLink RX1 1 ⟨"java/lang/Object", "<init>", "()V"⟩ ∈ lw_tbl := List.mem_of_getElem? (i := 196) rfl
set_option maxRecDepth 100000 in
theorem wc_X1_7 : Cond.classLink RX1 7 RX0 ∈ lw_tbl := List.mem_of_getElem? (i := 197) rfl
set_option maxRecDepth 100000 in
theorem wf_X1_9 : Cond.fieldLink RX1 9 RX1 "rest" "[I" ∈ lw_tbl := List.mem_of_getElem? (i := 199) rfl
set_option maxRecDepth 100000 in
theorem wf_X1_15 : Cond.fieldLink RX1 15 RX1 "by" "[I" ∈ lw_tbl := List.mem_of_getElem? (i := 200) rfl
set_option maxRecDepth 100000 in
theorem wf_X1_19 : Cond.fieldLink RX1 19 RX1 "spare" "LBestReplies$Big;" ∈ lw_tbl := List.mem_of_getElem? (i := 201) rfl
set_option maxRecDepth 100000 in
theorem wf_X1_23 : Cond.fieldLink RX1 23 RX1 "first" "LBestReplies$Big;" ∈ lw_tbl := List.mem_of_getElem? (i := 202) rfl
set_option maxRecDepth 100000 in
theorem wf_X1_26 : Cond.fieldLink RX1 26 RX1 "second" "LBestReplies$Big;" ∈ lw_tbl := List.mem_of_getElem? (i := 203) rfl
set_option maxRecDepth 100000 in
theorem wf_X1_29 : Cond.fieldLink RX1 29 RX1 "common" "LBestReplies$Big;" ∈ lw_tbl := List.mem_of_getElem? (i := 204) rfl
set_option maxRecDepth 100000 in
theorem wf_X5_9 : Cond.fieldLink RX5 9 RX5 "rows" "I" ∈ lw_tbl := List.mem_of_getElem? (i := 218) rfl
set_option maxRecDepth 100000 in
theorem wf_X5_15 : Cond.fieldLink RX5 15 RX5 "columns" "I" ∈ lw_tbl := List.mem_of_getElem? (i := 219) rfl
set_option maxRecDepth 100000 in
theorem wf_X5_18 : Cond.fieldLink RX5 18 RX5 "firstLabel" "I" ∈ lw_tbl := List.mem_of_getElem? (i := 220) rfl
set_option maxRecDepth 100000 in
theorem wf_X5_21 : Cond.fieldLink RX5 21 RX5 "rowLabels" "[I" ∈ lw_tbl := List.mem_of_getElem? (i := 221) rfl
set_option maxRecDepth 100000 in
theorem wf_X5_25 : Cond.fieldLink RX5 25 RX5 "columnLabels" "[I" ∈ lw_tbl := List.mem_of_getElem? (i := 222) rfl
set_option maxRecDepth 100000 in
theorem wf_X5_32 : Cond.fieldLink RX5 32 RX5 "cells" "[LBestReplies$Big;" ∈ lw_tbl := List.mem_of_getElem? (i := 223) rfl
set_option maxRecDepth 100000 in
theorem wf_X5_39 : Cond.fieldLink RX5 39 RX5 "scale" "LBestReplies$Big;" ∈ lw_tbl := List.mem_of_getElem? (i := 224) rfl
set_option maxRecDepth 100000 in
theorem wf_X5_43 : Cond.fieldLink RX5 43 RX5 "left" "LBestReplies$Big;" ∈ lw_tbl := List.mem_of_getElem? (i := 225) rfl
set_option maxRecDepth 100000 in
theorem wf_X5_46 : Cond.fieldLink RX5 46 RX5 "right" "LBestReplies$Big;" ∈ lw_tbl := List.mem_of_getElem? (i := 226) rfl
set_option maxRecDepth 100000 in
theorem wf_X5_52 : Cond.fieldLink RX5 52 RX5 "divider" "LBestReplies$Divider;" ∈ lw_tbl := List.mem_of_getElem? (i := 227) rfl
set_option maxRecDepth 100000 in
theorem wc_X8_37 : Cond.classLink RX8 37 "[[I" ∈ lw_tbl := List.mem_of_getElem? (i := 249) rfl
set_option maxRecDepth 100000 in
theorem wc_X8_63 : Cond.classLink RX8 63 RX7 ∈ lw_tbl := List.mem_of_getElem? (i := 251) rfl
set_option maxRecDepth 100000 in
theorem wn_X7 : Cond.instantiable RX7 2 ∈ lw_tbl := List.mem_of_getElem? (i := 253) rfl
set_option maxRecDepth 100000 in
theorem wi_X7_init : Cond.instanceMethod yX7_init ∈ lw_tbl := List.mem_of_getElem? (i := 255) rfl
set_option maxRecDepth 100000 in
theorem wm_X7_3 : Cond.methodLink RX7 3 ⟨"java/lang/Object", "<init>", "()V"⟩ ∈ lw_tbl := List.mem_of_getElem? (i := 257) rfl
set_option maxRecDepth 100000 in
theorem wc_X7_19 : Cond.classLink RX7 19 RX0 ∈ lw_tbl := List.mem_of_getElem? (i := 259) rfl
set_option maxRecDepth 100000 in
theorem wf_X7_13 : Cond.fieldLink RX7 13 RX7 "each" "[LBestReplies$Big;" ∈ lw_tbl := List.mem_of_getElem? (i := 261) rfl
set_option maxRecDepth 100000 in
theorem wf_X5_84 : Cond.fieldLink RX5 84 RX7 "each" "[LBestReplies$Big;" ∈ lw_tbl := List.mem_of_getElem? (i := 262) rfl
set_option maxRecDepth 100000 in
theorem wf_X6_32 : Cond.fieldLink RX6 32 RX7 "each" "[LBestReplies$Big;" ∈ lw_tbl := List.mem_of_getElem? (i := 263) rfl
set_option maxRecDepth 100000 in
theorem wf_X4_56 : Cond.fieldLink RX4 56 RX7 "each" "[LBestReplies$Big;" ∈ lw_tbl := List.mem_of_getElem? (i := 264) rfl
set_option maxRecDepth 100000 in
theorem wf_X3_66 : Cond.fieldLink RX3 66 RX7 "each" "[LBestReplies$Big;" ∈ lw_tbl := List.mem_of_getElem? (i := 265) rfl
set_option maxRecDepth 100000 in
theorem wf_X8_177 : Cond.fieldLink RX8 177 RX7 "each" "[LBestReplies$Big;" ∈ lw_tbl := List.mem_of_getElem? (i := 266) rfl
set_option maxRecDepth 100000 in
theorem wf_X7_22 : Cond.fieldLink RX7 22 RX7 "total" "LBestReplies$Big;" ∈ lw_tbl := List.mem_of_getElem? (i := 267) rfl
set_option maxRecDepth 100000 in
theorem wf_X8_187 : Cond.fieldLink RX8 187 RX7 "total" "LBestReplies$Big;" ∈ lw_tbl := List.mem_of_getElem? (i := 268) rfl
set_option maxRecDepth 100000 in
theorem wm_X8_70 : Cond.methodLink RX8 70 yX8_bigs ∈ lw_tbl := List.mem_of_getElem? (i := 274) rfl
set_option maxRecDepth 100000 in
theorem wc_X8_88 : Cond.classLink RX8 88 RX2 ∈ lw_tbl := List.mem_of_getElem? (i := 275) rfl
set_option maxRecDepth 100000 in
theorem wn_X2 : Cond.instantiable RX2 2 ∈ lw_tbl := List.mem_of_getElem? (i := 276) rfl
set_option maxRecDepth 100000 in
theorem wm_X8_90 : Cond.methodLink RX8 90 yX2_init ∈ lw_tbl := List.mem_of_getElem? (i := 277) rfl
set_option maxRecDepth 100000 in
theorem wi_X2_init : Cond.instanceMethod yX2_init ∈ lw_tbl := List.mem_of_getElem? (i := 278) rfl
set_option maxRecDepth 100000 in
theorem wm_X2_1 : Cond.methodLink RX2 1 ⟨"java/lang/Object", "<init>", "()V"⟩ ∈ lw_tbl := List.mem_of_getElem? (i := 280) rfl
set_option maxRecDepth 100000 in
theorem wc_X2_7 : Cond.classLink RX2 7 RX0 ∈ lw_tbl := List.mem_of_getElem? (i := 281) rfl
set_option maxRecDepth 100000 in
theorem wm_X2_19 : Cond.methodLink RX2 19 yX0_setTo ∈ lw_tbl := List.mem_of_getElem? (i := 283) rfl
set_option maxRecDepth 100000 in
theorem wi_X0_setTo : Cond.instanceMethod yX0_setTo ∈ lw_tbl := List.mem_of_getElem? (i := 284) rfl
set_option maxRecDepth 100000 in
theorem wv_X0_setTo : Cond.selects yX0_setTo.cls yX0_setTo yX0_setTo ∈ lw_tbl := List.mem_of_getElem? (i := 285) rfl
set_option maxRecDepth 100000 in
theorem wk_X0_26 : Cond.constantLong RX0 26 (2147483647) ∈ lw_tbl := List.mem_of_getElem? (i := 287) rfl
set_option maxRecDepth 100000 in
theorem wm_X0_28 : Cond.methodLink RX0 28 yX0_trim ∈ lw_tbl := List.mem_of_getElem? (i := 288) rfl
set_option maxRecDepth 100000 in
theorem wi_X0_trim : Cond.instanceMethod yX0_trim ∈ lw_tbl := List.mem_of_getElem? (i := 289) rfl
set_option maxRecDepth 100000 in
theorem wv_X0_trim : Cond.selects yX0_trim.cls yX0_trim yX0_trim ∈ lw_tbl := List.mem_of_getElem? (i := 290) rfl
set_option maxRecDepth 100000 in
theorem wf_X2_10 : Cond.fieldLink RX2 10 RX2 "above" "LBestReplies$Big;" ∈ lw_tbl := List.mem_of_getElem? (i := 292) rfl
set_option maxRecDepth 100000 in
theorem wf_X8_174 : Cond.fieldLink RX8 174 RX2 "above" "LBestReplies$Big;" ∈ lw_tbl := List.mem_of_getElem? (i := 293) rfl
set_option maxRecDepth 100000 in
theorem wf_X2_16 : Cond.fieldLink RX2 16 RX2 "below" "LBestReplies$Big;" ∈ lw_tbl := List.mem_of_getElem? (i := 294) rfl
set_option maxRecDepth 100000 in
theorem wf_X8_184 : Cond.fieldLink RX8 184 RX2 "below" "LBestReplies$Big;" ∈ lw_tbl := List.mem_of_getElem? (i := 295) rfl
set_option maxRecDepth 100000 in
theorem wc_X8_95 : Cond.classLink RX8 95 RX1 ∈ lw_tbl := List.mem_of_getElem? (i := 301) rfl
set_option maxRecDepth 100000 in
theorem wf_X8_7 : Cond.fieldLink RX8 7 RX8 "counts" "[I" ∈ lw_tbl := List.mem_of_getElem? (i := 303) rfl
set_option maxRecDepth 100000 in
theorem wf_X8_16 : Cond.fieldLink RX8 16 RX8 "payoffs" "[LBestReplies$Payoffs;" ∈ lw_tbl := List.mem_of_getElem? (i := 304) rfl
set_option maxRecDepth 100000 in
theorem wf_X8_23 : Cond.fieldLink RX8 23 RX8 "toldWeights" "[LBestReplies$Told;" ∈ lw_tbl := List.mem_of_getElem? (i := 305) rfl
set_option maxRecDepth 100000 in
theorem wf_X8_27 : Cond.fieldLink RX8 27 RX8 "there" "[I" ∈ lw_tbl := List.mem_of_getElem? (i := 306) rfl
set_option maxRecDepth 100000 in
theorem wf_X8_33 : Cond.fieldLink RX8 33 RX8 "tables" "[LBestReplies$Table;" ∈ lw_tbl := List.mem_of_getElem? (i := 307) rfl
set_option maxRecDepth 100000 in
theorem wf_X8_39 : Cond.fieldLink RX8 39 RX8 "path" "[[I" ∈ lw_tbl := List.mem_of_getElem? (i := 308) rfl
set_option maxRecDepth 100000 in
theorem wf_X8_42 : Cond.fieldLink RX8 42 RX8 "steps" "I" ∈ lw_tbl := List.mem_of_getElem? (i := 309) rfl
set_option maxRecDepth 100000 in
theorem wf_X8_46 : Cond.fieldLink RX8 46 RX8 "missing" "I" ∈ lw_tbl := List.mem_of_getElem? (i := 310) rfl
set_option maxRecDepth 100000 in
theorem wf_X8_49 : Cond.fieldLink RX8 49 RX8 "minors" "[LBestReplies$Minors;" ∈ lw_tbl := List.mem_of_getElem? (i := 311) rfl
set_option maxRecDepth 100000 in
theorem wf_X8_53 : Cond.fieldLink RX8 53 RX8 "entries" "[[I" ∈ lw_tbl := List.mem_of_getElem? (i := 312) rfl
set_option maxRecDepth 100000 in
theorem wf_X8_56 : Cond.fieldLink RX8 56 RX8 "entryCount" "I" ∈ lw_tbl := List.mem_of_getElem? (i := 313) rfl
set_option maxRecDepth 100000 in
theorem wf_X8_59 : Cond.fieldLink RX8 59 RX8 "isListed" "Z" ∈ lw_tbl := List.mem_of_getElem? (i := 314) rfl
set_option maxRecDepth 100000 in
theorem wf_X8_66 : Cond.fieldLink RX8 66 RX8 "strategies" "[LBestReplies$Weights;" ∈ lw_tbl := List.mem_of_getElem? (i := 315) rfl
set_option maxRecDepth 100000 in
theorem wf_X8_74 : Cond.fieldLink RX8 74 RX8 "values" "[LBestReplies$Big;" ∈ lw_tbl := List.mem_of_getElem? (i := 316) rfl
set_option maxRecDepth 100000 in
theorem wf_X8_81 : Cond.fieldLink RX8 81 RX8 "product" "LBestReplies$Big;" ∈ lw_tbl := List.mem_of_getElem? (i := 317) rfl
set_option maxRecDepth 100000 in
theorem wf_X8_85 : Cond.fieldLink RX8 85 RX8 "own" "LBestReplies$Big;" ∈ lw_tbl := List.mem_of_getElem? (i := 318) rfl
set_option maxRecDepth 100000 in
theorem wf_X8_91 : Cond.fieldLink RX8 91 RX8 "hand" "LBestReplies$Fraction;" ∈ lw_tbl := List.mem_of_getElem? (i := 319) rfl
set_option maxRecDepth 100000 in
theorem wf_X8_98 : Cond.fieldLink RX8 98 RX8 "divider" "LBestReplies$Divider;" ∈ lw_tbl := List.mem_of_getElem? (i := 320) rfl
set_option maxRecDepth 100000 in
theorem wm_L_135 : Cond.methodLink RL 135 yX8_sign ∈ lw_tbl := List.mem_of_getElem? (i := 358) rfl
set_option maxRecDepth 100000 in
theorem wi_X8_sign : Cond.instanceMethod yX8_sign ∈ lw_tbl := List.mem_of_getElem? (i := 359) rfl
set_option maxRecDepth 100000 in
theorem wv_X8_sign : Cond.selects yX8_sign.cls yX8_sign yX8_sign ∈ lw_tbl := List.mem_of_getElem? (i := 360) rfl
set_option maxRecDepth 100000 in
theorem wm_L_77 : Cond.methodLink RL 77 yL_game ∈ lw_tbl := List.mem_of_getElem? (i := 362) rfl
set_option maxRecDepth 100000 in
theorem ws_L_game : Cond.static yL_game ∈ lw_tbl := List.mem_of_getElem? (i := 363) rfl
set_option maxRecDepth 100000 in
theorem wc_L_13 : Cond.classLink RL 13 "java/lang/IllegalArgumentException" ∈ lw_tbl := List.mem_of_getElem? (i := 365) rfl
set_option maxRecDepth 100000 in
theorem wm_L_7 : Cond.methodLink RL 7 yX8_game ∈ lw_tbl := List.mem_of_getElem? (i := 366) rfl
set_option maxRecDepth 100000 in
theorem wi_X8_game : Cond.instanceMethod yX8_game ∈ lw_tbl := List.mem_of_getElem? (i := 367) rfl
set_option maxRecDepth 100000 in
theorem wv_X8_game : Cond.selects yX8_game.cls yX8_game yX8_game ∈ lw_tbl := List.mem_of_getElem? (i := 368) rfl
set_option maxRecDepth 100000 in
theorem wc_X8_102 : Cond.classLink RX8 102 "java/lang/IllegalArgumentException" ∈ lw_tbl := List.mem_of_getElem? (i := 370) rfl
set_option maxRecDepth 100000 in
theorem wm_X8_106 : Cond.methodLink RX8 106 ⟨"java/lang/IllegalArgumentException", "<init>", "(Ljava/lang/String;)V"⟩ ∈ lw_tbl := List.mem_of_getElem? (i := 413) rfl
set_option maxRecDepth 100000 in
theorem wm_X8_109 : Cond.methodLink RX8 109 yX4_reset ∈ lw_tbl := List.mem_of_getElem? (i := 439) rfl
set_option maxRecDepth 100000 in
theorem wi_X4_reset : Cond.instanceMethod yX4_reset ∈ lw_tbl := List.mem_of_getElem? (i := 440) rfl
set_option maxRecDepth 100000 in
theorem wv_X4_reset : Cond.selects yX4_reset.cls yX4_reset yX4_reset ∈ lw_tbl := List.mem_of_getElem? (i := 441) rfl
set_option maxRecDepth 100000 in
theorem wm_X4_34 : Cond.methodLink RX4 34 yJ7_fill_53178 ∈ lw_tbl := List.mem_of_getElem? (i := 443) rfl
set_option maxRecDepth 100000 in
theorem wm_X4_40 : Cond.methodLink RX4 40 yX4_makeWhole ∈ lw_tbl := List.mem_of_getElem? (i := 446) rfl
set_option maxRecDepth 100000 in
theorem wi_X4_makeWhole : Cond.instanceMethod yX4_makeWhole ∈ lw_tbl := List.mem_of_getElem? (i := 448) rfl
set_option maxRecDepth 100000 in
theorem wm_X4_49 : Cond.methodLink RX4 49 yX4_commonDivisor ∈ lw_tbl := List.mem_of_getElem? (i := 450) rfl
set_option maxRecDepth 100000 in
theorem ws_X4_commonDivisor : Cond.static yX4_commonDivisor ∈ lw_tbl := List.mem_of_getElem? (i := 451) rfl
set_option maxRecDepth 100000 in
theorem wm_X4_53 : Cond.methodLink RX4 53 yJ9_max_7cf53 ∈ lw_tbl := List.mem_of_getElem? (i := 453) rfl
set_option maxRecDepth 100000 in
theorem wk_X4_78 : Cond.constant RX4 78 (2147483647) ∈ lw_tbl := List.mem_of_getElem? (i := 454) rfl
set_option maxRecDepth 100000 in
theorem wm_X4_79 : Cond.methodLink RX4 79 yJ9_min_7cf53 ∈ lw_tbl := List.mem_of_getElem? (i := 455) rfl
set_option maxRecDepth 100000 in
theorem wm_X8_113 : Cond.methodLink RX8 113 yX6_reset ∈ lw_tbl := List.mem_of_getElem? (i := 458) rfl
set_option maxRecDepth 100000 in
theorem wi_X6_reset : Cond.instanceMethod yX6_reset ∈ lw_tbl := List.mem_of_getElem? (i := 459) rfl
set_option maxRecDepth 100000 in
theorem wv_X6_reset : Cond.selects yX6_reset.cls yX6_reset yX6_reset ∈ lw_tbl := List.mem_of_getElem? (i := 460) rfl
set_option maxRecDepth 100000 in
theorem wm_X6_18 : Cond.methodLink RX6 18 yJ7_fill_53178 ∈ lw_tbl := List.mem_of_getElem? (i := 462) rfl
set_option maxRecDepth 100000 in
theorem wm_X8_115 : Cond.methodLink RX8 115 yX8_forget ∈ lw_tbl := List.mem_of_getElem? (i := 463) rfl
set_option maxRecDepth 100000 in
theorem wi_X8_forget : Cond.instanceMethod yX8_forget ∈ lw_tbl := List.mem_of_getElem? (i := 465) rfl
set_option maxRecDepth 100000 in
theorem wm_L_86 : Cond.methodLink RL 86 yL_pay ∈ lw_tbl := List.mem_of_getElem? (i := 467) rfl
set_option maxRecDepth 100000 in
theorem ws_L_pay : Cond.static yL_pay ∈ lw_tbl := List.mem_of_getElem? (i := 468) rfl
set_option maxRecDepth 100000 in
theorem wc_L_19 : Cond.classLink RL 19 "java/lang/IllegalStateException" ∈ lw_tbl := List.mem_of_getElem? (i := 470) rfl
set_option maxRecDepth 100000 in
theorem wm_L_15 : Cond.methodLink RL 15 yX8_pay ∈ lw_tbl := List.mem_of_getElem? (i := 471) rfl
set_option maxRecDepth 100000 in
theorem wi_X8_pay : Cond.instanceMethod yX8_pay ∈ lw_tbl := List.mem_of_getElem? (i := 472) rfl
set_option maxRecDepth 100000 in
theorem wv_X8_pay : Cond.selects yX8_pay.cls yX8_pay yX8_pay ∈ lw_tbl := List.mem_of_getElem? (i := 473) rfl
set_option maxRecDepth 100000 in
theorem wm_X8_118 : Cond.methodLink RX8 118 yX8_needGame ∈ lw_tbl := List.mem_of_getElem? (i := 475) rfl
set_option maxRecDepth 100000 in
theorem wi_X8_needGame : Cond.instanceMethod yX8_needGame ∈ lw_tbl := List.mem_of_getElem? (i := 477) rfl
set_option maxRecDepth 100000 in
theorem wc_X8_144 : Cond.classLink RX8 144 "java/lang/IllegalStateException" ∈ lw_tbl := List.mem_of_getElem? (i := 479) rfl
set_option maxRecDepth 100000 in
theorem wm_X8_148 : Cond.methodLink RX8 148 ⟨"java/lang/IllegalStateException", "<init>", "(Ljava/lang/String;)V"⟩ ∈ lw_tbl := List.mem_of_getElem? (i := 489) rfl
set_option maxRecDepth 100000 in
theorem wm_X8_121 : Cond.methodLink RX8 121 yX8_needPlayer ∈ lw_tbl := List.mem_of_getElem? (i := 495) rfl
set_option maxRecDepth 100000 in
theorem wi_X8_needPlayer : Cond.instanceMethod yX8_needPlayer ∈ lw_tbl := List.mem_of_getElem? (i := 497) rfl
set_option maxRecDepth 100000 in
theorem wm_X8_125 : Cond.methodLink RX8 125 yX8_needRow ∈ lw_tbl := List.mem_of_getElem? (i := 500) rfl
set_option maxRecDepth 100000 in
theorem wi_X8_needRow : Cond.instanceMethod yX8_needRow ∈ lw_tbl := List.mem_of_getElem? (i := 502) rfl
set_option maxRecDepth 100000 in
theorem wm_X8_130 : Cond.methodLink RX8 130 yX4_put ∈ lw_tbl := List.mem_of_getElem? (i := 506) rfl
set_option maxRecDepth 100000 in
theorem wi_X4_put : Cond.instanceMethod yX4_put ∈ lw_tbl := List.mem_of_getElem? (i := 507) rfl
set_option maxRecDepth 100000 in
theorem wv_X4_put : Cond.selects yX4_put.cls yX4_put yX4_put ∈ lw_tbl := List.mem_of_getElem? (i := 508) rfl
set_option maxRecDepth 100000 in
theorem wm_X4_43 : Cond.methodLink RX4 43 yJ9_abs_0f7a4 ∈ lw_tbl := List.mem_of_getElem? (i := 510) rfl
set_option maxRecDepth 100000 in
theorem wm_L_90 : Cond.methodLink RL 90 yL_run ∈ lw_tbl := List.mem_of_getElem? (i := 513) rfl
set_option maxRecDepth 100000 in
theorem ws_L_run : Cond.static yL_run ∈ lw_tbl := List.mem_of_getElem? (i := 514) rfl
set_option maxRecDepth 100000 in
theorem wm_L_21 : Cond.methodLink RL 21 yX8_run ∈ lw_tbl := List.mem_of_getElem? (i := 516) rfl
set_option maxRecDepth 100000 in
theorem wi_X8_run : Cond.instanceMethod yX8_run ∈ lw_tbl := List.mem_of_getElem? (i := 517) rfl
set_option maxRecDepth 100000 in
theorem wv_X8_run : Cond.selects yX8_run.cls yX8_run yX8_run ∈ lw_tbl := List.mem_of_getElem? (i := 518) rfl
set_option maxRecDepth 100000 in
theorem wm_X8_136 : Cond.methodLink RX8 136 yX5_start ∈ lw_tbl := List.mem_of_getElem? (i := 521) rfl
set_option maxRecDepth 100000 in
theorem wi_X5_start : Cond.instanceMethod yX5_start ∈ lw_tbl := List.mem_of_getElem? (i := 522) rfl
set_option maxRecDepth 100000 in
theorem wv_X5_start : Cond.selects yX5_start.cls yX5_start yX5_start ∈ lw_tbl := List.mem_of_getElem? (i := 523) rfl
set_option maxRecDepth 100000 in
theorem wm_X5_64 : Cond.methodLink RX5 64 yX0_setTo ∈ lw_tbl := List.mem_of_getElem? (i := 525) rfl
set_option maxRecDepth 100000 in
theorem wm_X5_68 : Cond.methodLink RX5 68 yX4_lifted ∈ lw_tbl := List.mem_of_getElem? (i := 526) rfl
set_option maxRecDepth 100000 in
theorem wi_X4_lifted : Cond.instanceMethod yX4_lifted ∈ lw_tbl := List.mem_of_getElem? (i := 527) rfl
set_option maxRecDepth 100000 in
theorem wv_X4_lifted : Cond.selects yX4_lifted.cls yX4_lifted yX4_lifted ∈ lw_tbl := List.mem_of_getElem? (i := 528) rfl
set_option maxRecDepth 100000 in
theorem wm_X8_140 : Cond.methodLink RX8 140 yX5_enter ∈ lw_tbl := List.mem_of_getElem? (i := 530) rfl
set_option maxRecDepth 100000 in
theorem wi_X5_enter : Cond.instanceMethod yX5_enter ∈ lw_tbl := List.mem_of_getElem? (i := 531) rfl
set_option maxRecDepth 100000 in
theorem wv_X5_enter : Cond.selects yX5_enter.cls yX5_enter yX5_enter ∈ lw_tbl := List.mem_of_getElem? (i := 532) rfl
set_option maxRecDepth 100000 in
theorem wm_X5_72 : Cond.methodLink RX5 72 yX5_find ∈ lw_tbl := List.mem_of_getElem? (i := 534) rfl
set_option maxRecDepth 100000 in
theorem ws_X5_find : Cond.static yX5_find ∈ lw_tbl := List.mem_of_getElem? (i := 535) rfl
set_option maxRecDepth 100000 in
theorem wm_X5_76 : Cond.methodLink RX5 76 yX5_leavingRow ∈ lw_tbl := List.mem_of_getElem? (i := 537) rfl
set_option maxRecDepth 100000 in
theorem wi_X5_leavingRow : Cond.instanceMethod yX5_leavingRow ∈ lw_tbl := List.mem_of_getElem? (i := 539) rfl
set_option maxRecDepth 100000 in
theorem wm_X5_96 : Cond.methodLink RX5 96 yX5_isLess ∈ lw_tbl := List.mem_of_getElem? (i := 541) rfl
set_option maxRecDepth 100000 in
theorem wi_X5_isLess : Cond.instanceMethod yX5_isLess ∈ lw_tbl := List.mem_of_getElem? (i := 543) rfl
set_option maxRecDepth 100000 in
theorem wm_X5_100 : Cond.methodLink RX5 100 yX5_compareRatios ∈ lw_tbl := List.mem_of_getElem? (i := 545) rfl
set_option maxRecDepth 100000 in
theorem wi_X5_compareRatios : Cond.instanceMethod yX5_compareRatios ∈ lw_tbl := List.mem_of_getElem? (i := 547) rfl
set_option maxRecDepth 100000 in
theorem wm_X5_104 : Cond.methodLink RX5 104 yX0_setProduct ∈ lw_tbl := List.mem_of_getElem? (i := 549) rfl
set_option maxRecDepth 100000 in
theorem wi_X0_setProduct : Cond.instanceMethod yX0_setProduct ∈ lw_tbl := List.mem_of_getElem? (i := 550) rfl
set_option maxRecDepth 100000 in
theorem wv_X0_setProduct : Cond.selects yX0_setProduct.cls yX0_setProduct yX0_setProduct ∈ lw_tbl := List.mem_of_getElem? (i := 551) rfl
set_option maxRecDepth 100000 in
theorem wm_X0_32 : Cond.methodLink RX0 32 yJ9_min_7cf53 ∈ lw_tbl := List.mem_of_getElem? (i := 553) rfl
set_option maxRecDepth 100000 in
theorem wm_X0_38 : Cond.methodLink RX0 38 yJ7_fill_fda19 ∈ lw_tbl := List.mem_of_getElem? (i := 554) rfl
set_option maxRecDepth 100000 in
theorem wm_X0_44 : Cond.methodLink RX0 44 yX0_addTimes ∈ lw_tbl := List.mem_of_getElem? (i := 820) rfl
set_option maxRecDepth 100000 in
theorem wi_X0_addTimes : Cond.instanceMethod yX0_addTimes ∈ lw_tbl := List.mem_of_getElem? (i := 822) rfl
set_option maxRecDepth 100000 in
theorem wm_X5_108 : Cond.methodLink RX5 108 yX0_compareWith ∈ lw_tbl := List.mem_of_getElem? (i := 824) rfl
set_option maxRecDepth 100000 in
theorem wi_X0_compareWith : Cond.instanceMethod yX0_compareWith ∈ lw_tbl := List.mem_of_getElem? (i := 825) rfl
set_option maxRecDepth 100000 in
theorem wv_X0_compareWith : Cond.selects yX0_compareWith.cls yX0_compareWith yX0_compareWith ∈ lw_tbl := List.mem_of_getElem? (i := 826) rfl
set_option maxRecDepth 100000 in
theorem wm_X0_56 : Cond.methodLink RX0 56 yX0_compareSize ∈ lw_tbl := List.mem_of_getElem? (i := 828) rfl
set_option maxRecDepth 100000 in
theorem wi_X0_compareSize : Cond.instanceMethod yX0_compareSize ∈ lw_tbl := List.mem_of_getElem? (i := 830) rfl
set_option maxRecDepth 100000 in
theorem wm_X5_80 : Cond.methodLink RX5 80 yX5_pivot ∈ lw_tbl := List.mem_of_getElem? (i := 832) rfl
set_option maxRecDepth 100000 in
theorem wi_X5_pivot : Cond.instanceMethod yX5_pivot ∈ lw_tbl := List.mem_of_getElem? (i := 834) rfl
set_option maxRecDepth 100000 in
theorem wm_X5_112 : Cond.methodLink RX5 112 yX5_clearOut ∈ lw_tbl := List.mem_of_getElem? (i := 836) rfl
set_option maxRecDepth 100000 in
theorem wi_X5_clearOut : Cond.instanceMethod yX5_clearOut ∈ lw_tbl := List.mem_of_getElem? (i := 838) rfl
set_option maxRecDepth 100000 in
theorem wm_X5_119 : Cond.methodLink RX5 119 yX0_subtract ∈ lw_tbl := List.mem_of_getElem? (i := 840) rfl
set_option maxRecDepth 100000 in
theorem wi_X0_subtract : Cond.instanceMethod yX0_subtract ∈ lw_tbl := List.mem_of_getElem? (i := 841) rfl
set_option maxRecDepth 100000 in
theorem wv_X0_subtract : Cond.selects yX0_subtract.cls yX0_subtract yX0_subtract ∈ lw_tbl := List.mem_of_getElem? (i := 842) rfl
set_option maxRecDepth 100000 in
theorem wm_X0_52 : Cond.methodLink RX0 52 yX0_addSigned ∈ lw_tbl := List.mem_of_getElem? (i := 844) rfl
set_option maxRecDepth 100000 in
theorem wi_X0_addSigned : Cond.instanceMethod yX0_addSigned ∈ lw_tbl := List.mem_of_getElem? (i := 846) rfl
set_option maxRecDepth 100000 in
theorem wm_X0_66 : Cond.methodLink RX0 66 yX0_addSizes ∈ lw_tbl := List.mem_of_getElem? (i := 848) rfl
set_option maxRecDepth 100000 in
theorem wi_X0_addSizes : Cond.instanceMethod yX0_addSizes ∈ lw_tbl := List.mem_of_getElem? (i := 850) rfl
set_option maxRecDepth 100000 in
theorem wm_X0_73 : Cond.methodLink RX0 73 yJ9_max_7cf53 ∈ lw_tbl := List.mem_of_getElem? (i := 852) rfl
set_option maxRecDepth 100000 in
theorem wm_X0_76 : Cond.methodLink RX0 76 yX0_limb ∈ lw_tbl := List.mem_of_getElem? (i := 853) rfl
set_option maxRecDepth 100000 in
theorem wi_X0_limb : Cond.instanceMethod yX0_limb ∈ lw_tbl := List.mem_of_getElem? (i := 855) rfl
set_option maxRecDepth 100000 in
theorem wm_X0_69 : Cond.methodLink RX0 69 yX0_setDifference ∈ lw_tbl := List.mem_of_getElem? (i := 857) rfl
set_option maxRecDepth 100000 in
theorem wi_X0_setDifference : Cond.instanceMethod yX0_setDifference ∈ lw_tbl := List.mem_of_getElem? (i := 859) rfl
set_option maxRecDepth 100000 in
theorem wm_X5_122 : Cond.methodLink RX5 122 yX1_divide ∈ lw_tbl := List.mem_of_getElem? (i := 861) rfl
set_option maxRecDepth 100000 in
theorem wi_X1_divide : Cond.instanceMethod yX1_divide ∈ lw_tbl := List.mem_of_getElem? (i := 862) rfl
set_option maxRecDepth 100000 in
theorem wv_X1_divide : Cond.selects yX1_divide.cls yX1_divide yX1_divide ∈ lw_tbl := List.mem_of_getElem? (i := 863) rfl
set_option maxRecDepth 100000 in
theorem wm_X1_57 : Cond.methodLink RX1 57 yX0_clear ∈ lw_tbl := List.mem_of_getElem? (i := 865) rfl
set_option maxRecDepth 100000 in
theorem wi_X0_clear : Cond.instanceMethod yX0_clear ∈ lw_tbl := List.mem_of_getElem? (i := 866) rfl
set_option maxRecDepth 100000 in
theorem wv_X0_clear : Cond.selects yX0_clear.cls yX0_clear yX0_clear ∈ lw_tbl := List.mem_of_getElem? (i := 867) rfl
set_option maxRecDepth 100000 in
theorem wm_X1_63 : Cond.methodLink RX1 63 yX1_divideByDigit ∈ lw_tbl := List.mem_of_getElem? (i := 869) rfl
set_option maxRecDepth 100000 in
theorem wi_X1_divideByDigit : Cond.instanceMethod yX1_divideByDigit ∈ lw_tbl := List.mem_of_getElem? (i := 871) rfl
set_option maxRecDepth 100000 in
theorem wm_X1_71 : Cond.methodLink RX1 71 yJ9_max_7cf53 ∈ lw_tbl := List.mem_of_getElem? (i := 873) rfl
set_option maxRecDepth 100000 in
theorem wm_X1_75 : Cond.methodLink RX1 75 yX0_trim ∈ lw_tbl := List.mem_of_getElem? (i := 874) rfl
set_option maxRecDepth 100000 in
theorem wm_X1_79 : Cond.methodLink RX1 79 yX0_setTo ∈ lw_tbl := List.mem_of_getElem? (i := 875) rfl
set_option maxRecDepth 100000 in
theorem wm_X1_67 : Cond.methodLink RX1 67 yX1_divideByDigits ∈ lw_tbl := List.mem_of_getElem? (i := 876) rfl
set_option maxRecDepth 100000 in
theorem wi_X1_divideByDigits : Cond.instanceMethod yX1_divideByDigits ∈ lw_tbl := List.mem_of_getElem? (i := 878) rfl
set_option maxRecDepth 100000 in
theorem wm_X1_83 : Cond.methodLink RX1 83 yJ6_numberOfLeadingZeros_0f7a4 ∈ lw_tbl := List.mem_of_getElem? (i := 880) rfl
set_option maxRecDepth 100000 in
theorem wm_X1_88 : Cond.methodLink RX1 88 yX1_shiftUp ∈ lw_tbl := List.mem_of_getElem? (i := 884) rfl
set_option maxRecDepth 100000 in
theorem ws_X1_shiftUp : Cond.static yX1_shiftUp ∈ lw_tbl := List.mem_of_getElem? (i := 885) rfl
set_option maxRecDepth 100000 in
theorem wk_X1_103 : Cond.constantLong RX1 103 (2147483647) ∈ lw_tbl := List.mem_of_getElem? (i := 887) rfl
set_option maxRecDepth 100000 in
theorem wm_X1_92 : Cond.methodLink RX1 92 yX1_guess ∈ lw_tbl := List.mem_of_getElem? (i := 888) rfl
set_option maxRecDepth 100000 in
theorem wi_X1_guess : Cond.instanceMethod yX1_guess ∈ lw_tbl := List.mem_of_getElem? (i := 890) rfl
set_option maxRecDepth 100000 in
theorem wm_X1_96 : Cond.methodLink RX1 96 yX1_takeAway ∈ lw_tbl := List.mem_of_getElem? (i := 892) rfl
set_option maxRecDepth 100000 in
theorem wi_X1_takeAway : Cond.instanceMethod yX1_takeAway ∈ lw_tbl := List.mem_of_getElem? (i := 894) rfl
set_option maxRecDepth 100000 in
theorem wm_X1_100 : Cond.methodLink RX1 100 yX1_putBack ∈ lw_tbl := List.mem_of_getElem? (i := 896) rfl
set_option maxRecDepth 100000 in
theorem wi_X1_putBack : Cond.instanceMethod yX1_putBack ∈ lw_tbl := List.mem_of_getElem? (i := 898) rfl
set_option maxRecDepth 100000 in
theorem wm_X5_116 : Cond.methodLink RX5 116 yX0_turn ∈ lw_tbl := List.mem_of_getElem? (i := 900) rfl
set_option maxRecDepth 100000 in
theorem wi_X0_turn : Cond.instanceMethod yX0_turn ∈ lw_tbl := List.mem_of_getElem? (i := 901) rfl
set_option maxRecDepth 100000 in
theorem wv_X0_turn : Cond.selects yX0_turn.cls yX0_turn yX0_turn ∈ lw_tbl := List.mem_of_getElem? (i := 902) rfl
set_option maxRecDepth 100000 in
theorem wm_L_94 : Cond.methodLink RL 94 yL_step ∈ lw_tbl := List.mem_of_getElem? (i := 904) rfl
set_option maxRecDepth 100000 in
theorem ws_L_step : Cond.static yL_step ∈ lw_tbl := List.mem_of_getElem? (i := 905) rfl
set_option maxRecDepth 100000 in
theorem wc_L_29 : Cond.classLink RL 29 "java/lang/IndexOutOfBoundsException" ∈ lw_tbl := List.mem_of_getElem? (i := 907) rfl
set_option maxRecDepth 100000 in
theorem wm_L_25 : Cond.methodLink RL 25 yX8_step ∈ lw_tbl := List.mem_of_getElem? (i := 908) rfl
set_option maxRecDepth 100000 in
theorem wi_X8_step : Cond.instanceMethod yX8_step ∈ lw_tbl := List.mem_of_getElem? (i := 909) rfl
set_option maxRecDepth 100000 in
theorem wv_X8_step : Cond.selects yX8_step.cls yX8_step yX8_step ∈ lw_tbl := List.mem_of_getElem? (i := 910) rfl
set_option maxRecDepth 100000 in
theorem wc_X8_149 : Cond.classLink RX8 149 "java/lang/IndexOutOfBoundsException" ∈ lw_tbl := List.mem_of_getElem? (i := 913) rfl
set_option maxRecDepth 100000 in
theorem wm_X8_153 : Cond.methodLink RX8 153 ⟨"java/lang/IndexOutOfBoundsException", "<init>", "(Ljava/lang/String;)V"⟩ ∈ lw_tbl := List.mem_of_getElem? (i := 923) rfl
set_option maxRecDepth 100000 in
theorem wm_L_98 : Cond.methodLink RL 98 yL_weight ∈ lw_tbl := List.mem_of_getElem? (i := 927) rfl
set_option maxRecDepth 100000 in
theorem ws_L_weight : Cond.static yL_weight ∈ lw_tbl := List.mem_of_getElem? (i := 928) rfl
set_option maxRecDepth 100000 in
theorem wm_L_31 : Cond.methodLink RL 31 yX8_weight ∈ lw_tbl := List.mem_of_getElem? (i := 930) rfl
set_option maxRecDepth 100000 in
theorem wi_X8_weight : Cond.instanceMethod yX8_weight ∈ lw_tbl := List.mem_of_getElem? (i := 931) rfl
set_option maxRecDepth 100000 in
theorem wv_X8_weight : Cond.selects yX8_weight.cls yX8_weight yX8_weight ∈ lw_tbl := List.mem_of_getElem? (i := 932) rfl
set_option maxRecDepth 100000 in
theorem wm_X8_158 : Cond.methodLink RX8 158 yX6_put ∈ lw_tbl := List.mem_of_getElem? (i := 935) rfl
set_option maxRecDepth 100000 in
theorem wi_X6_put : Cond.instanceMethod yX6_put ∈ lw_tbl := List.mem_of_getElem? (i := 936) rfl
set_option maxRecDepth 100000 in
theorem wv_X6_put : Cond.selects yX6_put.cls yX6_put yX6_put ∈ lw_tbl := List.mem_of_getElem? (i := 937) rfl
set_option maxRecDepth 100000 in
theorem wm_L_102 : Cond.methodLink RL 102 yL_list ∈ lw_tbl := List.mem_of_getElem? (i := 939) rfl
set_option maxRecDepth 100000 in
theorem ws_L_list : Cond.static yL_list ∈ lw_tbl := List.mem_of_getElem? (i := 940) rfl
set_option maxRecDepth 100000 in
theorem wm_L_35 : Cond.methodLink RL 35 yX8_list ∈ lw_tbl := List.mem_of_getElem? (i := 942) rfl
set_option maxRecDepth 100000 in
theorem wi_X8_list : Cond.instanceMethod yX8_list ∈ lw_tbl := List.mem_of_getElem? (i := 943) rfl
set_option maxRecDepth 100000 in
theorem wv_X8_list : Cond.selects yX8_list.cls yX8_list yX8_list ∈ lw_tbl := List.mem_of_getElem? (i := 944) rfl
set_option maxRecDepth 100000 in
theorem wm_X8_161 : Cond.methodLink RX8 161 yX8_makeList ∈ lw_tbl := List.mem_of_getElem? (i := 946) rfl
set_option maxRecDepth 100000 in
theorem wi_X8_makeList : Cond.instanceMethod yX8_makeList ∈ lw_tbl := List.mem_of_getElem? (i := 948) rfl
set_option maxRecDepth 100000 in
theorem wc_X8_239 : Cond.classLink RX8 239 RX3 ∈ lw_tbl := List.mem_of_getElem? (i := 950) rfl
set_option maxRecDepth 100000 in
theorem wn_X3 : Cond.instantiable RX3 5 ∈ lw_tbl := List.mem_of_getElem? (i := 952) rfl
set_option maxRecDepth 100000 in
theorem wm_X8_274 : Cond.methodLink RX8 274 yX3_init ∈ lw_tbl := List.mem_of_getElem? (i := 953) rfl
set_option maxRecDepth 100000 in
theorem wi_X3_init : Cond.instanceMethod yX3_init ∈ lw_tbl := List.mem_of_getElem? (i := 954) rfl
set_option maxRecDepth 100000 in
theorem wm_X3_3 : Cond.methodLink RX3 3 ⟨"java/lang/Object", "<init>", "()V"⟩ ∈ lw_tbl := List.mem_of_getElem? (i := 956) rfl
set_option maxRecDepth 100000 in
theorem wm_X3_28 : Cond.methodLink RX3 28 yJ6_bitCount_0f7a4 ∈ lw_tbl := List.mem_of_getElem? (i := 957) rfl
set_option maxRecDepth 100000 in
theorem wf_X3_24 : Cond.fieldLink RX3 24 RX3 "payoffs" "LBestReplies$Payoffs;" ∈ lw_tbl := List.mem_of_getElem? (i := 963) rfl
set_option maxRecDepth 100000 in
theorem wf_X3_9 : Cond.fieldLink RX3 9 RX3 "ranks" "[I" ∈ lw_tbl := List.mem_of_getElem? (i := 964) rfl
set_option maxRecDepth 100000 in
theorem wf_X3_15 : Cond.fieldLink RX3 15 RX3 "minors" "[I" ∈ lw_tbl := List.mem_of_getElem? (i := 965) rfl
set_option maxRecDepth 100000 in
theorem wf_X3_18 : Cond.fieldLink RX3 18 RX3 "sums" "[I" ∈ lw_tbl := List.mem_of_getElem? (i := 966) rfl
set_option maxRecDepth 100000 in
theorem wf_X3_21 : Cond.fieldLink RX3 21 RX3 "excess" "[I" ∈ lw_tbl := List.mem_of_getElem? (i := 967) rfl
set_option maxRecDepth 100000 in
theorem wm_X8_277 : Cond.methodLink RX8 277 yX3_fill ∈ lw_tbl := List.mem_of_getElem? (i := 979) rfl
set_option maxRecDepth 100000 in
theorem wi_X3_fill : Cond.instanceMethod yX3_fill ∈ lw_tbl := List.mem_of_getElem? (i := 980) rfl
set_option maxRecDepth 100000 in
theorem wv_X3_fill : Cond.selects yX3_fill.cls yX3_fill yX3_fill ∈ lw_tbl := List.mem_of_getElem? (i := 981) rfl
set_option maxRecDepth 100000 in
theorem wm_X3_43 : Cond.methodLink RX3 43 yX3_expand ∈ lw_tbl := List.mem_of_getElem? (i := 983) rfl
set_option maxRecDepth 100000 in
theorem wi_X3_expand : Cond.instanceMethod yX3_expand ∈ lw_tbl := List.mem_of_getElem? (i := 985) rfl
set_option maxRecDepth 100000 in
theorem wm_X3_47 : Cond.methodLink RX3 47 yX3_place ∈ lw_tbl := List.mem_of_getElem? (i := 987) rfl
set_option maxRecDepth 100000 in
theorem wi_X3_place : Cond.instanceMethod yX3_place ∈ lw_tbl := List.mem_of_getElem? (i := 989) rfl
set_option maxRecDepth 100000 in
theorem wf_X3_96 : Cond.fieldLink RX3 96 RX3 "STARTS" "[I" ∈ lw_tbl := List.mem_of_getElem? (i := 991) rfl
set_option maxRecDepth 100000 in
theorem wf_X3_99 : Cond.fieldLink RX3 99 RX3 "SETS" "[I" ∈ lw_tbl := List.mem_of_getElem? (i := 993) rfl
set_option maxRecDepth 100000 in
theorem wm_X3_78 : Cond.methodLink RX3 78 yJ6_numberOfTrailingZeros_0f7a4 ∈ lw_tbl := List.mem_of_getElem? (i := 995) rfl
set_option maxRecDepth 100000 in
theorem wm_X3_81 : Cond.methodLink RX3 81 yJ7_fill_fda19 ∈ lw_tbl := List.mem_of_getElem? (i := 998) rfl
set_option maxRecDepth 100000 in
theorem wm_X3_86 : Cond.methodLink RX3 86 yX4_lifted ∈ lw_tbl := List.mem_of_getElem? (i := 999) rfl
set_option maxRecDepth 100000 in
theorem wm_X3_89 : Cond.methodLink RX3 89 yX3_addTimes ∈ lw_tbl := List.mem_of_getElem? (i := 1000) rfl
set_option maxRecDepth 100000 in
theorem ws_X3_addTimes : Cond.static yX3_addTimes ∈ lw_tbl := List.mem_of_getElem? (i := 1001) rfl
set_option maxRecDepth 100000 in
theorem wk_X3_102 : Cond.constantLong RX3 102 (2147483647) ∈ lw_tbl := List.mem_of_getElem? (i := 1003) rfl
set_option maxRecDepth 100000 in
theorem wm_X8_280 : Cond.methodLink RX8 280 yJ9_min_7cf53 ∈ lw_tbl := List.mem_of_getElem? (i := 1004) rfl
set_option maxRecDepth 100000 in
theorem wm_X8_244 : Cond.methodLink RX8 244 yJ6_bitCount_0f7a4 ∈ lw_tbl := List.mem_of_getElem? (i := 1005) rfl
set_option maxRecDepth 100000 in
theorem wm_X8_285 : Cond.methodLink RX8 285 yX8_listAllWith ∈ lw_tbl := List.mem_of_getElem? (i := 1006) rfl
set_option maxRecDepth 100000 in
theorem wi_X8_listAllWith : Cond.instanceMethod yX8_listAllWith ∈ lw_tbl := List.mem_of_getElem? (i := 1008) rfl
set_option maxRecDepth 100000 in
theorem wm_X8_288 : Cond.methodLink RX8 288 yX3_holds ∈ lw_tbl := List.mem_of_getElem? (i := 1010) rfl
set_option maxRecDepth 100000 in
theorem wi_X3_holds : Cond.instanceMethod yX3_holds ∈ lw_tbl := List.mem_of_getElem? (i := 1011) rfl
set_option maxRecDepth 100000 in
theorem wv_X3_holds : Cond.selects yX3_holds.cls yX3_holds yX3_holds ∈ lw_tbl := List.mem_of_getElem? (i := 1012) rfl
set_option maxRecDepth 100000 in
theorem wm_X3_55 : Cond.methodLink RX3 55 yX3_signOf ∈ lw_tbl := List.mem_of_getElem? (i := 1014) rfl
set_option maxRecDepth 100000 in
theorem wi_X3_signOf : Cond.instanceMethod yX3_signOf ∈ lw_tbl := List.mem_of_getElem? (i := 1015) rfl
set_option maxRecDepth 100000 in
theorem wv_X3_signOf : Cond.selects yX3_signOf.cls yX3_signOf yX3_signOf ∈ lw_tbl := List.mem_of_getElem? (i := 1016) rfl
set_option maxRecDepth 100000 in
theorem wm_X3_51 : Cond.methodLink RX3 51 yX3_signAt ∈ lw_tbl := List.mem_of_getElem? (i := 1018) rfl
set_option maxRecDepth 100000 in
theorem ws_X3_signAt : Cond.static yX3_signAt ∈ lw_tbl := List.mem_of_getElem? (i := 1019) rfl
set_option maxRecDepth 100000 in
theorem wm_X3_58 : Cond.methodLink RX3 58 yX3_sumCofactors ∈ lw_tbl := List.mem_of_getElem? (i := 1021) rfl
set_option maxRecDepth 100000 in
theorem wi_X3_sumCofactors : Cond.instanceMethod yX3_sumCofactors ∈ lw_tbl := List.mem_of_getElem? (i := 1023) rfl
set_option maxRecDepth 100000 in
theorem wm_X3_62 : Cond.methodLink RX3 62 yX3_excessSign ∈ lw_tbl := List.mem_of_getElem? (i := 1025) rfl
set_option maxRecDepth 100000 in
theorem wi_X3_excessSign : Cond.instanceMethod yX3_excessSign ∈ lw_tbl := List.mem_of_getElem? (i := 1027) rfl
set_option maxRecDepth 100000 in
theorem wm_X3_93 : Cond.methodLink RX3 93 yJ7_fill_53178 ∈ lw_tbl := List.mem_of_getElem? (i := 1029) rfl
set_option maxRecDepth 100000 in
theorem wm_L_106 : Cond.methodLink RL 106 yL_support ∈ lw_tbl := List.mem_of_getElem? (i := 1030) rfl
set_option maxRecDepth 100000 in
theorem ws_L_support : Cond.static yL_support ∈ lw_tbl := List.mem_of_getElem? (i := 1031) rfl
set_option maxRecDepth 100000 in
theorem wm_L_39 : Cond.methodLink RL 39 yX8_support ∈ lw_tbl := List.mem_of_getElem? (i := 1033) rfl
set_option maxRecDepth 100000 in
theorem wi_X8_support : Cond.instanceMethod yX8_support ∈ lw_tbl := List.mem_of_getElem? (i := 1034) rfl
set_option maxRecDepth 100000 in
theorem wv_X8_support : Cond.selects yX8_support.cls yX8_support yX8_support ∈ lw_tbl := List.mem_of_getElem? (i := 1035) rfl
set_option maxRecDepth 100000 in
theorem wm_X8_164 : Cond.methodLink RX8 164 yX8_needSource ∈ lw_tbl := List.mem_of_getElem? (i := 1037) rfl
set_option maxRecDepth 100000 in
theorem wi_X8_needSource : Cond.instanceMethod yX8_needSource ∈ lw_tbl := List.mem_of_getElem? (i := 1039) rfl
set_option maxRecDepth 100000 in
theorem wm_X8_264 : Cond.methodLink RX8 264 yX8_isSource ∈ lw_tbl := List.mem_of_getElem? (i := 1041) rfl
set_option maxRecDepth 100000 in
theorem wi_X8_isSource : Cond.instanceMethod yX8_isSource ∈ lw_tbl := List.mem_of_getElem? (i := 1043) rfl
set_option maxRecDepth 100000 in
theorem wm_X8_270 : Cond.methodLink RX8 270 yX6_isOne ∈ lw_tbl := List.mem_of_getElem? (i := 1045) rfl
set_option maxRecDepth 100000 in
theorem wi_X6_isOne : Cond.instanceMethod yX6_isOne ∈ lw_tbl := List.mem_of_getElem? (i := 1046) rfl
set_option maxRecDepth 100000 in
theorem wv_X6_isOne : Cond.selects yX6_isOne.cls yX6_isOne yX6_isOne ∈ lw_tbl := List.mem_of_getElem? (i := 1047) rfl
set_option maxRecDepth 100000 in
theorem wm_X6_24 : Cond.methodLink RX6 24 yX6_share ∈ lw_tbl := List.mem_of_getElem? (i := 1049) rfl
set_option maxRecDepth 100000 in
theorem wi_X6_share : Cond.instanceMethod yX6_share ∈ lw_tbl := List.mem_of_getElem? (i := 1051) rfl
set_option maxRecDepth 100000 in
theorem wm_X6_28 : Cond.methodLink RX6 28 yX6_denominator ∈ lw_tbl := List.mem_of_getElem? (i := 1053) rfl
set_option maxRecDepth 100000 in
theorem wi_X6_denominator : Cond.instanceMethod yX6_denominator ∈ lw_tbl := List.mem_of_getElem? (i := 1055) rfl
set_option maxRecDepth 100000 in
theorem wm_X6_44 : Cond.methodLink RX6 44 yJ9_max_7cf53 ∈ lw_tbl := List.mem_of_getElem? (i := 1057) rfl
set_option maxRecDepth 100000 in
theorem wm_X8_167 : Cond.methodLink RX8 167 yX8_load ∈ lw_tbl := List.mem_of_getElem? (i := 1059) rfl
set_option maxRecDepth 100000 in
theorem wi_X8_load : Cond.instanceMethod yX8_load ∈ lw_tbl := List.mem_of_getElem? (i := 1061) rfl
set_option maxRecDepth 100000 in
theorem wm_X8_292 : Cond.methodLink RX8 292 yX7_clear ∈ lw_tbl := List.mem_of_getElem? (i := 1063) rfl
set_option maxRecDepth 100000 in
theorem wi_X7_clear : Cond.instanceMethod yX7_clear ∈ lw_tbl := List.mem_of_getElem? (i := 1064) rfl
set_option maxRecDepth 100000 in
theorem wv_X7_clear : Cond.selects yX7_clear.cls yX7_clear yX7_clear ∈ lw_tbl := List.mem_of_getElem? (i := 1065) rfl
set_option maxRecDepth 100000 in
theorem wm_X7_26 : Cond.methodLink RX7 26 yX0_clear ∈ lw_tbl := List.mem_of_getElem? (i := 1067) rfl
set_option maxRecDepth 100000 in
theorem wm_X8_293 : Cond.methodLink RX8 293 yX6_read ∈ lw_tbl := List.mem_of_getElem? (i := 1068) rfl
set_option maxRecDepth 100000 in
theorem wi_X6_read : Cond.instanceMethod yX6_read ∈ lw_tbl := List.mem_of_getElem? (i := 1069) rfl
set_option maxRecDepth 100000 in
theorem wv_X6_read : Cond.selects yX6_read.cls yX6_read yX6_read ∈ lw_tbl := List.mem_of_getElem? (i := 1070) rfl
set_option maxRecDepth 100000 in
theorem wm_X6_38 : Cond.methodLink RX6 38 yX0_setTo ∈ lw_tbl := List.mem_of_getElem? (i := 1072) rfl
set_option maxRecDepth 100000 in
theorem wm_X8_297 : Cond.methodLink RX8 297 yX5_read ∈ lw_tbl := List.mem_of_getElem? (i := 1073) rfl
set_option maxRecDepth 100000 in
theorem wi_X5_read : Cond.instanceMethod yX5_read ∈ lw_tbl := List.mem_of_getElem? (i := 1074) rfl
set_option maxRecDepth 100000 in
theorem wv_X5_read : Cond.selects yX5_read.cls yX5_read yX5_read ∈ lw_tbl := List.mem_of_getElem? (i := 1075) rfl
set_option maxRecDepth 100000 in
theorem wm_X5_89 : Cond.methodLink RX5 89 yX0_copy ∈ lw_tbl := List.mem_of_getElem? (i := 1077) rfl
set_option maxRecDepth 100000 in
theorem wi_X0_copy : Cond.instanceMethod yX0_copy ∈ lw_tbl := List.mem_of_getElem? (i := 1078) rfl
set_option maxRecDepth 100000 in
theorem wv_X0_copy : Cond.selects yX0_copy.cls yX0_copy yX0_copy ∈ lw_tbl := List.mem_of_getElem? (i := 1079) rfl
set_option maxRecDepth 100000 in
theorem wm_X0_20 : Cond.methodLink RX0 20 ⟨"java/lang/System", "arraycopy", "(Ljava/lang/Object;ILjava/lang/Object;II)V"⟩ ∈ lw_tbl := List.mem_of_getElem? (i := 1081) rfl
set_option maxRecDepth 100000 in
theorem wm_X8_300 : Cond.methodLink RX8 300 yX3_read ∈ lw_tbl := List.mem_of_getElem? (i := 1082) rfl
set_option maxRecDepth 100000 in
theorem wi_X3_read : Cond.instanceMethod yX3_read ∈ lw_tbl := List.mem_of_getElem? (i := 1083) rfl
set_option maxRecDepth 100000 in
theorem wv_X3_read : Cond.selects yX3_read.cls yX3_read yX3_read ∈ lw_tbl := List.mem_of_getElem? (i := 1084) rfl
set_option maxRecDepth 100000 in
theorem wm_X3_72 : Cond.methodLink RX3 72 yX0_setToSize ∈ lw_tbl := List.mem_of_getElem? (i := 1086) rfl
set_option maxRecDepth 100000 in
theorem wi_X0_setToSize : Cond.instanceMethod yX0_setToSize ∈ lw_tbl := List.mem_of_getElem? (i := 1087) rfl
set_option maxRecDepth 100000 in
theorem wv_X0_setToSize : Cond.selects yX0_setToSize.cls yX0_setToSize yX0_setToSize ∈ lw_tbl := List.mem_of_getElem? (i := 1088) rfl
set_option maxRecDepth 100000 in
theorem wm_X8_301 : Cond.methodLink RX8 301 yX7_sumUp ∈ lw_tbl := List.mem_of_getElem? (i := 1090) rfl
set_option maxRecDepth 100000 in
theorem wi_X7_sumUp : Cond.instanceMethod yX7_sumUp ∈ lw_tbl := List.mem_of_getElem? (i := 1091) rfl
set_option maxRecDepth 100000 in
theorem wv_X7_sumUp : Cond.selects yX7_sumUp.cls yX7_sumUp yX7_sumUp ∈ lw_tbl := List.mem_of_getElem? (i := 1092) rfl
set_option maxRecDepth 100000 in
theorem wm_X7_29 : Cond.methodLink RX7 29 yX0_add ∈ lw_tbl := List.mem_of_getElem? (i := 1094) rfl
set_option maxRecDepth 100000 in
theorem wi_X0_add : Cond.instanceMethod yX0_add ∈ lw_tbl := List.mem_of_getElem? (i := 1095) rfl
set_option maxRecDepth 100000 in
theorem wv_X0_add : Cond.selects yX0_add.cls yX0_add yX0_add ∈ lw_tbl := List.mem_of_getElem? (i := 1096) rfl
set_option maxRecDepth 100000 in
theorem wm_X8_170 : Cond.methodLink RX8 170 yX7_bits ∈ lw_tbl := List.mem_of_getElem? (i := 1098) rfl
set_option maxRecDepth 100000 in
theorem wi_X7_bits : Cond.instanceMethod yX7_bits ∈ lw_tbl := List.mem_of_getElem? (i := 1099) rfl
set_option maxRecDepth 100000 in
theorem wv_X7_bits : Cond.selects yX7_bits.cls yX7_bits yX7_bits ∈ lw_tbl := List.mem_of_getElem? (i := 1100) rfl
set_option maxRecDepth 100000 in
theorem wm_L_109 : Cond.methodLink RL 109 yL_strategy ∈ lw_tbl := List.mem_of_getElem? (i := 1102) rfl
set_option maxRecDepth 100000 in
theorem ws_L_strategy : Cond.static yL_strategy ∈ lw_tbl := List.mem_of_getElem? (i := 1103) rfl
set_option maxRecDepth 100000 in
theorem wm_L_42 : Cond.methodLink RL 42 yX8_strategy ∈ lw_tbl := List.mem_of_getElem? (i := 1105) rfl
set_option maxRecDepth 100000 in
theorem wi_X8_strategy : Cond.instanceMethod yX8_strategy ∈ lw_tbl := List.mem_of_getElem? (i := 1106) rfl
set_option maxRecDepth 100000 in
theorem wv_X8_strategy : Cond.selects yX8_strategy.cls yX8_strategy yX8_strategy ∈ lw_tbl := List.mem_of_getElem? (i := 1107) rfl
set_option maxRecDepth 100000 in
theorem wm_X8_180 : Cond.methodLink RX8 180 yX0_copy ∈ lw_tbl := List.mem_of_getElem? (i := 1109) rfl
set_option maxRecDepth 100000 in
theorem wm_X8_190 : Cond.methodLink RX8 190 yX2_reduce ∈ lw_tbl := List.mem_of_getElem? (i := 1110) rfl
set_option maxRecDepth 100000 in
theorem wi_X2_reduce : Cond.instanceMethod yX2_reduce ∈ lw_tbl := List.mem_of_getElem? (i := 1111) rfl
set_option maxRecDepth 100000 in
theorem wv_X2_reduce : Cond.selects yX2_reduce.cls yX2_reduce yX2_reduce ∈ lw_tbl := List.mem_of_getElem? (i := 1112) rfl
set_option maxRecDepth 100000 in
theorem wm_X2_31 : Cond.methodLink RX2 31 yX1_findCommon ∈ lw_tbl := List.mem_of_getElem? (i := 1114) rfl
set_option maxRecDepth 100000 in
theorem wi_X1_findCommon : Cond.instanceMethod yX1_findCommon ∈ lw_tbl := List.mem_of_getElem? (i := 1115) rfl
set_option maxRecDepth 100000 in
theorem wv_X1_findCommon : Cond.selects yX1_findCommon.cls yX1_findCommon yX1_findCommon ∈ lw_tbl := List.mem_of_getElem? (i := 1116) rfl
set_option maxRecDepth 100000 in
theorem wm_X1_32 : Cond.methodLink RX1 32 yX0_copy ∈ lw_tbl := List.mem_of_getElem? (i := 1118) rfl
set_option maxRecDepth 100000 in
theorem wm_X1_40 : Cond.methodLink RX1 40 yJ9_abs_0f7a4 ∈ lw_tbl := List.mem_of_getElem? (i := 1119) rfl
set_option maxRecDepth 100000 in
theorem wm_X1_46 : Cond.methodLink RX1 46 yX1_divide ∈ lw_tbl := List.mem_of_getElem? (i := 1120) rfl
set_option maxRecDepth 100000 in
theorem wm_X2_36 : Cond.methodLink RX2 36 yX1_divideByCommon ∈ lw_tbl := List.mem_of_getElem? (i := 1121) rfl
set_option maxRecDepth 100000 in
theorem wi_X1_divideByCommon : Cond.instanceMethod yX1_divideByCommon ∈ lw_tbl := List.mem_of_getElem? (i := 1122) rfl
set_option maxRecDepth 100000 in
theorem wv_X1_divideByCommon : Cond.selects yX1_divideByCommon.cls yX1_divideByCommon yX1_divideByCommon ∈ lw_tbl := List.mem_of_getElem? (i := 1123) rfl
set_option maxRecDepth 100000 in
theorem wm_X1_50 : Cond.methodLink RX1 50 yX0_isOne ∈ lw_tbl := List.mem_of_getElem? (i := 1125) rfl
set_option maxRecDepth 100000 in
theorem wi_X0_isOne : Cond.instanceMethod yX0_isOne ∈ lw_tbl := List.mem_of_getElem? (i := 1126) rfl
set_option maxRecDepth 100000 in
theorem wv_X0_isOne : Cond.selects yX0_isOne.cls yX0_isOne yX0_isOne ∈ lw_tbl := List.mem_of_getElem? (i := 1127) rfl
set_option maxRecDepth 100000 in
theorem wm_L_113 : Cond.methodLink RL 113 yL_gets ∈ lw_tbl := List.mem_of_getElem? (i := 1129) rfl
set_option maxRecDepth 100000 in
theorem ws_L_gets : Cond.static yL_gets ∈ lw_tbl := List.mem_of_getElem? (i := 1130) rfl
set_option maxRecDepth 100000 in
theorem wm_L_46 : Cond.methodLink RL 46 yX8_gets ∈ lw_tbl := List.mem_of_getElem? (i := 1132) rfl
set_option maxRecDepth 100000 in
theorem wi_X8_gets : Cond.instanceMethod yX8_gets ∈ lw_tbl := List.mem_of_getElem? (i := 1133) rfl
set_option maxRecDepth 100000 in
theorem wv_X8_gets : Cond.selects yX8_gets.cls yX8_gets yX8_gets ∈ lw_tbl := List.mem_of_getElem? (i := 1134) rfl
set_option maxRecDepth 100000 in
theorem wm_X8_197 : Cond.methodLink RX8 197 yX8_weighValues ∈ lw_tbl := List.mem_of_getElem? (i := 1136) rfl
set_option maxRecDepth 100000 in
theorem wi_X8_weighValues : Cond.instanceMethod yX8_weighValues ∈ lw_tbl := List.mem_of_getElem? (i := 1138) rfl
set_option maxRecDepth 100000 in
theorem wm_X8_204 : Cond.methodLink RX8 204 yX0_clear ∈ lw_tbl := List.mem_of_getElem? (i := 1140) rfl
set_option maxRecDepth 100000 in
theorem wm_X8_207 : Cond.methodLink RX8 207 yX4_value ∈ lw_tbl := List.mem_of_getElem? (i := 1141) rfl
set_option maxRecDepth 100000 in
theorem wi_X4_value : Cond.instanceMethod yX4_value ∈ lw_tbl := List.mem_of_getElem? (i := 1142) rfl
set_option maxRecDepth 100000 in
theorem wv_X4_value : Cond.selects yX4_value.cls yX4_value yX4_value ∈ lw_tbl := List.mem_of_getElem? (i := 1143) rfl
set_option maxRecDepth 100000 in
theorem wm_X4_62 : Cond.methodLink RX4 62 yX0_setProductBy ∈ lw_tbl := List.mem_of_getElem? (i := 1145) rfl
set_option maxRecDepth 100000 in
theorem wi_X0_setProductBy : Cond.instanceMethod yX0_setProductBy ∈ lw_tbl := List.mem_of_getElem? (i := 1146) rfl
set_option maxRecDepth 100000 in
theorem wv_X0_setProductBy : Cond.selects yX0_setProductBy.cls yX0_setProductBy yX0_setProductBy ∈ lw_tbl := List.mem_of_getElem? (i := 1147) rfl
set_option maxRecDepth 100000 in
theorem wm_X0_48 : Cond.methodLink RX0 48 yJ9_abs_067f4 ∈ lw_tbl := List.mem_of_getElem? (i := 1149) rfl
set_option maxRecDepth 100000 in
theorem wm_X4_68 : Cond.methodLink RX4 68 yX0_add ∈ lw_tbl := List.mem_of_getElem? (i := 1152) rfl
set_option maxRecDepth 100000 in
theorem wm_X8_230 : Cond.methodLink RX8 230 yX0_setProduct ∈ lw_tbl := List.mem_of_getElem? (i := 1153) rfl
set_option maxRecDepth 100000 in
theorem wm_X8_304 : Cond.methodLink RX8 304 yX0_add ∈ lw_tbl := List.mem_of_getElem? (i := 1154) rfl
set_option maxRecDepth 100000 in
theorem wm_X8_200 : Cond.methodLink RX8 200 yX8_holdOfBoth ∈ lw_tbl := List.mem_of_getElem? (i := 1155) rfl
set_option maxRecDepth 100000 in
theorem wi_X8_holdOfBoth : Cond.instanceMethod yX8_holdOfBoth ∈ lw_tbl := List.mem_of_getElem? (i := 1157) rfl
set_option maxRecDepth 100000 in
theorem wm_X8_214 : Cond.methodLink RX8 214 yX0_setTo ∈ lw_tbl := List.mem_of_getElem? (i := 1159) rfl
set_option maxRecDepth 100000 in
theorem wm_X8_218 : Cond.methodLink RX8 218 yX2_multiplyBelow ∈ lw_tbl := List.mem_of_getElem? (i := 1160) rfl
set_option maxRecDepth 100000 in
theorem wi_X2_multiplyBelow : Cond.instanceMethod yX2_multiplyBelow ∈ lw_tbl := List.mem_of_getElem? (i := 1161) rfl
set_option maxRecDepth 100000 in
theorem wv_X2_multiplyBelow : Cond.selects yX2_multiplyBelow.cls yX2_multiplyBelow yX2_multiplyBelow ∈ lw_tbl := List.mem_of_getElem? (i := 1162) rfl
set_option maxRecDepth 100000 in
theorem wm_X2_23 : Cond.methodLink RX2 23 yX0_setProduct ∈ lw_tbl := List.mem_of_getElem? (i := 1164) rfl
set_option maxRecDepth 100000 in
theorem wm_X2_27 : Cond.methodLink RX2 27 yX0_copy ∈ lw_tbl := List.mem_of_getElem? (i := 1165) rfl
set_option maxRecDepth 100000 in
theorem wm_L_116 : Cond.methodLink RL 116 yL_replies ∈ lw_tbl := List.mem_of_getElem? (i := 1166) rfl
set_option maxRecDepth 100000 in
theorem ws_L_replies : Cond.static yL_replies ∈ lw_tbl := List.mem_of_getElem? (i := 1167) rfl
set_option maxRecDepth 100000 in
theorem wm_L_49 : Cond.methodLink RL 49 yX8_replies ∈ lw_tbl := List.mem_of_getElem? (i := 1169) rfl
set_option maxRecDepth 100000 in
theorem wi_X8_replies : Cond.instanceMethod yX8_replies ∈ lw_tbl := List.mem_of_getElem? (i := 1170) rfl
set_option maxRecDepth 100000 in
theorem wv_X8_replies : Cond.selects yX8_replies.cls yX8_replies yX8_replies ∈ lw_tbl := List.mem_of_getElem? (i := 1171) rfl
set_option maxRecDepth 100000 in
theorem wm_X8_222 : Cond.methodLink RX8 222 yX8_bestBits ∈ lw_tbl := List.mem_of_getElem? (i := 1173) rfl
set_option maxRecDepth 100000 in
theorem wi_X8_bestBits : Cond.instanceMethod yX8_bestBits ∈ lw_tbl := List.mem_of_getElem? (i := 1175) rfl
set_option maxRecDepth 100000 in
theorem wm_X8_307 : Cond.methodLink RX8 307 yX0_compareWith ∈ lw_tbl := List.mem_of_getElem? (i := 1177) rfl
set_option maxRecDepth 100000 in
theorem wm_X8_225 : Cond.methodLink RX8 225 yJ6_numberOfTrailingZeros_0f7a4 ∈ lw_tbl := List.mem_of_getElem? (i := 1178) rfl
set_option maxRecDepth 100000 in
theorem wm_X8_233 : Cond.methodLink RX8 233 yX0_subtract ∈ lw_tbl := List.mem_of_getElem? (i := 1179) rfl
set_option maxRecDepth 100000 in
theorem wm_L_119 : Cond.methodLink RL 119 yL_judge ∈ lw_tbl := List.mem_of_getElem? (i := 1180) rfl
set_option maxRecDepth 100000 in
theorem ws_L_judge : Cond.static yL_judge ∈ lw_tbl := List.mem_of_getElem? (i := 1181) rfl
set_option maxRecDepth 100000 in
theorem wm_L_52 : Cond.methodLink RL 52 yX8_judge ∈ lw_tbl := List.mem_of_getElem? (i := 1183) rfl
set_option maxRecDepth 100000 in
theorem wi_X8_judge : Cond.instanceMethod yX8_judge ∈ lw_tbl := List.mem_of_getElem? (i := 1184) rfl
set_option maxRecDepth 100000 in
theorem wv_X8_judge : Cond.selects yX8_judge.cls yX8_judge yX8_judge ∈ lw_tbl := List.mem_of_getElem? (i := 1185) rfl
set_option maxRecDepth 100000 in
theorem wm_L_122 : Cond.methodLink RL 122 yL_index ∈ lw_tbl := List.mem_of_getElem? (i := 1187) rfl
set_option maxRecDepth 100000 in
theorem ws_L_index : Cond.static yL_index ∈ lw_tbl := List.mem_of_getElem? (i := 1188) rfl
set_option maxRecDepth 100000 in
theorem wm_L_56 : Cond.methodLink RL 56 yX8_index ∈ lw_tbl := List.mem_of_getElem? (i := 1190) rfl
set_option maxRecDepth 100000 in
theorem wi_X8_index : Cond.instanceMethod yX8_index ∈ lw_tbl := List.mem_of_getElem? (i := 1191) rfl
set_option maxRecDepth 100000 in
theorem wv_X8_index : Cond.selects yX8_index.cls yX8_index yX8_index ∈ lw_tbl := List.mem_of_getElem? (i := 1192) rfl
set_option maxRecDepth 100000 in
theorem wm_X8_238 : Cond.methodLink RX8 238 yX3_signOf ∈ lw_tbl := List.mem_of_getElem? (i := 1195) rfl
set_option maxRecDepth 100000 in
theorem wm_L_125 : Cond.methodLink RL 125 yL_round ∈ lw_tbl := List.mem_of_getElem? (i := 1196) rfl
set_option maxRecDepth 100000 in
theorem ws_L_round : Cond.static yL_round ∈ lw_tbl := List.mem_of_getElem? (i := 1197) rfl
set_option maxRecDepth 100000 in
theorem wm_L_59 : Cond.methodLink RL 59 yX8_round ∈ lw_tbl := List.mem_of_getElem? (i := 1199) rfl
set_option maxRecDepth 100000 in
theorem wi_X8_round : Cond.instanceMethod yX8_round ∈ lw_tbl := List.mem_of_getElem? (i := 1200) rfl
set_option maxRecDepth 100000 in
theorem wv_X8_round : Cond.selects yX8_round.cls yX8_round yX8_round ∈ lw_tbl := List.mem_of_getElem? (i := 1201) rfl
set_option maxRecDepth 100000 in
theorem wm_X8_247 : Cond.methodLink RX8 247 yX4_dominated ∈ lw_tbl := List.mem_of_getElem? (i := 1203) rfl
set_option maxRecDepth 100000 in
theorem wi_X4_dominated : Cond.instanceMethod yX4_dominated ∈ lw_tbl := List.mem_of_getElem? (i := 1204) rfl
set_option maxRecDepth 100000 in
theorem wv_X4_dominated : Cond.selects yX4_dominated.cls yX4_dominated yX4_dominated ∈ lw_tbl := List.mem_of_getElem? (i := 1205) rfl
set_option maxRecDepth 100000 in
theorem wm_X4_72 : Cond.methodLink RX4 72 yX4_isMore ∈ lw_tbl := List.mem_of_getElem? (i := 1207) rfl
set_option maxRecDepth 100000 in
theorem wi_X4_isMore : Cond.instanceMethod yX4_isMore ∈ lw_tbl := List.mem_of_getElem? (i := 1209) rfl
set_option maxRecDepth 100000 in
theorem wm_L_128 : Cond.methodLink RL 128 yL_isThere ∈ lw_tbl := List.mem_of_getElem? (i := 1211) rfl
set_option maxRecDepth 100000 in
theorem ws_L_isThere : Cond.static yL_isThere ∈ lw_tbl := List.mem_of_getElem? (i := 1212) rfl
set_option maxRecDepth 100000 in
theorem wm_L_62 : Cond.methodLink RL 62 yX8_isThere ∈ lw_tbl := List.mem_of_getElem? (i := 1214) rfl
set_option maxRecDepth 100000 in
theorem wi_X8_isThere : Cond.instanceMethod yX8_isThere ∈ lw_tbl := List.mem_of_getElem? (i := 1215) rfl
set_option maxRecDepth 100000 in
theorem wv_X8_isThere : Cond.selects yX8_isThere.cls yX8_isThere yX8_isThere ∈ lw_tbl := List.mem_of_getElem? (i := 1216) rfl
set_option maxRecDepth 100000 in
theorem wm_L_131 : Cond.methodLink RL 131 yL_part ∈ lw_tbl := List.mem_of_getElem? (i := 1218) rfl
set_option maxRecDepth 100000 in
theorem ws_L_part : Cond.static yL_part ∈ lw_tbl := List.mem_of_getElem? (i := 1219) rfl
set_option maxRecDepth 100000 in
theorem wm_L_66 : Cond.methodLink RL 66 yX8_part ∈ lw_tbl := List.mem_of_getElem? (i := 1221) rfl
set_option maxRecDepth 100000 in
theorem wi_X8_part : Cond.instanceMethod yX8_part ∈ lw_tbl := List.mem_of_getElem? (i := 1222) rfl
set_option maxRecDepth 100000 in
theorem wv_X8_part : Cond.selects yX8_part.cls yX8_part yX8_part ∈ lw_tbl := List.mem_of_getElem? (i := 1223) rfl
set_option maxRecDepth 100000 in
theorem wm_X8_252 : Cond.methodLink RX8 252 yX0_word ∈ lw_tbl := List.mem_of_getElem? (i := 1226) rfl
set_option maxRecDepth 100000 in
theorem wi_X0_word : Cond.instanceMethod yX0_word ∈ lw_tbl := List.mem_of_getElem? (i := 1227) rfl
set_option maxRecDepth 100000 in
theorem wv_X0_word : Cond.selects yX0_word.cls yX0_word yX0_word ∈ lw_tbl := List.mem_of_getElem? (i := 1228) rfl
set_option maxRecDepth 100000 in
theorem wk_X0_60 : Cond.constantLong RX0 60 (31) ∈ lw_tbl := List.mem_of_getElem? (i := 1230) rfl
set_option maxRecDepth 100000 in
theorem wk_X0_62 : Cond.constantLong RX0 62 (64) ∈ lw_tbl := List.mem_of_getElem? (i := 1231) rfl
set_option maxRecDepth 100000 in
theorem wk_X0_64 : Cond.constantLong RX0 64 (-31) ∈ lw_tbl := List.mem_of_getElem? (i := 1232) rfl
set_option maxRecDepth 100000 in
theorem wm_L_139 : Cond.methodLink RL 139 yL_told ∈ lw_tbl := List.mem_of_getElem? (i := 1233) rfl
set_option maxRecDepth 100000 in
theorem ws_L_told : Cond.static yL_told ∈ lw_tbl := List.mem_of_getElem? (i := 1234) rfl
set_option maxRecDepth 100000 in
theorem wm_L_70 : Cond.methodLink RL 70 yX8_told ∈ lw_tbl := List.mem_of_getElem? (i := 1236) rfl
set_option maxRecDepth 100000 in
theorem wi_X8_told : Cond.instanceMethod yX8_told ∈ lw_tbl := List.mem_of_getElem? (i := 1237) rfl
set_option maxRecDepth 100000 in
theorem wv_X8_told : Cond.selects yX8_told.cls yX8_told yX8_told ∈ lw_tbl := List.mem_of_getElem? (i := 1238) rfl
set_option maxRecDepth 100000 in
theorem wc_L_74 : Cond.classLink RL 74 RX9 ∈ lw_tbl := List.mem_of_getElem? (i := 1241) rfl
set_option maxRecDepth 100000 in
theorem wn_X9 : Cond.instantiable RX9 29 ∈ lw_tbl := List.mem_of_getElem? (i := 1242) rfl
set_option maxRecDepth 100000 in
theorem wm_L_76 : Cond.methodLink RL 76 yX9_init ∈ lw_tbl := List.mem_of_getElem? (i := 1243) rfl
set_option maxRecDepth 100000 in
theorem wi_X9_init : Cond.instanceMethod yX9_init ∈ lw_tbl := List.mem_of_getElem? (i := 1244) rfl
set_option maxRecDepth 100000 in
theorem wm_X9_1 : Cond.methodLink RX9 1 ⟨"java/lang/Object", "<init>", "()V"⟩ ∈ lw_tbl := List.mem_of_getElem? (i := 1246) rfl
set_option maxRecDepth 100000 in
theorem wk_X9_7 : Cond.constant RX9 7 (69600) ∈ lw_tbl := List.mem_of_getElem? (i := 1247) rfl
set_option maxRecDepth 100000 in
theorem wm_X9_80 : Cond.methodLink RX9 80 yX9_set ∈ lw_tbl := List.mem_of_getElem? (i := 1248) rfl
set_option maxRecDepth 100000 in
theorem wi_X9_set : Cond.instanceMethod yX9_set ∈ lw_tbl := List.mem_of_getElem? (i := 1250) rfl
set_option maxRecDepth 100000 in
theorem wk_X9_87 : Cond.constantLong RX9 87 (65535) ∈ lw_tbl := List.mem_of_getElem? (i := 1252) rfl
set_option maxRecDepth 100000 in
theorem wf_X9_84 : Cond.fieldLink RX9 84 RX9 "thrown" "I" ∈ lw_tbl := List.mem_of_getElem? (i := 1253) rfl
set_option maxRecDepth 100000 in
theorem wf_X9_8 : Cond.fieldLink RX9 8 RX9 "parts" "[I" ∈ lw_tbl := List.mem_of_getElem? (i := 1254) rfl
set_option maxRecDepth 100000 in
theorem wf_X9_14 : Cond.fieldLink RX9 14 RX9 "size" "[I" ∈ lw_tbl := List.mem_of_getElem? (i := 1255) rfl
set_option maxRecDepth 100000 in
theorem wf_X9_17 : Cond.fieldLink RX9 17 RX9 "signs" "[I" ∈ lw_tbl := List.mem_of_getElem? (i := 1256) rfl
set_option maxRecDepth 100000 in
theorem wf_X9_120 : Cond.fieldLink RX9 120 RX9 "m" "I" ∈ lw_tbl := List.mem_of_getElem? (i := 1257) rfl
set_option maxRecDepth 100000 in
theorem wf_X9_123 : Cond.fieldLink RX9 123 RX9 "n" "I" ∈ lw_tbl := List.mem_of_getElem? (i := 1258) rfl
set_option maxRecDepth 100000 in
theorem wf_X9_20 : Cond.fieldLink RX9 20 RX9 "above" "[I" ∈ lw_tbl := List.mem_of_getElem? (i := 1259) rfl
set_option maxRecDepth 100000 in
theorem wf_X9_23 : Cond.fieldLink RX9 23 RX9 "below" "[I" ∈ lw_tbl := List.mem_of_getElem? (i := 1260) rfl
set_option maxRecDepth 100000 in
theorem wf_X9_26 : Cond.fieldLink RX9 26 RX9 "toldAbove" "[I" ∈ lw_tbl := List.mem_of_getElem? (i := 1261) rfl
set_option maxRecDepth 100000 in
theorem wf_X9_29 : Cond.fieldLink RX9 29 RX9 "toldBelow" "[I" ∈ lw_tbl := List.mem_of_getElem? (i := 1262) rfl
set_option maxRecDepth 100000 in
theorem wf_X9_32 : Cond.fieldLink RX9 32 RX9 "hasRun" "I" ∈ lw_tbl := List.mem_of_getElem? (i := 1263) rfl
set_option maxRecDepth 100000 in
theorem wf_X9_129 : Cond.fieldLink RX9 129 RX9 "steps" "I" ∈ lw_tbl := List.mem_of_getElem? (i := 1264) rfl
set_option maxRecDepth 100000 in
theorem wf_X9_36 : Cond.fieldLink RX9 36 RX9 "entered" "[I" ∈ lw_tbl := List.mem_of_getElem? (i := 1265) rfl
set_option maxRecDepth 100000 in
theorem wf_X9_39 : Cond.fieldLink RX9 39 RX9 "left" "[I" ∈ lw_tbl := List.mem_of_getElem? (i := 1266) rfl
set_option maxRecDepth 100000 in
theorem wf_X9_42 : Cond.fieldLink RX9 42 RX9 "tables" "[I" ∈ lw_tbl := List.mem_of_getElem? (i := 1267) rfl
set_option maxRecDepth 100000 in
theorem wf_X9_132 : Cond.fieldLink RX9 132 RX9 "hasList" "Z" ∈ lw_tbl := List.mem_of_getElem? (i := 1268) rfl
set_option maxRecDepth 100000 in
theorem wf_X9_136 : Cond.fieldLink RX9 136 RX9 "entries" "I" ∈ lw_tbl := List.mem_of_getElem? (i := 1269) rfl
set_option maxRecDepth 100000 in
theorem wf_X9_45 : Cond.fieldLink RX9 45 RX9 "supports" "[I" ∈ lw_tbl := List.mem_of_getElem? (i := 1270) rfl
set_option maxRecDepth 100000 in
theorem wf_X9_48 : Cond.fieldLink RX9 48 RX9 "basic" "[I" ∈ lw_tbl := List.mem_of_getElem? (i := 1271) rfl
set_option maxRecDepth 100000 in
theorem wf_X9_51 : Cond.fieldLink RX9 51 RX9 "there" "[Z" ∈ lw_tbl := List.mem_of_getElem? (i := 1272) rfl
set_option maxRecDepth 100000 in
theorem wf_X9_55 : Cond.fieldLink RX9 55 RX9 "multiple" "[J" ∈ lw_tbl := List.mem_of_getElem? (i := 1273) rfl
set_option maxRecDepth 100000 in
theorem wf_X9_59 : Cond.fieldLink RX9 59 RX9 "whole" "[J" ∈ lw_tbl := List.mem_of_getElem? (i := 1274) rfl
set_option maxRecDepth 100000 in
theorem wf_X9_62 : Cond.fieldLink RX9 62 RX9 "least" "[J" ∈ lw_tbl := List.mem_of_getElem? (i := 1275) rfl
set_option maxRecDepth 100000 in
theorem wf_X9_65 : Cond.fieldLink RX9 65 RX9 "rest" "[I" ∈ lw_tbl := List.mem_of_getElem? (i := 1276) rfl
set_option maxRecDepth 100000 in
theorem wf_X9_68 : Cond.fieldLink RX9 68 RX9 "by" "[I" ∈ lw_tbl := List.mem_of_getElem? (i := 1277) rfl
set_option maxRecDepth 100000 in
theorem wf_X9_71 : Cond.fieldLink RX9 71 RX9 "chosen" "[I" ∈ lw_tbl := List.mem_of_getElem? (i := 1278) rfl
set_option maxRecDepth 100000 in
theorem wf_X9_74 : Cond.fieldLink RX9 74 RX9 "others" "[I" ∈ lw_tbl := List.mem_of_getElem? (i := 1279) rfl
set_option maxRecDepth 100000 in
theorem wf_X9_202 : Cond.fieldLink RX9 202 RX9 "turned" "I" ∈ lw_tbl := List.mem_of_getElem? (i := 1280) rfl
set_option maxRecDepth 100000 in
theorem wf_X9_77 : Cond.fieldLink RX9 77 RX9 "goes" "[Z" ∈ lw_tbl := List.mem_of_getElem? (i := 1281) rfl
set_option maxRecDepth 100000 in
theorem wm_L_83 : Cond.methodLink RL 83 yX9_thrown ∈ lw_tbl := List.mem_of_getElem? (i := 1343) rfl
set_option maxRecDepth 100000 in
theorem wi_X9_thrown : Cond.instanceMethod yX9_thrown ∈ lw_tbl := List.mem_of_getElem? (i := 1344) rfl
set_option maxRecDepth 100000 in
theorem wv_X9_thrown : Cond.selects yX9_thrown.cls yX9_thrown yX9_thrown ∈ lw_tbl := List.mem_of_getElem? (i := 1345) rfl
set_option maxRecDepth 100000 in
theorem wm_L_82 : Cond.methodLink RL 82 yX9_game ∈ lw_tbl := List.mem_of_getElem? (i := 1347) rfl
set_option maxRecDepth 100000 in
theorem wi_X9_game : Cond.instanceMethod yX9_game ∈ lw_tbl := List.mem_of_getElem? (i := 1348) rfl
set_option maxRecDepth 100000 in
theorem wv_X9_game : Cond.selects yX9_game.cls yX9_game yX9_game ∈ lw_tbl := List.mem_of_getElem? (i := 1349) rfl
set_option maxRecDepth 100000 in
theorem wm_X9_116 : Cond.methodLink RX9 116 yX9_in ∈ lw_tbl := List.mem_of_getElem? (i := 1351) rfl
set_option maxRecDepth 100000 in
theorem ws_X9_in : Cond.static yX9_in ∈ lw_tbl := List.mem_of_getElem? (i := 1352) rfl
set_option maxRecDepth 100000 in
theorem wm_X9_126 : Cond.methodLink RX9 126 yX9_changed ∈ lw_tbl := List.mem_of_getElem? (i := 1354) rfl
set_option maxRecDepth 100000 in
theorem wi_X9_changed : Cond.instanceMethod yX9_changed ∈ lw_tbl := List.mem_of_getElem? (i := 1356) rfl
set_option maxRecDepth 100000 in
theorem wm_X9_139 : Cond.methodLink RX9 139 yX9_common ∈ lw_tbl := List.mem_of_getElem? (i := 1358) rfl
set_option maxRecDepth 100000 in
theorem ws_X9_common : Cond.static yX9_common ∈ lw_tbl := List.mem_of_getElem? (i := 1359) rfl
set_option maxRecDepth 100000 in
theorem wk_X9_145 : Cond.constantLong RX9 145 (9223372036854775807) ∈ lw_tbl := List.mem_of_getElem? (i := 1361) rfl
set_option maxRecDepth 100000 in
theorem wm_L_89 : Cond.methodLink RL 89 yX9_pay ∈ lw_tbl := List.mem_of_getElem? (i := 1362) rfl
set_option maxRecDepth 100000 in
theorem wi_X9_pay : Cond.instanceMethod yX9_pay ∈ lw_tbl := List.mem_of_getElem? (i := 1363) rfl
set_option maxRecDepth 100000 in
theorem wv_X9_pay : Cond.selects yX9_pay.cls yX9_pay yX9_pay ∈ lw_tbl := List.mem_of_getElem? (i := 1364) rfl
set_option maxRecDepth 100000 in
theorem wm_L_93 : Cond.methodLink RL 93 yX9_run ∈ lw_tbl := List.mem_of_getElem? (i := 1366) rfl
set_option maxRecDepth 100000 in
theorem wi_X9_run : Cond.instanceMethod yX9_run ∈ lw_tbl := List.mem_of_getElem? (i := 1367) rfl
set_option maxRecDepth 100000 in
theorem wv_X9_run : Cond.selects yX9_run.cls yX9_run yX9_run ∈ lw_tbl := List.mem_of_getElem? (i := 1368) rfl
set_option maxRecDepth 100000 in
theorem wm_X9_170 : Cond.methodLink RX9 170 yX9_beginTables ∈ lw_tbl := List.mem_of_getElem? (i := 1370) rfl
set_option maxRecDepth 100000 in
theorem wi_X9_beginTables : Cond.instanceMethod yX9_beginTables ∈ lw_tbl := List.mem_of_getElem? (i := 1372) rfl
set_option maxRecDepth 100000 in
theorem wm_X9_147 : Cond.methodLink RX9 147 yX9_rowsOf ∈ lw_tbl := List.mem_of_getElem? (i := 1374) rfl
set_option maxRecDepth 100000 in
theorem wi_X9_rowsOf : Cond.instanceMethod yX9_rowsOf ∈ lw_tbl := List.mem_of_getElem? (i := 1376) rfl
set_option maxRecDepth 100000 in
theorem wm_X9_151 : Cond.methodLink RX9 151 yX9_cell ∈ lw_tbl := List.mem_of_getElem? (i := 1378) rfl
set_option maxRecDepth 100000 in
theorem wi_X9_cell : Cond.instanceMethod yX9_cell ∈ lw_tbl := List.mem_of_getElem? (i := 1380) rfl
set_option maxRecDepth 100000 in
theorem wm_X9_155 : Cond.methodLink RX9 155 yX9_entry ∈ lw_tbl := List.mem_of_getElem? (i := 1382) rfl
set_option maxRecDepth 100000 in
theorem wi_X9_entry : Cond.instanceMethod yX9_entry ∈ lw_tbl := List.mem_of_getElem? (i := 1384) rfl
set_option maxRecDepth 100000 in
theorem wm_X9_173 : Cond.methodLink RX9 173 yX9_enter ∈ lw_tbl := List.mem_of_getElem? (i := 1386) rfl
set_option maxRecDepth 100000 in
theorem wi_X9_enter : Cond.instanceMethod yX9_enter ∈ lw_tbl := List.mem_of_getElem? (i := 1388) rfl
set_option maxRecDepth 100000 in
theorem wm_X9_162 : Cond.methodLink RX9 162 yX9_isBefore ∈ lw_tbl := List.mem_of_getElem? (i := 1390) rfl
set_option maxRecDepth 100000 in
theorem wi_X9_isBefore : Cond.instanceMethod yX9_isBefore ∈ lw_tbl := List.mem_of_getElem? (i := 1392) rfl
set_option maxRecDepth 100000 in
theorem wm_X9_104 : Cond.methodLink RX9 104 yX9_times ∈ lw_tbl := List.mem_of_getElem? (i := 1394) rfl
set_option maxRecDepth 100000 in
theorem wi_X9_times : Cond.instanceMethod yX9_times ∈ lw_tbl := List.mem_of_getElem? (i := 1396) rfl
set_option maxRecDepth 100000 in
theorem wm_X9_94 : Cond.methodLink RX9 94 yX9_trim ∈ lw_tbl := List.mem_of_getElem? (i := 1398) rfl
set_option maxRecDepth 100000 in
theorem wi_X9_trim : Cond.instanceMethod yX9_trim ∈ lw_tbl := List.mem_of_getElem? (i := 1400) rfl
set_option maxRecDepth 100000 in
theorem wm_X9_159 : Cond.methodLink RX9 159 yX9_compare ∈ lw_tbl := List.mem_of_getElem? (i := 1402) rfl
set_option maxRecDepth 100000 in
theorem wi_X9_compare : Cond.instanceMethod yX9_compare ∈ lw_tbl := List.mem_of_getElem? (i := 1404) rfl
set_option maxRecDepth 100000 in
theorem wm_X9_89 : Cond.methodLink RX9 89 yX9_compareSizes ∈ lw_tbl := List.mem_of_getElem? (i := 1406) rfl
set_option maxRecDepth 100000 in
theorem wi_X9_compareSizes : Cond.instanceMethod yX9_compareSizes ∈ lw_tbl := List.mem_of_getElem? (i := 1408) rfl
set_option maxRecDepth 100000 in
theorem wm_X9_98 : Cond.methodLink RX9 98 yX9_copy ∈ lw_tbl := List.mem_of_getElem? (i := 1410) rfl
set_option maxRecDepth 100000 in
theorem wi_X9_copy : Cond.instanceMethod yX9_copy ∈ lw_tbl := List.mem_of_getElem? (i := 1412) rfl
set_option maxRecDepth 100000 in
theorem wm_X9_166 : Cond.methodLink RX9 166 yX9_cross ∈ lw_tbl := List.mem_of_getElem? (i := 1414) rfl
set_option maxRecDepth 100000 in
theorem wi_X9_cross : Cond.instanceMethod yX9_cross ∈ lw_tbl := List.mem_of_getElem? (i := 1416) rfl
set_option maxRecDepth 100000 in
theorem wm_X9_108 : Cond.methodLink RX9 108 yX9_add ∈ lw_tbl := List.mem_of_getElem? (i := 1418) rfl
set_option maxRecDepth 100000 in
theorem wi_X9_add : Cond.instanceMethod yX9_add ∈ lw_tbl := List.mem_of_getElem? (i := 1420) rfl
set_option maxRecDepth 100000 in
theorem wk_X9_93 : Cond.constant RX9 93 (65535) ∈ lw_tbl := List.mem_of_getElem? (i := 1422) rfl
set_option maxRecDepth 100000 in
theorem wm_X9_112 : Cond.methodLink RX9 112 yX9_divide ∈ lw_tbl := List.mem_of_getElem? (i := 1423) rfl
set_option maxRecDepth 100000 in
theorem wi_X9_divide : Cond.instanceMethod yX9_divide ∈ lw_tbl := List.mem_of_getElem? (i := 1425) rfl
set_option maxRecDepth 100000 in
theorem wk_X9_101 : Cond.constant RX9 101 (32768) ∈ lw_tbl := List.mem_of_getElem? (i := 1427) rfl
set_option maxRecDepth 100000 in
theorem wk_X9_102 : Cond.constantLong RX9 102 (65536) ∈ lw_tbl := List.mem_of_getElem? (i := 1428) rfl
set_option maxRecDepth 100000 in
theorem wm_L_97 : Cond.methodLink RL 97 yX9_step ∈ lw_tbl := List.mem_of_getElem? (i := 1429) rfl
set_option maxRecDepth 100000 in
theorem wi_X9_step : Cond.instanceMethod yX9_step ∈ lw_tbl := List.mem_of_getElem? (i := 1430) rfl
set_option maxRecDepth 100000 in
theorem wv_X9_step : Cond.selects yX9_step.cls yX9_step yX9_step ∈ lw_tbl := List.mem_of_getElem? (i := 1431) rfl
set_option maxRecDepth 100000 in
theorem wm_L_101 : Cond.methodLink RL 101 yX9_weight ∈ lw_tbl := List.mem_of_getElem? (i := 1433) rfl
set_option maxRecDepth 100000 in
theorem wi_X9_weight : Cond.instanceMethod yX9_weight ∈ lw_tbl := List.mem_of_getElem? (i := 1434) rfl
set_option maxRecDepth 100000 in
theorem wv_X9_weight : Cond.selects yX9_weight.cls yX9_weight yX9_weight ∈ lw_tbl := List.mem_of_getElem? (i := 1435) rfl
set_option maxRecDepth 100000 in
theorem wm_X9_176 : Cond.methodLink RX9 176 yX9_hasPlayer ∈ lw_tbl := List.mem_of_getElem? (i := 1437) rfl
set_option maxRecDepth 100000 in
theorem wi_X9_hasPlayer : Cond.instanceMethod yX9_hasPlayer ∈ lw_tbl := List.mem_of_getElem? (i := 1439) rfl
set_option maxRecDepth 100000 in
theorem wm_L_108 : Cond.methodLink RL 108 yX9_support ∈ lw_tbl := List.mem_of_getElem? (i := 1441) rfl
set_option maxRecDepth 100000 in
theorem wi_X9_support : Cond.instanceMethod yX9_support ∈ lw_tbl := List.mem_of_getElem? (i := 1442) rfl
set_option maxRecDepth 100000 in
theorem wv_X9_support : Cond.selects yX9_support.cls yX9_support yX9_support ∈ lw_tbl := List.mem_of_getElem? (i := 1443) rfl
set_option maxRecDepth 100000 in
theorem wm_X9_184 : Cond.methodLink RX9 184 yX9_placeOf ∈ lw_tbl := List.mem_of_getElem? (i := 1445) rfl
set_option maxRecDepth 100000 in
theorem wi_X9_placeOf : Cond.instanceMethod yX9_placeOf ∈ lw_tbl := List.mem_of_getElem? (i := 1447) rfl
set_option maxRecDepth 100000 in
theorem wm_X9_180 : Cond.methodLink RX9 180 yX9_tell ∈ lw_tbl := List.mem_of_getElem? (i := 1449) rfl
set_option maxRecDepth 100000 in
theorem wi_X9_tell : Cond.instanceMethod yX9_tell ∈ lw_tbl := List.mem_of_getElem? (i := 1451) rfl
set_option maxRecDepth 100000 in
theorem wm_L_112 : Cond.methodLink RL 112 yX9_strategy ∈ lw_tbl := List.mem_of_getElem? (i := 1453) rfl
set_option maxRecDepth 100000 in
theorem wi_X9_strategy : Cond.instanceMethod yX9_strategy ∈ lw_tbl := List.mem_of_getElem? (i := 1454) rfl
set_option maxRecDepth 100000 in
theorem wv_X9_strategy : Cond.selects yX9_strategy.cls yX9_strategy yX9_strategy ∈ lw_tbl := List.mem_of_getElem? (i := 1455) rfl
set_option maxRecDepth 100000 in
theorem wm_X9_187 : Cond.methodLink RX9 187 yX9_toHand ∈ lw_tbl := List.mem_of_getElem? (i := 1457) rfl
set_option maxRecDepth 100000 in
theorem wi_X9_toHand : Cond.instanceMethod yX9_toHand ∈ lw_tbl := List.mem_of_getElem? (i := 1459) rfl
set_option maxRecDepth 100000 in
theorem wm_L_115 : Cond.methodLink RL 115 yX9_gets ∈ lw_tbl := List.mem_of_getElem? (i := 1461) rfl
set_option maxRecDepth 100000 in
theorem wi_X9_gets : Cond.instanceMethod yX9_gets ∈ lw_tbl := List.mem_of_getElem? (i := 1462) rfl
set_option maxRecDepth 100000 in
theorem wv_X9_gets : Cond.selects yX9_gets.cls yX9_gets yX9_gets ∈ lw_tbl := List.mem_of_getElem? (i := 1463) rfl
set_option maxRecDepth 100000 in
theorem wm_X9_190 : Cond.methodLink RX9 190 yX9_rowGets ∈ lw_tbl := List.mem_of_getElem? (i := 1465) rfl
set_option maxRecDepth 100000 in
theorem wi_X9_rowGets : Cond.instanceMethod yX9_rowGets ∈ lw_tbl := List.mem_of_getElem? (i := 1467) rfl
set_option maxRecDepth 100000 in
theorem wm_X9_193 : Cond.methodLink RX9 193 yX9_ownGets ∈ lw_tbl := List.mem_of_getElem? (i := 1469) rfl
set_option maxRecDepth 100000 in
theorem wi_X9_ownGets : Cond.instanceMethod yX9_ownGets ∈ lw_tbl := List.mem_of_getElem? (i := 1471) rfl
set_option maxRecDepth 100000 in
theorem wm_L_118 : Cond.methodLink RL 118 yX9_replies ∈ lw_tbl := List.mem_of_getElem? (i := 1473) rfl
set_option maxRecDepth 100000 in
theorem wi_X9_replies : Cond.instanceMethod yX9_replies ∈ lw_tbl := List.mem_of_getElem? (i := 1474) rfl
set_option maxRecDepth 100000 in
theorem wv_X9_replies : Cond.selects yX9_replies.cls yX9_replies yX9_replies ∈ lw_tbl := List.mem_of_getElem? (i := 1475) rfl
set_option maxRecDepth 100000 in
theorem wm_X9_196 : Cond.methodLink RX9 196 yX9_best ∈ lw_tbl := List.mem_of_getElem? (i := 1477) rfl
set_option maxRecDepth 100000 in
theorem wi_X9_best : Cond.instanceMethod yX9_best ∈ lw_tbl := List.mem_of_getElem? (i := 1479) rfl
set_option maxRecDepth 100000 in
theorem wm_L_121 : Cond.methodLink RL 121 yX9_judge ∈ lw_tbl := List.mem_of_getElem? (i := 1481) rfl
set_option maxRecDepth 100000 in
theorem wi_X9_judge : Cond.instanceMethod yX9_judge ∈ lw_tbl := List.mem_of_getElem? (i := 1482) rfl
set_option maxRecDepth 100000 in
theorem wv_X9_judge : Cond.selects yX9_judge.cls yX9_judge yX9_judge ∈ lw_tbl := List.mem_of_getElem? (i := 1483) rfl
set_option maxRecDepth 100000 in
theorem wm_L_105 : Cond.methodLink RL 105 yX9_list ∈ lw_tbl := List.mem_of_getElem? (i := 1485) rfl
set_option maxRecDepth 100000 in
theorem wi_X9_list : Cond.instanceMethod yX9_list ∈ lw_tbl := List.mem_of_getElem? (i := 1486) rfl
set_option maxRecDepth 100000 in
theorem wv_X9_list : Cond.selects yX9_list.cls yX9_list yX9_list ∈ lw_tbl := List.mem_of_getElem? (i := 1487) rfl
set_option maxRecDepth 100000 in
theorem wm_X9_217 : Cond.methodLink RX9 217 yX9_bits ∈ lw_tbl := List.mem_of_getElem? (i := 1489) rfl
set_option maxRecDepth 100000 in
theorem wi_X9_bits : Cond.instanceMethod yX9_bits ∈ lw_tbl := List.mem_of_getElem? (i := 1491) rfl
set_option maxRecDepth 100000 in
theorem wm_X9_205 : Cond.methodLink RX9 205 yX9_bitsOf ∈ lw_tbl := List.mem_of_getElem? (i := 1493) rfl
set_option maxRecDepth 100000 in
theorem ws_X9_bitsOf : Cond.static yX9_bitsOf ∈ lw_tbl := List.mem_of_getElem? (i := 1494) rfl
set_option maxRecDepth 100000 in
theorem wm_X9_220 : Cond.methodLink RX9 220 yX9_isEntry ∈ lw_tbl := List.mem_of_getElem? (i := 1496) rfl
set_option maxRecDepth 100000 in
theorem wi_X9_isEntry : Cond.instanceMethod yX9_isEntry ∈ lw_tbl := List.mem_of_getElem? (i := 1498) rfl
set_option maxRecDepth 100000 in
theorem wm_X9_214 : Cond.methodLink RX9 214 yX9_solve ∈ lw_tbl := List.mem_of_getElem? (i := 1500) rfl
set_option maxRecDepth 100000 in
theorem wi_X9_solve : Cond.instanceMethod yX9_solve ∈ lw_tbl := List.mem_of_getElem? (i := 1502) rfl
set_option maxRecDepth 100000 in
theorem wm_X9_199 : Cond.methodLink RX9 199 yX9_at ∈ lw_tbl := List.mem_of_getElem? (i := 1504) rfl
set_option maxRecDepth 100000 in
theorem wi_X9_at : Cond.instanceMethod yX9_at ∈ lw_tbl := List.mem_of_getElem? (i := 1506) rfl
set_option maxRecDepth 100000 in
theorem wk_X9_209 : Cond.constantLong RX9 209 (-1) ∈ lw_tbl := List.mem_of_getElem? (i := 1508) rfl
set_option maxRecDepth 100000 in
theorem wm_X9_211 : Cond.methodLink RX9 211 yX9_triangle ∈ lw_tbl := List.mem_of_getElem? (i := 1509) rfl
set_option maxRecDepth 100000 in
theorem wi_X9_triangle : Cond.instanceMethod yX9_triangle ∈ lw_tbl := List.mem_of_getElem? (i := 1511) rfl
set_option maxRecDepth 100000 in
theorem wm_L_124 : Cond.methodLink RL 124 yX9_index ∈ lw_tbl := List.mem_of_getElem? (i := 1513) rfl
set_option maxRecDepth 100000 in
theorem wi_X9_index : Cond.instanceMethod yX9_index ∈ lw_tbl := List.mem_of_getElem? (i := 1514) rfl
set_option maxRecDepth 100000 in
theorem wv_X9_index : Cond.selects yX9_index.cls yX9_index yX9_index ∈ lw_tbl := List.mem_of_getElem? (i := 1515) rfl
set_option maxRecDepth 100000 in
theorem wm_X9_223 : Cond.methodLink RX9 223 yX9_determinant ∈ lw_tbl := List.mem_of_getElem? (i := 1517) rfl
set_option maxRecDepth 100000 in
theorem wi_X9_determinant : Cond.instanceMethod yX9_determinant ∈ lw_tbl := List.mem_of_getElem? (i := 1519) rfl
set_option maxRecDepth 100000 in
theorem wm_L_127 : Cond.methodLink RL 127 yX9_round ∈ lw_tbl := List.mem_of_getElem? (i := 1521) rfl
set_option maxRecDepth 100000 in
theorem wi_X9_round : Cond.instanceMethod yX9_round ∈ lw_tbl := List.mem_of_getElem? (i := 1522) rfl
set_option maxRecDepth 100000 in
theorem wv_X9_round : Cond.selects yX9_round.cls yX9_round yX9_round ∈ lw_tbl := List.mem_of_getElem? (i := 1523) rfl
set_option maxRecDepth 100000 in
theorem wm_X9_226 : Cond.methodLink RX9 226 yX9_isDominated ∈ lw_tbl := List.mem_of_getElem? (i := 1525) rfl
set_option maxRecDepth 100000 in
theorem wi_X9_isDominated : Cond.instanceMethod yX9_isDominated ∈ lw_tbl := List.mem_of_getElem? (i := 1527) rfl
set_option maxRecDepth 100000 in
theorem wm_L_130 : Cond.methodLink RL 130 yX9_isThere ∈ lw_tbl := List.mem_of_getElem? (i := 1529) rfl
set_option maxRecDepth 100000 in
theorem wi_X9_isThere : Cond.instanceMethod yX9_isThere ∈ lw_tbl := List.mem_of_getElem? (i := 1530) rfl
set_option maxRecDepth 100000 in
theorem wv_X9_isThere : Cond.selects yX9_isThere.cls yX9_isThere yX9_isThere ∈ lw_tbl := List.mem_of_getElem? (i := 1531) rfl
set_option maxRecDepth 100000 in
theorem wm_L_134 : Cond.methodLink RL 134 yX9_part ∈ lw_tbl := List.mem_of_getElem? (i := 1533) rfl
set_option maxRecDepth 100000 in
theorem wi_X9_part : Cond.instanceMethod yX9_part ∈ lw_tbl := List.mem_of_getElem? (i := 1534) rfl
set_option maxRecDepth 100000 in
theorem wv_X9_part : Cond.selects yX9_part.cls yX9_part yX9_part ∈ lw_tbl := List.mem_of_getElem? (i := 1535) rfl
set_option maxRecDepth 100000 in
theorem wm_L_138 : Cond.methodLink RL 138 yX9_sign ∈ lw_tbl := List.mem_of_getElem? (i := 1537) rfl
set_option maxRecDepth 100000 in
theorem wi_X9_sign : Cond.instanceMethod yX9_sign ∈ lw_tbl := List.mem_of_getElem? (i := 1538) rfl
set_option maxRecDepth 100000 in
theorem wv_X9_sign : Cond.selects yX9_sign.cls yX9_sign yX9_sign ∈ lw_tbl := List.mem_of_getElem? (i := 1539) rfl
set_option maxRecDepth 100000 in
theorem wm_L_141 : Cond.methodLink RL 141 yX9_told ∈ lw_tbl := List.mem_of_getElem? (i := 1541) rfl
set_option maxRecDepth 100000 in
theorem wi_X9_told : Cond.instanceMethod yX9_told ∈ lw_tbl := List.mem_of_getElem? (i := 1542) rfl
set_option maxRecDepth 100000 in
theorem wv_X9_told : Cond.selects yX9_told.cls yX9_told yX9_told ∈ lw_tbl := List.mem_of_getElem? (i := 1543) rfl
set_option maxRecDepth 100000 in
theorem wv_X4_makeWhole : Cond.selects yX4_makeWhole.cls yX4_makeWhole yX4_makeWhole ∈ lw_tbl := List.mem_of_getElem? (i := 1) rfl
set_option maxRecDepth 100000 in
theorem wv_X8_forget : Cond.selects yX8_forget.cls yX8_forget yX8_forget ∈ lw_tbl := List.mem_of_getElem? (i := 2) rfl
set_option maxRecDepth 100000 in
theorem wv_X8_needGame : Cond.selects yX8_needGame.cls yX8_needGame yX8_needGame ∈ lw_tbl := List.mem_of_getElem? (i := 3) rfl
set_option maxRecDepth 100000 in
theorem wv_X8_needPlayer : Cond.selects yX8_needPlayer.cls yX8_needPlayer yX8_needPlayer ∈ lw_tbl := List.mem_of_getElem? (i := 4) rfl
set_option maxRecDepth 100000 in
theorem wv_X8_needRow : Cond.selects yX8_needRow.cls yX8_needRow yX8_needRow ∈ lw_tbl := List.mem_of_getElem? (i := 5) rfl
set_option maxRecDepth 100000 in
theorem wv_X5_leavingRow : Cond.selects yX5_leavingRow.cls yX5_leavingRow yX5_leavingRow ∈ lw_tbl := List.mem_of_getElem? (i := 6) rfl
set_option maxRecDepth 100000 in
theorem wv_X5_isLess : Cond.selects yX5_isLess.cls yX5_isLess yX5_isLess ∈ lw_tbl := List.mem_of_getElem? (i := 7) rfl
set_option maxRecDepth 100000 in
theorem wv_X5_compareRatios : Cond.selects yX5_compareRatios.cls yX5_compareRatios yX5_compareRatios ∈ lw_tbl := List.mem_of_getElem? (i := 8) rfl
set_option maxRecDepth 100000 in
theorem wv_X0_addTimes : Cond.selects yX0_addTimes.cls yX0_addTimes yX0_addTimes ∈ lw_tbl := List.mem_of_getElem? (i := 9) rfl
set_option maxRecDepth 100000 in
theorem wv_X0_compareSize : Cond.selects yX0_compareSize.cls yX0_compareSize yX0_compareSize ∈ lw_tbl := List.mem_of_getElem? (i := 10) rfl
set_option maxRecDepth 100000 in
theorem wv_X5_pivot : Cond.selects yX5_pivot.cls yX5_pivot yX5_pivot ∈ lw_tbl := List.mem_of_getElem? (i := 11) rfl
set_option maxRecDepth 100000 in
theorem wv_X5_clearOut : Cond.selects yX5_clearOut.cls yX5_clearOut yX5_clearOut ∈ lw_tbl := List.mem_of_getElem? (i := 12) rfl
set_option maxRecDepth 100000 in
theorem wv_X0_addSigned : Cond.selects yX0_addSigned.cls yX0_addSigned yX0_addSigned ∈ lw_tbl := List.mem_of_getElem? (i := 13) rfl
set_option maxRecDepth 100000 in
theorem wv_X0_addSizes : Cond.selects yX0_addSizes.cls yX0_addSizes yX0_addSizes ∈ lw_tbl := List.mem_of_getElem? (i := 14) rfl
set_option maxRecDepth 100000 in
theorem wv_X0_limb : Cond.selects yX0_limb.cls yX0_limb yX0_limb ∈ lw_tbl := List.mem_of_getElem? (i := 15) rfl
set_option maxRecDepth 100000 in
theorem wv_X0_setDifference : Cond.selects yX0_setDifference.cls yX0_setDifference yX0_setDifference ∈ lw_tbl := List.mem_of_getElem? (i := 16) rfl
set_option maxRecDepth 100000 in
theorem wv_X1_divideByDigit : Cond.selects yX1_divideByDigit.cls yX1_divideByDigit yX1_divideByDigit ∈ lw_tbl := List.mem_of_getElem? (i := 17) rfl
set_option maxRecDepth 100000 in
theorem wv_X1_divideByDigits : Cond.selects yX1_divideByDigits.cls yX1_divideByDigits yX1_divideByDigits ∈ lw_tbl := List.mem_of_getElem? (i := 18) rfl
set_option maxRecDepth 100000 in
theorem wv_X1_guess : Cond.selects yX1_guess.cls yX1_guess yX1_guess ∈ lw_tbl := List.mem_of_getElem? (i := 19) rfl
set_option maxRecDepth 100000 in
theorem wv_X1_takeAway : Cond.selects yX1_takeAway.cls yX1_takeAway yX1_takeAway ∈ lw_tbl := List.mem_of_getElem? (i := 20) rfl
set_option maxRecDepth 100000 in
theorem wv_X1_putBack : Cond.selects yX1_putBack.cls yX1_putBack yX1_putBack ∈ lw_tbl := List.mem_of_getElem? (i := 21) rfl
set_option maxRecDepth 100000 in
theorem wv_X8_makeList : Cond.selects yX8_makeList.cls yX8_makeList yX8_makeList ∈ lw_tbl := List.mem_of_getElem? (i := 22) rfl
set_option maxRecDepth 100000 in
theorem wv_X3_expand : Cond.selects yX3_expand.cls yX3_expand yX3_expand ∈ lw_tbl := List.mem_of_getElem? (i := 23) rfl
set_option maxRecDepth 100000 in
theorem wv_X3_place : Cond.selects yX3_place.cls yX3_place yX3_place ∈ lw_tbl := List.mem_of_getElem? (i := 24) rfl
set_option maxRecDepth 100000 in
theorem wv_X8_listAllWith : Cond.selects yX8_listAllWith.cls yX8_listAllWith yX8_listAllWith ∈ lw_tbl := List.mem_of_getElem? (i := 25) rfl
set_option maxRecDepth 100000 in
theorem wv_X3_sumCofactors : Cond.selects yX3_sumCofactors.cls yX3_sumCofactors yX3_sumCofactors ∈ lw_tbl := List.mem_of_getElem? (i := 26) rfl
set_option maxRecDepth 100000 in
theorem wv_X3_excessSign : Cond.selects yX3_excessSign.cls yX3_excessSign yX3_excessSign ∈ lw_tbl := List.mem_of_getElem? (i := 27) rfl
set_option maxRecDepth 100000 in
theorem wv_X8_needSource : Cond.selects yX8_needSource.cls yX8_needSource yX8_needSource ∈ lw_tbl := List.mem_of_getElem? (i := 28) rfl
set_option maxRecDepth 100000 in
theorem wv_X8_isSource : Cond.selects yX8_isSource.cls yX8_isSource yX8_isSource ∈ lw_tbl := List.mem_of_getElem? (i := 29) rfl
set_option maxRecDepth 100000 in
theorem wv_X6_share : Cond.selects yX6_share.cls yX6_share yX6_share ∈ lw_tbl := List.mem_of_getElem? (i := 30) rfl
set_option maxRecDepth 100000 in
theorem wv_X6_denominator : Cond.selects yX6_denominator.cls yX6_denominator yX6_denominator ∈ lw_tbl := List.mem_of_getElem? (i := 31) rfl
set_option maxRecDepth 100000 in
theorem wv_X8_load : Cond.selects yX8_load.cls yX8_load yX8_load ∈ lw_tbl := List.mem_of_getElem? (i := 32) rfl
set_option maxRecDepth 100000 in
theorem wv_X8_weighValues : Cond.selects yX8_weighValues.cls yX8_weighValues yX8_weighValues ∈ lw_tbl := List.mem_of_getElem? (i := 33) rfl
set_option maxRecDepth 100000 in
theorem wv_X8_holdOfBoth : Cond.selects yX8_holdOfBoth.cls yX8_holdOfBoth yX8_holdOfBoth ∈ lw_tbl := List.mem_of_getElem? (i := 34) rfl
set_option maxRecDepth 100000 in
theorem wv_X8_bestBits : Cond.selects yX8_bestBits.cls yX8_bestBits yX8_bestBits ∈ lw_tbl := List.mem_of_getElem? (i := 35) rfl
set_option maxRecDepth 100000 in
theorem wv_X4_isMore : Cond.selects yX4_isMore.cls yX4_isMore yX4_isMore ∈ lw_tbl := List.mem_of_getElem? (i := 36) rfl
set_option maxRecDepth 100000 in
theorem wv_X9_set : Cond.selects yX9_set.cls yX9_set yX9_set ∈ lw_tbl := List.mem_of_getElem? (i := 37) rfl
set_option maxRecDepth 100000 in
theorem wv_X9_changed : Cond.selects yX9_changed.cls yX9_changed yX9_changed ∈ lw_tbl := List.mem_of_getElem? (i := 38) rfl
set_option maxRecDepth 100000 in
theorem wv_X9_beginTables : Cond.selects yX9_beginTables.cls yX9_beginTables yX9_beginTables ∈ lw_tbl := List.mem_of_getElem? (i := 39) rfl
set_option maxRecDepth 100000 in
theorem wv_X9_rowsOf : Cond.selects yX9_rowsOf.cls yX9_rowsOf yX9_rowsOf ∈ lw_tbl := List.mem_of_getElem? (i := 40) rfl
set_option maxRecDepth 100000 in
theorem wv_X9_cell : Cond.selects yX9_cell.cls yX9_cell yX9_cell ∈ lw_tbl := List.mem_of_getElem? (i := 41) rfl
set_option maxRecDepth 100000 in
theorem wv_X9_entry : Cond.selects yX9_entry.cls yX9_entry yX9_entry ∈ lw_tbl := List.mem_of_getElem? (i := 42) rfl
set_option maxRecDepth 100000 in
theorem wv_X9_enter : Cond.selects yX9_enter.cls yX9_enter yX9_enter ∈ lw_tbl := List.mem_of_getElem? (i := 43) rfl
set_option maxRecDepth 100000 in
theorem wv_X9_isBefore : Cond.selects yX9_isBefore.cls yX9_isBefore yX9_isBefore ∈ lw_tbl := List.mem_of_getElem? (i := 44) rfl
set_option maxRecDepth 100000 in
theorem wv_X9_times : Cond.selects yX9_times.cls yX9_times yX9_times ∈ lw_tbl := List.mem_of_getElem? (i := 45) rfl
set_option maxRecDepth 100000 in
theorem wv_X9_trim : Cond.selects yX9_trim.cls yX9_trim yX9_trim ∈ lw_tbl := List.mem_of_getElem? (i := 46) rfl
set_option maxRecDepth 100000 in
theorem wv_X9_compare : Cond.selects yX9_compare.cls yX9_compare yX9_compare ∈ lw_tbl := List.mem_of_getElem? (i := 47) rfl
set_option maxRecDepth 100000 in
theorem wv_X9_compareSizes : Cond.selects yX9_compareSizes.cls yX9_compareSizes yX9_compareSizes ∈ lw_tbl := List.mem_of_getElem? (i := 48) rfl
set_option maxRecDepth 100000 in
theorem wv_X9_copy : Cond.selects yX9_copy.cls yX9_copy yX9_copy ∈ lw_tbl := List.mem_of_getElem? (i := 49) rfl
set_option maxRecDepth 100000 in
theorem wv_X9_cross : Cond.selects yX9_cross.cls yX9_cross yX9_cross ∈ lw_tbl := List.mem_of_getElem? (i := 50) rfl
set_option maxRecDepth 100000 in
theorem wv_X9_add : Cond.selects yX9_add.cls yX9_add yX9_add ∈ lw_tbl := List.mem_of_getElem? (i := 51) rfl
set_option maxRecDepth 100000 in
theorem wv_X9_divide : Cond.selects yX9_divide.cls yX9_divide yX9_divide ∈ lw_tbl := List.mem_of_getElem? (i := 52) rfl
set_option maxRecDepth 100000 in
theorem wv_X9_hasPlayer : Cond.selects yX9_hasPlayer.cls yX9_hasPlayer yX9_hasPlayer ∈ lw_tbl := List.mem_of_getElem? (i := 53) rfl
set_option maxRecDepth 100000 in
theorem wv_X9_placeOf : Cond.selects yX9_placeOf.cls yX9_placeOf yX9_placeOf ∈ lw_tbl := List.mem_of_getElem? (i := 54) rfl
set_option maxRecDepth 100000 in
theorem wv_X9_tell : Cond.selects yX9_tell.cls yX9_tell yX9_tell ∈ lw_tbl := List.mem_of_getElem? (i := 55) rfl
set_option maxRecDepth 100000 in
theorem wv_X9_toHand : Cond.selects yX9_toHand.cls yX9_toHand yX9_toHand ∈ lw_tbl := List.mem_of_getElem? (i := 56) rfl
set_option maxRecDepth 100000 in
theorem wv_X9_rowGets : Cond.selects yX9_rowGets.cls yX9_rowGets yX9_rowGets ∈ lw_tbl := List.mem_of_getElem? (i := 57) rfl
set_option maxRecDepth 100000 in
theorem wv_X9_ownGets : Cond.selects yX9_ownGets.cls yX9_ownGets yX9_ownGets ∈ lw_tbl := List.mem_of_getElem? (i := 58) rfl
set_option maxRecDepth 100000 in
theorem wv_X9_best : Cond.selects yX9_best.cls yX9_best yX9_best ∈ lw_tbl := List.mem_of_getElem? (i := 59) rfl
set_option maxRecDepth 100000 in
theorem wv_X9_bits : Cond.selects yX9_bits.cls yX9_bits yX9_bits ∈ lw_tbl := List.mem_of_getElem? (i := 60) rfl
set_option maxRecDepth 100000 in
theorem wv_X9_isEntry : Cond.selects yX9_isEntry.cls yX9_isEntry yX9_isEntry ∈ lw_tbl := List.mem_of_getElem? (i := 61) rfl
set_option maxRecDepth 100000 in
theorem wv_X9_solve : Cond.selects yX9_solve.cls yX9_solve yX9_solve ∈ lw_tbl := List.mem_of_getElem? (i := 62) rfl
set_option maxRecDepth 100000 in
theorem wv_X9_at : Cond.selects yX9_at.cls yX9_at yX9_at ∈ lw_tbl := List.mem_of_getElem? (i := 63) rfl
set_option maxRecDepth 100000 in
theorem wv_X9_triangle : Cond.selects yX9_triangle.cls yX9_triangle yX9_triangle ∈ lw_tbl := List.mem_of_getElem? (i := 64) rfl
set_option maxRecDepth 100000 in
theorem wv_X9_determinant : Cond.selects yX9_determinant.cls yX9_determinant yX9_determinant ∈ lw_tbl := List.mem_of_getElem? (i := 65) rfl
set_option maxRecDepth 100000 in
theorem wv_X9_isDominated : Cond.selects yX9_isDominated.cls yX9_isDominated yX9_isDominated ∈ lw_tbl := List.mem_of_getElem? (i := 66) rfl
set_option maxRecDepth 100000 in
theorem wq_s_max : Cond.static Lib.Math.max.name ∈ lw_tbl := List.mem_of_getElem? (i := 164) rfl
set_option maxRecDepth 100000 in
theorem wq_c_max : Cond.code Lib.Math.max.name Lib.Math.max.code 2 (some .int) ∈ lw_tbl := List.mem_of_getElem? (i := 165) rfl
set_option maxRecDepth 100000 in
theorem wq_s_min : Cond.static Lib.Math.min.name ∈ lw_tbl := List.mem_of_getElem? (i := 456) rfl
set_option maxRecDepth 100000 in
theorem wq_c_min : Cond.code Lib.Math.min.name Lib.Math.min.code 2 (some .int) ∈ lw_tbl := List.mem_of_getElem? (i := 457) rfl
set_option maxRecDepth 100000 in
theorem wq_s_abs : Cond.static Lib.Math.abs.name ∈ lw_tbl := List.mem_of_getElem? (i := 511) rfl
set_option maxRecDepth 100000 in
theorem wq_c_abs : Cond.code Lib.Math.abs.name Lib.Math.abs.code 1 (some .int) ∈ lw_tbl := List.mem_of_getElem? (i := 512) rfl
set_option maxRecDepth 100000 in
theorem wq_z : Cond.initialized "java/lang/Math" ∈ lw_tbl := List.mem_of_getElem? (i := 72) rfl
set_option maxRecDepth 100000 in
theorem wo_i : Cond.instanceMethod Lib.objectInit ∈ lw_tbl := List.mem_of_getElem? (i := 102) rfl
set_option maxRecDepth 100000 in
theorem wo_c : Cond.code Lib.objectInit ⟨#[0xb1]⟩ 1 none ∈ lw_tbl := List.mem_of_getElem? (i := 103) rfl
set_option maxRecDepth 100000 in
theorem wa_int : Cond.arrayClass .int ∈ lw_tbl := List.mem_of_getElem? (i := 138) rfl
set_option maxRecDepth 100000 in
theorem wa_long : Cond.arrayClass .long ∈ lw_tbl := List.mem_of_getElem? (i := 1342) rfl
set_option maxRecDepth 100000 in
theorem wa_boolean : Cond.arrayClass .boolean ∈ lw_tbl := List.mem_of_getElem? (i := 1341) rfl
