set_option maxRecDepth 20000 in
theorem lw_instantiable_RX4_16 : Cond.instantiable RX4 16 ∈ wsL_law := List.mem_of_getElem? (i := 1) (by decide +kernel)
set_option maxRecDepth 20000 in
theorem ln_RX4 : Cond.initialized RX4 ∈ wsL_law := List.mem_of_getElem? (i := 2) (by decide +kernel)
set_option maxRecDepth 20000 in
theorem lw_instantiable_RX5_33 : Cond.instantiable RX5 33 ∈ wsL_law := List.mem_of_getElem? (i := 4) (by decide +kernel)
set_option maxRecDepth 20000 in
theorem ln_RX5 : Cond.initialized RX5 ∈ wsL_law := List.mem_of_getElem? (i := 5) (by decide +kernel)
set_option maxRecDepth 20000 in
theorem li_X4_init : Cond.instanceMethod yX4_init ∈ wsL_law := List.mem_of_getElem? (i := 7) (by decide +kernel)
set_option maxRecDepth 20000 in
theorem lc_X4_init : Cond.code yX4_init cX4_init 1 none ∈ wsL_law := List.mem_of_getElem? (i := 8) (by decide +kernel)
set_option maxRecDepth 20000 in
theorem lk_RX4_1 : Cond.methodLink RX4 1 objectInit ∈ wsL_law := List.mem_of_getElem? (i := 9) (by decide +kernel)
set_option maxRecDepth 20000 in
theorem lw_instanceMethod_objectInit : Cond.instanceMethod objectInit ∈ wsL_law := List.mem_of_getElem? (i := 10) (by decide +kernel)
set_option maxRecDepth 20000 in
theorem lw_code_objectInit____0xb1___1_none : Cond.code objectInit ⟨#[0xb1]⟩ 1 none ∈ wsL_law := List.mem_of_getElem? (i := 11) (by decide +kernel)
set_option maxRecDepth 20000 in
theorem lk_RX4_7 : Cond.classLink RX4 7 RX3 ∈ wsL_law := List.mem_of_getElem? (i := 12) (by decide +kernel)
set_option maxRecDepth 20000 in
theorem lw_instantiable_RX3_11 : Cond.instantiable RX3 11 ∈ wsL_law := List.mem_of_getElem? (i := 13) (by decide +kernel)
set_option maxRecDepth 20000 in
theorem ln_RX3 : Cond.initialized RX3 ∈ wsL_law := List.mem_of_getElem? (i := 14) (by decide +kernel)
set_option maxRecDepth 20000 in
theorem lk_RX4_10 : Cond.fieldLink RX4 10 "RepeatLearner" "settings" "LRepeatLearner$Settings;" ∈ wsL_law := List.mem_of_getElem? (i := 15) (by decide +kernel)
set_option maxRecDepth 20000 in
theorem lk_RX4_16 : Cond.classLink RX4 16 RX2 ∈ wsL_law := List.mem_of_getElem? (i := 16) (by decide +kernel)
set_option maxRecDepth 20000 in
theorem lw_instantiable_RX2_3 : Cond.instantiable RX2 3 ∈ wsL_law := List.mem_of_getElem? (i := 17) (by decide +kernel)
set_option maxRecDepth 20000 in
theorem ln_RX2 : Cond.initialized RX2 ∈ wsL_law := List.mem_of_getElem? (i := 18) (by decide +kernel)
set_option maxRecDepth 20000 in
theorem lk_RX4_19 : Cond.fieldLink RX4 19 "RepeatLearner" "plant" "LRepeatLearner$Plant;" ∈ wsL_law := List.mem_of_getElem? (i := 19) (by decide +kernel)
set_option maxRecDepth 20000 in
theorem lk_RX4_23 : Cond.classLink RX4 23 RX1 ∈ wsL_law := List.mem_of_getElem? (i := 20) (by decide +kernel)
set_option maxRecDepth 20000 in
theorem lw_instantiable_RX1_4 : Cond.instantiable RX1 4 ∈ wsL_law := List.mem_of_getElem? (i := 21) (by decide +kernel)
set_option maxRecDepth 20000 in
theorem ln_RX1 : Cond.initialized RX1 ∈ wsL_law := List.mem_of_getElem? (i := 22) (by decide +kernel)
set_option maxRecDepth 20000 in
theorem lk_RX4_26 : Cond.fieldLink RX4 26 "RepeatLearner" "history" "LRepeatLearner$History;" ∈ wsL_law := List.mem_of_getElem? (i := 23) (by decide +kernel)
set_option maxRecDepth 20000 in
theorem lk_RX4_30 : Cond.classLink RX4 30 RX0 ∈ wsL_law := List.mem_of_getElem? (i := 24) (by decide +kernel)
set_option maxRecDepth 20000 in
theorem lw_instantiable_RX0_4 : Cond.instantiable RX0 4 ∈ wsL_law := List.mem_of_getElem? (i := 25) (by decide +kernel)
set_option maxRecDepth 20000 in
theorem ln_RX0 : Cond.initialized RX0 ∈ wsL_law := List.mem_of_getElem? (i := 26) (by decide +kernel)
set_option maxRecDepth 20000 in
theorem lk_RX4_33 : Cond.fieldLink RX4 33 "RepeatLearner" "best" "LRepeatLearner$Best;" ∈ wsL_law := List.mem_of_getElem? (i := 27) (by decide +kernel)
set_option maxRecDepth 20000 in
theorem lw_arrayClass__int : Cond.arrayClass .int ∈ wsL_law := List.mem_of_getElem? (i := 28) (by decide +kernel)
set_option maxRecDepth 20000 in
theorem lk_RX4_37 : Cond.fieldLink RX4 37 "RepeatLearner" "references" "[I" ∈ wsL_law := List.mem_of_getElem? (i := 29) (by decide +kernel)
set_option maxRecDepth 20000 in
theorem lk_RX4_41 : Cond.fieldLink RX4 41 "RepeatLearner" "inputs" "[I" ∈ wsL_law := List.mem_of_getElem? (i := 30) (by decide +kernel)
set_option maxRecDepth 20000 in
theorem lk_RX4_44 : Cond.fieldLink RX4 44 "RepeatLearner" "smoothed" "[I" ∈ wsL_law := List.mem_of_getElem? (i := 31) (by decide +kernel)
set_option maxRecDepth 20000 in
theorem lk_RX4_47 : Cond.fieldLink RX4 47 "RepeatLearner" "raw" "[I" ∈ wsL_law := List.mem_of_getElem? (i := 32) (by decide +kernel)
set_option maxRecDepth 20000 in
theorem lk_RX4_50 : Cond.fieldLink RX4 50 "RepeatLearner" "aligned" "[I" ∈ wsL_law := List.mem_of_getElem? (i := 33) (by decide +kernel)
set_option maxRecDepth 20000 in
theorem lk_RX4_53 : Cond.fieldLink RX4 53 "RepeatLearner" "partErrors" "[I" ∈ wsL_law := List.mem_of_getElem? (i := 34) (by decide +kernel)
set_option maxRecDepth 20000 in
theorem li_X3_init : Cond.instanceMethod yX3_init ∈ wsL_law := List.mem_of_getElem? (i := 35) (by decide +kernel)
set_option maxRecDepth 20000 in
theorem lc_X3_init : Cond.code yX3_init cX3_init 1 none ∈ wsL_law := List.mem_of_getElem? (i := 36) (by decide +kernel)
set_option maxRecDepth 20000 in
theorem lk_RX3_3 : Cond.methodLink RX3 3 objectInit ∈ wsL_law := List.mem_of_getElem? (i := 37) (by decide +kernel)
set_option maxRecDepth 20000 in
theorem li_X2_init : Cond.instanceMethod yX2_init ∈ wsL_law := List.mem_of_getElem? (i := 38) (by decide +kernel)
set_option maxRecDepth 20000 in
theorem lc_X2_init : Cond.code yX2_init cX2_init 1 none ∈ wsL_law := List.mem_of_getElem? (i := 39) (by decide +kernel)
set_option maxRecDepth 20000 in
theorem lk_RX2_1 : Cond.methodLink RX2 1 objectInit ∈ wsL_law := List.mem_of_getElem? (i := 40) (by decide +kernel)
set_option maxRecDepth 20000 in
theorem lk_RX2_9 : Cond.fieldLink RX2 9 "RepeatLearner$Plant" "coefficients" "[I" ∈ wsL_law := List.mem_of_getElem? (i := 41) (by decide +kernel)
set_option maxRecDepth 20000 in
theorem li_X1_init : Cond.instanceMethod yX1_init ∈ wsL_law := List.mem_of_getElem? (i := 42) (by decide +kernel)
set_option maxRecDepth 20000 in
theorem lc_X1_init : Cond.code yX1_init cX1_init 1 none ∈ wsL_law := List.mem_of_getElem? (i := 43) (by decide +kernel)
set_option maxRecDepth 20000 in
theorem lk_RX1_3 : Cond.methodLink RX1 3 objectInit ∈ wsL_law := List.mem_of_getElem? (i := 44) (by decide +kernel)
set_option maxRecDepth 20000 in
theorem lk_RX1_11 : Cond.classLink RX1 11 "[[I" ∈ wsL_law := List.mem_of_getElem? (i := 45) (by decide +kernel)
set_option maxRecDepth 20000 in
theorem lk_RX1_13 : Cond.fieldLink RX1 13 "RepeatLearner$History" "errors" "[[I" ∈ wsL_law := List.mem_of_getElem? (i := 46) (by decide +kernel)
set_option maxRecDepth 20000 in
theorem lk_RX1_16 : Cond.fieldLink RX1 16 "RepeatLearner$History" "norms" "[I" ∈ wsL_law := List.mem_of_getElem? (i := 47) (by decide +kernel)
set_option maxRecDepth 20000 in
theorem lk_RX1_20 : Cond.fieldLink RX1 20 "RepeatLearner$History" "shifts" "[I" ∈ wsL_law := List.mem_of_getElem? (i := 48) (by decide +kernel)
set_option maxRecDepth 20000 in
theorem li_X0_init : Cond.instanceMethod yX0_init ∈ wsL_law := List.mem_of_getElem? (i := 49) (by decide +kernel)
set_option maxRecDepth 20000 in
theorem lc_X0_init : Cond.code yX0_init cX0_init 1 none ∈ wsL_law := List.mem_of_getElem? (i := 50) (by decide +kernel)
set_option maxRecDepth 20000 in
theorem lk_RX0_3 : Cond.methodLink RX0 3 objectInit ∈ wsL_law := List.mem_of_getElem? (i := 51) (by decide +kernel)
set_option maxRecDepth 20000 in
theorem lk_RX0_9 : Cond.fieldLink RX0 9 "RepeatLearner$Best" "usedInputs" "[I" ∈ wsL_law := List.mem_of_getElem? (i := 52) (by decide +kernel)
set_option maxRecDepth 20000 in
theorem lk_RX4_56 : Cond.methodLink RX4 56 yX4_startAnew ∈ wsL_law := List.mem_of_getElem? (i := 53) (by decide +kernel)
set_option maxRecDepth 20000 in
theorem li_X4_startAnew : Cond.instanceMethod yX4_startAnew ∈ wsL_law := List.mem_of_getElem? (i := 54) (by decide +kernel)
set_option maxRecDepth 20000 in
theorem ls_X4_startAnew : Cond.selects RX4 yX4_startAnew yX4_startAnew ∈ wsL_law := List.mem_of_getElem? (i := 55) (by decide +kernel)
set_option maxRecDepth 20000 in
theorem lc_X4_startAnew : Cond.code yX4_startAnew cX4_startAnew 2 none ∈ wsL_law := List.mem_of_getElem? (i := 56) (by decide +kernel)
set_option maxRecDepth 20000 in
theorem lk_RX4_136 : Cond.fieldLink RX4 136 "RepeatLearner$History" "complete" "I" ∈ wsL_law := List.mem_of_getElem? (i := 57) (by decide +kernel)
set_option maxRecDepth 20000 in
theorem lk_RX4_177 : Cond.fieldLink RX4 177 "RepeatLearner$Best" "known" "Z" ∈ wsL_law := List.mem_of_getElem? (i := 58) (by decide +kernel)
set_option maxRecDepth 20000 in
theorem lk_RX4_112 : Cond.fieldLink RX4 112 "RepeatLearner" "running" "Z" ∈ wsL_law := List.mem_of_getElem? (i := 59) (by decide +kernel)
set_option maxRecDepth 20000 in
theorem lk_RX4_126 : Cond.fieldLink RX4 126 "RepeatLearner" "recorded" "I" ∈ wsL_law := List.mem_of_getElem? (i := 60) (by decide +kernel)
set_option maxRecDepth 20000 in
theorem lk_RX4_119 : Cond.fieldLink RX4 119 "RepeatLearner" "started" "I" ∈ wsL_law := List.mem_of_getElem? (i := 61) (by decide +kernel)
set_option maxRecDepth 20000 in
theorem lk_RX4_130 : Cond.fieldLink RX4 130 "RepeatLearner" "aborted" "I" ∈ wsL_law := List.mem_of_getElem? (i := 62) (by decide +kernel)
set_option maxRecDepth 20000 in
theorem lk_RX4_139 : Cond.fieldLink RX4 139 "RepeatLearner" "fallbacks" "I" ∈ wsL_law := List.mem_of_getElem? (i := 63) (by decide +kernel)
set_option maxRecDepth 20000 in
theorem lk_RX4_142 : Cond.fieldLink RX4 142 "RepeatLearner" "badTrials" "I" ∈ wsL_law := List.mem_of_getElem? (i := 64) (by decide +kernel)
set_option maxRecDepth 20000 in
theorem lk_RX4_223 : Cond.methodLink RX4 223 yX3_becomeAsAtFirst ∈ wsL_law := List.mem_of_getElem? (i := 65) (by decide +kernel)
set_option maxRecDepth 20000 in
theorem li_X3_becomeAsAtFirst : Cond.instanceMethod yX3_becomeAsAtFirst ∈ wsL_law := List.mem_of_getElem? (i := 66) (by decide +kernel)
set_option maxRecDepth 20000 in
theorem ls_X3_becomeAsAtFirst : Cond.selects RX3 yX3_becomeAsAtFirst yX3_becomeAsAtFirst ∈ wsL_law := List.mem_of_getElem? (i := 67) (by decide +kernel)
set_option maxRecDepth 20000 in
theorem lc_X3_becomeAsAtFirst : Cond.code yX3_becomeAsAtFirst cX3_becomeAsAtFirst 2 none ∈ wsL_law := List.mem_of_getElem? (i := 68) (by decide +kernel)
set_option maxRecDepth 20000 in
theorem lk_RX3_9 : Cond.fieldLink RX3 9 "RepeatLearner$Settings" "samples" "I" ∈ wsL_law := List.mem_of_getElem? (i := 69) (by decide +kernel)
set_option maxRecDepth 20000 in
theorem lk_RX3_15 : Cond.fieldLink RX3 15 "RepeatLearner$Settings" "gain" "I" ∈ wsL_law := List.mem_of_getElem? (i := 70) (by decide +kernel)
set_option maxRecDepth 20000 in
theorem lk_RX3_18 : Cond.fieldLink RX3 18 "RepeatLearner$Settings" "lead" "I" ∈ wsL_law := List.mem_of_getElem? (i := 71) (by decide +kernel)
set_option maxRecDepth 20000 in
theorem lk_RX3_21 : Cond.fieldLink RX3 21 "RepeatLearner$Settings" "weight" "I" ∈ wsL_law := List.mem_of_getElem? (i := 72) (by decide +kernel)
set_option maxRecDepth 20000 in
theorem lk_RX3_24 : Cond.fieldLink RX3 24 "RepeatLearner$Settings" "passes" "I" ∈ wsL_law := List.mem_of_getElem? (i := 73) (by decide +kernel)
set_option maxRecDepth 20000 in
theorem lk_RX3_27 : Cond.constant RX3 27 (1000000) ∈ wsL_law := List.mem_of_getElem? (i := 74) (by decide +kernel)
set_option maxRecDepth 20000 in
theorem lk_RX3_28 : Cond.fieldLink RX3 28 "RepeatLearner$Settings" "limit" "I" ∈ wsL_law := List.mem_of_getElem? (i := 75) (by decide +kernel)
set_option maxRecDepth 20000 in
theorem lk_RX3_31 : Cond.fieldLink RX3 31 "RepeatLearner$Settings" "blend" "I" ∈ wsL_law := List.mem_of_getElem? (i := 76) (by decide +kernel)
set_option maxRecDepth 20000 in
theorem lk_RX3_34 : Cond.fieldLink RX3 34 "RepeatLearner$Settings" "greatestShift" "I" ∈ wsL_law := List.mem_of_getElem? (i := 77) (by decide +kernel)
set_option maxRecDepth 20000 in
theorem lk_RX3_37 : Cond.fieldLink RX3 37 "RepeatLearner$Settings" "tolerance" "I" ∈ wsL_law := List.mem_of_getElem? (i := 78) (by decide +kernel)
set_option maxRecDepth 20000 in
theorem lk_RX3_40 : Cond.fieldLink RX3 40 "RepeatLearner$Settings" "hold" "I" ∈ wsL_law := List.mem_of_getElem? (i := 79) (by decide +kernel)
set_option maxRecDepth 20000 in
theorem lk_RX3_43 : Cond.fieldLink RX3 43 "RepeatLearner$Settings" "guard" "Z" ∈ wsL_law := List.mem_of_getElem? (i := 80) (by decide +kernel)
set_option maxRecDepth 20000 in
theorem lk_RX4_226 : Cond.methodLink RX4 226 yX2_becomeAsAtFirst ∈ wsL_law := List.mem_of_getElem? (i := 81) (by decide +kernel)
set_option maxRecDepth 20000 in
theorem li_X2_becomeAsAtFirst : Cond.instanceMethod yX2_becomeAsAtFirst ∈ wsL_law := List.mem_of_getElem? (i := 82) (by decide +kernel)
set_option maxRecDepth 20000 in
theorem ls_X2_becomeAsAtFirst : Cond.selects RX2 yX2_becomeAsAtFirst yX2_becomeAsAtFirst ∈ wsL_law := List.mem_of_getElem? (i := 83) (by decide +kernel)
set_option maxRecDepth 20000 in
theorem lc_X2_becomeAsAtFirst : Cond.code yX2_becomeAsAtFirst cX2_becomeAsAtFirst 1 none ∈ wsL_law := List.mem_of_getElem? (i := 84) (by decide +kernel)
set_option maxRecDepth 20000 in
theorem lk_RX2_19 : Cond.fieldLink RX2 19 "RepeatLearner$Plant" "amplitude" "I" ∈ wsL_law := List.mem_of_getElem? (i := 85) (by decide +kernel)
set_option maxRecDepth 20000 in
theorem lk_RX2_23 : Cond.fieldLink RX2 23 "RepeatLearner$Plant" "seed" "I" ∈ wsL_law := List.mem_of_getElem? (i := 86) (by decide +kernel)
set_option maxRecDepth 20000 in
theorem lk_RX2_13 : Cond.methodLink RX2 13 yJ7_fill_53178 ∈ wsL_law := List.mem_of_getElem? (i := 87) (by decide +kernel)
set_option maxRecDepth 20000 in
theorem lt_J7_fill_53178 : Cond.static yJ7_fill_53178 ∈ wsL_law := List.mem_of_getElem? (i := 88) (by decide +kernel)
set_option maxRecDepth 20000 in
theorem ln_RJ7 : Cond.initialized RJ7 ∈ wsL_law := List.mem_of_getElem? (i := 89) (by decide +kernel)
set_option maxRecDepth 20000 in
theorem lc_J7_fill_53178 : Cond.code yJ7_fill_53178 cJ7_fill_53178 4 none ∈ wsL_law := List.mem_of_getElem? (i := 90) (by decide +kernel)
set_option maxRecDepth 20000 in
theorem lk_RX4_228 : Cond.methodLink RX4 228 yJ7_fill_53178 ∈ wsL_law := List.mem_of_getElem? (i := 91) (by decide +kernel)
set_option maxRecDepth 20000 in
theorem li_X5_init : Cond.instanceMethod yX5_init ∈ wsL_law := List.mem_of_getElem? (i := 93) (by decide +kernel)
set_option maxRecDepth 20000 in
theorem lc_X5_init : Cond.code yX5_init cX5_init 1 none ∈ wsL_law := List.mem_of_getElem? (i := 94) (by decide +kernel)
set_option maxRecDepth 20000 in
theorem lk_RX5_1 : Cond.methodLink RX5 1 objectInit ∈ wsL_law := List.mem_of_getElem? (i := 95) (by decide +kernel)
set_option maxRecDepth 20000 in
theorem lk_RX5_7 : Cond.fieldLink RX5 7 "RepeatLearnerModel" "target" "[I" ∈ wsL_law := List.mem_of_getElem? (i := 96) (by decide +kernel)
set_option maxRecDepth 20000 in
theorem lk_RX5_13 : Cond.fieldLink RX5 13 "RepeatLearnerModel" "put" "[I" ∈ wsL_law := List.mem_of_getElem? (i := 97) (by decide +kernel)
set_option maxRecDepth 20000 in
theorem lk_RX5_16 : Cond.fieldLink RX5 16 "RepeatLearnerModel" "raw" "[I" ∈ wsL_law := List.mem_of_getElem? (i := 98) (by decide +kernel)
set_option maxRecDepth 20000 in
theorem lk_RX5_19 : Cond.fieldLink RX5 19 "RepeatLearnerModel" "off" "[I" ∈ wsL_law := List.mem_of_getElem? (i := 99) (by decide +kernel)
set_option maxRecDepth 20000 in
theorem lk_RX5_22 : Cond.fieldLink RX5 22 "RepeatLearnerModel" "smoothed" "[I" ∈ wsL_law := List.mem_of_getElem? (i := 100) (by decide +kernel)
set_option maxRecDepth 20000 in
theorem lk_RX5_25 : Cond.fieldLink RX5 25 "RepeatLearnerModel" "error" "[I" ∈ wsL_law := List.mem_of_getElem? (i := 101) (by decide +kernel)
set_option maxRecDepth 20000 in
theorem lk_RX5_28 : Cond.fieldLink RX5 28 "RepeatLearnerModel" "normOf" "[I" ∈ wsL_law := List.mem_of_getElem? (i := 102) (by decide +kernel)
set_option maxRecDepth 20000 in
theorem lk_RX5_31 : Cond.fieldLink RX5 31 "RepeatLearnerModel" "shiftOf" "[I" ∈ wsL_law := List.mem_of_getElem? (i := 103) (by decide +kernel)
set_option maxRecDepth 20000 in
theorem lk_RX5_34 : Cond.fieldLink RX5 34 "RepeatLearnerModel" "aligned" "[I" ∈ wsL_law := List.mem_of_getElem? (i := 104) (by decide +kernel)
set_option maxRecDepth 20000 in
theorem lk_RX5_37 : Cond.fieldLink RX5 37 "RepeatLearnerModel" "bestPut" "[I" ∈ wsL_law := List.mem_of_getElem? (i := 105) (by decide +kernel)
set_option maxRecDepth 20000 in
theorem lk_RX5_40 : Cond.fieldLink RX5 40 "RepeatLearnerModel" "plant" "[I" ∈ wsL_law := List.mem_of_getElem? (i := 106) (by decide +kernel)
set_option maxRecDepth 20000 in
theorem lk_RX5_43 : Cond.methodLink RX5 43 yX5_begin ∈ wsL_law := List.mem_of_getElem? (i := 107) (by decide +kernel)
set_option maxRecDepth 20000 in
theorem li_X5_begin : Cond.instanceMethod yX5_begin ∈ wsL_law := List.mem_of_getElem? (i := 108) (by decide +kernel)
set_option maxRecDepth 20000 in
theorem ls_X5_begin : Cond.selects RX5 yX5_begin yX5_begin ∈ wsL_law := List.mem_of_getElem? (i := 109) (by decide +kernel)
set_option maxRecDepth 20000 in
theorem lc_X5_begin : Cond.code yX5_begin cX5_begin 3 none ∈ wsL_law := List.mem_of_getElem? (i := 110) (by decide +kernel)
set_option maxRecDepth 20000 in
theorem lk_RX5_47 : Cond.fieldLink RX5 47 "RepeatLearnerModel" "samples" "I" ∈ wsL_law := List.mem_of_getElem? (i := 111) (by decide +kernel)
set_option maxRecDepth 20000 in
theorem lk_RX5_51 : Cond.fieldLink RX5 51 "RepeatLearnerModel" "gain" "I" ∈ wsL_law := List.mem_of_getElem? (i := 112) (by decide +kernel)
set_option maxRecDepth 20000 in
theorem lk_RX5_54 : Cond.fieldLink RX5 54 "RepeatLearnerModel" "lead" "I" ∈ wsL_law := List.mem_of_getElem? (i := 113) (by decide +kernel)
set_option maxRecDepth 20000 in
theorem lk_RX5_57 : Cond.fieldLink RX5 57 "RepeatLearnerModel" "weight" "I" ∈ wsL_law := List.mem_of_getElem? (i := 114) (by decide +kernel)
set_option maxRecDepth 20000 in
theorem lk_RX5_60 : Cond.fieldLink RX5 60 "RepeatLearnerModel" "passes" "I" ∈ wsL_law := List.mem_of_getElem? (i := 115) (by decide +kernel)
set_option maxRecDepth 20000 in
theorem lk_RX5_63 : Cond.constant RX5 63 (1000000) ∈ wsL_law := List.mem_of_getElem? (i := 116) (by decide +kernel)
set_option maxRecDepth 20000 in
theorem lk_RX5_64 : Cond.fieldLink RX5 64 "RepeatLearnerModel" "limit" "I" ∈ wsL_law := List.mem_of_getElem? (i := 117) (by decide +kernel)
set_option maxRecDepth 20000 in
theorem lk_RX5_67 : Cond.fieldLink RX5 67 "RepeatLearnerModel" "blend" "I" ∈ wsL_law := List.mem_of_getElem? (i := 118) (by decide +kernel)
set_option maxRecDepth 20000 in
theorem lk_RX5_70 : Cond.fieldLink RX5 70 "RepeatLearnerModel" "greatest" "I" ∈ wsL_law := List.mem_of_getElem? (i := 119) (by decide +kernel)
set_option maxRecDepth 20000 in
theorem lk_RX5_73 : Cond.fieldLink RX5 73 "RepeatLearnerModel" "tolerance" "I" ∈ wsL_law := List.mem_of_getElem? (i := 120) (by decide +kernel)
set_option maxRecDepth 20000 in
theorem lk_RX5_76 : Cond.fieldLink RX5 76 "RepeatLearnerModel" "hold" "I" ∈ wsL_law := List.mem_of_getElem? (i := 121) (by decide +kernel)
set_option maxRecDepth 20000 in
theorem lk_RX5_79 : Cond.fieldLink RX5 79 "RepeatLearnerModel" "isGuarded" "Z" ∈ wsL_law := List.mem_of_getElem? (i := 122) (by decide +kernel)
set_option maxRecDepth 20000 in
theorem lk_RX5_83 : Cond.fieldLink RX5 83 "RepeatLearnerModel" "isRunning" "Z" ∈ wsL_law := List.mem_of_getElem? (i := 123) (by decide +kernel)
set_option maxRecDepth 20000 in
theorem lk_RX5_86 : Cond.fieldLink RX5 86 "RepeatLearnerModel" "recorded" "I" ∈ wsL_law := List.mem_of_getElem? (i := 124) (by decide +kernel)
set_option maxRecDepth 20000 in
theorem lk_RX5_89 : Cond.fieldLink RX5 89 "RepeatLearnerModel" "started" "I" ∈ wsL_law := List.mem_of_getElem? (i := 125) (by decide +kernel)
set_option maxRecDepth 20000 in
theorem lk_RX5_92 : Cond.fieldLink RX5 92 "RepeatLearnerModel" "complete" "I" ∈ wsL_law := List.mem_of_getElem? (i := 126) (by decide +kernel)
set_option maxRecDepth 20000 in
theorem lk_RX5_95 : Cond.fieldLink RX5 95 "RepeatLearnerModel" "aborted" "I" ∈ wsL_law := List.mem_of_getElem? (i := 127) (by decide +kernel)
set_option maxRecDepth 20000 in
theorem lk_RX5_98 : Cond.fieldLink RX5 98 "RepeatLearnerModel" "fallbacks" "I" ∈ wsL_law := List.mem_of_getElem? (i := 128) (by decide +kernel)
set_option maxRecDepth 20000 in
theorem lk_RX5_101 : Cond.fieldLink RX5 101 "RepeatLearnerModel" "bad" "I" ∈ wsL_law := List.mem_of_getElem? (i := 129) (by decide +kernel)
set_option maxRecDepth 20000 in
theorem lk_RX5_104 : Cond.fieldLink RX5 104 "RepeatLearnerModel" "bestNumber" "I" ∈ wsL_law := List.mem_of_getElem? (i := 130) (by decide +kernel)
set_option maxRecDepth 20000 in
theorem lk_RX5_107 : Cond.fieldLink RX5 107 "RepeatLearnerModel" "amplitude" "I" ∈ wsL_law := List.mem_of_getElem? (i := 131) (by decide +kernel)
set_option maxRecDepth 20000 in
theorem lk_RX5_110 : Cond.fieldLink RX5 110 "RepeatLearnerModel" "drawn" "I" ∈ wsL_law := List.mem_of_getElem? (i := 132) (by decide +kernel)
set_option maxRecDepth 20000 in
theorem li_X4_reset : Cond.instanceMethod yX4_reset ∈ wsL_law := List.mem_of_getElem? (i := 134) (by decide +kernel)
set_option maxRecDepth 20000 in
theorem ls_X4_reset : Cond.selects RX4 yX4_reset yX4_reset ∈ wsL_law := List.mem_of_getElem? (i := 135) (by decide +kernel)
set_option maxRecDepth 20000 in
theorem lc_X4_reset : Cond.code yX4_reset cX4_reset 3 (some .int) ∈ wsL_law := List.mem_of_getElem? (i := 136) (by decide +kernel)
set_option maxRecDepth 20000 in
theorem lk_RX4_64 : Cond.constant RX4 64 (-2000000001) ∈ wsL_law := List.mem_of_getElem? (i := 137) (by decide +kernel)
set_option maxRecDepth 20000 in
theorem lk_RX4_65 : Cond.fieldLink RX4 65 "RepeatLearner$Settings" "samples" "I" ∈ wsL_law := List.mem_of_getElem? (i := 138) (by decide +kernel)
set_option maxRecDepth 20000 in
theorem lk_RX4_60 : Cond.methodLink RX4 60 yX4_isWithin ∈ wsL_law := List.mem_of_getElem? (i := 139) (by decide +kernel)
set_option maxRecDepth 20000 in
theorem lt_X4_isWithin : Cond.static yX4_isWithin ∈ wsL_law := List.mem_of_getElem? (i := 140) (by decide +kernel)
set_option maxRecDepth 20000 in
theorem lc_X4_isWithin : Cond.code yX4_isWithin cX4_isWithin 3 (some .boolean) ∈ wsL_law := List.mem_of_getElem? (i := 141) (by decide +kernel)
set_option maxRecDepth 20000 in
theorem li_X5_reset : Cond.instanceMethod yX5_reset ∈ wsL_law := List.mem_of_getElem? (i := 143) (by decide +kernel)
set_option maxRecDepth 20000 in
theorem ls_X5_reset : Cond.selects RX5 yX5_reset yX5_reset ∈ wsL_law := List.mem_of_getElem? (i := 144) (by decide +kernel)
set_option maxRecDepth 20000 in
theorem lc_X5_reset : Cond.code yX5_reset cX5_reset 3 (some .int) ∈ wsL_law := List.mem_of_getElem? (i := 145) (by decide +kernel)
set_option maxRecDepth 20000 in
theorem lk_RX5_117 : Cond.constant RX5 117 (-2000000001) ∈ wsL_law := List.mem_of_getElem? (i := 146) (by decide +kernel)
set_option maxRecDepth 20000 in
theorem lk_RX5_113 : Cond.methodLink RX5 113 yX5_in ∈ wsL_law := List.mem_of_getElem? (i := 147) (by decide +kernel)
set_option maxRecDepth 20000 in
theorem lt_X5_in : Cond.static yX5_in ∈ wsL_law := List.mem_of_getElem? (i := 148) (by decide +kernel)
set_option maxRecDepth 20000 in
theorem lc_X5_in : Cond.code yX5_in cX5_in 3 (some .boolean) ∈ wsL_law := List.mem_of_getElem? (i := 149) (by decide +kernel)
set_option maxRecDepth 20000 in
theorem li_X4_setReference : Cond.instanceMethod yX4_setReference ∈ wsL_law := List.mem_of_getElem? (i := 151) (by decide +kernel)
set_option maxRecDepth 20000 in
theorem ls_X4_setReference : Cond.selects RX4 yX4_setReference yX4_setReference ∈ wsL_law := List.mem_of_getElem? (i := 152) (by decide +kernel)
set_option maxRecDepth 20000 in
theorem lc_X4_setReference : Cond.code yX4_setReference cX4_setReference 4 (some .int) ∈ wsL_law := List.mem_of_getElem? (i := 153) (by decide +kernel)
set_option maxRecDepth 20000 in
theorem lk_RX4_69 : Cond.methodLink RX4 69 yX4_isSample ∈ wsL_law := List.mem_of_getElem? (i := 154) (by decide +kernel)
set_option maxRecDepth 20000 in
theorem li_X4_isSample : Cond.instanceMethod yX4_isSample ∈ wsL_law := List.mem_of_getElem? (i := 155) (by decide +kernel)
set_option maxRecDepth 20000 in
theorem ls_X4_isSample : Cond.selects RX4 yX4_isSample yX4_isSample ∈ wsL_law := List.mem_of_getElem? (i := 156) (by decide +kernel)
set_option maxRecDepth 20000 in
theorem lc_X4_isSample : Cond.code yX4_isSample cX4_isSample 2 (some .boolean) ∈ wsL_law := List.mem_of_getElem? (i := 157) (by decide +kernel)
set_option maxRecDepth 20000 in
theorem lk_RX4_73 : Cond.methodLink RX4 73 yX4_isSignal ∈ wsL_law := List.mem_of_getElem? (i := 158) (by decide +kernel)
set_option maxRecDepth 20000 in
theorem lt_X4_isSignal : Cond.static yX4_isSignal ∈ wsL_law := List.mem_of_getElem? (i := 159) (by decide +kernel)
set_option maxRecDepth 20000 in
theorem lc_X4_isSignal : Cond.code yX4_isSignal cX4_isSignal 1 (some .boolean) ∈ wsL_law := List.mem_of_getElem? (i := 160) (by decide +kernel)
set_option maxRecDepth 20000 in
theorem lk_RX4_215 : Cond.constant RX4 215 (-1000000) ∈ wsL_law := List.mem_of_getElem? (i := 161) (by decide +kernel)
set_option maxRecDepth 20000 in
theorem lk_RX4_92 : Cond.constant RX4 92 (1000000) ∈ wsL_law := List.mem_of_getElem? (i := 162) (by decide +kernel)
set_option maxRecDepth 20000 in
theorem li_X5_setReference : Cond.instanceMethod yX5_setReference ∈ wsL_law := List.mem_of_getElem? (i := 164) (by decide +kernel)
set_option maxRecDepth 20000 in
theorem ls_X5_setReference : Cond.selects RX5 yX5_setReference yX5_setReference ∈ wsL_law := List.mem_of_getElem? (i := 165) (by decide +kernel)
set_option maxRecDepth 20000 in
theorem lc_X5_setReference : Cond.code yX5_setReference cX5_setReference 4 (some .int) ∈ wsL_law := List.mem_of_getElem? (i := 166) (by decide +kernel)
set_option maxRecDepth 20000 in
theorem lk_RX5_122 : Cond.constant RX5 122 (-1000000) ∈ wsL_law := List.mem_of_getElem? (i := 167) (by decide +kernel)
set_option maxRecDepth 20000 in
theorem lk_RX5_118 : Cond.methodLink RX5 118 yX5_noSample ∈ wsL_law := List.mem_of_getElem? (i := 168) (by decide +kernel)
set_option maxRecDepth 20000 in
theorem li_X5_noSample : Cond.instanceMethod yX5_noSample ∈ wsL_law := List.mem_of_getElem? (i := 169) (by decide +kernel)
set_option maxRecDepth 20000 in
theorem ls_X5_noSample : Cond.selects RX5 yX5_noSample yX5_noSample ∈ wsL_law := List.mem_of_getElem? (i := 170) (by decide +kernel)
set_option maxRecDepth 20000 in
theorem lc_X5_noSample : Cond.code yX5_noSample cX5_noSample 2 (some .boolean) ∈ wsL_law := List.mem_of_getElem? (i := 171) (by decide +kernel)
set_option maxRecDepth 20000 in
theorem li_X4_setGain : Cond.instanceMethod yX4_setGain ∈ wsL_law := List.mem_of_getElem? (i := 173) (by decide +kernel)
set_option maxRecDepth 20000 in
theorem ls_X4_setGain : Cond.selects RX4 yX4_setGain yX4_setGain ∈ wsL_law := List.mem_of_getElem? (i := 174) (by decide +kernel)
set_option maxRecDepth 20000 in
theorem lc_X4_setGain : Cond.code yX4_setGain cX4_setGain 4 (some .int) ∈ wsL_law := List.mem_of_getElem? (i := 175) (by decide +kernel)
set_option maxRecDepth 20000 in
theorem lk_RX4_76 : Cond.fieldLink RX4 76 "RepeatLearner$Settings" "gain" "I" ∈ wsL_law := List.mem_of_getElem? (i := 176) (by decide +kernel)
set_option maxRecDepth 20000 in
theorem lk_RX4_79 : Cond.fieldLink RX4 79 "RepeatLearner$Settings" "lead" "I" ∈ wsL_law := List.mem_of_getElem? (i := 177) (by decide +kernel)
set_option maxRecDepth 20000 in
theorem lk_RX4_82 : Cond.methodLink RX4 82 yX4_oneIf ∈ wsL_law := List.mem_of_getElem? (i := 178) (by decide +kernel)
set_option maxRecDepth 20000 in
theorem lt_X4_oneIf : Cond.static yX4_oneIf ∈ wsL_law := List.mem_of_getElem? (i := 179) (by decide +kernel)
set_option maxRecDepth 20000 in
theorem lc_X4_oneIf : Cond.code yX4_oneIf cX4_oneIf 1 (some .int) ∈ wsL_law := List.mem_of_getElem? (i := 180) (by decide +kernel)
set_option maxRecDepth 20000 in
theorem li_X5_setGain : Cond.instanceMethod yX5_setGain ∈ wsL_law := List.mem_of_getElem? (i := 182) (by decide +kernel)
set_option maxRecDepth 20000 in
theorem ls_X5_setGain : Cond.selects RX5 yX5_setGain yX5_setGain ∈ wsL_law := List.mem_of_getElem? (i := 183) (by decide +kernel)
set_option maxRecDepth 20000 in
theorem lc_X5_setGain : Cond.code yX5_setGain cX5_setGain 4 (some .int) ∈ wsL_law := List.mem_of_getElem? (i := 184) (by decide +kernel)
set_option maxRecDepth 20000 in
theorem li_X4_setSmoothing : Cond.instanceMethod yX4_setSmoothing ∈ wsL_law := List.mem_of_getElem? (i := 186) (by decide +kernel)
set_option maxRecDepth 20000 in
theorem ls_X4_setSmoothing : Cond.selects RX4 yX4_setSmoothing yX4_setSmoothing ∈ wsL_law := List.mem_of_getElem? (i := 187) (by decide +kernel)
set_option maxRecDepth 20000 in
theorem lc_X4_setSmoothing : Cond.code yX4_setSmoothing cX4_setSmoothing 4 (some .int) ∈ wsL_law := List.mem_of_getElem? (i := 188) (by decide +kernel)
set_option maxRecDepth 20000 in
theorem lk_RX4_86 : Cond.fieldLink RX4 86 "RepeatLearner$Settings" "weight" "I" ∈ wsL_law := List.mem_of_getElem? (i := 189) (by decide +kernel)
set_option maxRecDepth 20000 in
theorem lk_RX4_89 : Cond.fieldLink RX4 89 "RepeatLearner$Settings" "passes" "I" ∈ wsL_law := List.mem_of_getElem? (i := 190) (by decide +kernel)
set_option maxRecDepth 20000 in
theorem li_X5_setSmoothing : Cond.instanceMethod yX5_setSmoothing ∈ wsL_law := List.mem_of_getElem? (i := 192) (by decide +kernel)
set_option maxRecDepth 20000 in
theorem ls_X5_setSmoothing : Cond.selects RX5 yX5_setSmoothing yX5_setSmoothing ∈ wsL_law := List.mem_of_getElem? (i := 193) (by decide +kernel)
set_option maxRecDepth 20000 in
theorem lc_X5_setSmoothing : Cond.code yX5_setSmoothing cX5_setSmoothing 4 (some .int) ∈ wsL_law := List.mem_of_getElem? (i := 194) (by decide +kernel)
set_option maxRecDepth 20000 in
theorem li_X4_setLimits : Cond.instanceMethod yX4_setLimits ∈ wsL_law := List.mem_of_getElem? (i := 196) (by decide +kernel)
set_option maxRecDepth 20000 in
theorem ls_X4_setLimits : Cond.selects RX4 yX4_setLimits yX4_setLimits ∈ wsL_law := List.mem_of_getElem? (i := 197) (by decide +kernel)
set_option maxRecDepth 20000 in
theorem lc_X4_setLimits : Cond.code yX4_setLimits cX4_setLimits 4 (some .int) ∈ wsL_law := List.mem_of_getElem? (i := 198) (by decide +kernel)
set_option maxRecDepth 20000 in
theorem lk_RX4_93 : Cond.fieldLink RX4 93 "RepeatLearner$Settings" "limit" "I" ∈ wsL_law := List.mem_of_getElem? (i := 199) (by decide +kernel)
set_option maxRecDepth 20000 in
theorem lk_RX4_96 : Cond.fieldLink RX4 96 "RepeatLearner$Settings" "blend" "I" ∈ wsL_law := List.mem_of_getElem? (i := 200) (by decide +kernel)
set_option maxRecDepth 20000 in
theorem li_X5_setLimits : Cond.instanceMethod yX5_setLimits ∈ wsL_law := List.mem_of_getElem? (i := 202) (by decide +kernel)
set_option maxRecDepth 20000 in
theorem ls_X5_setLimits : Cond.selects RX5 yX5_setLimits yX5_setLimits ∈ wsL_law := List.mem_of_getElem? (i := 203) (by decide +kernel)
set_option maxRecDepth 20000 in
theorem lc_X5_setLimits : Cond.code yX5_setLimits cX5_setLimits 4 (some .int) ∈ wsL_law := List.mem_of_getElem? (i := 204) (by decide +kernel)
set_option maxRecDepth 20000 in
theorem li_X4_setGreatestShift : Cond.instanceMethod yX4_setGreatestShift ∈ wsL_law := List.mem_of_getElem? (i := 206) (by decide +kernel)
set_option maxRecDepth 20000 in
theorem ls_X4_setGreatestShift : Cond.selects RX4 yX4_setGreatestShift yX4_setGreatestShift ∈ wsL_law := List.mem_of_getElem? (i := 207) (by decide +kernel)
set_option maxRecDepth 20000 in
theorem lc_X4_setGreatestShift : Cond.code yX4_setGreatestShift cX4_setGreatestShift 3 (some .int) ∈ wsL_law := List.mem_of_getElem? (i := 208) (by decide +kernel)
set_option maxRecDepth 20000 in
theorem lk_RX4_99 : Cond.fieldLink RX4 99 "RepeatLearner$Settings" "greatestShift" "I" ∈ wsL_law := List.mem_of_getElem? (i := 209) (by decide +kernel)
set_option maxRecDepth 20000 in
theorem li_X5_setGreatestShift : Cond.instanceMethod yX5_setGreatestShift ∈ wsL_law := List.mem_of_getElem? (i := 211) (by decide +kernel)
set_option maxRecDepth 20000 in
theorem ls_X5_setGreatestShift : Cond.selects RX5 yX5_setGreatestShift yX5_setGreatestShift ∈ wsL_law := List.mem_of_getElem? (i := 212) (by decide +kernel)
set_option maxRecDepth 20000 in
theorem lc_X5_setGreatestShift : Cond.code yX5_setGreatestShift cX5_setGreatestShift 3 (some .int) ∈ wsL_law := List.mem_of_getElem? (i := 213) (by decide +kernel)
set_option maxRecDepth 20000 in
theorem li_X4_setTolerance : Cond.instanceMethod yX4_setTolerance ∈ wsL_law := List.mem_of_getElem? (i := 215) (by decide +kernel)
set_option maxRecDepth 20000 in
theorem ls_X4_setTolerance : Cond.selects RX4 yX4_setTolerance yX4_setTolerance ∈ wsL_law := List.mem_of_getElem? (i := 216) (by decide +kernel)
set_option maxRecDepth 20000 in
theorem lc_X4_setTolerance : Cond.code yX4_setTolerance cX4_setTolerance 4 (some .int) ∈ wsL_law := List.mem_of_getElem? (i := 217) (by decide +kernel)
set_option maxRecDepth 20000 in
theorem lk_RX4_102 : Cond.fieldLink RX4 102 "RepeatLearner$Settings" "tolerance" "I" ∈ wsL_law := List.mem_of_getElem? (i := 218) (by decide +kernel)
set_option maxRecDepth 20000 in
theorem lk_RX4_105 : Cond.fieldLink RX4 105 "RepeatLearner$Settings" "hold" "I" ∈ wsL_law := List.mem_of_getElem? (i := 219) (by decide +kernel)
set_option maxRecDepth 20000 in
theorem li_X5_setTolerance : Cond.instanceMethod yX5_setTolerance ∈ wsL_law := List.mem_of_getElem? (i := 221) (by decide +kernel)
set_option maxRecDepth 20000 in
theorem ls_X5_setTolerance : Cond.selects RX5 yX5_setTolerance yX5_setTolerance ∈ wsL_law := List.mem_of_getElem? (i := 222) (by decide +kernel)
set_option maxRecDepth 20000 in
theorem lc_X5_setTolerance : Cond.code yX5_setTolerance cX5_setTolerance 4 (some .int) ∈ wsL_law := List.mem_of_getElem? (i := 223) (by decide +kernel)
set_option maxRecDepth 20000 in
theorem li_X4_setGuard : Cond.instanceMethod yX4_setGuard ∈ wsL_law := List.mem_of_getElem? (i := 225) (by decide +kernel)
set_option maxRecDepth 20000 in
theorem ls_X4_setGuard : Cond.selects RX4 yX4_setGuard yX4_setGuard ∈ wsL_law := List.mem_of_getElem? (i := 226) (by decide +kernel)
set_option maxRecDepth 20000 in
theorem lc_X4_setGuard : Cond.code yX4_setGuard cX4_setGuard 3 (some .int) ∈ wsL_law := List.mem_of_getElem? (i := 227) (by decide +kernel)
set_option maxRecDepth 20000 in
theorem lk_RX4_108 : Cond.fieldLink RX4 108 "RepeatLearner$Settings" "guard" "Z" ∈ wsL_law := List.mem_of_getElem? (i := 228) (by decide +kernel)
set_option maxRecDepth 20000 in
theorem li_X5_setGuard : Cond.instanceMethod yX5_setGuard ∈ wsL_law := List.mem_of_getElem? (i := 230) (by decide +kernel)
set_option maxRecDepth 20000 in
theorem ls_X5_setGuard : Cond.selects RX5 yX5_setGuard yX5_setGuard ∈ wsL_law := List.mem_of_getElem? (i := 231) (by decide +kernel)
set_option maxRecDepth 20000 in
theorem lc_X5_setGuard : Cond.code yX5_setGuard cX5_setGuard 3 (some .int) ∈ wsL_law := List.mem_of_getElem? (i := 232) (by decide +kernel)
set_option maxRecDepth 20000 in
theorem li_X4_setting : Cond.instanceMethod yX4_setting ∈ wsL_law := List.mem_of_getElem? (i := 234) (by decide +kernel)
set_option maxRecDepth 20000 in
theorem ls_X4_setting : Cond.selects RX4 yX4_setting yX4_setting ∈ wsL_law := List.mem_of_getElem? (i := 235) (by decide +kernel)
set_option maxRecDepth 20000 in
theorem lc_X4_setting : Cond.code yX4_setting cX4_setting 2 (some .int) ∈ wsL_law := List.mem_of_getElem? (i := 236) (by decide +kernel)
set_option maxRecDepth 20000 in
theorem li_X5_setting : Cond.instanceMethod yX5_setting ∈ wsL_law := List.mem_of_getElem? (i := 238) (by decide +kernel)
set_option maxRecDepth 20000 in
theorem ls_X5_setting : Cond.selects RX5 yX5_setting yX5_setting ∈ wsL_law := List.mem_of_getElem? (i := 239) (by decide +kernel)
set_option maxRecDepth 20000 in
theorem lc_X5_setting : Cond.code yX5_setting cX5_setting 2 (some .int) ∈ wsL_law := List.mem_of_getElem? (i := 240) (by decide +kernel)
set_option maxRecDepth 20000 in
theorem li_X4_startTrial : Cond.instanceMethod yX4_startTrial ∈ wsL_law := List.mem_of_getElem? (i := 242) (by decide +kernel)
set_option maxRecDepth 20000 in
theorem ls_X4_startTrial : Cond.selects RX4 yX4_startTrial yX4_startTrial ∈ wsL_law := List.mem_of_getElem? (i := 243) (by decide +kernel)
set_option maxRecDepth 20000 in
theorem lc_X4_startTrial : Cond.code yX4_startTrial cX4_startTrial 1 (some .int) ∈ wsL_law := List.mem_of_getElem? (i := 244) (by decide +kernel)
set_option maxRecDepth 20000 in
theorem lk_RX4_115 : Cond.constant RX4 115 (-2000000002) ∈ wsL_law := List.mem_of_getElem? (i := 245) (by decide +kernel)
set_option maxRecDepth 20000 in
theorem lk_RX4_116 : Cond.methodLink RX4 116 yX4_beginTrial ∈ wsL_law := List.mem_of_getElem? (i := 246) (by decide +kernel)
set_option maxRecDepth 20000 in
theorem li_X4_beginTrial : Cond.instanceMethod yX4_beginTrial ∈ wsL_law := List.mem_of_getElem? (i := 247) (by decide +kernel)
set_option maxRecDepth 20000 in
theorem ls_X4_beginTrial : Cond.selects RX4 yX4_beginTrial yX4_beginTrial ∈ wsL_law := List.mem_of_getElem? (i := 248) (by decide +kernel)
set_option maxRecDepth 20000 in
theorem lc_X4_beginTrial : Cond.code yX4_beginTrial cX4_beginTrial 1 none ∈ wsL_law := List.mem_of_getElem? (i := 249) (by decide +kernel)
set_option maxRecDepth 20000 in
theorem li_X5_startTrial : Cond.instanceMethod yX5_startTrial ∈ wsL_law := List.mem_of_getElem? (i := 251) (by decide +kernel)
set_option maxRecDepth 20000 in
theorem ls_X5_startTrial : Cond.selects RX5 yX5_startTrial yX5_startTrial ∈ wsL_law := List.mem_of_getElem? (i := 252) (by decide +kernel)
set_option maxRecDepth 20000 in
theorem lc_X5_startTrial : Cond.code yX5_startTrial cX5_startTrial 1 (some .int) ∈ wsL_law := List.mem_of_getElem? (i := 253) (by decide +kernel)
set_option maxRecDepth 20000 in
theorem lk_RX5_164 : Cond.constant RX5 164 (-2000000002) ∈ wsL_law := List.mem_of_getElem? (i := 254) (by decide +kernel)
set_option maxRecDepth 20000 in
theorem li_X4_record : Cond.instanceMethod yX4_record ∈ wsL_law := List.mem_of_getElem? (i := 256) (by decide +kernel)
set_option maxRecDepth 20000 in
theorem ls_X4_record : Cond.selects RX4 yX4_record yX4_record ∈ wsL_law := List.mem_of_getElem? (i := 257) (by decide +kernel)
set_option maxRecDepth 20000 in
theorem lc_X4_record : Cond.code yX4_record cX4_record 2 (some .int) ∈ wsL_law := List.mem_of_getElem? (i := 258) (by decide +kernel)
set_option maxRecDepth 20000 in
theorem lk_RX4_122 : Cond.constant RX4 122 (-2000000003) ∈ wsL_law := List.mem_of_getElem? (i := 259) (by decide +kernel)
set_option maxRecDepth 20000 in
theorem lk_RX4_129 : Cond.constant RX4 129 (-2000000004) ∈ wsL_law := List.mem_of_getElem? (i := 260) (by decide +kernel)
set_option maxRecDepth 20000 in
theorem lk_RX4_123 : Cond.methodLink RX4 123 yX4_takeOutput ∈ wsL_law := List.mem_of_getElem? (i := 261) (by decide +kernel)
set_option maxRecDepth 20000 in
theorem li_X4_takeOutput : Cond.instanceMethod yX4_takeOutput ∈ wsL_law := List.mem_of_getElem? (i := 262) (by decide +kernel)
set_option maxRecDepth 20000 in
theorem ls_X4_takeOutput : Cond.selects RX4 yX4_takeOutput yX4_takeOutput ∈ wsL_law := List.mem_of_getElem? (i := 263) (by decide +kernel)
set_option maxRecDepth 20000 in
theorem lc_X4_takeOutput : Cond.code yX4_takeOutput cX4_takeOutput 2 none ∈ wsL_law := List.mem_of_getElem? (i := 264) (by decide +kernel)
set_option maxRecDepth 20000 in
theorem lk_RX4_234 : Cond.methodLink RX4 234 yX4_completeTrial ∈ wsL_law := List.mem_of_getElem? (i := 265) (by decide +kernel)
set_option maxRecDepth 20000 in
theorem li_X4_completeTrial : Cond.instanceMethod yX4_completeTrial ∈ wsL_law := List.mem_of_getElem? (i := 266) (by decide +kernel)
set_option maxRecDepth 20000 in
theorem ls_X4_completeTrial : Cond.selects RX4 yX4_completeTrial yX4_completeTrial ∈ wsL_law := List.mem_of_getElem? (i := 267) (by decide +kernel)
set_option maxRecDepth 20000 in
theorem lc_X4_completeTrial : Cond.code yX4_completeTrial cX4_completeTrial 3 none ∈ wsL_law := List.mem_of_getElem? (i := 268) (by decide +kernel)
set_option maxRecDepth 20000 in
theorem lk_RX4_155 : Cond.fieldLink RX4 155 "RepeatLearner$History" "norms" "[I" ∈ wsL_law := List.mem_of_getElem? (i := 269) (by decide +kernel)
set_option maxRecDepth 20000 in
theorem lk_RX4_148 : Cond.methodLink RX4 148 yX1_reaches ∈ wsL_law := List.mem_of_getElem? (i := 270) (by decide +kernel)
set_option maxRecDepth 20000 in
theorem li_X1_reaches : Cond.instanceMethod yX1_reaches ∈ wsL_law := List.mem_of_getElem? (i := 271) (by decide +kernel)
set_option maxRecDepth 20000 in
theorem ls_X1_reaches : Cond.selects RX1 yX1_reaches yX1_reaches ∈ wsL_law := List.mem_of_getElem? (i := 272) (by decide +kernel)
set_option maxRecDepth 20000 in
theorem lc_X1_reaches : Cond.code yX1_reaches cX1_reaches 2 (some .boolean) ∈ wsL_law := List.mem_of_getElem? (i := 273) (by decide +kernel)
set_option maxRecDepth 20000 in
theorem lk_RX1_23 : Cond.fieldLink RX1 23 "RepeatLearner$History" "complete" "I" ∈ wsL_law := List.mem_of_getElem? (i := 274) (by decide +kernel)
set_option maxRecDepth 20000 in
theorem lk_RX4_244 : Cond.methodLink RX4 244 yX4_bestFittingShift ∈ wsL_law := List.mem_of_getElem? (i := 275) (by decide +kernel)
set_option maxRecDepth 20000 in
theorem li_X4_bestFittingShift : Cond.instanceMethod yX4_bestFittingShift ∈ wsL_law := List.mem_of_getElem? (i := 276) (by decide +kernel)
set_option maxRecDepth 20000 in
theorem ls_X4_bestFittingShift : Cond.selects RX4 yX4_bestFittingShift yX4_bestFittingShift ∈ wsL_law := List.mem_of_getElem? (i := 277) (by decide +kernel)
set_option maxRecDepth 20000 in
theorem lc_X4_bestFittingShift : Cond.code yX4_bestFittingShift cX4_bestFittingShift 8 (some .int) ∈ wsL_law := List.mem_of_getElem? (i := 278) (by decide +kernel)
set_option maxRecDepth 20000 in
theorem lk_RX4_265 : Cond.methodLink RX4 265 yX4_misfit ∈ wsL_law := List.mem_of_getElem? (i := 279) (by decide +kernel)
set_option maxRecDepth 20000 in
theorem li_X4_misfit : Cond.instanceMethod yX4_misfit ∈ wsL_law := List.mem_of_getElem? (i := 280) (by decide +kernel)
set_option maxRecDepth 20000 in
theorem ls_X4_misfit : Cond.selects RX4 yX4_misfit yX4_misfit ∈ wsL_law := List.mem_of_getElem? (i := 281) (by decide +kernel)
set_option maxRecDepth 20000 in
theorem lc_X4_misfit : Cond.code yX4_misfit cX4_misfit 5 (some .long) ∈ wsL_law := List.mem_of_getElem? (i := 282) (by decide +kernel)
set_option maxRecDepth 20000 in
theorem lk_RX4_269 : Cond.methodLink RX4 269 Lib.Math.abs.name ∈ wsL_law := List.mem_of_getElem? (i := 283) (by decide +kernel)
set_option maxRecDepth 20000 in
theorem lw_static_Lib_Math_abs_name : Cond.static Lib.Math.abs.name ∈ wsL_law := List.mem_of_getElem? (i := 284) (by decide +kernel)
set_option maxRecDepth 20000 in
theorem lw_initialized__java_lang_Math_ : Cond.initialized "java/lang/Math" ∈ wsL_law := List.mem_of_getElem? (i := 285) (by decide +kernel)
set_option maxRecDepth 20000 in
theorem lw_code_Lib_Math_abs_name_Lib_Math_abs_code_1__some__int_ : Cond.code Lib.Math.abs.name Lib.Math.abs.code 1 (some .int) ∈ wsL_law := List.mem_of_getElem? (i := 286) (by decide +kernel)
set_option maxRecDepth 20000 in
theorem lk_RX4_248 : Cond.methodLink RX4 248 yX4_rawAt ∈ wsL_law := List.mem_of_getElem? (i := 287) (by decide +kernel)
set_option maxRecDepth 20000 in
theorem li_X4_rawAt : Cond.instanceMethod yX4_rawAt ∈ wsL_law := List.mem_of_getElem? (i := 288) (by decide +kernel)
set_option maxRecDepth 20000 in
theorem ls_X4_rawAt : Cond.selects RX4 yX4_rawAt yX4_rawAt ∈ wsL_law := List.mem_of_getElem? (i := 289) (by decide +kernel)
set_option maxRecDepth 20000 in
theorem lc_X4_rawAt : Cond.code yX4_rawAt cX4_rawAt 2 (some .int) ∈ wsL_law := List.mem_of_getElem? (i := 290) (by decide +kernel)
set_option maxRecDepth 20000 in
theorem lk_RX4_271 : Cond.methodLink RX4 271 Lib.Math.min.name ∈ wsL_law := List.mem_of_getElem? (i := 291) (by decide +kernel)
set_option maxRecDepth 20000 in
theorem lw_static_Lib_Math_min_name : Cond.static Lib.Math.min.name ∈ wsL_law := List.mem_of_getElem? (i := 292) (by decide +kernel)
set_option maxRecDepth 20000 in
theorem lw_code_Lib_Math_min_name_Lib_Math_min_code_2__some__int_ : Cond.code Lib.Math.min.name Lib.Math.min.code 2 (some .int) ∈ wsL_law := List.mem_of_getElem? (i := 293) (by decide +kernel)
set_option maxRecDepth 20000 in
theorem lk_RX4_274 : Cond.methodLink RX4 274 Lib.Math.max.name ∈ wsL_law := List.mem_of_getElem? (i := 294) (by decide +kernel)
set_option maxRecDepth 20000 in
theorem lw_static_Lib_Math_max_name : Cond.static Lib.Math.max.name ∈ wsL_law := List.mem_of_getElem? (i := 295) (by decide +kernel)
set_option maxRecDepth 20000 in
theorem lw_code_Lib_Math_max_name_Lib_Math_max_code_2__some__int_ : Cond.code Lib.Math.max.name Lib.Math.max.code 2 (some .int) ∈ wsL_law := List.mem_of_getElem? (i := 296) (by decide +kernel)
set_option maxRecDepth 20000 in
theorem lk_RX4_251 : Cond.methodLink RX4 251 yX1_add ∈ wsL_law := List.mem_of_getElem? (i := 297) (by decide +kernel)
set_option maxRecDepth 20000 in
theorem li_X1_add : Cond.instanceMethod yX1_add ∈ wsL_law := List.mem_of_getElem? (i := 298) (by decide +kernel)
set_option maxRecDepth 20000 in
theorem ls_X1_add : Cond.selects RX1 yX1_add yX1_add ∈ wsL_law := List.mem_of_getElem? (i := 299) (by decide +kernel)
set_option maxRecDepth 20000 in
theorem lc_X1_add : Cond.code yX1_add cX1_add 8 none ∈ wsL_law := List.mem_of_getElem? (i := 300) (by decide +kernel)
set_option maxRecDepth 20000 in
theorem lk_RX1_37 : Cond.methodLink RX1 37 Lib.Math.abs.name ∈ wsL_law := List.mem_of_getElem? (i := 301) (by decide +kernel)
set_option maxRecDepth 20000 in
theorem lk_RX1_33 : Cond.methodLink RX1 33 yX1_slot ∈ wsL_law := List.mem_of_getElem? (i := 302) (by decide +kernel)
set_option maxRecDepth 20000 in
theorem li_X1_slot : Cond.instanceMethod yX1_slot ∈ wsL_law := List.mem_of_getElem? (i := 303) (by decide +kernel)
set_option maxRecDepth 20000 in
theorem ls_X1_slot : Cond.selects RX1 yX1_slot yX1_slot ∈ wsL_law := List.mem_of_getElem? (i := 304) (by decide +kernel)
set_option maxRecDepth 20000 in
theorem lc_X1_slot : Cond.code yX1_slot cX1_slot 2 (some .int) ∈ wsL_law := List.mem_of_getElem? (i := 305) (by decide +kernel)
set_option maxRecDepth 20000 in
theorem lk_RX1_27 : Cond.methodLink RX1 27 yJ9_floorMod_7cf53 ∈ wsL_law := List.mem_of_getElem? (i := 306) (by decide +kernel)
set_option maxRecDepth 20000 in
theorem lt_J9_floorMod_7cf53 : Cond.static yJ9_floorMod_7cf53 ∈ wsL_law := List.mem_of_getElem? (i := 307) (by decide +kernel)
set_option maxRecDepth 20000 in
theorem ln_RJ9 : Cond.initialized RJ9 ∈ wsL_law := List.mem_of_getElem? (i := 308) (by decide +kernel)
set_option maxRecDepth 20000 in
theorem lc_J9_floorMod_7cf53 : Cond.code yJ9_floorMod_7cf53 cJ9_floorMod_7cf53 3 (some .int) ∈ wsL_law := List.mem_of_getElem? (i := 309) (by decide +kernel)
set_option maxRecDepth 20000 in
theorem lk_RX4_158 : Cond.methodLink RX4 158 yX1_slot ∈ wsL_law := List.mem_of_getElem? (i := 310) (by decide +kernel)
set_option maxRecDepth 20000 in
theorem lk_RX4_255 : Cond.methodLink RX4 255 yX4_judge ∈ wsL_law := List.mem_of_getElem? (i := 311) (by decide +kernel)
set_option maxRecDepth 20000 in
theorem li_X4_judge : Cond.instanceMethod yX4_judge ∈ wsL_law := List.mem_of_getElem? (i := 312) (by decide +kernel)
set_option maxRecDepth 20000 in
theorem ls_X4_judge : Cond.selects RX4 yX4_judge yX4_judge ∈ wsL_law := List.mem_of_getElem? (i := 313) (by decide +kernel)
set_option maxRecDepth 20000 in
theorem lc_X4_judge : Cond.code yX4_judge cX4_judge 2 none ∈ wsL_law := List.mem_of_getElem? (i := 314) (by decide +kernel)
set_option maxRecDepth 20000 in
theorem lk_RX4_180 : Cond.fieldLink RX4 180 "RepeatLearner$Best" "leastNorm" "I" ∈ wsL_law := List.mem_of_getElem? (i := 315) (by decide +kernel)
set_option maxRecDepth 20000 in
theorem lk_RX4_276 : Cond.methodLink RX4 276 yX0_remember ∈ wsL_law := List.mem_of_getElem? (i := 316) (by decide +kernel)
set_option maxRecDepth 20000 in
theorem li_X0_remember : Cond.instanceMethod yX0_remember ∈ wsL_law := List.mem_of_getElem? (i := 317) (by decide +kernel)
set_option maxRecDepth 20000 in
theorem ls_X0_remember : Cond.selects RX0 yX0_remember yX0_remember ∈ wsL_law := List.mem_of_getElem? (i := 318) (by decide +kernel)
set_option maxRecDepth 20000 in
theorem lc_X0_remember : Cond.code yX0_remember cX0_remember 4 none ∈ wsL_law := List.mem_of_getElem? (i := 319) (by decide +kernel)
set_option maxRecDepth 20000 in
theorem lk_RX0_15 : Cond.fieldLink RX0 15 "RepeatLearner$Best" "known" "Z" ∈ wsL_law := List.mem_of_getElem? (i := 320) (by decide +kernel)
set_option maxRecDepth 20000 in
theorem lk_RX0_19 : Cond.fieldLink RX0 19 "RepeatLearner$Best" "leastNorm" "I" ∈ wsL_law := List.mem_of_getElem? (i := 321) (by decide +kernel)
set_option maxRecDepth 20000 in
theorem lk_RX0_23 : Cond.fieldLink RX0 23 "RepeatLearner$Best" "number" "I" ∈ wsL_law := List.mem_of_getElem? (i := 322) (by decide +kernel)
set_option maxRecDepth 20000 in
theorem lk_RX0_26 : Cond.methodLink RX0 26 arraycopyName ∈ wsL_law := List.mem_of_getElem? (i := 323) (by decide +kernel)
set_option maxRecDepth 20000 in
theorem lw_native_arraycopyName : Cond.native arraycopyName ∈ wsL_law := List.mem_of_getElem? (i := 324) (by decide +kernel)
set_option maxRecDepth 20000 in
theorem lw_static_arraycopyName : Cond.static arraycopyName ∈ wsL_law := List.mem_of_getElem? (i := 325) (by decide +kernel)
set_option maxRecDepth 20000 in
theorem lw_initialized__java_lang_System_ : Cond.initialized "java/lang/System" ∈ wsL_law := List.mem_of_getElem? (i := 326) (by decide +kernel)
set_option maxRecDepth 20000 in
theorem lk_RX4_258 : Cond.methodLink RX4 258 yX4_fallBack ∈ wsL_law := List.mem_of_getElem? (i := 327) (by decide +kernel)
set_option maxRecDepth 20000 in
theorem li_X4_fallBack : Cond.instanceMethod yX4_fallBack ∈ wsL_law := List.mem_of_getElem? (i := 328) (by decide +kernel)
set_option maxRecDepth 20000 in
theorem ls_X4_fallBack : Cond.selects RX4 yX4_fallBack yX4_fallBack ∈ wsL_law := List.mem_of_getElem? (i := 329) (by decide +kernel)
set_option maxRecDepth 20000 in
theorem lc_X4_fallBack : Cond.code yX4_fallBack cX4_fallBack 1 none ∈ wsL_law := List.mem_of_getElem? (i := 330) (by decide +kernel)
set_option maxRecDepth 20000 in
theorem lk_RX4_186 : Cond.fieldLink RX4 186 "RepeatLearner$Best" "usedInputs" "[I" ∈ wsL_law := List.mem_of_getElem? (i := 331) (by decide +kernel)
set_option maxRecDepth 20000 in
theorem lk_RX4_280 : Cond.methodLink RX4 280 arraycopyName ∈ wsL_law := List.mem_of_getElem? (i := 332) (by decide +kernel)
set_option maxRecDepth 20000 in
theorem lk_RX4_151 : Cond.methodLink RX4 151 yX1_errorsOf ∈ wsL_law := List.mem_of_getElem? (i := 333) (by decide +kernel)
set_option maxRecDepth 20000 in
theorem li_X1_errorsOf : Cond.instanceMethod yX1_errorsOf ∈ wsL_law := List.mem_of_getElem? (i := 334) (by decide +kernel)
set_option maxRecDepth 20000 in
theorem ls_X1_errorsOf : Cond.selects RX1 yX1_errorsOf yX1_errorsOf ∈ wsL_law := List.mem_of_getElem? (i := 335) (by decide +kernel)
set_option maxRecDepth 20000 in
theorem lc_X1_errorsOf : Cond.code yX1_errorsOf cX1_errorsOf 2 (some (.array .int)) ∈ wsL_law := List.mem_of_getElem? (i := 336) (by decide +kernel)
set_option maxRecDepth 20000 in
theorem lk_RX4_261 : Cond.methodLink RX4 261 yX4_correct ∈ wsL_law := List.mem_of_getElem? (i := 337) (by decide +kernel)
set_option maxRecDepth 20000 in
theorem li_X4_correct : Cond.instanceMethod yX4_correct ∈ wsL_law := List.mem_of_getElem? (i := 338) (by decide +kernel)
set_option maxRecDepth 20000 in
theorem ls_X4_correct : Cond.selects RX4 yX4_correct yX4_correct ∈ wsL_law := List.mem_of_getElem? (i := 339) (by decide +kernel)
set_option maxRecDepth 20000 in
theorem lc_X4_correct : Cond.code yX4_correct cX4_correct 9 none ∈ wsL_law := List.mem_of_getElem? (i := 340) (by decide +kernel)
set_option maxRecDepth 20000 in
theorem lk_RX4_286 : Cond.constantLong RX4 286 (1000) ∈ wsL_law := List.mem_of_getElem? (i := 341) (by decide +kernel)
set_option maxRecDepth 20000 in
theorem lk_RX4_288 : Cond.methodLink RX4 288 yJ9_floorDiv_f86c9 ∈ wsL_law := List.mem_of_getElem? (i := 342) (by decide +kernel)
set_option maxRecDepth 20000 in
theorem lt_J9_floorDiv_f86c9 : Cond.static yJ9_floorDiv_f86c9 ∈ wsL_law := List.mem_of_getElem? (i := 343) (by decide +kernel)
set_option maxRecDepth 20000 in
theorem lc_J9_floorDiv_f86c9 : Cond.code yJ9_floorDiv_f86c9 cJ9_floorDiv_f86c9 6 (some .long) ∈ wsL_law := List.mem_of_getElem? (i := 344) (by decide +kernel)
set_option maxRecDepth 20000 in
theorem lk_RX4_291 : Cond.methodLink RX4 291 yX4_smoothOnce ∈ wsL_law := List.mem_of_getElem? (i := 345) (by decide +kernel)
set_option maxRecDepth 20000 in
theorem li_X4_smoothOnce : Cond.instanceMethod yX4_smoothOnce ∈ wsL_law := List.mem_of_getElem? (i := 346) (by decide +kernel)
set_option maxRecDepth 20000 in
theorem ls_X4_smoothOnce : Cond.selects RX4 yX4_smoothOnce yX4_smoothOnce ∈ wsL_law := List.mem_of_getElem? (i := 347) (by decide +kernel)
set_option maxRecDepth 20000 in
theorem lc_X4_smoothOnce : Cond.code yX4_smoothOnce cX4_smoothOnce 11 none ∈ wsL_law := List.mem_of_getElem? (i := 348) (by decide +kernel)
set_option maxRecDepth 20000 in
theorem lk_RX4_294 : Cond.constantLong RX4 294 (2) ∈ wsL_law := List.mem_of_getElem? (i := 349) (by decide +kernel)
set_option maxRecDepth 20000 in
theorem lk_RX4_240 : Cond.methodLink RX4 240 yX4_limitTo ∈ wsL_law := List.mem_of_getElem? (i := 350) (by decide +kernel)
set_option maxRecDepth 20000 in
theorem lt_X4_limitTo : Cond.static yX4_limitTo ∈ wsL_law := List.mem_of_getElem? (i := 351) (by decide +kernel)
set_option maxRecDepth 20000 in
theorem lc_X4_limitTo : Cond.code yX4_limitTo cX4_limitTo 3 (some .int) ∈ wsL_law := List.mem_of_getElem? (i := 352) (by decide +kernel)
set_option maxRecDepth 20000 in
theorem lk_RX4_216 : Cond.methodLink RX4 216 Lib.MathLoose.min_long.x ∈ wsL_law := List.mem_of_getElem? (i := 353) (by decide +kernel)
set_option maxRecDepth 20000 in
theorem lw_static_Lib_MathLoose_min_long_x : Cond.static Lib.MathLoose.min_long.x ∈ wsL_law := List.mem_of_getElem? (i := 354) (by decide +kernel)
set_option maxRecDepth 20000 in
theorem lw_code_Lib_MathLoose_min_long_x_Lib_MathLoose_min_long_co : Cond.code Lib.MathLoose.min_long.x Lib.MathLoose.min_long.code 4 (some .long) ∈ wsL_law := List.mem_of_getElem? (i := 355) (by decide +kernel)
set_option maxRecDepth 20000 in
theorem lk_RX4_220 : Cond.methodLink RX4 220 Lib.MathLoose.max_long.x ∈ wsL_law := List.mem_of_getElem? (i := 356) (by decide +kernel)
set_option maxRecDepth 20000 in
theorem lw_static_Lib_MathLoose_max_long_x : Cond.static Lib.MathLoose.max_long.x ∈ wsL_law := List.mem_of_getElem? (i := 357) (by decide +kernel)
set_option maxRecDepth 20000 in
theorem lw_code_Lib_MathLoose_max_long_x_Lib_MathLoose_max_long_co : Cond.code Lib.MathLoose.max_long.x Lib.MathLoose.max_long.code 4 (some .long) ∈ wsL_law := List.mem_of_getElem? (i := 358) (by decide +kernel)
set_option maxRecDepth 20000 in
theorem li_X5_record : Cond.instanceMethod yX5_record ∈ wsL_law := List.mem_of_getElem? (i := 360) (by decide +kernel)
set_option maxRecDepth 20000 in
theorem ls_X5_record : Cond.selects RX5 yX5_record yX5_record ∈ wsL_law := List.mem_of_getElem? (i := 361) (by decide +kernel)
set_option maxRecDepth 20000 in
theorem lc_X5_record : Cond.code yX5_record cX5_record 2 (some .int) ∈ wsL_law := List.mem_of_getElem? (i := 362) (by decide +kernel)
set_option maxRecDepth 20000 in
theorem lk_RX5_165 : Cond.constant RX5 165 (-2000000003) ∈ wsL_law := List.mem_of_getElem? (i := 363) (by decide +kernel)
set_option maxRecDepth 20000 in
theorem lk_RX5_169 : Cond.constant RX5 169 (-2000000004) ∈ wsL_law := List.mem_of_getElem? (i := 364) (by decide +kernel)
set_option maxRecDepth 20000 in
theorem lk_RX5_166 : Cond.methodLink RX5 166 yX5_finish ∈ wsL_law := List.mem_of_getElem? (i := 365) (by decide +kernel)
set_option maxRecDepth 20000 in
theorem li_X5_finish : Cond.instanceMethod yX5_finish ∈ wsL_law := List.mem_of_getElem? (i := 366) (by decide +kernel)
set_option maxRecDepth 20000 in
theorem ls_X5_finish : Cond.selects RX5 yX5_finish yX5_finish ∈ wsL_law := List.mem_of_getElem? (i := 367) (by decide +kernel)
set_option maxRecDepth 20000 in
theorem lc_X5_finish : Cond.code yX5_finish cX5_finish 4 none ∈ wsL_law := List.mem_of_getElem? (i := 368) (by decide +kernel)
set_option maxRecDepth 20000 in
theorem lk_RX5_147 : Cond.methodLink RX5 147 yX5_findShift ∈ wsL_law := List.mem_of_getElem? (i := 369) (by decide +kernel)
set_option maxRecDepth 20000 in
theorem li_X5_findShift : Cond.instanceMethod yX5_findShift ∈ wsL_law := List.mem_of_getElem? (i := 370) (by decide +kernel)
set_option maxRecDepth 20000 in
theorem ls_X5_findShift : Cond.selects RX5 yX5_findShift yX5_findShift ∈ wsL_law := List.mem_of_getElem? (i := 371) (by decide +kernel)
set_option maxRecDepth 20000 in
theorem lc_X5_findShift : Cond.code yX5_findShift cX5_findShift 3 (some .int) ∈ wsL_law := List.mem_of_getElem? (i := 372) (by decide +kernel)
set_option maxRecDepth 20000 in
theorem lk_RX5_143 : Cond.methodLink RX5 143 yX5_unlike ∈ wsL_law := List.mem_of_getElem? (i := 373) (by decide +kernel)
set_option maxRecDepth 20000 in
theorem li_X5_unlike : Cond.instanceMethod yX5_unlike ∈ wsL_law := List.mem_of_getElem? (i := 374) (by decide +kernel)
set_option maxRecDepth 20000 in
theorem ls_X5_unlike : Cond.selects RX5 yX5_unlike yX5_unlike ∈ wsL_law := List.mem_of_getElem? (i := 375) (by decide +kernel)
set_option maxRecDepth 20000 in
theorem lc_X5_unlike : Cond.code yX5_unlike cX5_unlike 5 (some .long) ∈ wsL_law := List.mem_of_getElem? (i := 376) (by decide +kernel)
set_option maxRecDepth 20000 in
theorem lk_RX5_136 : Cond.methodLink RX5 136 yX5_rawAt ∈ wsL_law := List.mem_of_getElem? (i := 377) (by decide +kernel)
set_option maxRecDepth 20000 in
theorem li_X5_rawAt : Cond.instanceMethod yX5_rawAt ∈ wsL_law := List.mem_of_getElem? (i := 378) (by decide +kernel)
set_option maxRecDepth 20000 in
theorem ls_X5_rawAt : Cond.selects RX5 yX5_rawAt yX5_rawAt ∈ wsL_law := List.mem_of_getElem? (i := 379) (by decide +kernel)
set_option maxRecDepth 20000 in
theorem lc_X5_rawAt : Cond.code yX5_rawAt cX5_rawAt 2 (some .int) ∈ wsL_law := List.mem_of_getElem? (i := 380) (by decide +kernel)
set_option maxRecDepth 20000 in
theorem lk_RX5_140 : Cond.methodLink RX5 140 yX5_size ∈ wsL_law := List.mem_of_getElem? (i := 381) (by decide +kernel)
set_option maxRecDepth 20000 in
theorem lt_X5_size : Cond.static yX5_size ∈ wsL_law := List.mem_of_getElem? (i := 382) (by decide +kernel)
set_option maxRecDepth 20000 in
theorem lc_X5_size : Cond.code yX5_size cX5_size 1 (some .int) ∈ wsL_law := List.mem_of_getElem? (i := 383) (by decide +kernel)
set_option maxRecDepth 20000 in
theorem lk_RX5_151 : Cond.methodLink RX5 151 yX5_makeRoom ∈ wsL_law := List.mem_of_getElem? (i := 384) (by decide +kernel)
set_option maxRecDepth 20000 in
theorem li_X5_makeRoom : Cond.instanceMethod yX5_makeRoom ∈ wsL_law := List.mem_of_getElem? (i := 385) (by decide +kernel)
set_option maxRecDepth 20000 in
theorem ls_X5_makeRoom : Cond.selects RX5 yX5_makeRoom yX5_makeRoom ∈ wsL_law := List.mem_of_getElem? (i := 386) (by decide +kernel)
set_option maxRecDepth 20000 in
theorem lc_X5_makeRoom : Cond.code yX5_makeRoom cX5_makeRoom 3 none ∈ wsL_law := List.mem_of_getElem? (i := 387) (by decide +kernel)
set_option maxRecDepth 20000 in
theorem lk_RX5_154 : Cond.methodLink RX5 154 yX5_rate ∈ wsL_law := List.mem_of_getElem? (i := 388) (by decide +kernel)
set_option maxRecDepth 20000 in
theorem li_X5_rate : Cond.instanceMethod yX5_rate ∈ wsL_law := List.mem_of_getElem? (i := 389) (by decide +kernel)
set_option maxRecDepth 20000 in
theorem ls_X5_rate : Cond.selects RX5 yX5_rate yX5_rate ∈ wsL_law := List.mem_of_getElem? (i := 390) (by decide +kernel)
set_option maxRecDepth 20000 in
theorem lc_X5_rate : Cond.code yX5_rate cX5_rate 3 none ∈ wsL_law := List.mem_of_getElem? (i := 391) (by decide +kernel)
set_option maxRecDepth 20000 in
theorem lk_RX5_161 : Cond.fieldLink RX5 161 "RepeatLearnerModel" "bestNorm" "I" ∈ wsL_law := List.mem_of_getElem? (i := 392) (by decide +kernel)
set_option maxRecDepth 20000 in
theorem lk_RX5_157 : Cond.methodLink RX5 157 yX5_correct ∈ wsL_law := List.mem_of_getElem? (i := 393) (by decide +kernel)
set_option maxRecDepth 20000 in
theorem li_X5_correct : Cond.instanceMethod yX5_correct ∈ wsL_law := List.mem_of_getElem? (i := 394) (by decide +kernel)
set_option maxRecDepth 20000 in
theorem ls_X5_correct : Cond.selects RX5 yX5_correct yX5_correct ∈ wsL_law := List.mem_of_getElem? (i := 395) (by decide +kernel)
set_option maxRecDepth 20000 in
theorem lc_X5_correct : Cond.code yX5_correct cX5_correct 7 none ∈ wsL_law := List.mem_of_getElem? (i := 396) (by decide +kernel)
set_option maxRecDepth 20000 in
theorem lk_RX5_123 : Cond.constantLong RX5 123 (1000) ∈ wsL_law := List.mem_of_getElem? (i := 397) (by decide +kernel)
set_option maxRecDepth 20000 in
theorem lk_RX5_125 : Cond.methodLink RX5 125 yX5_down ∈ wsL_law := List.mem_of_getElem? (i := 398) (by decide +kernel)
set_option maxRecDepth 20000 in
theorem lt_X5_down : Cond.static yX5_down ∈ wsL_law := List.mem_of_getElem? (i := 399) (by decide +kernel)
set_option maxRecDepth 20000 in
theorem lc_X5_down : Cond.code yX5_down cX5_down 6 (some .long) ∈ wsL_law := List.mem_of_getElem? (i := 400) (by decide +kernel)
set_option maxRecDepth 20000 in
theorem lk_RX5_129 : Cond.methodLink RX5 129 yX5_smooth ∈ wsL_law := List.mem_of_getElem? (i := 401) (by decide +kernel)
set_option maxRecDepth 20000 in
theorem li_X5_smooth : Cond.instanceMethod yX5_smooth ∈ wsL_law := List.mem_of_getElem? (i := 402) (by decide +kernel)
set_option maxRecDepth 20000 in
theorem ls_X5_smooth : Cond.selects RX5 yX5_smooth yX5_smooth ∈ wsL_law := List.mem_of_getElem? (i := 403) (by decide +kernel)
set_option maxRecDepth 20000 in
theorem lc_X5_smooth : Cond.code yX5_smooth cX5_smooth 6 none ∈ wsL_law := List.mem_of_getElem? (i := 404) (by decide +kernel)
set_option maxRecDepth 20000 in
theorem lk_RX5_132 : Cond.methodLink RX5 132 yX5_kept ∈ wsL_law := List.mem_of_getElem? (i := 405) (by decide +kernel)
set_option maxRecDepth 20000 in
theorem lt_X5_kept : Cond.static yX5_kept ∈ wsL_law := List.mem_of_getElem? (i := 406) (by decide +kernel)
set_option maxRecDepth 20000 in
theorem lc_X5_kept : Cond.code yX5_kept cX5_kept 3 (some .int) ∈ wsL_law := List.mem_of_getElem? (i := 407) (by decide +kernel)
set_option maxRecDepth 20000 in
theorem li_X4_abort : Cond.instanceMethod yX4_abort ∈ wsL_law := List.mem_of_getElem? (i := 409) (by decide +kernel)
set_option maxRecDepth 20000 in
theorem ls_X4_abort : Cond.selects RX4 yX4_abort yX4_abort ∈ wsL_law := List.mem_of_getElem? (i := 410) (by decide +kernel)
set_option maxRecDepth 20000 in
theorem lc_X4_abort : Cond.code yX4_abort cX4_abort 1 (some .int) ∈ wsL_law := List.mem_of_getElem? (i := 411) (by decide +kernel)
set_option maxRecDepth 20000 in
theorem lk_RX4_133 : Cond.methodLink RX4 133 yX4_learnFromPart ∈ wsL_law := List.mem_of_getElem? (i := 412) (by decide +kernel)
set_option maxRecDepth 20000 in
theorem li_X4_learnFromPart : Cond.instanceMethod yX4_learnFromPart ∈ wsL_law := List.mem_of_getElem? (i := 413) (by decide +kernel)
set_option maxRecDepth 20000 in
theorem ls_X4_learnFromPart : Cond.selects RX4 yX4_learnFromPart yX4_learnFromPart ∈ wsL_law := List.mem_of_getElem? (i := 414) (by decide +kernel)
set_option maxRecDepth 20000 in
theorem lc_X4_learnFromPart : Cond.code yX4_learnFromPart cX4_learnFromPart 2 none ∈ wsL_law := List.mem_of_getElem? (i := 415) (by decide +kernel)
set_option maxRecDepth 20000 in
theorem li_X5_abort : Cond.instanceMethod yX5_abort ∈ wsL_law := List.mem_of_getElem? (i := 417) (by decide +kernel)
set_option maxRecDepth 20000 in
theorem ls_X5_abort : Cond.selects RX5 yX5_abort yX5_abort ∈ wsL_law := List.mem_of_getElem? (i := 418) (by decide +kernel)
set_option maxRecDepth 20000 in
theorem lc_X5_abort : Cond.code yX5_abort cX5_abort 2 (some .int) ∈ wsL_law := List.mem_of_getElem? (i := 419) (by decide +kernel)
set_option maxRecDepth 20000 in
theorem li_X4_position : Cond.instanceMethod yX4_position ∈ wsL_law := List.mem_of_getElem? (i := 421) (by decide +kernel)
set_option maxRecDepth 20000 in
theorem ls_X4_position : Cond.selects RX4 yX4_position yX4_position ∈ wsL_law := List.mem_of_getElem? (i := 422) (by decide +kernel)
set_option maxRecDepth 20000 in
theorem lc_X4_position : Cond.code yX4_position cX4_position 1 (some .int) ∈ wsL_law := List.mem_of_getElem? (i := 423) (by decide +kernel)
set_option maxRecDepth 20000 in
theorem li_X5_position : Cond.instanceMethod yX5_position ∈ wsL_law := List.mem_of_getElem? (i := 425) (by decide +kernel)
set_option maxRecDepth 20000 in
theorem ls_X5_position : Cond.selects RX5 yX5_position yX5_position ∈ wsL_law := List.mem_of_getElem? (i := 426) (by decide +kernel)
set_option maxRecDepth 20000 in
theorem lc_X5_position : Cond.code yX5_position cX5_position 1 (some .int) ∈ wsL_law := List.mem_of_getElem? (i := 427) (by decide +kernel)
set_option maxRecDepth 20000 in
theorem li_X4_input : Cond.instanceMethod yX4_input ∈ wsL_law := List.mem_of_getElem? (i := 429) (by decide +kernel)
set_option maxRecDepth 20000 in
theorem ls_X4_input : Cond.selects RX4 yX4_input yX4_input ∈ wsL_law := List.mem_of_getElem? (i := 430) (by decide +kernel)
set_option maxRecDepth 20000 in
theorem lc_X4_input : Cond.code yX4_input cX4_input 2 (some .int) ∈ wsL_law := List.mem_of_getElem? (i := 431) (by decide +kernel)
set_option maxRecDepth 20000 in
theorem li_X5_input : Cond.instanceMethod yX5_input ∈ wsL_law := List.mem_of_getElem? (i := 433) (by decide +kernel)
set_option maxRecDepth 20000 in
theorem ls_X5_input : Cond.selects RX5 yX5_input yX5_input ∈ wsL_law := List.mem_of_getElem? (i := 434) (by decide +kernel)
set_option maxRecDepth 20000 in
theorem lc_X5_input : Cond.code yX5_input cX5_input 2 (some .int) ∈ wsL_law := List.mem_of_getElem? (i := 435) (by decide +kernel)
set_option maxRecDepth 20000 in
theorem li_X4_setInput : Cond.instanceMethod yX4_setInput ∈ wsL_law := List.mem_of_getElem? (i := 437) (by decide +kernel)
set_option maxRecDepth 20000 in
theorem ls_X4_setInput : Cond.selects RX4 yX4_setInput yX4_setInput ∈ wsL_law := List.mem_of_getElem? (i := 438) (by decide +kernel)
set_option maxRecDepth 20000 in
theorem lc_X4_setInput : Cond.code yX4_setInput cX4_setInput 4 (some .int) ∈ wsL_law := List.mem_of_getElem? (i := 439) (by decide +kernel)
set_option maxRecDepth 20000 in
theorem li_X5_setInput : Cond.instanceMethod yX5_setInput ∈ wsL_law := List.mem_of_getElem? (i := 441) (by decide +kernel)
set_option maxRecDepth 20000 in
theorem ls_X5_setInput : Cond.selects RX5 yX5_setInput yX5_setInput ∈ wsL_law := List.mem_of_getElem? (i := 442) (by decide +kernel)
set_option maxRecDepth 20000 in
theorem lc_X5_setInput : Cond.code yX5_setInput cX5_setInput 4 (some .int) ∈ wsL_law := List.mem_of_getElem? (i := 443) (by decide +kernel)
set_option maxRecDepth 20000 in
theorem li_X4_reference : Cond.instanceMethod yX4_reference ∈ wsL_law := List.mem_of_getElem? (i := 445) (by decide +kernel)
set_option maxRecDepth 20000 in
theorem ls_X4_reference : Cond.selects RX4 yX4_reference yX4_reference ∈ wsL_law := List.mem_of_getElem? (i := 446) (by decide +kernel)
set_option maxRecDepth 20000 in
theorem lc_X4_reference : Cond.code yX4_reference cX4_reference 2 (some .int) ∈ wsL_law := List.mem_of_getElem? (i := 447) (by decide +kernel)
set_option maxRecDepth 20000 in
theorem li_X5_reference : Cond.instanceMethod yX5_reference ∈ wsL_law := List.mem_of_getElem? (i := 449) (by decide +kernel)
set_option maxRecDepth 20000 in
theorem ls_X5_reference : Cond.selects RX5 yX5_reference yX5_reference ∈ wsL_law := List.mem_of_getElem? (i := 450) (by decide +kernel)
set_option maxRecDepth 20000 in
theorem lc_X5_reference : Cond.code yX5_reference cX5_reference 2 (some .int) ∈ wsL_law := List.mem_of_getElem? (i := 451) (by decide +kernel)
set_option maxRecDepth 20000 in
theorem li_X4_count : Cond.instanceMethod yX4_count ∈ wsL_law := List.mem_of_getElem? (i := 453) (by decide +kernel)
set_option maxRecDepth 20000 in
theorem ls_X4_count : Cond.selects RX4 yX4_count yX4_count ∈ wsL_law := List.mem_of_getElem? (i := 454) (by decide +kernel)
set_option maxRecDepth 20000 in
theorem lc_X4_count : Cond.code yX4_count cX4_count 2 (some .int) ∈ wsL_law := List.mem_of_getElem? (i := 455) (by decide +kernel)
set_option maxRecDepth 20000 in
theorem li_X5_count : Cond.instanceMethod yX5_count ∈ wsL_law := List.mem_of_getElem? (i := 457) (by decide +kernel)
set_option maxRecDepth 20000 in
theorem ls_X5_count : Cond.selects RX5 yX5_count yX5_count ∈ wsL_law := List.mem_of_getElem? (i := 458) (by decide +kernel)
set_option maxRecDepth 20000 in
theorem lc_X5_count : Cond.code yX5_count cX5_count 2 (some .int) ∈ wsL_law := List.mem_of_getElem? (i := 459) (by decide +kernel)
set_option maxRecDepth 20000 in
theorem li_X4_error : Cond.instanceMethod yX4_error ∈ wsL_law := List.mem_of_getElem? (i := 461) (by decide +kernel)
set_option maxRecDepth 20000 in
theorem ls_X4_error : Cond.selects RX4 yX4_error yX4_error ∈ wsL_law := List.mem_of_getElem? (i := 462) (by decide +kernel)
set_option maxRecDepth 20000 in
theorem lc_X4_error : Cond.code yX4_error cX4_error 3 (some .int) ∈ wsL_law := List.mem_of_getElem? (i := 463) (by decide +kernel)
set_option maxRecDepth 20000 in
theorem lk_RX4_145 : Cond.methodLink RX4 145 yX4_isAge ∈ wsL_law := List.mem_of_getElem? (i := 464) (by decide +kernel)
set_option maxRecDepth 20000 in
theorem lt_X4_isAge : Cond.static yX4_isAge ∈ wsL_law := List.mem_of_getElem? (i := 465) (by decide +kernel)
set_option maxRecDepth 20000 in
theorem lc_X4_isAge : Cond.code yX4_isAge cX4_isAge 1 (some .boolean) ∈ wsL_law := List.mem_of_getElem? (i := 466) (by decide +kernel)
set_option maxRecDepth 20000 in
theorem li_X5_error : Cond.instanceMethod yX5_error ∈ wsL_law := List.mem_of_getElem? (i := 468) (by decide +kernel)
set_option maxRecDepth 20000 in
theorem ls_X5_error : Cond.selects RX5 yX5_error yX5_error ∈ wsL_law := List.mem_of_getElem? (i := 469) (by decide +kernel)
set_option maxRecDepth 20000 in
theorem lc_X5_error : Cond.code yX5_error cX5_error 3 (some .int) ∈ wsL_law := List.mem_of_getElem? (i := 470) (by decide +kernel)
set_option maxRecDepth 20000 in
theorem lk_RX5_170 : Cond.methodLink RX5 170 yX5_isAge ∈ wsL_law := List.mem_of_getElem? (i := 471) (by decide +kernel)
set_option maxRecDepth 20000 in
theorem lt_X5_isAge : Cond.static yX5_isAge ∈ wsL_law := List.mem_of_getElem? (i := 472) (by decide +kernel)
set_option maxRecDepth 20000 in
theorem lc_X5_isAge : Cond.code yX5_isAge cX5_isAge 1 (some .boolean) ∈ wsL_law := List.mem_of_getElem? (i := 473) (by decide +kernel)
set_option maxRecDepth 20000 in
theorem li_X4_norm : Cond.instanceMethod yX4_norm ∈ wsL_law := List.mem_of_getElem? (i := 475) (by decide +kernel)
set_option maxRecDepth 20000 in
theorem ls_X4_norm : Cond.selects RX4 yX4_norm yX4_norm ∈ wsL_law := List.mem_of_getElem? (i := 476) (by decide +kernel)
set_option maxRecDepth 20000 in
theorem lc_X4_norm : Cond.code yX4_norm cX4_norm 2 (some .int) ∈ wsL_law := List.mem_of_getElem? (i := 477) (by decide +kernel)
set_option maxRecDepth 20000 in
theorem li_X5_norm : Cond.instanceMethod yX5_norm ∈ wsL_law := List.mem_of_getElem? (i := 479) (by decide +kernel)
set_option maxRecDepth 20000 in
theorem ls_X5_norm : Cond.selects RX5 yX5_norm yX5_norm ∈ wsL_law := List.mem_of_getElem? (i := 480) (by decide +kernel)
set_option maxRecDepth 20000 in
theorem lc_X5_norm : Cond.code yX5_norm cX5_norm 2 (some .int) ∈ wsL_law := List.mem_of_getElem? (i := 481) (by decide +kernel)
set_option maxRecDepth 20000 in
theorem li_X4_shift : Cond.instanceMethod yX4_shift ∈ wsL_law := List.mem_of_getElem? (i := 483) (by decide +kernel)
set_option maxRecDepth 20000 in
theorem ls_X4_shift : Cond.selects RX4 yX4_shift yX4_shift ∈ wsL_law := List.mem_of_getElem? (i := 484) (by decide +kernel)
set_option maxRecDepth 20000 in
theorem lc_X4_shift : Cond.code yX4_shift cX4_shift 2 (some .int) ∈ wsL_law := List.mem_of_getElem? (i := 485) (by decide +kernel)
set_option maxRecDepth 20000 in
theorem lk_RX4_162 : Cond.fieldLink RX4 162 "RepeatLearner$History" "shifts" "[I" ∈ wsL_law := List.mem_of_getElem? (i := 486) (by decide +kernel)
set_option maxRecDepth 20000 in
theorem li_X5_shift : Cond.instanceMethod yX5_shift ∈ wsL_law := List.mem_of_getElem? (i := 488) (by decide +kernel)
set_option maxRecDepth 20000 in
theorem ls_X5_shift : Cond.selects RX5 yX5_shift yX5_shift ∈ wsL_law := List.mem_of_getElem? (i := 489) (by decide +kernel)
set_option maxRecDepth 20000 in
theorem lc_X5_shift : Cond.code yX5_shift cX5_shift 2 (some .int) ∈ wsL_law := List.mem_of_getElem? (i := 490) (by decide +kernel)
set_option maxRecDepth 20000 in
theorem li_X4_worstSample : Cond.instanceMethod yX4_worstSample ∈ wsL_law := List.mem_of_getElem? (i := 492) (by decide +kernel)
set_option maxRecDepth 20000 in
theorem ls_X4_worstSample : Cond.selects RX4 yX4_worstSample yX4_worstSample ∈ wsL_law := List.mem_of_getElem? (i := 493) (by decide +kernel)
set_option maxRecDepth 20000 in
theorem lc_X4_worstSample : Cond.code yX4_worstSample cX4_worstSample 2 (some .int) ∈ wsL_law := List.mem_of_getElem? (i := 494) (by decide +kernel)
set_option maxRecDepth 20000 in
theorem lk_RX4_165 : Cond.methodLink RX4 165 yX4_indexOfGreatest ∈ wsL_law := List.mem_of_getElem? (i := 495) (by decide +kernel)
set_option maxRecDepth 20000 in
theorem lt_X4_indexOfGreatest : Cond.static yX4_indexOfGreatest ∈ wsL_law := List.mem_of_getElem? (i := 496) (by decide +kernel)
set_option maxRecDepth 20000 in
theorem lc_X4_indexOfGreatest : Cond.code yX4_indexOfGreatest cX4_indexOfGreatest 4 (some .int) ∈ wsL_law := List.mem_of_getElem? (i := 497) (by decide +kernel)
set_option maxRecDepth 20000 in
theorem li_X5_worstSample : Cond.instanceMethod yX5_worstSample ∈ wsL_law := List.mem_of_getElem? (i := 499) (by decide +kernel)
set_option maxRecDepth 20000 in
theorem ls_X5_worstSample : Cond.selects RX5 yX5_worstSample yX5_worstSample ∈ wsL_law := List.mem_of_getElem? (i := 500) (by decide +kernel)
set_option maxRecDepth 20000 in
theorem lc_X5_worstSample : Cond.code yX5_worstSample cX5_worstSample 4 (some .int) ∈ wsL_law := List.mem_of_getElem? (i := 501) (by decide +kernel)
set_option maxRecDepth 20000 in
theorem li_X4_energy : Cond.instanceMethod yX4_energy ∈ wsL_law := List.mem_of_getElem? (i := 503) (by decide +kernel)
set_option maxRecDepth 20000 in
theorem ls_X4_energy : Cond.selects RX4 yX4_energy yX4_energy ∈ wsL_law := List.mem_of_getElem? (i := 504) (by decide +kernel)
set_option maxRecDepth 20000 in
theorem lc_X4_energy : Cond.code yX4_energy cX4_energy 2 (some .long) ∈ wsL_law := List.mem_of_getElem? (i := 505) (by decide +kernel)
set_option maxRecDepth 20000 in
theorem lk_RX4_169 : Cond.constantLong RX4 169 (-1) ∈ wsL_law := List.mem_of_getElem? (i := 506) (by decide +kernel)
set_option maxRecDepth 20000 in
theorem lk_RX4_175 : Cond.constantLong RX4 175 (-2) ∈ wsL_law := List.mem_of_getElem? (i := 507) (by decide +kernel)
set_option maxRecDepth 20000 in
theorem lk_RX4_171 : Cond.methodLink RX4 171 yX4_sumOfSquares ∈ wsL_law := List.mem_of_getElem? (i := 508) (by decide +kernel)
set_option maxRecDepth 20000 in
theorem lt_X4_sumOfSquares : Cond.static yX4_sumOfSquares ∈ wsL_law := List.mem_of_getElem? (i := 509) (by decide +kernel)
set_option maxRecDepth 20000 in
theorem lc_X4_sumOfSquares : Cond.code yX4_sumOfSquares cX4_sumOfSquares 5 (some .long) ∈ wsL_law := List.mem_of_getElem? (i := 510) (by decide +kernel)
set_option maxRecDepth 20000 in
theorem li_X5_energy : Cond.instanceMethod yX5_energy ∈ wsL_law := List.mem_of_getElem? (i := 512) (by decide +kernel)
set_option maxRecDepth 20000 in
theorem ls_X5_energy : Cond.selects RX5 yX5_energy yX5_energy ∈ wsL_law := List.mem_of_getElem? (i := 513) (by decide +kernel)
set_option maxRecDepth 20000 in
theorem lc_X5_energy : Cond.code yX5_energy cX5_energy 7 (some .long) ∈ wsL_law := List.mem_of_getElem? (i := 514) (by decide +kernel)
set_option maxRecDepth 20000 in
theorem lk_RX5_173 : Cond.constantLong RX5 173 (-2) ∈ wsL_law := List.mem_of_getElem? (i := 515) (by decide +kernel)
set_option maxRecDepth 20000 in
theorem lk_RX5_175 : Cond.constantLong RX5 175 (-1) ∈ wsL_law := List.mem_of_getElem? (i := 516) (by decide +kernel)
set_option maxRecDepth 20000 in
theorem li_X4_best : Cond.instanceMethod yX4_best ∈ wsL_law := List.mem_of_getElem? (i := 518) (by decide +kernel)
set_option maxRecDepth 20000 in
theorem ls_X4_best : Cond.selects RX4 yX4_best yX4_best ∈ wsL_law := List.mem_of_getElem? (i := 519) (by decide +kernel)
set_option maxRecDepth 20000 in
theorem lc_X4_best : Cond.code yX4_best cX4_best 2 (some .int) ∈ wsL_law := List.mem_of_getElem? (i := 520) (by decide +kernel)
set_option maxRecDepth 20000 in
theorem lk_RX4_183 : Cond.fieldLink RX4 183 "RepeatLearner$Best" "number" "I" ∈ wsL_law := List.mem_of_getElem? (i := 521) (by decide +kernel)
set_option maxRecDepth 20000 in
theorem li_X5_best : Cond.instanceMethod yX5_best ∈ wsL_law := List.mem_of_getElem? (i := 523) (by decide +kernel)
set_option maxRecDepth 20000 in
theorem ls_X5_best : Cond.selects RX5 yX5_best yX5_best ∈ wsL_law := List.mem_of_getElem? (i := 524) (by decide +kernel)
set_option maxRecDepth 20000 in
theorem lc_X5_best : Cond.code yX5_best cX5_best 2 (some .int) ∈ wsL_law := List.mem_of_getElem? (i := 525) (by decide +kernel)
set_option maxRecDepth 20000 in
theorem li_X4_bestInput : Cond.instanceMethod yX4_bestInput ∈ wsL_law := List.mem_of_getElem? (i := 527) (by decide +kernel)
set_option maxRecDepth 20000 in
theorem ls_X4_bestInput : Cond.selects RX4 yX4_bestInput yX4_bestInput ∈ wsL_law := List.mem_of_getElem? (i := 528) (by decide +kernel)
set_option maxRecDepth 20000 in
theorem lc_X4_bestInput : Cond.code yX4_bestInput cX4_bestInput 2 (some .int) ∈ wsL_law := List.mem_of_getElem? (i := 529) (by decide +kernel)
set_option maxRecDepth 20000 in
theorem li_X5_bestInput : Cond.instanceMethod yX5_bestInput ∈ wsL_law := List.mem_of_getElem? (i := 531) (by decide +kernel)
set_option maxRecDepth 20000 in
theorem ls_X5_bestInput : Cond.selects RX5 yX5_bestInput yX5_bestInput ∈ wsL_law := List.mem_of_getElem? (i := 532) (by decide +kernel)
set_option maxRecDepth 20000 in
theorem lc_X5_bestInput : Cond.code yX5_bestInput cX5_bestInput 2 (some .int) ∈ wsL_law := List.mem_of_getElem? (i := 533) (by decide +kernel)
set_option maxRecDepth 20000 in
theorem li_X4_state : Cond.instanceMethod yX4_state ∈ wsL_law := List.mem_of_getElem? (i := 535) (by decide +kernel)
set_option maxRecDepth 20000 in
theorem ls_X4_state : Cond.selects RX4 yX4_state yX4_state ∈ wsL_law := List.mem_of_getElem? (i := 536) (by decide +kernel)
set_option maxRecDepth 20000 in
theorem lc_X4_state : Cond.code yX4_state cX4_state 2 (some .int) ∈ wsL_law := List.mem_of_getElem? (i := 537) (by decide +kernel)
set_option maxRecDepth 20000 in
theorem lk_RX4_189 : Cond.methodLink RX4 189 yX4_hasConverged ∈ wsL_law := List.mem_of_getElem? (i := 538) (by decide +kernel)
set_option maxRecDepth 20000 in
theorem li_X4_hasConverged : Cond.instanceMethod yX4_hasConverged ∈ wsL_law := List.mem_of_getElem? (i := 539) (by decide +kernel)
set_option maxRecDepth 20000 in
theorem ls_X4_hasConverged : Cond.selects RX4 yX4_hasConverged yX4_hasConverged ∈ wsL_law := List.mem_of_getElem? (i := 540) (by decide +kernel)
set_option maxRecDepth 20000 in
theorem lc_X4_hasConverged : Cond.code yX4_hasConverged cX4_hasConverged 2 (some .boolean) ∈ wsL_law := List.mem_of_getElem? (i := 541) (by decide +kernel)
set_option maxRecDepth 20000 in
theorem lk_RX4_296 : Cond.methodLink RX4 296 yX1_staysWithin ∈ wsL_law := List.mem_of_getElem? (i := 542) (by decide +kernel)
set_option maxRecDepth 20000 in
theorem li_X1_staysWithin : Cond.instanceMethod yX1_staysWithin ∈ wsL_law := List.mem_of_getElem? (i := 543) (by decide +kernel)
set_option maxRecDepth 20000 in
theorem ls_X1_staysWithin : Cond.selects RX1 yX1_staysWithin yX1_staysWithin ∈ wsL_law := List.mem_of_getElem? (i := 544) (by decide +kernel)
set_option maxRecDepth 20000 in
theorem lc_X1_staysWithin : Cond.code yX1_staysWithin cX1_staysWithin 5 (some .boolean) ∈ wsL_law := List.mem_of_getElem? (i := 545) (by decide +kernel)
set_option maxRecDepth 20000 in
theorem lk_RX1_40 : Cond.methodLink RX1 40 yX1_errorsOf ∈ wsL_law := List.mem_of_getElem? (i := 546) (by decide +kernel)
set_option maxRecDepth 20000 in
theorem lk_RX4_192 : Cond.methodLink RX4 192 yX1_hasGrown ∈ wsL_law := List.mem_of_getElem? (i := 547) (by decide +kernel)
set_option maxRecDepth 20000 in
theorem li_X1_hasGrown : Cond.instanceMethod yX1_hasGrown ∈ wsL_law := List.mem_of_getElem? (i := 548) (by decide +kernel)
set_option maxRecDepth 20000 in
theorem ls_X1_hasGrown : Cond.selects RX1 yX1_hasGrown yX1_hasGrown ∈ wsL_law := List.mem_of_getElem? (i := 549) (by decide +kernel)
set_option maxRecDepth 20000 in
theorem lc_X1_hasGrown : Cond.code yX1_hasGrown cX1_hasGrown 2 (some .boolean) ∈ wsL_law := List.mem_of_getElem? (i := 550) (by decide +kernel)
set_option maxRecDepth 20000 in
theorem li_X5_state : Cond.instanceMethod yX5_state ∈ wsL_law := List.mem_of_getElem? (i := 552) (by decide +kernel)
set_option maxRecDepth 20000 in
theorem ls_X5_state : Cond.selects RX5 yX5_state yX5_state ∈ wsL_law := List.mem_of_getElem? (i := 553) (by decide +kernel)
set_option maxRecDepth 20000 in
theorem lc_X5_state : Cond.code yX5_state cX5_state 2 (some .int) ∈ wsL_law := List.mem_of_getElem? (i := 554) (by decide +kernel)
set_option maxRecDepth 20000 in
theorem lk_RX5_177 : Cond.methodLink RX5 177 yX5_isSteady ∈ wsL_law := List.mem_of_getElem? (i := 555) (by decide +kernel)
set_option maxRecDepth 20000 in
theorem li_X5_isSteady : Cond.instanceMethod yX5_isSteady ∈ wsL_law := List.mem_of_getElem? (i := 556) (by decide +kernel)
set_option maxRecDepth 20000 in
theorem ls_X5_isSteady : Cond.selects RX5 yX5_isSteady yX5_isSteady ∈ wsL_law := List.mem_of_getElem? (i := 557) (by decide +kernel)
set_option maxRecDepth 20000 in
theorem lc_X5_isSteady : Cond.code yX5_isSteady cX5_isSteady 4 (some .boolean) ∈ wsL_law := List.mem_of_getElem? (i := 558) (by decide +kernel)
set_option maxRecDepth 20000 in
theorem li_X4_convergedCount : Cond.instanceMethod yX4_convergedCount ∈ wsL_law := List.mem_of_getElem? (i := 560) (by decide +kernel)
set_option maxRecDepth 20000 in
theorem ls_X4_convergedCount : Cond.selects RX4 yX4_convergedCount yX4_convergedCount ∈ wsL_law := List.mem_of_getElem? (i := 561) (by decide +kernel)
set_option maxRecDepth 20000 in
theorem lc_X4_convergedCount : Cond.code yX4_convergedCount cX4_convergedCount 3 (some .int) ∈ wsL_law := List.mem_of_getElem? (i := 562) (by decide +kernel)
set_option maxRecDepth 20000 in
theorem li_X5_convergedCount : Cond.instanceMethod yX5_convergedCount ∈ wsL_law := List.mem_of_getElem? (i := 564) (by decide +kernel)
set_option maxRecDepth 20000 in
theorem ls_X5_convergedCount : Cond.selects RX5 yX5_convergedCount yX5_convergedCount ∈ wsL_law := List.mem_of_getElem? (i := 565) (by decide +kernel)
set_option maxRecDepth 20000 in
theorem lc_X5_convergedCount : Cond.code yX5_convergedCount cX5_convergedCount 3 (some .int) ∈ wsL_law := List.mem_of_getElem? (i := 566) (by decide +kernel)
set_option maxRecDepth 20000 in
theorem li_X4_setPlant : Cond.instanceMethod yX4_setPlant ∈ wsL_law := List.mem_of_getElem? (i := 568) (by decide +kernel)
set_option maxRecDepth 20000 in
theorem ls_X4_setPlant : Cond.selects RX4 yX4_setPlant yX4_setPlant ∈ wsL_law := List.mem_of_getElem? (i := 569) (by decide +kernel)
set_option maxRecDepth 20000 in
theorem lc_X4_setPlant : Cond.code yX4_setPlant cX4_setPlant 4 (some .int) ∈ wsL_law := List.mem_of_getElem? (i := 570) (by decide +kernel)
set_option maxRecDepth 20000 in
theorem lk_RX4_195 : Cond.fieldLink RX4 195 "RepeatLearner$Plant" "coefficients" "[I" ∈ wsL_law := List.mem_of_getElem? (i := 571) (by decide +kernel)
set_option maxRecDepth 20000 in
theorem li_X5_setPlant : Cond.instanceMethod yX5_setPlant ∈ wsL_law := List.mem_of_getElem? (i := 573) (by decide +kernel)
set_option maxRecDepth 20000 in
theorem ls_X5_setPlant : Cond.selects RX5 yX5_setPlant yX5_setPlant ∈ wsL_law := List.mem_of_getElem? (i := 574) (by decide +kernel)
set_option maxRecDepth 20000 in
theorem lc_X5_setPlant : Cond.code yX5_setPlant cX5_setPlant 4 (some .int) ∈ wsL_law := List.mem_of_getElem? (i := 575) (by decide +kernel)
set_option maxRecDepth 20000 in
theorem li_X4_setDisturbance : Cond.instanceMethod yX4_setDisturbance ∈ wsL_law := List.mem_of_getElem? (i := 577) (by decide +kernel)
set_option maxRecDepth 20000 in
theorem ls_X4_setDisturbance : Cond.selects RX4 yX4_setDisturbance yX4_setDisturbance ∈ wsL_law := List.mem_of_getElem? (i := 578) (by decide +kernel)
set_option maxRecDepth 20000 in
theorem lc_X4_setDisturbance : Cond.code yX4_setDisturbance cX4_setDisturbance 4 (some .int) ∈ wsL_law := List.mem_of_getElem? (i := 579) (by decide +kernel)
set_option maxRecDepth 20000 in
theorem lk_RX4_198 : Cond.fieldLink RX4 198 "RepeatLearner$Plant" "amplitude" "I" ∈ wsL_law := List.mem_of_getElem? (i := 580) (by decide +kernel)
set_option maxRecDepth 20000 in
theorem lk_RX4_201 : Cond.fieldLink RX4 201 "RepeatLearner$Plant" "seed" "I" ∈ wsL_law := List.mem_of_getElem? (i := 581) (by decide +kernel)
set_option maxRecDepth 20000 in
theorem li_X5_setDisturbance : Cond.instanceMethod yX5_setDisturbance ∈ wsL_law := List.mem_of_getElem? (i := 583) (by decide +kernel)
set_option maxRecDepth 20000 in
theorem ls_X5_setDisturbance : Cond.selects RX5 yX5_setDisturbance yX5_setDisturbance ∈ wsL_law := List.mem_of_getElem? (i := 584) (by decide +kernel)
set_option maxRecDepth 20000 in
theorem lc_X5_setDisturbance : Cond.code yX5_setDisturbance cX5_setDisturbance 4 (some .int) ∈ wsL_law := List.mem_of_getElem? (i := 585) (by decide +kernel)
set_option maxRecDepth 20000 in
theorem li_X4_simulate : Cond.instanceMethod yX4_simulate ∈ wsL_law := List.mem_of_getElem? (i := 587) (by decide +kernel)
set_option maxRecDepth 20000 in
theorem ls_X4_simulate : Cond.selects RX4 yX4_simulate yX4_simulate ∈ wsL_law := List.mem_of_getElem? (i := 588) (by decide +kernel)
set_option maxRecDepth 20000 in
theorem lc_X4_simulate : Cond.code yX4_simulate cX4_simulate 3 (some .int) ∈ wsL_law := List.mem_of_getElem? (i := 589) (by decide +kernel)
set_option maxRecDepth 20000 in
theorem lk_RX4_204 : Cond.methodLink RX4 204 yX4_simulateTrial ∈ wsL_law := List.mem_of_getElem? (i := 590) (by decide +kernel)
set_option maxRecDepth 20000 in
theorem li_X4_simulateTrial : Cond.instanceMethod yX4_simulateTrial ∈ wsL_law := List.mem_of_getElem? (i := 591) (by decide +kernel)
set_option maxRecDepth 20000 in
theorem ls_X4_simulateTrial : Cond.selects RX4 yX4_simulateTrial yX4_simulateTrial ∈ wsL_law := List.mem_of_getElem? (i := 592) (by decide +kernel)
set_option maxRecDepth 20000 in
theorem lc_X4_simulateTrial : Cond.code yX4_simulateTrial cX4_simulateTrial 2 none ∈ wsL_law := List.mem_of_getElem? (i := 593) (by decide +kernel)
set_option maxRecDepth 20000 in
theorem lk_RX4_237 : Cond.methodLink RX4 237 yX2_outputAt ∈ wsL_law := List.mem_of_getElem? (i := 594) (by decide +kernel)
set_option maxRecDepth 20000 in
theorem li_X2_outputAt : Cond.instanceMethod yX2_outputAt ∈ wsL_law := List.mem_of_getElem? (i := 595) (by decide +kernel)
set_option maxRecDepth 20000 in
theorem ls_X2_outputAt : Cond.selects RX2 yX2_outputAt yX2_outputAt ∈ wsL_law := List.mem_of_getElem? (i := 596) (by decide +kernel)
set_option maxRecDepth 20000 in
theorem lc_X2_outputAt : Cond.code yX2_outputAt cX2_outputAt 7 (some .long) ∈ wsL_law := List.mem_of_getElem? (i := 597) (by decide +kernel)
set_option maxRecDepth 20000 in
theorem lk_RX2_26 : Cond.methodLink RX2 26 Lib.Math.min.name ∈ wsL_law := List.mem_of_getElem? (i := 598) (by decide +kernel)
set_option maxRecDepth 20000 in
theorem lk_RX2_32 : Cond.constantLong RX2 32 (1000) ∈ wsL_law := List.mem_of_getElem? (i := 599) (by decide +kernel)
set_option maxRecDepth 20000 in
theorem lk_RX2_34 : Cond.methodLink RX2 34 yJ9_floorDiv_f86c9 ∈ wsL_law := List.mem_of_getElem? (i := 600) (by decide +kernel)
set_option maxRecDepth 20000 in
theorem lk_RX2_38 : Cond.methodLink RX2 38 yX2_nextDisturbance ∈ wsL_law := List.mem_of_getElem? (i := 601) (by decide +kernel)
set_option maxRecDepth 20000 in
theorem li_X2_nextDisturbance : Cond.instanceMethod yX2_nextDisturbance ∈ wsL_law := List.mem_of_getElem? (i := 602) (by decide +kernel)
set_option maxRecDepth 20000 in
theorem ls_X2_nextDisturbance : Cond.selects RX2 yX2_nextDisturbance yX2_nextDisturbance ∈ wsL_law := List.mem_of_getElem? (i := 603) (by decide +kernel)
set_option maxRecDepth 20000 in
theorem lc_X2_nextDisturbance : Cond.code yX2_nextDisturbance cX2_nextDisturbance 1 (some .int) ∈ wsL_law := List.mem_of_getElem? (i := 604) (by decide +kernel)
set_option maxRecDepth 20000 in
theorem lk_RX2_42 : Cond.constant RX2 42 (1103515245) ∈ wsL_law := List.mem_of_getElem? (i := 605) (by decide +kernel)
set_option maxRecDepth 20000 in
theorem li_X5_simulate : Cond.instanceMethod yX5_simulate ∈ wsL_law := List.mem_of_getElem? (i := 607) (by decide +kernel)
set_option maxRecDepth 20000 in
theorem ls_X5_simulate : Cond.selects RX5 yX5_simulate yX5_simulate ∈ wsL_law := List.mem_of_getElem? (i := 608) (by decide +kernel)
set_option maxRecDepth 20000 in
theorem lc_X5_simulate : Cond.code yX5_simulate cX5_simulate 3 (some .int) ∈ wsL_law := List.mem_of_getElem? (i := 609) (by decide +kernel)
set_option maxRecDepth 20000 in
theorem lk_RX5_181 : Cond.methodLink RX5 181 yX5_startTrial ∈ wsL_law := List.mem_of_getElem? (i := 610) (by decide +kernel)
set_option maxRecDepth 20000 in
theorem lk_RX5_184 : Cond.methodLink RX5 184 yX5_outputOf ∈ wsL_law := List.mem_of_getElem? (i := 611) (by decide +kernel)
set_option maxRecDepth 20000 in
theorem li_X5_outputOf : Cond.instanceMethod yX5_outputOf ∈ wsL_law := List.mem_of_getElem? (i := 612) (by decide +kernel)
set_option maxRecDepth 20000 in
theorem ls_X5_outputOf : Cond.selects RX5 yX5_outputOf yX5_outputOf ∈ wsL_law := List.mem_of_getElem? (i := 613) (by decide +kernel)
set_option maxRecDepth 20000 in
theorem lc_X5_outputOf : Cond.code yX5_outputOf cX5_outputOf 6 (some .int) ∈ wsL_law := List.mem_of_getElem? (i := 614) (by decide +kernel)
set_option maxRecDepth 20000 in
theorem lk_RX5_180 : Cond.constant RX5 180 (1103515245) ∈ wsL_law := List.mem_of_getElem? (i := 615) (by decide +kernel)
set_option maxRecDepth 20000 in
theorem lk_RX5_187 : Cond.methodLink RX5 187 yX5_record ∈ wsL_law := List.mem_of_getElem? (i := 616) (by decide +kernel)
set_option maxRecDepth 20000 in
theorem li_X4_suits : Cond.instanceMethod yX4_suits ∈ wsL_law := List.mem_of_getElem? (i := 618) (by decide +kernel)
set_option maxRecDepth 20000 in
theorem ls_X4_suits : Cond.selects RX4 yX4_suits yX4_suits ∈ wsL_law := List.mem_of_getElem? (i := 619) (by decide +kernel)
set_option maxRecDepth 20000 in
theorem lc_X4_suits : Cond.code yX4_suits cX4_suits 4 (some .int) ∈ wsL_law := List.mem_of_getElem? (i := 620) (by decide +kernel)
set_option maxRecDepth 20000 in
theorem lk_RX4_207 : Cond.methodLink RX4 207 Lib.MathLoose.abs_long.x ∈ wsL_law := List.mem_of_getElem? (i := 621) (by decide +kernel)
set_option maxRecDepth 20000 in
theorem lw_static_Lib_MathLoose_abs_long_x : Cond.static Lib.MathLoose.abs_long.x ∈ wsL_law := List.mem_of_getElem? (i := 622) (by decide +kernel)
set_option maxRecDepth 20000 in
theorem lw_code_Lib_MathLoose_abs_long_x_Lib_MathLoose_abs_long_co : Cond.code Lib.MathLoose.abs_long.x Lib.MathLoose.abs_long.code 2 (some .long) ∈ wsL_law := List.mem_of_getElem? (i := 623) (by decide +kernel)
set_option maxRecDepth 20000 in
theorem lk_RX4_213 : Cond.constantLong RX4 213 (1000000) ∈ wsL_law := List.mem_of_getElem? (i := 624) (by decide +kernel)
set_option maxRecDepth 20000 in
theorem li_X5_suits : Cond.instanceMethod yX5_suits ∈ wsL_law := List.mem_of_getElem? (i := 626) (by decide +kernel)
set_option maxRecDepth 20000 in
theorem ls_X5_suits : Cond.selects RX5 yX5_suits yX5_suits ∈ wsL_law := List.mem_of_getElem? (i := 627) (by decide +kernel)
set_option maxRecDepth 20000 in
theorem lc_X5_suits : Cond.code yX5_suits cX5_suits 4 (some .int) ∈ wsL_law := List.mem_of_getElem? (i := 628) (by decide +kernel)
set_option maxRecDepth 20000 in
theorem lk_RX5_190 : Cond.constantLong RX5 190 (1000000) ∈ wsL_law := List.mem_of_getElem? (i := 629) (by decide +kernel)
theorem hd_X0_init : yX0_init.cls ≠ "java/lang/invoke/MethodHandle" ∧ yX0_init.cls ≠ "java/lang/invoke/VarHandle" ∧ (parseMethodDescriptor yX0_init.desc).map (fun d => d.parameters.length) = some 0 := by decide +kernel
theorem hV_X0_init : yX0_init.cls = RX0 ∧ yX0_init.cls ≠ "java/lang/invoke/MethodHandle" ∧ yX0_init.cls ≠ "java/lang/invoke/VarHandle" ∧ (parseMethodDescriptor yX0_init.desc).map (fun d => d.parameters.length) = some 0 := ⟨rfl, hd_X0_init⟩
theorem hd_X0_remember : yX0_remember.cls ≠ "java/lang/invoke/MethodHandle" ∧ yX0_remember.cls ≠ "java/lang/invoke/VarHandle" ∧ (parseMethodDescriptor yX0_remember.desc).map (fun d => d.parameters.length) = some 3 := by decide +kernel
theorem hV_X0_remember : yX0_remember.cls = RX0 ∧ yX0_remember.cls ≠ "java/lang/invoke/MethodHandle" ∧ yX0_remember.cls ≠ "java/lang/invoke/VarHandle" ∧ (parseMethodDescriptor yX0_remember.desc).map (fun d => d.parameters.length) = some 3 := ⟨rfl, hd_X0_remember⟩
theorem hd_X1_init : yX1_init.cls ≠ "java/lang/invoke/MethodHandle" ∧ yX1_init.cls ≠ "java/lang/invoke/VarHandle" ∧ (parseMethodDescriptor yX1_init.desc).map (fun d => d.parameters.length) = some 0 := by decide +kernel
theorem hV_X1_init : yX1_init.cls = RX1 ∧ yX1_init.cls ≠ "java/lang/invoke/MethodHandle" ∧ yX1_init.cls ≠ "java/lang/invoke/VarHandle" ∧ (parseMethodDescriptor yX1_init.desc).map (fun d => d.parameters.length) = some 0 := ⟨rfl, hd_X1_init⟩
theorem hd_X1_reaches : yX1_reaches.cls ≠ "java/lang/invoke/MethodHandle" ∧ yX1_reaches.cls ≠ "java/lang/invoke/VarHandle" ∧ (parseMethodDescriptor yX1_reaches.desc).map (fun d => d.parameters.length) = some 1 := by decide +kernel
theorem hV_X1_reaches : yX1_reaches.cls = RX1 ∧ yX1_reaches.cls ≠ "java/lang/invoke/MethodHandle" ∧ yX1_reaches.cls ≠ "java/lang/invoke/VarHandle" ∧ (parseMethodDescriptor yX1_reaches.desc).map (fun d => d.parameters.length) = some 1 := ⟨rfl, hd_X1_reaches⟩
theorem hd_X1_slot : yX1_slot.cls ≠ "java/lang/invoke/MethodHandle" ∧ yX1_slot.cls ≠ "java/lang/invoke/VarHandle" ∧ (parseMethodDescriptor yX1_slot.desc).map (fun d => d.parameters.length) = some 1 := by decide +kernel
theorem hV_X1_slot : yX1_slot.cls = RX1 ∧ yX1_slot.cls ≠ "java/lang/invoke/MethodHandle" ∧ yX1_slot.cls ≠ "java/lang/invoke/VarHandle" ∧ (parseMethodDescriptor yX1_slot.desc).map (fun d => d.parameters.length) = some 1 := ⟨rfl, hd_X1_slot⟩
theorem hd_X1_errorsOf : yX1_errorsOf.cls ≠ "java/lang/invoke/MethodHandle" ∧ yX1_errorsOf.cls ≠ "java/lang/invoke/VarHandle" ∧ (parseMethodDescriptor yX1_errorsOf.desc).map (fun d => d.parameters.length) = some 1 := by decide +kernel
theorem hV_X1_errorsOf : yX1_errorsOf.cls = RX1 ∧ yX1_errorsOf.cls ≠ "java/lang/invoke/MethodHandle" ∧ yX1_errorsOf.cls ≠ "java/lang/invoke/VarHandle" ∧ (parseMethodDescriptor yX1_errorsOf.desc).map (fun d => d.parameters.length) = some 1 := ⟨rfl, hd_X1_errorsOf⟩
theorem hd_X1_add : yX1_add.cls ≠ "java/lang/invoke/MethodHandle" ∧ yX1_add.cls ≠ "java/lang/invoke/VarHandle" ∧ (parseMethodDescriptor yX1_add.desc).map (fun d => d.parameters.length) = some 4 := by decide +kernel
theorem hV_X1_add : yX1_add.cls = RX1 ∧ yX1_add.cls ≠ "java/lang/invoke/MethodHandle" ∧ yX1_add.cls ≠ "java/lang/invoke/VarHandle" ∧ (parseMethodDescriptor yX1_add.desc).map (fun d => d.parameters.length) = some 4 := ⟨rfl, hd_X1_add⟩
theorem hd_X1_staysWithin : yX1_staysWithin.cls ≠ "java/lang/invoke/MethodHandle" ∧ yX1_staysWithin.cls ≠ "java/lang/invoke/VarHandle" ∧ (parseMethodDescriptor yX1_staysWithin.desc).map (fun d => d.parameters.length) = some 3 := by decide +kernel
theorem hV_X1_staysWithin : yX1_staysWithin.cls = RX1 ∧ yX1_staysWithin.cls ≠ "java/lang/invoke/MethodHandle" ∧ yX1_staysWithin.cls ≠ "java/lang/invoke/VarHandle" ∧ (parseMethodDescriptor yX1_staysWithin.desc).map (fun d => d.parameters.length) = some 3 := ⟨rfl, hd_X1_staysWithin⟩
theorem hd_X1_hasGrown : yX1_hasGrown.cls ≠ "java/lang/invoke/MethodHandle" ∧ yX1_hasGrown.cls ≠ "java/lang/invoke/VarHandle" ∧ (parseMethodDescriptor yX1_hasGrown.desc).map (fun d => d.parameters.length) = some 1 := by decide +kernel
theorem hV_X1_hasGrown : yX1_hasGrown.cls = RX1 ∧ yX1_hasGrown.cls ≠ "java/lang/invoke/MethodHandle" ∧ yX1_hasGrown.cls ≠ "java/lang/invoke/VarHandle" ∧ (parseMethodDescriptor yX1_hasGrown.desc).map (fun d => d.parameters.length) = some 1 := ⟨rfl, hd_X1_hasGrown⟩
theorem hd_X2_init : yX2_init.cls ≠ "java/lang/invoke/MethodHandle" ∧ yX2_init.cls ≠ "java/lang/invoke/VarHandle" ∧ (parseMethodDescriptor yX2_init.desc).map (fun d => d.parameters.length) = some 0 := by decide +kernel
theorem hV_X2_init : yX2_init.cls = RX2 ∧ yX2_init.cls ≠ "java/lang/invoke/MethodHandle" ∧ yX2_init.cls ≠ "java/lang/invoke/VarHandle" ∧ (parseMethodDescriptor yX2_init.desc).map (fun d => d.parameters.length) = some 0 := ⟨rfl, hd_X2_init⟩
theorem hd_X2_becomeAsAtFirst : yX2_becomeAsAtFirst.cls ≠ "java/lang/invoke/MethodHandle" ∧ yX2_becomeAsAtFirst.cls ≠ "java/lang/invoke/VarHandle" ∧ (parseMethodDescriptor yX2_becomeAsAtFirst.desc).map (fun d => d.parameters.length) = some 0 := by decide +kernel
theorem hV_X2_becomeAsAtFirst : yX2_becomeAsAtFirst.cls = RX2 ∧ yX2_becomeAsAtFirst.cls ≠ "java/lang/invoke/MethodHandle" ∧ yX2_becomeAsAtFirst.cls ≠ "java/lang/invoke/VarHandle" ∧ (parseMethodDescriptor yX2_becomeAsAtFirst.desc).map (fun d => d.parameters.length) = some 0 := ⟨rfl, hd_X2_becomeAsAtFirst⟩
theorem hd_X2_outputAt : yX2_outputAt.cls ≠ "java/lang/invoke/MethodHandle" ∧ yX2_outputAt.cls ≠ "java/lang/invoke/VarHandle" ∧ (parseMethodDescriptor yX2_outputAt.desc).map (fun d => d.parameters.length) = some 2 := by decide +kernel
theorem hV_X2_outputAt : yX2_outputAt.cls = RX2 ∧ yX2_outputAt.cls ≠ "java/lang/invoke/MethodHandle" ∧ yX2_outputAt.cls ≠ "java/lang/invoke/VarHandle" ∧ (parseMethodDescriptor yX2_outputAt.desc).map (fun d => d.parameters.length) = some 2 := ⟨rfl, hd_X2_outputAt⟩
theorem hd_X2_nextDisturbance : yX2_nextDisturbance.cls ≠ "java/lang/invoke/MethodHandle" ∧ yX2_nextDisturbance.cls ≠ "java/lang/invoke/VarHandle" ∧ (parseMethodDescriptor yX2_nextDisturbance.desc).map (fun d => d.parameters.length) = some 0 := by decide +kernel
theorem hV_X2_nextDisturbance : yX2_nextDisturbance.cls = RX2 ∧ yX2_nextDisturbance.cls ≠ "java/lang/invoke/MethodHandle" ∧ yX2_nextDisturbance.cls ≠ "java/lang/invoke/VarHandle" ∧ (parseMethodDescriptor yX2_nextDisturbance.desc).map (fun d => d.parameters.length) = some 0 := ⟨rfl, hd_X2_nextDisturbance⟩
theorem hd_X3_init : yX3_init.cls ≠ "java/lang/invoke/MethodHandle" ∧ yX3_init.cls ≠ "java/lang/invoke/VarHandle" ∧ (parseMethodDescriptor yX3_init.desc).map (fun d => d.parameters.length) = some 0 := by decide +kernel
theorem hV_X3_init : yX3_init.cls = RX3 ∧ yX3_init.cls ≠ "java/lang/invoke/MethodHandle" ∧ yX3_init.cls ≠ "java/lang/invoke/VarHandle" ∧ (parseMethodDescriptor yX3_init.desc).map (fun d => d.parameters.length) = some 0 := ⟨rfl, hd_X3_init⟩
theorem hd_X3_becomeAsAtFirst : yX3_becomeAsAtFirst.cls ≠ "java/lang/invoke/MethodHandle" ∧ yX3_becomeAsAtFirst.cls ≠ "java/lang/invoke/VarHandle" ∧ (parseMethodDescriptor yX3_becomeAsAtFirst.desc).map (fun d => d.parameters.length) = some 1 := by decide +kernel
theorem hV_X3_becomeAsAtFirst : yX3_becomeAsAtFirst.cls = RX3 ∧ yX3_becomeAsAtFirst.cls ≠ "java/lang/invoke/MethodHandle" ∧ yX3_becomeAsAtFirst.cls ≠ "java/lang/invoke/VarHandle" ∧ (parseMethodDescriptor yX3_becomeAsAtFirst.desc).map (fun d => d.parameters.length) = some 1 := ⟨rfl, hd_X3_becomeAsAtFirst⟩
theorem hd_X4_init : yX4_init.cls ≠ "java/lang/invoke/MethodHandle" ∧ yX4_init.cls ≠ "java/lang/invoke/VarHandle" ∧ (parseMethodDescriptor yX4_init.desc).map (fun d => d.parameters.length) = some 0 := by decide +kernel
theorem hV_X4_init : yX4_init.cls = RX4 ∧ yX4_init.cls ≠ "java/lang/invoke/MethodHandle" ∧ yX4_init.cls ≠ "java/lang/invoke/VarHandle" ∧ (parseMethodDescriptor yX4_init.desc).map (fun d => d.parameters.length) = some 0 := ⟨rfl, hd_X4_init⟩
theorem hd_X4_reset : yX4_reset.cls ≠ "java/lang/invoke/MethodHandle" ∧ yX4_reset.cls ≠ "java/lang/invoke/VarHandle" ∧ (parseMethodDescriptor yX4_reset.desc).map (fun d => d.parameters.length) = some 1 := by decide +kernel
theorem hV_X4_reset : yX4_reset.cls = RX4 ∧ yX4_reset.cls ≠ "java/lang/invoke/MethodHandle" ∧ yX4_reset.cls ≠ "java/lang/invoke/VarHandle" ∧ (parseMethodDescriptor yX4_reset.desc).map (fun d => d.parameters.length) = some 1 := ⟨rfl, hd_X4_reset⟩
theorem hd_X4_setReference : yX4_setReference.cls ≠ "java/lang/invoke/MethodHandle" ∧ yX4_setReference.cls ≠ "java/lang/invoke/VarHandle" ∧ (parseMethodDescriptor yX4_setReference.desc).map (fun d => d.parameters.length) = some 2 := by decide +kernel
theorem hV_X4_setReference : yX4_setReference.cls = RX4 ∧ yX4_setReference.cls ≠ "java/lang/invoke/MethodHandle" ∧ yX4_setReference.cls ≠ "java/lang/invoke/VarHandle" ∧ (parseMethodDescriptor yX4_setReference.desc).map (fun d => d.parameters.length) = some 2 := ⟨rfl, hd_X4_setReference⟩
theorem hd_X4_setGain : yX4_setGain.cls ≠ "java/lang/invoke/MethodHandle" ∧ yX4_setGain.cls ≠ "java/lang/invoke/VarHandle" ∧ (parseMethodDescriptor yX4_setGain.desc).map (fun d => d.parameters.length) = some 2 := by decide +kernel
theorem hV_X4_setGain : yX4_setGain.cls = RX4 ∧ yX4_setGain.cls ≠ "java/lang/invoke/MethodHandle" ∧ yX4_setGain.cls ≠ "java/lang/invoke/VarHandle" ∧ (parseMethodDescriptor yX4_setGain.desc).map (fun d => d.parameters.length) = some 2 := ⟨rfl, hd_X4_setGain⟩
theorem hd_X4_setSmoothing : yX4_setSmoothing.cls ≠ "java/lang/invoke/MethodHandle" ∧ yX4_setSmoothing.cls ≠ "java/lang/invoke/VarHandle" ∧ (parseMethodDescriptor yX4_setSmoothing.desc).map (fun d => d.parameters.length) = some 2 := by decide +kernel
theorem hV_X4_setSmoothing : yX4_setSmoothing.cls = RX4 ∧ yX4_setSmoothing.cls ≠ "java/lang/invoke/MethodHandle" ∧ yX4_setSmoothing.cls ≠ "java/lang/invoke/VarHandle" ∧ (parseMethodDescriptor yX4_setSmoothing.desc).map (fun d => d.parameters.length) = some 2 := ⟨rfl, hd_X4_setSmoothing⟩
theorem hd_X4_setLimits : yX4_setLimits.cls ≠ "java/lang/invoke/MethodHandle" ∧ yX4_setLimits.cls ≠ "java/lang/invoke/VarHandle" ∧ (parseMethodDescriptor yX4_setLimits.desc).map (fun d => d.parameters.length) = some 2 := by decide +kernel
theorem hV_X4_setLimits : yX4_setLimits.cls = RX4 ∧ yX4_setLimits.cls ≠ "java/lang/invoke/MethodHandle" ∧ yX4_setLimits.cls ≠ "java/lang/invoke/VarHandle" ∧ (parseMethodDescriptor yX4_setLimits.desc).map (fun d => d.parameters.length) = some 2 := ⟨rfl, hd_X4_setLimits⟩
theorem hd_X4_setGreatestShift : yX4_setGreatestShift.cls ≠ "java/lang/invoke/MethodHandle" ∧ yX4_setGreatestShift.cls ≠ "java/lang/invoke/VarHandle" ∧ (parseMethodDescriptor yX4_setGreatestShift.desc).map (fun d => d.parameters.length) = some 1 := by decide +kernel
theorem hV_X4_setGreatestShift : yX4_setGreatestShift.cls = RX4 ∧ yX4_setGreatestShift.cls ≠ "java/lang/invoke/MethodHandle" ∧ yX4_setGreatestShift.cls ≠ "java/lang/invoke/VarHandle" ∧ (parseMethodDescriptor yX4_setGreatestShift.desc).map (fun d => d.parameters.length) = some 1 := ⟨rfl, hd_X4_setGreatestShift⟩
theorem hd_X4_setTolerance : yX4_setTolerance.cls ≠ "java/lang/invoke/MethodHandle" ∧ yX4_setTolerance.cls ≠ "java/lang/invoke/VarHandle" ∧ (parseMethodDescriptor yX4_setTolerance.desc).map (fun d => d.parameters.length) = some 2 := by decide +kernel
theorem hV_X4_setTolerance : yX4_setTolerance.cls = RX4 ∧ yX4_setTolerance.cls ≠ "java/lang/invoke/MethodHandle" ∧ yX4_setTolerance.cls ≠ "java/lang/invoke/VarHandle" ∧ (parseMethodDescriptor yX4_setTolerance.desc).map (fun d => d.parameters.length) = some 2 := ⟨rfl, hd_X4_setTolerance⟩
theorem hd_X4_setGuard : yX4_setGuard.cls ≠ "java/lang/invoke/MethodHandle" ∧ yX4_setGuard.cls ≠ "java/lang/invoke/VarHandle" ∧ (parseMethodDescriptor yX4_setGuard.desc).map (fun d => d.parameters.length) = some 1 := by decide +kernel
theorem hV_X4_setGuard : yX4_setGuard.cls = RX4 ∧ yX4_setGuard.cls ≠ "java/lang/invoke/MethodHandle" ∧ yX4_setGuard.cls ≠ "java/lang/invoke/VarHandle" ∧ (parseMethodDescriptor yX4_setGuard.desc).map (fun d => d.parameters.length) = some 1 := ⟨rfl, hd_X4_setGuard⟩
theorem hd_X4_setting : yX4_setting.cls ≠ "java/lang/invoke/MethodHandle" ∧ yX4_setting.cls ≠ "java/lang/invoke/VarHandle" ∧ (parseMethodDescriptor yX4_setting.desc).map (fun d => d.parameters.length) = some 1 := by decide +kernel
theorem hV_X4_setting : yX4_setting.cls = RX4 ∧ yX4_setting.cls ≠ "java/lang/invoke/MethodHandle" ∧ yX4_setting.cls ≠ "java/lang/invoke/VarHandle" ∧ (parseMethodDescriptor yX4_setting.desc).map (fun d => d.parameters.length) = some 1 := ⟨rfl, hd_X4_setting⟩
theorem hd_X4_startTrial : yX4_startTrial.cls ≠ "java/lang/invoke/MethodHandle" ∧ yX4_startTrial.cls ≠ "java/lang/invoke/VarHandle" ∧ (parseMethodDescriptor yX4_startTrial.desc).map (fun d => d.parameters.length) = some 0 := by decide +kernel
theorem hV_X4_startTrial : yX4_startTrial.cls = RX4 ∧ yX4_startTrial.cls ≠ "java/lang/invoke/MethodHandle" ∧ yX4_startTrial.cls ≠ "java/lang/invoke/VarHandle" ∧ (parseMethodDescriptor yX4_startTrial.desc).map (fun d => d.parameters.length) = some 0 := ⟨rfl, hd_X4_startTrial⟩
theorem hd_X4_record : yX4_record.cls ≠ "java/lang/invoke/MethodHandle" ∧ yX4_record.cls ≠ "java/lang/invoke/VarHandle" ∧ (parseMethodDescriptor yX4_record.desc).map (fun d => d.parameters.length) = some 1 := by decide +kernel
theorem hV_X4_record : yX4_record.cls = RX4 ∧ yX4_record.cls ≠ "java/lang/invoke/MethodHandle" ∧ yX4_record.cls ≠ "java/lang/invoke/VarHandle" ∧ (parseMethodDescriptor yX4_record.desc).map (fun d => d.parameters.length) = some 1 := ⟨rfl, hd_X4_record⟩
theorem hd_X4_abort : yX4_abort.cls ≠ "java/lang/invoke/MethodHandle" ∧ yX4_abort.cls ≠ "java/lang/invoke/VarHandle" ∧ (parseMethodDescriptor yX4_abort.desc).map (fun d => d.parameters.length) = some 0 := by decide +kernel
theorem hV_X4_abort : yX4_abort.cls = RX4 ∧ yX4_abort.cls ≠ "java/lang/invoke/MethodHandle" ∧ yX4_abort.cls ≠ "java/lang/invoke/VarHandle" ∧ (parseMethodDescriptor yX4_abort.desc).map (fun d => d.parameters.length) = some 0 := ⟨rfl, hd_X4_abort⟩
theorem hd_X4_position : yX4_position.cls ≠ "java/lang/invoke/MethodHandle" ∧ yX4_position.cls ≠ "java/lang/invoke/VarHandle" ∧ (parseMethodDescriptor yX4_position.desc).map (fun d => d.parameters.length) = some 0 := by decide +kernel
theorem hV_X4_position : yX4_position.cls = RX4 ∧ yX4_position.cls ≠ "java/lang/invoke/MethodHandle" ∧ yX4_position.cls ≠ "java/lang/invoke/VarHandle" ∧ (parseMethodDescriptor yX4_position.desc).map (fun d => d.parameters.length) = some 0 := ⟨rfl, hd_X4_position⟩
theorem hd_X4_input : yX4_input.cls ≠ "java/lang/invoke/MethodHandle" ∧ yX4_input.cls ≠ "java/lang/invoke/VarHandle" ∧ (parseMethodDescriptor yX4_input.desc).map (fun d => d.parameters.length) = some 1 := by decide +kernel
theorem hV_X4_input : yX4_input.cls = RX4 ∧ yX4_input.cls ≠ "java/lang/invoke/MethodHandle" ∧ yX4_input.cls ≠ "java/lang/invoke/VarHandle" ∧ (parseMethodDescriptor yX4_input.desc).map (fun d => d.parameters.length) = some 1 := ⟨rfl, hd_X4_input⟩
theorem hd_X4_setInput : yX4_setInput.cls ≠ "java/lang/invoke/MethodHandle" ∧ yX4_setInput.cls ≠ "java/lang/invoke/VarHandle" ∧ (parseMethodDescriptor yX4_setInput.desc).map (fun d => d.parameters.length) = some 2 := by decide +kernel
theorem hV_X4_setInput : yX4_setInput.cls = RX4 ∧ yX4_setInput.cls ≠ "java/lang/invoke/MethodHandle" ∧ yX4_setInput.cls ≠ "java/lang/invoke/VarHandle" ∧ (parseMethodDescriptor yX4_setInput.desc).map (fun d => d.parameters.length) = some 2 := ⟨rfl, hd_X4_setInput⟩
theorem hd_X4_reference : yX4_reference.cls ≠ "java/lang/invoke/MethodHandle" ∧ yX4_reference.cls ≠ "java/lang/invoke/VarHandle" ∧ (parseMethodDescriptor yX4_reference.desc).map (fun d => d.parameters.length) = some 1 := by decide +kernel
theorem hV_X4_reference : yX4_reference.cls = RX4 ∧ yX4_reference.cls ≠ "java/lang/invoke/MethodHandle" ∧ yX4_reference.cls ≠ "java/lang/invoke/VarHandle" ∧ (parseMethodDescriptor yX4_reference.desc).map (fun d => d.parameters.length) = some 1 := ⟨rfl, hd_X4_reference⟩
theorem hd_X4_count : yX4_count.cls ≠ "java/lang/invoke/MethodHandle" ∧ yX4_count.cls ≠ "java/lang/invoke/VarHandle" ∧ (parseMethodDescriptor yX4_count.desc).map (fun d => d.parameters.length) = some 1 := by decide +kernel
theorem hV_X4_count : yX4_count.cls = RX4 ∧ yX4_count.cls ≠ "java/lang/invoke/MethodHandle" ∧ yX4_count.cls ≠ "java/lang/invoke/VarHandle" ∧ (parseMethodDescriptor yX4_count.desc).map (fun d => d.parameters.length) = some 1 := ⟨rfl, hd_X4_count⟩
theorem hd_X4_error : yX4_error.cls ≠ "java/lang/invoke/MethodHandle" ∧ yX4_error.cls ≠ "java/lang/invoke/VarHandle" ∧ (parseMethodDescriptor yX4_error.desc).map (fun d => d.parameters.length) = some 2 := by decide +kernel
theorem hV_X4_error : yX4_error.cls = RX4 ∧ yX4_error.cls ≠ "java/lang/invoke/MethodHandle" ∧ yX4_error.cls ≠ "java/lang/invoke/VarHandle" ∧ (parseMethodDescriptor yX4_error.desc).map (fun d => d.parameters.length) = some 2 := ⟨rfl, hd_X4_error⟩
theorem hd_X4_norm : yX4_norm.cls ≠ "java/lang/invoke/MethodHandle" ∧ yX4_norm.cls ≠ "java/lang/invoke/VarHandle" ∧ (parseMethodDescriptor yX4_norm.desc).map (fun d => d.parameters.length) = some 1 := by decide +kernel
theorem hV_X4_norm : yX4_norm.cls = RX4 ∧ yX4_norm.cls ≠ "java/lang/invoke/MethodHandle" ∧ yX4_norm.cls ≠ "java/lang/invoke/VarHandle" ∧ (parseMethodDescriptor yX4_norm.desc).map (fun d => d.parameters.length) = some 1 := ⟨rfl, hd_X4_norm⟩
theorem hd_X4_shift : yX4_shift.cls ≠ "java/lang/invoke/MethodHandle" ∧ yX4_shift.cls ≠ "java/lang/invoke/VarHandle" ∧ (parseMethodDescriptor yX4_shift.desc).map (fun d => d.parameters.length) = some 1 := by decide +kernel
theorem hV_X4_shift : yX4_shift.cls = RX4 ∧ yX4_shift.cls ≠ "java/lang/invoke/MethodHandle" ∧ yX4_shift.cls ≠ "java/lang/invoke/VarHandle" ∧ (parseMethodDescriptor yX4_shift.desc).map (fun d => d.parameters.length) = some 1 := ⟨rfl, hd_X4_shift⟩
theorem hd_X4_worstSample : yX4_worstSample.cls ≠ "java/lang/invoke/MethodHandle" ∧ yX4_worstSample.cls ≠ "java/lang/invoke/VarHandle" ∧ (parseMethodDescriptor yX4_worstSample.desc).map (fun d => d.parameters.length) = some 1 := by decide +kernel
theorem hV_X4_worstSample : yX4_worstSample.cls = RX4 ∧ yX4_worstSample.cls ≠ "java/lang/invoke/MethodHandle" ∧ yX4_worstSample.cls ≠ "java/lang/invoke/VarHandle" ∧ (parseMethodDescriptor yX4_worstSample.desc).map (fun d => d.parameters.length) = some 1 := ⟨rfl, hd_X4_worstSample⟩
theorem hd_X4_energy : yX4_energy.cls ≠ "java/lang/invoke/MethodHandle" ∧ yX4_energy.cls ≠ "java/lang/invoke/VarHandle" ∧ (parseMethodDescriptor yX4_energy.desc).map (fun d => d.parameters.length) = some 1 := by decide +kernel
theorem hV_X4_energy : yX4_energy.cls = RX4 ∧ yX4_energy.cls ≠ "java/lang/invoke/MethodHandle" ∧ yX4_energy.cls ≠ "java/lang/invoke/VarHandle" ∧ (parseMethodDescriptor yX4_energy.desc).map (fun d => d.parameters.length) = some 1 := ⟨rfl, hd_X4_energy⟩
theorem hd_X4_best : yX4_best.cls ≠ "java/lang/invoke/MethodHandle" ∧ yX4_best.cls ≠ "java/lang/invoke/VarHandle" ∧ (parseMethodDescriptor yX4_best.desc).map (fun d => d.parameters.length) = some 1 := by decide +kernel
theorem hV_X4_best : yX4_best.cls = RX4 ∧ yX4_best.cls ≠ "java/lang/invoke/MethodHandle" ∧ yX4_best.cls ≠ "java/lang/invoke/VarHandle" ∧ (parseMethodDescriptor yX4_best.desc).map (fun d => d.parameters.length) = some 1 := ⟨rfl, hd_X4_best⟩
theorem hd_X4_bestInput : yX4_bestInput.cls ≠ "java/lang/invoke/MethodHandle" ∧ yX4_bestInput.cls ≠ "java/lang/invoke/VarHandle" ∧ (parseMethodDescriptor yX4_bestInput.desc).map (fun d => d.parameters.length) = some 1 := by decide +kernel
theorem hV_X4_bestInput : yX4_bestInput.cls = RX4 ∧ yX4_bestInput.cls ≠ "java/lang/invoke/MethodHandle" ∧ yX4_bestInput.cls ≠ "java/lang/invoke/VarHandle" ∧ (parseMethodDescriptor yX4_bestInput.desc).map (fun d => d.parameters.length) = some 1 := ⟨rfl, hd_X4_bestInput⟩
theorem hd_X4_state : yX4_state.cls ≠ "java/lang/invoke/MethodHandle" ∧ yX4_state.cls ≠ "java/lang/invoke/VarHandle" ∧ (parseMethodDescriptor yX4_state.desc).map (fun d => d.parameters.length) = some 1 := by decide +kernel
theorem hV_X4_state : yX4_state.cls = RX4 ∧ yX4_state.cls ≠ "java/lang/invoke/MethodHandle" ∧ yX4_state.cls ≠ "java/lang/invoke/VarHandle" ∧ (parseMethodDescriptor yX4_state.desc).map (fun d => d.parameters.length) = some 1 := ⟨rfl, hd_X4_state⟩
theorem hd_X4_convergedCount : yX4_convergedCount.cls ≠ "java/lang/invoke/MethodHandle" ∧ yX4_convergedCount.cls ≠ "java/lang/invoke/VarHandle" ∧ (parseMethodDescriptor yX4_convergedCount.desc).map (fun d => d.parameters.length) = some 0 := by decide +kernel
theorem hV_X4_convergedCount : yX4_convergedCount.cls = RX4 ∧ yX4_convergedCount.cls ≠ "java/lang/invoke/MethodHandle" ∧ yX4_convergedCount.cls ≠ "java/lang/invoke/VarHandle" ∧ (parseMethodDescriptor yX4_convergedCount.desc).map (fun d => d.parameters.length) = some 0 := ⟨rfl, hd_X4_convergedCount⟩
theorem hd_X4_setPlant : yX4_setPlant.cls ≠ "java/lang/invoke/MethodHandle" ∧ yX4_setPlant.cls ≠ "java/lang/invoke/VarHandle" ∧ (parseMethodDescriptor yX4_setPlant.desc).map (fun d => d.parameters.length) = some 2 := by decide +kernel
theorem hV_X4_setPlant : yX4_setPlant.cls = RX4 ∧ yX4_setPlant.cls ≠ "java/lang/invoke/MethodHandle" ∧ yX4_setPlant.cls ≠ "java/lang/invoke/VarHandle" ∧ (parseMethodDescriptor yX4_setPlant.desc).map (fun d => d.parameters.length) = some 2 := ⟨rfl, hd_X4_setPlant⟩
theorem hd_X4_setDisturbance : yX4_setDisturbance.cls ≠ "java/lang/invoke/MethodHandle" ∧ yX4_setDisturbance.cls ≠ "java/lang/invoke/VarHandle" ∧ (parseMethodDescriptor yX4_setDisturbance.desc).map (fun d => d.parameters.length) = some 2 := by decide +kernel
theorem hV_X4_setDisturbance : yX4_setDisturbance.cls = RX4 ∧ yX4_setDisturbance.cls ≠ "java/lang/invoke/MethodHandle" ∧ yX4_setDisturbance.cls ≠ "java/lang/invoke/VarHandle" ∧ (parseMethodDescriptor yX4_setDisturbance.desc).map (fun d => d.parameters.length) = some 2 := ⟨rfl, hd_X4_setDisturbance⟩
theorem hd_X4_simulate : yX4_simulate.cls ≠ "java/lang/invoke/MethodHandle" ∧ yX4_simulate.cls ≠ "java/lang/invoke/VarHandle" ∧ (parseMethodDescriptor yX4_simulate.desc).map (fun d => d.parameters.length) = some 1 := by decide +kernel
theorem hV_X4_simulate : yX4_simulate.cls = RX4 ∧ yX4_simulate.cls ≠ "java/lang/invoke/MethodHandle" ∧ yX4_simulate.cls ≠ "java/lang/invoke/VarHandle" ∧ (parseMethodDescriptor yX4_simulate.desc).map (fun d => d.parameters.length) = some 1 := ⟨rfl, hd_X4_simulate⟩
theorem hd_X4_suits : yX4_suits.cls ≠ "java/lang/invoke/MethodHandle" ∧ yX4_suits.cls ≠ "java/lang/invoke/VarHandle" ∧ (parseMethodDescriptor yX4_suits.desc).map (fun d => d.parameters.length) = some 0 := by decide +kernel
theorem hV_X4_suits : yX4_suits.cls = RX4 ∧ yX4_suits.cls ≠ "java/lang/invoke/MethodHandle" ∧ yX4_suits.cls ≠ "java/lang/invoke/VarHandle" ∧ (parseMethodDescriptor yX4_suits.desc).map (fun d => d.parameters.length) = some 0 := ⟨rfl, hd_X4_suits⟩
theorem hd_X4_isWithin : yX4_isWithin.cls ≠ "java/lang/invoke/MethodHandle" ∧ yX4_isWithin.cls ≠ "java/lang/invoke/VarHandle" ∧ (parseMethodDescriptor yX4_isWithin.desc).map (fun d => d.parameters.length) = some 3 := by decide +kernel
theorem hV_X4_isWithin : yX4_isWithin.cls = RX4 ∧ yX4_isWithin.cls ≠ "java/lang/invoke/MethodHandle" ∧ yX4_isWithin.cls ≠ "java/lang/invoke/VarHandle" ∧ (parseMethodDescriptor yX4_isWithin.desc).map (fun d => d.parameters.length) = some 3 := ⟨rfl, hd_X4_isWithin⟩
theorem hd_X4_isSignal : yX4_isSignal.cls ≠ "java/lang/invoke/MethodHandle" ∧ yX4_isSignal.cls ≠ "java/lang/invoke/VarHandle" ∧ (parseMethodDescriptor yX4_isSignal.desc).map (fun d => d.parameters.length) = some 1 := by decide +kernel
theorem hV_X4_isSignal : yX4_isSignal.cls = RX4 ∧ yX4_isSignal.cls ≠ "java/lang/invoke/MethodHandle" ∧ yX4_isSignal.cls ≠ "java/lang/invoke/VarHandle" ∧ (parseMethodDescriptor yX4_isSignal.desc).map (fun d => d.parameters.length) = some 1 := ⟨rfl, hd_X4_isSignal⟩
theorem hd_X4_isAge : yX4_isAge.cls ≠ "java/lang/invoke/MethodHandle" ∧ yX4_isAge.cls ≠ "java/lang/invoke/VarHandle" ∧ (parseMethodDescriptor yX4_isAge.desc).map (fun d => d.parameters.length) = some 1 := by decide +kernel
theorem hV_X4_isAge : yX4_isAge.cls = RX4 ∧ yX4_isAge.cls ≠ "java/lang/invoke/MethodHandle" ∧ yX4_isAge.cls ≠ "java/lang/invoke/VarHandle" ∧ (parseMethodDescriptor yX4_isAge.desc).map (fun d => d.parameters.length) = some 1 := ⟨rfl, hd_X4_isAge⟩
theorem hd_X4_isSample : yX4_isSample.cls ≠ "java/lang/invoke/MethodHandle" ∧ yX4_isSample.cls ≠ "java/lang/invoke/VarHandle" ∧ (parseMethodDescriptor yX4_isSample.desc).map (fun d => d.parameters.length) = some 1 := by decide +kernel
theorem hV_X4_isSample : yX4_isSample.cls = RX4 ∧ yX4_isSample.cls ≠ "java/lang/invoke/MethodHandle" ∧ yX4_isSample.cls ≠ "java/lang/invoke/VarHandle" ∧ (parseMethodDescriptor yX4_isSample.desc).map (fun d => d.parameters.length) = some 1 := ⟨rfl, hd_X4_isSample⟩
theorem hd_X4_oneIf : yX4_oneIf.cls ≠ "java/lang/invoke/MethodHandle" ∧ yX4_oneIf.cls ≠ "java/lang/invoke/VarHandle" ∧ (parseMethodDescriptor yX4_oneIf.desc).map (fun d => d.parameters.length) = some 1 := by decide +kernel
theorem hV_X4_oneIf : yX4_oneIf.cls = RX4 ∧ yX4_oneIf.cls ≠ "java/lang/invoke/MethodHandle" ∧ yX4_oneIf.cls ≠ "java/lang/invoke/VarHandle" ∧ (parseMethodDescriptor yX4_oneIf.desc).map (fun d => d.parameters.length) = some 1 := ⟨rfl, hd_X4_oneIf⟩
theorem hd_X4_limitTo : yX4_limitTo.cls ≠ "java/lang/invoke/MethodHandle" ∧ yX4_limitTo.cls ≠ "java/lang/invoke/VarHandle" ∧ (parseMethodDescriptor yX4_limitTo.desc).map (fun d => d.parameters.length) = some 2 := by decide +kernel
theorem hV_X4_limitTo : yX4_limitTo.cls = RX4 ∧ yX4_limitTo.cls ≠ "java/lang/invoke/MethodHandle" ∧ yX4_limitTo.cls ≠ "java/lang/invoke/VarHandle" ∧ (parseMethodDescriptor yX4_limitTo.desc).map (fun d => d.parameters.length) = some 2 := ⟨rfl, hd_X4_limitTo⟩
theorem hd_X4_startAnew : yX4_startAnew.cls ≠ "java/lang/invoke/MethodHandle" ∧ yX4_startAnew.cls ≠ "java/lang/invoke/VarHandle" ∧ (parseMethodDescriptor yX4_startAnew.desc).map (fun d => d.parameters.length) = some 1 := by decide +kernel
theorem hV_X4_startAnew : yX4_startAnew.cls = RX4 ∧ yX4_startAnew.cls ≠ "java/lang/invoke/MethodHandle" ∧ yX4_startAnew.cls ≠ "java/lang/invoke/VarHandle" ∧ (parseMethodDescriptor yX4_startAnew.desc).map (fun d => d.parameters.length) = some 1 := ⟨rfl, hd_X4_startAnew⟩
theorem hd_X4_beginTrial : yX4_beginTrial.cls ≠ "java/lang/invoke/MethodHandle" ∧ yX4_beginTrial.cls ≠ "java/lang/invoke/VarHandle" ∧ (parseMethodDescriptor yX4_beginTrial.desc).map (fun d => d.parameters.length) = some 0 := by decide +kernel
theorem hV_X4_beginTrial : yX4_beginTrial.cls = RX4 ∧ yX4_beginTrial.cls ≠ "java/lang/invoke/MethodHandle" ∧ yX4_beginTrial.cls ≠ "java/lang/invoke/VarHandle" ∧ (parseMethodDescriptor yX4_beginTrial.desc).map (fun d => d.parameters.length) = some 0 := ⟨rfl, hd_X4_beginTrial⟩
theorem hd_X4_takeOutput : yX4_takeOutput.cls ≠ "java/lang/invoke/MethodHandle" ∧ yX4_takeOutput.cls ≠ "java/lang/invoke/VarHandle" ∧ (parseMethodDescriptor yX4_takeOutput.desc).map (fun d => d.parameters.length) = some 1 := by decide +kernel
theorem hV_X4_takeOutput : yX4_takeOutput.cls = RX4 ∧ yX4_takeOutput.cls ≠ "java/lang/invoke/MethodHandle" ∧ yX4_takeOutput.cls ≠ "java/lang/invoke/VarHandle" ∧ (parseMethodDescriptor yX4_takeOutput.desc).map (fun d => d.parameters.length) = some 1 := ⟨rfl, hd_X4_takeOutput⟩
theorem hd_X4_simulateTrial : yX4_simulateTrial.cls ≠ "java/lang/invoke/MethodHandle" ∧ yX4_simulateTrial.cls ≠ "java/lang/invoke/VarHandle" ∧ (parseMethodDescriptor yX4_simulateTrial.desc).map (fun d => d.parameters.length) = some 0 := by decide +kernel
theorem hV_X4_simulateTrial : yX4_simulateTrial.cls = RX4 ∧ yX4_simulateTrial.cls ≠ "java/lang/invoke/MethodHandle" ∧ yX4_simulateTrial.cls ≠ "java/lang/invoke/VarHandle" ∧ (parseMethodDescriptor yX4_simulateTrial.desc).map (fun d => d.parameters.length) = some 0 := ⟨rfl, hd_X4_simulateTrial⟩
theorem hd_X4_completeTrial : yX4_completeTrial.cls ≠ "java/lang/invoke/MethodHandle" ∧ yX4_completeTrial.cls ≠ "java/lang/invoke/VarHandle" ∧ (parseMethodDescriptor yX4_completeTrial.desc).map (fun d => d.parameters.length) = some 0 := by decide +kernel
theorem hV_X4_completeTrial : yX4_completeTrial.cls = RX4 ∧ yX4_completeTrial.cls ≠ "java/lang/invoke/MethodHandle" ∧ yX4_completeTrial.cls ≠ "java/lang/invoke/VarHandle" ∧ (parseMethodDescriptor yX4_completeTrial.desc).map (fun d => d.parameters.length) = some 0 := ⟨rfl, hd_X4_completeTrial⟩
theorem hd_X4_bestFittingShift : yX4_bestFittingShift.cls ≠ "java/lang/invoke/MethodHandle" ∧ yX4_bestFittingShift.cls ≠ "java/lang/invoke/VarHandle" ∧ (parseMethodDescriptor yX4_bestFittingShift.desc).map (fun d => d.parameters.length) = some 0 := by decide +kernel
theorem hV_X4_bestFittingShift : yX4_bestFittingShift.cls = RX4 ∧ yX4_bestFittingShift.cls ≠ "java/lang/invoke/MethodHandle" ∧ yX4_bestFittingShift.cls ≠ "java/lang/invoke/VarHandle" ∧ (parseMethodDescriptor yX4_bestFittingShift.desc).map (fun d => d.parameters.length) = some 0 := ⟨rfl, hd_X4_bestFittingShift⟩
theorem hd_X4_misfit : yX4_misfit.cls ≠ "java/lang/invoke/MethodHandle" ∧ yX4_misfit.cls ≠ "java/lang/invoke/VarHandle" ∧ (parseMethodDescriptor yX4_misfit.desc).map (fun d => d.parameters.length) = some 1 := by decide +kernel
theorem hV_X4_misfit : yX4_misfit.cls = RX4 ∧ yX4_misfit.cls ≠ "java/lang/invoke/MethodHandle" ∧ yX4_misfit.cls ≠ "java/lang/invoke/VarHandle" ∧ (parseMethodDescriptor yX4_misfit.desc).map (fun d => d.parameters.length) = some 1 := ⟨rfl, hd_X4_misfit⟩
theorem hd_X4_rawAt : yX4_rawAt.cls ≠ "java/lang/invoke/MethodHandle" ∧ yX4_rawAt.cls ≠ "java/lang/invoke/VarHandle" ∧ (parseMethodDescriptor yX4_rawAt.desc).map (fun d => d.parameters.length) = some 1 := by decide +kernel
theorem hV_X4_rawAt : yX4_rawAt.cls = RX4 ∧ yX4_rawAt.cls ≠ "java/lang/invoke/MethodHandle" ∧ yX4_rawAt.cls ≠ "java/lang/invoke/VarHandle" ∧ (parseMethodDescriptor yX4_rawAt.desc).map (fun d => d.parameters.length) = some 1 := ⟨rfl, hd_X4_rawAt⟩
theorem hd_X4_judge : yX4_judge.cls ≠ "java/lang/invoke/MethodHandle" ∧ yX4_judge.cls ≠ "java/lang/invoke/VarHandle" ∧ (parseMethodDescriptor yX4_judge.desc).map (fun d => d.parameters.length) = some 1 := by decide +kernel
theorem hV_X4_judge : yX4_judge.cls = RX4 ∧ yX4_judge.cls ≠ "java/lang/invoke/MethodHandle" ∧ yX4_judge.cls ≠ "java/lang/invoke/VarHandle" ∧ (parseMethodDescriptor yX4_judge.desc).map (fun d => d.parameters.length) = some 1 := ⟨rfl, hd_X4_judge⟩
theorem hd_X4_fallBack : yX4_fallBack.cls ≠ "java/lang/invoke/MethodHandle" ∧ yX4_fallBack.cls ≠ "java/lang/invoke/VarHandle" ∧ (parseMethodDescriptor yX4_fallBack.desc).map (fun d => d.parameters.length) = some 0 := by decide +kernel
theorem hV_X4_fallBack : yX4_fallBack.cls = RX4 ∧ yX4_fallBack.cls ≠ "java/lang/invoke/MethodHandle" ∧ yX4_fallBack.cls ≠ "java/lang/invoke/VarHandle" ∧ (parseMethodDescriptor yX4_fallBack.desc).map (fun d => d.parameters.length) = some 0 := ⟨rfl, hd_X4_fallBack⟩
theorem hd_X4_learnFromPart : yX4_learnFromPart.cls ≠ "java/lang/invoke/MethodHandle" ∧ yX4_learnFromPart.cls ≠ "java/lang/invoke/VarHandle" ∧ (parseMethodDescriptor yX4_learnFromPart.desc).map (fun d => d.parameters.length) = some 0 := by decide +kernel
theorem hV_X4_learnFromPart : yX4_learnFromPart.cls = RX4 ∧ yX4_learnFromPart.cls ≠ "java/lang/invoke/MethodHandle" ∧ yX4_learnFromPart.cls ≠ "java/lang/invoke/VarHandle" ∧ (parseMethodDescriptor yX4_learnFromPart.desc).map (fun d => d.parameters.length) = some 0 := ⟨rfl, hd_X4_learnFromPart⟩
theorem hd_X4_correct : yX4_correct.cls ≠ "java/lang/invoke/MethodHandle" ∧ yX4_correct.cls ≠ "java/lang/invoke/VarHandle" ∧ (parseMethodDescriptor yX4_correct.desc).map (fun d => d.parameters.length) = some 3 := by decide +kernel
theorem hV_X4_correct : yX4_correct.cls = RX4 ∧ yX4_correct.cls ≠ "java/lang/invoke/MethodHandle" ∧ yX4_correct.cls ≠ "java/lang/invoke/VarHandle" ∧ (parseMethodDescriptor yX4_correct.desc).map (fun d => d.parameters.length) = some 3 := ⟨rfl, hd_X4_correct⟩
theorem hd_X4_smoothOnce : yX4_smoothOnce.cls ≠ "java/lang/invoke/MethodHandle" ∧ yX4_smoothOnce.cls ≠ "java/lang/invoke/VarHandle" ∧ (parseMethodDescriptor yX4_smoothOnce.desc).map (fun d => d.parameters.length) = some 0 := by decide +kernel
theorem hV_X4_smoothOnce : yX4_smoothOnce.cls = RX4 ∧ yX4_smoothOnce.cls ≠ "java/lang/invoke/MethodHandle" ∧ yX4_smoothOnce.cls ≠ "java/lang/invoke/VarHandle" ∧ (parseMethodDescriptor yX4_smoothOnce.desc).map (fun d => d.parameters.length) = some 0 := ⟨rfl, hd_X4_smoothOnce⟩
theorem hd_X4_hasConverged : yX4_hasConverged.cls ≠ "java/lang/invoke/MethodHandle" ∧ yX4_hasConverged.cls ≠ "java/lang/invoke/VarHandle" ∧ (parseMethodDescriptor yX4_hasConverged.desc).map (fun d => d.parameters.length) = some 1 := by decide +kernel
theorem hV_X4_hasConverged : yX4_hasConverged.cls = RX4 ∧ yX4_hasConverged.cls ≠ "java/lang/invoke/MethodHandle" ∧ yX4_hasConverged.cls ≠ "java/lang/invoke/VarHandle" ∧ (parseMethodDescriptor yX4_hasConverged.desc).map (fun d => d.parameters.length) = some 1 := ⟨rfl, hd_X4_hasConverged⟩
theorem hd_X4_indexOfGreatest : yX4_indexOfGreatest.cls ≠ "java/lang/invoke/MethodHandle" ∧ yX4_indexOfGreatest.cls ≠ "java/lang/invoke/VarHandle" ∧ (parseMethodDescriptor yX4_indexOfGreatest.desc).map (fun d => d.parameters.length) = some 2 := by decide +kernel
theorem hV_X4_indexOfGreatest : yX4_indexOfGreatest.cls = RX4 ∧ yX4_indexOfGreatest.cls ≠ "java/lang/invoke/MethodHandle" ∧ yX4_indexOfGreatest.cls ≠ "java/lang/invoke/VarHandle" ∧ (parseMethodDescriptor yX4_indexOfGreatest.desc).map (fun d => d.parameters.length) = some 2 := ⟨rfl, hd_X4_indexOfGreatest⟩
theorem hd_X4_sumOfSquares : yX4_sumOfSquares.cls ≠ "java/lang/invoke/MethodHandle" ∧ yX4_sumOfSquares.cls ≠ "java/lang/invoke/VarHandle" ∧ (parseMethodDescriptor yX4_sumOfSquares.desc).map (fun d => d.parameters.length) = some 2 := by decide +kernel
theorem hV_X4_sumOfSquares : yX4_sumOfSquares.cls = RX4 ∧ yX4_sumOfSquares.cls ≠ "java/lang/invoke/MethodHandle" ∧ yX4_sumOfSquares.cls ≠ "java/lang/invoke/VarHandle" ∧ (parseMethodDescriptor yX4_sumOfSquares.desc).map (fun d => d.parameters.length) = some 2 := ⟨rfl, hd_X4_sumOfSquares⟩
theorem hd_X5_init : yX5_init.cls ≠ "java/lang/invoke/MethodHandle" ∧ yX5_init.cls ≠ "java/lang/invoke/VarHandle" ∧ (parseMethodDescriptor yX5_init.desc).map (fun d => d.parameters.length) = some 0 := by decide +kernel
theorem hV_X5_init : yX5_init.cls = RX5 ∧ yX5_init.cls ≠ "java/lang/invoke/MethodHandle" ∧ yX5_init.cls ≠ "java/lang/invoke/VarHandle" ∧ (parseMethodDescriptor yX5_init.desc).map (fun d => d.parameters.length) = some 0 := ⟨rfl, hd_X5_init⟩
theorem hd_X5_in : yX5_in.cls ≠ "java/lang/invoke/MethodHandle" ∧ yX5_in.cls ≠ "java/lang/invoke/VarHandle" ∧ (parseMethodDescriptor yX5_in.desc).map (fun d => d.parameters.length) = some 3 := by decide +kernel
theorem hV_X5_in : yX5_in.cls = RX5 ∧ yX5_in.cls ≠ "java/lang/invoke/MethodHandle" ∧ yX5_in.cls ≠ "java/lang/invoke/VarHandle" ∧ (parseMethodDescriptor yX5_in.desc).map (fun d => d.parameters.length) = some 3 := ⟨rfl, hd_X5_in⟩
theorem hd_X5_down : yX5_down.cls ≠ "java/lang/invoke/MethodHandle" ∧ yX5_down.cls ≠ "java/lang/invoke/VarHandle" ∧ (parseMethodDescriptor yX5_down.desc).map (fun d => d.parameters.length) = some 2 := by decide +kernel
theorem hV_X5_down : yX5_down.cls = RX5 ∧ yX5_down.cls ≠ "java/lang/invoke/MethodHandle" ∧ yX5_down.cls ≠ "java/lang/invoke/VarHandle" ∧ (parseMethodDescriptor yX5_down.desc).map (fun d => d.parameters.length) = some 2 := ⟨rfl, hd_X5_down⟩
theorem hd_X5_size : yX5_size.cls ≠ "java/lang/invoke/MethodHandle" ∧ yX5_size.cls ≠ "java/lang/invoke/VarHandle" ∧ (parseMethodDescriptor yX5_size.desc).map (fun d => d.parameters.length) = some 1 := by decide +kernel
theorem hV_X5_size : yX5_size.cls = RX5 ∧ yX5_size.cls ≠ "java/lang/invoke/MethodHandle" ∧ yX5_size.cls ≠ "java/lang/invoke/VarHandle" ∧ (parseMethodDescriptor yX5_size.desc).map (fun d => d.parameters.length) = some 1 := ⟨rfl, hd_X5_size⟩
theorem hd_X5_kept : yX5_kept.cls ≠ "java/lang/invoke/MethodHandle" ∧ yX5_kept.cls ≠ "java/lang/invoke/VarHandle" ∧ (parseMethodDescriptor yX5_kept.desc).map (fun d => d.parameters.length) = some 2 := by decide +kernel
theorem hV_X5_kept : yX5_kept.cls = RX5 ∧ yX5_kept.cls ≠ "java/lang/invoke/MethodHandle" ∧ yX5_kept.cls ≠ "java/lang/invoke/VarHandle" ∧ (parseMethodDescriptor yX5_kept.desc).map (fun d => d.parameters.length) = some 2 := ⟨rfl, hd_X5_kept⟩
theorem hd_X5_begin : yX5_begin.cls ≠ "java/lang/invoke/MethodHandle" ∧ yX5_begin.cls ≠ "java/lang/invoke/VarHandle" ∧ (parseMethodDescriptor yX5_begin.desc).map (fun d => d.parameters.length) = some 1 := by decide +kernel
theorem hV_X5_begin : yX5_begin.cls = RX5 ∧ yX5_begin.cls ≠ "java/lang/invoke/MethodHandle" ∧ yX5_begin.cls ≠ "java/lang/invoke/VarHandle" ∧ (parseMethodDescriptor yX5_begin.desc).map (fun d => d.parameters.length) = some 1 := ⟨rfl, hd_X5_begin⟩
theorem hd_X5_reset : yX5_reset.cls ≠ "java/lang/invoke/MethodHandle" ∧ yX5_reset.cls ≠ "java/lang/invoke/VarHandle" ∧ (parseMethodDescriptor yX5_reset.desc).map (fun d => d.parameters.length) = some 1 := by decide +kernel
theorem hV_X5_reset : yX5_reset.cls = RX5 ∧ yX5_reset.cls ≠ "java/lang/invoke/MethodHandle" ∧ yX5_reset.cls ≠ "java/lang/invoke/VarHandle" ∧ (parseMethodDescriptor yX5_reset.desc).map (fun d => d.parameters.length) = some 1 := ⟨rfl, hd_X5_reset⟩
theorem hd_X5_noSample : yX5_noSample.cls ≠ "java/lang/invoke/MethodHandle" ∧ yX5_noSample.cls ≠ "java/lang/invoke/VarHandle" ∧ (parseMethodDescriptor yX5_noSample.desc).map (fun d => d.parameters.length) = some 1 := by decide +kernel
theorem hV_X5_noSample : yX5_noSample.cls = RX5 ∧ yX5_noSample.cls ≠ "java/lang/invoke/MethodHandle" ∧ yX5_noSample.cls ≠ "java/lang/invoke/VarHandle" ∧ (parseMethodDescriptor yX5_noSample.desc).map (fun d => d.parameters.length) = some 1 := ⟨rfl, hd_X5_noSample⟩
theorem hd_X5_setReference : yX5_setReference.cls ≠ "java/lang/invoke/MethodHandle" ∧ yX5_setReference.cls ≠ "java/lang/invoke/VarHandle" ∧ (parseMethodDescriptor yX5_setReference.desc).map (fun d => d.parameters.length) = some 2 := by decide +kernel
theorem hV_X5_setReference : yX5_setReference.cls = RX5 ∧ yX5_setReference.cls ≠ "java/lang/invoke/MethodHandle" ∧ yX5_setReference.cls ≠ "java/lang/invoke/VarHandle" ∧ (parseMethodDescriptor yX5_setReference.desc).map (fun d => d.parameters.length) = some 2 := ⟨rfl, hd_X5_setReference⟩
theorem hd_X5_setGain : yX5_setGain.cls ≠ "java/lang/invoke/MethodHandle" ∧ yX5_setGain.cls ≠ "java/lang/invoke/VarHandle" ∧ (parseMethodDescriptor yX5_setGain.desc).map (fun d => d.parameters.length) = some 2 := by decide +kernel
theorem hV_X5_setGain : yX5_setGain.cls = RX5 ∧ yX5_setGain.cls ≠ "java/lang/invoke/MethodHandle" ∧ yX5_setGain.cls ≠ "java/lang/invoke/VarHandle" ∧ (parseMethodDescriptor yX5_setGain.desc).map (fun d => d.parameters.length) = some 2 := ⟨rfl, hd_X5_setGain⟩
theorem hd_X5_setSmoothing : yX5_setSmoothing.cls ≠ "java/lang/invoke/MethodHandle" ∧ yX5_setSmoothing.cls ≠ "java/lang/invoke/VarHandle" ∧ (parseMethodDescriptor yX5_setSmoothing.desc).map (fun d => d.parameters.length) = some 2 := by decide +kernel
theorem hV_X5_setSmoothing : yX5_setSmoothing.cls = RX5 ∧ yX5_setSmoothing.cls ≠ "java/lang/invoke/MethodHandle" ∧ yX5_setSmoothing.cls ≠ "java/lang/invoke/VarHandle" ∧ (parseMethodDescriptor yX5_setSmoothing.desc).map (fun d => d.parameters.length) = some 2 := ⟨rfl, hd_X5_setSmoothing⟩
theorem hd_X5_setLimits : yX5_setLimits.cls ≠ "java/lang/invoke/MethodHandle" ∧ yX5_setLimits.cls ≠ "java/lang/invoke/VarHandle" ∧ (parseMethodDescriptor yX5_setLimits.desc).map (fun d => d.parameters.length) = some 2 := by decide +kernel
theorem hV_X5_setLimits : yX5_setLimits.cls = RX5 ∧ yX5_setLimits.cls ≠ "java/lang/invoke/MethodHandle" ∧ yX5_setLimits.cls ≠ "java/lang/invoke/VarHandle" ∧ (parseMethodDescriptor yX5_setLimits.desc).map (fun d => d.parameters.length) = some 2 := ⟨rfl, hd_X5_setLimits⟩
theorem hd_X5_setGreatestShift : yX5_setGreatestShift.cls ≠ "java/lang/invoke/MethodHandle" ∧ yX5_setGreatestShift.cls ≠ "java/lang/invoke/VarHandle" ∧ (parseMethodDescriptor yX5_setGreatestShift.desc).map (fun d => d.parameters.length) = some 1 := by decide +kernel
theorem hV_X5_setGreatestShift : yX5_setGreatestShift.cls = RX5 ∧ yX5_setGreatestShift.cls ≠ "java/lang/invoke/MethodHandle" ∧ yX5_setGreatestShift.cls ≠ "java/lang/invoke/VarHandle" ∧ (parseMethodDescriptor yX5_setGreatestShift.desc).map (fun d => d.parameters.length) = some 1 := ⟨rfl, hd_X5_setGreatestShift⟩
theorem hd_X5_setTolerance : yX5_setTolerance.cls ≠ "java/lang/invoke/MethodHandle" ∧ yX5_setTolerance.cls ≠ "java/lang/invoke/VarHandle" ∧ (parseMethodDescriptor yX5_setTolerance.desc).map (fun d => d.parameters.length) = some 2 := by decide +kernel
theorem hV_X5_setTolerance : yX5_setTolerance.cls = RX5 ∧ yX5_setTolerance.cls ≠ "java/lang/invoke/MethodHandle" ∧ yX5_setTolerance.cls ≠ "java/lang/invoke/VarHandle" ∧ (parseMethodDescriptor yX5_setTolerance.desc).map (fun d => d.parameters.length) = some 2 := ⟨rfl, hd_X5_setTolerance⟩
theorem hd_X5_setGuard : yX5_setGuard.cls ≠ "java/lang/invoke/MethodHandle" ∧ yX5_setGuard.cls ≠ "java/lang/invoke/VarHandle" ∧ (parseMethodDescriptor yX5_setGuard.desc).map (fun d => d.parameters.length) = some 1 := by decide +kernel
theorem hV_X5_setGuard : yX5_setGuard.cls = RX5 ∧ yX5_setGuard.cls ≠ "java/lang/invoke/MethodHandle" ∧ yX5_setGuard.cls ≠ "java/lang/invoke/VarHandle" ∧ (parseMethodDescriptor yX5_setGuard.desc).map (fun d => d.parameters.length) = some 1 := ⟨rfl, hd_X5_setGuard⟩
theorem hd_X5_setting : yX5_setting.cls ≠ "java/lang/invoke/MethodHandle" ∧ yX5_setting.cls ≠ "java/lang/invoke/VarHandle" ∧ (parseMethodDescriptor yX5_setting.desc).map (fun d => d.parameters.length) = some 1 := by decide +kernel
theorem hV_X5_setting : yX5_setting.cls = RX5 ∧ yX5_setting.cls ≠ "java/lang/invoke/MethodHandle" ∧ yX5_setting.cls ≠ "java/lang/invoke/VarHandle" ∧ (parseMethodDescriptor yX5_setting.desc).map (fun d => d.parameters.length) = some 1 := ⟨rfl, hd_X5_setting⟩
theorem hd_X5_correct : yX5_correct.cls ≠ "java/lang/invoke/MethodHandle" ∧ yX5_correct.cls ≠ "java/lang/invoke/VarHandle" ∧ (parseMethodDescriptor yX5_correct.desc).map (fun d => d.parameters.length) = some 2 := by decide +kernel
theorem hV_X5_correct : yX5_correct.cls = RX5 ∧ yX5_correct.cls ≠ "java/lang/invoke/MethodHandle" ∧ yX5_correct.cls ≠ "java/lang/invoke/VarHandle" ∧ (parseMethodDescriptor yX5_correct.desc).map (fun d => d.parameters.length) = some 2 := ⟨rfl, hd_X5_correct⟩
theorem hd_X5_smooth : yX5_smooth.cls ≠ "java/lang/invoke/MethodHandle" ∧ yX5_smooth.cls ≠ "java/lang/invoke/VarHandle" ∧ (parseMethodDescriptor yX5_smooth.desc).map (fun d => d.parameters.length) = some 0 := by decide +kernel
theorem hV_X5_smooth : yX5_smooth.cls = RX5 ∧ yX5_smooth.cls ≠ "java/lang/invoke/MethodHandle" ∧ yX5_smooth.cls ≠ "java/lang/invoke/VarHandle" ∧ (parseMethodDescriptor yX5_smooth.desc).map (fun d => d.parameters.length) = some 0 := ⟨rfl, hd_X5_smooth⟩
theorem hd_X5_rawAt : yX5_rawAt.cls ≠ "java/lang/invoke/MethodHandle" ∧ yX5_rawAt.cls ≠ "java/lang/invoke/VarHandle" ∧ (parseMethodDescriptor yX5_rawAt.desc).map (fun d => d.parameters.length) = some 1 := by decide +kernel
theorem hV_X5_rawAt : yX5_rawAt.cls = RX5 ∧ yX5_rawAt.cls ≠ "java/lang/invoke/MethodHandle" ∧ yX5_rawAt.cls ≠ "java/lang/invoke/VarHandle" ∧ (parseMethodDescriptor yX5_rawAt.desc).map (fun d => d.parameters.length) = some 1 := ⟨rfl, hd_X5_rawAt⟩
theorem hd_X5_unlike : yX5_unlike.cls ≠ "java/lang/invoke/MethodHandle" ∧ yX5_unlike.cls ≠ "java/lang/invoke/VarHandle" ∧ (parseMethodDescriptor yX5_unlike.desc).map (fun d => d.parameters.length) = some 1 := by decide +kernel
theorem hV_X5_unlike : yX5_unlike.cls = RX5 ∧ yX5_unlike.cls ≠ "java/lang/invoke/MethodHandle" ∧ yX5_unlike.cls ≠ "java/lang/invoke/VarHandle" ∧ (parseMethodDescriptor yX5_unlike.desc).map (fun d => d.parameters.length) = some 1 := ⟨rfl, hd_X5_unlike⟩
theorem hd_X5_findShift : yX5_findShift.cls ≠ "java/lang/invoke/MethodHandle" ∧ yX5_findShift.cls ≠ "java/lang/invoke/VarHandle" ∧ (parseMethodDescriptor yX5_findShift.desc).map (fun d => d.parameters.length) = some 0 := by decide +kernel
theorem hV_X5_findShift : yX5_findShift.cls = RX5 ∧ yX5_findShift.cls ≠ "java/lang/invoke/MethodHandle" ∧ yX5_findShift.cls ≠ "java/lang/invoke/VarHandle" ∧ (parseMethodDescriptor yX5_findShift.desc).map (fun d => d.parameters.length) = some 0 := ⟨rfl, hd_X5_findShift⟩
theorem hd_X5_makeRoom : yX5_makeRoom.cls ≠ "java/lang/invoke/MethodHandle" ∧ yX5_makeRoom.cls ≠ "java/lang/invoke/VarHandle" ∧ (parseMethodDescriptor yX5_makeRoom.desc).map (fun d => d.parameters.length) = some 0 := by decide +kernel
theorem hV_X5_makeRoom : yX5_makeRoom.cls = RX5 ∧ yX5_makeRoom.cls ≠ "java/lang/invoke/MethodHandle" ∧ yX5_makeRoom.cls ≠ "java/lang/invoke/VarHandle" ∧ (parseMethodDescriptor yX5_makeRoom.desc).map (fun d => d.parameters.length) = some 0 := ⟨rfl, hd_X5_makeRoom⟩
theorem hd_X5_finish : yX5_finish.cls ≠ "java/lang/invoke/MethodHandle" ∧ yX5_finish.cls ≠ "java/lang/invoke/VarHandle" ∧ (parseMethodDescriptor yX5_finish.desc).map (fun d => d.parameters.length) = some 0 := by decide +kernel
theorem hV_X5_finish : yX5_finish.cls = RX5 ∧ yX5_finish.cls ≠ "java/lang/invoke/MethodHandle" ∧ yX5_finish.cls ≠ "java/lang/invoke/VarHandle" ∧ (parseMethodDescriptor yX5_finish.desc).map (fun d => d.parameters.length) = some 0 := ⟨rfl, hd_X5_finish⟩
theorem hd_X5_rate : yX5_rate.cls ≠ "java/lang/invoke/MethodHandle" ∧ yX5_rate.cls ≠ "java/lang/invoke/VarHandle" ∧ (parseMethodDescriptor yX5_rate.desc).map (fun d => d.parameters.length) = some 1 := by decide +kernel
theorem hV_X5_rate : yX5_rate.cls = RX5 ∧ yX5_rate.cls ≠ "java/lang/invoke/MethodHandle" ∧ yX5_rate.cls ≠ "java/lang/invoke/VarHandle" ∧ (parseMethodDescriptor yX5_rate.desc).map (fun d => d.parameters.length) = some 1 := ⟨rfl, hd_X5_rate⟩
theorem hd_X5_startTrial : yX5_startTrial.cls ≠ "java/lang/invoke/MethodHandle" ∧ yX5_startTrial.cls ≠ "java/lang/invoke/VarHandle" ∧ (parseMethodDescriptor yX5_startTrial.desc).map (fun d => d.parameters.length) = some 0 := by decide +kernel
theorem hV_X5_startTrial : yX5_startTrial.cls = RX5 ∧ yX5_startTrial.cls ≠ "java/lang/invoke/MethodHandle" ∧ yX5_startTrial.cls ≠ "java/lang/invoke/VarHandle" ∧ (parseMethodDescriptor yX5_startTrial.desc).map (fun d => d.parameters.length) = some 0 := ⟨rfl, hd_X5_startTrial⟩
theorem hd_X5_record : yX5_record.cls ≠ "java/lang/invoke/MethodHandle" ∧ yX5_record.cls ≠ "java/lang/invoke/VarHandle" ∧ (parseMethodDescriptor yX5_record.desc).map (fun d => d.parameters.length) = some 1 := by decide +kernel
theorem hV_X5_record : yX5_record.cls = RX5 ∧ yX5_record.cls ≠ "java/lang/invoke/MethodHandle" ∧ yX5_record.cls ≠ "java/lang/invoke/VarHandle" ∧ (parseMethodDescriptor yX5_record.desc).map (fun d => d.parameters.length) = some 1 := ⟨rfl, hd_X5_record⟩
theorem hd_X5_abort : yX5_abort.cls ≠ "java/lang/invoke/MethodHandle" ∧ yX5_abort.cls ≠ "java/lang/invoke/VarHandle" ∧ (parseMethodDescriptor yX5_abort.desc).map (fun d => d.parameters.length) = some 0 := by decide +kernel
theorem hV_X5_abort : yX5_abort.cls = RX5 ∧ yX5_abort.cls ≠ "java/lang/invoke/MethodHandle" ∧ yX5_abort.cls ≠ "java/lang/invoke/VarHandle" ∧ (parseMethodDescriptor yX5_abort.desc).map (fun d => d.parameters.length) = some 0 := ⟨rfl, hd_X5_abort⟩
theorem hd_X5_position : yX5_position.cls ≠ "java/lang/invoke/MethodHandle" ∧ yX5_position.cls ≠ "java/lang/invoke/VarHandle" ∧ (parseMethodDescriptor yX5_position.desc).map (fun d => d.parameters.length) = some 0 := by decide +kernel
theorem hV_X5_position : yX5_position.cls = RX5 ∧ yX5_position.cls ≠ "java/lang/invoke/MethodHandle" ∧ yX5_position.cls ≠ "java/lang/invoke/VarHandle" ∧ (parseMethodDescriptor yX5_position.desc).map (fun d => d.parameters.length) = some 0 := ⟨rfl, hd_X5_position⟩
theorem hd_X5_input : yX5_input.cls ≠ "java/lang/invoke/MethodHandle" ∧ yX5_input.cls ≠ "java/lang/invoke/VarHandle" ∧ (parseMethodDescriptor yX5_input.desc).map (fun d => d.parameters.length) = some 1 := by decide +kernel
theorem hV_X5_input : yX5_input.cls = RX5 ∧ yX5_input.cls ≠ "java/lang/invoke/MethodHandle" ∧ yX5_input.cls ≠ "java/lang/invoke/VarHandle" ∧ (parseMethodDescriptor yX5_input.desc).map (fun d => d.parameters.length) = some 1 := ⟨rfl, hd_X5_input⟩
theorem hd_X5_setInput : yX5_setInput.cls ≠ "java/lang/invoke/MethodHandle" ∧ yX5_setInput.cls ≠ "java/lang/invoke/VarHandle" ∧ (parseMethodDescriptor yX5_setInput.desc).map (fun d => d.parameters.length) = some 2 := by decide +kernel
theorem hV_X5_setInput : yX5_setInput.cls = RX5 ∧ yX5_setInput.cls ≠ "java/lang/invoke/MethodHandle" ∧ yX5_setInput.cls ≠ "java/lang/invoke/VarHandle" ∧ (parseMethodDescriptor yX5_setInput.desc).map (fun d => d.parameters.length) = some 2 := ⟨rfl, hd_X5_setInput⟩
theorem hd_X5_reference : yX5_reference.cls ≠ "java/lang/invoke/MethodHandle" ∧ yX5_reference.cls ≠ "java/lang/invoke/VarHandle" ∧ (parseMethodDescriptor yX5_reference.desc).map (fun d => d.parameters.length) = some 1 := by decide +kernel
theorem hV_X5_reference : yX5_reference.cls = RX5 ∧ yX5_reference.cls ≠ "java/lang/invoke/MethodHandle" ∧ yX5_reference.cls ≠ "java/lang/invoke/VarHandle" ∧ (parseMethodDescriptor yX5_reference.desc).map (fun d => d.parameters.length) = some 1 := ⟨rfl, hd_X5_reference⟩
theorem hd_X5_count : yX5_count.cls ≠ "java/lang/invoke/MethodHandle" ∧ yX5_count.cls ≠ "java/lang/invoke/VarHandle" ∧ (parseMethodDescriptor yX5_count.desc).map (fun d => d.parameters.length) = some 1 := by decide +kernel
theorem hV_X5_count : yX5_count.cls = RX5 ∧ yX5_count.cls ≠ "java/lang/invoke/MethodHandle" ∧ yX5_count.cls ≠ "java/lang/invoke/VarHandle" ∧ (parseMethodDescriptor yX5_count.desc).map (fun d => d.parameters.length) = some 1 := ⟨rfl, hd_X5_count⟩
theorem hd_X5_isAge : yX5_isAge.cls ≠ "java/lang/invoke/MethodHandle" ∧ yX5_isAge.cls ≠ "java/lang/invoke/VarHandle" ∧ (parseMethodDescriptor yX5_isAge.desc).map (fun d => d.parameters.length) = some 1 := by decide +kernel
theorem hV_X5_isAge : yX5_isAge.cls = RX5 ∧ yX5_isAge.cls ≠ "java/lang/invoke/MethodHandle" ∧ yX5_isAge.cls ≠ "java/lang/invoke/VarHandle" ∧ (parseMethodDescriptor yX5_isAge.desc).map (fun d => d.parameters.length) = some 1 := ⟨rfl, hd_X5_isAge⟩
theorem hd_X5_error : yX5_error.cls ≠ "java/lang/invoke/MethodHandle" ∧ yX5_error.cls ≠ "java/lang/invoke/VarHandle" ∧ (parseMethodDescriptor yX5_error.desc).map (fun d => d.parameters.length) = some 2 := by decide +kernel
theorem hV_X5_error : yX5_error.cls = RX5 ∧ yX5_error.cls ≠ "java/lang/invoke/MethodHandle" ∧ yX5_error.cls ≠ "java/lang/invoke/VarHandle" ∧ (parseMethodDescriptor yX5_error.desc).map (fun d => d.parameters.length) = some 2 := ⟨rfl, hd_X5_error⟩
theorem hd_X5_norm : yX5_norm.cls ≠ "java/lang/invoke/MethodHandle" ∧ yX5_norm.cls ≠ "java/lang/invoke/VarHandle" ∧ (parseMethodDescriptor yX5_norm.desc).map (fun d => d.parameters.length) = some 1 := by decide +kernel
theorem hV_X5_norm : yX5_norm.cls = RX5 ∧ yX5_norm.cls ≠ "java/lang/invoke/MethodHandle" ∧ yX5_norm.cls ≠ "java/lang/invoke/VarHandle" ∧ (parseMethodDescriptor yX5_norm.desc).map (fun d => d.parameters.length) = some 1 := ⟨rfl, hd_X5_norm⟩
theorem hd_X5_shift : yX5_shift.cls ≠ "java/lang/invoke/MethodHandle" ∧ yX5_shift.cls ≠ "java/lang/invoke/VarHandle" ∧ (parseMethodDescriptor yX5_shift.desc).map (fun d => d.parameters.length) = some 1 := by decide +kernel
theorem hV_X5_shift : yX5_shift.cls = RX5 ∧ yX5_shift.cls ≠ "java/lang/invoke/MethodHandle" ∧ yX5_shift.cls ≠ "java/lang/invoke/VarHandle" ∧ (parseMethodDescriptor yX5_shift.desc).map (fun d => d.parameters.length) = some 1 := ⟨rfl, hd_X5_shift⟩
theorem hd_X5_worstSample : yX5_worstSample.cls ≠ "java/lang/invoke/MethodHandle" ∧ yX5_worstSample.cls ≠ "java/lang/invoke/VarHandle" ∧ (parseMethodDescriptor yX5_worstSample.desc).map (fun d => d.parameters.length) = some 1 := by decide +kernel
theorem hV_X5_worstSample : yX5_worstSample.cls = RX5 ∧ yX5_worstSample.cls ≠ "java/lang/invoke/MethodHandle" ∧ yX5_worstSample.cls ≠ "java/lang/invoke/VarHandle" ∧ (parseMethodDescriptor yX5_worstSample.desc).map (fun d => d.parameters.length) = some 1 := ⟨rfl, hd_X5_worstSample⟩
theorem hd_X5_energy : yX5_energy.cls ≠ "java/lang/invoke/MethodHandle" ∧ yX5_energy.cls ≠ "java/lang/invoke/VarHandle" ∧ (parseMethodDescriptor yX5_energy.desc).map (fun d => d.parameters.length) = some 1 := by decide +kernel
theorem hV_X5_energy : yX5_energy.cls = RX5 ∧ yX5_energy.cls ≠ "java/lang/invoke/MethodHandle" ∧ yX5_energy.cls ≠ "java/lang/invoke/VarHandle" ∧ (parseMethodDescriptor yX5_energy.desc).map (fun d => d.parameters.length) = some 1 := ⟨rfl, hd_X5_energy⟩
theorem hd_X5_best : yX5_best.cls ≠ "java/lang/invoke/MethodHandle" ∧ yX5_best.cls ≠ "java/lang/invoke/VarHandle" ∧ (parseMethodDescriptor yX5_best.desc).map (fun d => d.parameters.length) = some 1 := by decide +kernel
theorem hV_X5_best : yX5_best.cls = RX5 ∧ yX5_best.cls ≠ "java/lang/invoke/MethodHandle" ∧ yX5_best.cls ≠ "java/lang/invoke/VarHandle" ∧ (parseMethodDescriptor yX5_best.desc).map (fun d => d.parameters.length) = some 1 := ⟨rfl, hd_X5_best⟩
theorem hd_X5_bestInput : yX5_bestInput.cls ≠ "java/lang/invoke/MethodHandle" ∧ yX5_bestInput.cls ≠ "java/lang/invoke/VarHandle" ∧ (parseMethodDescriptor yX5_bestInput.desc).map (fun d => d.parameters.length) = some 1 := by decide +kernel
theorem hV_X5_bestInput : yX5_bestInput.cls = RX5 ∧ yX5_bestInput.cls ≠ "java/lang/invoke/MethodHandle" ∧ yX5_bestInput.cls ≠ "java/lang/invoke/VarHandle" ∧ (parseMethodDescriptor yX5_bestInput.desc).map (fun d => d.parameters.length) = some 1 := ⟨rfl, hd_X5_bestInput⟩
theorem hd_X5_isSteady : yX5_isSteady.cls ≠ "java/lang/invoke/MethodHandle" ∧ yX5_isSteady.cls ≠ "java/lang/invoke/VarHandle" ∧ (parseMethodDescriptor yX5_isSteady.desc).map (fun d => d.parameters.length) = some 1 := by decide +kernel
theorem hV_X5_isSteady : yX5_isSteady.cls = RX5 ∧ yX5_isSteady.cls ≠ "java/lang/invoke/MethodHandle" ∧ yX5_isSteady.cls ≠ "java/lang/invoke/VarHandle" ∧ (parseMethodDescriptor yX5_isSteady.desc).map (fun d => d.parameters.length) = some 1 := ⟨rfl, hd_X5_isSteady⟩
theorem hd_X5_state : yX5_state.cls ≠ "java/lang/invoke/MethodHandle" ∧ yX5_state.cls ≠ "java/lang/invoke/VarHandle" ∧ (parseMethodDescriptor yX5_state.desc).map (fun d => d.parameters.length) = some 1 := by decide +kernel
theorem hV_X5_state : yX5_state.cls = RX5 ∧ yX5_state.cls ≠ "java/lang/invoke/MethodHandle" ∧ yX5_state.cls ≠ "java/lang/invoke/VarHandle" ∧ (parseMethodDescriptor yX5_state.desc).map (fun d => d.parameters.length) = some 1 := ⟨rfl, hd_X5_state⟩
theorem hd_X5_convergedCount : yX5_convergedCount.cls ≠ "java/lang/invoke/MethodHandle" ∧ yX5_convergedCount.cls ≠ "java/lang/invoke/VarHandle" ∧ (parseMethodDescriptor yX5_convergedCount.desc).map (fun d => d.parameters.length) = some 0 := by decide +kernel
theorem hV_X5_convergedCount : yX5_convergedCount.cls = RX5 ∧ yX5_convergedCount.cls ≠ "java/lang/invoke/MethodHandle" ∧ yX5_convergedCount.cls ≠ "java/lang/invoke/VarHandle" ∧ (parseMethodDescriptor yX5_convergedCount.desc).map (fun d => d.parameters.length) = some 0 := ⟨rfl, hd_X5_convergedCount⟩
theorem hd_X5_setPlant : yX5_setPlant.cls ≠ "java/lang/invoke/MethodHandle" ∧ yX5_setPlant.cls ≠ "java/lang/invoke/VarHandle" ∧ (parseMethodDescriptor yX5_setPlant.desc).map (fun d => d.parameters.length) = some 2 := by decide +kernel
theorem hV_X5_setPlant : yX5_setPlant.cls = RX5 ∧ yX5_setPlant.cls ≠ "java/lang/invoke/MethodHandle" ∧ yX5_setPlant.cls ≠ "java/lang/invoke/VarHandle" ∧ (parseMethodDescriptor yX5_setPlant.desc).map (fun d => d.parameters.length) = some 2 := ⟨rfl, hd_X5_setPlant⟩
theorem hd_X5_setDisturbance : yX5_setDisturbance.cls ≠ "java/lang/invoke/MethodHandle" ∧ yX5_setDisturbance.cls ≠ "java/lang/invoke/VarHandle" ∧ (parseMethodDescriptor yX5_setDisturbance.desc).map (fun d => d.parameters.length) = some 2 := by decide +kernel
theorem hV_X5_setDisturbance : yX5_setDisturbance.cls = RX5 ∧ yX5_setDisturbance.cls ≠ "java/lang/invoke/MethodHandle" ∧ yX5_setDisturbance.cls ≠ "java/lang/invoke/VarHandle" ∧ (parseMethodDescriptor yX5_setDisturbance.desc).map (fun d => d.parameters.length) = some 2 := ⟨rfl, hd_X5_setDisturbance⟩
theorem hd_X5_outputOf : yX5_outputOf.cls ≠ "java/lang/invoke/MethodHandle" ∧ yX5_outputOf.cls ≠ "java/lang/invoke/VarHandle" ∧ (parseMethodDescriptor yX5_outputOf.desc).map (fun d => d.parameters.length) = some 1 := by decide +kernel
theorem hV_X5_outputOf : yX5_outputOf.cls = RX5 ∧ yX5_outputOf.cls ≠ "java/lang/invoke/MethodHandle" ∧ yX5_outputOf.cls ≠ "java/lang/invoke/VarHandle" ∧ (parseMethodDescriptor yX5_outputOf.desc).map (fun d => d.parameters.length) = some 1 := ⟨rfl, hd_X5_outputOf⟩
theorem hd_X5_simulate : yX5_simulate.cls ≠ "java/lang/invoke/MethodHandle" ∧ yX5_simulate.cls ≠ "java/lang/invoke/VarHandle" ∧ (parseMethodDescriptor yX5_simulate.desc).map (fun d => d.parameters.length) = some 1 := by decide +kernel
theorem hV_X5_simulate : yX5_simulate.cls = RX5 ∧ yX5_simulate.cls ≠ "java/lang/invoke/MethodHandle" ∧ yX5_simulate.cls ≠ "java/lang/invoke/VarHandle" ∧ (parseMethodDescriptor yX5_simulate.desc).map (fun d => d.parameters.length) = some 1 := ⟨rfl, hd_X5_simulate⟩
theorem hd_X5_suits : yX5_suits.cls ≠ "java/lang/invoke/MethodHandle" ∧ yX5_suits.cls ≠ "java/lang/invoke/VarHandle" ∧ (parseMethodDescriptor yX5_suits.desc).map (fun d => d.parameters.length) = some 0 := by decide +kernel
theorem hV_X5_suits : yX5_suits.cls = RX5 ∧ yX5_suits.cls ≠ "java/lang/invoke/MethodHandle" ∧ yX5_suits.cls ≠ "java/lang/invoke/VarHandle" ∧ (parseMethodDescriptor yX5_suits.desc).map (fun d => d.parameters.length) = some 0 := ⟨rfl, hd_X5_suits⟩
theorem hd_J9_floorDiv_f86c9 : yJ9_floorDiv_f86c9.cls ≠ "java/lang/invoke/MethodHandle" ∧ yJ9_floorDiv_f86c9.cls ≠ "java/lang/invoke/VarHandle" ∧ (parseMethodDescriptor yJ9_floorDiv_f86c9.desc).map (fun d => d.parameters.length) = some 2 := by decide +kernel
theorem hV_J9_floorDiv_f86c9 : yJ9_floorDiv_f86c9.cls = RJ9 ∧ yJ9_floorDiv_f86c9.cls ≠ "java/lang/invoke/MethodHandle" ∧ yJ9_floorDiv_f86c9.cls ≠ "java/lang/invoke/VarHandle" ∧ (parseMethodDescriptor yJ9_floorDiv_f86c9.desc).map (fun d => d.parameters.length) = some 2 := ⟨rfl, hd_J9_floorDiv_f86c9⟩
theorem hd_J9_floorMod_7cf53 : yJ9_floorMod_7cf53.cls ≠ "java/lang/invoke/MethodHandle" ∧ yJ9_floorMod_7cf53.cls ≠ "java/lang/invoke/VarHandle" ∧ (parseMethodDescriptor yJ9_floorMod_7cf53.desc).map (fun d => d.parameters.length) = some 2 := by decide +kernel
theorem hV_J9_floorMod_7cf53 : yJ9_floorMod_7cf53.cls = RJ9 ∧ yJ9_floorMod_7cf53.cls ≠ "java/lang/invoke/MethodHandle" ∧ yJ9_floorMod_7cf53.cls ≠ "java/lang/invoke/VarHandle" ∧ (parseMethodDescriptor yJ9_floorMod_7cf53.desc).map (fun d => d.parameters.length) = some 2 := ⟨rfl, hd_J9_floorMod_7cf53⟩
theorem hd_J9_abs_0f7a4 : yJ9_abs_0f7a4.cls ≠ "java/lang/invoke/MethodHandle" ∧ yJ9_abs_0f7a4.cls ≠ "java/lang/invoke/VarHandle" ∧ (parseMethodDescriptor yJ9_abs_0f7a4.desc).map (fun d => d.parameters.length) = some 1 := by decide +kernel
theorem hV_J9_abs_0f7a4 : yJ9_abs_0f7a4.cls = RJ9 ∧ yJ9_abs_0f7a4.cls ≠ "java/lang/invoke/MethodHandle" ∧ yJ9_abs_0f7a4.cls ≠ "java/lang/invoke/VarHandle" ∧ (parseMethodDescriptor yJ9_abs_0f7a4.desc).map (fun d => d.parameters.length) = some 1 := ⟨rfl, hd_J9_abs_0f7a4⟩
theorem hd_J9_abs_067f4 : yJ9_abs_067f4.cls ≠ "java/lang/invoke/MethodHandle" ∧ yJ9_abs_067f4.cls ≠ "java/lang/invoke/VarHandle" ∧ (parseMethodDescriptor yJ9_abs_067f4.desc).map (fun d => d.parameters.length) = some 1 := by decide +kernel
theorem hV_J9_abs_067f4 : yJ9_abs_067f4.cls = RJ9 ∧ yJ9_abs_067f4.cls ≠ "java/lang/invoke/MethodHandle" ∧ yJ9_abs_067f4.cls ≠ "java/lang/invoke/VarHandle" ∧ (parseMethodDescriptor yJ9_abs_067f4.desc).map (fun d => d.parameters.length) = some 1 := ⟨rfl, hd_J9_abs_067f4⟩
theorem hd_J9_max_7cf53 : yJ9_max_7cf53.cls ≠ "java/lang/invoke/MethodHandle" ∧ yJ9_max_7cf53.cls ≠ "java/lang/invoke/VarHandle" ∧ (parseMethodDescriptor yJ9_max_7cf53.desc).map (fun d => d.parameters.length) = some 2 := by decide +kernel
theorem hV_J9_max_7cf53 : yJ9_max_7cf53.cls = RJ9 ∧ yJ9_max_7cf53.cls ≠ "java/lang/invoke/MethodHandle" ∧ yJ9_max_7cf53.cls ≠ "java/lang/invoke/VarHandle" ∧ (parseMethodDescriptor yJ9_max_7cf53.desc).map (fun d => d.parameters.length) = some 2 := ⟨rfl, hd_J9_max_7cf53⟩
theorem hd_J9_max_f86c9 : yJ9_max_f86c9.cls ≠ "java/lang/invoke/MethodHandle" ∧ yJ9_max_f86c9.cls ≠ "java/lang/invoke/VarHandle" ∧ (parseMethodDescriptor yJ9_max_f86c9.desc).map (fun d => d.parameters.length) = some 2 := by decide +kernel
theorem hV_J9_max_f86c9 : yJ9_max_f86c9.cls = RJ9 ∧ yJ9_max_f86c9.cls ≠ "java/lang/invoke/MethodHandle" ∧ yJ9_max_f86c9.cls ≠ "java/lang/invoke/VarHandle" ∧ (parseMethodDescriptor yJ9_max_f86c9.desc).map (fun d => d.parameters.length) = some 2 := ⟨rfl, hd_J9_max_f86c9⟩
theorem hd_J9_min_7cf53 : yJ9_min_7cf53.cls ≠ "java/lang/invoke/MethodHandle" ∧ yJ9_min_7cf53.cls ≠ "java/lang/invoke/VarHandle" ∧ (parseMethodDescriptor yJ9_min_7cf53.desc).map (fun d => d.parameters.length) = some 2 := by decide +kernel
theorem hV_J9_min_7cf53 : yJ9_min_7cf53.cls = RJ9 ∧ yJ9_min_7cf53.cls ≠ "java/lang/invoke/MethodHandle" ∧ yJ9_min_7cf53.cls ≠ "java/lang/invoke/VarHandle" ∧ (parseMethodDescriptor yJ9_min_7cf53.desc).map (fun d => d.parameters.length) = some 2 := ⟨rfl, hd_J9_min_7cf53⟩
theorem hd_J9_min_f86c9 : yJ9_min_f86c9.cls ≠ "java/lang/invoke/MethodHandle" ∧ yJ9_min_f86c9.cls ≠ "java/lang/invoke/VarHandle" ∧ (parseMethodDescriptor yJ9_min_f86c9.desc).map (fun d => d.parameters.length) = some 2 := by decide +kernel
theorem hV_J9_min_f86c9 : yJ9_min_f86c9.cls = RJ9 ∧ yJ9_min_f86c9.cls ≠ "java/lang/invoke/MethodHandle" ∧ yJ9_min_f86c9.cls ≠ "java/lang/invoke/VarHandle" ∧ (parseMethodDescriptor yJ9_min_f86c9.desc).map (fun d => d.parameters.length) = some 2 := ⟨rfl, hd_J9_min_f86c9⟩
theorem hd_J7_fill_53178 : yJ7_fill_53178.cls ≠ "java/lang/invoke/MethodHandle" ∧ yJ7_fill_53178.cls ≠ "java/lang/invoke/VarHandle" ∧ (parseMethodDescriptor yJ7_fill_53178.desc).map (fun d => d.parameters.length) = some 2 := by decide +kernel
theorem hV_J7_fill_53178 : yJ7_fill_53178.cls = RJ7 ∧ yJ7_fill_53178.cls ≠ "java/lang/invoke/MethodHandle" ∧ yJ7_fill_53178.cls ≠ "java/lang/invoke/VarHandle" ∧ (parseMethodDescriptor yJ7_fill_53178.desc).map (fun d => d.parameters.length) = some 2 := ⟨rfl, hd_J7_fill_53178⟩
