theorem zk_se_X0_settle : zin (.selects RX0 yX0_settle yX0_settle) := ⟨List.mem_of_getElem? (i := 0) (by decide +kernel), by decide +kernel⟩
theorem zk_se_X0_letOneGoBy : zin (.selects RX0 yX0_letOneGoBy yX0_letOneGoBy) := ⟨List.mem_of_getElem? (i := 2) (by decide +kernel), by decide +kernel⟩
theorem zk_se_X6_needStation : zin (.selects RX6 yX6_needStation yX6_needStation) := ⟨List.mem_of_getElem? (i := 3) (by decide +kernel), by decide +kernel⟩
theorem zk_se_X6_signalBetween : zin (.selects RX6 yX6_signalBetween yX6_signalBetween) := ⟨List.mem_of_getElem? (i := 4) (by decide +kernel), by decide +kernel⟩
theorem zk_se_X6_signalAt : zin (.selects RX6 yX6_signalAt yX6_signalAt) := ⟨List.mem_of_getElem? (i := 5) (by decide +kernel), by decide +kernel⟩
theorem zk_se_X6_reaches : zin (.selects RX6 yX6_reaches yX6_reaches) := ⟨List.mem_of_getElem? (i := 6) (by decide +kernel), by decide +kernel⟩
theorem zk_se_X6_noiseNow : zin (.selects RX6 yX6_noiseNow yX6_noiseNow) := ⟨List.mem_of_getElem? (i := 7) (by decide +kernel), by decide +kernel⟩
theorem zk_se_X2_partnerFor : zin (.selects RX2 yX2_partnerFor yX2_partnerFor) := ⟨List.mem_of_getElem? (i := 8) (by decide +kernel), by decide +kernel⟩
theorem zk_se_X6_hasPath : zin (.selects RX6 yX6_hasPath yX6_hasPath) := ⟨List.mem_of_getElem? (i := 9) (by decide +kernel), by decide +kernel⟩
theorem zk_se_X6_counts : zin (.selects RX6 yX6_counts yX6_counts) := ⟨List.mem_of_getElem? (i := 10) (by decide +kernel), by decide +kernel⟩
theorem zk_se_X6_legAnew : zin (.selects RX6 yX6_legAnew yX6_legAnew) := ⟨List.mem_of_getElem? (i := 11) (by decide +kernel), by decide +kernel⟩
theorem zk_in_RL : zin (.initialized RL) := ⟨List.mem_of_getElem? (i := 12) (by decide +kernel), by decide +kernel⟩
theorem zk_in_RX6 : zin (.initialized RX6) := ⟨List.mem_of_getElem? (i := 13) (by decide +kernel), by decide +kernel⟩
theorem zk_in_RX0 : zin (.initialized RX0) := ⟨List.mem_of_getElem? (i := 14) (by decide +kernel), by decide +kernel⟩
theorem zk_in_RJ9 : zin (.initialized RJ9) := ⟨List.mem_of_getElem? (i := 15) (by decide +kernel), by decide +kernel⟩
theorem zk_in_RX3 : zin (.initialized RX3) := ⟨List.mem_of_getElem? (i := 16) (by decide +kernel), by decide +kernel⟩
theorem zk_in_RX4 : zin (.initialized RX4) := ⟨List.mem_of_getElem? (i := 17) (by decide +kernel), by decide +kernel⟩
theorem zk_in_RX5 : zin (.initialized RX5) := ⟨List.mem_of_getElem? (i := 18) (by decide +kernel), by decide +kernel⟩
theorem zk_in_RX1 : zin (.initialized RX1) := ⟨List.mem_of_getElem? (i := 19) (by decide +kernel), by decide +kernel⟩
theorem zk_in_RX2 : zin (.initialized RX2) := ⟨List.mem_of_getElem? (i := 20) (by decide +kernel), by decide +kernel⟩
theorem zk_in_java_lang_Throwable : zin (.initialized "java/lang/Throwable") := ⟨List.mem_of_getElem? (i := 21) (by decide +kernel), by decide +kernel⟩
theorem zk_in_java_lang_Exception : zin (.initialized "java/lang/Exception") := ⟨List.mem_of_getElem? (i := 22) (by decide +kernel), by decide +kernel⟩
theorem zk_in_java_lang_RuntimeException : zin (.initialized "java/lang/RuntimeException") := ⟨List.mem_of_getElem? (i := 23) (by decide +kernel), by decide +kernel⟩
theorem zk_in_java_lang_IllegalArgumentException : zin (.initialized "java/lang/IllegalArgumentException") := ⟨List.mem_of_getElem? (i := 24) (by decide +kernel), by decide +kernel⟩
theorem zk_in_java_lang_IndexOutOfBoundsException : zin (.initialized "java/lang/IndexOutOfBoundsException") := ⟨List.mem_of_getElem? (i := 25) (by decide +kernel), by decide +kernel⟩
theorem zk_in_java_lang_IllegalStateException : zin (.initialized "java/lang/IllegalStateException") := ⟨List.mem_of_getElem? (i := 26) (by decide +kernel), by decide +kernel⟩
theorem zk_in_RJ6 : zin (.initialized RJ6) := ⟨List.mem_of_getElem? (i := 27) (by decide +kernel), by decide +kernel⟩
theorem zk_cl_RL_9 : zin (.classLink RL 9 RX6) := ⟨List.mem_of_getElem? (i := 28) (by decide +kernel), by decide +kernel⟩
theorem zk_is_RX6 : zin (.instantiable RX6 10) := ⟨List.mem_of_getElem? (i := 29) (by decide +kernel), by decide +kernel⟩
theorem zk_ml_RL_181 : zin (.methodLink RL 181 yX6_init) := ⟨List.mem_of_getElem? (i := 30) (by decide +kernel), by decide +kernel⟩
theorem zk_im_X6_init : zin (.instanceMethod yX6_init) := ⟨List.mem_of_getElem? (i := 31) (by decide +kernel), by decide +kernel⟩
theorem zk_cd_X6_init : zin (.code yX6_init cX6_init 1 none) := ⟨List.mem_of_getElem? (i := 32) (by decide +kernel), by decide +kernel⟩
theorem zk_ml_RX6_3 : zin (.methodLink RX6 3 objectInit) := ⟨List.mem_of_getElem? (i := 33) (by decide +kernel), by decide +kernel⟩
theorem zk_im_objectInit : zin (.instanceMethod objectInit) := ⟨List.mem_of_getElem? (i := 34) (by decide +kernel), by decide +kernel⟩
theorem zk_cd_objectInit : zin (.code objectInit ⟨#[0xb1]⟩ 1 none) := ⟨List.mem_of_getElem? (i := 35) (by decide +kernel), by decide +kernel⟩
theorem zk_cl_RX6_9 : zin (.classLink RX6 9 RX0) := ⟨List.mem_of_getElem? (i := 36) (by decide +kernel), by decide +kernel⟩
theorem zk_is_RX0 : zin (.instantiable RX0 8) := ⟨List.mem_of_getElem? (i := 37) (by decide +kernel), by decide +kernel⟩
theorem zk_ml_RX6_11 : zin (.methodLink RX6 11 yX0_init) := ⟨List.mem_of_getElem? (i := 38) (by decide +kernel), by decide +kernel⟩
theorem zk_im_X0_init : zin (.instanceMethod yX0_init) := ⟨List.mem_of_getElem? (i := 39) (by decide +kernel), by decide +kernel⟩
theorem zk_cd_X0_init : zin (.code yX0_init cX0_init 1 none) := ⟨List.mem_of_getElem? (i := 40) (by decide +kernel), by decide +kernel⟩
theorem zk_ml_RX0_3 : zin (.methodLink RX0 3 objectInit) := ⟨List.mem_of_getElem? (i := 41) (by decide +kernel), by decide +kernel⟩
theorem zk_cl_RX0_22 : zin (.classLink RX0 22 "[[I") := ⟨List.mem_of_getElem? (i := 42) (by decide +kernel), by decide +kernel⟩
theorem zk_ao_arrayint : zin (.arrayOver (.array .int)) := ⟨List.mem_of_getElem? (i := 43) (by decide +kernel), by decide +kernel⟩
theorem zk_ml_RX0_27 : zin (.methodLink RX0 27 yX0_settle) := ⟨List.mem_of_getElem? (i := 44) (by decide +kernel), by decide +kernel⟩
theorem zk_pm_X0_settle : zin (.privateMethod yX0_settle) := ⟨List.mem_of_getElem? (i := 45) (by decide +kernel), by decide +kernel⟩
theorem zk_im_X0_settle : zin (.instanceMethod yX0_settle) := ⟨List.mem_of_getElem? (i := 46) (by decide +kernel), by decide +kernel⟩
theorem zk_cd_X0_settle : zin (.code yX0_settle cX0_settle 5 none) := ⟨List.mem_of_getElem? (i := 47) (by decide +kernel), by decide +kernel⟩
theorem zk_mn_RX0_51 : zin (.methodLinkNest RX0 51 yX6_lightIn "SkipRays") := ⟨List.mem_of_getElem? (i := 48) (by decide +kernel), by decide +kernel⟩
theorem zk_st_X6_lightIn : zin (.static yX6_lightIn) := ⟨List.mem_of_getElem? (i := 49) (by decide +kernel), by decide +kernel⟩
theorem zk_cd_X6_lightIn : zin (.code yX6_lightIn cX6_lightIn 3 (some .int)) := ⟨List.mem_of_getElem? (i := 50) (by decide +kernel), by decide +kernel⟩
theorem zk_ml_RX6_211 : zin (.methodLink RX6 211 Lib.Math.abs.name) := ⟨List.mem_of_getElem? (i := 51) (by decide +kernel), by decide +kernel⟩
theorem zk_st_Lib_Math_abs_name : zin (.static Lib.Math.abs.name) := ⟨List.mem_of_getElem? (i := 52) (by decide +kernel), by decide +kernel⟩
theorem zk_cd_Lib_Math_abs_name : zin (.code Lib.Math.abs.name Lib.Math.abs.code 1 (some .int)) := ⟨List.mem_of_getElem? (i := 53) (by decide +kernel), by decide +kernel⟩
theorem zk_ml_RX6_226 : zin (.methodLink RX6 226 Lib.Math.max.name) := ⟨List.mem_of_getElem? (i := 54) (by decide +kernel), by decide +kernel⟩
theorem zk_st_Lib_Math_max_name : zin (.static Lib.Math.max.name) := ⟨List.mem_of_getElem? (i := 55) (by decide +kernel), by decide +kernel⟩
theorem zk_cd_Lib_Math_max_name : zin (.code Lib.Math.max.name Lib.Math.max.code 2 (some .int)) := ⟨List.mem_of_getElem? (i := 56) (by decide +kernel), by decide +kernel⟩
theorem zk_ml_RX0_45 : zin (.methodLink RX0 45 Lib.Math.max.name) := ⟨List.mem_of_getElem? (i := 57) (by decide +kernel), by decide +kernel⟩
theorem zk_fl_RX0_42 : zin (.fieldLink RX0 42 "SkipRays$Air" "hourNow" "I") := ⟨List.mem_of_getElem? (i := 58) (by decide +kernel), by decide +kernel⟩
theorem zk_fn_RX6_94 : zin (.fieldLinkNest RX6 94 "SkipRays$Air" "hourNow" "I" "SkipRays") := ⟨List.mem_of_getElem? (i := 59) (by decide +kernel), by decide +kernel⟩
theorem zk_fl_RX0_9 : zin (.fieldLink RX0 9 "SkipRays$Air" "sunLevel" "I") := ⟨List.mem_of_getElem? (i := 60) (by decide +kernel), by decide +kernel⟩
theorem zk_fn_RX6_63 : zin (.fieldLinkNest RX6 63 "SkipRays$Air" "sunLevel" "I" "SkipRays") := ⟨List.mem_of_getElem? (i := 61) (by decide +kernel), by decide +kernel⟩
theorem zk_fl_RX0_30 : zin (.fieldLink RX0 30 "SkipRays$Air" "stormStrength" "I") := ⟨List.mem_of_getElem? (i := 62) (by decide +kernel), by decide +kernel⟩
theorem zk_fl_RX0_33 : zin (.fieldLink RX0 33 "SkipRays$Air" "stormHours" "I") := ⟨List.mem_of_getElem? (i := 63) (by decide +kernel), by decide +kernel⟩
theorem zk_fl_RX0_36 : zin (.fieldLink RX0 36 "SkipRays$Air" "flareSize" "I") := ⟨List.mem_of_getElem? (i := 64) (by decide +kernel), by decide +kernel⟩
theorem zk_fn_RX6_74 : zin (.fieldLinkNest RX6 74 "SkipRays$Air" "flareSize" "I" "SkipRays") := ⟨List.mem_of_getElem? (i := 65) (by decide +kernel), by decide +kernel⟩
theorem zk_fl_RX0_15 : zin (.fieldLink RX0 15 "SkipRays$Air" "cloudStrength" "[I") := ⟨List.mem_of_getElem? (i := 66) (by decide +kernel), by decide +kernel⟩
theorem zk_fl_RX0_19 : zin (.fieldLink RX0 19 "SkipRays$Air" "cloudHours" "[I") := ⟨List.mem_of_getElem? (i := 67) (by decide +kernel), by decide +kernel⟩
theorem zk_fl_RX0_24 : zin (.fieldLink RX0 24 "SkipRays$Air" "densities" "[[I") := ⟨List.mem_of_getElem? (i := 68) (by decide +kernel), by decide +kernel⟩
theorem zk_fn_RX4_50 : zin (.fieldLinkNest RX4 50 "SkipRays$Air" "densities" "[[I" "SkipRays") := ⟨List.mem_of_getElem? (i := 69) (by decide +kernel), by decide +kernel⟩
theorem zk_fn_RX6_168 : zin (.fieldLinkNest RX6 168 "SkipRays$Air" "densities" "[[I" "SkipRays") := ⟨List.mem_of_getElem? (i := 70) (by decide +kernel), by decide +kernel⟩
theorem zk_ly_RX0_hourNow : zin (.lays RX0 "SkipRays$Air" "hourNow" "I") := ⟨List.mem_of_getElem? (i := 71) (by decide +kernel), by decide +kernel⟩
theorem zk_ly_RX0_sunLevel : zin (.lays RX0 "SkipRays$Air" "sunLevel" "I") := ⟨List.mem_of_getElem? (i := 73) (by decide +kernel), by decide +kernel⟩
theorem zk_ly_RX0_stormStrength : zin (.lays RX0 "SkipRays$Air" "stormStrength" "I") := ⟨List.mem_of_getElem? (i := 75) (by decide +kernel), by decide +kernel⟩
theorem zk_ly_RX0_stormHours : zin (.lays RX0 "SkipRays$Air" "stormHours" "I") := ⟨List.mem_of_getElem? (i := 77) (by decide +kernel), by decide +kernel⟩
theorem zk_ly_RX0_flareSize : zin (.lays RX0 "SkipRays$Air" "flareSize" "I") := ⟨List.mem_of_getElem? (i := 79) (by decide +kernel), by decide +kernel⟩
theorem zk_ly_RX0_cloudStrength : zin (.laysFinal RX0 "SkipRays$Air" "cloudStrength" "[I") := ⟨List.mem_of_getElem? (i := 81) (by decide +kernel), by decide +kernel⟩
theorem zk_ly_RX0_cloudHours : zin (.laysFinal RX0 "SkipRays$Air" "cloudHours" "[I") := ⟨List.mem_of_getElem? (i := 83) (by decide +kernel), by decide +kernel⟩
theorem zk_ly_RX0_densities : zin (.laysFinal RX0 "SkipRays$Air" "densities" "[[I") := ⟨List.mem_of_getElem? (i := 85) (by decide +kernel), by decide +kernel⟩
theorem zk_ac_int : zin (.arrayClass .int) := ⟨List.mem_of_getElem? (i := 88) (by decide +kernel), by decide +kernel⟩
theorem zk_cl_RX6_19 : zin (.classLink RX6 19 RX3) := ⟨List.mem_of_getElem? (i := 89) (by decide +kernel), by decide +kernel⟩
theorem zk_is_RX3 : zin (.instantiable RX3 2) := ⟨List.mem_of_getElem? (i := 90) (by decide +kernel), by decide +kernel⟩
theorem zk_mn_RX6_21 : zin (.methodLinkNest RX6 21 yX3_init "SkipRays") := ⟨List.mem_of_getElem? (i := 91) (by decide +kernel), by decide +kernel⟩
theorem zk_im_X3_init : zin (.instanceMethod yX3_init) := ⟨List.mem_of_getElem? (i := 92) (by decide +kernel), by decide +kernel⟩
theorem zk_cd_X3_init : zin (.code yX3_init cX3_init 1 none) := ⟨List.mem_of_getElem? (i := 93) (by decide +kernel), by decide +kernel⟩
theorem zk_ml_RX3_3 : zin (.methodLink RX3 3 objectInit) := ⟨List.mem_of_getElem? (i := 94) (by decide +kernel), by decide +kernel⟩
theorem zk_fl_RX3_9 : zin (.fieldLink RX3 9 "SkipRays$Ground" "isSea" "[Z") := ⟨List.mem_of_getElem? (i := 95) (by decide +kernel), by decide +kernel⟩
theorem zk_fn_RX6_86 : zin (.fieldLinkNest RX6 86 "SkipRays$Ground" "isSea" "[Z" "SkipRays") := ⟨List.mem_of_getElem? (i := 96) (by decide +kernel), by decide +kernel⟩
theorem zk_fl_RX3_15 : zin (.fieldLink RX3 15 "SkipRays$Ground" "noiseLevel" "[I") := ⟨List.mem_of_getElem? (i := 97) (by decide +kernel), by decide +kernel⟩
theorem zk_fn_RX6_90 : zin (.fieldLinkNest RX6 90 "SkipRays$Ground" "noiseLevel" "[I" "SkipRays") := ⟨List.mem_of_getElem? (i := 98) (by decide +kernel), by decide +kernel⟩
theorem zk_ly_RX3_isSea : zin (.laysFinal RX3 "SkipRays$Ground" "isSea" "[Z") := ⟨List.mem_of_getElem? (i := 99) (by decide +kernel), by decide +kernel⟩
theorem zk_ly_RX3_noiseLevel : zin (.laysFinal RX3 "SkipRays$Ground" "noiseLevel" "[I") := ⟨List.mem_of_getElem? (i := 101) (by decide +kernel), by decide +kernel⟩
theorem zk_ac_boolean : zin (.arrayClass .boolean) := ⟨List.mem_of_getElem? (i := 104) (by decide +kernel), by decide +kernel⟩
theorem zk_cl_RX6_26 : zin (.classLink RX6 26 RX4) := ⟨List.mem_of_getElem? (i := 105) (by decide +kernel), by decide +kernel⟩
theorem zk_is_RX4 : zin (.instantiable RX4 8) := ⟨List.mem_of_getElem? (i := 106) (by decide +kernel), by decide +kernel⟩
theorem zk_mn_RX6_28 : zin (.methodLinkNest RX6 28 yX4_init "SkipRays") := ⟨List.mem_of_getElem? (i := 107) (by decide +kernel), by decide +kernel⟩
theorem zk_im_X4_init : zin (.instanceMethod yX4_init) := ⟨List.mem_of_getElem? (i := 108) (by decide +kernel), by decide +kernel⟩
theorem zk_cd_X4_init : zin (.code yX4_init cX4_init 1 none) := ⟨List.mem_of_getElem? (i := 109) (by decide +kernel), by decide +kernel⟩
theorem zk_ml_RX4_3 : zin (.methodLink RX4 3 objectInit) := ⟨List.mem_of_getElem? (i := 110) (by decide +kernel), by decide +kernel⟩
theorem zk_fl_RX4_9 : zin (.fieldLink RX4 9 "SkipRays$Ray" "place" "I") := ⟨List.mem_of_getElem? (i := 111) (by decide +kernel), by decide +kernel⟩
theorem zk_fn_RX6_301 : zin (.fieldLinkNest RX6 301 "SkipRays$Ray" "place" "I" "SkipRays") := ⟨List.mem_of_getElem? (i := 112) (by decide +kernel), by decide +kernel⟩
theorem zk_fl_RX4_15 : zin (.fieldLink RX4 15 "SkipRays$Ray" "direction" "I") := ⟨List.mem_of_getElem? (i := 113) (by decide +kernel), by decide +kernel⟩
theorem zk_fl_RX4_18 : zin (.fieldLink RX4 18 "SkipRays$Ray" "angle" "I") := ⟨List.mem_of_getElem? (i := 114) (by decide +kernel), by decide +kernel⟩
theorem zk_fl_RX4_21 : zin (.fieldLink RX4 21 "SkipRays$Ray" "frequency" "I") := ⟨List.mem_of_getElem? (i := 115) (by decide +kernel), by decide +kernel⟩
theorem zk_fl_RX4_24 : zin (.fieldLink RX4 24 "SkipRays$Ray" "strength" "I") := ⟨List.mem_of_getElem? (i := 116) (by decide +kernel), by decide +kernel⟩
theorem zk_fn_RX6_306 : zin (.fieldLinkNest RX6 306 "SkipRays$Ray" "strength" "I" "SkipRays") := ⟨List.mem_of_getElem? (i := 117) (by decide +kernel), by decide +kernel⟩
theorem zk_fl_RX4_27 : zin (.fieldLink RX4 27 "SkipRays$Ray" "legs" "I") := ⟨List.mem_of_getElem? (i := 118) (by decide +kernel), by decide +kernel⟩
theorem zk_fl_RX4_30 : zin (.fieldLink RX4 30 "SkipRays$Ray" "legsByE" "I") := ⟨List.mem_of_getElem? (i := 119) (by decide +kernel), by decide +kernel⟩
theorem zk_fl_RX4_33 : zin (.fieldLink RX4 33 "SkipRays$Ray" "delay" "I") := ⟨List.mem_of_getElem? (i := 120) (by decide +kernel), by decide +kernel⟩
theorem zk_fn_RX6_208 : zin (.fieldLinkNest RX6 208 "SkipRays$Ray" "delay" "I" "SkipRays") := ⟨List.mem_of_getElem? (i := 121) (by decide +kernel), by decide +kernel⟩
theorem zk_ly_RX4_place : zin (.lays RX4 "SkipRays$Ray" "place" "I") := ⟨List.mem_of_getElem? (i := 122) (by decide +kernel), by decide +kernel⟩
theorem zk_ly_RX4_direction : zin (.lays RX4 "SkipRays$Ray" "direction" "I") := ⟨List.mem_of_getElem? (i := 124) (by decide +kernel), by decide +kernel⟩
theorem zk_ly_RX4_angle : zin (.lays RX4 "SkipRays$Ray" "angle" "I") := ⟨List.mem_of_getElem? (i := 126) (by decide +kernel), by decide +kernel⟩
theorem zk_ly_RX4_frequency : zin (.lays RX4 "SkipRays$Ray" "frequency" "I") := ⟨List.mem_of_getElem? (i := 128) (by decide +kernel), by decide +kernel⟩
theorem zk_ly_RX4_strength : zin (.lays RX4 "SkipRays$Ray" "strength" "I") := ⟨List.mem_of_getElem? (i := 130) (by decide +kernel), by decide +kernel⟩
theorem zk_ly_RX4_legs : zin (.lays RX4 "SkipRays$Ray" "legs" "I") := ⟨List.mem_of_getElem? (i := 132) (by decide +kernel), by decide +kernel⟩
theorem zk_ly_RX4_legsByE : zin (.lays RX4 "SkipRays$Ray" "legsByE" "I") := ⟨List.mem_of_getElem? (i := 134) (by decide +kernel), by decide +kernel⟩
theorem zk_ly_RX4_delay : zin (.lays RX4 "SkipRays$Ray" "delay" "I") := ⟨List.mem_of_getElem? (i := 136) (by decide +kernel), by decide +kernel⟩
theorem zk_cl_RX6_33 : zin (.classLink RX6 33 RX5) := ⟨List.mem_of_getElem? (i := 139) (by decide +kernel), by decide +kernel⟩
theorem zk_is_RX5 : zin (.instantiable RX5 6) := ⟨List.mem_of_getElem? (i := 140) (by decide +kernel), by decide +kernel⟩
theorem zk_ml_RX6_35 : zin (.methodLink RX6 35 yX5_init) := ⟨List.mem_of_getElem? (i := 141) (by decide +kernel), by decide +kernel⟩
theorem zk_im_X5_init : zin (.instanceMethod yX5_init) := ⟨List.mem_of_getElem? (i := 142) (by decide +kernel), by decide +kernel⟩
theorem zk_cd_X5_init : zin (.code yX5_init cX5_init 2 none) := ⟨List.mem_of_getElem? (i := 143) (by decide +kernel), by decide +kernel⟩
theorem zk_ml_RX5_3 : zin (.methodLink RX5 3 objectInit) := ⟨List.mem_of_getElem? (i := 144) (by decide +kernel), by decide +kernel⟩
theorem zk_fl_RX5_9 : zin (.fieldLink RX5 9 "SkipRays$Senders" "place" "[I") := ⟨List.mem_of_getElem? (i := 145) (by decide +kernel), by decide +kernel⟩
theorem zk_fn_RX6_248 : zin (.fieldLinkNest RX6 248 "SkipRays$Senders" "place" "[I" "SkipRays") := ⟨List.mem_of_getElem? (i := 146) (by decide +kernel), by decide +kernel⟩
theorem zk_fl_RX5_15 : zin (.fieldLink RX5 15 "SkipRays$Senders" "power" "[I") := ⟨List.mem_of_getElem? (i := 147) (by decide +kernel), by decide +kernel⟩
theorem zk_fl_RX5_18 : zin (.fieldLink RX5 18 "SkipRays$Senders" "antenna" "[I") := ⟨List.mem_of_getElem? (i := 148) (by decide +kernel), by decide +kernel⟩
theorem zk_fl_RX5_21 : zin (.fieldLink RX5 21 "SkipRays$Senders" "heading" "[I") := ⟨List.mem_of_getElem? (i := 149) (by decide +kernel), by decide +kernel⟩
theorem zk_fl_RX5_24 : zin (.fieldLink RX5 24 "SkipRays$Senders" "frequency" "[I") := ⟨List.mem_of_getElem? (i := 150) (by decide +kernel), by decide +kernel⟩
theorem zk_fn_RX6_151 : zin (.fieldLinkNest RX6 151 "SkipRays$Senders" "frequency" "[I" "SkipRays") := ⟨List.mem_of_getElem? (i := 151) (by decide +kernel), by decide +kernel⟩
theorem zk_fl_RX5_27 : zin (.fieldLink RX5 27 "SkipRays$Senders" "made" "I") := ⟨List.mem_of_getElem? (i := 152) (by decide +kernel), by decide +kernel⟩
theorem zk_fn_RX6_148 : zin (.fieldLinkNest RX6 148 "SkipRays$Senders" "made" "I" "SkipRays") := ⟨List.mem_of_getElem? (i := 153) (by decide +kernel), by decide +kernel⟩
theorem zk_ly_RX5_place : zin (.laysFinal RX5 "SkipRays$Senders" "place" "[I") := ⟨List.mem_of_getElem? (i := 154) (by decide +kernel), by decide +kernel⟩
theorem zk_ly_RX5_power : zin (.laysFinal RX5 "SkipRays$Senders" "power" "[I") := ⟨List.mem_of_getElem? (i := 156) (by decide +kernel), by decide +kernel⟩
theorem zk_ly_RX5_antenna : zin (.laysFinal RX5 "SkipRays$Senders" "antenna" "[I") := ⟨List.mem_of_getElem? (i := 158) (by decide +kernel), by decide +kernel⟩
theorem zk_ly_RX5_heading : zin (.laysFinal RX5 "SkipRays$Senders" "heading" "[I") := ⟨List.mem_of_getElem? (i := 160) (by decide +kernel), by decide +kernel⟩
theorem zk_ly_RX5_frequency : zin (.laysFinal RX5 "SkipRays$Senders" "frequency" "[I") := ⟨List.mem_of_getElem? (i := 162) (by decide +kernel), by decide +kernel⟩
theorem zk_ly_RX5_made : zin (.lays RX5 "SkipRays$Senders" "made" "I") := ⟨List.mem_of_getElem? (i := 164) (by decide +kernel), by decide +kernel⟩
theorem zk_cl_RX6_45 : zin (.classLink RX6 45 RX1) := ⟨List.mem_of_getElem? (i := 167) (by decide +kernel), by decide +kernel⟩
theorem zk_is_RX1 : zin (.instantiable RX1 6) := ⟨List.mem_of_getElem? (i := 168) (by decide +kernel), by decide +kernel⟩
theorem zk_mn_RX6_47 : zin (.methodLinkNest RX6 47 yX1_init "SkipRays") := ⟨List.mem_of_getElem? (i := 169) (by decide +kernel), by decide +kernel⟩
theorem zk_im_X1_init : zin (.instanceMethod yX1_init) := ⟨List.mem_of_getElem? (i := 170) (by decide +kernel), by decide +kernel⟩
theorem zk_cd_X1_init : zin (.code yX1_init cX1_init 1 none) := ⟨List.mem_of_getElem? (i := 171) (by decide +kernel), by decide +kernel⟩
theorem zk_ml_RX1_3 : zin (.methodLink RX1 3 objectInit) := ⟨List.mem_of_getElem? (i := 172) (by decide +kernel), by decide +kernel⟩
theorem zk_fl_RX1_9 : zin (.fieldLink RX1 9 "SkipRays$Contacts" "caller" "[I") := ⟨List.mem_of_getElem? (i := 173) (by decide +kernel), by decide +kernel⟩
theorem zk_fl_RX1_15 : zin (.fieldLink RX1 15 "SkipRays$Contacts" "called" "[I") := ⟨List.mem_of_getElem? (i := 174) (by decide +kernel), by decide +kernel⟩
theorem zk_fl_RX1_18 : zin (.fieldLink RX1 18 "SkipRays$Contacts" "frequency" "[I") := ⟨List.mem_of_getElem? (i := 175) (by decide +kernel), by decide +kernel⟩
theorem zk_fn_RX6_313 : zin (.fieldLinkNest RX6 313 "SkipRays$Contacts" "frequency" "[I" "SkipRays") := ⟨List.mem_of_getElem? (i := 176) (by decide +kernel), by decide +kernel⟩
theorem zk_fl_RX1_21 : zin (.fieldLink RX1 21 "SkipRays$Contacts" "mode" "[I") := ⟨List.mem_of_getElem? (i := 177) (by decide +kernel), by decide +kernel⟩
theorem zk_fl_RX1_24 : zin (.fieldLink RX1 24 "SkipRays$Contacts" "hourOf" "[I") := ⟨List.mem_of_getElem? (i := 178) (by decide +kernel), by decide +kernel⟩
theorem zk_fn_RX6_312 : zin (.fieldLinkNest RX6 312 "SkipRays$Contacts" "hourOf" "[I" "SkipRays") := ⟨List.mem_of_getElem? (i := 179) (by decide +kernel), by decide +kernel⟩
theorem zk_fl_RX1_27 : zin (.fieldLink RX1 27 "SkipRays$Contacts" "made" "I") := ⟨List.mem_of_getElem? (i := 180) (by decide +kernel), by decide +kernel⟩
theorem zk_fn_RX6_268 : zin (.fieldLinkNest RX6 268 "SkipRays$Contacts" "made" "I" "SkipRays") := ⟨List.mem_of_getElem? (i := 181) (by decide +kernel), by decide +kernel⟩
theorem zk_ly_RX1_caller : zin (.laysFinal RX1 "SkipRays$Contacts" "caller" "[I") := ⟨List.mem_of_getElem? (i := 182) (by decide +kernel), by decide +kernel⟩
theorem zk_ly_RX1_called : zin (.laysFinal RX1 "SkipRays$Contacts" "called" "[I") := ⟨List.mem_of_getElem? (i := 184) (by decide +kernel), by decide +kernel⟩
theorem zk_ly_RX1_frequency : zin (.laysFinal RX1 "SkipRays$Contacts" "frequency" "[I") := ⟨List.mem_of_getElem? (i := 186) (by decide +kernel), by decide +kernel⟩
theorem zk_ly_RX1_mode : zin (.laysFinal RX1 "SkipRays$Contacts" "mode" "[I") := ⟨List.mem_of_getElem? (i := 188) (by decide +kernel), by decide +kernel⟩
theorem zk_ly_RX1_hourOf : zin (.laysFinal RX1 "SkipRays$Contacts" "hourOf" "[I") := ⟨List.mem_of_getElem? (i := 190) (by decide +kernel), by decide +kernel⟩
theorem zk_ly_RX1_made : zin (.lays RX1 "SkipRays$Contacts" "made" "I") := ⟨List.mem_of_getElem? (i := 192) (by decide +kernel), by decide +kernel⟩
theorem zk_cl_RX6_52 : zin (.classLink RX6 52 RX2) := ⟨List.mem_of_getElem? (i := 195) (by decide +kernel), by decide +kernel⟩
theorem zk_is_RX2 : zin (.instantiable RX2 7) := ⟨List.mem_of_getElem? (i := 196) (by decide +kernel), by decide +kernel⟩
theorem zk_mn_RX6_54 : zin (.methodLinkNest RX6 54 yX2_init "SkipRays") := ⟨List.mem_of_getElem? (i := 197) (by decide +kernel), by decide +kernel⟩
theorem zk_im_X2_init : zin (.instanceMethod yX2_init) := ⟨List.mem_of_getElem? (i := 198) (by decide +kernel), by decide +kernel⟩
theorem zk_cd_X2_init : zin (.code yX2_init cX2_init 1 none) := ⟨List.mem_of_getElem? (i := 199) (by decide +kernel), by decide +kernel⟩
theorem zk_ml_RX2_3 : zin (.methodLink RX2 3 objectInit) := ⟨List.mem_of_getElem? (i := 200) (by decide +kernel), by decide +kernel⟩
theorem zk_fl_RX2_9 : zin (.fieldLink RX2 9 "SkipRays$Entries" "by" "[I") := ⟨List.mem_of_getElem? (i := 201) (by decide +kernel), by decide +kernel⟩
theorem zk_fn_RX6_245 : zin (.fieldLinkNest RX6 245 "SkipRays$Entries" "by" "[I" "SkipRays") := ⟨List.mem_of_getElem? (i := 202) (by decide +kernel), by decide +kernel⟩
theorem zk_fl_RX2_15 : zin (.fieldLink RX2 15 "SkipRays$Entries" "noted" "[I") := ⟨List.mem_of_getElem? (i := 203) (by decide +kernel), by decide +kernel⟩
theorem zk_fn_RX6_251 : zin (.fieldLinkNest RX6 251 "SkipRays$Entries" "noted" "[I" "SkipRays") := ⟨List.mem_of_getElem? (i := 204) (by decide +kernel), by decide +kernel⟩
theorem zk_fl_RX2_18 : zin (.fieldLink RX2 18 "SkipRays$Entries" "frequency" "[I") := ⟨List.mem_of_getElem? (i := 205) (by decide +kernel), by decide +kernel⟩
theorem zk_fn_RX6_314 : zin (.fieldLinkNest RX6 314 "SkipRays$Entries" "frequency" "[I" "SkipRays") := ⟨List.mem_of_getElem? (i := 206) (by decide +kernel), by decide +kernel⟩
theorem zk_fl_RX2_21 : zin (.fieldLink RX2 21 "SkipRays$Entries" "hourOf" "[I") := ⟨List.mem_of_getElem? (i := 207) (by decide +kernel), by decide +kernel⟩
theorem zk_fn_RX6_260 : zin (.fieldLinkNest RX6 260 "SkipRays$Entries" "hourOf" "[I" "SkipRays") := ⟨List.mem_of_getElem? (i := 208) (by decide +kernel), by decide +kernel⟩
theorem zk_fl_RX2_24 : zin (.fieldLink RX2 24 "SkipRays$Entries" "pair" "[I") := ⟨List.mem_of_getElem? (i := 209) (by decide +kernel), by decide +kernel⟩
theorem zk_fn_RX6_257 : zin (.fieldLinkNest RX6 257 "SkipRays$Entries" "pair" "[I" "SkipRays") := ⟨List.mem_of_getElem? (i := 210) (by decide +kernel), by decide +kernel⟩
theorem zk_fl_RX2_27 : zin (.fieldLink RX2 27 "SkipRays$Entries" "made" "I") := ⟨List.mem_of_getElem? (i := 211) (by decide +kernel), by decide +kernel⟩
theorem zk_fn_RX6_244 : zin (.fieldLinkNest RX6 244 "SkipRays$Entries" "made" "I" "SkipRays") := ⟨List.mem_of_getElem? (i := 212) (by decide +kernel), by decide +kernel⟩
theorem zk_fl_RX2_35 : zin (.fieldLink RX2 35 "SkipRays$Entries" "paired" "I") := ⟨List.mem_of_getElem? (i := 213) (by decide +kernel), by decide +kernel⟩
theorem zk_fn_RX6_269 : zin (.fieldLinkNest RX6 269 "SkipRays$Entries" "paired" "I" "SkipRays") := ⟨List.mem_of_getElem? (i := 214) (by decide +kernel), by decide +kernel⟩
theorem zk_ly_RX2_by : zin (.laysFinal RX2 "SkipRays$Entries" "by" "[I") := ⟨List.mem_of_getElem? (i := 215) (by decide +kernel), by decide +kernel⟩
theorem zk_ly_RX2_noted : zin (.laysFinal RX2 "SkipRays$Entries" "noted" "[I") := ⟨List.mem_of_getElem? (i := 217) (by decide +kernel), by decide +kernel⟩
theorem zk_ly_RX2_frequency : zin (.laysFinal RX2 "SkipRays$Entries" "frequency" "[I") := ⟨List.mem_of_getElem? (i := 219) (by decide +kernel), by decide +kernel⟩
theorem zk_ly_RX2_hourOf : zin (.laysFinal RX2 "SkipRays$Entries" "hourOf" "[I") := ⟨List.mem_of_getElem? (i := 221) (by decide +kernel), by decide +kernel⟩
theorem zk_ly_RX2_pair : zin (.laysFinal RX2 "SkipRays$Entries" "pair" "[I") := ⟨List.mem_of_getElem? (i := 223) (by decide +kernel), by decide +kernel⟩
theorem zk_ly_RX2_made : zin (.lays RX2 "SkipRays$Entries" "made" "I") := ⟨List.mem_of_getElem? (i := 225) (by decide +kernel), by decide +kernel⟩
theorem zk_ly_RX2_paired : zin (.lays RX2 "SkipRays$Entries" "paired" "I") := ⟨List.mem_of_getElem? (i := 227) (by decide +kernel), by decide +kernel⟩
theorem zk_fl_RX6_12 : zin (.fieldLink RX6 12 "SkipRays" "air" "LSkipRays$Air;") := ⟨List.mem_of_getElem? (i := 230) (by decide +kernel), by decide +kernel⟩
theorem zk_fl_RX6_16 : zin (.fieldLink RX6 16 "SkipRays" "calm" "LSkipRays$Air;") := ⟨List.mem_of_getElem? (i := 231) (by decide +kernel), by decide +kernel⟩
theorem zk_fl_RX6_22 : zin (.fieldLink RX6 22 "SkipRays" "ground" "LSkipRays$Ground;") := ⟨List.mem_of_getElem? (i := 232) (by decide +kernel), by decide +kernel⟩
theorem zk_fl_RX6_29 : zin (.fieldLink RX6 29 "SkipRays" "ray" "LSkipRays$Ray;") := ⟨List.mem_of_getElem? (i := 233) (by decide +kernel), by decide +kernel⟩
theorem zk_fl_RX6_38 : zin (.fieldLink RX6 38 "SkipRays" "stations" "LSkipRays$Senders;") := ⟨List.mem_of_getElem? (i := 234) (by decide +kernel), by decide +kernel⟩
theorem zk_fl_RX6_42 : zin (.fieldLink RX6 42 "SkipRays" "beacons" "LSkipRays$Senders;") := ⟨List.mem_of_getElem? (i := 235) (by decide +kernel), by decide +kernel⟩
theorem zk_fl_RX6_48 : zin (.fieldLink RX6 48 "SkipRays" "contacts" "LSkipRays$Contacts;") := ⟨List.mem_of_getElem? (i := 236) (by decide +kernel), by decide +kernel⟩
theorem zk_fl_RX6_55 : zin (.fieldLink RX6 55 "SkipRays" "entries" "LSkipRays$Entries;") := ⟨List.mem_of_getElem? (i := 237) (by decide +kernel), by decide +kernel⟩
theorem zk_fl_RX6_161 : zin (.fieldLink RX6 161 "SkipRays" "forecastsMade" "I") := ⟨List.mem_of_getElem? (i := 238) (by decide +kernel), by decide +kernel⟩
theorem zk_fl_RX6_158 : zin (.fieldLink RX6 158 "SkipRays" "forecastsRight" "I") := ⟨List.mem_of_getElem? (i := 239) (by decide +kernel), by decide +kernel⟩
theorem zk_ly_RX6_air : zin (.laysFinal RX6 "SkipRays" "air" "LSkipRays$Air;") := ⟨List.mem_of_getElem? (i := 240) (by decide +kernel), by decide +kernel⟩
theorem zk_ly_RX6_calm : zin (.laysFinal RX6 "SkipRays" "calm" "LSkipRays$Air;") := ⟨List.mem_of_getElem? (i := 242) (by decide +kernel), by decide +kernel⟩
theorem zk_ly_RX6_ground : zin (.laysFinal RX6 "SkipRays" "ground" "LSkipRays$Ground;") := ⟨List.mem_of_getElem? (i := 244) (by decide +kernel), by decide +kernel⟩
theorem zk_ly_RX6_ray : zin (.laysFinal RX6 "SkipRays" "ray" "LSkipRays$Ray;") := ⟨List.mem_of_getElem? (i := 246) (by decide +kernel), by decide +kernel⟩
theorem zk_ly_RX6_stations : zin (.laysFinal RX6 "SkipRays" "stations" "LSkipRays$Senders;") := ⟨List.mem_of_getElem? (i := 248) (by decide +kernel), by decide +kernel⟩
theorem zk_ly_RX6_beacons : zin (.laysFinal RX6 "SkipRays" "beacons" "LSkipRays$Senders;") := ⟨List.mem_of_getElem? (i := 250) (by decide +kernel), by decide +kernel⟩
theorem zk_ly_RX6_contacts : zin (.laysFinal RX6 "SkipRays" "contacts" "LSkipRays$Contacts;") := ⟨List.mem_of_getElem? (i := 252) (by decide +kernel), by decide +kernel⟩
theorem zk_ly_RX6_entries : zin (.laysFinal RX6 "SkipRays" "entries" "LSkipRays$Entries;") := ⟨List.mem_of_getElem? (i := 254) (by decide +kernel), by decide +kernel⟩
theorem zk_ly_RX6_forecastsMade : zin (.lays RX6 "SkipRays" "forecastsMade" "I") := ⟨List.mem_of_getElem? (i := 256) (by decide +kernel), by decide +kernel⟩
theorem zk_ly_RX6_forecastsRight : zin (.lays RX6 "SkipRays" "forecastsRight" "I") := ⟨List.mem_of_getElem? (i := 258) (by decide +kernel), by decide +kernel⟩
theorem zk_ml_RL_182 : zin (.methodLink RL 182 yL_cell) := ⟨List.mem_of_getElem? (i := 261) (by decide +kernel), by decide +kernel⟩
theorem zk_st_L_cell : zin (.static yL_cell) := ⟨List.mem_of_getElem? (i := 262) (by decide +kernel), by decide +kernel⟩
theorem zk_cd_L_cell : zin (.code yL_cell cL_cell 2 (some .int)) := ⟨List.mem_of_getElem? (i := 263) (by decide +kernel), by decide +kernel⟩
theorem zk_ml_RL_186 : zin (.methodLink RL 186 yL_act) := ⟨List.mem_of_getElem? (i := 264) (by decide +kernel), by decide +kernel⟩
theorem zk_st_L_act : zin (.static yL_act) := ⟨List.mem_of_getElem? (i := 265) (by decide +kernel), by decide +kernel⟩
set_option maxRecDepth 100000 in
theorem zk_cd_L_act : zin (.code yL_act cL_act 11 (some .int)) := ⟨List.mem_of_getElem? (i := 266) (rfl), by decide +kernel⟩
theorem zk_ml_RL_105 : zin (.methodLink RL 105 yL_low) := ⟨List.mem_of_getElem? (i := 267) (by decide +kernel), by decide +kernel⟩
theorem zk_st_L_low : zin (.static yL_low) := ⟨List.mem_of_getElem? (i := 268) (by decide +kernel), by decide +kernel⟩
theorem zk_cd_L_low : zin (.code yL_low cL_low 2 (some .int)) := ⟨List.mem_of_getElem? (i := 269) (by decide +kernel), by decide +kernel⟩
theorem zk_ct_RL_7 : zin (.constant RL 7 2147483647) := ⟨List.mem_of_getElem? (i := 270) (by decide +kernel), by decide +kernel⟩
theorem zk_ml_RL_110 : zin (.methodLink RL 110 yL_sun) := ⟨List.mem_of_getElem? (i := 271) (by decide +kernel), by decide +kernel⟩
theorem zk_st_L_sun : zin (.static yL_sun) := ⟨List.mem_of_getElem? (i := 272) (by decide +kernel), by decide +kernel⟩
theorem zk_cw_L_sun : zin (.codeWith yL_sun cL_sun 3 (some .int) [(0 , 5 , 6 , 14)]) := ⟨List.mem_of_getElem? (i := 273) (by decide +kernel), by decide +kernel⟩
theorem zk_cl_RL_14 : zin (.classLink RL 14 "java/lang/IllegalArgumentException") := ⟨List.mem_of_getElem? (i := 274) (by decide +kernel), by decide +kernel⟩
theorem zk_ml_RL_8 : zin (.methodLink RL 8 yX6_sun) := ⟨List.mem_of_getElem? (i := 275) (by decide +kernel), by decide +kernel⟩
theorem zk_im_X6_sun : zin (.instanceMethod yX6_sun) := ⟨List.mem_of_getElem? (i := 276) (by decide +kernel), by decide +kernel⟩
theorem zk_se_X6_sun : zin (.selects RX6 yX6_sun yX6_sun) := ⟨List.mem_of_getElem? (i := 277) (by decide +kernel), by decide +kernel⟩
theorem zk_cd_X6_sun : zin (.code yX6_sun cX6_sun 3 (some .int)) := ⟨List.mem_of_getElem? (i := 278) (by decide +kernel), by decide +kernel⟩
theorem zk_ml_RX6_59 : zin (.methodLink RX6 59 yX6_needRange) := ⟨List.mem_of_getElem? (i := 279) (by decide +kernel), by decide +kernel⟩
theorem zk_st_X6_needRange : zin (.static yX6_needRange) := ⟨List.mem_of_getElem? (i := 280) (by decide +kernel), by decide +kernel⟩
theorem zk_cd_X6_needRange : zin (.code yX6_needRange cX6_needRange 3 none) := ⟨List.mem_of_getElem? (i := 281) (by decide +kernel), by decide +kernel⟩
theorem zk_cl_RX6_274 : zin (.classLink RX6 274 "java/lang/IllegalArgumentException") := ⟨List.mem_of_getElem? (i := 282) (by decide +kernel), by decide +kernel⟩
theorem zk_is_java_lang_IllegalArgumentException : zin (.instantiable "java/lang/IllegalArgumentException" 6) := ⟨List.mem_of_getElem? (i := 283) (by decide +kernel), by decide +kernel⟩
theorem zk_ca_284 : zin (.castable "java/lang/IllegalArgumentException" "java/lang/IllegalArgumentException") := ⟨List.mem_of_getElem? (i := 284) (by decide +kernel), by decide +kernel⟩
theorem zk_de___java_lang_RuntimeException_____init_______V__ : zin (.declares ⟨"java/lang/RuntimeException", "<init>", "()V"⟩) := ⟨List.mem_of_getElem? (i := 285) (by decide +kernel), by decide +kernel⟩
theorem zk_de___java_lang_RuntimeException_____init______Ljava_lang_String__V__ : zin (.declares ⟨"java/lang/RuntimeException", "<init>", "(Ljava/lang/String;)V"⟩) := ⟨List.mem_of_getElem? (i := 286) (by decide +kernel), by decide +kernel⟩
theorem zk_de___java_lang_Exception_____init_______V__ : zin (.declares ⟨"java/lang/Exception", "<init>", "()V"⟩) := ⟨List.mem_of_getElem? (i := 287) (by decide +kernel), by decide +kernel⟩
theorem zk_de___java_lang_Exception_____init______Ljava_lang_String__V__ : zin (.declares ⟨"java/lang/Exception", "<init>", "(Ljava/lang/String;)V"⟩) := ⟨List.mem_of_getElem? (i := 288) (by decide +kernel), by decide +kernel⟩
theorem zk_de___java_lang_Throwable_____init_______V__ : zin (.declares ⟨"java/lang/Throwable", "<init>", "()V"⟩) := ⟨List.mem_of_getElem? (i := 289) (by decide +kernel), by decide +kernel⟩
theorem zk_de___java_lang_Throwable_____init______Ljava_lang_String__V__ : zin (.declares ⟨"java/lang/Throwable", "<init>", "(Ljava/lang/String;)V"⟩) := ⟨List.mem_of_getElem? (i := 290) (by decide +kernel), by decide +kernel⟩
theorem zk_se___java_lang_Throwable____fillInStackTrace_____I_Ljava_lang_Throwable___ : zin (.selects "java/lang/IllegalArgumentException" ⟨"java/lang/Throwable", "fillInStackTrace", "(I)Ljava/lang/Throwable;"⟩ ⟨"java/lang/Throwable", "fillInStackTrace", "(I)Ljava/lang/Throwable;"⟩) := ⟨List.mem_of_getElem? (i := 291) (by decide +kernel), by decide +kernel⟩
theorem zk_se___java_lang_Throwable____fillInStackTrace______Ljava_lang_Throwable___ : zin (.selects "java/lang/IllegalArgumentException" ⟨"java/lang/Throwable", "fillInStackTrace", "()Ljava/lang/Throwable;"⟩ ⟨"java/lang/Throwable", "fillInStackTrace", "()Ljava/lang/Throwable;"⟩) := ⟨List.mem_of_getElem? (i := 292) (by decide +kernel), by decide +kernel⟩
theorem zk_ly_java_lang_IllegalArgumentException_cause : zin (.lays "java/lang/IllegalArgumentException" "java/lang/Throwable" "cause" "Ljava/lang/Throwable;") := ⟨List.mem_of_getElem? (i := 293) (by decide +kernel), by decide +kernel⟩
theorem zk_ly_java_lang_Throwable_cause : zin (.lays "java/lang/Throwable" "java/lang/Throwable" "cause" "Ljava/lang/Throwable;") := ⟨List.mem_of_getElem? (i := 294) (by decide +kernel), by decide +kernel⟩
theorem zk_ly_java_lang_IllegalArgumentException_stackTrace : zin (.lays "java/lang/IllegalArgumentException" "java/lang/Throwable" "stackTrace" "[Ljava/lang/StackTraceElement;") := ⟨List.mem_of_getElem? (i := 295) (by decide +kernel), by decide +kernel⟩
theorem zk_ly_java_lang_Throwable_stackTrace : zin (.lays "java/lang/Throwable" "java/lang/Throwable" "stackTrace" "[Ljava/lang/StackTraceElement;") := ⟨List.mem_of_getElem? (i := 296) (by decide +kernel), by decide +kernel⟩
theorem zk_ly_java_lang_IllegalArgumentException_suppressedExceptions : zin (.lays "java/lang/IllegalArgumentException" "java/lang/Throwable" "suppressedExceptions" "Ljava/util/List;") := ⟨List.mem_of_getElem? (i := 297) (by decide +kernel), by decide +kernel⟩
theorem zk_ly_java_lang_Throwable_suppressedExceptions : zin (.lays "java/lang/Throwable" "java/lang/Throwable" "suppressedExceptions" "Ljava/util/List;") := ⟨List.mem_of_getElem? (i := 298) (by decide +kernel), by decide +kernel⟩
theorem zk_ly_java_lang_IllegalArgumentException_detailMessage : zin (.lays "java/lang/IllegalArgumentException" "java/lang/Throwable" "detailMessage" "Ljava/lang/String;") := ⟨List.mem_of_getElem? (i := 299) (by decide +kernel), by decide +kernel⟩
theorem zk_ly_java_lang_Throwable_detailMessage : zin (.lays "java/lang/Throwable" "java/lang/Throwable" "detailMessage" "Ljava/lang/String;") := ⟨List.mem_of_getElem? (i := 300) (by decide +kernel), by decide +kernel⟩
theorem zk_ly_java_lang_IllegalArgumentException_backtrace : zin (.lays "java/lang/IllegalArgumentException" "java/lang/Throwable" "backtrace" "Ljava/lang/Object;") := ⟨List.mem_of_getElem? (i := 301) (by decide +kernel), by decide +kernel⟩
theorem zk_ly_java_lang_Throwable_backtrace : zin (.lays "java/lang/Throwable" "java/lang/Throwable" "backtrace" "Ljava/lang/Object;") := ⟨List.mem_of_getElem? (i := 302) (by decide +kernel), by decide +kernel⟩
theorem zk_fl_java_lang_Throwable_198 : zin (.fieldLink "java/lang/Throwable" 198 "java/lang/Throwable" "backtrace" "Ljava/lang/Object;") := ⟨List.mem_of_getElem? (i := 303) (by decide +kernel), by decide +kernel⟩
theorem zk_im___java_lang_Throwable_____init_______V__ : zin (.instanceMethod ⟨"java/lang/Throwable", "<init>", "()V"⟩) := ⟨List.mem_of_getElem? (i := 305) (by decide +kernel), by decide +kernel⟩
theorem zk_cd___java_lang_Throwable_____init_______V__ : zin (.code ⟨"java/lang/Throwable", "<init>", "()V"⟩ prog_18_method_1_code 1 none) := ⟨List.mem_of_getElem? (i := 306) (by decide +kernel), by decide +kernel⟩
theorem zk_ml_java_lang_Throwable_1 : zin (.methodLink "java/lang/Throwable" 1 objectInit) := ⟨List.mem_of_getElem? (i := 307) (by decide +kernel), by decide +kernel⟩
theorem zk_fl_java_lang_Throwable_13 : zin (.fieldLink "java/lang/Throwable" 13 "java/lang/Throwable" "UNASSIGNED_STACK" "[Ljava/lang/StackTraceElement;") := ⟨List.mem_of_getElem? (i := 308) (by decide +kernel), by decide +kernel⟩
theorem zk_fl_java_lang_Throwable_20 : zin (.fieldLink "java/lang/Throwable" 20 "java/lang/Throwable" "SUPPRESSED_SENTINEL" "Ljava/util/List;") := ⟨List.mem_of_getElem? (i := 310) (by decide +kernel), by decide +kernel⟩
theorem zk_ml_java_lang_Throwable_27 : zin (.methodLink "java/lang/Throwable" 27 ⟨"java/lang/Throwable", "fillInStackTrace", "()Ljava/lang/Throwable;"⟩) := ⟨List.mem_of_getElem? (i := 312) (by decide +kernel), by decide +kernel⟩
theorem zk_im___java_lang_Throwable____fillInStackTrace______Ljava_lang_Throwable___ : zin (.instanceMethod ⟨"java/lang/Throwable", "fillInStackTrace", "()Ljava/lang/Throwable;"⟩) := ⟨List.mem_of_getElem? (i := 313) (by decide +kernel), by decide +kernel⟩
theorem zk_se___java_lang_Throwable____fillInStackTrace______Ljava_lang_Throwable____315 : zin (.selects "java/lang/IllegalStateException" ⟨"java/lang/Throwable", "fillInStackTrace", "()Ljava/lang/Throwable;"⟩ ⟨"java/lang/Throwable", "fillInStackTrace", "()Ljava/lang/Throwable;"⟩) := ⟨List.mem_of_getElem? (i := 315) (by decide +kernel), by decide +kernel⟩
theorem zk_se___java_lang_Throwable____fillInStackTrace______Ljava_lang_Throwable____316 : zin (.selects "java/lang/IndexOutOfBoundsException" ⟨"java/lang/Throwable", "fillInStackTrace", "()Ljava/lang/Throwable;"⟩ ⟨"java/lang/Throwable", "fillInStackTrace", "()Ljava/lang/Throwable;"⟩) := ⟨List.mem_of_getElem? (i := 316) (by decide +kernel), by decide +kernel⟩
theorem zk_cs___java_lang_Throwable____fillInStackTrace______Ljava_lang_Throwable___ : zin (.codeSync ⟨"java/lang/Throwable", "fillInStackTrace", "()Ljava/lang/Throwable;"⟩ prog_18_method_18_code 1 (some (.object "java/lang/Throwable"))) := ⟨List.mem_of_getElem? (i := 317) (by decide +kernel), by decide +kernel⟩
theorem zk_ml_java_lang_Throwable_202 : zin (.methodLink "java/lang/Throwable" 202 ⟨"java/lang/Throwable", "fillInStackTrace", "(I)Ljava/lang/Throwable;"⟩) := ⟨List.mem_of_getElem? (i := 318) (by decide +kernel), by decide +kernel⟩
theorem zk_pm___java_lang_Throwable____fillInStackTrace_____I_Ljava_lang_Throwable___ : zin (.privateMethod ⟨"java/lang/Throwable", "fillInStackTrace", "(I)Ljava/lang/Throwable;"⟩) := ⟨List.mem_of_getElem? (i := 319) (by decide +kernel), by decide +kernel⟩
theorem zk_im___java_lang_Throwable____fillInStackTrace_____I_Ljava_lang_Throwable___ : zin (.instanceMethod ⟨"java/lang/Throwable", "fillInStackTrace", "(I)Ljava/lang/Throwable;"⟩) := ⟨List.mem_of_getElem? (i := 320) (by decide +kernel), by decide +kernel⟩
theorem zk_is_java_lang_Throwable : zin (.instantiable "java/lang/Throwable" 6) := ⟨List.mem_of_getElem? (i := 321) (by decide +kernel), by decide +kernel⟩
theorem zk_na___java_lang_Throwable____fillInStackTrace_____I_Ljava_lang_Throwable___ : zin (.native ⟨"java/lang/Throwable", "fillInStackTrace", "(I)Ljava/lang/Throwable;"⟩) := ⟨List.mem_of_getElem? (i := 322) (by decide +kernel), by decide +kernel⟩
theorem zk_ml_RX6_278 : zin (.methodLink RX6 278 ⟨"java/lang/IllegalArgumentException", "<init>", "(Ljava/lang/String;)V"⟩) := ⟨List.mem_of_getElem? (i := 324) (by decide +kernel), by decide +kernel⟩
theorem zk_im___java_lang_IllegalArgumentException_____init______Ljava_lang_String__V__ : zin (.instanceMethod ⟨"java/lang/IllegalArgumentException", "<init>", "(Ljava/lang/String;)V"⟩) := ⟨List.mem_of_getElem? (i := 325) (by decide +kernel), by decide +kernel⟩
theorem zk_cd___java_lang_IllegalArgumentException_____init______Ljava_lang_String__V__ : zin (.code ⟨"java/lang/IllegalArgumentException", "<init>", "(Ljava/lang/String;)V"⟩ prog_11_method_2_code 2 none) := ⟨List.mem_of_getElem? (i := 326) (by decide +kernel), by decide +kernel⟩
theorem zk_ml_java_lang_IllegalArgumentException_7 : zin (.methodLink "java/lang/IllegalArgumentException" 7 ⟨"java/lang/RuntimeException", "<init>", "(Ljava/lang/String;)V"⟩) := ⟨List.mem_of_getElem? (i := 327) (by decide +kernel), by decide +kernel⟩
theorem zk_im___java_lang_RuntimeException_____init______Ljava_lang_String__V__ : zin (.instanceMethod ⟨"java/lang/RuntimeException", "<init>", "(Ljava/lang/String;)V"⟩) := ⟨List.mem_of_getElem? (i := 328) (by decide +kernel), by decide +kernel⟩
theorem zk_cd___java_lang_RuntimeException_____init______Ljava_lang_String__V__ : zin (.code ⟨"java/lang/RuntimeException", "<init>", "(Ljava/lang/String;)V"⟩ prog_16_method_2_code 2 none) := ⟨List.mem_of_getElem? (i := 329) (by decide +kernel), by decide +kernel⟩
theorem zk_ml_java_lang_RuntimeException_7 : zin (.methodLink "java/lang/RuntimeException" 7 ⟨"java/lang/Exception", "<init>", "(Ljava/lang/String;)V"⟩) := ⟨List.mem_of_getElem? (i := 330) (by decide +kernel), by decide +kernel⟩
theorem zk_im___java_lang_Exception_____init______Ljava_lang_String__V__ : zin (.instanceMethod ⟨"java/lang/Exception", "<init>", "(Ljava/lang/String;)V"⟩) := ⟨List.mem_of_getElem? (i := 331) (by decide +kernel), by decide +kernel⟩
theorem zk_cd___java_lang_Exception_____init______Ljava_lang_String__V__ : zin (.code ⟨"java/lang/Exception", "<init>", "(Ljava/lang/String;)V"⟩ prog_10_method_2_code 2 none) := ⟨List.mem_of_getElem? (i := 332) (by decide +kernel), by decide +kernel⟩
theorem zk_ml_java_lang_Exception_7 : zin (.methodLink "java/lang/Exception" 7 ⟨"java/lang/Throwable", "<init>", "(Ljava/lang/String;)V"⟩) := ⟨List.mem_of_getElem? (i := 333) (by decide +kernel), by decide +kernel⟩
theorem zk_im___java_lang_Throwable_____init______Ljava_lang_String__V__ : zin (.instanceMethod ⟨"java/lang/Throwable", "<init>", "(Ljava/lang/String;)V"⟩) := ⟨List.mem_of_getElem? (i := 334) (by decide +kernel), by decide +kernel⟩
theorem zk_cd___java_lang_Throwable_____init______Ljava_lang_String__V__ : zin (.code ⟨"java/lang/Throwable", "<init>", "(Ljava/lang/String;)V"⟩ prog_18_method_2_code 2 none) := ⟨List.mem_of_getElem? (i := 335) (by decide +kernel), by decide +kernel⟩
theorem zk_fl_java_lang_Throwable_198_336 : zin (.fieldLink "java/lang/Throwable" 198 "java/lang/Throwable" "backtrace" "Ljava/lang/Object;") := ⟨List.mem_of_getElem? (i := 336) (by decide +kernel), by decide +kernel⟩
theorem zk_fl_java_lang_Throwable_31 : zin (.fieldLink "java/lang/Throwable" 31 "java/lang/Throwable" "detailMessage" "Ljava/lang/String;") := ⟨List.mem_of_getElem? (i := 337) (by decide +kernel), by decide +kernel⟩
theorem zk_fl_java_lang_Throwable_7 : zin (.fieldLink "java/lang/Throwable" 7 "java/lang/Throwable" "cause" "Ljava/lang/Throwable;") := ⟨List.mem_of_getElem? (i := 338) (by decide +kernel), by decide +kernel⟩
theorem zk_fl_java_lang_Throwable_17 : zin (.fieldLink "java/lang/Throwable" 17 "java/lang/Throwable" "stackTrace" "[Ljava/lang/StackTraceElement;") := ⟨List.mem_of_getElem? (i := 339) (by decide +kernel), by decide +kernel⟩
theorem zk_fl_java_lang_Throwable_24 : zin (.fieldLink "java/lang/Throwable" 24 "java/lang/Throwable" "suppressedExceptions" "Ljava/util/List;") := ⟨List.mem_of_getElem? (i := 340) (by decide +kernel), by decide +kernel⟩
theorem zk_ly_java_lang_IllegalArgumentException_depth : zin (.lays "java/lang/IllegalArgumentException" "java/lang/Throwable" "depth" "I") := ⟨List.mem_of_getElem? (i := 345) (by decide +kernel), by decide +kernel⟩
theorem zk_ac_byte : zin (.arrayClass .byte) := ⟨List.mem_of_getElem? (i := 349) (by decide +kernel), by decide +kernel⟩
theorem zk_ml_RX6_67 : zin (.methodLink RX6 67 yX0_shineFrom) := ⟨List.mem_of_getElem? (i := 350) (by decide +kernel), by decide +kernel⟩
theorem zk_im_X0_shineFrom : zin (.instanceMethod yX0_shineFrom) := ⟨List.mem_of_getElem? (i := 351) (by decide +kernel), by decide +kernel⟩
theorem zk_se_X0_shineFrom : zin (.selects RX0 yX0_shineFrom yX0_shineFrom) := ⟨List.mem_of_getElem? (i := 352) (by decide +kernel), by decide +kernel⟩
theorem zk_cd_X0_shineFrom : zin (.code yX0_shineFrom cX0_shineFrom 2 none) := ⟨List.mem_of_getElem? (i := 353) (by decide +kernel), by decide +kernel⟩
theorem zk_ct_RL_16 : zin (.constant RL 16 (-2000000000)) := ⟨List.mem_of_getElem? (i := 354) (by decide +kernel), by decide +kernel⟩
theorem zk_ml_RL_113 : zin (.methodLink RL 113 yL_storm) := ⟨List.mem_of_getElem? (i := 355) (by decide +kernel), by decide +kernel⟩
theorem zk_st_L_storm : zin (.static yL_storm) := ⟨List.mem_of_getElem? (i := 356) (by decide +kernel), by decide +kernel⟩
theorem zk_cw_L_storm : zin (.codeWith yL_storm cL_storm 4 (some .int) [(0 , 7 , 8 , 14)]) := ⟨List.mem_of_getElem? (i := 357) (by decide +kernel), by decide +kernel⟩
theorem zk_ml_RL_17 : zin (.methodLink RL 17 yX6_storm) := ⟨List.mem_of_getElem? (i := 358) (by decide +kernel), by decide +kernel⟩
theorem zk_im_X6_storm : zin (.instanceMethod yX6_storm) := ⟨List.mem_of_getElem? (i := 359) (by decide +kernel), by decide +kernel⟩
theorem zk_se_X6_storm : zin (.selects RX6 yX6_storm yX6_storm) := ⟨List.mem_of_getElem? (i := 360) (by decide +kernel), by decide +kernel⟩
theorem zk_cd_X6_storm : zin (.code yX6_storm cX6_storm 3 none) := ⟨List.mem_of_getElem? (i := 361) (by decide +kernel), by decide +kernel⟩
theorem zk_ml_RX6_70 : zin (.methodLink RX6 70 yX0_beginStorm) := ⟨List.mem_of_getElem? (i := 362) (by decide +kernel), by decide +kernel⟩
theorem zk_im_X0_beginStorm : zin (.instanceMethod yX0_beginStorm) := ⟨List.mem_of_getElem? (i := 363) (by decide +kernel), by decide +kernel⟩
theorem zk_se_X0_beginStorm : zin (.selects RX0 yX0_beginStorm yX0_beginStorm) := ⟨List.mem_of_getElem? (i := 364) (by decide +kernel), by decide +kernel⟩
theorem zk_cd_X0_beginStorm : zin (.code yX0_beginStorm cX0_beginStorm 3 none) := ⟨List.mem_of_getElem? (i := 365) (by decide +kernel), by decide +kernel⟩
theorem zk_ml_RL_116 : zin (.methodLink RL 116 yL_flare) := ⟨List.mem_of_getElem? (i := 366) (by decide +kernel), by decide +kernel⟩
theorem zk_st_L_flare : zin (.static yL_flare) := ⟨List.mem_of_getElem? (i := 367) (by decide +kernel), by decide +kernel⟩
theorem zk_cw_L_flare : zin (.codeWith yL_flare cL_flare 3 (some .int) [(0 , 5 , 6 , 14)]) := ⟨List.mem_of_getElem? (i := 368) (by decide +kernel), by decide +kernel⟩
theorem zk_ml_RL_21 : zin (.methodLink RL 21 yX6_flare) := ⟨List.mem_of_getElem? (i := 369) (by decide +kernel), by decide +kernel⟩
theorem zk_im_X6_flare : zin (.instanceMethod yX6_flare) := ⟨List.mem_of_getElem? (i := 370) (by decide +kernel), by decide +kernel⟩
theorem zk_se_X6_flare : zin (.selects RX6 yX6_flare yX6_flare) := ⟨List.mem_of_getElem? (i := 371) (by decide +kernel), by decide +kernel⟩
theorem zk_cd_X6_flare : zin (.code yX6_flare cX6_flare 3 (some .int)) := ⟨List.mem_of_getElem? (i := 372) (by decide +kernel), by decide +kernel⟩
theorem zk_ml_RX6_77 : zin (.methodLink RX6 77 yX0_burst) := ⟨List.mem_of_getElem? (i := 373) (by decide +kernel), by decide +kernel⟩
theorem zk_im_X0_burst : zin (.instanceMethod yX0_burst) := ⟨List.mem_of_getElem? (i := 374) (by decide +kernel), by decide +kernel⟩
theorem zk_se_X0_burst : zin (.selects RX0 yX0_burst yX0_burst) := ⟨List.mem_of_getElem? (i := 375) (by decide +kernel), by decide +kernel⟩
theorem zk_cd_X0_burst : zin (.code yX0_burst cX0_burst 2 none) := ⟨List.mem_of_getElem? (i := 376) (by decide +kernel), by decide +kernel⟩
theorem zk_ml_RL_118 : zin (.methodLink RL 118 yL_cloud) := ⟨List.mem_of_getElem? (i := 377) (by decide +kernel), by decide +kernel⟩
theorem zk_st_L_cloud : zin (.static yL_cloud) := ⟨List.mem_of_getElem? (i := 378) (by decide +kernel), by decide +kernel⟩
theorem zk_cw_L_cloud : zin (.codeWith yL_cloud cL_cloud 5 (some .int) [(0 , 8 , 9 , 28), (0 , 8 , 14 , 14)]) := ⟨List.mem_of_getElem? (i := 379) (by decide +kernel), by decide +kernel⟩
theorem zk_cl_RL_28 : zin (.classLink RL 28 "java/lang/IndexOutOfBoundsException") := ⟨List.mem_of_getElem? (i := 380) (by decide +kernel), by decide +kernel⟩
theorem zk_ml_RL_24 : zin (.methodLink RL 24 yX6_cloud) := ⟨List.mem_of_getElem? (i := 381) (by decide +kernel), by decide +kernel⟩
theorem zk_im_X6_cloud : zin (.instanceMethod yX6_cloud) := ⟨List.mem_of_getElem? (i := 382) (by decide +kernel), by decide +kernel⟩
theorem zk_se_X6_cloud : zin (.selects RX6 yX6_cloud yX6_cloud) := ⟨List.mem_of_getElem? (i := 383) (by decide +kernel), by decide +kernel⟩
theorem zk_cd_X6_cloud : zin (.code yX6_cloud cX6_cloud 4 none) := ⟨List.mem_of_getElem? (i := 384) (by decide +kernel), by decide +kernel⟩
theorem zk_ml_RX6_80 : zin (.methodLink RX6 80 yX6_needPlace) := ⟨List.mem_of_getElem? (i := 385) (by decide +kernel), by decide +kernel⟩
theorem zk_st_X6_needPlace : zin (.static yX6_needPlace) := ⟨List.mem_of_getElem? (i := 386) (by decide +kernel), by decide +kernel⟩
theorem zk_cd_X6_needPlace : zin (.code yX6_needPlace cX6_needPlace 1 none) := ⟨List.mem_of_getElem? (i := 387) (by decide +kernel), by decide +kernel⟩
theorem zk_cl_RX6_203 : zin (.classLink RX6 203 "java/lang/IndexOutOfBoundsException") := ⟨List.mem_of_getElem? (i := 388) (by decide +kernel), by decide +kernel⟩
theorem zk_is_java_lang_IndexOutOfBoundsException : zin (.instantiable "java/lang/IndexOutOfBoundsException" 6) := ⟨List.mem_of_getElem? (i := 389) (by decide +kernel), by decide +kernel⟩
theorem zk_ca_390 : zin (.castable "java/lang/IndexOutOfBoundsException" "java/lang/IndexOutOfBoundsException") := ⟨List.mem_of_getElem? (i := 390) (by decide +kernel), by decide +kernel⟩
theorem zk_se___java_lang_Throwable____fillInStackTrace_____I_Ljava_lang_Throwable____391 : zin (.selects "java/lang/IndexOutOfBoundsException" ⟨"java/lang/Throwable", "fillInStackTrace", "(I)Ljava/lang/Throwable;"⟩ ⟨"java/lang/Throwable", "fillInStackTrace", "(I)Ljava/lang/Throwable;"⟩) := ⟨List.mem_of_getElem? (i := 391) (by decide +kernel), by decide +kernel⟩
theorem zk_ly_java_lang_IndexOutOfBoundsException_cause : zin (.lays "java/lang/IndexOutOfBoundsException" "java/lang/Throwable" "cause" "Ljava/lang/Throwable;") := ⟨List.mem_of_getElem? (i := 392) (by decide +kernel), by decide +kernel⟩
theorem zk_ly_java_lang_IndexOutOfBoundsException_stackTrace : zin (.lays "java/lang/IndexOutOfBoundsException" "java/lang/Throwable" "stackTrace" "[Ljava/lang/StackTraceElement;") := ⟨List.mem_of_getElem? (i := 393) (by decide +kernel), by decide +kernel⟩
theorem zk_ly_java_lang_IndexOutOfBoundsException_suppressedExceptions : zin (.lays "java/lang/IndexOutOfBoundsException" "java/lang/Throwable" "suppressedExceptions" "Ljava/util/List;") := ⟨List.mem_of_getElem? (i := 394) (by decide +kernel), by decide +kernel⟩
theorem zk_ly_java_lang_IndexOutOfBoundsException_detailMessage : zin (.lays "java/lang/IndexOutOfBoundsException" "java/lang/Throwable" "detailMessage" "Ljava/lang/String;") := ⟨List.mem_of_getElem? (i := 395) (by decide +kernel), by decide +kernel⟩
theorem zk_ly_java_lang_IndexOutOfBoundsException_backtrace : zin (.lays "java/lang/IndexOutOfBoundsException" "java/lang/Throwable" "backtrace" "Ljava/lang/Object;") := ⟨List.mem_of_getElem? (i := 396) (by decide +kernel), by decide +kernel⟩
theorem zk_ml_RX6_207 : zin (.methodLink RX6 207 ⟨"java/lang/IndexOutOfBoundsException", "<init>", "(Ljava/lang/String;)V"⟩) := ⟨List.mem_of_getElem? (i := 398) (by decide +kernel), by decide +kernel⟩
theorem zk_im___java_lang_IndexOutOfBoundsException_____init______Ljava_lang_String__V__ : zin (.instanceMethod ⟨"java/lang/IndexOutOfBoundsException", "<init>", "(Ljava/lang/String;)V"⟩) := ⟨List.mem_of_getElem? (i := 399) (by decide +kernel), by decide +kernel⟩
theorem zk_cd___java_lang_IndexOutOfBoundsException_____init______Ljava_lang_String__V__ : zin (.code ⟨"java/lang/IndexOutOfBoundsException", "<init>", "(Ljava/lang/String;)V"⟩ prog_13_method_2_code 2 none) := ⟨List.mem_of_getElem? (i := 400) (by decide +kernel), by decide +kernel⟩
theorem zk_ml_java_lang_IndexOutOfBoundsException_7 : zin (.methodLink "java/lang/IndexOutOfBoundsException" 7 ⟨"java/lang/RuntimeException", "<init>", "(Ljava/lang/String;)V"⟩) := ⟨List.mem_of_getElem? (i := 401) (by decide +kernel), by decide +kernel⟩
theorem zk_ly_java_lang_IndexOutOfBoundsException_depth : zin (.lays "java/lang/IndexOutOfBoundsException" "java/lang/Throwable" "depth" "I") := ⟨List.mem_of_getElem? (i := 402) (by decide +kernel), by decide +kernel⟩
theorem zk_ml_RX6_83 : zin (.methodLink RX6 83 yX0_coverPlace) := ⟨List.mem_of_getElem? (i := 404) (by decide +kernel), by decide +kernel⟩
theorem zk_im_X0_coverPlace : zin (.instanceMethod yX0_coverPlace) := ⟨List.mem_of_getElem? (i := 405) (by decide +kernel), by decide +kernel⟩
theorem zk_se_X0_coverPlace : zin (.selects RX0 yX0_coverPlace yX0_coverPlace) := ⟨List.mem_of_getElem? (i := 406) (by decide +kernel), by decide +kernel⟩
theorem zk_cd_X0_coverPlace : zin (.code yX0_coverPlace cX0_coverPlace 4 none) := ⟨List.mem_of_getElem? (i := 407) (by decide +kernel), by decide +kernel⟩
theorem zk_ml_RL_121 : zin (.methodLink RL 121 yL_sea) := ⟨List.mem_of_getElem? (i := 408) (by decide +kernel), by decide +kernel⟩
theorem zk_st_L_sea : zin (.static yL_sea) := ⟨List.mem_of_getElem? (i := 409) (by decide +kernel), by decide +kernel⟩
theorem zk_cw_L_sea : zin (.codeWith yL_sea cL_sea 4 (some .int) [(0 , 14 , 15 , 28)]) := ⟨List.mem_of_getElem? (i := 410) (by decide +kernel), by decide +kernel⟩
theorem zk_ml_RL_30 : zin (.methodLink RL 30 yX6_sea) := ⟨List.mem_of_getElem? (i := 411) (by decide +kernel), by decide +kernel⟩
theorem zk_im_X6_sea : zin (.instanceMethod yX6_sea) := ⟨List.mem_of_getElem? (i := 412) (by decide +kernel), by decide +kernel⟩
theorem zk_se_X6_sea : zin (.selects RX6 yX6_sea yX6_sea) := ⟨List.mem_of_getElem? (i := 413) (by decide +kernel), by decide +kernel⟩
theorem zk_cd_X6_sea : zin (.code yX6_sea cX6_sea 4 (some .boolean)) := ⟨List.mem_of_getElem? (i := 414) (by decide +kernel), by decide +kernel⟩
theorem zk_ml_RL_124 : zin (.methodLink RL 124 yL_noise) := ⟨List.mem_of_getElem? (i := 415) (by decide +kernel), by decide +kernel⟩
theorem zk_st_L_noise : zin (.static yL_noise) := ⟨List.mem_of_getElem? (i := 416) (by decide +kernel), by decide +kernel⟩
theorem zk_cw_L_noise : zin (.codeWith yL_noise cL_noise 4 (some .int) [(0 , 6 , 7 , 28), (0 , 6 , 11 , 14)]) := ⟨List.mem_of_getElem? (i := 417) (by decide +kernel), by decide +kernel⟩
theorem zk_ml_RL_34 : zin (.methodLink RL 34 yX6_noise) := ⟨List.mem_of_getElem? (i := 418) (by decide +kernel), by decide +kernel⟩
theorem zk_im_X6_noise : zin (.instanceMethod yX6_noise) := ⟨List.mem_of_getElem? (i := 419) (by decide +kernel), by decide +kernel⟩
theorem zk_se_X6_noise : zin (.selects RX6 yX6_noise yX6_noise) := ⟨List.mem_of_getElem? (i := 420) (by decide +kernel), by decide +kernel⟩
theorem zk_cd_X6_noise : zin (.code yX6_noise cX6_noise 4 (some .int)) := ⟨List.mem_of_getElem? (i := 421) (by decide +kernel), by decide +kernel⟩
theorem zk_ml_RL_126 : zin (.methodLink RL 126 yL_pass) := ⟨List.mem_of_getElem? (i := 422) (by decide +kernel), by decide +kernel⟩
theorem zk_st_L_pass : zin (.static yL_pass) := ⟨List.mem_of_getElem? (i := 423) (by decide +kernel), by decide +kernel⟩
theorem zk_cw_L_pass : zin (.codeWith yL_pass cL_pass 3 (some .int) [(0 , 5 , 6 , 14), (0 , 5 , 10 , 41)]) := ⟨List.mem_of_getElem? (i := 424) (by decide +kernel), by decide +kernel⟩
theorem zk_cl_RL_41 : zin (.classLink RL 41 "java/lang/IllegalStateException") := ⟨List.mem_of_getElem? (i := 425) (by decide +kernel), by decide +kernel⟩
theorem zk_ml_RL_38 : zin (.methodLink RL 38 yX6_pass) := ⟨List.mem_of_getElem? (i := 426) (by decide +kernel), by decide +kernel⟩
theorem zk_im_X6_pass : zin (.instanceMethod yX6_pass) := ⟨List.mem_of_getElem? (i := 427) (by decide +kernel), by decide +kernel⟩
theorem zk_se_X6_pass : zin (.selects RX6 yX6_pass yX6_pass) := ⟨List.mem_of_getElem? (i := 428) (by decide +kernel), by decide +kernel⟩
theorem zk_cd_X6_pass : zin (.code yX6_pass cX6_pass 2 (some .int)) := ⟨List.mem_of_getElem? (i := 429) (by decide +kernel), by decide +kernel⟩
theorem zk_cl_RX6_97 : zin (.classLink RX6 97 "java/lang/IllegalStateException") := ⟨List.mem_of_getElem? (i := 430) (by decide +kernel), by decide +kernel⟩
theorem zk_is_java_lang_IllegalStateException : zin (.instantiable "java/lang/IllegalStateException" 6) := ⟨List.mem_of_getElem? (i := 431) (by decide +kernel), by decide +kernel⟩
theorem zk_ca_432 : zin (.castable "java/lang/IllegalStateException" "java/lang/IllegalStateException") := ⟨List.mem_of_getElem? (i := 432) (by decide +kernel), by decide +kernel⟩
theorem zk_se___java_lang_Throwable____fillInStackTrace_____I_Ljava_lang_Throwable____433 : zin (.selects "java/lang/IllegalStateException" ⟨"java/lang/Throwable", "fillInStackTrace", "(I)Ljava/lang/Throwable;"⟩ ⟨"java/lang/Throwable", "fillInStackTrace", "(I)Ljava/lang/Throwable;"⟩) := ⟨List.mem_of_getElem? (i := 433) (by decide +kernel), by decide +kernel⟩
theorem zk_ly_java_lang_IllegalStateException_cause : zin (.lays "java/lang/IllegalStateException" "java/lang/Throwable" "cause" "Ljava/lang/Throwable;") := ⟨List.mem_of_getElem? (i := 434) (by decide +kernel), by decide +kernel⟩
theorem zk_ly_java_lang_IllegalStateException_stackTrace : zin (.lays "java/lang/IllegalStateException" "java/lang/Throwable" "stackTrace" "[Ljava/lang/StackTraceElement;") := ⟨List.mem_of_getElem? (i := 435) (by decide +kernel), by decide +kernel⟩
theorem zk_ly_java_lang_IllegalStateException_suppressedExceptions : zin (.lays "java/lang/IllegalStateException" "java/lang/Throwable" "suppressedExceptions" "Ljava/util/List;") := ⟨List.mem_of_getElem? (i := 436) (by decide +kernel), by decide +kernel⟩
theorem zk_ly_java_lang_IllegalStateException_detailMessage : zin (.lays "java/lang/IllegalStateException" "java/lang/Throwable" "detailMessage" "Ljava/lang/String;") := ⟨List.mem_of_getElem? (i := 437) (by decide +kernel), by decide +kernel⟩
theorem zk_ly_java_lang_IllegalStateException_backtrace : zin (.lays "java/lang/IllegalStateException" "java/lang/Throwable" "backtrace" "Ljava/lang/Object;") := ⟨List.mem_of_getElem? (i := 438) (by decide +kernel), by decide +kernel⟩
theorem zk_ml_RX6_101 : zin (.methodLink RX6 101 ⟨"java/lang/IllegalStateException", "<init>", "(Ljava/lang/String;)V"⟩) := ⟨List.mem_of_getElem? (i := 440) (by decide +kernel), by decide +kernel⟩
theorem zk_im___java_lang_IllegalStateException_____init______Ljava_lang_String__V__ : zin (.instanceMethod ⟨"java/lang/IllegalStateException", "<init>", "(Ljava/lang/String;)V"⟩) := ⟨List.mem_of_getElem? (i := 441) (by decide +kernel), by decide +kernel⟩
theorem zk_cd___java_lang_IllegalStateException_____init______Ljava_lang_String__V__ : zin (.code ⟨"java/lang/IllegalStateException", "<init>", "(Ljava/lang/String;)V"⟩ prog_12_method_2_code 2 none) := ⟨List.mem_of_getElem? (i := 442) (by decide +kernel), by decide +kernel⟩
theorem zk_ml_java_lang_IllegalStateException_7 : zin (.methodLink "java/lang/IllegalStateException" 7 ⟨"java/lang/RuntimeException", "<init>", "(Ljava/lang/String;)V"⟩) := ⟨List.mem_of_getElem? (i := 443) (by decide +kernel), by decide +kernel⟩
theorem zk_ly_java_lang_IllegalStateException_depth : zin (.lays "java/lang/IllegalStateException" "java/lang/Throwable" "depth" "I") := ⟨List.mem_of_getElem? (i := 444) (by decide +kernel), by decide +kernel⟩
theorem zk_ml_RX6_104 : zin (.methodLink RX6 104 yX0_letGoBy) := ⟨List.mem_of_getElem? (i := 446) (by decide +kernel), by decide +kernel⟩
theorem zk_im_X0_letGoBy : zin (.instanceMethod yX0_letGoBy) := ⟨List.mem_of_getElem? (i := 447) (by decide +kernel), by decide +kernel⟩
theorem zk_se_X0_letGoBy : zin (.selects RX0 yX0_letGoBy yX0_letGoBy) := ⟨List.mem_of_getElem? (i := 448) (by decide +kernel), by decide +kernel⟩
theorem zk_cd_X0_letGoBy : zin (.code yX0_letGoBy cX0_letGoBy 3 none) := ⟨List.mem_of_getElem? (i := 449) (by decide +kernel), by decide +kernel⟩
theorem zk_ml_RX0_39 : zin (.methodLink RX0 39 yX0_letOneGoBy) := ⟨List.mem_of_getElem? (i := 450) (by decide +kernel), by decide +kernel⟩
theorem zk_pm_X0_letOneGoBy : zin (.privateMethod yX0_letOneGoBy) := ⟨List.mem_of_getElem? (i := 451) (by decide +kernel), by decide +kernel⟩
theorem zk_im_X0_letOneGoBy : zin (.instanceMethod yX0_letOneGoBy) := ⟨List.mem_of_getElem? (i := 452) (by decide +kernel), by decide +kernel⟩
theorem zk_cd_X0_letOneGoBy : zin (.code yX0_letOneGoBy cX0_letOneGoBy 2 none) := ⟨List.mem_of_getElem? (i := 453) (by decide +kernel), by decide +kernel⟩
theorem zk_ml_RL_128 : zin (.methodLink RL 128 yL_station) := ⟨List.mem_of_getElem? (i := 454) (by decide +kernel), by decide +kernel⟩
theorem zk_st_L_station : zin (.static yL_station) := ⟨List.mem_of_getElem? (i := 455) (by decide +kernel), by decide +kernel⟩
theorem zk_cw_L_station : zin (.codeWith yL_station cL_station 6 (some .int) [(0 , 9 , 10 , 28), (0 , 9 , 15 , 14), (0 , 9 , 20 , 41)]) := ⟨List.mem_of_getElem? (i := 456) (by decide +kernel), by decide +kernel⟩
theorem zk_ml_RL_43 : zin (.methodLink RL 43 yX6_station) := ⟨List.mem_of_getElem? (i := 457) (by decide +kernel), by decide +kernel⟩
theorem zk_im_X6_station : zin (.instanceMethod yX6_station) := ⟨List.mem_of_getElem? (i := 458) (by decide +kernel), by decide +kernel⟩
theorem zk_se_X6_station : zin (.selects RX6 yX6_station yX6_station) := ⟨List.mem_of_getElem? (i := 459) (by decide +kernel), by decide +kernel⟩
theorem zk_cd_X6_station : zin (.code yX6_station cX6_station 5 (some .int)) := ⟨List.mem_of_getElem? (i := 460) (by decide +kernel), by decide +kernel⟩
theorem zk_ml_RX6_107 : zin (.methodLink RX6 107 yX5_isFull) := ⟨List.mem_of_getElem? (i := 461) (by decide +kernel), by decide +kernel⟩
theorem zk_im_X5_isFull : zin (.instanceMethod yX5_isFull) := ⟨List.mem_of_getElem? (i := 462) (by decide +kernel), by decide +kernel⟩
theorem zk_se_X5_isFull : zin (.selects RX5 yX5_isFull yX5_isFull) := ⟨List.mem_of_getElem? (i := 463) (by decide +kernel), by decide +kernel⟩
theorem zk_cd_X5_isFull : zin (.code yX5_isFull cX5_isFull 1 (some .boolean)) := ⟨List.mem_of_getElem? (i := 464) (by decide +kernel), by decide +kernel⟩
theorem zk_ml_RX6_113 : zin (.methodLink RX6 113 yX5_add) := ⟨List.mem_of_getElem? (i := 466) (by decide +kernel), by decide +kernel⟩
theorem zk_im_X5_add : zin (.instanceMethod yX5_add) := ⟨List.mem_of_getElem? (i := 467) (by decide +kernel), by decide +kernel⟩
theorem zk_se_X5_add : zin (.selects RX5 yX5_add yX5_add) := ⟨List.mem_of_getElem? (i := 468) (by decide +kernel), by decide +kernel⟩
theorem zk_cd_X5_add : zin (.code yX5_add cX5_add 7 (some .int)) := ⟨List.mem_of_getElem? (i := 469) (by decide +kernel), by decide +kernel⟩
theorem zk_ml_RL_131 : zin (.methodLink RL 131 yL_beacon) := ⟨List.mem_of_getElem? (i := 470) (by decide +kernel), by decide +kernel⟩
theorem zk_st_L_beacon : zin (.static yL_beacon) := ⟨List.mem_of_getElem? (i := 471) (by decide +kernel), by decide +kernel⟩
theorem zk_cw_L_beacon : zin (.codeWith yL_beacon cL_beacon 5 (some .int) [(0 , 7 , 8 , 28), (0 , 7 , 13 , 14), (0 , 7 , 18 , 41)]) := ⟨List.mem_of_getElem? (i := 472) (by decide +kernel), by decide +kernel⟩
theorem zk_ml_RL_47 : zin (.methodLink RL 47 yX6_beacon) := ⟨List.mem_of_getElem? (i := 473) (by decide +kernel), by decide +kernel⟩
theorem zk_im_X6_beacon : zin (.instanceMethod yX6_beacon) := ⟨List.mem_of_getElem? (i := 474) (by decide +kernel), by decide +kernel⟩
theorem zk_se_X6_beacon : zin (.selects RX6 yX6_beacon yX6_beacon) := ⟨List.mem_of_getElem? (i := 475) (by decide +kernel), by decide +kernel⟩
theorem zk_cd_X6_beacon : zin (.code yX6_beacon cX6_beacon 4 (some .int)) := ⟨List.mem_of_getElem? (i := 476) (by decide +kernel), by decide +kernel⟩
theorem zk_ml_RX6_117 : zin (.methodLink RX6 117 yX6_needFrequency) := ⟨List.mem_of_getElem? (i := 477) (by decide +kernel), by decide +kernel⟩
theorem zk_st_X6_needFrequency : zin (.static yX6_needFrequency) := ⟨List.mem_of_getElem? (i := 478) (by decide +kernel), by decide +kernel⟩
theorem zk_cd_X6_needFrequency : zin (.code yX6_needFrequency cX6_needFrequency 1 none) := ⟨List.mem_of_getElem? (i := 479) (by decide +kernel), by decide +kernel⟩
theorem zk_ml_RL_133 : zin (.methodLink RL 133 yL_call) := ⟨List.mem_of_getElem? (i := 481) (by decide +kernel), by decide +kernel⟩
theorem zk_st_L_call : zin (.static yL_call) := ⟨List.mem_of_getElem? (i := 482) (by decide +kernel), by decide +kernel⟩
theorem zk_cw_L_call : zin (.codeWith yL_call cL_call 6 (some .int) [(0 , 17 , 18 , 28), (0 , 17 , 23 , 14), (0 , 17 , 28 , 41)]) := ⟨List.mem_of_getElem? (i := 483) (by decide +kernel), by decide +kernel⟩
theorem zk_ml_RL_51 : zin (.methodLink RL 51 yX6_call) := ⟨List.mem_of_getElem? (i := 484) (by decide +kernel), by decide +kernel⟩
theorem zk_im_X6_call : zin (.instanceMethod yX6_call) := ⟨List.mem_of_getElem? (i := 485) (by decide +kernel), by decide +kernel⟩
theorem zk_se_X6_call : zin (.selects RX6 yX6_call yX6_call) := ⟨List.mem_of_getElem? (i := 486) (by decide +kernel), by decide +kernel⟩
theorem zk_cd_X6_call : zin (.code yX6_call cX6_call 6 (some .boolean)) := ⟨List.mem_of_getElem? (i := 487) (by decide +kernel), by decide +kernel⟩
theorem zk_ml_RX6_122 : zin (.methodLink RX6 122 yX6_needStation) := ⟨List.mem_of_getElem? (i := 488) (by decide +kernel), by decide +kernel⟩
theorem zk_pm_X6_needStation : zin (.privateMethod yX6_needStation) := ⟨List.mem_of_getElem? (i := 489) (by decide +kernel), by decide +kernel⟩
theorem zk_im_X6_needStation : zin (.instanceMethod yX6_needStation) := ⟨List.mem_of_getElem? (i := 490) (by decide +kernel), by decide +kernel⟩
theorem zk_cd_X6_needStation : zin (.code yX6_needStation cX6_needStation 2 none) := ⟨List.mem_of_getElem? (i := 491) (by decide +kernel), by decide +kernel⟩
theorem zk_ml_RX6_281 : zin (.methodLink RX6 281 yX5_has) := ⟨List.mem_of_getElem? (i := 492) (by decide +kernel), by decide +kernel⟩
theorem zk_im_X5_has : zin (.instanceMethod yX5_has) := ⟨List.mem_of_getElem? (i := 493) (by decide +kernel), by decide +kernel⟩
theorem zk_se_X5_has : zin (.selects RX5 yX5_has yX5_has) := ⟨List.mem_of_getElem? (i := 494) (by decide +kernel), by decide +kernel⟩
theorem zk_cd_X5_has : zin (.code yX5_has cX5_has 2 (some .boolean)) := ⟨List.mem_of_getElem? (i := 495) (by decide +kernel), by decide +kernel⟩
theorem zk_ml_RX6_125 : zin (.methodLink RX6 125 yX6_needDifferent) := ⟨List.mem_of_getElem? (i := 497) (by decide +kernel), by decide +kernel⟩
theorem zk_st_X6_needDifferent : zin (.static yX6_needDifferent) := ⟨List.mem_of_getElem? (i := 498) (by decide +kernel), by decide +kernel⟩
theorem zk_cd_X6_needDifferent : zin (.code yX6_needDifferent cX6_needDifferent 2 none) := ⟨List.mem_of_getElem? (i := 499) (by decide +kernel), by decide +kernel⟩
theorem zk_ml_RX6_128 : zin (.methodLink RX6 128 yX1_isFull) := ⟨List.mem_of_getElem? (i := 501) (by decide +kernel), by decide +kernel⟩
theorem zk_im_X1_isFull : zin (.instanceMethod yX1_isFull) := ⟨List.mem_of_getElem? (i := 502) (by decide +kernel), by decide +kernel⟩
theorem zk_se_X1_isFull : zin (.selects RX1 yX1_isFull yX1_isFull) := ⟨List.mem_of_getElem? (i := 503) (by decide +kernel), by decide +kernel⟩
theorem zk_cd_X1_isFull : zin (.code yX1_isFull cX1_isFull 1 (some .boolean)) := ⟨List.mem_of_getElem? (i := 504) (by decide +kernel), by decide +kernel⟩
theorem zk_ml_RX6_131 : zin (.methodLink RX6 131 yX6_neededFor) := ⟨List.mem_of_getElem? (i := 506) (by decide +kernel), by decide +kernel⟩
theorem zk_st_X6_neededFor : zin (.static yX6_neededFor) := ⟨List.mem_of_getElem? (i := 507) (by decide +kernel), by decide +kernel⟩
theorem zk_cd_X6_neededFor : zin (.code yX6_neededFor cX6_neededFor 1 (some .int)) := ⟨List.mem_of_getElem? (i := 508) (by decide +kernel), by decide +kernel⟩
theorem zk_ml_RX6_135 : zin (.methodLink RX6 135 yX6_signalBetween) := ⟨List.mem_of_getElem? (i := 509) (by decide +kernel), by decide +kernel⟩
theorem zk_pm_X6_signalBetween : zin (.privateMethod yX6_signalBetween) := ⟨List.mem_of_getElem? (i := 510) (by decide +kernel), by decide +kernel⟩
theorem zk_im_X6_signalBetween : zin (.instanceMethod yX6_signalBetween) := ⟨List.mem_of_getElem? (i := 511) (by decide +kernel), by decide +kernel⟩
theorem zk_cd_X6_signalBetween : zin (.code yX6_signalBetween cX6_signalBetween 4 (some .int)) := ⟨List.mem_of_getElem? (i := 512) (by decide +kernel), by decide +kernel⟩
theorem zk_ml_RX6_154 : zin (.methodLink RX6 154 yX6_signalAt) := ⟨List.mem_of_getElem? (i := 513) (by decide +kernel), by decide +kernel⟩
theorem zk_pm_X6_signalAt : zin (.privateMethod yX6_signalAt) := ⟨List.mem_of_getElem? (i := 514) (by decide +kernel), by decide +kernel⟩
theorem zk_im_X6_signalAt : zin (.instanceMethod yX6_signalAt) := ⟨List.mem_of_getElem? (i := 515) (by decide +kernel), by decide +kernel⟩
theorem zk_cd_X6_signalAt : zin (.code yX6_signalAt cX6_signalAt 9 (some .int)) := ⟨List.mem_of_getElem? (i := 516) (by decide +kernel), by decide +kernel⟩
theorem zk_ml_RX6_288 : zin (.methodLink RX6 288 yX6_directionOf) := ⟨List.mem_of_getElem? (i := 517) (by decide +kernel), by decide +kernel⟩
theorem zk_st_X6_directionOf : zin (.static yX6_directionOf) := ⟨List.mem_of_getElem? (i := 518) (by decide +kernel), by decide +kernel⟩
theorem zk_cd_X6_directionOf : zin (.code yX6_directionOf cX6_directionOf 1 (some .int)) := ⟨List.mem_of_getElem? (i := 519) (by decide +kernel), by decide +kernel⟩
theorem zk_ml_RX6_291 : zin (.methodLink RX6 291 yX6_angleOf) := ⟨List.mem_of_getElem? (i := 520) (by decide +kernel), by decide +kernel⟩
theorem zk_st_X6_angleOf : zin (.static yX6_angleOf) := ⟨List.mem_of_getElem? (i := 521) (by decide +kernel), by decide +kernel⟩
theorem zk_cd_X6_angleOf : zin (.code yX6_angleOf cX6_angleOf 1 (some .int)) := ⟨List.mem_of_getElem? (i := 522) (by decide +kernel), by decide +kernel⟩
theorem zk_ml_RX6_303 : zin (.methodLink RX6 303 yX5_strengthAtFirst) := ⟨List.mem_of_getElem? (i := 523) (by decide +kernel), by decide +kernel⟩
theorem zk_im_X5_strengthAtFirst : zin (.instanceMethod yX5_strengthAtFirst) := ⟨List.mem_of_getElem? (i := 524) (by decide +kernel), by decide +kernel⟩
theorem zk_se_X5_strengthAtFirst : zin (.selects RX5 yX5_strengthAtFirst yX5_strengthAtFirst) := ⟨List.mem_of_getElem? (i := 525) (by decide +kernel), by decide +kernel⟩
theorem zk_cd_X5_strengthAtFirst : zin (.code yX5_strengthAtFirst cX5_strengthAtFirst 4 (some .int)) := ⟨List.mem_of_getElem? (i := 526) (by decide +kernel), by decide +kernel⟩
theorem zk_ml_RX5_31 : zin (.methodLink RX5 31 yX5_gain) := ⟨List.mem_of_getElem? (i := 527) (by decide +kernel), by decide +kernel⟩
theorem zk_st_X5_gain : zin (.static yX5_gain) := ⟨List.mem_of_getElem? (i := 528) (by decide +kernel), by decide +kernel⟩
theorem zk_cd_X5_gain : zin (.code yX5_gain cX5_gain 2 (some .int)) := ⟨List.mem_of_getElem? (i := 529) (by decide +kernel), by decide +kernel⟩
theorem zk_ml_RX5_35 : zin (.methodLink RX5 35 yX5_aside) := ⟨List.mem_of_getElem? (i := 530) (by decide +kernel), by decide +kernel⟩
theorem zk_st_X5_aside : zin (.static yX5_aside) := ⟨List.mem_of_getElem? (i := 531) (by decide +kernel), by decide +kernel⟩
theorem zk_cd_X5_aside : zin (.code yX5_aside cX5_aside 2 (some .int)) := ⟨List.mem_of_getElem? (i := 532) (by decide +kernel), by decide +kernel⟩
theorem zk_ml_RX6_196 : zin (.methodLink RX6 196 yX6_reaches) := ⟨List.mem_of_getElem? (i := 533) (by decide +kernel), by decide +kernel⟩
theorem zk_pm_X6_reaches : zin (.privateMethod yX6_reaches) := ⟨List.mem_of_getElem? (i := 534) (by decide +kernel), by decide +kernel⟩
theorem zk_im_X6_reaches : zin (.instanceMethod yX6_reaches) := ⟨List.mem_of_getElem? (i := 535) (by decide +kernel), by decide +kernel⟩
theorem zk_cd_X6_reaches : zin (.code yX6_reaches cX6_reaches 8 (some .boolean)) := ⟨List.mem_of_getElem? (i := 536) (by decide +kernel), by decide +kernel⟩
theorem zk_ml_RX6_294 : zin (.methodLink RX6 294 yX4_leave) := ⟨List.mem_of_getElem? (i := 537) (by decide +kernel), by decide +kernel⟩
theorem zk_im_X4_leave : zin (.instanceMethod yX4_leave) := ⟨List.mem_of_getElem? (i := 538) (by decide +kernel), by decide +kernel⟩
theorem zk_se_X4_leave : zin (.selects RX4 yX4_leave yX4_leave) := ⟨List.mem_of_getElem? (i := 539) (by decide +kernel), by decide +kernel⟩
theorem zk_cd_X4_leave : zin (.code yX4_leave cX4_leave 6 none) := ⟨List.mem_of_getElem? (i := 540) (by decide +kernel), by decide +kernel⟩
theorem zk_ml_RX6_297 : zin (.methodLink RX6 297 yX4_goOn) := ⟨List.mem_of_getElem? (i := 541) (by decide +kernel), by decide +kernel⟩
theorem zk_im_X4_goOn : zin (.instanceMethod yX4_goOn) := ⟨List.mem_of_getElem? (i := 542) (by decide +kernel), by decide +kernel⟩
theorem zk_se_X4_goOn : zin (.selects RX4 yX4_goOn yX4_goOn) := ⟨List.mem_of_getElem? (i := 543) (by decide +kernel), by decide +kernel⟩
theorem zk_cd_X4_goOn : zin (.code yX4_goOn cX4_goOn 9 (some .boolean)) := ⟨List.mem_of_getElem? (i := 544) (by decide +kernel), by decide +kernel⟩
theorem zk_ml_RX4_36 : zin (.methodLink RX4 36 yX0_bender) := ⟨List.mem_of_getElem? (i := 545) (by decide +kernel), by decide +kernel⟩
theorem zk_im_X0_bender : zin (.instanceMethod yX0_bender) := ⟨List.mem_of_getElem? (i := 546) (by decide +kernel), by decide +kernel⟩
theorem zk_se_X0_bender : zin (.selects RX0 yX0_bender yX0_bender) := ⟨List.mem_of_getElem? (i := 547) (by decide +kernel), by decide +kernel⟩
theorem zk_cd_X0_bender : zin (.code yX0_bender cX0_bender 7 (some .int)) := ⟨List.mem_of_getElem? (i := 548) (by decide +kernel), by decide +kernel⟩
theorem zk_mn_RX0_54 : zin (.methodLinkNest RX0 54 yX6_lengthBy "SkipRays") := ⟨List.mem_of_getElem? (i := 549) (by decide +kernel), by decide +kernel⟩
theorem zk_st_X6_lengthBy : zin (.static yX6_lengthBy) := ⟨List.mem_of_getElem? (i := 550) (by decide +kernel), by decide +kernel⟩
theorem zk_cd_X6_lengthBy : zin (.code yX6_lengthBy cX6_lengthBy 2 (some .int)) := ⟨List.mem_of_getElem? (i := 551) (by decide +kernel), by decide +kernel⟩
theorem zk_mn_RX0_57 : zin (.methodLinkNest RX0 57 yX6_ring "SkipRays") := ⟨List.mem_of_getElem? (i := 552) (by decide +kernel), by decide +kernel⟩
theorem zk_st_X6_ring : zin (.static yX6_ring) := ⟨List.mem_of_getElem? (i := 553) (by decide +kernel), by decide +kernel⟩
theorem zk_cd_X6_ring : zin (.code yX6_ring cX6_ring 2 (some .int)) := ⟨List.mem_of_getElem? (i := 554) (by decide +kernel), by decide +kernel⟩
theorem zk_mn_RX0_61 : zin (.methodLinkNest RX0 61 yX6_bends "SkipRays") := ⟨List.mem_of_getElem? (i := 555) (by decide +kernel), by decide +kernel⟩
theorem zk_st_X6_bends : zin (.static yX6_bends) := ⟨List.mem_of_getElem? (i := 556) (by decide +kernel), by decide +kernel⟩
theorem zk_cd_X6_bends : zin (.code yX6_bends cX6_bends 3 (some .boolean)) := ⟨List.mem_of_getElem? (i := 557) (by decide +kernel), by decide +kernel⟩
theorem zk_mn_RX4_42 : zin (.methodLinkNest RX4 42 yX6_lengthBy "SkipRays") := ⟨List.mem_of_getElem? (i := 558) (by decide +kernel), by decide +kernel⟩
theorem zk_mn_RX4_46 : zin (.methodLinkNest RX4 46 yX6_ring "SkipRays") := ⟨List.mem_of_getElem? (i := 559) (by decide +kernel), by decide +kernel⟩
theorem zk_ml_RX4_54 : zin (.methodLink RX4 54 yX3_takes) := ⟨List.mem_of_getElem? (i := 560) (by decide +kernel), by decide +kernel⟩
theorem zk_im_X3_takes : zin (.instanceMethod yX3_takes) := ⟨List.mem_of_getElem? (i := 561) (by decide +kernel), by decide +kernel⟩
theorem zk_se_X3_takes : zin (.selects RX3 yX3_takes yX3_takes) := ⟨List.mem_of_getElem? (i := 562) (by decide +kernel), by decide +kernel⟩
theorem zk_cd_X3_takes : zin (.code yX3_takes cX3_takes 2 (some .int)) := ⟨List.mem_of_getElem? (i := 563) (by decide +kernel), by decide +kernel⟩
theorem zk_ml_RX6_309 : zin (.methodLink RX6 309 yX6_noiseNow) := ⟨List.mem_of_getElem? (i := 564) (by decide +kernel), by decide +kernel⟩
theorem zk_pm_X6_noiseNow : zin (.privateMethod yX6_noiseNow) := ⟨List.mem_of_getElem? (i := 565) (by decide +kernel), by decide +kernel⟩
theorem zk_im_X6_noiseNow : zin (.instanceMethod yX6_noiseNow) := ⟨List.mem_of_getElem? (i := 566) (by decide +kernel), by decide +kernel⟩
theorem zk_cd_X6_noiseNow : zin (.code yX6_noiseNow cX6_noiseNow 3 (some .int)) := ⟨List.mem_of_getElem? (i := 567) (by decide +kernel), by decide +kernel⟩
theorem zk_ml_RX6_164 : zin (.methodLink RX6 164 yX6_lightIn) := ⟨List.mem_of_getElem? (i := 568) (by decide +kernel), by decide +kernel⟩
theorem zk_ml_RX6_139 : zin (.methodLink RX6 139 yX1_add) := ⟨List.mem_of_getElem? (i := 569) (by decide +kernel), by decide +kernel⟩
theorem zk_im_X1_add : zin (.instanceMethod yX1_add) := ⟨List.mem_of_getElem? (i := 570) (by decide +kernel), by decide +kernel⟩
theorem zk_se_X1_add : zin (.selects RX1 yX1_add yX1_add) := ⟨List.mem_of_getElem? (i := 571) (by decide +kernel), by decide +kernel⟩
theorem zk_cd_X1_add : zin (.code yX1_add cX1_add 6 none) := ⟨List.mem_of_getElem? (i := 572) (by decide +kernel), by decide +kernel⟩
theorem zk_ml_RL_135 : zin (.methodLink RL 135 yL_log) := ⟨List.mem_of_getElem? (i := 573) (by decide +kernel), by decide +kernel⟩
theorem zk_st_L_log : zin (.static yL_log) := ⟨List.mem_of_getElem? (i := 574) (by decide +kernel), by decide +kernel⟩
theorem zk_cw_L_log : zin (.codeWith yL_log cL_log 5 (some .int) [(0 , 7 , 8 , 28), (0 , 7 , 13 , 14), (0 , 7 , 18 , 41)]) := ⟨List.mem_of_getElem? (i := 575) (by decide +kernel), by decide +kernel⟩
theorem zk_ml_RL_55 : zin (.methodLink RL 55 yX6_log) := ⟨List.mem_of_getElem? (i := 576) (by decide +kernel), by decide +kernel⟩
theorem zk_im_X6_log : zin (.instanceMethod yX6_log) := ⟨List.mem_of_getElem? (i := 577) (by decide +kernel), by decide +kernel⟩
theorem zk_se_X6_log : zin (.selects RX6 yX6_log yX6_log) := ⟨List.mem_of_getElem? (i := 578) (by decide +kernel), by decide +kernel⟩
theorem zk_cd_X6_log : zin (.code yX6_log cX6_log 4 (some .int)) := ⟨List.mem_of_getElem? (i := 579) (by decide +kernel), by decide +kernel⟩
theorem zk_ml_RX6_142 : zin (.methodLink RX6 142 yX2_isFull) := ⟨List.mem_of_getElem? (i := 580) (by decide +kernel), by decide +kernel⟩
theorem zk_im_X2_isFull : zin (.instanceMethod yX2_isFull) := ⟨List.mem_of_getElem? (i := 581) (by decide +kernel), by decide +kernel⟩
theorem zk_se_X2_isFull : zin (.selects RX2 yX2_isFull yX2_isFull) := ⟨List.mem_of_getElem? (i := 582) (by decide +kernel), by decide +kernel⟩
theorem zk_cd_X2_isFull : zin (.code yX2_isFull cX2_isFull 1 (some .boolean)) := ⟨List.mem_of_getElem? (i := 583) (by decide +kernel), by decide +kernel⟩
theorem zk_ml_RX6_145 : zin (.methodLink RX6 145 yX2_add) := ⟨List.mem_of_getElem? (i := 585) (by decide +kernel), by decide +kernel⟩
theorem zk_im_X2_add : zin (.instanceMethod yX2_add) := ⟨List.mem_of_getElem? (i := 586) (by decide +kernel), by decide +kernel⟩
theorem zk_se_X2_add : zin (.selects RX2 yX2_add yX2_add) := ⟨List.mem_of_getElem? (i := 587) (by decide +kernel), by decide +kernel⟩
theorem zk_cd_X2_add : zin (.code yX2_add cX2_add 7 (some .int)) := ⟨List.mem_of_getElem? (i := 588) (by decide +kernel), by decide +kernel⟩
theorem zk_ml_RX2_31 : zin (.methodLink RX2 31 yX2_partnerFor) := ⟨List.mem_of_getElem? (i := 589) (by decide +kernel), by decide +kernel⟩
theorem zk_pm_X2_partnerFor : zin (.privateMethod yX2_partnerFor) := ⟨List.mem_of_getElem? (i := 590) (by decide +kernel), by decide +kernel⟩
theorem zk_im_X2_partnerFor : zin (.instanceMethod yX2_partnerFor) := ⟨List.mem_of_getElem? (i := 591) (by decide +kernel), by decide +kernel⟩
theorem zk_cd_X2_partnerFor : zin (.code yX2_partnerFor cX2_partnerFor 6 (some .int)) := ⟨List.mem_of_getElem? (i := 592) (by decide +kernel), by decide +kernel⟩
theorem zk_ml_RL_137 : zin (.methodLink RL 137 yL_listen) := ⟨List.mem_of_getElem? (i := 593) (by decide +kernel), by decide +kernel⟩
theorem zk_st_L_listen : zin (.static yL_listen) := ⟨List.mem_of_getElem? (i := 594) (by decide +kernel), by decide +kernel⟩
theorem zk_cw_L_listen : zin (.codeWith yL_listen cL_listen 3 (some .int) [(0 , 5 , 6 , 28)]) := ⟨List.mem_of_getElem? (i := 595) (by decide +kernel), by decide +kernel⟩
theorem zk_ml_RL_58 : zin (.methodLink RL 58 yX6_listen) := ⟨List.mem_of_getElem? (i := 596) (by decide +kernel), by decide +kernel⟩
theorem zk_im_X6_listen : zin (.instanceMethod yX6_listen) := ⟨List.mem_of_getElem? (i := 597) (by decide +kernel), by decide +kernel⟩
theorem zk_se_X6_listen : zin (.selects RX6 yX6_listen yX6_listen) := ⟨List.mem_of_getElem? (i := 598) (by decide +kernel), by decide +kernel⟩
theorem zk_cd_X6_listen : zin (.code yX6_listen cX6_listen 7 (some .int)) := ⟨List.mem_of_getElem? (i := 599) (by decide +kernel), by decide +kernel⟩
theorem zk_ml_RL_139 : zin (.methodLink RL 139 yL_light) := ⟨List.mem_of_getElem? (i := 600) (by decide +kernel), by decide +kernel⟩
theorem zk_st_L_light : zin (.static yL_light) := ⟨List.mem_of_getElem? (i := 601) (by decide +kernel), by decide +kernel⟩
theorem zk_cw_L_light : zin (.codeWith yL_light cL_light 4 (some .int) [(0 , 6 , 7 , 28), (0 , 6 , 11 , 14)]) := ⟨List.mem_of_getElem? (i := 602) (by decide +kernel), by decide +kernel⟩
theorem zk_ml_RL_61 : zin (.methodLink RL 61 yX6_light) := ⟨List.mem_of_getElem? (i := 603) (by decide +kernel), by decide +kernel⟩
theorem zk_im_X6_light : zin (.instanceMethod yX6_light) := ⟨List.mem_of_getElem? (i := 604) (by decide +kernel), by decide +kernel⟩
theorem zk_se_X6_light : zin (.selects RX6 yX6_light yX6_light) := ⟨List.mem_of_getElem? (i := 605) (by decide +kernel), by decide +kernel⟩
theorem zk_cd_X6_light : zin (.code yX6_light cX6_light 3 (some .int)) := ⟨List.mem_of_getElem? (i := 606) (by decide +kernel), by decide +kernel⟩
theorem zk_ml_RL_141 : zin (.methodLink RL 141 yL_density) := ⟨List.mem_of_getElem? (i := 607) (by decide +kernel), by decide +kernel⟩
theorem zk_st_L_density : zin (.static yL_density) := ⟨List.mem_of_getElem? (i := 608) (by decide +kernel), by decide +kernel⟩
theorem zk_cw_L_density : zin (.codeWith yL_density cL_density 4 (some .int) [(0 , 6 , 7 , 28), (0 , 6 , 11 , 14)]) := ⟨List.mem_of_getElem? (i := 609) (by decide +kernel), by decide +kernel⟩
theorem zk_ml_RL_64 : zin (.methodLink RL 64 yX6_density) := ⟨List.mem_of_getElem? (i := 610) (by decide +kernel), by decide +kernel⟩
theorem zk_im_X6_density : zin (.instanceMethod yX6_density) := ⟨List.mem_of_getElem? (i := 611) (by decide +kernel), by decide +kernel⟩
theorem zk_se_X6_density : zin (.selects RX6 yX6_density yX6_density) := ⟨List.mem_of_getElem? (i := 612) (by decide +kernel), by decide +kernel⟩
theorem zk_cd_X6_density : zin (.code yX6_density cX6_density 3 (some .int)) := ⟨List.mem_of_getElem? (i := 613) (by decide +kernel), by decide +kernel⟩
theorem zk_ml_RL_143 : zin (.methodLink RL 143 yL_landing) := ⟨List.mem_of_getElem? (i := 614) (by decide +kernel), by decide +kernel⟩
theorem zk_st_L_landing : zin (.static yL_landing) := ⟨List.mem_of_getElem? (i := 615) (by decide +kernel), by decide +kernel⟩
theorem zk_cw_L_landing : zin (.codeWith yL_landing cL_landing 7 (some .int) [(0 , 11 , 12 , 28), (0 , 11 , 17 , 14)]) := ⟨List.mem_of_getElem? (i := 616) (by decide +kernel), by decide +kernel⟩
theorem zk_ml_RL_67 : zin (.methodLink RL 67 yX6_landing) := ⟨List.mem_of_getElem? (i := 617) (by decide +kernel), by decide +kernel⟩
theorem zk_im_X6_landing : zin (.instanceMethod yX6_landing) := ⟨List.mem_of_getElem? (i := 618) (by decide +kernel), by decide +kernel⟩
theorem zk_se_X6_landing : zin (.selects RX6 yX6_landing yX6_landing) := ⟨List.mem_of_getElem? (i := 619) (by decide +kernel), by decide +kernel⟩
theorem zk_cd_X6_landing : zin (.code yX6_landing cX6_landing 10 (some .int)) := ⟨List.mem_of_getElem? (i := 620) (by decide +kernel), by decide +kernel⟩
theorem zk_ml_RX6_172 : zin (.methodLink RX6 172 yX6_needRay) := ⟨List.mem_of_getElem? (i := 621) (by decide +kernel), by decide +kernel⟩
theorem zk_st_X6_needRay : zin (.static yX6_needRay) := ⟨List.mem_of_getElem? (i := 622) (by decide +kernel), by decide +kernel⟩
theorem zk_cd_X6_needRay : zin (.code yX6_needRay cX6_needRay 4 none) := ⟨List.mem_of_getElem? (i := 623) (by decide +kernel), by decide +kernel⟩
theorem zk_ml_RX6_176 : zin (.methodLink RX6 176 yX0_bender) := ⟨List.mem_of_getElem? (i := 624) (by decide +kernel), by decide +kernel⟩
theorem zk_ml_RX6_179 : zin (.methodLink RX6 179 yX6_lengthBy) := ⟨List.mem_of_getElem? (i := 625) (by decide +kernel), by decide +kernel⟩
theorem zk_ml_RX6_182 : zin (.methodLink RX6 182 yX6_ring) := ⟨List.mem_of_getElem? (i := 626) (by decide +kernel), by decide +kernel⟩
theorem zk_ml_RL_146 : zin (.methodLink RL 146 yL_paths) := ⟨List.mem_of_getElem? (i := 627) (by decide +kernel), by decide +kernel⟩
theorem zk_st_L_paths : zin (.static yL_paths) := ⟨List.mem_of_getElem? (i := 628) (by decide +kernel), by decide +kernel⟩
theorem zk_cw_L_paths : zin (.codeWith yL_paths cL_paths 6 (some .int) [(0 , 9 , 10 , 28), (0 , 9 , 15 , 14)]) := ⟨List.mem_of_getElem? (i := 629) (by decide +kernel), by decide +kernel⟩
theorem zk_ml_RL_71 : zin (.methodLink RL 71 yX6_paths) := ⟨List.mem_of_getElem? (i := 630) (by decide +kernel), by decide +kernel⟩
theorem zk_im_X6_paths : zin (.instanceMethod yX6_paths) := ⟨List.mem_of_getElem? (i := 631) (by decide +kernel), by decide +kernel⟩
theorem zk_se_X6_paths : zin (.selects RX6 yX6_paths yX6_paths) := ⟨List.mem_of_getElem? (i := 632) (by decide +kernel), by decide +kernel⟩
theorem zk_cd_X6_paths : zin (.code yX6_paths cX6_paths 7 (some .int)) := ⟨List.mem_of_getElem? (i := 633) (by decide +kernel), by decide +kernel⟩
theorem zk_ml_RX6_193 : zin (.methodLink RX6 193 yX6_needPath) := ⟨List.mem_of_getElem? (i := 634) (by decide +kernel), by decide +kernel⟩
theorem zk_st_X6_needPath : zin (.static yX6_needPath) := ⟨List.mem_of_getElem? (i := 635) (by decide +kernel), by decide +kernel⟩
theorem zk_cd_X6_needPath : zin (.code yX6_needPath cX6_needPath 4 none) := ⟨List.mem_of_getElem? (i := 636) (by decide +kernel), by decide +kernel⟩
theorem zk_ml_RX6_216 : zin (.methodLink RX6 216 yX6_needStrength) := ⟨List.mem_of_getElem? (i := 637) (by decide +kernel), by decide +kernel⟩
theorem zk_st_X6_needStrength : zin (.static yX6_needStrength) := ⟨List.mem_of_getElem? (i := 638) (by decide +kernel), by decide +kernel⟩
theorem zk_cd_X6_needStrength : zin (.code yX6_needStrength cX6_needStrength 1 none) := ⟨List.mem_of_getElem? (i := 639) (by decide +kernel), by decide +kernel⟩
theorem zk_ml_RL_148 : zin (.methodLink RL 148 yL_path) := ⟨List.mem_of_getElem? (i := 640) (by decide +kernel), by decide +kernel⟩
theorem zk_st_L_path : zin (.static yL_path) := ⟨List.mem_of_getElem? (i := 641) (by decide +kernel), by decide +kernel⟩
theorem zk_cw_L_path : zin (.codeWith yL_path cL_path 8 (some .int) [(0 , 13 , 14 , 28), (0 , 13 , 19 , 14)]) := ⟨List.mem_of_getElem? (i := 642) (by decide +kernel), by decide +kernel⟩
theorem zk_ml_RL_74 : zin (.methodLink RL 74 yX6_path) := ⟨List.mem_of_getElem? (i := 643) (by decide +kernel), by decide +kernel⟩
theorem zk_im_X6_path : zin (.instanceMethod yX6_path) := ⟨List.mem_of_getElem? (i := 644) (by decide +kernel), by decide +kernel⟩
theorem zk_se_X6_path : zin (.selects RX6 yX6_path yX6_path) := ⟨List.mem_of_getElem? (i := 645) (by decide +kernel), by decide +kernel⟩
theorem zk_cd_X6_path : zin (.code yX6_path cX6_path 9 (some .int)) := ⟨List.mem_of_getElem? (i := 646) (by decide +kernel), by decide +kernel⟩
theorem zk_ml_RX6_200 : zin (.methodLink RX6 200 yX4_tell) := ⟨List.mem_of_getElem? (i := 647) (by decide +kernel), by decide +kernel⟩
theorem zk_im_X4_tell : zin (.instanceMethod yX4_tell) := ⟨List.mem_of_getElem? (i := 648) (by decide +kernel), by decide +kernel⟩
theorem zk_se_X4_tell : zin (.selects RX4 yX4_tell yX4_tell) := ⟨List.mem_of_getElem? (i := 649) (by decide +kernel), by decide +kernel⟩
theorem zk_cd_X4_tell : zin (.code yX4_tell cX4_tell 2 (some .int)) := ⟨List.mem_of_getElem? (i := 650) (by decide +kernel), by decide +kernel⟩
theorem zk_ml_RL_151 : zin (.methodLink RL 151 yL_explain) := ⟨List.mem_of_getElem? (i := 652) (by decide +kernel), by decide +kernel⟩
theorem zk_st_L_explain : zin (.static yL_explain) := ⟨List.mem_of_getElem? (i := 653) (by decide +kernel), by decide +kernel⟩
theorem zk_cw_L_explain : zin (.codeWith yL_explain cL_explain 7 (some .int) [(0 , 11 , 12 , 28), (0 , 11 , 17 , 14)]) := ⟨List.mem_of_getElem? (i := 654) (by decide +kernel), by decide +kernel⟩
theorem zk_ml_RL_78 : zin (.methodLink RL 78 yX6_explain) := ⟨List.mem_of_getElem? (i := 655) (by decide +kernel), by decide +kernel⟩
theorem zk_im_X6_explain : zin (.instanceMethod yX6_explain) := ⟨List.mem_of_getElem? (i := 656) (by decide +kernel), by decide +kernel⟩
theorem zk_se_X6_explain : zin (.selects RX6 yX6_explain yX6_explain) := ⟨List.mem_of_getElem? (i := 657) (by decide +kernel), by decide +kernel⟩
theorem zk_cd_X6_explain : zin (.code yX6_explain cX6_explain 11 (some .int)) := ⟨List.mem_of_getElem? (i := 658) (by decide +kernel), by decide +kernel⟩
theorem zk_ml_RL_154 : zin (.methodLink RL 154 yL_usable) := ⟨List.mem_of_getElem? (i := 659) (by decide +kernel), by decide +kernel⟩
theorem zk_st_L_usable : zin (.static yL_usable) := ⟨List.mem_of_getElem? (i := 660) (by decide +kernel), by decide +kernel⟩
theorem zk_cw_L_usable : zin (.codeWith yL_usable cL_usable 6 (some .int) [(0 , 9 , 10 , 28), (0 , 9 , 15 , 14)]) := ⟨List.mem_of_getElem? (i := 661) (by decide +kernel), by decide +kernel⟩
theorem zk_ml_RL_82 : zin (.methodLink RL 82 yX6_usable) := ⟨List.mem_of_getElem? (i := 662) (by decide +kernel), by decide +kernel⟩
theorem zk_im_X6_usable : zin (.instanceMethod yX6_usable) := ⟨List.mem_of_getElem? (i := 663) (by decide +kernel), by decide +kernel⟩
theorem zk_se_X6_usable : zin (.selects RX6 yX6_usable yX6_usable) := ⟨List.mem_of_getElem? (i := 664) (by decide +kernel), by decide +kernel⟩
theorem zk_cd_X6_usable : zin (.code yX6_usable cX6_usable 10 (some .int)) := ⟨List.mem_of_getElem? (i := 665) (by decide +kernel), by decide +kernel⟩
theorem zk_ml_RX6_219 : zin (.methodLink RX6 219 yX6_hasPath) := ⟨List.mem_of_getElem? (i := 666) (by decide +kernel), by decide +kernel⟩
theorem zk_pm_X6_hasPath : zin (.privateMethod yX6_hasPath) := ⟨List.mem_of_getElem? (i := 667) (by decide +kernel), by decide +kernel⟩
theorem zk_im_X6_hasPath : zin (.instanceMethod yX6_hasPath) := ⟨List.mem_of_getElem? (i := 668) (by decide +kernel), by decide +kernel⟩
theorem zk_cd_X6_hasPath : zin (.code yX6_hasPath cX6_hasPath 6 (some .boolean)) := ⟨List.mem_of_getElem? (i := 669) (by decide +kernel), by decide +kernel⟩
theorem zk_ml_RL_157 : zin (.methodLink RL 157 yL_skipped) := ⟨List.mem_of_getElem? (i := 670) (by decide +kernel), by decide +kernel⟩
theorem zk_st_L_skipped : zin (.static yL_skipped) := ⟨List.mem_of_getElem? (i := 671) (by decide +kernel), by decide +kernel⟩
theorem zk_cw_L_skipped : zin (.codeWith yL_skipped cL_skipped 5 (some .int) [(0 , 7 , 8 , 28), (0 , 7 , 13 , 14)]) := ⟨List.mem_of_getElem? (i := 672) (by decide +kernel), by decide +kernel⟩
theorem zk_ml_RL_86 : zin (.methodLink RL 86 yX6_skipped) := ⟨List.mem_of_getElem? (i := 673) (by decide +kernel), by decide +kernel⟩
theorem zk_im_X6_skipped : zin (.instanceMethod yX6_skipped) := ⟨List.mem_of_getElem? (i := 674) (by decide +kernel), by decide +kernel⟩
theorem zk_se_X6_skipped : zin (.selects RX6 yX6_skipped yX6_skipped) := ⟨List.mem_of_getElem? (i := 675) (by decide +kernel), by decide +kernel⟩
theorem zk_cd_X6_skipped : zin (.code yX6_skipped cX6_skipped 8 (some .int)) := ⟨List.mem_of_getElem? (i := 676) (by decide +kernel), by decide +kernel⟩
theorem zk_ml_RX6_223 : zin (.methodLink RX6 223 Lib.Math.min.name) := ⟨List.mem_of_getElem? (i := 677) (by decide +kernel), by decide +kernel⟩
theorem zk_st_Lib_Math_min_name : zin (.static Lib.Math.min.name) := ⟨List.mem_of_getElem? (i := 678) (by decide +kernel), by decide +kernel⟩
theorem zk_cd_Lib_Math_min_name : zin (.code Lib.Math.min.name Lib.Math.min.code 2 (some .int)) := ⟨List.mem_of_getElem? (i := 679) (by decide +kernel), by decide +kernel⟩
theorem zk_ml_RL_160 : zin (.methodLink RL 160 yL_signal) := ⟨List.mem_of_getElem? (i := 680) (by decide +kernel), by decide +kernel⟩
theorem zk_st_L_signal : zin (.static yL_signal) := ⟨List.mem_of_getElem? (i := 681) (by decide +kernel), by decide +kernel⟩
theorem zk_cw_L_signal : zin (.codeWith yL_signal cL_signal 5 (some .int) [(0 , 7 , 8 , 28), (0 , 7 , 13 , 14)]) := ⟨List.mem_of_getElem? (i := 682) (by decide +kernel), by decide +kernel⟩
theorem zk_ml_RL_90 : zin (.methodLink RL 90 yX6_signal) := ⟨List.mem_of_getElem? (i := 683) (by decide +kernel), by decide +kernel⟩
theorem zk_im_X6_signal : zin (.instanceMethod yX6_signal) := ⟨List.mem_of_getElem? (i := 684) (by decide +kernel), by decide +kernel⟩
theorem zk_se_X6_signal : zin (.selects RX6 yX6_signal yX6_signal) := ⟨List.mem_of_getElem? (i := 685) (by decide +kernel), by decide +kernel⟩
theorem zk_cd_X6_signal : zin (.code yX6_signal cX6_signal 4 (some .int)) := ⟨List.mem_of_getElem? (i := 686) (by decide +kernel), by decide +kernel⟩
theorem zk_ml_RL_162 : zin (.methodLink RL 162 yL_contactOf) := ⟨List.mem_of_getElem? (i := 687) (by decide +kernel), by decide +kernel⟩
theorem zk_st_L_contactOf : zin (.static yL_contactOf) := ⟨List.mem_of_getElem? (i := 688) (by decide +kernel), by decide +kernel⟩
theorem zk_cw_L_contactOf : zin (.codeWith yL_contactOf cL_contactOf 4 (some .int) [(0 , 6 , 7 , 28), (0 , 6 , 11 , 14)]) := ⟨List.mem_of_getElem? (i := 689) (by decide +kernel), by decide +kernel⟩
theorem zk_ml_RL_93 : zin (.methodLink RL 93 yX6_contactOf) := ⟨List.mem_of_getElem? (i := 690) (by decide +kernel), by decide +kernel⟩
theorem zk_im_X6_contactOf : zin (.instanceMethod yX6_contactOf) := ⟨List.mem_of_getElem? (i := 691) (by decide +kernel), by decide +kernel⟩
theorem zk_se_X6_contactOf : zin (.selects RX6 yX6_contactOf yX6_contactOf) := ⟨List.mem_of_getElem? (i := 692) (by decide +kernel), by decide +kernel⟩
theorem zk_cd_X6_contactOf : zin (.code yX6_contactOf cX6_contactOf 3 (some .int)) := ⟨List.mem_of_getElem? (i := 693) (by decide +kernel), by decide +kernel⟩
theorem zk_ml_RX6_229 : zin (.methodLink RX6 229 yX1_has) := ⟨List.mem_of_getElem? (i := 694) (by decide +kernel), by decide +kernel⟩
theorem zk_im_X1_has : zin (.instanceMethod yX1_has) := ⟨List.mem_of_getElem? (i := 695) (by decide +kernel), by decide +kernel⟩
theorem zk_se_X1_has : zin (.selects RX1 yX1_has yX1_has) := ⟨List.mem_of_getElem? (i := 696) (by decide +kernel), by decide +kernel⟩
theorem zk_cd_X1_has : zin (.code yX1_has cX1_has 2 (some .boolean)) := ⟨List.mem_of_getElem? (i := 697) (by decide +kernel), by decide +kernel⟩
theorem zk_ml_RX6_235 : zin (.methodLink RX6 235 yX1_tell) := ⟨List.mem_of_getElem? (i := 699) (by decide +kernel), by decide +kernel⟩
theorem zk_im_X1_tell : zin (.instanceMethod yX1_tell) := ⟨List.mem_of_getElem? (i := 700) (by decide +kernel), by decide +kernel⟩
theorem zk_se_X1_tell : zin (.selects RX1 yX1_tell yX1_tell) := ⟨List.mem_of_getElem? (i := 701) (by decide +kernel), by decide +kernel⟩
theorem zk_cd_X1_tell : zin (.code yX1_tell cX1_tell 3 (some .int)) := ⟨List.mem_of_getElem? (i := 702) (by decide +kernel), by decide +kernel⟩
theorem zk_ml_RL_164 : zin (.methodLink RL 164 yL_entryOf) := ⟨List.mem_of_getElem? (i := 703) (by decide +kernel), by decide +kernel⟩
theorem zk_st_L_entryOf : zin (.static yL_entryOf) := ⟨List.mem_of_getElem? (i := 704) (by decide +kernel), by decide +kernel⟩
theorem zk_cw_L_entryOf : zin (.codeWith yL_entryOf cL_entryOf 4 (some .int) [(0 , 6 , 7 , 28), (0 , 6 , 11 , 14)]) := ⟨List.mem_of_getElem? (i := 705) (by decide +kernel), by decide +kernel⟩
theorem zk_ml_RL_96 : zin (.methodLink RL 96 yX6_entryOf) := ⟨List.mem_of_getElem? (i := 706) (by decide +kernel), by decide +kernel⟩
theorem zk_im_X6_entryOf : zin (.instanceMethod yX6_entryOf) := ⟨List.mem_of_getElem? (i := 707) (by decide +kernel), by decide +kernel⟩
theorem zk_se_X6_entryOf : zin (.selects RX6 yX6_entryOf yX6_entryOf) := ⟨List.mem_of_getElem? (i := 708) (by decide +kernel), by decide +kernel⟩
theorem zk_cd_X6_entryOf : zin (.code yX6_entryOf cX6_entryOf 3 (some .int)) := ⟨List.mem_of_getElem? (i := 709) (by decide +kernel), by decide +kernel⟩
theorem zk_ml_RX6_237 : zin (.methodLink RX6 237 yX2_has) := ⟨List.mem_of_getElem? (i := 710) (by decide +kernel), by decide +kernel⟩
theorem zk_im_X2_has : zin (.instanceMethod yX2_has) := ⟨List.mem_of_getElem? (i := 711) (by decide +kernel), by decide +kernel⟩
theorem zk_se_X2_has : zin (.selects RX2 yX2_has yX2_has) := ⟨List.mem_of_getElem? (i := 712) (by decide +kernel), by decide +kernel⟩
theorem zk_cd_X2_has : zin (.code yX2_has cX2_has 2 (some .boolean)) := ⟨List.mem_of_getElem? (i := 713) (by decide +kernel), by decide +kernel⟩
theorem zk_ml_RX6_240 : zin (.methodLink RX6 240 yX6_counts) := ⟨List.mem_of_getElem? (i := 715) (by decide +kernel), by decide +kernel⟩
theorem zk_pm_X6_counts : zin (.privateMethod yX6_counts) := ⟨List.mem_of_getElem? (i := 716) (by decide +kernel), by decide +kernel⟩
theorem zk_im_X6_counts : zin (.instanceMethod yX6_counts) := ⟨List.mem_of_getElem? (i := 717) (by decide +kernel), by decide +kernel⟩
theorem zk_cd_X6_counts : zin (.code yX6_counts cX6_counts 5 (some .boolean)) := ⟨List.mem_of_getElem? (i := 718) (by decide +kernel), by decide +kernel⟩
theorem zk_ml_RX6_315 : zin (.methodLink RX6 315 yX1_isOf) := ⟨List.mem_of_getElem? (i := 719) (by decide +kernel), by decide +kernel⟩
theorem zk_im_X1_isOf : zin (.instanceMethod yX1_isOf) := ⟨List.mem_of_getElem? (i := 720) (by decide +kernel), by decide +kernel⟩
theorem zk_se_X1_isOf : zin (.selects RX1 yX1_isOf yX1_isOf) := ⟨List.mem_of_getElem? (i := 721) (by decide +kernel), by decide +kernel⟩
theorem zk_cd_X1_isOf : zin (.code yX1_isOf cX1_isOf 4 (some .boolean)) := ⟨List.mem_of_getElem? (i := 722) (by decide +kernel), by decide +kernel⟩
theorem zk_ml_RX6_243 : zin (.methodLink RX6 243 yX2_tell) := ⟨List.mem_of_getElem? (i := 723) (by decide +kernel), by decide +kernel⟩
theorem zk_im_X2_tell : zin (.instanceMethod yX2_tell) := ⟨List.mem_of_getElem? (i := 724) (by decide +kernel), by decide +kernel⟩
theorem zk_se_X2_tell : zin (.selects RX2 yX2_tell yX2_tell) := ⟨List.mem_of_getElem? (i := 725) (by decide +kernel), by decide +kernel⟩
theorem zk_cd_X2_tell : zin (.code yX2_tell cX2_tell 3 (some .int)) := ⟨List.mem_of_getElem? (i := 726) (by decide +kernel), by decide +kernel⟩
theorem zk_ml_RL_166 : zin (.methodLink RL 166 yL_score) := ⟨List.mem_of_getElem? (i := 727) (by decide +kernel), by decide +kernel⟩
theorem zk_st_L_score : zin (.static yL_score) := ⟨List.mem_of_getElem? (i := 728) (by decide +kernel), by decide +kernel⟩
theorem zk_cw_L_score : zin (.codeWith yL_score cL_score 3 (some .int) [(0 , 5 , 6 , 28)]) := ⟨List.mem_of_getElem? (i := 729) (by decide +kernel), by decide +kernel⟩
theorem zk_ml_RL_99 : zin (.methodLink RL 99 yX6_score) := ⟨List.mem_of_getElem? (i := 730) (by decide +kernel), by decide +kernel⟩
theorem zk_im_X6_score : zin (.instanceMethod yX6_score) := ⟨List.mem_of_getElem? (i := 731) (by decide +kernel), by decide +kernel⟩
theorem zk_se_X6_score : zin (.selects RX6 yX6_score yX6_score) := ⟨List.mem_of_getElem? (i := 732) (by decide +kernel), by decide +kernel⟩
theorem zk_cd_X6_score : zin (.code yX6_score cX6_score 7 (some .int)) := ⟨List.mem_of_getElem? (i := 733) (by decide +kernel), by decide +kernel⟩
theorem zk_ml_RX6_254 : zin (.methodLink RX6 254 yX6_distance) := ⟨List.mem_of_getElem? (i := 734) (by decide +kernel), by decide +kernel⟩
theorem zk_st_X6_distance : zin (.static yX6_distance) := ⟨List.mem_of_getElem? (i := 735) (by decide +kernel), by decide +kernel⟩
theorem zk_cd_X6_distance : zin (.code yX6_distance cX6_distance 3 (some .int)) := ⟨List.mem_of_getElem? (i := 736) (by decide +kernel), by decide +kernel⟩
theorem zk_ml_RX6_263 : zin (.methodLink RX6 263 yJ6_bitCount_0f7a4) := ⟨List.mem_of_getElem? (i := 737) (by decide +kernel), by decide +kernel⟩
theorem zk_st_J6_bitCount_0f7a4 : zin (.static yJ6_bitCount_0f7a4) := ⟨List.mem_of_getElem? (i := 738) (by decide +kernel), by decide +kernel⟩
theorem zk_cd_J6_bitCount_0f7a4 : zin (.code yJ6_bitCount_0f7a4 cJ6_bitCount_0f7a4 1 (some .int)) := ⟨List.mem_of_getElem? (i := 739) (by decide +kernel), by decide +kernel⟩
theorem zk_ct_RJ6_265 : zin (.constant RJ6 265 1431655765) := ⟨List.mem_of_getElem? (i := 740) (by decide +kernel), by decide +kernel⟩
theorem zk_ct_RJ6_266 : zin (.constant RJ6 266 858993459) := ⟨List.mem_of_getElem? (i := 741) (by decide +kernel), by decide +kernel⟩
theorem zk_ct_RJ6_267 : zin (.constant RJ6 267 252645135) := ⟨List.mem_of_getElem? (i := 742) (by decide +kernel), by decide +kernel⟩
theorem zk_ml_RL_168 : zin (.methodLink RL 168 yX6_forecasts) := ⟨List.mem_of_getElem? (i := 743) (by decide +kernel), by decide +kernel⟩
theorem zk_im_X6_forecasts : zin (.instanceMethod yX6_forecasts) := ⟨List.mem_of_getElem? (i := 744) (by decide +kernel), by decide +kernel⟩
theorem zk_se_X6_forecasts : zin (.selects RX6 yX6_forecasts yX6_forecasts) := ⟨List.mem_of_getElem? (i := 745) (by decide +kernel), by decide +kernel⟩
theorem zk_cd_X6_forecasts : zin (.code yX6_forecasts cX6_forecasts 2 (some .int)) := ⟨List.mem_of_getElem? (i := 746) (by decide +kernel), by decide +kernel⟩
theorem zk_ml_RL_172 : zin (.methodLink RL 172 yL_count) := ⟨List.mem_of_getElem? (i := 747) (by decide +kernel), by decide +kernel⟩
theorem zk_st_L_count : zin (.static yL_count) := ⟨List.mem_of_getElem? (i := 748) (by decide +kernel), by decide +kernel⟩
theorem zk_cw_L_count : zin (.codeWith yL_count cL_count 3 (some .int) [(0 , 5 , 6 , 14)]) := ⟨List.mem_of_getElem? (i := 749) (by decide +kernel), by decide +kernel⟩
theorem zk_ml_RL_102 : zin (.methodLink RL 102 yX6_count) := ⟨List.mem_of_getElem? (i := 750) (by decide +kernel), by decide +kernel⟩
theorem zk_im_X6_count : zin (.instanceMethod yX6_count) := ⟨List.mem_of_getElem? (i := 751) (by decide +kernel), by decide +kernel⟩
theorem zk_se_X6_count : zin (.selects RX6 yX6_count yX6_count) := ⟨List.mem_of_getElem? (i := 752) (by decide +kernel), by decide +kernel⟩
theorem zk_cd_X6_count : zin (.code yX6_count cX6_count 2 (some .int)) := ⟨List.mem_of_getElem? (i := 753) (by decide +kernel), by decide +kernel⟩
theorem zk_ml_RL_189 : zin (.methodLink RL 189 yL_areAlike) := ⟨List.mem_of_getElem? (i := 754) (by decide +kernel), by decide +kernel⟩
theorem zk_st_L_areAlike : zin (.static yL_areAlike) := ⟨List.mem_of_getElem? (i := 755) (by decide +kernel), by decide +kernel⟩
theorem zk_cd_L_areAlike : zin (.code yL_areAlike cL_areAlike 6 (some .boolean)) := ⟨List.mem_of_getElem? (i := 756) (by decide +kernel), by decide +kernel⟩
theorem zk_ml_RL_174 : zin (.methodLink RL 174 yX6_hour) := ⟨List.mem_of_getElem? (i := 757) (by decide +kernel), by decide +kernel⟩
theorem zk_im_X6_hour : zin (.instanceMethod yX6_hour) := ⟨List.mem_of_getElem? (i := 758) (by decide +kernel), by decide +kernel⟩
theorem zk_se_X6_hour : zin (.selects RX6 yX6_hour yX6_hour) := ⟨List.mem_of_getElem? (i := 759) (by decide +kernel), by decide +kernel⟩
theorem zk_cd_X6_hour : zin (.code yX6_hour cX6_hour 1 (some .int)) := ⟨List.mem_of_getElem? (i := 760) (by decide +kernel), by decide +kernel⟩
theorem zk_ml_RL_193 : zin (.methodLink RL 193 yL_isSo) := ⟨List.mem_of_getElem? (i := 761) (by decide +kernel), by decide +kernel⟩
theorem zk_st_L_isSo : zin (.static yL_isSo) := ⟨List.mem_of_getElem? (i := 762) (by decide +kernel), by decide +kernel⟩
set_option maxRecDepth 100000 in
theorem zk_cd_L_isSo : zin (.code yL_isSo cL_isSo 11 (some .boolean)) := ⟨List.mem_of_getElem? (i := 763) (rfl), by decide +kernel⟩
theorem zk_ml_RL_178 : zin (.methodLink RL 178 yX6_landingAnew) := ⟨List.mem_of_getElem? (i := 764) (by decide +kernel), by decide +kernel⟩
theorem zk_im_X6_landingAnew : zin (.instanceMethod yX6_landingAnew) := ⟨List.mem_of_getElem? (i := 765) (by decide +kernel), by decide +kernel⟩
theorem zk_se_X6_landingAnew : zin (.selects RX6 yX6_landingAnew yX6_landingAnew) := ⟨List.mem_of_getElem? (i := 766) (by decide +kernel), by decide +kernel⟩
theorem zk_cd_X6_landingAnew : zin (.code yX6_landingAnew cX6_landingAnew 9 (some .int)) := ⟨List.mem_of_getElem? (i := 767) (by decide +kernel), by decide +kernel⟩
theorem zk_ml_RX6_185 : zin (.methodLink RX6 185 yX6_legAnew) := ⟨List.mem_of_getElem? (i := 768) (by decide +kernel), by decide +kernel⟩
theorem zk_pm_X6_legAnew : zin (.privateMethod yX6_legAnew) := ⟨List.mem_of_getElem? (i := 769) (by decide +kernel), by decide +kernel⟩
theorem zk_im_X6_legAnew : zin (.instanceMethod yX6_legAnew) := ⟨List.mem_of_getElem? (i := 770) (by decide +kernel), by decide +kernel⟩
theorem zk_cd_X6_legAnew : zin (.code yX6_legAnew cX6_legAnew 8 (some .int)) := ⟨List.mem_of_getElem? (i := 771) (by decide +kernel), by decide +kernel⟩
theorem zk_ml_RX6_189 : zin (.methodLink RX6 189 yX6_walked) := ⟨List.mem_of_getElem? (i := 772) (by decide +kernel), by decide +kernel⟩
theorem zk_st_X6_walked : zin (.static yX6_walked) := ⟨List.mem_of_getElem? (i := 773) (by decide +kernel), by decide +kernel⟩
theorem zk_cd_X6_walked : zin (.code yX6_walked cX6_walked 5 (some .int)) := ⟨List.mem_of_getElem? (i := 774) (by decide +kernel), by decide +kernel⟩
theorem zk_ml_RX6_284 : zin (.methodLink RX6 284 yX6_bends) := ⟨List.mem_of_getElem? (i := 775) (by decide +kernel), by decide +kernel⟩
