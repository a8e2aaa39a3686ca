theorem T0_mem {w : Cond} {i : Nat} (h : lw_tbl[i]? = some w) (g : goodWord w = true) : w ∈ T0 := List.mem_filter.mpr ⟨List.mem_of_getElem? h, g⟩
theorem nestW_mem {w : Cond} {i : Nat} (h : lw_tbl[i]? = some w) (g : isNest w = true) : w ∈ nestW := List.mem_filter.mpr ⟨List.mem_of_getElem? h, g⟩
theorem q_se_Cel_kindAt : Cond.selects R_Cel y_Cel_kindAt y_Cel_kindAt ∈ T0 := T0_mem (i := 0) rfl rfl
theorem q_se_Cel_tell : Cond.selects R_Cel y_Cel_tell y_Cel_tell ∈ T0 := T0_mem (i := 1) rfl rfl
theorem q_se_Cel_carryOut : Cond.selects R_Cel y_Cel_carryOut y_Cel_carryOut ∈ T0 := T0_mem (i := 2) rfl rfl
theorem q_se_Cel_passYears : Cond.selects R_Cel y_Cel_passYears y_Cel_passYears ∈ T0 := T0_mem (i := 3) rfl rfl
theorem q_se_Cel_compare : Cond.selects R_Cel y_Cel_compare y_Cel_compare ∈ T0 := T0_mem (i := 4) rfl rfl
theorem q_se_Cel_columnAt : Cond.selects R_Cel y_Cel_columnAt y_Cel_columnAt ∈ T0 := T0_mem (i := 5) rfl rfl
theorem q_se_Cel_firstThickness : Cond.selects R_Cel y_Cel_firstThickness y_Cel_firstThickness ∈ T0 := T0_mem (i := 6) rfl rfl
theorem q_se_Cel_surfaceAt : Cond.selects R_Cel y_Cel_surfaceAt y_Cel_surfaceAt ∈ T0 := T0_mem (i := 7) rfl rfl
theorem q_se_Sur_sixfoldOfSquare : Cond.selects R_Sur y_Sur_sixfoldOfSquare y_Sur_sixfoldOfSquare ∈ T0 := T0_mem (i := 8) rfl rfl
theorem q_se_Sur_inBoth : Cond.selects R_Sur y_Sur_inBoth y_Sur_inBoth ∈ T0 := T0_mem (i := 9) rfl rfl
theorem q_se_Sur_rise : Cond.selects R_Sur y_Sur_rise y_Sur_rise ∈ T0 := T0_mem (i := 10) rfl rfl
theorem q_se_Cel_phaseAt : Cond.selects R_Cel y_Cel_phaseAt y_Cel_phaseAt ∈ T0 := T0_mem (i := 11) rfl rfl
theorem q_se_Cel_stepBehind : Cond.selects R_Cel y_Cel_stepBehind y_Cel_stepBehind ∈ T0 := T0_mem (i := 12) rfl rfl
theorem q_se_Cel_leastByKind : Cond.selects R_Cel y_Cel_leastByKind y_Cel_leastByKind ∈ T0 := T0_mem (i := 13) rfl rfl
theorem q_se_Cel_doAllAnew : Cond.selects R_Cel y_Cel_doAllAnew y_Cel_doAllAnew ∈ T0 := T0_mem (i := 14) rfl rfl
theorem q_se_Mod_tell : Cond.selects R_Mod y_Mod_tell y_Mod_tell ∈ T0 := T0_mem (i := 15) rfl rfl
theorem q_se_Mod_doAnew : Cond.selects R_Mod y_Mod_doAnew y_Mod_doAnew ∈ T0 := T0_mem (i := 16) rfl rfl
theorem q_se_Mod_act : Cond.selects R_Mod y_Mod_act y_Mod_act ∈ T0 := T0_mem (i := 17) rfl rfl
theorem q_se_Mod_onePass : Cond.selects R_Mod y_Mod_onePass y_Mod_onePass ∈ T0 := T0_mem (i := 18) rfl rfl
theorem q_se_Mod_oneYear : Cond.selects R_Mod y_Mod_oneYear y_Mod_oneYear ∈ T0 := T0_mem (i := 19) rfl rfl
theorem q_se_Mod_heightOf : Cond.selects R_Mod y_Mod_heightOf y_Mod_heightOf ∈ T0 := T0_mem (i := 20) rfl rfl
theorem q_se_Mod_isColumn : Cond.selects R_Mod y_Mod_isColumn y_Mod_isColumn ∈ T0 := T0_mem (i := 21) rfl rfl
theorem q_se_Mod_isSurface : Cond.selects R_Mod y_Mod_isSurface y_Mod_isSurface ∈ T0 := T0_mem (i := 22) rfl rfl
theorem q_se_Mod_isTold : Cond.selects R_Mod y_Mod_isTold y_Mod_isTold ∈ T0 := T0_mem (i := 23) rfl rfl
theorem q_se_Mod_apart : Cond.selects R_Mod y_Mod_apart y_Mod_apart ∈ T0 := T0_mem (i := 24) rfl rfl
theorem q_se_Mod_step : Cond.selects R_Mod y_Mod_step y_Mod_step ∈ T0 := T0_mem (i := 25) rfl rfl
theorem q_se_Mod_isBetter : Cond.selects R_Mod y_Mod_isBetter y_Mod_isBetter ∈ T0 := T0_mem (i := 26) rfl rfl
theorem q_in_Law : Cond.initialized R_Law ∈ T0 := T0_mem (i := 27) rfl rfl
theorem q_in_Cel : Cond.initialized R_Cel ∈ T0 := T0_mem (i := 28) rfl rfl
theorem q_in_Col : Cond.initialized R_Col ∈ T0 := T0_mem (i := 29) rfl rfl
theorem q_in_Kin : Cond.initialized R_Kin ∈ T0 := T0_mem (i := 30) rfl rfl
theorem q_in_Tol : Cond.initialized R_Tol ∈ T0 := T0_mem (i := 31) rfl rfl
theorem q_in_Mod : Cond.initialized R_Mod ∈ T0 := T0_mem (i := 32) rfl rfl
theorem q_in_Math : Cond.initialized "java/lang/Math" ∈ T0 := T0_mem (i := 33) rfl rfl
theorem q_in_Sur : Cond.initialized R_Sur ∈ T0 := T0_mem (i := 34) rfl rfl
theorem q_in_Pha : Cond.initialized R_Pha ∈ T0 := T0_mem (i := 35) rfl rfl
theorem q_kl_Law_7 : Cond.classLink R_Law 7 R_Cel ∈ T0 := T0_mem (i := 36) rfl rfl
theorem q_mk_Cel : Cond.instantiable R_Cel 11 ∈ T0 := T0_mem (i := 37) rfl rfl
theorem q_ml_Law_15 : Cond.methodLink R_Law 15 y_Cel_init ∈ T0 := T0_mem (i := 38) rfl rfl
theorem q_im_Cel_init : Cond.instanceMethod y_Cel_init ∈ T0 := T0_mem (i := 39) rfl rfl
theorem q_co_Cel_init : Cond.code y_Cel_init b_Cel_init 4 none ∈ T0 := T0_mem (i := 40) rfl rfl
theorem q_ml_Cel_1 : Cond.methodLink R_Cel 1 objectInit ∈ T0 := T0_mem (i := 41) rfl rfl
theorem q_im_Object : Cond.instanceMethod objectInit ∈ T0 := T0_mem (i := 42) rfl rfl
theorem q_co_Object : Cond.code objectInit object_method_1_code 1 none ∈ T0 := T0_mem (i := 43) rfl rfl
theorem q_cl_Cel_9 : Cond.constantLong R_Cel 9 (100 : Int64) ∈ T0 := T0_mem (i := 44) rfl rfl
theorem q_ml_Cel_11 : Cond.methodLink R_Cel 11 y_Cel_isWithin ∈ T0 := T0_mem (i := 45) rfl rfl
theorem q_st_Cel_isWithin : Cond.static y_Cel_isWithin ∈ T0 := T0_mem (i := 46) rfl rfl
theorem q_co_Cel_isWithin : Cond.code y_Cel_isWithin b_Cel_isWithin 6 (some .boolean) ∈ T0 := T0_mem (i := 47) rfl rfl
theorem q_cl_Cel_19 : Cond.constantLong R_Cel 19 (8 : Int64) ∈ T0 := T0_mem (i := 48) rfl rfl
theorem q_kl_Cel_21 : Cond.classLink R_Cel 21 R_Col ∈ T0 := T0_mem (i := 49) rfl rfl
theorem q_mk_Col : Cond.instantiable R_Col 6 ∈ T0 := T0_mem (i := 51) rfl rfl
theorem q_mn_Cel_27 : Cond.methodLinkNest R_Cel 27 y_Col_init R_Cel ∈ nestW := nestW_mem (i := 52) rfl rfl
theorem q_im_Col_init : Cond.instanceMethod y_Col_init ∈ T0 := T0_mem (i := 53) rfl rfl
theorem q_co_Col_init : Cond.code y_Col_init b_Col_init 1 none ∈ T0 := T0_mem (i := 54) rfl rfl
theorem q_ml_Col_3 : Cond.methodLink R_Col 3 objectInit ∈ T0 := T0_mem (i := 55) rfl rfl
theorem q_fl_Col_11 : Cond.fieldLink R_Col 11 "CellSettling$Column" "kindNumbers" "[I" ∈ T0 := T0_mem (i := 56) rfl rfl
theorem q_fl_Col_15 : Cond.fieldLink R_Col 15 "CellSettling$Column" "passes" "[I" ∈ T0 := T0_mem (i := 57) rfl rfl
theorem q_fl_Col_18 : Cond.fieldLink R_Col 18 "CellSettling$Column" "kilograms" "[J" ∈ T0 := T0_mem (i := 58) rfl rfl
theorem q_fl_Col_22 : Cond.fieldLink R_Col 22 "CellSettling$Column" "thicknesses" "[J" ∈ T0 := T0_mem (i := 59) rfl rfl
theorem q_fn_Cel_109 : Cond.fieldLinkNest R_Cel 109 "CellSettling$Column" "thicknesses" "[J" R_Cel ∈ nestW := nestW_mem (i := 60) rfl rfl
theorem q_fl_Col_25 : Cond.fieldLink R_Col 25 "CellSettling$Column" "layerCount" "I" ∈ T0 := T0_mem (i := 61) rfl rfl
theorem q_fn_Cel_86 : Cond.fieldLinkNest R_Cel 86 "CellSettling$Column" "layerCount" "I" R_Cel ∈ nestW := nestW_mem (i := 62) rfl rfl
theorem q_fl_Col_29 : Cond.fieldLink R_Col 29 "CellSettling$Column" "covers" "I" ∈ T0 := T0_mem (i := 63) rfl rfl
theorem q_fn_Cel_117 : Cond.fieldLinkNest R_Cel 117 "CellSettling$Column" "covers" "I" R_Cel ∈ nestW := nestW_mem (i := 64) rfl rfl
theorem q_ac_int : Cond.arrayClass .int ∈ T0 := T0_mem (i := 78) rfl rfl
theorem q_ac_long : Cond.arrayClass .long ∈ T0 := T0_mem (i := 79) rfl rfl
theorem q_kl_Cel_28 : Cond.classLink R_Cel 28 R_Kin ∈ T0 := T0_mem (i := 80) rfl rfl
theorem q_mk_Kin : Cond.instantiable R_Kin 5 ∈ T0 := T0_mem (i := 82) rfl rfl
theorem q_mn_Cel_34 : Cond.methodLinkNest R_Cel 34 y_Kin_init R_Cel ∈ nestW := nestW_mem (i := 83) rfl rfl
theorem q_im_Kin_init : Cond.instanceMethod y_Kin_init ∈ T0 := T0_mem (i := 84) rfl rfl
theorem q_co_Kin_init : Cond.code y_Kin_init b_Kin_init 1 none ∈ T0 := T0_mem (i := 85) rfl rfl
theorem q_ml_Kin_1 : Cond.methodLink R_Kin 1 objectInit ∈ T0 := T0_mem (i := 86) rfl rfl
theorem q_fl_Kin_9 : Cond.fieldLink R_Kin 9 "CellSettling$Kind" "loads" "[J" ∈ T0 := T0_mem (i := 87) rfl rfl
theorem q_fl_Kin_13 : Cond.fieldLink R_Kin 13 "CellSettling$Kind" "thousandths" "[I" ∈ T0 := T0_mem (i := 88) rfl rfl
theorem q_fl_Kin_24 : Cond.fieldLink R_Kin 24 "CellSettling$Kind" "rowCount" "I" ∈ T0 := T0_mem (i := 89) rfl rfl
theorem q_fl_Kin_17 : Cond.fieldLink R_Kin 17 "CellSettling$Kind" "density" "I" ∈ T0 := T0_mem (i := 90) rfl rfl
theorem q_fn_Cel_60 : Cond.fieldLinkNest R_Cel 60 "CellSettling$Kind" "density" "I" R_Cel ∈ nestW := nestW_mem (i := 91) rfl rfl
theorem q_fl_Kin_21 : Cond.fieldLink R_Kin 21 "CellSettling$Kind" "factor" "I" ∈ T0 := T0_mem (i := 92) rfl rfl
theorem q_fn_Cel_177 : Cond.fieldLinkNest R_Cel 177 "CellSettling$Kind" "factor" "I" R_Cel ∈ nestW := nestW_mem (i := 93) rfl rfl
theorem q_kl_Cel_35 : Cond.classLink R_Cel 35 R_Tol ∈ T0 := T0_mem (i := 105) rfl rfl
theorem q_mk_Tol : Cond.instantiable R_Tol 6 ∈ T0 := T0_mem (i := 106) rfl rfl
theorem q_mn_Cel_37 : Cond.methodLinkNest R_Cel 37 y_Tol_init R_Cel ∈ nestW := nestW_mem (i := 107) rfl rfl
theorem q_im_Tol_init : Cond.instanceMethod y_Tol_init ∈ T0 := T0_mem (i := 108) rfl rfl
theorem q_co_Tol_init : Cond.code y_Tol_init b_Tol_init 1 none ∈ T0 := T0_mem (i := 109) rfl rfl
theorem q_ml_Tol_1 : Cond.methodLink R_Tol 1 objectInit ∈ T0 := T0_mem (i := 110) rfl rfl
theorem q_fl_Tol_9 : Cond.fieldLink R_Tol 9 "CellSettling$Told" "whats" "[I" ∈ T0 := T0_mem (i := 111) rfl rfl
theorem q_fn_Cel_214 : Cond.fieldLinkNest R_Cel 214 "CellSettling$Told" "whats" "[I" R_Cel ∈ nestW := nestW_mem (i := 112) rfl rfl
theorem q_fl_Tol_13 : Cond.fieldLink R_Tol 13 "CellSettling$Told" "places" "[I" ∈ T0 := T0_mem (i := 113) rfl rfl
theorem q_fn_Cel_207 : Cond.fieldLinkNest R_Cel 207 "CellSettling$Told" "places" "[I" R_Cel ∈ nestW := nestW_mem (i := 114) rfl rfl
theorem q_fl_Tol_16 : Cond.fieldLink R_Tol 16 "CellSettling$Told" "numbers" "[I" ∈ T0 := T0_mem (i := 115) rfl rfl
theorem q_fn_Cel_211 : Cond.fieldLinkNest R_Cel 211 "CellSettling$Told" "numbers" "[I" R_Cel ∈ nestW := nestW_mem (i := 116) rfl rfl
theorem q_fl_Tol_19 : Cond.fieldLink R_Tol 19 "CellSettling$Told" "amounts" "[J" ∈ T0 := T0_mem (i := 117) rfl rfl
theorem q_fn_Cel_217 : Cond.fieldLinkNest R_Cel 217 "CellSettling$Told" "amounts" "[J" R_Cel ∈ nestW := nestW_mem (i := 118) rfl rfl
theorem q_fl_Tol_23 : Cond.fieldLink R_Tol 23 "CellSettling$Told" "thicknesses" "[J" ∈ T0 := T0_mem (i := 119) rfl rfl
theorem q_fn_Cel_224 : Cond.fieldLinkNest R_Cel 224 "CellSettling$Told" "thicknesses" "[J" R_Cel ∈ nestW := nestW_mem (i := 120) rfl rfl
theorem q_fl_Tol_26 : Cond.fieldLink R_Tol 26 "CellSettling$Told" "count" "I" ∈ T0 := T0_mem (i := 121) rfl rfl
theorem q_fn_Cel_197 : Cond.fieldLinkNest R_Cel 197 "CellSettling$Told" "count" "I" R_Cel ∈ nestW := nestW_mem (i := 122) rfl rfl
theorem q_kl_Cel_42 : Cond.classLink R_Cel 42 R_Sur ∈ T0 := T0_mem (i := 136) rfl rfl
theorem q_kl_Cel_48 : Cond.classLink R_Cel 48 R_Pha ∈ T0 := T0_mem (i := 138) rfl rfl
theorem q_fl_Cel_15 : Cond.fieldLink R_Cel 15 "CellSettling" "side" "I" ∈ T0 := T0_mem (i := 140) rfl rfl
theorem q_fl_Cel_23 : Cond.fieldLink R_Cel 23 "CellSettling" "columns" "[LCellSettling$Column;" ∈ T0 := T0_mem (i := 141) rfl rfl
theorem q_fl_Cel_30 : Cond.fieldLink R_Cel 30 "CellSettling" "kinds" "[LCellSettling$Kind;" ∈ T0 := T0_mem (i := 142) rfl rfl
theorem q_fl_Cel_38 : Cond.fieldLink R_Cel 38 "CellSettling" "told" "LCellSettling$Told;" ∈ T0 := T0_mem (i := 143) rfl rfl
theorem q_fl_Cel_44 : Cond.fieldLink R_Cel 44 "CellSettling" "surfaces" "[LCellSettling$Surface;" ∈ T0 := T0_mem (i := 144) rfl rfl
theorem q_fl_Cel_50 : Cond.fieldLink R_Cel 50 "CellSettling" "phases" "[LCellSettling$Phase;" ∈ T0 := T0_mem (i := 145) rfl rfl
theorem q_fl_Cel_120 : Cond.fieldLink R_Cel 120 "CellSettling" "surfaceCount" "I" ∈ T0 := T0_mem (i := 146) rfl rfl
theorem q_fl_Cel_154 : Cond.fieldLink R_Cel 154 "CellSettling" "phaseCount" "I" ∈ T0 := T0_mem (i := 147) rfl rfl
theorem q_fl_Cel_93 : Cond.fieldLink R_Cel 93 "CellSettling" "year" "I" ∈ T0 := T0_mem (i := 148) rfl rfl
theorem q_fl_Cel_100 : Cond.fieldLink R_Cel 100 "CellSettling" "surveyCount" "I" ∈ T0 := T0_mem (i := 149) rfl rfl
theorem q_fl_Cel_180 : Cond.fieldLink R_Cel 180 "CellSettling" "squares" "J" ∈ T0 := T0_mem (i := 150) rfl rfl
theorem q_ml_Law_21 : Cond.methodLink R_Law 21 y_Cel_density ∈ T0 := T0_mem (i := 174) rfl rfl
theorem q_im_Cel_density : Cond.instanceMethod y_Cel_density ∈ T0 := T0_mem (i := 175) rfl rfl
theorem q_se_Cel_density : Cond.selects R_Cel y_Cel_density y_Cel_density ∈ T0 := T0_mem (i := 176) rfl rfl
theorem q_co_Cel_density : Cond.code y_Cel_density b_Cel_density 4 (some .boolean) ∈ T0 := T0_mem (i := 177) rfl rfl
theorem q_ml_Cel_54 : Cond.methodLink R_Cel 54 y_Cel_kindAt ∈ T0 := T0_mem (i := 178) rfl rfl
theorem q_im_Cel_kindAt : Cond.instanceMethod y_Cel_kindAt ∈ T0 := T0_mem (i := 180) rfl rfl
theorem q_co_Cel_kindAt : Cond.code y_Cel_kindAt b_Cel_kindAt 2 (some (.object "CellSettling$Kind")) ∈ T0 := T0_mem (i := 181) rfl rfl
theorem q_cl_Cel_259 : Cond.constantLong R_Cel 259 (3 : Int64) ∈ T0 := T0_mem (i := 182) rfl rfl
theorem q_cl_Cel_58 : Cond.constantLong R_Cel 58 (3000 : Int64) ∈ T0 := T0_mem (i := 183) rfl rfl
theorem q_ml_Law_28 : Cond.methodLink R_Law 28 y_Cel_row ∈ T0 := T0_mem (i := 184) rfl rfl
theorem q_im_Cel_row : Cond.instanceMethod y_Cel_row ∈ T0 := T0_mem (i := 185) rfl rfl
theorem q_se_Cel_row : Cond.selects R_Cel y_Cel_row y_Cel_row ∈ T0 := T0_mem (i := 186) rfl rfl
theorem q_co_Cel_row : Cond.code y_Cel_row b_Cel_row 6 (some .boolean) ∈ T0 := T0_mem (i := 187) rfl rfl
theorem q_ml_Cel_63 : Cond.methodLink R_Cel 63 y_Kin_takesRow ∈ T0 := T0_mem (i := 188) rfl rfl
theorem q_im_Kin_takesRow : Cond.instanceMethod y_Kin_takesRow ∈ T0 := T0_mem (i := 189) rfl rfl
theorem q_se_Kin_takesRow : Cond.selects R_Kin y_Kin_takesRow y_Kin_takesRow ∈ T0 := T0_mem (i := 190) rfl rfl
theorem q_co_Kin_takesRow : Cond.code y_Kin_takesRow b_Kin_takesRow 4 (some .boolean) ∈ T0 := T0_mem (i := 191) rfl rfl
theorem q_cl_Kin_27 : Cond.constantLong R_Kin 27 (100000000 : Int64) ∈ T0 := T0_mem (i := 192) rfl rfl
theorem q_mn_Kin_29 : Cond.methodLinkNest R_Kin 29 y_Cel_isWithin R_Cel ∈ nestW := nestW_mem (i := 193) rfl rfl
theorem q_cl_Kin_35 : Cond.constantLong R_Kin 35 (300 : Int64) ∈ T0 := T0_mem (i := 194) rfl rfl
theorem q_ml_Cel_67 : Cond.methodLink R_Cel 67 y_Tol_isFull ∈ T0 := T0_mem (i := 195) rfl rfl
theorem q_im_Tol_isFull : Cond.instanceMethod y_Tol_isFull ∈ T0 := T0_mem (i := 196) rfl rfl
theorem q_se_Tol_isFull : Cond.selects R_Tol y_Tol_isFull y_Tol_isFull ∈ T0 := T0_mem (i := 197) rfl rfl
theorem q_co_Tol_isFull : Cond.code y_Tol_isFull b_Tol_isFull 1 (some .boolean) ∈ T0 := T0_mem (i := 198) rfl rfl
theorem q_ml_Cel_71 : Cond.methodLink R_Cel 71 y_Cel_tell ∈ T0 := T0_mem (i := 199) rfl rfl
theorem q_im_Cel_tell : Cond.instanceMethod y_Cel_tell ∈ T0 := T0_mem (i := 201) rfl rfl
theorem q_co_Cel_tell : Cond.code y_Cel_tell b_Cel_tell 8 none ∈ T0 := T0_mem (i := 202) rfl rfl
theorem q_ml_Cel_204 : Cond.methodLink R_Cel 204 y_Tol_add ∈ T0 := T0_mem (i := 203) rfl rfl
theorem q_im_Tol_add : Cond.instanceMethod y_Tol_add ∈ T0 := T0_mem (i := 204) rfl rfl
theorem q_se_Tol_add : Cond.selects R_Tol y_Tol_add y_Tol_add ∈ T0 := T0_mem (i := 205) rfl rfl
theorem q_co_Tol_add : Cond.code y_Tol_add b_Tol_add 8 none ∈ T0 := T0_mem (i := 206) rfl rfl
theorem q_ml_Tol_30 : Cond.methodLink R_Tol 30 y_Tol_isFull ∈ T0 := T0_mem (i := 207) rfl rfl
theorem q_ml_Cel_200 : Cond.methodLink R_Cel 200 y_Cel_carryOut ∈ T0 := T0_mem (i := 208) rfl rfl
theorem q_im_Cel_carryOut : Cond.instanceMethod y_Cel_carryOut ∈ T0 := T0_mem (i := 210) rfl rfl
theorem q_co_Cel_carryOut : Cond.code y_Cel_carryOut b_Cel_carryOut 4 none ∈ T0 := T0_mem (i := 211) rfl rfl
theorem q_ml_Cel_220 : Cond.methodLink R_Cel 220 y_Kin_addRow ∈ T0 := T0_mem (i := 212) rfl rfl
theorem q_im_Kin_addRow : Cond.instanceMethod y_Kin_addRow ∈ T0 := T0_mem (i := 213) rfl rfl
theorem q_se_Kin_addRow : Cond.selects R_Kin y_Kin_addRow y_Kin_addRow ∈ T0 := T0_mem (i := 214) rfl rfl
theorem q_co_Kin_addRow : Cond.code y_Kin_addRow b_Kin_addRow 4 none ∈ T0 := T0_mem (i := 215) rfl rfl
theorem q_ml_Cel_225 : Cond.methodLink R_Cel 225 y_Col_lay ∈ T0 := T0_mem (i := 216) rfl rfl
theorem q_im_Col_lay : Cond.instanceMethod y_Col_lay ∈ T0 := T0_mem (i := 217) rfl rfl
theorem q_se_Col_lay : Cond.selects R_Col y_Col_lay y_Col_lay ∈ T0 := T0_mem (i := 218) rfl rfl
theorem q_co_Col_lay : Cond.code y_Col_lay b_Col_lay 6 none ∈ T0 := T0_mem (i := 219) rfl rfl
theorem q_ml_Col_32 : Cond.methodLink R_Col 32 y_Col_isFull ∈ T0 := T0_mem (i := 220) rfl rfl
theorem q_im_Col_isFull : Cond.instanceMethod y_Col_isFull ∈ T0 := T0_mem (i := 221) rfl rfl
theorem q_se_Col_isFull : Cond.selects R_Col y_Col_isFull y_Col_isFull ∈ T0 := T0_mem (i := 222) rfl rfl
theorem q_co_Col_isFull : Cond.code y_Col_isFull b_Col_isFull 1 (some .boolean) ∈ T0 := T0_mem (i := 223) rfl rfl
theorem q_ml_Cel_229 : Cond.methodLink R_Cel 229 y_Col_press ∈ T0 := T0_mem (i := 224) rfl rfl
theorem q_im_Col_press : Cond.instanceMethod y_Col_press ∈ T0 := T0_mem (i := 225) rfl rfl
theorem q_se_Col_press : Cond.selects R_Col y_Col_press y_Col_press ∈ T0 := T0_mem (i := 226) rfl rfl
theorem q_co_Col_press : Cond.code y_Col_press b_Col_press 4 none ∈ T0 := T0_mem (i := 227) rfl rfl
theorem q_ml_Cel_232 : Cond.methodLink R_Cel 232 y_Cel_passYears ∈ T0 := T0_mem (i := 228) rfl rfl
theorem q_im_Cel_passYears : Cond.instanceMethod y_Cel_passYears ∈ T0 := T0_mem (i := 230) rfl rfl
theorem q_co_Cel_passYears : Cond.code y_Cel_passYears b_Cel_passYears 3 none ∈ T0 := T0_mem (i := 231) rfl rfl
theorem q_ml_Cel_239 : Cond.methodLink R_Cel 239 y_Col_settle ∈ T0 := T0_mem (i := 232) rfl rfl
theorem q_im_Col_settle : Cond.instanceMethod y_Col_settle ∈ T0 := T0_mem (i := 233) rfl rfl
theorem q_se_Col_settle : Cond.selects R_Col y_Col_settle y_Col_settle ∈ T0 := T0_mem (i := 234) rfl rfl
theorem q_co_Col_settle : Cond.code y_Col_settle b_Col_settle 8 none ∈ T0 := T0_mem (i := 235) rfl rfl
theorem q_ml_Col_36 : Cond.methodLink R_Col 36 y_Kin_yearlyMillionths ∈ T0 := T0_mem (i := 236) rfl rfl
theorem q_im_Kin_yearlyMillionths : Cond.instanceMethod y_Kin_yearlyMillionths ∈ T0 := T0_mem (i := 237) rfl rfl
theorem q_se_Kin_yearlyMillionths : Cond.selects R_Kin y_Kin_yearlyMillionths y_Kin_yearlyMillionths ∈ T0 := T0_mem (i := 238) rfl rfl
theorem q_co_Kin_yearlyMillionths : Cond.code y_Kin_yearlyMillionths b_Kin_yearlyMillionths 4 (some .long) ∈ T0 := T0_mem (i := 239) rfl rfl
theorem q_ml_Col_42 : Cond.methodLink R_Col 42 y_Col_settled ∈ T0 := T0_mem (i := 240) rfl rfl
theorem q_st_Col_settled : Cond.static y_Col_settled ∈ T0 := T0_mem (i := 241) rfl rfl
theorem q_co_Col_settled : Cond.code y_Col_settled b_Col_settled 10 (some .long) ∈ T0 := T0_mem (i := 242) rfl rfl
theorem q_cl_Col_46 : Cond.constantLong R_Col 46 (1000000 : Int64) ∈ T0 := T0_mem (i := 243) rfl rfl
theorem q_ml_Cel_235 : Cond.methodLink R_Cel 235 y_Cel_compare ∈ T0 := T0_mem (i := 244) rfl rfl
theorem q_im_Cel_compare : Cond.instanceMethod y_Cel_compare ∈ T0 := T0_mem (i := 246) rfl rfl
theorem q_co_Cel_compare : Cond.code y_Cel_compare b_Cel_compare 8 none ∈ T0 := T0_mem (i := 247) rfl rfl
theorem q_ml_Cel_105 : Cond.methodLink R_Cel 105 y_Col_top ∈ T0 := T0_mem (i := 248) rfl rfl
theorem q_im_Col_top : Cond.instanceMethod y_Col_top ∈ T0 := T0_mem (i := 249) rfl rfl
theorem q_se_Col_top : Cond.selects R_Col y_Col_top y_Col_top ∈ T0 := T0_mem (i := 250) rfl rfl
theorem q_co_Col_top : Cond.code y_Col_top b_Col_top 4 (some .long) ∈ T0 := T0_mem (i := 251) rfl rfl
theorem q_cl_Col_48 : Cond.constantLong R_Col 48 (1000 : Int64) ∈ T0 := T0_mem (i := 252) rfl rfl
theorem q_cl_Cel_243 : Cond.constantLong R_Cel 243 (1000 : Int64) ∈ T0 := T0_mem (i := 253) rfl rfl
theorem q_cl_Cel_245 : Cond.constantLong R_Cel 245 (-1000000 : Int64) ∈ T0 := T0_mem (i := 254) rfl rfl
theorem q_cl_Cel_79 : Cond.constantLong R_Cel 79 (1000000 : Int64) ∈ T0 := T0_mem (i := 255) rfl rfl
theorem q_ml_Cel_247 : Cond.methodLink R_Cel 247 ⟨"java/lang/Math", "min", "(JJ)J"⟩ ∈ T0 := T0_mem (i := 256) rfl rfl
theorem q_st_Math_min : Cond.static ⟨"java/lang/Math", "min", "(JJ)J"⟩ ∈ T0 := T0_mem (i := 257) rfl rfl
theorem q_co_Math_min : Cond.code ⟨"java/lang/Math", "min", "(JJ)J"⟩ prog_9_method_70_code 4 (some .long) ∈ T0 := T0_mem (i := 258) rfl rfl
theorem q_ml_Cel_253 : Cond.methodLink R_Cel 253 ⟨"java/lang/Math", "max", "(JJ)J"⟩ ∈ T0 := T0_mem (i := 259) rfl rfl
theorem q_st_Math_max : Cond.static ⟨"java/lang/Math", "max", "(JJ)J"⟩ ∈ T0 := T0_mem (i := 260) rfl rfl
theorem q_co_Math_max : Cond.code ⟨"java/lang/Math", "max", "(JJ)J"⟩ prog_9_method_66_code 4 (some .long) ∈ T0 := T0_mem (i := 261) rfl rfl
theorem q_ml_Law_33 : Cond.methodLink R_Law 33 y_Cel_layer ∈ T0 := T0_mem (i := 262) rfl rfl
theorem q_im_Cel_layer : Cond.instanceMethod y_Cel_layer ∈ T0 := T0_mem (i := 263) rfl rfl
theorem q_se_Cel_layer : Cond.selects R_Cel y_Cel_layer y_Cel_layer ∈ T0 := T0_mem (i := 264) rfl rfl
theorem q_co_Cel_layer : Cond.code y_Cel_layer b_Cel_layer 7 (some .int) ∈ T0 := T0_mem (i := 265) rfl rfl
theorem q_ml_Cel_75 : Cond.methodLink R_Cel 75 y_Cel_columnAt ∈ T0 := T0_mem (i := 266) rfl rfl
theorem q_im_Cel_columnAt : Cond.instanceMethod y_Cel_columnAt ∈ T0 := T0_mem (i := 268) rfl rfl
theorem q_co_Cel_columnAt : Cond.code y_Cel_columnAt b_Cel_columnAt 2 (some (.object "CellSettling$Column")) ∈ T0 := T0_mem (i := 269) rfl rfl
theorem q_ml_Cel_81 : Cond.methodLink R_Cel 81 y_Col_isFull ∈ T0 := T0_mem (i := 270) rfl rfl
theorem q_ml_Cel_82 : Cond.methodLink R_Cel 82 y_Cel_firstThickness ∈ T0 := T0_mem (i := 271) rfl rfl
theorem q_im_Cel_firstThickness : Cond.instanceMethod y_Cel_firstThickness ∈ T0 := T0_mem (i := 273) rfl rfl
theorem q_co_Cel_firstThickness : Cond.code y_Cel_firstThickness b_Cel_firstThickness 4 (some .long) ∈ T0 := T0_mem (i := 274) rfl rfl
theorem q_ml_Law_38 : Cond.methodLink R_Law 38 y_Cel_roll ∈ T0 := T0_mem (i := 275) rfl rfl
theorem q_im_Cel_roll : Cond.instanceMethod y_Cel_roll ∈ T0 := T0_mem (i := 276) rfl rfl
theorem q_se_Cel_roll : Cond.selects R_Cel y_Cel_roll y_Cel_roll ∈ T0 := T0_mem (i := 277) rfl rfl
theorem q_co_Cel_roll : Cond.code y_Cel_roll b_Cel_roll 4 (some .boolean) ∈ T0 := T0_mem (i := 278) rfl rfl
theorem q_cl_Cel_89 : Cond.constantLong R_Cel 89 (20 : Int64) ∈ T0 := T0_mem (i := 279) rfl rfl
theorem q_ml_Law_42 : Cond.methodLink R_Law 42 y_Cel_run ∈ T0 := T0_mem (i := 280) rfl rfl
theorem q_im_Cel_run : Cond.instanceMethod y_Cel_run ∈ T0 := T0_mem (i := 281) rfl rfl
theorem q_se_Cel_run : Cond.selects R_Cel y_Cel_run y_Cel_run ∈ T0 := T0_mem (i := 282) rfl rfl
theorem q_co_Cel_run : Cond.code y_Cel_run b_Cel_run 2 (some .int) ∈ T0 := T0_mem (i := 283) rfl rfl
theorem q_cl_Cel_91 : Cond.constantLong R_Cel 91 (50 : Int64) ∈ T0 := T0_mem (i := 284) rfl rfl
theorem q_ml_Law_47 : Cond.methodLink R_Law 47 y_Cel_cover ∈ T0 := T0_mem (i := 285) rfl rfl
theorem q_im_Cel_cover : Cond.instanceMethod y_Cel_cover ∈ T0 := T0_mem (i := 286) rfl rfl
theorem q_se_Cel_cover : Cond.selects R_Cel y_Cel_cover y_Cel_cover ∈ T0 := T0_mem (i := 287) rfl rfl
theorem q_co_Cel_cover : Cond.code y_Cel_cover b_Cel_cover 3 (some .boolean) ∈ T0 := T0_mem (i := 288) rfl rfl
theorem q_cl_Cel_96 : Cond.constantLong R_Cel 96 (10000 : Int64) ∈ T0 := T0_mem (i := 289) rfl rfl
theorem q_ml_Law_51 : Cond.methodLink R_Law 51 y_Cel_survey ∈ T0 := T0_mem (i := 290) rfl rfl
theorem q_im_Cel_survey : Cond.instanceMethod y_Cel_survey ∈ T0 := T0_mem (i := 291) rfl rfl
theorem q_se_Cel_survey : Cond.selects R_Cel y_Cel_survey y_Cel_survey ∈ T0 := T0_mem (i := 292) rfl rfl
theorem q_co_Cel_survey : Cond.code y_Cel_survey b_Cel_survey 4 (some .int) ∈ T0 := T0_mem (i := 293) rfl rfl
theorem q_cl_Cel_98 : Cond.constantLong R_Cel 98 (1000000000 : Int64) ∈ T0 := T0_mem (i := 294) rfl rfl
theorem q_ml_Law_56 : Cond.methodLink R_Law 56 y_Cel_height ∈ T0 := T0_mem (i := 295) rfl rfl
theorem q_im_Cel_height : Cond.instanceMethod y_Cel_height ∈ T0 := T0_mem (i := 296) rfl rfl
theorem q_se_Cel_height : Cond.selects R_Cel y_Cel_height y_Cel_height ∈ T0 := T0_mem (i := 297) rfl rfl
theorem q_co_Cel_height : Cond.code y_Cel_height b_Cel_height 3 (some .long) ∈ T0 := T0_mem (i := 298) rfl rfl
theorem q_cl_Cel_103 : Cond.constantLong R_Cel 103 (-1 : Int64) ∈ T0 := T0_mem (i := 299) rfl rfl
theorem q_ml_Law_61 : Cond.methodLink R_Law 61 y_Cel_thickness ∈ T0 := T0_mem (i := 300) rfl rfl
theorem q_im_Cel_thickness : Cond.instanceMethod y_Cel_thickness ∈ T0 := T0_mem (i := 301) rfl rfl
theorem q_se_Cel_thickness : Cond.selects R_Cel y_Cel_thickness y_Cel_thickness ∈ T0 := T0_mem (i := 302) rfl rfl
theorem q_co_Cel_thickness : Cond.code y_Cel_thickness b_Cel_thickness 4 (some .long) ∈ T0 := T0_mem (i := 303) rfl rfl
theorem q_ml_Law_66 : Cond.methodLink R_Law 66 y_Cel_mass ∈ T0 := T0_mem (i := 304) rfl rfl
theorem q_im_Cel_mass : Cond.instanceMethod y_Cel_mass ∈ T0 := T0_mem (i := 305) rfl rfl
theorem q_se_Cel_mass : Cond.selects R_Cel y_Cel_mass y_Cel_mass ∈ T0 := T0_mem (i := 306) rfl rfl
theorem q_co_Cel_mass : Cond.code y_Cel_mass b_Cel_mass 4 (some .long) ∈ T0 := T0_mem (i := 307) rfl rfl
theorem q_ml_Cel_113 : Cond.methodLink R_Cel 113 y_Col_kilogramsOf ∈ T0 := T0_mem (i := 308) rfl rfl
theorem q_im_Col_kilogramsOf : Cond.instanceMethod y_Col_kilogramsOf ∈ T0 := T0_mem (i := 309) rfl rfl
theorem q_se_Col_kilogramsOf : Cond.selects R_Col y_Col_kilogramsOf y_Col_kilogramsOf ∈ T0 := T0_mem (i := 310) rfl rfl
theorem q_co_Col_kilogramsOf : Cond.code y_Col_kilogramsOf b_Col_kilogramsOf 5 (some .long) ∈ T0 := T0_mem (i := 311) rfl rfl
theorem q_ml_Law_70 : Cond.methodLink R_Law 70 y_Cel_covered ∈ T0 := T0_mem (i := 312) rfl rfl
theorem q_im_Cel_covered : Cond.instanceMethod y_Cel_covered ∈ T0 := T0_mem (i := 313) rfl rfl
theorem q_se_Cel_covered : Cond.selects R_Cel y_Cel_covered y_Cel_covered ∈ T0 := T0_mem (i := 314) rfl rfl
theorem q_co_Cel_covered : Cond.code y_Cel_covered b_Cel_covered 3 (some .int) ∈ T0 := T0_mem (i := 315) rfl rfl
theorem q_ml_Law_74 : Cond.methodLink R_Law 74 y_Cel_surface ∈ T0 := T0_mem (i := 316) rfl rfl
theorem q_im_Cel_surface : Cond.instanceMethod y_Cel_surface ∈ T0 := T0_mem (i := 317) rfl rfl
theorem q_se_Cel_surface : Cond.selects R_Cel y_Cel_surface y_Cel_surface ∈ T0 := T0_mem (i := 318) rfl rfl
theorem q_co_Cel_surface : Cond.code y_Cel_surface b_Cel_surface 1 (some .int) ∈ T0 := T0_mem (i := 319) rfl rfl
theorem q_mk_Sur : Cond.instantiable R_Sur 2 ∈ T0 := T0_mem (i := 320) rfl rfl
theorem q_mn_Cel_123 : Cond.methodLinkNest R_Cel 123 y_Sur_init R_Cel ∈ nestW := nestW_mem (i := 321) rfl rfl
theorem q_im_Sur_init : Cond.instanceMethod y_Sur_init ∈ T0 := T0_mem (i := 322) rfl rfl
theorem q_co_Sur_init : Cond.code y_Sur_init b_Sur_init 1 none ∈ T0 := T0_mem (i := 323) rfl rfl
theorem q_ml_Sur_1 : Cond.methodLink R_Sur 1 objectInit ∈ T0 := T0_mem (i := 324) rfl rfl
theorem q_fl_Sur_9 : Cond.fieldLink R_Sur 9 "CellSettling$Surface" "heights" "[I" ∈ T0 := T0_mem (i := 325) rfl rfl
theorem q_fl_Sur_13 : Cond.fieldLink R_Sur 13 "CellSettling$Surface" "isTold" "[Z" ∈ T0 := T0_mem (i := 326) rfl rfl
theorem q_ac_boolean : Cond.arrayClass .boolean ∈ T0 := T0_mem (i := 332) rfl rfl
theorem q_ml_Law_79 : Cond.methodLink R_Law 79 y_Cel_point ∈ T0 := T0_mem (i := 333) rfl rfl
theorem q_im_Cel_point : Cond.instanceMethod y_Cel_point ∈ T0 := T0_mem (i := 334) rfl rfl
theorem q_se_Cel_point : Cond.selects R_Cel y_Cel_point y_Cel_point ∈ T0 := T0_mem (i := 335) rfl rfl
theorem q_co_Cel_point : Cond.code y_Cel_point b_Cel_point 6 (some .boolean) ∈ T0 := T0_mem (i := 336) rfl rfl
theorem q_ml_Cel_124 : Cond.methodLink R_Cel 124 y_Cel_surfaceAt ∈ T0 := T0_mem (i := 337) rfl rfl
theorem q_im_Cel_surfaceAt : Cond.instanceMethod y_Cel_surfaceAt ∈ T0 := T0_mem (i := 339) rfl rfl
theorem q_co_Cel_surfaceAt : Cond.code y_Cel_surfaceAt b_Cel_surfaceAt 2 (some (.object "CellSettling$Surface")) ∈ T0 := T0_mem (i := 340) rfl rfl
theorem q_ml_Cel_128 : Cond.methodLink R_Cel 128 y_Sur_isPlace ∈ T0 := T0_mem (i := 341) rfl rfl
theorem q_st_Sur_isPlace : Cond.static y_Sur_isPlace ∈ T0 := T0_mem (i := 342) rfl rfl
theorem q_co_Sur_isPlace : Cond.code y_Sur_isPlace b_Sur_isPlace 2 (some .boolean) ∈ T0 := T0_mem (i := 343) rfl rfl
theorem q_cl_Sur_17 : Cond.constantLong R_Sur 17 (4 : Int64) ∈ T0 := T0_mem (i := 344) rfl rfl
theorem q_mn_Sur_19 : Cond.methodLinkNest R_Sur 19 y_Cel_isWithin R_Cel ∈ nestW := nestW_mem (i := 345) rfl rfl
theorem q_cl_Cel_132 : Cond.constantLong R_Cel 132 (-100000 : Int64) ∈ T0 := T0_mem (i := 346) rfl rfl
theorem q_cl_Cel_134 : Cond.constantLong R_Cel 134 (100000 : Int64) ∈ T0 := T0_mem (i := 347) rfl rfl
theorem q_ml_Cel_136 : Cond.methodLink R_Cel 136 y_Sur_put ∈ T0 := T0_mem (i := 348) rfl rfl
theorem q_im_Sur_put : Cond.instanceMethod y_Sur_put ∈ T0 := T0_mem (i := 349) rfl rfl
theorem q_se_Sur_put : Cond.selects R_Sur y_Sur_put y_Sur_put ∈ T0 := T0_mem (i := 350) rfl rfl
theorem q_co_Sur_put : Cond.code y_Sur_put b_Sur_put 5 none ∈ T0 := T0_mem (i := 351) rfl rfl
theorem q_ml_Law_84 : Cond.methodLink R_Law 84 y_Cel_room ∈ T0 := T0_mem (i := 352) rfl rfl
theorem q_im_Cel_room : Cond.instanceMethod y_Cel_room ∈ T0 := T0_mem (i := 353) rfl rfl
theorem q_se_Cel_room : Cond.selects R_Cel y_Cel_room y_Cel_room ∈ T0 := T0_mem (i := 354) rfl rfl
theorem q_co_Cel_room : Cond.code y_Cel_room b_Cel_room 10 (some .long) ∈ T0 := T0_mem (i := 355) rfl rfl
theorem q_cl_Cel_142 : Cond.constantLong R_Cel 142 (-9223372036854775808 : Int64) ∈ T0 := T0_mem (i := 356) rfl rfl
theorem q_ml_Cel_144 : Cond.methodLink R_Cel 144 y_Sur_sixfoldTo ∈ T0 := T0_mem (i := 357) rfl rfl
theorem q_im_Sur_sixfoldTo : Cond.instanceMethod y_Sur_sixfoldTo ∈ T0 := T0_mem (i := 358) rfl rfl
theorem q_se_Sur_sixfoldTo : Cond.selects R_Sur y_Sur_sixfoldTo y_Sur_sixfoldTo ∈ T0 := T0_mem (i := 359) rfl rfl
theorem q_co_Sur_sixfoldTo : Cond.code y_Sur_sixfoldTo b_Sur_sixfoldTo 6 (some .long) ∈ T0 := T0_mem (i := 360) rfl rfl
theorem q_ml_Sur_25 : Cond.methodLink R_Sur 25 y_Sur_sixfoldOfSquare ∈ T0 := T0_mem (i := 361) rfl rfl
theorem q_im_Sur_sixfoldOfSquare : Cond.instanceMethod y_Sur_sixfoldOfSquare ∈ T0 := T0_mem (i := 363) rfl rfl
theorem q_co_Sur_sixfoldOfSquare : Cond.code y_Sur_sixfoldOfSquare b_Sur_sixfoldOfSquare 6 (some .long) ∈ T0 := T0_mem (i := 364) rfl rfl
theorem q_ml_Sur_29 : Cond.methodLink R_Sur 29 y_Sur_inBoth ∈ T0 := T0_mem (i := 365) rfl rfl
theorem q_im_Sur_inBoth : Cond.instanceMethod y_Sur_inBoth ∈ T0 := T0_mem (i := 367) rfl rfl
theorem q_co_Sur_inBoth : Cond.code y_Sur_inBoth b_Sur_inBoth 3 (some .boolean) ∈ T0 := T0_mem (i := 368) rfl rfl
theorem q_cl_Sur_33 : Cond.constantLong R_Sur 33 (2 : Int64) ∈ T0 := T0_mem (i := 369) rfl rfl
theorem q_ml_Sur_35 : Cond.methodLink R_Sur 35 y_Sur_rise ∈ T0 := T0_mem (i := 370) rfl rfl
theorem q_im_Sur_rise : Cond.instanceMethod y_Sur_rise ∈ T0 := T0_mem (i := 372) rfl rfl
theorem q_co_Sur_rise : Cond.code y_Sur_rise b_Sur_rise 3 (some .long) ∈ T0 := T0_mem (i := 373) rfl rfl
theorem q_ml_Cel_148 : Cond.methodLink R_Cel 148 y_Cel_sharedWithSix ∈ T0 := T0_mem (i := 374) rfl rfl
theorem q_st_Cel_sharedWithSix : Cond.static y_Cel_sharedWithSix ∈ T0 := T0_mem (i := 375) rfl rfl
theorem q_co_Cel_sharedWithSix : Cond.code y_Cel_sharedWithSix b_Cel_sharedWithSix 2 (some .long) ∈ T0 := T0_mem (i := 376) rfl rfl
theorem q_cl_Cel_261 : Cond.constantLong R_Cel 261 (2 : Int64) ∈ T0 := T0_mem (i := 377) rfl rfl
theorem q_cl_Cel_152 : Cond.constantLong R_Cel 152 (6 : Int64) ∈ T0 := T0_mem (i := 378) rfl rfl
theorem q_ml_Law_89 : Cond.methodLink R_Law 89 y_Cel_phase ∈ T0 := T0_mem (i := 379) rfl rfl
theorem q_im_Cel_phase : Cond.instanceMethod y_Cel_phase ∈ T0 := T0_mem (i := 380) rfl rfl
theorem q_se_Cel_phase : Cond.selects R_Cel y_Cel_phase y_Cel_phase ∈ T0 := T0_mem (i := 381) rfl rfl
theorem q_co_Cel_phase : Cond.code y_Cel_phase b_Cel_phase 5 (some .int) ∈ T0 := T0_mem (i := 382) rfl rfl
theorem q_mk_Pha : Cond.instantiable R_Pha 3 ∈ T0 := T0_mem (i := 383) rfl rfl
theorem q_ml_Cel_157 : Cond.methodLink R_Cel 157 y_Pha_init ∈ T0 := T0_mem (i := 384) rfl rfl
theorem q_im_Pha_init : Cond.instanceMethod y_Pha_init ∈ T0 := T0_mem (i := 385) rfl rfl
theorem q_co_Pha_init : Cond.code y_Pha_init b_Pha_init 5 none ∈ T0 := T0_mem (i := 386) rfl rfl
theorem q_ml_Pha_1 : Cond.methodLink R_Pha 1 objectInit ∈ T0 := T0_mem (i := 387) rfl rfl
theorem q_fl_Pha_7 : Cond.fieldLink R_Pha 7 "CellSettling$Phase" "from" "I" ∈ T0 := T0_mem (i := 388) rfl rfl
theorem q_fn_Cel_164 : Cond.fieldLinkNest R_Cel 164 "CellSettling$Phase" "from" "I" R_Cel ∈ nestW := nestW_mem (i := 389) rfl rfl
theorem q_fl_Pha_13 : Cond.fieldLink R_Pha 13 "CellSettling$Phase" "to" "I" ∈ T0 := T0_mem (i := 390) rfl rfl
theorem q_fn_Cel_167 : Cond.fieldLinkNest R_Cel 167 "CellSettling$Phase" "to" "I" R_Cel ∈ nestW := nestW_mem (i := 391) rfl rfl
theorem q_fl_Pha_16 : Cond.fieldLink R_Pha 16 "CellSettling$Phase" "slope" "J" ∈ T0 := T0_mem (i := 392) rfl rfl
theorem q_fn_Cel_173 : Cond.fieldLinkNest R_Cel 173 "CellSettling$Phase" "slope" "J" R_Cel ∈ nestW := nestW_mem (i := 393) rfl rfl
set_option maxRecDepth 20000 in
theorem q_ml_Law_93 : Cond.methodLink R_Law 93 y_Cel_kept ∈ T0 := T0_mem (i := 401) rfl rfl
set_option maxRecDepth 20000 in
theorem q_im_Cel_kept : Cond.instanceMethod y_Cel_kept ∈ T0 := T0_mem (i := 402) rfl rfl
set_option maxRecDepth 20000 in
theorem q_se_Cel_kept : Cond.selects R_Cel y_Cel_kept y_Cel_kept ∈ T0 := T0_mem (i := 403) rfl rfl
set_option maxRecDepth 20000 in
theorem q_co_Cel_kept : Cond.code y_Cel_kept b_Cel_kept 4 (some .boolean) ∈ T0 := T0_mem (i := 404) rfl rfl
set_option maxRecDepth 20000 in
theorem q_ml_Cel_160 : Cond.methodLink R_Cel 160 y_Cel_phaseAt ∈ T0 := T0_mem (i := 405) rfl rfl
set_option maxRecDepth 20000 in
theorem q_im_Cel_phaseAt : Cond.instanceMethod y_Cel_phaseAt ∈ T0 := T0_mem (i := 407) rfl rfl
set_option maxRecDepth 20000 in
theorem q_co_Cel_phaseAt : Cond.code y_Cel_phaseAt b_Cel_phaseAt 2 (some (.object "CellSettling$Phase")) ∈ T0 := T0_mem (i := 408) rfl rfl
set_option maxRecDepth 20000 in
theorem q_ml_Cel_170 : Cond.methodLink R_Cel 170 y_Cel_stepBehind ∈ T0 := T0_mem (i := 409) rfl rfl
set_option maxRecDepth 20000 in
theorem q_im_Cel_stepBehind : Cond.instanceMethod y_Cel_stepBehind ∈ T0 := T0_mem (i := 411) rfl rfl
set_option maxRecDepth 20000 in
theorem q_co_Cel_stepBehind : Cond.code y_Cel_stepBehind b_Cel_stepBehind 2 (some .long) ∈ T0 := T0_mem (i := 412) rfl rfl
set_option maxRecDepth 20000 in
theorem q_ml_Cel_256 : Cond.methodLink R_Cel 256 ⟨"java/lang/Math", "abs", "(J)J"⟩ ∈ T0 := T0_mem (i := 413) rfl rfl
set_option maxRecDepth 20000 in
theorem q_st_Math_abs : Cond.static ⟨"java/lang/Math", "abs", "(J)J"⟩ ∈ T0 := T0_mem (i := 414) rfl rfl
set_option maxRecDepth 20000 in
theorem q_co_Math_abs : Cond.code ⟨"java/lang/Math", "abs", "(J)J"⟩ prog_9_method_61_code 2 (some .long) ∈ T0 := T0_mem (i := 415) rfl rfl
set_option maxRecDepth 20000 in
theorem q_ml_Law_98 : Cond.methodLink R_Law 98 y_Cel_crack ∈ T0 := T0_mem (i := 416) rfl rfl
set_option maxRecDepth 20000 in
theorem q_im_Cel_crack : Cond.instanceMethod y_Cel_crack ∈ T0 := T0_mem (i := 417) rfl rfl
set_option maxRecDepth 20000 in
theorem q_se_Cel_crack : Cond.selects R_Cel y_Cel_crack y_Cel_crack ∈ T0 := T0_mem (i := 418) rfl rfl
set_option maxRecDepth 20000 in
theorem q_co_Cel_crack : Cond.code y_Cel_crack b_Cel_crack 6 (some .int) ∈ T0 := T0_mem (i := 419) rfl rfl
set_option maxRecDepth 20000 in
theorem q_ml_Law_102 : Cond.methodLink R_Law 102 y_Cel_factor ∈ T0 := T0_mem (i := 420) rfl rfl
set_option maxRecDepth 20000 in
theorem q_im_Cel_factor : Cond.instanceMethod y_Cel_factor ∈ T0 := T0_mem (i := 421) rfl rfl
set_option maxRecDepth 20000 in
theorem q_se_Cel_factor : Cond.selects R_Cel y_Cel_factor y_Cel_factor ∈ T0 := T0_mem (i := 422) rfl rfl
set_option maxRecDepth 20000 in
theorem q_co_Cel_factor : Cond.code y_Cel_factor b_Cel_factor 3 (some .int) ∈ T0 := T0_mem (i := 423) rfl rfl
set_option maxRecDepth 20000 in
theorem q_ml_Law_106 : Cond.methodLink R_Law 106 y_Cel_sum ∈ T0 := T0_mem (i := 424) rfl rfl
set_option maxRecDepth 20000 in
theorem q_im_Cel_sum : Cond.instanceMethod y_Cel_sum ∈ T0 := T0_mem (i := 425) rfl rfl
set_option maxRecDepth 20000 in
theorem q_se_Cel_sum : Cond.selects R_Cel y_Cel_sum y_Cel_sum ∈ T0 := T0_mem (i := 426) rfl rfl
set_option maxRecDepth 20000 in
theorem q_co_Cel_sum : Cond.code y_Cel_sum b_Cel_sum 1 (some .long) ∈ T0 := T0_mem (i := 427) rfl rfl
set_option maxRecDepth 20000 in
theorem q_ml_Law_111 : Cond.methodLink R_Law 111 y_Cel_fit ∈ T0 := T0_mem (i := 428) rfl rfl
set_option maxRecDepth 20000 in
theorem q_im_Cel_fit : Cond.instanceMethod y_Cel_fit ∈ T0 := T0_mem (i := 429) rfl rfl
set_option maxRecDepth 20000 in
theorem q_se_Cel_fit : Cond.selects R_Cel y_Cel_fit y_Cel_fit ∈ T0 := T0_mem (i := 430) rfl rfl
set_option maxRecDepth 20000 in
theorem q_co_Cel_fit : Cond.code y_Cel_fit b_Cel_fit 9 (some .int) ∈ T0 := T0_mem (i := 431) rfl rfl
set_option maxRecDepth 20000 in
theorem q_cl_Cel_183 : Cond.constantLong R_Cel 183 (5 : Int64) ∈ T0 := T0_mem (i := 432) rfl rfl
set_option maxRecDepth 20000 in
theorem q_ml_Cel_185 : Cond.methodLink R_Cel 185 y_Cel_leastByKind ∈ T0 := T0_mem (i := 433) rfl rfl
set_option maxRecDepth 20000 in
theorem q_im_Cel_leastByKind : Cond.instanceMethod y_Cel_leastByKind ∈ T0 := T0_mem (i := 435) rfl rfl
set_option maxRecDepth 20000 in
theorem q_co_Cel_leastByKind : Cond.code y_Cel_leastByKind b_Cel_leastByKind 6 (some .long) ∈ T0 := T0_mem (i := 436) rfl rfl
set_option maxRecDepth 20000 in
theorem q_ml_Cel_188 : Cond.methodLink R_Cel 188 y_Cel_doAllAnew ∈ T0 := T0_mem (i := 437) rfl rfl
set_option maxRecDepth 20000 in
theorem q_im_Cel_doAllAnew : Cond.instanceMethod y_Cel_doAllAnew ∈ T0 := T0_mem (i := 439) rfl rfl
set_option maxRecDepth 20000 in
theorem q_co_Cel_doAllAnew : Cond.code y_Cel_doAllAnew b_Cel_doAllAnew 2 none ∈ T0 := T0_mem (i := 440) rfl rfl
set_option maxRecDepth 20000 in
theorem q_ml_Cel_191 : Cond.methodLink R_Cel 191 y_Col_empty ∈ T0 := T0_mem (i := 441) rfl rfl
set_option maxRecDepth 20000 in
theorem q_im_Col_empty : Cond.instanceMethod y_Col_empty ∈ T0 := T0_mem (i := 442) rfl rfl
set_option maxRecDepth 20000 in
theorem q_se_Col_empty : Cond.selects R_Col y_Col_empty y_Col_empty ∈ T0 := T0_mem (i := 443) rfl rfl
set_option maxRecDepth 20000 in
theorem q_co_Col_empty : Cond.code y_Col_empty b_Col_empty 1 none ∈ T0 := T0_mem (i := 444) rfl rfl
set_option maxRecDepth 20000 in
theorem q_ml_Cel_194 : Cond.methodLink R_Cel 194 y_Kin_forgetRows ∈ T0 := T0_mem (i := 445) rfl rfl
set_option maxRecDepth 20000 in
theorem q_im_Kin_forgetRows : Cond.instanceMethod y_Kin_forgetRows ∈ T0 := T0_mem (i := 446) rfl rfl
set_option maxRecDepth 20000 in
theorem q_se_Kin_forgetRows : Cond.selects R_Kin y_Kin_forgetRows y_Kin_forgetRows ∈ T0 := T0_mem (i := 447) rfl rfl
set_option maxRecDepth 20000 in
theorem q_co_Kin_forgetRows : Cond.code y_Kin_forgetRows b_Kin_forgetRows 1 none ∈ T0 := T0_mem (i := 448) rfl rfl
set_option maxRecDepth 20000 in
theorem q_ml_Law_9 : Cond.methodLink R_Law 9 y_Law_cell ∈ T0 := T0_mem (i := 449) rfl rfl
set_option maxRecDepth 20000 in
theorem q_st_Law_cell : Cond.static y_Law_cell ∈ T0 := T0_mem (i := 450) rfl rfl
set_option maxRecDepth 20000 in
theorem q_co_Law_cell : Cond.code y_Law_cell b_Law_cell 2 (some .int) ∈ T0 := T0_mem (i := 451) rfl rfl
set_option maxRecDepth 20000 in
theorem q_kl_Law_18 : Cond.classLink R_Law 18 R_Mod ∈ T0 := T0_mem (i := 452) rfl rfl
set_option maxRecDepth 20000 in
theorem q_mk_Mod : Cond.instantiable R_Mod 29 ∈ T0 := T0_mem (i := 453) rfl rfl
set_option maxRecDepth 20000 in
theorem q_ml_Law_20 : Cond.methodLink R_Law 20 y_Mod_init ∈ T0 := T0_mem (i := 454) rfl rfl
set_option maxRecDepth 20000 in
theorem q_im_Mod_init : Cond.instanceMethod y_Mod_init ∈ T0 := T0_mem (i := 455) rfl rfl
set_option maxRecDepth 20000 in
theorem q_co_Mod_init : Cond.code y_Mod_init b_Mod_init 4 none ∈ T0 := T0_mem (i := 456) rfl rfl
set_option maxRecDepth 20000 in
theorem q_ml_Mod_1 : Cond.methodLink R_Mod 1 objectInit ∈ T0 := T0_mem (i := 457) rfl rfl
set_option maxRecDepth 20000 in
theorem q_fl_Mod_75 : Cond.fieldLink R_Mod 75 "CellSettlingModel" "columns" "I" ∈ T0 := T0_mem (i := 458) rfl rfl
set_option maxRecDepth 20000 in
theorem q_fl_Mod_79 : Cond.fieldLink R_Mod 79 "CellSettlingModel" "side" "I" ∈ T0 := T0_mem (i := 459) rfl rfl
set_option maxRecDepth 20000 in
theorem q_fl_Mod_7 : Cond.fieldLink R_Mod 7 "CellSettlingModel" "densities" "[I" ∈ T0 := T0_mem (i := 460) rfl rfl
set_option maxRecDepth 20000 in
theorem q_fl_Mod_13 : Cond.fieldLink R_Mod 13 "CellSettlingModel" "factors" "[I" ∈ T0 := T0_mem (i := 461) rfl rfl
set_option maxRecDepth 20000 in
theorem q_fl_Mod_115 : Cond.fieldLink R_Mod 115 "CellSettlingModel" "told" "I" ∈ T0 := T0_mem (i := 462) rfl rfl
set_option maxRecDepth 20000 in
theorem q_fl_Mod_16 : Cond.fieldLink R_Mod 16 "CellSettlingModel" "kinds" "[I" ∈ T0 := T0_mem (i := 463) rfl rfl
set_option maxRecDepth 20000 in
theorem q_fl_Mod_19 : Cond.fieldLink R_Mod 19 "CellSettlingModel" "ones" "[I" ∈ T0 := T0_mem (i := 464) rfl rfl
set_option maxRecDepth 20000 in
theorem q_fl_Mod_22 : Cond.fieldLink R_Mod 22 "CellSettlingModel" "twos" "[I" ∈ T0 := T0_mem (i := 465) rfl rfl
set_option maxRecDepth 20000 in
theorem q_fl_Mod_25 : Cond.fieldLink R_Mod 25 "CellSettlingModel" "greats" "[J" ∈ T0 := T0_mem (i := 466) rfl rfl
set_option maxRecDepth 20000 in
theorem q_fl_Mod_29 : Cond.fieldLink R_Mod 29 "CellSettlingModel" "firsts" "[J" ∈ T0 := T0_mem (i := 467) rfl rfl
set_option maxRecDepth 20000 in
theorem q_fl_Mod_32 : Cond.fieldLink R_Mod 32 "CellSettlingModel" "layerCounts" "[I" ∈ T0 := T0_mem (i := 468) rfl rfl
set_option maxRecDepth 20000 in
theorem q_fl_Mod_35 : Cond.fieldLink R_Mod 35 "CellSettlingModel" "layerKinds" "[I" ∈ T0 := T0_mem (i := 469) rfl rfl
set_option maxRecDepth 20000 in
theorem q_fl_Mod_38 : Cond.fieldLink R_Mod 38 "CellSettlingModel" "masses" "[J" ∈ T0 := T0_mem (i := 470) rfl rfl
set_option maxRecDepth 20000 in
theorem q_fl_Mod_41 : Cond.fieldLink R_Mod 41 "CellSettlingModel" "thicks" "[J" ∈ T0 := T0_mem (i := 471) rfl rfl
set_option maxRecDepth 20000 in
theorem q_fl_Mod_44 : Cond.fieldLink R_Mod 44 "CellSettlingModel" "passes" "[I" ∈ T0 := T0_mem (i := 472) rfl rfl
set_option maxRecDepth 20000 in
theorem q_fl_Mod_47 : Cond.fieldLink R_Mod 47 "CellSettlingModel" "covers" "[I" ∈ T0 := T0_mem (i := 473) rfl rfl
set_option maxRecDepth 20000 in
theorem q_fl_Mod_50 : Cond.fieldLink R_Mod 50 "CellSettlingModel" "rowCounts" "[I" ∈ T0 := T0_mem (i := 474) rfl rfl
set_option maxRecDepth 20000 in
theorem q_fl_Mod_53 : Cond.fieldLink R_Mod 53 "CellSettlingModel" "loads" "[J" ∈ T0 := T0_mem (i := 475) rfl rfl
set_option maxRecDepth 20000 in
theorem q_fl_Mod_56 : Cond.fieldLink R_Mod 56 "CellSettlingModel" "thousandths" "[I" ∈ T0 := T0_mem (i := 476) rfl rfl
set_option maxRecDepth 20000 in
theorem q_fl_Mod_90 : Cond.fieldLink R_Mod 90 "CellSettlingModel" "year" "I" ∈ T0 := T0_mem (i := 477) rfl rfl
set_option maxRecDepth 20000 in
theorem q_fl_Mod_112 : Cond.fieldLink R_Mod 112 "CellSettlingModel" "surveys" "I" ∈ T0 := T0_mem (i := 478) rfl rfl
set_option maxRecDepth 20000 in
theorem q_fl_Mod_108 : Cond.fieldLink R_Mod 108 "CellSettlingModel" "squares" "J" ∈ T0 := T0_mem (i := 479) rfl rfl
set_option maxRecDepth 20000 in
theorem q_fl_Mod_153 : Cond.fieldLink R_Mod 153 "CellSettlingModel" "surfaceCount" "I" ∈ T0 := T0_mem (i := 480) rfl rfl
set_option maxRecDepth 20000 in
theorem q_fl_Mod_59 : Cond.fieldLink R_Mod 59 "CellSettlingModel" "points" "[I" ∈ T0 := T0_mem (i := 481) rfl rfl
set_option maxRecDepth 20000 in
theorem q_fl_Mod_62 : Cond.fieldLink R_Mod 62 "CellSettlingModel" "isPoint" "[Z" ∈ T0 := T0_mem (i := 482) rfl rfl
set_option maxRecDepth 20000 in
theorem q_fl_Mod_183 : Cond.fieldLink R_Mod 183 "CellSettlingModel" "phaseCount" "I" ∈ T0 := T0_mem (i := 483) rfl rfl
set_option maxRecDepth 20000 in
theorem q_fl_Mod_66 : Cond.fieldLink R_Mod 66 "CellSettlingModel" "froms" "[I" ∈ T0 := T0_mem (i := 484) rfl rfl
set_option maxRecDepth 20000 in
theorem q_fl_Mod_69 : Cond.fieldLink R_Mod 69 "CellSettlingModel" "tos" "[I" ∈ T0 := T0_mem (i := 485) rfl rfl
set_option maxRecDepth 20000 in
theorem q_fl_Mod_72 : Cond.fieldLink R_Mod 72 "CellSettlingModel" "slopes" "[J" ∈ T0 := T0_mem (i := 486) rfl rfl
set_option maxRecDepth 20000 in
theorem q_ml_Law_25 : Cond.methodLink R_Law 25 y_Mod_density ∈ T0 := T0_mem (i := 546) rfl rfl
set_option maxRecDepth 20000 in
theorem q_im_Mod_density : Cond.instanceMethod y_Mod_density ∈ T0 := T0_mem (i := 547) rfl rfl
set_option maxRecDepth 20000 in
theorem q_se_Mod_density : Cond.selects R_Mod y_Mod_density y_Mod_density ∈ T0 := T0_mem (i := 548) rfl rfl
set_option maxRecDepth 20000 in
theorem q_co_Mod_density : Cond.code y_Mod_density b_Mod_density 3 (some .boolean) ∈ T0 := T0_mem (i := 549) rfl rfl
set_option maxRecDepth 20000 in
theorem q_ml_Mod_124 : Cond.methodLink R_Mod 124 y_Mod_isKind ∈ T0 := T0_mem (i := 550) rfl rfl
set_option maxRecDepth 20000 in
theorem q_st_Mod_isKind : Cond.static y_Mod_isKind ∈ T0 := T0_mem (i := 551) rfl rfl
set_option maxRecDepth 20000 in
theorem q_co_Mod_isKind : Cond.code y_Mod_isKind b_Mod_isKind 1 (some .boolean) ∈ T0 := T0_mem (i := 552) rfl rfl
set_option maxRecDepth 20000 in
theorem q_cl_Mod_82 : Cond.constantLong R_Mod 82 (3 : Int64) ∈ T0 := T0_mem (i := 553) rfl rfl
set_option maxRecDepth 20000 in
theorem q_ml_Mod_84 : Cond.methodLink R_Mod 84 y_Mod_isIn ∈ T0 := T0_mem (i := 554) rfl rfl
set_option maxRecDepth 20000 in
theorem q_st_Mod_isIn : Cond.static y_Mod_isIn ∈ T0 := T0_mem (i := 555) rfl rfl
set_option maxRecDepth 20000 in
theorem q_co_Mod_isIn : Cond.code y_Mod_isIn b_Mod_isIn 6 (some .boolean) ∈ T0 := T0_mem (i := 556) rfl rfl
set_option maxRecDepth 20000 in
theorem q_cl_Mod_128 : Cond.constantLong R_Mod 128 (100 : Int64) ∈ T0 := T0_mem (i := 557) rfl rfl
set_option maxRecDepth 20000 in
theorem q_cl_Mod_130 : Cond.constantLong R_Mod 130 (3000 : Int64) ∈ T0 := T0_mem (i := 558) rfl rfl
set_option maxRecDepth 20000 in
theorem q_ml_Law_32 : Cond.methodLink R_Law 32 y_Mod_row ∈ T0 := T0_mem (i := 559) rfl rfl
set_option maxRecDepth 20000 in
theorem q_im_Mod_row : Cond.instanceMethod y_Mod_row ∈ T0 := T0_mem (i := 560) rfl rfl
set_option maxRecDepth 20000 in
theorem q_se_Mod_row : Cond.selects R_Mod y_Mod_row y_Mod_row ∈ T0 := T0_mem (i := 561) rfl rfl
set_option maxRecDepth 20000 in
theorem q_co_Mod_row : Cond.code y_Mod_row b_Mod_row 5 (some .boolean) ∈ T0 := T0_mem (i := 562) rfl rfl
set_option maxRecDepth 20000 in
theorem q_cl_Mod_132 : Cond.constantLong R_Mod 132 (100000000 : Int64) ∈ T0 := T0_mem (i := 563) rfl rfl
set_option maxRecDepth 20000 in
theorem q_cl_Mod_134 : Cond.constantLong R_Mod 134 (300 : Int64) ∈ T0 := T0_mem (i := 564) rfl rfl
set_option maxRecDepth 20000 in
theorem q_ml_Mod_136 : Cond.methodLink R_Mod 136 y_Mod_tell ∈ T0 := T0_mem (i := 565) rfl rfl
set_option maxRecDepth 20000 in
theorem q_im_Mod_tell : Cond.instanceMethod y_Mod_tell ∈ T0 := T0_mem (i := 567) rfl rfl
set_option maxRecDepth 20000 in
theorem q_co_Mod_tell : Cond.code y_Mod_tell b_Mod_tell 8 none ∈ T0 := T0_mem (i := 568) rfl rfl
set_option maxRecDepth 20000 in
theorem q_ml_Mod_121 : Cond.methodLink R_Mod 121 y_Mod_doAnew ∈ T0 := T0_mem (i := 569) rfl rfl
set_option maxRecDepth 20000 in
theorem q_im_Mod_doAnew : Cond.instanceMethod y_Mod_doAnew ∈ T0 := T0_mem (i := 571) rfl rfl
set_option maxRecDepth 20000 in
theorem q_co_Mod_doAnew : Cond.code y_Mod_doAnew b_Mod_doAnew 2 none ∈ T0 := T0_mem (i := 572) rfl rfl
set_option maxRecDepth 20000 in
theorem q_ml_Mod_118 : Cond.methodLink R_Mod 118 y_Mod_act ∈ T0 := T0_mem (i := 573) rfl rfl
set_option maxRecDepth 20000 in
theorem q_im_Mod_act : Cond.instanceMethod y_Mod_act ∈ T0 := T0_mem (i := 575) rfl rfl
set_option maxRecDepth 20000 in
theorem q_co_Mod_act : Cond.code y_Mod_act b_Mod_act 7 none ∈ T0 := T0_mem (i := 576) rfl rfl
set_option maxRecDepth 20000 in
theorem q_ml_Mod_95 : Cond.methodLink R_Mod 95 y_Mod_onePass ∈ T0 := T0_mem (i := 577) rfl rfl
set_option maxRecDepth 20000 in
theorem q_im_Mod_onePass : Cond.instanceMethod y_Mod_onePass ∈ T0 := T0_mem (i := 579) rfl rfl
set_option maxRecDepth 20000 in
theorem q_co_Mod_onePass : Cond.code y_Mod_onePass b_Mod_onePass 3 none ∈ T0 := T0_mem (i := 580) rfl rfl
set_option maxRecDepth 20000 in
theorem q_ml_Mod_99 : Cond.methodLink R_Mod 99 y_Mod_oneYear ∈ T0 := T0_mem (i := 581) rfl rfl
set_option maxRecDepth 20000 in
theorem q_im_Mod_oneYear : Cond.instanceMethod y_Mod_oneYear ∈ T0 := T0_mem (i := 583) rfl rfl
set_option maxRecDepth 20000 in
theorem q_co_Mod_oneYear : Cond.code y_Mod_oneYear b_Mod_oneYear 10 none ∈ T0 := T0_mem (i := 584) rfl rfl
set_option maxRecDepth 20000 in
theorem q_cl_Mod_88 : Cond.constantLong R_Mod 88 (1000000 : Int64) ∈ T0 := T0_mem (i := 585) rfl rfl
set_option maxRecDepth 20000 in
theorem q_ml_Mod_102 : Cond.methodLink R_Mod 102 y_Mod_heightOf ∈ T0 := T0_mem (i := 586) rfl rfl
set_option maxRecDepth 20000 in
theorem q_im_Mod_heightOf : Cond.instanceMethod y_Mod_heightOf ∈ T0 := T0_mem (i := 588) rfl rfl
set_option maxRecDepth 20000 in
theorem q_co_Mod_heightOf : Cond.code y_Mod_heightOf b_Mod_heightOf 5 (some .long) ∈ T0 := T0_mem (i := 589) rfl rfl
set_option maxRecDepth 20000 in
theorem q_cl_Mod_93 : Cond.constantLong R_Mod 93 (1000 : Int64) ∈ T0 := T0_mem (i := 590) rfl rfl
set_option maxRecDepth 20000 in
theorem q_cl_Mod_106 : Cond.constantLong R_Mod 106 (-1000000 : Int64) ∈ T0 := T0_mem (i := 591) rfl rfl
set_option maxRecDepth 20000 in
theorem q_ml_Law_37 : Cond.methodLink R_Law 37 y_Mod_layer ∈ T0 := T0_mem (i := 592) rfl rfl
set_option maxRecDepth 20000 in
theorem q_im_Mod_layer : Cond.instanceMethod y_Mod_layer ∈ T0 := T0_mem (i := 593) rfl rfl
set_option maxRecDepth 20000 in
theorem q_se_Mod_layer : Cond.selects R_Mod y_Mod_layer y_Mod_layer ∈ T0 := T0_mem (i := 594) rfl rfl
set_option maxRecDepth 20000 in
theorem q_co_Mod_layer : Cond.code y_Mod_layer b_Mod_layer 5 (some .int) ∈ T0 := T0_mem (i := 595) rfl rfl
set_option maxRecDepth 20000 in
theorem q_ml_Mod_140 : Cond.methodLink R_Mod 140 y_Mod_isColumn ∈ T0 := T0_mem (i := 596) rfl rfl
set_option maxRecDepth 20000 in
theorem q_im_Mod_isColumn : Cond.instanceMethod y_Mod_isColumn ∈ T0 := T0_mem (i := 598) rfl rfl
set_option maxRecDepth 20000 in
theorem q_co_Mod_isColumn : Cond.code y_Mod_isColumn b_Mod_isColumn 2 (some .boolean) ∈ T0 := T0_mem (i := 599) rfl rfl
set_option maxRecDepth 20000 in
theorem q_ml_Law_41 : Cond.methodLink R_Law 41 y_Mod_roll ∈ T0 := T0_mem (i := 600) rfl rfl
set_option maxRecDepth 20000 in
theorem q_im_Mod_roll : Cond.instanceMethod y_Mod_roll ∈ T0 := T0_mem (i := 601) rfl rfl
set_option maxRecDepth 20000 in
theorem q_se_Mod_roll : Cond.selects R_Mod y_Mod_roll y_Mod_roll ∈ T0 := T0_mem (i := 602) rfl rfl
set_option maxRecDepth 20000 in
theorem q_co_Mod_roll : Cond.code y_Mod_roll b_Mod_roll 3 (some .boolean) ∈ T0 := T0_mem (i := 603) rfl rfl
set_option maxRecDepth 20000 in
theorem q_cl_Mod_143 : Cond.constantLong R_Mod 143 (20 : Int64) ∈ T0 := T0_mem (i := 604) rfl rfl
set_option maxRecDepth 20000 in
theorem q_ml_Law_46 : Cond.methodLink R_Law 46 y_Mod_run ∈ T0 := T0_mem (i := 605) rfl rfl
set_option maxRecDepth 20000 in
theorem q_im_Mod_run : Cond.instanceMethod y_Mod_run ∈ T0 := T0_mem (i := 606) rfl rfl
set_option maxRecDepth 20000 in
theorem q_se_Mod_run : Cond.selects R_Mod y_Mod_run y_Mod_run ∈ T0 := T0_mem (i := 607) rfl rfl
set_option maxRecDepth 20000 in
theorem q_co_Mod_run : Cond.code y_Mod_run b_Mod_run 2 (some .int) ∈ T0 := T0_mem (i := 608) rfl rfl
set_option maxRecDepth 20000 in
theorem q_cl_Mod_145 : Cond.constantLong R_Mod 145 (50 : Int64) ∈ T0 := T0_mem (i := 609) rfl rfl
set_option maxRecDepth 20000 in
theorem q_ml_Law_50 : Cond.methodLink R_Law 50 y_Mod_cover ∈ T0 := T0_mem (i := 610) rfl rfl
set_option maxRecDepth 20000 in
theorem q_im_Mod_cover : Cond.instanceMethod y_Mod_cover ∈ T0 := T0_mem (i := 611) rfl rfl
set_option maxRecDepth 20000 in
theorem q_se_Mod_cover : Cond.selects R_Mod y_Mod_cover y_Mod_cover ∈ T0 := T0_mem (i := 612) rfl rfl
set_option maxRecDepth 20000 in
theorem q_co_Mod_cover : Cond.code y_Mod_cover b_Mod_cover 3 (some .boolean) ∈ T0 := T0_mem (i := 613) rfl rfl
set_option maxRecDepth 20000 in
theorem q_cl_Mod_147 : Cond.constantLong R_Mod 147 (10000 : Int64) ∈ T0 := T0_mem (i := 614) rfl rfl
set_option maxRecDepth 20000 in
theorem q_ml_Law_55 : Cond.methodLink R_Law 55 y_Mod_survey ∈ T0 := T0_mem (i := 615) rfl rfl
set_option maxRecDepth 20000 in
theorem q_im_Mod_survey : Cond.instanceMethod y_Mod_survey ∈ T0 := T0_mem (i := 616) rfl rfl
set_option maxRecDepth 20000 in
theorem q_se_Mod_survey : Cond.selects R_Mod y_Mod_survey y_Mod_survey ∈ T0 := T0_mem (i := 617) rfl rfl
set_option maxRecDepth 20000 in
theorem q_co_Mod_survey : Cond.code y_Mod_survey b_Mod_survey 4 (some .int) ∈ T0 := T0_mem (i := 618) rfl rfl
set_option maxRecDepth 20000 in
theorem q_cl_Mod_149 : Cond.constantLong R_Mod 149 (1000000000 : Int64) ∈ T0 := T0_mem (i := 619) rfl rfl
set_option maxRecDepth 20000 in
theorem q_ml_Law_60 : Cond.methodLink R_Law 60 y_Mod_height ∈ T0 := T0_mem (i := 620) rfl rfl
set_option maxRecDepth 20000 in
theorem q_im_Mod_height : Cond.instanceMethod y_Mod_height ∈ T0 := T0_mem (i := 621) rfl rfl
set_option maxRecDepth 20000 in
theorem q_se_Mod_height : Cond.selects R_Mod y_Mod_height y_Mod_height ∈ T0 := T0_mem (i := 622) rfl rfl
set_option maxRecDepth 20000 in
theorem q_co_Mod_height : Cond.code y_Mod_height b_Mod_height 2 (some .long) ∈ T0 := T0_mem (i := 623) rfl rfl
set_option maxRecDepth 20000 in
theorem q_cl_Mod_151 : Cond.constantLong R_Mod 151 (-1 : Int64) ∈ T0 := T0_mem (i := 624) rfl rfl
set_option maxRecDepth 20000 in
theorem q_ml_Law_65 : Cond.methodLink R_Law 65 y_Mod_thickness ∈ T0 := T0_mem (i := 625) rfl rfl
set_option maxRecDepth 20000 in
theorem q_im_Mod_thickness : Cond.instanceMethod y_Mod_thickness ∈ T0 := T0_mem (i := 626) rfl rfl
set_option maxRecDepth 20000 in
theorem q_se_Mod_thickness : Cond.selects R_Mod y_Mod_thickness y_Mod_thickness ∈ T0 := T0_mem (i := 627) rfl rfl
set_option maxRecDepth 20000 in
theorem q_co_Mod_thickness : Cond.code y_Mod_thickness b_Mod_thickness 3 (some .long) ∈ T0 := T0_mem (i := 628) rfl rfl
set_option maxRecDepth 20000 in
theorem q_ml_Law_69 : Cond.methodLink R_Law 69 y_Mod_mass ∈ T0 := T0_mem (i := 629) rfl rfl
set_option maxRecDepth 20000 in
theorem q_im_Mod_mass : Cond.instanceMethod y_Mod_mass ∈ T0 := T0_mem (i := 630) rfl rfl
set_option maxRecDepth 20000 in
theorem q_se_Mod_mass : Cond.selects R_Mod y_Mod_mass y_Mod_mass ∈ T0 := T0_mem (i := 631) rfl rfl
set_option maxRecDepth 20000 in
theorem q_co_Mod_mass : Cond.code y_Mod_mass b_Mod_mass 6 (some .long) ∈ T0 := T0_mem (i := 632) rfl rfl
set_option maxRecDepth 20000 in
theorem q_ml_Law_73 : Cond.methodLink R_Law 73 y_Mod_covered ∈ T0 := T0_mem (i := 633) rfl rfl
set_option maxRecDepth 20000 in
theorem q_im_Mod_covered : Cond.instanceMethod y_Mod_covered ∈ T0 := T0_mem (i := 634) rfl rfl
set_option maxRecDepth 20000 in
theorem q_se_Mod_covered : Cond.selects R_Mod y_Mod_covered y_Mod_covered ∈ T0 := T0_mem (i := 635) rfl rfl
set_option maxRecDepth 20000 in
theorem q_co_Mod_covered : Cond.code y_Mod_covered b_Mod_covered 2 (some .int) ∈ T0 := T0_mem (i := 636) rfl rfl
set_option maxRecDepth 20000 in
theorem q_ml_Law_78 : Cond.methodLink R_Law 78 y_Mod_surface ∈ T0 := T0_mem (i := 637) rfl rfl
set_option maxRecDepth 20000 in
theorem q_im_Mod_surface : Cond.instanceMethod y_Mod_surface ∈ T0 := T0_mem (i := 638) rfl rfl
set_option maxRecDepth 20000 in
theorem q_se_Mod_surface : Cond.selects R_Mod y_Mod_surface y_Mod_surface ∈ T0 := T0_mem (i := 639) rfl rfl
set_option maxRecDepth 20000 in
theorem q_co_Mod_surface : Cond.code y_Mod_surface b_Mod_surface 1 (some .int) ∈ T0 := T0_mem (i := 640) rfl rfl
set_option maxRecDepth 20000 in
theorem q_ml_Law_83 : Cond.methodLink R_Law 83 y_Mod_point ∈ T0 := T0_mem (i := 641) rfl rfl
set_option maxRecDepth 20000 in
theorem q_im_Mod_point : Cond.instanceMethod y_Mod_point ∈ T0 := T0_mem (i := 642) rfl rfl
set_option maxRecDepth 20000 in
theorem q_se_Mod_point : Cond.selects R_Mod y_Mod_point y_Mod_point ∈ T0 := T0_mem (i := 643) rfl rfl
set_option maxRecDepth 20000 in
theorem q_co_Mod_point : Cond.code y_Mod_point b_Mod_point 5 (some .boolean) ∈ T0 := T0_mem (i := 644) rfl rfl
set_option maxRecDepth 20000 in
theorem q_ml_Mod_156 : Cond.methodLink R_Mod 156 y_Mod_isSurface ∈ T0 := T0_mem (i := 645) rfl rfl
set_option maxRecDepth 20000 in
theorem q_im_Mod_isSurface : Cond.instanceMethod y_Mod_isSurface ∈ T0 := T0_mem (i := 647) rfl rfl
set_option maxRecDepth 20000 in
theorem q_co_Mod_isSurface : Cond.code y_Mod_isSurface b_Mod_isSurface 2 (some .boolean) ∈ T0 := T0_mem (i := 648) rfl rfl
set_option maxRecDepth 20000 in
theorem q_cl_Mod_159 : Cond.constantLong R_Mod 159 (4 : Int64) ∈ T0 := T0_mem (i := 649) rfl rfl
set_option maxRecDepth 20000 in
theorem q_cl_Mod_161 : Cond.constantLong R_Mod 161 (-100000 : Int64) ∈ T0 := T0_mem (i := 650) rfl rfl
set_option maxRecDepth 20000 in
theorem q_cl_Mod_163 : Cond.constantLong R_Mod 163 (100000 : Int64) ∈ T0 := T0_mem (i := 651) rfl rfl
set_option maxRecDepth 20000 in
theorem q_ml_Law_88 : Cond.methodLink R_Law 88 y_Mod_room ∈ T0 := T0_mem (i := 652) rfl rfl
set_option maxRecDepth 20000 in
theorem q_im_Mod_room : Cond.instanceMethod y_Mod_room ∈ T0 := T0_mem (i := 653) rfl rfl
set_option maxRecDepth 20000 in
theorem q_se_Mod_room : Cond.selects R_Mod y_Mod_room y_Mod_room ∈ T0 := T0_mem (i := 654) rfl rfl
set_option maxRecDepth 20000 in
theorem q_co_Mod_room : Cond.code y_Mod_room b_Mod_room 10 (some .long) ∈ T0 := T0_mem (i := 655) rfl rfl
set_option maxRecDepth 20000 in
theorem q_cl_Mod_165 : Cond.constantLong R_Mod 165 (-9223372036854775808 : Int64) ∈ T0 := T0_mem (i := 656) rfl rfl
set_option maxRecDepth 20000 in
theorem q_ml_Mod_167 : Cond.methodLink R_Mod 167 y_Mod_isTold ∈ T0 := T0_mem (i := 657) rfl rfl
set_option maxRecDepth 20000 in
theorem q_im_Mod_isTold : Cond.instanceMethod y_Mod_isTold ∈ T0 := T0_mem (i := 659) rfl rfl
set_option maxRecDepth 20000 in
theorem q_co_Mod_isTold : Cond.code y_Mod_isTold b_Mod_isTold 4 (some .boolean) ∈ T0 := T0_mem (i := 660) rfl rfl
set_option maxRecDepth 20000 in
theorem q_cl_Mod_171 : Cond.constantLong R_Mod 171 (2 : Int64) ∈ T0 := T0_mem (i := 661) rfl rfl
set_option maxRecDepth 20000 in
theorem q_ml_Mod_173 : Cond.methodLink R_Mod 173 y_Mod_apart ∈ T0 := T0_mem (i := 662) rfl rfl
set_option maxRecDepth 20000 in
theorem q_im_Mod_apart : Cond.instanceMethod y_Mod_apart ∈ T0 := T0_mem (i := 664) rfl rfl
set_option maxRecDepth 20000 in
theorem q_co_Mod_apart : Cond.code y_Mod_apart b_Mod_apart 4 (some .long) ∈ T0 := T0_mem (i := 665) rfl rfl
set_option maxRecDepth 20000 in
theorem q_cl_Mod_177 : Cond.constantLong R_Mod 177 (6 : Int64) ∈ T0 := T0_mem (i := 666) rfl rfl
set_option maxRecDepth 20000 in
theorem q_ml_Mod_179 : Cond.methodLink R_Mod 179 y_Mod_common ∈ T0 := T0_mem (i := 667) rfl rfl
set_option maxRecDepth 20000 in
theorem q_st_Mod_common : Cond.static y_Mod_common ∈ T0 := T0_mem (i := 668) rfl rfl
set_option maxRecDepth 20000 in
theorem q_co_Mod_common : Cond.code y_Mod_common b_Mod_common 10 (some .long) ∈ T0 := T0_mem (i := 669) rfl rfl
set_option maxRecDepth 20000 in
theorem q_ml_Law_92 : Cond.methodLink R_Law 92 y_Mod_phase ∈ T0 := T0_mem (i := 670) rfl rfl
set_option maxRecDepth 20000 in
theorem q_im_Mod_phase : Cond.instanceMethod y_Mod_phase ∈ T0 := T0_mem (i := 671) rfl rfl
set_option maxRecDepth 20000 in
theorem q_se_Mod_phase : Cond.selects R_Mod y_Mod_phase y_Mod_phase ∈ T0 := T0_mem (i := 672) rfl rfl
set_option maxRecDepth 20000 in
theorem q_co_Mod_phase : Cond.code y_Mod_phase b_Mod_phase 5 (some .int) ∈ T0 := T0_mem (i := 673) rfl rfl
set_option maxRecDepth 20000 in
theorem q_ml_Law_97 : Cond.methodLink R_Law 97 y_Mod_kept ∈ T0 := T0_mem (i := 674) rfl rfl
set_option maxRecDepth 20000 in
theorem q_im_Mod_kept : Cond.instanceMethod y_Mod_kept ∈ T0 := T0_mem (i := 675) rfl rfl
set_option maxRecDepth 20000 in
theorem q_se_Mod_kept : Cond.selects R_Mod y_Mod_kept y_Mod_kept ∈ T0 := T0_mem (i := 676) rfl rfl
set_option maxRecDepth 20000 in
theorem q_co_Mod_kept : Cond.code y_Mod_kept b_Mod_kept 4 (some .boolean) ∈ T0 := T0_mem (i := 677) rfl rfl
set_option maxRecDepth 20000 in
theorem q_ml_Mod_186 : Cond.methodLink R_Mod 186 y_Mod_step ∈ T0 := T0_mem (i := 678) rfl rfl
set_option maxRecDepth 20000 in
theorem q_im_Mod_step : Cond.instanceMethod y_Mod_step ∈ T0 := T0_mem (i := 680) rfl rfl
set_option maxRecDepth 20000 in
theorem q_co_Mod_step : Cond.code y_Mod_step b_Mod_step 4 (some .long) ∈ T0 := T0_mem (i := 681) rfl rfl
set_option maxRecDepth 20000 in
theorem q_ml_Law_101 : Cond.methodLink R_Law 101 y_Mod_crack ∈ T0 := T0_mem (i := 682) rfl rfl
set_option maxRecDepth 20000 in
theorem q_im_Mod_crack : Cond.instanceMethod y_Mod_crack ∈ T0 := T0_mem (i := 683) rfl rfl
set_option maxRecDepth 20000 in
theorem q_se_Mod_crack : Cond.selects R_Mod y_Mod_crack y_Mod_crack ∈ T0 := T0_mem (i := 684) rfl rfl
set_option maxRecDepth 20000 in
theorem q_co_Mod_crack : Cond.code y_Mod_crack b_Mod_crack 6 (some .int) ∈ T0 := T0_mem (i := 685) rfl rfl
set_option maxRecDepth 20000 in
theorem q_ml_Law_105 : Cond.methodLink R_Law 105 y_Mod_factor ∈ T0 := T0_mem (i := 686) rfl rfl
set_option maxRecDepth 20000 in
theorem q_im_Mod_factor : Cond.instanceMethod y_Mod_factor ∈ T0 := T0_mem (i := 687) rfl rfl
set_option maxRecDepth 20000 in
theorem q_se_Mod_factor : Cond.selects R_Mod y_Mod_factor y_Mod_factor ∈ T0 := T0_mem (i := 688) rfl rfl
set_option maxRecDepth 20000 in
theorem q_co_Mod_factor : Cond.code y_Mod_factor b_Mod_factor 2 (some .int) ∈ T0 := T0_mem (i := 689) rfl rfl
set_option maxRecDepth 20000 in
theorem q_ml_Law_110 : Cond.methodLink R_Law 110 y_Mod_sum ∈ T0 := T0_mem (i := 690) rfl rfl
set_option maxRecDepth 20000 in
theorem q_im_Mod_sum : Cond.instanceMethod y_Mod_sum ∈ T0 := T0_mem (i := 691) rfl rfl
set_option maxRecDepth 20000 in
theorem q_se_Mod_sum : Cond.selects R_Mod y_Mod_sum y_Mod_sum ∈ T0 := T0_mem (i := 692) rfl rfl
set_option maxRecDepth 20000 in
theorem q_co_Mod_sum : Cond.code y_Mod_sum b_Mod_sum 1 (some .long) ∈ T0 := T0_mem (i := 693) rfl rfl
set_option maxRecDepth 20000 in
theorem q_ml_Law_114 : Cond.methodLink R_Law 114 y_Mod_fit ∈ T0 := T0_mem (i := 694) rfl rfl
set_option maxRecDepth 20000 in
theorem q_im_Mod_fit : Cond.instanceMethod y_Mod_fit ∈ T0 := T0_mem (i := 695) rfl rfl
set_option maxRecDepth 20000 in
theorem q_se_Mod_fit : Cond.selects R_Mod y_Mod_fit y_Mod_fit ∈ T0 := T0_mem (i := 696) rfl rfl
set_option maxRecDepth 20000 in
theorem q_co_Mod_fit : Cond.code y_Mod_fit b_Mod_fit 6 (some .int) ∈ T0 := T0_mem (i := 697) rfl rfl
set_option maxRecDepth 20000 in
theorem q_cl_Mod_189 : Cond.constantLong R_Mod 189 (5 : Int64) ∈ T0 := T0_mem (i := 698) rfl rfl
set_option maxRecDepth 20000 in
theorem q_ml_Mod_191 : Cond.methodLink R_Mod 191 y_Mod_isBetter ∈ T0 := T0_mem (i := 699) rfl rfl
set_option maxRecDepth 20000 in
theorem q_im_Mod_isBetter : Cond.instanceMethod y_Mod_isBetter ∈ T0 := T0_mem (i := 701) rfl rfl
set_option maxRecDepth 20000 in
theorem q_co_Mod_isBetter : Cond.code y_Mod_isBetter b_Mod_isBetter 6 (some .boolean) ∈ T0 := T0_mem (i := 702) rfl rfl
set_option maxRecDepth 20000 in
theorem q_cl_Law_26 : Cond.constantLong R_Law 26 (4294967295 : Int64) ∈ T0 := T0_mem (i := 703) rfl rfl
theorem u_Col : ∀ w ∈ u_ws R_Col T_Col 6, w ∈ T0 := by decide +kernel
theorem u_Kin : ∀ w ∈ u_ws R_Kin T_Kin 5, w ∈ T0 := by decide +kernel
theorem u_Pha : ∀ w ∈ u_ws R_Pha T_Pha 3, w ∈ T0 := by decide +kernel
theorem u_Sur : ∀ w ∈ u_ws R_Sur T_Sur 2, w ∈ T0 := by decide +kernel
theorem u_Tol : ∀ w ∈ u_ws R_Tol T_Tol 6, w ∈ T0 := by decide +kernel
theorem u_Cel : ∀ w ∈ u_ws R_Cel T_Cel 11, w ∈ T0 := by decide +kernel
theorem u_Mod : ∀ w ∈ u_ws R_Mod T_Mod 29, w ∈ T0 := by decide +kernel
