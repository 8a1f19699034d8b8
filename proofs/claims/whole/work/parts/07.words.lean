def lw_good : List Cond := lw_tbl.filter goodWord
theorem w_0 : Cond.selects RX4 yX4_recordState yX4_recordState ∈ lw_good := List.mem_filter.mpr ⟨List.mem_of_getElem? (i := 0) (by decide +kernel), by decide +kernel⟩
theorem w_1 : Cond.selects RX4 yX4_dropOldestState yX4_dropOldestState ∈ lw_good := List.mem_filter.mpr ⟨List.mem_of_getElem? (i := 1) (by decide +kernel), by decide +kernel⟩
theorem w_2 : Cond.selects RX4 yX4_addCard yX4_addCard ∈ lw_good := List.mem_filter.mpr ⟨List.mem_of_getElem? (i := 2) (by decide +kernel), by decide +kernel⟩
theorem w_3 : Cond.selects RX4 yX4_drawIdealCard yX4_drawIdealCard ∈ lw_good := List.mem_filter.mpr ⟨List.mem_of_getElem? (i := 3) (by decide +kernel), by decide +kernel⟩
theorem w_4 : Cond.selects RX4 yX4_drawIdealOutward yX4_drawIdealOutward ∈ lw_good := List.mem_filter.mpr ⟨List.mem_of_getElem? (i := 4) (by decide +kernel), by decide +kernel⟩
theorem w_5 : Cond.selects RX4 yX4_drawIdealReturn yX4_drawIdealReturn ∈ lw_good := List.mem_filter.mpr ⟨List.mem_of_getElem? (i := 5) (by decide +kernel), by decide +kernel⟩
theorem w_6 : Cond.selects RX4 yX4_isCard yX4_isCard ∈ lw_good := List.mem_filter.mpr ⟨List.mem_of_getElem? (i := 6) (by decide +kernel), by decide +kernel⟩
theorem w_7 : Cond.selects RX4 yX4_powerOfCard yX4_powerOfCard ∈ lw_good := List.mem_filter.mpr ⟨List.mem_of_getElem? (i := 7) (by decide +kernel), by decide +kernel⟩
theorem w_8 : Cond.selects RX4 yX4_powerFrom yX4_powerFrom ∈ lw_good := List.mem_filter.mpr ⟨List.mem_of_getElem? (i := 8) (by decide +kernel), by decide +kernel⟩
theorem w_9 : Cond.selects RX4 yX4_findEvents yX4_findEvents ∈ lw_good := List.mem_filter.mpr ⟨List.mem_of_getElem? (i := 9) (by decide +kernel), by decide +kernel⟩
theorem w_10 : Cond.selects RX4 yX4_findAdmission yX4_findAdmission ∈ lw_good := List.mem_filter.mpr ⟨List.mem_of_getElem? (i := 10) (by decide +kernel), by decide +kernel⟩
theorem w_11 : Cond.selects RX4 yX4_findCutOff yX4_findCutOff ∈ lw_good := List.mem_filter.mpr ⟨List.mem_of_getElem? (i := 11) (by decide +kernel), by decide +kernel⟩
theorem w_12 : Cond.selects RX4 yX4_findRelease yX4_findRelease ∈ lw_good := List.mem_filter.mpr ⟨List.mem_of_getElem? (i := 12) (by decide +kernel), by decide +kernel⟩
theorem w_13 : Cond.selects RX4 yX4_constantAt yX4_constantAt ∈ lw_good := List.mem_filter.mpr ⟨List.mem_of_getElem? (i := 13) (by decide +kernel), by decide +kernel⟩
theorem w_14 : Cond.selects RX4 yX4_findCompression yX4_findCompression ∈ lw_good := List.mem_filter.mpr ⟨List.mem_of_getElem? (i := 14) (by decide +kernel), by decide +kernel⟩
theorem w_15 : Cond.selects RX4 yX4_foundLateness yX4_foundLateness ∈ lw_good := List.mem_filter.mpr ⟨List.mem_of_getElem? (i := 15) (by decide +kernel), by decide +kernel⟩
theorem w_16 : Cond.selects RX4 yX4_deviationFrom yX4_deviationFrom ∈ lw_good := List.mem_filter.mpr ⟨List.mem_of_getElem? (i := 16) (by decide +kernel), by decide +kernel⟩
theorem w_17 : Cond.selects RX4 yX4_countCards yX4_countCards ∈ lw_good := List.mem_filter.mpr ⟨List.mem_of_getElem? (i := 17) (by decide +kernel), by decide +kernel⟩
theorem w_18 : Cond.selects RX4 yX4_drawMeanPressures yX4_drawMeanPressures ∈ lw_good := List.mem_filter.mpr ⟨List.mem_of_getElem? (i := 18) (by decide +kernel), by decide +kernel⟩
theorem w_19 : Cond.selects RX4 yX4_meanOfPowers yX4_meanOfPowers ∈ lw_good := List.mem_filter.mpr ⟨List.mem_of_getElem? (i := 19) (by decide +kernel), by decide +kernel⟩
theorem w_20 : Cond.selects RX4 yX4_medianArea yX4_medianArea ∈ lw_good := List.mem_filter.mpr ⟨List.mem_of_getElem? (i := 20) (by decide +kernel), by decide +kernel⟩
theorem w_21 : Cond.selects RX4 yX4_insertSorted yX4_insertSorted ∈ lw_good := List.mem_filter.mpr ⟨List.mem_of_getElem? (i := 21) (by decide +kernel), by decide +kernel⟩
theorem w_22 : Cond.selects RX4 yX4_areaWithCutOff yX4_areaWithCutOff ∈ lw_good := List.mem_filter.mpr ⟨List.mem_of_getElem? (i := 22) (by decide +kernel), by decide +kernel⟩
theorem w_23 : Cond.selects RX4 yX4_nearestCutOff yX4_nearestCutOff ∈ lw_good := List.mem_filter.mpr ⟨List.mem_of_getElem? (i := 23) (by decide +kernel), by decide +kernel⟩
theorem w_24 : Cond.selects RX5 yX5_copy yX5_copy ∈ lw_good := List.mem_filter.mpr ⟨List.mem_of_getElem? (i := 24) (by decide +kernel), by decide +kernel⟩
theorem w_25 : Cond.selects RX5 yX5_put yX5_put ∈ lw_good := List.mem_filter.mpr ⟨List.mem_of_getElem? (i := 25) (by decide +kernel), by decide +kernel⟩
theorem w_26 : Cond.selects RX5 yX5_record yX5_record ∈ lw_good := List.mem_filter.mpr ⟨List.mem_of_getElem? (i := 26) (by decide +kernel), by decide +kernel⟩
theorem w_27 : Cond.selects RX5 yX5_points yX5_points ∈ lw_good := List.mem_filter.mpr ⟨List.mem_of_getElem? (i := 27) (by decide +kernel), by decide +kernel⟩
theorem w_28 : Cond.selects RX5 yX5_drafted yX5_drafted ∈ lw_good := List.mem_filter.mpr ⟨List.mem_of_getElem? (i := 28) (by decide +kernel), by decide +kernel⟩
theorem w_29 : Cond.selects RX5 yX5_addCard yX5_addCard ∈ lw_good := List.mem_filter.mpr ⟨List.mem_of_getElem? (i := 29) (by decide +kernel), by decide +kernel⟩
theorem w_30 : Cond.selects RX5 yX5_valveOf yX5_valveOf ∈ lw_good := List.mem_filter.mpr ⟨List.mem_of_getElem? (i := 30) (by decide +kernel), by decide +kernel⟩
theorem w_31 : Cond.selects RX5 yX5_draw yX5_draw ∈ lw_good := List.mem_filter.mpr ⟨List.mem_of_getElem? (i := 31) (by decide +kernel), by decide +kernel⟩
theorem w_32 : Cond.selects RX5 yX5_volume yX5_volume ∈ lw_good := List.mem_filter.mpr ⟨List.mem_of_getElem? (i := 32) (by decide +kernel), by decide +kernel⟩
theorem w_33 : Cond.selects RX5 yX5_isCard yX5_isCard ∈ lw_good := List.mem_filter.mpr ⟨List.mem_of_getElem? (i := 33) (by decide +kernel), by decide +kernel⟩
theorem w_34 : Cond.selects RX5 yX5_remove yX5_remove ∈ lw_good := List.mem_filter.mpr ⟨List.mem_of_getElem? (i := 34) (by decide +kernel), by decide +kernel⟩
theorem w_35 : Cond.selects RX5 yX5_areaAt yX5_areaAt ∈ lw_good := List.mem_filter.mpr ⟨List.mem_of_getElem? (i := 35) (by decide +kernel), by decide +kernel⟩
theorem w_36 : Cond.selects RX5 yX5_difference yX5_difference ∈ lw_good := List.mem_filter.mpr ⟨List.mem_of_getElem? (i := 36) (by decide +kernel), by decide +kernel⟩
theorem w_37 : Cond.selects RX5 yX5_parts yX5_parts ∈ lw_good := List.mem_filter.mpr ⟨List.mem_of_getElem? (i := 37) (by decide +kernel), by decide +kernel⟩
theorem w_38 : Cond.selects RX5 yX5_powerAt yX5_powerAt ∈ lw_good := List.mem_filter.mpr ⟨List.mem_of_getElem? (i := 38) (by decide +kernel), by decide +kernel⟩
theorem w_39 : Cond.selects RX5 yX5_powerOf yX5_powerOf ∈ lw_good := List.mem_filter.mpr ⟨List.mem_of_getElem? (i := 39) (by decide +kernel), by decide +kernel⟩
theorem w_40 : Cond.selects RX5 yX5_eventOf yX5_eventOf ∈ lw_good := List.mem_filter.mpr ⟨List.mem_of_getElem? (i := 40) (by decide +kernel), by decide +kernel⟩
theorem w_41 : Cond.selects RX5 yX5_admission yX5_admission ∈ lw_good := List.mem_filter.mpr ⟨List.mem_of_getElem? (i := 41) (by decide +kernel), by decide +kernel⟩
theorem w_42 : Cond.selects RX5 yX5_extreme yX5_extreme ∈ lw_good := List.mem_filter.mpr ⟨List.mem_of_getElem? (i := 42) (by decide +kernel), by decide +kernel⟩
theorem w_43 : Cond.selects RX5 yX5_cutOff yX5_cutOff ∈ lw_good := List.mem_filter.mpr ⟨List.mem_of_getElem? (i := 43) (by decide +kernel), by decide +kernel⟩
theorem w_44 : Cond.selects RX5 yX5_release yX5_release ∈ lw_good := List.mem_filter.mpr ⟨List.mem_of_getElem? (i := 44) (by decide +kernel), by decide +kernel⟩
theorem w_45 : Cond.selects RX5 yX5_constantAt yX5_constantAt ∈ lw_good := List.mem_filter.mpr ⟨List.mem_of_getElem? (i := 45) (by decide +kernel), by decide +kernel⟩
theorem w_46 : Cond.selects RX5 yX5_compression yX5_compression ∈ lw_good := List.mem_filter.mpr ⟨List.mem_of_getElem? (i := 46) (by decide +kernel), by decide +kernel⟩
theorem w_47 : Cond.selects RX5 yX5_latenessOf yX5_latenessOf ∈ lw_good := List.mem_filter.mpr ⟨List.mem_of_getElem? (i := 47) (by decide +kernel), by decide +kernel⟩
theorem w_48 : Cond.selects RX5 yX5_offBy yX5_offBy ∈ lw_good := List.mem_filter.mpr ⟨List.mem_of_getElem? (i := 48) (by decide +kernel), by decide +kernel⟩
theorem w_49 : Cond.selects RX5 yX5_many yX5_many ∈ lw_good := List.mem_filter.mpr ⟨List.mem_of_getElem? (i := 49) (by decide +kernel), by decide +kernel⟩
theorem w_50 : Cond.selects RX5 yX5_meanPowerOf yX5_meanPowerOf ∈ lw_good := List.mem_filter.mpr ⟨List.mem_of_getElem? (i := 50) (by decide +kernel), by decide +kernel⟩
theorem w_51 : Cond.selects RX5 yX5_median yX5_median ∈ lw_good := List.mem_filter.mpr ⟨List.mem_of_getElem? (i := 51) (by decide +kernel), by decide +kernel⟩
theorem w_52 : Cond.selects RX5 yX5_idealBy yX5_idealBy ∈ lw_good := List.mem_filter.mpr ⟨List.mem_of_getElem? (i := 52) (by decide +kernel), by decide +kernel⟩
theorem w_53 : Cond.selects RX5 yX5_canCut yX5_canCut ∈ lw_good := List.mem_filter.mpr ⟨List.mem_of_getElem? (i := 53) (by decide +kernel), by decide +kernel⟩
theorem w_54 : Cond.initialized "IndicatorDiagramLaw" ∈ lw_good := List.mem_filter.mpr ⟨List.mem_of_getElem? (i := 54) (by decide +kernel), by decide +kernel⟩
theorem w_55 : Cond.initialized "IndicatorDiagram" ∈ lw_good := List.mem_filter.mpr ⟨List.mem_of_getElem? (i := 55) (by decide +kernel), by decide +kernel⟩
theorem w_56 : Cond.initialized "IndicatorDiagram$Card" ∈ lw_good := List.mem_filter.mpr ⟨List.mem_of_getElem? (i := 56) (by decide +kernel), by decide +kernel⟩
theorem w_57 : Cond.initialized "IndicatorDiagram$Events" ∈ lw_good := List.mem_filter.mpr ⟨List.mem_of_getElem? (i := 57) (by decide +kernel), by decide +kernel⟩
theorem w_58 : Cond.initialized "IndicatorDiagram$State" ∈ lw_good := List.mem_filter.mpr ⟨List.mem_of_getElem? (i := 58) (by decide +kernel), by decide +kernel⟩
theorem w_59 : Cond.initialized "IndicatorDiagram$Draft" ∈ lw_good := List.mem_filter.mpr ⟨List.mem_of_getElem? (i := 59) (by decide +kernel), by decide +kernel⟩
theorem w_60 : Cond.initialized "IndicatorDiagramModel" ∈ lw_good := List.mem_filter.mpr ⟨List.mem_of_getElem? (i := 60) (by decide +kernel), by decide +kernel⟩
theorem w_61 : Cond.initialized "java/lang/System" ∈ lw_good := List.mem_filter.mpr ⟨List.mem_of_getElem? (i := 61) (by decide +kernel), by decide +kernel⟩
theorem w_62 : Cond.initialized "java/lang/Math" ∈ lw_good := List.mem_filter.mpr ⟨List.mem_of_getElem? (i := 62) (by decide +kernel), by decide +kernel⟩
theorem w_63 : Cond.classLink "IndicatorDiagramLaw" 7 "IndicatorDiagram" ∈ lw_good := List.mem_filter.mpr ⟨List.mem_of_getElem? (i := 63) (by decide +kernel), by decide +kernel⟩
theorem w_64 : Cond.instantiable "IndicatorDiagram" 7 ∈ lw_good := List.mem_filter.mpr ⟨List.mem_of_getElem? (i := 64) (by decide +kernel), by decide +kernel⟩
theorem w_65 : Cond.methodLink "IndicatorDiagramLaw" 9 yX4_init ∈ lw_good := List.mem_filter.mpr ⟨List.mem_of_getElem? (i := 65) (by decide +kernel), by decide +kernel⟩
theorem w_66 : Cond.instanceMethod yX4_init ∈ lw_good := List.mem_filter.mpr ⟨List.mem_of_getElem? (i := 66) (by decide +kernel), by decide +kernel⟩
theorem w_67 : Cond.code yX4_init cX4_init 2 none ∈ lw_good := List.mem_filter.mpr ⟨List.mem_of_getElem? (i := 67) (by decide +kernel), by decide +kernel⟩
theorem w_68 : Cond.methodLink "IndicatorDiagram" 1 objectInit ∈ lw_good := List.mem_filter.mpr ⟨List.mem_of_getElem? (i := 68) (by decide +kernel), by decide +kernel⟩
theorem w_69 : Cond.instanceMethod objectInit ∈ lw_good := List.mem_filter.mpr ⟨List.mem_of_getElem? (i := 69) (by decide +kernel), by decide +kernel⟩
theorem w_70 : Cond.code objectInit object_method_1_code 1 none ∈ lw_good := List.mem_filter.mpr ⟨List.mem_of_getElem? (i := 70) (by decide +kernel), by decide +kernel⟩
theorem w_71 : Cond.classLink "IndicatorDiagram" 7 "IndicatorDiagram$Card" ∈ lw_good := List.mem_filter.mpr ⟨List.mem_of_getElem? (i := 71) (by decide +kernel), by decide +kernel⟩
theorem w_72 : Cond.instantiable "IndicatorDiagram$Card" 4 ∈ lw_good := List.mem_filter.mpr ⟨List.mem_of_getElem? (i := 72) (by decide +kernel), by decide +kernel⟩
theorem w_73 : Cond.methodLink "IndicatorDiagram" 9 yX0_init ∈ lw_good := List.mem_filter.mpr ⟨List.mem_of_getElem? (i := 73) (by decide +kernel), by decide +kernel⟩
theorem w_74 : Cond.instanceMethod yX0_init ∈ lw_good := List.mem_filter.mpr ⟨List.mem_of_getElem? (i := 74) (by decide +kernel), by decide +kernel⟩
theorem w_75 : Cond.code yX0_init cX0_init 1 none ∈ lw_good := List.mem_filter.mpr ⟨List.mem_of_getElem? (i := 75) (by decide +kernel), by decide +kernel⟩
theorem w_76 : Cond.methodLink "IndicatorDiagram$Card" 3 objectInit ∈ lw_good := List.mem_filter.mpr ⟨List.mem_of_getElem? (i := 76) (by decide +kernel), by decide +kernel⟩
theorem w_77 : Cond.fieldLink "IndicatorDiagram" 158 "IndicatorDiagram$Card" "end" "I" ∈ lw_good := List.mem_filter.mpr ⟨List.mem_of_getElem? (i := 77) (by decide +kernel), by decide +kernel⟩
theorem w_78 : Cond.fieldLink "IndicatorDiagram" 162 "IndicatorDiagram$Card" "speed" "I" ∈ lw_good := List.mem_filter.mpr ⟨List.mem_of_getElem? (i := 78) (by decide +kernel), by decide +kernel⟩
theorem w_79 : Cond.fieldLink "IndicatorDiagram$Card" 9 "IndicatorDiagram$Card" "outward" "[I" ∈ lw_good := List.mem_filter.mpr ⟨List.mem_of_getElem? (i := 79) (by decide +kernel), by decide +kernel⟩
theorem w_80 : Cond.fieldLink "IndicatorDiagram" 163 "IndicatorDiagram$Card" "outward" "[I" ∈ lw_good := List.mem_filter.mpr ⟨List.mem_of_getElem? (i := 80) (by decide +kernel), by decide +kernel⟩
theorem w_81 : Cond.fieldLink "IndicatorDiagram$Card" 15 "IndicatorDiagram$Card" "inward" "[I" ∈ lw_good := List.mem_filter.mpr ⟨List.mem_of_getElem? (i := 81) (by decide +kernel), by decide +kernel⟩
theorem w_82 : Cond.fieldLink "IndicatorDiagram" 168 "IndicatorDiagram$Card" "inward" "[I" ∈ lw_good := List.mem_filter.mpr ⟨List.mem_of_getElem? (i := 82) (by decide +kernel), by decide +kernel⟩
theorem w_83 : Cond.lays "IndicatorDiagram$Card" "IndicatorDiagram$Card" "end" "I" ∈ lw_good := List.mem_filter.mpr ⟨List.mem_of_getElem? (i := 83) (by decide +kernel), by decide +kernel⟩
theorem w_85 : Cond.lays "IndicatorDiagram$Card" "IndicatorDiagram$Card" "speed" "I" ∈ lw_good := List.mem_filter.mpr ⟨List.mem_of_getElem? (i := 85) (by decide +kernel), by decide +kernel⟩
theorem w_87 : Cond.laysFinal "IndicatorDiagram$Card" "IndicatorDiagram$Card" "outward" "[I" ∈ lw_good := List.mem_filter.mpr ⟨List.mem_of_getElem? (i := 87) (by decide +kernel), by decide +kernel⟩
theorem w_89 : Cond.laysFinal "IndicatorDiagram$Card" "IndicatorDiagram$Card" "inward" "[I" ∈ lw_good := List.mem_filter.mpr ⟨List.mem_of_getElem? (i := 89) (by decide +kernel), by decide +kernel⟩
theorem w_92 : Cond.arrayClass FieldType.int ∈ lw_good := List.mem_filter.mpr ⟨List.mem_of_getElem? (i := 92) (by decide +kernel), by decide +kernel⟩
theorem w_93 : Cond.classLink "IndicatorDiagram" 16 "IndicatorDiagram$Events" ∈ lw_good := List.mem_filter.mpr ⟨List.mem_of_getElem? (i := 93) (by decide +kernel), by decide +kernel⟩
theorem w_94 : Cond.instantiable "IndicatorDiagram$Events" 4 ∈ lw_good := List.mem_filter.mpr ⟨List.mem_of_getElem? (i := 94) (by decide +kernel), by decide +kernel⟩
theorem w_95 : Cond.methodLink "IndicatorDiagram" 18 yX2_init ∈ lw_good := List.mem_filter.mpr ⟨List.mem_of_getElem? (i := 95) (by decide +kernel), by decide +kernel⟩
theorem w_96 : Cond.instanceMethod yX2_init ∈ lw_good := List.mem_filter.mpr ⟨List.mem_of_getElem? (i := 96) (by decide +kernel), by decide +kernel⟩
theorem w_97 : Cond.code yX2_init cX2_init 1 none ∈ lw_good := List.mem_filter.mpr ⟨List.mem_of_getElem? (i := 97) (by decide +kernel), by decide +kernel⟩
theorem w_98 : Cond.methodLink "IndicatorDiagram$Events" 3 objectInit ∈ lw_good := List.mem_filter.mpr ⟨List.mem_of_getElem? (i := 98) (by decide +kernel), by decide +kernel⟩
theorem w_99 : Cond.fieldLink "IndicatorDiagram$Events" 9 "IndicatorDiagram$Events" "admission" "I" ∈ lw_good := List.mem_filter.mpr ⟨List.mem_of_getElem? (i := 99) (by decide +kernel), by decide +kernel⟩
theorem w_100 : Cond.fieldLink "IndicatorDiagram" 95 "IndicatorDiagram$Events" "admission" "I" ∈ lw_good := List.mem_filter.mpr ⟨List.mem_of_getElem? (i := 100) (by decide +kernel), by decide +kernel⟩
theorem w_101 : Cond.fieldLink "IndicatorDiagram$Events" 15 "IndicatorDiagram$Events" "cutOff" "I" ∈ lw_good := List.mem_filter.mpr ⟨List.mem_of_getElem? (i := 101) (by decide +kernel), by decide +kernel⟩
theorem w_102 : Cond.fieldLink "IndicatorDiagram" 98 "IndicatorDiagram$Events" "cutOff" "I" ∈ lw_good := List.mem_filter.mpr ⟨List.mem_of_getElem? (i := 102) (by decide +kernel), by decide +kernel⟩
theorem w_103 : Cond.fieldLink "IndicatorDiagram$Events" 18 "IndicatorDiagram$Events" "release" "I" ∈ lw_good := List.mem_filter.mpr ⟨List.mem_of_getElem? (i := 103) (by decide +kernel), by decide +kernel⟩
theorem w_104 : Cond.fieldLink "IndicatorDiagram" 101 "IndicatorDiagram$Events" "release" "I" ∈ lw_good := List.mem_filter.mpr ⟨List.mem_of_getElem? (i := 104) (by decide +kernel), by decide +kernel⟩
theorem w_105 : Cond.fieldLink "IndicatorDiagram$Events" 21 "IndicatorDiagram$Events" "compression" "I" ∈ lw_good := List.mem_filter.mpr ⟨List.mem_of_getElem? (i := 105) (by decide +kernel), by decide +kernel⟩
theorem w_106 : Cond.fieldLink "IndicatorDiagram" 104 "IndicatorDiagram$Events" "compression" "I" ∈ lw_good := List.mem_filter.mpr ⟨List.mem_of_getElem? (i := 106) (by decide +kernel), by decide +kernel⟩
theorem w_107 : Cond.lays "IndicatorDiagram$Events" "IndicatorDiagram$Events" "admission" "I" ∈ lw_good := List.mem_filter.mpr ⟨List.mem_of_getElem? (i := 107) (by decide +kernel), by decide +kernel⟩
theorem w_109 : Cond.lays "IndicatorDiagram$Events" "IndicatorDiagram$Events" "cutOff" "I" ∈ lw_good := List.mem_filter.mpr ⟨List.mem_of_getElem? (i := 109) (by decide +kernel), by decide +kernel⟩
theorem w_111 : Cond.lays "IndicatorDiagram$Events" "IndicatorDiagram$Events" "release" "I" ∈ lw_good := List.mem_filter.mpr ⟨List.mem_of_getElem? (i := 111) (by decide +kernel), by decide +kernel⟩
theorem w_113 : Cond.lays "IndicatorDiagram$Events" "IndicatorDiagram$Events" "compression" "I" ∈ lw_good := List.mem_filter.mpr ⟨List.mem_of_getElem? (i := 113) (by decide +kernel), by decide +kernel⟩
theorem w_116 : Cond.classLink "IndicatorDiagram" 30 "IndicatorDiagram$State" ∈ lw_good := List.mem_filter.mpr ⟨List.mem_of_getElem? (i := 116) (by decide +kernel), by decide +kernel⟩
theorem w_117 : Cond.instantiable "IndicatorDiagram$State" 13 ∈ lw_good := List.mem_filter.mpr ⟨List.mem_of_getElem? (i := 117) (by decide +kernel), by decide +kernel⟩
theorem w_118 : Cond.methodLink "IndicatorDiagram" 32 yX3_init ∈ lw_good := List.mem_filter.mpr ⟨List.mem_of_getElem? (i := 118) (by decide +kernel), by decide +kernel⟩
theorem w_119 : Cond.instanceMethod yX3_init ∈ lw_good := List.mem_filter.mpr ⟨List.mem_of_getElem? (i := 119) (by decide +kernel), by decide +kernel⟩
theorem w_120 : Cond.code yX3_init cX3_init 3 none ∈ lw_good := List.mem_filter.mpr ⟨List.mem_of_getElem? (i := 120) (by decide +kernel), by decide +kernel⟩
theorem w_121 : Cond.methodLink "IndicatorDiagram$State" 3 objectInit ∈ lw_good := List.mem_filter.mpr ⟨List.mem_of_getElem? (i := 121) (by decide +kernel), by decide +kernel⟩
theorem w_122 : Cond.classLink "IndicatorDiagram$State" 36 "IndicatorDiagram$Events" ∈ lw_good := List.mem_filter.mpr ⟨List.mem_of_getElem? (i := 122) (by decide +kernel), by decide +kernel⟩
theorem w_123 : Cond.methodLink "IndicatorDiagram$State" 38 yX2_init ∈ lw_good := List.mem_filter.mpr ⟨List.mem_of_getElem? (i := 123) (by decide +kernel), by decide +kernel⟩
theorem w_124 : Cond.classLink "IndicatorDiagram$State" 46 "IndicatorDiagram$Draft" ∈ lw_good := List.mem_filter.mpr ⟨List.mem_of_getElem? (i := 124) (by decide +kernel), by decide +kernel⟩
theorem w_125 : Cond.instantiable "IndicatorDiagram$Draft" 5 ∈ lw_good := List.mem_filter.mpr ⟨List.mem_of_getElem? (i := 125) (by decide +kernel), by decide +kernel⟩
theorem w_126 : Cond.methodLink "IndicatorDiagram$State" 48 yX1_init ∈ lw_good := List.mem_filter.mpr ⟨List.mem_of_getElem? (i := 126) (by decide +kernel), by decide +kernel⟩
theorem w_127 : Cond.instanceMethod yX1_init ∈ lw_good := List.mem_filter.mpr ⟨List.mem_of_getElem? (i := 127) (by decide +kernel), by decide +kernel⟩
theorem w_128 : Cond.code yX1_init cX1_init 1 none ∈ lw_good := List.mem_filter.mpr ⟨List.mem_of_getElem? (i := 128) (by decide +kernel), by decide +kernel⟩
theorem w_129 : Cond.methodLink "IndicatorDiagram$Draft" 3 objectInit ∈ lw_good := List.mem_filter.mpr ⟨List.mem_of_getElem? (i := 129) (by decide +kernel), by decide +kernel⟩
theorem w_130 : Cond.fieldLink "IndicatorDiagram$Draft" 18 "IndicatorDiagram$Draft" "present" "Z" ∈ lw_good := List.mem_filter.mpr ⟨List.mem_of_getElem? (i := 130) (by decide +kernel), by decide +kernel⟩
theorem w_131 : Cond.fieldLink "IndicatorDiagram" 120 "IndicatorDiagram$Draft" "present" "Z" ∈ lw_good := List.mem_filter.mpr ⟨List.mem_of_getElem? (i := 131) (by decide +kernel), by decide +kernel⟩
theorem w_132 : Cond.fieldLink "IndicatorDiagram$Draft" 22 "IndicatorDiagram$Draft" "end" "I" ∈ lw_good := List.mem_filter.mpr ⟨List.mem_of_getElem? (i := 132) (by decide +kernel), by decide +kernel⟩
theorem w_133 : Cond.fieldLink "IndicatorDiagram" 155 "IndicatorDiagram$Draft" "end" "I" ∈ lw_good := List.mem_filter.mpr ⟨List.mem_of_getElem? (i := 133) (by decide +kernel), by decide +kernel⟩
theorem w_134 : Cond.fieldLink "IndicatorDiagram$Draft" 26 "IndicatorDiagram$Draft" "speed" "I" ∈ lw_good := List.mem_filter.mpr ⟨List.mem_of_getElem? (i := 134) (by decide +kernel), by decide +kernel⟩
theorem w_135 : Cond.fieldLink "IndicatorDiagram" 159 "IndicatorDiagram$Draft" "speed" "I" ∈ lw_good := List.mem_filter.mpr ⟨List.mem_of_getElem? (i := 135) (by decide +kernel), by decide +kernel⟩
theorem w_136 : Cond.fieldLink "IndicatorDiagram$Draft" 9 "IndicatorDiagram$Draft" "outward" "[I" ∈ lw_good := List.mem_filter.mpr ⟨List.mem_of_getElem? (i := 136) (by decide +kernel), by decide +kernel⟩
theorem w_137 : Cond.fieldLink "IndicatorDiagram" 145 "IndicatorDiagram$Draft" "outward" "[I" ∈ lw_good := List.mem_filter.mpr ⟨List.mem_of_getElem? (i := 137) (by decide +kernel), by decide +kernel⟩
theorem w_138 : Cond.fieldLink "IndicatorDiagram$Draft" 15 "IndicatorDiagram$Draft" "inward" "[I" ∈ lw_good := List.mem_filter.mpr ⟨List.mem_of_getElem? (i := 138) (by decide +kernel), by decide +kernel⟩
theorem w_139 : Cond.fieldLink "IndicatorDiagram" 148 "IndicatorDiagram$Draft" "inward" "[I" ∈ lw_good := List.mem_filter.mpr ⟨List.mem_of_getElem? (i := 139) (by decide +kernel), by decide +kernel⟩
theorem w_140 : Cond.lays "IndicatorDiagram$Draft" "IndicatorDiagram$Draft" "present" "Z" ∈ lw_good := List.mem_filter.mpr ⟨List.mem_of_getElem? (i := 140) (by decide +kernel), by decide +kernel⟩
theorem w_142 : Cond.lays "IndicatorDiagram$Draft" "IndicatorDiagram$Draft" "end" "I" ∈ lw_good := List.mem_filter.mpr ⟨List.mem_of_getElem? (i := 142) (by decide +kernel), by decide +kernel⟩
theorem w_144 : Cond.lays "IndicatorDiagram$Draft" "IndicatorDiagram$Draft" "speed" "I" ∈ lw_good := List.mem_filter.mpr ⟨List.mem_of_getElem? (i := 144) (by decide +kernel), by decide +kernel⟩
theorem w_146 : Cond.laysFinal "IndicatorDiagram$Draft" "IndicatorDiagram$Draft" "outward" "[I" ∈ lw_good := List.mem_filter.mpr ⟨List.mem_of_getElem? (i := 146) (by decide +kernel), by decide +kernel⟩
theorem w_148 : Cond.laysFinal "IndicatorDiagram$Draft" "IndicatorDiagram$Draft" "inward" "[I" ∈ lw_good := List.mem_filter.mpr ⟨List.mem_of_getElem? (i := 148) (by decide +kernel), by decide +kernel⟩
theorem w_151 : Cond.classLink "IndicatorDiagram$State" 53 "IndicatorDiagram$Card" ∈ lw_good := List.mem_filter.mpr ⟨List.mem_of_getElem? (i := 151) (by decide +kernel), by decide +kernel⟩
theorem w_152 : Cond.arrayOver (FieldType.object "IndicatorDiagram$Card") ∈ lw_tbl := List.mem_of_getElem? (i := 152) (by decide +kernel)
theorem w_153 : Cond.fieldLink "IndicatorDiagram$State" 9 "IndicatorDiagram$State" "clearance" "I" ∈ lw_good := List.mem_filter.mpr ⟨List.mem_of_getElem? (i := 153) (by decide +kernel), by decide +kernel⟩
theorem w_154 : Cond.fieldLink "IndicatorDiagram" 55 "IndicatorDiagram$State" "clearance" "I" ∈ lw_good := List.mem_filter.mpr ⟨List.mem_of_getElem? (i := 154) (by decide +kernel), by decide +kernel⟩
theorem w_155 : Cond.fieldLink "IndicatorDiagram$State" 15 "IndicatorDiagram$State" "headPistonArea" "I" ∈ lw_good := List.mem_filter.mpr ⟨List.mem_of_getElem? (i := 155) (by decide +kernel), by decide +kernel⟩
theorem w_156 : Cond.fieldLink "IndicatorDiagram" 66 "IndicatorDiagram$State" "headPistonArea" "I" ∈ lw_good := List.mem_filter.mpr ⟨List.mem_of_getElem? (i := 156) (by decide +kernel), by decide +kernel⟩
theorem w_157 : Cond.fieldLink "IndicatorDiagram$State" 18 "IndicatorDiagram$State" "crankPistonArea" "I" ∈ lw_good := List.mem_filter.mpr ⟨List.mem_of_getElem? (i := 157) (by decide +kernel), by decide +kernel⟩
theorem w_158 : Cond.fieldLink "IndicatorDiagram" 69 "IndicatorDiagram$State" "crankPistonArea" "I" ∈ lw_good := List.mem_filter.mpr ⟨List.mem_of_getElem? (i := 158) (by decide +kernel), by decide +kernel⟩
theorem w_159 : Cond.fieldLink "IndicatorDiagram$State" 21 "IndicatorDiagram$State" "strokeLength" "I" ∈ lw_good := List.mem_filter.mpr ⟨List.mem_of_getElem? (i := 159) (by decide +kernel), by decide +kernel⟩
theorem w_160 : Cond.fieldLink "IndicatorDiagram" 72 "IndicatorDiagram$State" "strokeLength" "I" ∈ lw_good := List.mem_filter.mpr ⟨List.mem_of_getElem? (i := 160) (by decide +kernel), by decide +kernel⟩
theorem w_161 : Cond.fieldLink "IndicatorDiagram$State" 24 "IndicatorDiagram$State" "boilerPressure" "I" ∈ lw_good := List.mem_filter.mpr ⟨List.mem_of_getElem? (i := 161) (by decide +kernel), by decide +kernel⟩
theorem w_162 : Cond.fieldLink "IndicatorDiagram" 75 "IndicatorDiagram$State" "boilerPressure" "I" ∈ lw_good := List.mem_filter.mpr ⟨List.mem_of_getElem? (i := 162) (by decide +kernel), by decide +kernel⟩
theorem w_163 : Cond.fieldLink "IndicatorDiagram$State" 27 "IndicatorDiagram$State" "backPressure" "I" ∈ lw_good := List.mem_filter.mpr ⟨List.mem_of_getElem? (i := 163) (by decide +kernel), by decide +kernel⟩
theorem w_164 : Cond.fieldLink "IndicatorDiagram" 78 "IndicatorDiagram$State" "backPressure" "I" ∈ lw_good := List.mem_filter.mpr ⟨List.mem_of_getElem? (i := 164) (by decide +kernel), by decide +kernel⟩
theorem w_165 : Cond.fieldLink "IndicatorDiagram$State" 30 "IndicatorDiagram$State" "band" "I" ∈ lw_good := List.mem_filter.mpr ⟨List.mem_of_getElem? (i := 165) (by decide +kernel), by decide +kernel⟩
theorem w_166 : Cond.fieldLink "IndicatorDiagram" 81 "IndicatorDiagram$State" "band" "I" ∈ lw_good := List.mem_filter.mpr ⟨List.mem_of_getElem? (i := 166) (by decide +kernel), by decide +kernel⟩
theorem w_167 : Cond.fieldLink "IndicatorDiagram$State" 33 "IndicatorDiagram$State" "tolerance" "I" ∈ lw_good := List.mem_filter.mpr ⟨List.mem_of_getElem? (i := 167) (by decide +kernel), by decide +kernel⟩
theorem w_168 : Cond.fieldLink "IndicatorDiagram" 84 "IndicatorDiagram$State" "tolerance" "I" ∈ lw_good := List.mem_filter.mpr ⟨List.mem_of_getElem? (i := 168) (by decide +kernel), by decide +kernel⟩
theorem w_169 : Cond.fieldLink "IndicatorDiagram$State" 39 "IndicatorDiagram$State" "headValves" "LIndicatorDiagram$Events;" ∈ lw_good := List.mem_filter.mpr ⟨List.mem_of_getElem? (i := 169) (by decide +kernel), by decide +kernel⟩
theorem w_170 : Cond.fieldLink "IndicatorDiagram" 277 "IndicatorDiagram$State" "headValves" "LIndicatorDiagram$Events;" ∈ lw_good := List.mem_filter.mpr ⟨List.mem_of_getElem? (i := 170) (by decide +kernel), by decide +kernel⟩
theorem w_171 : Cond.fieldLink "IndicatorDiagram$State" 43 "IndicatorDiagram$State" "crankValves" "LIndicatorDiagram$Events;" ∈ lw_good := List.mem_filter.mpr ⟨List.mem_of_getElem? (i := 171) (by decide +kernel), by decide +kernel⟩
theorem w_172 : Cond.fieldLink "IndicatorDiagram$State" 49 "IndicatorDiagram$State" "draft" "LIndicatorDiagram$Draft;" ∈ lw_good := List.mem_filter.mpr ⟨List.mem_of_getElem? (i := 172) (by decide +kernel), by decide +kernel⟩
theorem w_173 : Cond.fieldLink "IndicatorDiagram" 116 "IndicatorDiagram$State" "draft" "LIndicatorDiagram$Draft;" ∈ lw_good := List.mem_filter.mpr ⟨List.mem_of_getElem? (i := 173) (by decide +kernel), by decide +kernel⟩
theorem w_174 : Cond.fieldLink "IndicatorDiagram$State" 55 "IndicatorDiagram$State" "cards" "[LIndicatorDiagram$Card;" ∈ lw_good := List.mem_filter.mpr ⟨List.mem_of_getElem? (i := 174) (by decide +kernel), by decide +kernel⟩
theorem w_175 : Cond.fieldLink "IndicatorDiagram" 192 "IndicatorDiagram$State" "cards" "[LIndicatorDiagram$Card;" ∈ lw_good := List.mem_filter.mpr ⟨List.mem_of_getElem? (i := 175) (by decide +kernel), by decide +kernel⟩
theorem w_176 : Cond.fieldLink "IndicatorDiagram$State" 59 "IndicatorDiagram$State" "count" "I" ∈ lw_good := List.mem_filter.mpr ⟨List.mem_of_getElem? (i := 176) (by decide +kernel), by decide +kernel⟩
theorem w_177 : Cond.fieldLink "IndicatorDiagram" 151 "IndicatorDiagram$State" "count" "I" ∈ lw_good := List.mem_filter.mpr ⟨List.mem_of_getElem? (i := 177) (by decide +kernel), by decide +kernel⟩
theorem w_178 : Cond.lays "IndicatorDiagram$State" "IndicatorDiagram$State" "clearance" "I" ∈ lw_good := List.mem_filter.mpr ⟨List.mem_of_getElem? (i := 178) (by decide +kernel), by decide +kernel⟩
theorem w_180 : Cond.lays "IndicatorDiagram$State" "IndicatorDiagram$State" "headPistonArea" "I" ∈ lw_good := List.mem_filter.mpr ⟨List.mem_of_getElem? (i := 180) (by decide +kernel), by decide +kernel⟩
theorem w_182 : Cond.lays "IndicatorDiagram$State" "IndicatorDiagram$State" "crankPistonArea" "I" ∈ lw_good := List.mem_filter.mpr ⟨List.mem_of_getElem? (i := 182) (by decide +kernel), by decide +kernel⟩
theorem w_184 : Cond.lays "IndicatorDiagram$State" "IndicatorDiagram$State" "strokeLength" "I" ∈ lw_good := List.mem_filter.mpr ⟨List.mem_of_getElem? (i := 184) (by decide +kernel), by decide +kernel⟩
theorem w_186 : Cond.lays "IndicatorDiagram$State" "IndicatorDiagram$State" "boilerPressure" "I" ∈ lw_good := List.mem_filter.mpr ⟨List.mem_of_getElem? (i := 186) (by decide +kernel), by decide +kernel⟩
theorem w_188 : Cond.lays "IndicatorDiagram$State" "IndicatorDiagram$State" "backPressure" "I" ∈ lw_good := List.mem_filter.mpr ⟨List.mem_of_getElem? (i := 188) (by decide +kernel), by decide +kernel⟩
theorem w_190 : Cond.lays "IndicatorDiagram$State" "IndicatorDiagram$State" "band" "I" ∈ lw_good := List.mem_filter.mpr ⟨List.mem_of_getElem? (i := 190) (by decide +kernel), by decide +kernel⟩
theorem w_192 : Cond.lays "IndicatorDiagram$State" "IndicatorDiagram$State" "tolerance" "I" ∈ lw_good := List.mem_filter.mpr ⟨List.mem_of_getElem? (i := 192) (by decide +kernel), by decide +kernel⟩
theorem w_194 : Cond.laysFinal "IndicatorDiagram$State" "IndicatorDiagram$State" "headValves" "LIndicatorDiagram$Events;" ∈ lw_good := List.mem_filter.mpr ⟨List.mem_of_getElem? (i := 194) (by decide +kernel), by decide +kernel⟩
theorem w_196 : Cond.laysFinal "IndicatorDiagram$State" "IndicatorDiagram$State" "crankValves" "LIndicatorDiagram$Events;" ∈ lw_good := List.mem_filter.mpr ⟨List.mem_of_getElem? (i := 196) (by decide +kernel), by decide +kernel⟩
theorem w_198 : Cond.laysFinal "IndicatorDiagram$State" "IndicatorDiagram$State" "draft" "LIndicatorDiagram$Draft;" ∈ lw_good := List.mem_filter.mpr ⟨List.mem_of_getElem? (i := 198) (by decide +kernel), by decide +kernel⟩
theorem w_200 : Cond.laysFinal "IndicatorDiagram$State" "IndicatorDiagram$State" "cards" "[LIndicatorDiagram$Card;" ∈ lw_good := List.mem_filter.mpr ⟨List.mem_of_getElem? (i := 200) (by decide +kernel), by decide +kernel⟩
theorem w_202 : Cond.lays "IndicatorDiagram$State" "IndicatorDiagram$State" "count" "I" ∈ lw_good := List.mem_filter.mpr ⟨List.mem_of_getElem? (i := 202) (by decide +kernel), by decide +kernel⟩
theorem w_205 : Cond.arrayOver (FieldType.object "IndicatorDiagram$State") ∈ lw_tbl := List.mem_of_getElem? (i := 205) (by decide +kernel)
theorem w_206 : Cond.fieldLink "IndicatorDiagram" 35 "IndicatorDiagram" "now" "LIndicatorDiagram$State;" ∈ lw_good := List.mem_filter.mpr ⟨List.mem_of_getElem? (i := 206) (by decide +kernel), by decide +kernel⟩
theorem w_207 : Cond.fieldLink "IndicatorDiagram" 39 "IndicatorDiagram" "history" "[LIndicatorDiagram$State;" ∈ lw_good := List.mem_filter.mpr ⟨List.mem_of_getElem? (i := 207) (by decide +kernel), by decide +kernel⟩
theorem w_208 : Cond.fieldLink "IndicatorDiagram" 43 "IndicatorDiagram" "states" "I" ∈ lw_good := List.mem_filter.mpr ⟨List.mem_of_getElem? (i := 208) (by decide +kernel), by decide +kernel⟩
theorem w_209 : Cond.fieldLink "IndicatorDiagram" 10 "IndicatorDiagram" "trial" "LIndicatorDiagram$Card;" ∈ lw_good := List.mem_filter.mpr ⟨List.mem_of_getElem? (i := 209) (by decide +kernel), by decide +kernel⟩
theorem w_210 : Cond.fieldLink "IndicatorDiagram" 19 "IndicatorDiagram" "trialEvents" "LIndicatorDiagram$Events;" ∈ lw_good := List.mem_filter.mpr ⟨List.mem_of_getElem? (i := 210) (by decide +kernel), by decide +kernel⟩
theorem w_211 : Cond.fieldLink "IndicatorDiagram" 23 "IndicatorDiagram" "found" "LIndicatorDiagram$Events;" ∈ lw_good := List.mem_filter.mpr ⟨List.mem_of_getElem? (i := 211) (by decide +kernel), by decide +kernel⟩
theorem w_212 : Cond.fieldLink "IndicatorDiagram" 26 "IndicatorDiagram" "sortedAreas" "[I" ∈ lw_good := List.mem_filter.mpr ⟨List.mem_of_getElem? (i := 212) (by decide +kernel), by decide +kernel⟩
theorem w_213 : Cond.laysFinal "IndicatorDiagram" "IndicatorDiagram" "now" "LIndicatorDiagram$State;" ∈ lw_good := List.mem_filter.mpr ⟨List.mem_of_getElem? (i := 213) (by decide +kernel), by decide +kernel⟩
theorem w_215 : Cond.laysFinal "IndicatorDiagram" "IndicatorDiagram" "history" "[LIndicatorDiagram$State;" ∈ lw_good := List.mem_filter.mpr ⟨List.mem_of_getElem? (i := 215) (by decide +kernel), by decide +kernel⟩
theorem w_217 : Cond.lays "IndicatorDiagram" "IndicatorDiagram" "states" "I" ∈ lw_good := List.mem_filter.mpr ⟨List.mem_of_getElem? (i := 217) (by decide +kernel), by decide +kernel⟩
theorem w_219 : Cond.laysFinal "IndicatorDiagram" "IndicatorDiagram" "trial" "LIndicatorDiagram$Card;" ∈ lw_good := List.mem_filter.mpr ⟨List.mem_of_getElem? (i := 219) (by decide +kernel), by decide +kernel⟩
theorem w_221 : Cond.laysFinal "IndicatorDiagram" "IndicatorDiagram" "trialEvents" "LIndicatorDiagram$Events;" ∈ lw_good := List.mem_filter.mpr ⟨List.mem_of_getElem? (i := 221) (by decide +kernel), by decide +kernel⟩
theorem w_223 : Cond.laysFinal "IndicatorDiagram" "IndicatorDiagram" "found" "LIndicatorDiagram$Events;" ∈ lw_good := List.mem_filter.mpr ⟨List.mem_of_getElem? (i := 223) (by decide +kernel), by decide +kernel⟩
theorem w_225 : Cond.laysFinal "IndicatorDiagram" "IndicatorDiagram" "sortedAreas" "[I" ∈ lw_good := List.mem_filter.mpr ⟨List.mem_of_getElem? (i := 225) (by decide +kernel), by decide +kernel⟩
theorem w_228 : Cond.methodLink "IndicatorDiagramLaw" 13 yX4_setClearance ∈ lw_good := List.mem_filter.mpr ⟨List.mem_of_getElem? (i := 228) (by decide +kernel), by decide +kernel⟩
theorem w_229 : Cond.instanceMethod yX4_setClearance ∈ lw_good := List.mem_filter.mpr ⟨List.mem_of_getElem? (i := 229) (by decide +kernel), by decide +kernel⟩
theorem w_230 : Cond.selects "IndicatorDiagram" yX4_setClearance yX4_setClearance ∈ lw_good := List.mem_filter.mpr ⟨List.mem_of_getElem? (i := 230) (by decide +kernel), by decide +kernel⟩
theorem w_231 : Cond.code yX4_setClearance cX4_setClearance 3 (some FieldType.int) ∈ lw_good := List.mem_filter.mpr ⟨List.mem_of_getElem? (i := 231) (by decide +kernel), by decide +kernel⟩
theorem w_232 : Cond.methodLink "IndicatorDiagram" 47 yX4_isWithin ∈ lw_good := List.mem_filter.mpr ⟨List.mem_of_getElem? (i := 232) (by decide +kernel), by decide +kernel⟩
theorem w_233 : Cond.static yX4_isWithin ∈ lw_good := List.mem_filter.mpr ⟨List.mem_of_getElem? (i := 233) (by decide +kernel), by decide +kernel⟩
theorem w_234 : Cond.code yX4_isWithin cX4_isWithin 3 (some FieldType.boolean) ∈ lw_good := List.mem_filter.mpr ⟨List.mem_of_getElem? (i := 234) (by decide +kernel), by decide +kernel⟩
theorem w_235 : Cond.constant "IndicatorDiagram" 51 (-2000000001) ∈ lw_good := List.mem_filter.mpr ⟨List.mem_of_getElem? (i := 235) (by decide +kernel), by decide +kernel⟩
theorem w_236 : Cond.methodLink "IndicatorDiagram" 52 yX4_recordState ∈ lw_good := List.mem_filter.mpr ⟨List.mem_of_getElem? (i := 236) (by decide +kernel), by decide +kernel⟩
theorem w_238 : Cond.instanceMethod yX4_recordState ∈ lw_good := List.mem_filter.mpr ⟨List.mem_of_getElem? (i := 238) (by decide +kernel), by decide +kernel⟩
theorem w_239 : Cond.code yX4_recordState cX4_recordState 1 none ∈ lw_good := List.mem_filter.mpr ⟨List.mem_of_getElem? (i := 239) (by decide +kernel), by decide +kernel⟩
theorem w_240 : Cond.methodLink "IndicatorDiagram" 288 yX4_dropOldestState ∈ lw_good := List.mem_filter.mpr ⟨List.mem_of_getElem? (i := 240) (by decide +kernel), by decide +kernel⟩
theorem w_242 : Cond.instanceMethod yX4_dropOldestState ∈ lw_good := List.mem_filter.mpr ⟨List.mem_of_getElem? (i := 242) (by decide +kernel), by decide +kernel⟩
theorem w_243 : Cond.code yX4_dropOldestState cX4_dropOldestState 3 none ∈ lw_good := List.mem_filter.mpr ⟨List.mem_of_getElem? (i := 243) (by decide +kernel), by decide +kernel⟩
theorem w_244 : Cond.methodLink "IndicatorDiagram" 284 yX3_copyFrom ∈ lw_good := List.mem_filter.mpr ⟨List.mem_of_getElem? (i := 244) (by decide +kernel), by decide +kernel⟩
theorem w_245 : Cond.instanceMethod yX3_copyFrom ∈ lw_good := List.mem_filter.mpr ⟨List.mem_of_getElem? (i := 245) (by decide +kernel), by decide +kernel⟩
theorem w_246 : Cond.selects "IndicatorDiagram$State" yX3_copyFrom yX3_copyFrom ∈ lw_good := List.mem_filter.mpr ⟨List.mem_of_getElem? (i := 246) (by decide +kernel), by decide +kernel⟩
theorem w_247 : Cond.code yX3_copyFrom cX3_copyFrom 3 none ∈ lw_good := List.mem_filter.mpr ⟨List.mem_of_getElem? (i := 247) (by decide +kernel), by decide +kernel⟩
theorem w_248 : Cond.methodLink "IndicatorDiagram$State" 62 yX2_copyShifted ∈ lw_good := List.mem_filter.mpr ⟨List.mem_of_getElem? (i := 248) (by decide +kernel), by decide +kernel⟩
theorem w_249 : Cond.instanceMethod yX2_copyShifted ∈ lw_good := List.mem_filter.mpr ⟨List.mem_of_getElem? (i := 249) (by decide +kernel), by decide +kernel⟩
theorem w_250 : Cond.selects "IndicatorDiagram$Events" yX2_copyShifted yX2_copyShifted ∈ lw_good := List.mem_filter.mpr ⟨List.mem_of_getElem? (i := 250) (by decide +kernel), by decide +kernel⟩
theorem w_251 : Cond.code yX2_copyShifted cX2_copyShifted 3 none ∈ lw_good := List.mem_filter.mpr ⟨List.mem_of_getElem? (i := 251) (by decide +kernel), by decide +kernel⟩
theorem w_252 : Cond.methodLink "IndicatorDiagram$State" 66 yX1_copyFrom ∈ lw_good := List.mem_filter.mpr ⟨List.mem_of_getElem? (i := 252) (by decide +kernel), by decide +kernel⟩
theorem w_253 : Cond.instanceMethod yX1_copyFrom ∈ lw_good := List.mem_filter.mpr ⟨List.mem_of_getElem? (i := 253) (by decide +kernel), by decide +kernel⟩
theorem w_254 : Cond.selects "IndicatorDiagram$Draft" yX1_copyFrom yX1_copyFrom ∈ lw_good := List.mem_filter.mpr ⟨List.mem_of_getElem? (i := 254) (by decide +kernel), by decide +kernel⟩
theorem w_255 : Cond.code yX1_copyFrom cX1_copyFrom 2 none ∈ lw_good := List.mem_filter.mpr ⟨List.mem_of_getElem? (i := 255) (by decide +kernel), by decide +kernel⟩
theorem w_256 : Cond.methodLink "IndicatorDiagram$Draft" 29 arraycopyName ∈ lw_good := List.mem_filter.mpr ⟨List.mem_of_getElem? (i := 256) (by decide +kernel), by decide +kernel⟩
theorem w_257 : Cond.static arraycopyName ∈ lw_good := List.mem_filter.mpr ⟨List.mem_of_getElem? (i := 257) (by decide +kernel), by decide +kernel⟩
theorem w_258 : Cond.native arraycopyName ∈ lw_good := List.mem_filter.mpr ⟨List.mem_of_getElem? (i := 258) (by decide +kernel), by decide +kernel⟩
theorem w_259 : Cond.methodLink "IndicatorDiagramLaw" 18 yX4_setPistonArea ∈ lw_good := List.mem_filter.mpr ⟨List.mem_of_getElem? (i := 259) (by decide +kernel), by decide +kernel⟩
theorem w_260 : Cond.instanceMethod yX4_setPistonArea ∈ lw_good := List.mem_filter.mpr ⟨List.mem_of_getElem? (i := 260) (by decide +kernel), by decide +kernel⟩
theorem w_261 : Cond.selects "IndicatorDiagram" yX4_setPistonArea yX4_setPistonArea ∈ lw_good := List.mem_filter.mpr ⟨List.mem_of_getElem? (i := 261) (by decide +kernel), by decide +kernel⟩
theorem w_262 : Cond.code yX4_setPistonArea cX4_setPistonArea 4 (some FieldType.int) ∈ lw_good := List.mem_filter.mpr ⟨List.mem_of_getElem? (i := 262) (by decide +kernel), by decide +kernel⟩
theorem w_263 : Cond.methodLink "IndicatorDiagram" 58 yX4_isEnd ∈ lw_good := List.mem_filter.mpr ⟨List.mem_of_getElem? (i := 263) (by decide +kernel), by decide +kernel⟩
theorem w_264 : Cond.static yX4_isEnd ∈ lw_good := List.mem_filter.mpr ⟨List.mem_of_getElem? (i := 264) (by decide +kernel), by decide +kernel⟩
theorem w_265 : Cond.code yX4_isEnd cX4_isEnd 1 (some FieldType.boolean) ∈ lw_good := List.mem_filter.mpr ⟨List.mem_of_getElem? (i := 265) (by decide +kernel), by decide +kernel⟩
theorem w_266 : Cond.methodLink "IndicatorDiagram" 62 yX3_pistonAreaOf ∈ lw_good := List.mem_filter.mpr ⟨List.mem_of_getElem? (i := 266) (by decide +kernel), by decide +kernel⟩
theorem w_267 : Cond.instanceMethod yX3_pistonAreaOf ∈ lw_good := List.mem_filter.mpr ⟨List.mem_of_getElem? (i := 267) (by decide +kernel), by decide +kernel⟩
theorem w_268 : Cond.selects "IndicatorDiagram$State" yX3_pistonAreaOf yX3_pistonAreaOf ∈ lw_good := List.mem_filter.mpr ⟨List.mem_of_getElem? (i := 268) (by decide +kernel), by decide +kernel⟩
theorem w_269 : Cond.code yX3_pistonAreaOf cX3_pistonAreaOf 2 (some FieldType.int) ∈ lw_good := List.mem_filter.mpr ⟨List.mem_of_getElem? (i := 269) (by decide +kernel), by decide +kernel⟩
theorem w_270 : Cond.methodLink "IndicatorDiagramLaw" 23 yX4_setStroke ∈ lw_good := List.mem_filter.mpr ⟨List.mem_of_getElem? (i := 270) (by decide +kernel), by decide +kernel⟩
theorem w_271 : Cond.instanceMethod yX4_setStroke ∈ lw_good := List.mem_filter.mpr ⟨List.mem_of_getElem? (i := 271) (by decide +kernel), by decide +kernel⟩
theorem w_272 : Cond.selects "IndicatorDiagram" yX4_setStroke yX4_setStroke ∈ lw_good := List.mem_filter.mpr ⟨List.mem_of_getElem? (i := 272) (by decide +kernel), by decide +kernel⟩
theorem w_273 : Cond.code yX4_setStroke cX4_setStroke 3 (some FieldType.int) ∈ lw_good := List.mem_filter.mpr ⟨List.mem_of_getElem? (i := 273) (by decide +kernel), by decide +kernel⟩
theorem w_274 : Cond.methodLink "IndicatorDiagramLaw" 27 yX4_setBoilerPressure ∈ lw_good := List.mem_filter.mpr ⟨List.mem_of_getElem? (i := 274) (by decide +kernel), by decide +kernel⟩
theorem w_275 : Cond.instanceMethod yX4_setBoilerPressure ∈ lw_good := List.mem_filter.mpr ⟨List.mem_of_getElem? (i := 275) (by decide +kernel), by decide +kernel⟩
theorem w_276 : Cond.selects "IndicatorDiagram" yX4_setBoilerPressure yX4_setBoilerPressure ∈ lw_good := List.mem_filter.mpr ⟨List.mem_of_getElem? (i := 276) (by decide +kernel), by decide +kernel⟩
theorem w_277 : Cond.code yX4_setBoilerPressure cX4_setBoilerPressure 3 (some FieldType.int) ∈ lw_good := List.mem_filter.mpr ⟨List.mem_of_getElem? (i := 277) (by decide +kernel), by decide +kernel⟩
theorem w_278 : Cond.methodLink "IndicatorDiagramLaw" 31 yX4_setBackPressure ∈ lw_good := List.mem_filter.mpr ⟨List.mem_of_getElem? (i := 278) (by decide +kernel), by decide +kernel⟩
theorem w_279 : Cond.instanceMethod yX4_setBackPressure ∈ lw_good := List.mem_filter.mpr ⟨List.mem_of_getElem? (i := 279) (by decide +kernel), by decide +kernel⟩
theorem w_280 : Cond.selects "IndicatorDiagram" yX4_setBackPressure yX4_setBackPressure ∈ lw_good := List.mem_filter.mpr ⟨List.mem_of_getElem? (i := 280) (by decide +kernel), by decide +kernel⟩
theorem w_281 : Cond.code yX4_setBackPressure cX4_setBackPressure 3 (some FieldType.int) ∈ lw_good := List.mem_filter.mpr ⟨List.mem_of_getElem? (i := 281) (by decide +kernel), by decide +kernel⟩
theorem w_282 : Cond.methodLink "IndicatorDiagramLaw" 35 yX4_setFinding ∈ lw_good := List.mem_filter.mpr ⟨List.mem_of_getElem? (i := 282) (by decide +kernel), by decide +kernel⟩
theorem w_283 : Cond.instanceMethod yX4_setFinding ∈ lw_good := List.mem_filter.mpr ⟨List.mem_of_getElem? (i := 283) (by decide +kernel), by decide +kernel⟩
theorem w_284 : Cond.selects "IndicatorDiagram" yX4_setFinding yX4_setFinding ∈ lw_good := List.mem_filter.mpr ⟨List.mem_of_getElem? (i := 284) (by decide +kernel), by decide +kernel⟩
theorem w_285 : Cond.code yX4_setFinding cX4_setFinding 4 (some FieldType.int) ∈ lw_good := List.mem_filter.mpr ⟨List.mem_of_getElem? (i := 285) (by decide +kernel), by decide +kernel⟩
theorem w_286 : Cond.methodLink "IndicatorDiagramLaw" 39 yX4_setValves ∈ lw_good := List.mem_filter.mpr ⟨List.mem_of_getElem? (i := 286) (by decide +kernel), by decide +kernel⟩
theorem w_287 : Cond.instanceMethod yX4_setValves ∈ lw_good := List.mem_filter.mpr ⟨List.mem_of_getElem? (i := 287) (by decide +kernel), by decide +kernel⟩
theorem w_288 : Cond.selects "IndicatorDiagram" yX4_setValves yX4_setValves ∈ lw_good := List.mem_filter.mpr ⟨List.mem_of_getElem? (i := 288) (by decide +kernel), by decide +kernel⟩
theorem w_289 : Cond.code yX4_setValves cX4_setValves 7 (some FieldType.int) ∈ lw_good := List.mem_filter.mpr ⟨List.mem_of_getElem? (i := 289) (by decide +kernel), by decide +kernel⟩
theorem w_290 : Cond.methodLink "IndicatorDiagram" 87 yX4_areValves ∈ lw_good := List.mem_filter.mpr ⟨List.mem_of_getElem? (i := 290) (by decide +kernel), by decide +kernel⟩
theorem w_291 : Cond.static yX4_areValves ∈ lw_good := List.mem_filter.mpr ⟨List.mem_of_getElem? (i := 291) (by decide +kernel), by decide +kernel⟩
theorem w_292 : Cond.code yX4_areValves cX4_areValves 4 (some FieldType.boolean) ∈ lw_good := List.mem_filter.mpr ⟨List.mem_of_getElem? (i := 292) (by decide +kernel), by decide +kernel⟩
theorem w_293 : Cond.methodLink "IndicatorDiagram" 91 yX3_valvesOf ∈ lw_good := List.mem_filter.mpr ⟨List.mem_of_getElem? (i := 293) (by decide +kernel), by decide +kernel⟩
theorem w_294 : Cond.instanceMethod yX3_valvesOf ∈ lw_good := List.mem_filter.mpr ⟨List.mem_of_getElem? (i := 294) (by decide +kernel), by decide +kernel⟩
theorem w_295 : Cond.selects "IndicatorDiagram$State" yX3_valvesOf yX3_valvesOf ∈ lw_good := List.mem_filter.mpr ⟨List.mem_of_getElem? (i := 295) (by decide +kernel), by decide +kernel⟩
theorem w_296 : Cond.code yX3_valvesOf cX3_valvesOf 2 (some (FieldType.object "IndicatorDiagram$Events")) ∈ lw_good := List.mem_filter.mpr ⟨List.mem_of_getElem? (i := 296) (by decide +kernel), by decide +kernel⟩
theorem w_297 : Cond.methodLink "IndicatorDiagramLaw" 44 yX4_valve ∈ lw_good := List.mem_filter.mpr ⟨List.mem_of_getElem? (i := 297) (by decide +kernel), by decide +kernel⟩
theorem w_298 : Cond.instanceMethod yX4_valve ∈ lw_good := List.mem_filter.mpr ⟨List.mem_of_getElem? (i := 298) (by decide +kernel), by decide +kernel⟩
theorem w_299 : Cond.selects "IndicatorDiagram" yX4_valve yX4_valve ∈ lw_good := List.mem_filter.mpr ⟨List.mem_of_getElem? (i := 299) (by decide +kernel), by decide +kernel⟩
theorem w_300 : Cond.code yX4_valve cX4_valve 3 (some FieldType.int) ∈ lw_good := List.mem_filter.mpr ⟨List.mem_of_getElem? (i := 300) (by decide +kernel), by decide +kernel⟩
theorem w_301 : Cond.methodLink "IndicatorDiagram" 107 yX4_isEvent ∈ lw_good := List.mem_filter.mpr ⟨List.mem_of_getElem? (i := 301) (by decide +kernel), by decide +kernel⟩
theorem w_302 : Cond.static yX4_isEvent ∈ lw_good := List.mem_filter.mpr ⟨List.mem_of_getElem? (i := 302) (by decide +kernel), by decide +kernel⟩
theorem w_303 : Cond.code yX4_isEvent cX4_isEvent 1 (some FieldType.boolean) ∈ lw_good := List.mem_filter.mpr ⟨List.mem_of_getElem? (i := 303) (by decide +kernel), by decide +kernel⟩
theorem w_304 : Cond.methodLink "IndicatorDiagram" 110 yX2_stationOf ∈ lw_good := List.mem_filter.mpr ⟨List.mem_of_getElem? (i := 304) (by decide +kernel), by decide +kernel⟩
theorem w_305 : Cond.instanceMethod yX2_stationOf ∈ lw_good := List.mem_filter.mpr ⟨List.mem_of_getElem? (i := 305) (by decide +kernel), by decide +kernel⟩
theorem w_306 : Cond.selects "IndicatorDiagram$Events" yX2_stationOf yX2_stationOf ∈ lw_good := List.mem_filter.mpr ⟨List.mem_of_getElem? (i := 306) (by decide +kernel), by decide +kernel⟩
theorem w_307 : Cond.code yX2_stationOf cX2_stationOf 2 (some FieldType.int) ∈ lw_good := List.mem_filter.mpr ⟨List.mem_of_getElem? (i := 307) (by decide +kernel), by decide +kernel⟩
theorem w_308 : Cond.methodLink "IndicatorDiagramLaw" 48 yX4_beginCard ∈ lw_good := List.mem_filter.mpr ⟨List.mem_of_getElem? (i := 308) (by decide +kernel), by decide +kernel⟩
theorem w_309 : Cond.instanceMethod yX4_beginCard ∈ lw_good := List.mem_filter.mpr ⟨List.mem_of_getElem? (i := 309) (by decide +kernel), by decide +kernel⟩
theorem w_310 : Cond.selects "IndicatorDiagram" yX4_beginCard yX4_beginCard ∈ lw_good := List.mem_filter.mpr ⟨List.mem_of_getElem? (i := 310) (by decide +kernel), by decide +kernel⟩
theorem w_311 : Cond.code yX4_beginCard cX4_beginCard 4 (some FieldType.int) ∈ lw_good := List.mem_filter.mpr ⟨List.mem_of_getElem? (i := 311) (by decide +kernel), by decide +kernel⟩
theorem w_312 : Cond.methodLink "IndicatorDiagram" 113 yX4_isSpeed ∈ lw_good := List.mem_filter.mpr ⟨List.mem_of_getElem? (i := 312) (by decide +kernel), by decide +kernel⟩
theorem w_313 : Cond.static yX4_isSpeed ∈ lw_good := List.mem_filter.mpr ⟨List.mem_of_getElem? (i := 313) (by decide +kernel), by decide +kernel⟩
theorem w_314 : Cond.code yX4_isSpeed cX4_isSpeed 1 (some FieldType.boolean) ∈ lw_good := List.mem_filter.mpr ⟨List.mem_of_getElem? (i := 314) (by decide +kernel), by decide +kernel⟩
theorem w_315 : Cond.methodLink "IndicatorDiagram" 126 yX1_begin ∈ lw_good := List.mem_filter.mpr ⟨List.mem_of_getElem? (i := 315) (by decide +kernel), by decide +kernel⟩
theorem w_316 : Cond.instanceMethod yX1_begin ∈ lw_good := List.mem_filter.mpr ⟨List.mem_of_getElem? (i := 316) (by decide +kernel), by decide +kernel⟩
theorem w_317 : Cond.selects "IndicatorDiagram$Draft" yX1_begin yX1_begin ∈ lw_good := List.mem_filter.mpr ⟨List.mem_of_getElem? (i := 317) (by decide +kernel), by decide +kernel⟩
theorem w_318 : Cond.code yX1_begin cX1_begin 4 none ∈ lw_good := List.mem_filter.mpr ⟨List.mem_of_getElem? (i := 318) (by decide +kernel), by decide +kernel⟩
theorem w_319 : Cond.methodLink "IndicatorDiagramLaw" 52 yX4_setPoint ∈ lw_good := List.mem_filter.mpr ⟨List.mem_of_getElem? (i := 319) (by decide +kernel), by decide +kernel⟩
theorem w_320 : Cond.instanceMethod yX4_setPoint ∈ lw_good := List.mem_filter.mpr ⟨List.mem_of_getElem? (i := 320) (by decide +kernel), by decide +kernel⟩
theorem w_321 : Cond.selects "IndicatorDiagram" yX4_setPoint yX4_setPoint ∈ lw_good := List.mem_filter.mpr ⟨List.mem_of_getElem? (i := 321) (by decide +kernel), by decide +kernel⟩
theorem w_322 : Cond.code yX4_setPoint cX4_setPoint 5 (some FieldType.int) ∈ lw_good := List.mem_filter.mpr ⟨List.mem_of_getElem? (i := 322) (by decide +kernel), by decide +kernel⟩
theorem w_323 : Cond.methodLink "IndicatorDiagram" 130 yX4_isStroke ∈ lw_good := List.mem_filter.mpr ⟨List.mem_of_getElem? (i := 323) (by decide +kernel), by decide +kernel⟩
theorem w_324 : Cond.static yX4_isStroke ∈ lw_good := List.mem_filter.mpr ⟨List.mem_of_getElem? (i := 324) (by decide +kernel), by decide +kernel⟩
theorem w_325 : Cond.code yX4_isStroke cX4_isStroke 1 (some FieldType.boolean) ∈ lw_good := List.mem_filter.mpr ⟨List.mem_of_getElem? (i := 325) (by decide +kernel), by decide +kernel⟩
theorem w_326 : Cond.methodLink "IndicatorDiagram" 133 yX4_isStation ∈ lw_good := List.mem_filter.mpr ⟨List.mem_of_getElem? (i := 326) (by decide +kernel), by decide +kernel⟩
theorem w_327 : Cond.static yX4_isStation ∈ lw_good := List.mem_filter.mpr ⟨List.mem_of_getElem? (i := 327) (by decide +kernel), by decide +kernel⟩
theorem w_328 : Cond.code yX4_isStation cX4_isStation 1 (some FieldType.boolean) ∈ lw_good := List.mem_filter.mpr ⟨List.mem_of_getElem? (i := 328) (by decide +kernel), by decide +kernel⟩
theorem w_329 : Cond.constant "IndicatorDiagram" 136 (-2000000002) ∈ lw_good := List.mem_filter.mpr ⟨List.mem_of_getElem? (i := 329) (by decide +kernel), by decide +kernel⟩
theorem w_330 : Cond.methodLink "IndicatorDiagram" 137 yX1_pointsOf ∈ lw_good := List.mem_filter.mpr ⟨List.mem_of_getElem? (i := 330) (by decide +kernel), by decide +kernel⟩
theorem w_331 : Cond.instanceMethod yX1_pointsOf ∈ lw_good := List.mem_filter.mpr ⟨List.mem_of_getElem? (i := 331) (by decide +kernel), by decide +kernel⟩
theorem w_332 : Cond.selects "IndicatorDiagram$Draft" yX1_pointsOf yX1_pointsOf ∈ lw_good := List.mem_filter.mpr ⟨List.mem_of_getElem? (i := 332) (by decide +kernel), by decide +kernel⟩
theorem w_333 : Cond.code yX1_pointsOf cX1_pointsOf 2 (some (FieldType.array FieldType.int)) ∈ lw_good := List.mem_filter.mpr ⟨List.mem_of_getElem? (i := 333) (by decide +kernel), by decide +kernel⟩
theorem w_334 : Cond.methodLink "IndicatorDiagram" 141 yX4_countPoints ∈ lw_good := List.mem_filter.mpr ⟨List.mem_of_getElem? (i := 334) (by decide +kernel), by decide +kernel⟩
theorem w_335 : Cond.static yX4_countPoints ∈ lw_good := List.mem_filter.mpr ⟨List.mem_of_getElem? (i := 335) (by decide +kernel), by decide +kernel⟩
theorem w_336 : Cond.code yX4_countPoints cX4_countPoints 3 (some FieldType.int) ∈ lw_good := List.mem_filter.mpr ⟨List.mem_of_getElem? (i := 336) (by decide +kernel), by decide +kernel⟩
theorem w_337 : Cond.methodLink "IndicatorDiagramLaw" 57 yX4_finishCard ∈ lw_good := List.mem_filter.mpr ⟨List.mem_of_getElem? (i := 337) (by decide +kernel), by decide +kernel⟩
theorem w_338 : Cond.instanceMethod yX4_finishCard ∈ lw_good := List.mem_filter.mpr ⟨List.mem_of_getElem? (i := 338) (by decide +kernel), by decide +kernel⟩
theorem w_339 : Cond.selects "IndicatorDiagram" yX4_finishCard yX4_finishCard ∈ lw_good := List.mem_filter.mpr ⟨List.mem_of_getElem? (i := 339) (by decide +kernel), by decide +kernel⟩
theorem w_340 : Cond.code yX4_finishCard cX4_finishCard 3 (some FieldType.int) ∈ lw_good := List.mem_filter.mpr ⟨List.mem_of_getElem? (i := 340) (by decide +kernel), by decide +kernel⟩
theorem w_341 : Cond.constant "IndicatorDiagram" 154 (-2000000003) ∈ lw_good := List.mem_filter.mpr ⟨List.mem_of_getElem? (i := 341) (by decide +kernel), by decide +kernel⟩
theorem w_342 : Cond.methodLink "IndicatorDiagram" 164 yX4_drawThroughPoints ∈ lw_good := List.mem_filter.mpr ⟨List.mem_of_getElem? (i := 342) (by decide +kernel), by decide +kernel⟩
theorem w_343 : Cond.static yX4_drawThroughPoints ∈ lw_good := List.mem_filter.mpr ⟨List.mem_of_getElem? (i := 343) (by decide +kernel), by decide +kernel⟩
theorem w_344 : Cond.code yX4_drawThroughPoints cX4_drawThroughPoints 6 none ∈ lw_good := List.mem_filter.mpr ⟨List.mem_of_getElem? (i := 344) (by decide +kernel), by decide +kernel⟩
theorem w_345 : Cond.methodLink "IndicatorDiagram" 296 yX4_pointUpTo ∈ lw_good := List.mem_filter.mpr ⟨List.mem_of_getElem? (i := 345) (by decide +kernel), by decide +kernel⟩
theorem w_346 : Cond.static yX4_pointUpTo ∈ lw_good := List.mem_filter.mpr ⟨List.mem_of_getElem? (i := 346) (by decide +kernel), by decide +kernel⟩
theorem w_347 : Cond.code yX4_pointUpTo cX4_pointUpTo 3 (some FieldType.int) ∈ lw_good := List.mem_filter.mpr ⟨List.mem_of_getElem? (i := 347) (by decide +kernel), by decide +kernel⟩
theorem w_348 : Cond.methodLink "IndicatorDiagram" 300 yX4_pointFrom ∈ lw_good := List.mem_filter.mpr ⟨List.mem_of_getElem? (i := 348) (by decide +kernel), by decide +kernel⟩
theorem w_349 : Cond.static yX4_pointFrom ∈ lw_good := List.mem_filter.mpr ⟨List.mem_of_getElem? (i := 349) (by decide +kernel), by decide +kernel⟩
theorem w_350 : Cond.code yX4_pointFrom cX4_pointFrom 3 (some FieldType.int) ∈ lw_good := List.mem_filter.mpr ⟨List.mem_of_getElem? (i := 350) (by decide +kernel), by decide +kernel⟩
theorem w_351 : Cond.methodLink "IndicatorDiagram" 212 yX4_quotient ∈ lw_good := List.mem_filter.mpr ⟨List.mem_of_getElem? (i := 351) (by decide +kernel), by decide +kernel⟩
theorem w_352 : Cond.static yX4_quotient ∈ lw_good := List.mem_filter.mpr ⟨List.mem_of_getElem? (i := 352) (by decide +kernel), by decide +kernel⟩
theorem w_353 : Cond.code yX4_quotient cX4_quotient 2 (some FieldType.int) ∈ lw_good := List.mem_filter.mpr ⟨List.mem_of_getElem? (i := 353) (by decide +kernel), by decide +kernel⟩
theorem w_354 : Cond.methodLink "IndicatorDiagram" 291 yJ9_floorDiv_7cf53 ∈ lw_good := List.mem_filter.mpr ⟨List.mem_of_getElem? (i := 354) (by decide +kernel), by decide +kernel⟩
theorem w_355 : Cond.static yJ9_floorDiv_7cf53 ∈ lw_good := List.mem_filter.mpr ⟨List.mem_of_getElem? (i := 355) (by decide +kernel), by decide +kernel⟩
theorem w_356 : Cond.code yJ9_floorDiv_7cf53 cJ9_floorDiv_7cf53 3 (some FieldType.int) ∈ lw_good := List.mem_filter.mpr ⟨List.mem_of_getElem? (i := 356) (by decide +kernel), by decide +kernel⟩
theorem w_357 : Cond.methodLink "IndicatorDiagram" 169 yX4_addCard ∈ lw_good := List.mem_filter.mpr ⟨List.mem_of_getElem? (i := 357) (by decide +kernel), by decide +kernel⟩
theorem w_359 : Cond.instanceMethod yX4_addCard ∈ lw_good := List.mem_filter.mpr ⟨List.mem_of_getElem? (i := 359) (by decide +kernel), by decide +kernel⟩
theorem w_360 : Cond.code yX4_addCard cX4_addCard 3 (some FieldType.int) ∈ lw_good := List.mem_filter.mpr ⟨List.mem_of_getElem? (i := 360) (by decide +kernel), by decide +kernel⟩
theorem w_361 : Cond.methodLink "IndicatorDiagramLaw" 62 yX4_addIdealCard ∈ lw_good := List.mem_filter.mpr ⟨List.mem_of_getElem? (i := 361) (by decide +kernel), by decide +kernel⟩
theorem w_362 : Cond.instanceMethod yX4_addIdealCard ∈ lw_good := List.mem_filter.mpr ⟨List.mem_of_getElem? (i := 362) (by decide +kernel), by decide +kernel⟩
theorem w_363 : Cond.selects "IndicatorDiagram" yX4_addIdealCard yX4_addIdealCard ∈ lw_good := List.mem_filter.mpr ⟨List.mem_of_getElem? (i := 363) (by decide +kernel), by decide +kernel⟩
theorem w_364 : Cond.code yX4_addIdealCard cX4_addIdealCard 6 (some FieldType.int) ∈ lw_good := List.mem_filter.mpr ⟨List.mem_of_getElem? (i := 364) (by decide +kernel), by decide +kernel⟩
theorem w_365 : Cond.methodLink "IndicatorDiagram" 173 yX2_copyShifted ∈ lw_good := List.mem_filter.mpr ⟨List.mem_of_getElem? (i := 365) (by decide +kernel), by decide +kernel⟩
theorem w_366 : Cond.methodLink "IndicatorDiagram" 177 yX2_existAsIdealCard ∈ lw_good := List.mem_filter.mpr ⟨List.mem_of_getElem? (i := 366) (by decide +kernel), by decide +kernel⟩
theorem w_367 : Cond.instanceMethod yX2_existAsIdealCard ∈ lw_good := List.mem_filter.mpr ⟨List.mem_of_getElem? (i := 367) (by decide +kernel), by decide +kernel⟩
theorem w_368 : Cond.selects "IndicatorDiagram$Events" yX2_existAsIdealCard yX2_existAsIdealCard ∈ lw_good := List.mem_filter.mpr ⟨List.mem_of_getElem? (i := 368) (by decide +kernel), by decide +kernel⟩
theorem w_369 : Cond.code yX2_existAsIdealCard cX2_existAsIdealCard 1 (some FieldType.boolean) ∈ lw_good := List.mem_filter.mpr ⟨List.mem_of_getElem? (i := 369) (by decide +kernel), by decide +kernel⟩
theorem w_370 : Cond.methodLinkNest "IndicatorDiagram$Events" 24 yX4_isWithin "IndicatorDiagram" ∈ lw_tbl := List.mem_of_getElem? (i := 370) (by decide +kernel)
theorem w_371 : Cond.methodLink "IndicatorDiagram" 181 yX4_drawIdealCard ∈ lw_good := List.mem_filter.mpr ⟨List.mem_of_getElem? (i := 371) (by decide +kernel), by decide +kernel⟩
theorem w_373 : Cond.instanceMethod yX4_drawIdealCard ∈ lw_good := List.mem_filter.mpr ⟨List.mem_of_getElem? (i := 373) (by decide +kernel), by decide +kernel⟩
theorem w_374 : Cond.code yX4_drawIdealCard cX4_drawIdealCard 4 none ∈ lw_good := List.mem_filter.mpr ⟨List.mem_of_getElem? (i := 374) (by decide +kernel), by decide +kernel⟩
theorem w_375 : Cond.methodLink "IndicatorDiagram" 303 yX4_drawIdealOutward ∈ lw_good := List.mem_filter.mpr ⟨List.mem_of_getElem? (i := 375) (by decide +kernel), by decide +kernel⟩
theorem w_377 : Cond.instanceMethod yX4_drawIdealOutward ∈ lw_good := List.mem_filter.mpr ⟨List.mem_of_getElem? (i := 377) (by decide +kernel), by decide +kernel⟩
theorem w_378 : Cond.code yX4_drawIdealOutward cX4_drawIdealOutward 10 none ∈ lw_good := List.mem_filter.mpr ⟨List.mem_of_getElem? (i := 378) (by decide +kernel), by decide +kernel⟩
theorem w_379 : Cond.methodLink "IndicatorDiagram" 311 yX3_volumeAt ∈ lw_good := List.mem_filter.mpr ⟨List.mem_of_getElem? (i := 379) (by decide +kernel), by decide +kernel⟩
theorem w_380 : Cond.instanceMethod yX3_volumeAt ∈ lw_good := List.mem_filter.mpr ⟨List.mem_of_getElem? (i := 380) (by decide +kernel), by decide +kernel⟩
theorem w_381 : Cond.selects "IndicatorDiagram$State" yX3_volumeAt yX3_volumeAt ∈ lw_good := List.mem_filter.mpr ⟨List.mem_of_getElem? (i := 381) (by decide +kernel), by decide +kernel⟩
theorem w_382 : Cond.code yX3_volumeAt cX3_volumeAt 2 (some FieldType.int) ∈ lw_good := List.mem_filter.mpr ⟨List.mem_of_getElem? (i := 382) (by decide +kernel), by decide +kernel⟩
theorem w_383 : Cond.methodLink "IndicatorDiagram" 307 yX4_drawIdealReturn ∈ lw_good := List.mem_filter.mpr ⟨List.mem_of_getElem? (i := 383) (by decide +kernel), by decide +kernel⟩
theorem w_385 : Cond.instanceMethod yX4_drawIdealReturn ∈ lw_good := List.mem_filter.mpr ⟨List.mem_of_getElem? (i := 385) (by decide +kernel), by decide +kernel⟩
theorem w_386 : Cond.code yX4_drawIdealReturn cX4_drawIdealReturn 7 none ∈ lw_good := List.mem_filter.mpr ⟨List.mem_of_getElem? (i := 386) (by decide +kernel), by decide +kernel⟩
theorem w_387 : Cond.methodLink "IndicatorDiagramLaw" 67 yX4_removeCard ∈ lw_good := List.mem_filter.mpr ⟨List.mem_of_getElem? (i := 387) (by decide +kernel), by decide +kernel⟩
theorem w_388 : Cond.instanceMethod yX4_removeCard ∈ lw_good := List.mem_filter.mpr ⟨List.mem_of_getElem? (i := 388) (by decide +kernel), by decide +kernel⟩
theorem w_389 : Cond.selects "IndicatorDiagram" yX4_removeCard yX4_removeCard ∈ lw_good := List.mem_filter.mpr ⟨List.mem_of_getElem? (i := 389) (by decide +kernel), by decide +kernel⟩
theorem w_390 : Cond.code yX4_removeCard cX4_removeCard 2 (some FieldType.int) ∈ lw_good := List.mem_filter.mpr ⟨List.mem_of_getElem? (i := 390) (by decide +kernel), by decide +kernel⟩
theorem w_391 : Cond.methodLink "IndicatorDiagram" 185 yX4_isCard ∈ lw_good := List.mem_filter.mpr ⟨List.mem_of_getElem? (i := 391) (by decide +kernel), by decide +kernel⟩
theorem w_393 : Cond.instanceMethod yX4_isCard ∈ lw_good := List.mem_filter.mpr ⟨List.mem_of_getElem? (i := 393) (by decide +kernel), by decide +kernel⟩
theorem w_394 : Cond.code yX4_isCard cX4_isCard 2 (some FieldType.boolean) ∈ lw_good := List.mem_filter.mpr ⟨List.mem_of_getElem? (i := 394) (by decide +kernel), by decide +kernel⟩
theorem w_395 : Cond.methodLink "IndicatorDiagram" 188 yX3_dropCard ∈ lw_good := List.mem_filter.mpr ⟨List.mem_of_getElem? (i := 395) (by decide +kernel), by decide +kernel⟩
theorem w_396 : Cond.instanceMethod yX3_dropCard ∈ lw_good := List.mem_filter.mpr ⟨List.mem_of_getElem? (i := 396) (by decide +kernel), by decide +kernel⟩
theorem w_397 : Cond.selects "IndicatorDiagram$State" yX3_dropCard yX3_dropCard ∈ lw_good := List.mem_filter.mpr ⟨List.mem_of_getElem? (i := 397) (by decide +kernel), by decide +kernel⟩
theorem w_398 : Cond.code yX3_dropCard cX3_dropCard 3 none ∈ lw_good := List.mem_filter.mpr ⟨List.mem_of_getElem? (i := 398) (by decide +kernel), by decide +kernel⟩
theorem w_399 : Cond.methodLink "IndicatorDiagramLaw" 71 yX4_cardCount ∈ lw_good := List.mem_filter.mpr ⟨List.mem_of_getElem? (i := 399) (by decide +kernel), by decide +kernel⟩
theorem w_400 : Cond.instanceMethod yX4_cardCount ∈ lw_good := List.mem_filter.mpr ⟨List.mem_of_getElem? (i := 400) (by decide +kernel), by decide +kernel⟩
theorem w_401 : Cond.selects "IndicatorDiagram" yX4_cardCount yX4_cardCount ∈ lw_good := List.mem_filter.mpr ⟨List.mem_of_getElem? (i := 401) (by decide +kernel), by decide +kernel⟩
theorem w_402 : Cond.code yX4_cardCount cX4_cardCount 1 (some FieldType.int) ∈ lw_good := List.mem_filter.mpr ⟨List.mem_of_getElem? (i := 402) (by decide +kernel), by decide +kernel⟩
theorem w_403 : Cond.methodLink "IndicatorDiagramLaw" 75 yX4_end ∈ lw_good := List.mem_filter.mpr ⟨List.mem_of_getElem? (i := 403) (by decide +kernel), by decide +kernel⟩
theorem w_404 : Cond.instanceMethod yX4_end ∈ lw_good := List.mem_filter.mpr ⟨List.mem_of_getElem? (i := 404) (by decide +kernel), by decide +kernel⟩
theorem w_405 : Cond.selects "IndicatorDiagram" yX4_end yX4_end ∈ lw_good := List.mem_filter.mpr ⟨List.mem_of_getElem? (i := 405) (by decide +kernel), by decide +kernel⟩
theorem w_406 : Cond.code yX4_end cX4_end 2 (some FieldType.int) ∈ lw_good := List.mem_filter.mpr ⟨List.mem_of_getElem? (i := 406) (by decide +kernel), by decide +kernel⟩
theorem w_407 : Cond.methodLink "IndicatorDiagramLaw" 79 yX4_speed ∈ lw_good := List.mem_filter.mpr ⟨List.mem_of_getElem? (i := 407) (by decide +kernel), by decide +kernel⟩
theorem w_408 : Cond.instanceMethod yX4_speed ∈ lw_good := List.mem_filter.mpr ⟨List.mem_of_getElem? (i := 408) (by decide +kernel), by decide +kernel⟩
theorem w_409 : Cond.selects "IndicatorDiagram" yX4_speed yX4_speed ∈ lw_good := List.mem_filter.mpr ⟨List.mem_of_getElem? (i := 409) (by decide +kernel), by decide +kernel⟩
theorem w_410 : Cond.code yX4_speed cX4_speed 2 (some FieldType.int) ∈ lw_good := List.mem_filter.mpr ⟨List.mem_of_getElem? (i := 410) (by decide +kernel), by decide +kernel⟩
theorem w_411 : Cond.methodLink "IndicatorDiagramLaw" 83 yX4_pressure ∈ lw_good := List.mem_filter.mpr ⟨List.mem_of_getElem? (i := 411) (by decide +kernel), by decide +kernel⟩
theorem w_412 : Cond.instanceMethod yX4_pressure ∈ lw_good := List.mem_filter.mpr ⟨List.mem_of_getElem? (i := 412) (by decide +kernel), by decide +kernel⟩
theorem w_413 : Cond.selects "IndicatorDiagram" yX4_pressure yX4_pressure ∈ lw_good := List.mem_filter.mpr ⟨List.mem_of_getElem? (i := 413) (by decide +kernel), by decide +kernel⟩
theorem w_414 : Cond.code yX4_pressure cX4_pressure 4 (some FieldType.int) ∈ lw_good := List.mem_filter.mpr ⟨List.mem_of_getElem? (i := 414) (by decide +kernel), by decide +kernel⟩
theorem w_415 : Cond.methodLink "IndicatorDiagram" 196 yX0_pressuresOf ∈ lw_good := List.mem_filter.mpr ⟨List.mem_of_getElem? (i := 415) (by decide +kernel), by decide +kernel⟩
theorem w_416 : Cond.instanceMethod yX0_pressuresOf ∈ lw_good := List.mem_filter.mpr ⟨List.mem_of_getElem? (i := 416) (by decide +kernel), by decide +kernel⟩
theorem w_417 : Cond.selects "IndicatorDiagram$Card" yX0_pressuresOf yX0_pressuresOf ∈ lw_good := List.mem_filter.mpr ⟨List.mem_of_getElem? (i := 417) (by decide +kernel), by decide +kernel⟩
theorem w_418 : Cond.code yX0_pressuresOf cX0_pressuresOf 2 (some (FieldType.array FieldType.int)) ∈ lw_good := List.mem_filter.mpr ⟨List.mem_of_getElem? (i := 418) (by decide +kernel), by decide +kernel⟩
theorem w_419 : Cond.methodLink "IndicatorDiagramLaw" 87 yX4_area ∈ lw_good := List.mem_filter.mpr ⟨List.mem_of_getElem? (i := 419) (by decide +kernel), by decide +kernel⟩
theorem w_420 : Cond.instanceMethod yX4_area ∈ lw_good := List.mem_filter.mpr ⟨List.mem_of_getElem? (i := 420) (by decide +kernel), by decide +kernel⟩
theorem w_421 : Cond.selects "IndicatorDiagram" yX4_area yX4_area ∈ lw_good := List.mem_filter.mpr ⟨List.mem_of_getElem? (i := 421) (by decide +kernel), by decide +kernel⟩
theorem w_422 : Cond.code yX4_area cX4_area 2 (some FieldType.int) ∈ lw_good := List.mem_filter.mpr ⟨List.mem_of_getElem? (i := 422) (by decide +kernel), by decide +kernel⟩
theorem w_423 : Cond.methodLink "IndicatorDiagram" 199 yX0_wholeArea ∈ lw_good := List.mem_filter.mpr ⟨List.mem_of_getElem? (i := 423) (by decide +kernel), by decide +kernel⟩
theorem w_424 : Cond.instanceMethod yX0_wholeArea ∈ lw_good := List.mem_filter.mpr ⟨List.mem_of_getElem? (i := 424) (by decide +kernel), by decide +kernel⟩
theorem w_425 : Cond.selects "IndicatorDiagram$Card" yX0_wholeArea yX0_wholeArea ∈ lw_good := List.mem_filter.mpr ⟨List.mem_of_getElem? (i := 425) (by decide +kernel), by decide +kernel⟩
theorem w_426 : Cond.code yX0_wholeArea cX0_wholeArea 3 (some FieldType.int) ∈ lw_good := List.mem_filter.mpr ⟨List.mem_of_getElem? (i := 426) (by decide +kernel), by decide +kernel⟩
theorem w_427 : Cond.methodLink "IndicatorDiagram$Card" 18 yX0_differenceAt ∈ lw_good := List.mem_filter.mpr ⟨List.mem_of_getElem? (i := 427) (by decide +kernel), by decide +kernel⟩
theorem w_428 : Cond.instanceMethod yX0_differenceAt ∈ lw_good := List.mem_filter.mpr ⟨List.mem_of_getElem? (i := 428) (by decide +kernel), by decide +kernel⟩
theorem w_429 : Cond.selects "IndicatorDiagram$Card" yX0_differenceAt yX0_differenceAt ∈ lw_good := List.mem_filter.mpr ⟨List.mem_of_getElem? (i := 429) (by decide +kernel), by decide +kernel⟩
theorem w_430 : Cond.code yX0_differenceAt cX0_differenceAt 2 (some FieldType.int) ∈ lw_good := List.mem_filter.mpr ⟨List.mem_of_getElem? (i := 430) (by decide +kernel), by decide +kernel⟩
theorem w_431 : Cond.methodLink "IndicatorDiagramLaw" 91 yX4_forwardArea ∈ lw_good := List.mem_filter.mpr ⟨List.mem_of_getElem? (i := 431) (by decide +kernel), by decide +kernel⟩
theorem w_432 : Cond.instanceMethod yX4_forwardArea ∈ lw_good := List.mem_filter.mpr ⟨List.mem_of_getElem? (i := 432) (by decide +kernel), by decide +kernel⟩
theorem w_433 : Cond.selects "IndicatorDiagram" yX4_forwardArea yX4_forwardArea ∈ lw_good := List.mem_filter.mpr ⟨List.mem_of_getElem? (i := 433) (by decide +kernel), by decide +kernel⟩
theorem w_434 : Cond.code yX4_forwardArea cX4_forwardArea 2 (some FieldType.int) ∈ lw_good := List.mem_filter.mpr ⟨List.mem_of_getElem? (i := 434) (by decide +kernel), by decide +kernel⟩
theorem w_435 : Cond.methodLink "IndicatorDiagram" 203 yX0_sumOfForwardAreas ∈ lw_good := List.mem_filter.mpr ⟨List.mem_of_getElem? (i := 435) (by decide +kernel), by decide +kernel⟩
theorem w_436 : Cond.instanceMethod yX0_sumOfForwardAreas ∈ lw_good := List.mem_filter.mpr ⟨List.mem_of_getElem? (i := 436) (by decide +kernel), by decide +kernel⟩
theorem w_437 : Cond.selects "IndicatorDiagram$Card" yX0_sumOfForwardAreas yX0_sumOfForwardAreas ∈ lw_good := List.mem_filter.mpr ⟨List.mem_of_getElem? (i := 437) (by decide +kernel), by decide +kernel⟩
theorem w_438 : Cond.code yX0_sumOfForwardAreas cX0_sumOfForwardAreas 3 (some FieldType.int) ∈ lw_good := List.mem_filter.mpr ⟨List.mem_of_getElem? (i := 438) (by decide +kernel), by decide +kernel⟩
theorem w_439 : Cond.methodLink "IndicatorDiagram$Card" 22 yX0_partAboveZero ∈ lw_good := List.mem_filter.mpr ⟨List.mem_of_getElem? (i := 439) (by decide +kernel), by decide +kernel⟩
theorem w_440 : Cond.static yX0_partAboveZero ∈ lw_good := List.mem_filter.mpr ⟨List.mem_of_getElem? (i := 440) (by decide +kernel), by decide +kernel⟩
theorem w_441 : Cond.code yX0_partAboveZero cX0_partAboveZero 4 (some FieldType.int) ∈ lw_good := List.mem_filter.mpr ⟨List.mem_of_getElem? (i := 441) (by decide +kernel), by decide +kernel⟩
theorem w_442 : Cond.methodLink "IndicatorDiagram$Card" 26 yJ9_max_7cf53 ∈ lw_good := List.mem_filter.mpr ⟨List.mem_of_getElem? (i := 442) (by decide +kernel), by decide +kernel⟩
theorem w_443 : Cond.static yJ9_max_7cf53 ∈ lw_good := List.mem_filter.mpr ⟨List.mem_of_getElem? (i := 443) (by decide +kernel), by decide +kernel⟩
theorem w_444 : Cond.code yJ9_max_7cf53 cJ9_max_7cf53 2 (some FieldType.int) ∈ lw_good := List.mem_filter.mpr ⟨List.mem_of_getElem? (i := 444) (by decide +kernel), by decide +kernel⟩
theorem w_445 : Cond.methodLink "IndicatorDiagram$Card" 31 yJ9_min_7cf53 ∈ lw_good := List.mem_filter.mpr ⟨List.mem_of_getElem? (i := 445) (by decide +kernel), by decide +kernel⟩
theorem w_446 : Cond.static yJ9_min_7cf53 ∈ lw_good := List.mem_filter.mpr ⟨List.mem_of_getElem? (i := 446) (by decide +kernel), by decide +kernel⟩
theorem w_447 : Cond.code yJ9_min_7cf53 cJ9_min_7cf53 2 (some FieldType.int) ∈ lw_good := List.mem_filter.mpr ⟨List.mem_of_getElem? (i := 447) (by decide +kernel), by decide +kernel⟩
theorem w_448 : Cond.methodLinkNest "IndicatorDiagram$Card" 34 yX4_quotient "IndicatorDiagram" ∈ lw_tbl := List.mem_of_getElem? (i := 448) (by decide +kernel)
theorem w_449 : Cond.methodLink "IndicatorDiagramLaw" 95 yX4_loopArea ∈ lw_good := List.mem_filter.mpr ⟨List.mem_of_getElem? (i := 449) (by decide +kernel), by decide +kernel⟩
theorem w_450 : Cond.instanceMethod yX4_loopArea ∈ lw_good := List.mem_filter.mpr ⟨List.mem_of_getElem? (i := 450) (by decide +kernel), by decide +kernel⟩
theorem w_451 : Cond.selects "IndicatorDiagram" yX4_loopArea yX4_loopArea ∈ lw_good := List.mem_filter.mpr ⟨List.mem_of_getElem? (i := 451) (by decide +kernel), by decide +kernel⟩
theorem w_452 : Cond.code yX4_loopArea cX4_loopArea 2 (some FieldType.int) ∈ lw_good := List.mem_filter.mpr ⟨List.mem_of_getElem? (i := 452) (by decide +kernel), by decide +kernel⟩
theorem w_453 : Cond.methodLink "IndicatorDiagram" 206 yX0_sumOfLoopAreas ∈ lw_good := List.mem_filter.mpr ⟨List.mem_of_getElem? (i := 453) (by decide +kernel), by decide +kernel⟩
theorem w_454 : Cond.instanceMethod yX0_sumOfLoopAreas ∈ lw_good := List.mem_filter.mpr ⟨List.mem_of_getElem? (i := 454) (by decide +kernel), by decide +kernel⟩
theorem w_455 : Cond.selects "IndicatorDiagram$Card" yX0_sumOfLoopAreas yX0_sumOfLoopAreas ∈ lw_good := List.mem_filter.mpr ⟨List.mem_of_getElem? (i := 455) (by decide +kernel), by decide +kernel⟩
theorem w_456 : Cond.code yX0_sumOfLoopAreas cX0_sumOfLoopAreas 3 (some FieldType.int) ∈ lw_good := List.mem_filter.mpr ⟨List.mem_of_getElem? (i := 456) (by decide +kernel), by decide +kernel⟩
theorem w_457 : Cond.methodLink "IndicatorDiagramLaw" 99 yX4_loopStations ∈ lw_good := List.mem_filter.mpr ⟨List.mem_of_getElem? (i := 457) (by decide +kernel), by decide +kernel⟩
theorem w_458 : Cond.instanceMethod yX4_loopStations ∈ lw_good := List.mem_filter.mpr ⟨List.mem_of_getElem? (i := 458) (by decide +kernel), by decide +kernel⟩
theorem w_459 : Cond.selects "IndicatorDiagram" yX4_loopStations yX4_loopStations ∈ lw_good := List.mem_filter.mpr ⟨List.mem_of_getElem? (i := 459) (by decide +kernel), by decide +kernel⟩
theorem w_460 : Cond.code yX4_loopStations cX4_loopStations 2 (some FieldType.int) ∈ lw_good := List.mem_filter.mpr ⟨List.mem_of_getElem? (i := 460) (by decide +kernel), by decide +kernel⟩
theorem w_461 : Cond.methodLink "IndicatorDiagram" 209 yX0_stationsBelowZero ∈ lw_good := List.mem_filter.mpr ⟨List.mem_of_getElem? (i := 461) (by decide +kernel), by decide +kernel⟩
theorem w_462 : Cond.instanceMethod yX0_stationsBelowZero ∈ lw_good := List.mem_filter.mpr ⟨List.mem_of_getElem? (i := 462) (by decide +kernel), by decide +kernel⟩
theorem w_463 : Cond.selects "IndicatorDiagram$Card" yX0_stationsBelowZero yX0_stationsBelowZero ∈ lw_good := List.mem_filter.mpr ⟨List.mem_of_getElem? (i := 463) (by decide +kernel), by decide +kernel⟩
theorem w_464 : Cond.code yX0_stationsBelowZero cX0_stationsBelowZero 3 (some FieldType.int) ∈ lw_good := List.mem_filter.mpr ⟨List.mem_of_getElem? (i := 464) (by decide +kernel), by decide +kernel⟩
theorem w_465 : Cond.methodLink "IndicatorDiagramLaw" 103 yX4_meanPressure ∈ lw_good := List.mem_filter.mpr ⟨List.mem_of_getElem? (i := 465) (by decide +kernel), by decide +kernel⟩
theorem w_466 : Cond.instanceMethod yX4_meanPressure ∈ lw_good := List.mem_filter.mpr ⟨List.mem_of_getElem? (i := 466) (by decide +kernel), by decide +kernel⟩
theorem w_467 : Cond.selects "IndicatorDiagram" yX4_meanPressure yX4_meanPressure ∈ lw_good := List.mem_filter.mpr ⟨List.mem_of_getElem? (i := 467) (by decide +kernel), by decide +kernel⟩
theorem w_468 : Cond.code yX4_meanPressure cX4_meanPressure 2 (some FieldType.int) ∈ lw_good := List.mem_filter.mpr ⟨List.mem_of_getElem? (i := 468) (by decide +kernel), by decide +kernel⟩
theorem w_469 : Cond.methodLink "IndicatorDiagramLaw" 107 yX4_power ∈ lw_good := List.mem_filter.mpr ⟨List.mem_of_getElem? (i := 469) (by decide +kernel), by decide +kernel⟩
theorem w_470 : Cond.instanceMethod yX4_power ∈ lw_good := List.mem_filter.mpr ⟨List.mem_of_getElem? (i := 470) (by decide +kernel), by decide +kernel⟩
theorem w_471 : Cond.selects "IndicatorDiagram" yX4_power yX4_power ∈ lw_good := List.mem_filter.mpr ⟨List.mem_of_getElem? (i := 471) (by decide +kernel), by decide +kernel⟩
theorem w_472 : Cond.code yX4_power cX4_power 2 (some FieldType.long) ∈ lw_good := List.mem_filter.mpr ⟨List.mem_of_getElem? (i := 472) (by decide +kernel), by decide +kernel⟩
theorem w_473 : Cond.methodLink "IndicatorDiagram" 216 yX4_powerOfCard ∈ lw_good := List.mem_filter.mpr ⟨List.mem_of_getElem? (i := 473) (by decide +kernel), by decide +kernel⟩
theorem w_475 : Cond.instanceMethod yX4_powerOfCard ∈ lw_good := List.mem_filter.mpr ⟨List.mem_of_getElem? (i := 475) (by decide +kernel), by decide +kernel⟩
theorem w_476 : Cond.code yX4_powerOfCard cX4_powerOfCard 2 (some FieldType.long) ∈ lw_good := List.mem_filter.mpr ⟨List.mem_of_getElem? (i := 476) (by decide +kernel), by decide +kernel⟩
theorem w_477 : Cond.methodLink "IndicatorDiagram" 280 yX4_powerFrom ∈ lw_good := List.mem_filter.mpr ⟨List.mem_of_getElem? (i := 477) (by decide +kernel), by decide +kernel⟩
theorem w_479 : Cond.instanceMethod yX4_powerFrom ∈ lw_good := List.mem_filter.mpr ⟨List.mem_of_getElem? (i := 479) (by decide +kernel), by decide +kernel⟩
theorem w_480 : Cond.code yX4_powerFrom cX4_powerFrom 6 (some FieldType.long) ∈ lw_good := List.mem_filter.mpr ⟨List.mem_of_getElem? (i := 480) (by decide +kernel), by decide +kernel⟩
theorem w_481 : Cond.constantLong "IndicatorDiagram" 318 2400000 ∈ lw_good := List.mem_filter.mpr ⟨List.mem_of_getElem? (i := 481) (by decide +kernel), by decide +kernel⟩
theorem w_482 : Cond.methodLink "IndicatorDiagram" 257 yX4_longQuotient ∈ lw_good := List.mem_filter.mpr ⟨List.mem_of_getElem? (i := 482) (by decide +kernel), by decide +kernel⟩
theorem w_483 : Cond.static yX4_longQuotient ∈ lw_good := List.mem_filter.mpr ⟨List.mem_of_getElem? (i := 483) (by decide +kernel), by decide +kernel⟩
theorem w_484 : Cond.code yX4_longQuotient cX4_longQuotient 4 (some FieldType.long) ∈ lw_good := List.mem_filter.mpr ⟨List.mem_of_getElem? (i := 484) (by decide +kernel), by decide +kernel⟩
theorem w_485 : Cond.methodLink "IndicatorDiagram" 294 yJ9_floorDiv_f86c9 ∈ lw_good := List.mem_filter.mpr ⟨List.mem_of_getElem? (i := 485) (by decide +kernel), by decide +kernel⟩
theorem w_486 : Cond.static yJ9_floorDiv_f86c9 ∈ lw_good := List.mem_filter.mpr ⟨List.mem_of_getElem? (i := 486) (by decide +kernel), by decide +kernel⟩
theorem w_487 : Cond.code yJ9_floorDiv_f86c9 cJ9_floorDiv_f86c9 6 (some FieldType.long) ∈ lw_good := List.mem_filter.mpr ⟨List.mem_of_getElem? (i := 487) (by decide +kernel), by decide +kernel⟩
theorem w_488 : Cond.constantLong "IndicatorDiagram" 220 (-2000000001) ∈ lw_good := List.mem_filter.mpr ⟨List.mem_of_getElem? (i := 488) (by decide +kernel), by decide +kernel⟩
theorem w_489 : Cond.methodLink "IndicatorDiagramLaw" 112 yX4_event ∈ lw_good := List.mem_filter.mpr ⟨List.mem_of_getElem? (i := 489) (by decide +kernel), by decide +kernel⟩
theorem w_490 : Cond.instanceMethod yX4_event ∈ lw_good := List.mem_filter.mpr ⟨List.mem_of_getElem? (i := 490) (by decide +kernel), by decide +kernel⟩
theorem w_491 : Cond.selects "IndicatorDiagram" yX4_event yX4_event ∈ lw_good := List.mem_filter.mpr ⟨List.mem_of_getElem? (i := 491) (by decide +kernel), by decide +kernel⟩
theorem w_492 : Cond.code yX4_event cX4_event 3 (some FieldType.int) ∈ lw_good := List.mem_filter.mpr ⟨List.mem_of_getElem? (i := 492) (by decide +kernel), by decide +kernel⟩
theorem w_493 : Cond.methodLink "IndicatorDiagram" 222 yX4_findEvents ∈ lw_good := List.mem_filter.mpr ⟨List.mem_of_getElem? (i := 493) (by decide +kernel), by decide +kernel⟩
theorem w_495 : Cond.instanceMethod yX4_findEvents ∈ lw_good := List.mem_filter.mpr ⟨List.mem_of_getElem? (i := 495) (by decide +kernel), by decide +kernel⟩
theorem w_496 : Cond.code yX4_findEvents cX4_findEvents 2 none ∈ lw_good := List.mem_filter.mpr ⟨List.mem_of_getElem? (i := 496) (by decide +kernel), by decide +kernel⟩
theorem w_497 : Cond.methodLink "IndicatorDiagram" 320 yX4_findAdmission ∈ lw_good := List.mem_filter.mpr ⟨List.mem_of_getElem? (i := 497) (by decide +kernel), by decide +kernel⟩
theorem w_499 : Cond.instanceMethod yX4_findAdmission ∈ lw_good := List.mem_filter.mpr ⟨List.mem_of_getElem? (i := 499) (by decide +kernel), by decide +kernel⟩
theorem w_500 : Cond.code yX4_findAdmission cX4_findAdmission 4 (some FieldType.int) ∈ lw_good := List.mem_filter.mpr ⟨List.mem_of_getElem? (i := 500) (by decide +kernel), by decide +kernel⟩
theorem w_501 : Cond.methodLink "IndicatorDiagram" 332 yX4_greatestOf ∈ lw_good := List.mem_filter.mpr ⟨List.mem_of_getElem? (i := 501) (by decide +kernel), by decide +kernel⟩
theorem w_502 : Cond.static yX4_greatestOf ∈ lw_good := List.mem_filter.mpr ⟨List.mem_of_getElem? (i := 502) (by decide +kernel), by decide +kernel⟩
theorem w_503 : Cond.code yX4_greatestOf cX4_greatestOf 3 (some FieldType.int) ∈ lw_good := List.mem_filter.mpr ⟨List.mem_of_getElem? (i := 503) (by decide +kernel), by decide +kernel⟩
theorem w_504 : Cond.methodLink "IndicatorDiagram" 338 yJ9_max_7cf53 ∈ lw_good := List.mem_filter.mpr ⟨List.mem_of_getElem? (i := 504) (by decide +kernel), by decide +kernel⟩
theorem w_505 : Cond.methodLink "IndicatorDiagram" 323 yX4_findCutOff ∈ lw_good := List.mem_filter.mpr ⟨List.mem_of_getElem? (i := 505) (by decide +kernel), by decide +kernel⟩
theorem w_507 : Cond.instanceMethod yX4_findCutOff ∈ lw_good := List.mem_filter.mpr ⟨List.mem_of_getElem? (i := 507) (by decide +kernel), by decide +kernel⟩
theorem w_508 : Cond.code yX4_findCutOff cX4_findCutOff 5 (some FieldType.int) ∈ lw_good := List.mem_filter.mpr ⟨List.mem_of_getElem? (i := 508) (by decide +kernel), by decide +kernel⟩
theorem w_509 : Cond.methodLink "IndicatorDiagram" 326 yX4_findRelease ∈ lw_good := List.mem_filter.mpr ⟨List.mem_of_getElem? (i := 509) (by decide +kernel), by decide +kernel⟩
theorem w_511 : Cond.instanceMethod yX4_findRelease ∈ lw_good := List.mem_filter.mpr ⟨List.mem_of_getElem? (i := 511) (by decide +kernel), by decide +kernel⟩
theorem w_512 : Cond.code yX4_findRelease cX4_findRelease 5 (some FieldType.int) ∈ lw_good := List.mem_filter.mpr ⟨List.mem_of_getElem? (i := 512) (by decide +kernel), by decide +kernel⟩
theorem w_513 : Cond.methodLink "IndicatorDiagram" 232 yX4_constantAt ∈ lw_good := List.mem_filter.mpr ⟨List.mem_of_getElem? (i := 513) (by decide +kernel), by decide +kernel⟩
theorem w_515 : Cond.instanceMethod yX4_constantAt ∈ lw_good := List.mem_filter.mpr ⟨List.mem_of_getElem? (i := 515) (by decide +kernel), by decide +kernel⟩
theorem w_516 : Cond.code yX4_constantAt cX4_constantAt 3 (some FieldType.int) ∈ lw_good := List.mem_filter.mpr ⟨List.mem_of_getElem? (i := 516) (by decide +kernel), by decide +kernel⟩
theorem w_517 : Cond.methodLink "IndicatorDiagram" 329 yX4_findCompression ∈ lw_good := List.mem_filter.mpr ⟨List.mem_of_getElem? (i := 517) (by decide +kernel), by decide +kernel⟩
theorem w_519 : Cond.instanceMethod yX4_findCompression ∈ lw_good := List.mem_filter.mpr ⟨List.mem_of_getElem? (i := 519) (by decide +kernel), by decide +kernel⟩
theorem w_520 : Cond.code yX4_findCompression cX4_findCompression 4 (some FieldType.int) ∈ lw_good := List.mem_filter.mpr ⟨List.mem_of_getElem? (i := 520) (by decide +kernel), by decide +kernel⟩
theorem w_521 : Cond.methodLink "IndicatorDiagram" 335 yX4_leastOf ∈ lw_good := List.mem_filter.mpr ⟨List.mem_of_getElem? (i := 521) (by decide +kernel), by decide +kernel⟩
theorem w_522 : Cond.static yX4_leastOf ∈ lw_good := List.mem_filter.mpr ⟨List.mem_of_getElem? (i := 522) (by decide +kernel), by decide +kernel⟩
theorem w_523 : Cond.code yX4_leastOf cX4_leastOf 3 (some FieldType.int) ∈ lw_good := List.mem_filter.mpr ⟨List.mem_of_getElem? (i := 523) (by decide +kernel), by decide +kernel⟩
theorem w_524 : Cond.methodLink "IndicatorDiagram" 341 yJ9_min_7cf53 ∈ lw_good := List.mem_filter.mpr ⟨List.mem_of_getElem? (i := 524) (by decide +kernel), by decide +kernel⟩
theorem w_525 : Cond.methodLink "IndicatorDiagramLaw" 116 yX4_lateness ∈ lw_good := List.mem_filter.mpr ⟨List.mem_of_getElem? (i := 525) (by decide +kernel), by decide +kernel⟩
theorem w_526 : Cond.instanceMethod yX4_lateness ∈ lw_good := List.mem_filter.mpr ⟨List.mem_of_getElem? (i := 526) (by decide +kernel), by decide +kernel⟩
theorem w_527 : Cond.selects "IndicatorDiagram" yX4_lateness yX4_lateness ∈ lw_good := List.mem_filter.mpr ⟨List.mem_of_getElem? (i := 527) (by decide +kernel), by decide +kernel⟩
theorem w_528 : Cond.code yX4_lateness cX4_lateness 3 (some FieldType.int) ∈ lw_good := List.mem_filter.mpr ⟨List.mem_of_getElem? (i := 528) (by decide +kernel), by decide +kernel⟩
theorem w_529 : Cond.methodLink "IndicatorDiagram" 225 yX4_foundLateness ∈ lw_good := List.mem_filter.mpr ⟨List.mem_of_getElem? (i := 529) (by decide +kernel), by decide +kernel⟩
theorem w_531 : Cond.instanceMethod yX4_foundLateness ∈ lw_good := List.mem_filter.mpr ⟨List.mem_of_getElem? (i := 531) (by decide +kernel), by decide +kernel⟩
theorem w_532 : Cond.code yX4_foundLateness cX4_foundLateness 4 (some FieldType.int) ∈ lw_good := List.mem_filter.mpr ⟨List.mem_of_getElem? (i := 532) (by decide +kernel), by decide +kernel⟩
theorem w_533 : Cond.methodLink "IndicatorDiagramLaw" 120 yX4_slip ∈ lw_good := List.mem_filter.mpr ⟨List.mem_of_getElem? (i := 533) (by decide +kernel), by decide +kernel⟩
theorem w_534 : Cond.instanceMethod yX4_slip ∈ lw_good := List.mem_filter.mpr ⟨List.mem_of_getElem? (i := 534) (by decide +kernel), by decide +kernel⟩
theorem w_535 : Cond.selects "IndicatorDiagram" yX4_slip yX4_slip ∈ lw_good := List.mem_filter.mpr ⟨List.mem_of_getElem? (i := 535) (by decide +kernel), by decide +kernel⟩
theorem w_536 : Cond.code yX4_slip cX4_slip 8 (some FieldType.int) ∈ lw_good := List.mem_filter.mpr ⟨List.mem_of_getElem? (i := 536) (by decide +kernel), by decide +kernel⟩
theorem w_537 : Cond.methodLink "IndicatorDiagram" 229 yX4_deviationFrom ∈ lw_good := List.mem_filter.mpr ⟨List.mem_of_getElem? (i := 537) (by decide +kernel), by decide +kernel⟩
theorem w_539 : Cond.instanceMethod yX4_deviationFrom ∈ lw_good := List.mem_filter.mpr ⟨List.mem_of_getElem? (i := 539) (by decide +kernel), by decide +kernel⟩
theorem w_540 : Cond.code yX4_deviationFrom cX4_deviationFrom 5 (some FieldType.int) ∈ lw_good := List.mem_filter.mpr ⟨List.mem_of_getElem? (i := 540) (by decide +kernel), by decide +kernel⟩
theorem w_541 : Cond.methodLink "IndicatorDiagram" 344 yJ9_abs_0f7a4 ∈ lw_good := List.mem_filter.mpr ⟨List.mem_of_getElem? (i := 541) (by decide +kernel), by decide +kernel⟩
theorem w_542 : Cond.static yJ9_abs_0f7a4 ∈ lw_good := List.mem_filter.mpr ⟨List.mem_of_getElem? (i := 542) (by decide +kernel), by decide +kernel⟩
theorem w_543 : Cond.code yJ9_abs_0f7a4 cJ9_abs_0f7a4 1 (some FieldType.int) ∈ lw_good := List.mem_filter.mpr ⟨List.mem_of_getElem? (i := 543) (by decide +kernel), by decide +kernel⟩
theorem w_544 : Cond.methodLink "IndicatorDiagramLaw" 124 yX4_constant ∈ lw_good := List.mem_filter.mpr ⟨List.mem_of_getElem? (i := 544) (by decide +kernel), by decide +kernel⟩
theorem w_545 : Cond.instanceMethod yX4_constant ∈ lw_good := List.mem_filter.mpr ⟨List.mem_of_getElem? (i := 545) (by decide +kernel), by decide +kernel⟩
theorem w_546 : Cond.selects "IndicatorDiagram" yX4_constant yX4_constant ∈ lw_good := List.mem_filter.mpr ⟨List.mem_of_getElem? (i := 546) (by decide +kernel), by decide +kernel⟩
theorem w_547 : Cond.code yX4_constant cX4_constant 3 (some FieldType.int) ∈ lw_good := List.mem_filter.mpr ⟨List.mem_of_getElem? (i := 547) (by decide +kernel), by decide +kernel⟩
theorem w_548 : Cond.methodLink "IndicatorDiagramLaw" 128 yX4_leakage ∈ lw_good := List.mem_filter.mpr ⟨List.mem_of_getElem? (i := 548) (by decide +kernel), by decide +kernel⟩
theorem w_549 : Cond.instanceMethod yX4_leakage ∈ lw_good := List.mem_filter.mpr ⟨List.mem_of_getElem? (i := 549) (by decide +kernel), by decide +kernel⟩
theorem w_550 : Cond.selects "IndicatorDiagram" yX4_leakage yX4_leakage ∈ lw_good := List.mem_filter.mpr ⟨List.mem_of_getElem? (i := 550) (by decide +kernel), by decide +kernel⟩
theorem w_551 : Cond.code yX4_leakage cX4_leakage 4 (some FieldType.int) ∈ lw_good := List.mem_filter.mpr ⟨List.mem_of_getElem? (i := 551) (by decide +kernel), by decide +kernel⟩
theorem w_552 : Cond.constant "IndicatorDiagram" 236 (-2000000004) ∈ lw_good := List.mem_filter.mpr ⟨List.mem_of_getElem? (i := 552) (by decide +kernel), by decide +kernel⟩
theorem w_553 : Cond.methodLink "IndicatorDiagramLaw" 132 yX4_cardsOf ∈ lw_good := List.mem_filter.mpr ⟨List.mem_of_getElem? (i := 553) (by decide +kernel), by decide +kernel⟩
theorem w_554 : Cond.instanceMethod yX4_cardsOf ∈ lw_good := List.mem_filter.mpr ⟨List.mem_of_getElem? (i := 554) (by decide +kernel), by decide +kernel⟩
theorem w_555 : Cond.selects "IndicatorDiagram" yX4_cardsOf yX4_cardsOf ∈ lw_good := List.mem_filter.mpr ⟨List.mem_of_getElem? (i := 555) (by decide +kernel), by decide +kernel⟩
theorem w_556 : Cond.code yX4_cardsOf cX4_cardsOf 2 (some FieldType.int) ∈ lw_good := List.mem_filter.mpr ⟨List.mem_of_getElem? (i := 556) (by decide +kernel), by decide +kernel⟩
theorem w_557 : Cond.methodLink "IndicatorDiagram" 237 yX4_countCards ∈ lw_good := List.mem_filter.mpr ⟨List.mem_of_getElem? (i := 557) (by decide +kernel), by decide +kernel⟩
theorem w_559 : Cond.instanceMethod yX4_countCards ∈ lw_good := List.mem_filter.mpr ⟨List.mem_of_getElem? (i := 559) (by decide +kernel), by decide +kernel⟩
theorem w_560 : Cond.code yX4_countCards cX4_countCards 4 (some FieldType.int) ∈ lw_good := List.mem_filter.mpr ⟨List.mem_of_getElem? (i := 560) (by decide +kernel), by decide +kernel⟩
theorem w_561 : Cond.methodLink "IndicatorDiagramLaw" 136 yX4_meanArea ∈ lw_good := List.mem_filter.mpr ⟨List.mem_of_getElem? (i := 561) (by decide +kernel), by decide +kernel⟩
theorem w_562 : Cond.instanceMethod yX4_meanArea ∈ lw_good := List.mem_filter.mpr ⟨List.mem_of_getElem? (i := 562) (by decide +kernel), by decide +kernel⟩
theorem w_563 : Cond.selects "IndicatorDiagram" yX4_meanArea yX4_meanArea ∈ lw_good := List.mem_filter.mpr ⟨List.mem_of_getElem? (i := 563) (by decide +kernel), by decide +kernel⟩
theorem w_564 : Cond.code yX4_meanArea cX4_meanArea 2 (some FieldType.int) ∈ lw_good := List.mem_filter.mpr ⟨List.mem_of_getElem? (i := 564) (by decide +kernel), by decide +kernel⟩
theorem w_565 : Cond.methodLink "IndicatorDiagram" 240 yX4_drawMeanPressures ∈ lw_good := List.mem_filter.mpr ⟨List.mem_of_getElem? (i := 565) (by decide +kernel), by decide +kernel⟩
theorem w_567 : Cond.instanceMethod yX4_drawMeanPressures ∈ lw_good := List.mem_filter.mpr ⟨List.mem_of_getElem? (i := 567) (by decide +kernel), by decide +kernel⟩
theorem w_568 : Cond.code yX4_drawMeanPressures cX4_drawMeanPressures 8 none ∈ lw_good := List.mem_filter.mpr ⟨List.mem_of_getElem? (i := 568) (by decide +kernel), by decide +kernel⟩
theorem w_569 : Cond.methodLink "IndicatorDiagramLaw" 140 yX4_meanPower ∈ lw_good := List.mem_filter.mpr ⟨List.mem_of_getElem? (i := 569) (by decide +kernel), by decide +kernel⟩
theorem w_570 : Cond.instanceMethod yX4_meanPower ∈ lw_good := List.mem_filter.mpr ⟨List.mem_of_getElem? (i := 570) (by decide +kernel), by decide +kernel⟩
theorem w_571 : Cond.selects "IndicatorDiagram" yX4_meanPower yX4_meanPower ∈ lw_good := List.mem_filter.mpr ⟨List.mem_of_getElem? (i := 571) (by decide +kernel), by decide +kernel⟩
theorem w_572 : Cond.code yX4_meanPower cX4_meanPower 2 (some FieldType.long) ∈ lw_good := List.mem_filter.mpr ⟨List.mem_of_getElem? (i := 572) (by decide +kernel), by decide +kernel⟩
theorem w_573 : Cond.constantLong "IndicatorDiagram" 243 (-2000000004) ∈ lw_good := List.mem_filter.mpr ⟨List.mem_of_getElem? (i := 573) (by decide +kernel), by decide +kernel⟩
theorem w_574 : Cond.methodLink "IndicatorDiagram" 245 yX4_meanOfPowers ∈ lw_good := List.mem_filter.mpr ⟨List.mem_of_getElem? (i := 574) (by decide +kernel), by decide +kernel⟩
theorem w_576 : Cond.instanceMethod yX4_meanOfPowers ∈ lw_good := List.mem_filter.mpr ⟨List.mem_of_getElem? (i := 576) (by decide +kernel), by decide +kernel⟩
theorem w_577 : Cond.code yX4_meanOfPowers cX4_meanOfPowers 5 (some FieldType.long) ∈ lw_good := List.mem_filter.mpr ⟨List.mem_of_getElem? (i := 577) (by decide +kernel), by decide +kernel⟩
theorem w_578 : Cond.methodLink "IndicatorDiagramLaw" 144 yX4_imbalance ∈ lw_good := List.mem_filter.mpr ⟨List.mem_of_getElem? (i := 578) (by decide +kernel), by decide +kernel⟩
theorem w_579 : Cond.instanceMethod yX4_imbalance ∈ lw_good := List.mem_filter.mpr ⟨List.mem_of_getElem? (i := 579) (by decide +kernel), by decide +kernel⟩
theorem w_580 : Cond.selects "IndicatorDiagram" yX4_imbalance yX4_imbalance ∈ lw_good := List.mem_filter.mpr ⟨List.mem_of_getElem? (i := 580) (by decide +kernel), by decide +kernel⟩
theorem w_581 : Cond.code yX4_imbalance cX4_imbalance 5 (some FieldType.int) ∈ lw_good := List.mem_filter.mpr ⟨List.mem_of_getElem? (i := 581) (by decide +kernel), by decide +kernel⟩
theorem w_582 : Cond.methodLink "IndicatorDiagram" 249 yJ9_abs_067f4 ∈ lw_good := List.mem_filter.mpr ⟨List.mem_of_getElem? (i := 582) (by decide +kernel), by decide +kernel⟩
theorem w_583 : Cond.static yJ9_abs_067f4 ∈ lw_good := List.mem_filter.mpr ⟨List.mem_of_getElem? (i := 583) (by decide +kernel), by decide +kernel⟩
theorem w_584 : Cond.code yJ9_abs_067f4 cJ9_abs_067f4 2 (some FieldType.long) ∈ lw_good := List.mem_filter.mpr ⟨List.mem_of_getElem? (i := 584) (by decide +kernel), by decide +kernel⟩
theorem w_585 : Cond.constantLong "IndicatorDiagram" 255 1000 ∈ lw_good := List.mem_filter.mpr ⟨List.mem_of_getElem? (i := 585) (by decide +kernel), by decide +kernel⟩
theorem w_586 : Cond.methodLink "IndicatorDiagramLaw" 148 yX4_removeOutliers ∈ lw_good := List.mem_filter.mpr ⟨List.mem_of_getElem? (i := 586) (by decide +kernel), by decide +kernel⟩
theorem w_587 : Cond.instanceMethod yX4_removeOutliers ∈ lw_good := List.mem_filter.mpr ⟨List.mem_of_getElem? (i := 587) (by decide +kernel), by decide +kernel⟩
theorem w_588 : Cond.selects "IndicatorDiagram" yX4_removeOutliers yX4_removeOutliers ∈ lw_good := List.mem_filter.mpr ⟨List.mem_of_getElem? (i := 588) (by decide +kernel), by decide +kernel⟩
theorem w_589 : Cond.code yX4_removeOutliers cX4_removeOutliers 6 (some FieldType.int) ∈ lw_good := List.mem_filter.mpr ⟨List.mem_of_getElem? (i := 589) (by decide +kernel), by decide +kernel⟩
theorem w_590 : Cond.methodLink "IndicatorDiagram" 261 yX4_medianArea ∈ lw_good := List.mem_filter.mpr ⟨List.mem_of_getElem? (i := 590) (by decide +kernel), by decide +kernel⟩
theorem w_592 : Cond.instanceMethod yX4_medianArea ∈ lw_good := List.mem_filter.mpr ⟨List.mem_of_getElem? (i := 592) (by decide +kernel), by decide +kernel⟩
theorem w_593 : Cond.code yX4_medianArea cX4_medianArea 4 (some FieldType.int) ∈ lw_good := List.mem_filter.mpr ⟨List.mem_of_getElem? (i := 593) (by decide +kernel), by decide +kernel⟩
theorem w_594 : Cond.methodLink "IndicatorDiagram" 346 yX4_insertSorted ∈ lw_good := List.mem_filter.mpr ⟨List.mem_of_getElem? (i := 594) (by decide +kernel), by decide +kernel⟩
theorem w_596 : Cond.instanceMethod yX4_insertSorted ∈ lw_good := List.mem_filter.mpr ⟨List.mem_of_getElem? (i := 596) (by decide +kernel), by decide +kernel⟩
theorem w_597 : Cond.code yX4_insertSorted cX4_insertSorted 4 none ∈ lw_good := List.mem_filter.mpr ⟨List.mem_of_getElem? (i := 597) (by decide +kernel), by decide +kernel⟩
theorem w_598 : Cond.methodLink "IndicatorDiagram" 264 yX4_isOutlier ∈ lw_good := List.mem_filter.mpr ⟨List.mem_of_getElem? (i := 598) (by decide +kernel), by decide +kernel⟩
theorem w_599 : Cond.static yX4_isOutlier ∈ lw_good := List.mem_filter.mpr ⟨List.mem_of_getElem? (i := 599) (by decide +kernel), by decide +kernel⟩
theorem w_600 : Cond.code yX4_isOutlier cX4_isOutlier 3 (some FieldType.boolean) ∈ lw_good := List.mem_filter.mpr ⟨List.mem_of_getElem? (i := 600) (by decide +kernel), by decide +kernel⟩
theorem w_601 : Cond.methodLink "IndicatorDiagramLaw" 152 yX4_idealArea ∈ lw_good := List.mem_filter.mpr ⟨List.mem_of_getElem? (i := 601) (by decide +kernel), by decide +kernel⟩
theorem w_602 : Cond.instanceMethod yX4_idealArea ∈ lw_good := List.mem_filter.mpr ⟨List.mem_of_getElem? (i := 602) (by decide +kernel), by decide +kernel⟩
theorem w_603 : Cond.selects "IndicatorDiagram" yX4_idealArea yX4_idealArea ∈ lw_good := List.mem_filter.mpr ⟨List.mem_of_getElem? (i := 603) (by decide +kernel), by decide +kernel⟩
theorem w_604 : Cond.code yX4_idealArea cX4_idealArea 2 (some FieldType.int) ∈ lw_good := List.mem_filter.mpr ⟨List.mem_of_getElem? (i := 604) (by decide +kernel), by decide +kernel⟩
theorem w_605 : Cond.methodLink "IndicatorDiagram" 268 yX4_areaWithCutOff ∈ lw_good := List.mem_filter.mpr ⟨List.mem_of_getElem? (i := 605) (by decide +kernel), by decide +kernel⟩
theorem w_607 : Cond.instanceMethod yX4_areaWithCutOff ∈ lw_good := List.mem_filter.mpr ⟨List.mem_of_getElem? (i := 607) (by decide +kernel), by decide +kernel⟩
theorem w_608 : Cond.code yX4_areaWithCutOff cX4_areaWithCutOff 3 (some FieldType.int) ∈ lw_good := List.mem_filter.mpr ⟨List.mem_of_getElem? (i := 608) (by decide +kernel), by decide +kernel⟩
theorem w_609 : Cond.methodLink "IndicatorDiagramLaw" 156 yX4_bestCutOff ∈ lw_good := List.mem_filter.mpr ⟨List.mem_of_getElem? (i := 609) (by decide +kernel), by decide +kernel⟩
theorem w_610 : Cond.instanceMethod yX4_bestCutOff ∈ lw_good := List.mem_filter.mpr ⟨List.mem_of_getElem? (i := 610) (by decide +kernel), by decide +kernel⟩
theorem w_611 : Cond.selects "IndicatorDiagram" yX4_bestCutOff yX4_bestCutOff ∈ lw_good := List.mem_filter.mpr ⟨List.mem_of_getElem? (i := 611) (by decide +kernel), by decide +kernel⟩
theorem w_612 : Cond.code yX4_bestCutOff cX4_bestCutOff 3 (some FieldType.int) ∈ lw_good := List.mem_filter.mpr ⟨List.mem_of_getElem? (i := 612) (by decide +kernel), by decide +kernel⟩
theorem w_613 : Cond.constant "IndicatorDiagram" 271 (-200000) ∈ lw_good := List.mem_filter.mpr ⟨List.mem_of_getElem? (i := 613) (by decide +kernel), by decide +kernel⟩
theorem w_614 : Cond.constant "IndicatorDiagram" 272 200000 ∈ lw_good := List.mem_filter.mpr ⟨List.mem_of_getElem? (i := 614) (by decide +kernel), by decide +kernel⟩
theorem w_615 : Cond.methodLink "IndicatorDiagram" 273 yX4_nearestCutOff ∈ lw_good := List.mem_filter.mpr ⟨List.mem_of_getElem? (i := 615) (by decide +kernel), by decide +kernel⟩
theorem w_617 : Cond.instanceMethod yX4_nearestCutOff ∈ lw_good := List.mem_filter.mpr ⟨List.mem_of_getElem? (i := 617) (by decide +kernel), by decide +kernel⟩
theorem w_618 : Cond.code yX4_nearestCutOff cX4_nearestCutOff 15 (some FieldType.int) ∈ lw_good := List.mem_filter.mpr ⟨List.mem_of_getElem? (i := 618) (by decide +kernel), by decide +kernel⟩
theorem w_619 : Cond.constantLong "IndicatorDiagram" 316 9223372036854775807 ∈ lw_good := List.mem_filter.mpr ⟨List.mem_of_getElem? (i := 619) (by decide +kernel), by decide +kernel⟩
theorem w_620 : Cond.methodLink "IndicatorDiagramLaw" 160 yX4_balancingCutOff ∈ lw_good := List.mem_filter.mpr ⟨List.mem_of_getElem? (i := 620) (by decide +kernel), by decide +kernel⟩
theorem w_621 : Cond.instanceMethod yX4_balancingCutOff ∈ lw_good := List.mem_filter.mpr ⟨List.mem_of_getElem? (i := 621) (by decide +kernel), by decide +kernel⟩
theorem w_622 : Cond.selects "IndicatorDiagram" yX4_balancingCutOff yX4_balancingCutOff ∈ lw_good := List.mem_filter.mpr ⟨List.mem_of_getElem? (i := 622) (by decide +kernel), by decide +kernel⟩
theorem w_623 : Cond.code yX4_balancingCutOff cX4_balancingCutOff 3 (some FieldType.int) ∈ lw_good := List.mem_filter.mpr ⟨List.mem_of_getElem? (i := 623) (by decide +kernel), by decide +kernel⟩
theorem w_624 : Cond.methodLink "IndicatorDiagramLaw" 164 yX4_historySize ∈ lw_good := List.mem_filter.mpr ⟨List.mem_of_getElem? (i := 624) (by decide +kernel), by decide +kernel⟩
theorem w_625 : Cond.instanceMethod yX4_historySize ∈ lw_good := List.mem_filter.mpr ⟨List.mem_of_getElem? (i := 625) (by decide +kernel), by decide +kernel⟩
theorem w_626 : Cond.selects "IndicatorDiagram" yX4_historySize yX4_historySize ∈ lw_good := List.mem_filter.mpr ⟨List.mem_of_getElem? (i := 626) (by decide +kernel), by decide +kernel⟩
theorem w_627 : Cond.code yX4_historySize cX4_historySize 1 (some FieldType.int) ∈ lw_good := List.mem_filter.mpr ⟨List.mem_of_getElem? (i := 627) (by decide +kernel), by decide +kernel⟩
theorem w_628 : Cond.methodLink "IndicatorDiagramLaw" 168 yX4_undo ∈ lw_good := List.mem_filter.mpr ⟨List.mem_of_getElem? (i := 628) (by decide +kernel), by decide +kernel⟩
theorem w_629 : Cond.instanceMethod yX4_undo ∈ lw_good := List.mem_filter.mpr ⟨List.mem_of_getElem? (i := 629) (by decide +kernel), by decide +kernel⟩
theorem w_630 : Cond.selects "IndicatorDiagram" yX4_undo yX4_undo ∈ lw_good := List.mem_filter.mpr ⟨List.mem_of_getElem? (i := 630) (by decide +kernel), by decide +kernel⟩
theorem w_631 : Cond.code yX4_undo cX4_undo 1 (some FieldType.int) ∈ lw_good := List.mem_filter.mpr ⟨List.mem_of_getElem? (i := 631) (by decide +kernel), by decide +kernel⟩
theorem w_632 : Cond.classLink "IndicatorDiagramLaw" 10 "IndicatorDiagramModel" ∈ lw_good := List.mem_filter.mpr ⟨List.mem_of_getElem? (i := 632) (by decide +kernel), by decide +kernel⟩
theorem w_633 : Cond.instantiable "IndicatorDiagramModel" 2 ∈ lw_good := List.mem_filter.mpr ⟨List.mem_of_getElem? (i := 633) (by decide +kernel), by decide +kernel⟩
theorem w_634 : Cond.methodLink "IndicatorDiagramLaw" 12 yX5_init ∈ lw_good := List.mem_filter.mpr ⟨List.mem_of_getElem? (i := 634) (by decide +kernel), by decide +kernel⟩
theorem w_635 : Cond.instanceMethod yX5_init ∈ lw_good := List.mem_filter.mpr ⟨List.mem_of_getElem? (i := 635) (by decide +kernel), by decide +kernel⟩
theorem w_636 : Cond.code yX5_init cX5_init 2 none ∈ lw_good := List.mem_filter.mpr ⟨List.mem_of_getElem? (i := 636) (by decide +kernel), by decide +kernel⟩
theorem w_637 : Cond.methodLink "IndicatorDiagramModel" 1 objectInit ∈ lw_good := List.mem_filter.mpr ⟨List.mem_of_getElem? (i := 637) (by decide +kernel), by decide +kernel⟩
theorem w_638 : Cond.fieldLink "IndicatorDiagramModel" 7 "IndicatorDiagramModel" "row" "[I" ∈ lw_good := List.mem_filter.mpr ⟨List.mem_of_getElem? (i := 638) (by decide +kernel), by decide +kernel⟩
theorem w_639 : Cond.fieldLink "IndicatorDiagramModel" 17 "IndicatorDiagramModel" "states" "I" ∈ lw_good := List.mem_filter.mpr ⟨List.mem_of_getElem? (i := 639) (by decide +kernel), by decide +kernel⟩
theorem w_640 : Cond.laysFinal "IndicatorDiagramModel" "IndicatorDiagramModel" "row" "[I" ∈ lw_good := List.mem_filter.mpr ⟨List.mem_of_getElem? (i := 640) (by decide +kernel), by decide +kernel⟩
theorem w_642 : Cond.lays "IndicatorDiagramModel" "IndicatorDiagramModel" "states" "I" ∈ lw_good := List.mem_filter.mpr ⟨List.mem_of_getElem? (i := 642) (by decide +kernel), by decide +kernel⟩
theorem w_645 : Cond.methodLink "IndicatorDiagramLaw" 167 yX5_historySize ∈ lw_good := List.mem_filter.mpr ⟨List.mem_of_getElem? (i := 645) (by decide +kernel), by decide +kernel⟩
theorem w_646 : Cond.instanceMethod yX5_historySize ∈ lw_good := List.mem_filter.mpr ⟨List.mem_of_getElem? (i := 646) (by decide +kernel), by decide +kernel⟩
theorem w_647 : Cond.selects "IndicatorDiagramModel" yX5_historySize yX5_historySize ∈ lw_good := List.mem_filter.mpr ⟨List.mem_of_getElem? (i := 647) (by decide +kernel), by decide +kernel⟩
theorem w_648 : Cond.code yX5_historySize cX5_historySize 1 (some FieldType.int) ∈ lw_good := List.mem_filter.mpr ⟨List.mem_of_getElem? (i := 648) (by decide +kernel), by decide +kernel⟩
theorem w_649 : Cond.methodLink "IndicatorDiagramLaw" 171 yX5_undo ∈ lw_good := List.mem_filter.mpr ⟨List.mem_of_getElem? (i := 649) (by decide +kernel), by decide +kernel⟩
theorem w_650 : Cond.instanceMethod yX5_undo ∈ lw_good := List.mem_filter.mpr ⟨List.mem_of_getElem? (i := 650) (by decide +kernel), by decide +kernel⟩
theorem w_651 : Cond.selects "IndicatorDiagramModel" yX5_undo yX5_undo ∈ lw_good := List.mem_filter.mpr ⟨List.mem_of_getElem? (i := 651) (by decide +kernel), by decide +kernel⟩
theorem w_652 : Cond.code yX5_undo cX5_undo 1 (some FieldType.int) ∈ lw_good := List.mem_filter.mpr ⟨List.mem_of_getElem? (i := 652) (by decide +kernel), by decide +kernel⟩
theorem w_653 : Cond.constant "IndicatorDiagramModel" 25 (-2000000002) ∈ lw_good := List.mem_filter.mpr ⟨List.mem_of_getElem? (i := 653) (by decide +kernel), by decide +kernel⟩
theorem w_654 : Cond.methodLink "IndicatorDiagramModel" 21 yX5_copy ∈ lw_good := List.mem_filter.mpr ⟨List.mem_of_getElem? (i := 654) (by decide +kernel), by decide +kernel⟩
theorem w_656 : Cond.instanceMethod yX5_copy ∈ lw_good := List.mem_filter.mpr ⟨List.mem_of_getElem? (i := 656) (by decide +kernel), by decide +kernel⟩
theorem w_657 : Cond.code yX5_copy cX5_copy 4 none ∈ lw_good := List.mem_filter.mpr ⟨List.mem_of_getElem? (i := 657) (by decide +kernel), by decide +kernel⟩
theorem w_658 : Cond.methodLink "IndicatorDiagramLaw" 17 yX5_setClearance ∈ lw_good := List.mem_filter.mpr ⟨List.mem_of_getElem? (i := 658) (by decide +kernel), by decide +kernel⟩
theorem w_659 : Cond.instanceMethod yX5_setClearance ∈ lw_good := List.mem_filter.mpr ⟨List.mem_of_getElem? (i := 659) (by decide +kernel), by decide +kernel⟩
theorem w_660 : Cond.selects "IndicatorDiagramModel" yX5_setClearance yX5_setClearance ∈ lw_good := List.mem_filter.mpr ⟨List.mem_of_getElem? (i := 660) (by decide +kernel), by decide +kernel⟩
theorem w_661 : Cond.code yX5_setClearance cX5_setClearance 2 (some FieldType.int) ∈ lw_good := List.mem_filter.mpr ⟨List.mem_of_getElem? (i := 661) (by decide +kernel), by decide +kernel⟩
theorem w_662 : Cond.methodLink "IndicatorDiagramModel" 13 yX5_in ∈ lw_good := List.mem_filter.mpr ⟨List.mem_of_getElem? (i := 662) (by decide +kernel), by decide +kernel⟩
theorem w_663 : Cond.static yX5_in ∈ lw_good := List.mem_filter.mpr ⟨List.mem_of_getElem? (i := 663) (by decide +kernel), by decide +kernel⟩
theorem w_664 : Cond.code yX5_in cX5_in 3 (some FieldType.boolean) ∈ lw_good := List.mem_filter.mpr ⟨List.mem_of_getElem? (i := 664) (by decide +kernel), by decide +kernel⟩
theorem w_665 : Cond.methodLink "IndicatorDiagramModel" 30 yX5_put ∈ lw_good := List.mem_filter.mpr ⟨List.mem_of_getElem? (i := 665) (by decide +kernel), by decide +kernel⟩
theorem w_667 : Cond.instanceMethod yX5_put ∈ lw_good := List.mem_filter.mpr ⟨List.mem_of_getElem? (i := 667) (by decide +kernel), by decide +kernel⟩
theorem w_668 : Cond.code yX5_put cX5_put 5 (some FieldType.int) ∈ lw_good := List.mem_filter.mpr ⟨List.mem_of_getElem? (i := 668) (by decide +kernel), by decide +kernel⟩
theorem w_669 : Cond.constant "IndicatorDiagramModel" 26 (-2000000001) ∈ lw_good := List.mem_filter.mpr ⟨List.mem_of_getElem? (i := 669) (by decide +kernel), by decide +kernel⟩
theorem w_670 : Cond.methodLink "IndicatorDiagramModel" 27 yX5_record ∈ lw_good := List.mem_filter.mpr ⟨List.mem_of_getElem? (i := 670) (by decide +kernel), by decide +kernel⟩
theorem w_672 : Cond.instanceMethod yX5_record ∈ lw_good := List.mem_filter.mpr ⟨List.mem_of_getElem? (i := 672) (by decide +kernel), by decide +kernel⟩
theorem w_673 : Cond.code yX5_record cX5_record 2 none ∈ lw_good := List.mem_filter.mpr ⟨List.mem_of_getElem? (i := 673) (by decide +kernel), by decide +kernel⟩
theorem w_674 : Cond.methodLink "IndicatorDiagramLaw" 22 yX5_setPistonArea ∈ lw_good := List.mem_filter.mpr ⟨List.mem_of_getElem? (i := 674) (by decide +kernel), by decide +kernel⟩
theorem w_675 : Cond.instanceMethod yX5_setPistonArea ∈ lw_good := List.mem_filter.mpr ⟨List.mem_of_getElem? (i := 675) (by decide +kernel), by decide +kernel⟩
theorem w_676 : Cond.selects "IndicatorDiagramModel" yX5_setPistonArea yX5_setPistonArea ∈ lw_good := List.mem_filter.mpr ⟨List.mem_of_getElem? (i := 676) (by decide +kernel), by decide +kernel⟩
theorem w_677 : Cond.code yX5_setPistonArea cX5_setPistonArea 3 (some FieldType.int) ∈ lw_good := List.mem_filter.mpr ⟨List.mem_of_getElem? (i := 677) (by decide +kernel), by decide +kernel⟩
theorem w_678 : Cond.methodLink "IndicatorDiagramModel" 34 yX5_isEnd ∈ lw_good := List.mem_filter.mpr ⟨List.mem_of_getElem? (i := 678) (by decide +kernel), by decide +kernel⟩
theorem w_679 : Cond.static yX5_isEnd ∈ lw_good := List.mem_filter.mpr ⟨List.mem_of_getElem? (i := 679) (by decide +kernel), by decide +kernel⟩
theorem w_680 : Cond.code yX5_isEnd cX5_isEnd 1 (some FieldType.boolean) ∈ lw_good := List.mem_filter.mpr ⟨List.mem_of_getElem? (i := 680) (by decide +kernel), by decide +kernel⟩
theorem w_681 : Cond.methodLink "IndicatorDiagramLaw" 26 yX5_setStroke ∈ lw_good := List.mem_filter.mpr ⟨List.mem_of_getElem? (i := 681) (by decide +kernel), by decide +kernel⟩
theorem w_682 : Cond.instanceMethod yX5_setStroke ∈ lw_good := List.mem_filter.mpr ⟨List.mem_of_getElem? (i := 682) (by decide +kernel), by decide +kernel⟩
theorem w_683 : Cond.selects "IndicatorDiagramModel" yX5_setStroke yX5_setStroke ∈ lw_good := List.mem_filter.mpr ⟨List.mem_of_getElem? (i := 683) (by decide +kernel), by decide +kernel⟩
theorem w_684 : Cond.code yX5_setStroke cX5_setStroke 2 (some FieldType.int) ∈ lw_good := List.mem_filter.mpr ⟨List.mem_of_getElem? (i := 684) (by decide +kernel), by decide +kernel⟩
theorem w_685 : Cond.methodLink "IndicatorDiagramLaw" 30 yX5_setBoilerPressure ∈ lw_good := List.mem_filter.mpr ⟨List.mem_of_getElem? (i := 685) (by decide +kernel), by decide +kernel⟩
theorem w_686 : Cond.instanceMethod yX5_setBoilerPressure ∈ lw_good := List.mem_filter.mpr ⟨List.mem_of_getElem? (i := 686) (by decide +kernel), by decide +kernel⟩
theorem w_687 : Cond.selects "IndicatorDiagramModel" yX5_setBoilerPressure yX5_setBoilerPressure ∈ lw_good := List.mem_filter.mpr ⟨List.mem_of_getElem? (i := 687) (by decide +kernel), by decide +kernel⟩
theorem w_688 : Cond.code yX5_setBoilerPressure cX5_setBoilerPressure 2 (some FieldType.int) ∈ lw_good := List.mem_filter.mpr ⟨List.mem_of_getElem? (i := 688) (by decide +kernel), by decide +kernel⟩
theorem w_689 : Cond.methodLink "IndicatorDiagramLaw" 34 yX5_setBackPressure ∈ lw_good := List.mem_filter.mpr ⟨List.mem_of_getElem? (i := 689) (by decide +kernel), by decide +kernel⟩
theorem w_690 : Cond.instanceMethod yX5_setBackPressure ∈ lw_good := List.mem_filter.mpr ⟨List.mem_of_getElem? (i := 690) (by decide +kernel), by decide +kernel⟩
theorem w_691 : Cond.selects "IndicatorDiagramModel" yX5_setBackPressure yX5_setBackPressure ∈ lw_good := List.mem_filter.mpr ⟨List.mem_of_getElem? (i := 691) (by decide +kernel), by decide +kernel⟩
theorem w_692 : Cond.code yX5_setBackPressure cX5_setBackPressure 2 (some FieldType.int) ∈ lw_good := List.mem_filter.mpr ⟨List.mem_of_getElem? (i := 692) (by decide +kernel), by decide +kernel⟩
theorem w_693 : Cond.methodLink "IndicatorDiagramLaw" 38 yX5_setFinding ∈ lw_good := List.mem_filter.mpr ⟨List.mem_of_getElem? (i := 693) (by decide +kernel), by decide +kernel⟩
theorem w_694 : Cond.instanceMethod yX5_setFinding ∈ lw_good := List.mem_filter.mpr ⟨List.mem_of_getElem? (i := 694) (by decide +kernel), by decide +kernel⟩
theorem w_695 : Cond.selects "IndicatorDiagramModel" yX5_setFinding yX5_setFinding ∈ lw_good := List.mem_filter.mpr ⟨List.mem_of_getElem? (i := 695) (by decide +kernel), by decide +kernel⟩
theorem w_696 : Cond.code yX5_setFinding cX5_setFinding 4 (some FieldType.int) ∈ lw_good := List.mem_filter.mpr ⟨List.mem_of_getElem? (i := 696) (by decide +kernel), by decide +kernel⟩
theorem w_697 : Cond.methodLink "IndicatorDiagramLaw" 43 yX5_setValves ∈ lw_good := List.mem_filter.mpr ⟨List.mem_of_getElem? (i := 697) (by decide +kernel), by decide +kernel⟩
theorem w_698 : Cond.instanceMethod yX5_setValves ∈ lw_good := List.mem_filter.mpr ⟨List.mem_of_getElem? (i := 698) (by decide +kernel), by decide +kernel⟩
theorem w_699 : Cond.selects "IndicatorDiagramModel" yX5_setValves yX5_setValves ∈ lw_good := List.mem_filter.mpr ⟨List.mem_of_getElem? (i := 699) (by decide +kernel), by decide +kernel⟩
theorem w_700 : Cond.code yX5_setValves cX5_setValves 7 (some FieldType.int) ∈ lw_good := List.mem_filter.mpr ⟨List.mem_of_getElem? (i := 700) (by decide +kernel), by decide +kernel⟩
theorem w_701 : Cond.methodLink "IndicatorDiagramLaw" 47 yX5_valve ∈ lw_good := List.mem_filter.mpr ⟨List.mem_of_getElem? (i := 701) (by decide +kernel), by decide +kernel⟩
theorem w_702 : Cond.instanceMethod yX5_valve ∈ lw_good := List.mem_filter.mpr ⟨List.mem_of_getElem? (i := 702) (by decide +kernel), by decide +kernel⟩
theorem w_703 : Cond.selects "IndicatorDiagramModel" yX5_valve yX5_valve ∈ lw_good := List.mem_filter.mpr ⟨List.mem_of_getElem? (i := 703) (by decide +kernel), by decide +kernel⟩
theorem w_704 : Cond.code yX5_valve cX5_valve 3 (some FieldType.int) ∈ lw_good := List.mem_filter.mpr ⟨List.mem_of_getElem? (i := 704) (by decide +kernel), by decide +kernel⟩
theorem w_705 : Cond.methodLink "IndicatorDiagramLaw" 51 yX5_beginCard ∈ lw_good := List.mem_filter.mpr ⟨List.mem_of_getElem? (i := 705) (by decide +kernel), by decide +kernel⟩
theorem w_706 : Cond.instanceMethod yX5_beginCard ∈ lw_good := List.mem_filter.mpr ⟨List.mem_of_getElem? (i := 706) (by decide +kernel), by decide +kernel⟩
theorem w_707 : Cond.selects "IndicatorDiagramModel" yX5_beginCard yX5_beginCard ∈ lw_good := List.mem_filter.mpr ⟨List.mem_of_getElem? (i := 707) (by decide +kernel), by decide +kernel⟩
theorem w_708 : Cond.code yX5_beginCard cX5_beginCard 5 (some FieldType.int) ∈ lw_good := List.mem_filter.mpr ⟨List.mem_of_getElem? (i := 708) (by decide +kernel), by decide +kernel⟩
theorem w_709 : Cond.methodLink "IndicatorDiagramLaw" 56 yX5_setPoint ∈ lw_good := List.mem_filter.mpr ⟨List.mem_of_getElem? (i := 709) (by decide +kernel), by decide +kernel⟩
theorem w_710 : Cond.instanceMethod yX5_setPoint ∈ lw_good := List.mem_filter.mpr ⟨List.mem_of_getElem? (i := 710) (by decide +kernel), by decide +kernel⟩
theorem w_711 : Cond.selects "IndicatorDiagramModel" yX5_setPoint yX5_setPoint ∈ lw_good := List.mem_filter.mpr ⟨List.mem_of_getElem? (i := 711) (by decide +kernel), by decide +kernel⟩
theorem w_712 : Cond.code yX5_setPoint cX5_setPoint 4 (some FieldType.int) ∈ lw_good := List.mem_filter.mpr ⟨List.mem_of_getElem? (i := 712) (by decide +kernel), by decide +kernel⟩
theorem w_713 : Cond.methodLink "IndicatorDiagramModel" 38 yX5_points ∈ lw_good := List.mem_filter.mpr ⟨List.mem_of_getElem? (i := 713) (by decide +kernel), by decide +kernel⟩
theorem w_715 : Cond.instanceMethod yX5_points ∈ lw_good := List.mem_filter.mpr ⟨List.mem_of_getElem? (i := 715) (by decide +kernel), by decide +kernel⟩
theorem w_716 : Cond.code yX5_points cX5_points 4 (some FieldType.int) ∈ lw_good := List.mem_filter.mpr ⟨List.mem_of_getElem? (i := 716) (by decide +kernel), by decide +kernel⟩
theorem w_717 : Cond.methodLink "IndicatorDiagramLaw" 61 yX5_finishCard ∈ lw_good := List.mem_filter.mpr ⟨List.mem_of_getElem? (i := 717) (by decide +kernel), by decide +kernel⟩
theorem w_718 : Cond.instanceMethod yX5_finishCard ∈ lw_good := List.mem_filter.mpr ⟨List.mem_of_getElem? (i := 718) (by decide +kernel), by decide +kernel⟩
theorem w_719 : Cond.selects "IndicatorDiagramModel" yX5_finishCard yX5_finishCard ∈ lw_good := List.mem_filter.mpr ⟨List.mem_of_getElem? (i := 719) (by decide +kernel), by decide +kernel⟩
theorem w_720 : Cond.code yX5_finishCard cX5_finishCard 2 (some FieldType.int) ∈ lw_good := List.mem_filter.mpr ⟨List.mem_of_getElem? (i := 720) (by decide +kernel), by decide +kernel⟩
theorem w_721 : Cond.constant "IndicatorDiagramModel" 52 (-2000000003) ∈ lw_good := List.mem_filter.mpr ⟨List.mem_of_getElem? (i := 721) (by decide +kernel), by decide +kernel⟩
theorem w_722 : Cond.methodLink "IndicatorDiagramModel" 53 yX5_drafted ∈ lw_good := List.mem_filter.mpr ⟨List.mem_of_getElem? (i := 722) (by decide +kernel), by decide +kernel⟩
theorem w_724 : Cond.instanceMethod yX5_drafted ∈ lw_good := List.mem_filter.mpr ⟨List.mem_of_getElem? (i := 724) (by decide +kernel), by decide +kernel⟩
theorem w_725 : Cond.code yX5_drafted cX5_drafted 7 (some FieldType.int) ∈ lw_good := List.mem_filter.mpr ⟨List.mem_of_getElem? (i := 725) (by decide +kernel), by decide +kernel⟩
theorem w_726 : Cond.methodLink "IndicatorDiagramModel" 42 yX5_quotient ∈ lw_good := List.mem_filter.mpr ⟨List.mem_of_getElem? (i := 726) (by decide +kernel), by decide +kernel⟩
theorem w_727 : Cond.static yX5_quotient ∈ lw_good := List.mem_filter.mpr ⟨List.mem_of_getElem? (i := 727) (by decide +kernel), by decide +kernel⟩
theorem w_728 : Cond.code yX5_quotient cX5_quotient 4 (some FieldType.long) ∈ lw_good := List.mem_filter.mpr ⟨List.mem_of_getElem? (i := 728) (by decide +kernel), by decide +kernel⟩
theorem w_729 : Cond.methodLink "IndicatorDiagramModel" 57 yX5_addCard ∈ lw_good := List.mem_filter.mpr ⟨List.mem_of_getElem? (i := 729) (by decide +kernel), by decide +kernel⟩
theorem w_731 : Cond.instanceMethod yX5_addCard ∈ lw_good := List.mem_filter.mpr ⟨List.mem_of_getElem? (i := 731) (by decide +kernel), by decide +kernel⟩
theorem w_732 : Cond.code yX5_addCard cX5_addCard 5 (some FieldType.int) ∈ lw_good := List.mem_filter.mpr ⟨List.mem_of_getElem? (i := 732) (by decide +kernel), by decide +kernel⟩
theorem w_733 : Cond.methodLink "IndicatorDiagramModel" 46 yX5_endAt ∈ lw_good := List.mem_filter.mpr ⟨List.mem_of_getElem? (i := 733) (by decide +kernel), by decide +kernel⟩
theorem w_734 : Cond.static yX5_endAt ∈ lw_good := List.mem_filter.mpr ⟨List.mem_of_getElem? (i := 734) (by decide +kernel), by decide +kernel⟩
theorem w_735 : Cond.code yX5_endAt cX5_endAt 1 (some FieldType.int) ∈ lw_good := List.mem_filter.mpr ⟨List.mem_of_getElem? (i := 735) (by decide +kernel), by decide +kernel⟩
theorem w_736 : Cond.methodLink "IndicatorDiagramModel" 49 yX5_at ∈ lw_good := List.mem_filter.mpr ⟨List.mem_of_getElem? (i := 736) (by decide +kernel), by decide +kernel⟩
theorem w_737 : Cond.static yX5_at ∈ lw_good := List.mem_filter.mpr ⟨List.mem_of_getElem? (i := 737) (by decide +kernel), by decide +kernel⟩
theorem w_738 : Cond.code yX5_at cX5_at 1 (some FieldType.int) ∈ lw_good := List.mem_filter.mpr ⟨List.mem_of_getElem? (i := 738) (by decide +kernel), by decide +kernel⟩
theorem w_739 : Cond.methodLink "IndicatorDiagramLaw" 66 yX5_addIdealCard ∈ lw_good := List.mem_filter.mpr ⟨List.mem_of_getElem? (i := 739) (by decide +kernel), by decide +kernel⟩
theorem w_740 : Cond.instanceMethod yX5_addIdealCard ∈ lw_good := List.mem_filter.mpr ⟨List.mem_of_getElem? (i := 740) (by decide +kernel), by decide +kernel⟩
theorem w_741 : Cond.selects "IndicatorDiagramModel" yX5_addIdealCard yX5_addIdealCard ∈ lw_good := List.mem_filter.mpr ⟨List.mem_of_getElem? (i := 741) (by decide +kernel), by decide +kernel⟩
theorem w_742 : Cond.code yX5_addIdealCard cX5_addIdealCard 9 (some FieldType.int) ∈ lw_good := List.mem_filter.mpr ⟨List.mem_of_getElem? (i := 742) (by decide +kernel), by decide +kernel⟩
theorem w_743 : Cond.methodLink "IndicatorDiagramModel" 65 yX5_valveOf ∈ lw_good := List.mem_filter.mpr ⟨List.mem_of_getElem? (i := 743) (by decide +kernel), by decide +kernel⟩
theorem w_745 : Cond.instanceMethod yX5_valveOf ∈ lw_good := List.mem_filter.mpr ⟨List.mem_of_getElem? (i := 745) (by decide +kernel), by decide +kernel⟩
theorem w_746 : Cond.code yX5_valveOf cX5_valveOf 3 (some FieldType.int) ∈ lw_good := List.mem_filter.mpr ⟨List.mem_of_getElem? (i := 746) (by decide +kernel), by decide +kernel⟩
theorem w_747 : Cond.methodLink "IndicatorDiagramModel" 68 yX5_draw ∈ lw_good := List.mem_filter.mpr ⟨List.mem_of_getElem? (i := 747) (by decide +kernel), by decide +kernel⟩
theorem w_749 : Cond.instanceMethod yX5_draw ∈ lw_good := List.mem_filter.mpr ⟨List.mem_of_getElem? (i := 749) (by decide +kernel), by decide +kernel⟩
theorem w_750 : Cond.code yX5_draw cX5_draw 11 none ∈ lw_good := List.mem_filter.mpr ⟨List.mem_of_getElem? (i := 750) (by decide +kernel), by decide +kernel⟩
theorem w_751 : Cond.methodLink "IndicatorDiagramModel" 60 yX5_volume ∈ lw_good := List.mem_filter.mpr ⟨List.mem_of_getElem? (i := 751) (by decide +kernel), by decide +kernel⟩
theorem w_753 : Cond.instanceMethod yX5_volume ∈ lw_good := List.mem_filter.mpr ⟨List.mem_of_getElem? (i := 753) (by decide +kernel), by decide +kernel⟩
theorem w_754 : Cond.code yX5_volume cX5_volume 2 (some FieldType.int) ∈ lw_good := List.mem_filter.mpr ⟨List.mem_of_getElem? (i := 754) (by decide +kernel), by decide +kernel⟩
theorem w_755 : Cond.constantLong "IndicatorDiagramModel" 63 1000 ∈ lw_good := List.mem_filter.mpr ⟨List.mem_of_getElem? (i := 755) (by decide +kernel), by decide +kernel⟩
theorem w_756 : Cond.methodLink "IndicatorDiagramLaw" 70 yX5_removeCard ∈ lw_good := List.mem_filter.mpr ⟨List.mem_of_getElem? (i := 756) (by decide +kernel), by decide +kernel⟩
theorem w_757 : Cond.instanceMethod yX5_removeCard ∈ lw_good := List.mem_filter.mpr ⟨List.mem_of_getElem? (i := 757) (by decide +kernel), by decide +kernel⟩
theorem w_758 : Cond.selects "IndicatorDiagramModel" yX5_removeCard yX5_removeCard ∈ lw_good := List.mem_filter.mpr ⟨List.mem_of_getElem? (i := 758) (by decide +kernel), by decide +kernel⟩
theorem w_759 : Cond.code yX5_removeCard cX5_removeCard 2 (some FieldType.int) ∈ lw_good := List.mem_filter.mpr ⟨List.mem_of_getElem? (i := 759) (by decide +kernel), by decide +kernel⟩
theorem w_760 : Cond.methodLink "IndicatorDiagramModel" 72 yX5_isCard ∈ lw_good := List.mem_filter.mpr ⟨List.mem_of_getElem? (i := 760) (by decide +kernel), by decide +kernel⟩
theorem w_762 : Cond.instanceMethod yX5_isCard ∈ lw_good := List.mem_filter.mpr ⟨List.mem_of_getElem? (i := 762) (by decide +kernel), by decide +kernel⟩
theorem w_763 : Cond.code yX5_isCard cX5_isCard 2 (some FieldType.boolean) ∈ lw_good := List.mem_filter.mpr ⟨List.mem_of_getElem? (i := 763) (by decide +kernel), by decide +kernel⟩
theorem w_764 : Cond.methodLink "IndicatorDiagramModel" 75 yX5_remove ∈ lw_good := List.mem_filter.mpr ⟨List.mem_of_getElem? (i := 764) (by decide +kernel), by decide +kernel⟩
theorem w_766 : Cond.instanceMethod yX5_remove ∈ lw_good := List.mem_filter.mpr ⟨List.mem_of_getElem? (i := 766) (by decide +kernel), by decide +kernel⟩
theorem w_767 : Cond.code yX5_remove cX5_remove 3 none ∈ lw_good := List.mem_filter.mpr ⟨List.mem_of_getElem? (i := 767) (by decide +kernel), by decide +kernel⟩
theorem w_768 : Cond.methodLink "IndicatorDiagramLaw" 74 yX5_cardCount ∈ lw_good := List.mem_filter.mpr ⟨List.mem_of_getElem? (i := 768) (by decide +kernel), by decide +kernel⟩
theorem w_769 : Cond.instanceMethod yX5_cardCount ∈ lw_good := List.mem_filter.mpr ⟨List.mem_of_getElem? (i := 769) (by decide +kernel), by decide +kernel⟩
theorem w_770 : Cond.selects "IndicatorDiagramModel" yX5_cardCount yX5_cardCount ∈ lw_good := List.mem_filter.mpr ⟨List.mem_of_getElem? (i := 770) (by decide +kernel), by decide +kernel⟩
theorem w_771 : Cond.code yX5_cardCount cX5_cardCount 1 (some FieldType.int) ∈ lw_good := List.mem_filter.mpr ⟨List.mem_of_getElem? (i := 771) (by decide +kernel), by decide +kernel⟩
theorem w_772 : Cond.methodLink "IndicatorDiagramLaw" 78 yX5_end ∈ lw_good := List.mem_filter.mpr ⟨List.mem_of_getElem? (i := 772) (by decide +kernel), by decide +kernel⟩
theorem w_773 : Cond.instanceMethod yX5_end ∈ lw_good := List.mem_filter.mpr ⟨List.mem_of_getElem? (i := 773) (by decide +kernel), by decide +kernel⟩
theorem w_774 : Cond.selects "IndicatorDiagramModel" yX5_end yX5_end ∈ lw_good := List.mem_filter.mpr ⟨List.mem_of_getElem? (i := 774) (by decide +kernel), by decide +kernel⟩
theorem w_775 : Cond.code yX5_end cX5_end 2 (some FieldType.int) ∈ lw_good := List.mem_filter.mpr ⟨List.mem_of_getElem? (i := 775) (by decide +kernel), by decide +kernel⟩
theorem w_776 : Cond.methodLink "IndicatorDiagramLaw" 82 yX5_speed ∈ lw_good := List.mem_filter.mpr ⟨List.mem_of_getElem? (i := 776) (by decide +kernel), by decide +kernel⟩
theorem w_777 : Cond.instanceMethod yX5_speed ∈ lw_good := List.mem_filter.mpr ⟨List.mem_of_getElem? (i := 777) (by decide +kernel), by decide +kernel⟩
theorem w_778 : Cond.selects "IndicatorDiagramModel" yX5_speed yX5_speed ∈ lw_good := List.mem_filter.mpr ⟨List.mem_of_getElem? (i := 778) (by decide +kernel), by decide +kernel⟩
theorem w_779 : Cond.code yX5_speed cX5_speed 2 (some FieldType.int) ∈ lw_good := List.mem_filter.mpr ⟨List.mem_of_getElem? (i := 779) (by decide +kernel), by decide +kernel⟩
theorem w_780 : Cond.methodLink "IndicatorDiagramLaw" 86 yX5_pressure ∈ lw_good := List.mem_filter.mpr ⟨List.mem_of_getElem? (i := 780) (by decide +kernel), by decide +kernel⟩
theorem w_781 : Cond.instanceMethod yX5_pressure ∈ lw_good := List.mem_filter.mpr ⟨List.mem_of_getElem? (i := 781) (by decide +kernel), by decide +kernel⟩
theorem w_782 : Cond.selects "IndicatorDiagramModel" yX5_pressure yX5_pressure ∈ lw_good := List.mem_filter.mpr ⟨List.mem_of_getElem? (i := 782) (by decide +kernel), by decide +kernel⟩
theorem w_783 : Cond.code yX5_pressure cX5_pressure 4 (some FieldType.int) ∈ lw_good := List.mem_filter.mpr ⟨List.mem_of_getElem? (i := 783) (by decide +kernel), by decide +kernel⟩
theorem w_784 : Cond.methodLink "IndicatorDiagramLaw" 90 yX5_area ∈ lw_good := List.mem_filter.mpr ⟨List.mem_of_getElem? (i := 784) (by decide +kernel), by decide +kernel⟩
theorem w_785 : Cond.instanceMethod yX5_area ∈ lw_good := List.mem_filter.mpr ⟨List.mem_of_getElem? (i := 785) (by decide +kernel), by decide +kernel⟩
theorem w_786 : Cond.selects "IndicatorDiagramModel" yX5_area yX5_area ∈ lw_good := List.mem_filter.mpr ⟨List.mem_of_getElem? (i := 786) (by decide +kernel), by decide +kernel⟩
theorem w_787 : Cond.code yX5_area cX5_area 2 (some FieldType.int) ∈ lw_good := List.mem_filter.mpr ⟨List.mem_of_getElem? (i := 787) (by decide +kernel), by decide +kernel⟩
theorem w_788 : Cond.methodLink "IndicatorDiagramModel" 88 yX5_areaAt ∈ lw_good := List.mem_filter.mpr ⟨List.mem_of_getElem? (i := 788) (by decide +kernel), by decide +kernel⟩
theorem w_790 : Cond.instanceMethod yX5_areaAt ∈ lw_good := List.mem_filter.mpr ⟨List.mem_of_getElem? (i := 790) (by decide +kernel), by decide +kernel⟩
theorem w_791 : Cond.code yX5_areaAt cX5_areaAt 4 (some FieldType.int) ∈ lw_good := List.mem_filter.mpr ⟨List.mem_of_getElem? (i := 791) (by decide +kernel), by decide +kernel⟩
theorem w_792 : Cond.methodLink "IndicatorDiagramModel" 79 yX5_difference ∈ lw_good := List.mem_filter.mpr ⟨List.mem_of_getElem? (i := 792) (by decide +kernel), by decide +kernel⟩
theorem w_794 : Cond.instanceMethod yX5_difference ∈ lw_good := List.mem_filter.mpr ⟨List.mem_of_getElem? (i := 794) (by decide +kernel), by decide +kernel⟩
theorem w_795 : Cond.code yX5_difference cX5_difference 3 (some FieldType.int) ∈ lw_good := List.mem_filter.mpr ⟨List.mem_of_getElem? (i := 795) (by decide +kernel), by decide +kernel⟩
theorem w_796 : Cond.methodLink "IndicatorDiagramLaw" 94 yX5_forwardArea ∈ lw_good := List.mem_filter.mpr ⟨List.mem_of_getElem? (i := 796) (by decide +kernel), by decide +kernel⟩
theorem w_797 : Cond.instanceMethod yX5_forwardArea ∈ lw_good := List.mem_filter.mpr ⟨List.mem_of_getElem? (i := 797) (by decide +kernel), by decide +kernel⟩
theorem w_798 : Cond.selects "IndicatorDiagramModel" yX5_forwardArea yX5_forwardArea ∈ lw_good := List.mem_filter.mpr ⟨List.mem_of_getElem? (i := 798) (by decide +kernel), by decide +kernel⟩
theorem w_799 : Cond.code yX5_forwardArea cX5_forwardArea 2 (some FieldType.int) ∈ lw_good := List.mem_filter.mpr ⟨List.mem_of_getElem? (i := 799) (by decide +kernel), by decide +kernel⟩
theorem w_800 : Cond.methodLink "IndicatorDiagramModel" 91 yX5_parts ∈ lw_good := List.mem_filter.mpr ⟨List.mem_of_getElem? (i := 800) (by decide +kernel), by decide +kernel⟩
theorem w_802 : Cond.instanceMethod yX5_parts ∈ lw_good := List.mem_filter.mpr ⟨List.mem_of_getElem? (i := 802) (by decide +kernel), by decide +kernel⟩
theorem w_803 : Cond.code yX5_parts cX5_parts 5 (some FieldType.int) ∈ lw_good := List.mem_filter.mpr ⟨List.mem_of_getElem? (i := 803) (by decide +kernel), by decide +kernel⟩
theorem w_804 : Cond.methodLink "IndicatorDiagramModel" 82 yX5_part ∈ lw_good := List.mem_filter.mpr ⟨List.mem_of_getElem? (i := 804) (by decide +kernel), by decide +kernel⟩
theorem w_805 : Cond.static yX5_part ∈ lw_good := List.mem_filter.mpr ⟨List.mem_of_getElem? (i := 805) (by decide +kernel), by decide +kernel⟩
theorem w_806 : Cond.code yX5_part cX5_part 5 (some FieldType.int) ∈ lw_good := List.mem_filter.mpr ⟨List.mem_of_getElem? (i := 806) (by decide +kernel), by decide +kernel⟩
theorem w_807 : Cond.methodLink "IndicatorDiagramLaw" 98 yX5_loopArea ∈ lw_good := List.mem_filter.mpr ⟨List.mem_of_getElem? (i := 807) (by decide +kernel), by decide +kernel⟩
theorem w_808 : Cond.instanceMethod yX5_loopArea ∈ lw_good := List.mem_filter.mpr ⟨List.mem_of_getElem? (i := 808) (by decide +kernel), by decide +kernel⟩
theorem w_809 : Cond.selects "IndicatorDiagramModel" yX5_loopArea yX5_loopArea ∈ lw_good := List.mem_filter.mpr ⟨List.mem_of_getElem? (i := 809) (by decide +kernel), by decide +kernel⟩
theorem w_810 : Cond.code yX5_loopArea cX5_loopArea 2 (some FieldType.int) ∈ lw_good := List.mem_filter.mpr ⟨List.mem_of_getElem? (i := 810) (by decide +kernel), by decide +kernel⟩
theorem w_811 : Cond.methodLink "IndicatorDiagramLaw" 102 yX5_loopStations ∈ lw_good := List.mem_filter.mpr ⟨List.mem_of_getElem? (i := 811) (by decide +kernel), by decide +kernel⟩
theorem w_812 : Cond.instanceMethod yX5_loopStations ∈ lw_good := List.mem_filter.mpr ⟨List.mem_of_getElem? (i := 812) (by decide +kernel), by decide +kernel⟩
theorem w_813 : Cond.selects "IndicatorDiagramModel" yX5_loopStations yX5_loopStations ∈ lw_good := List.mem_filter.mpr ⟨List.mem_of_getElem? (i := 813) (by decide +kernel), by decide +kernel⟩
theorem w_814 : Cond.code yX5_loopStations cX5_loopStations 4 (some FieldType.int) ∈ lw_good := List.mem_filter.mpr ⟨List.mem_of_getElem? (i := 814) (by decide +kernel), by decide +kernel⟩
theorem w_815 : Cond.methodLink "IndicatorDiagramLaw" 106 yX5_meanPressure ∈ lw_good := List.mem_filter.mpr ⟨List.mem_of_getElem? (i := 815) (by decide +kernel), by decide +kernel⟩
theorem w_816 : Cond.instanceMethod yX5_meanPressure ∈ lw_good := List.mem_filter.mpr ⟨List.mem_of_getElem? (i := 816) (by decide +kernel), by decide +kernel⟩
theorem w_817 : Cond.selects "IndicatorDiagramModel" yX5_meanPressure yX5_meanPressure ∈ lw_good := List.mem_filter.mpr ⟨List.mem_of_getElem? (i := 817) (by decide +kernel), by decide +kernel⟩
theorem w_818 : Cond.code yX5_meanPressure cX5_meanPressure 2 (some FieldType.int) ∈ lw_good := List.mem_filter.mpr ⟨List.mem_of_getElem? (i := 818) (by decide +kernel), by decide +kernel⟩
theorem w_819 : Cond.constantLong "IndicatorDiagramModel" 95 40 ∈ lw_good := List.mem_filter.mpr ⟨List.mem_of_getElem? (i := 819) (by decide +kernel), by decide +kernel⟩
theorem w_820 : Cond.methodLink "IndicatorDiagramLaw" 111 yX5_power ∈ lw_good := List.mem_filter.mpr ⟨List.mem_of_getElem? (i := 820) (by decide +kernel), by decide +kernel⟩
theorem w_821 : Cond.instanceMethod yX5_power ∈ lw_good := List.mem_filter.mpr ⟨List.mem_of_getElem? (i := 821) (by decide +kernel), by decide +kernel⟩
theorem w_822 : Cond.selects "IndicatorDiagramModel" yX5_power yX5_power ∈ lw_good := List.mem_filter.mpr ⟨List.mem_of_getElem? (i := 822) (by decide +kernel), by decide +kernel⟩
theorem w_823 : Cond.code yX5_power cX5_power 2 (some FieldType.long) ∈ lw_good := List.mem_filter.mpr ⟨List.mem_of_getElem? (i := 823) (by decide +kernel), by decide +kernel⟩
theorem w_824 : Cond.methodLink "IndicatorDiagramModel" 101 yX5_powerAt ∈ lw_good := List.mem_filter.mpr ⟨List.mem_of_getElem? (i := 824) (by decide +kernel), by decide +kernel⟩
theorem w_826 : Cond.instanceMethod yX5_powerAt ∈ lw_good := List.mem_filter.mpr ⟨List.mem_of_getElem? (i := 826) (by decide +kernel), by decide +kernel⟩
theorem w_827 : Cond.code yX5_powerAt cX5_powerAt 2 (some FieldType.long) ∈ lw_good := List.mem_filter.mpr ⟨List.mem_of_getElem? (i := 827) (by decide +kernel), by decide +kernel⟩
theorem w_828 : Cond.methodLink "IndicatorDiagramModel" 97 yX5_powerOf ∈ lw_good := List.mem_filter.mpr ⟨List.mem_of_getElem? (i := 828) (by decide +kernel), by decide +kernel⟩
theorem w_830 : Cond.instanceMethod yX5_powerOf ∈ lw_good := List.mem_filter.mpr ⟨List.mem_of_getElem? (i := 830) (by decide +kernel), by decide +kernel⟩
theorem w_831 : Cond.code yX5_powerOf cX5_powerOf 4 (some FieldType.long) ∈ lw_good := List.mem_filter.mpr ⟨List.mem_of_getElem? (i := 831) (by decide +kernel), by decide +kernel⟩
theorem w_832 : Cond.constantLong "IndicatorDiagramModel" 86 2400000 ∈ lw_good := List.mem_filter.mpr ⟨List.mem_of_getElem? (i := 832) (by decide +kernel), by decide +kernel⟩
theorem w_833 : Cond.constantLong "IndicatorDiagramModel" 105 (-2000000001) ∈ lw_good := List.mem_filter.mpr ⟨List.mem_of_getElem? (i := 833) (by decide +kernel), by decide +kernel⟩
theorem w_834 : Cond.methodLink "IndicatorDiagramLaw" 115 yX5_event ∈ lw_good := List.mem_filter.mpr ⟨List.mem_of_getElem? (i := 834) (by decide +kernel), by decide +kernel⟩
theorem w_835 : Cond.instanceMethod yX5_event ∈ lw_good := List.mem_filter.mpr ⟨List.mem_of_getElem? (i := 835) (by decide +kernel), by decide +kernel⟩
theorem w_836 : Cond.selects "IndicatorDiagramModel" yX5_event yX5_event ∈ lw_good := List.mem_filter.mpr ⟨List.mem_of_getElem? (i := 836) (by decide +kernel), by decide +kernel⟩
theorem w_837 : Cond.code yX5_event cX5_event 3 (some FieldType.int) ∈ lw_good := List.mem_filter.mpr ⟨List.mem_of_getElem? (i := 837) (by decide +kernel), by decide +kernel⟩
theorem w_838 : Cond.methodLink "IndicatorDiagramModel" 125 yX5_eventOf ∈ lw_good := List.mem_filter.mpr ⟨List.mem_of_getElem? (i := 838) (by decide +kernel), by decide +kernel⟩
theorem w_840 : Cond.instanceMethod yX5_eventOf ∈ lw_good := List.mem_filter.mpr ⟨List.mem_of_getElem? (i := 840) (by decide +kernel), by decide +kernel⟩
theorem w_841 : Cond.code yX5_eventOf cX5_eventOf 4 (some FieldType.int) ∈ lw_good := List.mem_filter.mpr ⟨List.mem_of_getElem? (i := 841) (by decide +kernel), by decide +kernel⟩
theorem w_842 : Cond.methodLink "IndicatorDiagramModel" 110 yX5_admission ∈ lw_good := List.mem_filter.mpr ⟨List.mem_of_getElem? (i := 842) (by decide +kernel), by decide +kernel⟩
theorem w_844 : Cond.instanceMethod yX5_admission ∈ lw_good := List.mem_filter.mpr ⟨List.mem_of_getElem? (i := 844) (by decide +kernel), by decide +kernel⟩
theorem w_845 : Cond.code yX5_admission cX5_admission 4 (some FieldType.int) ∈ lw_good := List.mem_filter.mpr ⟨List.mem_of_getElem? (i := 845) (by decide +kernel), by decide +kernel⟩
theorem w_846 : Cond.methodLink "IndicatorDiagramModel" 107 yX5_extreme ∈ lw_good := List.mem_filter.mpr ⟨List.mem_of_getElem? (i := 846) (by decide +kernel), by decide +kernel⟩
theorem w_848 : Cond.instanceMethod yX5_extreme ∈ lw_good := List.mem_filter.mpr ⟨List.mem_of_getElem? (i := 848) (by decide +kernel), by decide +kernel⟩
theorem w_849 : Cond.code yX5_extreme cX5_extreme 6 (some FieldType.int) ∈ lw_good := List.mem_filter.mpr ⟨List.mem_of_getElem? (i := 849) (by decide +kernel), by decide +kernel⟩
theorem w_850 : Cond.methodLink "IndicatorDiagramModel" 113 yX5_cutOff ∈ lw_good := List.mem_filter.mpr ⟨List.mem_of_getElem? (i := 850) (by decide +kernel), by decide +kernel⟩
theorem w_852 : Cond.instanceMethod yX5_cutOff ∈ lw_good := List.mem_filter.mpr ⟨List.mem_of_getElem? (i := 852) (by decide +kernel), by decide +kernel⟩
theorem w_853 : Cond.code yX5_cutOff cX5_cutOff 4 (some FieldType.int) ∈ lw_good := List.mem_filter.mpr ⟨List.mem_of_getElem? (i := 853) (by decide +kernel), by decide +kernel⟩
theorem w_854 : Cond.methodLink "IndicatorDiagramModel" 119 yX5_release ∈ lw_good := List.mem_filter.mpr ⟨List.mem_of_getElem? (i := 854) (by decide +kernel), by decide +kernel⟩
theorem w_856 : Cond.instanceMethod yX5_release ∈ lw_good := List.mem_filter.mpr ⟨List.mem_of_getElem? (i := 856) (by decide +kernel), by decide +kernel⟩
theorem w_857 : Cond.code yX5_release cX5_release 5 (some FieldType.int) ∈ lw_good := List.mem_filter.mpr ⟨List.mem_of_getElem? (i := 857) (by decide +kernel), by decide +kernel⟩
theorem w_858 : Cond.methodLink "IndicatorDiagramModel" 116 yX5_constantAt ∈ lw_good := List.mem_filter.mpr ⟨List.mem_of_getElem? (i := 858) (by decide +kernel), by decide +kernel⟩
theorem w_860 : Cond.instanceMethod yX5_constantAt ∈ lw_good := List.mem_filter.mpr ⟨List.mem_of_getElem? (i := 860) (by decide +kernel), by decide +kernel⟩
theorem w_861 : Cond.code yX5_constantAt cX5_constantAt 3 (some FieldType.int) ∈ lw_good := List.mem_filter.mpr ⟨List.mem_of_getElem? (i := 861) (by decide +kernel), by decide +kernel⟩
theorem w_862 : Cond.methodLink "IndicatorDiagramModel" 122 yX5_compression ∈ lw_good := List.mem_filter.mpr ⟨List.mem_of_getElem? (i := 862) (by decide +kernel), by decide +kernel⟩
theorem w_864 : Cond.instanceMethod yX5_compression ∈ lw_good := List.mem_filter.mpr ⟨List.mem_of_getElem? (i := 864) (by decide +kernel), by decide +kernel⟩
theorem w_865 : Cond.code yX5_compression cX5_compression 4 (some FieldType.int) ∈ lw_good := List.mem_filter.mpr ⟨List.mem_of_getElem? (i := 865) (by decide +kernel), by decide +kernel⟩
theorem w_866 : Cond.methodLink "IndicatorDiagramLaw" 119 yX5_lateness ∈ lw_good := List.mem_filter.mpr ⟨List.mem_of_getElem? (i := 866) (by decide +kernel), by decide +kernel⟩
theorem w_867 : Cond.instanceMethod yX5_lateness ∈ lw_good := List.mem_filter.mpr ⟨List.mem_of_getElem? (i := 867) (by decide +kernel), by decide +kernel⟩
theorem w_868 : Cond.selects "IndicatorDiagramModel" yX5_lateness yX5_lateness ∈ lw_good := List.mem_filter.mpr ⟨List.mem_of_getElem? (i := 868) (by decide +kernel), by decide +kernel⟩
theorem w_869 : Cond.code yX5_lateness cX5_lateness 3 (some FieldType.int) ∈ lw_good := List.mem_filter.mpr ⟨List.mem_of_getElem? (i := 869) (by decide +kernel), by decide +kernel⟩
theorem w_870 : Cond.methodLink "IndicatorDiagramModel" 128 yX5_latenessOf ∈ lw_good := List.mem_filter.mpr ⟨List.mem_of_getElem? (i := 870) (by decide +kernel), by decide +kernel⟩
theorem w_872 : Cond.instanceMethod yX5_latenessOf ∈ lw_good := List.mem_filter.mpr ⟨List.mem_of_getElem? (i := 872) (by decide +kernel), by decide +kernel⟩
theorem w_873 : Cond.code yX5_latenessOf cX5_latenessOf 4 (some FieldType.int) ∈ lw_good := List.mem_filter.mpr ⟨List.mem_of_getElem? (i := 873) (by decide +kernel), by decide +kernel⟩
theorem w_874 : Cond.methodLink "IndicatorDiagramLaw" 123 yX5_slip ∈ lw_good := List.mem_filter.mpr ⟨List.mem_of_getElem? (i := 874) (by decide +kernel), by decide +kernel⟩
theorem w_875 : Cond.instanceMethod yX5_slip ∈ lw_good := List.mem_filter.mpr ⟨List.mem_of_getElem? (i := 875) (by decide +kernel), by decide +kernel⟩
theorem w_876 : Cond.selects "IndicatorDiagramModel" yX5_slip yX5_slip ∈ lw_good := List.mem_filter.mpr ⟨List.mem_of_getElem? (i := 876) (by decide +kernel), by decide +kernel⟩
theorem w_877 : Cond.code yX5_slip cX5_slip 4 (some FieldType.int) ∈ lw_good := List.mem_filter.mpr ⟨List.mem_of_getElem? (i := 877) (by decide +kernel), by decide +kernel⟩
theorem w_878 : Cond.methodLink "IndicatorDiagramModel" 134 yX5_offBy ∈ lw_good := List.mem_filter.mpr ⟨List.mem_of_getElem? (i := 878) (by decide +kernel), by decide +kernel⟩
theorem w_880 : Cond.instanceMethod yX5_offBy ∈ lw_good := List.mem_filter.mpr ⟨List.mem_of_getElem? (i := 880) (by decide +kernel), by decide +kernel⟩
theorem w_881 : Cond.code yX5_offBy cX5_offBy 5 (some FieldType.int) ∈ lw_good := List.mem_filter.mpr ⟨List.mem_of_getElem? (i := 881) (by decide +kernel), by decide +kernel⟩
theorem w_882 : Cond.methodLink "IndicatorDiagramModel" 131 yX5_size ∈ lw_good := List.mem_filter.mpr ⟨List.mem_of_getElem? (i := 882) (by decide +kernel), by decide +kernel⟩
theorem w_883 : Cond.static yX5_size ∈ lw_good := List.mem_filter.mpr ⟨List.mem_of_getElem? (i := 883) (by decide +kernel), by decide +kernel⟩
theorem w_884 : Cond.code yX5_size cX5_size 1 (some FieldType.int) ∈ lw_good := List.mem_filter.mpr ⟨List.mem_of_getElem? (i := 884) (by decide +kernel), by decide +kernel⟩
theorem w_885 : Cond.methodLink "IndicatorDiagramLaw" 127 yX5_constant ∈ lw_good := List.mem_filter.mpr ⟨List.mem_of_getElem? (i := 885) (by decide +kernel), by decide +kernel⟩
theorem w_886 : Cond.instanceMethod yX5_constant ∈ lw_good := List.mem_filter.mpr ⟨List.mem_of_getElem? (i := 886) (by decide +kernel), by decide +kernel⟩
theorem w_887 : Cond.selects "IndicatorDiagramModel" yX5_constant yX5_constant ∈ lw_good := List.mem_filter.mpr ⟨List.mem_of_getElem? (i := 887) (by decide +kernel), by decide +kernel⟩
theorem w_888 : Cond.code yX5_constant cX5_constant 3 (some FieldType.int) ∈ lw_good := List.mem_filter.mpr ⟨List.mem_of_getElem? (i := 888) (by decide +kernel), by decide +kernel⟩
theorem w_889 : Cond.methodLink "IndicatorDiagramLaw" 131 yX5_leakage ∈ lw_good := List.mem_filter.mpr ⟨List.mem_of_getElem? (i := 889) (by decide +kernel), by decide +kernel⟩
theorem w_890 : Cond.instanceMethod yX5_leakage ∈ lw_good := List.mem_filter.mpr ⟨List.mem_of_getElem? (i := 890) (by decide +kernel), by decide +kernel⟩
theorem w_891 : Cond.selects "IndicatorDiagramModel" yX5_leakage yX5_leakage ∈ lw_good := List.mem_filter.mpr ⟨List.mem_of_getElem? (i := 891) (by decide +kernel), by decide +kernel⟩
theorem w_892 : Cond.code yX5_leakage cX5_leakage 5 (some FieldType.int) ∈ lw_good := List.mem_filter.mpr ⟨List.mem_of_getElem? (i := 892) (by decide +kernel), by decide +kernel⟩
theorem w_893 : Cond.constant "IndicatorDiagramModel" 137 (-2000000004) ∈ lw_good := List.mem_filter.mpr ⟨List.mem_of_getElem? (i := 893) (by decide +kernel), by decide +kernel⟩
theorem w_894 : Cond.methodLink "IndicatorDiagramLaw" 135 yX5_cardsOf ∈ lw_good := List.mem_filter.mpr ⟨List.mem_of_getElem? (i := 894) (by decide +kernel), by decide +kernel⟩
theorem w_895 : Cond.instanceMethod yX5_cardsOf ∈ lw_good := List.mem_filter.mpr ⟨List.mem_of_getElem? (i := 895) (by decide +kernel), by decide +kernel⟩
theorem w_896 : Cond.selects "IndicatorDiagramModel" yX5_cardsOf yX5_cardsOf ∈ lw_good := List.mem_filter.mpr ⟨List.mem_of_getElem? (i := 896) (by decide +kernel), by decide +kernel⟩
theorem w_897 : Cond.code yX5_cardsOf cX5_cardsOf 2 (some FieldType.int) ∈ lw_good := List.mem_filter.mpr ⟨List.mem_of_getElem? (i := 897) (by decide +kernel), by decide +kernel⟩
theorem w_898 : Cond.methodLink "IndicatorDiagramModel" 138 yX5_many ∈ lw_good := List.mem_filter.mpr ⟨List.mem_of_getElem? (i := 898) (by decide +kernel), by decide +kernel⟩
theorem w_900 : Cond.instanceMethod yX5_many ∈ lw_good := List.mem_filter.mpr ⟨List.mem_of_getElem? (i := 900) (by decide +kernel), by decide +kernel⟩
theorem w_901 : Cond.code yX5_many cX5_many 4 (some FieldType.int) ∈ lw_good := List.mem_filter.mpr ⟨List.mem_of_getElem? (i := 901) (by decide +kernel), by decide +kernel⟩
theorem w_902 : Cond.methodLink "IndicatorDiagramLaw" 139 yX5_meanArea ∈ lw_good := List.mem_filter.mpr ⟨List.mem_of_getElem? (i := 902) (by decide +kernel), by decide +kernel⟩
theorem w_903 : Cond.instanceMethod yX5_meanArea ∈ lw_good := List.mem_filter.mpr ⟨List.mem_of_getElem? (i := 903) (by decide +kernel), by decide +kernel⟩
theorem w_904 : Cond.selects "IndicatorDiagramModel" yX5_meanArea yX5_meanArea ∈ lw_good := List.mem_filter.mpr ⟨List.mem_of_getElem? (i := 904) (by decide +kernel), by decide +kernel⟩
theorem w_905 : Cond.code yX5_meanArea cX5_meanArea 6 (some FieldType.int) ∈ lw_good := List.mem_filter.mpr ⟨List.mem_of_getElem? (i := 905) (by decide +kernel), by decide +kernel⟩
theorem w_906 : Cond.methodLink "IndicatorDiagramLaw" 143 yX5_meanPower ∈ lw_good := List.mem_filter.mpr ⟨List.mem_of_getElem? (i := 906) (by decide +kernel), by decide +kernel⟩
theorem w_907 : Cond.instanceMethod yX5_meanPower ∈ lw_good := List.mem_filter.mpr ⟨List.mem_of_getElem? (i := 907) (by decide +kernel), by decide +kernel⟩
theorem w_908 : Cond.selects "IndicatorDiagramModel" yX5_meanPower yX5_meanPower ∈ lw_good := List.mem_filter.mpr ⟨List.mem_of_getElem? (i := 908) (by decide +kernel), by decide +kernel⟩
theorem w_909 : Cond.code yX5_meanPower cX5_meanPower 2 (some FieldType.long) ∈ lw_good := List.mem_filter.mpr ⟨List.mem_of_getElem? (i := 909) (by decide +kernel), by decide +kernel⟩
theorem w_910 : Cond.constantLong "IndicatorDiagramModel" 141 (-2000000004) ∈ lw_good := List.mem_filter.mpr ⟨List.mem_of_getElem? (i := 910) (by decide +kernel), by decide +kernel⟩
theorem w_911 : Cond.methodLink "IndicatorDiagramModel" 143 yX5_meanPowerOf ∈ lw_good := List.mem_filter.mpr ⟨List.mem_of_getElem? (i := 911) (by decide +kernel), by decide +kernel⟩
theorem w_913 : Cond.instanceMethod yX5_meanPowerOf ∈ lw_good := List.mem_filter.mpr ⟨List.mem_of_getElem? (i := 913) (by decide +kernel), by decide +kernel⟩
theorem w_914 : Cond.code yX5_meanPowerOf cX5_meanPowerOf 5 (some FieldType.long) ∈ lw_good := List.mem_filter.mpr ⟨List.mem_of_getElem? (i := 914) (by decide +kernel), by decide +kernel⟩
theorem w_915 : Cond.methodLink "IndicatorDiagramLaw" 147 yX5_imbalance ∈ lw_good := List.mem_filter.mpr ⟨List.mem_of_getElem? (i := 915) (by decide +kernel), by decide +kernel⟩
theorem w_916 : Cond.instanceMethod yX5_imbalance ∈ lw_good := List.mem_filter.mpr ⟨List.mem_of_getElem? (i := 916) (by decide +kernel), by decide +kernel⟩
theorem w_917 : Cond.selects "IndicatorDiagramModel" yX5_imbalance yX5_imbalance ∈ lw_good := List.mem_filter.mpr ⟨List.mem_of_getElem? (i := 917) (by decide +kernel), by decide +kernel⟩
theorem w_918 : Cond.code yX5_imbalance cX5_imbalance 7 (some FieldType.int) ∈ lw_good := List.mem_filter.mpr ⟨List.mem_of_getElem? (i := 918) (by decide +kernel), by decide +kernel⟩
theorem w_919 : Cond.methodLink "IndicatorDiagramLaw" 151 yX5_removeOutliers ∈ lw_good := List.mem_filter.mpr ⟨List.mem_of_getElem? (i := 919) (by decide +kernel), by decide +kernel⟩
theorem w_920 : Cond.instanceMethod yX5_removeOutliers ∈ lw_good := List.mem_filter.mpr ⟨List.mem_of_getElem? (i := 920) (by decide +kernel), by decide +kernel⟩
theorem w_921 : Cond.selects "IndicatorDiagramModel" yX5_removeOutliers yX5_removeOutliers ∈ lw_good := List.mem_filter.mpr ⟨List.mem_of_getElem? (i := 921) (by decide +kernel), by decide +kernel⟩
theorem w_922 : Cond.code yX5_removeOutliers cX5_removeOutliers 7 (some FieldType.int) ∈ lw_good := List.mem_filter.mpr ⟨List.mem_of_getElem? (i := 922) (by decide +kernel), by decide +kernel⟩
theorem w_923 : Cond.methodLink "IndicatorDiagramModel" 146 yX5_median ∈ lw_good := List.mem_filter.mpr ⟨List.mem_of_getElem? (i := 923) (by decide +kernel), by decide +kernel⟩
theorem w_925 : Cond.instanceMethod yX5_median ∈ lw_good := List.mem_filter.mpr ⟨List.mem_of_getElem? (i := 925) (by decide +kernel), by decide +kernel⟩
theorem w_926 : Cond.code yX5_median cX5_median 9 (some FieldType.int) ∈ lw_good := List.mem_filter.mpr ⟨List.mem_of_getElem? (i := 926) (by decide +kernel), by decide +kernel⟩
theorem w_927 : Cond.methodLink "IndicatorDiagramLaw" 155 yX5_idealArea ∈ lw_good := List.mem_filter.mpr ⟨List.mem_of_getElem? (i := 927) (by decide +kernel), by decide +kernel⟩
theorem w_928 : Cond.instanceMethod yX5_idealArea ∈ lw_good := List.mem_filter.mpr ⟨List.mem_of_getElem? (i := 928) (by decide +kernel), by decide +kernel⟩
theorem w_929 : Cond.selects "IndicatorDiagramModel" yX5_idealArea yX5_idealArea ∈ lw_good := List.mem_filter.mpr ⟨List.mem_of_getElem? (i := 929) (by decide +kernel), by decide +kernel⟩
theorem w_930 : Cond.code yX5_idealArea cX5_idealArea 2 (some FieldType.int) ∈ lw_good := List.mem_filter.mpr ⟨List.mem_of_getElem? (i := 930) (by decide +kernel), by decide +kernel⟩
theorem w_931 : Cond.methodLink "IndicatorDiagramModel" 149 yX5_idealBy ∈ lw_good := List.mem_filter.mpr ⟨List.mem_of_getElem? (i := 931) (by decide +kernel), by decide +kernel⟩
theorem w_933 : Cond.instanceMethod yX5_idealBy ∈ lw_good := List.mem_filter.mpr ⟨List.mem_of_getElem? (i := 933) (by decide +kernel), by decide +kernel⟩
theorem w_934 : Cond.code yX5_idealBy cX5_idealBy 3 (some FieldType.int) ∈ lw_good := List.mem_filter.mpr ⟨List.mem_of_getElem? (i := 934) (by decide +kernel), by decide +kernel⟩
theorem w_935 : Cond.methodLink "IndicatorDiagramLaw" 159 yX5_bestCutOff ∈ lw_good := List.mem_filter.mpr ⟨List.mem_of_getElem? (i := 935) (by decide +kernel), by decide +kernel⟩
theorem w_936 : Cond.instanceMethod yX5_bestCutOff ∈ lw_good := List.mem_filter.mpr ⟨List.mem_of_getElem? (i := 936) (by decide +kernel), by decide +kernel⟩
theorem w_937 : Cond.selects "IndicatorDiagramModel" yX5_bestCutOff yX5_bestCutOff ∈ lw_good := List.mem_filter.mpr ⟨List.mem_of_getElem? (i := 937) (by decide +kernel), by decide +kernel⟩
theorem w_938 : Cond.code yX5_bestCutOff cX5_bestCutOff 8 (some FieldType.int) ∈ lw_good := List.mem_filter.mpr ⟨List.mem_of_getElem? (i := 938) (by decide +kernel), by decide +kernel⟩
theorem w_939 : Cond.constant "IndicatorDiagramModel" 152 (-200000) ∈ lw_good := List.mem_filter.mpr ⟨List.mem_of_getElem? (i := 939) (by decide +kernel), by decide +kernel⟩
theorem w_940 : Cond.constant "IndicatorDiagramModel" 153 200000 ∈ lw_good := List.mem_filter.mpr ⟨List.mem_of_getElem? (i := 940) (by decide +kernel), by decide +kernel⟩
theorem w_941 : Cond.methodLink "IndicatorDiagramModel" 154 yX5_canCut ∈ lw_good := List.mem_filter.mpr ⟨List.mem_of_getElem? (i := 941) (by decide +kernel), by decide +kernel⟩
theorem w_943 : Cond.instanceMethod yX5_canCut ∈ lw_good := List.mem_filter.mpr ⟨List.mem_of_getElem? (i := 943) (by decide +kernel), by decide +kernel⟩
theorem w_944 : Cond.code yX5_canCut cX5_canCut 3 (some FieldType.boolean) ∈ lw_good := List.mem_filter.mpr ⟨List.mem_of_getElem? (i := 944) (by decide +kernel), by decide +kernel⟩
theorem w_945 : Cond.methodLink "IndicatorDiagramLaw" 163 yX5_balancingCutOff ∈ lw_good := List.mem_filter.mpr ⟨List.mem_of_getElem? (i := 945) (by decide +kernel), by decide +kernel⟩
theorem w_946 : Cond.instanceMethod yX5_balancingCutOff ∈ lw_good := List.mem_filter.mpr ⟨List.mem_of_getElem? (i := 946) (by decide +kernel), by decide +kernel⟩
theorem w_947 : Cond.selects "IndicatorDiagramModel" yX5_balancingCutOff yX5_balancingCutOff ∈ lw_good := List.mem_filter.mpr ⟨List.mem_of_getElem? (i := 947) (by decide +kernel), by decide +kernel⟩
theorem w_948 : Cond.code yX5_balancingCutOff cX5_balancingCutOff 12 (some FieldType.int) ∈ lw_good := List.mem_filter.mpr ⟨List.mem_of_getElem? (i := 948) (by decide +kernel), by decide +kernel⟩
theorem i_X0 : ∀ w ∈ u_ws RX0 TX0 4, w ∈ lw_good := by
  show ∀ w ∈ [Cond.lays "IndicatorDiagram$Card" "IndicatorDiagram$Card" "end" "I", Cond.lays "IndicatorDiagram$Card" "IndicatorDiagram$Card" "speed" "I", Cond.laysFinal "IndicatorDiagram$Card" "IndicatorDiagram$Card" "outward" "[I", Cond.laysFinal "IndicatorDiagram$Card" "IndicatorDiagram$Card" "inward" "[I"], w ∈ lw_good
  exact List.forall_mem_cons.mpr ⟨w_83, List.forall_mem_cons.mpr ⟨w_85, List.forall_mem_cons.mpr ⟨w_87, List.forall_mem_cons.mpr ⟨w_89, fun _ h => absurd h List.not_mem_nil⟩⟩⟩⟩
theorem i_X1 : ∀ w ∈ u_ws RX1 TX1 5, w ∈ lw_good := by
  show ∀ w ∈ [Cond.lays "IndicatorDiagram$Draft" "IndicatorDiagram$Draft" "present" "Z", Cond.lays "IndicatorDiagram$Draft" "IndicatorDiagram$Draft" "end" "I", Cond.lays "IndicatorDiagram$Draft" "IndicatorDiagram$Draft" "speed" "I", Cond.laysFinal "IndicatorDiagram$Draft" "IndicatorDiagram$Draft" "outward" "[I", Cond.laysFinal "IndicatorDiagram$Draft" "IndicatorDiagram$Draft" "inward" "[I"], w ∈ lw_good
  exact List.forall_mem_cons.mpr ⟨w_140, List.forall_mem_cons.mpr ⟨w_142, List.forall_mem_cons.mpr ⟨w_144, List.forall_mem_cons.mpr ⟨w_146, List.forall_mem_cons.mpr ⟨w_148, fun _ h => absurd h List.not_mem_nil⟩⟩⟩⟩⟩
theorem i_X2 : ∀ w ∈ u_ws RX2 TX2 4, w ∈ lw_good := by
  show ∀ w ∈ [Cond.lays "IndicatorDiagram$Events" "IndicatorDiagram$Events" "admission" "I", Cond.lays "IndicatorDiagram$Events" "IndicatorDiagram$Events" "cutOff" "I", Cond.lays "IndicatorDiagram$Events" "IndicatorDiagram$Events" "release" "I", Cond.lays "IndicatorDiagram$Events" "IndicatorDiagram$Events" "compression" "I"], w ∈ lw_good
  exact List.forall_mem_cons.mpr ⟨w_107, List.forall_mem_cons.mpr ⟨w_109, List.forall_mem_cons.mpr ⟨w_111, List.forall_mem_cons.mpr ⟨w_113, fun _ h => absurd h List.not_mem_nil⟩⟩⟩⟩
theorem i_X3 : ∀ w ∈ u_ws RX3 TX3 13, w ∈ lw_good := by
  show ∀ w ∈ [Cond.lays "IndicatorDiagram$State" "IndicatorDiagram$State" "clearance" "I", Cond.lays "IndicatorDiagram$State" "IndicatorDiagram$State" "headPistonArea" "I", Cond.lays "IndicatorDiagram$State" "IndicatorDiagram$State" "crankPistonArea" "I", Cond.lays "IndicatorDiagram$State" "IndicatorDiagram$State" "strokeLength" "I", Cond.lays "IndicatorDiagram$State" "IndicatorDiagram$State" "boilerPressure" "I", Cond.lays "IndicatorDiagram$State" "IndicatorDiagram$State" "backPressure" "I", Cond.lays "IndicatorDiagram$State" "IndicatorDiagram$State" "band" "I", Cond.lays "IndicatorDiagram$State" "IndicatorDiagram$State" "tolerance" "I", Cond.laysFinal "IndicatorDiagram$State" "IndicatorDiagram$State" "headValves" "LIndicatorDiagram$Events;", Cond.laysFinal "IndicatorDiagram$State" "IndicatorDiagram$State" "crankValves" "LIndicatorDiagram$Events;", Cond.laysFinal "IndicatorDiagram$State" "IndicatorDiagram$State" "draft" "LIndicatorDiagram$Draft;", Cond.laysFinal "IndicatorDiagram$State" "IndicatorDiagram$State" "cards" "[LIndicatorDiagram$Card;", Cond.lays "IndicatorDiagram$State" "IndicatorDiagram$State" "count" "I"], w ∈ lw_good
  exact List.forall_mem_cons.mpr ⟨w_178, List.forall_mem_cons.mpr ⟨w_180, List.forall_mem_cons.mpr ⟨w_182, List.forall_mem_cons.mpr ⟨w_184, List.forall_mem_cons.mpr ⟨w_186, List.forall_mem_cons.mpr ⟨w_188, List.forall_mem_cons.mpr ⟨w_190, List.forall_mem_cons.mpr ⟨w_192, List.forall_mem_cons.mpr ⟨w_194, List.forall_mem_cons.mpr ⟨w_196, List.forall_mem_cons.mpr ⟨w_198, List.forall_mem_cons.mpr ⟨w_200, List.forall_mem_cons.mpr ⟨w_202, fun _ h => absurd h List.not_mem_nil⟩⟩⟩⟩⟩⟩⟩⟩⟩⟩⟩⟩⟩
theorem i_X4 : ∀ w ∈ u_ws RX4 TX4 7, w ∈ lw_good := by
  show ∀ w ∈ [Cond.laysFinal "IndicatorDiagram" "IndicatorDiagram" "now" "LIndicatorDiagram$State;", Cond.laysFinal "IndicatorDiagram" "IndicatorDiagram" "history" "[LIndicatorDiagram$State;", Cond.lays "IndicatorDiagram" "IndicatorDiagram" "states" "I", Cond.laysFinal "IndicatorDiagram" "IndicatorDiagram" "trial" "LIndicatorDiagram$Card;", Cond.laysFinal "IndicatorDiagram" "IndicatorDiagram" "trialEvents" "LIndicatorDiagram$Events;", Cond.laysFinal "IndicatorDiagram" "IndicatorDiagram" "found" "LIndicatorDiagram$Events;", Cond.laysFinal "IndicatorDiagram" "IndicatorDiagram" "sortedAreas" "[I"], w ∈ lw_good
  exact List.forall_mem_cons.mpr ⟨w_213, List.forall_mem_cons.mpr ⟨w_215, List.forall_mem_cons.mpr ⟨w_217, List.forall_mem_cons.mpr ⟨w_219, List.forall_mem_cons.mpr ⟨w_221, List.forall_mem_cons.mpr ⟨w_223, List.forall_mem_cons.mpr ⟨w_225, fun _ h => absurd h List.not_mem_nil⟩⟩⟩⟩⟩⟩⟩
theorem i_X5 : ∀ w ∈ u_ws RX5 TX5 2, w ∈ lw_good := by
  show ∀ w ∈ [Cond.laysFinal "IndicatorDiagramModel" "IndicatorDiagramModel" "row" "[I", Cond.lays "IndicatorDiagramModel" "IndicatorDiagramModel" "states" "I"], w ∈ lw_good
  exact List.forall_mem_cons.mpr ⟨w_640, List.forall_mem_cons.mpr ⟨w_642, fun _ h => absurd h List.not_mem_nil⟩⟩
