def lw_good : List Cond := lw_tbl.filter goodWord
theorem w_0 : Cond.selects RX4 yX4_recordState yX4_recordState ∈ lw_good := List.mem_filter.mpr ⟨List.mem_of_getElem? (i := 0) (by decide +kernel), by decide +kernel⟩
theorem w_1 : Cond.selects RX4 yX4_dropOldestState yX4_dropOldestState ∈ lw_good := List.mem_filter.mpr ⟨List.mem_of_getElem? (i := 1) (by decide +kernel), by decide +kernel⟩
theorem w_2 : Cond.selects RX4 yX4_addCard yX4_addCard ∈ lw_good := List.mem_filter.mpr ⟨List.mem_of_getElem? (i := 2) (by decide +kernel), by decide +kernel⟩
theorem w_3 : Cond.selects RX4 yX4_drawIdealCard yX4_drawIdealCard ∈ lw_good := List.mem_filter.mpr ⟨List.mem_of_getElem? (i := 3) (by decide +kernel), by decide +kernel⟩
theorem w_4 : Cond.selects RX4 yX4_drawIdealOutward yX4_drawIdealOutward ∈ lw_good := List.mem_filter.mpr ⟨List.mem_of_getElem? (i := 4) (by decide +kernel), by decide +kernel⟩
theorem w_5 : Cond.selects RX4 yX4_drawIdealReturn yX4_drawIdealReturn ∈ lw_good := List.mem_filter.mpr ⟨List.mem_of_getElem? (i := 5) (by decide +kernel), by decide +kernel⟩
theorem w_6 : Cond.selects RX4 yX4_isCard yX4_isCard ∈ lw_good := List.mem_filter.mpr ⟨List.mem_of_getElem? (i := 6) (by decide +kernel), by decide +kernel⟩
theorem w_7 : Cond.selects RX4 yX4_findEvents yX4_findEvents ∈ lw_good := List.mem_filter.mpr ⟨List.mem_of_getElem? (i := 7) (by decide +kernel), by decide +kernel⟩
theorem w_8 : Cond.selects RX4 yX4_findAdmission yX4_findAdmission ∈ lw_good := List.mem_filter.mpr ⟨List.mem_of_getElem? (i := 8) (by decide +kernel), by decide +kernel⟩
theorem w_9 : Cond.selects RX4 yX4_findCutOff yX4_findCutOff ∈ lw_good := List.mem_filter.mpr ⟨List.mem_of_getElem? (i := 9) (by decide +kernel), by decide +kernel⟩
theorem w_10 : Cond.selects RX4 yX4_findRelease yX4_findRelease ∈ lw_good := List.mem_filter.mpr ⟨List.mem_of_getElem? (i := 10) (by decide +kernel), by decide +kernel⟩
theorem w_11 : Cond.selects RX4 yX4_constantAt yX4_constantAt ∈ lw_good := List.mem_filter.mpr ⟨List.mem_of_getElem? (i := 11) (by decide +kernel), by decide +kernel⟩
theorem w_12 : Cond.selects RX4 yX4_findCompression yX4_findCompression ∈ lw_good := List.mem_filter.mpr ⟨List.mem_of_getElem? (i := 12) (by decide +kernel), by decide +kernel⟩
theorem w_13 : Cond.selects RX4 yX4_areaWithCutOff yX4_areaWithCutOff ∈ lw_good := List.mem_filter.mpr ⟨List.mem_of_getElem? (i := 13) (by decide +kernel), by decide +kernel⟩
theorem w_14 : Cond.selects RX4 yX4_countCards yX4_countCards ∈ lw_good := List.mem_filter.mpr ⟨List.mem_of_getElem? (i := 14) (by decide +kernel), by decide +kernel⟩
theorem w_15 : Cond.selects RX4 yX4_drawMeanPressures yX4_drawMeanPressures ∈ lw_good := List.mem_filter.mpr ⟨List.mem_of_getElem? (i := 15) (by decide +kernel), by decide +kernel⟩
theorem w_16 : Cond.selects RX4 yX4_meanOfPowers yX4_meanOfPowers ∈ lw_good := List.mem_filter.mpr ⟨List.mem_of_getElem? (i := 16) (by decide +kernel), by decide +kernel⟩
theorem w_17 : Cond.selects RX4 yX4_powerOfCard yX4_powerOfCard ∈ lw_good := List.mem_filter.mpr ⟨List.mem_of_getElem? (i := 17) (by decide +kernel), by decide +kernel⟩
theorem w_18 : Cond.selects RX4 yX4_powerFrom yX4_powerFrom ∈ lw_good := List.mem_filter.mpr ⟨List.mem_of_getElem? (i := 18) (by decide +kernel), by decide +kernel⟩
theorem w_19 : Cond.selects RX4 yX4_deviationFrom yX4_deviationFrom ∈ lw_good := List.mem_filter.mpr ⟨List.mem_of_getElem? (i := 19) (by decide +kernel), by decide +kernel⟩
theorem w_20 : Cond.selects RX4 yX4_foundLateness yX4_foundLateness ∈ lw_good := List.mem_filter.mpr ⟨List.mem_of_getElem? (i := 20) (by decide +kernel), by decide +kernel⟩
theorem w_21 : Cond.selects RX4 yX4_nearestCutOff yX4_nearestCutOff ∈ lw_good := List.mem_filter.mpr ⟨List.mem_of_getElem? (i := 21) (by decide +kernel), by decide +kernel⟩
theorem w_22 : Cond.selects RX4 yX4_medianArea yX4_medianArea ∈ lw_good := List.mem_filter.mpr ⟨List.mem_of_getElem? (i := 22) (by decide +kernel), by decide +kernel⟩
theorem w_23 : Cond.selects RX4 yX4_insertSorted yX4_insertSorted ∈ lw_good := List.mem_filter.mpr ⟨List.mem_of_getElem? (i := 23) (by decide +kernel), by decide +kernel⟩
theorem w_24 : Cond.initialized "IndicatorDiagramLaw" ∈ lw_good := List.mem_filter.mpr ⟨List.mem_of_getElem? (i := 24) (by decide +kernel), by decide +kernel⟩
theorem w_25 : Cond.initialized "IndicatorDiagram" ∈ lw_good := List.mem_filter.mpr ⟨List.mem_of_getElem? (i := 25) (by decide +kernel), by decide +kernel⟩
theorem w_26 : Cond.initialized "IndicatorDiagram$Card" ∈ lw_good := List.mem_filter.mpr ⟨List.mem_of_getElem? (i := 26) (by decide +kernel), by decide +kernel⟩
theorem w_27 : Cond.initialized "IndicatorDiagram$Events" ∈ lw_good := List.mem_filter.mpr ⟨List.mem_of_getElem? (i := 27) (by decide +kernel), by decide +kernel⟩
theorem w_28 : Cond.initialized "IndicatorDiagram$State" ∈ lw_good := List.mem_filter.mpr ⟨List.mem_of_getElem? (i := 28) (by decide +kernel), by decide +kernel⟩
theorem w_29 : Cond.initialized "IndicatorDiagram$Draft" ∈ lw_good := List.mem_filter.mpr ⟨List.mem_of_getElem? (i := 29) (by decide +kernel), by decide +kernel⟩
theorem w_30 : Cond.initialized "java/lang/System" ∈ lw_good := List.mem_filter.mpr ⟨List.mem_of_getElem? (i := 30) (by decide +kernel), by decide +kernel⟩
theorem w_31 : Cond.initialized "java/lang/Math" ∈ lw_good := List.mem_filter.mpr ⟨List.mem_of_getElem? (i := 31) (by decide +kernel), by decide +kernel⟩
theorem w_32 : Cond.classLink "IndicatorDiagramLaw" 11 "IndicatorDiagram" ∈ lw_good := List.mem_filter.mpr ⟨List.mem_of_getElem? (i := 32) (by decide +kernel), by decide +kernel⟩
theorem w_33 : Cond.instantiable "IndicatorDiagram" 7 ∈ lw_good := List.mem_filter.mpr ⟨List.mem_of_getElem? (i := 33) (by decide +kernel), by decide +kernel⟩
theorem w_34 : Cond.methodLink "IndicatorDiagramLaw" 145 yX4_init ∈ lw_good := List.mem_filter.mpr ⟨List.mem_of_getElem? (i := 34) (by decide +kernel), by decide +kernel⟩
theorem w_35 : Cond.instanceMethod yX4_init ∈ lw_good := List.mem_filter.mpr ⟨List.mem_of_getElem? (i := 35) (by decide +kernel), by decide +kernel⟩
theorem w_36 : Cond.code yX4_init cX4_init 2 none ∈ lw_good := List.mem_filter.mpr ⟨List.mem_of_getElem? (i := 36) (by decide +kernel), by decide +kernel⟩
theorem w_37 : Cond.methodLink "IndicatorDiagram" 1 objectInit ∈ lw_good := List.mem_filter.mpr ⟨List.mem_of_getElem? (i := 37) (by decide +kernel), by decide +kernel⟩
theorem w_38 : Cond.instanceMethod objectInit ∈ lw_good := List.mem_filter.mpr ⟨List.mem_of_getElem? (i := 38) (by decide +kernel), by decide +kernel⟩
theorem w_39 : Cond.code objectInit object_method_1_code 1 none ∈ lw_good := List.mem_filter.mpr ⟨List.mem_of_getElem? (i := 39) (by decide +kernel), by decide +kernel⟩
theorem w_40 : Cond.classLink "IndicatorDiagram" 7 "IndicatorDiagram$Card" ∈ lw_good := List.mem_filter.mpr ⟨List.mem_of_getElem? (i := 40) (by decide +kernel), by decide +kernel⟩
theorem w_41 : Cond.instantiable "IndicatorDiagram$Card" 4 ∈ lw_good := List.mem_filter.mpr ⟨List.mem_of_getElem? (i := 41) (by decide +kernel), by decide +kernel⟩
theorem w_42 : Cond.methodLink "IndicatorDiagram" 9 yX0_init ∈ lw_good := List.mem_filter.mpr ⟨List.mem_of_getElem? (i := 42) (by decide +kernel), by decide +kernel⟩
theorem w_43 : Cond.instanceMethod yX0_init ∈ lw_good := List.mem_filter.mpr ⟨List.mem_of_getElem? (i := 43) (by decide +kernel), by decide +kernel⟩
theorem w_44 : Cond.code yX0_init cX0_init 1 none ∈ lw_good := List.mem_filter.mpr ⟨List.mem_of_getElem? (i := 44) (by decide +kernel), by decide +kernel⟩
theorem w_45 : Cond.methodLink "IndicatorDiagram$Card" 3 objectInit ∈ lw_good := List.mem_filter.mpr ⟨List.mem_of_getElem? (i := 45) (by decide +kernel), by decide +kernel⟩
theorem w_46 : Cond.fieldLink "IndicatorDiagram" 158 "IndicatorDiagram$Card" "end" "I" ∈ lw_good := List.mem_filter.mpr ⟨List.mem_of_getElem? (i := 46) (by decide +kernel), by decide +kernel⟩
theorem w_47 : Cond.fieldLink "IndicatorDiagram" 162 "IndicatorDiagram$Card" "speed" "I" ∈ lw_good := List.mem_filter.mpr ⟨List.mem_of_getElem? (i := 47) (by decide +kernel), by decide +kernel⟩
theorem w_48 : Cond.fieldLink "IndicatorDiagram$Card" 9 "IndicatorDiagram$Card" "outward" "[I" ∈ lw_good := List.mem_filter.mpr ⟨List.mem_of_getElem? (i := 48) (by decide +kernel), by decide +kernel⟩
theorem w_49 : Cond.fieldLink "IndicatorDiagram" 163 "IndicatorDiagram$Card" "outward" "[I" ∈ lw_good := List.mem_filter.mpr ⟨List.mem_of_getElem? (i := 49) (by decide +kernel), by decide +kernel⟩
theorem w_50 : Cond.fieldLink "IndicatorDiagram$Card" 15 "IndicatorDiagram$Card" "inward" "[I" ∈ lw_good := List.mem_filter.mpr ⟨List.mem_of_getElem? (i := 50) (by decide +kernel), by decide +kernel⟩
theorem w_51 : Cond.fieldLink "IndicatorDiagram" 168 "IndicatorDiagram$Card" "inward" "[I" ∈ lw_good := List.mem_filter.mpr ⟨List.mem_of_getElem? (i := 51) (by decide +kernel), by decide +kernel⟩
theorem w_52 : Cond.lays "IndicatorDiagram$Card" "IndicatorDiagram$Card" "end" "I" ∈ lw_good := List.mem_filter.mpr ⟨List.mem_of_getElem? (i := 52) (by decide +kernel), by decide +kernel⟩
theorem w_54 : Cond.lays "IndicatorDiagram$Card" "IndicatorDiagram$Card" "speed" "I" ∈ lw_good := List.mem_filter.mpr ⟨List.mem_of_getElem? (i := 54) (by decide +kernel), by decide +kernel⟩
theorem w_56 : Cond.laysFinal "IndicatorDiagram$Card" "IndicatorDiagram$Card" "outward" "[I" ∈ lw_good := List.mem_filter.mpr ⟨List.mem_of_getElem? (i := 56) (by decide +kernel), by decide +kernel⟩
theorem w_58 : Cond.laysFinal "IndicatorDiagram$Card" "IndicatorDiagram$Card" "inward" "[I" ∈ lw_good := List.mem_filter.mpr ⟨List.mem_of_getElem? (i := 58) (by decide +kernel), by decide +kernel⟩
theorem w_61 : Cond.arrayClass FieldType.int ∈ lw_good := List.mem_filter.mpr ⟨List.mem_of_getElem? (i := 61) (by decide +kernel), by decide +kernel⟩
theorem w_62 : Cond.classLink "IndicatorDiagram" 16 "IndicatorDiagram$Events" ∈ lw_good := List.mem_filter.mpr ⟨List.mem_of_getElem? (i := 62) (by decide +kernel), by decide +kernel⟩
theorem w_63 : Cond.instantiable "IndicatorDiagram$Events" 4 ∈ lw_good := List.mem_filter.mpr ⟨List.mem_of_getElem? (i := 63) (by decide +kernel), by decide +kernel⟩
theorem w_64 : Cond.methodLink "IndicatorDiagram" 18 yX2_init ∈ lw_good := List.mem_filter.mpr ⟨List.mem_of_getElem? (i := 64) (by decide +kernel), by decide +kernel⟩
theorem w_65 : Cond.instanceMethod yX2_init ∈ lw_good := List.mem_filter.mpr ⟨List.mem_of_getElem? (i := 65) (by decide +kernel), by decide +kernel⟩
theorem w_66 : Cond.code yX2_init cX2_init 1 none ∈ lw_good := List.mem_filter.mpr ⟨List.mem_of_getElem? (i := 66) (by decide +kernel), by decide +kernel⟩
theorem w_67 : Cond.methodLink "IndicatorDiagram$Events" 3 objectInit ∈ lw_good := List.mem_filter.mpr ⟨List.mem_of_getElem? (i := 67) (by decide +kernel), by decide +kernel⟩
theorem w_68 : Cond.fieldLink "IndicatorDiagram$Events" 9 "IndicatorDiagram$Events" "admission" "I" ∈ lw_good := List.mem_filter.mpr ⟨List.mem_of_getElem? (i := 68) (by decide +kernel), by decide +kernel⟩
theorem w_69 : Cond.fieldLink "IndicatorDiagram" 95 "IndicatorDiagram$Events" "admission" "I" ∈ lw_good := List.mem_filter.mpr ⟨List.mem_of_getElem? (i := 69) (by decide +kernel), by decide +kernel⟩
theorem w_70 : Cond.fieldLink "IndicatorDiagram$Events" 15 "IndicatorDiagram$Events" "cutOff" "I" ∈ lw_good := List.mem_filter.mpr ⟨List.mem_of_getElem? (i := 70) (by decide +kernel), by decide +kernel⟩
theorem w_71 : Cond.fieldLink "IndicatorDiagram" 98 "IndicatorDiagram$Events" "cutOff" "I" ∈ lw_good := List.mem_filter.mpr ⟨List.mem_of_getElem? (i := 71) (by decide +kernel), by decide +kernel⟩
theorem w_72 : Cond.fieldLink "IndicatorDiagram$Events" 18 "IndicatorDiagram$Events" "release" "I" ∈ lw_good := List.mem_filter.mpr ⟨List.mem_of_getElem? (i := 72) (by decide +kernel), by decide +kernel⟩
theorem w_73 : Cond.fieldLink "IndicatorDiagram" 101 "IndicatorDiagram$Events" "release" "I" ∈ lw_good := List.mem_filter.mpr ⟨List.mem_of_getElem? (i := 73) (by decide +kernel), by decide +kernel⟩
theorem w_74 : Cond.fieldLink "IndicatorDiagram$Events" 21 "IndicatorDiagram$Events" "compression" "I" ∈ lw_good := List.mem_filter.mpr ⟨List.mem_of_getElem? (i := 74) (by decide +kernel), by decide +kernel⟩
theorem w_75 : Cond.fieldLink "IndicatorDiagram" 104 "IndicatorDiagram$Events" "compression" "I" ∈ lw_good := List.mem_filter.mpr ⟨List.mem_of_getElem? (i := 75) (by decide +kernel), by decide +kernel⟩
theorem w_76 : Cond.lays "IndicatorDiagram$Events" "IndicatorDiagram$Events" "admission" "I" ∈ lw_good := List.mem_filter.mpr ⟨List.mem_of_getElem? (i := 76) (by decide +kernel), by decide +kernel⟩
theorem w_78 : Cond.lays "IndicatorDiagram$Events" "IndicatorDiagram$Events" "cutOff" "I" ∈ lw_good := List.mem_filter.mpr ⟨List.mem_of_getElem? (i := 78) (by decide +kernel), by decide +kernel⟩
theorem w_80 : Cond.lays "IndicatorDiagram$Events" "IndicatorDiagram$Events" "release" "I" ∈ lw_good := List.mem_filter.mpr ⟨List.mem_of_getElem? (i := 80) (by decide +kernel), by decide +kernel⟩
theorem w_82 : Cond.lays "IndicatorDiagram$Events" "IndicatorDiagram$Events" "compression" "I" ∈ lw_good := List.mem_filter.mpr ⟨List.mem_of_getElem? (i := 82) (by decide +kernel), by decide +kernel⟩
theorem w_85 : Cond.classLink "IndicatorDiagram" 30 "IndicatorDiagram$State" ∈ lw_good := List.mem_filter.mpr ⟨List.mem_of_getElem? (i := 85) (by decide +kernel), by decide +kernel⟩
theorem w_86 : Cond.instantiable "IndicatorDiagram$State" 13 ∈ lw_good := List.mem_filter.mpr ⟨List.mem_of_getElem? (i := 86) (by decide +kernel), by decide +kernel⟩
theorem w_87 : Cond.methodLink "IndicatorDiagram" 32 yX3_init ∈ lw_good := List.mem_filter.mpr ⟨List.mem_of_getElem? (i := 87) (by decide +kernel), by decide +kernel⟩
theorem w_88 : Cond.instanceMethod yX3_init ∈ lw_good := List.mem_filter.mpr ⟨List.mem_of_getElem? (i := 88) (by decide +kernel), by decide +kernel⟩
theorem w_89 : Cond.code yX3_init cX3_init 3 none ∈ lw_good := List.mem_filter.mpr ⟨List.mem_of_getElem? (i := 89) (by decide +kernel), by decide +kernel⟩
theorem w_90 : Cond.methodLink "IndicatorDiagram$State" 3 objectInit ∈ lw_good := List.mem_filter.mpr ⟨List.mem_of_getElem? (i := 90) (by decide +kernel), by decide +kernel⟩
theorem w_91 : Cond.classLink "IndicatorDiagram$State" 36 "IndicatorDiagram$Events" ∈ lw_good := List.mem_filter.mpr ⟨List.mem_of_getElem? (i := 91) (by decide +kernel), by decide +kernel⟩
theorem w_92 : Cond.methodLink "IndicatorDiagram$State" 38 yX2_init ∈ lw_good := List.mem_filter.mpr ⟨List.mem_of_getElem? (i := 92) (by decide +kernel), by decide +kernel⟩
theorem w_93 : Cond.classLink "IndicatorDiagram$State" 46 "IndicatorDiagram$Draft" ∈ lw_good := List.mem_filter.mpr ⟨List.mem_of_getElem? (i := 93) (by decide +kernel), by decide +kernel⟩
theorem w_94 : Cond.instantiable "IndicatorDiagram$Draft" 5 ∈ lw_good := List.mem_filter.mpr ⟨List.mem_of_getElem? (i := 94) (by decide +kernel), by decide +kernel⟩
theorem w_95 : Cond.methodLink "IndicatorDiagram$State" 48 yX1_init ∈ lw_good := List.mem_filter.mpr ⟨List.mem_of_getElem? (i := 95) (by decide +kernel), by decide +kernel⟩
theorem w_96 : Cond.instanceMethod yX1_init ∈ lw_good := List.mem_filter.mpr ⟨List.mem_of_getElem? (i := 96) (by decide +kernel), by decide +kernel⟩
theorem w_97 : Cond.code yX1_init cX1_init 1 none ∈ lw_good := List.mem_filter.mpr ⟨List.mem_of_getElem? (i := 97) (by decide +kernel), by decide +kernel⟩
theorem w_98 : Cond.methodLink "IndicatorDiagram$Draft" 3 objectInit ∈ lw_good := List.mem_filter.mpr ⟨List.mem_of_getElem? (i := 98) (by decide +kernel), by decide +kernel⟩
theorem w_99 : Cond.fieldLink "IndicatorDiagram$Draft" 18 "IndicatorDiagram$Draft" "present" "Z" ∈ lw_good := List.mem_filter.mpr ⟨List.mem_of_getElem? (i := 99) (by decide +kernel), by decide +kernel⟩
theorem w_100 : Cond.fieldLink "IndicatorDiagram" 120 "IndicatorDiagram$Draft" "present" "Z" ∈ lw_good := List.mem_filter.mpr ⟨List.mem_of_getElem? (i := 100) (by decide +kernel), by decide +kernel⟩
theorem w_101 : Cond.fieldLink "IndicatorDiagram$Draft" 22 "IndicatorDiagram$Draft" "end" "I" ∈ lw_good := List.mem_filter.mpr ⟨List.mem_of_getElem? (i := 101) (by decide +kernel), by decide +kernel⟩
theorem w_102 : Cond.fieldLink "IndicatorDiagram" 155 "IndicatorDiagram$Draft" "end" "I" ∈ lw_good := List.mem_filter.mpr ⟨List.mem_of_getElem? (i := 102) (by decide +kernel), by decide +kernel⟩
theorem w_103 : Cond.fieldLink "IndicatorDiagram$Draft" 26 "IndicatorDiagram$Draft" "speed" "I" ∈ lw_good := List.mem_filter.mpr ⟨List.mem_of_getElem? (i := 103) (by decide +kernel), by decide +kernel⟩
theorem w_104 : Cond.fieldLink "IndicatorDiagram" 159 "IndicatorDiagram$Draft" "speed" "I" ∈ lw_good := List.mem_filter.mpr ⟨List.mem_of_getElem? (i := 104) (by decide +kernel), by decide +kernel⟩
theorem w_105 : Cond.fieldLink "IndicatorDiagram$Draft" 9 "IndicatorDiagram$Draft" "outward" "[I" ∈ lw_good := List.mem_filter.mpr ⟨List.mem_of_getElem? (i := 105) (by decide +kernel), by decide +kernel⟩
theorem w_106 : Cond.fieldLink "IndicatorDiagram" 145 "IndicatorDiagram$Draft" "outward" "[I" ∈ lw_good := List.mem_filter.mpr ⟨List.mem_of_getElem? (i := 106) (by decide +kernel), by decide +kernel⟩
theorem w_107 : Cond.fieldLink "IndicatorDiagram$Draft" 15 "IndicatorDiagram$Draft" "inward" "[I" ∈ lw_good := List.mem_filter.mpr ⟨List.mem_of_getElem? (i := 107) (by decide +kernel), by decide +kernel⟩
theorem w_108 : Cond.fieldLink "IndicatorDiagram" 148 "IndicatorDiagram$Draft" "inward" "[I" ∈ lw_good := List.mem_filter.mpr ⟨List.mem_of_getElem? (i := 108) (by decide +kernel), by decide +kernel⟩
theorem w_109 : Cond.lays "IndicatorDiagram$Draft" "IndicatorDiagram$Draft" "present" "Z" ∈ lw_good := List.mem_filter.mpr ⟨List.mem_of_getElem? (i := 109) (by decide +kernel), by decide +kernel⟩
theorem w_111 : Cond.lays "IndicatorDiagram$Draft" "IndicatorDiagram$Draft" "end" "I" ∈ lw_good := List.mem_filter.mpr ⟨List.mem_of_getElem? (i := 111) (by decide +kernel), by decide +kernel⟩
theorem w_113 : Cond.lays "IndicatorDiagram$Draft" "IndicatorDiagram$Draft" "speed" "I" ∈ lw_good := List.mem_filter.mpr ⟨List.mem_of_getElem? (i := 113) (by decide +kernel), by decide +kernel⟩
theorem w_115 : Cond.laysFinal "IndicatorDiagram$Draft" "IndicatorDiagram$Draft" "outward" "[I" ∈ lw_good := List.mem_filter.mpr ⟨List.mem_of_getElem? (i := 115) (by decide +kernel), by decide +kernel⟩
theorem w_117 : Cond.laysFinal "IndicatorDiagram$Draft" "IndicatorDiagram$Draft" "inward" "[I" ∈ lw_good := List.mem_filter.mpr ⟨List.mem_of_getElem? (i := 117) (by decide +kernel), by decide +kernel⟩
theorem w_120 : Cond.classLink "IndicatorDiagram$State" 53 "IndicatorDiagram$Card" ∈ lw_good := List.mem_filter.mpr ⟨List.mem_of_getElem? (i := 120) (by decide +kernel), by decide +kernel⟩
theorem w_121 : Cond.arrayOver (FieldType.object "IndicatorDiagram$Card") ∈ lw_tbl := List.mem_of_getElem? (i := 121) (by decide +kernel)
theorem w_122 : Cond.fieldLink "IndicatorDiagram$State" 9 "IndicatorDiagram$State" "clearance" "I" ∈ lw_good := List.mem_filter.mpr ⟨List.mem_of_getElem? (i := 122) (by decide +kernel), by decide +kernel⟩
theorem w_123 : Cond.fieldLink "IndicatorDiagram" 55 "IndicatorDiagram$State" "clearance" "I" ∈ lw_good := List.mem_filter.mpr ⟨List.mem_of_getElem? (i := 123) (by decide +kernel), by decide +kernel⟩
theorem w_124 : Cond.fieldLink "IndicatorDiagram$State" 15 "IndicatorDiagram$State" "headPistonArea" "I" ∈ lw_good := List.mem_filter.mpr ⟨List.mem_of_getElem? (i := 124) (by decide +kernel), by decide +kernel⟩
theorem w_125 : Cond.fieldLink "IndicatorDiagram" 66 "IndicatorDiagram$State" "headPistonArea" "I" ∈ lw_good := List.mem_filter.mpr ⟨List.mem_of_getElem? (i := 125) (by decide +kernel), by decide +kernel⟩
theorem w_126 : Cond.fieldLink "IndicatorDiagram$State" 18 "IndicatorDiagram$State" "crankPistonArea" "I" ∈ lw_good := List.mem_filter.mpr ⟨List.mem_of_getElem? (i := 126) (by decide +kernel), by decide +kernel⟩
theorem w_127 : Cond.fieldLink "IndicatorDiagram" 69 "IndicatorDiagram$State" "crankPistonArea" "I" ∈ lw_good := List.mem_filter.mpr ⟨List.mem_of_getElem? (i := 127) (by decide +kernel), by decide +kernel⟩
theorem w_128 : Cond.fieldLink "IndicatorDiagram$State" 21 "IndicatorDiagram$State" "strokeLength" "I" ∈ lw_good := List.mem_filter.mpr ⟨List.mem_of_getElem? (i := 128) (by decide +kernel), by decide +kernel⟩
theorem w_129 : Cond.fieldLink "IndicatorDiagram" 72 "IndicatorDiagram$State" "strokeLength" "I" ∈ lw_good := List.mem_filter.mpr ⟨List.mem_of_getElem? (i := 129) (by decide +kernel), by decide +kernel⟩
theorem w_130 : Cond.fieldLink "IndicatorDiagram$State" 24 "IndicatorDiagram$State" "boilerPressure" "I" ∈ lw_good := List.mem_filter.mpr ⟨List.mem_of_getElem? (i := 130) (by decide +kernel), by decide +kernel⟩
theorem w_131 : Cond.fieldLink "IndicatorDiagram" 75 "IndicatorDiagram$State" "boilerPressure" "I" ∈ lw_good := List.mem_filter.mpr ⟨List.mem_of_getElem? (i := 131) (by decide +kernel), by decide +kernel⟩
theorem w_132 : Cond.fieldLink "IndicatorDiagram$State" 27 "IndicatorDiagram$State" "backPressure" "I" ∈ lw_good := List.mem_filter.mpr ⟨List.mem_of_getElem? (i := 132) (by decide +kernel), by decide +kernel⟩
theorem w_133 : Cond.fieldLink "IndicatorDiagram" 78 "IndicatorDiagram$State" "backPressure" "I" ∈ lw_good := List.mem_filter.mpr ⟨List.mem_of_getElem? (i := 133) (by decide +kernel), by decide +kernel⟩
theorem w_134 : Cond.fieldLink "IndicatorDiagram$State" 30 "IndicatorDiagram$State" "band" "I" ∈ lw_good := List.mem_filter.mpr ⟨List.mem_of_getElem? (i := 134) (by decide +kernel), by decide +kernel⟩
theorem w_135 : Cond.fieldLink "IndicatorDiagram" 81 "IndicatorDiagram$State" "band" "I" ∈ lw_good := List.mem_filter.mpr ⟨List.mem_of_getElem? (i := 135) (by decide +kernel), by decide +kernel⟩
theorem w_136 : Cond.fieldLink "IndicatorDiagram$State" 33 "IndicatorDiagram$State" "tolerance" "I" ∈ lw_good := List.mem_filter.mpr ⟨List.mem_of_getElem? (i := 136) (by decide +kernel), by decide +kernel⟩
theorem w_137 : Cond.fieldLink "IndicatorDiagram" 84 "IndicatorDiagram$State" "tolerance" "I" ∈ lw_good := List.mem_filter.mpr ⟨List.mem_of_getElem? (i := 137) (by decide +kernel), by decide +kernel⟩
theorem w_138 : Cond.fieldLink "IndicatorDiagram$State" 39 "IndicatorDiagram$State" "headValves" "LIndicatorDiagram$Events;" ∈ lw_good := List.mem_filter.mpr ⟨List.mem_of_getElem? (i := 138) (by decide +kernel), by decide +kernel⟩
theorem w_139 : Cond.fieldLink "IndicatorDiagram" 277 "IndicatorDiagram$State" "headValves" "LIndicatorDiagram$Events;" ∈ lw_good := List.mem_filter.mpr ⟨List.mem_of_getElem? (i := 139) (by decide +kernel), by decide +kernel⟩
theorem w_140 : Cond.fieldLink "IndicatorDiagram$State" 43 "IndicatorDiagram$State" "crankValves" "LIndicatorDiagram$Events;" ∈ lw_good := List.mem_filter.mpr ⟨List.mem_of_getElem? (i := 140) (by decide +kernel), by decide +kernel⟩
theorem w_141 : Cond.fieldLink "IndicatorDiagram$State" 49 "IndicatorDiagram$State" "draft" "LIndicatorDiagram$Draft;" ∈ lw_good := List.mem_filter.mpr ⟨List.mem_of_getElem? (i := 141) (by decide +kernel), by decide +kernel⟩
theorem w_142 : Cond.fieldLink "IndicatorDiagram" 116 "IndicatorDiagram$State" "draft" "LIndicatorDiagram$Draft;" ∈ lw_good := List.mem_filter.mpr ⟨List.mem_of_getElem? (i := 142) (by decide +kernel), by decide +kernel⟩
theorem w_143 : Cond.fieldLink "IndicatorDiagram$State" 55 "IndicatorDiagram$State" "cards" "[LIndicatorDiagram$Card;" ∈ lw_good := List.mem_filter.mpr ⟨List.mem_of_getElem? (i := 143) (by decide +kernel), by decide +kernel⟩
theorem w_144 : Cond.fieldLink "IndicatorDiagram" 192 "IndicatorDiagram$State" "cards" "[LIndicatorDiagram$Card;" ∈ lw_good := List.mem_filter.mpr ⟨List.mem_of_getElem? (i := 144) (by decide +kernel), by decide +kernel⟩
theorem w_145 : Cond.fieldLink "IndicatorDiagram$State" 59 "IndicatorDiagram$State" "count" "I" ∈ lw_good := List.mem_filter.mpr ⟨List.mem_of_getElem? (i := 145) (by decide +kernel), by decide +kernel⟩
theorem w_146 : Cond.fieldLink "IndicatorDiagram" 151 "IndicatorDiagram$State" "count" "I" ∈ lw_good := List.mem_filter.mpr ⟨List.mem_of_getElem? (i := 146) (by decide +kernel), by decide +kernel⟩
theorem w_147 : Cond.lays "IndicatorDiagram$State" "IndicatorDiagram$State" "clearance" "I" ∈ lw_good := List.mem_filter.mpr ⟨List.mem_of_getElem? (i := 147) (by decide +kernel), by decide +kernel⟩
theorem w_149 : Cond.lays "IndicatorDiagram$State" "IndicatorDiagram$State" "headPistonArea" "I" ∈ lw_good := List.mem_filter.mpr ⟨List.mem_of_getElem? (i := 149) (by decide +kernel), by decide +kernel⟩
theorem w_151 : Cond.lays "IndicatorDiagram$State" "IndicatorDiagram$State" "crankPistonArea" "I" ∈ lw_good := List.mem_filter.mpr ⟨List.mem_of_getElem? (i := 151) (by decide +kernel), by decide +kernel⟩
theorem w_153 : Cond.lays "IndicatorDiagram$State" "IndicatorDiagram$State" "strokeLength" "I" ∈ lw_good := List.mem_filter.mpr ⟨List.mem_of_getElem? (i := 153) (by decide +kernel), by decide +kernel⟩
theorem w_155 : Cond.lays "IndicatorDiagram$State" "IndicatorDiagram$State" "boilerPressure" "I" ∈ lw_good := List.mem_filter.mpr ⟨List.mem_of_getElem? (i := 155) (by decide +kernel), by decide +kernel⟩
theorem w_157 : Cond.lays "IndicatorDiagram$State" "IndicatorDiagram$State" "backPressure" "I" ∈ lw_good := List.mem_filter.mpr ⟨List.mem_of_getElem? (i := 157) (by decide +kernel), by decide +kernel⟩
theorem w_159 : Cond.lays "IndicatorDiagram$State" "IndicatorDiagram$State" "band" "I" ∈ lw_good := List.mem_filter.mpr ⟨List.mem_of_getElem? (i := 159) (by decide +kernel), by decide +kernel⟩
theorem w_161 : Cond.lays "IndicatorDiagram$State" "IndicatorDiagram$State" "tolerance" "I" ∈ lw_good := List.mem_filter.mpr ⟨List.mem_of_getElem? (i := 161) (by decide +kernel), by decide +kernel⟩
theorem w_163 : Cond.laysFinal "IndicatorDiagram$State" "IndicatorDiagram$State" "headValves" "LIndicatorDiagram$Events;" ∈ lw_good := List.mem_filter.mpr ⟨List.mem_of_getElem? (i := 163) (by decide +kernel), by decide +kernel⟩
theorem w_165 : Cond.laysFinal "IndicatorDiagram$State" "IndicatorDiagram$State" "crankValves" "LIndicatorDiagram$Events;" ∈ lw_good := List.mem_filter.mpr ⟨List.mem_of_getElem? (i := 165) (by decide +kernel), by decide +kernel⟩
theorem w_167 : Cond.laysFinal "IndicatorDiagram$State" "IndicatorDiagram$State" "draft" "LIndicatorDiagram$Draft;" ∈ lw_good := List.mem_filter.mpr ⟨List.mem_of_getElem? (i := 167) (by decide +kernel), by decide +kernel⟩
theorem w_169 : Cond.laysFinal "IndicatorDiagram$State" "IndicatorDiagram$State" "cards" "[LIndicatorDiagram$Card;" ∈ lw_good := List.mem_filter.mpr ⟨List.mem_of_getElem? (i := 169) (by decide +kernel), by decide +kernel⟩
theorem w_171 : Cond.lays "IndicatorDiagram$State" "IndicatorDiagram$State" "count" "I" ∈ lw_good := List.mem_filter.mpr ⟨List.mem_of_getElem? (i := 171) (by decide +kernel), by decide +kernel⟩
theorem w_174 : Cond.arrayOver (FieldType.object "IndicatorDiagram$State") ∈ lw_tbl := List.mem_of_getElem? (i := 174) (by decide +kernel)
theorem w_175 : Cond.fieldLink "IndicatorDiagram" 35 "IndicatorDiagram" "now" "LIndicatorDiagram$State;" ∈ lw_good := List.mem_filter.mpr ⟨List.mem_of_getElem? (i := 175) (by decide +kernel), by decide +kernel⟩
theorem w_176 : Cond.fieldLink "IndicatorDiagram" 39 "IndicatorDiagram" "history" "[LIndicatorDiagram$State;" ∈ lw_good := List.mem_filter.mpr ⟨List.mem_of_getElem? (i := 176) (by decide +kernel), by decide +kernel⟩
theorem w_177 : Cond.fieldLink "IndicatorDiagram" 43 "IndicatorDiagram" "states" "I" ∈ lw_good := List.mem_filter.mpr ⟨List.mem_of_getElem? (i := 177) (by decide +kernel), by decide +kernel⟩
theorem w_178 : Cond.fieldLink "IndicatorDiagram" 10 "IndicatorDiagram" "trial" "LIndicatorDiagram$Card;" ∈ lw_good := List.mem_filter.mpr ⟨List.mem_of_getElem? (i := 178) (by decide +kernel), by decide +kernel⟩
theorem w_179 : Cond.fieldLink "IndicatorDiagram" 19 "IndicatorDiagram" "trialEvents" "LIndicatorDiagram$Events;" ∈ lw_good := List.mem_filter.mpr ⟨List.mem_of_getElem? (i := 179) (by decide +kernel), by decide +kernel⟩
theorem w_180 : Cond.fieldLink "IndicatorDiagram" 23 "IndicatorDiagram" "found" "LIndicatorDiagram$Events;" ∈ lw_good := List.mem_filter.mpr ⟨List.mem_of_getElem? (i := 180) (by decide +kernel), by decide +kernel⟩
theorem w_181 : Cond.fieldLink "IndicatorDiagram" 26 "IndicatorDiagram" "sortedAreas" "[I" ∈ lw_good := List.mem_filter.mpr ⟨List.mem_of_getElem? (i := 181) (by decide +kernel), by decide +kernel⟩
theorem w_182 : Cond.laysFinal "IndicatorDiagram" "IndicatorDiagram" "now" "LIndicatorDiagram$State;" ∈ lw_good := List.mem_filter.mpr ⟨List.mem_of_getElem? (i := 182) (by decide +kernel), by decide +kernel⟩
theorem w_184 : Cond.laysFinal "IndicatorDiagram" "IndicatorDiagram" "history" "[LIndicatorDiagram$State;" ∈ lw_good := List.mem_filter.mpr ⟨List.mem_of_getElem? (i := 184) (by decide +kernel), by decide +kernel⟩
theorem w_186 : Cond.lays "IndicatorDiagram" "IndicatorDiagram" "states" "I" ∈ lw_good := List.mem_filter.mpr ⟨List.mem_of_getElem? (i := 186) (by decide +kernel), by decide +kernel⟩
theorem w_188 : Cond.laysFinal "IndicatorDiagram" "IndicatorDiagram" "trial" "LIndicatorDiagram$Card;" ∈ lw_good := List.mem_filter.mpr ⟨List.mem_of_getElem? (i := 188) (by decide +kernel), by decide +kernel⟩
theorem w_190 : Cond.laysFinal "IndicatorDiagram" "IndicatorDiagram" "trialEvents" "LIndicatorDiagram$Events;" ∈ lw_good := List.mem_filter.mpr ⟨List.mem_of_getElem? (i := 190) (by decide +kernel), by decide +kernel⟩
theorem w_192 : Cond.laysFinal "IndicatorDiagram" "IndicatorDiagram" "found" "LIndicatorDiagram$Events;" ∈ lw_good := List.mem_filter.mpr ⟨List.mem_of_getElem? (i := 192) (by decide +kernel), by decide +kernel⟩
theorem w_194 : Cond.laysFinal "IndicatorDiagram" "IndicatorDiagram" "sortedAreas" "[I" ∈ lw_good := List.mem_filter.mpr ⟨List.mem_of_getElem? (i := 194) (by decide +kernel), by decide +kernel⟩
theorem w_197 : Cond.methodLink "IndicatorDiagramLaw" 96 yX4_setClearance ∈ lw_good := List.mem_filter.mpr ⟨List.mem_of_getElem? (i := 197) (by decide +kernel), by decide +kernel⟩
theorem w_198 : Cond.instanceMethod yX4_setClearance ∈ lw_good := List.mem_filter.mpr ⟨List.mem_of_getElem? (i := 198) (by decide +kernel), by decide +kernel⟩
theorem w_199 : Cond.selects "IndicatorDiagram" yX4_setClearance yX4_setClearance ∈ lw_good := List.mem_filter.mpr ⟨List.mem_of_getElem? (i := 199) (by decide +kernel), by decide +kernel⟩
theorem w_200 : Cond.code yX4_setClearance cX4_setClearance 3 (some FieldType.int) ∈ lw_good := List.mem_filter.mpr ⟨List.mem_of_getElem? (i := 200) (by decide +kernel), by decide +kernel⟩
theorem w_201 : Cond.methodLink "IndicatorDiagram" 47 yX4_isWithin ∈ lw_good := List.mem_filter.mpr ⟨List.mem_of_getElem? (i := 201) (by decide +kernel), by decide +kernel⟩
theorem w_202 : Cond.static yX4_isWithin ∈ lw_good := List.mem_filter.mpr ⟨List.mem_of_getElem? (i := 202) (by decide +kernel), by decide +kernel⟩
theorem w_203 : Cond.code yX4_isWithin cX4_isWithin 3 (some FieldType.boolean) ∈ lw_good := List.mem_filter.mpr ⟨List.mem_of_getElem? (i := 203) (by decide +kernel), by decide +kernel⟩
theorem w_204 : Cond.constant "IndicatorDiagram" 51 (-2000000001) ∈ lw_good := List.mem_filter.mpr ⟨List.mem_of_getElem? (i := 204) (by decide +kernel), by decide +kernel⟩
theorem w_205 : Cond.methodLink "IndicatorDiagram" 52 yX4_recordState ∈ lw_good := List.mem_filter.mpr ⟨List.mem_of_getElem? (i := 205) (by decide +kernel), by decide +kernel⟩
theorem w_207 : Cond.instanceMethod yX4_recordState ∈ lw_good := List.mem_filter.mpr ⟨List.mem_of_getElem? (i := 207) (by decide +kernel), by decide +kernel⟩
theorem w_208 : Cond.code yX4_recordState cX4_recordState 1 none ∈ lw_good := List.mem_filter.mpr ⟨List.mem_of_getElem? (i := 208) (by decide +kernel), by decide +kernel⟩
theorem w_209 : Cond.methodLink "IndicatorDiagram" 288 yX4_dropOldestState ∈ lw_good := List.mem_filter.mpr ⟨List.mem_of_getElem? (i := 209) (by decide +kernel), by decide +kernel⟩
theorem w_211 : Cond.instanceMethod yX4_dropOldestState ∈ lw_good := List.mem_filter.mpr ⟨List.mem_of_getElem? (i := 211) (by decide +kernel), by decide +kernel⟩
theorem w_212 : Cond.code yX4_dropOldestState cX4_dropOldestState 3 none ∈ lw_good := List.mem_filter.mpr ⟨List.mem_of_getElem? (i := 212) (by decide +kernel), by decide +kernel⟩
theorem w_213 : Cond.methodLink "IndicatorDiagram" 284 yX3_copyFrom ∈ lw_good := List.mem_filter.mpr ⟨List.mem_of_getElem? (i := 213) (by decide +kernel), by decide +kernel⟩
theorem w_214 : Cond.instanceMethod yX3_copyFrom ∈ lw_good := List.mem_filter.mpr ⟨List.mem_of_getElem? (i := 214) (by decide +kernel), by decide +kernel⟩
theorem w_215 : Cond.selects "IndicatorDiagram$State" yX3_copyFrom yX3_copyFrom ∈ lw_good := List.mem_filter.mpr ⟨List.mem_of_getElem? (i := 215) (by decide +kernel), by decide +kernel⟩
theorem w_216 : Cond.code yX3_copyFrom cX3_copyFrom 3 none ∈ lw_good := List.mem_filter.mpr ⟨List.mem_of_getElem? (i := 216) (by decide +kernel), by decide +kernel⟩
theorem w_217 : Cond.methodLink "IndicatorDiagram$State" 62 yX2_copyShifted ∈ lw_good := List.mem_filter.mpr ⟨List.mem_of_getElem? (i := 217) (by decide +kernel), by decide +kernel⟩
theorem w_218 : Cond.instanceMethod yX2_copyShifted ∈ lw_good := List.mem_filter.mpr ⟨List.mem_of_getElem? (i := 218) (by decide +kernel), by decide +kernel⟩
theorem w_219 : Cond.selects "IndicatorDiagram$Events" yX2_copyShifted yX2_copyShifted ∈ lw_good := List.mem_filter.mpr ⟨List.mem_of_getElem? (i := 219) (by decide +kernel), by decide +kernel⟩
theorem w_220 : Cond.code yX2_copyShifted cX2_copyShifted 3 none ∈ lw_good := List.mem_filter.mpr ⟨List.mem_of_getElem? (i := 220) (by decide +kernel), by decide +kernel⟩
theorem w_221 : Cond.methodLink "IndicatorDiagram$State" 66 yX1_copyFrom ∈ lw_good := List.mem_filter.mpr ⟨List.mem_of_getElem? (i := 221) (by decide +kernel), by decide +kernel⟩
theorem w_222 : Cond.instanceMethod yX1_copyFrom ∈ lw_good := List.mem_filter.mpr ⟨List.mem_of_getElem? (i := 222) (by decide +kernel), by decide +kernel⟩
theorem w_223 : Cond.selects "IndicatorDiagram$Draft" yX1_copyFrom yX1_copyFrom ∈ lw_good := List.mem_filter.mpr ⟨List.mem_of_getElem? (i := 223) (by decide +kernel), by decide +kernel⟩
theorem w_224 : Cond.code yX1_copyFrom cX1_copyFrom 2 none ∈ lw_good := List.mem_filter.mpr ⟨List.mem_of_getElem? (i := 224) (by decide +kernel), by decide +kernel⟩
theorem w_225 : Cond.methodLink "IndicatorDiagram$Draft" 29 arraycopyName ∈ lw_good := List.mem_filter.mpr ⟨List.mem_of_getElem? (i := 225) (by decide +kernel), by decide +kernel⟩
theorem w_226 : Cond.static arraycopyName ∈ lw_good := List.mem_filter.mpr ⟨List.mem_of_getElem? (i := 226) (by decide +kernel), by decide +kernel⟩
theorem w_227 : Cond.native arraycopyName ∈ lw_good := List.mem_filter.mpr ⟨List.mem_of_getElem? (i := 227) (by decide +kernel), by decide +kernel⟩
theorem w_228 : Cond.methodLink "IndicatorDiagramLaw" 10 yX4_valve ∈ lw_good := List.mem_filter.mpr ⟨List.mem_of_getElem? (i := 228) (by decide +kernel), by decide +kernel⟩
theorem w_229 : Cond.instanceMethod yX4_valve ∈ lw_good := List.mem_filter.mpr ⟨List.mem_of_getElem? (i := 229) (by decide +kernel), by decide +kernel⟩
theorem w_230 : Cond.selects "IndicatorDiagram" yX4_valve yX4_valve ∈ lw_good := List.mem_filter.mpr ⟨List.mem_of_getElem? (i := 230) (by decide +kernel), by decide +kernel⟩
theorem w_231 : Cond.code yX4_valve cX4_valve 3 (some FieldType.int) ∈ lw_good := List.mem_filter.mpr ⟨List.mem_of_getElem? (i := 231) (by decide +kernel), by decide +kernel⟩
theorem w_232 : Cond.methodLink "IndicatorDiagram" 58 yX4_isEnd ∈ lw_good := List.mem_filter.mpr ⟨List.mem_of_getElem? (i := 232) (by decide +kernel), by decide +kernel⟩
theorem w_233 : Cond.static yX4_isEnd ∈ lw_good := List.mem_filter.mpr ⟨List.mem_of_getElem? (i := 233) (by decide +kernel), by decide +kernel⟩
theorem w_234 : Cond.code yX4_isEnd cX4_isEnd 1 (some FieldType.boolean) ∈ lw_good := List.mem_filter.mpr ⟨List.mem_of_getElem? (i := 234) (by decide +kernel), by decide +kernel⟩
theorem w_235 : Cond.methodLink "IndicatorDiagram" 107 yX4_isEvent ∈ lw_good := List.mem_filter.mpr ⟨List.mem_of_getElem? (i := 235) (by decide +kernel), by decide +kernel⟩
theorem w_236 : Cond.static yX4_isEvent ∈ lw_good := List.mem_filter.mpr ⟨List.mem_of_getElem? (i := 236) (by decide +kernel), by decide +kernel⟩
theorem w_237 : Cond.code yX4_isEvent cX4_isEvent 1 (some FieldType.boolean) ∈ lw_good := List.mem_filter.mpr ⟨List.mem_of_getElem? (i := 237) (by decide +kernel), by decide +kernel⟩
theorem w_238 : Cond.methodLink "IndicatorDiagram" 91 yX3_valvesOf ∈ lw_good := List.mem_filter.mpr ⟨List.mem_of_getElem? (i := 238) (by decide +kernel), by decide +kernel⟩
theorem w_239 : Cond.instanceMethod yX3_valvesOf ∈ lw_good := List.mem_filter.mpr ⟨List.mem_of_getElem? (i := 239) (by decide +kernel), by decide +kernel⟩
theorem w_240 : Cond.selects "IndicatorDiagram$State" yX3_valvesOf yX3_valvesOf ∈ lw_good := List.mem_filter.mpr ⟨List.mem_of_getElem? (i := 240) (by decide +kernel), by decide +kernel⟩
theorem w_241 : Cond.code yX3_valvesOf cX3_valvesOf 2 (some (FieldType.object "IndicatorDiagram$Events")) ∈ lw_good := List.mem_filter.mpr ⟨List.mem_of_getElem? (i := 241) (by decide +kernel), by decide +kernel⟩
theorem w_242 : Cond.methodLink "IndicatorDiagram" 110 yX2_stationOf ∈ lw_good := List.mem_filter.mpr ⟨List.mem_of_getElem? (i := 242) (by decide +kernel), by decide +kernel⟩
theorem w_243 : Cond.instanceMethod yX2_stationOf ∈ lw_good := List.mem_filter.mpr ⟨List.mem_of_getElem? (i := 243) (by decide +kernel), by decide +kernel⟩
theorem w_244 : Cond.selects "IndicatorDiagram$Events" yX2_stationOf yX2_stationOf ∈ lw_good := List.mem_filter.mpr ⟨List.mem_of_getElem? (i := 244) (by decide +kernel), by decide +kernel⟩
theorem w_245 : Cond.code yX2_stationOf cX2_stationOf 2 (some FieldType.int) ∈ lw_good := List.mem_filter.mpr ⟨List.mem_of_getElem? (i := 245) (by decide +kernel), by decide +kernel⟩
theorem w_246 : Cond.methodLink "IndicatorDiagramLaw" 118 yX4_beginCard ∈ lw_good := List.mem_filter.mpr ⟨List.mem_of_getElem? (i := 246) (by decide +kernel), by decide +kernel⟩
theorem w_247 : Cond.instanceMethod yX4_beginCard ∈ lw_good := List.mem_filter.mpr ⟨List.mem_of_getElem? (i := 247) (by decide +kernel), by decide +kernel⟩
theorem w_248 : Cond.selects "IndicatorDiagram" yX4_beginCard yX4_beginCard ∈ lw_good := List.mem_filter.mpr ⟨List.mem_of_getElem? (i := 248) (by decide +kernel), by decide +kernel⟩
theorem w_249 : Cond.code yX4_beginCard cX4_beginCard 4 (some FieldType.int) ∈ lw_good := List.mem_filter.mpr ⟨List.mem_of_getElem? (i := 249) (by decide +kernel), by decide +kernel⟩
theorem w_250 : Cond.methodLink "IndicatorDiagram" 113 yX4_isSpeed ∈ lw_good := List.mem_filter.mpr ⟨List.mem_of_getElem? (i := 250) (by decide +kernel), by decide +kernel⟩
theorem w_251 : Cond.static yX4_isSpeed ∈ lw_good := List.mem_filter.mpr ⟨List.mem_of_getElem? (i := 251) (by decide +kernel), by decide +kernel⟩
theorem w_252 : Cond.code yX4_isSpeed cX4_isSpeed 1 (some FieldType.boolean) ∈ lw_good := List.mem_filter.mpr ⟨List.mem_of_getElem? (i := 252) (by decide +kernel), by decide +kernel⟩
theorem w_253 : Cond.methodLink "IndicatorDiagram" 126 yX1_begin ∈ lw_good := List.mem_filter.mpr ⟨List.mem_of_getElem? (i := 253) (by decide +kernel), by decide +kernel⟩
theorem w_254 : Cond.instanceMethod yX1_begin ∈ lw_good := List.mem_filter.mpr ⟨List.mem_of_getElem? (i := 254) (by decide +kernel), by decide +kernel⟩
theorem w_255 : Cond.selects "IndicatorDiagram$Draft" yX1_begin yX1_begin ∈ lw_good := List.mem_filter.mpr ⟨List.mem_of_getElem? (i := 255) (by decide +kernel), by decide +kernel⟩
theorem w_256 : Cond.code yX1_begin cX1_begin 4 none ∈ lw_good := List.mem_filter.mpr ⟨List.mem_of_getElem? (i := 256) (by decide +kernel), by decide +kernel⟩
theorem w_257 : Cond.methodLink "IndicatorDiagramLaw" 121 yX4_setPoint ∈ lw_good := List.mem_filter.mpr ⟨List.mem_of_getElem? (i := 257) (by decide +kernel), by decide +kernel⟩
theorem w_258 : Cond.instanceMethod yX4_setPoint ∈ lw_good := List.mem_filter.mpr ⟨List.mem_of_getElem? (i := 258) (by decide +kernel), by decide +kernel⟩
theorem w_259 : Cond.selects "IndicatorDiagram" yX4_setPoint yX4_setPoint ∈ lw_good := List.mem_filter.mpr ⟨List.mem_of_getElem? (i := 259) (by decide +kernel), by decide +kernel⟩
theorem w_260 : Cond.code yX4_setPoint cX4_setPoint 5 (some FieldType.int) ∈ lw_good := List.mem_filter.mpr ⟨List.mem_of_getElem? (i := 260) (by decide +kernel), by decide +kernel⟩
theorem w_261 : Cond.methodLink "IndicatorDiagram" 130 yX4_isStroke ∈ lw_good := List.mem_filter.mpr ⟨List.mem_of_getElem? (i := 261) (by decide +kernel), by decide +kernel⟩
theorem w_262 : Cond.static yX4_isStroke ∈ lw_good := List.mem_filter.mpr ⟨List.mem_of_getElem? (i := 262) (by decide +kernel), by decide +kernel⟩
theorem w_263 : Cond.code yX4_isStroke cX4_isStroke 1 (some FieldType.boolean) ∈ lw_good := List.mem_filter.mpr ⟨List.mem_of_getElem? (i := 263) (by decide +kernel), by decide +kernel⟩
theorem w_264 : Cond.methodLink "IndicatorDiagram" 133 yX4_isStation ∈ lw_good := List.mem_filter.mpr ⟨List.mem_of_getElem? (i := 264) (by decide +kernel), by decide +kernel⟩
theorem w_265 : Cond.static yX4_isStation ∈ lw_good := List.mem_filter.mpr ⟨List.mem_of_getElem? (i := 265) (by decide +kernel), by decide +kernel⟩
theorem w_266 : Cond.code yX4_isStation cX4_isStation 1 (some FieldType.boolean) ∈ lw_good := List.mem_filter.mpr ⟨List.mem_of_getElem? (i := 266) (by decide +kernel), by decide +kernel⟩
theorem w_267 : Cond.constant "IndicatorDiagram" 136 (-2000000002) ∈ lw_good := List.mem_filter.mpr ⟨List.mem_of_getElem? (i := 267) (by decide +kernel), by decide +kernel⟩
theorem w_268 : Cond.methodLink "IndicatorDiagram" 137 yX1_pointsOf ∈ lw_good := List.mem_filter.mpr ⟨List.mem_of_getElem? (i := 268) (by decide +kernel), by decide +kernel⟩
theorem w_269 : Cond.instanceMethod yX1_pointsOf ∈ lw_good := List.mem_filter.mpr ⟨List.mem_of_getElem? (i := 269) (by decide +kernel), by decide +kernel⟩
theorem w_270 : Cond.selects "IndicatorDiagram$Draft" yX1_pointsOf yX1_pointsOf ∈ lw_good := List.mem_filter.mpr ⟨List.mem_of_getElem? (i := 270) (by decide +kernel), by decide +kernel⟩
theorem w_271 : Cond.code yX1_pointsOf cX1_pointsOf 2 (some (FieldType.array FieldType.int)) ∈ lw_good := List.mem_filter.mpr ⟨List.mem_of_getElem? (i := 271) (by decide +kernel), by decide +kernel⟩
theorem w_272 : Cond.methodLink "IndicatorDiagram" 141 yX4_countPoints ∈ lw_good := List.mem_filter.mpr ⟨List.mem_of_getElem? (i := 272) (by decide +kernel), by decide +kernel⟩
theorem w_273 : Cond.static yX4_countPoints ∈ lw_good := List.mem_filter.mpr ⟨List.mem_of_getElem? (i := 273) (by decide +kernel), by decide +kernel⟩
theorem w_274 : Cond.code yX4_countPoints cX4_countPoints 3 (some FieldType.int) ∈ lw_good := List.mem_filter.mpr ⟨List.mem_of_getElem? (i := 274) (by decide +kernel), by decide +kernel⟩
theorem w_275 : Cond.methodLink "IndicatorDiagramLaw" 124 yX4_finishCard ∈ lw_good := List.mem_filter.mpr ⟨List.mem_of_getElem? (i := 275) (by decide +kernel), by decide +kernel⟩
theorem w_276 : Cond.instanceMethod yX4_finishCard ∈ lw_good := List.mem_filter.mpr ⟨List.mem_of_getElem? (i := 276) (by decide +kernel), by decide +kernel⟩
theorem w_277 : Cond.selects "IndicatorDiagram" yX4_finishCard yX4_finishCard ∈ lw_good := List.mem_filter.mpr ⟨List.mem_of_getElem? (i := 277) (by decide +kernel), by decide +kernel⟩
theorem w_278 : Cond.code yX4_finishCard cX4_finishCard 3 (some FieldType.int) ∈ lw_good := List.mem_filter.mpr ⟨List.mem_of_getElem? (i := 278) (by decide +kernel), by decide +kernel⟩
theorem w_279 : Cond.constant "IndicatorDiagram" 154 (-2000000003) ∈ lw_good := List.mem_filter.mpr ⟨List.mem_of_getElem? (i := 279) (by decide +kernel), by decide +kernel⟩
theorem w_280 : Cond.methodLink "IndicatorDiagram" 164 yX4_drawThroughPoints ∈ lw_good := List.mem_filter.mpr ⟨List.mem_of_getElem? (i := 280) (by decide +kernel), by decide +kernel⟩
theorem w_281 : Cond.static yX4_drawThroughPoints ∈ lw_good := List.mem_filter.mpr ⟨List.mem_of_getElem? (i := 281) (by decide +kernel), by decide +kernel⟩
theorem w_282 : Cond.code yX4_drawThroughPoints cX4_drawThroughPoints 6 none ∈ lw_good := List.mem_filter.mpr ⟨List.mem_of_getElem? (i := 282) (by decide +kernel), by decide +kernel⟩
theorem w_283 : Cond.methodLink "IndicatorDiagram" 296 yX4_pointUpTo ∈ lw_good := List.mem_filter.mpr ⟨List.mem_of_getElem? (i := 283) (by decide +kernel), by decide +kernel⟩
theorem w_284 : Cond.static yX4_pointUpTo ∈ lw_good := List.mem_filter.mpr ⟨List.mem_of_getElem? (i := 284) (by decide +kernel), by decide +kernel⟩
theorem w_285 : Cond.code yX4_pointUpTo cX4_pointUpTo 3 (some FieldType.int) ∈ lw_good := List.mem_filter.mpr ⟨List.mem_of_getElem? (i := 285) (by decide +kernel), by decide +kernel⟩
theorem w_286 : Cond.methodLink "IndicatorDiagram" 300 yX4_pointFrom ∈ lw_good := List.mem_filter.mpr ⟨List.mem_of_getElem? (i := 286) (by decide +kernel), by decide +kernel⟩
theorem w_287 : Cond.static yX4_pointFrom ∈ lw_good := List.mem_filter.mpr ⟨List.mem_of_getElem? (i := 287) (by decide +kernel), by decide +kernel⟩
theorem w_288 : Cond.code yX4_pointFrom cX4_pointFrom 3 (some FieldType.int) ∈ lw_good := List.mem_filter.mpr ⟨List.mem_of_getElem? (i := 288) (by decide +kernel), by decide +kernel⟩
theorem w_289 : Cond.methodLink "IndicatorDiagram" 212 yX4_quotient ∈ lw_good := List.mem_filter.mpr ⟨List.mem_of_getElem? (i := 289) (by decide +kernel), by decide +kernel⟩
theorem w_290 : Cond.static yX4_quotient ∈ lw_good := List.mem_filter.mpr ⟨List.mem_of_getElem? (i := 290) (by decide +kernel), by decide +kernel⟩
theorem w_291 : Cond.code yX4_quotient cX4_quotient 2 (some FieldType.int) ∈ lw_good := List.mem_filter.mpr ⟨List.mem_of_getElem? (i := 291) (by decide +kernel), by decide +kernel⟩
theorem w_292 : Cond.methodLink "IndicatorDiagram" 291 yJ9_floorDiv_7cf53 ∈ lw_good := List.mem_filter.mpr ⟨List.mem_of_getElem? (i := 292) (by decide +kernel), by decide +kernel⟩
theorem w_293 : Cond.static yJ9_floorDiv_7cf53 ∈ lw_good := List.mem_filter.mpr ⟨List.mem_of_getElem? (i := 293) (by decide +kernel), by decide +kernel⟩
theorem w_294 : Cond.code yJ9_floorDiv_7cf53 cJ9_floorDiv_7cf53 3 (some FieldType.int) ∈ lw_good := List.mem_filter.mpr ⟨List.mem_of_getElem? (i := 294) (by decide +kernel), by decide +kernel⟩
theorem w_295 : Cond.methodLink "IndicatorDiagram" 169 yX4_addCard ∈ lw_good := List.mem_filter.mpr ⟨List.mem_of_getElem? (i := 295) (by decide +kernel), by decide +kernel⟩
theorem w_297 : Cond.instanceMethod yX4_addCard ∈ lw_good := List.mem_filter.mpr ⟨List.mem_of_getElem? (i := 297) (by decide +kernel), by decide +kernel⟩
theorem w_298 : Cond.code yX4_addCard cX4_addCard 3 (some FieldType.int) ∈ lw_good := List.mem_filter.mpr ⟨List.mem_of_getElem? (i := 298) (by decide +kernel), by decide +kernel⟩
theorem w_299 : Cond.methodLink "IndicatorDiagramLaw" 127 yX4_addIdealCard ∈ lw_good := List.mem_filter.mpr ⟨List.mem_of_getElem? (i := 299) (by decide +kernel), by decide +kernel⟩
theorem w_300 : Cond.instanceMethod yX4_addIdealCard ∈ lw_good := List.mem_filter.mpr ⟨List.mem_of_getElem? (i := 300) (by decide +kernel), by decide +kernel⟩
theorem w_301 : Cond.selects "IndicatorDiagram" yX4_addIdealCard yX4_addIdealCard ∈ lw_good := List.mem_filter.mpr ⟨List.mem_of_getElem? (i := 301) (by decide +kernel), by decide +kernel⟩
theorem w_302 : Cond.code yX4_addIdealCard cX4_addIdealCard 6 (some FieldType.int) ∈ lw_good := List.mem_filter.mpr ⟨List.mem_of_getElem? (i := 302) (by decide +kernel), by decide +kernel⟩
theorem w_303 : Cond.methodLink "IndicatorDiagram" 173 yX2_copyShifted ∈ lw_good := List.mem_filter.mpr ⟨List.mem_of_getElem? (i := 303) (by decide +kernel), by decide +kernel⟩
theorem w_304 : Cond.methodLink "IndicatorDiagram" 177 yX2_existAsIdealCard ∈ lw_good := List.mem_filter.mpr ⟨List.mem_of_getElem? (i := 304) (by decide +kernel), by decide +kernel⟩
theorem w_305 : Cond.instanceMethod yX2_existAsIdealCard ∈ lw_good := List.mem_filter.mpr ⟨List.mem_of_getElem? (i := 305) (by decide +kernel), by decide +kernel⟩
theorem w_306 : Cond.selects "IndicatorDiagram$Events" yX2_existAsIdealCard yX2_existAsIdealCard ∈ lw_good := List.mem_filter.mpr ⟨List.mem_of_getElem? (i := 306) (by decide +kernel), by decide +kernel⟩
theorem w_307 : Cond.code yX2_existAsIdealCard cX2_existAsIdealCard 1 (some FieldType.boolean) ∈ lw_good := List.mem_filter.mpr ⟨List.mem_of_getElem? (i := 307) (by decide +kernel), by decide +kernel⟩
theorem w_308 : Cond.methodLinkNest "IndicatorDiagram$Events" 24 yX4_isWithin "IndicatorDiagram" ∈ lw_tbl := List.mem_of_getElem? (i := 308) (by decide +kernel)
theorem w_309 : Cond.methodLink "IndicatorDiagram" 181 yX4_drawIdealCard ∈ lw_good := List.mem_filter.mpr ⟨List.mem_of_getElem? (i := 309) (by decide +kernel), by decide +kernel⟩
theorem w_311 : Cond.instanceMethod yX4_drawIdealCard ∈ lw_good := List.mem_filter.mpr ⟨List.mem_of_getElem? (i := 311) (by decide +kernel), by decide +kernel⟩
theorem w_312 : Cond.code yX4_drawIdealCard cX4_drawIdealCard 4 none ∈ lw_good := List.mem_filter.mpr ⟨List.mem_of_getElem? (i := 312) (by decide +kernel), by decide +kernel⟩
theorem w_313 : Cond.methodLink "IndicatorDiagram" 303 yX4_drawIdealOutward ∈ lw_good := List.mem_filter.mpr ⟨List.mem_of_getElem? (i := 313) (by decide +kernel), by decide +kernel⟩
theorem w_315 : Cond.instanceMethod yX4_drawIdealOutward ∈ lw_good := List.mem_filter.mpr ⟨List.mem_of_getElem? (i := 315) (by decide +kernel), by decide +kernel⟩
theorem w_316 : Cond.code yX4_drawIdealOutward cX4_drawIdealOutward 10 none ∈ lw_good := List.mem_filter.mpr ⟨List.mem_of_getElem? (i := 316) (by decide +kernel), by decide +kernel⟩
theorem w_317 : Cond.methodLink "IndicatorDiagram" 311 yX3_volumeAt ∈ lw_good := List.mem_filter.mpr ⟨List.mem_of_getElem? (i := 317) (by decide +kernel), by decide +kernel⟩
theorem w_318 : Cond.instanceMethod yX3_volumeAt ∈ lw_good := List.mem_filter.mpr ⟨List.mem_of_getElem? (i := 318) (by decide +kernel), by decide +kernel⟩
theorem w_319 : Cond.selects "IndicatorDiagram$State" yX3_volumeAt yX3_volumeAt ∈ lw_good := List.mem_filter.mpr ⟨List.mem_of_getElem? (i := 319) (by decide +kernel), by decide +kernel⟩
theorem w_320 : Cond.code yX3_volumeAt cX3_volumeAt 2 (some FieldType.int) ∈ lw_good := List.mem_filter.mpr ⟨List.mem_of_getElem? (i := 320) (by decide +kernel), by decide +kernel⟩
theorem w_321 : Cond.methodLink "IndicatorDiagram" 307 yX4_drawIdealReturn ∈ lw_good := List.mem_filter.mpr ⟨List.mem_of_getElem? (i := 321) (by decide +kernel), by decide +kernel⟩
theorem w_323 : Cond.instanceMethod yX4_drawIdealReturn ∈ lw_good := List.mem_filter.mpr ⟨List.mem_of_getElem? (i := 323) (by decide +kernel), by decide +kernel⟩
theorem w_324 : Cond.code yX4_drawIdealReturn cX4_drawIdealReturn 7 none ∈ lw_good := List.mem_filter.mpr ⟨List.mem_of_getElem? (i := 324) (by decide +kernel), by decide +kernel⟩
theorem w_325 : Cond.methodLink "IndicatorDiagramLaw" 36 yX4_cardCount ∈ lw_good := List.mem_filter.mpr ⟨List.mem_of_getElem? (i := 325) (by decide +kernel), by decide +kernel⟩
theorem w_326 : Cond.instanceMethod yX4_cardCount ∈ lw_good := List.mem_filter.mpr ⟨List.mem_of_getElem? (i := 326) (by decide +kernel), by decide +kernel⟩
theorem w_327 : Cond.selects "IndicatorDiagram" yX4_cardCount yX4_cardCount ∈ lw_good := List.mem_filter.mpr ⟨List.mem_of_getElem? (i := 327) (by decide +kernel), by decide +kernel⟩
theorem w_328 : Cond.code yX4_cardCount cX4_cardCount 1 (some FieldType.int) ∈ lw_good := List.mem_filter.mpr ⟨List.mem_of_getElem? (i := 328) (by decide +kernel), by decide +kernel⟩
theorem w_329 : Cond.methodLink "IndicatorDiagramLaw" 57 yX4_pressure ∈ lw_good := List.mem_filter.mpr ⟨List.mem_of_getElem? (i := 329) (by decide +kernel), by decide +kernel⟩
theorem w_330 : Cond.instanceMethod yX4_pressure ∈ lw_good := List.mem_filter.mpr ⟨List.mem_of_getElem? (i := 330) (by decide +kernel), by decide +kernel⟩
theorem w_331 : Cond.selects "IndicatorDiagram" yX4_pressure yX4_pressure ∈ lw_good := List.mem_filter.mpr ⟨List.mem_of_getElem? (i := 331) (by decide +kernel), by decide +kernel⟩
theorem w_332 : Cond.code yX4_pressure cX4_pressure 4 (some FieldType.int) ∈ lw_good := List.mem_filter.mpr ⟨List.mem_of_getElem? (i := 332) (by decide +kernel), by decide +kernel⟩
theorem w_333 : Cond.methodLink "IndicatorDiagram" 185 yX4_isCard ∈ lw_good := List.mem_filter.mpr ⟨List.mem_of_getElem? (i := 333) (by decide +kernel), by decide +kernel⟩
theorem w_335 : Cond.instanceMethod yX4_isCard ∈ lw_good := List.mem_filter.mpr ⟨List.mem_of_getElem? (i := 335) (by decide +kernel), by decide +kernel⟩
theorem w_336 : Cond.code yX4_isCard cX4_isCard 2 (some FieldType.boolean) ∈ lw_good := List.mem_filter.mpr ⟨List.mem_of_getElem? (i := 336) (by decide +kernel), by decide +kernel⟩
theorem w_337 : Cond.methodLink "IndicatorDiagram" 196 yX0_pressuresOf ∈ lw_good := List.mem_filter.mpr ⟨List.mem_of_getElem? (i := 337) (by decide +kernel), by decide +kernel⟩
theorem w_338 : Cond.instanceMethod yX0_pressuresOf ∈ lw_good := List.mem_filter.mpr ⟨List.mem_of_getElem? (i := 338) (by decide +kernel), by decide +kernel⟩
theorem w_339 : Cond.selects "IndicatorDiagram$Card" yX0_pressuresOf yX0_pressuresOf ∈ lw_good := List.mem_filter.mpr ⟨List.mem_of_getElem? (i := 339) (by decide +kernel), by decide +kernel⟩
theorem w_340 : Cond.code yX0_pressuresOf cX0_pressuresOf 2 (some (FieldType.array FieldType.int)) ∈ lw_good := List.mem_filter.mpr ⟨List.mem_of_getElem? (i := 340) (by decide +kernel), by decide +kernel⟩
theorem w_341 : Cond.methodLink "IndicatorDiagramLaw" 79 yX4_area ∈ lw_good := List.mem_filter.mpr ⟨List.mem_of_getElem? (i := 341) (by decide +kernel), by decide +kernel⟩
theorem w_342 : Cond.instanceMethod yX4_area ∈ lw_good := List.mem_filter.mpr ⟨List.mem_of_getElem? (i := 342) (by decide +kernel), by decide +kernel⟩
theorem w_343 : Cond.selects "IndicatorDiagram" yX4_area yX4_area ∈ lw_good := List.mem_filter.mpr ⟨List.mem_of_getElem? (i := 343) (by decide +kernel), by decide +kernel⟩
theorem w_344 : Cond.code yX4_area cX4_area 2 (some FieldType.int) ∈ lw_good := List.mem_filter.mpr ⟨List.mem_of_getElem? (i := 344) (by decide +kernel), by decide +kernel⟩
theorem w_345 : Cond.methodLink "IndicatorDiagram" 199 yX0_wholeArea ∈ lw_good := List.mem_filter.mpr ⟨List.mem_of_getElem? (i := 345) (by decide +kernel), by decide +kernel⟩
theorem w_346 : Cond.instanceMethod yX0_wholeArea ∈ lw_good := List.mem_filter.mpr ⟨List.mem_of_getElem? (i := 346) (by decide +kernel), by decide +kernel⟩
theorem w_347 : Cond.selects "IndicatorDiagram$Card" yX0_wholeArea yX0_wholeArea ∈ lw_good := List.mem_filter.mpr ⟨List.mem_of_getElem? (i := 347) (by decide +kernel), by decide +kernel⟩
theorem w_348 : Cond.code yX0_wholeArea cX0_wholeArea 3 (some FieldType.int) ∈ lw_good := List.mem_filter.mpr ⟨List.mem_of_getElem? (i := 348) (by decide +kernel), by decide +kernel⟩
theorem w_349 : Cond.methodLink "IndicatorDiagram$Card" 18 yX0_differenceAt ∈ lw_good := List.mem_filter.mpr ⟨List.mem_of_getElem? (i := 349) (by decide +kernel), by decide +kernel⟩
theorem w_350 : Cond.instanceMethod yX0_differenceAt ∈ lw_good := List.mem_filter.mpr ⟨List.mem_of_getElem? (i := 350) (by decide +kernel), by decide +kernel⟩
theorem w_351 : Cond.selects "IndicatorDiagram$Card" yX0_differenceAt yX0_differenceAt ∈ lw_good := List.mem_filter.mpr ⟨List.mem_of_getElem? (i := 351) (by decide +kernel), by decide +kernel⟩
theorem w_352 : Cond.code yX0_differenceAt cX0_differenceAt 2 (some FieldType.int) ∈ lw_good := List.mem_filter.mpr ⟨List.mem_of_getElem? (i := 352) (by decide +kernel), by decide +kernel⟩
theorem w_353 : Cond.methodLink "IndicatorDiagramLaw" 64 yX4_event ∈ lw_good := List.mem_filter.mpr ⟨List.mem_of_getElem? (i := 353) (by decide +kernel), by decide +kernel⟩
theorem w_354 : Cond.instanceMethod yX4_event ∈ lw_good := List.mem_filter.mpr ⟨List.mem_of_getElem? (i := 354) (by decide +kernel), by decide +kernel⟩
theorem w_355 : Cond.selects "IndicatorDiagram" yX4_event yX4_event ∈ lw_good := List.mem_filter.mpr ⟨List.mem_of_getElem? (i := 355) (by decide +kernel), by decide +kernel⟩
theorem w_356 : Cond.code yX4_event cX4_event 3 (some FieldType.int) ∈ lw_good := List.mem_filter.mpr ⟨List.mem_of_getElem? (i := 356) (by decide +kernel), by decide +kernel⟩
theorem w_357 : Cond.methodLink "IndicatorDiagram" 222 yX4_findEvents ∈ lw_good := List.mem_filter.mpr ⟨List.mem_of_getElem? (i := 357) (by decide +kernel), by decide +kernel⟩
theorem w_359 : Cond.instanceMethod yX4_findEvents ∈ lw_good := List.mem_filter.mpr ⟨List.mem_of_getElem? (i := 359) (by decide +kernel), by decide +kernel⟩
theorem w_360 : Cond.code yX4_findEvents cX4_findEvents 2 none ∈ lw_good := List.mem_filter.mpr ⟨List.mem_of_getElem? (i := 360) (by decide +kernel), by decide +kernel⟩
theorem w_361 : Cond.methodLink "IndicatorDiagram" 320 yX4_findAdmission ∈ lw_good := List.mem_filter.mpr ⟨List.mem_of_getElem? (i := 361) (by decide +kernel), by decide +kernel⟩
theorem w_363 : Cond.instanceMethod yX4_findAdmission ∈ lw_good := List.mem_filter.mpr ⟨List.mem_of_getElem? (i := 363) (by decide +kernel), by decide +kernel⟩
theorem w_364 : Cond.code yX4_findAdmission cX4_findAdmission 4 (some FieldType.int) ∈ lw_good := List.mem_filter.mpr ⟨List.mem_of_getElem? (i := 364) (by decide +kernel), by decide +kernel⟩
theorem w_365 : Cond.methodLink "IndicatorDiagram" 332 yX4_greatestOf ∈ lw_good := List.mem_filter.mpr ⟨List.mem_of_getElem? (i := 365) (by decide +kernel), by decide +kernel⟩
theorem w_366 : Cond.static yX4_greatestOf ∈ lw_good := List.mem_filter.mpr ⟨List.mem_of_getElem? (i := 366) (by decide +kernel), by decide +kernel⟩
theorem w_367 : Cond.code yX4_greatestOf cX4_greatestOf 3 (some FieldType.int) ∈ lw_good := List.mem_filter.mpr ⟨List.mem_of_getElem? (i := 367) (by decide +kernel), by decide +kernel⟩
theorem w_368 : Cond.methodLink "IndicatorDiagram" 338 yJ9_max_7cf53 ∈ lw_good := List.mem_filter.mpr ⟨List.mem_of_getElem? (i := 368) (by decide +kernel), by decide +kernel⟩
theorem w_369 : Cond.static yJ9_max_7cf53 ∈ lw_good := List.mem_filter.mpr ⟨List.mem_of_getElem? (i := 369) (by decide +kernel), by decide +kernel⟩
theorem w_370 : Cond.code yJ9_max_7cf53 cJ9_max_7cf53 2 (some FieldType.int) ∈ lw_good := List.mem_filter.mpr ⟨List.mem_of_getElem? (i := 370) (by decide +kernel), by decide +kernel⟩
theorem w_371 : Cond.methodLink "IndicatorDiagram" 323 yX4_findCutOff ∈ lw_good := List.mem_filter.mpr ⟨List.mem_of_getElem? (i := 371) (by decide +kernel), by decide +kernel⟩
theorem w_373 : Cond.instanceMethod yX4_findCutOff ∈ lw_good := List.mem_filter.mpr ⟨List.mem_of_getElem? (i := 373) (by decide +kernel), by decide +kernel⟩
theorem w_374 : Cond.code yX4_findCutOff cX4_findCutOff 5 (some FieldType.int) ∈ lw_good := List.mem_filter.mpr ⟨List.mem_of_getElem? (i := 374) (by decide +kernel), by decide +kernel⟩
theorem w_375 : Cond.methodLink "IndicatorDiagram" 326 yX4_findRelease ∈ lw_good := List.mem_filter.mpr ⟨List.mem_of_getElem? (i := 375) (by decide +kernel), by decide +kernel⟩
theorem w_377 : Cond.instanceMethod yX4_findRelease ∈ lw_good := List.mem_filter.mpr ⟨List.mem_of_getElem? (i := 377) (by decide +kernel), by decide +kernel⟩
theorem w_378 : Cond.code yX4_findRelease cX4_findRelease 5 (some FieldType.int) ∈ lw_good := List.mem_filter.mpr ⟨List.mem_of_getElem? (i := 378) (by decide +kernel), by decide +kernel⟩
theorem w_379 : Cond.methodLink "IndicatorDiagram" 232 yX4_constantAt ∈ lw_good := List.mem_filter.mpr ⟨List.mem_of_getElem? (i := 379) (by decide +kernel), by decide +kernel⟩
theorem w_381 : Cond.instanceMethod yX4_constantAt ∈ lw_good := List.mem_filter.mpr ⟨List.mem_of_getElem? (i := 381) (by decide +kernel), by decide +kernel⟩
theorem w_382 : Cond.code yX4_constantAt cX4_constantAt 3 (some FieldType.int) ∈ lw_good := List.mem_filter.mpr ⟨List.mem_of_getElem? (i := 382) (by decide +kernel), by decide +kernel⟩
theorem w_383 : Cond.methodLink "IndicatorDiagram" 329 yX4_findCompression ∈ lw_good := List.mem_filter.mpr ⟨List.mem_of_getElem? (i := 383) (by decide +kernel), by decide +kernel⟩
theorem w_385 : Cond.instanceMethod yX4_findCompression ∈ lw_good := List.mem_filter.mpr ⟨List.mem_of_getElem? (i := 385) (by decide +kernel), by decide +kernel⟩
theorem w_386 : Cond.code yX4_findCompression cX4_findCompression 4 (some FieldType.int) ∈ lw_good := List.mem_filter.mpr ⟨List.mem_of_getElem? (i := 386) (by decide +kernel), by decide +kernel⟩
theorem w_387 : Cond.methodLink "IndicatorDiagram" 335 yX4_leastOf ∈ lw_good := List.mem_filter.mpr ⟨List.mem_of_getElem? (i := 387) (by decide +kernel), by decide +kernel⟩
theorem w_388 : Cond.static yX4_leastOf ∈ lw_good := List.mem_filter.mpr ⟨List.mem_of_getElem? (i := 388) (by decide +kernel), by decide +kernel⟩
theorem w_389 : Cond.code yX4_leastOf cX4_leastOf 3 (some FieldType.int) ∈ lw_good := List.mem_filter.mpr ⟨List.mem_of_getElem? (i := 389) (by decide +kernel), by decide +kernel⟩
theorem w_390 : Cond.methodLink "IndicatorDiagram" 341 yJ9_min_7cf53 ∈ lw_good := List.mem_filter.mpr ⟨List.mem_of_getElem? (i := 390) (by decide +kernel), by decide +kernel⟩
theorem w_391 : Cond.static yJ9_min_7cf53 ∈ lw_good := List.mem_filter.mpr ⟨List.mem_of_getElem? (i := 391) (by decide +kernel), by decide +kernel⟩
theorem w_392 : Cond.code yJ9_min_7cf53 cJ9_min_7cf53 2 (some FieldType.int) ∈ lw_good := List.mem_filter.mpr ⟨List.mem_of_getElem? (i := 392) (by decide +kernel), by decide +kernel⟩
theorem w_393 : Cond.methodLink "IndicatorDiagramLaw" 27 yX4_idealArea ∈ lw_good := List.mem_filter.mpr ⟨List.mem_of_getElem? (i := 393) (by decide +kernel), by decide +kernel⟩
theorem w_394 : Cond.instanceMethod yX4_idealArea ∈ lw_good := List.mem_filter.mpr ⟨List.mem_of_getElem? (i := 394) (by decide +kernel), by decide +kernel⟩
theorem w_395 : Cond.selects "IndicatorDiagram" yX4_idealArea yX4_idealArea ∈ lw_good := List.mem_filter.mpr ⟨List.mem_of_getElem? (i := 395) (by decide +kernel), by decide +kernel⟩
theorem w_396 : Cond.code yX4_idealArea cX4_idealArea 2 (some FieldType.int) ∈ lw_good := List.mem_filter.mpr ⟨List.mem_of_getElem? (i := 396) (by decide +kernel), by decide +kernel⟩
theorem w_397 : Cond.methodLink "IndicatorDiagram" 268 yX4_areaWithCutOff ∈ lw_good := List.mem_filter.mpr ⟨List.mem_of_getElem? (i := 397) (by decide +kernel), by decide +kernel⟩
theorem w_399 : Cond.instanceMethod yX4_areaWithCutOff ∈ lw_good := List.mem_filter.mpr ⟨List.mem_of_getElem? (i := 399) (by decide +kernel), by decide +kernel⟩
theorem w_400 : Cond.code yX4_areaWithCutOff cX4_areaWithCutOff 3 (some FieldType.int) ∈ lw_good := List.mem_filter.mpr ⟨List.mem_of_getElem? (i := 400) (by decide +kernel), by decide +kernel⟩
theorem w_401 : Cond.methodLink "IndicatorDiagramLaw" 171 yX4_historySize ∈ lw_good := List.mem_filter.mpr ⟨List.mem_of_getElem? (i := 401) (by decide +kernel), by decide +kernel⟩
theorem w_402 : Cond.instanceMethod yX4_historySize ∈ lw_good := List.mem_filter.mpr ⟨List.mem_of_getElem? (i := 402) (by decide +kernel), by decide +kernel⟩
theorem w_403 : Cond.selects "IndicatorDiagram" yX4_historySize yX4_historySize ∈ lw_good := List.mem_filter.mpr ⟨List.mem_of_getElem? (i := 403) (by decide +kernel), by decide +kernel⟩
theorem w_404 : Cond.code yX4_historySize cX4_historySize 1 (some FieldType.int) ∈ lw_good := List.mem_filter.mpr ⟨List.mem_of_getElem? (i := 404) (by decide +kernel), by decide +kernel⟩
theorem w_405 : Cond.methodLink "IndicatorDiagramLaw" 159 yX4_undo ∈ lw_good := List.mem_filter.mpr ⟨List.mem_of_getElem? (i := 405) (by decide +kernel), by decide +kernel⟩
theorem w_406 : Cond.instanceMethod yX4_undo ∈ lw_good := List.mem_filter.mpr ⟨List.mem_of_getElem? (i := 406) (by decide +kernel), by decide +kernel⟩
theorem w_407 : Cond.selects "IndicatorDiagram" yX4_undo yX4_undo ∈ lw_good := List.mem_filter.mpr ⟨List.mem_of_getElem? (i := 407) (by decide +kernel), by decide +kernel⟩
theorem w_408 : Cond.code yX4_undo cX4_undo 1 (some FieldType.int) ∈ lw_good := List.mem_filter.mpr ⟨List.mem_of_getElem? (i := 408) (by decide +kernel), by decide +kernel⟩
theorem w_409 : Cond.methodLink "IndicatorDiagramLaw" 146 yL_cell ∈ lw_good := List.mem_filter.mpr ⟨List.mem_of_getElem? (i := 409) (by decide +kernel), by decide +kernel⟩
theorem w_410 : Cond.static yL_cell ∈ lw_good := List.mem_filter.mpr ⟨List.mem_of_getElem? (i := 410) (by decide +kernel), by decide +kernel⟩
theorem w_411 : Cond.code yL_cell cL_cell 2 (some FieldType.int) ∈ lw_good := List.mem_filter.mpr ⟨List.mem_of_getElem? (i := 411) (by decide +kernel), by decide +kernel⟩
theorem w_412 : Cond.methodLink "IndicatorDiagramLaw" 88 yL_low ∈ lw_good := List.mem_filter.mpr ⟨List.mem_of_getElem? (i := 412) (by decide +kernel), by decide +kernel⟩
theorem w_413 : Cond.static yL_low ∈ lw_good := List.mem_filter.mpr ⟨List.mem_of_getElem? (i := 413) (by decide +kernel), by decide +kernel⟩
theorem w_414 : Cond.code yL_low cL_low 2 (some FieldType.int) ∈ lw_good := List.mem_filter.mpr ⟨List.mem_of_getElem? (i := 414) (by decide +kernel), by decide +kernel⟩
theorem w_415 : Cond.constant "IndicatorDiagramLaw" 7 2147483647 ∈ lw_good := List.mem_filter.mpr ⟨List.mem_of_getElem? (i := 415) (by decide +kernel), by decide +kernel⟩
theorem w_416 : Cond.methodLink "IndicatorDiagramLaw" 150 yL_all ∈ lw_good := List.mem_filter.mpr ⟨List.mem_of_getElem? (i := 416) (by decide +kernel), by decide +kernel⟩
theorem w_417 : Cond.static yL_all ∈ lw_good := List.mem_filter.mpr ⟨List.mem_of_getElem? (i := 417) (by decide +kernel), by decide +kernel⟩
theorem w_418 : Cond.code yL_all cL_all 5 (some FieldType.long) ∈ lw_good := List.mem_filter.mpr ⟨List.mem_of_getElem? (i := 418) (by decide +kernel), by decide +kernel⟩
theorem w_419 : Cond.constantLong "IndicatorDiagramLaw" 8 31 ∈ lw_good := List.mem_filter.mpr ⟨List.mem_of_getElem? (i := 419) (by decide +kernel), by decide +kernel⟩
theorem w_420 : Cond.constantLong "IndicatorDiagramLaw" 16 7 ∈ lw_good := List.mem_filter.mpr ⟨List.mem_of_getElem? (i := 420) (by decide +kernel), by decide +kernel⟩
theorem w_421 : Cond.methodLink "IndicatorDiagramLaw" 18 yX4_cardsOf ∈ lw_good := List.mem_filter.mpr ⟨List.mem_of_getElem? (i := 421) (by decide +kernel), by decide +kernel⟩
theorem w_422 : Cond.instanceMethod yX4_cardsOf ∈ lw_good := List.mem_filter.mpr ⟨List.mem_of_getElem? (i := 422) (by decide +kernel), by decide +kernel⟩
theorem w_423 : Cond.selects "IndicatorDiagram" yX4_cardsOf yX4_cardsOf ∈ lw_good := List.mem_filter.mpr ⟨List.mem_of_getElem? (i := 423) (by decide +kernel), by decide +kernel⟩
theorem w_424 : Cond.code yX4_cardsOf cX4_cardsOf 2 (some FieldType.int) ∈ lw_good := List.mem_filter.mpr ⟨List.mem_of_getElem? (i := 424) (by decide +kernel), by decide +kernel⟩
theorem w_425 : Cond.methodLink "IndicatorDiagram" 237 yX4_countCards ∈ lw_good := List.mem_filter.mpr ⟨List.mem_of_getElem? (i := 425) (by decide +kernel), by decide +kernel⟩
theorem w_427 : Cond.instanceMethod yX4_countCards ∈ lw_good := List.mem_filter.mpr ⟨List.mem_of_getElem? (i := 427) (by decide +kernel), by decide +kernel⟩
theorem w_428 : Cond.code yX4_countCards cX4_countCards 4 (some FieldType.int) ∈ lw_good := List.mem_filter.mpr ⟨List.mem_of_getElem? (i := 428) (by decide +kernel), by decide +kernel⟩
theorem w_429 : Cond.methodLink "IndicatorDiagramLaw" 22 yX4_meanArea ∈ lw_good := List.mem_filter.mpr ⟨List.mem_of_getElem? (i := 429) (by decide +kernel), by decide +kernel⟩
theorem w_430 : Cond.instanceMethod yX4_meanArea ∈ lw_good := List.mem_filter.mpr ⟨List.mem_of_getElem? (i := 430) (by decide +kernel), by decide +kernel⟩
theorem w_431 : Cond.selects "IndicatorDiagram" yX4_meanArea yX4_meanArea ∈ lw_good := List.mem_filter.mpr ⟨List.mem_of_getElem? (i := 431) (by decide +kernel), by decide +kernel⟩
theorem w_432 : Cond.code yX4_meanArea cX4_meanArea 2 (some FieldType.int) ∈ lw_good := List.mem_filter.mpr ⟨List.mem_of_getElem? (i := 432) (by decide +kernel), by decide +kernel⟩
theorem w_433 : Cond.constant "IndicatorDiagram" 236 (-2000000004) ∈ lw_good := List.mem_filter.mpr ⟨List.mem_of_getElem? (i := 433) (by decide +kernel), by decide +kernel⟩
theorem w_434 : Cond.methodLink "IndicatorDiagram" 240 yX4_drawMeanPressures ∈ lw_good := List.mem_filter.mpr ⟨List.mem_of_getElem? (i := 434) (by decide +kernel), by decide +kernel⟩
theorem w_436 : Cond.instanceMethod yX4_drawMeanPressures ∈ lw_good := List.mem_filter.mpr ⟨List.mem_of_getElem? (i := 436) (by decide +kernel), by decide +kernel⟩
theorem w_437 : Cond.code yX4_drawMeanPressures cX4_drawMeanPressures 8 none ∈ lw_good := List.mem_filter.mpr ⟨List.mem_of_getElem? (i := 437) (by decide +kernel), by decide +kernel⟩
theorem w_438 : Cond.constantLong "IndicatorDiagramLaw" 25 3 ∈ lw_good := List.mem_filter.mpr ⟨List.mem_of_getElem? (i := 438) (by decide +kernel), by decide +kernel⟩
theorem w_439 : Cond.constantLong "IndicatorDiagramLaw" 30 5 ∈ lw_good := List.mem_filter.mpr ⟨List.mem_of_getElem? (i := 439) (by decide +kernel), by decide +kernel⟩
theorem w_440 : Cond.methodLink "IndicatorDiagramLaw" 32 yX4_meanPower ∈ lw_good := List.mem_filter.mpr ⟨List.mem_of_getElem? (i := 440) (by decide +kernel), by decide +kernel⟩
theorem w_441 : Cond.instanceMethod yX4_meanPower ∈ lw_good := List.mem_filter.mpr ⟨List.mem_of_getElem? (i := 441) (by decide +kernel), by decide +kernel⟩
theorem w_442 : Cond.selects "IndicatorDiagram" yX4_meanPower yX4_meanPower ∈ lw_good := List.mem_filter.mpr ⟨List.mem_of_getElem? (i := 442) (by decide +kernel), by decide +kernel⟩
theorem w_443 : Cond.code yX4_meanPower cX4_meanPower 2 (some FieldType.long) ∈ lw_good := List.mem_filter.mpr ⟨List.mem_of_getElem? (i := 443) (by decide +kernel), by decide +kernel⟩
theorem w_444 : Cond.constantLong "IndicatorDiagram" 220 (-2000000001) ∈ lw_good := List.mem_filter.mpr ⟨List.mem_of_getElem? (i := 444) (by decide +kernel), by decide +kernel⟩
theorem w_445 : Cond.constantLong "IndicatorDiagram" 243 (-2000000004) ∈ lw_good := List.mem_filter.mpr ⟨List.mem_of_getElem? (i := 445) (by decide +kernel), by decide +kernel⟩
theorem w_446 : Cond.methodLink "IndicatorDiagram" 245 yX4_meanOfPowers ∈ lw_good := List.mem_filter.mpr ⟨List.mem_of_getElem? (i := 446) (by decide +kernel), by decide +kernel⟩
theorem w_448 : Cond.instanceMethod yX4_meanOfPowers ∈ lw_good := List.mem_filter.mpr ⟨List.mem_of_getElem? (i := 448) (by decide +kernel), by decide +kernel⟩
theorem w_449 : Cond.code yX4_meanOfPowers cX4_meanOfPowers 5 (some FieldType.long) ∈ lw_good := List.mem_filter.mpr ⟨List.mem_of_getElem? (i := 449) (by decide +kernel), by decide +kernel⟩
theorem w_450 : Cond.methodLink "IndicatorDiagram" 216 yX4_powerOfCard ∈ lw_good := List.mem_filter.mpr ⟨List.mem_of_getElem? (i := 450) (by decide +kernel), by decide +kernel⟩
theorem w_452 : Cond.instanceMethod yX4_powerOfCard ∈ lw_good := List.mem_filter.mpr ⟨List.mem_of_getElem? (i := 452) (by decide +kernel), by decide +kernel⟩
theorem w_453 : Cond.code yX4_powerOfCard cX4_powerOfCard 2 (some FieldType.long) ∈ lw_good := List.mem_filter.mpr ⟨List.mem_of_getElem? (i := 453) (by decide +kernel), by decide +kernel⟩
theorem w_454 : Cond.methodLink "IndicatorDiagram" 280 yX4_powerFrom ∈ lw_good := List.mem_filter.mpr ⟨List.mem_of_getElem? (i := 454) (by decide +kernel), by decide +kernel⟩
theorem w_456 : Cond.instanceMethod yX4_powerFrom ∈ lw_good := List.mem_filter.mpr ⟨List.mem_of_getElem? (i := 456) (by decide +kernel), by decide +kernel⟩
theorem w_457 : Cond.code yX4_powerFrom cX4_powerFrom 6 (some FieldType.long) ∈ lw_good := List.mem_filter.mpr ⟨List.mem_of_getElem? (i := 457) (by decide +kernel), by decide +kernel⟩
theorem w_458 : Cond.methodLink "IndicatorDiagram" 62 yX3_pistonAreaOf ∈ lw_good := List.mem_filter.mpr ⟨List.mem_of_getElem? (i := 458) (by decide +kernel), by decide +kernel⟩
theorem w_459 : Cond.instanceMethod yX3_pistonAreaOf ∈ lw_good := List.mem_filter.mpr ⟨List.mem_of_getElem? (i := 459) (by decide +kernel), by decide +kernel⟩
theorem w_460 : Cond.selects "IndicatorDiagram$State" yX3_pistonAreaOf yX3_pistonAreaOf ∈ lw_good := List.mem_filter.mpr ⟨List.mem_of_getElem? (i := 460) (by decide +kernel), by decide +kernel⟩
theorem w_461 : Cond.code yX3_pistonAreaOf cX3_pistonAreaOf 2 (some FieldType.int) ∈ lw_good := List.mem_filter.mpr ⟨List.mem_of_getElem? (i := 461) (by decide +kernel), by decide +kernel⟩
theorem w_462 : Cond.constantLong "IndicatorDiagram" 318 2400000 ∈ lw_good := List.mem_filter.mpr ⟨List.mem_of_getElem? (i := 462) (by decide +kernel), by decide +kernel⟩
theorem w_463 : Cond.methodLink "IndicatorDiagram" 257 yX4_longQuotient ∈ lw_good := List.mem_filter.mpr ⟨List.mem_of_getElem? (i := 463) (by decide +kernel), by decide +kernel⟩
theorem w_464 : Cond.static yX4_longQuotient ∈ lw_good := List.mem_filter.mpr ⟨List.mem_of_getElem? (i := 464) (by decide +kernel), by decide +kernel⟩
theorem w_465 : Cond.code yX4_longQuotient cX4_longQuotient 4 (some FieldType.long) ∈ lw_good := List.mem_filter.mpr ⟨List.mem_of_getElem? (i := 465) (by decide +kernel), by decide +kernel⟩
theorem w_466 : Cond.methodLink "IndicatorDiagram" 294 yJ9_floorDiv_f86c9 ∈ lw_good := List.mem_filter.mpr ⟨List.mem_of_getElem? (i := 466) (by decide +kernel), by decide +kernel⟩
theorem w_467 : Cond.static yJ9_floorDiv_f86c9 ∈ lw_good := List.mem_filter.mpr ⟨List.mem_of_getElem? (i := 467) (by decide +kernel), by decide +kernel⟩
theorem w_468 : Cond.code yJ9_floorDiv_f86c9 cJ9_floorDiv_f86c9 6 (some FieldType.long) ∈ lw_good := List.mem_filter.mpr ⟨List.mem_of_getElem? (i := 468) (by decide +kernel), by decide +kernel⟩
theorem w_469 : Cond.methodLink "IndicatorDiagramLaw" 40 yX4_end ∈ lw_good := List.mem_filter.mpr ⟨List.mem_of_getElem? (i := 469) (by decide +kernel), by decide +kernel⟩
theorem w_470 : Cond.instanceMethod yX4_end ∈ lw_good := List.mem_filter.mpr ⟨List.mem_of_getElem? (i := 470) (by decide +kernel), by decide +kernel⟩
theorem w_471 : Cond.selects "IndicatorDiagram" yX4_end yX4_end ∈ lw_good := List.mem_filter.mpr ⟨List.mem_of_getElem? (i := 471) (by decide +kernel), by decide +kernel⟩
theorem w_472 : Cond.code yX4_end cX4_end 2 (some FieldType.int) ∈ lw_good := List.mem_filter.mpr ⟨List.mem_of_getElem? (i := 472) (by decide +kernel), by decide +kernel⟩
theorem w_473 : Cond.constantLong "IndicatorDiagramLaw" 43 2 ∈ lw_good := List.mem_filter.mpr ⟨List.mem_of_getElem? (i := 473) (by decide +kernel), by decide +kernel⟩
theorem w_474 : Cond.methodLink "IndicatorDiagramLaw" 45 yX4_speed ∈ lw_good := List.mem_filter.mpr ⟨List.mem_of_getElem? (i := 474) (by decide +kernel), by decide +kernel⟩
theorem w_475 : Cond.instanceMethod yX4_speed ∈ lw_good := List.mem_filter.mpr ⟨List.mem_of_getElem? (i := 475) (by decide +kernel), by decide +kernel⟩
theorem w_476 : Cond.selects "IndicatorDiagram" yX4_speed yX4_speed ∈ lw_good := List.mem_filter.mpr ⟨List.mem_of_getElem? (i := 476) (by decide +kernel), by decide +kernel⟩
theorem w_477 : Cond.code yX4_speed cX4_speed 2 (some FieldType.int) ∈ lw_good := List.mem_filter.mpr ⟨List.mem_of_getElem? (i := 477) (by decide +kernel), by decide +kernel⟩
theorem w_478 : Cond.methodLink "IndicatorDiagramLaw" 48 yX4_power ∈ lw_good := List.mem_filter.mpr ⟨List.mem_of_getElem? (i := 478) (by decide +kernel), by decide +kernel⟩
theorem w_479 : Cond.instanceMethod yX4_power ∈ lw_good := List.mem_filter.mpr ⟨List.mem_of_getElem? (i := 479) (by decide +kernel), by decide +kernel⟩
theorem w_480 : Cond.selects "IndicatorDiagram" yX4_power yX4_power ∈ lw_good := List.mem_filter.mpr ⟨List.mem_of_getElem? (i := 480) (by decide +kernel), by decide +kernel⟩
theorem w_481 : Cond.code yX4_power cX4_power 2 (some FieldType.long) ∈ lw_good := List.mem_filter.mpr ⟨List.mem_of_getElem? (i := 481) (by decide +kernel), by decide +kernel⟩
theorem w_482 : Cond.methodLink "IndicatorDiagramLaw" 51 yX4_slip ∈ lw_good := List.mem_filter.mpr ⟨List.mem_of_getElem? (i := 482) (by decide +kernel), by decide +kernel⟩
theorem w_483 : Cond.instanceMethod yX4_slip ∈ lw_good := List.mem_filter.mpr ⟨List.mem_of_getElem? (i := 483) (by decide +kernel), by decide +kernel⟩
theorem w_484 : Cond.selects "IndicatorDiagram" yX4_slip yX4_slip ∈ lw_good := List.mem_filter.mpr ⟨List.mem_of_getElem? (i := 484) (by decide +kernel), by decide +kernel⟩
theorem w_485 : Cond.code yX4_slip cX4_slip 8 (some FieldType.int) ∈ lw_good := List.mem_filter.mpr ⟨List.mem_of_getElem? (i := 485) (by decide +kernel), by decide +kernel⟩
theorem w_486 : Cond.methodLink "IndicatorDiagram" 229 yX4_deviationFrom ∈ lw_good := List.mem_filter.mpr ⟨List.mem_of_getElem? (i := 486) (by decide +kernel), by decide +kernel⟩
theorem w_488 : Cond.instanceMethod yX4_deviationFrom ∈ lw_good := List.mem_filter.mpr ⟨List.mem_of_getElem? (i := 488) (by decide +kernel), by decide +kernel⟩
theorem w_489 : Cond.code yX4_deviationFrom cX4_deviationFrom 5 (some FieldType.int) ∈ lw_good := List.mem_filter.mpr ⟨List.mem_of_getElem? (i := 489) (by decide +kernel), by decide +kernel⟩
theorem w_490 : Cond.methodLink "IndicatorDiagram" 225 yX4_foundLateness ∈ lw_good := List.mem_filter.mpr ⟨List.mem_of_getElem? (i := 490) (by decide +kernel), by decide +kernel⟩
theorem w_492 : Cond.instanceMethod yX4_foundLateness ∈ lw_good := List.mem_filter.mpr ⟨List.mem_of_getElem? (i := 492) (by decide +kernel), by decide +kernel⟩
theorem w_493 : Cond.code yX4_foundLateness cX4_foundLateness 4 (some FieldType.int) ∈ lw_good := List.mem_filter.mpr ⟨List.mem_of_getElem? (i := 493) (by decide +kernel), by decide +kernel⟩
theorem w_494 : Cond.methodLink "IndicatorDiagram" 344 yJ9_abs_0f7a4 ∈ lw_good := List.mem_filter.mpr ⟨List.mem_of_getElem? (i := 494) (by decide +kernel), by decide +kernel⟩
theorem w_495 : Cond.static yJ9_abs_0f7a4 ∈ lw_good := List.mem_filter.mpr ⟨List.mem_of_getElem? (i := 495) (by decide +kernel), by decide +kernel⟩
theorem w_496 : Cond.code yJ9_abs_0f7a4 cJ9_abs_0f7a4 1 (some FieldType.int) ∈ lw_good := List.mem_filter.mpr ⟨List.mem_of_getElem? (i := 496) (by decide +kernel), by decide +kernel⟩
theorem w_497 : Cond.methodLink "IndicatorDiagramLaw" 54 yX4_leakage ∈ lw_good := List.mem_filter.mpr ⟨List.mem_of_getElem? (i := 497) (by decide +kernel), by decide +kernel⟩
theorem w_498 : Cond.instanceMethod yX4_leakage ∈ lw_good := List.mem_filter.mpr ⟨List.mem_of_getElem? (i := 498) (by decide +kernel), by decide +kernel⟩
theorem w_499 : Cond.selects "IndicatorDiagram" yX4_leakage yX4_leakage ∈ lw_good := List.mem_filter.mpr ⟨List.mem_of_getElem? (i := 499) (by decide +kernel), by decide +kernel⟩
theorem w_500 : Cond.code yX4_leakage cX4_leakage 4 (some FieldType.int) ∈ lw_good := List.mem_filter.mpr ⟨List.mem_of_getElem? (i := 500) (by decide +kernel), by decide +kernel⟩
theorem w_501 : Cond.methodLink "IndicatorDiagramLaw" 61 yX4_constant ∈ lw_good := List.mem_filter.mpr ⟨List.mem_of_getElem? (i := 501) (by decide +kernel), by decide +kernel⟩
theorem w_502 : Cond.instanceMethod yX4_constant ∈ lw_good := List.mem_filter.mpr ⟨List.mem_of_getElem? (i := 502) (by decide +kernel), by decide +kernel⟩
theorem w_503 : Cond.selects "IndicatorDiagram" yX4_constant yX4_constant ∈ lw_good := List.mem_filter.mpr ⟨List.mem_of_getElem? (i := 503) (by decide +kernel), by decide +kernel⟩
theorem w_504 : Cond.code yX4_constant cX4_constant 3 (some FieldType.int) ∈ lw_good := List.mem_filter.mpr ⟨List.mem_of_getElem? (i := 504) (by decide +kernel), by decide +kernel⟩
theorem w_505 : Cond.methodLink "IndicatorDiagramLaw" 67 yX4_imbalance ∈ lw_good := List.mem_filter.mpr ⟨List.mem_of_getElem? (i := 505) (by decide +kernel), by decide +kernel⟩
theorem w_506 : Cond.instanceMethod yX4_imbalance ∈ lw_good := List.mem_filter.mpr ⟨List.mem_of_getElem? (i := 506) (by decide +kernel), by decide +kernel⟩
theorem w_507 : Cond.selects "IndicatorDiagram" yX4_imbalance yX4_imbalance ∈ lw_good := List.mem_filter.mpr ⟨List.mem_of_getElem? (i := 507) (by decide +kernel), by decide +kernel⟩
theorem w_508 : Cond.code yX4_imbalance cX4_imbalance 5 (some FieldType.int) ∈ lw_good := List.mem_filter.mpr ⟨List.mem_of_getElem? (i := 508) (by decide +kernel), by decide +kernel⟩
theorem w_509 : Cond.methodLink "IndicatorDiagram" 249 yJ9_abs_067f4 ∈ lw_good := List.mem_filter.mpr ⟨List.mem_of_getElem? (i := 509) (by decide +kernel), by decide +kernel⟩
theorem w_510 : Cond.static yJ9_abs_067f4 ∈ lw_good := List.mem_filter.mpr ⟨List.mem_of_getElem? (i := 510) (by decide +kernel), by decide +kernel⟩
theorem w_511 : Cond.code yJ9_abs_067f4 cJ9_abs_067f4 2 (some FieldType.long) ∈ lw_good := List.mem_filter.mpr ⟨List.mem_of_getElem? (i := 511) (by decide +kernel), by decide +kernel⟩
theorem w_512 : Cond.constantLong "IndicatorDiagram" 255 1000 ∈ lw_good := List.mem_filter.mpr ⟨List.mem_of_getElem? (i := 512) (by decide +kernel), by decide +kernel⟩
theorem w_513 : Cond.methodLink "IndicatorDiagramLaw" 70 yX4_balancingCutOff ∈ lw_good := List.mem_filter.mpr ⟨List.mem_of_getElem? (i := 513) (by decide +kernel), by decide +kernel⟩
theorem w_514 : Cond.instanceMethod yX4_balancingCutOff ∈ lw_good := List.mem_filter.mpr ⟨List.mem_of_getElem? (i := 514) (by decide +kernel), by decide +kernel⟩
theorem w_515 : Cond.selects "IndicatorDiagram" yX4_balancingCutOff yX4_balancingCutOff ∈ lw_good := List.mem_filter.mpr ⟨List.mem_of_getElem? (i := 515) (by decide +kernel), by decide +kernel⟩
theorem w_516 : Cond.code yX4_balancingCutOff cX4_balancingCutOff 3 (some FieldType.int) ∈ lw_good := List.mem_filter.mpr ⟨List.mem_of_getElem? (i := 516) (by decide +kernel), by decide +kernel⟩
theorem w_517 : Cond.methodLink "IndicatorDiagram" 273 yX4_nearestCutOff ∈ lw_good := List.mem_filter.mpr ⟨List.mem_of_getElem? (i := 517) (by decide +kernel), by decide +kernel⟩
theorem w_519 : Cond.instanceMethod yX4_nearestCutOff ∈ lw_good := List.mem_filter.mpr ⟨List.mem_of_getElem? (i := 519) (by decide +kernel), by decide +kernel⟩
theorem w_520 : Cond.code yX4_nearestCutOff cX4_nearestCutOff 15 (some FieldType.int) ∈ lw_good := List.mem_filter.mpr ⟨List.mem_of_getElem? (i := 520) (by decide +kernel), by decide +kernel⟩
theorem w_521 : Cond.constantLong "IndicatorDiagram" 316 9223372036854775807 ∈ lw_good := List.mem_filter.mpr ⟨List.mem_of_getElem? (i := 521) (by decide +kernel), by decide +kernel⟩
theorem w_522 : Cond.methodLink "IndicatorDiagramLaw" 166 yL_isSound ∈ lw_good := List.mem_filter.mpr ⟨List.mem_of_getElem? (i := 522) (by decide +kernel), by decide +kernel⟩
theorem w_523 : Cond.static yL_isSound ∈ lw_good := List.mem_filter.mpr ⟨List.mem_of_getElem? (i := 523) (by decide +kernel), by decide +kernel⟩
theorem w_524 : Cond.code yL_isSound cL_isSound 14 (some FieldType.boolean) ∈ lw_good := List.mem_filter.mpr ⟨List.mem_of_getElem? (i := 524) (by decide +kernel), by decide +kernel⟩
theorem w_525 : Cond.methodLink "IndicatorDiagramLaw" 73 yX4_forwardArea ∈ lw_good := List.mem_filter.mpr ⟨List.mem_of_getElem? (i := 525) (by decide +kernel), by decide +kernel⟩
theorem w_526 : Cond.instanceMethod yX4_forwardArea ∈ lw_good := List.mem_filter.mpr ⟨List.mem_of_getElem? (i := 526) (by decide +kernel), by decide +kernel⟩
theorem w_527 : Cond.selects "IndicatorDiagram" yX4_forwardArea yX4_forwardArea ∈ lw_good := List.mem_filter.mpr ⟨List.mem_of_getElem? (i := 527) (by decide +kernel), by decide +kernel⟩
theorem w_528 : Cond.code yX4_forwardArea cX4_forwardArea 2 (some FieldType.int) ∈ lw_good := List.mem_filter.mpr ⟨List.mem_of_getElem? (i := 528) (by decide +kernel), by decide +kernel⟩
theorem w_529 : Cond.methodLink "IndicatorDiagram" 203 yX0_sumOfForwardAreas ∈ lw_good := List.mem_filter.mpr ⟨List.mem_of_getElem? (i := 529) (by decide +kernel), by decide +kernel⟩
theorem w_530 : Cond.instanceMethod yX0_sumOfForwardAreas ∈ lw_good := List.mem_filter.mpr ⟨List.mem_of_getElem? (i := 530) (by decide +kernel), by decide +kernel⟩
theorem w_531 : Cond.selects "IndicatorDiagram$Card" yX0_sumOfForwardAreas yX0_sumOfForwardAreas ∈ lw_good := List.mem_filter.mpr ⟨List.mem_of_getElem? (i := 531) (by decide +kernel), by decide +kernel⟩
theorem w_532 : Cond.code yX0_sumOfForwardAreas cX0_sumOfForwardAreas 3 (some FieldType.int) ∈ lw_good := List.mem_filter.mpr ⟨List.mem_of_getElem? (i := 532) (by decide +kernel), by decide +kernel⟩
theorem w_533 : Cond.methodLink "IndicatorDiagram$Card" 22 yX0_partAboveZero ∈ lw_good := List.mem_filter.mpr ⟨List.mem_of_getElem? (i := 533) (by decide +kernel), by decide +kernel⟩
theorem w_534 : Cond.static yX0_partAboveZero ∈ lw_good := List.mem_filter.mpr ⟨List.mem_of_getElem? (i := 534) (by decide +kernel), by decide +kernel⟩
theorem w_535 : Cond.code yX0_partAboveZero cX0_partAboveZero 4 (some FieldType.int) ∈ lw_good := List.mem_filter.mpr ⟨List.mem_of_getElem? (i := 535) (by decide +kernel), by decide +kernel⟩
theorem w_536 : Cond.methodLink "IndicatorDiagram$Card" 26 yJ9_max_7cf53 ∈ lw_good := List.mem_filter.mpr ⟨List.mem_of_getElem? (i := 536) (by decide +kernel), by decide +kernel⟩
theorem w_537 : Cond.methodLink "IndicatorDiagram$Card" 31 yJ9_min_7cf53 ∈ lw_good := List.mem_filter.mpr ⟨List.mem_of_getElem? (i := 537) (by decide +kernel), by decide +kernel⟩
theorem w_538 : Cond.methodLinkNest "IndicatorDiagram$Card" 34 yX4_quotient "IndicatorDiagram" ∈ lw_tbl := List.mem_of_getElem? (i := 538) (by decide +kernel)
theorem w_539 : Cond.methodLink "IndicatorDiagramLaw" 76 yX4_loopArea ∈ lw_good := List.mem_filter.mpr ⟨List.mem_of_getElem? (i := 539) (by decide +kernel), by decide +kernel⟩
theorem w_540 : Cond.instanceMethod yX4_loopArea ∈ lw_good := List.mem_filter.mpr ⟨List.mem_of_getElem? (i := 540) (by decide +kernel), by decide +kernel⟩
theorem w_541 : Cond.selects "IndicatorDiagram" yX4_loopArea yX4_loopArea ∈ lw_good := List.mem_filter.mpr ⟨List.mem_of_getElem? (i := 541) (by decide +kernel), by decide +kernel⟩
theorem w_542 : Cond.code yX4_loopArea cX4_loopArea 2 (some FieldType.int) ∈ lw_good := List.mem_filter.mpr ⟨List.mem_of_getElem? (i := 542) (by decide +kernel), by decide +kernel⟩
theorem w_543 : Cond.methodLink "IndicatorDiagram" 206 yX0_sumOfLoopAreas ∈ lw_good := List.mem_filter.mpr ⟨List.mem_of_getElem? (i := 543) (by decide +kernel), by decide +kernel⟩
theorem w_544 : Cond.instanceMethod yX0_sumOfLoopAreas ∈ lw_good := List.mem_filter.mpr ⟨List.mem_of_getElem? (i := 544) (by decide +kernel), by decide +kernel⟩
theorem w_545 : Cond.selects "IndicatorDiagram$Card" yX0_sumOfLoopAreas yX0_sumOfLoopAreas ∈ lw_good := List.mem_filter.mpr ⟨List.mem_of_getElem? (i := 545) (by decide +kernel), by decide +kernel⟩
theorem w_546 : Cond.code yX0_sumOfLoopAreas cX0_sumOfLoopAreas 3 (some FieldType.int) ∈ lw_good := List.mem_filter.mpr ⟨List.mem_of_getElem? (i := 546) (by decide +kernel), by decide +kernel⟩
theorem w_547 : Cond.methodLink "IndicatorDiagramLaw" 82 yX4_loopStations ∈ lw_good := List.mem_filter.mpr ⟨List.mem_of_getElem? (i := 547) (by decide +kernel), by decide +kernel⟩
theorem w_548 : Cond.instanceMethod yX4_loopStations ∈ lw_good := List.mem_filter.mpr ⟨List.mem_of_getElem? (i := 548) (by decide +kernel), by decide +kernel⟩
theorem w_549 : Cond.selects "IndicatorDiagram" yX4_loopStations yX4_loopStations ∈ lw_good := List.mem_filter.mpr ⟨List.mem_of_getElem? (i := 549) (by decide +kernel), by decide +kernel⟩
theorem w_550 : Cond.code yX4_loopStations cX4_loopStations 2 (some FieldType.int) ∈ lw_good := List.mem_filter.mpr ⟨List.mem_of_getElem? (i := 550) (by decide +kernel), by decide +kernel⟩
theorem w_551 : Cond.methodLink "IndicatorDiagram" 209 yX0_stationsBelowZero ∈ lw_good := List.mem_filter.mpr ⟨List.mem_of_getElem? (i := 551) (by decide +kernel), by decide +kernel⟩
theorem w_552 : Cond.instanceMethod yX0_stationsBelowZero ∈ lw_good := List.mem_filter.mpr ⟨List.mem_of_getElem? (i := 552) (by decide +kernel), by decide +kernel⟩
theorem w_553 : Cond.selects "IndicatorDiagram$Card" yX0_stationsBelowZero yX0_stationsBelowZero ∈ lw_good := List.mem_filter.mpr ⟨List.mem_of_getElem? (i := 553) (by decide +kernel), by decide +kernel⟩
theorem w_554 : Cond.code yX0_stationsBelowZero cX0_stationsBelowZero 3 (some FieldType.int) ∈ lw_good := List.mem_filter.mpr ⟨List.mem_of_getElem? (i := 554) (by decide +kernel), by decide +kernel⟩
theorem w_555 : Cond.methodLink "IndicatorDiagramLaw" 85 yX4_meanPressure ∈ lw_good := List.mem_filter.mpr ⟨List.mem_of_getElem? (i := 555) (by decide +kernel), by decide +kernel⟩
theorem w_556 : Cond.instanceMethod yX4_meanPressure ∈ lw_good := List.mem_filter.mpr ⟨List.mem_of_getElem? (i := 556) (by decide +kernel), by decide +kernel⟩
theorem w_557 : Cond.selects "IndicatorDiagram" yX4_meanPressure yX4_meanPressure ∈ lw_good := List.mem_filter.mpr ⟨List.mem_of_getElem? (i := 557) (by decide +kernel), by decide +kernel⟩
theorem w_558 : Cond.code yX4_meanPressure cX4_meanPressure 2 (some FieldType.int) ∈ lw_good := List.mem_filter.mpr ⟨List.mem_of_getElem? (i := 558) (by decide +kernel), by decide +kernel⟩
theorem w_559 : Cond.methodLink "IndicatorDiagramLaw" 93 yX4_lateness ∈ lw_good := List.mem_filter.mpr ⟨List.mem_of_getElem? (i := 559) (by decide +kernel), by decide +kernel⟩
theorem w_560 : Cond.instanceMethod yX4_lateness ∈ lw_good := List.mem_filter.mpr ⟨List.mem_of_getElem? (i := 560) (by decide +kernel), by decide +kernel⟩
theorem w_561 : Cond.selects "IndicatorDiagram" yX4_lateness yX4_lateness ∈ lw_good := List.mem_filter.mpr ⟨List.mem_of_getElem? (i := 561) (by decide +kernel), by decide +kernel⟩
theorem w_562 : Cond.code yX4_lateness cX4_lateness 3 (some FieldType.int) ∈ lw_good := List.mem_filter.mpr ⟨List.mem_of_getElem? (i := 562) (by decide +kernel), by decide +kernel⟩
theorem w_563 : Cond.methodLink "IndicatorDiagramLaw" 154 yL_acts ∈ lw_good := List.mem_filter.mpr ⟨List.mem_of_getElem? (i := 563) (by decide +kernel), by decide +kernel⟩
theorem w_564 : Cond.static yL_acts ∈ lw_good := List.mem_filter.mpr ⟨List.mem_of_getElem? (i := 564) (by decide +kernel), by decide +kernel⟩
theorem w_565 : Cond.code yL_acts cL_acts 3 (some FieldType.int) ∈ lw_good := List.mem_filter.mpr ⟨List.mem_of_getElem? (i := 565) (by decide +kernel), by decide +kernel⟩
theorem w_566 : Cond.methodLink "IndicatorDiagramLaw" 99 yX4_setPistonArea ∈ lw_good := List.mem_filter.mpr ⟨List.mem_of_getElem? (i := 566) (by decide +kernel), by decide +kernel⟩
theorem w_567 : Cond.instanceMethod yX4_setPistonArea ∈ lw_good := List.mem_filter.mpr ⟨List.mem_of_getElem? (i := 567) (by decide +kernel), by decide +kernel⟩
theorem w_568 : Cond.selects "IndicatorDiagram" yX4_setPistonArea yX4_setPistonArea ∈ lw_good := List.mem_filter.mpr ⟨List.mem_of_getElem? (i := 568) (by decide +kernel), by decide +kernel⟩
theorem w_569 : Cond.code yX4_setPistonArea cX4_setPistonArea 4 (some FieldType.int) ∈ lw_good := List.mem_filter.mpr ⟨List.mem_of_getElem? (i := 569) (by decide +kernel), by decide +kernel⟩
theorem w_570 : Cond.methodLink "IndicatorDiagramLaw" 102 yX4_setStroke ∈ lw_good := List.mem_filter.mpr ⟨List.mem_of_getElem? (i := 570) (by decide +kernel), by decide +kernel⟩
theorem w_571 : Cond.instanceMethod yX4_setStroke ∈ lw_good := List.mem_filter.mpr ⟨List.mem_of_getElem? (i := 571) (by decide +kernel), by decide +kernel⟩
theorem w_572 : Cond.selects "IndicatorDiagram" yX4_setStroke yX4_setStroke ∈ lw_good := List.mem_filter.mpr ⟨List.mem_of_getElem? (i := 572) (by decide +kernel), by decide +kernel⟩
theorem w_573 : Cond.code yX4_setStroke cX4_setStroke 3 (some FieldType.int) ∈ lw_good := List.mem_filter.mpr ⟨List.mem_of_getElem? (i := 573) (by decide +kernel), by decide +kernel⟩
theorem w_574 : Cond.methodLink "IndicatorDiagramLaw" 105 yX4_setBoilerPressure ∈ lw_good := List.mem_filter.mpr ⟨List.mem_of_getElem? (i := 574) (by decide +kernel), by decide +kernel⟩
theorem w_575 : Cond.instanceMethod yX4_setBoilerPressure ∈ lw_good := List.mem_filter.mpr ⟨List.mem_of_getElem? (i := 575) (by decide +kernel), by decide +kernel⟩
theorem w_576 : Cond.selects "IndicatorDiagram" yX4_setBoilerPressure yX4_setBoilerPressure ∈ lw_good := List.mem_filter.mpr ⟨List.mem_of_getElem? (i := 576) (by decide +kernel), by decide +kernel⟩
theorem w_577 : Cond.code yX4_setBoilerPressure cX4_setBoilerPressure 3 (some FieldType.int) ∈ lw_good := List.mem_filter.mpr ⟨List.mem_of_getElem? (i := 577) (by decide +kernel), by decide +kernel⟩
theorem w_578 : Cond.methodLink "IndicatorDiagramLaw" 108 yX4_setBackPressure ∈ lw_good := List.mem_filter.mpr ⟨List.mem_of_getElem? (i := 578) (by decide +kernel), by decide +kernel⟩
theorem w_579 : Cond.instanceMethod yX4_setBackPressure ∈ lw_good := List.mem_filter.mpr ⟨List.mem_of_getElem? (i := 579) (by decide +kernel), by decide +kernel⟩
theorem w_580 : Cond.selects "IndicatorDiagram" yX4_setBackPressure yX4_setBackPressure ∈ lw_good := List.mem_filter.mpr ⟨List.mem_of_getElem? (i := 580) (by decide +kernel), by decide +kernel⟩
theorem w_581 : Cond.code yX4_setBackPressure cX4_setBackPressure 3 (some FieldType.int) ∈ lw_good := List.mem_filter.mpr ⟨List.mem_of_getElem? (i := 581) (by decide +kernel), by decide +kernel⟩
theorem w_582 : Cond.methodLink "IndicatorDiagramLaw" 111 yX4_setFinding ∈ lw_good := List.mem_filter.mpr ⟨List.mem_of_getElem? (i := 582) (by decide +kernel), by decide +kernel⟩
theorem w_583 : Cond.instanceMethod yX4_setFinding ∈ lw_good := List.mem_filter.mpr ⟨List.mem_of_getElem? (i := 583) (by decide +kernel), by decide +kernel⟩
theorem w_584 : Cond.selects "IndicatorDiagram" yX4_setFinding yX4_setFinding ∈ lw_good := List.mem_filter.mpr ⟨List.mem_of_getElem? (i := 584) (by decide +kernel), by decide +kernel⟩
theorem w_585 : Cond.code yX4_setFinding cX4_setFinding 4 (some FieldType.int) ∈ lw_good := List.mem_filter.mpr ⟨List.mem_of_getElem? (i := 585) (by decide +kernel), by decide +kernel⟩
theorem w_586 : Cond.methodLink "IndicatorDiagramLaw" 114 yX4_setValves ∈ lw_good := List.mem_filter.mpr ⟨List.mem_of_getElem? (i := 586) (by decide +kernel), by decide +kernel⟩
theorem w_587 : Cond.instanceMethod yX4_setValves ∈ lw_good := List.mem_filter.mpr ⟨List.mem_of_getElem? (i := 587) (by decide +kernel), by decide +kernel⟩
theorem w_588 : Cond.selects "IndicatorDiagram" yX4_setValves yX4_setValves ∈ lw_good := List.mem_filter.mpr ⟨List.mem_of_getElem? (i := 588) (by decide +kernel), by decide +kernel⟩
theorem w_589 : Cond.code yX4_setValves cX4_setValves 7 (some FieldType.int) ∈ lw_good := List.mem_filter.mpr ⟨List.mem_of_getElem? (i := 589) (by decide +kernel), by decide +kernel⟩
theorem w_590 : Cond.methodLink "IndicatorDiagram" 87 yX4_areValves ∈ lw_good := List.mem_filter.mpr ⟨List.mem_of_getElem? (i := 590) (by decide +kernel), by decide +kernel⟩
theorem w_591 : Cond.static yX4_areValves ∈ lw_good := List.mem_filter.mpr ⟨List.mem_of_getElem? (i := 591) (by decide +kernel), by decide +kernel⟩
theorem w_592 : Cond.code yX4_areValves cX4_areValves 4 (some FieldType.boolean) ∈ lw_good := List.mem_filter.mpr ⟨List.mem_of_getElem? (i := 592) (by decide +kernel), by decide +kernel⟩
theorem w_593 : Cond.methodLink "IndicatorDiagramLaw" 131 yX4_removeCard ∈ lw_good := List.mem_filter.mpr ⟨List.mem_of_getElem? (i := 593) (by decide +kernel), by decide +kernel⟩
theorem w_594 : Cond.instanceMethod yX4_removeCard ∈ lw_good := List.mem_filter.mpr ⟨List.mem_of_getElem? (i := 594) (by decide +kernel), by decide +kernel⟩
theorem w_595 : Cond.selects "IndicatorDiagram" yX4_removeCard yX4_removeCard ∈ lw_good := List.mem_filter.mpr ⟨List.mem_of_getElem? (i := 595) (by decide +kernel), by decide +kernel⟩
theorem w_596 : Cond.code yX4_removeCard cX4_removeCard 2 (some FieldType.int) ∈ lw_good := List.mem_filter.mpr ⟨List.mem_of_getElem? (i := 596) (by decide +kernel), by decide +kernel⟩
theorem w_597 : Cond.methodLink "IndicatorDiagram" 188 yX3_dropCard ∈ lw_good := List.mem_filter.mpr ⟨List.mem_of_getElem? (i := 597) (by decide +kernel), by decide +kernel⟩
theorem w_598 : Cond.instanceMethod yX3_dropCard ∈ lw_good := List.mem_filter.mpr ⟨List.mem_of_getElem? (i := 598) (by decide +kernel), by decide +kernel⟩
theorem w_599 : Cond.selects "IndicatorDiagram$State" yX3_dropCard yX3_dropCard ∈ lw_good := List.mem_filter.mpr ⟨List.mem_of_getElem? (i := 599) (by decide +kernel), by decide +kernel⟩
theorem w_600 : Cond.code yX3_dropCard cX3_dropCard 3 none ∈ lw_good := List.mem_filter.mpr ⟨List.mem_of_getElem? (i := 600) (by decide +kernel), by decide +kernel⟩
theorem w_601 : Cond.methodLink "IndicatorDiagramLaw" 134 yX4_removeOutliers ∈ lw_good := List.mem_filter.mpr ⟨List.mem_of_getElem? (i := 601) (by decide +kernel), by decide +kernel⟩
theorem w_602 : Cond.instanceMethod yX4_removeOutliers ∈ lw_good := List.mem_filter.mpr ⟨List.mem_of_getElem? (i := 602) (by decide +kernel), by decide +kernel⟩
theorem w_603 : Cond.selects "IndicatorDiagram" yX4_removeOutliers yX4_removeOutliers ∈ lw_good := List.mem_filter.mpr ⟨List.mem_of_getElem? (i := 603) (by decide +kernel), by decide +kernel⟩
theorem w_604 : Cond.code yX4_removeOutliers cX4_removeOutliers 6 (some FieldType.int) ∈ lw_good := List.mem_filter.mpr ⟨List.mem_of_getElem? (i := 604) (by decide +kernel), by decide +kernel⟩
theorem w_605 : Cond.methodLink "IndicatorDiagram" 261 yX4_medianArea ∈ lw_good := List.mem_filter.mpr ⟨List.mem_of_getElem? (i := 605) (by decide +kernel), by decide +kernel⟩
theorem w_607 : Cond.instanceMethod yX4_medianArea ∈ lw_good := List.mem_filter.mpr ⟨List.mem_of_getElem? (i := 607) (by decide +kernel), by decide +kernel⟩
theorem w_608 : Cond.code yX4_medianArea cX4_medianArea 4 (some FieldType.int) ∈ lw_good := List.mem_filter.mpr ⟨List.mem_of_getElem? (i := 608) (by decide +kernel), by decide +kernel⟩
theorem w_609 : Cond.methodLink "IndicatorDiagram" 346 yX4_insertSorted ∈ lw_good := List.mem_filter.mpr ⟨List.mem_of_getElem? (i := 609) (by decide +kernel), by decide +kernel⟩
theorem w_611 : Cond.instanceMethod yX4_insertSorted ∈ lw_good := List.mem_filter.mpr ⟨List.mem_of_getElem? (i := 611) (by decide +kernel), by decide +kernel⟩
theorem w_612 : Cond.code yX4_insertSorted cX4_insertSorted 4 none ∈ lw_good := List.mem_filter.mpr ⟨List.mem_of_getElem? (i := 612) (by decide +kernel), by decide +kernel⟩
theorem w_613 : Cond.methodLink "IndicatorDiagram" 264 yX4_isOutlier ∈ lw_good := List.mem_filter.mpr ⟨List.mem_of_getElem? (i := 613) (by decide +kernel), by decide +kernel⟩
theorem w_614 : Cond.static yX4_isOutlier ∈ lw_good := List.mem_filter.mpr ⟨List.mem_of_getElem? (i := 614) (by decide +kernel), by decide +kernel⟩
theorem w_615 : Cond.code yX4_isOutlier cX4_isOutlier 3 (some FieldType.boolean) ∈ lw_good := List.mem_filter.mpr ⟨List.mem_of_getElem? (i := 615) (by decide +kernel), by decide +kernel⟩
theorem w_616 : Cond.methodLink "IndicatorDiagramLaw" 162 yL_areMeans ∈ lw_good := List.mem_filter.mpr ⟨List.mem_of_getElem? (i := 616) (by decide +kernel), by decide +kernel⟩
theorem w_617 : Cond.static yL_areMeans ∈ lw_good := List.mem_filter.mpr ⟨List.mem_of_getElem? (i := 617) (by decide +kernel), by decide +kernel⟩
theorem w_618 : Cond.code yL_areMeans cL_areMeans 11 (some FieldType.boolean) ∈ lw_good := List.mem_filter.mpr ⟨List.mem_of_getElem? (i := 618) (by decide +kernel), by decide +kernel⟩
theorem w_619 : Cond.constant "IndicatorDiagramLaw" 137 (-2000000004) ∈ lw_good := List.mem_filter.mpr ⟨List.mem_of_getElem? (i := 619) (by decide +kernel), by decide +kernel⟩
theorem w_620 : Cond.constantLong "IndicatorDiagramLaw" 138 (-2000000004) ∈ lw_good := List.mem_filter.mpr ⟨List.mem_of_getElem? (i := 620) (by decide +kernel), by decide +kernel⟩
theorem w_621 : Cond.constant "IndicatorDiagramLaw" 140 (-2000000002) ∈ lw_good := List.mem_filter.mpr ⟨List.mem_of_getElem? (i := 621) (by decide +kernel), by decide +kernel⟩
theorem w_622 : Cond.constantLong "IndicatorDiagramLaw" 141 (-40) ∈ lw_good := List.mem_filter.mpr ⟨List.mem_of_getElem? (i := 622) (by decide +kernel), by decide +kernel⟩
theorem w_623 : Cond.constantLong "IndicatorDiagramLaw" 143 40 ∈ lw_good := List.mem_filter.mpr ⟨List.mem_of_getElem? (i := 623) (by decide +kernel), by decide +kernel⟩
theorem w_624 : Cond.constant "IndicatorDiagramLaw" 158 (-1000000000) ∈ lw_good := List.mem_filter.mpr ⟨List.mem_of_getElem? (i := 624) (by decide +kernel), by decide +kernel⟩
theorem w_625 : Cond.constant "IndicatorDiagramLaw" 170 (-2000000003) ∈ lw_good := List.mem_filter.mpr ⟨List.mem_of_getElem? (i := 625) (by decide +kernel), by decide +kernel⟩
theorem w_626 : Cond.constant "IndicatorDiagramLaw" 174 (-2000000001) ∈ lw_good := List.mem_filter.mpr ⟨List.mem_of_getElem? (i := 626) (by decide +kernel), by decide +kernel⟩
theorem i_X0 : ∀ w ∈ u_ws RX0 TX0 4, w ∈ lw_good := by
  show ∀ w ∈ [Cond.lays "IndicatorDiagram$Card" "IndicatorDiagram$Card" "end" "I", Cond.lays "IndicatorDiagram$Card" "IndicatorDiagram$Card" "speed" "I", Cond.laysFinal "IndicatorDiagram$Card" "IndicatorDiagram$Card" "outward" "[I", Cond.laysFinal "IndicatorDiagram$Card" "IndicatorDiagram$Card" "inward" "[I"], w ∈ lw_good
  exact List.forall_mem_cons.mpr ⟨w_52, List.forall_mem_cons.mpr ⟨w_54, List.forall_mem_cons.mpr ⟨w_56, List.forall_mem_cons.mpr ⟨w_58, fun _ h => absurd h List.not_mem_nil⟩⟩⟩⟩
theorem i_X1 : ∀ w ∈ u_ws RX1 TX1 5, w ∈ lw_good := by
  show ∀ w ∈ [Cond.lays "IndicatorDiagram$Draft" "IndicatorDiagram$Draft" "present" "Z", Cond.lays "IndicatorDiagram$Draft" "IndicatorDiagram$Draft" "end" "I", Cond.lays "IndicatorDiagram$Draft" "IndicatorDiagram$Draft" "speed" "I", Cond.laysFinal "IndicatorDiagram$Draft" "IndicatorDiagram$Draft" "outward" "[I", Cond.laysFinal "IndicatorDiagram$Draft" "IndicatorDiagram$Draft" "inward" "[I"], w ∈ lw_good
  exact List.forall_mem_cons.mpr ⟨w_109, List.forall_mem_cons.mpr ⟨w_111, List.forall_mem_cons.mpr ⟨w_113, List.forall_mem_cons.mpr ⟨w_115, List.forall_mem_cons.mpr ⟨w_117, fun _ h => absurd h List.not_mem_nil⟩⟩⟩⟩⟩
theorem i_X2 : ∀ w ∈ u_ws RX2 TX2 4, w ∈ lw_good := by
  show ∀ w ∈ [Cond.lays "IndicatorDiagram$Events" "IndicatorDiagram$Events" "admission" "I", Cond.lays "IndicatorDiagram$Events" "IndicatorDiagram$Events" "cutOff" "I", Cond.lays "IndicatorDiagram$Events" "IndicatorDiagram$Events" "release" "I", Cond.lays "IndicatorDiagram$Events" "IndicatorDiagram$Events" "compression" "I"], w ∈ lw_good
  exact List.forall_mem_cons.mpr ⟨w_76, List.forall_mem_cons.mpr ⟨w_78, List.forall_mem_cons.mpr ⟨w_80, List.forall_mem_cons.mpr ⟨w_82, fun _ h => absurd h List.not_mem_nil⟩⟩⟩⟩
theorem i_X3 : ∀ w ∈ u_ws RX3 TX3 13, w ∈ lw_good := by
  show ∀ w ∈ [Cond.lays "IndicatorDiagram$State" "IndicatorDiagram$State" "clearance" "I", Cond.lays "IndicatorDiagram$State" "IndicatorDiagram$State" "headPistonArea" "I", Cond.lays "IndicatorDiagram$State" "IndicatorDiagram$State" "crankPistonArea" "I", Cond.lays "IndicatorDiagram$State" "IndicatorDiagram$State" "strokeLength" "I", Cond.lays "IndicatorDiagram$State" "IndicatorDiagram$State" "boilerPressure" "I", Cond.lays "IndicatorDiagram$State" "IndicatorDiagram$State" "backPressure" "I", Cond.lays "IndicatorDiagram$State" "IndicatorDiagram$State" "band" "I", Cond.lays "IndicatorDiagram$State" "IndicatorDiagram$State" "tolerance" "I", Cond.laysFinal "IndicatorDiagram$State" "IndicatorDiagram$State" "headValves" "LIndicatorDiagram$Events;", Cond.laysFinal "IndicatorDiagram$State" "IndicatorDiagram$State" "crankValves" "LIndicatorDiagram$Events;", Cond.laysFinal "IndicatorDiagram$State" "IndicatorDiagram$State" "draft" "LIndicatorDiagram$Draft;", Cond.laysFinal "IndicatorDiagram$State" "IndicatorDiagram$State" "cards" "[LIndicatorDiagram$Card;", Cond.lays "IndicatorDiagram$State" "IndicatorDiagram$State" "count" "I"], w ∈ lw_good
  exact List.forall_mem_cons.mpr ⟨w_147, List.forall_mem_cons.mpr ⟨w_149, List.forall_mem_cons.mpr ⟨w_151, List.forall_mem_cons.mpr ⟨w_153, List.forall_mem_cons.mpr ⟨w_155, List.forall_mem_cons.mpr ⟨w_157, List.forall_mem_cons.mpr ⟨w_159, List.forall_mem_cons.mpr ⟨w_161, List.forall_mem_cons.mpr ⟨w_163, List.forall_mem_cons.mpr ⟨w_165, List.forall_mem_cons.mpr ⟨w_167, List.forall_mem_cons.mpr ⟨w_169, List.forall_mem_cons.mpr ⟨w_171, fun _ h => absurd h List.not_mem_nil⟩⟩⟩⟩⟩⟩⟩⟩⟩⟩⟩⟩⟩
theorem i_X4 : ∀ w ∈ u_ws RX4 TX4 7, w ∈ lw_good := by
  show ∀ w ∈ [Cond.laysFinal "IndicatorDiagram" "IndicatorDiagram" "now" "LIndicatorDiagram$State;", Cond.laysFinal "IndicatorDiagram" "IndicatorDiagram" "history" "[LIndicatorDiagram$State;", Cond.lays "IndicatorDiagram" "IndicatorDiagram" "states" "I", Cond.laysFinal "IndicatorDiagram" "IndicatorDiagram" "trial" "LIndicatorDiagram$Card;", Cond.laysFinal "IndicatorDiagram" "IndicatorDiagram" "trialEvents" "LIndicatorDiagram$Events;", Cond.laysFinal "IndicatorDiagram" "IndicatorDiagram" "found" "LIndicatorDiagram$Events;", Cond.laysFinal "IndicatorDiagram" "IndicatorDiagram" "sortedAreas" "[I"], w ∈ lw_good
  exact List.forall_mem_cons.mpr ⟨w_182, List.forall_mem_cons.mpr ⟨w_184, List.forall_mem_cons.mpr ⟨w_186, List.forall_mem_cons.mpr ⟨w_188, List.forall_mem_cons.mpr ⟨w_190, List.forall_mem_cons.mpr ⟨w_192, List.forall_mem_cons.mpr ⟨w_194, fun _ h => absurd h List.not_mem_nil⟩⟩⟩⟩⟩⟩⟩
theorem i_X5 : ∀ w ∈ u_ws RX5 TX5 0, w ∈ lw_good := by
  show ∀ w ∈ [], w ∈ lw_good
  exact fun _ h => absurd h List.not_mem_nil
