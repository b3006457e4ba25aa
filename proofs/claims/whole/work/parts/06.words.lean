/-! the tables' words, a row each -/
theorem jw_0 : Cond.initialized "CodeCoverLaw" ∈ jm_wG := jm_mem1 (List.mem_of_getElem? (i := 0) rfl) rfl
theorem jw_1 : Cond.initialized "CodeCover" ∈ jm_wG := jm_mem1 (List.mem_of_getElem? (i := 1) rfl) rfl
theorem jw_2 : Cond.initialized "CodeCover$Pad" ∈ jm_wG := jm_mem1 (List.mem_of_getElem? (i := 2) rfl) rfl
theorem jw_3 : Cond.initialized "CodeCover$Tree" ∈ jm_wG := jm_mem1 (List.mem_of_getElem? (i := 3) rfl) rfl
theorem jw_4 : Cond.initialized "CodeCover$Patterns" ∈ jm_wG := jm_mem1 (List.mem_of_getElem? (i := 4) rfl) rfl
theorem jw_5 : Cond.initialized "CodeCover$Covering" ∈ jm_wG := jm_mem1 (List.mem_of_getElem? (i := 5) rfl) rfl
theorem jw_6 : Cond.initialized "CodeCover$Row" ∈ jm_wG := jm_mem1 (List.mem_of_getElem? (i := 6) rfl) rfl
theorem jw_7 : Cond.initialized "CodeCover$Order" ∈ jm_wG := jm_mem1 (List.mem_of_getElem? (i := 7) rfl) rfl
theorem jw_8 : Cond.initialized "CodeCover$Lifetimes" ∈ jm_wG := jm_mem1 (List.mem_of_getElem? (i := 8) rfl) rfl
theorem jw_9 : Cond.initialized "CodeCover$Machine" ∈ jm_wG := jm_mem1 (List.mem_of_getElem? (i := 9) rfl) rfl
theorem jw_10 : Cond.initialized "CodeCover$Search" ∈ jm_wG := jm_mem1 (List.mem_of_getElem? (i := 10) rfl) rfl
theorem jw_11 : Cond.initialized "CodeCover$Moves" ∈ jm_wG := jm_mem1 (List.mem_of_getElem? (i := 11) rfl) rfl
theorem jw_12 : Cond.initialized "CodeCoverModel" ∈ jm_wG := jm_mem1 (List.mem_of_getElem? (i := 12) rfl) rfl
theorem jw_13 : Cond.initialized "java/lang/Math" ∈ jm_wG := jm_mem1 (List.mem_of_getElem? (i := 13) rfl) rfl
theorem jw_14 : Cond.initialized "java/lang/System" ∈ jm_wG := jm_mem1 (List.mem_of_getElem? (i := 14) rfl) rfl
theorem jw_15 : Cond.initialized "java/lang/Integer" ∈ jm_wG := jm_mem1 (List.mem_of_getElem? (i := 15) rfl) rfl
theorem jw_16 : Cond.classLink "CodeCoverLaw" 7 "CodeCover" ∈ jm_wG := jm_mem1 (List.mem_of_getElem? (i := 16) rfl) rfl
theorem jw_17 : Cond.instantiable "CodeCover" 9 ∈ jm_wG := jm_mem1 (List.mem_of_getElem? (i := 17) rfl) rfl
theorem jw_18 : Cond.methodLink "CodeCoverLaw" 9 ({ cls := "CodeCover", name := "<init>", desc := "()V" } : MethodName) ∈ jm_wG := jm_mem1 (List.mem_of_getElem? (i := 18) rfl) rfl
theorem jw_19 : Cond.instanceMethod ({ cls := "CodeCover", name := "<init>", desc := "()V" } : MethodName) ∈ jm_wG := jm_mem1 (List.mem_of_getElem? (i := 19) rfl) rfl
theorem jw_20 : Cond.code ({ cls := "CodeCover", name := "<init>", desc := "()V" } : MethodName) prog_1_method_1_code 1 (Option.none : Option FieldType) ∈ jm_wG := jm_mem1 (List.mem_of_getElem? (i := 20) rfl) rfl
theorem jw_21 : Cond.methodLink "CodeCover" 1 ({ cls := "java/lang/Object", name := "<init>", desc := "()V" } : MethodName) ∈ jm_wG := jm_mem1 (List.mem_of_getElem? (i := 21) rfl) rfl
theorem jw_22 : Cond.instanceMethod ({ cls := "java/lang/Object", name := "<init>", desc := "()V" } : MethodName) ∈ jm_wG := jm_mem1 (List.mem_of_getElem? (i := 22) rfl) rfl
theorem jw_23 : Cond.code ({ cls := "java/lang/Object", name := "<init>", desc := "()V" } : MethodName) object_method_1_code 1 (Option.none : Option FieldType) ∈ jm_wG := jm_mem1 (List.mem_of_getElem? (i := 23) rfl) rfl
theorem jw_24 : Cond.classLink "CodeCover" 7 "CodeCover$Pad" ∈ jm_wG := jm_mem1 (List.mem_of_getElem? (i := 24) rfl) rfl
theorem jw_25 : Cond.instantiable "CodeCover$Pad" 3 ∈ jm_wG := jm_mem1 (List.mem_of_getElem? (i := 25) rfl) rfl
theorem jw_27 : Cond.instanceMethod ({ cls := "CodeCover$Pad", name := "<init>", desc := "()V" } : MethodName) ∈ jm_wG := jm_mem1 (List.mem_of_getElem? (i := 27) rfl) rfl
theorem jw_28 : Cond.code ({ cls := "CodeCover$Pad", name := "<init>", desc := "()V" } : MethodName) prog_7_method_1_code 1 (Option.none : Option FieldType) ∈ jm_wG := jm_mem1 (List.mem_of_getElem? (i := 28) rfl) rfl
theorem jw_29 : Cond.methodLink "CodeCover$Pad" 3 ({ cls := "java/lang/Object", name := "<init>", desc := "()V" } : MethodName) ∈ jm_wG := jm_mem1 (List.mem_of_getElem? (i := 29) rfl) rfl
theorem jw_30 : Cond.fieldLink "CodeCover$Pad" 11 "CodeCover$Pad" "sign" "[I" ∈ jm_wG := jm_mem1 (List.mem_of_getElem? (i := 30) rfl) rfl
theorem jw_31 : Cond.fieldLink "CodeCover$Patterns" 36 "CodeCover$Pad" "sign" "[I" ∈ jm_wG := jm_mem1 (List.mem_of_getElem? (i := 31) rfl) rfl
theorem jw_32 : Cond.fieldLink "CodeCover$Tree" 35 "CodeCover$Pad" "sign" "[I" ∈ jm_wG := jm_mem1 (List.mem_of_getElem? (i := 32) rfl) rfl
theorem jw_33 : Cond.fieldLink "CodeCover$Pad" 15 "CodeCover$Pad" "open" "[I" ∈ jm_wG := jm_mem1 (List.mem_of_getElem? (i := 33) rfl) rfl
theorem jw_34 : Cond.fieldLink "CodeCover$Pad" 18 "CodeCover$Pad" "count" "I" ∈ jm_wG := jm_mem1 (List.mem_of_getElem? (i := 34) rfl) rfl
theorem jw_35 : Cond.fieldLink "CodeCover$Patterns" 26 "CodeCover$Pad" "count" "I" ∈ jm_wG := jm_mem1 (List.mem_of_getElem? (i := 35) rfl) rfl
theorem jw_36 : Cond.fieldLink "CodeCover" 82 "CodeCover$Pad" "count" "I" ∈ jm_wG := jm_mem1 (List.mem_of_getElem? (i := 36) rfl) rfl
theorem jw_37 : Cond.fieldLink "CodeCover$Tree" 26 "CodeCover$Pad" "count" "I" ∈ jm_wG := jm_mem1 (List.mem_of_getElem? (i := 37) rfl) rfl
theorem jw_45 : Cond.arrayClass FieldType.int ∈ jm_wG := jm_mem1 (List.mem_of_getElem? (i := 45) rfl) rfl
theorem jw_46 : Cond.classLink "CodeCover" 16 "CodeCover$Tree" ∈ jm_wG := jm_mem1 (List.mem_of_getElem? (i := 46) rfl) rfl
theorem jw_47 : Cond.instantiable "CodeCover$Tree" 5 ∈ jm_wG := jm_mem1 (List.mem_of_getElem? (i := 47) rfl) rfl
theorem jw_49 : Cond.instanceMethod ({ cls := "CodeCover$Tree", name := "<init>", desc := "()V" } : MethodName) ∈ jm_wG := jm_mem1 (List.mem_of_getElem? (i := 49) rfl) rfl
theorem jw_50 : Cond.code ({ cls := "CodeCover$Tree", name := "<init>", desc := "()V" } : MethodName) prog_11_method_1_code 1 (Option.none : Option FieldType) ∈ jm_wG := jm_mem1 (List.mem_of_getElem? (i := 50) rfl) rfl
theorem jw_51 : Cond.methodLink "CodeCover$Tree" 1 ({ cls := "java/lang/Object", name := "<init>", desc := "()V" } : MethodName) ∈ jm_wG := jm_mem1 (List.mem_of_getElem? (i := 51) rfl) rfl
theorem jw_52 : Cond.fieldLink "CodeCover$Tree" 9 "CodeCover$Tree" "sign" "[I" ∈ jm_wG := jm_mem1 (List.mem_of_getElem? (i := 52) rfl) rfl
theorem jw_53 : Cond.fieldLink "CodeCover" 102 "CodeCover$Tree" "sign" "[I" ∈ jm_wG := jm_mem1 (List.mem_of_getElem? (i := 53) rfl) rfl
theorem jw_54 : Cond.fieldLink "CodeCover$Covering" 99 "CodeCover$Tree" "sign" "[I" ∈ jm_wG := jm_mem1 (List.mem_of_getElem? (i := 54) rfl) rfl
theorem jw_55 : Cond.fieldLink "CodeCover$Tree" 13 "CodeCover$Tree" "parent" "[I" ∈ jm_wG := jm_mem1 (List.mem_of_getElem? (i := 55) rfl) rfl
theorem jw_56 : Cond.fieldLink "CodeCover" 106 "CodeCover$Tree" "parent" "[I" ∈ jm_wG := jm_mem1 (List.mem_of_getElem? (i := 56) rfl) rfl
theorem jw_57 : Cond.fieldLink "CodeCover$Tree" 16 "CodeCover$Tree" "size" "[I" ∈ jm_wG := jm_mem1 (List.mem_of_getElem? (i := 57) rfl) rfl
theorem jw_58 : Cond.fieldLink "CodeCover" 113 "CodeCover$Tree" "size" "[I" ∈ jm_wG := jm_mem1 (List.mem_of_getElem? (i := 58) rfl) rfl
theorem jw_59 : Cond.fieldLink "CodeCover$Covering" 96 "CodeCover$Tree" "size" "[I" ∈ jm_wG := jm_mem1 (List.mem_of_getElem? (i := 59) rfl) rfl
theorem jw_60 : Cond.fieldLink "CodeCover$Tree" 19 "CodeCover$Tree" "need" "[I" ∈ jm_wG := jm_mem1 (List.mem_of_getElem? (i := 60) rfl) rfl
theorem jw_61 : Cond.fieldLink "CodeCover" 116 "CodeCover$Tree" "need" "[I" ∈ jm_wG := jm_mem1 (List.mem_of_getElem? (i := 61) rfl) rfl
theorem jw_62 : Cond.fieldLink "CodeCover$Tree" 22 "CodeCover$Tree" "count" "I" ∈ jm_wG := jm_mem1 (List.mem_of_getElem? (i := 62) rfl) rfl
theorem jw_63 : Cond.fieldLink "CodeCover$Covering" 42 "CodeCover$Tree" "count" "I" ∈ jm_wG := jm_mem1 (List.mem_of_getElem? (i := 63) rfl) rfl
theorem jw_64 : Cond.fieldLink "CodeCover" 98 "CodeCover$Tree" "count" "I" ∈ jm_wG := jm_mem1 (List.mem_of_getElem? (i := 64) rfl) rfl
theorem jw_76 : Cond.classLink "CodeCover" 23 "CodeCover$Patterns" ∈ jm_wG := jm_mem1 (List.mem_of_getElem? (i := 76) rfl) rfl
theorem jw_77 : Cond.instantiable "CodeCover$Patterns" 5 ∈ jm_wG := jm_mem1 (List.mem_of_getElem? (i := 77) rfl) rfl
theorem jw_79 : Cond.instanceMethod ({ cls := "CodeCover$Patterns", name := "<init>", desc := "()V" } : MethodName) ∈ jm_wG := jm_mem1 (List.mem_of_getElem? (i := 79) rfl) rfl
theorem jw_80 : Cond.code ({ cls := "CodeCover$Patterns", name := "<init>", desc := "()V" } : MethodName) prog_8_method_1_code 1 (Option.none : Option FieldType) ∈ jm_wG := jm_mem1 (List.mem_of_getElem? (i := 80) rfl) rfl
theorem jw_81 : Cond.methodLink "CodeCover$Patterns" 3 ({ cls := "java/lang/Object", name := "<init>", desc := "()V" } : MethodName) ∈ jm_wG := jm_mem1 (List.mem_of_getElem? (i := 81) rfl) rfl
theorem jw_82 : Cond.classLink "CodeCover$Patterns" 21 "[[I" ∈ jm_wG := jm_mem1 (List.mem_of_getElem? (i := 82) rfl) rfl
theorem jw_84 : Cond.fieldLink "CodeCover$Patterns" 11 "CodeCover$Patterns" "head" "[I" ∈ jm_wG := jm_mem1 (List.mem_of_getElem? (i := 84) rfl) rfl
theorem jw_85 : Cond.fieldLink "CodeCover$Covering" 75 "CodeCover$Patterns" "head" "[I" ∈ jm_wG := jm_mem1 (List.mem_of_getElem? (i := 85) rfl) rfl
theorem jw_86 : Cond.fieldLink "CodeCover$Patterns" 15 "CodeCover$Patterns" "price" "[I" ∈ jm_wG := jm_mem1 (List.mem_of_getElem? (i := 86) rfl) rfl
theorem jw_87 : Cond.fieldLink "CodeCover$Covering" 78 "CodeCover$Patterns" "price" "[I" ∈ jm_wG := jm_mem1 (List.mem_of_getElem? (i := 87) rfl) rfl
theorem jw_88 : Cond.fieldLink "CodeCover" 133 "CodeCover$Patterns" "price" "[I" ∈ jm_wG := jm_mem1 (List.mem_of_getElem? (i := 88) rfl) rfl
theorem jw_89 : Cond.fieldLink "CodeCover$Patterns" 18 "CodeCover$Patterns" "length" "[I" ∈ jm_wG := jm_mem1 (List.mem_of_getElem? (i := 89) rfl) rfl
theorem jw_90 : Cond.fieldLink "CodeCover$Covering" 81 "CodeCover$Patterns" "length" "[I" ∈ jm_wG := jm_mem1 (List.mem_of_getElem? (i := 90) rfl) rfl
theorem jw_91 : Cond.fieldLink "CodeCover$Patterns" 23 "CodeCover$Patterns" "text" "[[I" ∈ jm_wG := jm_mem1 (List.mem_of_getElem? (i := 91) rfl) rfl
theorem jw_92 : Cond.fieldLink "CodeCover$Covering" 84 "CodeCover$Patterns" "text" "[[I" ∈ jm_wG := jm_mem1 (List.mem_of_getElem? (i := 92) rfl) rfl
theorem jw_93 : Cond.fieldLink "CodeCover$Patterns" 43 "CodeCover$Patterns" "count" "I" ∈ jm_wG := jm_mem1 (List.mem_of_getElem? (i := 93) rfl) rfl
theorem jw_94 : Cond.fieldLink "CodeCover$Covering" 65 "CodeCover$Patterns" "count" "I" ∈ jm_wG := jm_mem1 (List.mem_of_getElem? (i := 94) rfl) rfl
theorem jw_95 : Cond.fieldLink "CodeCover" 125 "CodeCover$Patterns" "count" "I" ∈ jm_wG := jm_mem1 (List.mem_of_getElem? (i := 95) rfl) rfl
theorem jw_107 : Cond.classLink "CodeCover" 30 "CodeCover$Covering" ∈ jm_wG := jm_mem1 (List.mem_of_getElem? (i := 107) rfl) rfl
theorem jw_108 : Cond.instantiable "CodeCover$Covering" 10 ∈ jm_wG := jm_mem1 (List.mem_of_getElem? (i := 108) rfl) rfl
theorem jw_109 : Cond.methodLink "CodeCover" 32 ({ cls := "CodeCover$Covering", name := "<init>", desc := "(LCodeCover$Tree;LCodeCover$Patterns;)V" } : MethodName) ∈ jm_wG := jm_mem1 (List.mem_of_getElem? (i := 109) rfl) rfl
theorem jw_110 : Cond.instanceMethod ({ cls := "CodeCover$Covering", name := "<init>", desc := "(LCodeCover$Tree;LCodeCover$Patterns;)V" } : MethodName) ∈ jm_wG := jm_mem1 (List.mem_of_getElem? (i := 110) rfl) rfl
theorem jw_111 : Cond.code ({ cls := "CodeCover$Covering", name := "<init>", desc := "(LCodeCover$Tree;LCodeCover$Patterns;)V" } : MethodName) prog_2_method_1_code 3 (Option.none : Option FieldType) ∈ jm_wG := jm_mem1 (List.mem_of_getElem? (i := 111) rfl) rfl
theorem jw_112 : Cond.methodLink "CodeCover$Covering" 3 ({ cls := "java/lang/Object", name := "<init>", desc := "()V" } : MethodName) ∈ jm_wG := jm_mem1 (List.mem_of_getElem? (i := 112) rfl) rfl
theorem jw_113 : Cond.fieldLink "CodeCover$Covering" 30 "CodeCover$Covering" "tree" "LCodeCover$Tree;" ∈ jm_wG := jm_mem1 (List.mem_of_getElem? (i := 113) rfl) rfl
theorem jw_114 : Cond.fieldLink "CodeCover$Covering" 34 "CodeCover$Covering" "patterns" "LCodeCover$Patterns;" ∈ jm_wG := jm_mem1 (List.mem_of_getElem? (i := 114) rfl) rfl
theorem jw_115 : Cond.fieldLink "CodeCover$Covering" 11 "CodeCover$Covering" "plainCost" "[I" ∈ jm_wG := jm_mem1 (List.mem_of_getElem? (i := 115) rfl) rfl
theorem jw_116 : Cond.fieldLink "CodeCover$Covering" 15 "CodeCover$Covering" "plainBy" "[I" ∈ jm_wG := jm_mem1 (List.mem_of_getElem? (i := 116) rfl) rfl
theorem jw_117 : Cond.fieldLink "CodeCover$Covering" 18 "CodeCover$Covering" "cost" "[I" ∈ jm_wG := jm_mem1 (List.mem_of_getElem? (i := 117) rfl) rfl
theorem jw_118 : Cond.fieldLink "CodeCover" 149 "CodeCover$Covering" "cost" "[I" ∈ jm_wG := jm_mem1 (List.mem_of_getElem? (i := 118) rfl) rfl
theorem jw_119 : Cond.fieldLink "CodeCover$Covering" 21 "CodeCover$Covering" "by" "[I" ∈ jm_wG := jm_mem1 (List.mem_of_getElem? (i := 119) rfl) rfl
theorem jw_120 : Cond.fieldLink "CodeCover" 146 "CodeCover$Covering" "by" "[I" ∈ jm_wG := jm_mem1 (List.mem_of_getElem? (i := 120) rfl) rfl
theorem jw_121 : Cond.fieldLink "CodeCover$Covering" 24 "CodeCover$Covering" "codePattern" "[I" ∈ jm_wG := jm_mem1 (List.mem_of_getElem? (i := 121) rfl) rfl
theorem jw_122 : Cond.fieldLink "CodeCover" 155 "CodeCover$Covering" "codePattern" "[I" ∈ jm_wG := jm_mem1 (List.mem_of_getElem? (i := 122) rfl) rfl
theorem jw_123 : Cond.fieldLink "CodeCover$Covering" 27 "CodeCover$Covering" "codeNode" "[I" ∈ jm_wG := jm_mem1 (List.mem_of_getElem? (i := 123) rfl) rfl
theorem jw_124 : Cond.fieldLink "CodeCover" 158 "CodeCover$Covering" "codeNode" "[I" ∈ jm_wG := jm_mem1 (List.mem_of_getElem? (i := 124) rfl) rfl
theorem jw_125 : Cond.fieldLink "CodeCover$Covering" 53 "CodeCover$Covering" "codeCount" "I" ∈ jm_wG := jm_mem1 (List.mem_of_getElem? (i := 125) rfl) rfl
theorem jw_126 : Cond.fieldLink "CodeCover" 152 "CodeCover$Covering" "codeCount" "I" ∈ jm_wG := jm_mem1 (List.mem_of_getElem? (i := 126) rfl) rfl
theorem jw_127 : Cond.fieldLink "CodeCover$Covering" 38 "CodeCover$Covering" "stale" "Z" ∈ jm_wG := jm_mem1 (List.mem_of_getElem? (i := 127) rfl) rfl
theorem jw_128 : Cond.fieldLink "CodeCover" 94 "CodeCover$Covering" "stale" "Z" ∈ jm_wG := jm_mem1 (List.mem_of_getElem? (i := 128) rfl) rfl
theorem jw_150 : Cond.classLink "CodeCover" 39 "CodeCover$Row" ∈ jm_wG := jm_mem1 (List.mem_of_getElem? (i := 150) rfl) rfl
theorem jw_151 : Cond.instantiable "CodeCover$Row" 5 ∈ jm_wG := jm_mem1 (List.mem_of_getElem? (i := 151) rfl) rfl
theorem jw_153 : Cond.instanceMethod ({ cls := "CodeCover$Row", name := "<init>", desc := "()V" } : MethodName) ∈ jm_wG := jm_mem1 (List.mem_of_getElem? (i := 153) rfl) rfl
theorem jw_154 : Cond.code ({ cls := "CodeCover$Row", name := "<init>", desc := "()V" } : MethodName) prog_9_method_1_code 1 (Option.none : Option FieldType) ∈ jm_wG := jm_mem1 (List.mem_of_getElem? (i := 154) rfl) rfl
theorem jw_155 : Cond.methodLink "CodeCover$Row" 1 ({ cls := "java/lang/Object", name := "<init>", desc := "()V" } : MethodName) ∈ jm_wG := jm_mem1 (List.mem_of_getElem? (i := 155) rfl) rfl
theorem jw_156 : Cond.classLink "CodeCover$Row" 9 "[[I" ∈ jm_wG := jm_mem1 (List.mem_of_getElem? (i := 156) rfl) rfl
theorem jw_157 : Cond.fieldLink "CodeCover$Row" 11 "CodeCover$Row" "cells" "[[I" ∈ jm_wG := jm_mem1 (List.mem_of_getElem? (i := 157) rfl) rfl
theorem jw_158 : Cond.fieldLink "CodeCover$Lifetimes" 26 "CodeCover$Row" "cells" "[[I" ∈ jm_wG := jm_mem1 (List.mem_of_getElem? (i := 158) rfl) rfl
theorem jw_159 : Cond.fieldLink "CodeCover$Machine" 23 "CodeCover$Row" "cells" "[[I" ∈ jm_wG := jm_mem1 (List.mem_of_getElem? (i := 159) rfl) rfl
theorem jw_160 : Cond.fieldLink "CodeCover$Order" 73 "CodeCover$Row" "cells" "[[I" ∈ jm_wG := jm_mem1 (List.mem_of_getElem? (i := 160) rfl) rfl
theorem jw_161 : Cond.fieldLink "CodeCover" 185 "CodeCover$Row" "cells" "[[I" ∈ jm_wG := jm_mem1 (List.mem_of_getElem? (i := 161) rfl) rfl
theorem jw_162 : Cond.fieldLink "CodeCover$Row" 14 "CodeCover$Row" "cycle" "[I" ∈ jm_wG := jm_mem1 (List.mem_of_getElem? (i := 162) rfl) rfl
theorem jw_163 : Cond.fieldLink "CodeCover$Row" 18 "CodeCover$Row" "spare" "[I" ∈ jm_wG := jm_mem1 (List.mem_of_getElem? (i := 163) rfl) rfl
theorem jw_164 : Cond.fieldLink "CodeCover$Order" 45 "CodeCover$Row" "count" "I" ∈ jm_wG := jm_mem1 (List.mem_of_getElem? (i := 164) rfl) rfl
theorem jw_165 : Cond.fieldLink "CodeCover$Lifetimes" 30 "CodeCover$Row" "count" "I" ∈ jm_wG := jm_mem1 (List.mem_of_getElem? (i := 165) rfl) rfl
theorem jw_166 : Cond.fieldLink "CodeCover$Machine" 19 "CodeCover$Row" "count" "I" ∈ jm_wG := jm_mem1 (List.mem_of_getElem? (i := 166) rfl) rfl
theorem jw_167 : Cond.fieldLink "CodeCover$Row" 25 "CodeCover$Row" "count" "I" ∈ jm_wG := jm_mem1 (List.mem_of_getElem? (i := 167) rfl) rfl
theorem jw_168 : Cond.fieldLink "CodeCover" 177 "CodeCover$Row" "count" "I" ∈ jm_wG := jm_mem1 (List.mem_of_getElem? (i := 168) rfl) rfl
theorem jw_169 : Cond.fieldLink "CodeCover$Row" 21 "CodeCover$Row" "version" "I" ∈ jm_wG := jm_mem1 (List.mem_of_getElem? (i := 169) rfl) rfl
theorem jw_170 : Cond.fieldLink "CodeCover$Order" 42 "CodeCover$Row" "version" "I" ∈ jm_wG := jm_mem1 (List.mem_of_getElem? (i := 170) rfl) rfl
theorem jw_171 : Cond.fieldLink "CodeCover$Search" 59 "CodeCover$Row" "version" "I" ∈ jm_wG := jm_mem1 (List.mem_of_getElem? (i := 171) rfl) rfl
theorem jw_183 : Cond.classLink "CodeCover" 46 "CodeCover$Order" ∈ jm_wG := jm_mem1 (List.mem_of_getElem? (i := 183) rfl) rfl
theorem jw_184 : Cond.instantiable "CodeCover$Order" 12 ∈ jm_wG := jm_mem1 (List.mem_of_getElem? (i := 184) rfl) rfl
theorem jw_185 : Cond.methodLink "CodeCover" 48 ({ cls := "CodeCover$Order", name := "<init>", desc := "(LCodeCover$Row;)V" } : MethodName) ∈ jm_wG := jm_mem1 (List.mem_of_getElem? (i := 185) rfl) rfl
theorem jw_186 : Cond.instanceMethod ({ cls := "CodeCover$Order", name := "<init>", desc := "(LCodeCover$Row;)V" } : MethodName) ∈ jm_wG := jm_mem1 (List.mem_of_getElem? (i := 186) rfl) rfl
theorem jw_187 : Cond.code ({ cls := "CodeCover$Order", name := "<init>", desc := "(LCodeCover$Row;)V" } : MethodName) prog_6_method_1_code 2 (Option.none : Option FieldType) ∈ jm_wG := jm_mem1 (List.mem_of_getElem? (i := 187) rfl) rfl
theorem jw_188 : Cond.methodLink "CodeCover$Order" 1 ({ cls := "java/lang/Object", name := "<init>", desc := "()V" } : MethodName) ∈ jm_wG := jm_mem1 (List.mem_of_getElem? (i := 188) rfl) rfl
theorem jw_189 : Cond.fieldLink "CodeCover$Order" 34 "CodeCover$Order" "row" "LCodeCover$Row;" ∈ jm_wG := jm_mem1 (List.mem_of_getElem? (i := 189) rfl) rfl
theorem jw_190 : Cond.fieldLink "CodeCover$Order" 9 "CodeCover$Order" "needed" "[I" ∈ jm_wG := jm_mem1 (List.mem_of_getElem? (i := 190) rfl) rfl
theorem jw_191 : Cond.fieldLink "CodeCover$Order" 13 "CodeCover$Order" "firstSetter" "[I" ∈ jm_wG := jm_mem1 (List.mem_of_getElem? (i := 191) rfl) rfl
theorem jw_192 : Cond.fieldLink "CodeCover$Order" 16 "CodeCover$Order" "secondSetter" "[I" ∈ jm_wG := jm_mem1 (List.mem_of_getElem? (i := 192) rfl) rfl
theorem jw_193 : Cond.fieldLink "CodeCover$Order" 19 "CodeCover$Order" "tail" "[I" ∈ jm_wG := jm_mem1 (List.mem_of_getElem? (i := 193) rfl) rfl
theorem jw_194 : Cond.fieldLink "CodeCover$Order" 22 "CodeCover$Order" "byTail" "[I" ∈ jm_wG := jm_mem1 (List.mem_of_getElem? (i := 194) rfl) rfl
theorem jw_195 : Cond.fieldLink "CodeCover$Order" 25 "CodeCover$Order" "start" "[I" ∈ jm_wG := jm_mem1 (List.mem_of_getElem? (i := 195) rfl) rfl
theorem jw_196 : Cond.fieldLink "CodeCover$Order" 28 "CodeCover$Order" "chosen" "[I" ∈ jm_wG := jm_mem1 (List.mem_of_getElem? (i := 196) rfl) rfl
theorem jw_197 : Cond.fieldLink "CodeCover$Order" 31 "CodeCover$Order" "found" "[I" ∈ jm_wG := jm_mem1 (List.mem_of_getElem? (i := 197) rfl) rfl
theorem jw_198 : Cond.fieldLink "CodeCover" 200 "CodeCover$Order" "found" "[I" ∈ jm_wG := jm_mem1 (List.mem_of_getElem? (i := 198) rfl) rfl
theorem jw_199 : Cond.fieldLink "CodeCover$Order" 57 "CodeCover$Order" "leastEnd" "I" ∈ jm_wG := jm_mem1 (List.mem_of_getElem? (i := 199) rfl) rfl
theorem jw_200 : Cond.fieldLink "CodeCover" 197 "CodeCover$Order" "leastEnd" "I" ∈ jm_wG := jm_mem1 (List.mem_of_getElem? (i := 200) rfl) rfl
theorem jw_201 : Cond.fieldLink "CodeCover$Order" 48 "CodeCover$Order" "count" "I" ∈ jm_wG := jm_mem1 (List.mem_of_getElem? (i := 201) rfl) rfl
theorem jw_202 : Cond.fieldLink "CodeCover$Order" 38 "CodeCover$Order" "version" "I" ∈ jm_wG := jm_mem1 (List.mem_of_getElem? (i := 202) rfl) rfl
theorem jw_228 : Cond.classLink "CodeCover" 55 "CodeCover$Lifetimes" ∈ jm_wG := jm_mem1 (List.mem_of_getElem? (i := 228) rfl) rfl
theorem jw_229 : Cond.instantiable "CodeCover$Lifetimes" 6 ∈ jm_wG := jm_mem1 (List.mem_of_getElem? (i := 229) rfl) rfl
theorem jw_230 : Cond.methodLink "CodeCover" 57 ({ cls := "CodeCover$Lifetimes", name := "<init>", desc := "(LCodeCover$Row;)V" } : MethodName) ∈ jm_wG := jm_mem1 (List.mem_of_getElem? (i := 230) rfl) rfl
theorem jw_231 : Cond.instanceMethod ({ cls := "CodeCover$Lifetimes", name := "<init>", desc := "(LCodeCover$Row;)V" } : MethodName) ∈ jm_wG := jm_mem1 (List.mem_of_getElem? (i := 231) rfl) rfl
theorem jw_232 : Cond.code ({ cls := "CodeCover$Lifetimes", name := "<init>", desc := "(LCodeCover$Row;)V" } : MethodName) prog_3_method_1_code 2 (Option.none : Option FieldType) ∈ jm_wG := jm_mem1 (List.mem_of_getElem? (i := 232) rfl) rfl
theorem jw_233 : Cond.methodLink "CodeCover$Lifetimes" 1 ({ cls := "java/lang/Object", name := "<init>", desc := "()V" } : MethodName) ∈ jm_wG := jm_mem1 (List.mem_of_getElem? (i := 233) rfl) rfl
theorem jw_234 : Cond.fieldLink "CodeCover$Lifetimes" 22 "CodeCover$Lifetimes" "row" "LCodeCover$Row;" ∈ jm_wG := jm_mem1 (List.mem_of_getElem? (i := 234) rfl) rfl
theorem jw_235 : Cond.fieldLink "CodeCover$Lifetimes" 9 "CodeCover$Lifetimes" "until" "[I" ∈ jm_wG := jm_mem1 (List.mem_of_getElem? (i := 235) rfl) rfl
theorem jw_236 : Cond.fieldLink "CodeCover$Lifetimes" 15 "CodeCover$Lifetimes" "living" "[I" ∈ jm_wG := jm_mem1 (List.mem_of_getElem? (i := 236) rfl) rfl
theorem jw_237 : Cond.fieldLink "CodeCover$Lifetimes" 18 "CodeCover$Lifetimes" "kept" "I" ∈ jm_wG := jm_mem1 (List.mem_of_getElem? (i := 237) rfl) rfl
theorem jw_238 : Cond.fieldLink "CodeCover" 207 "CodeCover$Lifetimes" "kept" "I" ∈ jm_wG := jm_mem1 (List.mem_of_getElem? (i := 238) rfl) rfl
theorem jw_239 : Cond.fieldLink "CodeCover$Lifetimes" 54 "CodeCover$Lifetimes" "lightest" "I" ∈ jm_wG := jm_mem1 (List.mem_of_getElem? (i := 239) rfl) rfl
theorem jw_240 : Cond.fieldLink "CodeCover" 223 "CodeCover$Lifetimes" "lightest" "I" ∈ jm_wG := jm_mem2 (List.mem_of_getElem? (i := 0) rfl) rfl
theorem jw_241 : Cond.fieldLink "CodeCover$Lifetimes" 58 "CodeCover$Lifetimes" "leastWeight" "I" ∈ jm_wG := jm_mem2 (List.mem_of_getElem? (i := 1) rfl) rfl
theorem jw_242 : Cond.fieldLink "CodeCover" 226 "CodeCover$Lifetimes" "leastWeight" "I" ∈ jm_wG := jm_mem2 (List.mem_of_getElem? (i := 2) rfl) rfl
theorem jw_256 : Cond.classLink "CodeCover" 62 "CodeCover$Machine" ∈ jm_wG := jm_mem2 (List.mem_of_getElem? (i := 16) rfl) rfl
theorem jw_257 : Cond.instantiable "CodeCover$Machine" 2 ∈ jm_wG := jm_mem2 (List.mem_of_getElem? (i := 17) rfl) rfl
theorem jw_258 : Cond.methodLink "CodeCover" 64 ({ cls := "CodeCover$Machine", name := "<init>", desc := "(LCodeCover$Row;)V" } : MethodName) ∈ jm_wG := jm_mem2 (List.mem_of_getElem? (i := 18) rfl) rfl
theorem jw_259 : Cond.instanceMethod ({ cls := "CodeCover$Machine", name := "<init>", desc := "(LCodeCover$Row;)V" } : MethodName) ∈ jm_wG := jm_mem2 (List.mem_of_getElem? (i := 19) rfl) rfl
theorem jw_260 : Cond.code ({ cls := "CodeCover$Machine", name := "<init>", desc := "(LCodeCover$Row;)V" } : MethodName) prog_4_method_1_code 2 (Option.none : Option FieldType) ∈ jm_wG := jm_mem2 (List.mem_of_getElem? (i := 20) rfl) rfl
theorem jw_261 : Cond.methodLink "CodeCover$Machine" 1 ({ cls := "java/lang/Object", name := "<init>", desc := "()V" } : MethodName) ∈ jm_wG := jm_mem2 (List.mem_of_getElem? (i := 21) rfl) rfl
theorem jw_262 : Cond.fieldLink "CodeCover$Machine" 15 "CodeCover$Machine" "row" "LCodeCover$Row;" ∈ jm_wG := jm_mem2 (List.mem_of_getElem? (i := 22) rfl) rfl
theorem jw_263 : Cond.fieldLink "CodeCover$Machine" 9 "CodeCover$Machine" "register" "[J" ∈ jm_wG := jm_mem2 (List.mem_of_getElem? (i := 23) rfl) rfl
theorem jw_264 : Cond.fieldLink "CodeCover$Search" 78 "CodeCover$Machine" "register" "[J" ∈ jm_wG := jm_mem2 (List.mem_of_getElem? (i := 24) rfl) rfl
theorem jw_265 : Cond.fieldLink "CodeCover" 233 "CodeCover$Machine" "register" "[J" ∈ jm_wG := jm_mem2 (List.mem_of_getElem? (i := 25) rfl) rfl
theorem jw_271 : Cond.arrayClass FieldType.long ∈ jm_wG := jm_mem2 (List.mem_of_getElem? (i := 31) rfl) rfl
theorem jw_272 : Cond.classLink "CodeCover" 69 "CodeCover$Search" ∈ jm_wG := jm_mem2 (List.mem_of_getElem? (i := 32) rfl) rfl
theorem jw_273 : Cond.instantiable "CodeCover$Search" 13 ∈ jm_wG := jm_mem2 (List.mem_of_getElem? (i := 33) rfl) rfl
theorem jw_274 : Cond.methodLink "CodeCover" 71 ({ cls := "CodeCover$Search", name := "<init>", desc := "(LCodeCover$Row;LCodeCover$Machine;)V" } : MethodName) ∈ jm_wG := jm_mem2 (List.mem_of_getElem? (i := 34) rfl) rfl
theorem jw_275 : Cond.instanceMethod ({ cls := "CodeCover$Search", name := "<init>", desc := "(LCodeCover$Row;LCodeCover$Machine;)V" } : MethodName) ∈ jm_wG := jm_mem2 (List.mem_of_getElem? (i := 35) rfl) rfl
theorem jw_276 : Cond.code ({ cls := "CodeCover$Search", name := "<init>", desc := "(LCodeCover$Row;LCodeCover$Machine;)V" } : MethodName) prog_10_method_1_code 3 (Option.none : Option FieldType) ∈ jm_wG := jm_mem2 (List.mem_of_getElem? (i := 36) rfl) rfl
theorem jw_277 : Cond.methodLink "CodeCover$Search" 1 ({ cls := "java/lang/Object", name := "<init>", desc := "()V" } : MethodName) ∈ jm_wG := jm_mem2 (List.mem_of_getElem? (i := 37) rfl) rfl
theorem jw_278 : Cond.classLink "CodeCover$Search" 7 "CodeCover$Moves" ∈ jm_wG := jm_mem2 (List.mem_of_getElem? (i := 38) rfl) rfl
theorem jw_279 : Cond.instantiable "CodeCover$Moves" 6 ∈ jm_wG := jm_mem2 (List.mem_of_getElem? (i := 39) rfl) rfl
theorem jw_280 : Cond.methodLink "CodeCover$Search" 9 ({ cls := "CodeCover$Moves", name := "<init>", desc := "()V" } : MethodName) ∈ jm_wG := jm_mem2 (List.mem_of_getElem? (i := 40) rfl) rfl
theorem jw_281 : Cond.instanceMethod ({ cls := "CodeCover$Moves", name := "<init>", desc := "()V" } : MethodName) ∈ jm_wG := jm_mem2 (List.mem_of_getElem? (i := 41) rfl) rfl
theorem jw_282 : Cond.code ({ cls := "CodeCover$Moves", name := "<init>", desc := "()V" } : MethodName) prog_5_method_1_code 2 (Option.none : Option FieldType) ∈ jm_wG := jm_mem2 (List.mem_of_getElem? (i := 42) rfl) rfl
theorem jw_283 : Cond.methodLink "CodeCover$Moves" 1 ({ cls := "java/lang/Object", name := "<init>", desc := "()V" } : MethodName) ∈ jm_wG := jm_mem2 (List.mem_of_getElem? (i := 43) rfl) rfl
theorem jw_284 : Cond.methodLink "CodeCover$Moves" 30 ({ cls := "CodeCover$Moves", name := "listSources", desc := "(I)V" } : MethodName) ∈ jm_wG := jm_mem2 (List.mem_of_getElem? (i := 44) rfl) rfl
theorem jw_286 : Cond.instanceMethod ({ cls := "CodeCover$Moves", name := "listSources", desc := "(I)V" } : MethodName) ∈ jm_wG := jm_mem2 (List.mem_of_getElem? (i := 46) rfl) rfl
theorem jw_287 : Cond.code ({ cls := "CodeCover$Moves", name := "listSources", desc := "(I)V" } : MethodName) prog_5_method_2_code 5 (Option.none : Option FieldType) ∈ jm_wG := jm_mem2 (List.mem_of_getElem? (i := 47) rfl) rfl
theorem jw_288 : Cond.methodLink "CodeCover$Moves" 34 ({ cls := "CodeCover$Row", name := "hasSecond", desc := "(I)Z" } : MethodName) ∈ jm_wG := jm_mem2 (List.mem_of_getElem? (i := 48) rfl) rfl
theorem jw_289 : Cond.static ({ cls := "CodeCover$Row", name := "hasSecond", desc := "(I)Z" } : MethodName) ∈ jm_wG := jm_mem2 (List.mem_of_getElem? (i := 49) rfl) rfl
theorem jw_290 : Cond.code ({ cls := "CodeCover$Row", name := "hasSecond", desc := "(I)Z" } : MethodName) prog_9_method_4_code 1 (Option.some FieldType.boolean) ∈ jm_wG := jm_mem2 (List.mem_of_getElem? (i := 50) rfl) rfl
theorem jw_291 : Cond.methodLink "CodeCover$Moves" 40 ({ cls := "CodeCover$Moves", name := "isNew", desc := "(III)Z" } : MethodName) ∈ jm_wG := jm_mem2 (List.mem_of_getElem? (i := 51) rfl) rfl
theorem jw_292 : Cond.static ({ cls := "CodeCover$Moves", name := "isNew", desc := "(III)Z" } : MethodName) ∈ jm_wG := jm_mem2 (List.mem_of_getElem? (i := 52) rfl) rfl
theorem jw_293 : Cond.code ({ cls := "CodeCover$Moves", name := "isNew", desc := "(III)Z" } : MethodName) prog_5_method_3_code 3 (Option.some FieldType.boolean) ∈ jm_wG := jm_mem2 (List.mem_of_getElem? (i := 53) rfl) rfl
theorem jw_294 : Cond.methodLink "CodeCover$Moves" 44 ({ cls := "CodeCover$Moves", name := "isNewAtFirst", desc := "(III)Z" } : MethodName) ∈ jm_wG := jm_mem2 (List.mem_of_getElem? (i := 54) rfl) rfl
theorem jw_295 : Cond.static ({ cls := "CodeCover$Moves", name := "isNewAtFirst", desc := "(III)Z" } : MethodName) ∈ jm_wG := jm_mem2 (List.mem_of_getElem? (i := 55) rfl) rfl
theorem jw_296 : Cond.code ({ cls := "CodeCover$Moves", name := "isNewAtFirst", desc := "(III)Z" } : MethodName) prog_5_method_4_code 3 (Option.some FieldType.boolean) ∈ jm_wG := jm_mem2 (List.mem_of_getElem? (i := 56) rfl) rfl
theorem jw_297 : Cond.fieldLink "CodeCover$Moves" 9 "CodeCover$Moves" "one" "[I" ∈ jm_wG := jm_mem2 (List.mem_of_getElem? (i := 57) rfl) rfl
theorem jw_298 : Cond.fieldLink "CodeCover$Search" 108 "CodeCover$Moves" "one" "[I" ∈ jm_wG := jm_mem2 (List.mem_of_getElem? (i := 58) rfl) rfl
theorem jw_299 : Cond.fieldLink "CodeCover$Moves" 13 "CodeCover$Moves" "two" "[I" ∈ jm_wG := jm_mem2 (List.mem_of_getElem? (i := 59) rfl) rfl
theorem jw_300 : Cond.fieldLink "CodeCover$Search" 109 "CodeCover$Moves" "two" "[I" ∈ jm_wG := jm_mem2 (List.mem_of_getElem? (i := 60) rfl) rfl
theorem jw_301 : Cond.fieldLink "CodeCover$Moves" 16 "CodeCover$Moves" "reads" "[I" ∈ jm_wG := jm_mem2 (List.mem_of_getElem? (i := 61) rfl) rfl
theorem jw_302 : Cond.fieldLink "CodeCover$Search" 101 "CodeCover$Moves" "reads" "[I" ∈ jm_wG := jm_mem2 (List.mem_of_getElem? (i := 62) rfl) rfl
theorem jw_303 : Cond.fieldLink "CodeCover$Moves" 19 "CodeCover$Moves" "atFirst" "[Z" ∈ jm_wG := jm_mem2 (List.mem_of_getElem? (i := 63) rfl) rfl
theorem jw_304 : Cond.fieldLink "CodeCover$Search" 104 "CodeCover$Moves" "atFirst" "[Z" ∈ jm_wG := jm_mem2 (List.mem_of_getElem? (i := 64) rfl) rfl
theorem jw_305 : Cond.fieldLink "CodeCover$Moves" 23 "CodeCover$Moves" "begin" "[I" ∈ jm_wG := jm_mem2 (List.mem_of_getElem? (i := 65) rfl) rfl
theorem jw_306 : Cond.fieldLink "CodeCover$Search" 99 "CodeCover$Moves" "begin" "[I" ∈ jm_wG := jm_mem2 (List.mem_of_getElem? (i := 66) rfl) rfl
theorem jw_307 : Cond.fieldLink "CodeCover$Moves" 26 "CodeCover$Moves" "count" "I" ∈ jm_wG := jm_mem2 (List.mem_of_getElem? (i := 67) rfl) rfl
theorem jw_321 : Cond.arrayClass FieldType.boolean ∈ jm_wG := jm_mem2 (List.mem_of_getElem? (i := 81) rfl) rfl
theorem jw_322 : Cond.classLink "CodeCover$Search" 20 "[[J" ∈ jm_wG := jm_mem2 (List.mem_of_getElem? (i := 82) rfl) rfl
theorem jw_324 : Cond.fieldLink "CodeCover$Search" 48 "CodeCover$Search" "row" "LCodeCover$Row;" ∈ jm_wG := jm_mem2 (List.mem_of_getElem? (i := 84) rfl) rfl
theorem jw_325 : Cond.fieldLink "CodeCover$Search" 52 "CodeCover$Search" "machine" "LCodeCover$Machine;" ∈ jm_wG := jm_mem2 (List.mem_of_getElem? (i := 85) rfl) rfl
theorem jw_326 : Cond.fieldLink "CodeCover$Search" 10 "CodeCover$Search" "moves" "LCodeCover$Moves;" ∈ jm_wG := jm_mem2 (List.mem_of_getElem? (i := 86) rfl) rfl
theorem jw_327 : Cond.fieldLink "CodeCover$Search" 16 "CodeCover$Search" "due" "[J" ∈ jm_wG := jm_mem2 (List.mem_of_getElem? (i := 87) rfl) rfl
theorem jw_328 : Cond.fieldLink "CodeCover$Search" 22 "CodeCover$Search" "before" "[[J" ∈ jm_wG := jm_mem2 (List.mem_of_getElem? (i := 88) rfl) rfl
theorem jw_329 : Cond.fieldLink "CodeCover$Search" 25 "CodeCover$Search" "trial" "[J" ∈ jm_wG := jm_mem2 (List.mem_of_getElem? (i := 89) rfl) rfl
theorem jw_330 : Cond.fieldLink "CodeCover$Search" 28 "CodeCover$Search" "op" "[I" ∈ jm_wG := jm_mem2 (List.mem_of_getElem? (i := 90) rfl) rfl
theorem jw_331 : Cond.fieldLink "CodeCover$Search" 32 "CodeCover$Search" "to" "[I" ∈ jm_wG := jm_mem2 (List.mem_of_getElem? (i := 91) rfl) rfl
theorem jw_332 : Cond.fieldLink "CodeCover$Search" 35 "CodeCover$Search" "one" "[I" ∈ jm_wG := jm_mem2 (List.mem_of_getElem? (i := 92) rfl) rfl
theorem jw_333 : Cond.fieldLink "CodeCover$Search" 38 "CodeCover$Search" "two" "[I" ∈ jm_wG := jm_mem2 (List.mem_of_getElem? (i := 93) rfl) rfl
theorem jw_334 : Cond.fieldLink "CodeCover$Search" 41 "CodeCover$Search" "length" "I" ∈ jm_wG := jm_mem2 (List.mem_of_getElem? (i := 94) rfl) rfl
theorem jw_335 : Cond.fieldLink "CodeCover" 241 "CodeCover$Search" "length" "I" ∈ jm_wG := jm_mem2 (List.mem_of_getElem? (i := 95) rfl) rfl
theorem jw_336 : Cond.fieldLink "CodeCover$Search" 45 "CodeCover$Search" "tried" "I" ∈ jm_wG := jm_mem2 (List.mem_of_getElem? (i := 96) rfl) rfl
theorem jw_337 : Cond.fieldLink "CodeCover$Search" 56 "CodeCover$Search" "version" "I" ∈ jm_wG := jm_mem2 (List.mem_of_getElem? (i := 97) rfl) rfl
theorem jw_365 : Cond.fieldLink "CodeCover" 10 "CodeCover" "pad" "LCodeCover$Pad;" ∈ jm_wG := jm_mem2 (List.mem_of_getElem? (i := 125) rfl) rfl
theorem jw_366 : Cond.fieldLink "CodeCover" 19 "CodeCover" "tree" "LCodeCover$Tree;" ∈ jm_wG := jm_mem2 (List.mem_of_getElem? (i := 126) rfl) rfl
theorem jw_367 : Cond.fieldLink "CodeCover" 26 "CodeCover" "patterns" "LCodeCover$Patterns;" ∈ jm_wG := jm_mem2 (List.mem_of_getElem? (i := 127) rfl) rfl
theorem jw_368 : Cond.fieldLink "CodeCover" 35 "CodeCover" "covering" "LCodeCover$Covering;" ∈ jm_wG := jm_mem2 (List.mem_of_getElem? (i := 128) rfl) rfl
theorem jw_369 : Cond.fieldLink "CodeCover" 42 "CodeCover" "row" "LCodeCover$Row;" ∈ jm_wG := jm_mem2 (List.mem_of_getElem? (i := 129) rfl) rfl
theorem jw_370 : Cond.fieldLink "CodeCover" 51 "CodeCover" "order" "LCodeCover$Order;" ∈ jm_wG := jm_mem2 (List.mem_of_getElem? (i := 130) rfl) rfl
theorem jw_371 : Cond.fieldLink "CodeCover" 58 "CodeCover" "lifetimes" "LCodeCover$Lifetimes;" ∈ jm_wG := jm_mem2 (List.mem_of_getElem? (i := 131) rfl) rfl
theorem jw_372 : Cond.fieldLink "CodeCover" 65 "CodeCover" "machine" "LCodeCover$Machine;" ∈ jm_wG := jm_mem2 (List.mem_of_getElem? (i := 132) rfl) rfl
theorem jw_373 : Cond.fieldLink "CodeCover" 74 "CodeCover" "search" "LCodeCover$Search;" ∈ jm_wG := jm_mem2 (List.mem_of_getElem? (i := 133) rfl) rfl
theorem jw_393 : Cond.methodLink "CodeCoverLaw" 13 ({ cls := "CodeCover", name := "say", desc := "(I)I" } : MethodName) ∈ jm_wG := jm_mem2 (List.mem_of_getElem? (i := 153) rfl) rfl
theorem jw_394 : Cond.instanceMethod ({ cls := "CodeCover", name := "say", desc := "(I)I" } : MethodName) ∈ jm_wG := jm_mem2 (List.mem_of_getElem? (i := 154) rfl) rfl
theorem jw_395 : Cond.selects "CodeCover" ({ cls := "CodeCover", name := "say", desc := "(I)I" } : MethodName) ({ cls := "CodeCover", name := "say", desc := "(I)I" } : MethodName) ∈ jm_wG := jm_mem2 (List.mem_of_getElem? (i := 155) rfl) rfl
theorem jw_396 : Cond.code ({ cls := "CodeCover", name := "say", desc := "(I)I" } : MethodName) prog_1_method_2_code 2 (Option.some FieldType.int) ∈ jm_wG := jm_mem2 (List.mem_of_getElem? (i := 156) rfl) rfl
theorem jw_397 : Cond.methodLink "CodeCover" 78 ({ cls := "CodeCover$Pad", name := "lay", desc := "(I)Z" } : MethodName) ∈ jm_wG := jm_mem2 (List.mem_of_getElem? (i := 157) rfl) rfl
theorem jw_398 : Cond.instanceMethod ({ cls := "CodeCover$Pad", name := "lay", desc := "(I)Z" } : MethodName) ∈ jm_wG := jm_mem2 (List.mem_of_getElem? (i := 158) rfl) rfl
theorem jw_399 : Cond.selects "CodeCover$Pad" ({ cls := "CodeCover$Pad", name := "lay", desc := "(I)Z" } : MethodName) ({ cls := "CodeCover$Pad", name := "lay", desc := "(I)Z" } : MethodName) ∈ jm_wG := jm_mem2 (List.mem_of_getElem? (i := 159) rfl) rfl
theorem jw_400 : Cond.code ({ cls := "CodeCover$Pad", name := "lay", desc := "(I)Z" } : MethodName) prog_7_method_2_code 2 (Option.some FieldType.boolean) ∈ jm_wG := jm_mem2 (List.mem_of_getElem? (i := 160) rfl) rfl
theorem jw_401 : Cond.methodLink "CodeCoverLaw" 18 ({ cls := "CodeCover", name := "wipe", desc := "()I" } : MethodName) ∈ jm_wG := jm_mem2 (List.mem_of_getElem? (i := 161) rfl) rfl
theorem jw_402 : Cond.instanceMethod ({ cls := "CodeCover", name := "wipe", desc := "()I" } : MethodName) ∈ jm_wG := jm_mem2 (List.mem_of_getElem? (i := 162) rfl) rfl
theorem jw_403 : Cond.selects "CodeCover" ({ cls := "CodeCover", name := "wipe", desc := "()I" } : MethodName) ({ cls := "CodeCover", name := "wipe", desc := "()I" } : MethodName) ∈ jm_wG := jm_mem2 (List.mem_of_getElem? (i := 163) rfl) rfl
theorem jw_404 : Cond.code ({ cls := "CodeCover", name := "wipe", desc := "()I" } : MethodName) prog_1_method_3_code 2 (Option.some FieldType.int) ∈ jm_wG := jm_mem2 (List.mem_of_getElem? (i := 164) rfl) rfl
theorem jw_405 : Cond.methodLink "CodeCoverLaw" 23 ({ cls := "CodeCover", name := "fault", desc := "()I" } : MethodName) ∈ jm_wG := jm_mem2 (List.mem_of_getElem? (i := 165) rfl) rfl
theorem jw_406 : Cond.instanceMethod ({ cls := "CodeCover", name := "fault", desc := "()I" } : MethodName) ∈ jm_wG := jm_mem2 (List.mem_of_getElem? (i := 166) rfl) rfl
theorem jw_407 : Cond.selects "CodeCover" ({ cls := "CodeCover", name := "fault", desc := "()I" } : MethodName) ({ cls := "CodeCover", name := "fault", desc := "()I" } : MethodName) ∈ jm_wG := jm_mem2 (List.mem_of_getElem? (i := 167) rfl) rfl
theorem jw_408 : Cond.code ({ cls := "CodeCover", name := "fault", desc := "()I" } : MethodName) prog_1_method_4_code 1 (Option.some FieldType.int) ∈ jm_wG := jm_mem2 (List.mem_of_getElem? (i := 168) rfl) rfl
theorem jw_409 : Cond.methodLink "CodeCover" 86 ({ cls := "CodeCover$Pad", name := "faultAsTree", desc := "()I" } : MethodName) ∈ jm_wG := jm_mem2 (List.mem_of_getElem? (i := 169) rfl) rfl
theorem jw_410 : Cond.instanceMethod ({ cls := "CodeCover$Pad", name := "faultAsTree", desc := "()I" } : MethodName) ∈ jm_wG := jm_mem2 (List.mem_of_getElem? (i := 170) rfl) rfl
theorem jw_411 : Cond.selects "CodeCover$Pad" ({ cls := "CodeCover$Pad", name := "faultAsTree", desc := "()I" } : MethodName) ({ cls := "CodeCover$Pad", name := "faultAsTree", desc := "()I" } : MethodName) ∈ jm_wG := jm_mem2 (List.mem_of_getElem? (i := 171) rfl) rfl
theorem jw_412 : Cond.code ({ cls := "CodeCover$Pad", name := "faultAsTree", desc := "()I" } : MethodName) prog_7_method_3_code 1 (Option.some FieldType.int) ∈ jm_wG := jm_mem2 (List.mem_of_getElem? (i := 172) rfl) rfl
theorem jw_413 : Cond.methodLink "CodeCover$Pad" 22 ({ cls := "CodeCover$Pad", name := "firstFault", desc := "(Z)I" } : MethodName) ∈ jm_wG := jm_mem2 (List.mem_of_getElem? (i := 173) rfl) rfl
theorem jw_415 : Cond.instanceMethod ({ cls := "CodeCover$Pad", name := "firstFault", desc := "(Z)I" } : MethodName) ∈ jm_wG := jm_mem2 (List.mem_of_getElem? (i := 175) rfl) rfl
theorem jw_416 : Cond.code ({ cls := "CodeCover$Pad", name := "firstFault", desc := "(Z)I" } : MethodName) prog_7_method_5_code 7 (Option.some FieldType.int) ∈ jm_wG := jm_mem2 (List.mem_of_getElem? (i := 176) rfl) rfl
theorem jw_417 : Cond.methodLink "CodeCover$Pad" 26 ({ cls := "CodeCover$Pad", name := "partsOf", desc := "(I)I" } : MethodName) ∈ jm_wG := jm_mem2 (List.mem_of_getElem? (i := 177) rfl) rfl
theorem jw_418 : Cond.static ({ cls := "CodeCover$Pad", name := "partsOf", desc := "(I)I" } : MethodName) ∈ jm_wG := jm_mem2 (List.mem_of_getElem? (i := 178) rfl) rfl
theorem jw_419 : Cond.code ({ cls := "CodeCover$Pad", name := "partsOf", desc := "(I)I" } : MethodName) prog_7_method_7_code 1 (Option.some FieldType.int) ∈ jm_wG := jm_mem2 (List.mem_of_getElem? (i := 179) rfl) rfl
theorem jw_420 : Cond.methodLink "CodeCover$Pad" 30 ({ cls := "CodeCover$Pad", name := "isPatternLeaf", desc := "(I)Z" } : MethodName) ∈ jm_wG := jm_mem2 (List.mem_of_getElem? (i := 180) rfl) rfl
theorem jw_421 : Cond.static ({ cls := "CodeCover$Pad", name := "isPatternLeaf", desc := "(I)Z" } : MethodName) ∈ jm_wG := jm_mem2 (List.mem_of_getElem? (i := 181) rfl) rfl
theorem jw_422 : Cond.code ({ cls := "CodeCover$Pad", name := "isPatternLeaf", desc := "(I)Z" } : MethodName) prog_7_method_11_code 1 (Option.some FieldType.boolean) ∈ jm_wG := jm_mem2 (List.mem_of_getElem? (i := 182) rfl) rfl
theorem jw_423 : Cond.methodLink "CodeCover$Pad" 40 ({ cls := "CodeCover$Pad", name := "isNumber", desc := "(I)Z" } : MethodName) ∈ jm_wG := jm_mem2 (List.mem_of_getElem? (i := 183) rfl) rfl
theorem jw_424 : Cond.static ({ cls := "CodeCover$Pad", name := "isNumber", desc := "(I)Z" } : MethodName) ∈ jm_wG := jm_mem2 (List.mem_of_getElem? (i := 184) rfl) rfl
theorem jw_425 : Cond.code ({ cls := "CodeCover$Pad", name := "isNumber", desc := "(I)Z" } : MethodName) prog_7_method_8_code 1 (Option.some FieldType.boolean) ∈ jm_wG := jm_mem2 (List.mem_of_getElem? (i := 185) rfl) rfl
theorem jw_426 : Cond.methodLink "CodeCover$Pad" 46 ({ cls := "CodeCover$Patterns", name := "headOf", desc := "(I)I" } : MethodName) ∈ jm_wG := jm_mem2 (List.mem_of_getElem? (i := 186) rfl) rfl
theorem jw_427 : Cond.static ({ cls := "CodeCover$Patterns", name := "headOf", desc := "(I)I" } : MethodName) ∈ jm_wG := jm_mem2 (List.mem_of_getElem? (i := 187) rfl) rfl
theorem jw_428 : Cond.code ({ cls := "CodeCover$Patterns", name := "headOf", desc := "(I)I" } : MethodName) prog_8_method_5_code 1 (Option.some FieldType.int) ∈ jm_wG := jm_mem2 (List.mem_of_getElem? (i := 188) rfl) rfl
theorem jw_429 : Cond.methodLink "CodeCover$Pad" 34 ({ cls := "CodeCover$Pad", name := "isTreeLeaf", desc := "(I)Z" } : MethodName) ∈ jm_wG := jm_mem2 (List.mem_of_getElem? (i := 189) rfl) rfl
theorem jw_430 : Cond.static ({ cls := "CodeCover$Pad", name := "isTreeLeaf", desc := "(I)Z" } : MethodName) ∈ jm_wG := jm_mem2 (List.mem_of_getElem? (i := 190) rfl) rfl
theorem jw_431 : Cond.code ({ cls := "CodeCover$Pad", name := "isTreeLeaf", desc := "(I)Z" } : MethodName) prog_7_method_10_code 1 (Option.some FieldType.boolean) ∈ jm_wG := jm_mem2 (List.mem_of_getElem? (i := 191) rfl) rfl
theorem jw_432 : Cond.methodLink "CodeCover$Pad" 43 ({ cls := "CodeCover$Pad", name := "isVariable", desc := "(I)Z" } : MethodName) ∈ jm_wG := jm_mem2 (List.mem_of_getElem? (i := 192) rfl) rfl
theorem jw_433 : Cond.static ({ cls := "CodeCover$Pad", name := "isVariable", desc := "(I)Z" } : MethodName) ∈ jm_wG := jm_mem2 (List.mem_of_getElem? (i := 193) rfl) rfl
theorem jw_434 : Cond.code ({ cls := "CodeCover$Pad", name := "isVariable", desc := "(I)Z" } : MethodName) prog_7_method_9_code 1 (Option.some FieldType.boolean) ∈ jm_wG := jm_mem2 (List.mem_of_getElem? (i := 194) rfl) rfl
theorem jw_435 : Cond.methodLink "CodeCover$Pad" 37 ({ cls := "CodeCover$Pad", name := "deepestOpen", desc := "(I)I" } : MethodName) ∈ jm_wG := jm_mem2 (List.mem_of_getElem? (i := 195) rfl) rfl
theorem jw_437 : Cond.instanceMethod ({ cls := "CodeCover$Pad", name := "deepestOpen", desc := "(I)I" } : MethodName) ∈ jm_wG := jm_mem2 (List.mem_of_getElem? (i := 197) rfl) rfl
theorem jw_438 : Cond.code ({ cls := "CodeCover$Pad", name := "deepestOpen", desc := "(I)I" } : MethodName) prog_7_method_6_code 3 (Option.some FieldType.int) ∈ jm_wG := jm_mem2 (List.mem_of_getElem? (i := 198) rfl) rfl
theorem jw_439 : Cond.methodLink "CodeCoverLaw" 27 ({ cls := "CodeCover", name := "read", desc := "()I" } : MethodName) ∈ jm_wG := jm_mem2 (List.mem_of_getElem? (i := 199) rfl) rfl
theorem jw_440 : Cond.instanceMethod ({ cls := "CodeCover", name := "read", desc := "()I" } : MethodName) ∈ jm_wG := jm_mem2 (List.mem_of_getElem? (i := 200) rfl) rfl
theorem jw_441 : Cond.selects "CodeCover" ({ cls := "CodeCover", name := "read", desc := "()I" } : MethodName) ({ cls := "CodeCover", name := "read", desc := "()I" } : MethodName) ∈ jm_wG := jm_mem2 (List.mem_of_getElem? (i := 201) rfl) rfl
theorem jw_442 : Cond.code ({ cls := "CodeCover", name := "read", desc := "()I" } : MethodName) prog_1_method_5_code 1 (Option.some FieldType.int) ∈ jm_wG := jm_mem2 (List.mem_of_getElem? (i := 202) rfl) rfl
theorem jw_443 : Cond.methodLink "CodeCover" 90 ({ cls := "CodeCover$Tree", name := "take", desc := "(LCodeCover$Pad;)V" } : MethodName) ∈ jm_wG := jm_mem2 (List.mem_of_getElem? (i := 203) rfl) rfl
theorem jw_444 : Cond.instanceMethod ({ cls := "CodeCover$Tree", name := "take", desc := "(LCodeCover$Pad;)V" } : MethodName) ∈ jm_wG := jm_mem2 (List.mem_of_getElem? (i := 204) rfl) rfl
theorem jw_445 : Cond.selects "CodeCover$Tree" ({ cls := "CodeCover$Tree", name := "take", desc := "(LCodeCover$Pad;)V" } : MethodName) ({ cls := "CodeCover$Tree", name := "take", desc := "(LCodeCover$Pad;)V" } : MethodName) ∈ jm_wG := jm_mem2 (List.mem_of_getElem? (i := 205) rfl) rfl
theorem jw_446 : Cond.code ({ cls := "CodeCover$Tree", name := "take", desc := "(LCodeCover$Pad;)V" } : MethodName) prog_11_method_3_code 3 (Option.none : Option FieldType) ∈ jm_wG := jm_mem2 (List.mem_of_getElem? (i := 206) rfl) rfl
theorem jw_447 : Cond.methodLink "CodeCover$Tree" 29 ({ cls := "java/lang/Math", name := "min", desc := "(II)I" } : MethodName) ∈ jm_wG := jm_mem2 (List.mem_of_getElem? (i := 207) rfl) rfl
theorem jw_448 : Cond.static ({ cls := "java/lang/Math", name := "min", desc := "(II)I" } : MethodName) ∈ jm_wG := jm_mem2 (List.mem_of_getElem? (i := 208) rfl) rfl
theorem jw_449 : Cond.code ({ cls := "java/lang/Math", name := "min", desc := "(II)I" } : MethodName) prog_15_method_69_code 2 (Option.some FieldType.int) ∈ jm_wG := jm_mem2 (List.mem_of_getElem? (i := 209) rfl) rfl
theorem jw_450 : Cond.methodLink "CodeCover$Tree" 36 ({ cls := "CodeCover$Tree", name := "measure", desc := "(I)V" } : MethodName) ∈ jm_wG := jm_mem2 (List.mem_of_getElem? (i := 210) rfl) rfl
theorem jw_452 : Cond.instanceMethod ({ cls := "CodeCover$Tree", name := "measure", desc := "(I)V" } : MethodName) ∈ jm_wG := jm_mem2 (List.mem_of_getElem? (i := 212) rfl) rfl
theorem jw_453 : Cond.code ({ cls := "CodeCover$Tree", name := "measure", desc := "(I)V" } : MethodName) prog_11_method_4_code 4 (Option.none : Option FieldType) ∈ jm_wG := jm_mem2 (List.mem_of_getElem? (i := 213) rfl) rfl
theorem jw_454 : Cond.methodLink "CodeCover$Tree" 40 ({ cls := "CodeCover$Tree", name := "firstPart", desc := "(I)I" } : MethodName) ∈ jm_wG := jm_mem2 (List.mem_of_getElem? (i := 214) rfl) rfl
theorem jw_456 : Cond.instanceMethod ({ cls := "CodeCover$Tree", name := "firstPart", desc := "(I)I" } : MethodName) ∈ jm_wG := jm_mem2 (List.mem_of_getElem? (i := 216) rfl) rfl
theorem jw_457 : Cond.code ({ cls := "CodeCover$Tree", name := "firstPart", desc := "(I)I" } : MethodName) prog_11_method_5_code 2 (Option.some FieldType.int) ∈ jm_wG := jm_mem2 (List.mem_of_getElem? (i := 217) rfl) rfl
theorem jw_458 : Cond.methodLink "CodeCover$Tree" 50 ({ cls := "CodeCover$Pad", name := "partsOf", desc := "(I)I" } : MethodName) ∈ jm_wG := jm_mem2 (List.mem_of_getElem? (i := 218) rfl) rfl
theorem jw_459 : Cond.methodLink "CodeCover$Tree" 44 ({ cls := "CodeCover$Tree", name := "secondPart", desc := "(I)I" } : MethodName) ∈ jm_wG := jm_mem2 (List.mem_of_getElem? (i := 219) rfl) rfl
theorem jw_461 : Cond.instanceMethod ({ cls := "CodeCover$Tree", name := "secondPart", desc := "(I)I" } : MethodName) ∈ jm_wG := jm_mem2 (List.mem_of_getElem? (i := 221) rfl) rfl
theorem jw_462 : Cond.code ({ cls := "CodeCover$Tree", name := "secondPart", desc := "(I)I" } : MethodName) prog_11_method_6_code 3 (Option.some FieldType.int) ∈ jm_wG := jm_mem2 (List.mem_of_getElem? (i := 222) rfl) rfl
theorem jw_463 : Cond.methodLink "CodeCover$Tree" 47 ({ cls := "java/lang/Math", name := "max", desc := "(II)I" } : MethodName) ∈ jm_wG := jm_mem2 (List.mem_of_getElem? (i := 223) rfl) rfl
theorem jw_464 : Cond.static ({ cls := "java/lang/Math", name := "max", desc := "(II)I" } : MethodName) ∈ jm_wG := jm_mem2 (List.mem_of_getElem? (i := 224) rfl) rfl
theorem jw_465 : Cond.code ({ cls := "java/lang/Math", name := "max", desc := "(II)I" } : MethodName) prog_15_method_65_code 2 (Option.some FieldType.int) ∈ jm_wG := jm_mem2 (List.mem_of_getElem? (i := 225) rfl) rfl
theorem jw_466 : Cond.methodLink "CodeCoverLaw" 31 ({ cls := "CodeCover", name := "node", desc := "(II)I" } : MethodName) ∈ jm_wG := jm_mem2 (List.mem_of_getElem? (i := 226) rfl) rfl
theorem jw_467 : Cond.instanceMethod ({ cls := "CodeCover", name := "node", desc := "(II)I" } : MethodName) ∈ jm_wG := jm_mem2 (List.mem_of_getElem? (i := 227) rfl) rfl
theorem jw_468 : Cond.selects "CodeCover" ({ cls := "CodeCover", name := "node", desc := "(II)I" } : MethodName) ({ cls := "CodeCover", name := "node", desc := "(II)I" } : MethodName) ∈ jm_wG := jm_mem2 (List.mem_of_getElem? (i := 228) rfl) rfl
theorem jw_469 : Cond.code ({ cls := "CodeCover", name := "node", desc := "(II)I" } : MethodName) prog_1_method_6_code 3 (Option.some FieldType.int) ∈ jm_wG := jm_mem2 (List.mem_of_getElem? (i := 229) rfl) rfl
theorem jw_470 : Cond.methodLink "CodeCover" 99 ({ cls := "CodeCover$Tree", name := "has", desc := "(I)Z" } : MethodName) ∈ jm_wG := jm_mem2 (List.mem_of_getElem? (i := 230) rfl) rfl
theorem jw_471 : Cond.instanceMethod ({ cls := "CodeCover$Tree", name := "has", desc := "(I)Z" } : MethodName) ∈ jm_wG := jm_mem2 (List.mem_of_getElem? (i := 231) rfl) rfl
theorem jw_472 : Cond.selects "CodeCover$Tree" ({ cls := "CodeCover$Tree", name := "has", desc := "(I)Z" } : MethodName) ({ cls := "CodeCover$Tree", name := "has", desc := "(I)Z" } : MethodName) ∈ jm_wG := jm_mem2 (List.mem_of_getElem? (i := 232) rfl) rfl
theorem jw_473 : Cond.code ({ cls := "CodeCover$Tree", name := "has", desc := "(I)Z" } : MethodName) prog_11_method_2_code 2 (Option.some FieldType.boolean) ∈ jm_wG := jm_mem2 (List.mem_of_getElem? (i := 233) rfl) rfl
theorem jw_474 : Cond.methodLink "CodeCover" 109 ({ cls := "CodeCover$Pad", name := "partsOf", desc := "(I)I" } : MethodName) ∈ jm_wG := jm_mem2 (List.mem_of_getElem? (i := 234) rfl) rfl
theorem jw_475 : Cond.methodLink "CodeCoverLaw" 36 ({ cls := "CodeCover", name := "pattern", desc := "(II)I" } : MethodName) ∈ jm_wG := jm_mem2 (List.mem_of_getElem? (i := 235) rfl) rfl
theorem jw_476 : Cond.instanceMethod ({ cls := "CodeCover", name := "pattern", desc := "(II)I" } : MethodName) ∈ jm_wG := jm_mem2 (List.mem_of_getElem? (i := 236) rfl) rfl
theorem jw_477 : Cond.selects "CodeCover" ({ cls := "CodeCover", name := "pattern", desc := "(II)I" } : MethodName) ({ cls := "CodeCover", name := "pattern", desc := "(II)I" } : MethodName) ∈ jm_wG := jm_mem2 (List.mem_of_getElem? (i := 237) rfl) rfl
theorem jw_478 : Cond.code ({ cls := "CodeCover", name := "pattern", desc := "(II)I" } : MethodName) prog_1_method_7_code 3 (Option.some FieldType.int) ∈ jm_wG := jm_mem2 (List.mem_of_getElem? (i := 238) rfl) rfl
theorem jw_479 : Cond.methodLink "CodeCover" 119 ({ cls := "CodeCover", name := "isHead", desc := "(I)Z" } : MethodName) ∈ jm_wG := jm_mem2 (List.mem_of_getElem? (i := 239) rfl) rfl
theorem jw_480 : Cond.static ({ cls := "CodeCover", name := "isHead", desc := "(I)Z" } : MethodName) ∈ jm_wG := jm_mem3 (List.mem_of_getElem? (i := 0) rfl) rfl
theorem jw_481 : Cond.code ({ cls := "CodeCover", name := "isHead", desc := "(I)Z" } : MethodName) prog_1_method_30_code 1 (Option.some FieldType.boolean) ∈ jm_wG := jm_mem3 (List.mem_of_getElem? (i := 1) rfl) rfl
theorem jw_482 : Cond.methodLink "CodeCover" 122 ({ cls := "CodeCover", name := "isPrice", desc := "(I)Z" } : MethodName) ∈ jm_wG := jm_mem3 (List.mem_of_getElem? (i := 2) rfl) rfl
theorem jw_483 : Cond.static ({ cls := "CodeCover", name := "isPrice", desc := "(I)Z" } : MethodName) ∈ jm_wG := jm_mem3 (List.mem_of_getElem? (i := 3) rfl) rfl
theorem jw_484 : Cond.code ({ cls := "CodeCover", name := "isPrice", desc := "(I)Z" } : MethodName) prog_1_method_31_code 1 (Option.some FieldType.boolean) ∈ jm_wG := jm_mem3 (List.mem_of_getElem? (i := 4) rfl) rfl
theorem jw_485 : Cond.methodLink "CodeCover" 126 ({ cls := "CodeCover$Patterns", name := "allows", desc := "(LCodeCover$Pad;I)Z" } : MethodName) ∈ jm_wG := jm_mem3 (List.mem_of_getElem? (i := 5) rfl) rfl
theorem jw_486 : Cond.instanceMethod ({ cls := "CodeCover$Patterns", name := "allows", desc := "(LCodeCover$Pad;I)Z" } : MethodName) ∈ jm_wG := jm_mem3 (List.mem_of_getElem? (i := 6) rfl) rfl
theorem jw_487 : Cond.selects "CodeCover$Patterns" ({ cls := "CodeCover$Patterns", name := "allows", desc := "(LCodeCover$Pad;I)Z" } : MethodName) ({ cls := "CodeCover$Patterns", name := "allows", desc := "(LCodeCover$Pad;I)Z" } : MethodName) ∈ jm_wG := jm_mem3 (List.mem_of_getElem? (i := 7) rfl) rfl
theorem jw_488 : Cond.code ({ cls := "CodeCover$Patterns", name := "allows", desc := "(LCodeCover$Pad;I)Z" } : MethodName) prog_8_method_2_code 3 (Option.some FieldType.boolean) ∈ jm_wG := jm_mem3 (List.mem_of_getElem? (i := 8) rfl) rfl
theorem jw_489 : Cond.methodLink "CodeCover$Patterns" 32 ({ cls := "CodeCover$Pad", name := "faultAsPattern", desc := "()I" } : MethodName) ∈ jm_wG := jm_mem3 (List.mem_of_getElem? (i := 9) rfl) rfl
theorem jw_490 : Cond.instanceMethod ({ cls := "CodeCover$Pad", name := "faultAsPattern", desc := "()I" } : MethodName) ∈ jm_wG := jm_mem3 (List.mem_of_getElem? (i := 10) rfl) rfl
theorem jw_491 : Cond.selects "CodeCover$Pad" ({ cls := "CodeCover$Pad", name := "faultAsPattern", desc := "()I" } : MethodName) ({ cls := "CodeCover$Pad", name := "faultAsPattern", desc := "()I" } : MethodName) ∈ jm_wG := jm_mem3 (List.mem_of_getElem? (i := 11) rfl) rfl
theorem jw_492 : Cond.code ({ cls := "CodeCover$Pad", name := "faultAsPattern", desc := "()I" } : MethodName) prog_7_method_4_code 1 (Option.some FieldType.int) ∈ jm_wG := jm_mem3 (List.mem_of_getElem? (i := 12) rfl) rfl
theorem jw_493 : Cond.methodLink "CodeCover$Patterns" 39 ({ cls := "CodeCover$Patterns", name := "headOf", desc := "(I)I" } : MethodName) ∈ jm_wG := jm_mem3 (List.mem_of_getElem? (i := 13) rfl) rfl
theorem jw_494 : Cond.methodLink "CodeCover" 130 ({ cls := "CodeCover$Patterns", name := "take", desc := "(LCodeCover$Pad;II)V" } : MethodName) ∈ jm_wG := jm_mem3 (List.mem_of_getElem? (i := 14) rfl) rfl
theorem jw_495 : Cond.instanceMethod ({ cls := "CodeCover$Patterns", name := "take", desc := "(LCodeCover$Pad;II)V" } : MethodName) ∈ jm_wG := jm_mem3 (List.mem_of_getElem? (i := 15) rfl) rfl
theorem jw_496 : Cond.selects "CodeCover$Patterns" ({ cls := "CodeCover$Patterns", name := "take", desc := "(LCodeCover$Pad;II)V" } : MethodName) ({ cls := "CodeCover$Patterns", name := "take", desc := "(LCodeCover$Pad;II)V" } : MethodName) ∈ jm_wG := jm_mem3 (List.mem_of_getElem? (i := 16) rfl) rfl
theorem jw_497 : Cond.code ({ cls := "CodeCover$Patterns", name := "take", desc := "(LCodeCover$Pad;II)V" } : MethodName) prog_8_method_3_code 5 (Option.none : Option FieldType) ∈ jm_wG := jm_mem3 (List.mem_of_getElem? (i := 17) rfl) rfl
theorem jw_498 : Cond.methodLink "CodeCover$Patterns" 44 ({ cls := "java/lang/Math", name := "min", desc := "(II)I" } : MethodName) ∈ jm_wG := jm_mem3 (List.mem_of_getElem? (i := 18) rfl) rfl
theorem jw_499 : Cond.methodLink "CodeCoverLaw" 40 ({ cls := "CodeCover", name := "price", desc := "(II)I" } : MethodName) ∈ jm_wG := jm_mem3 (List.mem_of_getElem? (i := 19) rfl) rfl
theorem jw_500 : Cond.instanceMethod ({ cls := "CodeCover", name := "price", desc := "(II)I" } : MethodName) ∈ jm_wG := jm_mem3 (List.mem_of_getElem? (i := 20) rfl) rfl
theorem jw_501 : Cond.selects "CodeCover" ({ cls := "CodeCover", name := "price", desc := "(II)I" } : MethodName) ({ cls := "CodeCover", name := "price", desc := "(II)I" } : MethodName) ∈ jm_wG := jm_mem3 (List.mem_of_getElem? (i := 21) rfl) rfl
theorem jw_502 : Cond.code ({ cls := "CodeCover", name := "price", desc := "(II)I" } : MethodName) prog_1_method_8_code 4 (Option.some FieldType.int) ∈ jm_wG := jm_mem3 (List.mem_of_getElem? (i := 22) rfl) rfl
theorem jw_503 : Cond.methodLink "CodeCoverLaw" 44 ({ cls := "CodeCover", name := "clear", desc := "()I" } : MethodName) ∈ jm_wG := jm_mem3 (List.mem_of_getElem? (i := 23) rfl) rfl
theorem jw_504 : Cond.instanceMethod ({ cls := "CodeCover", name := "clear", desc := "()I" } : MethodName) ∈ jm_wG := jm_mem3 (List.mem_of_getElem? (i := 24) rfl) rfl
theorem jw_505 : Cond.selects "CodeCover" ({ cls := "CodeCover", name := "clear", desc := "()I" } : MethodName) ({ cls := "CodeCover", name := "clear", desc := "()I" } : MethodName) ∈ jm_wG := jm_mem3 (List.mem_of_getElem? (i := 25) rfl) rfl
theorem jw_506 : Cond.code ({ cls := "CodeCover", name := "clear", desc := "()I" } : MethodName) prog_1_method_9_code 2 (Option.some FieldType.int) ∈ jm_wG := jm_mem3 (List.mem_of_getElem? (i := 26) rfl) rfl
theorem jw_507 : Cond.methodLink "CodeCoverLaw" 48 ({ cls := "CodeCover", name := "cover", desc := "(III)I" } : MethodName) ∈ jm_wG := jm_mem3 (List.mem_of_getElem? (i := 27) rfl) rfl
theorem jw_508 : Cond.instanceMethod ({ cls := "CodeCover", name := "cover", desc := "(III)I" } : MethodName) ∈ jm_wG := jm_mem3 (List.mem_of_getElem? (i := 28) rfl) rfl
theorem jw_509 : Cond.selects "CodeCover" ({ cls := "CodeCover", name := "cover", desc := "(III)I" } : MethodName) ({ cls := "CodeCover", name := "cover", desc := "(III)I" } : MethodName) ∈ jm_wG := jm_mem3 (List.mem_of_getElem? (i := 29) rfl) rfl
theorem jw_510 : Cond.code ({ cls := "CodeCover", name := "cover", desc := "(III)I" } : MethodName) prog_1_method_10_code 5 (Option.some FieldType.int) ∈ jm_wG := jm_mem3 (List.mem_of_getElem? (i := 30) rfl) rfl
theorem jw_511 : Cond.methodLink "CodeCover" 136 ({ cls := "CodeCover", name := "isBit", desc := "(I)Z" } : MethodName) ∈ jm_wG := jm_mem3 (List.mem_of_getElem? (i := 31) rfl) rfl
theorem jw_512 : Cond.static ({ cls := "CodeCover", name := "isBit", desc := "(I)Z" } : MethodName) ∈ jm_wG := jm_mem3 (List.mem_of_getElem? (i := 32) rfl) rfl
theorem jw_513 : Cond.code ({ cls := "CodeCover", name := "isBit", desc := "(I)Z" } : MethodName) prog_1_method_32_code 1 (Option.some FieldType.boolean) ∈ jm_wG := jm_mem3 (List.mem_of_getElem? (i := 33) rfl) rfl
theorem jw_514 : Cond.methodLink "CodeCover" 139 ({ cls := "CodeCover$Covering", name := "refresh", desc := "()V" } : MethodName) ∈ jm_wG := jm_mem3 (List.mem_of_getElem? (i := 34) rfl) rfl
theorem jw_515 : Cond.instanceMethod ({ cls := "CodeCover$Covering", name := "refresh", desc := "()V" } : MethodName) ∈ jm_wG := jm_mem3 (List.mem_of_getElem? (i := 35) rfl) rfl
theorem jw_516 : Cond.selects "CodeCover$Covering" ({ cls := "CodeCover$Covering", name := "refresh", desc := "()V" } : MethodName) ({ cls := "CodeCover$Covering", name := "refresh", desc := "()V" } : MethodName) ∈ jm_wG := jm_mem3 (List.mem_of_getElem? (i := 36) rfl) rfl
theorem jw_517 : Cond.code ({ cls := "CodeCover$Covering", name := "refresh", desc := "()V" } : MethodName) prog_2_method_3_code 2 (Option.none : Option FieldType) ∈ jm_wG := jm_mem3 (List.mem_of_getElem? (i := 37) rfl) rfl
theorem jw_518 : Cond.methodLink "CodeCover$Covering" 46 ({ cls := "CodeCover$Covering", name := "coverPlainly", desc := "(I)V" } : MethodName) ∈ jm_wG := jm_mem3 (List.mem_of_getElem? (i := 38) rfl) rfl
theorem jw_520 : Cond.instanceMethod ({ cls := "CodeCover$Covering", name := "coverPlainly", desc := "(I)V" } : MethodName) ∈ jm_wG := jm_mem3 (List.mem_of_getElem? (i := 40) rfl) rfl
theorem jw_521 : Cond.code ({ cls := "CodeCover$Covering", name := "coverPlainly", desc := "(I)V" } : MethodName) prog_2_method_4_code 5 (Option.none : Option FieldType) ∈ jm_wG := jm_mem3 (List.mem_of_getElem? (i := 41) rfl) rfl
theorem jw_522 : Cond.methodLink "CodeCover$Covering" 60 ({ cls := "CodeCover$Covering", name := "at", desc := "(II)I" } : MethodName) ∈ jm_wG := jm_mem3 (List.mem_of_getElem? (i := 42) rfl) rfl
theorem jw_523 : Cond.static ({ cls := "CodeCover$Covering", name := "at", desc := "(II)I" } : MethodName) ∈ jm_wG := jm_mem3 (List.mem_of_getElem? (i := 43) rfl) rfl
theorem jw_524 : Cond.code ({ cls := "CodeCover$Covering", name := "at", desc := "(II)I" } : MethodName) prog_2_method_2_code 2 (Option.some FieldType.int) ∈ jm_wG := jm_mem3 (List.mem_of_getElem? (i := 44) rfl) rfl
theorem jw_525 : Cond.constant "CodeCover$Covering" 64 (1000000 : Int32) ∈ jm_wG := jm_mem3 (List.mem_of_getElem? (i := 45) rfl) rfl
theorem jw_526 : Cond.methodLink "CodeCover$Covering" 68 ({ cls := "CodeCover$Patterns", name := "chainFrom", desc := "(I)I" } : MethodName) ∈ jm_wG := jm_mem3 (List.mem_of_getElem? (i := 46) rfl) rfl
theorem jw_527 : Cond.instanceMethod ({ cls := "CodeCover$Patterns", name := "chainFrom", desc := "(I)I" } : MethodName) ∈ jm_wG := jm_mem3 (List.mem_of_getElem? (i := 47) rfl) rfl
theorem jw_528 : Cond.selects "CodeCover$Patterns" ({ cls := "CodeCover$Patterns", name := "chainFrom", desc := "(I)I" } : MethodName) ({ cls := "CodeCover$Patterns", name := "chainFrom", desc := "(I)I" } : MethodName) ∈ jm_wG := jm_mem3 (List.mem_of_getElem? (i := 48) rfl) rfl
theorem jw_529 : Cond.code ({ cls := "CodeCover$Patterns", name := "chainFrom", desc := "(I)I" } : MethodName) prog_8_method_4_code 2 (Option.some FieldType.int) ∈ jm_wG := jm_mem3 (List.mem_of_getElem? (i := 49) rfl) rfl
theorem jw_530 : Cond.methodLink "CodeCover$Covering" 72 ({ cls := "CodeCover$Covering", name := "costOf", desc := "(II)I" } : MethodName) ∈ jm_wG := jm_mem3 (List.mem_of_getElem? (i := 50) rfl) rfl
theorem jw_532 : Cond.instanceMethod ({ cls := "CodeCover$Covering", name := "costOf", desc := "(II)I" } : MethodName) ∈ jm_wG := jm_mem3 (List.mem_of_getElem? (i := 52) rfl) rfl
theorem jw_533 : Cond.code ({ cls := "CodeCover$Covering", name := "costOf", desc := "(II)I" } : MethodName) prog_2_method_6_code 8 (Option.some FieldType.int) ∈ jm_wG := jm_mem3 (List.mem_of_getElem? (i := 53) rfl) rfl
theorem jw_534 : Cond.methodLink "CodeCover$Covering" 88 ({ cls := "CodeCover$Patterns", name := "headOf", desc := "(I)I" } : MethodName) ∈ jm_wG := jm_mem3 (List.mem_of_getElem? (i := 54) rfl) rfl
theorem jw_535 : Cond.methodLink "CodeCover$Covering" 91 ({ cls := "java/lang/Math", name := "min", desc := "(II)I" } : MethodName) ∈ jm_wG := jm_mem3 (List.mem_of_getElem? (i := 55) rfl) rfl
theorem jw_536 : Cond.methodLink "CodeCover$Covering" 102 ({ cls := "CodeCover$Patterns", name := "fits", desc := "(II)Z" } : MethodName) ∈ jm_wG := jm_mem3 (List.mem_of_getElem? (i := 56) rfl) rfl
theorem jw_537 : Cond.static ({ cls := "CodeCover$Patterns", name := "fits", desc := "(II)Z" } : MethodName) ∈ jm_wG := jm_mem3 (List.mem_of_getElem? (i := 57) rfl) rfl
theorem jw_538 : Cond.code ({ cls := "CodeCover$Patterns", name := "fits", desc := "(II)Z" } : MethodName) prog_8_method_6_code 2 (Option.some FieldType.boolean) ∈ jm_wG := jm_mem3 (List.mem_of_getElem? (i := 58) rfl) rfl
theorem jw_539 : Cond.methodLink "CodeCover$Patterns" 50 ({ cls := "CodeCover$Pad", name := "isNumber", desc := "(I)Z" } : MethodName) ∈ jm_wG := jm_mem3 (List.mem_of_getElem? (i := 59) rfl) rfl
theorem jw_540 : Cond.methodLink "CodeCover$Patterns" 54 ({ cls := "CodeCover$Pad", name := "isVariable", desc := "(I)Z" } : MethodName) ∈ jm_wG := jm_mem3 (List.mem_of_getElem? (i := 60) rfl) rfl
theorem jw_541 : Cond.methodLink "CodeCover$Covering" 50 ({ cls := "CodeCover$Covering", name := "coverWithChains", desc := "(I)V" } : MethodName) ∈ jm_wG := jm_mem3 (List.mem_of_getElem? (i := 61) rfl) rfl
theorem jw_543 : Cond.instanceMethod ({ cls := "CodeCover$Covering", name := "coverWithChains", desc := "(I)V" } : MethodName) ∈ jm_wG := jm_mem3 (List.mem_of_getElem? (i := 63) rfl) rfl
theorem jw_544 : Cond.code ({ cls := "CodeCover$Covering", name := "coverWithChains", desc := "(I)V" } : MethodName) prog_2_method_5_code 6 (Option.none : Option FieldType) ∈ jm_wG := jm_mem3 (List.mem_of_getElem? (i := 64) rfl) rfl
theorem jw_545 : Cond.methodLink "CodeCover$Covering" 56 ({ cls := "CodeCover$Covering", name := "tell", desc := "(III)V" } : MethodName) ∈ jm_wG := jm_mem3 (List.mem_of_getElem? (i := 65) rfl) rfl
theorem jw_547 : Cond.instanceMethod ({ cls := "CodeCover$Covering", name := "tell", desc := "(III)V" } : MethodName) ∈ jm_wG := jm_mem3 (List.mem_of_getElem? (i := 67) rfl) rfl
theorem jw_548 : Cond.code ({ cls := "CodeCover$Covering", name := "tell", desc := "(III)V" } : MethodName) prog_2_method_7_code 6 (Option.none : Option FieldType) ∈ jm_wG := jm_mem3 (List.mem_of_getElem? (i := 68) rfl) rfl
theorem jw_549 : Cond.methodLink "CodeCover$Covering" 106 ({ cls := "CodeCover$Covering", name := "tellPlain", desc := "(III)V" } : MethodName) ∈ jm_wG := jm_mem3 (List.mem_of_getElem? (i := 69) rfl) rfl
theorem jw_551 : Cond.instanceMethod ({ cls := "CodeCover$Covering", name := "tellPlain", desc := "(III)V" } : MethodName) ∈ jm_wG := jm_mem3 (List.mem_of_getElem? (i := 71) rfl) rfl
theorem jw_552 : Cond.code ({ cls := "CodeCover$Covering", name := "tellPlain", desc := "(III)V" } : MethodName) prog_2_method_8_code 8 (Option.none : Option FieldType) ∈ jm_wG := jm_mem3 (List.mem_of_getElem? (i := 72) rfl) rfl
theorem jw_553 : Cond.methodLink "CodeCover$Covering" 109 ({ cls := "CodeCover$Covering", name := "tellOne", desc := "(II)V" } : MethodName) ∈ jm_wG := jm_mem3 (List.mem_of_getElem? (i := 73) rfl) rfl
theorem jw_555 : Cond.instanceMethod ({ cls := "CodeCover$Covering", name := "tellOne", desc := "(II)V" } : MethodName) ∈ jm_wG := jm_mem3 (List.mem_of_getElem? (i := 75) rfl) rfl
theorem jw_556 : Cond.code ({ cls := "CodeCover$Covering", name := "tellOne", desc := "(II)V" } : MethodName) prog_2_method_9_code 3 (Option.none : Option FieldType) ∈ jm_wG := jm_mem3 (List.mem_of_getElem? (i := 76) rfl) rfl
theorem jw_557 : Cond.methodLink "CodeCover" 142 ({ cls := "CodeCover$Covering", name := "at", desc := "(II)I" } : MethodName) ∈ jm_wG := jm_mem3 (List.mem_of_getElem? (i := 77) rfl) rfl
theorem jw_558 : Cond.methodLink "CodeCoverLaw" 53 ({ cls := "CodeCover", name := "code", desc := "(II)I" } : MethodName) ∈ jm_wG := jm_mem3 (List.mem_of_getElem? (i := 78) rfl) rfl
theorem jw_559 : Cond.instanceMethod ({ cls := "CodeCover", name := "code", desc := "(II)I" } : MethodName) ∈ jm_wG := jm_mem3 (List.mem_of_getElem? (i := 79) rfl) rfl
theorem jw_560 : Cond.selects "CodeCover" ({ cls := "CodeCover", name := "code", desc := "(II)I" } : MethodName) ({ cls := "CodeCover", name := "code", desc := "(II)I" } : MethodName) ∈ jm_wG := jm_mem3 (List.mem_of_getElem? (i := 80) rfl) rfl
theorem jw_561 : Cond.code ({ cls := "CodeCover", name := "code", desc := "(II)I" } : MethodName) prog_1_method_11_code 3 (Option.some FieldType.int) ∈ jm_wG := jm_mem3 (List.mem_of_getElem? (i := 81) rfl) rfl
theorem jw_562 : Cond.methodLink "CodeCoverLaw" 57 ({ cls := "CodeCover", name := "stores", desc := "(I)I" } : MethodName) ∈ jm_wG := jm_mem3 (List.mem_of_getElem? (i := 82) rfl) rfl
theorem jw_563 : Cond.instanceMethod ({ cls := "CodeCover", name := "stores", desc := "(I)I" } : MethodName) ∈ jm_wG := jm_mem3 (List.mem_of_getElem? (i := 83) rfl) rfl
theorem jw_564 : Cond.selects "CodeCover" ({ cls := "CodeCover", name := "stores", desc := "(I)I" } : MethodName) ({ cls := "CodeCover", name := "stores", desc := "(I)I" } : MethodName) ∈ jm_wG := jm_mem3 (List.mem_of_getElem? (i := 84) rfl) rfl
theorem jw_565 : Cond.code ({ cls := "CodeCover", name := "stores", desc := "(I)I" } : MethodName) prog_1_method_12_code 2 (Option.some FieldType.int) ∈ jm_wG := jm_mem3 (List.mem_of_getElem? (i := 85) rfl) rfl
theorem jw_566 : Cond.methodLink "CodeCover" 161 ({ cls := "CodeCover$Tree", name := "storesWith", desc := "(I)I" } : MethodName) ∈ jm_wG := jm_mem3 (List.mem_of_getElem? (i := 86) rfl) rfl
theorem jw_567 : Cond.instanceMethod ({ cls := "CodeCover$Tree", name := "storesWith", desc := "(I)I" } : MethodName) ∈ jm_wG := jm_mem3 (List.mem_of_getElem? (i := 87) rfl) rfl
theorem jw_568 : Cond.selects "CodeCover$Tree" ({ cls := "CodeCover$Tree", name := "storesWith", desc := "(I)I" } : MethodName) ({ cls := "CodeCover$Tree", name := "storesWith", desc := "(I)I" } : MethodName) ∈ jm_wG := jm_mem3 (List.mem_of_getElem? (i := 88) rfl) rfl
theorem jw_569 : Cond.code ({ cls := "CodeCover$Tree", name := "storesWith", desc := "(I)I" } : MethodName) prog_11_method_7_code 6 (Option.some FieldType.int) ∈ jm_wG := jm_mem3 (List.mem_of_getElem? (i := 89) rfl) rfl
theorem jw_570 : Cond.methodLink "CodeCoverLaw" 61 ({ cls := "CodeCover", name := "add", desc := "(IIIII)I" } : MethodName) ∈ jm_wG := jm_mem3 (List.mem_of_getElem? (i := 90) rfl) rfl
theorem jw_571 : Cond.instanceMethod ({ cls := "CodeCover", name := "add", desc := "(IIIII)I" } : MethodName) ∈ jm_wG := jm_mem3 (List.mem_of_getElem? (i := 91) rfl) rfl
theorem jw_572 : Cond.selects "CodeCover" ({ cls := "CodeCover", name := "add", desc := "(IIIII)I" } : MethodName) ({ cls := "CodeCover", name := "add", desc := "(IIIII)I" } : MethodName) ∈ jm_wG := jm_mem3 (List.mem_of_getElem? (i := 92) rfl) rfl
theorem jw_573 : Cond.code ({ cls := "CodeCover", name := "add", desc := "(IIIII)I" } : MethodName) prog_1_method_13_code 6 (Option.some FieldType.int) ∈ jm_wG := jm_mem3 (List.mem_of_getElem? (i := 93) rfl) rfl
theorem jw_574 : Cond.methodLink "CodeCover" 164 ({ cls := "CodeCover$Row", name := "isOp", desc := "(I)Z" } : MethodName) ∈ jm_wG := jm_mem3 (List.mem_of_getElem? (i := 94) rfl) rfl
theorem jw_575 : Cond.static ({ cls := "CodeCover$Row", name := "isOp", desc := "(I)Z" } : MethodName) ∈ jm_wG := jm_mem3 (List.mem_of_getElem? (i := 95) rfl) rfl
theorem jw_576 : Cond.code ({ cls := "CodeCover$Row", name := "isOp", desc := "(I)Z" } : MethodName) prog_9_method_2_code 1 (Option.some FieldType.boolean) ∈ jm_wG := jm_mem3 (List.mem_of_getElem? (i := 96) rfl) rfl
theorem jw_577 : Cond.methodLink "CodeCover" 167 ({ cls := "CodeCover$Row", name := "isRegister", desc := "(I)Z" } : MethodName) ∈ jm_wG := jm_mem3 (List.mem_of_getElem? (i := 97) rfl) rfl
theorem jw_578 : Cond.static ({ cls := "CodeCover$Row", name := "isRegister", desc := "(I)Z" } : MethodName) ∈ jm_wG := jm_mem3 (List.mem_of_getElem? (i := 98) rfl) rfl
theorem jw_579 : Cond.code ({ cls := "CodeCover$Row", name := "isRegister", desc := "(I)Z" } : MethodName) prog_9_method_3_code 1 (Option.some FieldType.boolean) ∈ jm_wG := jm_mem3 (List.mem_of_getElem? (i := 99) rfl) rfl
theorem jw_580 : Cond.methodLink "CodeCover" 170 ({ cls := "CodeCover$Row", name := "hasSecond", desc := "(I)Z" } : MethodName) ∈ jm_wG := jm_mem3 (List.mem_of_getElem? (i := 100) rfl) rfl
theorem jw_581 : Cond.methodLink "CodeCover" 173 ({ cls := "CodeCover$Row", name := "append", desc := "(IIIII)Z" } : MethodName) ∈ jm_wG := jm_mem3 (List.mem_of_getElem? (i := 101) rfl) rfl
theorem jw_582 : Cond.instanceMethod ({ cls := "CodeCover$Row", name := "append", desc := "(IIIII)Z" } : MethodName) ∈ jm_wG := jm_mem3 (List.mem_of_getElem? (i := 102) rfl) rfl
theorem jw_583 : Cond.selects "CodeCover$Row" ({ cls := "CodeCover$Row", name := "append", desc := "(IIIII)Z" } : MethodName) ({ cls := "CodeCover$Row", name := "append", desc := "(IIIII)Z" } : MethodName) ∈ jm_wG := jm_mem3 (List.mem_of_getElem? (i := 103) rfl) rfl
theorem jw_584 : Cond.code ({ cls := "CodeCover$Row", name := "append", desc := "(IIIII)Z" } : MethodName) prog_9_method_6_code 6 (Option.some FieldType.boolean) ∈ jm_wG := jm_mem3 (List.mem_of_getElem? (i := 104) rfl) rfl
theorem jw_585 : Cond.methodLink "CodeCoverLaw" 66 ({ cls := "CodeCover", name := "drop", desc := "()I" } : MethodName) ∈ jm_wG := jm_mem3 (List.mem_of_getElem? (i := 105) rfl) rfl
theorem jw_586 : Cond.instanceMethod ({ cls := "CodeCover", name := "drop", desc := "()I" } : MethodName) ∈ jm_wG := jm_mem3 (List.mem_of_getElem? (i := 106) rfl) rfl
theorem jw_587 : Cond.selects "CodeCover" ({ cls := "CodeCover", name := "drop", desc := "()I" } : MethodName) ({ cls := "CodeCover", name := "drop", desc := "()I" } : MethodName) ∈ jm_wG := jm_mem3 (List.mem_of_getElem? (i := 107) rfl) rfl
theorem jw_588 : Cond.code ({ cls := "CodeCover", name := "drop", desc := "()I" } : MethodName) prog_1_method_14_code 2 (Option.some FieldType.int) ∈ jm_wG := jm_mem3 (List.mem_of_getElem? (i := 108) rfl) rfl
theorem jw_589 : Cond.methodLink "CodeCover" 178 ({ cls := "CodeCover$Row", name := "empty", desc := "()V" } : MethodName) ∈ jm_wG := jm_mem3 (List.mem_of_getElem? (i := 109) rfl) rfl
theorem jw_590 : Cond.instanceMethod ({ cls := "CodeCover$Row", name := "empty", desc := "()V" } : MethodName) ∈ jm_wG := jm_mem3 (List.mem_of_getElem? (i := 110) rfl) rfl
theorem jw_591 : Cond.selects "CodeCover$Row" ({ cls := "CodeCover$Row", name := "empty", desc := "()V" } : MethodName) ({ cls := "CodeCover$Row", name := "empty", desc := "()V" } : MethodName) ∈ jm_wG := jm_mem3 (List.mem_of_getElem? (i := 111) rfl) rfl
theorem jw_592 : Cond.code ({ cls := "CodeCover$Row", name := "empty", desc := "()V" } : MethodName) prog_9_method_7_code 1 (Option.none : Option FieldType) ∈ jm_wG := jm_mem3 (List.mem_of_getElem? (i := 112) rfl) rfl
theorem jw_593 : Cond.methodLink "CodeCoverLaw" 70 ({ cls := "CodeCover", name := "about", desc := "(II)I" } : MethodName) ∈ jm_wG := jm_mem3 (List.mem_of_getElem? (i := 113) rfl) rfl
theorem jw_594 : Cond.instanceMethod ({ cls := "CodeCover", name := "about", desc := "(II)I" } : MethodName) ∈ jm_wG := jm_mem3 (List.mem_of_getElem? (i := 114) rfl) rfl
theorem jw_595 : Cond.selects "CodeCover" ({ cls := "CodeCover", name := "about", desc := "(II)I" } : MethodName) ({ cls := "CodeCover", name := "about", desc := "(II)I" } : MethodName) ∈ jm_wG := jm_mem3 (List.mem_of_getElem? (i := 115) rfl) rfl
theorem jw_596 : Cond.code ({ cls := "CodeCover", name := "about", desc := "(II)I" } : MethodName) prog_1_method_15_code 3 (Option.some FieldType.int) ∈ jm_wG := jm_mem3 (List.mem_of_getElem? (i := 116) rfl) rfl
theorem jw_597 : Cond.methodLink "CodeCover" 181 ({ cls := "CodeCover$Row", name := "has", desc := "(I)Z" } : MethodName) ∈ jm_wG := jm_mem3 (List.mem_of_getElem? (i := 117) rfl) rfl
theorem jw_598 : Cond.instanceMethod ({ cls := "CodeCover$Row", name := "has", desc := "(I)Z" } : MethodName) ∈ jm_wG := jm_mem3 (List.mem_of_getElem? (i := 118) rfl) rfl
theorem jw_599 : Cond.selects "CodeCover$Row" ({ cls := "CodeCover$Row", name := "has", desc := "(I)Z" } : MethodName) ({ cls := "CodeCover$Row", name := "has", desc := "(I)Z" } : MethodName) ∈ jm_wG := jm_mem3 (List.mem_of_getElem? (i := 119) rfl) rfl
theorem jw_600 : Cond.code ({ cls := "CodeCover$Row", name := "has", desc := "(I)Z" } : MethodName) prog_9_method_5_code 2 (Option.some FieldType.boolean) ∈ jm_wG := jm_mem3 (List.mem_of_getElem? (i := 120) rfl) rfl
theorem jw_601 : Cond.methodLink "CodeCover" 182 ({ cls := "CodeCover$Row", name := "cycleOf", desc := "(I)I" } : MethodName) ∈ jm_wG := jm_mem3 (List.mem_of_getElem? (i := 121) rfl) rfl
theorem jw_602 : Cond.instanceMethod ({ cls := "CodeCover$Row", name := "cycleOf", desc := "(I)I" } : MethodName) ∈ jm_wG := jm_mem3 (List.mem_of_getElem? (i := 122) rfl) rfl
theorem jw_603 : Cond.selects "CodeCover$Row" ({ cls := "CodeCover$Row", name := "cycleOf", desc := "(I)I" } : MethodName) ({ cls := "CodeCover$Row", name := "cycleOf", desc := "(I)I" } : MethodName) ∈ jm_wG := jm_mem3 (List.mem_of_getElem? (i := 123) rfl) rfl
theorem jw_604 : Cond.code ({ cls := "CodeCover$Row", name := "cycleOf", desc := "(I)I" } : MethodName) prog_9_method_15_code 2 (Option.some FieldType.int) ∈ jm_wG := jm_mem3 (List.mem_of_getElem? (i := 124) rfl) rfl
theorem jw_605 : Cond.methodLink "CodeCover$Row" 43 ({ cls := "CodeCover$Row", name := "findCycles", desc := "()V" } : MethodName) ∈ jm_wG := jm_mem3 (List.mem_of_getElem? (i := 125) rfl) rfl
theorem jw_607 : Cond.instanceMethod ({ cls := "CodeCover$Row", name := "findCycles", desc := "()V" } : MethodName) ∈ jm_wG := jm_mem3 (List.mem_of_getElem? (i := 127) rfl) rfl
theorem jw_608 : Cond.code ({ cls := "CodeCover$Row", name := "findCycles", desc := "()V" } : MethodName) prog_9_method_17_code 3 (Option.none : Option FieldType) ∈ jm_wG := jm_mem3 (List.mem_of_getElem? (i := 128) rfl) rfl
theorem jw_609 : Cond.methodLink "CodeCover$Row" 51 ({ cls := "CodeCover$Row", name := "firstSetter", desc := "(I)I" } : MethodName) ∈ jm_wG := jm_mem3 (List.mem_of_getElem? (i := 129) rfl) rfl
theorem jw_610 : Cond.instanceMethod ({ cls := "CodeCover$Row", name := "firstSetter", desc := "(I)I" } : MethodName) ∈ jm_wG := jm_mem3 (List.mem_of_getElem? (i := 130) rfl) rfl
theorem jw_611 : Cond.selects "CodeCover$Row" ({ cls := "CodeCover$Row", name := "firstSetter", desc := "(I)I" } : MethodName) ({ cls := "CodeCover$Row", name := "firstSetter", desc := "(I)I" } : MethodName) ∈ jm_wG := jm_mem3 (List.mem_of_getElem? (i := 131) rfl) rfl
theorem jw_612 : Cond.code ({ cls := "CodeCover$Row", name := "firstSetter", desc := "(I)I" } : MethodName) prog_9_method_13_code 2 (Option.some FieldType.int) ∈ jm_wG := jm_mem3 (List.mem_of_getElem? (i := 132) rfl) rfl
theorem jw_613 : Cond.methodLink "CodeCover$Row" 39 ({ cls := "CodeCover$Row", name := "setterAhead", desc := "(II)I" } : MethodName) ∈ jm_wG := jm_mem3 (List.mem_of_getElem? (i := 133) rfl) rfl
theorem jw_615 : Cond.instanceMethod ({ cls := "CodeCover$Row", name := "setterAhead", desc := "(II)I" } : MethodName) ∈ jm_wG := jm_mem3 (List.mem_of_getElem? (i := 135) rfl) rfl
theorem jw_616 : Cond.code ({ cls := "CodeCover$Row", name := "setterAhead", desc := "(II)I" } : MethodName) prog_9_method_12_code 4 (Option.some FieldType.int) ∈ jm_wG := jm_mem3 (List.mem_of_getElem? (i := 136) rfl) rfl
theorem jw_617 : Cond.methodLink "CodeCover$Row" 55 ({ cls := "CodeCover$Row", name := "readyAt", desc := "(I)I" } : MethodName) ∈ jm_wG := jm_mem3 (List.mem_of_getElem? (i := 137) rfl) rfl
theorem jw_619 : Cond.instanceMethod ({ cls := "CodeCover$Row", name := "readyAt", desc := "(I)I" } : MethodName) ∈ jm_wG := jm_mem3 (List.mem_of_getElem? (i := 139) rfl) rfl
theorem jw_620 : Cond.code ({ cls := "CodeCover$Row", name := "readyAt", desc := "(I)I" } : MethodName) prog_9_method_18_code 2 (Option.some FieldType.int) ∈ jm_wG := jm_mem3 (List.mem_of_getElem? (i := 140) rfl) rfl
theorem jw_621 : Cond.methodLink "CodeCover$Row" 58 ({ cls := "CodeCover$Row", name := "secondSetter", desc := "(I)I" } : MethodName) ∈ jm_wG := jm_mem3 (List.mem_of_getElem? (i := 141) rfl) rfl
theorem jw_622 : Cond.instanceMethod ({ cls := "CodeCover$Row", name := "secondSetter", desc := "(I)I" } : MethodName) ∈ jm_wG := jm_mem3 (List.mem_of_getElem? (i := 142) rfl) rfl
theorem jw_623 : Cond.selects "CodeCover$Row" ({ cls := "CodeCover$Row", name := "secondSetter", desc := "(I)I" } : MethodName) ({ cls := "CodeCover$Row", name := "secondSetter", desc := "(I)I" } : MethodName) ∈ jm_wG := jm_mem3 (List.mem_of_getElem? (i := 143) rfl) rfl
theorem jw_624 : Cond.code ({ cls := "CodeCover$Row", name := "secondSetter", desc := "(I)I" } : MethodName) prog_9_method_14_code 2 (Option.some FieldType.int) ∈ jm_wG := jm_mem3 (List.mem_of_getElem? (i := 144) rfl) rfl
theorem jw_625 : Cond.methodLink "CodeCover$Row" 32 ({ cls := "CodeCover$Row", name := "hasSecond", desc := "(I)Z" } : MethodName) ∈ jm_wG := jm_mem3 (List.mem_of_getElem? (i := 145) rfl) rfl
theorem jw_626 : Cond.methodLink "CodeCover$Row" 46 ({ cls := "java/lang/Math", name := "max", desc := "(II)I" } : MethodName) ∈ jm_wG := jm_mem3 (List.mem_of_getElem? (i := 146) rfl) rfl
theorem jw_627 : Cond.methodLink "CodeCoverLaw" 74 ({ cls := "CodeCover", name := "end", desc := "()I" } : MethodName) ∈ jm_wG := jm_mem3 (List.mem_of_getElem? (i := 147) rfl) rfl
theorem jw_628 : Cond.instanceMethod ({ cls := "CodeCover", name := "end", desc := "()I" } : MethodName) ∈ jm_wG := jm_mem3 (List.mem_of_getElem? (i := 148) rfl) rfl
theorem jw_629 : Cond.selects "CodeCover" ({ cls := "CodeCover", name := "end", desc := "()I" } : MethodName) ({ cls := "CodeCover", name := "end", desc := "()I" } : MethodName) ∈ jm_wG := jm_mem3 (List.mem_of_getElem? (i := 149) rfl) rfl
theorem jw_630 : Cond.code ({ cls := "CodeCover", name := "end", desc := "()I" } : MethodName) prog_1_method_16_code 1 (Option.some FieldType.int) ∈ jm_wG := jm_mem3 (List.mem_of_getElem? (i := 150) rfl) rfl
theorem jw_631 : Cond.methodLink "CodeCover" 189 ({ cls := "CodeCover$Row", name := "endAsWritten", desc := "()I" } : MethodName) ∈ jm_wG := jm_mem3 (List.mem_of_getElem? (i := 151) rfl) rfl
theorem jw_632 : Cond.instanceMethod ({ cls := "CodeCover$Row", name := "endAsWritten", desc := "()I" } : MethodName) ∈ jm_wG := jm_mem3 (List.mem_of_getElem? (i := 152) rfl) rfl
theorem jw_633 : Cond.selects "CodeCover$Row" ({ cls := "CodeCover$Row", name := "endAsWritten", desc := "()I" } : MethodName) ({ cls := "CodeCover$Row", name := "endAsWritten", desc := "()I" } : MethodName) ∈ jm_wG := jm_mem3 (List.mem_of_getElem? (i := 153) rfl) rfl
theorem jw_634 : Cond.code ({ cls := "CodeCover$Row", name := "endAsWritten", desc := "()I" } : MethodName) prog_9_method_16_code 3 (Option.some FieldType.int) ∈ jm_wG := jm_mem3 (List.mem_of_getElem? (i := 154) rfl) rfl
theorem jw_635 : Cond.methodLink "CodeCoverLaw" 78 ({ cls := "CodeCover", name := "ahead", desc := "(II)I" } : MethodName) ∈ jm_wG := jm_mem3 (List.mem_of_getElem? (i := 155) rfl) rfl
theorem jw_636 : Cond.instanceMethod ({ cls := "CodeCover", name := "ahead", desc := "(II)I" } : MethodName) ∈ jm_wG := jm_mem3 (List.mem_of_getElem? (i := 156) rfl) rfl
theorem jw_637 : Cond.selects "CodeCover" ({ cls := "CodeCover", name := "ahead", desc := "(II)I" } : MethodName) ({ cls := "CodeCover", name := "ahead", desc := "(II)I" } : MethodName) ∈ jm_wG := jm_mem3 (List.mem_of_getElem? (i := 157) rfl) rfl
theorem jw_638 : Cond.code ({ cls := "CodeCover", name := "ahead", desc := "(II)I" } : MethodName) prog_1_method_17_code 3 (Option.some FieldType.int) ∈ jm_wG := jm_mem3 (List.mem_of_getElem? (i := 158) rfl) rfl
theorem jw_639 : Cond.methodLink "CodeCover" 192 ({ cls := "CodeCover$Row", name := "clash", desc := "(II)Z" } : MethodName) ∈ jm_wG := jm_mem3 (List.mem_of_getElem? (i := 159) rfl) rfl
theorem jw_640 : Cond.instanceMethod ({ cls := "CodeCover$Row", name := "clash", desc := "(II)Z" } : MethodName) ∈ jm_wG := jm_mem3 (List.mem_of_getElem? (i := 160) rfl) rfl
theorem jw_641 : Cond.selects "CodeCover$Row" ({ cls := "CodeCover$Row", name := "clash", desc := "(II)Z" } : MethodName) ({ cls := "CodeCover$Row", name := "clash", desc := "(II)Z" } : MethodName) ∈ jm_wG := jm_mem3 (List.mem_of_getElem? (i := 161) rfl) rfl
theorem jw_642 : Cond.code ({ cls := "CodeCover$Row", name := "clash", desc := "(II)Z" } : MethodName) prog_9_method_11_code 5 (Option.some FieldType.boolean) ∈ jm_wG := jm_mem3 (List.mem_of_getElem? (i := 162) rfl) rfl
theorem jw_643 : Cond.methodLink "CodeCover$Row" 35 ({ cls := "CodeCover$Row", name := "uses", desc := "(II)Z" } : MethodName) ∈ jm_wG := jm_mem3 (List.mem_of_getElem? (i := 163) rfl) rfl
theorem jw_644 : Cond.instanceMethod ({ cls := "CodeCover$Row", name := "uses", desc := "(II)Z" } : MethodName) ∈ jm_wG := jm_mem3 (List.mem_of_getElem? (i := 164) rfl) rfl
theorem jw_645 : Cond.selects "CodeCover$Row" ({ cls := "CodeCover$Row", name := "uses", desc := "(II)Z" } : MethodName) ({ cls := "CodeCover$Row", name := "uses", desc := "(II)Z" } : MethodName) ∈ jm_wG := jm_mem3 (List.mem_of_getElem? (i := 165) rfl) rfl
theorem jw_646 : Cond.code ({ cls := "CodeCover$Row", name := "uses", desc := "(II)Z" } : MethodName) prog_9_method_10_code 3 (Option.some FieldType.boolean) ∈ jm_wG := jm_mem3 (List.mem_of_getElem? (i := 166) rfl) rfl
theorem jw_647 : Cond.methodLink "CodeCoverLaw" 82 ({ cls := "CodeCover", name := "best", desc := "(I)I" } : MethodName) ∈ jm_wG := jm_mem3 (List.mem_of_getElem? (i := 167) rfl) rfl
theorem jw_648 : Cond.instanceMethod ({ cls := "CodeCover", name := "best", desc := "(I)I" } : MethodName) ∈ jm_wG := jm_mem3 (List.mem_of_getElem? (i := 168) rfl) rfl
theorem jw_649 : Cond.selects "CodeCover" ({ cls := "CodeCover", name := "best", desc := "(I)I" } : MethodName) ({ cls := "CodeCover", name := "best", desc := "(I)I" } : MethodName) ∈ jm_wG := jm_mem3 (List.mem_of_getElem? (i := 169) rfl) rfl
theorem jw_650 : Cond.code ({ cls := "CodeCover", name := "best", desc := "(I)I" } : MethodName) prog_1_method_18_code 2 (Option.some FieldType.int) ∈ jm_wG := jm_mem3 (List.mem_of_getElem? (i := 170) rfl) rfl
theorem jw_651 : Cond.methodLink "CodeCover" 196 ({ cls := "CodeCover$Order", name := "refresh", desc := "()V" } : MethodName) ∈ jm_wG := jm_mem3 (List.mem_of_getElem? (i := 171) rfl) rfl
theorem jw_652 : Cond.instanceMethod ({ cls := "CodeCover$Order", name := "refresh", desc := "()V" } : MethodName) ∈ jm_wG := jm_mem3 (List.mem_of_getElem? (i := 172) rfl) rfl
theorem jw_653 : Cond.selects "CodeCover$Order" ({ cls := "CodeCover$Order", name := "refresh", desc := "()V" } : MethodName) ({ cls := "CodeCover$Order", name := "refresh", desc := "()V" } : MethodName) ∈ jm_wG := jm_mem3 (List.mem_of_getElem? (i := 173) rfl) rfl
theorem jw_654 : Cond.code ({ cls := "CodeCover$Order", name := "refresh", desc := "()V" } : MethodName) prog_6_method_2_code 2 (Option.none : Option FieldType) ∈ jm_wG := jm_mem3 (List.mem_of_getElem? (i := 174) rfl) rfl
theorem jw_655 : Cond.methodLink "CodeCover$Order" 49 ({ cls := "CodeCover$Order", name := "prepare", desc := "(I)V" } : MethodName) ∈ jm_wG := jm_mem3 (List.mem_of_getElem? (i := 175) rfl) rfl
theorem jw_657 : Cond.instanceMethod ({ cls := "CodeCover$Order", name := "prepare", desc := "(I)V" } : MethodName) ∈ jm_wG := jm_mem3 (List.mem_of_getElem? (i := 177) rfl) rfl
theorem jw_658 : Cond.code ({ cls := "CodeCover$Order", name := "prepare", desc := "(I)V" } : MethodName) prog_6_method_3_code 5 (Option.none : Option FieldType) ∈ jm_wG := jm_mem3 (List.mem_of_getElem? (i := 178) rfl) rfl
theorem jw_659 : Cond.methodLink "CodeCover$Order" 64 ({ cls := "CodeCover$Row", name := "firstSetter", desc := "(I)I" } : MethodName) ∈ jm_wG := jm_mem3 (List.mem_of_getElem? (i := 179) rfl) rfl
theorem jw_660 : Cond.methodLink "CodeCover$Order" 67 ({ cls := "CodeCover$Row", name := "secondSetter", desc := "(I)I" } : MethodName) ∈ jm_wG := jm_mem3 (List.mem_of_getElem? (i := 180) rfl) rfl
theorem jw_661 : Cond.methodLink "CodeCover$Order" 69 ({ cls := "CodeCover$Row", name := "clash", desc := "(II)Z" } : MethodName) ∈ jm_wG := jm_mem3 (List.mem_of_getElem? (i := 181) rfl) rfl
theorem jw_662 : Cond.methodLink "CodeCover$Order" 77 ({ cls := "java/lang/Math", name := "max", desc := "(II)I" } : MethodName) ∈ jm_wG := jm_mem3 (List.mem_of_getElem? (i := 182) rfl) rfl
theorem jw_663 : Cond.methodLink "CodeCover$Order" 53 ({ cls := "CodeCover$Order", name := "rankByTail", desc := "(I)V" } : MethodName) ∈ jm_wG := jm_mem3 (List.mem_of_getElem? (i := 183) rfl) rfl
theorem jw_665 : Cond.instanceMethod ({ cls := "CodeCover$Order", name := "rankByTail", desc := "(I)V" } : MethodName) ∈ jm_wG := jm_mem3 (List.mem_of_getElem? (i := 185) rfl) rfl
theorem jw_666 : Cond.code ({ cls := "CodeCover$Order", name := "rankByTail", desc := "(I)V" } : MethodName) prog_6_method_4_code 4 (Option.none : Option FieldType) ∈ jm_wG := jm_mem3 (List.mem_of_getElem? (i := 186) rfl) rfl
theorem jw_667 : Cond.constant "CodeCover$Order" 56 (1000000 : Int32) ∈ jm_wG := jm_mem3 (List.mem_of_getElem? (i := 187) rfl) rfl
theorem jw_668 : Cond.methodLink "CodeCover$Order" 60 ({ cls := "CodeCover$Order", name := "extend", desc := "(III)V" } : MethodName) ∈ jm_wG := jm_mem3 (List.mem_of_getElem? (i := 188) rfl) rfl
theorem jw_670 : Cond.instanceMethod ({ cls := "CodeCover$Order", name := "extend", desc := "(III)V" } : MethodName) ∈ jm_wG := jm_mem3 (List.mem_of_getElem? (i := 190) rfl) rfl
theorem jw_671 : Cond.code ({ cls := "CodeCover$Order", name := "extend", desc := "(III)V" } : MethodName) prog_6_method_5_code 6 (Option.none : Option FieldType) ∈ jm_wG := jm_mem3 (List.mem_of_getElem? (i := 191) rfl) rfl
theorem jw_672 : Cond.methodLink "CodeCover$Order" 83 ({ cls := "CodeCover$Order", name := "endAtLeast", desc := "(II)I" } : MethodName) ∈ jm_wG := jm_mem3 (List.mem_of_getElem? (i := 192) rfl) rfl
theorem jw_674 : Cond.instanceMethod ({ cls := "CodeCover$Order", name := "endAtLeast", desc := "(II)I" } : MethodName) ∈ jm_wG := jm_mem3 (List.mem_of_getElem? (i := 194) rfl) rfl
theorem jw_675 : Cond.code ({ cls := "CodeCover$Order", name := "endAtLeast", desc := "(II)I" } : MethodName) prog_6_method_8_code 7 (Option.some FieldType.int) ∈ jm_wG := jm_mem3 (List.mem_of_getElem? (i := 195) rfl) rfl
theorem jw_676 : Cond.methodLink "CodeCover$Order" 92 ({ cls := "CodeCover$Order", name := "readyFor", desc := "(II)I" } : MethodName) ∈ jm_wG := jm_mem3 (List.mem_of_getElem? (i := 196) rfl) rfl
theorem jw_678 : Cond.instanceMethod ({ cls := "CodeCover$Order", name := "readyFor", desc := "(II)I" } : MethodName) ∈ jm_wG := jm_mem3 (List.mem_of_getElem? (i := 198) rfl) rfl
theorem jw_679 : Cond.code ({ cls := "CodeCover$Order", name := "readyFor", desc := "(II)I" } : MethodName) prog_6_method_6_code 3 (Option.some FieldType.int) ∈ jm_wG := jm_mem3 (List.mem_of_getElem? (i := 199) rfl) rfl
theorem jw_680 : Cond.methodLink "CodeCover$Order" 95 ({ cls := "CodeCover$Order", name := "readyAt", desc := "(II)I" } : MethodName) ∈ jm_wG := jm_mem3 (List.mem_of_getElem? (i := 200) rfl) rfl
theorem jw_682 : Cond.instanceMethod ({ cls := "CodeCover$Order", name := "readyAt", desc := "(II)I" } : MethodName) ∈ jm_wG := jm_mem3 (List.mem_of_getElem? (i := 202) rfl) rfl
theorem jw_683 : Cond.code ({ cls := "CodeCover$Order", name := "readyAt", desc := "(II)I" } : MethodName) prog_6_method_7_code 3 (Option.some FieldType.int) ∈ jm_wG := jm_mem3 (List.mem_of_getElem? (i := 203) rfl) rfl
theorem jw_684 : Cond.methodLink "CodeCover$Order" 86 ({ cls := "java/lang/System", name := "arraycopy", desc := "(Ljava/lang/Object;ILjava/lang/Object;II)V" } : MethodName) ∈ jm_wG := jm_mem3 (List.mem_of_getElem? (i := 204) rfl) rfl
theorem jw_685 : Cond.static ({ cls := "java/lang/System", name := "arraycopy", desc := "(Ljava/lang/Object;ILjava/lang/Object;II)V" } : MethodName) ∈ jm_wG := jm_mem3 (List.mem_of_getElem? (i := 205) rfl) rfl
theorem jw_686 : Cond.native ({ cls := "java/lang/System", name := "arraycopy", desc := "(Ljava/lang/Object;ILjava/lang/Object;II)V" } : MethodName) ∈ jm_wG := jm_mem3 (List.mem_of_getElem? (i := 206) rfl) rfl
theorem jw_687 : Cond.methodLink "CodeCoverLaw" 86 ({ cls := "CodeCover", name := "sort", desc := "()I" } : MethodName) ∈ jm_wG := jm_mem3 (List.mem_of_getElem? (i := 207) rfl) rfl
theorem jw_688 : Cond.instanceMethod ({ cls := "CodeCover", name := "sort", desc := "()I" } : MethodName) ∈ jm_wG := jm_mem3 (List.mem_of_getElem? (i := 208) rfl) rfl
theorem jw_689 : Cond.selects "CodeCover" ({ cls := "CodeCover", name := "sort", desc := "()I" } : MethodName) ({ cls := "CodeCover", name := "sort", desc := "()I" } : MethodName) ∈ jm_wG := jm_mem3 (List.mem_of_getElem? (i := 209) rfl) rfl
theorem jw_690 : Cond.code ({ cls := "CodeCover", name := "sort", desc := "()I" } : MethodName) prog_1_method_19_code 1 (Option.some FieldType.int) ∈ jm_wG := jm_mem3 (List.mem_of_getElem? (i := 210) rfl) rfl
theorem jw_691 : Cond.methodLink "CodeCover" 203 ({ cls := "CodeCover$Row", name := "rearrange", desc := "([I)V" } : MethodName) ∈ jm_wG := jm_mem3 (List.mem_of_getElem? (i := 211) rfl) rfl
theorem jw_692 : Cond.instanceMethod ({ cls := "CodeCover$Row", name := "rearrange", desc := "([I)V" } : MethodName) ∈ jm_wG := jm_mem3 (List.mem_of_getElem? (i := 212) rfl) rfl
theorem jw_693 : Cond.selects "CodeCover$Row" ({ cls := "CodeCover$Row", name := "rearrange", desc := "([I)V" } : MethodName) ({ cls := "CodeCover$Row", name := "rearrange", desc := "([I)V" } : MethodName) ∈ jm_wG := jm_mem3 (List.mem_of_getElem? (i := 213) rfl) rfl
theorem jw_694 : Cond.code ({ cls := "CodeCover$Row", name := "rearrange", desc := "([I)V" } : MethodName) prog_9_method_9_code 4 (Option.none : Option FieldType) ∈ jm_wG := jm_mem3 (List.mem_of_getElem? (i := 214) rfl) rfl
theorem jw_695 : Cond.methodLink "CodeCover$Row" 28 ({ cls := "CodeCover$Row", name := "has", desc := "(I)Z" } : MethodName) ∈ jm_wG := jm_mem3 (List.mem_of_getElem? (i := 215) rfl) rfl
theorem jw_696 : Cond.methodLink "CodeCoverLaw" 90 ({ cls := "CodeCover", name := "keep", desc := "(I)I" } : MethodName) ∈ jm_wG := jm_mem3 (List.mem_of_getElem? (i := 216) rfl) rfl
theorem jw_697 : Cond.instanceMethod ({ cls := "CodeCover", name := "keep", desc := "(I)I" } : MethodName) ∈ jm_wG := jm_mem3 (List.mem_of_getElem? (i := 217) rfl) rfl
theorem jw_698 : Cond.selects "CodeCover" ({ cls := "CodeCover", name := "keep", desc := "(I)I" } : MethodName) ({ cls := "CodeCover", name := "keep", desc := "(I)I" } : MethodName) ∈ jm_wG := jm_mem3 (List.mem_of_getElem? (i := 218) rfl) rfl
theorem jw_699 : Cond.code ({ cls := "CodeCover", name := "keep", desc := "(I)I" } : MethodName) prog_1_method_20_code 3 (Option.some FieldType.int) ∈ jm_wG := jm_mem3 (List.mem_of_getElem? (i := 219) rfl) rfl
theorem jw_700 : Cond.methodLink "CodeCoverLaw" 94 ({ cls := "CodeCover", name := "weigh", desc := "(II)I" } : MethodName) ∈ jm_wG := jm_mem3 (List.mem_of_getElem? (i := 220) rfl) rfl
theorem jw_701 : Cond.instanceMethod ({ cls := "CodeCover", name := "weigh", desc := "(II)I" } : MethodName) ∈ jm_wG := jm_mem3 (List.mem_of_getElem? (i := 221) rfl) rfl
theorem jw_702 : Cond.selects "CodeCover" ({ cls := "CodeCover", name := "weigh", desc := "(II)I" } : MethodName) ({ cls := "CodeCover", name := "weigh", desc := "(II)I" } : MethodName) ∈ jm_wG := jm_mem3 (List.mem_of_getElem? (i := 222) rfl) rfl
theorem jw_703 : Cond.code ({ cls := "CodeCover", name := "weigh", desc := "(II)I" } : MethodName) prog_1_method_21_code 4 (Option.some FieldType.int) ∈ jm_wG := jm_mem3 (List.mem_of_getElem? (i := 223) rfl) rfl
theorem jw_704 : Cond.methodLink "CodeCoverLaw" 98 ({ cls := "CodeCover", name := "lives", desc := "(I)I" } : MethodName) ∈ jm_wG := jm_mem3 (List.mem_of_getElem? (i := 224) rfl) rfl
theorem jw_705 : Cond.instanceMethod ({ cls := "CodeCover", name := "lives", desc := "(I)I" } : MethodName) ∈ jm_wG := jm_mem3 (List.mem_of_getElem? (i := 225) rfl) rfl
theorem jw_706 : Cond.selects "CodeCover" ({ cls := "CodeCover", name := "lives", desc := "(I)I" } : MethodName) ({ cls := "CodeCover", name := "lives", desc := "(I)I" } : MethodName) ∈ jm_wG := jm_mem3 (List.mem_of_getElem? (i := 226) rfl) rfl
theorem jw_707 : Cond.code ({ cls := "CodeCover", name := "lives", desc := "(I)I" } : MethodName) prog_1_method_22_code 2 (Option.some FieldType.int) ∈ jm_wG := jm_mem3 (List.mem_of_getElem? (i := 227) rfl) rfl
theorem jw_708 : Cond.methodLink "CodeCover" 210 ({ cls := "CodeCover$Lifetimes", name := "until", desc := "(I)I" } : MethodName) ∈ jm_wG := jm_mem3 (List.mem_of_getElem? (i := 228) rfl) rfl
theorem jw_709 : Cond.instanceMethod ({ cls := "CodeCover$Lifetimes", name := "until", desc := "(I)I" } : MethodName) ∈ jm_wG := jm_mem3 (List.mem_of_getElem? (i := 229) rfl) rfl
theorem jw_710 : Cond.selects "CodeCover$Lifetimes" ({ cls := "CodeCover$Lifetimes", name := "until", desc := "(I)I" } : MethodName) ({ cls := "CodeCover$Lifetimes", name := "until", desc := "(I)I" } : MethodName) ∈ jm_wG := jm_mem3 (List.mem_of_getElem? (i := 230) rfl) rfl
theorem jw_711 : Cond.code ({ cls := "CodeCover$Lifetimes", name := "until", desc := "(I)I" } : MethodName) prog_3_method_2_code 5 (Option.some FieldType.int) ∈ jm_wG := jm_mem3 (List.mem_of_getElem? (i := 231) rfl) rfl
theorem jw_712 : Cond.methodLink "CodeCover$Lifetimes" 33 ({ cls := "CodeCover$Row", name := "uses", desc := "(II)Z" } : MethodName) ∈ jm_wG := jm_mem3 (List.mem_of_getElem? (i := 232) rfl) rfl
theorem jw_713 : Cond.methodLink "CodeCoverLaw" 102 ({ cls := "CodeCover", name := "place", desc := "(I)I" } : MethodName) ∈ jm_wG := jm_mem3 (List.mem_of_getElem? (i := 233) rfl) rfl
theorem jw_714 : Cond.instanceMethod ({ cls := "CodeCover", name := "place", desc := "(I)I" } : MethodName) ∈ jm_wG := jm_mem3 (List.mem_of_getElem? (i := 234) rfl) rfl
theorem jw_715 : Cond.selects "CodeCover" ({ cls := "CodeCover", name := "place", desc := "(I)I" } : MethodName) ({ cls := "CodeCover", name := "place", desc := "(I)I" } : MethodName) ∈ jm_wG := jm_mem3 (List.mem_of_getElem? (i := 235) rfl) rfl
theorem jw_716 : Cond.code ({ cls := "CodeCover", name := "place", desc := "(I)I" } : MethodName) prog_1_method_23_code 2 (Option.some FieldType.int) ∈ jm_wG := jm_mem3 (List.mem_of_getElem? (i := 236) rfl) rfl
theorem jw_717 : Cond.methodLink "CodeCover" 213 ({ cls := "CodeCover$Lifetimes", name := "livingBehind", desc := "(I)I" } : MethodName) ∈ jm_wG := jm_mem3 (List.mem_of_getElem? (i := 237) rfl) rfl
theorem jw_718 : Cond.instanceMethod ({ cls := "CodeCover$Lifetimes", name := "livingBehind", desc := "(I)I" } : MethodName) ∈ jm_wG := jm_mem3 (List.mem_of_getElem? (i := 238) rfl) rfl
theorem jw_719 : Cond.selects "CodeCover$Lifetimes" ({ cls := "CodeCover$Lifetimes", name := "livingBehind", desc := "(I)I" } : MethodName) ({ cls := "CodeCover$Lifetimes", name := "livingBehind", desc := "(I)I" } : MethodName) ∈ jm_wG := jm_mem3 (List.mem_of_getElem? (i := 239) rfl) rfl
theorem jw_720 : Cond.code ({ cls := "CodeCover$Lifetimes", name := "livingBehind", desc := "(I)I" } : MethodName) prog_3_method_3_code 4 (Option.some FieldType.int) ∈ jm_wG := jm_mem4 (List.mem_of_getElem? (i := 0) rfl) rfl
theorem jw_721 : Cond.methodLink "CodeCover$Lifetimes" 37 ({ cls := "CodeCover$Lifetimes", name := "until", desc := "(I)I" } : MethodName) ∈ jm_wG := jm_mem4 (List.mem_of_getElem? (i := 1) rfl) rfl
theorem jw_722 : Cond.methodLink "CodeCoverLaw" 106 ({ cls := "CodeCover", name := "crowd", desc := "()I" } : MethodName) ∈ jm_wG := jm_mem4 (List.mem_of_getElem? (i := 2) rfl) rfl
theorem jw_723 : Cond.instanceMethod ({ cls := "CodeCover", name := "crowd", desc := "()I" } : MethodName) ∈ jm_wG := jm_mem4 (List.mem_of_getElem? (i := 3) rfl) rfl
theorem jw_724 : Cond.selects "CodeCover" ({ cls := "CodeCover", name := "crowd", desc := "()I" } : MethodName) ({ cls := "CodeCover", name := "crowd", desc := "()I" } : MethodName) ∈ jm_wG := jm_mem4 (List.mem_of_getElem? (i := 4) rfl) rfl
theorem jw_725 : Cond.code ({ cls := "CodeCover", name := "crowd", desc := "()I" } : MethodName) prog_1_method_24_code 1 (Option.some FieldType.int) ∈ jm_wG := jm_mem4 (List.mem_of_getElem? (i := 5) rfl) rfl
theorem jw_726 : Cond.methodLink "CodeCover" 216 ({ cls := "CodeCover$Lifetimes", name := "mostAtOnePlace", desc := "()I" } : MethodName) ∈ jm_wG := jm_mem4 (List.mem_of_getElem? (i := 6) rfl) rfl
theorem jw_727 : Cond.instanceMethod ({ cls := "CodeCover$Lifetimes", name := "mostAtOnePlace", desc := "()I" } : MethodName) ∈ jm_wG := jm_mem4 (List.mem_of_getElem? (i := 7) rfl) rfl
theorem jw_728 : Cond.selects "CodeCover$Lifetimes" ({ cls := "CodeCover$Lifetimes", name := "mostAtOnePlace", desc := "()I" } : MethodName) ({ cls := "CodeCover$Lifetimes", name := "mostAtOnePlace", desc := "()I" } : MethodName) ∈ jm_wG := jm_mem4 (List.mem_of_getElem? (i := 8) rfl) rfl
theorem jw_729 : Cond.code ({ cls := "CodeCover$Lifetimes", name := "mostAtOnePlace", desc := "()I" } : MethodName) prog_3_method_4_code 3 (Option.some FieldType.int) ∈ jm_wG := jm_mem4 (List.mem_of_getElem? (i := 9) rfl) rfl
theorem jw_730 : Cond.methodLink "CodeCover$Lifetimes" 40 ({ cls := "CodeCover$Lifetimes", name := "livingBehind", desc := "(I)I" } : MethodName) ∈ jm_wG := jm_mem4 (List.mem_of_getElem? (i := 10) rfl) rfl
theorem jw_731 : Cond.methodLink "CodeCover$Lifetimes" 43 ({ cls := "java/lang/Integer", name := "bitCount", desc := "(I)I" } : MethodName) ∈ jm_wG := jm_mem4 (List.mem_of_getElem? (i := 11) rfl) rfl
theorem jw_732 : Cond.static ({ cls := "java/lang/Integer", name := "bitCount", desc := "(I)I" } : MethodName) ∈ jm_wG := jm_mem4 (List.mem_of_getElem? (i := 12) rfl) rfl
theorem jw_733 : Cond.code ({ cls := "java/lang/Integer", name := "bitCount", desc := "(I)I" } : MethodName) prog_14_method_49_code 1 (Option.some FieldType.int) ∈ jm_wG := jm_mem4 (List.mem_of_getElem? (i := 13) rfl) rfl
theorem jw_734 : Cond.constant "java/lang/Integer" 265 (1431655765 : Int32) ∈ jm_wG := jm_mem4 (List.mem_of_getElem? (i := 14) rfl) rfl
theorem jw_735 : Cond.constant "java/lang/Integer" 266 (858993459 : Int32) ∈ jm_wG := jm_mem4 (List.mem_of_getElem? (i := 15) rfl) rfl
theorem jw_736 : Cond.constant "java/lang/Integer" 267 (252645135 : Int32) ∈ jm_wG := jm_mem4 (List.mem_of_getElem? (i := 16) rfl) rfl
theorem jw_737 : Cond.methodLink "CodeCover$Lifetimes" 48 ({ cls := "java/lang/Math", name := "max", desc := "(II)I" } : MethodName) ∈ jm_wG := jm_mem4 (List.mem_of_getElem? (i := 17) rfl) rfl
theorem jw_738 : Cond.methodLink "CodeCoverLaw" 110 ({ cls := "CodeCover", name := "spilled", desc := "(II)I" } : MethodName) ∈ jm_wG := jm_mem4 (List.mem_of_getElem? (i := 18) rfl) rfl
theorem jw_739 : Cond.instanceMethod ({ cls := "CodeCover", name := "spilled", desc := "(II)I" } : MethodName) ∈ jm_wG := jm_mem4 (List.mem_of_getElem? (i := 19) rfl) rfl
theorem jw_740 : Cond.selects "CodeCover" ({ cls := "CodeCover", name := "spilled", desc := "(II)I" } : MethodName) ({ cls := "CodeCover", name := "spilled", desc := "(II)I" } : MethodName) ∈ jm_wG := jm_mem4 (List.mem_of_getElem? (i := 20) rfl) rfl
theorem jw_741 : Cond.code ({ cls := "CodeCover", name := "spilled", desc := "(II)I" } : MethodName) prog_1_method_25_code 3 (Option.some FieldType.int) ∈ jm_wG := jm_mem4 (List.mem_of_getElem? (i := 21) rfl) rfl
theorem jw_742 : Cond.methodLink "CodeCover" 219 ({ cls := "CodeCover$Lifetimes", name := "spillTo", desc := "(I)V" } : MethodName) ∈ jm_wG := jm_mem4 (List.mem_of_getElem? (i := 22) rfl) rfl
theorem jw_743 : Cond.instanceMethod ({ cls := "CodeCover$Lifetimes", name := "spillTo", desc := "(I)V" } : MethodName) ∈ jm_wG := jm_mem4 (List.mem_of_getElem? (i := 23) rfl) rfl
theorem jw_744 : Cond.selects "CodeCover$Lifetimes" ({ cls := "CodeCover$Lifetimes", name := "spillTo", desc := "(I)V" } : MethodName) ({ cls := "CodeCover$Lifetimes", name := "spillTo", desc := "(I)V" } : MethodName) ∈ jm_wG := jm_mem4 (List.mem_of_getElem? (i := 24) rfl) rfl
theorem jw_745 : Cond.code ({ cls := "CodeCover$Lifetimes", name := "spillTo", desc := "(I)V" } : MethodName) prog_3_method_6_code 3 (Option.none : Option FieldType) ∈ jm_wG := jm_mem4 (List.mem_of_getElem? (i := 25) rfl) rfl
theorem jw_746 : Cond.constant "CodeCover$Lifetimes" 57 (1000000 : Int32) ∈ jm_wG := jm_mem4 (List.mem_of_getElem? (i := 26) rfl) rfl
theorem jw_747 : Cond.methodLink "CodeCover$Lifetimes" 61 ({ cls := "CodeCover$Lifetimes", name := "choose", desc := "(IIII)V" } : MethodName) ∈ jm_wG := jm_mem4 (List.mem_of_getElem? (i := 27) rfl) rfl
theorem jw_749 : Cond.instanceMethod ({ cls := "CodeCover$Lifetimes", name := "choose", desc := "(IIII)V" } : MethodName) ∈ jm_wG := jm_mem4 (List.mem_of_getElem? (i := 29) rfl) rfl
theorem jw_750 : Cond.code ({ cls := "CodeCover$Lifetimes", name := "choose", desc := "(IIII)V" } : MethodName) prog_3_method_7_code 5 (Option.none : Option FieldType) ∈ jm_wG := jm_mem4 (List.mem_of_getElem? (i := 30) rfl) rfl
theorem jw_751 : Cond.methodLink "CodeCover$Lifetimes" 65 ({ cls := "CodeCover$Lifetimes", name := "hasRoom", desc := "(II)Z" } : MethodName) ∈ jm_wG := jm_mem4 (List.mem_of_getElem? (i := 31) rfl) rfl
theorem jw_753 : Cond.instanceMethod ({ cls := "CodeCover$Lifetimes", name := "hasRoom", desc := "(II)Z" } : MethodName) ∈ jm_wG := jm_mem4 (List.mem_of_getElem? (i := 33) rfl) rfl
theorem jw_754 : Cond.code ({ cls := "CodeCover$Lifetimes", name := "hasRoom", desc := "(II)Z" } : MethodName) prog_3_method_8_code 4 (Option.some FieldType.boolean) ∈ jm_wG := jm_mem4 (List.mem_of_getElem? (i := 34) rfl) rfl
theorem jw_755 : Cond.methodLink "CodeCover$Lifetimes" 68 ({ cls := "CodeCover$Lifetimes", name := "count", desc := "(II)V" } : MethodName) ∈ jm_wG := jm_mem4 (List.mem_of_getElem? (i := 35) rfl) rfl
theorem jw_757 : Cond.instanceMethod ({ cls := "CodeCover$Lifetimes", name := "count", desc := "(II)V" } : MethodName) ∈ jm_wG := jm_mem4 (List.mem_of_getElem? (i := 37) rfl) rfl
theorem jw_758 : Cond.code ({ cls := "CodeCover$Lifetimes", name := "count", desc := "(II)V" } : MethodName) prog_3_method_9_code 4 (Option.none : Option FieldType) ∈ jm_wG := jm_mem4 (List.mem_of_getElem? (i := 38) rfl) rfl
theorem jw_759 : Cond.methodLink "CodeCoverLaw" 114 ({ cls := "CodeCover", name := "run", desc := "(III)I" } : MethodName) ∈ jm_wG := jm_mem4 (List.mem_of_getElem? (i := 39) rfl) rfl
theorem jw_760 : Cond.instanceMethod ({ cls := "CodeCover", name := "run", desc := "(III)I" } : MethodName) ∈ jm_wG := jm_mem4 (List.mem_of_getElem? (i := 40) rfl) rfl
theorem jw_761 : Cond.selects "CodeCover" ({ cls := "CodeCover", name := "run", desc := "(III)I" } : MethodName) ({ cls := "CodeCover", name := "run", desc := "(III)I" } : MethodName) ∈ jm_wG := jm_mem4 (List.mem_of_getElem? (i := 41) rfl) rfl
theorem jw_762 : Cond.code ({ cls := "CodeCover", name := "run", desc := "(III)I" } : MethodName) prog_1_method_26_code 4 (Option.some FieldType.int) ∈ jm_wG := jm_mem4 (List.mem_of_getElem? (i := 42) rfl) rfl
theorem jw_763 : Cond.methodLink "CodeCover" 229 ({ cls := "CodeCover$Machine", name := "behindRow", desc := "(JJ)V" } : MethodName) ∈ jm_wG := jm_mem4 (List.mem_of_getElem? (i := 43) rfl) rfl
theorem jw_764 : Cond.instanceMethod ({ cls := "CodeCover$Machine", name := "behindRow", desc := "(JJ)V" } : MethodName) ∈ jm_wG := jm_mem4 (List.mem_of_getElem? (i := 44) rfl) rfl
theorem jw_765 : Cond.selects "CodeCover$Machine" ({ cls := "CodeCover$Machine", name := "behindRow", desc := "(JJ)V" } : MethodName) ({ cls := "CodeCover$Machine", name := "behindRow", desc := "(JJ)V" } : MethodName) ∈ jm_wG := jm_mem4 (List.mem_of_getElem? (i := 45) rfl) rfl
theorem jw_766 : Cond.code ({ cls := "CodeCover$Machine", name := "behindRow", desc := "(JJ)V" } : MethodName) prog_4_method_2_code 10 (Option.none : Option FieldType) ∈ jm_wG := jm_mem4 (List.mem_of_getElem? (i := 46) rfl) rfl
theorem jw_767 : Cond.methodLink "CodeCover$Machine" 27 ({ cls := "CodeCover$Machine", name := "result", desc := "(IJJ)J" } : MethodName) ∈ jm_wG := jm_mem4 (List.mem_of_getElem? (i := 47) rfl) rfl
theorem jw_768 : Cond.static ({ cls := "CodeCover$Machine", name := "result", desc := "(IJJ)J" } : MethodName) ∈ jm_wG := jm_mem4 (List.mem_of_getElem? (i := 48) rfl) rfl
theorem jw_769 : Cond.code ({ cls := "CodeCover$Machine", name := "result", desc := "(IJJ)J" } : MethodName) prog_4_method_3_code 5 (Option.some FieldType.long) ∈ jm_wG := jm_mem4 (List.mem_of_getElem? (i := 49) rfl) rfl
theorem jw_770 : Cond.constantLong "CodeCover$Machine" 31 (8608480567731124087 : Int64) ∈ jm_wG := jm_mem4 (List.mem_of_getElem? (i := 50) rfl) rfl
theorem jw_771 : Cond.constantLong "CodeCover$Machine" 33 (-8608480567731124088 : Int64) ∈ jm_wG := jm_mem4 (List.mem_of_getElem? (i := 51) rfl) rfl
theorem jw_772 : Cond.constantLong "CodeCover$Machine" 35 (-1 : Int64) ∈ jm_wG := jm_mem4 (List.mem_of_getElem? (i := 52) rfl) rfl
theorem jw_773 : Cond.constantLong "CodeCover" 237 (15 : Int64) ∈ jm_wG := jm_mem4 (List.mem_of_getElem? (i := 53) rfl) rfl
theorem jw_774 : Cond.methodLink "CodeCoverLaw" 118 ({ cls := "CodeCover", name := "shortest", desc := "(II)I" } : MethodName) ∈ jm_wG := jm_mem4 (List.mem_of_getElem? (i := 54) rfl) rfl
theorem jw_775 : Cond.instanceMethod ({ cls := "CodeCover", name := "shortest", desc := "(II)I" } : MethodName) ∈ jm_wG := jm_mem4 (List.mem_of_getElem? (i := 55) rfl) rfl
theorem jw_776 : Cond.selects "CodeCover" ({ cls := "CodeCover", name := "shortest", desc := "(II)I" } : MethodName) ({ cls := "CodeCover", name := "shortest", desc := "(II)I" } : MethodName) ∈ jm_wG := jm_mem4 (List.mem_of_getElem? (i := 56) rfl) rfl
theorem jw_777 : Cond.code ({ cls := "CodeCover", name := "shortest", desc := "(II)I" } : MethodName) prog_1_method_27_code 3 (Option.some FieldType.int) ∈ jm_wG := jm_mem4 (List.mem_of_getElem? (i := 57) rfl) rfl
theorem jw_778 : Cond.methodLink "CodeCover" 239 ({ cls := "CodeCover$Search", name := "refresh", desc := "(I)V" } : MethodName) ∈ jm_wG := jm_mem4 (List.mem_of_getElem? (i := 58) rfl) rfl
theorem jw_779 : Cond.instanceMethod ({ cls := "CodeCover$Search", name := "refresh", desc := "(I)V" } : MethodName) ∈ jm_wG := jm_mem4 (List.mem_of_getElem? (i := 59) rfl) rfl
theorem jw_780 : Cond.selects "CodeCover$Search" ({ cls := "CodeCover$Search", name := "refresh", desc := "(I)V" } : MethodName) ({ cls := "CodeCover$Search", name := "refresh", desc := "(I)V" } : MethodName) ∈ jm_wG := jm_mem4 (List.mem_of_getElem? (i := 60) rfl) rfl
theorem jw_781 : Cond.code ({ cls := "CodeCover$Search", name := "refresh", desc := "(I)V" } : MethodName) prog_10_method_3_code 3 (Option.none : Option FieldType) ∈ jm_wG := jm_mem4 (List.mem_of_getElem? (i := 61) rfl) rfl
theorem jw_782 : Cond.methodLink "CodeCover$Search" 62 ({ cls := "CodeCover$Search", name := "begin", desc := "([JI)V" } : MethodName) ∈ jm_wG := jm_mem4 (List.mem_of_getElem? (i := 62) rfl) rfl
theorem jw_783 : Cond.static ({ cls := "CodeCover$Search", name := "begin", desc := "([JI)V" } : MethodName) ∈ jm_wG := jm_mem4 (List.mem_of_getElem? (i := 63) rfl) rfl
theorem jw_784 : Cond.code ({ cls := "CodeCover$Search", name := "begin", desc := "([JI)V" } : MethodName) prog_10_method_5_code 2 (Option.none : Option FieldType) ∈ jm_wG := jm_mem4 (List.mem_of_getElem? (i := 64) rfl) rfl
theorem jw_785 : Cond.constantLong "CodeCover$Search" 66 (-81985529216486896 : Int64) ∈ jm_wG := jm_mem4 (List.mem_of_getElem? (i := 65) rfl) rfl
theorem jw_786 : Cond.methodLink "CodeCover$Search" 68 ({ cls := "CodeCover$Search", name := "wordsOfB", desc := "(I)J" } : MethodName) ∈ jm_wG := jm_mem4 (List.mem_of_getElem? (i := 66) rfl) rfl
theorem jw_787 : Cond.static ({ cls := "CodeCover$Search", name := "wordsOfB", desc := "(I)J" } : MethodName) ∈ jm_wG := jm_mem4 (List.mem_of_getElem? (i := 67) rfl) rfl
theorem jw_788 : Cond.code ({ cls := "CodeCover$Search", name := "wordsOfB", desc := "(I)J" } : MethodName) prog_10_method_4_code 1 (Option.some FieldType.long) ∈ jm_wG := jm_mem4 (List.mem_of_getElem? (i := 68) rfl) rfl
theorem jw_789 : Cond.constantLong "CodeCover$Search" 89 (4364540684564061060 : Int64) ∈ jm_wG := jm_mem4 (List.mem_of_getElem? (i := 69) rfl) rfl
theorem jw_790 : Cond.constantLong "CodeCover$Search" 91 (1229782938247303441 : Int64) ∈ jm_wG := jm_mem4 (List.mem_of_getElem? (i := 70) rfl) rfl
theorem jw_791 : Cond.methodLink "CodeCover$Search" 72 ({ cls := "CodeCover$Machine", name := "behindRow", desc := "(JJ)V" } : MethodName) ∈ jm_wG := jm_mem4 (List.mem_of_getElem? (i := 71) rfl) rfl
theorem jw_792 : Cond.methodLink "CodeCover$Search" 81 ({ cls := "CodeCover$Search", name := "doesAll", desc := "(I)Z" } : MethodName) ∈ jm_wG := jm_mem4 (List.mem_of_getElem? (i := 72) rfl) rfl
theorem jw_794 : Cond.instanceMethod ({ cls := "CodeCover$Search", name := "doesAll", desc := "(I)Z" } : MethodName) ∈ jm_wG := jm_mem4 (List.mem_of_getElem? (i := 74) rfl) rfl
theorem jw_795 : Cond.code ({ cls := "CodeCover$Search", name := "doesAll", desc := "(I)Z" } : MethodName) prog_10_method_9_code 4 (Option.some FieldType.boolean) ∈ jm_wG := jm_mem4 (List.mem_of_getElem? (i := 75) rfl) rfl
theorem jw_796 : Cond.methodLink "CodeCover$Search" 116 ({ cls := "CodeCover$Machine", name := "result", desc := "(IJJ)J" } : MethodName) ∈ jm_wG := jm_mem4 (List.mem_of_getElem? (i := 76) rfl) rfl
theorem jw_797 : Cond.methodLink "CodeCover$Search" 85 ({ cls := "CodeCover$Search", name := "find", desc := "(III)Z" } : MethodName) ∈ jm_wG := jm_mem4 (List.mem_of_getElem? (i := 77) rfl) rfl
theorem jw_799 : Cond.instanceMethod ({ cls := "CodeCover$Search", name := "find", desc := "(III)Z" } : MethodName) ∈ jm_wG := jm_mem4 (List.mem_of_getElem? (i := 79) rfl) rfl
theorem jw_800 : Cond.code ({ cls := "CodeCover$Search", name := "find", desc := "(III)Z" } : MethodName) prog_10_method_6_code 9 (Option.some FieldType.boolean) ∈ jm_wG := jm_mem4 (List.mem_of_getElem? (i := 80) rfl) rfl
theorem jw_801 : Cond.methodLink "CodeCover$Search" 93 ({ cls := "CodeCover$Search", name := "endsWith", desc := "(III)Z" } : MethodName) ∈ jm_wG := jm_mem4 (List.mem_of_getElem? (i := 81) rfl) rfl
theorem jw_803 : Cond.instanceMethod ({ cls := "CodeCover$Search", name := "endsWith", desc := "(III)Z" } : MethodName) ∈ jm_wG := jm_mem4 (List.mem_of_getElem? (i := 83) rfl) rfl
theorem jw_804 : Cond.code ({ cls := "CodeCover$Search", name := "endsWith", desc := "(III)Z" } : MethodName) prog_10_method_8_code 8 (Option.some FieldType.boolean) ∈ jm_wG := jm_mem4 (List.mem_of_getElem? (i := 84) rfl) rfl
theorem jw_805 : Cond.methodLink "CodeCover$Search" 96 ({ cls := "CodeCover$Search", name := "goesOn", desc := "(III)Z" } : MethodName) ∈ jm_wG := jm_mem4 (List.mem_of_getElem? (i := 85) rfl) rfl
theorem jw_807 : Cond.instanceMethod ({ cls := "CodeCover$Search", name := "goesOn", desc := "(III)Z" } : MethodName) ∈ jm_wG := jm_mem4 (List.mem_of_getElem? (i := 87) rfl) rfl
theorem jw_808 : Cond.code ({ cls := "CodeCover$Search", name := "goesOn", desc := "(III)Z" } : MethodName) prog_10_method_7_code 8 (Option.some FieldType.boolean) ∈ jm_wG := jm_mem4 (List.mem_of_getElem? (i := 88) rfl) rfl
theorem jw_809 : Cond.methodLink "CodeCover$Search" 110 ({ cls := "java/lang/System", name := "arraycopy", desc := "(Ljava/lang/Object;ILjava/lang/Object;II)V" } : MethodName) ∈ jm_wG := jm_mem4 (List.mem_of_getElem? (i := 89) rfl) rfl
theorem jw_810 : Cond.methodLink "CodeCover" 244 ({ cls := "CodeCover$Search", name := "codeAt", desc := "(I)I" } : MethodName) ∈ jm_wG := jm_mem4 (List.mem_of_getElem? (i := 90) rfl) rfl
theorem jw_811 : Cond.instanceMethod ({ cls := "CodeCover$Search", name := "codeAt", desc := "(I)I" } : MethodName) ∈ jm_wG := jm_mem4 (List.mem_of_getElem? (i := 91) rfl) rfl
theorem jw_812 : Cond.selects "CodeCover$Search" ({ cls := "CodeCover$Search", name := "codeAt", desc := "(I)I" } : MethodName) ({ cls := "CodeCover$Search", name := "codeAt", desc := "(I)I" } : MethodName) ∈ jm_wG := jm_mem4 (List.mem_of_getElem? (i := 92) rfl) rfl
theorem jw_813 : Cond.code ({ cls := "CodeCover$Search", name := "codeAt", desc := "(I)I" } : MethodName) prog_10_method_2_code 2 (Option.some FieldType.int) ∈ jm_wG := jm_mem4 (List.mem_of_getElem? (i := 93) rfl) rfl
theorem jw_814 : Cond.methodLink "CodeCoverLaw" 122 ({ cls := "CodeCover", name := "thin", desc := "()I" } : MethodName) ∈ jm_wG := jm_mem4 (List.mem_of_getElem? (i := 94) rfl) rfl
theorem jw_815 : Cond.instanceMethod ({ cls := "CodeCover", name := "thin", desc := "()I" } : MethodName) ∈ jm_wG := jm_mem4 (List.mem_of_getElem? (i := 95) rfl) rfl
theorem jw_816 : Cond.selects "CodeCover" ({ cls := "CodeCover", name := "thin", desc := "()I" } : MethodName) ({ cls := "CodeCover", name := "thin", desc := "()I" } : MethodName) ∈ jm_wG := jm_mem4 (List.mem_of_getElem? (i := 96) rfl) rfl
theorem jw_817 : Cond.code ({ cls := "CodeCover", name := "thin", desc := "()I" } : MethodName) prog_1_method_28_code 4 (Option.some FieldType.int) ∈ jm_wG := jm_mem4 (List.mem_of_getElem? (i := 97) rfl) rfl
theorem jw_818 : Cond.methodLink "CodeCover" 247 ({ cls := "CodeCover$Lifetimes", name := "firstUnused", desc := "()I" } : MethodName) ∈ jm_wG := jm_mem4 (List.mem_of_getElem? (i := 98) rfl) rfl
theorem jw_819 : Cond.instanceMethod ({ cls := "CodeCover$Lifetimes", name := "firstUnused", desc := "()I" } : MethodName) ∈ jm_wG := jm_mem4 (List.mem_of_getElem? (i := 99) rfl) rfl
theorem jw_820 : Cond.selects "CodeCover$Lifetimes" ({ cls := "CodeCover$Lifetimes", name := "firstUnused", desc := "()I" } : MethodName) ({ cls := "CodeCover$Lifetimes", name := "firstUnused", desc := "()I" } : MethodName) ∈ jm_wG := jm_mem4 (List.mem_of_getElem? (i := 100) rfl) rfl
theorem jw_821 : Cond.code ({ cls := "CodeCover$Lifetimes", name := "firstUnused", desc := "()I" } : MethodName) prog_3_method_5_code 2 (Option.some FieldType.int) ∈ jm_wG := jm_mem4 (List.mem_of_getElem? (i := 101) rfl) rfl
theorem jw_822 : Cond.methodLink "CodeCover" 250 ({ cls := "CodeCover$Row", name := "remove", desc := "(I)V" } : MethodName) ∈ jm_wG := jm_mem4 (List.mem_of_getElem? (i := 102) rfl) rfl
theorem jw_823 : Cond.instanceMethod ({ cls := "CodeCover$Row", name := "remove", desc := "(I)V" } : MethodName) ∈ jm_wG := jm_mem4 (List.mem_of_getElem? (i := 103) rfl) rfl
theorem jw_824 : Cond.selects "CodeCover$Row" ({ cls := "CodeCover$Row", name := "remove", desc := "(I)V" } : MethodName) ({ cls := "CodeCover$Row", name := "remove", desc := "(I)V" } : MethodName) ∈ jm_wG := jm_mem4 (List.mem_of_getElem? (i := 104) rfl) rfl
theorem jw_825 : Cond.code ({ cls := "CodeCover$Row", name := "remove", desc := "(I)V" } : MethodName) prog_9_method_8_code 4 (Option.none : Option FieldType) ∈ jm_wG := jm_mem4 (List.mem_of_getElem? (i := 105) rfl) rfl
theorem jw_826 : Cond.methodLink "CodeCoverLaw" 126 ({ cls := "CodeCover", name := "told", desc := "(I)I" } : MethodName) ∈ jm_wG := jm_mem4 (List.mem_of_getElem? (i := 106) rfl) rfl
theorem jw_827 : Cond.instanceMethod ({ cls := "CodeCover", name := "told", desc := "(I)I" } : MethodName) ∈ jm_wG := jm_mem4 (List.mem_of_getElem? (i := 107) rfl) rfl
theorem jw_828 : Cond.selects "CodeCover" ({ cls := "CodeCover", name := "told", desc := "(I)I" } : MethodName) ({ cls := "CodeCover", name := "told", desc := "(I)I" } : MethodName) ∈ jm_wG := jm_mem4 (List.mem_of_getElem? (i := 108) rfl) rfl
theorem jw_829 : Cond.code ({ cls := "CodeCover", name := "told", desc := "(I)I" } : MethodName) prog_1_method_29_code 2 (Option.some FieldType.int) ∈ jm_wG := jm_mem4 (List.mem_of_getElem? (i := 109) rfl) rfl
theorem jw_830 : Cond.classLink "CodeCoverLaw" 10 "CodeCoverModel" ∈ jm_wG := jm_mem4 (List.mem_of_getElem? (i := 110) rfl) rfl
theorem jw_831 : Cond.instantiable "CodeCoverModel" 45 ∈ jm_wG := jm_mem4 (List.mem_of_getElem? (i := 111) rfl) rfl
theorem jw_832 : Cond.methodLink "CodeCoverLaw" 12 ({ cls := "CodeCoverModel", name := "<init>", desc := "()V" } : MethodName) ∈ jm_wG := jm_mem4 (List.mem_of_getElem? (i := 112) rfl) rfl
theorem jw_833 : Cond.instanceMethod ({ cls := "CodeCoverModel", name := "<init>", desc := "()V" } : MethodName) ∈ jm_wG := jm_mem4 (List.mem_of_getElem? (i := 113) rfl) rfl
theorem jw_834 : Cond.code ({ cls := "CodeCoverModel", name := "<init>", desc := "()V" } : MethodName) prog_13_method_1_code 1 (Option.none : Option FieldType) ∈ jm_wG := jm_mem4 (List.mem_of_getElem? (i := 114) rfl) rfl
theorem jw_835 : Cond.methodLink "CodeCoverModel" 1 ({ cls := "java/lang/Object", name := "<init>", desc := "()V" } : MethodName) ∈ jm_wG := jm_mem4 (List.mem_of_getElem? (i := 115) rfl) rfl
theorem jw_836 : Cond.fieldLink "CodeCoverModel" 7 "CodeCoverModel" "pad" "[I" ∈ jm_wG := jm_mem4 (List.mem_of_getElem? (i := 116) rfl) rfl
theorem jw_837 : Cond.fieldLink "CodeCoverModel" 130 "CodeCoverModel" "padMany" "I" ∈ jm_wG := jm_mem4 (List.mem_of_getElem? (i := 117) rfl) rfl
theorem jw_838 : Cond.fieldLink "CodeCoverModel" 13 "CodeCoverModel" "sign" "[I" ∈ jm_wG := jm_mem4 (List.mem_of_getElem? (i := 118) rfl) rfl
theorem jw_839 : Cond.fieldLink "CodeCoverModel" 16 "CodeCoverModel" "partOf" "[I" ∈ jm_wG := jm_mem4 (List.mem_of_getElem? (i := 119) rfl) rfl
theorem jw_840 : Cond.fieldLink "CodeCoverModel" 169 "CodeCoverModel" "nodes" "I" ∈ jm_wG := jm_mem4 (List.mem_of_getElem? (i := 120) rfl) rfl
theorem jw_841 : Cond.fieldLink "CodeCoverModel" 19 "CodeCoverModel" "walkSign" "[I" ∈ jm_wG := jm_mem4 (List.mem_of_getElem? (i := 121) rfl) rfl
theorem jw_842 : Cond.fieldLink "CodeCoverModel" 22 "CodeCoverModel" "walkPartOf" "[I" ∈ jm_wG := jm_mem4 (List.mem_of_getElem? (i := 122) rfl) rfl
theorem jw_843 : Cond.fieldLink "CodeCoverModel" 25 "CodeCoverModel" "walkLacks" "[I" ∈ jm_wG := jm_mem4 (List.mem_of_getElem? (i := 123) rfl) rfl
theorem jw_844 : Cond.fieldLink "CodeCoverModel" 148 "CodeCoverModel" "walked" "I" ∈ jm_wG := jm_mem4 (List.mem_of_getElem? (i := 124) rfl) rfl
theorem jw_845 : Cond.fieldLink "CodeCoverModel" 28 "CodeCoverModel" "need" "[I" ∈ jm_wG := jm_mem4 (List.mem_of_getElem? (i := 125) rfl) rfl
theorem jw_846 : Cond.fieldLink "CodeCoverModel" 31 "CodeCoverModel" "headOf" "[I" ∈ jm_wG := jm_mem4 (List.mem_of_getElem? (i := 126) rfl) rfl
theorem jw_847 : Cond.fieldLink "CodeCoverModel" 34 "CodeCoverModel" "priceOf" "[I" ∈ jm_wG := jm_mem4 (List.mem_of_getElem? (i := 127) rfl) rfl
theorem jw_848 : Cond.fieldLink "CodeCoverModel" 37 "CodeCoverModel" "patternSigns" "[I" ∈ jm_wG := jm_mem4 (List.mem_of_getElem? (i := 128) rfl) rfl
theorem jw_849 : Cond.fieldLink "CodeCoverModel" 40 "CodeCoverModel" "patternLong" "[I" ∈ jm_wG := jm_mem4 (List.mem_of_getElem? (i := 129) rfl) rfl
theorem jw_850 : Cond.fieldLink "CodeCoverModel" 186 "CodeCoverModel" "patterns" "I" ∈ jm_wG := jm_mem4 (List.mem_of_getElem? (i := 130) rfl) rfl
theorem jw_851 : Cond.fieldLink "CodeCoverModel" 43 "CodeCoverModel" "plain" "[I" ∈ jm_wG := jm_mem4 (List.mem_of_getElem? (i := 131) rfl) rfl
theorem jw_852 : Cond.fieldLink "CodeCoverModel" 46 "CodeCoverModel" "plainBy" "[I" ∈ jm_wG := jm_mem4 (List.mem_of_getElem? (i := 132) rfl) rfl
theorem jw_853 : Cond.fieldLink "CodeCoverModel" 49 "CodeCoverModel" "cover" "[I" ∈ jm_wG := jm_mem4 (List.mem_of_getElem? (i := 133) rfl) rfl
theorem jw_854 : Cond.fieldLink "CodeCoverModel" 52 "CodeCoverModel" "coverBy" "[I" ∈ jm_wG := jm_mem4 (List.mem_of_getElem? (i := 134) rfl) rfl
theorem jw_855 : Cond.fieldLink "CodeCoverModel" 55 "CodeCoverModel" "todoNode" "[I" ∈ jm_wG := jm_mem4 (List.mem_of_getElem? (i := 135) rfl) rfl
theorem jw_856 : Cond.fieldLink "CodeCoverModel" 58 "CodeCoverModel" "todoHow" "[I" ∈ jm_wG := jm_mem4 (List.mem_of_getElem? (i := 136) rfl) rfl
theorem jw_857 : Cond.fieldLink "CodeCoverModel" 61 "CodeCoverModel" "todoBy" "[I" ∈ jm_wG := jm_mem4 (List.mem_of_getElem? (i := 137) rfl) rfl
theorem jw_858 : Cond.fieldLink "CodeCoverModel" 203 "CodeCoverModel" "todos" "I" ∈ jm_wG := jm_mem4 (List.mem_of_getElem? (i := 138) rfl) rfl
theorem jw_859 : Cond.fieldLink "CodeCoverModel" 64 "CodeCoverModel" "codeBy" "[I" ∈ jm_wG := jm_mem4 (List.mem_of_getElem? (i := 139) rfl) rfl
theorem jw_860 : Cond.fieldLink "CodeCoverModel" 67 "CodeCoverModel" "codeAt" "[I" ∈ jm_wG := jm_mem4 (List.mem_of_getElem? (i := 140) rfl) rfl
theorem jw_861 : Cond.fieldLink "CodeCoverModel" 210 "CodeCoverModel" "codes" "I" ∈ jm_wG := jm_mem4 (List.mem_of_getElem? (i := 141) rfl) rfl
theorem jw_862 : Cond.fieldLink "CodeCoverModel" 70 "CodeCoverModel" "ops" "[I" ∈ jm_wG := jm_mem4 (List.mem_of_getElem? (i := 142) rfl) rfl
theorem jw_863 : Cond.fieldLink "CodeCoverModel" 73 "CodeCoverModel" "sets" "[I" ∈ jm_wG := jm_mem4 (List.mem_of_getElem? (i := 143) rfl) rfl
theorem jw_864 : Cond.fieldLink "CodeCoverModel" 76 "CodeCoverModel" "ones" "[I" ∈ jm_wG := jm_mem4 (List.mem_of_getElem? (i := 144) rfl) rfl
theorem jw_865 : Cond.fieldLink "CodeCoverModel" 79 "CodeCoverModel" "twos" "[I" ∈ jm_wG := jm_mem4 (List.mem_of_getElem? (i := 145) rfl) rfl
theorem jw_866 : Cond.fieldLink "CodeCoverModel" 82 "CodeCoverModel" "waits" "[I" ∈ jm_wG := jm_mem4 (List.mem_of_getElem? (i := 146) rfl) rfl
theorem jw_867 : Cond.fieldLink "CodeCoverModel" 85 "CodeCoverModel" "weights" "[I" ∈ jm_wG := jm_mem4 (List.mem_of_getElem? (i := 147) rfl) rfl
theorem jw_868 : Cond.fieldLink "CodeCoverModel" 231 "CodeCoverModel" "many" "I" ∈ jm_wG := jm_mem4 (List.mem_of_getElem? (i := 148) rfl) rfl
theorem jw_869 : Cond.fieldLink "CodeCoverModel" 88 "CodeCoverModel" "order" "[I" ∈ jm_wG := jm_mem4 (List.mem_of_getElem? (i := 149) rfl) rfl
theorem jw_870 : Cond.fieldLink "CodeCoverModel" 91 "CodeCoverModel" "cycle" "[I" ∈ jm_wG := jm_mem4 (List.mem_of_getElem? (i := 150) rfl) rfl
theorem jw_871 : Cond.fieldLink "CodeCoverModel" 94 "CodeCoverModel" "bestOrder" "[I" ∈ jm_wG := jm_mem4 (List.mem_of_getElem? (i := 151) rfl) rfl
theorem jw_872 : Cond.fieldLink "CodeCoverModel" 251 "CodeCoverModel" "bestEnd" "I" ∈ jm_wG := jm_mem4 (List.mem_of_getElem? (i := 152) rfl) rfl
theorem jw_873 : Cond.fieldLink "CodeCoverModel" 97 "CodeCoverModel" "endTo" "[I" ∈ jm_wG := jm_mem4 (List.mem_of_getElem? (i := 153) rfl) rfl
theorem jw_874 : Cond.fieldLink "CodeCoverModel" 100 "CodeCoverModel" "aside" "[I" ∈ jm_wG := jm_mem4 (List.mem_of_getElem? (i := 154) rfl) rfl
theorem jw_875 : Cond.fieldLink "CodeCoverModel" 118 "CodeCoverModel" "kept" "I" ∈ jm_wG := jm_mem4 (List.mem_of_getElem? (i := 155) rfl) rfl
theorem jw_876 : Cond.fieldLink "CodeCoverModel" 103 "CodeCoverModel" "places" "[I" ∈ jm_wG := jm_mem4 (List.mem_of_getElem? (i := 156) rfl) rfl
theorem jw_877 : Cond.fieldLink "CodeCoverModel" 106 "CodeCoverModel" "registers" "[I" ∈ jm_wG := jm_mem4 (List.mem_of_getElem? (i := 157) rfl) rfl
theorem jw_878 : Cond.fieldLink "CodeCoverModel" 109 "CodeCoverModel" "wanted" "[I" ∈ jm_wG := jm_mem4 (List.mem_of_getElem? (i := 158) rfl) rfl
theorem jw_879 : Cond.fieldLink "CodeCoverModel" 112 "CodeCoverModel" "shorts" "[I" ∈ jm_wG := jm_mem4 (List.mem_of_getElem? (i := 159) rfl) rfl
theorem jw_880 : Cond.fieldLink "CodeCoverModel" 115 "CodeCoverModel" "short3" "[I" ∈ jm_wG := jm_mem4 (List.mem_of_getElem? (i := 160) rfl) rfl
theorem jw_972 : Cond.methodLink "CodeCoverLaw" 17 ({ cls := "CodeCoverModel", name := "say", desc := "(I)I" } : MethodName) ∈ jm_wG := jm_mem5 (List.mem_of_getElem? (i := 12) rfl) rfl
theorem jw_973 : Cond.instanceMethod ({ cls := "CodeCoverModel", name := "say", desc := "(I)I" } : MethodName) ∈ jm_wG := jm_mem5 (List.mem_of_getElem? (i := 13) rfl) rfl
theorem jw_974 : Cond.selects "CodeCoverModel" ({ cls := "CodeCoverModel", name := "say", desc := "(I)I" } : MethodName) ({ cls := "CodeCoverModel", name := "say", desc := "(I)I" } : MethodName) ∈ jm_wG := jm_mem5 (List.mem_of_getElem? (i := 14) rfl) rfl
theorem jw_975 : Cond.code ({ cls := "CodeCoverModel", name := "say", desc := "(I)I" } : MethodName) prog_13_method_4_code 2 (Option.some FieldType.int) ∈ jm_wG := jm_mem5 (List.mem_of_getElem? (i := 15) rfl) rfl
theorem jw_976 : Cond.constantLong "CodeCoverModel" 122 (33 : Int64) ∈ jm_wG := jm_mem5 (List.mem_of_getElem? (i := 16) rfl) rfl
theorem jw_977 : Cond.constantLong "CodeCoverModel" 124 (126 : Int64) ∈ jm_wG := jm_mem5 (List.mem_of_getElem? (i := 17) rfl) rfl
theorem jw_978 : Cond.methodLink "CodeCoverModel" 126 ({ cls := "CodeCoverModel", name := "in", desc := "(JJJ)Z" } : MethodName) ∈ jm_wG := jm_mem5 (List.mem_of_getElem? (i := 18) rfl) rfl
theorem jw_979 : Cond.static ({ cls := "CodeCoverModel", name := "in", desc := "(JJJ)Z" } : MethodName) ∈ jm_wG := jm_mem5 (List.mem_of_getElem? (i := 19) rfl) rfl
theorem jw_980 : Cond.code ({ cls := "CodeCoverModel", name := "in", desc := "(JJJ)Z" } : MethodName) prog_13_method_3_code 6 (Option.some FieldType.boolean) ∈ jm_wG := jm_mem5 (List.mem_of_getElem? (i := 20) rfl) rfl
theorem jw_981 : Cond.methodLink "CodeCoverLaw" 22 ({ cls := "CodeCoverModel", name := "wipe", desc := "()I" } : MethodName) ∈ jm_wG := jm_mem5 (List.mem_of_getElem? (i := 21) rfl) rfl
theorem jw_982 : Cond.instanceMethod ({ cls := "CodeCoverModel", name := "wipe", desc := "()I" } : MethodName) ∈ jm_wG := jm_mem5 (List.mem_of_getElem? (i := 22) rfl) rfl
theorem jw_983 : Cond.selects "CodeCoverModel" ({ cls := "CodeCoverModel", name := "wipe", desc := "()I" } : MethodName) ({ cls := "CodeCoverModel", name := "wipe", desc := "()I" } : MethodName) ∈ jm_wG := jm_mem5 (List.mem_of_getElem? (i := 23) rfl) rfl
theorem jw_984 : Cond.code ({ cls := "CodeCoverModel", name := "wipe", desc := "()I" } : MethodName) prog_13_method_5_code 2 (Option.some FieldType.int) ∈ jm_wG := jm_mem5 (List.mem_of_getElem? (i := 24) rfl) rfl
theorem jw_985 : Cond.methodLink "CodeCoverLaw" 26 ({ cls := "CodeCoverModel", name := "fault", desc := "()I" } : MethodName) ∈ jm_wG := jm_mem5 (List.mem_of_getElem? (i := 25) rfl) rfl
theorem jw_986 : Cond.instanceMethod ({ cls := "CodeCoverModel", name := "fault", desc := "()I" } : MethodName) ∈ jm_wG := jm_mem5 (List.mem_of_getElem? (i := 26) rfl) rfl
theorem jw_987 : Cond.selects "CodeCoverModel" ({ cls := "CodeCoverModel", name := "fault", desc := "()I" } : MethodName) ({ cls := "CodeCoverModel", name := "fault", desc := "()I" } : MethodName) ∈ jm_wG := jm_mem5 (List.mem_of_getElem? (i := 27) rfl) rfl
theorem jw_988 : Cond.code ({ cls := "CodeCoverModel", name := "fault", desc := "()I" } : MethodName) prog_13_method_13_code 1 (Option.some FieldType.int) ∈ jm_wG := jm_mem5 (List.mem_of_getElem? (i := 28) rfl) rfl
theorem jw_989 : Cond.methodLink "CodeCoverModel" 165 ({ cls := "CodeCoverModel", name := "walk", desc := "(Z)I" } : MethodName) ∈ jm_wG := jm_mem5 (List.mem_of_getElem? (i := 29) rfl) rfl
theorem jw_991 : Cond.instanceMethod ({ cls := "CodeCoverModel", name := "walk", desc := "(Z)I" } : MethodName) ∈ jm_wG := jm_mem5 (List.mem_of_getElem? (i := 31) rfl) rfl
theorem jw_992 : Cond.code ({ cls := "CodeCoverModel", name := "walk", desc := "(Z)I" } : MethodName) prog_13_method_11_code 7 (Option.some FieldType.int) ∈ jm_wG := jm_mem5 (List.mem_of_getElem? (i := 32) rfl) rfl
theorem jw_993 : Cond.methodLink "CodeCoverModel" 151 ({ cls := "CodeCoverModel", name := "partsOf", desc := "(I)I" } : MethodName) ∈ jm_wG := jm_mem5 (List.mem_of_getElem? (i := 33) rfl) rfl
theorem jw_994 : Cond.static ({ cls := "CodeCoverModel", name := "partsOf", desc := "(I)I" } : MethodName) ∈ jm_wG := jm_mem5 (List.mem_of_getElem? (i := 34) rfl) rfl
theorem jw_995 : Cond.code ({ cls := "CodeCoverModel", name := "partsOf", desc := "(I)I" } : MethodName) prog_13_method_6_code 1 (Option.some FieldType.int) ∈ jm_wG := jm_mem5 (List.mem_of_getElem? (i := 35) rfl) rfl
theorem jw_996 : Cond.methodLink "CodeCoverModel" 155 ({ cls := "CodeCoverModel", name := "depthOf", desc := "(I)I" } : MethodName) ∈ jm_wG := jm_mem5 (List.mem_of_getElem? (i := 36) rfl) rfl
theorem jw_998 : Cond.instanceMethod ({ cls := "CodeCoverModel", name := "depthOf", desc := "(I)I" } : MethodName) ∈ jm_wG := jm_mem5 (List.mem_of_getElem? (i := 38) rfl) rfl
theorem jw_999 : Cond.code ({ cls := "CodeCoverModel", name := "depthOf", desc := "(I)I" } : MethodName) prog_13_method_10_code 4 (Option.some FieldType.int) ∈ jm_wG := jm_mem5 (List.mem_of_getElem? (i := 39) rfl) rfl
theorem jw_1000 : Cond.methodLink "CodeCoverModel" 158 ({ cls := "CodeCoverModel", name := "isLeaf", desc := "(IZ)Z" } : MethodName) ∈ jm_wG := jm_mem5 (List.mem_of_getElem? (i := 40) rfl) rfl
theorem jw_1001 : Cond.static ({ cls := "CodeCoverModel", name := "isLeaf", desc := "(IZ)Z" } : MethodName) ∈ jm_wG := jm_mem5 (List.mem_of_getElem? (i := 41) rfl) rfl
theorem jw_1002 : Cond.code ({ cls := "CodeCoverModel", name := "isLeaf", desc := "(IZ)Z" } : MethodName) prog_13_method_9_code 2 (Option.some FieldType.boolean) ∈ jm_wG := jm_mem5 (List.mem_of_getElem? (i := 42) rfl) rfl
theorem jw_1003 : Cond.methodLink "CodeCoverModel" 141 ({ cls := "CodeCoverModel", name := "isNumber", desc := "(I)Z" } : MethodName) ∈ jm_wG := jm_mem5 (List.mem_of_getElem? (i := 43) rfl) rfl
theorem jw_1004 : Cond.static ({ cls := "CodeCoverModel", name := "isNumber", desc := "(I)Z" } : MethodName) ∈ jm_wG := jm_mem5 (List.mem_of_getElem? (i := 44) rfl) rfl
theorem jw_1005 : Cond.code ({ cls := "CodeCoverModel", name := "isNumber", desc := "(I)Z" } : MethodName) prog_13_method_7_code 1 (Option.some FieldType.boolean) ∈ jm_wG := jm_mem5 (List.mem_of_getElem? (i := 45) rfl) rfl
theorem jw_1006 : Cond.constantLong "CodeCoverModel" 133 (48 : Int64) ∈ jm_wG := jm_mem5 (List.mem_of_getElem? (i := 46) rfl) rfl
theorem jw_1007 : Cond.constantLong "CodeCoverModel" 135 (57 : Int64) ∈ jm_wG := jm_mem5 (List.mem_of_getElem? (i := 47) rfl) rfl
theorem jw_1008 : Cond.methodLink "CodeCoverModel" 145 ({ cls := "CodeCoverModel", name := "isVariable", desc := "(I)Z" } : MethodName) ∈ jm_wG := jm_mem5 (List.mem_of_getElem? (i := 48) rfl) rfl
theorem jw_1009 : Cond.static ({ cls := "CodeCoverModel", name := "isVariable", desc := "(I)Z" } : MethodName) ∈ jm_wG := jm_mem5 (List.mem_of_getElem? (i := 49) rfl) rfl
theorem jw_1010 : Cond.code ({ cls := "CodeCoverModel", name := "isVariable", desc := "(I)Z" } : MethodName) prog_13_method_8_code 1 (Option.some FieldType.boolean) ∈ jm_wG := jm_mem5 (List.mem_of_getElem? (i := 50) rfl) rfl
theorem jw_1011 : Cond.constantLong "CodeCoverModel" 137 (97 : Int64) ∈ jm_wG := jm_mem5 (List.mem_of_getElem? (i := 51) rfl) rfl
theorem jw_1012 : Cond.constantLong "CodeCoverModel" 139 (104 : Int64) ∈ jm_wG := jm_mem5 (List.mem_of_getElem? (i := 52) rfl) rfl
theorem jw_1013 : Cond.methodLink "CodeCoverModel" 162 ({ cls := "CodeCoverModel", name := "closed", desc := "(I)I" } : MethodName) ∈ jm_wG := jm_mem5 (List.mem_of_getElem? (i := 53) rfl) rfl
theorem jw_1015 : Cond.instanceMethod ({ cls := "CodeCoverModel", name := "closed", desc := "(I)I" } : MethodName) ∈ jm_wG := jm_mem5 (List.mem_of_getElem? (i := 55) rfl) rfl
theorem jw_1016 : Cond.code ({ cls := "CodeCoverModel", name := "closed", desc := "(I)I" } : MethodName) prog_13_method_12_code 3 (Option.some FieldType.int) ∈ jm_wG := jm_mem5 (List.mem_of_getElem? (i := 56) rfl) rfl
theorem jw_1017 : Cond.methodLink "CodeCoverLaw" 30 ({ cls := "CodeCoverModel", name := "read", desc := "()I" } : MethodName) ∈ jm_wG := jm_mem5 (List.mem_of_getElem? (i := 57) rfl) rfl
theorem jw_1018 : Cond.instanceMethod ({ cls := "CodeCoverModel", name := "read", desc := "()I" } : MethodName) ∈ jm_wG := jm_mem5 (List.mem_of_getElem? (i := 58) rfl) rfl
theorem jw_1019 : Cond.selects "CodeCoverModel" ({ cls := "CodeCoverModel", name := "read", desc := "()I" } : MethodName) ({ cls := "CodeCoverModel", name := "read", desc := "()I" } : MethodName) ∈ jm_wG := jm_mem5 (List.mem_of_getElem? (i := 59) rfl) rfl
theorem jw_1020 : Cond.code ({ cls := "CodeCoverModel", name := "read", desc := "()I" } : MethodName) prog_13_method_14_code 2 (Option.some FieldType.int) ∈ jm_wG := jm_mem5 (List.mem_of_getElem? (i := 60) rfl) rfl
theorem jw_1021 : Cond.methodLink "CodeCoverLaw" 35 ({ cls := "CodeCoverModel", name := "node", desc := "(II)I" } : MethodName) ∈ jm_wG := jm_mem5 (List.mem_of_getElem? (i := 61) rfl) rfl
theorem jw_1022 : Cond.instanceMethod ({ cls := "CodeCoverModel", name := "node", desc := "(II)I" } : MethodName) ∈ jm_wG := jm_mem5 (List.mem_of_getElem? (i := 62) rfl) rfl
theorem jw_1023 : Cond.selects "CodeCoverModel" ({ cls := "CodeCoverModel", name := "node", desc := "(II)I" } : MethodName) ({ cls := "CodeCoverModel", name := "node", desc := "(II)I" } : MethodName) ∈ jm_wG := jm_mem5 (List.mem_of_getElem? (i := 63) rfl) rfl
theorem jw_1024 : Cond.code ({ cls := "CodeCoverModel", name := "node", desc := "(II)I" } : MethodName) prog_13_method_18_code 3 (Option.some FieldType.int) ∈ jm_wG := jm_mem5 (List.mem_of_getElem? (i := 64) rfl) rfl
theorem jw_1025 : Cond.methodLink "CodeCoverModel" 175 ({ cls := "CodeCoverModel", name := "isNode", desc := "(I)Z" } : MethodName) ∈ jm_wG := jm_mem5 (List.mem_of_getElem? (i := 65) rfl) rfl
theorem jw_1027 : Cond.instanceMethod ({ cls := "CodeCoverModel", name := "isNode", desc := "(I)Z" } : MethodName) ∈ jm_wG := jm_mem5 (List.mem_of_getElem? (i := 67) rfl) rfl
theorem jw_1028 : Cond.code ({ cls := "CodeCoverModel", name := "isNode", desc := "(I)Z" } : MethodName) prog_13_method_17_code 2 (Option.some FieldType.boolean) ∈ jm_wG := jm_mem5 (List.mem_of_getElem? (i := 68) rfl) rfl
theorem jw_1029 : Cond.methodLink "CodeCoverModel" 178 ({ cls := "CodeCoverModel", name := "findNeeds", desc := "()V" } : MethodName) ∈ jm_wG := jm_mem5 (List.mem_of_getElem? (i := 69) rfl) rfl
theorem jw_1031 : Cond.instanceMethod ({ cls := "CodeCoverModel", name := "findNeeds", desc := "()V" } : MethodName) ∈ jm_wG := jm_mem5 (List.mem_of_getElem? (i := 71) rfl) rfl
theorem jw_1032 : Cond.code ({ cls := "CodeCoverModel", name := "findNeeds", desc := "()V" } : MethodName) prog_13_method_16_code 5 (Option.none : Option FieldType) ∈ jm_wG := jm_mem5 (List.mem_of_getElem? (i := 72) rfl) rfl
theorem jw_1033 : Cond.methodLink "CodeCoverModel" 172 ({ cls := "CodeCoverModel", name := "endOf", desc := "(I)I" } : MethodName) ∈ jm_wG := jm_mem5 (List.mem_of_getElem? (i := 73) rfl) rfl
theorem jw_1035 : Cond.instanceMethod ({ cls := "CodeCoverModel", name := "endOf", desc := "(I)I" } : MethodName) ∈ jm_wG := jm_mem5 (List.mem_of_getElem? (i := 75) rfl) rfl
theorem jw_1036 : Cond.code ({ cls := "CodeCoverModel", name := "endOf", desc := "(I)I" } : MethodName) prog_13_method_15_code 4 (Option.some FieldType.int) ∈ jm_wG := jm_mem5 (List.mem_of_getElem? (i := 76) rfl) rfl
theorem jw_1037 : Cond.methodLink "CodeCoverLaw" 39 ({ cls := "CodeCoverModel", name := "pattern", desc := "(II)I" } : MethodName) ∈ jm_wG := jm_mem5 (List.mem_of_getElem? (i := 77) rfl) rfl
theorem jw_1038 : Cond.instanceMethod ({ cls := "CodeCoverModel", name := "pattern", desc := "(II)I" } : MethodName) ∈ jm_wG := jm_mem5 (List.mem_of_getElem? (i := 78) rfl) rfl
theorem jw_1039 : Cond.selects "CodeCoverModel" ({ cls := "CodeCoverModel", name := "pattern", desc := "(II)I" } : MethodName) ({ cls := "CodeCoverModel", name := "pattern", desc := "(II)I" } : MethodName) ∈ jm_wG := jm_mem5 (List.mem_of_getElem? (i := 79) rfl) rfl
theorem jw_1040 : Cond.code ({ cls := "CodeCoverModel", name := "pattern", desc := "(II)I" } : MethodName) prog_13_method_21_code 5 (Option.some FieldType.int) ∈ jm_wG := jm_mem5 (List.mem_of_getElem? (i := 80) rfl) rfl
theorem jw_1041 : Cond.methodLink "CodeCoverModel" 181 ({ cls := "CodeCoverModel", name := "isHead", desc := "(I)Z" } : MethodName) ∈ jm_wG := jm_mem5 (List.mem_of_getElem? (i := 81) rfl) rfl
theorem jw_1042 : Cond.static ({ cls := "CodeCoverModel", name := "isHead", desc := "(I)Z" } : MethodName) ∈ jm_wG := jm_mem5 (List.mem_of_getElem? (i := 82) rfl) rfl
theorem jw_1043 : Cond.code ({ cls := "CodeCoverModel", name := "isHead", desc := "(I)Z" } : MethodName) prog_13_method_19_code 1 (Option.some FieldType.boolean) ∈ jm_wG := jm_mem5 (List.mem_of_getElem? (i := 83) rfl) rfl
theorem jw_1044 : Cond.constantLong "CodeCoverModel" 184 (20 : Int64) ∈ jm_wG := jm_mem5 (List.mem_of_getElem? (i := 84) rfl) rfl
theorem jw_1045 : Cond.methodLink "CodeCoverModel" 189 ({ cls := "CodeCoverModel", name := "headFor", desc := "(I)I" } : MethodName) ∈ jm_wG := jm_mem5 (List.mem_of_getElem? (i := 85) rfl) rfl
theorem jw_1046 : Cond.static ({ cls := "CodeCoverModel", name := "headFor", desc := "(I)I" } : MethodName) ∈ jm_wG := jm_mem5 (List.mem_of_getElem? (i := 86) rfl) rfl
theorem jw_1047 : Cond.code ({ cls := "CodeCoverModel", name := "headFor", desc := "(I)I" } : MethodName) prog_13_method_20_code 1 (Option.some FieldType.int) ∈ jm_wG := jm_mem5 (List.mem_of_getElem? (i := 87) rfl) rfl
theorem jw_1048 : Cond.methodLink "CodeCoverLaw" 43 ({ cls := "CodeCoverModel", name := "price", desc := "(II)I" } : MethodName) ∈ jm_wG := jm_mem5 (List.mem_of_getElem? (i := 88) rfl) rfl
theorem jw_1049 : Cond.instanceMethod ({ cls := "CodeCoverModel", name := "price", desc := "(II)I" } : MethodName) ∈ jm_wG := jm_mem5 (List.mem_of_getElem? (i := 89) rfl) rfl
theorem jw_1050 : Cond.selects "CodeCoverModel" ({ cls := "CodeCoverModel", name := "price", desc := "(II)I" } : MethodName) ({ cls := "CodeCoverModel", name := "price", desc := "(II)I" } : MethodName) ∈ jm_wG := jm_mem5 (List.mem_of_getElem? (i := 90) rfl) rfl
theorem jw_1051 : Cond.code ({ cls := "CodeCoverModel", name := "price", desc := "(II)I" } : MethodName) prog_13_method_22_code 4 (Option.some FieldType.int) ∈ jm_wG := jm_mem5 (List.mem_of_getElem? (i := 91) rfl) rfl
theorem jw_1052 : Cond.methodLink "CodeCoverLaw" 47 ({ cls := "CodeCoverModel", name := "clear", desc := "()I" } : MethodName) ∈ jm_wG := jm_mem5 (List.mem_of_getElem? (i := 92) rfl) rfl
theorem jw_1053 : Cond.instanceMethod ({ cls := "CodeCoverModel", name := "clear", desc := "()I" } : MethodName) ∈ jm_wG := jm_mem5 (List.mem_of_getElem? (i := 93) rfl) rfl
theorem jw_1054 : Cond.selects "CodeCoverModel" ({ cls := "CodeCoverModel", name := "clear", desc := "()I" } : MethodName) ({ cls := "CodeCoverModel", name := "clear", desc := "()I" } : MethodName) ∈ jm_wG := jm_mem5 (List.mem_of_getElem? (i := 94) rfl) rfl
theorem jw_1055 : Cond.code ({ cls := "CodeCoverModel", name := "clear", desc := "()I" } : MethodName) prog_13_method_23_code 2 (Option.some FieldType.int) ∈ jm_wG := jm_mem5 (List.mem_of_getElem? (i := 95) rfl) rfl
theorem jw_1056 : Cond.methodLink "CodeCoverLaw" 52 ({ cls := "CodeCoverModel", name := "cover", desc := "(III)I" } : MethodName) ∈ jm_wG := jm_mem5 (List.mem_of_getElem? (i := 96) rfl) rfl
theorem jw_1057 : Cond.instanceMethod ({ cls := "CodeCoverModel", name := "cover", desc := "(III)I" } : MethodName) ∈ jm_wG := jm_mem5 (List.mem_of_getElem? (i := 97) rfl) rfl
theorem jw_1058 : Cond.selects "CodeCoverModel" ({ cls := "CodeCoverModel", name := "cover", desc := "(III)I" } : MethodName) ({ cls := "CodeCoverModel", name := "cover", desc := "(III)I" } : MethodName) ∈ jm_wG := jm_mem5 (List.mem_of_getElem? (i := 98) rfl) rfl
theorem jw_1059 : Cond.code ({ cls := "CodeCoverModel", name := "cover", desc := "(III)I" } : MethodName) prog_13_method_27_code 5 (Option.some FieldType.int) ∈ jm_wG := jm_mem5 (List.mem_of_getElem? (i := 99) rfl) rfl
theorem jw_1060 : Cond.methodLink "CodeCoverModel" 200 ({ cls := "CodeCoverModel", name := "findCover", desc := "()V" } : MethodName) ∈ jm_wG := jm_mem5 (List.mem_of_getElem? (i := 100) rfl) rfl
theorem jw_1062 : Cond.instanceMethod ({ cls := "CodeCoverModel", name := "findCover", desc := "()V" } : MethodName) ∈ jm_wG := jm_mem5 (List.mem_of_getElem? (i := 102) rfl) rfl
theorem jw_1063 : Cond.code ({ cls := "CodeCoverModel", name := "findCover", desc := "()V" } : MethodName) prog_13_method_26_code 5 (Option.none : Option FieldType) ∈ jm_wG := jm_mem5 (List.mem_of_getElem? (i := 103) rfl) rfl
theorem jw_1064 : Cond.constant "CodeCoverModel" 192 (1000000 : Int32) ∈ jm_wG := jm_mem5 (List.mem_of_getElem? (i := 104) rfl) rfl
theorem jw_1065 : Cond.methodLink "CodeCoverModel" 193 ({ cls := "CodeCoverModel", name := "isChain", desc := "(I)Z" } : MethodName) ∈ jm_wG := jm_mem5 (List.mem_of_getElem? (i := 105) rfl) rfl
theorem jw_1067 : Cond.instanceMethod ({ cls := "CodeCoverModel", name := "isChain", desc := "(I)Z" } : MethodName) ∈ jm_wG := jm_mem5 (List.mem_of_getElem? (i := 107) rfl) rfl
theorem jw_1068 : Cond.code ({ cls := "CodeCoverModel", name := "isChain", desc := "(I)Z" } : MethodName) prog_13_method_24_code 2 (Option.some FieldType.boolean) ∈ jm_wG := jm_mem5 (List.mem_of_getElem? (i := 108) rfl) rfl
theorem jw_1069 : Cond.methodLink "CodeCoverModel" 196 ({ cls := "CodeCoverModel", name := "costAt", desc := "(II)I" } : MethodName) ∈ jm_wG := jm_mem5 (List.mem_of_getElem? (i := 109) rfl) rfl
theorem jw_1071 : Cond.instanceMethod ({ cls := "CodeCoverModel", name := "costAt", desc := "(II)I" } : MethodName) ∈ jm_wG := jm_mem5 (List.mem_of_getElem? (i := 111) rfl) rfl
theorem jw_1072 : Cond.code ({ cls := "CodeCoverModel", name := "costAt", desc := "(II)I" } : MethodName) prog_13_method_25_code 9 (Option.some FieldType.int) ∈ jm_wG := jm_mem5 (List.mem_of_getElem? (i := 112) rfl) rfl
theorem jw_1073 : Cond.methodLink "CodeCoverLaw" 56 ({ cls := "CodeCoverModel", name := "code", desc := "(II)I" } : MethodName) ∈ jm_wG := jm_mem5 (List.mem_of_getElem? (i := 113) rfl) rfl
theorem jw_1074 : Cond.instanceMethod ({ cls := "CodeCoverModel", name := "code", desc := "(II)I" } : MethodName) ∈ jm_wG := jm_mem5 (List.mem_of_getElem? (i := 114) rfl) rfl
theorem jw_1075 : Cond.selects "CodeCoverModel" ({ cls := "CodeCoverModel", name := "code", desc := "(II)I" } : MethodName) ({ cls := "CodeCoverModel", name := "code", desc := "(II)I" } : MethodName) ∈ jm_wG := jm_mem5 (List.mem_of_getElem? (i := 115) rfl) rfl
theorem jw_1076 : Cond.code ({ cls := "CodeCoverModel", name := "code", desc := "(II)I" } : MethodName) prog_13_method_31_code 3 (Option.some FieldType.int) ∈ jm_wG := jm_mem5 (List.mem_of_getElem? (i := 116) rfl) rfl
theorem jw_1077 : Cond.methodLink "CodeCoverModel" 217 ({ cls := "CodeCoverModel", name := "findCode", desc := "()V" } : MethodName) ∈ jm_wG := jm_mem5 (List.mem_of_getElem? (i := 117) rfl) rfl
theorem jw_1079 : Cond.instanceMethod ({ cls := "CodeCoverModel", name := "findCode", desc := "()V" } : MethodName) ∈ jm_wG := jm_mem5 (List.mem_of_getElem? (i := 119) rfl) rfl
theorem jw_1080 : Cond.code ({ cls := "CodeCoverModel", name := "findCode", desc := "()V" } : MethodName) prog_13_method_30_code 4 (Option.none : Option FieldType) ∈ jm_wG := jm_mem5 (List.mem_of_getElem? (i := 120) rfl) rfl
theorem jw_1081 : Cond.methodLink "CodeCoverModel" 206 ({ cls := "CodeCoverModel", name := "later", desc := "(III)V" } : MethodName) ∈ jm_wG := jm_mem5 (List.mem_of_getElem? (i := 121) rfl) rfl
theorem jw_1083 : Cond.instanceMethod ({ cls := "CodeCoverModel", name := "later", desc := "(III)V" } : MethodName) ∈ jm_wG := jm_mem5 (List.mem_of_getElem? (i := 123) rfl) rfl
theorem jw_1084 : Cond.code ({ cls := "CodeCoverModel", name := "later", desc := "(III)V" } : MethodName) prog_13_method_28_code 4 (Option.none : Option FieldType) ∈ jm_wG := jm_mem5 (List.mem_of_getElem? (i := 124) rfl) rfl
theorem jw_1085 : Cond.methodLink "CodeCoverModel" 213 ({ cls := "CodeCoverModel", name := "laterParts", desc := "(II)V" } : MethodName) ∈ jm_wG := jm_mem5 (List.mem_of_getElem? (i := 125) rfl) rfl
theorem jw_1087 : Cond.instanceMethod ({ cls := "CodeCoverModel", name := "laterParts", desc := "(II)V" } : MethodName) ∈ jm_wG := jm_mem5 (List.mem_of_getElem? (i := 127) rfl) rfl
theorem jw_1088 : Cond.code ({ cls := "CodeCoverModel", name := "laterParts", desc := "(II)V" } : MethodName) prog_13_method_29_code 9 (Option.none : Option FieldType) ∈ jm_wG := jm_mem5 (List.mem_of_getElem? (i := 128) rfl) rfl
theorem jw_1089 : Cond.methodLink "CodeCoverLaw" 60 ({ cls := "CodeCoverModel", name := "stores", desc := "(I)I" } : MethodName) ∈ jm_wG := jm_mem5 (List.mem_of_getElem? (i := 129) rfl) rfl
theorem jw_1090 : Cond.instanceMethod ({ cls := "CodeCoverModel", name := "stores", desc := "(I)I" } : MethodName) ∈ jm_wG := jm_mem5 (List.mem_of_getElem? (i := 130) rfl) rfl
theorem jw_1091 : Cond.selects "CodeCoverModel" ({ cls := "CodeCoverModel", name := "stores", desc := "(I)I" } : MethodName) ({ cls := "CodeCoverModel", name := "stores", desc := "(I)I" } : MethodName) ∈ jm_wG := jm_mem5 (List.mem_of_getElem? (i := 131) rfl) rfl
theorem jw_1092 : Cond.code ({ cls := "CodeCoverModel", name := "stores", desc := "(I)I" } : MethodName) prog_13_method_32_code 8 (Option.some FieldType.int) ∈ jm_wG := jm_mem5 (List.mem_of_getElem? (i := 132) rfl) rfl
theorem jw_1093 : Cond.constantLong "CodeCoverModel" 220 (2 : Int64) ∈ jm_wG := jm_mem5 (List.mem_of_getElem? (i := 133) rfl) rfl
theorem jw_1094 : Cond.constantLong "CodeCoverModel" 222 (8 : Int64) ∈ jm_wG := jm_mem5 (List.mem_of_getElem? (i := 134) rfl) rfl
theorem jw_1095 : Cond.methodLink "CodeCoverLaw" 65 ({ cls := "CodeCoverModel", name := "add", desc := "(IIIII)I" } : MethodName) ∈ jm_wG := jm_mem5 (List.mem_of_getElem? (i := 135) rfl) rfl
theorem jw_1096 : Cond.instanceMethod ({ cls := "CodeCoverModel", name := "add", desc := "(IIIII)I" } : MethodName) ∈ jm_wG := jm_mem5 (List.mem_of_getElem? (i := 136) rfl) rfl
theorem jw_1097 : Cond.selects "CodeCoverModel" ({ cls := "CodeCoverModel", name := "add", desc := "(IIIII)I" } : MethodName) ({ cls := "CodeCoverModel", name := "add", desc := "(IIIII)I" } : MethodName) ∈ jm_wG := jm_mem5 (List.mem_of_getElem? (i := 137) rfl) rfl
theorem jw_1098 : Cond.code ({ cls := "CodeCoverModel", name := "add", desc := "(IIIII)I" } : MethodName) prog_13_method_34_code 6 (Option.some FieldType.int) ∈ jm_wG := jm_mem5 (List.mem_of_getElem? (i := 138) rfl) rfl
theorem jw_1099 : Cond.constantLong "CodeCoverModel" 226 (6 : Int64) ∈ jm_wG := jm_mem5 (List.mem_of_getElem? (i := 139) rfl) rfl
theorem jw_1100 : Cond.methodLink "CodeCoverModel" 228 ({ cls := "CodeCoverModel", name := "isRegister", desc := "(I)Z" } : MethodName) ∈ jm_wG := jm_mem5 (List.mem_of_getElem? (i := 140) rfl) rfl
theorem jw_1101 : Cond.static ({ cls := "CodeCoverModel", name := "isRegister", desc := "(I)Z" } : MethodName) ∈ jm_wG := jm_mem5 (List.mem_of_getElem? (i := 141) rfl) rfl
theorem jw_1102 : Cond.code ({ cls := "CodeCoverModel", name := "isRegister", desc := "(I)Z" } : MethodName) prog_13_method_33_code 1 (Option.some FieldType.boolean) ∈ jm_wG := jm_mem5 (List.mem_of_getElem? (i := 142) rfl) rfl
theorem jw_1103 : Cond.constantLong "CodeCoverModel" 224 (5 : Int64) ∈ jm_wG := jm_mem5 (List.mem_of_getElem? (i := 143) rfl) rfl
theorem jw_1104 : Cond.methodLink "CodeCoverLaw" 69 ({ cls := "CodeCoverModel", name := "drop", desc := "()I" } : MethodName) ∈ jm_wG := jm_mem5 (List.mem_of_getElem? (i := 144) rfl) rfl
theorem jw_1105 : Cond.instanceMethod ({ cls := "CodeCoverModel", name := "drop", desc := "()I" } : MethodName) ∈ jm_wG := jm_mem5 (List.mem_of_getElem? (i := 145) rfl) rfl
theorem jw_1106 : Cond.selects "CodeCoverModel" ({ cls := "CodeCoverModel", name := "drop", desc := "()I" } : MethodName) ({ cls := "CodeCoverModel", name := "drop", desc := "()I" } : MethodName) ∈ jm_wG := jm_mem5 (List.mem_of_getElem? (i := 146) rfl) rfl
theorem jw_1107 : Cond.code ({ cls := "CodeCoverModel", name := "drop", desc := "()I" } : MethodName) prog_13_method_35_code 2 (Option.some FieldType.int) ∈ jm_wG := jm_mem5 (List.mem_of_getElem? (i := 147) rfl) rfl
theorem jw_1108 : Cond.methodLink "CodeCoverLaw" 73 ({ cls := "CodeCoverModel", name := "about", desc := "(II)I" } : MethodName) ∈ jm_wG := jm_mem5 (List.mem_of_getElem? (i := 148) rfl) rfl
theorem jw_1109 : Cond.instanceMethod ({ cls := "CodeCoverModel", name := "about", desc := "(II)I" } : MethodName) ∈ jm_wG := jm_mem5 (List.mem_of_getElem? (i := 149) rfl) rfl
theorem jw_1110 : Cond.selects "CodeCoverModel" ({ cls := "CodeCoverModel", name := "about", desc := "(II)I" } : MethodName) ({ cls := "CodeCoverModel", name := "about", desc := "(II)I" } : MethodName) ∈ jm_wG := jm_mem5 (List.mem_of_getElem? (i := 150) rfl) rfl
theorem jw_1111 : Cond.code ({ cls := "CodeCoverModel", name := "about", desc := "(II)I" } : MethodName) prog_13_method_40_code 3 (Option.some FieldType.int) ∈ jm_wG := jm_mem5 (List.mem_of_getElem? (i := 151) rfl) rfl
theorem jw_1112 : Cond.methodLink "CodeCoverModel" 241 ({ cls := "CodeCoverModel", name := "isInstruction", desc := "(I)Z" } : MethodName) ∈ jm_wG := jm_mem5 (List.mem_of_getElem? (i := 152) rfl) rfl
theorem jw_1114 : Cond.instanceMethod ({ cls := "CodeCoverModel", name := "isInstruction", desc := "(I)Z" } : MethodName) ∈ jm_wG := jm_mem5 (List.mem_of_getElem? (i := 154) rfl) rfl
theorem jw_1115 : Cond.code ({ cls := "CodeCoverModel", name := "isInstruction", desc := "(I)Z" } : MethodName) prog_13_method_36_code 2 (Option.some FieldType.boolean) ∈ jm_wG := jm_mem5 (List.mem_of_getElem? (i := 155) rfl) rfl
theorem jw_1116 : Cond.methodLink "CodeCoverModel" 244 ({ cls := "CodeCoverModel", name := "endAsWritten", desc := "()I" } : MethodName) ∈ jm_wG := jm_mem5 (List.mem_of_getElem? (i := 156) rfl) rfl
theorem jw_1118 : Cond.instanceMethod ({ cls := "CodeCoverModel", name := "endAsWritten", desc := "()I" } : MethodName) ∈ jm_wG := jm_mem5 (List.mem_of_getElem? (i := 158) rfl) rfl
theorem jw_1119 : Cond.code ({ cls := "CodeCoverModel", name := "endAsWritten", desc := "()I" } : MethodName) prog_13_method_39_code 3 (Option.some FieldType.int) ∈ jm_wG := jm_mem5 (List.mem_of_getElem? (i := 159) rfl) rfl
theorem jw_1120 : Cond.methodLink "CodeCoverModel" 238 ({ cls := "CodeCoverModel", name := "startOf", desc := "(I)I" } : MethodName) ∈ jm_wG := jm_mem5 (List.mem_of_getElem? (i := 160) rfl) rfl
theorem jw_1122 : Cond.instanceMethod ({ cls := "CodeCoverModel", name := "startOf", desc := "(I)I" } : MethodName) ∈ jm_wG := jm_mem5 (List.mem_of_getElem? (i := 162) rfl) rfl
theorem jw_1123 : Cond.code ({ cls := "CodeCoverModel", name := "startOf", desc := "(I)I" } : MethodName) prog_13_method_38_code 7 (Option.some FieldType.int) ∈ jm_wG := jm_mem5 (List.mem_of_getElem? (i := 163) rfl) rfl
theorem jw_1124 : Cond.methodLink "CodeCoverModel" 234 ({ cls := "CodeCoverModel", name := "uses", desc := "(II)Z" } : MethodName) ∈ jm_wG := jm_mem5 (List.mem_of_getElem? (i := 164) rfl) rfl
theorem jw_1126 : Cond.instanceMethod ({ cls := "CodeCoverModel", name := "uses", desc := "(II)Z" } : MethodName) ∈ jm_wG := jm_mem5 (List.mem_of_getElem? (i := 166) rfl) rfl
theorem jw_1127 : Cond.code ({ cls := "CodeCoverModel", name := "uses", desc := "(II)Z" } : MethodName) prog_13_method_37_code 3 (Option.some FieldType.boolean) ∈ jm_wG := jm_mem5 (List.mem_of_getElem? (i := 167) rfl) rfl
theorem jw_1128 : Cond.methodLink "CodeCoverLaw" 77 ({ cls := "CodeCoverModel", name := "end", desc := "()I" } : MethodName) ∈ jm_wG := jm_mem5 (List.mem_of_getElem? (i := 168) rfl) rfl
theorem jw_1129 : Cond.instanceMethod ({ cls := "CodeCoverModel", name := "end", desc := "()I" } : MethodName) ∈ jm_wG := jm_mem5 (List.mem_of_getElem? (i := 169) rfl) rfl
theorem jw_1130 : Cond.selects "CodeCoverModel" ({ cls := "CodeCoverModel", name := "end", desc := "()I" } : MethodName) ({ cls := "CodeCoverModel", name := "end", desc := "()I" } : MethodName) ∈ jm_wG := jm_mem5 (List.mem_of_getElem? (i := 170) rfl) rfl
theorem jw_1131 : Cond.code ({ cls := "CodeCoverModel", name := "end", desc := "()I" } : MethodName) prog_13_method_41_code 1 (Option.some FieldType.int) ∈ jm_wG := jm_mem5 (List.mem_of_getElem? (i := 171) rfl) rfl
theorem jw_1132 : Cond.methodLink "CodeCoverLaw" 81 ({ cls := "CodeCoverModel", name := "ahead", desc := "(II)I" } : MethodName) ∈ jm_wG := jm_mem5 (List.mem_of_getElem? (i := 172) rfl) rfl
theorem jw_1133 : Cond.instanceMethod ({ cls := "CodeCoverModel", name := "ahead", desc := "(II)I" } : MethodName) ∈ jm_wG := jm_mem5 (List.mem_of_getElem? (i := 173) rfl) rfl
theorem jw_1134 : Cond.selects "CodeCoverModel" ({ cls := "CodeCoverModel", name := "ahead", desc := "(II)I" } : MethodName) ({ cls := "CodeCoverModel", name := "ahead", desc := "(II)I" } : MethodName) ∈ jm_wG := jm_mem5 (List.mem_of_getElem? (i := 174) rfl) rfl
theorem jw_1135 : Cond.code ({ cls := "CodeCoverModel", name := "ahead", desc := "(II)I" } : MethodName) prog_13_method_43_code 3 (Option.some FieldType.int) ∈ jm_wG := jm_mem5 (List.mem_of_getElem? (i := 175) rfl) rfl
theorem jw_1136 : Cond.methodLink "CodeCoverModel" 248 ({ cls := "CodeCoverModel", name := "mustLead", desc := "(II)Z" } : MethodName) ∈ jm_wG := jm_mem5 (List.mem_of_getElem? (i := 176) rfl) rfl
theorem jw_1138 : Cond.instanceMethod ({ cls := "CodeCoverModel", name := "mustLead", desc := "(II)Z" } : MethodName) ∈ jm_wG := jm_mem5 (List.mem_of_getElem? (i := 178) rfl) rfl
theorem jw_1139 : Cond.code ({ cls := "CodeCoverModel", name := "mustLead", desc := "(II)Z" } : MethodName) prog_13_method_42_code 3 (Option.some FieldType.boolean) ∈ jm_wG := jm_mem5 (List.mem_of_getElem? (i := 179) rfl) rfl
theorem jw_1140 : Cond.methodLink "CodeCoverLaw" 85 ({ cls := "CodeCoverModel", name := "best", desc := "(I)I" } : MethodName) ∈ jm_wG := jm_mem5 (List.mem_of_getElem? (i := 180) rfl) rfl
theorem jw_1141 : Cond.instanceMethod ({ cls := "CodeCoverModel", name := "best", desc := "(I)I" } : MethodName) ∈ jm_wG := jm_mem5 (List.mem_of_getElem? (i := 181) rfl) rfl
theorem jw_1142 : Cond.selects "CodeCoverModel" ({ cls := "CodeCoverModel", name := "best", desc := "(I)I" } : MethodName) ({ cls := "CodeCoverModel", name := "best", desc := "(I)I" } : MethodName) ∈ jm_wG := jm_mem5 (List.mem_of_getElem? (i := 182) rfl) rfl
theorem jw_1143 : Cond.code ({ cls := "CodeCoverModel", name := "best", desc := "(I)I" } : MethodName) prog_13_method_47_code 2 (Option.some FieldType.int) ∈ jm_wG := jm_mem5 (List.mem_of_getElem? (i := 183) rfl) rfl
theorem jw_1144 : Cond.methodLink "CodeCoverModel" 260 ({ cls := "CodeCoverModel", name := "findBest", desc := "()V" } : MethodName) ∈ jm_wG := jm_mem5 (List.mem_of_getElem? (i := 184) rfl) rfl
theorem jw_1146 : Cond.instanceMethod ({ cls := "CodeCoverModel", name := "findBest", desc := "()V" } : MethodName) ∈ jm_wG := jm_mem5 (List.mem_of_getElem? (i := 186) rfl) rfl
theorem jw_1147 : Cond.code ({ cls := "CodeCoverModel", name := "findBest", desc := "()V" } : MethodName) prog_13_method_46_code 6 (Option.none : Option FieldType) ∈ jm_wG := jm_mem5 (List.mem_of_getElem? (i := 187) rfl) rfl
theorem jw_1148 : Cond.methodLink "CodeCoverModel" 254 ({ cls := "CodeCoverModel", name := "mayStand", desc := "(II)Z" } : MethodName) ∈ jm_wG := jm_mem5 (List.mem_of_getElem? (i := 188) rfl) rfl
theorem jw_1150 : Cond.instanceMethod ({ cls := "CodeCoverModel", name := "mayStand", desc := "(II)Z" } : MethodName) ∈ jm_wG := jm_mem5 (List.mem_of_getElem? (i := 190) rfl) rfl
theorem jw_1151 : Cond.code ({ cls := "CodeCoverModel", name := "mayStand", desc := "(II)Z" } : MethodName) prog_13_method_44_code 6 (Option.some FieldType.boolean) ∈ jm_wG := jm_mem5 (List.mem_of_getElem? (i := 191) rfl) rfl
theorem jw_1152 : Cond.methodLink "CodeCoverModel" 257 ({ cls := "CodeCoverModel", name := "leastEnd", desc := "(I)I" } : MethodName) ∈ jm_wG := jm_mem5 (List.mem_of_getElem? (i := 192) rfl) rfl
theorem jw_1154 : Cond.instanceMethod ({ cls := "CodeCoverModel", name := "leastEnd", desc := "(I)I" } : MethodName) ∈ jm_wG := jm_mem5 (List.mem_of_getElem? (i := 194) rfl) rfl
theorem jw_1155 : Cond.code ({ cls := "CodeCoverModel", name := "leastEnd", desc := "(I)I" } : MethodName) prog_13_method_45_code 8 (Option.some FieldType.int) ∈ jm_wG := jm_mem5 (List.mem_of_getElem? (i := 195) rfl) rfl
theorem jw_1156 : Cond.methodLink "CodeCoverLaw" 89 ({ cls := "CodeCoverModel", name := "sort", desc := "()I" } : MethodName) ∈ jm_wG := jm_mem5 (List.mem_of_getElem? (i := 196) rfl) rfl
theorem jw_1157 : Cond.instanceMethod ({ cls := "CodeCoverModel", name := "sort", desc := "()I" } : MethodName) ∈ jm_wG := jm_mem5 (List.mem_of_getElem? (i := 197) rfl) rfl
theorem jw_1158 : Cond.selects "CodeCoverModel" ({ cls := "CodeCoverModel", name := "sort", desc := "()I" } : MethodName) ({ cls := "CodeCoverModel", name := "sort", desc := "()I" } : MethodName) ∈ jm_wG := jm_mem5 (List.mem_of_getElem? (i := 198) rfl) rfl
theorem jw_1159 : Cond.code ({ cls := "CodeCoverModel", name := "sort", desc := "()I" } : MethodName) prog_13_method_50_code 2 (Option.some FieldType.int) ∈ jm_wG := jm_mem5 (List.mem_of_getElem? (i := 199) rfl) rfl
theorem jw_1160 : Cond.methodLink "CodeCoverModel" 263 ({ cls := "CodeCoverModel", name := "keepAside", desc := "()V" } : MethodName) ∈ jm_wG := jm_mem5 (List.mem_of_getElem? (i := 200) rfl) rfl
theorem jw_1162 : Cond.instanceMethod ({ cls := "CodeCoverModel", name := "keepAside", desc := "()V" } : MethodName) ∈ jm_wG := jm_mem5 (List.mem_of_getElem? (i := 202) rfl) rfl
theorem jw_1163 : Cond.code ({ cls := "CodeCoverModel", name := "keepAside", desc := "()V" } : MethodName) prog_13_method_49_code 2 (Option.none : Option FieldType) ∈ jm_wG := jm_mem5 (List.mem_of_getElem? (i := 203) rfl) rfl
theorem jw_1164 : Cond.methodLink "CodeCoverModel" 266 ({ cls := "CodeCoverModel", name := "lay", desc := "(II)V" } : MethodName) ∈ jm_wG := jm_mem5 (List.mem_of_getElem? (i := 204) rfl) rfl
theorem jw_1166 : Cond.instanceMethod ({ cls := "CodeCoverModel", name := "lay", desc := "(II)V" } : MethodName) ∈ jm_wG := jm_mem5 (List.mem_of_getElem? (i := 206) rfl) rfl
theorem jw_1167 : Cond.code ({ cls := "CodeCoverModel", name := "lay", desc := "(II)V" } : MethodName) prog_13_method_48_code 3 (Option.none : Option FieldType) ∈ jm_wG := jm_mem5 (List.mem_of_getElem? (i := 207) rfl) rfl
theorem jw_1168 : Cond.methodLink "CodeCoverLaw" 93 ({ cls := "CodeCoverModel", name := "keep", desc := "(I)I" } : MethodName) ∈ jm_wG := jm_mem5 (List.mem_of_getElem? (i := 208) rfl) rfl
theorem jw_1169 : Cond.instanceMethod ({ cls := "CodeCoverModel", name := "keep", desc := "(I)I" } : MethodName) ∈ jm_wG := jm_mem5 (List.mem_of_getElem? (i := 209) rfl) rfl
theorem jw_1170 : Cond.selects "CodeCoverModel" ({ cls := "CodeCoverModel", name := "keep", desc := "(I)I" } : MethodName) ({ cls := "CodeCoverModel", name := "keep", desc := "(I)I" } : MethodName) ∈ jm_wG := jm_mem5 (List.mem_of_getElem? (i := 210) rfl) rfl
theorem jw_1171 : Cond.code ({ cls := "CodeCoverModel", name := "keep", desc := "(I)I" } : MethodName) prog_13_method_51_code 3 (Option.some FieldType.int) ∈ jm_wG := jm_mem5 (List.mem_of_getElem? (i := 211) rfl) rfl
theorem jw_1172 : Cond.constantLong "CodeCoverModel" 269 (63 : Int64) ∈ jm_wG := jm_mem5 (List.mem_of_getElem? (i := 212) rfl) rfl
theorem jw_1173 : Cond.methodLink "CodeCoverLaw" 97 ({ cls := "CodeCoverModel", name := "weigh", desc := "(II)I" } : MethodName) ∈ jm_wG := jm_mem5 (List.mem_of_getElem? (i := 213) rfl) rfl
theorem jw_1174 : Cond.instanceMethod ({ cls := "CodeCoverModel", name := "weigh", desc := "(II)I" } : MethodName) ∈ jm_wG := jm_mem5 (List.mem_of_getElem? (i := 214) rfl) rfl
theorem jw_1175 : Cond.selects "CodeCoverModel" ({ cls := "CodeCoverModel", name := "weigh", desc := "(II)I" } : MethodName) ({ cls := "CodeCoverModel", name := "weigh", desc := "(II)I" } : MethodName) ∈ jm_wG := jm_mem5 (List.mem_of_getElem? (i := 215) rfl) rfl
theorem jw_1176 : Cond.code ({ cls := "CodeCoverModel", name := "weigh", desc := "(II)I" } : MethodName) prog_13_method_52_code 4 (Option.some FieldType.int) ∈ jm_wG := jm_mem5 (List.mem_of_getElem? (i := 216) rfl) rfl
theorem jw_1177 : Cond.constantLong "CodeCoverModel" 271 (100 : Int64) ∈ jm_wG := jm_mem5 (List.mem_of_getElem? (i := 217) rfl) rfl
theorem jw_1178 : Cond.methodLink "CodeCoverLaw" 101 ({ cls := "CodeCoverModel", name := "lives", desc := "(I)I" } : MethodName) ∈ jm_wG := jm_mem5 (List.mem_of_getElem? (i := 218) rfl) rfl
theorem jw_1179 : Cond.instanceMethod ({ cls := "CodeCoverModel", name := "lives", desc := "(I)I" } : MethodName) ∈ jm_wG := jm_mem5 (List.mem_of_getElem? (i := 219) rfl) rfl
theorem jw_1180 : Cond.selects "CodeCoverModel" ({ cls := "CodeCoverModel", name := "lives", desc := "(I)I" } : MethodName) ({ cls := "CodeCoverModel", name := "lives", desc := "(I)I" } : MethodName) ∈ jm_wG := jm_mem5 (List.mem_of_getElem? (i := 220) rfl) rfl
theorem jw_1181 : Cond.code ({ cls := "CodeCoverModel", name := "lives", desc := "(I)I" } : MethodName) prog_13_method_54_code 2 (Option.some FieldType.int) ∈ jm_wG := jm_mem5 (List.mem_of_getElem? (i := 221) rfl) rfl
theorem jw_1182 : Cond.methodLink "CodeCoverModel" 273 ({ cls := "CodeCoverModel", name := "livesTo", desc := "(I)I" } : MethodName) ∈ jm_wG := jm_mem5 (List.mem_of_getElem? (i := 222) rfl) rfl
theorem jw_1184 : Cond.instanceMethod ({ cls := "CodeCoverModel", name := "livesTo", desc := "(I)I" } : MethodName) ∈ jm_wG := jm_mem5 (List.mem_of_getElem? (i := 224) rfl) rfl
theorem jw_1185 : Cond.code ({ cls := "CodeCoverModel", name := "livesTo", desc := "(I)I" } : MethodName) prog_13_method_53_code 4 (Option.some FieldType.int) ∈ jm_wG := jm_mem5 (List.mem_of_getElem? (i := 225) rfl) rfl
theorem jw_1186 : Cond.methodLink "CodeCoverLaw" 105 ({ cls := "CodeCoverModel", name := "place", desc := "(I)I" } : MethodName) ∈ jm_wG := jm_mem5 (List.mem_of_getElem? (i := 226) rfl) rfl
theorem jw_1187 : Cond.instanceMethod ({ cls := "CodeCoverModel", name := "place", desc := "(I)I" } : MethodName) ∈ jm_wG := jm_mem5 (List.mem_of_getElem? (i := 227) rfl) rfl
theorem jw_1188 : Cond.selects "CodeCoverModel" ({ cls := "CodeCoverModel", name := "place", desc := "(I)I" } : MethodName) ({ cls := "CodeCoverModel", name := "place", desc := "(I)I" } : MethodName) ∈ jm_wG := jm_mem5 (List.mem_of_getElem? (i := 228) rfl) rfl
theorem jw_1189 : Cond.code ({ cls := "CodeCoverModel", name := "place", desc := "(I)I" } : MethodName) prog_13_method_56_code 2 (Option.some FieldType.int) ∈ jm_wG := jm_mem5 (List.mem_of_getElem? (i := 229) rfl) rfl
theorem jw_1190 : Cond.methodLink "CodeCoverModel" 276 ({ cls := "CodeCoverModel", name := "placeOf", desc := "(I)I" } : MethodName) ∈ jm_wG := jm_mem5 (List.mem_of_getElem? (i := 230) rfl) rfl
theorem jw_1192 : Cond.instanceMethod ({ cls := "CodeCoverModel", name := "placeOf", desc := "(I)I" } : MethodName) ∈ jm_wG := jm_mem5 (List.mem_of_getElem? (i := 232) rfl) rfl
theorem jw_1193 : Cond.code ({ cls := "CodeCoverModel", name := "placeOf", desc := "(I)I" } : MethodName) prog_13_method_55_code 4 (Option.some FieldType.int) ∈ jm_wG := jm_mem5 (List.mem_of_getElem? (i := 233) rfl) rfl
theorem jw_1194 : Cond.methodLink "CodeCoverLaw" 109 ({ cls := "CodeCoverModel", name := "crowd", desc := "()I" } : MethodName) ∈ jm_wG := jm_mem5 (List.mem_of_getElem? (i := 234) rfl) rfl
theorem jw_1195 : Cond.instanceMethod ({ cls := "CodeCoverModel", name := "crowd", desc := "()I" } : MethodName) ∈ jm_wG := jm_mem5 (List.mem_of_getElem? (i := 235) rfl) rfl
theorem jw_1196 : Cond.selects "CodeCoverModel" ({ cls := "CodeCoverModel", name := "crowd", desc := "()I" } : MethodName) ({ cls := "CodeCoverModel", name := "crowd", desc := "()I" } : MethodName) ∈ jm_wG := jm_mem5 (List.mem_of_getElem? (i := 236) rfl) rfl
theorem jw_1197 : Cond.code ({ cls := "CodeCoverModel", name := "crowd", desc := "()I" } : MethodName) prog_13_method_58_code 4 (Option.some FieldType.int) ∈ jm_wG := jm_mem5 (List.mem_of_getElem? (i := 237) rfl) rfl
theorem jw_1198 : Cond.methodLink "CodeCoverModel" 279 ({ cls := "CodeCoverModel", name := "count", desc := "(I)I" } : MethodName) ∈ jm_wG := jm_mem5 (List.mem_of_getElem? (i := 238) rfl) rfl
theorem jw_1199 : Cond.static ({ cls := "CodeCoverModel", name := "count", desc := "(I)I" } : MethodName) ∈ jm_wG := jm_mem5 (List.mem_of_getElem? (i := 239) rfl) rfl
theorem jw_1200 : Cond.code ({ cls := "CodeCoverModel", name := "count", desc := "(I)I" } : MethodName) prog_13_method_57_code 3 (Option.some FieldType.int) ∈ jm_wG := jm_mem6 (List.mem_of_getElem? (i := 0) rfl) rfl
theorem jw_1201 : Cond.methodLink "CodeCoverLaw" 113 ({ cls := "CodeCoverModel", name := "spilled", desc := "(II)I" } : MethodName) ∈ jm_wG := jm_mem6 (List.mem_of_getElem? (i := 1) rfl) rfl
theorem jw_1202 : Cond.instanceMethod ({ cls := "CodeCoverModel", name := "spilled", desc := "(II)I" } : MethodName) ∈ jm_wG := jm_mem6 (List.mem_of_getElem? (i := 2) rfl) rfl
theorem jw_1203 : Cond.selects "CodeCoverModel" ({ cls := "CodeCoverModel", name := "spilled", desc := "(II)I" } : MethodName) ({ cls := "CodeCoverModel", name := "spilled", desc := "(II)I" } : MethodName) ∈ jm_wG := jm_mem6 (List.mem_of_getElem? (i := 3) rfl) rfl
theorem jw_1204 : Cond.code ({ cls := "CodeCoverModel", name := "spilled", desc := "(II)I" } : MethodName) prog_13_method_61_code 6 (Option.some FieldType.int) ∈ jm_wG := jm_mem6 (List.mem_of_getElem? (i := 4) rfl) rfl
theorem jw_1205 : Cond.constantLong "CodeCoverModel" 282 (12 : Int64) ∈ jm_wG := jm_mem6 (List.mem_of_getElem? (i := 5) rfl) rfl
theorem jw_1206 : Cond.methodLink "CodeCoverModel" 284 ({ cls := "CodeCoverModel", name := "weightOf", desc := "(I)I" } : MethodName) ∈ jm_wG := jm_mem6 (List.mem_of_getElem? (i := 6) rfl) rfl
theorem jw_1208 : Cond.instanceMethod ({ cls := "CodeCoverModel", name := "weightOf", desc := "(I)I" } : MethodName) ∈ jm_wG := jm_mem6 (List.mem_of_getElem? (i := 8) rfl) rfl
theorem jw_1209 : Cond.code ({ cls := "CodeCoverModel", name := "weightOf", desc := "(I)I" } : MethodName) prog_13_method_59_code 4 (Option.some FieldType.int) ∈ jm_wG := jm_mem6 (List.mem_of_getElem? (i := 9) rfl) rfl
theorem jw_1210 : Cond.methodLink "CodeCoverModel" 287 ({ cls := "CodeCoverModel", name := "isEnough", desc := "(II)Z" } : MethodName) ∈ jm_wG := jm_mem6 (List.mem_of_getElem? (i := 10) rfl) rfl
theorem jw_1212 : Cond.instanceMethod ({ cls := "CodeCoverModel", name := "isEnough", desc := "(II)Z" } : MethodName) ∈ jm_wG := jm_mem6 (List.mem_of_getElem? (i := 12) rfl) rfl
theorem jw_1213 : Cond.code ({ cls := "CodeCoverModel", name := "isEnough", desc := "(II)Z" } : MethodName) prog_13_method_60_code 5 (Option.some FieldType.boolean) ∈ jm_wG := jm_mem6 (List.mem_of_getElem? (i := 13) rfl) rfl
theorem jw_1214 : Cond.methodLink "CodeCoverLaw" 117 ({ cls := "CodeCoverModel", name := "run", desc := "(III)I" } : MethodName) ∈ jm_wG := jm_mem6 (List.mem_of_getElem? (i := 14) rfl) rfl
theorem jw_1215 : Cond.instanceMethod ({ cls := "CodeCoverModel", name := "run", desc := "(III)I" } : MethodName) ∈ jm_wG := jm_mem6 (List.mem_of_getElem? (i := 15) rfl) rfl
theorem jw_1216 : Cond.selects "CodeCoverModel" ({ cls := "CodeCoverModel", name := "run", desc := "(III)I" } : MethodName) ({ cls := "CodeCoverModel", name := "run", desc := "(III)I" } : MethodName) ∈ jm_wG := jm_mem6 (List.mem_of_getElem? (i := 16) rfl) rfl
theorem jw_1217 : Cond.code ({ cls := "CodeCoverModel", name := "run", desc := "(III)I" } : MethodName) prog_13_method_66_code 4 (Option.some FieldType.int) ∈ jm_wG := jm_mem6 (List.mem_of_getElem? (i := 17) rfl) rfl
theorem jw_1218 : Cond.methodLink "CodeCoverModel" 299 ({ cls := "CodeCoverModel", name := "isWord", desc := "(I)Z" } : MethodName) ∈ jm_wG := jm_mem6 (List.mem_of_getElem? (i := 18) rfl) rfl
theorem jw_1219 : Cond.static ({ cls := "CodeCoverModel", name := "isWord", desc := "(I)Z" } : MethodName) ∈ jm_wG := jm_mem6 (List.mem_of_getElem? (i := 19) rfl) rfl
theorem jw_1220 : Cond.code ({ cls := "CodeCoverModel", name := "isWord", desc := "(I)Z" } : MethodName) prog_13_method_65_code 1 (Option.some FieldType.boolean) ∈ jm_wG := jm_mem6 (List.mem_of_getElem? (i := 20) rfl) rfl
theorem jw_1221 : Cond.constantLong "CodeCoverModel" 297 (15 : Int64) ∈ jm_wG := jm_mem6 (List.mem_of_getElem? (i := 21) rfl) rfl
theorem jw_1222 : Cond.methodLink "CodeCoverModel" 302 ({ cls := "CodeCoverModel", name := "runRow", desc := "(II)V" } : MethodName) ∈ jm_wG := jm_mem6 (List.mem_of_getElem? (i := 22) rfl) rfl
theorem jw_1224 : Cond.instanceMethod ({ cls := "CodeCoverModel", name := "runRow", desc := "(II)V" } : MethodName) ∈ jm_wG := jm_mem6 (List.mem_of_getElem? (i := 24) rfl) rfl
theorem jw_1225 : Cond.code ({ cls := "CodeCoverModel", name := "runRow", desc := "(II)V" } : MethodName) prog_13_method_64_code 4 (Option.none : Option FieldType) ∈ jm_wG := jm_mem6 (List.mem_of_getElem? (i := 25) rfl) rfl
theorem jw_1226 : Cond.methodLink "CodeCoverModel" 290 ({ cls := "CodeCoverModel", name := "begin", desc := "(II)V" } : MethodName) ∈ jm_wG := jm_mem6 (List.mem_of_getElem? (i := 26) rfl) rfl
theorem jw_1228 : Cond.instanceMethod ({ cls := "CodeCoverModel", name := "begin", desc := "(II)V" } : MethodName) ∈ jm_wG := jm_mem6 (List.mem_of_getElem? (i := 28) rfl) rfl
theorem jw_1229 : Cond.code ({ cls := "CodeCoverModel", name := "begin", desc := "(II)V" } : MethodName) prog_13_method_63_code 4 (Option.none : Option FieldType) ∈ jm_wG := jm_mem6 (List.mem_of_getElem? (i := 29) rfl) rfl
theorem jw_1230 : Cond.methodLink "CodeCoverModel" 293 ({ cls := "CodeCoverModel", name := "worked", desc := "(III)I" } : MethodName) ∈ jm_wG := jm_mem6 (List.mem_of_getElem? (i := 30) rfl) rfl
theorem jw_1231 : Cond.static ({ cls := "CodeCoverModel", name := "worked", desc := "(III)I" } : MethodName) ∈ jm_wG := jm_mem6 (List.mem_of_getElem? (i := 31) rfl) rfl
theorem jw_1232 : Cond.code ({ cls := "CodeCoverModel", name := "worked", desc := "(III)I" } : MethodName) prog_13_method_62_code 3 (Option.some FieldType.int) ∈ jm_wG := jm_mem6 (List.mem_of_getElem? (i := 32) rfl) rfl
theorem jw_1233 : Cond.methodLink "CodeCoverLaw" 121 ({ cls := "CodeCoverModel", name := "shortest", desc := "(II)I" } : MethodName) ∈ jm_wG := jm_mem6 (List.mem_of_getElem? (i := 33) rfl) rfl
theorem jw_1234 : Cond.instanceMethod ({ cls := "CodeCoverModel", name := "shortest", desc := "(II)I" } : MethodName) ∈ jm_wG := jm_mem6 (List.mem_of_getElem? (i := 34) rfl) rfl
theorem jw_1235 : Cond.selects "CodeCoverModel" ({ cls := "CodeCoverModel", name := "shortest", desc := "(II)I" } : MethodName) ({ cls := "CodeCoverModel", name := "shortest", desc := "(II)I" } : MethodName) ∈ jm_wG := jm_mem6 (List.mem_of_getElem? (i := 35) rfl) rfl
theorem jw_1236 : Cond.code ({ cls := "CodeCoverModel", name := "shortest", desc := "(II)I" } : MethodName) prog_13_method_70_code 5 (Option.some FieldType.int) ∈ jm_wG := jm_mem6 (List.mem_of_getElem? (i := 36) rfl) rfl
theorem jw_1237 : Cond.constantLong "CodeCoverModel" 309 (3 : Int64) ∈ jm_wG := jm_mem6 (List.mem_of_getElem? (i := 37) rfl) rfl
theorem jw_1238 : Cond.methodLink "CodeCoverModel" 311 ({ cls := "CodeCoverModel", name := "layShorts", desc := "()V" } : MethodName) ∈ jm_wG := jm_mem6 (List.mem_of_getElem? (i := 38) rfl) rfl
theorem jw_1240 : Cond.instanceMethod ({ cls := "CodeCoverModel", name := "layShorts", desc := "()V" } : MethodName) ∈ jm_wG := jm_mem6 (List.mem_of_getElem? (i := 40) rfl) rfl
theorem jw_1241 : Cond.code ({ cls := "CodeCoverModel", name := "layShorts", desc := "()V" } : MethodName) prog_13_method_67_code 6 (Option.none : Option FieldType) ∈ jm_wG := jm_mem6 (List.mem_of_getElem? (i := 41) rfl) rfl
theorem jw_1242 : Cond.methodLink "CodeCoverModel" 314 ({ cls := "CodeCoverModel", name := "findRow", desc := "(I)Z" } : MethodName) ∈ jm_wG := jm_mem6 (List.mem_of_getElem? (i := 42) rfl) rfl
theorem jw_1244 : Cond.instanceMethod ({ cls := "CodeCoverModel", name := "findRow", desc := "(I)Z" } : MethodName) ∈ jm_wG := jm_mem6 (List.mem_of_getElem? (i := 44) rfl) rfl
theorem jw_1245 : Cond.code ({ cls := "CodeCoverModel", name := "findRow", desc := "(I)Z" } : MethodName) prog_13_method_69_code 6 (Option.some FieldType.boolean) ∈ jm_wG := jm_mem6 (List.mem_of_getElem? (i := 45) rfl) rfl
theorem jw_1246 : Cond.constant "CodeCoverModel" 305 (3581577 : Int32) ∈ jm_wG := jm_mem6 (List.mem_of_getElem? (i := 46) rfl) rfl
theorem jw_1247 : Cond.methodLink "CodeCoverModel" 306 ({ cls := "CodeCoverModel", name := "isAlike", desc := "(I)Z" } : MethodName) ∈ jm_wG := jm_mem6 (List.mem_of_getElem? (i := 47) rfl) rfl
theorem jw_1249 : Cond.instanceMethod ({ cls := "CodeCoverModel", name := "isAlike", desc := "(I)Z" } : MethodName) ∈ jm_wG := jm_mem6 (List.mem_of_getElem? (i := 49) rfl) rfl
theorem jw_1250 : Cond.code ({ cls := "CodeCoverModel", name := "isAlike", desc := "(I)Z" } : MethodName) prog_13_method_68_code 5 (Option.some FieldType.boolean) ∈ jm_wG := jm_mem6 (List.mem_of_getElem? (i := 50) rfl) rfl
theorem jw_1251 : Cond.methodLink "CodeCoverLaw" 125 ({ cls := "CodeCoverModel", name := "thin", desc := "()I" } : MethodName) ∈ jm_wG := jm_mem6 (List.mem_of_getElem? (i := 51) rfl) rfl
theorem jw_1252 : Cond.instanceMethod ({ cls := "CodeCoverModel", name := "thin", desc := "()I" } : MethodName) ∈ jm_wG := jm_mem6 (List.mem_of_getElem? (i := 52) rfl) rfl
theorem jw_1253 : Cond.selects "CodeCoverModel" ({ cls := "CodeCoverModel", name := "thin", desc := "()I" } : MethodName) ({ cls := "CodeCoverModel", name := "thin", desc := "()I" } : MethodName) ∈ jm_wG := jm_mem6 (List.mem_of_getElem? (i := 53) rfl) rfl
theorem jw_1254 : Cond.code ({ cls := "CodeCoverModel", name := "thin", desc := "()I" } : MethodName) prog_13_method_71_code 4 (Option.some FieldType.int) ∈ jm_wG := jm_mem6 (List.mem_of_getElem? (i := 54) rfl) rfl
theorem jw_1255 : Cond.methodLink "CodeCoverLaw" 129 ({ cls := "CodeCoverModel", name := "told", desc := "(I)I" } : MethodName) ∈ jm_wG := jm_mem6 (List.mem_of_getElem? (i := 55) rfl) rfl
theorem jw_1256 : Cond.instanceMethod ({ cls := "CodeCoverModel", name := "told", desc := "(I)I" } : MethodName) ∈ jm_wG := jm_mem6 (List.mem_of_getElem? (i := 56) rfl) rfl
theorem jw_1257 : Cond.selects "CodeCoverModel" ({ cls := "CodeCoverModel", name := "told", desc := "(I)I" } : MethodName) ({ cls := "CodeCoverModel", name := "told", desc := "(I)I" } : MethodName) ∈ jm_wG := jm_mem6 (List.mem_of_getElem? (i := 57) rfl) rfl
theorem jw_1258 : Cond.code ({ cls := "CodeCoverModel", name := "told", desc := "(I)I" } : MethodName) prog_13_method_72_code 2 (Option.some FieldType.int) ∈ jm_wG := jm_mem6 (List.mem_of_getElem? (i := 58) rfl) rfl
