/-! the methods: name, code, locals, answer, what is made; what the tables say of each -/
def jm_m_Top_init : jm_M := (⟨"CodeCover", "<init>", "()V"⟩, prog_1_method_1_code, 1, none, 77, 1235)
theorem jk_Top_init : jm_kI jm_m_Top_init 0 := ⟨jw_19, rfl, jw_1, jw_20, rfl, ⟨by decide, by decide, by decide⟩, by decide⟩
def jm_m_Top_say : jm_M := (⟨"CodeCover", "say", "(I)I"⟩, prog_1_method_2_code, 2, some .int, 0, 0)
theorem jk_Top_say : jm_kV jm_m_Top_say 1 := ⟨jw_394, jw_395, jw_1, jw_396, ⟨by decide, by decide, by decide⟩, by decide⟩
def jm_m_Top_wipe : jm_M := (⟨"CodeCover", "wipe", "()I"⟩, prog_1_method_3_code, 2, some .int, 0, 0)
theorem jk_Top_wipe : jm_kV jm_m_Top_wipe 0 := ⟨jw_402, jw_403, jw_1, jw_404, ⟨by decide, by decide, by decide⟩, by decide⟩
def jm_m_Top_fault : jm_M := (⟨"CodeCover", "fault", "()I"⟩, prog_1_method_4_code, 1, some .int, 0, 0)
theorem jk_Top_fault : jm_kV jm_m_Top_fault 0 := ⟨jw_406, jw_407, jw_1, jw_408, ⟨by decide, by decide, by decide⟩, by decide⟩
def jm_m_Top_read : jm_M := (⟨"CodeCover", "read", "()I"⟩, prog_1_method_5_code, 1, some .int, 0, 0)
theorem jk_Top_read : jm_kV jm_m_Top_read 0 := ⟨jw_440, jw_441, jw_1, jw_442, ⟨by decide, by decide, by decide⟩, by decide⟩
def jm_m_Top_node : jm_M := (⟨"CodeCover", "node", "(II)I"⟩, prog_1_method_6_code, 3, some .int, 0, 0)
theorem jk_Top_node : jm_kV jm_m_Top_node 2 := ⟨jw_467, jw_468, jw_1, jw_469, ⟨by decide, by decide, by decide⟩, by decide⟩
def jm_m_Top_pattern : jm_M := (⟨"CodeCover", "pattern", "(II)I"⟩, prog_1_method_7_code, 3, some .int, 0, 0)
theorem jk_Top_pattern : jm_kV jm_m_Top_pattern 2 := ⟨jw_476, jw_477, jw_1, jw_478, ⟨by decide, by decide, by decide⟩, by decide⟩
def jm_m_Top_price : jm_M := (⟨"CodeCover", "price", "(II)I"⟩, prog_1_method_8_code, 4, some .int, 0, 0)
theorem jk_Top_price : jm_kV jm_m_Top_price 2 := ⟨jw_500, jw_501, jw_1, jw_502, ⟨by decide, by decide, by decide⟩, by decide⟩
def jm_m_Top_clear : jm_M := (⟨"CodeCover", "clear", "()I"⟩, prog_1_method_9_code, 2, some .int, 0, 0)
theorem jk_Top_clear : jm_kV jm_m_Top_clear 0 := ⟨jw_504, jw_505, jw_1, jw_506, ⟨by decide, by decide, by decide⟩, by decide⟩
def jm_m_Top_cover : jm_M := (⟨"CodeCover", "cover", "(III)I"⟩, prog_1_method_10_code, 5, some .int, 0, 0)
theorem jk_Top_cover : jm_kV jm_m_Top_cover 3 := ⟨jw_508, jw_509, jw_1, jw_510, ⟨by decide, by decide, by decide⟩, by decide⟩
def jm_m_Top_code : jm_M := (⟨"CodeCover", "code", "(II)I"⟩, prog_1_method_11_code, 3, some .int, 0, 0)
theorem jk_Top_code : jm_kV jm_m_Top_code 2 := ⟨jw_559, jw_560, jw_1, jw_561, ⟨by decide, by decide, by decide⟩, by decide⟩
def jm_m_Top_stores : jm_M := (⟨"CodeCover", "stores", "(I)I"⟩, prog_1_method_12_code, 2, some .int, 0, 0)
theorem jk_Top_stores : jm_kV jm_m_Top_stores 1 := ⟨jw_563, jw_564, jw_1, jw_565, ⟨by decide, by decide, by decide⟩, by decide⟩
def jm_m_Top_add : jm_M := (⟨"CodeCover", "add", "(IIIII)I"⟩, prog_1_method_13_code, 6, some .int, 0, 0)
theorem jk_Top_add : jm_kV jm_m_Top_add 5 := ⟨jw_571, jw_572, jw_1, jw_573, ⟨by decide, by decide, by decide⟩, by decide⟩
def jm_m_Top_drop : jm_M := (⟨"CodeCover", "drop", "()I"⟩, prog_1_method_14_code, 2, some .int, 0, 0)
theorem jk_Top_drop : jm_kV jm_m_Top_drop 0 := ⟨jw_586, jw_587, jw_1, jw_588, ⟨by decide, by decide, by decide⟩, by decide⟩
def jm_m_Top_about : jm_M := (⟨"CodeCover", "about", "(II)I"⟩, prog_1_method_15_code, 3, some .int, 0, 0)
theorem jk_Top_about : jm_kV jm_m_Top_about 2 := ⟨jw_594, jw_595, jw_1, jw_596, ⟨by decide, by decide, by decide⟩, by decide⟩
def jm_m_Top_end : jm_M := (⟨"CodeCover", "end", "()I"⟩, prog_1_method_16_code, 1, some .int, 0, 0)
theorem jk_Top_end : jm_kV jm_m_Top_end 0 := ⟨jw_628, jw_629, jw_1, jw_630, ⟨by decide, by decide, by decide⟩, by decide⟩
def jm_m_Top_ahead : jm_M := (⟨"CodeCover", "ahead", "(II)I"⟩, prog_1_method_17_code, 3, some .int, 0, 0)
theorem jk_Top_ahead : jm_kV jm_m_Top_ahead 2 := ⟨jw_636, jw_637, jw_1, jw_638, ⟨by decide, by decide, by decide⟩, by decide⟩
def jm_m_Top_best : jm_M := (⟨"CodeCover", "best", "(I)I"⟩, prog_1_method_18_code, 2, some .int, 0, 0)
theorem jk_Top_best : jm_kV jm_m_Top_best 1 := ⟨jw_648, jw_649, jw_1, jw_650, ⟨by decide, by decide, by decide⟩, by decide⟩
def jm_m_Top_sort : jm_M := (⟨"CodeCover", "sort", "()I"⟩, prog_1_method_19_code, 1, some .int, 0, 0)
theorem jk_Top_sort : jm_kV jm_m_Top_sort 0 := ⟨jw_688, jw_689, jw_1, jw_690, ⟨by decide, by decide, by decide⟩, by decide⟩
def jm_m_Top_keep : jm_M := (⟨"CodeCover", "keep", "(I)I"⟩, prog_1_method_20_code, 3, some .int, 0, 0)
theorem jk_Top_keep : jm_kV jm_m_Top_keep 1 := ⟨jw_697, jw_698, jw_1, jw_699, ⟨by decide, by decide, by decide⟩, by decide⟩
def jm_m_Top_weigh : jm_M := (⟨"CodeCover", "weigh", "(II)I"⟩, prog_1_method_21_code, 4, some .int, 0, 0)
theorem jk_Top_weigh : jm_kV jm_m_Top_weigh 2 := ⟨jw_701, jw_702, jw_1, jw_703, ⟨by decide, by decide, by decide⟩, by decide⟩
def jm_m_Top_lives : jm_M := (⟨"CodeCover", "lives", "(I)I"⟩, prog_1_method_22_code, 2, some .int, 0, 0)
theorem jk_Top_lives : jm_kV jm_m_Top_lives 1 := ⟨jw_705, jw_706, jw_1, jw_707, ⟨by decide, by decide, by decide⟩, by decide⟩
def jm_m_Top_place : jm_M := (⟨"CodeCover", "place", "(I)I"⟩, prog_1_method_23_code, 2, some .int, 0, 0)
theorem jk_Top_place : jm_kV jm_m_Top_place 1 := ⟨jw_714, jw_715, jw_1, jw_716, ⟨by decide, by decide, by decide⟩, by decide⟩
def jm_m_Top_crowd : jm_M := (⟨"CodeCover", "crowd", "()I"⟩, prog_1_method_24_code, 1, some .int, 0, 0)
theorem jk_Top_crowd : jm_kV jm_m_Top_crowd 0 := ⟨jw_723, jw_724, jw_1, jw_725, ⟨by decide, by decide, by decide⟩, by decide⟩
def jm_m_Top_spilled : jm_M := (⟨"CodeCover", "spilled", "(II)I"⟩, prog_1_method_25_code, 3, some .int, 0, 0)
theorem jk_Top_spilled : jm_kV jm_m_Top_spilled 2 := ⟨jw_739, jw_740, jw_1, jw_741, ⟨by decide, by decide, by decide⟩, by decide⟩
def jm_m_Top_run : jm_M := (⟨"CodeCover", "run", "(III)I"⟩, prog_1_method_26_code, 4, some .int, 0, 0)
theorem jk_Top_run : jm_kV jm_m_Top_run 3 := ⟨jw_760, jw_761, jw_1, jw_762, ⟨by decide, by decide, by decide⟩, by decide⟩
def jm_m_Top_shortest : jm_M := (⟨"CodeCover", "shortest", "(II)I"⟩, prog_1_method_27_code, 3, some .int, 0, 0)
theorem jk_Top_shortest : jm_kV jm_m_Top_shortest 2 := ⟨jw_775, jw_776, jw_1, jw_777, ⟨by decide, by decide, by decide⟩, by decide⟩
def jm_m_Top_thin : jm_M := (⟨"CodeCover", "thin", "()I"⟩, prog_1_method_28_code, 4, some .int, 0, 0)
theorem jk_Top_thin : jm_kV jm_m_Top_thin 0 := ⟨jw_815, jw_816, jw_1, jw_817, ⟨by decide, by decide, by decide⟩, by decide⟩
def jm_m_Top_told : jm_M := (⟨"CodeCover", "told", "(I)I"⟩, prog_1_method_29_code, 2, some .int, 0, 0)
theorem jk_Top_told : jm_kV jm_m_Top_told 1 := ⟨jw_827, jw_828, jw_1, jw_829, ⟨by decide, by decide, by decide⟩, by decide⟩
def jm_m_Top_isHead : jm_M := (⟨"CodeCover", "isHead", "(I)Z"⟩, prog_1_method_30_code, 1, some .boolean, 0, 0)
theorem jk_Top_isHead : jm_kS jm_m_Top_isHead 1 := ⟨jw_480, jw_1, jw_481, ⟨by decide, by decide, by decide⟩, by decide⟩
def jm_m_Top_isPrice : jm_M := (⟨"CodeCover", "isPrice", "(I)Z"⟩, prog_1_method_31_code, 1, some .boolean, 0, 0)
theorem jk_Top_isPrice : jm_kS jm_m_Top_isPrice 1 := ⟨jw_483, jw_1, jw_484, ⟨by decide, by decide, by decide⟩, by decide⟩
def jm_m_Top_isBit : jm_M := (⟨"CodeCover", "isBit", "(I)Z"⟩, prog_1_method_32_code, 1, some .boolean, 0, 0)
theorem jk_Top_isBit : jm_kS jm_m_Top_isBit 1 := ⟨jw_512, jw_1, jw_513, ⟨by decide, by decide, by decide⟩, by decide⟩
def jm_m_Pad_init : jm_M := (⟨"CodeCover$Pad", "<init>", "()V"⟩, prog_7_method_1_code, 1, none, 2, 73)
theorem jk_Pad_init : jm_kI jm_m_Pad_init 0 := ⟨jw_27, rfl, jw_2, jw_28, rfl, ⟨by decide, by decide, by decide⟩, by decide⟩
def jm_m_Pad_lay : jm_M := (⟨"CodeCover$Pad", "lay", "(I)Z"⟩, prog_7_method_2_code, 2, some .boolean, 0, 0)
theorem jk_Pad_lay : jm_kV jm_m_Pad_lay 1 := ⟨jw_398, jw_399, jw_2, jw_400, ⟨by decide, by decide, by decide⟩, by decide⟩
def jm_m_Pad_faultAsTree : jm_M := (⟨"CodeCover$Pad", "faultAsTree", "()I"⟩, prog_7_method_3_code, 1, some .int, 0, 0)
theorem jk_Pad_faultAsTree : jm_kV jm_m_Pad_faultAsTree 0 := ⟨jw_410, jw_411, jw_2, jw_412, ⟨by decide, by decide, by decide⟩, by decide⟩
def jm_m_Pad_faultAsPattern : jm_M := (⟨"CodeCover$Pad", "faultAsPattern", "()I"⟩, prog_7_method_4_code, 1, some .int, 0, 0)
theorem jk_Pad_faultAsPattern : jm_kV jm_m_Pad_faultAsPattern 0 := ⟨jw_490, jw_491, jw_2, jw_492, ⟨by decide, by decide, by decide⟩, by decide⟩
def jm_m_Pad_firstFault : jm_M := (⟨"CodeCover$Pad", "firstFault", "(Z)I"⟩, prog_7_method_5_code, 7, some .int, 0, 0)
theorem jk_Pad_firstFault : jm_kV jm_m_Pad_firstFault 1 := ⟨jw_415, jm_memP (List.mem_of_getElem? (i := 1) rfl) rfl, jw_2, jw_416, ⟨by decide, by decide, by decide⟩, by decide⟩
def jm_m_Pad_deepestOpen : jm_M := (⟨"CodeCover$Pad", "deepestOpen", "(I)I"⟩, prog_7_method_6_code, 3, some .int, 0, 0)
theorem jk_Pad_deepestOpen : jm_kV jm_m_Pad_deepestOpen 1 := ⟨jw_437, jm_memP (List.mem_of_getElem? (i := 2) rfl) rfl, jw_2, jw_438, ⟨by decide, by decide, by decide⟩, by decide⟩
def jm_m_Pad_partsOf : jm_M := (⟨"CodeCover$Pad", "partsOf", "(I)I"⟩, prog_7_method_7_code, 1, some .int, 0, 0)
theorem jk_Pad_partsOf : jm_kS jm_m_Pad_partsOf 1 := ⟨jw_418, jw_2, jw_419, ⟨by decide, by decide, by decide⟩, by decide⟩
def jm_m_Pad_isNumber : jm_M := (⟨"CodeCover$Pad", "isNumber", "(I)Z"⟩, prog_7_method_8_code, 1, some .boolean, 0, 0)
theorem jk_Pad_isNumber : jm_kS jm_m_Pad_isNumber 1 := ⟨jw_424, jw_2, jw_425, ⟨by decide, by decide, by decide⟩, by decide⟩
def jm_m_Pad_isVariable : jm_M := (⟨"CodeCover$Pad", "isVariable", "(I)Z"⟩, prog_7_method_9_code, 1, some .boolean, 0, 0)
theorem jk_Pad_isVariable : jm_kS jm_m_Pad_isVariable 1 := ⟨jw_433, jw_2, jw_434, ⟨by decide, by decide, by decide⟩, by decide⟩
def jm_m_Pad_isTreeLeaf : jm_M := (⟨"CodeCover$Pad", "isTreeLeaf", "(I)Z"⟩, prog_7_method_10_code, 1, some .boolean, 0, 0)
theorem jk_Pad_isTreeLeaf : jm_kS jm_m_Pad_isTreeLeaf 1 := ⟨jw_430, jw_2, jw_431, ⟨by decide, by decide, by decide⟩, by decide⟩
def jm_m_Pad_isPatternLeaf : jm_M := (⟨"CodeCover$Pad", "isPatternLeaf", "(I)Z"⟩, prog_7_method_11_code, 1, some .boolean, 0, 0)
theorem jk_Pad_isPatternLeaf : jm_kS jm_m_Pad_isPatternLeaf 1 := ⟨jw_421, jw_2, jw_422, ⟨by decide, by decide, by decide⟩, by decide⟩
def jm_m_Tree_init : jm_M := (⟨"CodeCover$Tree", "<init>", "()V"⟩, prog_11_method_1_code, 1, none, 4, 120)
theorem jk_Tree_init : jm_kI jm_m_Tree_init 0 := ⟨jw_49, rfl, jw_3, jw_50, rfl, ⟨by decide, by decide, by decide⟩, by decide⟩
def jm_m_Tree_has : jm_M := (⟨"CodeCover$Tree", "has", "(I)Z"⟩, prog_11_method_2_code, 2, some .boolean, 0, 0)
theorem jk_Tree_has : jm_kV jm_m_Tree_has 1 := ⟨jw_471, jw_472, jw_3, jw_473, ⟨by decide, by decide, by decide⟩, by decide⟩
def jm_m_Tree_take : jm_M := (⟨"CodeCover$Tree", "take", "(LCodeCover$Pad;)V"⟩, prog_11_method_3_code, 3, none, 0, 0)
theorem jk_Tree_take : jm_kV jm_m_Tree_take 1 := ⟨jw_444, jw_445, jw_3, jw_446, ⟨by decide, by decide, by decide⟩, by decide⟩
def jm_m_Tree_measure : jm_M := (⟨"CodeCover$Tree", "measure", "(I)V"⟩, prog_11_method_4_code, 4, none, 0, 0)
theorem jk_Tree_measure : jm_kV jm_m_Tree_measure 1 := ⟨jw_452, jm_memP (List.mem_of_getElem? (i := 3) rfl) rfl, jw_3, jw_453, ⟨by decide, by decide, by decide⟩, by decide⟩
def jm_m_Tree_firstPart : jm_M := (⟨"CodeCover$Tree", "firstPart", "(I)I"⟩, prog_11_method_5_code, 2, some .int, 0, 0)
theorem jk_Tree_firstPart : jm_kV jm_m_Tree_firstPart 1 := ⟨jw_456, jm_memP (List.mem_of_getElem? (i := 4) rfl) rfl, jw_3, jw_457, ⟨by decide, by decide, by decide⟩, by decide⟩
def jm_m_Tree_secondPart : jm_M := (⟨"CodeCover$Tree", "secondPart", "(I)I"⟩, prog_11_method_6_code, 3, some .int, 0, 0)
theorem jk_Tree_secondPart : jm_kV jm_m_Tree_secondPart 1 := ⟨jw_461, jm_memP (List.mem_of_getElem? (i := 5) rfl) rfl, jw_3, jw_462, ⟨by decide, by decide, by decide⟩, by decide⟩
def jm_m_Tree_storesWith : jm_M := (⟨"CodeCover$Tree", "storesWith", "(I)I"⟩, prog_11_method_7_code, 6, some .int, 0, 0)
theorem jk_Tree_storesWith : jm_kV jm_m_Tree_storesWith 1 := ⟨jw_567, jw_568, jw_3, jw_569, ⟨by decide, by decide, by decide⟩, by decide⟩
def jm_m_Patterns_init : jm_M := (⟨"CodeCover$Patterns", "<init>", "()V"⟩, prog_8_method_1_code, 1, none, 20, 256)
theorem jk_Patterns_init : jm_kI jm_m_Patterns_init 0 := ⟨jw_79, rfl, jw_4, jw_80, rfl, ⟨by decide, by decide, by decide⟩, by decide⟩
def jm_m_Patterns_allows : jm_M := (⟨"CodeCover$Patterns", "allows", "(LCodeCover$Pad;I)Z"⟩, prog_8_method_2_code, 3, some .boolean, 0, 0)
theorem jk_Patterns_allows : jm_kV jm_m_Patterns_allows 2 := ⟨jw_486, jw_487, jw_4, jw_488, ⟨by decide, by decide, by decide⟩, by decide⟩
def jm_m_Patterns_take : jm_M := (⟨"CodeCover$Patterns", "take", "(LCodeCover$Pad;II)V"⟩, prog_8_method_3_code, 5, none, 0, 0)
theorem jk_Patterns_take : jm_kV jm_m_Patterns_take 3 := ⟨jw_495, jw_496, jw_4, jw_497, ⟨by decide, by decide, by decide⟩, by decide⟩
def jm_m_Patterns_chainFrom : jm_M := (⟨"CodeCover$Patterns", "chainFrom", "(I)I"⟩, prog_8_method_4_code, 2, some .int, 0, 0)
theorem jk_Patterns_chainFrom : jm_kV jm_m_Patterns_chainFrom 1 := ⟨jw_527, jw_528, jw_4, jw_529, ⟨by decide, by decide, by decide⟩, by decide⟩
def jm_m_Patterns_headOf : jm_M := (⟨"CodeCover$Patterns", "headOf", "(I)I"⟩, prog_8_method_5_code, 1, some .int, 0, 0)
theorem jk_Patterns_headOf : jm_kS jm_m_Patterns_headOf 1 := ⟨jw_427, jw_4, jw_428, ⟨by decide, by decide, by decide⟩, by decide⟩
def jm_m_Patterns_fits : jm_M := (⟨"CodeCover$Patterns", "fits", "(II)Z"⟩, prog_8_method_6_code, 2, some .boolean, 0, 0)
theorem jk_Patterns_fits : jm_kS jm_m_Patterns_fits 2 := ⟨jw_537, jw_4, jw_538, ⟨by decide, by decide, by decide⟩, by decide⟩
def jm_m_Covering_init : jm_M := (⟨"CodeCover$Covering", "<init>", "(LCodeCover$Tree;LCodeCover$Patterns;)V"⟩, prog_2_method_1_code, 3, none, 6, 360)
theorem jk_Covering_init : jm_kI jm_m_Covering_init 2 := ⟨jw_110, rfl, jw_5, jw_111, rfl, ⟨by decide, by decide, by decide⟩, by decide⟩
def jm_m_Covering_at : jm_M := (⟨"CodeCover$Covering", "at", "(II)I"⟩, prog_2_method_2_code, 2, some .int, 0, 0)
theorem jk_Covering_at : jm_kS jm_m_Covering_at 2 := ⟨jw_523, jw_5, jw_524, ⟨by decide, by decide, by decide⟩, by decide⟩
def jm_m_Covering_refresh : jm_M := (⟨"CodeCover$Covering", "refresh", "()V"⟩, prog_2_method_3_code, 2, none, 0, 0)
theorem jk_Covering_refresh : jm_kV jm_m_Covering_refresh 0 := ⟨jw_515, jw_516, jw_5, jw_517, ⟨by decide, by decide, by decide⟩, by decide⟩
def jm_m_Covering_coverPlainly : jm_M := (⟨"CodeCover$Covering", "coverPlainly", "(I)V"⟩, prog_2_method_4_code, 5, none, 0, 0)
theorem jk_Covering_coverPlainly : jm_kV jm_m_Covering_coverPlainly 1 := ⟨jw_520, jm_memP (List.mem_of_getElem? (i := 6) rfl) rfl, jw_5, jw_521, ⟨by decide, by decide, by decide⟩, by decide⟩
def jm_m_Covering_coverWithChains : jm_M := (⟨"CodeCover$Covering", "coverWithChains", "(I)V"⟩, prog_2_method_5_code, 6, none, 0, 0)
theorem jk_Covering_coverWithChains : jm_kV jm_m_Covering_coverWithChains 1 := ⟨jw_543, jm_memP (List.mem_of_getElem? (i := 8) rfl) rfl, jw_5, jw_544, ⟨by decide, by decide, by decide⟩, by decide⟩
def jm_m_Covering_costOf : jm_M := (⟨"CodeCover$Covering", "costOf", "(II)I"⟩, prog_2_method_6_code, 8, some .int, 0, 0)
theorem jk_Covering_costOf : jm_kV jm_m_Covering_costOf 2 := ⟨jw_532, jm_memP (List.mem_of_getElem? (i := 7) rfl) rfl, jw_5, jw_533, ⟨by decide, by decide, by decide⟩, by decide⟩
def jm_m_Covering_tell : jm_M := (⟨"CodeCover$Covering", "tell", "(III)V"⟩, prog_2_method_7_code, 6, none, 0, 0)
theorem jk_Covering_tell : jm_kV jm_m_Covering_tell 3 := ⟨jw_547, jm_memP (List.mem_of_getElem? (i := 9) rfl) rfl, jw_5, jw_548, ⟨by decide, by decide, by decide⟩, by decide⟩
def jm_m_Covering_tellPlain : jm_M := (⟨"CodeCover$Covering", "tellPlain", "(III)V"⟩, prog_2_method_8_code, 8, none, 0, 0)
theorem jk_Covering_tellPlain : jm_kV jm_m_Covering_tellPlain 3 := ⟨jw_551, jm_memP (List.mem_of_getElem? (i := 10) rfl) rfl, jw_5, jw_552, ⟨by decide, by decide, by decide⟩, by decide⟩
def jm_m_Covering_tellOne : jm_M := (⟨"CodeCover$Covering", "tellOne", "(II)V"⟩, prog_2_method_9_code, 3, none, 0, 0)
theorem jk_Covering_tellOne : jm_kV jm_m_Covering_tellOne 2 := ⟨jw_555, jm_memP (List.mem_of_getElem? (i := 11) rfl) rfl, jw_5, jw_556, ⟨by decide, by decide, by decide⟩, by decide⟩
def jm_m_Row_init : jm_M := (⟨"CodeCover$Row", "<init>", "()V"⟩, prog_9_method_1_code, 1, none, 9, 102)
theorem jk_Row_init : jm_kI jm_m_Row_init 0 := ⟨jw_153, rfl, jw_6, jw_154, rfl, ⟨by decide, by decide, by decide⟩, by decide⟩
def jm_m_Row_isOp : jm_M := (⟨"CodeCover$Row", "isOp", "(I)Z"⟩, prog_9_method_2_code, 1, some .boolean, 0, 0)
theorem jk_Row_isOp : jm_kS jm_m_Row_isOp 1 := ⟨jw_575, jw_6, jw_576, ⟨by decide, by decide, by decide⟩, by decide⟩
def jm_m_Row_isRegister : jm_M := (⟨"CodeCover$Row", "isRegister", "(I)Z"⟩, prog_9_method_3_code, 1, some .boolean, 0, 0)
theorem jk_Row_isRegister : jm_kS jm_m_Row_isRegister 1 := ⟨jw_578, jw_6, jw_579, ⟨by decide, by decide, by decide⟩, by decide⟩
def jm_m_Row_hasSecond : jm_M := (⟨"CodeCover$Row", "hasSecond", "(I)Z"⟩, prog_9_method_4_code, 1, some .boolean, 0, 0)
theorem jk_Row_hasSecond : jm_kS jm_m_Row_hasSecond 1 := ⟨jw_289, jw_6, jw_290, ⟨by decide, by decide, by decide⟩, by decide⟩
def jm_m_Row_has : jm_M := (⟨"CodeCover$Row", "has", "(I)Z"⟩, prog_9_method_5_code, 2, some .boolean, 0, 0)
theorem jk_Row_has : jm_kV jm_m_Row_has 1 := ⟨jw_598, jw_599, jw_6, jw_600, ⟨by decide, by decide, by decide⟩, by decide⟩
def jm_m_Row_append : jm_M := (⟨"CodeCover$Row", "append", "(IIIII)Z"⟩, prog_9_method_6_code, 6, some .boolean, 0, 0)
theorem jk_Row_append : jm_kV jm_m_Row_append 5 := ⟨jw_582, jw_583, jw_6, jw_584, ⟨by decide, by decide, by decide⟩, by decide⟩
def jm_m_Row_empty : jm_M := (⟨"CodeCover$Row", "empty", "()V"⟩, prog_9_method_7_code, 1, none, 0, 0)
theorem jk_Row_empty : jm_kV jm_m_Row_empty 0 := ⟨jw_590, jw_591, jw_6, jw_592, ⟨by decide, by decide, by decide⟩, by decide⟩
def jm_m_Row_remove : jm_M := (⟨"CodeCover$Row", "remove", "(I)V"⟩, prog_9_method_8_code, 4, none, 0, 0)
theorem jk_Row_remove : jm_kV jm_m_Row_remove 1 := ⟨jw_823, jw_824, jw_6, jw_825, ⟨by decide, by decide, by decide⟩, by decide⟩
def jm_m_Row_rearrange : jm_M := (⟨"CodeCover$Row", "rearrange", "([I)V"⟩, prog_9_method_9_code, 4, none, 0, 0)
theorem jk_Row_rearrange : jm_kV jm_m_Row_rearrange 1 := ⟨jw_692, jw_693, jw_6, jw_694, ⟨by decide, by decide, by decide⟩, by decide⟩
def jm_m_Row_uses : jm_M := (⟨"CodeCover$Row", "uses", "(II)Z"⟩, prog_9_method_10_code, 3, some .boolean, 0, 0)
theorem jk_Row_uses : jm_kV jm_m_Row_uses 2 := ⟨jw_644, jw_645, jw_6, jw_646, ⟨by decide, by decide, by decide⟩, by decide⟩
def jm_m_Row_clash : jm_M := (⟨"CodeCover$Row", "clash", "(II)Z"⟩, prog_9_method_11_code, 5, some .boolean, 0, 0)
theorem jk_Row_clash : jm_kV jm_m_Row_clash 2 := ⟨jw_640, jw_641, jw_6, jw_642, ⟨by decide, by decide, by decide⟩, by decide⟩
def jm_m_Row_setterAhead : jm_M := (⟨"CodeCover$Row", "setterAhead", "(II)I"⟩, prog_9_method_12_code, 4, some .int, 0, 0)
theorem jk_Row_setterAhead : jm_kV jm_m_Row_setterAhead 2 := ⟨jw_615, jm_memP (List.mem_of_getElem? (i := 13) rfl) rfl, jw_6, jw_616, ⟨by decide, by decide, by decide⟩, by decide⟩
def jm_m_Row_firstSetter : jm_M := (⟨"CodeCover$Row", "firstSetter", "(I)I"⟩, prog_9_method_13_code, 2, some .int, 0, 0)
theorem jk_Row_firstSetter : jm_kV jm_m_Row_firstSetter 1 := ⟨jw_610, jw_611, jw_6, jw_612, ⟨by decide, by decide, by decide⟩, by decide⟩
def jm_m_Row_secondSetter : jm_M := (⟨"CodeCover$Row", "secondSetter", "(I)I"⟩, prog_9_method_14_code, 2, some .int, 0, 0)
theorem jk_Row_secondSetter : jm_kV jm_m_Row_secondSetter 1 := ⟨jw_622, jw_623, jw_6, jw_624, ⟨by decide, by decide, by decide⟩, by decide⟩
def jm_m_Row_cycleOf : jm_M := (⟨"CodeCover$Row", "cycleOf", "(I)I"⟩, prog_9_method_15_code, 2, some .int, 0, 0)
theorem jk_Row_cycleOf : jm_kV jm_m_Row_cycleOf 1 := ⟨jw_602, jw_603, jw_6, jw_604, ⟨by decide, by decide, by decide⟩, by decide⟩
def jm_m_Row_endAsWritten : jm_M := (⟨"CodeCover$Row", "endAsWritten", "()I"⟩, prog_9_method_16_code, 3, some .int, 0, 0)
theorem jk_Row_endAsWritten : jm_kV jm_m_Row_endAsWritten 0 := ⟨jw_632, jw_633, jw_6, jw_634, ⟨by decide, by decide, by decide⟩, by decide⟩
def jm_m_Row_findCycles : jm_M := (⟨"CodeCover$Row", "findCycles", "()V"⟩, prog_9_method_17_code, 3, none, 0, 0)
theorem jk_Row_findCycles : jm_kV jm_m_Row_findCycles 0 := ⟨jw_607, jm_memP (List.mem_of_getElem? (i := 12) rfl) rfl, jw_6, jw_608, ⟨by decide, by decide, by decide⟩, by decide⟩
def jm_m_Row_readyAt : jm_M := (⟨"CodeCover$Row", "readyAt", "(I)I"⟩, prog_9_method_18_code, 2, some .int, 0, 0)
theorem jk_Row_readyAt : jm_kV jm_m_Row_readyAt 1 := ⟨jw_619, jm_memP (List.mem_of_getElem? (i := 14) rfl) rfl, jw_6, jw_620, ⟨by decide, by decide, by decide⟩, by decide⟩
def jm_m_Order_init : jm_M := (⟨"CodeCover$Order", "<init>", "(LCodeCover$Row;)V"⟩, prog_6_method_1_code, 2, none, 8, 80)
theorem jk_Order_init : jm_kI jm_m_Order_init 1 := ⟨jw_186, rfl, jw_7, jw_187, rfl, ⟨by decide, by decide, by decide⟩, by decide⟩
def jm_m_Order_refresh : jm_M := (⟨"CodeCover$Order", "refresh", "()V"⟩, prog_6_method_2_code, 2, none, 0, 0)
theorem jk_Order_refresh : jm_kV jm_m_Order_refresh 0 := ⟨jw_652, jw_653, jw_7, jw_654, ⟨by decide, by decide, by decide⟩, by decide⟩
def jm_m_Order_prepare : jm_M := (⟨"CodeCover$Order", "prepare", "(I)V"⟩, prog_6_method_3_code, 5, none, 0, 0)
theorem jk_Order_prepare : jm_kV jm_m_Order_prepare 1 := ⟨jw_657, jm_memP (List.mem_of_getElem? (i := 15) rfl) rfl, jw_7, jw_658, ⟨by decide, by decide, by decide⟩, by decide⟩
def jm_m_Order_rankByTail : jm_M := (⟨"CodeCover$Order", "rankByTail", "(I)V"⟩, prog_6_method_4_code, 4, none, 0, 0)
theorem jk_Order_rankByTail : jm_kV jm_m_Order_rankByTail 1 := ⟨jw_665, jm_memP (List.mem_of_getElem? (i := 16) rfl) rfl, jw_7, jw_666, ⟨by decide, by decide, by decide⟩, by decide⟩
def jm_m_Order_extend : jm_M := (⟨"CodeCover$Order", "extend", "(III)V"⟩, prog_6_method_5_code, 6, none, 0, 0)
theorem jk_Order_extend : jm_kV jm_m_Order_extend 3 := ⟨jw_670, jm_memP (List.mem_of_getElem? (i := 17) rfl) rfl, jw_7, jw_671, ⟨by decide, by decide, by decide⟩, by decide⟩
def jm_m_Order_readyFor : jm_M := (⟨"CodeCover$Order", "readyFor", "(II)I"⟩, prog_6_method_6_code, 3, some .int, 0, 0)
theorem jk_Order_readyFor : jm_kV jm_m_Order_readyFor 2 := ⟨jw_678, jm_memP (List.mem_of_getElem? (i := 19) rfl) rfl, jw_7, jw_679, ⟨by decide, by decide, by decide⟩, by decide⟩
def jm_m_Order_readyAt : jm_M := (⟨"CodeCover$Order", "readyAt", "(II)I"⟩, prog_6_method_7_code, 3, some .int, 0, 0)
theorem jk_Order_readyAt : jm_kV jm_m_Order_readyAt 2 := ⟨jw_682, jm_memP (List.mem_of_getElem? (i := 20) rfl) rfl, jw_7, jw_683, ⟨by decide, by decide, by decide⟩, by decide⟩
def jm_m_Order_endAtLeast : jm_M := (⟨"CodeCover$Order", "endAtLeast", "(II)I"⟩, prog_6_method_8_code, 7, some .int, 0, 0)
theorem jk_Order_endAtLeast : jm_kV jm_m_Order_endAtLeast 2 := ⟨jw_674, jm_memP (List.mem_of_getElem? (i := 18) rfl) rfl, jw_7, jw_675, ⟨by decide, by decide, by decide⟩, by decide⟩
def jm_m_Lifetimes_init : jm_M := (⟨"CodeCover$Lifetimes", "<init>", "(LCodeCover$Row;)V"⟩, prog_3_method_1_code, 2, none, 2, 24)
theorem jk_Lifetimes_init : jm_kI jm_m_Lifetimes_init 1 := ⟨jw_231, rfl, jw_8, jw_232, rfl, ⟨by decide, by decide, by decide⟩, by decide⟩
def jm_m_Lifetimes_until : jm_M := (⟨"CodeCover$Lifetimes", "until", "(I)I"⟩, prog_3_method_2_code, 5, some .int, 0, 0)
theorem jk_Lifetimes_until : jm_kV jm_m_Lifetimes_until 1 := ⟨jw_709, jw_710, jw_8, jw_711, ⟨by decide, by decide, by decide⟩, by decide⟩
def jm_m_Lifetimes_livingBehind : jm_M := (⟨"CodeCover$Lifetimes", "livingBehind", "(I)I"⟩, prog_3_method_3_code, 4, some .int, 0, 0)
theorem jk_Lifetimes_livingBehind : jm_kV jm_m_Lifetimes_livingBehind 1 := ⟨jw_718, jw_719, jw_8, jw_720, ⟨by decide, by decide, by decide⟩, by decide⟩
def jm_m_Lifetimes_mostAtOnePlace : jm_M := (⟨"CodeCover$Lifetimes", "mostAtOnePlace", "()I"⟩, prog_3_method_4_code, 3, some .int, 0, 0)
theorem jk_Lifetimes_mostAtOnePlace : jm_kV jm_m_Lifetimes_mostAtOnePlace 0 := ⟨jw_727, jw_728, jw_8, jw_729, ⟨by decide, by decide, by decide⟩, by decide⟩
def jm_m_Lifetimes_firstUnused : jm_M := (⟨"CodeCover$Lifetimes", "firstUnused", "()I"⟩, prog_3_method_5_code, 2, some .int, 0, 0)
theorem jk_Lifetimes_firstUnused : jm_kV jm_m_Lifetimes_firstUnused 0 := ⟨jw_819, jw_820, jw_8, jw_821, ⟨by decide, by decide, by decide⟩, by decide⟩
def jm_m_Lifetimes_spillTo : jm_M := (⟨"CodeCover$Lifetimes", "spillTo", "(I)V"⟩, prog_3_method_6_code, 3, none, 0, 0)
theorem jk_Lifetimes_spillTo : jm_kV jm_m_Lifetimes_spillTo 1 := ⟨jw_743, jw_744, jw_8, jw_745, ⟨by decide, by decide, by decide⟩, by decide⟩
def jm_m_Lifetimes_choose : jm_M := (⟨"CodeCover$Lifetimes", "choose", "(IIII)V"⟩, prog_3_method_7_code, 5, none, 0, 0)
theorem jk_Lifetimes_choose : jm_kV jm_m_Lifetimes_choose 4 := ⟨jw_749, jm_memP (List.mem_of_getElem? (i := 21) rfl) rfl, jw_8, jw_750, ⟨by decide, by decide, by decide⟩, by decide⟩
def jm_m_Lifetimes_hasRoom : jm_M := (⟨"CodeCover$Lifetimes", "hasRoom", "(II)Z"⟩, prog_3_method_8_code, 4, some .boolean, 0, 0)
theorem jk_Lifetimes_hasRoom : jm_kV jm_m_Lifetimes_hasRoom 2 := ⟨jw_753, jm_memP (List.mem_of_getElem? (i := 22) rfl) rfl, jw_8, jw_754, ⟨by decide, by decide, by decide⟩, by decide⟩
def jm_m_Lifetimes_count : jm_M := (⟨"CodeCover$Lifetimes", "count", "(II)V"⟩, prog_3_method_9_code, 4, none, 0, 0)
theorem jk_Lifetimes_count : jm_kV jm_m_Lifetimes_count 2 := ⟨jw_757, jm_memP (List.mem_of_getElem? (i := 23) rfl) rfl, jw_8, jw_758, ⟨by decide, by decide, by decide⟩, by decide⟩
def jm_m_Machine_init : jm_M := (⟨"CodeCover$Machine", "<init>", "(LCodeCover$Row;)V"⟩, prog_4_method_1_code, 2, none, 1, 6)
theorem jk_Machine_init : jm_kI jm_m_Machine_init 1 := ⟨jw_259, rfl, jw_9, jw_260, rfl, ⟨by decide, by decide, by decide⟩, by decide⟩
def jm_m_Machine_behindRow : jm_M := (⟨"CodeCover$Machine", "behindRow", "(JJ)V"⟩, prog_4_method_2_code, 10, none, 0, 0)
theorem jk_Machine_behindRow : jm_kV jm_m_Machine_behindRow 2 := ⟨jw_764, jw_765, jw_9, jw_766, ⟨by decide, by decide, by decide⟩, by decide⟩
def jm_m_Machine_result : jm_M := (⟨"CodeCover$Machine", "result", "(IJJ)J"⟩, prog_4_method_3_code, 5, some .long, 0, 0)
theorem jk_Machine_result : jm_kS jm_m_Machine_result 3 := ⟨jw_768, jw_9, jw_769, ⟨by decide, by decide, by decide⟩, by decide⟩
def jm_m_Search_init : jm_M := (⟨"CodeCover$Search", "<init>", "(LCodeCover$Row;LCodeCover$Machine;)V"⟩, prog_10_method_1_code, 3, none, 16, 153)
theorem jk_Search_init : jm_kI jm_m_Search_init 2 := ⟨jw_275, rfl, jw_10, jw_276, rfl, ⟨by decide, by decide, by decide⟩, by decide⟩
def jm_m_Search_codeAt : jm_M := (⟨"CodeCover$Search", "codeAt", "(I)I"⟩, prog_10_method_2_code, 2, some .int, 0, 0)
theorem jk_Search_codeAt : jm_kV jm_m_Search_codeAt 1 := ⟨jw_811, jw_812, jw_10, jw_813, ⟨by decide, by decide, by decide⟩, by decide⟩
def jm_m_Search_refresh : jm_M := (⟨"CodeCover$Search", "refresh", "(I)V"⟩, prog_10_method_3_code, 3, none, 0, 0)
theorem jk_Search_refresh : jm_kV jm_m_Search_refresh 1 := ⟨jw_779, jw_780, jw_10, jw_781, ⟨by decide, by decide, by decide⟩, by decide⟩
def jm_m_Search_wordsOfB : jm_M := (⟨"CodeCover$Search", "wordsOfB", "(I)J"⟩, prog_10_method_4_code, 1, some .long, 0, 0)
theorem jk_Search_wordsOfB : jm_kS jm_m_Search_wordsOfB 1 := ⟨jw_787, jw_10, jw_788, ⟨by decide, by decide, by decide⟩, by decide⟩
def jm_m_Search_begin : jm_M := (⟨"CodeCover$Search", "begin", "([JI)V"⟩, prog_10_method_5_code, 2, none, 0, 0)
theorem jk_Search_begin : jm_kS jm_m_Search_begin 2 := ⟨jw_783, jw_10, jw_784, ⟨by decide, by decide, by decide⟩, by decide⟩
def jm_m_Search_find : jm_M := (⟨"CodeCover$Search", "find", "(III)Z"⟩, prog_10_method_6_code, 9, some .boolean, 0, 0)
theorem jk_Search_find : jm_kV jm_m_Search_find 3 := ⟨jw_799, jm_memP (List.mem_of_getElem? (i := 25) rfl) rfl, jw_10, jw_800, ⟨by decide, by decide, by decide⟩, by decide⟩
def jm_m_Search_goesOn : jm_M := (⟨"CodeCover$Search", "goesOn", "(III)Z"⟩, prog_10_method_7_code, 8, some .boolean, 0, 0)
theorem jk_Search_goesOn : jm_kV jm_m_Search_goesOn 3 := ⟨jw_807, jm_memP (List.mem_of_getElem? (i := 27) rfl) rfl, jw_10, jw_808, ⟨by decide, by decide, by decide⟩, by decide⟩
def jm_m_Search_endsWith : jm_M := (⟨"CodeCover$Search", "endsWith", "(III)Z"⟩, prog_10_method_8_code, 8, some .boolean, 0, 0)
theorem jk_Search_endsWith : jm_kV jm_m_Search_endsWith 3 := ⟨jw_803, jm_memP (List.mem_of_getElem? (i := 26) rfl) rfl, jw_10, jw_804, ⟨by decide, by decide, by decide⟩, by decide⟩
def jm_m_Search_doesAll : jm_M := (⟨"CodeCover$Search", "doesAll", "(I)Z"⟩, prog_10_method_9_code, 4, some .boolean, 0, 0)
theorem jk_Search_doesAll : jm_kV jm_m_Search_doesAll 1 := ⟨jw_794, jm_memP (List.mem_of_getElem? (i := 24) rfl) rfl, jw_10, jw_795, ⟨by decide, by decide, by decide⟩, by decide⟩
def jm_m_Moves_init : jm_M := (⟨"CodeCover$Moves", "<init>", "()V"⟩, prog_5_method_1_code, 2, none, 5, 104)
theorem jk_Moves_init : jm_kI jm_m_Moves_init 0 := ⟨jw_281, rfl, jw_11, jw_282, rfl, ⟨by decide, by decide, by decide⟩, by decide⟩
def jm_m_Moves_listSources : jm_M := (⟨"CodeCover$Moves", "listSources", "(I)V"⟩, prog_5_method_2_code, 5, none, 0, 0)
theorem jk_Moves_listSources : jm_kV jm_m_Moves_listSources 1 := ⟨jw_286, jm_memP (List.mem_of_getElem? (i := 0) rfl) rfl, jw_11, jw_287, ⟨by decide, by decide, by decide⟩, by decide⟩
def jm_m_Moves_isNew : jm_M := (⟨"CodeCover$Moves", "isNew", "(III)Z"⟩, prog_5_method_3_code, 3, some .boolean, 0, 0)
theorem jk_Moves_isNew : jm_kS jm_m_Moves_isNew 3 := ⟨jw_292, jw_11, jw_293, ⟨by decide, by decide, by decide⟩, by decide⟩
def jm_m_Moves_isNewAtFirst : jm_M := (⟨"CodeCover$Moves", "isNewAtFirst", "(III)Z"⟩, prog_5_method_4_code, 3, some .boolean, 0, 0)
theorem jk_Moves_isNewAtFirst : jm_kS jm_m_Moves_isNewAtFirst 3 := ⟨jw_295, jw_11, jw_296, ⟨by decide, by decide, by decide⟩, by decide⟩
def jm_m_Mod_init : jm_M := (⟨"CodeCoverModel", "<init>", "()V"⟩, prog_13_method_1_code, 1, none, 36, 2323)
theorem jk_Mod_init : jm_kI jm_m_Mod_init 0 := ⟨jw_833, rfl, jw_12, jw_834, rfl, ⟨by decide, by decide, by decide⟩, by decide⟩
def jm_m_Mod_in : jm_M := (⟨"CodeCoverModel", "in", "(JJJ)Z"⟩, prog_13_method_3_code, 6, some .boolean, 0, 0)
theorem jk_Mod_in : jm_kS jm_m_Mod_in 3 := ⟨jw_979, jw_12, jw_980, ⟨by decide, by decide, by decide⟩, by decide⟩
def jm_m_Mod_say : jm_M := (⟨"CodeCoverModel", "say", "(I)I"⟩, prog_13_method_4_code, 2, some .int, 0, 0)
theorem jk_Mod_say : jm_kV jm_m_Mod_say 1 := ⟨jw_973, jw_974, jw_12, jw_975, ⟨by decide, by decide, by decide⟩, by decide⟩
def jm_m_Mod_wipe : jm_M := (⟨"CodeCoverModel", "wipe", "()I"⟩, prog_13_method_5_code, 2, some .int, 0, 0)
theorem jk_Mod_wipe : jm_kV jm_m_Mod_wipe 0 := ⟨jw_982, jw_983, jw_12, jw_984, ⟨by decide, by decide, by decide⟩, by decide⟩
def jm_m_Mod_partsOf : jm_M := (⟨"CodeCoverModel", "partsOf", "(I)I"⟩, prog_13_method_6_code, 1, some .int, 0, 0)
theorem jk_Mod_partsOf : jm_kS jm_m_Mod_partsOf 1 := ⟨jw_994, jw_12, jw_995, ⟨by decide, by decide, by decide⟩, by decide⟩
def jm_m_Mod_isNumber : jm_M := (⟨"CodeCoverModel", "isNumber", "(I)Z"⟩, prog_13_method_7_code, 1, some .boolean, 0, 0)
theorem jk_Mod_isNumber : jm_kS jm_m_Mod_isNumber 1 := ⟨jw_1004, jw_12, jw_1005, ⟨by decide, by decide, by decide⟩, by decide⟩
def jm_m_Mod_isVariable : jm_M := (⟨"CodeCoverModel", "isVariable", "(I)Z"⟩, prog_13_method_8_code, 1, some .boolean, 0, 0)
theorem jk_Mod_isVariable : jm_kS jm_m_Mod_isVariable 1 := ⟨jw_1009, jw_12, jw_1010, ⟨by decide, by decide, by decide⟩, by decide⟩
def jm_m_Mod_isLeaf : jm_M := (⟨"CodeCoverModel", "isLeaf", "(IZ)Z"⟩, prog_13_method_9_code, 2, some .boolean, 0, 0)
theorem jk_Mod_isLeaf : jm_kS jm_m_Mod_isLeaf 2 := ⟨jw_1001, jw_12, jw_1002, ⟨by decide, by decide, by decide⟩, by decide⟩
def jm_m_Mod_depthOf : jm_M := (⟨"CodeCoverModel", "depthOf", "(I)I"⟩, prog_13_method_10_code, 4, some .int, 0, 0)
theorem jk_Mod_depthOf : jm_kV jm_m_Mod_depthOf 1 := ⟨jw_998, jm_memP (List.mem_of_getElem? (i := 29) rfl) rfl, jw_12, jw_999, ⟨by decide, by decide, by decide⟩, by decide⟩
def jm_m_Mod_walk : jm_M := (⟨"CodeCoverModel", "walk", "(Z)I"⟩, prog_13_method_11_code, 7, some .int, 0, 0)
theorem jk_Mod_walk : jm_kV jm_m_Mod_walk 1 := ⟨jw_991, jm_memP (List.mem_of_getElem? (i := 28) rfl) rfl, jw_12, jw_992, ⟨by decide, by decide, by decide⟩, by decide⟩
def jm_m_Mod_closed : jm_M := (⟨"CodeCoverModel", "closed", "(I)I"⟩, prog_13_method_12_code, 3, some .int, 0, 0)
theorem jk_Mod_closed : jm_kV jm_m_Mod_closed 1 := ⟨jw_1015, jm_memP (List.mem_of_getElem? (i := 30) rfl) rfl, jw_12, jw_1016, ⟨by decide, by decide, by decide⟩, by decide⟩
def jm_m_Mod_fault : jm_M := (⟨"CodeCoverModel", "fault", "()I"⟩, prog_13_method_13_code, 1, some .int, 0, 0)
theorem jk_Mod_fault : jm_kV jm_m_Mod_fault 0 := ⟨jw_986, jw_987, jw_12, jw_988, ⟨by decide, by decide, by decide⟩, by decide⟩
def jm_m_Mod_read : jm_M := (⟨"CodeCoverModel", "read", "()I"⟩, prog_13_method_14_code, 2, some .int, 0, 0)
theorem jk_Mod_read : jm_kV jm_m_Mod_read 0 := ⟨jw_1018, jw_1019, jw_12, jw_1020, ⟨by decide, by decide, by decide⟩, by decide⟩
def jm_m_Mod_endOf : jm_M := (⟨"CodeCoverModel", "endOf", "(I)I"⟩, prog_13_method_15_code, 4, some .int, 0, 0)
theorem jk_Mod_endOf : jm_kV jm_m_Mod_endOf 1 := ⟨jw_1035, jm_memP (List.mem_of_getElem? (i := 33) rfl) rfl, jw_12, jw_1036, ⟨by decide, by decide, by decide⟩, by decide⟩
def jm_m_Mod_findNeeds : jm_M := (⟨"CodeCoverModel", "findNeeds", "()V"⟩, prog_13_method_16_code, 5, none, 0, 0)
theorem jk_Mod_findNeeds : jm_kV jm_m_Mod_findNeeds 0 := ⟨jw_1031, jm_memP (List.mem_of_getElem? (i := 32) rfl) rfl, jw_12, jw_1032, ⟨by decide, by decide, by decide⟩, by decide⟩
def jm_m_Mod_isNode : jm_M := (⟨"CodeCoverModel", "isNode", "(I)Z"⟩, prog_13_method_17_code, 2, some .boolean, 0, 0)
theorem jk_Mod_isNode : jm_kV jm_m_Mod_isNode 1 := ⟨jw_1027, jm_memP (List.mem_of_getElem? (i := 31) rfl) rfl, jw_12, jw_1028, ⟨by decide, by decide, by decide⟩, by decide⟩
def jm_m_Mod_node : jm_M := (⟨"CodeCoverModel", "node", "(II)I"⟩, prog_13_method_18_code, 3, some .int, 0, 0)
theorem jk_Mod_node : jm_kV jm_m_Mod_node 2 := ⟨jw_1022, jw_1023, jw_12, jw_1024, ⟨by decide, by decide, by decide⟩, by decide⟩
def jm_m_Mod_isHead : jm_M := (⟨"CodeCoverModel", "isHead", "(I)Z"⟩, prog_13_method_19_code, 1, some .boolean, 0, 0)
theorem jk_Mod_isHead : jm_kS jm_m_Mod_isHead 1 := ⟨jw_1042, jw_12, jw_1043, ⟨by decide, by decide, by decide⟩, by decide⟩
def jm_m_Mod_headFor : jm_M := (⟨"CodeCoverModel", "headFor", "(I)I"⟩, prog_13_method_20_code, 1, some .int, 0, 0)
theorem jk_Mod_headFor : jm_kS jm_m_Mod_headFor 1 := ⟨jw_1046, jw_12, jw_1047, ⟨by decide, by decide, by decide⟩, by decide⟩
def jm_m_Mod_pattern : jm_M := (⟨"CodeCoverModel", "pattern", "(II)I"⟩, prog_13_method_21_code, 5, some .int, 0, 0)
theorem jk_Mod_pattern : jm_kV jm_m_Mod_pattern 2 := ⟨jw_1038, jw_1039, jw_12, jw_1040, ⟨by decide, by decide, by decide⟩, by decide⟩
def jm_m_Mod_price : jm_M := (⟨"CodeCoverModel", "price", "(II)I"⟩, prog_13_method_22_code, 4, some .int, 0, 0)
theorem jk_Mod_price : jm_kV jm_m_Mod_price 2 := ⟨jw_1049, jw_1050, jw_12, jw_1051, ⟨by decide, by decide, by decide⟩, by decide⟩
def jm_m_Mod_clear : jm_M := (⟨"CodeCoverModel", "clear", "()I"⟩, prog_13_method_23_code, 2, some .int, 0, 0)
theorem jk_Mod_clear : jm_kV jm_m_Mod_clear 0 := ⟨jw_1053, jw_1054, jw_12, jw_1055, ⟨by decide, by decide, by decide⟩, by decide⟩
def jm_m_Mod_isChain : jm_M := (⟨"CodeCoverModel", "isChain", "(I)Z"⟩, prog_13_method_24_code, 2, some .boolean, 0, 0)
theorem jk_Mod_isChain : jm_kV jm_m_Mod_isChain 1 := ⟨jw_1067, jm_memP (List.mem_of_getElem? (i := 35) rfl) rfl, jw_12, jw_1068, ⟨by decide, by decide, by decide⟩, by decide⟩
def jm_m_Mod_costAt : jm_M := (⟨"CodeCoverModel", "costAt", "(II)I"⟩, prog_13_method_25_code, 9, some .int, 0, 0)
theorem jk_Mod_costAt : jm_kV jm_m_Mod_costAt 2 := ⟨jw_1071, jm_memP (List.mem_of_getElem? (i := 36) rfl) rfl, jw_12, jw_1072, ⟨by decide, by decide, by decide⟩, by decide⟩
def jm_m_Mod_findCover : jm_M := (⟨"CodeCoverModel", "findCover", "()V"⟩, prog_13_method_26_code, 5, none, 0, 0)
theorem jk_Mod_findCover : jm_kV jm_m_Mod_findCover 0 := ⟨jw_1062, jm_memP (List.mem_of_getElem? (i := 34) rfl) rfl, jw_12, jw_1063, ⟨by decide, by decide, by decide⟩, by decide⟩
def jm_m_Mod_cover : jm_M := (⟨"CodeCoverModel", "cover", "(III)I"⟩, prog_13_method_27_code, 5, some .int, 0, 0)
theorem jk_Mod_cover : jm_kV jm_m_Mod_cover 3 := ⟨jw_1057, jw_1058, jw_12, jw_1059, ⟨by decide, by decide, by decide⟩, by decide⟩
def jm_m_Mod_later : jm_M := (⟨"CodeCoverModel", "later", "(III)V"⟩, prog_13_method_28_code, 4, none, 0, 0)
theorem jk_Mod_later : jm_kV jm_m_Mod_later 3 := ⟨jw_1083, jm_memP (List.mem_of_getElem? (i := 38) rfl) rfl, jw_12, jw_1084, ⟨by decide, by decide, by decide⟩, by decide⟩
def jm_m_Mod_laterParts : jm_M := (⟨"CodeCoverModel", "laterParts", "(II)V"⟩, prog_13_method_29_code, 9, none, 0, 0)
theorem jk_Mod_laterParts : jm_kV jm_m_Mod_laterParts 2 := ⟨jw_1087, jm_memP (List.mem_of_getElem? (i := 39) rfl) rfl, jw_12, jw_1088, ⟨by decide, by decide, by decide⟩, by decide⟩
def jm_m_Mod_findCode : jm_M := (⟨"CodeCoverModel", "findCode", "()V"⟩, prog_13_method_30_code, 4, none, 0, 0)
theorem jk_Mod_findCode : jm_kV jm_m_Mod_findCode 0 := ⟨jw_1079, jm_memP (List.mem_of_getElem? (i := 37) rfl) rfl, jw_12, jw_1080, ⟨by decide, by decide, by decide⟩, by decide⟩
def jm_m_Mod_code : jm_M := (⟨"CodeCoverModel", "code", "(II)I"⟩, prog_13_method_31_code, 3, some .int, 0, 0)
theorem jk_Mod_code : jm_kV jm_m_Mod_code 2 := ⟨jw_1074, jw_1075, jw_12, jw_1076, ⟨by decide, by decide, by decide⟩, by decide⟩
def jm_m_Mod_stores : jm_M := (⟨"CodeCoverModel", "stores", "(I)I"⟩, prog_13_method_32_code, 8, some .int, 0, 0)
theorem jk_Mod_stores : jm_kV jm_m_Mod_stores 1 := ⟨jw_1090, jw_1091, jw_12, jw_1092, ⟨by decide, by decide, by decide⟩, by decide⟩
def jm_m_Mod_isRegister : jm_M := (⟨"CodeCoverModel", "isRegister", "(I)Z"⟩, prog_13_method_33_code, 1, some .boolean, 0, 0)
theorem jk_Mod_isRegister : jm_kS jm_m_Mod_isRegister 1 := ⟨jw_1101, jw_12, jw_1102, ⟨by decide, by decide, by decide⟩, by decide⟩
def jm_m_Mod_add : jm_M := (⟨"CodeCoverModel", "add", "(IIIII)I"⟩, prog_13_method_34_code, 6, some .int, 0, 0)
theorem jk_Mod_add : jm_kV jm_m_Mod_add 5 := ⟨jw_1096, jw_1097, jw_12, jw_1098, ⟨by decide, by decide, by decide⟩, by decide⟩
def jm_m_Mod_drop : jm_M := (⟨"CodeCoverModel", "drop", "()I"⟩, prog_13_method_35_code, 2, some .int, 0, 0)
theorem jk_Mod_drop : jm_kV jm_m_Mod_drop 0 := ⟨jw_1105, jw_1106, jw_12, jw_1107, ⟨by decide, by decide, by decide⟩, by decide⟩
def jm_m_Mod_isInstruction : jm_M := (⟨"CodeCoverModel", "isInstruction", "(I)Z"⟩, prog_13_method_36_code, 2, some .boolean, 0, 0)
theorem jk_Mod_isInstruction : jm_kV jm_m_Mod_isInstruction 1 := ⟨jw_1114, jm_memP (List.mem_of_getElem? (i := 40) rfl) rfl, jw_12, jw_1115, ⟨by decide, by decide, by decide⟩, by decide⟩
def jm_m_Mod_uses : jm_M := (⟨"CodeCoverModel", "uses", "(II)Z"⟩, prog_13_method_37_code, 3, some .boolean, 0, 0)
theorem jk_Mod_uses : jm_kV jm_m_Mod_uses 2 := ⟨jw_1126, jm_memP (List.mem_of_getElem? (i := 43) rfl) rfl, jw_12, jw_1127, ⟨by decide, by decide, by decide⟩, by decide⟩
def jm_m_Mod_startOf : jm_M := (⟨"CodeCoverModel", "startOf", "(I)I"⟩, prog_13_method_38_code, 7, some .int, 0, 0)
theorem jk_Mod_startOf : jm_kV jm_m_Mod_startOf 1 := ⟨jw_1122, jm_memP (List.mem_of_getElem? (i := 42) rfl) rfl, jw_12, jw_1123, ⟨by decide, by decide, by decide⟩, by decide⟩
def jm_m_Mod_endAsWritten : jm_M := (⟨"CodeCoverModel", "endAsWritten", "()I"⟩, prog_13_method_39_code, 3, some .int, 0, 0)
theorem jk_Mod_endAsWritten : jm_kV jm_m_Mod_endAsWritten 0 := ⟨jw_1118, jm_memP (List.mem_of_getElem? (i := 41) rfl) rfl, jw_12, jw_1119, ⟨by decide, by decide, by decide⟩, by decide⟩
def jm_m_Mod_about : jm_M := (⟨"CodeCoverModel", "about", "(II)I"⟩, prog_13_method_40_code, 3, some .int, 0, 0)
theorem jk_Mod_about : jm_kV jm_m_Mod_about 2 := ⟨jw_1109, jw_1110, jw_12, jw_1111, ⟨by decide, by decide, by decide⟩, by decide⟩
def jm_m_Mod_end : jm_M := (⟨"CodeCoverModel", "end", "()I"⟩, prog_13_method_41_code, 1, some .int, 0, 0)
theorem jk_Mod_end : jm_kV jm_m_Mod_end 0 := ⟨jw_1129, jw_1130, jw_12, jw_1131, ⟨by decide, by decide, by decide⟩, by decide⟩
def jm_m_Mod_mustLead : jm_M := (⟨"CodeCoverModel", "mustLead", "(II)Z"⟩, prog_13_method_42_code, 3, some .boolean, 0, 0)
theorem jk_Mod_mustLead : jm_kV jm_m_Mod_mustLead 2 := ⟨jw_1138, jm_memP (List.mem_of_getElem? (i := 44) rfl) rfl, jw_12, jw_1139, ⟨by decide, by decide, by decide⟩, by decide⟩
def jm_m_Mod_ahead : jm_M := (⟨"CodeCoverModel", "ahead", "(II)I"⟩, prog_13_method_43_code, 3, some .int, 0, 0)
theorem jk_Mod_ahead : jm_kV jm_m_Mod_ahead 2 := ⟨jw_1133, jw_1134, jw_12, jw_1135, ⟨by decide, by decide, by decide⟩, by decide⟩
def jm_m_Mod_mayStand : jm_M := (⟨"CodeCoverModel", "mayStand", "(II)Z"⟩, prog_13_method_44_code, 6, some .boolean, 0, 0)
theorem jk_Mod_mayStand : jm_kV jm_m_Mod_mayStand 2 := ⟨jw_1150, jm_memP (List.mem_of_getElem? (i := 46) rfl) rfl, jw_12, jw_1151, ⟨by decide, by decide, by decide⟩, by decide⟩
def jm_m_Mod_leastEnd : jm_M := (⟨"CodeCoverModel", "leastEnd", "(I)I"⟩, prog_13_method_45_code, 8, some .int, 0, 0)
theorem jk_Mod_leastEnd : jm_kV jm_m_Mod_leastEnd 1 := ⟨jw_1154, jm_memP (List.mem_of_getElem? (i := 47) rfl) rfl, jw_12, jw_1155, ⟨by decide, by decide, by decide⟩, by decide⟩
def jm_m_Mod_findBest : jm_M := (⟨"CodeCoverModel", "findBest", "()V"⟩, prog_13_method_46_code, 6, none, 0, 0)
theorem jk_Mod_findBest : jm_kV jm_m_Mod_findBest 0 := ⟨jw_1146, jm_memP (List.mem_of_getElem? (i := 45) rfl) rfl, jw_12, jw_1147, ⟨by decide, by decide, by decide⟩, by decide⟩
def jm_m_Mod_best : jm_M := (⟨"CodeCoverModel", "best", "(I)I"⟩, prog_13_method_47_code, 2, some .int, 0, 0)
theorem jk_Mod_best : jm_kV jm_m_Mod_best 1 := ⟨jw_1141, jw_1142, jw_12, jw_1143, ⟨by decide, by decide, by decide⟩, by decide⟩
def jm_m_Mod_lay : jm_M := (⟨"CodeCoverModel", "lay", "(II)V"⟩, prog_13_method_48_code, 3, none, 0, 0)
theorem jk_Mod_lay : jm_kV jm_m_Mod_lay 2 := ⟨jw_1166, jm_memP (List.mem_of_getElem? (i := 49) rfl) rfl, jw_12, jw_1167, ⟨by decide, by decide, by decide⟩, by decide⟩
def jm_m_Mod_keepAside : jm_M := (⟨"CodeCoverModel", "keepAside", "()V"⟩, prog_13_method_49_code, 2, none, 0, 0)
theorem jk_Mod_keepAside : jm_kV jm_m_Mod_keepAside 0 := ⟨jw_1162, jm_memP (List.mem_of_getElem? (i := 48) rfl) rfl, jw_12, jw_1163, ⟨by decide, by decide, by decide⟩, by decide⟩
def jm_m_Mod_sort : jm_M := (⟨"CodeCoverModel", "sort", "()I"⟩, prog_13_method_50_code, 2, some .int, 0, 0)
theorem jk_Mod_sort : jm_kV jm_m_Mod_sort 0 := ⟨jw_1157, jw_1158, jw_12, jw_1159, ⟨by decide, by decide, by decide⟩, by decide⟩
def jm_m_Mod_keep : jm_M := (⟨"CodeCoverModel", "keep", "(I)I"⟩, prog_13_method_51_code, 3, some .int, 0, 0)
theorem jk_Mod_keep : jm_kV jm_m_Mod_keep 1 := ⟨jw_1169, jw_1170, jw_12, jw_1171, ⟨by decide, by decide, by decide⟩, by decide⟩
def jm_m_Mod_weigh : jm_M := (⟨"CodeCoverModel", "weigh", "(II)I"⟩, prog_13_method_52_code, 4, some .int, 0, 0)
theorem jk_Mod_weigh : jm_kV jm_m_Mod_weigh 2 := ⟨jw_1174, jw_1175, jw_12, jw_1176, ⟨by decide, by decide, by decide⟩, by decide⟩
def jm_m_Mod_livesTo : jm_M := (⟨"CodeCoverModel", "livesTo", "(I)I"⟩, prog_13_method_53_code, 4, some .int, 0, 0)
theorem jk_Mod_livesTo : jm_kV jm_m_Mod_livesTo 1 := ⟨jw_1184, jm_memP (List.mem_of_getElem? (i := 50) rfl) rfl, jw_12, jw_1185, ⟨by decide, by decide, by decide⟩, by decide⟩
def jm_m_Mod_lives : jm_M := (⟨"CodeCoverModel", "lives", "(I)I"⟩, prog_13_method_54_code, 2, some .int, 0, 0)
theorem jk_Mod_lives : jm_kV jm_m_Mod_lives 1 := ⟨jw_1179, jw_1180, jw_12, jw_1181, ⟨by decide, by decide, by decide⟩, by decide⟩
def jm_m_Mod_placeOf : jm_M := (⟨"CodeCoverModel", "placeOf", "(I)I"⟩, prog_13_method_55_code, 4, some .int, 0, 0)
theorem jk_Mod_placeOf : jm_kV jm_m_Mod_placeOf 1 := ⟨jw_1192, jm_memP (List.mem_of_getElem? (i := 51) rfl) rfl, jw_12, jw_1193, ⟨by decide, by decide, by decide⟩, by decide⟩
def jm_m_Mod_place : jm_M := (⟨"CodeCoverModel", "place", "(I)I"⟩, prog_13_method_56_code, 2, some .int, 0, 0)
theorem jk_Mod_place : jm_kV jm_m_Mod_place 1 := ⟨jw_1187, jw_1188, jw_12, jw_1189, ⟨by decide, by decide, by decide⟩, by decide⟩
def jm_m_Mod_count : jm_M := (⟨"CodeCoverModel", "count", "(I)I"⟩, prog_13_method_57_code, 3, some .int, 0, 0)
theorem jk_Mod_count : jm_kS jm_m_Mod_count 1 := ⟨jw_1199, jw_12, jw_1200, ⟨by decide, by decide, by decide⟩, by decide⟩
def jm_m_Mod_crowd : jm_M := (⟨"CodeCoverModel", "crowd", "()I"⟩, prog_13_method_58_code, 4, some .int, 0, 0)
theorem jk_Mod_crowd : jm_kV jm_m_Mod_crowd 0 := ⟨jw_1195, jw_1196, jw_12, jw_1197, ⟨by decide, by decide, by decide⟩, by decide⟩
def jm_m_Mod_weightOf : jm_M := (⟨"CodeCoverModel", "weightOf", "(I)I"⟩, prog_13_method_59_code, 4, some .int, 0, 0)
theorem jk_Mod_weightOf : jm_kV jm_m_Mod_weightOf 1 := ⟨jw_1208, jm_memP (List.mem_of_getElem? (i := 52) rfl) rfl, jw_12, jw_1209, ⟨by decide, by decide, by decide⟩, by decide⟩
def jm_m_Mod_isEnough : jm_M := (⟨"CodeCoverModel", "isEnough", "(II)Z"⟩, prog_13_method_60_code, 5, some .boolean, 0, 0)
theorem jk_Mod_isEnough : jm_kV jm_m_Mod_isEnough 2 := ⟨jw_1212, jm_memP (List.mem_of_getElem? (i := 53) rfl) rfl, jw_12, jw_1213, ⟨by decide, by decide, by decide⟩, by decide⟩
def jm_m_Mod_spilled : jm_M := (⟨"CodeCoverModel", "spilled", "(II)I"⟩, prog_13_method_61_code, 6, some .int, 0, 0)
theorem jk_Mod_spilled : jm_kV jm_m_Mod_spilled 2 := ⟨jw_1202, jw_1203, jw_12, jw_1204, ⟨by decide, by decide, by decide⟩, by decide⟩
def jm_m_Mod_worked : jm_M := (⟨"CodeCoverModel", "worked", "(III)I"⟩, prog_13_method_62_code, 3, some .int, 0, 0)
theorem jk_Mod_worked : jm_kS jm_m_Mod_worked 3 := ⟨jw_1231, jw_12, jw_1232, ⟨by decide, by decide, by decide⟩, by decide⟩
def jm_m_Mod_begin : jm_M := (⟨"CodeCoverModel", "begin", "(II)V"⟩, prog_13_method_63_code, 4, none, 0, 0)
theorem jk_Mod_begin : jm_kV jm_m_Mod_begin 2 := ⟨jw_1228, jm_memP (List.mem_of_getElem? (i := 55) rfl) rfl, jw_12, jw_1229, ⟨by decide, by decide, by decide⟩, by decide⟩
def jm_m_Mod_runRow : jm_M := (⟨"CodeCoverModel", "runRow", "(II)V"⟩, prog_13_method_64_code, 4, none, 0, 0)
theorem jk_Mod_runRow : jm_kV jm_m_Mod_runRow 2 := ⟨jw_1224, jm_memP (List.mem_of_getElem? (i := 54) rfl) rfl, jw_12, jw_1225, ⟨by decide, by decide, by decide⟩, by decide⟩
def jm_m_Mod_isWord : jm_M := (⟨"CodeCoverModel", "isWord", "(I)Z"⟩, prog_13_method_65_code, 1, some .boolean, 0, 0)
theorem jk_Mod_isWord : jm_kS jm_m_Mod_isWord 1 := ⟨jw_1219, jw_12, jw_1220, ⟨by decide, by decide, by decide⟩, by decide⟩
def jm_m_Mod_run : jm_M := (⟨"CodeCoverModel", "run", "(III)I"⟩, prog_13_method_66_code, 4, some .int, 0, 0)
theorem jk_Mod_run : jm_kV jm_m_Mod_run 3 := ⟨jw_1215, jw_1216, jw_12, jw_1217, ⟨by decide, by decide, by decide⟩, by decide⟩
def jm_m_Mod_layShorts : jm_M := (⟨"CodeCoverModel", "layShorts", "()V"⟩, prog_13_method_67_code, 6, none, 0, 0)
theorem jk_Mod_layShorts : jm_kV jm_m_Mod_layShorts 0 := ⟨jw_1240, jm_memP (List.mem_of_getElem? (i := 56) rfl) rfl, jw_12, jw_1241, ⟨by decide, by decide, by decide⟩, by decide⟩
def jm_m_Mod_isAlike : jm_M := (⟨"CodeCoverModel", "isAlike", "(I)Z"⟩, prog_13_method_68_code, 5, some .boolean, 0, 0)
theorem jk_Mod_isAlike : jm_kV jm_m_Mod_isAlike 1 := ⟨jw_1249, jm_memP (List.mem_of_getElem? (i := 58) rfl) rfl, jw_12, jw_1250, ⟨by decide, by decide, by decide⟩, by decide⟩
def jm_m_Mod_findRow : jm_M := (⟨"CodeCoverModel", "findRow", "(I)Z"⟩, prog_13_method_69_code, 6, some .boolean, 0, 0)
theorem jk_Mod_findRow : jm_kV jm_m_Mod_findRow 1 := ⟨jw_1244, jm_memP (List.mem_of_getElem? (i := 57) rfl) rfl, jw_12, jw_1245, ⟨by decide, by decide, by decide⟩, by decide⟩
def jm_m_Mod_shortest : jm_M := (⟨"CodeCoverModel", "shortest", "(II)I"⟩, prog_13_method_70_code, 5, some .int, 0, 0)
theorem jk_Mod_shortest : jm_kV jm_m_Mod_shortest 2 := ⟨jw_1234, jw_1235, jw_12, jw_1236, ⟨by decide, by decide, by decide⟩, by decide⟩
def jm_m_Mod_thin : jm_M := (⟨"CodeCoverModel", "thin", "()I"⟩, prog_13_method_71_code, 4, some .int, 0, 0)
theorem jk_Mod_thin : jm_kV jm_m_Mod_thin 0 := ⟨jw_1252, jw_1253, jw_12, jw_1254, ⟨by decide, by decide, by decide⟩, by decide⟩
def jm_m_Mod_told : jm_M := (⟨"CodeCoverModel", "told", "(I)I"⟩, prog_13_method_72_code, 2, some .int, 0, 0)
theorem jk_Mod_told : jm_kV jm_m_Mod_told 1 := ⟨jw_1256, jw_1257, jw_12, jw_1258, ⟨by decide, by decide, by decide⟩, by decide⟩
def jm_m_Integer_bitCount : jm_M := (⟨"java/lang/Integer", "bitCount", "(I)I"⟩, prog_14_method_49_code, 1, some .int, 0, 0)
theorem jk_Integer_bitCount : jm_kS jm_m_Integer_bitCount 1 := ⟨jw_732, jw_15, jw_733, ⟨by decide, by decide, by decide⟩, by decide⟩
theorem jf_Pad_11 : jm_fR "CodeCover$Pad" 11 1 0 := ⟨_, _, _, rfl, by decide, jw_30, rfl⟩
theorem jf_Patterns_36 : jm_fR "CodeCover$Patterns" 36 1 0 := ⟨_, _, _, rfl, by decide, jw_31, rfl⟩
theorem jf_Tree_35 : jm_fR "CodeCover$Tree" 35 1 0 := ⟨_, _, _, rfl, by decide, jw_32, rfl⟩
theorem jf_Pad_15 : jm_fR "CodeCover$Pad" 15 1 1 := ⟨_, _, _, rfl, by decide, jw_33, rfl⟩
theorem jf_Pad_18 : jm_fI "CodeCover$Pad" 18 1 2 := ⟨_, _, _, rfl, by decide, jw_34, by decide⟩
theorem jp_Pad_18 : jm_pI "CodeCover$Pad" 18 1 2 := ⟨_, _, _, rfl, by decide, jw_34, rfl, rfl⟩
theorem jf_Patterns_26 : jm_fI "CodeCover$Patterns" 26 1 2 := ⟨_, _, _, rfl, by decide, jw_35, by decide⟩
theorem jp_Patterns_26 : jm_pI "CodeCover$Patterns" 26 1 2 := ⟨_, _, _, rfl, by decide, jw_35, rfl, rfl⟩
theorem jf_Top_82 : jm_fI "CodeCover" 82 1 2 := ⟨_, _, _, rfl, by decide, jw_36, by decide⟩
theorem jp_Top_82 : jm_pI "CodeCover" 82 1 2 := ⟨_, _, _, rfl, by decide, jw_36, rfl, rfl⟩
theorem jf_Tree_26 : jm_fI "CodeCover$Tree" 26 1 2 := ⟨_, _, _, rfl, by decide, jw_37, by decide⟩
theorem jp_Tree_26 : jm_pI "CodeCover$Tree" 26 1 2 := ⟨_, _, _, rfl, by decide, jw_37, rfl, rfl⟩
theorem jf_Tree_9 : jm_fR "CodeCover$Tree" 9 2 0 := ⟨_, _, _, rfl, by decide, jw_52, rfl⟩
theorem jf_Top_102 : jm_fR "CodeCover" 102 2 0 := ⟨_, _, _, rfl, by decide, jw_53, rfl⟩
theorem jf_Covering_99 : jm_fR "CodeCover$Covering" 99 2 0 := ⟨_, _, _, rfl, by decide, jw_54, rfl⟩
theorem jf_Tree_13 : jm_fR "CodeCover$Tree" 13 2 1 := ⟨_, _, _, rfl, by decide, jw_55, rfl⟩
theorem jf_Top_106 : jm_fR "CodeCover" 106 2 1 := ⟨_, _, _, rfl, by decide, jw_56, rfl⟩
theorem jf_Tree_16 : jm_fR "CodeCover$Tree" 16 2 2 := ⟨_, _, _, rfl, by decide, jw_57, rfl⟩
theorem jf_Top_113 : jm_fR "CodeCover" 113 2 2 := ⟨_, _, _, rfl, by decide, jw_58, rfl⟩
theorem jf_Covering_96 : jm_fR "CodeCover$Covering" 96 2 2 := ⟨_, _, _, rfl, by decide, jw_59, rfl⟩
theorem jf_Tree_19 : jm_fR "CodeCover$Tree" 19 2 3 := ⟨_, _, _, rfl, by decide, jw_60, rfl⟩
theorem jf_Top_116 : jm_fR "CodeCover" 116 2 3 := ⟨_, _, _, rfl, by decide, jw_61, rfl⟩
theorem jf_Tree_22 : jm_fI "CodeCover$Tree" 22 2 4 := ⟨_, _, _, rfl, by decide, jw_62, by decide⟩
theorem jp_Tree_22 : jm_pI "CodeCover$Tree" 22 2 4 := ⟨_, _, _, rfl, by decide, jw_62, rfl, rfl⟩
theorem jf_Covering_42 : jm_fI "CodeCover$Covering" 42 2 4 := ⟨_, _, _, rfl, by decide, jw_63, by decide⟩
theorem jp_Covering_42 : jm_pI "CodeCover$Covering" 42 2 4 := ⟨_, _, _, rfl, by decide, jw_63, rfl, rfl⟩
theorem jf_Top_98 : jm_fI "CodeCover" 98 2 4 := ⟨_, _, _, rfl, by decide, jw_64, by decide⟩
theorem jp_Top_98 : jm_pI "CodeCover" 98 2 4 := ⟨_, _, _, rfl, by decide, jw_64, rfl, rfl⟩
theorem jf_Patterns_11 : jm_fR "CodeCover$Patterns" 11 3 0 := ⟨_, _, _, rfl, by decide, jw_84, rfl⟩
theorem jf_Covering_75 : jm_fR "CodeCover$Covering" 75 3 0 := ⟨_, _, _, rfl, by decide, jw_85, rfl⟩
theorem jf_Patterns_15 : jm_fR "CodeCover$Patterns" 15 3 1 := ⟨_, _, _, rfl, by decide, jw_86, rfl⟩
theorem jf_Covering_78 : jm_fR "CodeCover$Covering" 78 3 1 := ⟨_, _, _, rfl, by decide, jw_87, rfl⟩
theorem jf_Top_133 : jm_fR "CodeCover" 133 3 1 := ⟨_, _, _, rfl, by decide, jw_88, rfl⟩
theorem jf_Patterns_18 : jm_fR "CodeCover$Patterns" 18 3 2 := ⟨_, _, _, rfl, by decide, jw_89, rfl⟩
theorem jf_Covering_81 : jm_fR "CodeCover$Covering" 81 3 2 := ⟨_, _, _, rfl, by decide, jw_90, rfl⟩
theorem jf_Patterns_23 : jm_fR "CodeCover$Patterns" 23 3 3 := ⟨_, _, _, rfl, by decide, jw_91, rfl⟩
theorem jf_Covering_84 : jm_fR "CodeCover$Covering" 84 3 3 := ⟨_, _, _, rfl, by decide, jw_92, rfl⟩
theorem jf_Patterns_43 : jm_fI "CodeCover$Patterns" 43 3 4 := ⟨_, _, _, rfl, by decide, jw_93, by decide⟩
theorem jp_Patterns_43 : jm_pI "CodeCover$Patterns" 43 3 4 := ⟨_, _, _, rfl, by decide, jw_93, rfl, rfl⟩
theorem jf_Covering_65 : jm_fI "CodeCover$Covering" 65 3 4 := ⟨_, _, _, rfl, by decide, jw_94, by decide⟩
theorem jp_Covering_65 : jm_pI "CodeCover$Covering" 65 3 4 := ⟨_, _, _, rfl, by decide, jw_94, rfl, rfl⟩
theorem jf_Top_125 : jm_fI "CodeCover" 125 3 4 := ⟨_, _, _, rfl, by decide, jw_95, by decide⟩
theorem jp_Top_125 : jm_pI "CodeCover" 125 3 4 := ⟨_, _, _, rfl, by decide, jw_95, rfl, rfl⟩
theorem jf_Covering_30 : jm_fR "CodeCover$Covering" 30 4 0 := ⟨_, _, _, rfl, by decide, jw_113, rfl⟩
theorem jf_Covering_34 : jm_fR "CodeCover$Covering" 34 4 1 := ⟨_, _, _, rfl, by decide, jw_114, rfl⟩
theorem jf_Covering_11 : jm_fR "CodeCover$Covering" 11 4 2 := ⟨_, _, _, rfl, by decide, jw_115, rfl⟩
theorem jf_Covering_15 : jm_fR "CodeCover$Covering" 15 4 3 := ⟨_, _, _, rfl, by decide, jw_116, rfl⟩
theorem jf_Covering_18 : jm_fR "CodeCover$Covering" 18 4 4 := ⟨_, _, _, rfl, by decide, jw_117, rfl⟩
theorem jf_Top_149 : jm_fR "CodeCover" 149 4 4 := ⟨_, _, _, rfl, by decide, jw_118, rfl⟩
theorem jf_Covering_21 : jm_fR "CodeCover$Covering" 21 4 5 := ⟨_, _, _, rfl, by decide, jw_119, rfl⟩
theorem jf_Top_146 : jm_fR "CodeCover" 146 4 5 := ⟨_, _, _, rfl, by decide, jw_120, rfl⟩
theorem jf_Covering_24 : jm_fR "CodeCover$Covering" 24 4 6 := ⟨_, _, _, rfl, by decide, jw_121, rfl⟩
theorem jf_Top_155 : jm_fR "CodeCover" 155 4 6 := ⟨_, _, _, rfl, by decide, jw_122, rfl⟩
theorem jf_Covering_27 : jm_fR "CodeCover$Covering" 27 4 7 := ⟨_, _, _, rfl, by decide, jw_123, rfl⟩
theorem jf_Top_158 : jm_fR "CodeCover" 158 4 7 := ⟨_, _, _, rfl, by decide, jw_124, rfl⟩
theorem jf_Covering_53 : jm_fI "CodeCover$Covering" 53 4 8 := ⟨_, _, _, rfl, by decide, jw_125, by decide⟩
theorem jp_Covering_53 : jm_pI "CodeCover$Covering" 53 4 8 := ⟨_, _, _, rfl, by decide, jw_125, rfl, rfl⟩
theorem jf_Top_152 : jm_fI "CodeCover" 152 4 8 := ⟨_, _, _, rfl, by decide, jw_126, by decide⟩
theorem jp_Top_152 : jm_pI "CodeCover" 152 4 8 := ⟨_, _, _, rfl, by decide, jw_126, rfl, rfl⟩
theorem jf_Covering_38 : jm_fI "CodeCover$Covering" 38 4 9 := ⟨_, _, _, rfl, by decide, jw_127, by decide⟩
theorem jp_Covering_38 : jm_pZ "CodeCover$Covering" 38 4 9 := ⟨_, _, _, rfl, by decide, jw_127, rfl, rfl⟩
theorem jf_Top_94 : jm_fI "CodeCover" 94 4 9 := ⟨_, _, _, rfl, by decide, jw_128, by decide⟩
theorem jp_Top_94 : jm_pZ "CodeCover" 94 4 9 := ⟨_, _, _, rfl, by decide, jw_128, rfl, rfl⟩
theorem jf_Row_11 : jm_fR "CodeCover$Row" 11 5 0 := ⟨_, _, _, rfl, by decide, jw_157, rfl⟩
theorem jf_Lifetimes_26 : jm_fR "CodeCover$Lifetimes" 26 5 0 := ⟨_, _, _, rfl, by decide, jw_158, rfl⟩
theorem jf_Machine_23 : jm_fR "CodeCover$Machine" 23 5 0 := ⟨_, _, _, rfl, by decide, jw_159, rfl⟩
theorem jf_Order_73 : jm_fR "CodeCover$Order" 73 5 0 := ⟨_, _, _, rfl, by decide, jw_160, rfl⟩
theorem jf_Top_185 : jm_fR "CodeCover" 185 5 0 := ⟨_, _, _, rfl, by decide, jw_161, rfl⟩
theorem jf_Row_14 : jm_fR "CodeCover$Row" 14 5 1 := ⟨_, _, _, rfl, by decide, jw_162, rfl⟩
theorem jf_Row_18 : jm_fR "CodeCover$Row" 18 5 2 := ⟨_, _, _, rfl, by decide, jw_163, rfl⟩
theorem jf_Order_45 : jm_fI "CodeCover$Order" 45 5 3 := ⟨_, _, _, rfl, by decide, jw_164, by decide⟩
theorem jp_Order_45 : jm_pI "CodeCover$Order" 45 5 3 := ⟨_, _, _, rfl, by decide, jw_164, rfl, rfl⟩
theorem jf_Lifetimes_30 : jm_fI "CodeCover$Lifetimes" 30 5 3 := ⟨_, _, _, rfl, by decide, jw_165, by decide⟩
theorem jp_Lifetimes_30 : jm_pI "CodeCover$Lifetimes" 30 5 3 := ⟨_, _, _, rfl, by decide, jw_165, rfl, rfl⟩
theorem jf_Machine_19 : jm_fI "CodeCover$Machine" 19 5 3 := ⟨_, _, _, rfl, by decide, jw_166, by decide⟩
theorem jp_Machine_19 : jm_pI "CodeCover$Machine" 19 5 3 := ⟨_, _, _, rfl, by decide, jw_166, rfl, rfl⟩
theorem jf_Row_25 : jm_fI "CodeCover$Row" 25 5 3 := ⟨_, _, _, rfl, by decide, jw_167, by decide⟩
theorem jp_Row_25 : jm_pI "CodeCover$Row" 25 5 3 := ⟨_, _, _, rfl, by decide, jw_167, rfl, rfl⟩
theorem jf_Top_177 : jm_fI "CodeCover" 177 5 3 := ⟨_, _, _, rfl, by decide, jw_168, by decide⟩
theorem jp_Top_177 : jm_pI "CodeCover" 177 5 3 := ⟨_, _, _, rfl, by decide, jw_168, rfl, rfl⟩
theorem jf_Row_21 : jm_fI "CodeCover$Row" 21 5 4 := ⟨_, _, _, rfl, by decide, jw_169, by decide⟩
theorem jp_Row_21 : jm_pI "CodeCover$Row" 21 5 4 := ⟨_, _, _, rfl, by decide, jw_169, rfl, rfl⟩
theorem jf_Order_42 : jm_fI "CodeCover$Order" 42 5 4 := ⟨_, _, _, rfl, by decide, jw_170, by decide⟩
theorem jp_Order_42 : jm_pI "CodeCover$Order" 42 5 4 := ⟨_, _, _, rfl, by decide, jw_170, rfl, rfl⟩
theorem jf_Search_59 : jm_fI "CodeCover$Search" 59 5 4 := ⟨_, _, _, rfl, by decide, jw_171, by decide⟩
theorem jp_Search_59 : jm_pI "CodeCover$Search" 59 5 4 := ⟨_, _, _, rfl, by decide, jw_171, rfl, rfl⟩
theorem jf_Order_34 : jm_fR "CodeCover$Order" 34 6 0 := ⟨_, _, _, rfl, by decide, jw_189, rfl⟩
theorem jf_Order_9 : jm_fR "CodeCover$Order" 9 6 1 := ⟨_, _, _, rfl, by decide, jw_190, rfl⟩
theorem jf_Order_13 : jm_fR "CodeCover$Order" 13 6 2 := ⟨_, _, _, rfl, by decide, jw_191, rfl⟩
theorem jf_Order_16 : jm_fR "CodeCover$Order" 16 6 3 := ⟨_, _, _, rfl, by decide, jw_192, rfl⟩
theorem jf_Order_19 : jm_fR "CodeCover$Order" 19 6 4 := ⟨_, _, _, rfl, by decide, jw_193, rfl⟩
theorem jf_Order_22 : jm_fR "CodeCover$Order" 22 6 5 := ⟨_, _, _, rfl, by decide, jw_194, rfl⟩
theorem jf_Order_25 : jm_fR "CodeCover$Order" 25 6 6 := ⟨_, _, _, rfl, by decide, jw_195, rfl⟩
theorem jf_Order_28 : jm_fR "CodeCover$Order" 28 6 7 := ⟨_, _, _, rfl, by decide, jw_196, rfl⟩
theorem jf_Order_31 : jm_fR "CodeCover$Order" 31 6 8 := ⟨_, _, _, rfl, by decide, jw_197, rfl⟩
theorem jf_Top_200 : jm_fR "CodeCover" 200 6 8 := ⟨_, _, _, rfl, by decide, jw_198, rfl⟩
theorem jf_Order_57 : jm_fI "CodeCover$Order" 57 6 9 := ⟨_, _, _, rfl, by decide, jw_199, by decide⟩
theorem jp_Order_57 : jm_pI "CodeCover$Order" 57 6 9 := ⟨_, _, _, rfl, by decide, jw_199, rfl, rfl⟩
theorem jf_Top_197 : jm_fI "CodeCover" 197 6 9 := ⟨_, _, _, rfl, by decide, jw_200, by decide⟩
theorem jp_Top_197 : jm_pI "CodeCover" 197 6 9 := ⟨_, _, _, rfl, by decide, jw_200, rfl, rfl⟩
theorem jf_Order_48 : jm_fI "CodeCover$Order" 48 6 10 := ⟨_, _, _, rfl, by decide, jw_201, by decide⟩
theorem jp_Order_48 : jm_pI "CodeCover$Order" 48 6 10 := ⟨_, _, _, rfl, by decide, jw_201, rfl, rfl⟩
theorem jf_Order_38 : jm_fI "CodeCover$Order" 38 6 11 := ⟨_, _, _, rfl, by decide, jw_202, by decide⟩
theorem jp_Order_38 : jm_pI "CodeCover$Order" 38 6 11 := ⟨_, _, _, rfl, by decide, jw_202, rfl, rfl⟩
theorem jf_Lifetimes_22 : jm_fR "CodeCover$Lifetimes" 22 7 0 := ⟨_, _, _, rfl, by decide, jw_234, rfl⟩
theorem jf_Lifetimes_9 : jm_fR "CodeCover$Lifetimes" 9 7 1 := ⟨_, _, _, rfl, by decide, jw_235, rfl⟩
theorem jf_Lifetimes_15 : jm_fR "CodeCover$Lifetimes" 15 7 2 := ⟨_, _, _, rfl, by decide, jw_236, rfl⟩
theorem jf_Lifetimes_18 : jm_fI "CodeCover$Lifetimes" 18 7 3 := ⟨_, _, _, rfl, by decide, jw_237, by decide⟩
theorem jp_Lifetimes_18 : jm_pI "CodeCover$Lifetimes" 18 7 3 := ⟨_, _, _, rfl, by decide, jw_237, rfl, rfl⟩
theorem jf_Top_207 : jm_fI "CodeCover" 207 7 3 := ⟨_, _, _, rfl, by decide, jw_238, by decide⟩
theorem jp_Top_207 : jm_pI "CodeCover" 207 7 3 := ⟨_, _, _, rfl, by decide, jw_238, rfl, rfl⟩
theorem jf_Lifetimes_54 : jm_fI "CodeCover$Lifetimes" 54 7 4 := ⟨_, _, _, rfl, by decide, jw_239, by decide⟩
theorem jp_Lifetimes_54 : jm_pI "CodeCover$Lifetimes" 54 7 4 := ⟨_, _, _, rfl, by decide, jw_239, rfl, rfl⟩
theorem jf_Top_223 : jm_fI "CodeCover" 223 7 4 := ⟨_, _, _, rfl, by decide, jw_240, by decide⟩
theorem jp_Top_223 : jm_pI "CodeCover" 223 7 4 := ⟨_, _, _, rfl, by decide, jw_240, rfl, rfl⟩
theorem jf_Lifetimes_58 : jm_fI "CodeCover$Lifetimes" 58 7 5 := ⟨_, _, _, rfl, by decide, jw_241, by decide⟩
theorem jp_Lifetimes_58 : jm_pI "CodeCover$Lifetimes" 58 7 5 := ⟨_, _, _, rfl, by decide, jw_241, rfl, rfl⟩
theorem jf_Top_226 : jm_fI "CodeCover" 226 7 5 := ⟨_, _, _, rfl, by decide, jw_242, by decide⟩
theorem jp_Top_226 : jm_pI "CodeCover" 226 7 5 := ⟨_, _, _, rfl, by decide, jw_242, rfl, rfl⟩
theorem jf_Machine_15 : jm_fR "CodeCover$Machine" 15 8 0 := ⟨_, _, _, rfl, by decide, jw_262, rfl⟩
theorem jf_Machine_9 : jm_fR "CodeCover$Machine" 9 8 1 := ⟨_, _, _, rfl, by decide, jw_263, rfl⟩
theorem jf_Search_78 : jm_fR "CodeCover$Search" 78 8 1 := ⟨_, _, _, rfl, by decide, jw_264, rfl⟩
theorem jf_Top_233 : jm_fR "CodeCover" 233 8 1 := ⟨_, _, _, rfl, by decide, jw_265, rfl⟩
theorem jf_Moves_9 : jm_fR "CodeCover$Moves" 9 10 0 := ⟨_, _, _, rfl, by decide, jw_297, rfl⟩
theorem jf_Search_108 : jm_fR "CodeCover$Search" 108 10 0 := ⟨_, _, _, rfl, by decide, jw_298, rfl⟩
theorem jf_Moves_13 : jm_fR "CodeCover$Moves" 13 10 1 := ⟨_, _, _, rfl, by decide, jw_299, rfl⟩
theorem jf_Search_109 : jm_fR "CodeCover$Search" 109 10 1 := ⟨_, _, _, rfl, by decide, jw_300, rfl⟩
theorem jf_Moves_16 : jm_fR "CodeCover$Moves" 16 10 2 := ⟨_, _, _, rfl, by decide, jw_301, rfl⟩
theorem jf_Search_101 : jm_fR "CodeCover$Search" 101 10 2 := ⟨_, _, _, rfl, by decide, jw_302, rfl⟩
theorem jf_Moves_19 : jm_fR "CodeCover$Moves" 19 10 3 := ⟨_, _, _, rfl, by decide, jw_303, rfl⟩
theorem jf_Search_104 : jm_fR "CodeCover$Search" 104 10 3 := ⟨_, _, _, rfl, by decide, jw_304, rfl⟩
theorem jf_Moves_23 : jm_fR "CodeCover$Moves" 23 10 4 := ⟨_, _, _, rfl, by decide, jw_305, rfl⟩
theorem jf_Search_99 : jm_fR "CodeCover$Search" 99 10 4 := ⟨_, _, _, rfl, by decide, jw_306, rfl⟩
theorem jf_Moves_26 : jm_fI "CodeCover$Moves" 26 10 5 := ⟨_, _, _, rfl, by decide, jw_307, by decide⟩
theorem jp_Moves_26 : jm_pI "CodeCover$Moves" 26 10 5 := ⟨_, _, _, rfl, by decide, jw_307, rfl, rfl⟩
theorem jf_Search_48 : jm_fR "CodeCover$Search" 48 9 0 := ⟨_, _, _, rfl, by decide, jw_324, rfl⟩
theorem jf_Search_52 : jm_fR "CodeCover$Search" 52 9 1 := ⟨_, _, _, rfl, by decide, jw_325, rfl⟩
theorem jf_Search_10 : jm_fR "CodeCover$Search" 10 9 2 := ⟨_, _, _, rfl, by decide, jw_326, rfl⟩
theorem jf_Search_16 : jm_fR "CodeCover$Search" 16 9 3 := ⟨_, _, _, rfl, by decide, jw_327, rfl⟩
theorem jf_Search_22 : jm_fR "CodeCover$Search" 22 9 4 := ⟨_, _, _, rfl, by decide, jw_328, rfl⟩
theorem jf_Search_25 : jm_fR "CodeCover$Search" 25 9 5 := ⟨_, _, _, rfl, by decide, jw_329, rfl⟩
theorem jf_Search_28 : jm_fR "CodeCover$Search" 28 9 6 := ⟨_, _, _, rfl, by decide, jw_330, rfl⟩
theorem jf_Search_32 : jm_fR "CodeCover$Search" 32 9 7 := ⟨_, _, _, rfl, by decide, jw_331, rfl⟩
theorem jf_Search_35 : jm_fR "CodeCover$Search" 35 9 8 := ⟨_, _, _, rfl, by decide, jw_332, rfl⟩
theorem jf_Search_38 : jm_fR "CodeCover$Search" 38 9 9 := ⟨_, _, _, rfl, by decide, jw_333, rfl⟩
theorem jf_Search_41 : jm_fI "CodeCover$Search" 41 9 10 := ⟨_, _, _, rfl, by decide, jw_334, by decide⟩
theorem jp_Search_41 : jm_pI "CodeCover$Search" 41 9 10 := ⟨_, _, _, rfl, by decide, jw_334, rfl, rfl⟩
theorem jf_Top_241 : jm_fI "CodeCover" 241 9 10 := ⟨_, _, _, rfl, by decide, jw_335, by decide⟩
theorem jp_Top_241 : jm_pI "CodeCover" 241 9 10 := ⟨_, _, _, rfl, by decide, jw_335, rfl, rfl⟩
theorem jf_Search_45 : jm_fI "CodeCover$Search" 45 9 11 := ⟨_, _, _, rfl, by decide, jw_336, by decide⟩
theorem jp_Search_45 : jm_pI "CodeCover$Search" 45 9 11 := ⟨_, _, _, rfl, by decide, jw_336, rfl, rfl⟩
theorem jf_Search_56 : jm_fI "CodeCover$Search" 56 9 12 := ⟨_, _, _, rfl, by decide, jw_337, by decide⟩
theorem jp_Search_56 : jm_pI "CodeCover$Search" 56 9 12 := ⟨_, _, _, rfl, by decide, jw_337, rfl, rfl⟩
theorem jf_Top_10 : jm_fR "CodeCover" 10 0 0 := ⟨_, _, _, rfl, by decide, jw_365, rfl⟩
theorem jf_Top_19 : jm_fR "CodeCover" 19 0 1 := ⟨_, _, _, rfl, by decide, jw_366, rfl⟩
theorem jf_Top_26 : jm_fR "CodeCover" 26 0 2 := ⟨_, _, _, rfl, by decide, jw_367, rfl⟩
theorem jf_Top_35 : jm_fR "CodeCover" 35 0 3 := ⟨_, _, _, rfl, by decide, jw_368, rfl⟩
theorem jf_Top_42 : jm_fR "CodeCover" 42 0 4 := ⟨_, _, _, rfl, by decide, jw_369, rfl⟩
theorem jf_Top_51 : jm_fR "CodeCover" 51 0 5 := ⟨_, _, _, rfl, by decide, jw_370, rfl⟩
theorem jf_Top_58 : jm_fR "CodeCover" 58 0 6 := ⟨_, _, _, rfl, by decide, jw_371, rfl⟩
theorem jf_Top_65 : jm_fR "CodeCover" 65 0 7 := ⟨_, _, _, rfl, by decide, jw_372, rfl⟩
theorem jf_Top_74 : jm_fR "CodeCover" 74 0 8 := ⟨_, _, _, rfl, by decide, jw_373, rfl⟩
theorem jf_Mod_7 : jm_fR "CodeCoverModel" 7 11 0 := ⟨_, _, _, rfl, by decide, jw_836, rfl⟩
theorem jf_Mod_130 : jm_fI "CodeCoverModel" 130 11 1 := ⟨_, _, _, rfl, by decide, jw_837, by decide⟩
theorem jp_Mod_130 : jm_pI "CodeCoverModel" 130 11 1 := ⟨_, _, _, rfl, by decide, jw_837, rfl, rfl⟩
theorem jf_Mod_13 : jm_fR "CodeCoverModel" 13 11 2 := ⟨_, _, _, rfl, by decide, jw_838, rfl⟩
theorem jf_Mod_16 : jm_fR "CodeCoverModel" 16 11 3 := ⟨_, _, _, rfl, by decide, jw_839, rfl⟩
theorem jf_Mod_169 : jm_fI "CodeCoverModel" 169 11 4 := ⟨_, _, _, rfl, by decide, jw_840, by decide⟩
theorem jp_Mod_169 : jm_pI "CodeCoverModel" 169 11 4 := ⟨_, _, _, rfl, by decide, jw_840, rfl, rfl⟩
theorem jf_Mod_19 : jm_fR "CodeCoverModel" 19 11 5 := ⟨_, _, _, rfl, by decide, jw_841, rfl⟩
theorem jf_Mod_22 : jm_fR "CodeCoverModel" 22 11 6 := ⟨_, _, _, rfl, by decide, jw_842, rfl⟩
theorem jf_Mod_25 : jm_fR "CodeCoverModel" 25 11 7 := ⟨_, _, _, rfl, by decide, jw_843, rfl⟩
theorem jf_Mod_148 : jm_fI "CodeCoverModel" 148 11 8 := ⟨_, _, _, rfl, by decide, jw_844, by decide⟩
theorem jp_Mod_148 : jm_pI "CodeCoverModel" 148 11 8 := ⟨_, _, _, rfl, by decide, jw_844, rfl, rfl⟩
theorem jf_Mod_28 : jm_fR "CodeCoverModel" 28 11 9 := ⟨_, _, _, rfl, by decide, jw_845, rfl⟩
theorem jf_Mod_31 : jm_fR "CodeCoverModel" 31 11 10 := ⟨_, _, _, rfl, by decide, jw_846, rfl⟩
theorem jf_Mod_34 : jm_fR "CodeCoverModel" 34 11 11 := ⟨_, _, _, rfl, by decide, jw_847, rfl⟩
theorem jf_Mod_37 : jm_fR "CodeCoverModel" 37 11 12 := ⟨_, _, _, rfl, by decide, jw_848, rfl⟩
theorem jf_Mod_40 : jm_fR "CodeCoverModel" 40 11 13 := ⟨_, _, _, rfl, by decide, jw_849, rfl⟩
theorem jf_Mod_186 : jm_fI "CodeCoverModel" 186 11 14 := ⟨_, _, _, rfl, by decide, jw_850, by decide⟩
theorem jp_Mod_186 : jm_pI "CodeCoverModel" 186 11 14 := ⟨_, _, _, rfl, by decide, jw_850, rfl, rfl⟩
theorem jf_Mod_43 : jm_fR "CodeCoverModel" 43 11 15 := ⟨_, _, _, rfl, by decide, jw_851, rfl⟩
theorem jf_Mod_46 : jm_fR "CodeCoverModel" 46 11 16 := ⟨_, _, _, rfl, by decide, jw_852, rfl⟩
theorem jf_Mod_49 : jm_fR "CodeCoverModel" 49 11 17 := ⟨_, _, _, rfl, by decide, jw_853, rfl⟩
theorem jf_Mod_52 : jm_fR "CodeCoverModel" 52 11 18 := ⟨_, _, _, rfl, by decide, jw_854, rfl⟩
theorem jf_Mod_55 : jm_fR "CodeCoverModel" 55 11 19 := ⟨_, _, _, rfl, by decide, jw_855, rfl⟩
theorem jf_Mod_58 : jm_fR "CodeCoverModel" 58 11 20 := ⟨_, _, _, rfl, by decide, jw_856, rfl⟩
theorem jf_Mod_61 : jm_fR "CodeCoverModel" 61 11 21 := ⟨_, _, _, rfl, by decide, jw_857, rfl⟩
theorem jf_Mod_203 : jm_fI "CodeCoverModel" 203 11 22 := ⟨_, _, _, rfl, by decide, jw_858, by decide⟩
theorem jp_Mod_203 : jm_pI "CodeCoverModel" 203 11 22 := ⟨_, _, _, rfl, by decide, jw_858, rfl, rfl⟩
theorem jf_Mod_64 : jm_fR "CodeCoverModel" 64 11 23 := ⟨_, _, _, rfl, by decide, jw_859, rfl⟩
theorem jf_Mod_67 : jm_fR "CodeCoverModel" 67 11 24 := ⟨_, _, _, rfl, by decide, jw_860, rfl⟩
theorem jf_Mod_210 : jm_fI "CodeCoverModel" 210 11 25 := ⟨_, _, _, rfl, by decide, jw_861, by decide⟩
theorem jp_Mod_210 : jm_pI "CodeCoverModel" 210 11 25 := ⟨_, _, _, rfl, by decide, jw_861, rfl, rfl⟩
theorem jf_Mod_70 : jm_fR "CodeCoverModel" 70 11 26 := ⟨_, _, _, rfl, by decide, jw_862, rfl⟩
theorem jf_Mod_73 : jm_fR "CodeCoverModel" 73 11 27 := ⟨_, _, _, rfl, by decide, jw_863, rfl⟩
theorem jf_Mod_76 : jm_fR "CodeCoverModel" 76 11 28 := ⟨_, _, _, rfl, by decide, jw_864, rfl⟩
theorem jf_Mod_79 : jm_fR "CodeCoverModel" 79 11 29 := ⟨_, _, _, rfl, by decide, jw_865, rfl⟩
theorem jf_Mod_82 : jm_fR "CodeCoverModel" 82 11 30 := ⟨_, _, _, rfl, by decide, jw_866, rfl⟩
theorem jf_Mod_85 : jm_fR "CodeCoverModel" 85 11 31 := ⟨_, _, _, rfl, by decide, jw_867, rfl⟩
theorem jf_Mod_231 : jm_fI "CodeCoverModel" 231 11 32 := ⟨_, _, _, rfl, by decide, jw_868, by decide⟩
theorem jp_Mod_231 : jm_pI "CodeCoverModel" 231 11 32 := ⟨_, _, _, rfl, by decide, jw_868, rfl, rfl⟩
theorem jf_Mod_88 : jm_fR "CodeCoverModel" 88 11 33 := ⟨_, _, _, rfl, by decide, jw_869, rfl⟩
theorem jf_Mod_91 : jm_fR "CodeCoverModel" 91 11 34 := ⟨_, _, _, rfl, by decide, jw_870, rfl⟩
theorem jf_Mod_94 : jm_fR "CodeCoverModel" 94 11 35 := ⟨_, _, _, rfl, by decide, jw_871, rfl⟩
theorem jf_Mod_251 : jm_fI "CodeCoverModel" 251 11 36 := ⟨_, _, _, rfl, by decide, jw_872, by decide⟩
theorem jp_Mod_251 : jm_pI "CodeCoverModel" 251 11 36 := ⟨_, _, _, rfl, by decide, jw_872, rfl, rfl⟩
theorem jf_Mod_97 : jm_fR "CodeCoverModel" 97 11 37 := ⟨_, _, _, rfl, by decide, jw_873, rfl⟩
theorem jf_Mod_100 : jm_fR "CodeCoverModel" 100 11 38 := ⟨_, _, _, rfl, by decide, jw_874, rfl⟩
theorem jf_Mod_118 : jm_fI "CodeCoverModel" 118 11 39 := ⟨_, _, _, rfl, by decide, jw_875, by decide⟩
theorem jp_Mod_118 : jm_pI "CodeCoverModel" 118 11 39 := ⟨_, _, _, rfl, by decide, jw_875, rfl, rfl⟩
theorem jf_Mod_103 : jm_fR "CodeCoverModel" 103 11 40 := ⟨_, _, _, rfl, by decide, jw_876, rfl⟩
theorem jf_Mod_106 : jm_fR "CodeCoverModel" 106 11 41 := ⟨_, _, _, rfl, by decide, jw_877, rfl⟩
theorem jf_Mod_109 : jm_fR "CodeCoverModel" 109 11 42 := ⟨_, _, _, rfl, by decide, jw_878, rfl⟩
theorem jf_Mod_112 : jm_fR "CodeCoverModel" 112 11 43 := ⟨_, _, _, rfl, by decide, jw_879, rfl⟩
theorem jf_Mod_115 : jm_fR "CodeCoverModel" 115 11 44 := ⟨_, _, _, rfl, by decide, jw_880, rfl⟩
