def RL : String := "TimeNetLaw"
abbrev cL_add : ByteArray := method_3_code
def yL_add : MethodName := ⟨RL, "add", "(LTimeNet;IIII[J)I"⟩
abbrev cL_setClock : ByteArray := method_4_code
def yL_setClock : MethodName := ⟨RL, "setClock", "(LTimeNet;III[J)I"⟩
abbrev cL_setDrift : ByteArray := method_5_code
def yL_setDrift : MethodName := ⟨RL, "setDrift", "(LTimeNet;II[J)I"⟩
abbrev cL_setOffset : ByteArray := method_6_code
def yL_setOffset : MethodName := ⟨RL, "setOffset", "(LTimeNet;II[J)I"⟩
abbrev cL_link : ByteArray := method_7_code
def yL_link : MethodName := ⟨RL, "link", "(LTimeNet;IIII[J)I"⟩
abbrev cL_cut : ByteArray := method_8_code
def yL_cut : MethodName := ⟨RL, "cut", "(LTimeNet;II[J)I"⟩
abbrev cL_tell : ByteArray := method_9_code
def yL_tell : MethodName := ⟨RL, "tell", "(LTimeNet;III[J)I"⟩
abbrev cL_tick : ByteArray := method_10_code
def yL_tick : MethodName := ⟨RL, "tick", "(LTimeNet;I[J)I"⟩
abbrev cL_best : ByteArray := method_11_code
def yL_best : MethodName := ⟨RL, "best", "(LTimeNet;I[J)I"⟩
abbrev cL_steps : ByteArray := method_12_code
def yL_steps : MethodName := ⟨RL, "steps", "(LTimeNet;I[J)I"⟩
abbrev cL_parent : ByteArray := method_13_code
def yL_parent : MethodName := ⟨RL, "parent", "(LTimeNet;I[J)I"⟩
abbrev cL_port : ByteArray := method_14_code
def yL_port : MethodName := ⟨RL, "port", "(LTimeNet;II[J)I"⟩
abbrev cL_bestByGraph : ByteArray := method_15_code
def yL_bestByGraph : MethodName := ⟨RL, "bestByGraph", "(LTimeNet;I[J)I"⟩
abbrev cL_stepsByGraph : ByteArray := method_16_code
def yL_stepsByGraph : MethodName := ⟨RL, "stepsByGraph", "(LTimeNet;I[J)I"⟩
abbrev cL_offset : ByteArray := method_17_code
def yL_offset : MethodName := ⟨RL, "offset", "(LTimeNet;I[J)I"⟩
abbrev cL_rate : ByteArray := method_18_code
def yL_rate : MethodName := ⟨RL, "rate", "(LTimeNet;I[J)I"⟩
abbrev cL_spread : ByteArray := method_19_code
def yL_spread : MethodName := ⟨RL, "spread", "(LTimeNet;I[J)I"⟩
abbrev cL_law : ByteArray := code
def yL_law : MethodName := ⟨RL, "law", "([I)Z"⟩
def wsL_add_r1 : List Cond := [Cond.classLink RL 13 "java/lang/IllegalArgumentException", Cond.classLink RL 15 "java/lang/IllegalStateException", Cond.methodLink RL 7 yX2_add, Cond.instanceMethod yX2_add, Cond.selects RX2 yX2_add yX2_add, Cond.initialized RX2, Cond.code yX2_add cX2_add 6 (some .int), Cond.classLink RX2 60 "java/lang/IllegalStateException", Cond.initialized "java/lang/IllegalStateException", Cond.fieldLink RX2 49 "TimeNet" "nodeCount" "I", Cond.fieldLink RX2 9 "TimeNet" "domainOf" "[I", Cond.fieldLink RX2 13 "TimeNet" "gradeOf" "[I", Cond.fieldLink RX2 16 "TimeNet" "varianceOf" "[I", Cond.fieldLink RX2 19 "TimeNet" "driftOf" "[I", Cond.methodLink RX2 56 yX2_requireWithin, Cond.static yX2_requireWithin, Cond.code yX2_requireWithin cX2_requireWithin 3 none, Cond.classLink RX2 76 "java/lang/IllegalArgumentException", Cond.initialized "java/lang/IllegalArgumentException", Cond.methodLink RX2 67 yX2_knowOnlyItself, Cond.instanceMethod yX2_knowOnlyItself, Cond.selects RX2 yX2_knowOnlyItself yX2_knowOnlyItself, Cond.code yX2_knowOnlyItself cX2_knowOnlyItself 2 none, Cond.fieldLink RX2 39 "TimeNet" "known" "LTimeNet$Knowledge;"]
def wsL_add_r2 : List Cond := [Cond.methodLink RX2 157 yX2_rankOf, Cond.instanceMethod yX2_rankOf, Cond.selects RX2 yX2_rankOf yX2_rankOf, Cond.code yX2_rankOf cX2_rankOf 2 (some .int), Cond.instanceMethod yX0_start, Cond.initialized RX0, Cond.selects RX0 yX0_start yX0_start, Cond.code yX0_start cX0_start 3 none, Cond.fieldLink RX0 9 "TimeNet$Knowledge" "clockNode" "[I", Cond.fieldLink RX0 15 "TimeNet$Knowledge" "clockRank" "[I", Cond.fieldLink RX0 18 "TimeNet$Knowledge" "stepsAway" "[I", Cond.fieldLink RX0 21 "TimeNet$Knowledge" "knownFrom" "[I"]
def wsL_add : List Cond := .codeWith yL_add cL_add 7 (some .int) [(0, 14, 17, 13), (0, 14, 21, 15)] :: ((wsL_add_r1 ++ wsL_add_r2) ++ wsX20 ++ wsX00 ++ (vx_atS RX2 64 "java/lang/IllegalStateException" ["java/lang/RuntimeException", "java/lang/Exception"]).filter goodWord ++ (vx_atS RX2 80 "java/lang/IllegalArgumentException" ["java/lang/RuntimeException", "java/lang/Exception"]).filter goodWord)
def wsL_setClock_r1 : List Cond := [Cond.classLink RL 21 "java/lang/IndexOutOfBoundsException", Cond.classLink RL 13 "java/lang/IllegalArgumentException", Cond.methodLink RL 17 yX2_setClock, Cond.instanceMethod yX2_setClock, Cond.selects RX2 yX2_setClock yX2_setClock, Cond.initialized RX2, Cond.code yX2_setClock cX2_setClock 5 (some .int), Cond.fieldLink RX2 13 "TimeNet" "gradeOf" "[I", Cond.fieldLink RX2 16 "TimeNet" "varianceOf" "[I", Cond.methodLink RX2 71 yX2_requireNode, Cond.instanceMethod yX2_requireNode, Cond.selects RX2 yX2_requireNode yX2_requireNode, Cond.code yX2_requireNode cX2_requireNode 2 none, Cond.classLink RX2 148 "java/lang/IndexOutOfBoundsException", Cond.initialized "java/lang/IndexOutOfBoundsException", Cond.methodLink RX2 144 yX2_isNode, Cond.instanceMethod yX2_isNode, Cond.selects RX2 yX2_isNode yX2_isNode, Cond.code yX2_isNode cX2_isNode 2 (some .boolean), Cond.fieldLink RX2 49 "TimeNet" "nodeCount" "I", Cond.methodLink RX2 56 yX2_requireWithin, Cond.static yX2_requireWithin, Cond.code yX2_requireWithin cX2_requireWithin 3 none, Cond.classLink RX2 76 "java/lang/IllegalArgumentException"]
def wsL_setClock_r2 : List Cond := [Cond.initialized "java/lang/IllegalArgumentException"]
def wsL_setClock : List Cond := .codeWith yL_setClock cL_setClock 6 (some .int) [(0, 12, 15, 21), (0, 12, 19, 13)] :: ((wsL_setClock_r1 ++ wsL_setClock_r2) ++ wsX20 ++ (vx_atS RX2 152 "java/lang/IndexOutOfBoundsException" ["java/lang/RuntimeException", "java/lang/Exception"]).filter goodWord ++ (vx_atS RX2 80 "java/lang/IllegalArgumentException" ["java/lang/RuntimeException", "java/lang/Exception"]).filter goodWord)
def wsL_setDrift : List Cond := .codeWith yL_setDrift cL_setDrift 5 (some .int) [(0, 10, 13, 21), (0, 10, 17, 13)] :: ([.classLink RL 21 "java/lang/IndexOutOfBoundsException", .classLink RL 13 "java/lang/IllegalArgumentException", .methodLink RL 23 yX2_setDrift, .instanceMethod yX2_setDrift, .selects RX2 yX2_setDrift yX2_setDrift, .initialized RX2, .code yX2_setDrift cX2_setDrift 4 (some .int), .fieldLink RX2 19 "TimeNet" "driftOf" "[I", .methodLink RX2 71 yX2_requireNode, .instanceMethod yX2_requireNode, .selects RX2 yX2_requireNode yX2_requireNode, .code yX2_requireNode cX2_requireNode 2 none, .classLink RX2 148 "java/lang/IndexOutOfBoundsException", .initialized "java/lang/IndexOutOfBoundsException", .methodLink RX2 144 yX2_isNode, .instanceMethod yX2_isNode, .selects RX2 yX2_isNode yX2_isNode, .code yX2_isNode cX2_isNode 2 (some .boolean), .fieldLink RX2 49 "TimeNet" "nodeCount" "I", .methodLink RX2 56 yX2_requireWithin, .static yX2_requireWithin, .code yX2_requireWithin cX2_requireWithin 3 none, .classLink RX2 76 "java/lang/IllegalArgumentException", .initialized "java/lang/IllegalArgumentException"] ++ wsX20 ++ (vx_atS RX2 152 "java/lang/IndexOutOfBoundsException" ["java/lang/RuntimeException", "java/lang/Exception"]).filter goodWord ++ (vx_atS RX2 80 "java/lang/IllegalArgumentException" ["java/lang/RuntimeException", "java/lang/Exception"]).filter goodWord)
def wsL_setOffset_r1 : List Cond := [Cond.classLink RL 21 "java/lang/IndexOutOfBoundsException", Cond.classLink RL 13 "java/lang/IllegalArgumentException", Cond.methodLink RL 27 yX2_setOffset, Cond.instanceMethod yX2_setOffset, Cond.selects RX2 yX2_setOffset yX2_setOffset, Cond.initialized RX2, Cond.code yX2_setOffset cX2_setOffset 5 (some .long), Cond.constant RX2 74 (-1000000), Cond.constant RX2 75 (1000000), Cond.fieldLink RX2 22 "TimeNet" "offsetOf" "[J", Cond.methodLink RX2 71 yX2_requireNode, Cond.instanceMethod yX2_requireNode, Cond.selects RX2 yX2_requireNode yX2_requireNode, Cond.code yX2_requireNode cX2_requireNode 2 none, Cond.classLink RX2 148 "java/lang/IndexOutOfBoundsException", Cond.initialized "java/lang/IndexOutOfBoundsException", Cond.methodLink RX2 144 yX2_isNode, Cond.instanceMethod yX2_isNode, Cond.selects RX2 yX2_isNode yX2_isNode, Cond.code yX2_isNode cX2_isNode 2 (some .boolean), Cond.fieldLink RX2 49 "TimeNet" "nodeCount" "I", Cond.methodLink RX2 56 yX2_requireWithin, Cond.static yX2_requireWithin, Cond.code yX2_requireWithin cX2_requireWithin 3 none]
def wsL_setOffset_r2 : List Cond := [Cond.classLink RX2 76 "java/lang/IllegalArgumentException", Cond.initialized "java/lang/IllegalArgumentException"]
def wsL_setOffset : List Cond := .codeWith yL_setOffset cL_setOffset 5 (some .int) [(0, 9, 12, 21), (0, 9, 16, 13)] :: ((wsL_setOffset_r1 ++ wsL_setOffset_r2) ++ wsX20 ++ (vx_atS RX2 152 "java/lang/IndexOutOfBoundsException" ["java/lang/RuntimeException", "java/lang/Exception"]).filter goodWord ++ (vx_atS RX2 80 "java/lang/IllegalArgumentException" ["java/lang/RuntimeException", "java/lang/Exception"]).filter goodWord)
def wsL_link_r1 : List Cond := [Cond.classLink RL 21 "java/lang/IndexOutOfBoundsException", Cond.classLink RL 13 "java/lang/IllegalArgumentException", Cond.classLink RL 15 "java/lang/IllegalStateException", Cond.methodLink RL 31 yX2_link, Cond.instanceMethod yX2_link, Cond.selects RX2 yX2_link yX2_link, Cond.initialized RX2, Cond.code yX2_link cX2_link 5 (some .int), Cond.classLink RX2 76 "java/lang/IllegalArgumentException", Cond.initialized "java/lang/IllegalArgumentException", Cond.classLink RX2 60 "java/lang/IllegalStateException", Cond.initialized "java/lang/IllegalStateException", Cond.constant RX2 81 (100000), Cond.fieldLink RX2 32 "TimeNet" "wires" "LTimeNet$Wires;", Cond.methodLink RX2 71 yX2_requireNode, Cond.instanceMethod yX2_requireNode, Cond.selects RX2 yX2_requireNode yX2_requireNode, Cond.code yX2_requireNode cX2_requireNode 2 none, Cond.classLink RX2 148 "java/lang/IndexOutOfBoundsException", Cond.initialized "java/lang/IndexOutOfBoundsException", Cond.methodLink RX2 144 yX2_isNode, Cond.instanceMethod yX2_isNode, Cond.selects RX2 yX2_isNode yX2_isNode, Cond.code yX2_isNode cX2_isNode 2 (some .boolean)]
def wsL_link_r2 : List Cond := [Cond.fieldLink RX2 49 "TimeNet" "nodeCount" "I", Cond.methodLink RX2 56 yX2_requireWithin, Cond.static yX2_requireWithin, Cond.code yX2_requireWithin cX2_requireWithin 3 none, Cond.instanceMethod yX1_areLinked, Cond.initialized RX1, Cond.selects RX1 yX1_areLinked yX1_areLinked, Cond.code yX1_areLinked cX1_areLinked 3 (some .boolean), Cond.fieldLink RX1 9 "TimeNet$Wires" "laid" "[Z", Cond.methodLink RX1 26 yX1_place, Cond.static yX1_place, Cond.code yX1_place cX1_place 2 (some .int), Cond.instanceMethod yX1_lay, Cond.selects RX1 yX1_lay yX1_lay, Cond.code yX1_lay cX1_lay 5 none, Cond.fieldLink RX1 15 "TimeNet$Wires" "delay" "[I", Cond.fieldLink RX1 22 "TimeNet$Wires" "count" "I", Cond.methodLink RX1 30 yX1_noteDifference, Cond.instanceMethod yX1_noteDifference, Cond.selects RX1 yX1_noteDifference yX1_noteDifference, Cond.code yX1_noteDifference cX1_noteDifference 5 (some .int), Cond.fieldLink RX1 19 "TimeNet$Wires" "told" "[I"]
def wsL_link : List Cond := .codeWith yL_link cL_link 7 (some .int) [(0, 14, 17, 21), (0, 14, 21, 13), (0, 14, 25, 15)] :: ((wsL_link_r1 ++ wsL_link_r2) ++ wsX20 ++ wsX10 ++ (vx_atS RX2 80 "java/lang/IllegalArgumentException" ["java/lang/RuntimeException", "java/lang/Exception"]).filter goodWord ++ (vx_atS RX2 64 "java/lang/IllegalStateException" ["java/lang/RuntimeException", "java/lang/Exception"]).filter goodWord ++ (vx_atS RX2 152 "java/lang/IndexOutOfBoundsException" ["java/lang/RuntimeException", "java/lang/Exception"]).filter goodWord)
def wsL_cut_r1 : List Cond := [Cond.classLink RL 21 "java/lang/IndexOutOfBoundsException", Cond.classLink RL 15 "java/lang/IllegalStateException", Cond.methodLink RL 34 yX2_cut, Cond.instanceMethod yX2_cut, Cond.selects RX2 yX2_cut yX2_cut, Cond.initialized RX2, Cond.code yX2_cut cX2_cut 3 (some .int), Cond.fieldLink RX2 32 "TimeNet" "wires" "LTimeNet$Wires;", Cond.methodLink RX2 71 yX2_requireNode, Cond.instanceMethod yX2_requireNode, Cond.selects RX2 yX2_requireNode yX2_requireNode, Cond.code yX2_requireNode cX2_requireNode 2 none, Cond.classLink RX2 148 "java/lang/IndexOutOfBoundsException", Cond.initialized "java/lang/IndexOutOfBoundsException", Cond.methodLink RX2 144 yX2_isNode, Cond.instanceMethod yX2_isNode, Cond.selects RX2 yX2_isNode yX2_isNode, Cond.code yX2_isNode cX2_isNode 2 (some .boolean), Cond.fieldLink RX2 49 "TimeNet" "nodeCount" "I", Cond.methodLink RX2 95 yX2_requireLinked, Cond.instanceMethod yX2_requireLinked, Cond.selects RX2 yX2_requireLinked yX2_requireLinked, Cond.code yX2_requireLinked cX2_requireLinked 3 none, Cond.classLink RX2 60 "java/lang/IllegalStateException"]
def wsL_cut_r2 : List Cond := [Cond.initialized "java/lang/IllegalStateException", Cond.instanceMethod yX1_areLinked, Cond.initialized RX1, Cond.selects RX1 yX1_areLinked yX1_areLinked, Cond.code yX1_areLinked cX1_areLinked 3 (some .boolean), Cond.fieldLink RX1 9 "TimeNet$Wires" "laid" "[Z", Cond.methodLink RX1 26 yX1_place, Cond.static yX1_place, Cond.code yX1_place cX1_place 2 (some .int), Cond.instanceMethod yX1_remove, Cond.selects RX1 yX1_remove yX1_remove, Cond.code yX1_remove cX1_remove 3 none, Cond.fieldLink RX1 22 "TimeNet$Wires" "count" "I", Cond.methodLink RX2 102 yX2_forgetParent, Cond.instanceMethod yX2_forgetParent, Cond.selects RX2 yX2_forgetParent yX2_forgetParent, Cond.code yX2_forgetParent cX2_forgetParent 3 none, Cond.fieldLink RX2 39 "TimeNet" "known" "LTimeNet$Knowledge;", Cond.methodLink RX2 67 yX2_knowOnlyItself, Cond.instanceMethod yX2_knowOnlyItself, Cond.selects RX2 yX2_knowOnlyItself yX2_knowOnlyItself, Cond.code yX2_knowOnlyItself cX2_knowOnlyItself 2 none, Cond.methodLink RX2 157 yX2_rankOf, Cond.instanceMethod yX2_rankOf]
def wsL_cut_r3 : List Cond := [Cond.selects RX2 yX2_rankOf yX2_rankOf, Cond.code yX2_rankOf cX2_rankOf 2 (some .int), Cond.fieldLink RX2 13 "TimeNet" "gradeOf" "[I", Cond.fieldLink RX2 16 "TimeNet" "varianceOf" "[I", Cond.instanceMethod yX0_start, Cond.initialized RX0, Cond.selects RX0 yX0_start yX0_start, Cond.code yX0_start cX0_start 3 none, Cond.fieldLink RX0 9 "TimeNet$Knowledge" "clockNode" "[I", Cond.fieldLink RX0 15 "TimeNet$Knowledge" "clockRank" "[I", Cond.fieldLink RX0 18 "TimeNet$Knowledge" "stepsAway" "[I", Cond.fieldLink RX0 21 "TimeNet$Knowledge" "knownFrom" "[I"]
def wsL_cut : List Cond := .codeWith yL_cut cL_cut 5 (some .int) [(0, 10, 13, 21), (0, 10, 17, 15)] :: ((wsL_cut_r1 ++ (wsL_cut_r2 ++ wsL_cut_r3)) ++ wsX20 ++ wsX10 ++ wsX00 ++ (vx_atS RX2 152 "java/lang/IndexOutOfBoundsException" ["java/lang/RuntimeException", "java/lang/Exception"]).filter goodWord ++ (vx_atS RX2 64 "java/lang/IllegalStateException" ["java/lang/RuntimeException", "java/lang/Exception"]).filter goodWord)
def wsL_tell_r1 : List Cond := [Cond.classLink RL 21 "java/lang/IndexOutOfBoundsException", Cond.classLink RL 13 "java/lang/IllegalArgumentException", Cond.classLink RL 15 "java/lang/IllegalStateException", Cond.methodLink RL 37 yX2_tell, Cond.instanceMethod yX2_tell, Cond.selects RX2 yX2_tell yX2_tell, Cond.initialized RX2, Cond.code yX2_tell cX2_tell 4 (some .int), Cond.constant RX2 105 (-100000), Cond.constant RX2 81 (100000), Cond.fieldLink RX2 32 "TimeNet" "wires" "LTimeNet$Wires;", Cond.methodLink RX2 71 yX2_requireNode, Cond.instanceMethod yX2_requireNode, Cond.selects RX2 yX2_requireNode yX2_requireNode, Cond.code yX2_requireNode cX2_requireNode 2 none, Cond.classLink RX2 148 "java/lang/IndexOutOfBoundsException", Cond.initialized "java/lang/IndexOutOfBoundsException", Cond.methodLink RX2 144 yX2_isNode, Cond.instanceMethod yX2_isNode, Cond.selects RX2 yX2_isNode yX2_isNode, Cond.code yX2_isNode cX2_isNode 2 (some .boolean), Cond.fieldLink RX2 49 "TimeNet" "nodeCount" "I", Cond.methodLink RX2 56 yX2_requireWithin, Cond.static yX2_requireWithin]
def wsL_tell_r2 : List Cond := [Cond.code yX2_requireWithin cX2_requireWithin 3 none, Cond.classLink RX2 76 "java/lang/IllegalArgumentException", Cond.initialized "java/lang/IllegalArgumentException", Cond.methodLink RX2 95 yX2_requireLinked, Cond.instanceMethod yX2_requireLinked, Cond.selects RX2 yX2_requireLinked yX2_requireLinked, Cond.code yX2_requireLinked cX2_requireLinked 3 none, Cond.classLink RX2 60 "java/lang/IllegalStateException", Cond.initialized "java/lang/IllegalStateException", Cond.instanceMethod yX1_areLinked, Cond.initialized RX1, Cond.selects RX1 yX1_areLinked yX1_areLinked, Cond.code yX1_areLinked cX1_areLinked 3 (some .boolean), Cond.fieldLink RX1 9 "TimeNet$Wires" "laid" "[Z", Cond.methodLink RX1 26 yX1_place, Cond.static yX1_place, Cond.code yX1_place cX1_place 2 (some .int), Cond.instanceMethod yX1_noteDifference, Cond.selects RX1 yX1_noteDifference yX1_noteDifference, Cond.code yX1_noteDifference cX1_noteDifference 5 (some .int), Cond.fieldLink RX1 19 "TimeNet$Wires" "told" "[I"]
def wsL_tell : List Cond := .codeWith yL_tell cL_tell 6 (some .int) [(0, 12, 15, 21), (0, 12, 19, 13), (0, 12, 23, 15)] :: ((wsL_tell_r1 ++ wsL_tell_r2) ++ wsX20 ++ wsX10 ++ (vx_atS RX2 152 "java/lang/IndexOutOfBoundsException" ["java/lang/RuntimeException", "java/lang/Exception"]).filter goodWord ++ (vx_atS RX2 80 "java/lang/IllegalArgumentException" ["java/lang/RuntimeException", "java/lang/Exception"]).filter goodWord ++ (vx_atS RX2 64 "java/lang/IllegalStateException" ["java/lang/RuntimeException", "java/lang/Exception"]).filter goodWord)
def wsL_tick_r1 : List Cond := [Cond.classLink RL 13 "java/lang/IllegalArgumentException", Cond.methodLink RL 40 yX2_tick, Cond.instanceMethod yX2_tick, Cond.selects RX2 yX2_tick yX2_tick, Cond.initialized RX2, Cond.code yX2_tick cX2_tick 3 (some .int), Cond.fieldLink RX2 53 "TimeNet" "tickCount" "I", Cond.methodLink RX2 56 yX2_requireWithin, Cond.static yX2_requireWithin, Cond.code yX2_requireWithin cX2_requireWithin 3 none, Cond.classLink RX2 76 "java/lang/IllegalArgumentException", Cond.initialized "java/lang/IllegalArgumentException", Cond.methodLink RX2 110 yX2_passOneTick, Cond.instanceMethod yX2_passOneTick, Cond.selects RX2 yX2_passOneTick yX2_passOneTick, Cond.code yX2_passOneTick cX2_passOneTick 3 none, Cond.fieldLink RX2 49 "TimeNet" "nodeCount" "I", Cond.fieldLink RX2 22 "TimeNet" "offsetOf" "[J", Cond.fieldLink RX2 19 "TimeNet" "driftOf" "[I", Cond.fieldLink RX2 26 "TimeNet" "rateOf" "[J", Cond.fieldLink RX2 39 "TimeNet" "known" "LTimeNet$Knowledge;", Cond.methodLink RX2 180 yX2_announce, Cond.instanceMethod yX2_announce, Cond.selects RX2 yX2_announce yX2_announce]
def wsL_tick_r2 : List Cond := [Cond.code yX2_announce cX2_announce 2 none, Cond.fieldLink RX2 43 "TimeNet" "heard" "LTimeNet$Knowledge;", Cond.instanceMethod yX0_copyFrom, Cond.initialized RX0, Cond.selects RX0 yX0_copyFrom yX0_copyFrom, Cond.code yX0_copyFrom cX0_copyFrom 3 none, Cond.fieldLink RX0 9 "TimeNet$Knowledge" "clockNode" "[I", Cond.fieldLink RX0 15 "TimeNet$Knowledge" "clockRank" "[I", Cond.fieldLink RX0 18 "TimeNet$Knowledge" "stepsAway" "[I", Cond.fieldLink RX0 21 "TimeNet$Knowledge" "knownFrom" "[I", Cond.methodLink RX2 167 yX2_listen, Cond.instanceMethod yX2_listen, Cond.selects RX2 yX2_listen yX2_listen, Cond.code yX2_listen cX2_listen 3 none, Cond.methodLink RX2 67 yX2_knowOnlyItself, Cond.instanceMethod yX2_knowOnlyItself, Cond.selects RX2 yX2_knowOnlyItself yX2_knowOnlyItself, Cond.code yX2_knowOnlyItself cX2_knowOnlyItself 2 none, Cond.methodLink RX2 157 yX2_rankOf, Cond.instanceMethod yX2_rankOf, Cond.selects RX2 yX2_rankOf yX2_rankOf, Cond.code yX2_rankOf cX2_rankOf 2 (some .int), Cond.fieldLink RX2 13 "TimeNet" "gradeOf" "[I", Cond.fieldLink RX2 16 "TimeNet" "varianceOf" "[I"]
def wsL_tick_r3 : List Cond := [Cond.instanceMethod yX0_start, Cond.selects RX0 yX0_start yX0_start, Cond.code yX0_start cX0_start 3 none, Cond.methodLink RX2 122 yX2_areNeighbours, Cond.instanceMethod yX2_areNeighbours, Cond.selects RX2 yX2_areNeighbours yX2_areNeighbours, Cond.code yX2_areNeighbours cX2_areNeighbours 3 (some .boolean), Cond.fieldLink RX2 9 "TimeNet" "domainOf" "[I", Cond.fieldLink RX2 32 "TimeNet" "wires" "LTimeNet$Wires;", Cond.instanceMethod yX1_areLinked, Cond.initialized RX1, Cond.selects RX1 yX1_areLinked yX1_areLinked, Cond.code yX1_areLinked cX1_areLinked 3 (some .boolean), Cond.fieldLink RX1 9 "TimeNet$Wires" "laid" "[Z", Cond.methodLink RX1 26 yX1_place, Cond.static yX1_place, Cond.code yX1_place cX1_place 2 (some .int), Cond.instanceMethod yX0_reaches, Cond.selects RX0 yX0_reaches yX0_reaches, Cond.code yX0_reaches cX0_reaches 3 (some .boolean), Cond.instanceMethod yX0_takeIfBetter, Cond.selects RX0 yX0_takeIfBetter yX0_takeIfBetter, Cond.code yX0_takeIfBetter cX0_takeIfBetter 6 none, Cond.methodLink RX2 183 yX2_steer]
def wsL_tick_r4 : List Cond := [Cond.instanceMethod yX2_steer, Cond.selects RX2 yX2_steer yX2_steer, Cond.code yX2_steer cX2_steer 5 none, Cond.constantLong RX2 190 (2), Cond.constantLong RX2 192 (16), Cond.methodLink RX2 144 yX2_isNode, Cond.instanceMethod yX2_isNode, Cond.selects RX2 yX2_isNode yX2_isNode, Cond.code yX2_isNode cX2_isNode 2 (some .boolean), Cond.instanceMethod yX1_errorFrom, Cond.selects RX1 yX1_errorFrom yX1_errorFrom, Cond.code yX1_errorFrom cX1_errorFrom 5 (some .int), Cond.fieldLink RX1 15 "TimeNet$Wires" "delay" "[I", Cond.fieldLink RX1 19 "TimeNet$Wires" "told" "[I"]
def wsL_tick : List Cond := .codeWith yL_tick cL_tick 4 (some .int) [(0, 9, 12, 13)] :: ((wsL_tick_r1 ++ (wsL_tick_r2 ++ (wsL_tick_r3 ++ wsL_tick_r4))) ++ wsX20 ++ wsX00 ++ wsX10 ++ (vx_atS RX2 80 "java/lang/IllegalArgumentException" ["java/lang/RuntimeException", "java/lang/Exception"]).filter goodWord)
def wsL_best : List Cond := .codeWith yL_best cL_best 4 (some .int) [(0, 9, 12, 21)] :: ([.classLink RL 21 "java/lang/IndexOutOfBoundsException", .methodLink RL 44 yX2_best, .instanceMethod yX2_best, .selects RX2 yX2_best yX2_best, .initialized RX2, .code yX2_best cX2_best 2 (some .int), .fieldLink RX2 39 "TimeNet" "known" "LTimeNet$Knowledge;", .methodLink RX2 71 yX2_requireNode, .instanceMethod yX2_requireNode, .selects RX2 yX2_requireNode yX2_requireNode, .code yX2_requireNode cX2_requireNode 2 none, .classLink RX2 148 "java/lang/IndexOutOfBoundsException", .initialized "java/lang/IndexOutOfBoundsException", .methodLink RX2 144 yX2_isNode, .instanceMethod yX2_isNode, .selects RX2 yX2_isNode yX2_isNode, .code yX2_isNode cX2_isNode 2 (some .boolean), .fieldLink RX2 49 "TimeNet" "nodeCount" "I"] ++ wsX20 ++ wsX00 ++ (vx_atS RX2 152 "java/lang/IndexOutOfBoundsException" ["java/lang/RuntimeException", "java/lang/Exception"]).filter goodWord)
def wsL_steps : List Cond := .codeWith yL_steps cL_steps 4 (some .int) [(0, 9, 12, 21)] :: ([.classLink RL 21 "java/lang/IndexOutOfBoundsException", .methodLink RL 47 yX2_steps, .instanceMethod yX2_steps, .selects RX2 yX2_steps yX2_steps, .initialized RX2, .code yX2_steps cX2_steps 2 (some .int), .fieldLink RX2 39 "TimeNet" "known" "LTimeNet$Knowledge;", .methodLink RX2 71 yX2_requireNode, .instanceMethod yX2_requireNode, .selects RX2 yX2_requireNode yX2_requireNode, .code yX2_requireNode cX2_requireNode 2 none, .classLink RX2 148 "java/lang/IndexOutOfBoundsException", .initialized "java/lang/IndexOutOfBoundsException", .methodLink RX2 144 yX2_isNode, .instanceMethod yX2_isNode, .selects RX2 yX2_isNode yX2_isNode, .code yX2_isNode cX2_isNode 2 (some .boolean), .fieldLink RX2 49 "TimeNet" "nodeCount" "I"] ++ wsX20 ++ wsX00 ++ (vx_atS RX2 152 "java/lang/IndexOutOfBoundsException" ["java/lang/RuntimeException", "java/lang/Exception"]).filter goodWord)
def wsL_parent : List Cond := .codeWith yL_parent cL_parent 4 (some .int) [(0, 9, 12, 21)] :: ([.classLink RL 21 "java/lang/IndexOutOfBoundsException", .methodLink RL 50 yX2_parent, .instanceMethod yX2_parent, .selects RX2 yX2_parent yX2_parent, .initialized RX2, .code yX2_parent cX2_parent 2 (some .int), .fieldLink RX2 39 "TimeNet" "known" "LTimeNet$Knowledge;", .methodLink RX2 71 yX2_requireNode, .instanceMethod yX2_requireNode, .selects RX2 yX2_requireNode yX2_requireNode, .code yX2_requireNode cX2_requireNode 2 none, .classLink RX2 148 "java/lang/IndexOutOfBoundsException", .initialized "java/lang/IndexOutOfBoundsException", .methodLink RX2 144 yX2_isNode, .instanceMethod yX2_isNode, .selects RX2 yX2_isNode yX2_isNode, .code yX2_isNode cX2_isNode 2 (some .boolean), .fieldLink RX2 49 "TimeNet" "nodeCount" "I"] ++ wsX20 ++ wsX00 ++ (vx_atS RX2 152 "java/lang/IndexOutOfBoundsException" ["java/lang/RuntimeException", "java/lang/Exception"]).filter goodWord)
def wsL_port_r1 : List Cond := [Cond.classLink RL 21 "java/lang/IndexOutOfBoundsException", Cond.methodLink RL 53 yX2_port, Cond.instanceMethod yX2_port, Cond.selects RX2 yX2_port yX2_port, Cond.initialized RX2, Cond.code yX2_port cX2_port 3 (some .int), Cond.fieldLink RX2 39 "TimeNet" "known" "LTimeNet$Knowledge;", Cond.methodLink RX2 71 yX2_requireNode, Cond.instanceMethod yX2_requireNode, Cond.selects RX2 yX2_requireNode yX2_requireNode, Cond.code yX2_requireNode cX2_requireNode 2 none, Cond.classLink RX2 148 "java/lang/IndexOutOfBoundsException", Cond.initialized "java/lang/IndexOutOfBoundsException", Cond.methodLink RX2 144 yX2_isNode, Cond.instanceMethod yX2_isNode, Cond.selects RX2 yX2_isNode yX2_isNode, Cond.code yX2_isNode cX2_isNode 2 (some .boolean), Cond.fieldLink RX2 49 "TimeNet" "nodeCount" "I", Cond.methodLink RX2 122 yX2_areNeighbours, Cond.instanceMethod yX2_areNeighbours, Cond.selects RX2 yX2_areNeighbours yX2_areNeighbours, Cond.code yX2_areNeighbours cX2_areNeighbours 3 (some .boolean), Cond.fieldLink RX2 9 "TimeNet" "domainOf" "[I", Cond.fieldLink RX2 32 "TimeNet" "wires" "LTimeNet$Wires;"]
def wsL_port_r2 : List Cond := [Cond.instanceMethod yX1_areLinked, Cond.initialized RX1, Cond.selects RX1 yX1_areLinked yX1_areLinked, Cond.code yX1_areLinked cX1_areLinked 3 (some .boolean), Cond.fieldLink RX1 9 "TimeNet$Wires" "laid" "[Z", Cond.methodLink RX1 26 yX1_place, Cond.static yX1_place, Cond.code yX1_place cX1_place 2 (some .int), Cond.methodLink RX2 125 yX2_isNearer, Cond.instanceMethod yX2_isNearer, Cond.selects RX2 yX2_isNearer yX2_isNearer, Cond.code yX2_isNearer cX2_isNearer 5 (some .boolean)]
def wsL_port : List Cond := .codeWith yL_port cL_port 5 (some .int) [(0, 10, 13, 21)] :: ((wsL_port_r1 ++ wsL_port_r2) ++ wsX20 ++ wsX00 ++ wsX10 ++ (vx_atS RX2 152 "java/lang/IndexOutOfBoundsException" ["java/lang/RuntimeException", "java/lang/Exception"]).filter goodWord)
def wsL_bestByGraph_r1 : List Cond := [Cond.classLink RL 21 "java/lang/IndexOutOfBoundsException", Cond.methodLink RL 56 yX2_bestByGraph, Cond.instanceMethod yX2_bestByGraph, Cond.selects RX2 yX2_bestByGraph yX2_bestByGraph, Cond.initialized RX2, Cond.code yX2_bestByGraph cX2_bestByGraph 2 (some .int), Cond.methodLink RX2 71 yX2_requireNode, Cond.instanceMethod yX2_requireNode, Cond.selects RX2 yX2_requireNode yX2_requireNode, Cond.code yX2_requireNode cX2_requireNode 2 none, Cond.classLink RX2 148 "java/lang/IndexOutOfBoundsException", Cond.initialized "java/lang/IndexOutOfBoundsException", Cond.methodLink RX2 144 yX2_isNode, Cond.instanceMethod yX2_isNode, Cond.selects RX2 yX2_isNode yX2_isNode, Cond.code yX2_isNode cX2_isNode 2 (some .boolean), Cond.fieldLink RX2 49 "TimeNet" "nodeCount" "I", Cond.methodLink RX2 128 yX2_measureDistances, Cond.instanceMethod yX2_measureDistances, Cond.selects RX2 yX2_measureDistances yX2_measureDistances, Cond.code yX2_measureDistances cX2_measureDistances 4 none, Cond.fieldLink RX2 46 "TimeNet" "distanceTo" "[I", Cond.methodLink RX2 177 yX2_reachNeighbours, Cond.instanceMethod yX2_reachNeighbours]
def wsL_bestByGraph_r2 : List Cond := [Cond.selects RX2 yX2_reachNeighbours yX2_reachNeighbours, Cond.code yX2_reachNeighbours cX2_reachNeighbours 4 none, Cond.methodLink RX2 122 yX2_areNeighbours, Cond.instanceMethod yX2_areNeighbours, Cond.selects RX2 yX2_areNeighbours yX2_areNeighbours, Cond.code yX2_areNeighbours cX2_areNeighbours 3 (some .boolean), Cond.fieldLink RX2 9 "TimeNet" "domainOf" "[I", Cond.fieldLink RX2 32 "TimeNet" "wires" "LTimeNet$Wires;", Cond.instanceMethod yX1_areLinked, Cond.initialized RX1, Cond.selects RX1 yX1_areLinked yX1_areLinked, Cond.code yX1_areLinked cX1_areLinked 3 (some .boolean), Cond.fieldLink RX1 9 "TimeNet$Wires" "laid" "[Z", Cond.methodLink RX1 26 yX1_place, Cond.static yX1_place, Cond.code yX1_place cX1_place 2 (some .int), Cond.methodLink RX2 131 yX2_bestInReach, Cond.instanceMethod yX2_bestInReach, Cond.selects RX2 yX2_bestInReach yX2_bestInReach, Cond.code yX2_bestInReach cX2_bestInReach 4 (some .int), Cond.methodLink RX2 157 yX2_rankOf, Cond.instanceMethod yX2_rankOf, Cond.selects RX2 yX2_rankOf yX2_rankOf, Cond.code yX2_rankOf cX2_rankOf 2 (some .int)]
def wsL_bestByGraph_r3 : List Cond := [Cond.fieldLink RX2 13 "TimeNet" "gradeOf" "[I", Cond.fieldLink RX2 16 "TimeNet" "varianceOf" "[I"]
def wsL_bestByGraph : List Cond := .codeWith yL_bestByGraph cL_bestByGraph 4 (some .int) [(0, 9, 12, 21)] :: ((wsL_bestByGraph_r1 ++ (wsL_bestByGraph_r2 ++ wsL_bestByGraph_r3)) ++ wsX20 ++ wsX10 ++ (vx_atS RX2 152 "java/lang/IndexOutOfBoundsException" ["java/lang/RuntimeException", "java/lang/Exception"]).filter goodWord)
def wsL_stepsByGraph_r1 : List Cond := [Cond.classLink RL 21 "java/lang/IndexOutOfBoundsException", Cond.methodLink RL 59 yX2_stepsByGraph, Cond.instanceMethod yX2_stepsByGraph, Cond.selects RX2 yX2_stepsByGraph yX2_stepsByGraph, Cond.initialized RX2, Cond.code yX2_stepsByGraph cX2_stepsByGraph 2 (some .int), Cond.fieldLink RX2 46 "TimeNet" "distanceTo" "[I", Cond.methodLink RX2 71 yX2_requireNode, Cond.instanceMethod yX2_requireNode, Cond.selects RX2 yX2_requireNode yX2_requireNode, Cond.code yX2_requireNode cX2_requireNode 2 none, Cond.classLink RX2 148 "java/lang/IndexOutOfBoundsException", Cond.initialized "java/lang/IndexOutOfBoundsException", Cond.methodLink RX2 144 yX2_isNode, Cond.instanceMethod yX2_isNode, Cond.selects RX2 yX2_isNode yX2_isNode, Cond.code yX2_isNode cX2_isNode 2 (some .boolean), Cond.fieldLink RX2 49 "TimeNet" "nodeCount" "I", Cond.methodLink RX2 128 yX2_measureDistances, Cond.instanceMethod yX2_measureDistances, Cond.selects RX2 yX2_measureDistances yX2_measureDistances, Cond.code yX2_measureDistances cX2_measureDistances 4 none, Cond.methodLink RX2 177 yX2_reachNeighbours, Cond.instanceMethod yX2_reachNeighbours]
def wsL_stepsByGraph_r2 : List Cond := [Cond.selects RX2 yX2_reachNeighbours yX2_reachNeighbours, Cond.code yX2_reachNeighbours cX2_reachNeighbours 4 none, Cond.methodLink RX2 122 yX2_areNeighbours, Cond.instanceMethod yX2_areNeighbours, Cond.selects RX2 yX2_areNeighbours yX2_areNeighbours, Cond.code yX2_areNeighbours cX2_areNeighbours 3 (some .boolean), Cond.fieldLink RX2 9 "TimeNet" "domainOf" "[I", Cond.fieldLink RX2 32 "TimeNet" "wires" "LTimeNet$Wires;", Cond.instanceMethod yX1_areLinked, Cond.initialized RX1, Cond.selects RX1 yX1_areLinked yX1_areLinked, Cond.code yX1_areLinked cX1_areLinked 3 (some .boolean), Cond.fieldLink RX1 9 "TimeNet$Wires" "laid" "[Z", Cond.methodLink RX1 26 yX1_place, Cond.static yX1_place, Cond.code yX1_place cX1_place 2 (some .int), Cond.methodLink RX2 131 yX2_bestInReach, Cond.instanceMethod yX2_bestInReach, Cond.selects RX2 yX2_bestInReach yX2_bestInReach, Cond.code yX2_bestInReach cX2_bestInReach 4 (some .int), Cond.methodLink RX2 157 yX2_rankOf, Cond.instanceMethod yX2_rankOf, Cond.selects RX2 yX2_rankOf yX2_rankOf, Cond.code yX2_rankOf cX2_rankOf 2 (some .int)]
def wsL_stepsByGraph_r3 : List Cond := [Cond.fieldLink RX2 13 "TimeNet" "gradeOf" "[I", Cond.fieldLink RX2 16 "TimeNet" "varianceOf" "[I"]
def wsL_stepsByGraph : List Cond := .codeWith yL_stepsByGraph cL_stepsByGraph 4 (some .int) [(0, 9, 12, 21)] :: ((wsL_stepsByGraph_r1 ++ (wsL_stepsByGraph_r2 ++ wsL_stepsByGraph_r3)) ++ wsX20 ++ wsX10 ++ (vx_atS RX2 152 "java/lang/IndexOutOfBoundsException" ["java/lang/RuntimeException", "java/lang/Exception"]).filter goodWord)
def wsL_offset : List Cond := .codeWith yL_offset cL_offset 4 (some .int) [(0, 8, 11, 21)] :: ([.classLink RL 21 "java/lang/IndexOutOfBoundsException", .methodLink RL 62 yX2_offset, .instanceMethod yX2_offset, .selects RX2 yX2_offset yX2_offset, .initialized RX2, .code yX2_offset cX2_offset 2 (some .long), .fieldLink RX2 22 "TimeNet" "offsetOf" "[J", .methodLink RX2 71 yX2_requireNode, .instanceMethod yX2_requireNode, .selects RX2 yX2_requireNode yX2_requireNode, .code yX2_requireNode cX2_requireNode 2 none, .classLink RX2 148 "java/lang/IndexOutOfBoundsException", .initialized "java/lang/IndexOutOfBoundsException", .methodLink RX2 144 yX2_isNode, .instanceMethod yX2_isNode, .selects RX2 yX2_isNode yX2_isNode, .code yX2_isNode cX2_isNode 2 (some .boolean), .fieldLink RX2 49 "TimeNet" "nodeCount" "I"] ++ wsX20 ++ (vx_atS RX2 152 "java/lang/IndexOutOfBoundsException" ["java/lang/RuntimeException", "java/lang/Exception"]).filter goodWord)
def wsL_rate : List Cond := .codeWith yL_rate cL_rate 4 (some .int) [(0, 8, 11, 21)] :: ([.classLink RL 21 "java/lang/IndexOutOfBoundsException", .methodLink RL 66 yX2_rate, .instanceMethod yX2_rate, .selects RX2 yX2_rate yX2_rate, .initialized RX2, .code yX2_rate cX2_rate 2 (some .long), .fieldLink RX2 26 "TimeNet" "rateOf" "[J", .methodLink RX2 71 yX2_requireNode, .instanceMethod yX2_requireNode, .selects RX2 yX2_requireNode yX2_requireNode, .code yX2_requireNode cX2_requireNode 2 none, .classLink RX2 148 "java/lang/IndexOutOfBoundsException", .initialized "java/lang/IndexOutOfBoundsException", .methodLink RX2 144 yX2_isNode, .instanceMethod yX2_isNode, .selects RX2 yX2_isNode yX2_isNode, .code yX2_isNode cX2_isNode 2 (some .boolean), .fieldLink RX2 49 "TimeNet" "nodeCount" "I"] ++ wsX20 ++ (vx_atS RX2 152 "java/lang/IndexOutOfBoundsException" ["java/lang/RuntimeException", "java/lang/Exception"]).filter goodWord)
def wsL_spread : List Cond := .codeWith yL_spread cL_spread 4 (some .int) [(0, 8, 11, 13)] :: ([.classLink RL 13 "java/lang/IllegalArgumentException", .methodLink RL 69 yX2_spread, .instanceMethod yX2_spread, .selects RX2 yX2_spread yX2_spread, .initialized RX2, .code yX2_spread cX2_spread 8 (some .long), .fieldLink RX2 49 "TimeNet" "nodeCount" "I", .fieldLink RX2 9 "TimeNet" "domainOf" "[I", .fieldLink RX2 22 "TimeNet" "offsetOf" "[J", .methodLink RX2 135 Lib.MathLoose.min_long.x, .static Lib.MathLoose.min_long.x, .initialized "java/lang/Math", .code Lib.MathLoose.min_long.x Lib.MathLoose.min_long.code 4 (some .long), .methodLink RX2 141 Lib.MathLoose.max_long.x, .static Lib.MathLoose.max_long.x, .code Lib.MathLoose.max_long.x Lib.MathLoose.max_long.code 4 (some .long), .methodLink RX2 56 yX2_requireWithin, .static yX2_requireWithin, .code yX2_requireWithin cX2_requireWithin 3 none, .classLink RX2 76 "java/lang/IllegalArgumentException", .initialized "java/lang/IllegalArgumentException"] ++ wsX20 ++ (vx_atS RX2 80 "java/lang/IllegalArgumentException" ["java/lang/RuntimeException", "java/lang/Exception"]).filter goodWord)
set_option maxRecDepth 20000 in
theorem ggL_add_X2_add : GoodIn wsL_add wsX2_add := goodIn_ca (goodIn_ca (goodIn_r _ [7, 8, 9, 10, 11, 12, 13, 14, 15, 16, 6, 17, 18, 19, 20, 21, 22, 23, 24, 25, 26, 27, 28, 29, 30, 31, 32, 33, 34, 35, 36, 37, 38, 39, 40, 41, 42, 43, 44, 45, 46, 47, 48, 49, 50, 51, 52] (by decide +kernel) (by decide +kernel)) (goodIn_sub (fun _ h => List.mem_cons_of_mem _ (List.mem_append_left _ (List.mem_append_right _ h))) (by decide +kernel))) (goodIn_sub (fun _ h => List.mem_cons_of_mem _ (List.mem_append_right _ h)) (by decide +kernel))
set_option maxRecDepth 20000 in
theorem gL_add_X2_add : GoodIn wsL_add (wsV RL 7 RX2 yX2_add wsX2_add) := goodIn_app (goodIn_of _ (by decide +kernel)) ggL_add_X2_add
theorem dL_add_0 : decode cL_add 0 = .ok (.aload 5, 2) := by decide +kernel
theorem dL_add_2 : decode cL_add 2 = .ok (.iconst 0, 1) := by decide +kernel
theorem dL_add_3 : decode cL_add 3 = .ok (.aload_n 0, 1) := by decide +kernel
theorem dL_add_4 : decode cL_add 4 = .ok (.iload_n 1, 1) := by decide +kernel
theorem dL_add_5 : decode cL_add 5 = .ok (.iload_n 2, 1) := by decide +kernel
theorem dL_add_6 : decode cL_add 6 = .ok (.iload_n 3, 1) := by decide +kernel
theorem dL_add_7 : decode cL_add 7 = .ok (.iload 4, 2) := by decide +kernel
theorem dL_add_9 : decode cL_add 9 = .ok (.invokevirtual 7, 3) := by decide +kernel
theorem dL_add_12 : decode cL_add 12 = .ok (.i2l, 1) := by decide +kernel
theorem dL_add_13 : decode cL_add 13 = .ok (.lastore, 1) := by decide +kernel
theorem dL_add_14 : decode cL_add 14 = .ok (.goto 11, 3) := by decide +kernel
theorem dL_add_17 : decode cL_add 17 = .ok (.astore 6, 2) := by decide +kernel
theorem dL_add_19 : decode cL_add 19 = .ok (.iconst 1, 1) := by decide +kernel
theorem dL_add_20 : decode cL_add 20 = .ok (.ireturn, 1) := by decide +kernel
theorem dL_add_21 : decode cL_add 21 = .ok (.astore 6, 2) := by decide +kernel
theorem dL_add_23 : decode cL_add 23 = .ok (.iconst 2, 1) := by decide +kernel
theorem dL_add_24 : decode cL_add 24 = .ok (.ireturn, 1) := by decide +kernel
theorem dL_add_25 : decode cL_add 25 = .ok (.iconst 0, 1) := by decide +kernel
theorem dL_add_26 : decode cL_add 26 = .ok (.ireturn, 1) := by decide +kernel
set_option maxRecDepth 20000 in
theorem ggL_setClock_X2_setClock : GoodIn wsL_setClock wsX2_setClock := goodIn_ca (goodIn_ca (goodIn_r _ [7, 8, 9, 10, 11, 12, 6, 13, 14, 15, 16, 17, 18, 19, 20, 21, 22, 23, 24, 25, 26, 27, 28, 29, 30, 31, 32, 33, 34, 35, 36, 37] (by decide +kernel) (by decide +kernel)) (goodIn_sub (fun _ h => List.mem_cons_of_mem _ (List.mem_append_left _ (List.mem_append_right _ h))) (by decide +kernel))) (goodIn_sub (fun _ h => List.mem_cons_of_mem _ (List.mem_append_right _ h)) (by decide +kernel))
set_option maxRecDepth 20000 in
theorem gL_setClock_X2_setClock : GoodIn wsL_setClock (wsV RL 17 RX2 yX2_setClock wsX2_setClock) := goodIn_app (goodIn_of _ (by decide +kernel)) ggL_setClock_X2_setClock
theorem dL_setClock_0 : decode cL_setClock 0 = .ok (.aload 4, 2) := by decide +kernel
theorem dL_setClock_2 : decode cL_setClock 2 = .ok (.iconst 0, 1) := by decide +kernel
theorem dL_setClock_3 : decode cL_setClock 3 = .ok (.aload_n 0, 1) := by decide +kernel
theorem dL_setClock_4 : decode cL_setClock 4 = .ok (.iload_n 1, 1) := by decide +kernel
theorem dL_setClock_5 : decode cL_setClock 5 = .ok (.iload_n 2, 1) := by decide +kernel
theorem dL_setClock_6 : decode cL_setClock 6 = .ok (.iload_n 3, 1) := by decide +kernel
theorem dL_setClock_7 : decode cL_setClock 7 = .ok (.invokevirtual 17, 3) := by decide +kernel
theorem dL_setClock_10 : decode cL_setClock 10 = .ok (.i2l, 1) := by decide +kernel
theorem dL_setClock_11 : decode cL_setClock 11 = .ok (.lastore, 1) := by decide +kernel
theorem dL_setClock_12 : decode cL_setClock 12 = .ok (.goto 11, 3) := by decide +kernel
theorem dL_setClock_15 : decode cL_setClock 15 = .ok (.astore 5, 2) := by decide +kernel
theorem dL_setClock_17 : decode cL_setClock 17 = .ok (.iconst 1, 1) := by decide +kernel
theorem dL_setClock_18 : decode cL_setClock 18 = .ok (.ireturn, 1) := by decide +kernel
theorem dL_setClock_19 : decode cL_setClock 19 = .ok (.astore 5, 2) := by decide +kernel
theorem dL_setClock_21 : decode cL_setClock 21 = .ok (.iconst 2, 1) := by decide +kernel
theorem dL_setClock_22 : decode cL_setClock 22 = .ok (.ireturn, 1) := by decide +kernel
theorem dL_setClock_23 : decode cL_setClock 23 = .ok (.iconst 0, 1) := by decide +kernel
theorem dL_setClock_24 : decode cL_setClock 24 = .ok (.ireturn, 1) := by decide +kernel
set_option maxRecDepth 20000 in
theorem ggL_setDrift_X2_setDrift : GoodIn wsL_setDrift wsX2_setDrift := goodIn_ca (goodIn_ca (goodIn_r _ [7, 8, 9, 10, 11, 6, 12, 13, 14, 15, 16, 17, 18, 19, 20, 21, 22, 23, 24, 25, 26, 27, 28, 29, 30, 31, 32, 33, 34, 35, 36] (by decide +kernel) (by decide +kernel)) (goodIn_sub (fun _ h => List.mem_cons_of_mem _ (List.mem_append_left _ (List.mem_append_right _ h))) (by decide +kernel))) (goodIn_sub (fun _ h => List.mem_cons_of_mem _ (List.mem_append_right _ h)) (by decide +kernel))
set_option maxRecDepth 20000 in
theorem gL_setDrift_X2_setDrift : GoodIn wsL_setDrift (wsV RL 23 RX2 yX2_setDrift wsX2_setDrift) := goodIn_app (goodIn_of _ (by decide +kernel)) ggL_setDrift_X2_setDrift
theorem dL_setDrift_0 : decode cL_setDrift 0 = .ok (.aload_n 3, 1) := by decide +kernel
theorem dL_setDrift_1 : decode cL_setDrift 1 = .ok (.iconst 0, 1) := by decide +kernel
theorem dL_setDrift_2 : decode cL_setDrift 2 = .ok (.aload_n 0, 1) := by decide +kernel
theorem dL_setDrift_3 : decode cL_setDrift 3 = .ok (.iload_n 1, 1) := by decide +kernel
theorem dL_setDrift_4 : decode cL_setDrift 4 = .ok (.iload_n 2, 1) := by decide +kernel
theorem dL_setDrift_5 : decode cL_setDrift 5 = .ok (.invokevirtual 23, 3) := by decide +kernel
theorem dL_setDrift_8 : decode cL_setDrift 8 = .ok (.i2l, 1) := by decide +kernel
theorem dL_setDrift_9 : decode cL_setDrift 9 = .ok (.lastore, 1) := by decide +kernel
theorem dL_setDrift_10 : decode cL_setDrift 10 = .ok (.goto 11, 3) := by decide +kernel
theorem dL_setDrift_13 : decode cL_setDrift 13 = .ok (.astore 4, 2) := by decide +kernel
theorem dL_setDrift_15 : decode cL_setDrift 15 = .ok (.iconst 1, 1) := by decide +kernel
theorem dL_setDrift_16 : decode cL_setDrift 16 = .ok (.ireturn, 1) := by decide +kernel
theorem dL_setDrift_17 : decode cL_setDrift 17 = .ok (.astore 4, 2) := by decide +kernel
theorem dL_setDrift_19 : decode cL_setDrift 19 = .ok (.iconst 2, 1) := by decide +kernel
theorem dL_setDrift_20 : decode cL_setDrift 20 = .ok (.ireturn, 1) := by decide +kernel
theorem dL_setDrift_21 : decode cL_setDrift 21 = .ok (.iconst 0, 1) := by decide +kernel
theorem dL_setDrift_22 : decode cL_setDrift 22 = .ok (.ireturn, 1) := by decide +kernel
set_option maxRecDepth 20000 in
theorem ggL_setOffset_X2_setOffset : GoodIn wsL_setOffset wsX2_setOffset := goodIn_ca (goodIn_ca (goodIn_r _ [7, 8, 9, 10, 11, 12, 13, 6, 14, 15, 16, 17, 18, 19, 20, 21, 22, 23, 24, 25, 26, 27, 28, 29, 30, 31, 32, 33, 34, 35, 36, 37, 38] (by decide +kernel) (by decide +kernel)) (goodIn_sub (fun _ h => List.mem_cons_of_mem _ (List.mem_append_left _ (List.mem_append_right _ h))) (by decide +kernel))) (goodIn_sub (fun _ h => List.mem_cons_of_mem _ (List.mem_append_right _ h)) (by decide +kernel))
set_option maxRecDepth 20000 in
theorem gL_setOffset_X2_setOffset : GoodIn wsL_setOffset (wsV RL 27 RX2 yX2_setOffset wsX2_setOffset) := goodIn_app (goodIn_of _ (by decide +kernel)) ggL_setOffset_X2_setOffset
theorem dL_setOffset_0 : decode cL_setOffset 0 = .ok (.aload_n 3, 1) := by decide +kernel
theorem dL_setOffset_1 : decode cL_setOffset 1 = .ok (.iconst 0, 1) := by decide +kernel
theorem dL_setOffset_2 : decode cL_setOffset 2 = .ok (.aload_n 0, 1) := by decide +kernel
theorem dL_setOffset_3 : decode cL_setOffset 3 = .ok (.iload_n 1, 1) := by decide +kernel
theorem dL_setOffset_4 : decode cL_setOffset 4 = .ok (.iload_n 2, 1) := by decide +kernel
theorem dL_setOffset_5 : decode cL_setOffset 5 = .ok (.invokevirtual 27, 3) := by decide +kernel
theorem dL_setOffset_8 : decode cL_setOffset 8 = .ok (.lastore, 1) := by decide +kernel
theorem dL_setOffset_9 : decode cL_setOffset 9 = .ok (.goto 11, 3) := by decide +kernel
theorem dL_setOffset_12 : decode cL_setOffset 12 = .ok (.astore 4, 2) := by decide +kernel
theorem dL_setOffset_14 : decode cL_setOffset 14 = .ok (.iconst 1, 1) := by decide +kernel
theorem dL_setOffset_15 : decode cL_setOffset 15 = .ok (.ireturn, 1) := by decide +kernel
theorem dL_setOffset_16 : decode cL_setOffset 16 = .ok (.astore 4, 2) := by decide +kernel
theorem dL_setOffset_18 : decode cL_setOffset 18 = .ok (.iconst 2, 1) := by decide +kernel
theorem dL_setOffset_19 : decode cL_setOffset 19 = .ok (.ireturn, 1) := by decide +kernel
theorem dL_setOffset_20 : decode cL_setOffset 20 = .ok (.iconst 0, 1) := by decide +kernel
theorem dL_setOffset_21 : decode cL_setOffset 21 = .ok (.ireturn, 1) := by decide +kernel
set_option maxRecDepth 20000 in
theorem ggL_link_X2_link : GoodIn wsL_link wsX2_link := goodIn_ca (goodIn_ca (goodIn_ca (goodIn_r _ [8, 9, 10, 11, 12, 13, 14, 15, 16, 17, 7, 18, 19, 20, 21, 22, 23, 24, 25, 26, 27, 28, 29, 30, 31, 32, 33, 34, 35, 36, 37, 38, 39, 40, 41, 42, 43, 44, 45, 46, 47, 48, 49, 50, 51, 52, 53, 54, 55, 56, 57, 58, 59, 60, 61, 62] (by decide +kernel) (by decide +kernel)) (goodIn_sub (fun _ h => List.mem_cons_of_mem _ (List.mem_append_left _ (List.mem_append_left _ (List.mem_append_right _ h)))) (by decide +kernel))) (goodIn_sub (fun _ h => List.mem_cons_of_mem _ (List.mem_append_left _ (List.mem_append_right _ h))) (by decide +kernel))) (goodIn_sub (fun _ h => List.mem_cons_of_mem _ (List.mem_append_right _ h)) (by decide +kernel))
set_option maxRecDepth 20000 in
theorem gL_link_X2_link : GoodIn wsL_link (wsV RL 31 RX2 yX2_link wsX2_link) := goodIn_app (goodIn_of _ (by decide +kernel)) ggL_link_X2_link
theorem dL_link_0 : decode cL_link 0 = .ok (.aload 5, 2) := by decide +kernel
theorem dL_link_2 : decode cL_link 2 = .ok (.iconst 0, 1) := by decide +kernel
theorem dL_link_3 : decode cL_link 3 = .ok (.aload_n 0, 1) := by decide +kernel
theorem dL_link_4 : decode cL_link 4 = .ok (.iload_n 1, 1) := by decide +kernel
theorem dL_link_5 : decode cL_link 5 = .ok (.iload_n 2, 1) := by decide +kernel
theorem dL_link_6 : decode cL_link 6 = .ok (.iload_n 3, 1) := by decide +kernel
theorem dL_link_7 : decode cL_link 7 = .ok (.iload 4, 2) := by decide +kernel
theorem dL_link_9 : decode cL_link 9 = .ok (.invokevirtual 31, 3) := by decide +kernel
theorem dL_link_12 : decode cL_link 12 = .ok (.i2l, 1) := by decide +kernel
theorem dL_link_13 : decode cL_link 13 = .ok (.lastore, 1) := by decide +kernel
theorem dL_link_14 : decode cL_link 14 = .ok (.goto 15, 3) := by decide +kernel
theorem dL_link_17 : decode cL_link 17 = .ok (.astore 6, 2) := by decide +kernel
theorem dL_link_19 : decode cL_link 19 = .ok (.iconst 1, 1) := by decide +kernel
theorem dL_link_20 : decode cL_link 20 = .ok (.ireturn, 1) := by decide +kernel
theorem dL_link_21 : decode cL_link 21 = .ok (.astore 6, 2) := by decide +kernel
theorem dL_link_23 : decode cL_link 23 = .ok (.iconst 2, 1) := by decide +kernel
theorem dL_link_24 : decode cL_link 24 = .ok (.ireturn, 1) := by decide +kernel
theorem dL_link_25 : decode cL_link 25 = .ok (.astore 6, 2) := by decide +kernel
theorem dL_link_27 : decode cL_link 27 = .ok (.iconst 3, 1) := by decide +kernel
theorem dL_link_28 : decode cL_link 28 = .ok (.ireturn, 1) := by decide +kernel
theorem dL_link_29 : decode cL_link 29 = .ok (.iconst 0, 1) := by decide +kernel
theorem dL_link_30 : decode cL_link 30 = .ok (.ireturn, 1) := by decide +kernel
set_option maxRecDepth 20000 in
theorem ggL_cut_X2_cut : GoodIn wsL_cut wsX2_cut := goodIn_ca (goodIn_ca (goodIn_r _ [7, 8, 9, 10, 11, 6, 12, 13, 14, 15, 16, 17, 18, 19, 20, 21, 22, 23, 24, 25, 26, 27, 28, 29, 30, 31, 32, 33, 34, 35, 36, 37, 38, 39, 40, 41, 42, 43, 44, 45, 46, 47, 48, 49, 50, 51, 52, 53, 54, 55, 56, 57, 58, 59, 60, 61, 62, 63, 64, 65, 66, 67, 68, 69, 70, 71, 72, 73, 74, 75, 76, 77, 78, 79, 80] (by decide +kernel) (by decide +kernel)) (goodIn_sub (fun _ h => List.mem_cons_of_mem _ (List.mem_append_left _ (List.mem_append_right _ h))) (by decide +kernel))) (goodIn_sub (fun _ h => List.mem_cons_of_mem _ (List.mem_append_right _ h)) (by decide +kernel))
set_option maxRecDepth 20000 in
theorem gL_cut_X2_cut : GoodIn wsL_cut (wsV RL 34 RX2 yX2_cut wsX2_cut) := goodIn_app (goodIn_of _ (by decide +kernel)) ggL_cut_X2_cut
theorem dL_cut_0 : decode cL_cut 0 = .ok (.aload_n 3, 1) := by decide +kernel
theorem dL_cut_1 : decode cL_cut 1 = .ok (.iconst 0, 1) := by decide +kernel
theorem dL_cut_2 : decode cL_cut 2 = .ok (.aload_n 0, 1) := by decide +kernel
theorem dL_cut_3 : decode cL_cut 3 = .ok (.iload_n 1, 1) := by decide +kernel
theorem dL_cut_4 : decode cL_cut 4 = .ok (.iload_n 2, 1) := by decide +kernel
theorem dL_cut_5 : decode cL_cut 5 = .ok (.invokevirtual 34, 3) := by decide +kernel
theorem dL_cut_8 : decode cL_cut 8 = .ok (.i2l, 1) := by decide +kernel
theorem dL_cut_9 : decode cL_cut 9 = .ok (.lastore, 1) := by decide +kernel
theorem dL_cut_10 : decode cL_cut 10 = .ok (.goto 11, 3) := by decide +kernel
theorem dL_cut_13 : decode cL_cut 13 = .ok (.astore 4, 2) := by decide +kernel
theorem dL_cut_15 : decode cL_cut 15 = .ok (.iconst 1, 1) := by decide +kernel
theorem dL_cut_16 : decode cL_cut 16 = .ok (.ireturn, 1) := by decide +kernel
theorem dL_cut_17 : decode cL_cut 17 = .ok (.astore 4, 2) := by decide +kernel
theorem dL_cut_19 : decode cL_cut 19 = .ok (.iconst 2, 1) := by decide +kernel
theorem dL_cut_20 : decode cL_cut 20 = .ok (.ireturn, 1) := by decide +kernel
theorem dL_cut_21 : decode cL_cut 21 = .ok (.iconst 0, 1) := by decide +kernel
theorem dL_cut_22 : decode cL_cut 22 = .ok (.ireturn, 1) := by decide +kernel
set_option maxRecDepth 20000 in
theorem ggL_tell_X2_tell : GoodIn wsL_tell wsX2_tell := goodIn_ca (goodIn_ca (goodIn_ca (goodIn_r _ [8, 9, 10, 11, 12, 13, 14, 7, 15, 16, 17, 18, 19, 20, 21, 22, 23, 24, 25, 26, 27, 28, 29, 30, 31, 32, 33, 34, 35, 36, 37, 38, 39, 40, 41, 42, 43, 44, 45, 46, 47, 48, 49, 50, 51, 52, 53, 54, 55, 56, 57, 58, 59, 60, 61] (by decide +kernel) (by decide +kernel)) (goodIn_sub (fun _ h => List.mem_cons_of_mem _ (List.mem_append_left _ (List.mem_append_left _ (List.mem_append_right _ h)))) (by decide +kernel))) (goodIn_sub (fun _ h => List.mem_cons_of_mem _ (List.mem_append_left _ (List.mem_append_right _ h))) (by decide +kernel))) (goodIn_sub (fun _ h => List.mem_cons_of_mem _ (List.mem_append_right _ h)) (by decide +kernel))
set_option maxRecDepth 20000 in
theorem gL_tell_X2_tell : GoodIn wsL_tell (wsV RL 37 RX2 yX2_tell wsX2_tell) := goodIn_app (goodIn_of _ (by decide +kernel)) ggL_tell_X2_tell
theorem dL_tell_0 : decode cL_tell 0 = .ok (.aload 4, 2) := by decide +kernel
theorem dL_tell_2 : decode cL_tell 2 = .ok (.iconst 0, 1) := by decide +kernel
theorem dL_tell_3 : decode cL_tell 3 = .ok (.aload_n 0, 1) := by decide +kernel
theorem dL_tell_4 : decode cL_tell 4 = .ok (.iload_n 1, 1) := by decide +kernel
theorem dL_tell_5 : decode cL_tell 5 = .ok (.iload_n 2, 1) := by decide +kernel
theorem dL_tell_6 : decode cL_tell 6 = .ok (.iload_n 3, 1) := by decide +kernel
theorem dL_tell_7 : decode cL_tell 7 = .ok (.invokevirtual 37, 3) := by decide +kernel
theorem dL_tell_10 : decode cL_tell 10 = .ok (.i2l, 1) := by decide +kernel
theorem dL_tell_11 : decode cL_tell 11 = .ok (.lastore, 1) := by decide +kernel
theorem dL_tell_12 : decode cL_tell 12 = .ok (.goto 15, 3) := by decide +kernel
theorem dL_tell_15 : decode cL_tell 15 = .ok (.astore 5, 2) := by decide +kernel
theorem dL_tell_17 : decode cL_tell 17 = .ok (.iconst 1, 1) := by decide +kernel
theorem dL_tell_18 : decode cL_tell 18 = .ok (.ireturn, 1) := by decide +kernel
theorem dL_tell_19 : decode cL_tell 19 = .ok (.astore 5, 2) := by decide +kernel
theorem dL_tell_21 : decode cL_tell 21 = .ok (.iconst 2, 1) := by decide +kernel
theorem dL_tell_22 : decode cL_tell 22 = .ok (.ireturn, 1) := by decide +kernel
theorem dL_tell_23 : decode cL_tell 23 = .ok (.astore 5, 2) := by decide +kernel
theorem dL_tell_25 : decode cL_tell 25 = .ok (.iconst 3, 1) := by decide +kernel
theorem dL_tell_26 : decode cL_tell 26 = .ok (.ireturn, 1) := by decide +kernel
theorem dL_tell_27 : decode cL_tell 27 = .ok (.iconst 0, 1) := by decide +kernel
theorem dL_tell_28 : decode cL_tell 28 = .ok (.ireturn, 1) := by decide +kernel
set_option maxRecDepth 20000 in
theorem ggL_tick_X2_tick : GoodIn wsL_tick wsX2_tick := goodIn_ca (goodIn_r _ [6, 7, 8, 9, 5, 10, 11, 12, 13, 14, 15, 16, 17, 18, 19, 20, 21, 22, 23, 24, 25, 26, 27, 28, 29, 30, 31, 32, 33, 34, 35, 36, 37, 38, 39, 40, 41, 42, 43, 44, 45, 46, 47, 48, 49, 50, 51, 52, 53, 54, 55, 56, 57, 58, 59, 60, 61, 62, 63, 64, 65, 66, 67, 68, 69, 70, 71, 72, 73, 74, 75, 76, 77, 78, 79, 80, 81, 82, 83, 84, 85, 86, 87, 88, 89, 90, 91, 92, 93, 94, 95, 96, 97, 98, 99, 100, 101, 102, 103, 104, 105, 106] (by decide +kernel) (by decide +kernel)) (goodIn_sub (fun _ h => List.mem_cons_of_mem _ (List.mem_append_right _ h)) (by decide +kernel))
set_option maxRecDepth 20000 in
theorem gL_tick_X2_tick : GoodIn wsL_tick (wsV RL 40 RX2 yX2_tick wsX2_tick) := goodIn_app (goodIn_of _ (by decide +kernel)) ggL_tick_X2_tick
theorem dL_tick_0 : decode cL_tick 0 = .ok (.aload_n 2, 1) := by decide +kernel
theorem dL_tick_1 : decode cL_tick 1 = .ok (.iconst 0, 1) := by decide +kernel
theorem dL_tick_2 : decode cL_tick 2 = .ok (.aload_n 0, 1) := by decide +kernel
theorem dL_tick_3 : decode cL_tick 3 = .ok (.iload_n 1, 1) := by decide +kernel
theorem dL_tick_4 : decode cL_tick 4 = .ok (.invokevirtual 40, 3) := by decide +kernel
theorem dL_tick_7 : decode cL_tick 7 = .ok (.i2l, 1) := by decide +kernel
theorem dL_tick_8 : decode cL_tick 8 = .ok (.lastore, 1) := by decide +kernel
theorem dL_tick_9 : decode cL_tick 9 = .ok (.goto 6, 3) := by decide +kernel
theorem dL_tick_12 : decode cL_tick 12 = .ok (.astore_n 3, 1) := by decide +kernel
theorem dL_tick_13 : decode cL_tick 13 = .ok (.iconst 1, 1) := by decide +kernel
theorem dL_tick_14 : decode cL_tick 14 = .ok (.ireturn, 1) := by decide +kernel
theorem dL_tick_15 : decode cL_tick 15 = .ok (.iconst 0, 1) := by decide +kernel
theorem dL_tick_16 : decode cL_tick 16 = .ok (.ireturn, 1) := by decide +kernel
set_option maxRecDepth 20000 in
theorem ggL_best_X2_best : GoodIn wsL_best wsX2_best := goodIn_ca (goodIn_r _ [6, 7, 8, 9, 10, 5, 11, 12, 13, 14, 15, 16, 17, 18, 19, 20, 21, 22, 23, 24, 25, 26, 27, 28, 29, 30, 31, 32, 33, 34] (by decide +kernel) (by decide +kernel)) (goodIn_sub (fun _ h => List.mem_cons_of_mem _ (List.mem_append_right _ h)) (by decide +kernel))
set_option maxRecDepth 20000 in
theorem gL_best_X2_best : GoodIn wsL_best (wsV RL 44 RX2 yX2_best wsX2_best) := goodIn_app (goodIn_of _ (by decide +kernel)) ggL_best_X2_best
theorem dL_best_0 : decode cL_best 0 = .ok (.aload_n 2, 1) := by decide +kernel
theorem dL_best_1 : decode cL_best 1 = .ok (.iconst 0, 1) := by decide +kernel
theorem dL_best_2 : decode cL_best 2 = .ok (.aload_n 0, 1) := by decide +kernel
theorem dL_best_3 : decode cL_best 3 = .ok (.iload_n 1, 1) := by decide +kernel
theorem dL_best_4 : decode cL_best 4 = .ok (.invokevirtual 44, 3) := by decide +kernel
theorem dL_best_7 : decode cL_best 7 = .ok (.i2l, 1) := by decide +kernel
theorem dL_best_8 : decode cL_best 8 = .ok (.lastore, 1) := by decide +kernel
theorem dL_best_9 : decode cL_best 9 = .ok (.goto 6, 3) := by decide +kernel
theorem dL_best_12 : decode cL_best 12 = .ok (.astore_n 3, 1) := by decide +kernel
theorem dL_best_13 : decode cL_best 13 = .ok (.iconst 1, 1) := by decide +kernel
theorem dL_best_14 : decode cL_best 14 = .ok (.ireturn, 1) := by decide +kernel
theorem dL_best_15 : decode cL_best 15 = .ok (.iconst 0, 1) := by decide +kernel
theorem dL_best_16 : decode cL_best 16 = .ok (.ireturn, 1) := by decide +kernel
set_option maxRecDepth 20000 in
theorem ggL_steps_X2_steps : GoodIn wsL_steps wsX2_steps := goodIn_ca (goodIn_r _ [6, 7, 8, 9, 10, 5, 11, 12, 13, 14, 15, 16, 17, 18, 19, 20, 21, 22, 23, 24, 25, 26, 27, 28, 29, 30, 31, 32, 33, 34] (by decide +kernel) (by decide +kernel)) (goodIn_sub (fun _ h => List.mem_cons_of_mem _ (List.mem_append_right _ h)) (by decide +kernel))
set_option maxRecDepth 20000 in
theorem gL_steps_X2_steps : GoodIn wsL_steps (wsV RL 47 RX2 yX2_steps wsX2_steps) := goodIn_app (goodIn_of _ (by decide +kernel)) ggL_steps_X2_steps
theorem dL_steps_0 : decode cL_steps 0 = .ok (.aload_n 2, 1) := by decide +kernel
theorem dL_steps_1 : decode cL_steps 1 = .ok (.iconst 0, 1) := by decide +kernel
theorem dL_steps_2 : decode cL_steps 2 = .ok (.aload_n 0, 1) := by decide +kernel
theorem dL_steps_3 : decode cL_steps 3 = .ok (.iload_n 1, 1) := by decide +kernel
theorem dL_steps_4 : decode cL_steps 4 = .ok (.invokevirtual 47, 3) := by decide +kernel
theorem dL_steps_7 : decode cL_steps 7 = .ok (.i2l, 1) := by decide +kernel
theorem dL_steps_8 : decode cL_steps 8 = .ok (.lastore, 1) := by decide +kernel
theorem dL_steps_9 : decode cL_steps 9 = .ok (.goto 6, 3) := by decide +kernel
theorem dL_steps_12 : decode cL_steps 12 = .ok (.astore_n 3, 1) := by decide +kernel
theorem dL_steps_13 : decode cL_steps 13 = .ok (.iconst 1, 1) := by decide +kernel
theorem dL_steps_14 : decode cL_steps 14 = .ok (.ireturn, 1) := by decide +kernel
theorem dL_steps_15 : decode cL_steps 15 = .ok (.iconst 0, 1) := by decide +kernel
theorem dL_steps_16 : decode cL_steps 16 = .ok (.ireturn, 1) := by decide +kernel
set_option maxRecDepth 20000 in
theorem ggL_parent_X2_parent : GoodIn wsL_parent wsX2_parent := goodIn_ca (goodIn_r _ [6, 7, 8, 9, 10, 5, 11, 12, 13, 14, 15, 16, 17, 18, 19, 20, 21, 22, 23, 24, 25, 26, 27, 28, 29, 30, 31, 32, 33, 34] (by decide +kernel) (by decide +kernel)) (goodIn_sub (fun _ h => List.mem_cons_of_mem _ (List.mem_append_right _ h)) (by decide +kernel))
set_option maxRecDepth 20000 in
theorem gL_parent_X2_parent : GoodIn wsL_parent (wsV RL 50 RX2 yX2_parent wsX2_parent) := goodIn_app (goodIn_of _ (by decide +kernel)) ggL_parent_X2_parent
theorem dL_parent_0 : decode cL_parent 0 = .ok (.aload_n 2, 1) := by decide +kernel
theorem dL_parent_1 : decode cL_parent 1 = .ok (.iconst 0, 1) := by decide +kernel
theorem dL_parent_2 : decode cL_parent 2 = .ok (.aload_n 0, 1) := by decide +kernel
theorem dL_parent_3 : decode cL_parent 3 = .ok (.iload_n 1, 1) := by decide +kernel
theorem dL_parent_4 : decode cL_parent 4 = .ok (.invokevirtual 50, 3) := by decide +kernel
theorem dL_parent_7 : decode cL_parent 7 = .ok (.i2l, 1) := by decide +kernel
theorem dL_parent_8 : decode cL_parent 8 = .ok (.lastore, 1) := by decide +kernel
theorem dL_parent_9 : decode cL_parent 9 = .ok (.goto 6, 3) := by decide +kernel
theorem dL_parent_12 : decode cL_parent 12 = .ok (.astore_n 3, 1) := by decide +kernel
theorem dL_parent_13 : decode cL_parent 13 = .ok (.iconst 1, 1) := by decide +kernel
theorem dL_parent_14 : decode cL_parent 14 = .ok (.ireturn, 1) := by decide +kernel
theorem dL_parent_15 : decode cL_parent 15 = .ok (.iconst 0, 1) := by decide +kernel
theorem dL_parent_16 : decode cL_parent 16 = .ok (.ireturn, 1) := by decide +kernel
set_option maxRecDepth 20000 in
theorem ggL_port_X2_port : GoodIn wsL_port wsX2_port := goodIn_ca (goodIn_r _ [6, 7, 8, 9, 10, 5, 11, 12, 13, 14, 15, 16, 17, 18, 19, 20, 21, 22, 23, 24, 25, 26, 27, 28, 29, 30, 31, 32, 33, 34, 35, 36, 37, 38, 39, 40, 41, 42, 43, 44, 45, 46, 47, 48, 49, 50, 51, 52, 53, 54, 55, 56] (by decide +kernel) (by decide +kernel)) (goodIn_sub (fun _ h => List.mem_cons_of_mem _ (List.mem_append_right _ h)) (by decide +kernel))
set_option maxRecDepth 20000 in
theorem gL_port_X2_port : GoodIn wsL_port (wsV RL 53 RX2 yX2_port wsX2_port) := goodIn_app (goodIn_of _ (by decide +kernel)) ggL_port_X2_port
theorem dL_port_0 : decode cL_port 0 = .ok (.aload_n 3, 1) := by decide +kernel
theorem dL_port_1 : decode cL_port 1 = .ok (.iconst 0, 1) := by decide +kernel
theorem dL_port_2 : decode cL_port 2 = .ok (.aload_n 0, 1) := by decide +kernel
theorem dL_port_3 : decode cL_port 3 = .ok (.iload_n 1, 1) := by decide +kernel
theorem dL_port_4 : decode cL_port 4 = .ok (.iload_n 2, 1) := by decide +kernel
theorem dL_port_5 : decode cL_port 5 = .ok (.invokevirtual 53, 3) := by decide +kernel
theorem dL_port_8 : decode cL_port 8 = .ok (.i2l, 1) := by decide +kernel
theorem dL_port_9 : decode cL_port 9 = .ok (.lastore, 1) := by decide +kernel
theorem dL_port_10 : decode cL_port 10 = .ok (.goto 7, 3) := by decide +kernel
theorem dL_port_13 : decode cL_port 13 = .ok (.astore 4, 2) := by decide +kernel
theorem dL_port_15 : decode cL_port 15 = .ok (.iconst 1, 1) := by decide +kernel
theorem dL_port_16 : decode cL_port 16 = .ok (.ireturn, 1) := by decide +kernel
theorem dL_port_17 : decode cL_port 17 = .ok (.iconst 0, 1) := by decide +kernel
theorem dL_port_18 : decode cL_port 18 = .ok (.ireturn, 1) := by decide +kernel
set_option maxRecDepth 20000 in
theorem ggL_bestByGraph_X2_bestByGraph : GoodIn wsL_bestByGraph wsX2_bestByGraph := goodIn_ca (goodIn_r _ [6, 7, 8, 9, 5, 10, 11, 12, 13, 14, 15, 16, 17, 18, 19, 20, 21, 22, 23, 24, 25, 26, 27, 28, 29, 30, 31, 32, 33, 34, 35, 36, 37, 38, 39, 40, 41, 42, 43, 44, 45, 46, 47, 48, 49, 50, 51, 52, 53, 54, 55, 56, 57, 58, 59, 60, 61, 62, 63, 64, 65, 66] (by decide +kernel) (by decide +kernel)) (goodIn_sub (fun _ h => List.mem_cons_of_mem _ (List.mem_append_right _ h)) (by decide +kernel))
set_option maxRecDepth 20000 in
theorem gL_bestByGraph_X2_bestByGraph : GoodIn wsL_bestByGraph (wsV RL 56 RX2 yX2_bestByGraph wsX2_bestByGraph) := goodIn_app (goodIn_of _ (by decide +kernel)) ggL_bestByGraph_X2_bestByGraph
theorem dL_bestByGraph_0 : decode cL_bestByGraph 0 = .ok (.aload_n 2, 1) := by decide +kernel
theorem dL_bestByGraph_1 : decode cL_bestByGraph 1 = .ok (.iconst 0, 1) := by decide +kernel
theorem dL_bestByGraph_2 : decode cL_bestByGraph 2 = .ok (.aload_n 0, 1) := by decide +kernel
theorem dL_bestByGraph_3 : decode cL_bestByGraph 3 = .ok (.iload_n 1, 1) := by decide +kernel
theorem dL_bestByGraph_4 : decode cL_bestByGraph 4 = .ok (.invokevirtual 56, 3) := by decide +kernel
theorem dL_bestByGraph_7 : decode cL_bestByGraph 7 = .ok (.i2l, 1) := by decide +kernel
theorem dL_bestByGraph_8 : decode cL_bestByGraph 8 = .ok (.lastore, 1) := by decide +kernel
theorem dL_bestByGraph_9 : decode cL_bestByGraph 9 = .ok (.goto 6, 3) := by decide +kernel
theorem dL_bestByGraph_12 : decode cL_bestByGraph 12 = .ok (.astore_n 3, 1) := by decide +kernel
theorem dL_bestByGraph_13 : decode cL_bestByGraph 13 = .ok (.iconst 1, 1) := by decide +kernel
theorem dL_bestByGraph_14 : decode cL_bestByGraph 14 = .ok (.ireturn, 1) := by decide +kernel
theorem dL_bestByGraph_15 : decode cL_bestByGraph 15 = .ok (.iconst 0, 1) := by decide +kernel
theorem dL_bestByGraph_16 : decode cL_bestByGraph 16 = .ok (.ireturn, 1) := by decide +kernel
set_option maxRecDepth 20000 in
theorem ggL_stepsByGraph_X2_stepsByGraph : GoodIn wsL_stepsByGraph wsX2_stepsByGraph := goodIn_ca (goodIn_r _ [6, 7, 8, 9, 10, 5, 11, 12, 13, 14, 15, 16, 17, 18, 19, 20, 21, 22, 23, 24, 25, 26, 27, 28, 29, 30, 31, 32, 33, 34, 35, 36, 37, 38, 39, 40, 41, 42, 43, 44, 45, 46, 47, 48, 49, 50, 51, 52, 53, 54, 55, 56, 57, 58, 59, 60, 61, 62, 63, 64, 65, 66] (by decide +kernel) (by decide +kernel)) (goodIn_sub (fun _ h => List.mem_cons_of_mem _ (List.mem_append_right _ h)) (by decide +kernel))
set_option maxRecDepth 20000 in
theorem gL_stepsByGraph_X2_stepsByGraph : GoodIn wsL_stepsByGraph (wsV RL 59 RX2 yX2_stepsByGraph wsX2_stepsByGraph) := goodIn_app (goodIn_of _ (by decide +kernel)) ggL_stepsByGraph_X2_stepsByGraph
theorem dL_stepsByGraph_0 : decode cL_stepsByGraph 0 = .ok (.aload_n 2, 1) := by decide +kernel
theorem dL_stepsByGraph_1 : decode cL_stepsByGraph 1 = .ok (.iconst 0, 1) := by decide +kernel
theorem dL_stepsByGraph_2 : decode cL_stepsByGraph 2 = .ok (.aload_n 0, 1) := by decide +kernel
theorem dL_stepsByGraph_3 : decode cL_stepsByGraph 3 = .ok (.iload_n 1, 1) := by decide +kernel
theorem dL_stepsByGraph_4 : decode cL_stepsByGraph 4 = .ok (.invokevirtual 59, 3) := by decide +kernel
theorem dL_stepsByGraph_7 : decode cL_stepsByGraph 7 = .ok (.i2l, 1) := by decide +kernel
theorem dL_stepsByGraph_8 : decode cL_stepsByGraph 8 = .ok (.lastore, 1) := by decide +kernel
theorem dL_stepsByGraph_9 : decode cL_stepsByGraph 9 = .ok (.goto 6, 3) := by decide +kernel
theorem dL_stepsByGraph_12 : decode cL_stepsByGraph 12 = .ok (.astore_n 3, 1) := by decide +kernel
theorem dL_stepsByGraph_13 : decode cL_stepsByGraph 13 = .ok (.iconst 1, 1) := by decide +kernel
theorem dL_stepsByGraph_14 : decode cL_stepsByGraph 14 = .ok (.ireturn, 1) := by decide +kernel
theorem dL_stepsByGraph_15 : decode cL_stepsByGraph 15 = .ok (.iconst 0, 1) := by decide +kernel
theorem dL_stepsByGraph_16 : decode cL_stepsByGraph 16 = .ok (.ireturn, 1) := by decide +kernel
set_option maxRecDepth 20000 in
theorem ggL_offset_X2_offset : GoodIn wsL_offset wsX2_offset := goodIn_ca (goodIn_r _ [6, 7, 8, 9, 10, 5, 11, 12, 13, 14, 15, 16, 17, 18, 19, 20, 21, 22, 23, 24, 25, 26, 27, 28, 29, 30] (by decide +kernel) (by decide +kernel)) (goodIn_sub (fun _ h => List.mem_cons_of_mem _ (List.mem_append_right _ h)) (by decide +kernel))
set_option maxRecDepth 20000 in
theorem gL_offset_X2_offset : GoodIn wsL_offset (wsV RL 62 RX2 yX2_offset wsX2_offset) := goodIn_app (goodIn_of _ (by decide +kernel)) ggL_offset_X2_offset
theorem dL_offset_0 : decode cL_offset 0 = .ok (.aload_n 2, 1) := by decide +kernel
theorem dL_offset_1 : decode cL_offset 1 = .ok (.iconst 0, 1) := by decide +kernel
theorem dL_offset_2 : decode cL_offset 2 = .ok (.aload_n 0, 1) := by decide +kernel
theorem dL_offset_3 : decode cL_offset 3 = .ok (.iload_n 1, 1) := by decide +kernel
theorem dL_offset_4 : decode cL_offset 4 = .ok (.invokevirtual 62, 3) := by decide +kernel
theorem dL_offset_7 : decode cL_offset 7 = .ok (.lastore, 1) := by decide +kernel
theorem dL_offset_8 : decode cL_offset 8 = .ok (.goto 6, 3) := by decide +kernel
theorem dL_offset_11 : decode cL_offset 11 = .ok (.astore_n 3, 1) := by decide +kernel
theorem dL_offset_12 : decode cL_offset 12 = .ok (.iconst 1, 1) := by decide +kernel
theorem dL_offset_13 : decode cL_offset 13 = .ok (.ireturn, 1) := by decide +kernel
theorem dL_offset_14 : decode cL_offset 14 = .ok (.iconst 0, 1) := by decide +kernel
theorem dL_offset_15 : decode cL_offset 15 = .ok (.ireturn, 1) := by decide +kernel
set_option maxRecDepth 20000 in
theorem ggL_rate_X2_rate : GoodIn wsL_rate wsX2_rate := goodIn_ca (goodIn_r _ [6, 7, 8, 9, 10, 5, 11, 12, 13, 14, 15, 16, 17, 18, 19, 20, 21, 22, 23, 24, 25, 26, 27, 28, 29, 30] (by decide +kernel) (by decide +kernel)) (goodIn_sub (fun _ h => List.mem_cons_of_mem _ (List.mem_append_right _ h)) (by decide +kernel))
set_option maxRecDepth 20000 in
theorem gL_rate_X2_rate : GoodIn wsL_rate (wsV RL 66 RX2 yX2_rate wsX2_rate) := goodIn_app (goodIn_of _ (by decide +kernel)) ggL_rate_X2_rate
theorem dL_rate_0 : decode cL_rate 0 = .ok (.aload_n 2, 1) := by decide +kernel
theorem dL_rate_1 : decode cL_rate 1 = .ok (.iconst 0, 1) := by decide +kernel
theorem dL_rate_2 : decode cL_rate 2 = .ok (.aload_n 0, 1) := by decide +kernel
theorem dL_rate_3 : decode cL_rate 3 = .ok (.iload_n 1, 1) := by decide +kernel
theorem dL_rate_4 : decode cL_rate 4 = .ok (.invokevirtual 66, 3) := by decide +kernel
theorem dL_rate_7 : decode cL_rate 7 = .ok (.lastore, 1) := by decide +kernel
theorem dL_rate_8 : decode cL_rate 8 = .ok (.goto 6, 3) := by decide +kernel
theorem dL_rate_11 : decode cL_rate 11 = .ok (.astore_n 3, 1) := by decide +kernel
theorem dL_rate_12 : decode cL_rate 12 = .ok (.iconst 1, 1) := by decide +kernel
theorem dL_rate_13 : decode cL_rate 13 = .ok (.ireturn, 1) := by decide +kernel
theorem dL_rate_14 : decode cL_rate 14 = .ok (.iconst 0, 1) := by decide +kernel
theorem dL_rate_15 : decode cL_rate 15 = .ok (.ireturn, 1) := by decide +kernel
set_option maxRecDepth 20000 in
theorem ggL_spread_X2_spread : GoodIn wsL_spread wsX2_spread := goodIn_ca (goodIn_r _ [6, 7, 8, 9, 10, 11, 12, 13, 14, 15, 16, 17, 18, 5, 19, 20, 21, 22, 23, 24, 25, 26, 27, 28, 29, 30, 31, 32, 33] (by decide +kernel) (by decide +kernel)) (goodIn_sub (fun _ h => List.mem_cons_of_mem _ (List.mem_append_right _ h)) (by decide +kernel))
set_option maxRecDepth 20000 in
theorem gL_spread_X2_spread : GoodIn wsL_spread (wsV RL 69 RX2 yX2_spread wsX2_spread) := goodIn_app (goodIn_of _ (by decide +kernel)) ggL_spread_X2_spread
theorem dL_spread_0 : decode cL_spread 0 = .ok (.aload_n 2, 1) := by decide +kernel
theorem dL_spread_1 : decode cL_spread 1 = .ok (.iconst 0, 1) := by decide +kernel
theorem dL_spread_2 : decode cL_spread 2 = .ok (.aload_n 0, 1) := by decide +kernel
theorem dL_spread_3 : decode cL_spread 3 = .ok (.iload_n 1, 1) := by decide +kernel
theorem dL_spread_4 : decode cL_spread 4 = .ok (.invokevirtual 69, 3) := by decide +kernel
theorem dL_spread_7 : decode cL_spread 7 = .ok (.lastore, 1) := by decide +kernel
theorem dL_spread_8 : decode cL_spread 8 = .ok (.goto 6, 3) := by decide +kernel
theorem dL_spread_11 : decode cL_spread 11 = .ok (.astore_n 3, 1) := by decide +kernel
theorem dL_spread_12 : decode cL_spread 12 = .ok (.iconst 1, 1) := by decide +kernel
theorem dL_spread_13 : decode cL_spread 13 = .ok (.ireturn, 1) := by decide +kernel
theorem dL_spread_14 : decode cL_spread 14 = .ok (.iconst 0, 1) := by decide +kernel
theorem dL_spread_15 : decode cL_spread 15 = .ok (.ireturn, 1) := by decide +kernel
