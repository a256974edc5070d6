def RL : String := "TimeNetLaw"
abbrev cL_own : ByteArray := method_2_code
def yL_own : MethodName := ⟨RL, "own", "([II)J"⟩
abbrev cL_parent : ByteArray := method_3_code
def yL_parent : MethodName := ⟨RL, "parent", "(J)I"⟩
abbrev cL_steps : ByteArray := method_4_code
def yL_steps : MethodName := ⟨RL, "steps", "(J)I"⟩
abbrev cL_clock : ByteArray := method_5_code
def yL_clock : MethodName := ⟨RL, "clock", "(J)I"⟩
abbrev cL_pair : ByteArray := method_6_code
def yL_pair : MethodName := ⟨RL, "pair", "(II)I"⟩
abbrev cL_areNear : ByteArray := method_7_code
def yL_areNear : MethodName := ⟨RL, "areNear", "([I[III)Z"⟩
abbrev cL_delay : ByteArray := method_8_code
def yL_delay : MethodName := ⟨RL, "delay", "([JII)I"⟩
abbrev cL_told : ByteArray := method_9_code
def yL_told : MethodName := ⟨RL, "told", "([III)I"⟩
abbrev cL_ticks : ByteArray := method_10_code
def yL_ticks : MethodName := ⟨RL, "ticks", "([I[I[I[J[I[J[J)V"⟩
abbrev cL_reached : ByteArray := method_11_code
def yL_reached : MethodName := ⟨RL, "reached", "([I[I[III)I"⟩
abbrev cL_best : ByteArray := method_12_code
def yL_best : MethodName := ⟨RL, "best", "([I[I[II)I"⟩
abbrev cL_far : ByteArray := method_13_code
def yL_far : MethodName := ⟨RL, "far", "([I[I[III)I"⟩
abbrev cL_does : ByteArray := method_14_code
def yL_does : MethodName := ⟨RL, "does", "(LTimeNet;IIII)I"⟩
abbrev cL_links : ByteArray := method_15_code
def yL_links : MethodName := ⟨RL, "links", "(LTimeNet;IIII)I"⟩
abbrev cL_port : ByteArray := method_16_code
def yL_port : MethodName := ⟨RL, "port", "([I[I[JII)I"⟩
abbrev cL_isNet : ByteArray := method_17_code
def yL_isNet : MethodName := ⟨RL, "isNet", "(LTimeNet;[I[I[I[J[JI)Z"⟩
abbrev cL_law : ByteArray := code
def yL_law : MethodName := ⟨RL, "law", "([I)Z"⟩
def wsL_own : List Cond := .code yL_own cL_own 2 (some .long) :: ([.constantLong RL 7 (1001), .constantLong RL 9 (10), .constantLong RL 11 (110)])
def wsL_parent : List Cond := .code yL_parent cL_parent 2 (some .int) :: ([.constantLong RL 13 (11)])
def wsL_steps : List Cond := .code yL_steps cL_steps 2 (some .int) :: ([.constantLong RL 13 (11), .constantLong RL 9 (10)])
def wsL_clock : List Cond := .code yL_clock cL_clock 2 (some .int) :: ([.constantLong RL 11 (110), .constantLong RL 9 (10)])
def wsL_pair : List Cond := .code yL_pair cL_pair 4 (some .int) :: ([])
def wsL_areNear : List Cond := .code yL_areNear cL_areNear 4 (some .boolean) :: ([])
def wsL_delay : List Cond := .code yL_delay cL_delay 5 (some .int) :: ([.constantLong RL 21 (100001), .methodLink RL 15 yL_pair, .static yL_pair, .initialized RL, .code yL_pair cL_pair 4 (some .int)])
def wsL_told : List Cond := .code yL_told cL_told 3 (some .int) :: ([.methodLink RL 15 yL_pair, .static yL_pair, .initialized RL, .code yL_pair cL_pair 4 (some .int)])
def wsL_ticks_r1 : List Cond := [Cond.arrayClass .long, Cond.constantLong RL 13 (11), Cond.constantLong RL 46 (2), Cond.constantLong RL 48 (16), Cond.methodLink RL 23 yL_own, Cond.static yL_own, Cond.initialized RL, Cond.code yL_own cL_own 2 (some .long), Cond.constantLong RL 7 (1001), Cond.constantLong RL 9 (10), Cond.constantLong RL 11 (110), Cond.methodLink RL 27 yL_areNear, Cond.static yL_areNear, Cond.code yL_areNear cL_areNear 4 (some .boolean), Cond.methodLink RL 31 yL_steps, Cond.static yL_steps, Cond.code yL_steps cL_steps 2 (some .int), Cond.methodLink RL 35 yL_parent, Cond.static yL_parent, Cond.code yL_parent cL_parent 2 (some .int), Cond.methodLink RL 38 yL_delay, Cond.static yL_delay, Cond.code yL_delay cL_delay 5 (some .int), Cond.constantLong RL 21 (100001)]
def wsL_ticks_r2 : List Cond := [Cond.methodLink RL 15 yL_pair, Cond.static yL_pair, Cond.code yL_pair cL_pair 4 (some .int), Cond.methodLink RL 42 yL_told, Cond.static yL_told, Cond.code yL_told cL_told 3 (some .int)]
def wsL_ticks : List Cond := .code yL_ticks cL_ticks 14 none :: ((wsL_ticks_r1 ++ wsL_ticks_r2))
def wsL_reached : List Cond := .code yL_reached cL_reached 10 (some .int) :: ([.methodLink RL 27 yL_areNear, .static yL_areNear, .initialized RL, .code yL_areNear cL_areNear 4 (some .boolean)])
def wsL_best : List Cond := .code yL_best cL_best 7 (some .int) :: ([.methodLink RL 50 yL_reached, .static yL_reached, .initialized RL, .code yL_reached cL_reached 10 (some .int), .methodLink RL 27 yL_areNear, .static yL_areNear, .code yL_areNear cL_areNear 4 (some .boolean), .methodLink RL 23 yL_own, .static yL_own, .code yL_own cL_own 2 (some .long), .constantLong RL 7 (1001), .constantLong RL 9 (10), .constantLong RL 11 (110)])
def wsL_far : List Cond := .code yL_far cL_far 6 (some .int) :: ([.methodLink RL 50 yL_reached, .static yL_reached, .initialized RL, .code yL_reached cL_reached 10 (some .int), .methodLink RL 27 yL_areNear, .static yL_areNear, .code yL_areNear cL_areNear 4 (some .boolean)])
def wsL_does_r1 : List Cond := [Cond.classLink RL 70 "java/lang/IllegalArgumentException", Cond.classLink RL 73 "java/lang/IllegalStateException", Cond.constant RL 72 (-2000000012), Cond.constant RL 75 (-2000000013), Cond.methodLink RL 54 yX2_cut, Cond.instanceMethod yX2_cut, Cond.selects RX2 yX2_cut yX2_cut, Cond.initialized RX2, Cond.code yX2_cut cX2_cut 3 (some .int), Cond.fieldLink RX2 32 "TimeNet" "wires" "LTimeNet$Wires;", Cond.methodLink RX2 71 yX2_requireNode, Cond.instanceMethod yX2_requireNode, Cond.selects RX2 yX2_requireNode yX2_requireNode, Cond.code yX2_requireNode cX2_requireNode 2 none, Cond.classLink RX2 148 "java/lang/IndexOutOfBoundsException", Cond.initialized "java/lang/IndexOutOfBoundsException", Cond.methodLink RX2 144 yX2_isNode, Cond.instanceMethod yX2_isNode, Cond.selects RX2 yX2_isNode yX2_isNode, Cond.code yX2_isNode cX2_isNode 2 (some .boolean), Cond.fieldLink RX2 49 "TimeNet" "nodeCount" "I", Cond.methodLink RX2 95 yX2_requireLinked, Cond.instanceMethod yX2_requireLinked, Cond.selects RX2 yX2_requireLinked yX2_requireLinked]
def wsL_does_r2 : List Cond := [Cond.code yX2_requireLinked cX2_requireLinked 3 none, Cond.classLink RX2 60 "java/lang/IllegalStateException", Cond.initialized "java/lang/IllegalStateException", Cond.instanceMethod yX1_areLinked, Cond.initialized RX1, Cond.selects RX1 yX1_areLinked yX1_areLinked, Cond.code yX1_areLinked cX1_areLinked 3 (some .boolean), Cond.fieldLink RX1 9 "TimeNet$Wires" "laid" "[Z", Cond.methodLink RX1 26 yX1_place, Cond.static yX1_place, Cond.code yX1_place cX1_place 2 (some .int), Cond.instanceMethod yX1_remove, Cond.selects RX1 yX1_remove yX1_remove, Cond.code yX1_remove cX1_remove 3 none, Cond.fieldLink RX1 22 "TimeNet$Wires" "count" "I", Cond.methodLink RX2 102 yX2_forgetParent, Cond.instanceMethod yX2_forgetParent, Cond.selects RX2 yX2_forgetParent yX2_forgetParent, Cond.code yX2_forgetParent cX2_forgetParent 3 none, Cond.fieldLink RX2 39 "TimeNet" "known" "LTimeNet$Knowledge;", Cond.methodLink RX2 67 yX2_knowOnlyItself, Cond.instanceMethod yX2_knowOnlyItself, Cond.selects RX2 yX2_knowOnlyItself yX2_knowOnlyItself, Cond.code yX2_knowOnlyItself cX2_knowOnlyItself 2 none]
def wsL_does_r3 : List Cond := [Cond.methodLink RX2 157 yX2_rankOf, Cond.instanceMethod yX2_rankOf, Cond.selects RX2 yX2_rankOf yX2_rankOf, Cond.code yX2_rankOf cX2_rankOf 2 (some .int), Cond.fieldLink RX2 13 "TimeNet" "gradeOf" "[I", Cond.fieldLink RX2 16 "TimeNet" "varianceOf" "[I", Cond.instanceMethod yX0_start, Cond.initialized RX0, Cond.selects RX0 yX0_start yX0_start, Cond.code yX0_start cX0_start 3 none, Cond.fieldLink RX0 9 "TimeNet$Knowledge" "clockNode" "[I", Cond.fieldLink RX0 15 "TimeNet$Knowledge" "clockRank" "[I", Cond.fieldLink RX0 18 "TimeNet$Knowledge" "stepsAway" "[I", Cond.fieldLink RX0 21 "TimeNet$Knowledge" "knownFrom" "[I", Cond.methodLink RL 59 yX2_tell, Cond.instanceMethod yX2_tell, Cond.selects RX2 yX2_tell yX2_tell, Cond.code yX2_tell cX2_tell 4 (some .int), Cond.constant RX2 105 (-100000), Cond.constant RX2 81 (100000), Cond.methodLink RX2 56 yX2_requireWithin, Cond.static yX2_requireWithin, Cond.code yX2_requireWithin cX2_requireWithin 3 none, Cond.classLink RX2 76 "java/lang/IllegalArgumentException"]
def wsL_does_r4 : List Cond := [Cond.initialized "java/lang/IllegalArgumentException", Cond.instanceMethod yX1_noteDifference, Cond.selects RX1 yX1_noteDifference yX1_noteDifference, Cond.code yX1_noteDifference cX1_noteDifference 5 (some .int), Cond.fieldLink RX1 19 "TimeNet$Wires" "told" "[I", Cond.methodLink RL 63 yX2_add, Cond.instanceMethod yX2_add, Cond.selects RX2 yX2_add yX2_add, Cond.code yX2_add cX2_add 6 (some .int), Cond.fieldLink RX2 9 "TimeNet" "domainOf" "[I", Cond.fieldLink RX2 19 "TimeNet" "driftOf" "[I", Cond.methodLink RL 67 yX2_port, Cond.instanceMethod yX2_port, Cond.selects RX2 yX2_port yX2_port, Cond.code yX2_port cX2_port 3 (some .int), Cond.methodLink RX2 122 yX2_areNeighbours, Cond.instanceMethod yX2_areNeighbours, Cond.selects RX2 yX2_areNeighbours yX2_areNeighbours, Cond.code yX2_areNeighbours cX2_areNeighbours 3 (some .boolean), Cond.methodLink RX2 125 yX2_isNearer, Cond.instanceMethod yX2_isNearer, Cond.selects RX2 yX2_isNearer yX2_isNearer, Cond.code yX2_isNearer cX2_isNearer 5 (some .boolean)]
def wsL_does : List Cond := .codeWith yL_does cL_does 6 (some .int) [(0, 53, 54, 70), (0, 53, 59, 73)] :: ((wsL_does_r1 ++ (wsL_does_r2 ++ (wsL_does_r3 ++ wsL_does_r4))) ++ wsX20 ++ wsX10 ++ wsX00 ++ (vx_atS RX2 152 "java/lang/IndexOutOfBoundsException" ["java/lang/RuntimeException", "java/lang/Exception"]).filter goodWord ++ (vx_atS RX2 64 "java/lang/IllegalStateException" ["java/lang/RuntimeException", "java/lang/Exception"]).filter goodWord ++ (vx_atS RX2 80 "java/lang/IllegalArgumentException" ["java/lang/RuntimeException", "java/lang/Exception"]).filter goodWord)
def wsL_links_r1 : List Cond := [Cond.classLink RL 70 "java/lang/IllegalArgumentException", Cond.classLink RL 73 "java/lang/IllegalStateException", Cond.methodLink RL 76 yX2_link, Cond.instanceMethod yX2_link, Cond.selects RX2 yX2_link yX2_link, Cond.initialized RX2, Cond.code yX2_link cX2_link 5 (some .int), Cond.classLink RX2 76 "java/lang/IllegalArgumentException", Cond.initialized "java/lang/IllegalArgumentException", Cond.classLink RX2 60 "java/lang/IllegalStateException", Cond.initialized "java/lang/IllegalStateException", Cond.constant RX2 81 (100000), Cond.fieldLink RX2 32 "TimeNet" "wires" "LTimeNet$Wires;", Cond.methodLink RX2 71 yX2_requireNode, Cond.instanceMethod yX2_requireNode, Cond.selects RX2 yX2_requireNode yX2_requireNode, Cond.code yX2_requireNode cX2_requireNode 2 none, Cond.classLink RX2 148 "java/lang/IndexOutOfBoundsException", Cond.initialized "java/lang/IndexOutOfBoundsException", Cond.methodLink RX2 144 yX2_isNode, Cond.instanceMethod yX2_isNode, Cond.selects RX2 yX2_isNode yX2_isNode, Cond.code yX2_isNode cX2_isNode 2 (some .boolean), Cond.fieldLink RX2 49 "TimeNet" "nodeCount" "I"]
def wsL_links_r2 : List Cond := [Cond.methodLink RX2 56 yX2_requireWithin, Cond.static yX2_requireWithin, Cond.code yX2_requireWithin cX2_requireWithin 3 none, Cond.instanceMethod yX1_areLinked, Cond.initialized RX1, Cond.selects RX1 yX1_areLinked yX1_areLinked, Cond.code yX1_areLinked cX1_areLinked 3 (some .boolean), Cond.fieldLink RX1 9 "TimeNet$Wires" "laid" "[Z", Cond.methodLink RX1 26 yX1_place, Cond.static yX1_place, Cond.code yX1_place cX1_place 2 (some .int), Cond.instanceMethod yX1_lay, Cond.selects RX1 yX1_lay yX1_lay, Cond.code yX1_lay cX1_lay 5 none, Cond.fieldLink RX1 15 "TimeNet$Wires" "delay" "[I", Cond.fieldLink RX1 22 "TimeNet$Wires" "count" "I", Cond.methodLink RX1 30 yX1_noteDifference, Cond.instanceMethod yX1_noteDifference, Cond.selects RX1 yX1_noteDifference yX1_noteDifference, Cond.code yX1_noteDifference cX1_noteDifference 5 (some .int), Cond.fieldLink RX1 19 "TimeNet$Wires" "told" "[I"]
def wsL_links : List Cond := .codeWith yL_links cL_links 6 (some .int) [(0, 9, 10, 70), (0, 9, 15, 73)] :: ((wsL_links_r1 ++ wsL_links_r2) ++ wsX20 ++ wsX10 ++ (vx_atS RX2 80 "java/lang/IllegalArgumentException" ["java/lang/RuntimeException", "java/lang/Exception"]).filter goodWord ++ (vx_atS RX2 64 "java/lang/IllegalStateException" ["java/lang/RuntimeException", "java/lang/Exception"]).filter goodWord ++ (vx_atS RX2 152 "java/lang/IndexOutOfBoundsException" ["java/lang/RuntimeException", "java/lang/Exception"]).filter goodWord)
def wsL_port : List Cond := .code yL_port cL_port 6 (some .int) :: ([.methodLink RL 27 yL_areNear, .static yL_areNear, .initialized RL, .code yL_areNear cL_areNear 4 (some .boolean), .methodLink RL 31 yL_steps, .static yL_steps, .code yL_steps cL_steps 2 (some .int), .constantLong RL 13 (11), .constantLong RL 9 (10), .methodLink RL 35 yL_parent, .static yL_parent, .code yL_parent cL_parent 2 (some .int)])
def wsL_isNet_r1 : List Cond := [Cond.methodLink RL 79 yX2_nodes, Cond.instanceMethod yX2_nodes, Cond.selects RX2 yX2_nodes yX2_nodes, Cond.initialized RX2, Cond.code yX2_nodes cX2_nodes 1 (some .int), Cond.fieldLink RX2 49 "TimeNet" "nodeCount" "I", Cond.methodLink RL 83 yX2_links, Cond.instanceMethod yX2_links, Cond.selects RX2 yX2_links yX2_links, Cond.code yX2_links cX2_links 1 (some .int), Cond.fieldLink RX2 32 "TimeNet" "wires" "LTimeNet$Wires;", Cond.methodLink RL 86 yL_best, Cond.static yL_best, Cond.initialized RL, Cond.code yL_best cL_best 7 (some .int), Cond.methodLink RL 50 yL_reached, Cond.static yL_reached, Cond.code yL_reached cL_reached 10 (some .int), Cond.methodLink RL 27 yL_areNear, Cond.static yL_areNear, Cond.code yL_areNear cL_areNear 4 (some .boolean), Cond.methodLink RL 23 yL_own, Cond.static yL_own, Cond.code yL_own cL_own 2 (some .long)]
def wsL_isNet_r2 : List Cond := [Cond.constantLong RL 7 (1001), Cond.constantLong RL 9 (10), Cond.constantLong RL 11 (110), Cond.methodLink RL 90 yL_far, Cond.static yL_far, Cond.code yL_far cL_far 6 (some .int), Cond.methodLink RL 93 yX2_best, Cond.instanceMethod yX2_best, Cond.selects RX2 yX2_best yX2_best, Cond.code yX2_best cX2_best 2 (some .int), Cond.fieldLink RX2 39 "TimeNet" "known" "LTimeNet$Knowledge;", Cond.methodLink RX2 71 yX2_requireNode, Cond.instanceMethod yX2_requireNode, Cond.selects RX2 yX2_requireNode yX2_requireNode, Cond.code yX2_requireNode cX2_requireNode 2 none, Cond.classLink RX2 148 "java/lang/IndexOutOfBoundsException", Cond.initialized "java/lang/IndexOutOfBoundsException", Cond.methodLink RX2 144 yX2_isNode, Cond.instanceMethod yX2_isNode, Cond.selects RX2 yX2_isNode yX2_isNode, Cond.code yX2_isNode cX2_isNode 2 (some .boolean), Cond.methodLink RL 96 yL_clock, Cond.static yL_clock, Cond.code yL_clock cL_clock 2 (some .int)]
def wsL_isNet_r3 : List Cond := [Cond.methodLink RL 99 yX2_steps, Cond.instanceMethod yX2_steps, Cond.selects RX2 yX2_steps yX2_steps, Cond.code yX2_steps cX2_steps 2 (some .int), Cond.methodLink RL 31 yL_steps, Cond.static yL_steps, Cond.code yL_steps cL_steps 2 (some .int), Cond.constantLong RL 13 (11), Cond.methodLink RL 101 yX2_parent, Cond.instanceMethod yX2_parent, Cond.selects RX2 yX2_parent yX2_parent, Cond.code yX2_parent cX2_parent 2 (some .int), Cond.methodLink RL 35 yL_parent, Cond.static yL_parent, Cond.code yL_parent cL_parent 2 (some .int), Cond.methodLink RL 103 yX2_bestByGraph, Cond.instanceMethod yX2_bestByGraph, Cond.selects RX2 yX2_bestByGraph yX2_bestByGraph, Cond.code yX2_bestByGraph cX2_bestByGraph 2 (some .int), Cond.methodLink RX2 128 yX2_measureDistances, Cond.instanceMethod yX2_measureDistances, Cond.selects RX2 yX2_measureDistances yX2_measureDistances, Cond.code yX2_measureDistances cX2_measureDistances 4 none, Cond.fieldLink RX2 46 "TimeNet" "distanceTo" "[I"]
def wsL_isNet_r4 : List Cond := [Cond.methodLink RX2 177 yX2_reachNeighbours, Cond.instanceMethod yX2_reachNeighbours, Cond.selects RX2 yX2_reachNeighbours yX2_reachNeighbours, Cond.code yX2_reachNeighbours cX2_reachNeighbours 4 none, Cond.methodLink RX2 122 yX2_areNeighbours, Cond.instanceMethod yX2_areNeighbours, Cond.selects RX2 yX2_areNeighbours yX2_areNeighbours, Cond.code yX2_areNeighbours cX2_areNeighbours 3 (some .boolean), Cond.fieldLink RX2 9 "TimeNet" "domainOf" "[I", Cond.instanceMethod yX1_areLinked, Cond.initialized RX1, Cond.selects RX1 yX1_areLinked yX1_areLinked, Cond.code yX1_areLinked cX1_areLinked 3 (some .boolean), Cond.fieldLink RX1 9 "TimeNet$Wires" "laid" "[Z", Cond.methodLink RX1 26 yX1_place, Cond.static yX1_place, Cond.code yX1_place cX1_place 2 (some .int), Cond.methodLink RX2 131 yX2_bestInReach, Cond.instanceMethod yX2_bestInReach, Cond.selects RX2 yX2_bestInReach yX2_bestInReach, Cond.code yX2_bestInReach cX2_bestInReach 4 (some .int), Cond.methodLink RX2 157 yX2_rankOf, Cond.instanceMethod yX2_rankOf, Cond.selects RX2 yX2_rankOf yX2_rankOf]
def wsL_isNet_r5 : List Cond := [Cond.code yX2_rankOf cX2_rankOf 2 (some .int), Cond.fieldLink RX2 13 "TimeNet" "gradeOf" "[I", Cond.fieldLink RX2 16 "TimeNet" "varianceOf" "[I", Cond.methodLink RL 106 yX2_stepsByGraph, Cond.instanceMethod yX2_stepsByGraph, Cond.selects RX2 yX2_stepsByGraph yX2_stepsByGraph, Cond.code yX2_stepsByGraph cX2_stepsByGraph 2 (some .int), Cond.methodLink RL 109 yX2_offset, Cond.instanceMethod yX2_offset, Cond.selects RX2 yX2_offset yX2_offset, Cond.code yX2_offset cX2_offset 2 (some .long), Cond.fieldLink RX2 22 "TimeNet" "offsetOf" "[J", Cond.methodLink RL 113 yX2_rate, Cond.instanceMethod yX2_rate, Cond.selects RX2 yX2_rate yX2_rate, Cond.code yX2_rate cX2_rate 2 (some .long), Cond.fieldLink RX2 26 "TimeNet" "rateOf" "[J", Cond.methodLink RL 67 yX2_port, Cond.instanceMethod yX2_port, Cond.selects RX2 yX2_port yX2_port, Cond.code yX2_port cX2_port 3 (some .int), Cond.methodLink RX2 125 yX2_isNearer, Cond.instanceMethod yX2_isNearer, Cond.selects RX2 yX2_isNearer yX2_isNearer]
def wsL_isNet_r6 : List Cond := [Cond.code yX2_isNearer cX2_isNearer 5 (some .boolean), Cond.methodLink RL 116 yL_port, Cond.static yL_port, Cond.code yL_port cL_port 6 (some .int), Cond.methodLink RL 119 yX2_spread, Cond.instanceMethod yX2_spread, Cond.selects RX2 yX2_spread yX2_spread, Cond.code yX2_spread cX2_spread 8 (some .long), Cond.methodLink RX2 135 Lib.MathLoose.min_long.x, Cond.static Lib.MathLoose.min_long.x, Cond.initialized "java/lang/Math", Cond.code Lib.MathLoose.min_long.x Lib.MathLoose.min_long.code 4 (some .long), Cond.methodLink RX2 141 Lib.MathLoose.max_long.x, Cond.static Lib.MathLoose.max_long.x, Cond.code Lib.MathLoose.max_long.x Lib.MathLoose.max_long.code 4 (some .long), Cond.methodLink RX2 56 yX2_requireWithin, Cond.static yX2_requireWithin, Cond.code yX2_requireWithin cX2_requireWithin 3 none, Cond.classLink RX2 76 "java/lang/IllegalArgumentException", Cond.initialized "java/lang/IllegalArgumentException", Cond.methodLink RL 122 yX2_isSettled, Cond.instanceMethod yX2_isSettled, Cond.selects RX2 yX2_isSettled yX2_isSettled, Cond.code yX2_isSettled cX2_isSettled 3 (some .boolean)]
def wsL_isNet : List Cond := .code yL_isNet cL_isNet 16 (some .boolean) :: ((wsL_isNet_r1 ++ (wsL_isNet_r2 ++ (wsL_isNet_r3 ++ (wsL_isNet_r4 ++ (wsL_isNet_r5 ++ wsL_isNet_r6))))) ++ wsX20 ++ wsX10 ++ wsX00 ++ (vx_atS RX2 152 "java/lang/IndexOutOfBoundsException" ["java/lang/RuntimeException", "java/lang/Exception"]).filter goodWord ++ (vx_atS RX2 80 "java/lang/IllegalArgumentException" ["java/lang/RuntimeException", "java/lang/Exception"]).filter goodWord)
theorem dL_own_0 : decode cL_own 0 = .ok (.aload_n 0, 1) := by decide +kernel
theorem dL_own_1 : decode cL_own 1 = .ok (.iconst 4, 1) := by decide +kernel
theorem dL_own_2 : decode cL_own 2 = .ok (.iload_n 1, 1) := by decide +kernel
theorem dL_own_3 : decode cL_own 3 = .ok (.imul, 1) := by decide +kernel
theorem dL_own_4 : decode cL_own 4 = .ok (.iconst 1, 1) := by decide +kernel
theorem dL_own_5 : decode cL_own 5 = .ok (.iadd, 1) := by decide +kernel
theorem dL_own_6 : decode cL_own 6 = .ok (.iaload, 1) := by decide +kernel
theorem dL_own_7 : decode cL_own 7 = .ok (.i2l, 1) := by decide +kernel
theorem dL_own_8 : decode cL_own 8 = .ok (.ldc2_w 7, 3) := by decide +kernel
theorem dL_own_11 : decode cL_own 11 = .ok (.lmul, 1) := by decide +kernel
theorem dL_own_12 : decode cL_own 12 = .ok (.aload_n 0, 1) := by decide +kernel
theorem dL_own_13 : decode cL_own 13 = .ok (.iconst 4, 1) := by decide +kernel
theorem dL_own_14 : decode cL_own 14 = .ok (.iload_n 1, 1) := by decide +kernel
theorem dL_own_15 : decode cL_own 15 = .ok (.imul, 1) := by decide +kernel
theorem dL_own_16 : decode cL_own 16 = .ok (.iconst 2, 1) := by decide +kernel
theorem dL_own_17 : decode cL_own 17 = .ok (.iadd, 1) := by decide +kernel
theorem dL_own_18 : decode cL_own 18 = .ok (.iaload, 1) := by decide +kernel
theorem dL_own_19 : decode cL_own 19 = .ok (.i2l, 1) := by decide +kernel
theorem dL_own_20 : decode cL_own 20 = .ok (.ladd, 1) := by decide +kernel
theorem dL_own_21 : decode cL_own 21 = .ok (.ldc2_w 9, 3) := by decide +kernel
theorem dL_own_24 : decode cL_own 24 = .ok (.lmul, 1) := by decide +kernel
theorem dL_own_25 : decode cL_own 25 = .ok (.iload_n 1, 1) := by decide +kernel
theorem dL_own_26 : decode cL_own 26 = .ok (.i2l, 1) := by decide +kernel
theorem dL_own_27 : decode cL_own 27 = .ok (.ladd, 1) := by decide +kernel
theorem dL_own_28 : decode cL_own 28 = .ok (.ldc2_w 11, 3) := by decide +kernel
theorem dL_own_31 : decode cL_own 31 = .ok (.lmul, 1) := by decide +kernel
theorem dL_own_32 : decode cL_own 32 = .ok (.lreturn, 1) := by decide +kernel
theorem dL_parent_0 : decode cL_parent 0 = .ok (.lload_n 0, 1) := by decide +kernel
theorem dL_parent_1 : decode cL_parent 1 = .ok (.ldc2_w 13, 3) := by decide +kernel
theorem dL_parent_4 : decode cL_parent 4 = .ok (.lrem, 1) := by decide +kernel
theorem dL_parent_5 : decode cL_parent 5 = .ok (.l2i, 1) := by decide +kernel
theorem dL_parent_6 : decode cL_parent 6 = .ok (.iconst 1, 1) := by decide +kernel
theorem dL_parent_7 : decode cL_parent 7 = .ok (.isub, 1) := by decide +kernel
theorem dL_parent_8 : decode cL_parent 8 = .ok (.ireturn, 1) := by decide +kernel
theorem dL_steps_0 : decode cL_steps 0 = .ok (.lload_n 0, 1) := by decide +kernel
theorem dL_steps_1 : decode cL_steps 1 = .ok (.ldc2_w 13, 3) := by decide +kernel
theorem dL_steps_4 : decode cL_steps 4 = .ok (.ldiv, 1) := by decide +kernel
theorem dL_steps_5 : decode cL_steps 5 = .ok (.ldc2_w 9, 3) := by decide +kernel
theorem dL_steps_8 : decode cL_steps 8 = .ok (.lrem, 1) := by decide +kernel
theorem dL_steps_9 : decode cL_steps 9 = .ok (.l2i, 1) := by decide +kernel
theorem dL_steps_10 : decode cL_steps 10 = .ok (.ireturn, 1) := by decide +kernel
theorem dL_clock_0 : decode cL_clock 0 = .ok (.lload_n 0, 1) := by decide +kernel
theorem dL_clock_1 : decode cL_clock 1 = .ok (.ldc2_w 11, 3) := by decide +kernel
theorem dL_clock_4 : decode cL_clock 4 = .ok (.ldiv, 1) := by decide +kernel
theorem dL_clock_5 : decode cL_clock 5 = .ok (.ldc2_w 9, 3) := by decide +kernel
theorem dL_clock_8 : decode cL_clock 8 = .ok (.lrem, 1) := by decide +kernel
theorem dL_clock_9 : decode cL_clock 9 = .ok (.l2i, 1) := by decide +kernel
theorem dL_clock_10 : decode cL_clock 10 = .ok (.ireturn, 1) := by decide +kernel
theorem dL_pair_0 : decode cL_pair 0 = .ok (.iload_n 0, 1) := by decide +kernel
theorem dL_pair_1 : decode cL_pair 1 = .ok (.iload_n 1, 1) := by decide +kernel
theorem dL_pair_2 : decode cL_pair 2 = .ok (.if_icmp .le 7, 3) := by decide +kernel
theorem dL_pair_5 : decode cL_pair 5 = .ok (.iload_n 0, 1) := by decide +kernel
theorem dL_pair_6 : decode cL_pair 6 = .ok (.goto 4, 3) := by decide +kernel
theorem dL_pair_9 : decode cL_pair 9 = .ok (.iload_n 1, 1) := by decide +kernel
theorem dL_pair_10 : decode cL_pair 10 = .ok (.istore_n 2, 1) := by decide +kernel
theorem dL_pair_11 : decode cL_pair 11 = .ok (.iload_n 0, 1) := by decide +kernel
theorem dL_pair_12 : decode cL_pair 12 = .ok (.iload_n 1, 1) := by decide +kernel
theorem dL_pair_13 : decode cL_pair 13 = .ok (.if_icmp .le 7, 3) := by decide +kernel
theorem dL_pair_16 : decode cL_pair 16 = .ok (.iload_n 1, 1) := by decide +kernel
theorem dL_pair_17 : decode cL_pair 17 = .ok (.goto 4, 3) := by decide +kernel
theorem dL_pair_20 : decode cL_pair 20 = .ok (.iload_n 0, 1) := by decide +kernel
theorem dL_pair_21 : decode cL_pair 21 = .ok (.istore_n 3, 1) := by decide +kernel
theorem dL_pair_22 : decode cL_pair 22 = .ok (.iload_n 2, 1) := by decide +kernel
theorem dL_pair_23 : decode cL_pair 23 = .ok (.iload_n 2, 1) := by decide +kernel
theorem dL_pair_24 : decode cL_pair 24 = .ok (.iconst 1, 1) := by decide +kernel
theorem dL_pair_25 : decode cL_pair 25 = .ok (.isub, 1) := by decide +kernel
theorem dL_pair_26 : decode cL_pair 26 = .ok (.imul, 1) := by decide +kernel
theorem dL_pair_27 : decode cL_pair 27 = .ok (.iconst 2, 1) := by decide +kernel
theorem dL_pair_28 : decode cL_pair 28 = .ok (.idiv, 1) := by decide +kernel
theorem dL_pair_29 : decode cL_pair 29 = .ok (.iload_n 3, 1) := by decide +kernel
theorem dL_pair_30 : decode cL_pair 30 = .ok (.iadd, 1) := by decide +kernel
theorem dL_pair_31 : decode cL_pair 31 = .ok (.ireturn, 1) := by decide +kernel
theorem dL_areNear_0 : decode cL_areNear 0 = .ok (.aload_n 1, 1) := by decide +kernel
theorem dL_areNear_1 : decode cL_areNear 1 = .ok (.iload_n 2, 1) := by decide +kernel
theorem dL_areNear_2 : decode cL_areNear 2 = .ok (.iaload, 1) := by decide +kernel
theorem dL_areNear_3 : decode cL_areNear 3 = .ok (.iload_n 3, 1) := by decide +kernel
theorem dL_areNear_4 : decode cL_areNear 4 = .ok (.ishr, 1) := by decide +kernel
theorem dL_areNear_5 : decode cL_areNear 5 = .ok (.iconst 1, 1) := by decide +kernel
theorem dL_areNear_6 : decode cL_areNear 6 = .ok (.iand, 1) := by decide +kernel
theorem dL_areNear_7 : decode cL_areNear 7 = .ok (.iconst 1, 1) := by decide +kernel
theorem dL_areNear_8 : decode cL_areNear 8 = .ok (.if_icmp .ne 20, 3) := by decide +kernel
theorem dL_areNear_11 : decode cL_areNear 11 = .ok (.aload_n 0, 1) := by decide +kernel
theorem dL_areNear_12 : decode cL_areNear 12 = .ok (.iconst 4, 1) := by decide +kernel
theorem dL_areNear_13 : decode cL_areNear 13 = .ok (.iload_n 2, 1) := by decide +kernel
theorem dL_areNear_14 : decode cL_areNear 14 = .ok (.imul, 1) := by decide +kernel
theorem dL_areNear_15 : decode cL_areNear 15 = .ok (.iaload, 1) := by decide +kernel
theorem dL_areNear_16 : decode cL_areNear 16 = .ok (.aload_n 0, 1) := by decide +kernel
theorem dL_areNear_17 : decode cL_areNear 17 = .ok (.iconst 4, 1) := by decide +kernel
theorem dL_areNear_18 : decode cL_areNear 18 = .ok (.iload_n 3, 1) := by decide +kernel
theorem dL_areNear_19 : decode cL_areNear 19 = .ok (.imul, 1) := by decide +kernel
theorem dL_areNear_20 : decode cL_areNear 20 = .ok (.iaload, 1) := by decide +kernel
theorem dL_areNear_21 : decode cL_areNear 21 = .ok (.if_icmp .ne 7, 3) := by decide +kernel
theorem dL_areNear_24 : decode cL_areNear 24 = .ok (.iconst 1, 1) := by decide +kernel
theorem dL_areNear_25 : decode cL_areNear 25 = .ok (.goto 4, 3) := by decide +kernel
theorem dL_areNear_28 : decode cL_areNear 28 = .ok (.iconst 0, 1) := by decide +kernel
theorem dL_areNear_29 : decode cL_areNear 29 = .ok (.ireturn, 1) := by decide +kernel
set_option maxRecDepth 20000 in
theorem ggL_delay_L_pair : GoodIn wsL_delay wsL_pair := goodIn_r _ [5] (by decide +kernel) (by decide +kernel)
set_option maxRecDepth 20000 in
theorem gL_delay_L_pair : GoodIn wsL_delay (va_wsS RL 15 yL_pair wsL_pair) := goodIn_app (goodIn_of _ (by decide +kernel)) ggL_delay_L_pair
theorem dL_delay_0 : decode cL_delay 0 = .ok (.aload_n 0, 1) := by decide +kernel
theorem dL_delay_1 : decode cL_delay 1 = .ok (.iload_n 1, 1) := by decide +kernel
theorem dL_delay_2 : decode cL_delay 2 = .ok (.iload_n 2, 1) := by decide +kernel
theorem dL_delay_3 : decode cL_delay 3 = .ok (.invokestatic 15, 3) := by decide +kernel
theorem dL_delay_6 : decode cL_delay 6 = .ok (.laload, 1) := by decide +kernel
theorem dL_delay_7 : decode cL_delay 7 = .ok (.lstore_n 3, 1) := by decide +kernel
theorem dL_delay_8 : decode cL_delay 8 = .ok (.iload_n 1, 1) := by decide +kernel
theorem dL_delay_9 : decode cL_delay 9 = .ok (.iload_n 2, 1) := by decide +kernel
theorem dL_delay_10 : decode cL_delay 10 = .ok (.if_icmp .ge 11, 3) := by decide +kernel
theorem dL_delay_13 : decode cL_delay 13 = .ok (.lload_n 3, 1) := by decide +kernel
theorem dL_delay_14 : decode cL_delay 14 = .ok (.ldc2_w 21, 3) := by decide +kernel
theorem dL_delay_17 : decode cL_delay 17 = .ok (.ldiv, 1) := by decide +kernel
theorem dL_delay_18 : decode cL_delay 18 = .ok (.goto 8, 3) := by decide +kernel
theorem dL_delay_21 : decode cL_delay 21 = .ok (.lload_n 3, 1) := by decide +kernel
theorem dL_delay_22 : decode cL_delay 22 = .ok (.ldc2_w 21, 3) := by decide +kernel
theorem dL_delay_25 : decode cL_delay 25 = .ok (.lrem, 1) := by decide +kernel
theorem dL_delay_26 : decode cL_delay 26 = .ok (.l2i, 1) := by decide +kernel
theorem dL_delay_27 : decode cL_delay 27 = .ok (.ireturn, 1) := by decide +kernel
set_option maxRecDepth 20000 in
theorem ggL_told_L_pair : GoodIn wsL_told wsL_pair := goodIn_r _ [4] (by decide +kernel) (by decide +kernel)
set_option maxRecDepth 20000 in
theorem gL_told_L_pair : GoodIn wsL_told (va_wsS RL 15 yL_pair wsL_pair) := goodIn_app (goodIn_of _ (by decide +kernel)) ggL_told_L_pair
theorem dL_told_0 : decode cL_told 0 = .ok (.iload_n 1, 1) := by decide +kernel
theorem dL_told_1 : decode cL_told 1 = .ok (.iload_n 2, 1) := by decide +kernel
theorem dL_told_2 : decode cL_told 2 = .ok (.if_icmp .ge 13, 3) := by decide +kernel
theorem dL_told_5 : decode cL_told 5 = .ok (.aload_n 0, 1) := by decide +kernel
theorem dL_told_6 : decode cL_told 6 = .ok (.iload_n 1, 1) := by decide +kernel
theorem dL_told_7 : decode cL_told 7 = .ok (.iload_n 2, 1) := by decide +kernel
theorem dL_told_8 : decode cL_told 8 = .ok (.invokestatic 15, 3) := by decide +kernel
theorem dL_told_11 : decode cL_told 11 = .ok (.iaload, 1) := by decide +kernel
theorem dL_told_12 : decode cL_told 12 = .ok (.goto 11, 3) := by decide +kernel
theorem dL_told_15 : decode cL_told 15 = .ok (.aload_n 0, 1) := by decide +kernel
theorem dL_told_16 : decode cL_told 16 = .ok (.iload_n 1, 1) := by decide +kernel
theorem dL_told_17 : decode cL_told 17 = .ok (.iload_n 2, 1) := by decide +kernel
theorem dL_told_18 : decode cL_told 18 = .ok (.invokestatic 15, 3) := by decide +kernel
theorem dL_told_21 : decode cL_told 21 = .ok (.iaload, 1) := by decide +kernel
theorem dL_told_22 : decode cL_told 22 = .ok (.ineg, 1) := by decide +kernel
theorem dL_told_23 : decode cL_told 23 = .ok (.ireturn, 1) := by decide +kernel
set_option maxRecDepth 20000 in
theorem ggL_ticks_L_own : GoodIn wsL_ticks wsL_own := goodIn_r _ [8, 9, 10, 11] (by decide +kernel) (by decide +kernel)
set_option maxRecDepth 20000 in
theorem gL_ticks_L_own : GoodIn wsL_ticks (va_wsS RL 23 yL_own wsL_own) := goodIn_app (goodIn_of _ (by decide +kernel)) ggL_ticks_L_own
set_option maxRecDepth 20000 in
theorem ggL_ticks_L_areNear : GoodIn wsL_ticks wsL_areNear := goodIn_r _ [14] (by decide +kernel) (by decide +kernel)
set_option maxRecDepth 20000 in
theorem gL_ticks_L_areNear : GoodIn wsL_ticks (va_wsS RL 27 yL_areNear wsL_areNear) := goodIn_app (goodIn_of _ (by decide +kernel)) ggL_ticks_L_areNear
set_option maxRecDepth 20000 in
theorem ggL_ticks_L_steps : GoodIn wsL_ticks wsL_steps := goodIn_r _ [17, 2, 10] (by decide +kernel) (by decide +kernel)
set_option maxRecDepth 20000 in
theorem gL_ticks_L_steps : GoodIn wsL_ticks (va_wsS RL 31 yL_steps wsL_steps) := goodIn_app (goodIn_of _ (by decide +kernel)) ggL_ticks_L_steps
set_option maxRecDepth 20000 in
theorem ggL_ticks_L_parent : GoodIn wsL_ticks wsL_parent := goodIn_r _ [20, 2] (by decide +kernel) (by decide +kernel)
set_option maxRecDepth 20000 in
theorem gL_ticks_L_parent : GoodIn wsL_ticks (va_wsS RL 35 yL_parent wsL_parent) := goodIn_app (goodIn_of _ (by decide +kernel)) ggL_ticks_L_parent
set_option maxRecDepth 20000 in
theorem ggL_ticks_L_delay : GoodIn wsL_ticks wsL_delay := goodIn_r _ [23, 24, 25, 26, 7, 27] (by decide +kernel) (by decide +kernel)
set_option maxRecDepth 20000 in
theorem gL_ticks_L_delay : GoodIn wsL_ticks (va_wsS RL 38 yL_delay wsL_delay) := goodIn_app (goodIn_of _ (by decide +kernel)) ggL_ticks_L_delay
set_option maxRecDepth 20000 in
theorem ggL_ticks_L_told : GoodIn wsL_ticks wsL_told := goodIn_r _ [30, 25, 26, 7, 27] (by decide +kernel) (by decide +kernel)
set_option maxRecDepth 20000 in
theorem gL_ticks_L_told : GoodIn wsL_ticks (va_wsS RL 42 yL_told wsL_told) := goodIn_app (goodIn_of _ (by decide +kernel)) ggL_ticks_L_told
theorem dL_ticks_0 : decode cL_ticks 0 = .ok (.bipush 10, 2) := by decide +kernel
theorem dL_ticks_2 : decode cL_ticks 2 = .ok (.newarray .long, 2) := by decide +kernel
theorem dL_ticks_4 : decode cL_ticks 4 = .ok (.astore 7, 2) := by decide +kernel
theorem dL_ticks_6 : decode cL_ticks 6 = .ok (.iconst 0, 1) := by decide +kernel
theorem dL_ticks_7 : decode cL_ticks 7 = .ok (.istore 8, 2) := by decide +kernel
theorem dL_ticks_9 : decode cL_ticks 9 = .ok (.iload 8, 2) := by decide +kernel
theorem dL_ticks_11 : decode cL_ticks 11 = .ok (.aload_n 0, 1) := by decide +kernel
theorem dL_ticks_12 : decode cL_ticks 12 = .ok (.iconst 0, 1) := by decide +kernel
theorem dL_ticks_13 : decode cL_ticks 13 = .ok (.iaload, 1) := by decide +kernel
theorem dL_ticks_14 : decode cL_ticks 14 = .ok (.if_icmp .ge 164, 3) := by decide +kernel
theorem dL_ticks_17 : decode cL_ticks 17 = .ok (.aload 6, 2) := by decide +kernel
theorem dL_ticks_19 : decode cL_ticks 19 = .ok (.iload 8, 2) := by decide +kernel
theorem dL_ticks_21 : decode cL_ticks 21 = .ok (.dup2, 1) := by decide +kernel
theorem dL_ticks_22 : decode cL_ticks 22 = .ok (.laload, 1) := by decide +kernel
theorem dL_ticks_23 : decode cL_ticks 23 = .ok (.aload 6, 2) := by decide +kernel
theorem dL_ticks_25 : decode cL_ticks 25 = .ok (.bipush 10, 2) := by decide +kernel
theorem dL_ticks_27 : decode cL_ticks 27 = .ok (.iload 8, 2) := by decide +kernel
theorem dL_ticks_29 : decode cL_ticks 29 = .ok (.iadd, 1) := by decide +kernel
theorem dL_ticks_30 : decode cL_ticks 30 = .ok (.laload, 1) := by decide +kernel
theorem dL_ticks_31 : decode cL_ticks 31 = .ok (.aload_n 1, 1) := by decide +kernel
theorem dL_ticks_32 : decode cL_ticks 32 = .ok (.iconst 4, 1) := by decide +kernel
theorem dL_ticks_33 : decode cL_ticks 33 = .ok (.iload 8, 2) := by decide +kernel
theorem dL_ticks_35 : decode cL_ticks 35 = .ok (.imul, 1) := by decide +kernel
theorem dL_ticks_36 : decode cL_ticks 36 = .ok (.iconst 3, 1) := by decide +kernel
theorem dL_ticks_37 : decode cL_ticks 37 = .ok (.iadd, 1) := by decide +kernel
theorem dL_ticks_38 : decode cL_ticks 38 = .ok (.iaload, 1) := by decide +kernel
theorem dL_ticks_39 : decode cL_ticks 39 = .ok (.i2l, 1) := by decide +kernel
theorem dL_ticks_40 : decode cL_ticks 40 = .ok (.ladd, 1) := by decide +kernel
theorem dL_ticks_41 : decode cL_ticks 41 = .ok (.ladd, 1) := by decide +kernel
theorem dL_ticks_42 : decode cL_ticks 42 = .ok (.lastore, 1) := by decide +kernel
theorem dL_ticks_43 : decode cL_ticks 43 = .ok (.aload 7, 2) := by decide +kernel
theorem dL_ticks_45 : decode cL_ticks 45 = .ok (.iload 8, 2) := by decide +kernel
theorem dL_ticks_47 : decode cL_ticks 47 = .ok (.aload_n 1, 1) := by decide +kernel
theorem dL_ticks_48 : decode cL_ticks 48 = .ok (.iload 8, 2) := by decide +kernel
theorem dL_ticks_50 : decode cL_ticks 50 = .ok (.invokestatic 23, 3) := by decide +kernel
theorem dL_ticks_53 : decode cL_ticks 53 = .ok (.lastore, 1) := by decide +kernel
theorem dL_ticks_54 : decode cL_ticks 54 = .ok (.iconst 0, 1) := by decide +kernel
theorem dL_ticks_55 : decode cL_ticks 55 = .ok (.istore 9, 2) := by decide +kernel
theorem dL_ticks_57 : decode cL_ticks 57 = .ok (.iload 9, 2) := by decide +kernel
theorem dL_ticks_59 : decode cL_ticks 59 = .ok (.aload_n 0, 1) := by decide +kernel
theorem dL_ticks_60 : decode cL_ticks 60 = .ok (.iconst 0, 1) := by decide +kernel
theorem dL_ticks_61 : decode cL_ticks 61 = .ok (.iaload, 1) := by decide +kernel
theorem dL_ticks_62 : decode cL_ticks 62 = .ok (.if_icmp .ge 110, 3) := by decide +kernel
theorem dL_ticks_65 : decode cL_ticks 65 = .ok (.aload_n 1, 1) := by decide +kernel
theorem dL_ticks_66 : decode cL_ticks 66 = .ok (.aload_n 2, 1) := by decide +kernel
theorem dL_ticks_67 : decode cL_ticks 67 = .ok (.iload 8, 2) := by decide +kernel
theorem dL_ticks_69 : decode cL_ticks 69 = .ok (.iload 9, 2) := by decide +kernel
theorem dL_ticks_71 : decode cL_ticks 71 = .ok (.invokestatic 27, 3) := by decide +kernel
theorem dL_ticks_74 : decode cL_ticks 74 = .ok (.ifCond .eq 33, 3) := by decide +kernel
theorem dL_ticks_77 : decode cL_ticks 77 = .ok (.aload 5, 2) := by decide +kernel
theorem dL_ticks_79 : decode cL_ticks 79 = .ok (.iload 9, 2) := by decide +kernel
theorem dL_ticks_81 : decode cL_ticks 81 = .ok (.laload, 1) := by decide +kernel
theorem dL_ticks_82 : decode cL_ticks 82 = .ok (.invokestatic 31, 3) := by decide +kernel
theorem dL_ticks_85 : decode cL_ticks 85 = .ok (.bipush 9, 2) := by decide +kernel
theorem dL_ticks_87 : decode cL_ticks 87 = .ok (.if_icmp .ge 20, 3) := by decide +kernel
theorem dL_ticks_90 : decode cL_ticks 90 = .ok (.aload 5, 2) := by decide +kernel
theorem dL_ticks_92 : decode cL_ticks 92 = .ok (.iload 9, 2) := by decide +kernel
theorem dL_ticks_94 : decode cL_ticks 94 = .ok (.laload, 1) := by decide +kernel
theorem dL_ticks_95 : decode cL_ticks 95 = .ok (.invokestatic 35, 3) := by decide +kernel
theorem dL_ticks_98 : decode cL_ticks 98 = .ok (.iload 8, 2) := by decide +kernel
theorem dL_ticks_100 : decode cL_ticks 100 = .ok (.if_icmp .eq 7, 3) := by decide +kernel
theorem dL_ticks_103 : decode cL_ticks 103 = .ok (.iconst 1, 1) := by decide +kernel
theorem dL_ticks_104 : decode cL_ticks 104 = .ok (.goto 4, 3) := by decide +kernel
theorem dL_ticks_107 : decode cL_ticks 107 = .ok (.iconst 0, 1) := by decide +kernel
theorem dL_ticks_108 : decode cL_ticks 108 = .ok (.istore 10, 2) := by decide +kernel
theorem dL_ticks_110 : decode cL_ticks 110 = .ok (.aload 5, 2) := by decide +kernel
theorem dL_ticks_112 : decode cL_ticks 112 = .ok (.iload 9, 2) := by decide +kernel
theorem dL_ticks_114 : decode cL_ticks 114 = .ok (.laload, 1) := by decide +kernel
theorem dL_ticks_115 : decode cL_ticks 115 = .ok (.ldc2_w 13, 3) := by decide +kernel
theorem dL_ticks_118 : decode cL_ticks 118 = .ok (.ldiv, 1) := by decide +kernel
theorem dL_ticks_119 : decode cL_ticks 119 = .ok (.ldc2_w 13, 3) := by decide +kernel
theorem dL_ticks_122 : decode cL_ticks 122 = .ok (.lmul, 1) := by decide +kernel
theorem dL_ticks_123 : decode cL_ticks 123 = .ok (.ldc2_w 13, 3) := by decide +kernel
theorem dL_ticks_126 : decode cL_ticks 126 = .ok (.ladd, 1) := by decide +kernel
theorem dL_ticks_127 : decode cL_ticks 127 = .ok (.iload 9, 2) := by decide +kernel
theorem dL_ticks_129 : decode cL_ticks 129 = .ok (.i2l, 1) := by decide +kernel
theorem dL_ticks_130 : decode cL_ticks 130 = .ok (.ladd, 1) := by decide +kernel
theorem dL_ticks_131 : decode cL_ticks 131 = .ok (.lconst 1, 1) := by decide +kernel
theorem dL_ticks_132 : decode cL_ticks 132 = .ok (.ladd, 1) := by decide +kernel
theorem dL_ticks_133 : decode cL_ticks 133 = .ok (.lstore 11, 2) := by decide +kernel
theorem dL_ticks_135 : decode cL_ticks 135 = .ok (.aload 7, 2) := by decide +kernel
theorem dL_ticks_137 : decode cL_ticks 137 = .ok (.iload 8, 2) := by decide +kernel
theorem dL_ticks_139 : decode cL_ticks 139 = .ok (.iload 10, 2) := by decide +kernel
theorem dL_ticks_141 : decode cL_ticks 141 = .ok (.ifCond .eq 19, 3) := by decide +kernel
theorem dL_ticks_144 : decode cL_ticks 144 = .ok (.lload 11, 2) := by decide +kernel
theorem dL_ticks_146 : decode cL_ticks 146 = .ok (.aload 7, 2) := by decide +kernel
theorem dL_ticks_148 : decode cL_ticks 148 = .ok (.iload 8, 2) := by decide +kernel
theorem dL_ticks_150 : decode cL_ticks 150 = .ok (.laload, 1) := by decide +kernel
theorem dL_ticks_151 : decode cL_ticks 151 = .ok (.lcmp, 1) := by decide +kernel
theorem dL_ticks_152 : decode cL_ticks 152 = .ok (.ifCond .ge 8, 3) := by decide +kernel
theorem dL_ticks_155 : decode cL_ticks 155 = .ok (.lload 11, 2) := by decide +kernel
theorem dL_ticks_157 : decode cL_ticks 157 = .ok (.goto 8, 3) := by decide +kernel
theorem dL_ticks_160 : decode cL_ticks 160 = .ok (.aload 7, 2) := by decide +kernel
theorem dL_ticks_162 : decode cL_ticks 162 = .ok (.iload 8, 2) := by decide +kernel
theorem dL_ticks_164 : decode cL_ticks 164 = .ok (.laload, 1) := by decide +kernel
theorem dL_ticks_165 : decode cL_ticks 165 = .ok (.lastore, 1) := by decide +kernel
theorem dL_ticks_166 : decode cL_ticks 166 = .ok (.iinc 9 1, 3) := by decide +kernel
theorem dL_ticks_169 : decode cL_ticks 169 = .ok (.goto (-112), 3) := by decide +kernel
theorem dL_ticks_172 : decode cL_ticks 172 = .ok (.iinc 8 1, 3) := by decide +kernel
theorem dL_ticks_175 : decode cL_ticks 175 = .ok (.goto (-166), 3) := by decide +kernel
theorem dL_ticks_178 : decode cL_ticks 178 = .ok (.iconst 0, 1) := by decide +kernel
theorem dL_ticks_179 : decode cL_ticks 179 = .ok (.istore 8, 2) := by decide +kernel
theorem dL_ticks_181 : decode cL_ticks 181 = .ok (.iload 8, 2) := by decide +kernel
theorem dL_ticks_183 : decode cL_ticks 183 = .ok (.bipush 100, 2) := by decide +kernel
theorem dL_ticks_185 : decode cL_ticks 185 = .ok (.if_icmp .ge 140, 3) := by decide +kernel
theorem dL_ticks_188 : decode cL_ticks 188 = .ok (.iload 8, 2) := by decide +kernel
theorem dL_ticks_190 : decode cL_ticks 190 = .ok (.bipush 10, 2) := by decide +kernel
theorem dL_ticks_192 : decode cL_ticks 192 = .ok (.irem, 1) := by decide +kernel
theorem dL_ticks_193 : decode cL_ticks 193 = .ok (.istore 9, 2) := by decide +kernel
theorem dL_ticks_195 : decode cL_ticks 195 = .ok (.iload 9, 2) := by decide +kernel
theorem dL_ticks_197 : decode cL_ticks 197 = .ok (.aload_n 0, 1) := by decide +kernel
theorem dL_ticks_198 : decode cL_ticks 198 = .ok (.iconst 0, 1) := by decide +kernel
theorem dL_ticks_199 : decode cL_ticks 199 = .ok (.iaload, 1) := by decide +kernel
theorem dL_ticks_200 : decode cL_ticks 200 = .ok (.if_icmp .ge 119, 3) := by decide +kernel
theorem dL_ticks_203 : decode cL_ticks 203 = .ok (.aload 7, 2) := by decide +kernel
theorem dL_ticks_205 : decode cL_ticks 205 = .ok (.iload 9, 2) := by decide +kernel
theorem dL_ticks_207 : decode cL_ticks 207 = .ok (.laload, 1) := by decide +kernel
theorem dL_ticks_208 : decode cL_ticks 208 = .ok (.invokestatic 31, 3) := by decide +kernel
theorem dL_ticks_211 : decode cL_ticks 211 = .ok (.iload 8, 2) := by decide +kernel
theorem dL_ticks_213 : decode cL_ticks 213 = .ok (.bipush 10, 2) := by decide +kernel
theorem dL_ticks_215 : decode cL_ticks 215 = .ok (.idiv, 1) := by decide +kernel
theorem dL_ticks_216 : decode cL_ticks 216 = .ok (.if_icmp .ne 103, 3) := by decide +kernel
theorem dL_ticks_219 : decode cL_ticks 219 = .ok (.aload 7, 2) := by decide +kernel
theorem dL_ticks_221 : decode cL_ticks 221 = .ok (.iload 9, 2) := by decide +kernel
theorem dL_ticks_223 : decode cL_ticks 223 = .ok (.laload, 1) := by decide +kernel
theorem dL_ticks_224 : decode cL_ticks 224 = .ok (.invokestatic 35, 3) := by decide +kernel
theorem dL_ticks_227 : decode cL_ticks 227 = .ok (.ifCond .lt 92, 3) := by decide +kernel
theorem dL_ticks_230 : decode cL_ticks 230 = .ok (.aload 7, 2) := by decide +kernel
theorem dL_ticks_232 : decode cL_ticks 232 = .ok (.iload 9, 2) := by decide +kernel
theorem dL_ticks_234 : decode cL_ticks 234 = .ok (.laload, 1) := by decide +kernel
theorem dL_ticks_235 : decode cL_ticks 235 = .ok (.invokestatic 35, 3) := by decide +kernel
theorem dL_ticks_238 : decode cL_ticks 238 = .ok (.istore 10, 2) := by decide +kernel
theorem dL_ticks_240 : decode cL_ticks 240 = .ok (.aload_n 3, 1) := by decide +kernel
theorem dL_ticks_241 : decode cL_ticks 241 = .ok (.iload 10, 2) := by decide +kernel
theorem dL_ticks_243 : decode cL_ticks 243 = .ok (.iload 9, 2) := by decide +kernel
theorem dL_ticks_245 : decode cL_ticks 245 = .ok (.invokestatic 38, 3) := by decide +kernel
theorem dL_ticks_248 : decode cL_ticks 248 = .ok (.aload_n 3, 1) := by decide +kernel
theorem dL_ticks_249 : decode cL_ticks 249 = .ok (.iload 9, 2) := by decide +kernel
theorem dL_ticks_251 : decode cL_ticks 251 = .ok (.iload 10, 2) := by decide +kernel
theorem dL_ticks_253 : decode cL_ticks 253 = .ok (.invokestatic 38, 3) := by decide +kernel
theorem dL_ticks_256 : decode cL_ticks 256 = .ok (.isub, 1) := by decide +kernel
theorem dL_ticks_257 : decode cL_ticks 257 = .ok (.aload 4, 2) := by decide +kernel
theorem dL_ticks_259 : decode cL_ticks 259 = .ok (.iload 10, 2) := by decide +kernel
theorem dL_ticks_261 : decode cL_ticks 261 = .ok (.iload 9, 2) := by decide +kernel
theorem dL_ticks_263 : decode cL_ticks 263 = .ok (.invokestatic 42, 3) := by decide +kernel
theorem dL_ticks_266 : decode cL_ticks 266 = .ok (.isub, 1) := by decide +kernel
theorem dL_ticks_267 : decode cL_ticks 267 = .ok (.iconst 2, 1) := by decide +kernel
theorem dL_ticks_268 : decode cL_ticks 268 = .ok (.idiv, 1) := by decide +kernel
theorem dL_ticks_269 : decode cL_ticks 269 = .ok (.istore 11, 2) := by decide +kernel
theorem dL_ticks_271 : decode cL_ticks 271 = .ok (.aload 6, 2) := by decide +kernel
theorem dL_ticks_273 : decode cL_ticks 273 = .ok (.iload 9, 2) := by decide +kernel
theorem dL_ticks_275 : decode cL_ticks 275 = .ok (.laload, 1) := by decide +kernel
theorem dL_ticks_276 : decode cL_ticks 276 = .ok (.aload 6, 2) := by decide +kernel
theorem dL_ticks_278 : decode cL_ticks 278 = .ok (.iload 10, 2) := by decide +kernel
theorem dL_ticks_280 : decode cL_ticks 280 = .ok (.laload, 1) := by decide +kernel
theorem dL_ticks_281 : decode cL_ticks 281 = .ok (.lsub, 1) := by decide +kernel
theorem dL_ticks_282 : decode cL_ticks 282 = .ok (.iload 11, 2) := by decide +kernel
theorem dL_ticks_284 : decode cL_ticks 284 = .ok (.i2l, 1) := by decide +kernel
theorem dL_ticks_285 : decode cL_ticks 285 = .ok (.ladd, 1) := by decide +kernel
theorem dL_ticks_286 : decode cL_ticks 286 = .ok (.lstore 12, 2) := by decide +kernel
theorem dL_ticks_288 : decode cL_ticks 288 = .ok (.aload 6, 2) := by decide +kernel
theorem dL_ticks_290 : decode cL_ticks 290 = .ok (.iload 9, 2) := by decide +kernel
theorem dL_ticks_292 : decode cL_ticks 292 = .ok (.dup2, 1) := by decide +kernel
theorem dL_ticks_293 : decode cL_ticks 293 = .ok (.laload, 1) := by decide +kernel
theorem dL_ticks_294 : decode cL_ticks 294 = .ok (.lload 12, 2) := by decide +kernel
theorem dL_ticks_296 : decode cL_ticks 296 = .ok (.ldc2_w 46, 3) := by decide +kernel
theorem dL_ticks_299 : decode cL_ticks 299 = .ok (.ldiv, 1) := by decide +kernel
theorem dL_ticks_300 : decode cL_ticks 300 = .ok (.lsub, 1) := by decide +kernel
theorem dL_ticks_301 : decode cL_ticks 301 = .ok (.lastore, 1) := by decide +kernel
theorem dL_ticks_302 : decode cL_ticks 302 = .ok (.aload 6, 2) := by decide +kernel
theorem dL_ticks_304 : decode cL_ticks 304 = .ok (.bipush 10, 2) := by decide +kernel
theorem dL_ticks_306 : decode cL_ticks 306 = .ok (.iload 9, 2) := by decide +kernel
theorem dL_ticks_308 : decode cL_ticks 308 = .ok (.iadd, 1) := by decide +kernel
theorem dL_ticks_309 : decode cL_ticks 309 = .ok (.dup2, 1) := by decide +kernel
theorem dL_ticks_310 : decode cL_ticks 310 = .ok (.laload, 1) := by decide +kernel
theorem dL_ticks_311 : decode cL_ticks 311 = .ok (.lload 12, 2) := by decide +kernel
theorem dL_ticks_313 : decode cL_ticks 313 = .ok (.ldc2_w 48, 3) := by decide +kernel
theorem dL_ticks_316 : decode cL_ticks 316 = .ok (.ldiv, 1) := by decide +kernel
theorem dL_ticks_317 : decode cL_ticks 317 = .ok (.lsub, 1) := by decide +kernel
theorem dL_ticks_318 : decode cL_ticks 318 = .ok (.lastore, 1) := by decide +kernel
theorem dL_ticks_319 : decode cL_ticks 319 = .ok (.iinc 8 1, 3) := by decide +kernel
theorem dL_ticks_322 : decode cL_ticks 322 = .ok (.goto (-141), 3) := by decide +kernel
theorem dL_ticks_325 : decode cL_ticks 325 = .ok (.iconst 0, 1) := by decide +kernel
theorem dL_ticks_326 : decode cL_ticks 326 = .ok (.istore 8, 2) := by decide +kernel
theorem dL_ticks_328 : decode cL_ticks 328 = .ok (.iload 8, 2) := by decide +kernel
theorem dL_ticks_330 : decode cL_ticks 330 = .ok (.aload_n 0, 1) := by decide +kernel
theorem dL_ticks_331 : decode cL_ticks 331 = .ok (.iconst 0, 1) := by decide +kernel
theorem dL_ticks_332 : decode cL_ticks 332 = .ok (.iaload, 1) := by decide +kernel
theorem dL_ticks_333 : decode cL_ticks 333 = .ok (.if_icmp .ge 19, 3) := by decide +kernel
theorem dL_ticks_336 : decode cL_ticks 336 = .ok (.aload 5, 2) := by decide +kernel
theorem dL_ticks_338 : decode cL_ticks 338 = .ok (.iload 8, 2) := by decide +kernel
theorem dL_ticks_340 : decode cL_ticks 340 = .ok (.aload 7, 2) := by decide +kernel
theorem dL_ticks_342 : decode cL_ticks 342 = .ok (.iload 8, 2) := by decide +kernel
theorem dL_ticks_344 : decode cL_ticks 344 = .ok (.laload, 1) := by decide +kernel
theorem dL_ticks_345 : decode cL_ticks 345 = .ok (.lastore, 1) := by decide +kernel
theorem dL_ticks_346 : decode cL_ticks 346 = .ok (.iinc 8 1, 3) := by decide +kernel
theorem dL_ticks_349 : decode cL_ticks 349 = .ok (.goto (-21), 3) := by decide +kernel
theorem dL_ticks_352 : decode cL_ticks 352 = .ok (.aload_n 0, 1) := by decide +kernel
theorem dL_ticks_353 : decode cL_ticks 353 = .ok (.iconst 2, 1) := by decide +kernel
theorem dL_ticks_354 : decode cL_ticks 354 = .ok (.dup2, 1) := by decide +kernel
theorem dL_ticks_355 : decode cL_ticks 355 = .ok (.iaload, 1) := by decide +kernel
theorem dL_ticks_356 : decode cL_ticks 356 = .ok (.iconst 1, 1) := by decide +kernel
theorem dL_ticks_357 : decode cL_ticks 357 = .ok (.iadd, 1) := by decide +kernel
theorem dL_ticks_358 : decode cL_ticks 358 = .ok (.iastore, 1) := by decide +kernel
theorem dL_ticks_359 : decode cL_ticks 359 = .ok (.return_, 1) := by decide +kernel
set_option maxRecDepth 20000 in
theorem ggL_reached_L_areNear : GoodIn wsL_reached wsL_areNear := goodIn_r _ [4] (by decide +kernel) (by decide +kernel)
set_option maxRecDepth 20000 in
theorem gL_reached_L_areNear : GoodIn wsL_reached (va_wsS RL 27 yL_areNear wsL_areNear) := goodIn_app (goodIn_of _ (by decide +kernel)) ggL_reached_L_areNear
theorem dL_reached_0 : decode cL_reached 0 = .ok (.iconst 1, 1) := by decide +kernel
theorem dL_reached_1 : decode cL_reached 1 = .ok (.iload_n 3, 1) := by decide +kernel
theorem dL_reached_2 : decode cL_reached 2 = .ok (.ishl, 1) := by decide +kernel
theorem dL_reached_3 : decode cL_reached 3 = .ok (.istore 5, 2) := by decide +kernel
theorem dL_reached_5 : decode cL_reached 5 = .ok (.iconst 0, 1) := by decide +kernel
theorem dL_reached_6 : decode cL_reached 6 = .ok (.istore 6, 2) := by decide +kernel
theorem dL_reached_8 : decode cL_reached 8 = .ok (.iload 6, 2) := by decide +kernel
theorem dL_reached_10 : decode cL_reached 10 = .ok (.iload 4, 2) := by decide +kernel
theorem dL_reached_12 : decode cL_reached 12 = .ok (.if_icmp .ge 92, 3) := by decide +kernel
theorem dL_reached_15 : decode cL_reached 15 = .ok (.iconst 0, 1) := by decide +kernel
theorem dL_reached_16 : decode cL_reached 16 = .ok (.istore 7, 2) := by decide +kernel
theorem dL_reached_18 : decode cL_reached 18 = .ok (.iconst 0, 1) := by decide +kernel
theorem dL_reached_19 : decode cL_reached 19 = .ok (.istore 8, 2) := by decide +kernel
theorem dL_reached_21 : decode cL_reached 21 = .ok (.iload 8, 2) := by decide +kernel
theorem dL_reached_23 : decode cL_reached 23 = .ok (.aload_n 0, 1) := by decide +kernel
theorem dL_reached_24 : decode cL_reached 24 = .ok (.iconst 0, 1) := by decide +kernel
theorem dL_reached_25 : decode cL_reached 25 = .ok (.iaload, 1) := by decide +kernel
theorem dL_reached_26 : decode cL_reached 26 = .ok (.aload_n 0, 1) := by decide +kernel
theorem dL_reached_27 : decode cL_reached 27 = .ok (.iconst 0, 1) := by decide +kernel
theorem dL_reached_28 : decode cL_reached 28 = .ok (.iaload, 1) := by decide +kernel
theorem dL_reached_29 : decode cL_reached 29 = .ok (.imul, 1) := by decide +kernel
theorem dL_reached_30 : decode cL_reached 30 = .ok (.if_icmp .ge 61, 3) := by decide +kernel
theorem dL_reached_33 : decode cL_reached 33 = .ok (.iload 8, 2) := by decide +kernel
theorem dL_reached_35 : decode cL_reached 35 = .ok (.aload_n 0, 1) := by decide +kernel
theorem dL_reached_36 : decode cL_reached 36 = .ok (.iconst 0, 1) := by decide +kernel
theorem dL_reached_37 : decode cL_reached 37 = .ok (.iaload, 1) := by decide +kernel
theorem dL_reached_38 : decode cL_reached 38 = .ok (.idiv, 1) := by decide +kernel
theorem dL_reached_39 : decode cL_reached 39 = .ok (.istore 9, 2) := by decide +kernel
theorem dL_reached_41 : decode cL_reached 41 = .ok (.iload 7, 2) := by decide +kernel
theorem dL_reached_43 : decode cL_reached 43 = .ok (.iload 5, 2) := by decide +kernel
theorem dL_reached_45 : decode cL_reached 45 = .ok (.iload 9, 2) := by decide +kernel
theorem dL_reached_47 : decode cL_reached 47 = .ok (.ishr, 1) := by decide +kernel
theorem dL_reached_48 : decode cL_reached 48 = .ok (.iconst 1, 1) := by decide +kernel
theorem dL_reached_49 : decode cL_reached 49 = .ok (.iand, 1) := by decide +kernel
theorem dL_reached_50 : decode cL_reached 50 = .ok (.iconst 1, 1) := by decide +kernel
theorem dL_reached_51 : decode cL_reached 51 = .ok (.if_icmp .ne 30, 3) := by decide +kernel
theorem dL_reached_54 : decode cL_reached 54 = .ok (.aload_n 1, 1) := by decide +kernel
theorem dL_reached_55 : decode cL_reached 55 = .ok (.aload_n 2, 1) := by decide +kernel
theorem dL_reached_56 : decode cL_reached 56 = .ok (.iload 9, 2) := by decide +kernel
theorem dL_reached_58 : decode cL_reached 58 = .ok (.iload 8, 2) := by decide +kernel
theorem dL_reached_60 : decode cL_reached 60 = .ok (.aload_n 0, 1) := by decide +kernel
theorem dL_reached_61 : decode cL_reached 61 = .ok (.iconst 0, 1) := by decide +kernel
theorem dL_reached_62 : decode cL_reached 62 = .ok (.iaload, 1) := by decide +kernel
theorem dL_reached_63 : decode cL_reached 63 = .ok (.irem, 1) := by decide +kernel
theorem dL_reached_64 : decode cL_reached 64 = .ok (.invokestatic 27, 3) := by decide +kernel
theorem dL_reached_67 : decode cL_reached 67 = .ok (.ifCond .eq 14, 3) := by decide +kernel
theorem dL_reached_70 : decode cL_reached 70 = .ok (.iconst 1, 1) := by decide +kernel
theorem dL_reached_71 : decode cL_reached 71 = .ok (.iload 8, 2) := by decide +kernel
theorem dL_reached_73 : decode cL_reached 73 = .ok (.aload_n 0, 1) := by decide +kernel
theorem dL_reached_74 : decode cL_reached 74 = .ok (.iconst 0, 1) := by decide +kernel
theorem dL_reached_75 : decode cL_reached 75 = .ok (.iaload, 1) := by decide +kernel
theorem dL_reached_76 : decode cL_reached 76 = .ok (.irem, 1) := by decide +kernel
theorem dL_reached_77 : decode cL_reached 77 = .ok (.ishl, 1) := by decide +kernel
theorem dL_reached_78 : decode cL_reached 78 = .ok (.goto 4, 3) := by decide +kernel
theorem dL_reached_81 : decode cL_reached 81 = .ok (.iconst 0, 1) := by decide +kernel
theorem dL_reached_82 : decode cL_reached 82 = .ok (.ior, 1) := by decide +kernel
theorem dL_reached_83 : decode cL_reached 83 = .ok (.istore 7, 2) := by decide +kernel
theorem dL_reached_85 : decode cL_reached 85 = .ok (.iinc 8 1, 3) := by decide +kernel
theorem dL_reached_88 : decode cL_reached 88 = .ok (.goto (-67), 3) := by decide +kernel
theorem dL_reached_91 : decode cL_reached 91 = .ok (.iload 5, 2) := by decide +kernel
theorem dL_reached_93 : decode cL_reached 93 = .ok (.iload 7, 2) := by decide +kernel
theorem dL_reached_95 : decode cL_reached 95 = .ok (.ior, 1) := by decide +kernel
theorem dL_reached_96 : decode cL_reached 96 = .ok (.istore 5, 2) := by decide +kernel
theorem dL_reached_98 : decode cL_reached 98 = .ok (.iinc 6 1, 3) := by decide +kernel
theorem dL_reached_101 : decode cL_reached 101 = .ok (.goto (-93), 3) := by decide +kernel
theorem dL_reached_104 : decode cL_reached 104 = .ok (.iload 5, 2) := by decide +kernel
theorem dL_reached_106 : decode cL_reached 106 = .ok (.ireturn, 1) := by decide +kernel
set_option maxRecDepth 20000 in
theorem ggL_best_L_reached : GoodIn wsL_best wsL_reached := goodIn_r _ [4, 5, 6, 3, 7] (by decide +kernel) (by decide +kernel)
set_option maxRecDepth 20000 in
theorem gL_best_L_reached : GoodIn wsL_best (va_wsS RL 50 yL_reached wsL_reached) := goodIn_app (goodIn_of _ (by decide +kernel)) ggL_best_L_reached
set_option maxRecDepth 20000 in
theorem ggL_best_L_own : GoodIn wsL_best wsL_own := goodIn_r _ [10, 11, 12, 13] (by decide +kernel) (by decide +kernel)
set_option maxRecDepth 20000 in
theorem gL_best_L_own : GoodIn wsL_best (va_wsS RL 23 yL_own wsL_own) := goodIn_app (goodIn_of _ (by decide +kernel)) ggL_best_L_own
theorem dL_best_0 : decode cL_best 0 = .ok (.aload_n 0, 1) := by decide +kernel
theorem dL_best_1 : decode cL_best 1 = .ok (.aload_n 1, 1) := by decide +kernel
theorem dL_best_2 : decode cL_best 2 = .ok (.aload_n 2, 1) := by decide +kernel
theorem dL_best_3 : decode cL_best 3 = .ok (.iload_n 3, 1) := by decide +kernel
theorem dL_best_4 : decode cL_best 4 = .ok (.bipush 9, 2) := by decide +kernel
theorem dL_best_6 : decode cL_best 6 = .ok (.invokestatic 50, 3) := by decide +kernel
theorem dL_best_9 : decode cL_best 9 = .ok (.istore 4, 2) := by decide +kernel
theorem dL_best_11 : decode cL_best 11 = .ok (.iload_n 3, 1) := by decide +kernel
theorem dL_best_12 : decode cL_best 12 = .ok (.istore 5, 2) := by decide +kernel
theorem dL_best_14 : decode cL_best 14 = .ok (.iconst 0, 1) := by decide +kernel
theorem dL_best_15 : decode cL_best 15 = .ok (.istore 6, 2) := by decide +kernel
theorem dL_best_17 : decode cL_best 17 = .ok (.iload 6, 2) := by decide +kernel
theorem dL_best_19 : decode cL_best 19 = .ok (.aload_n 0, 1) := by decide +kernel
theorem dL_best_20 : decode cL_best 20 = .ok (.iconst 0, 1) := by decide +kernel
theorem dL_best_21 : decode cL_best 21 = .ok (.iaload, 1) := by decide +kernel
theorem dL_best_22 : decode cL_best 22 = .ok (.if_icmp .ge 45, 3) := by decide +kernel
theorem dL_best_25 : decode cL_best 25 = .ok (.iload 4, 2) := by decide +kernel
theorem dL_best_27 : decode cL_best 27 = .ok (.iload 6, 2) := by decide +kernel
theorem dL_best_29 : decode cL_best 29 = .ok (.ishr, 1) := by decide +kernel
theorem dL_best_30 : decode cL_best 30 = .ok (.iconst 1, 1) := by decide +kernel
theorem dL_best_31 : decode cL_best 31 = .ok (.iand, 1) := by decide +kernel
theorem dL_best_32 : decode cL_best 32 = .ok (.iconst 1, 1) := by decide +kernel
theorem dL_best_33 : decode cL_best 33 = .ok (.if_icmp .ne 24, 3) := by decide +kernel
theorem dL_best_36 : decode cL_best 36 = .ok (.aload_n 1, 1) := by decide +kernel
theorem dL_best_37 : decode cL_best 37 = .ok (.iload 6, 2) := by decide +kernel
theorem dL_best_39 : decode cL_best 39 = .ok (.invokestatic 23, 3) := by decide +kernel
theorem dL_best_42 : decode cL_best 42 = .ok (.aload_n 1, 1) := by decide +kernel
theorem dL_best_43 : decode cL_best 43 = .ok (.iload 5, 2) := by decide +kernel
theorem dL_best_45 : decode cL_best 45 = .ok (.invokestatic 23, 3) := by decide +kernel
theorem dL_best_48 : decode cL_best 48 = .ok (.lcmp, 1) := by decide +kernel
theorem dL_best_49 : decode cL_best 49 = .ok (.ifCond .ge 8, 3) := by decide +kernel
theorem dL_best_52 : decode cL_best 52 = .ok (.iload 6, 2) := by decide +kernel
theorem dL_best_54 : decode cL_best 54 = .ok (.goto 5, 3) := by decide +kernel
theorem dL_best_57 : decode cL_best 57 = .ok (.iload 5, 2) := by decide +kernel
theorem dL_best_59 : decode cL_best 59 = .ok (.istore 5, 2) := by decide +kernel
theorem dL_best_61 : decode cL_best 61 = .ok (.iinc 6 1, 3) := by decide +kernel
theorem dL_best_64 : decode cL_best 64 = .ok (.goto (-47), 3) := by decide +kernel
theorem dL_best_67 : decode cL_best 67 = .ok (.iload 5, 2) := by decide +kernel
theorem dL_best_69 : decode cL_best 69 = .ok (.ireturn, 1) := by decide +kernel
set_option maxRecDepth 20000 in
theorem ggL_far_L_reached : GoodIn wsL_far wsL_reached := goodIn_r _ [4, 5, 6, 3, 7] (by decide +kernel) (by decide +kernel)
set_option maxRecDepth 20000 in
theorem gL_far_L_reached : GoodIn wsL_far (va_wsS RL 50 yL_reached wsL_reached) := goodIn_app (goodIn_of _ (by decide +kernel)) ggL_far_L_reached
theorem dL_far_0 : decode cL_far 0 = .ok (.iconst 0, 1) := by decide +kernel
theorem dL_far_1 : decode cL_far 1 = .ok (.istore 5, 2) := by decide +kernel
theorem dL_far_3 : decode cL_far 3 = .ok (.aload_n 0, 1) := by decide +kernel
theorem dL_far_4 : decode cL_far 4 = .ok (.aload_n 1, 1) := by decide +kernel
theorem dL_far_5 : decode cL_far 5 = .ok (.aload_n 2, 1) := by decide +kernel
theorem dL_far_6 : decode cL_far 6 = .ok (.iload_n 3, 1) := by decide +kernel
theorem dL_far_7 : decode cL_far 7 = .ok (.iload 5, 2) := by decide +kernel
theorem dL_far_9 : decode cL_far 9 = .ok (.invokestatic 50, 3) := by decide +kernel
theorem dL_far_12 : decode cL_far 12 = .ok (.iload 4, 2) := by decide +kernel
theorem dL_far_14 : decode cL_far 14 = .ok (.ishr, 1) := by decide +kernel
theorem dL_far_15 : decode cL_far 15 = .ok (.iconst 1, 1) := by decide +kernel
theorem dL_far_16 : decode cL_far 16 = .ok (.iand, 1) := by decide +kernel
theorem dL_far_17 : decode cL_far 17 = .ok (.ifCond .ne 9, 3) := by decide +kernel
theorem dL_far_20 : decode cL_far 20 = .ok (.iinc 5 1, 3) := by decide +kernel
theorem dL_far_23 : decode cL_far 23 = .ok (.goto (-20), 3) := by decide +kernel
theorem dL_far_26 : decode cL_far 26 = .ok (.iload 5, 2) := by decide +kernel
theorem dL_far_28 : decode cL_far 28 = .ok (.ireturn, 1) := by decide +kernel
set_option maxRecDepth 20000 in
theorem ggL_does_X2_cut : GoodIn wsL_does wsX2_cut := goodIn_ca (goodIn_ca (goodIn_r _ [9, 10, 11, 12, 13, 8, 14, 15, 16, 17, 18, 19, 20, 21, 22, 23, 24, 25, 26, 27, 28, 29, 30, 31, 32, 33, 34, 35, 36, 37, 38, 39, 40, 41, 42, 43, 44, 45, 46, 47, 48, 49, 50, 51, 52, 53, 54, 55, 56, 57, 58, 59, 60, 61, 62, 96, 97, 98, 99, 100, 101, 102, 103, 104, 105, 106, 107, 108, 109, 110, 111, 112, 113, 114, 115] (by decide +kernel) (by decide +kernel)) (goodIn_sub (fun _ h => List.mem_cons_of_mem _ (List.mem_append_left _ (List.mem_append_left _ (List.mem_append_right _ h)))) (by decide +kernel))) (goodIn_sub (fun _ h => List.mem_cons_of_mem _ (List.mem_append_left _ (List.mem_append_right _ h))) (by decide +kernel))
set_option maxRecDepth 20000 in
theorem gL_does_X2_cut : GoodIn wsL_does (wsV RL 54 RX2 yX2_cut wsX2_cut) := goodIn_app (goodIn_of _ (by decide +kernel)) ggL_does_X2_cut
set_option maxRecDepth 20000 in
theorem ggL_does_X2_tell : GoodIn wsL_does wsX2_tell := goodIn_ca (goodIn_ca (goodIn_ca (goodIn_r _ [66, 67, 68, 10, 11, 12, 13, 8, 14, 15, 16, 17, 18, 19, 20, 21, 69, 70, 71, 72, 73, 22, 23, 24, 25, 26, 27, 28, 29, 30, 31, 32, 33, 34, 35, 74, 75, 76, 77, 96, 97, 98, 99, 100, 101, 102, 103, 104, 105, 106, 107, 108, 109, 110, 111] (by decide +kernel) (by decide +kernel)) (goodIn_sub (fun _ h => List.mem_cons_of_mem _ (List.mem_append_left _ (List.mem_append_left _ (List.mem_append_right _ h)))) (by decide +kernel))) (goodIn_sub (fun _ h => List.mem_cons_of_mem _ (List.mem_append_right _ h)) (by decide +kernel))) (goodIn_sub (fun _ h => List.mem_cons_of_mem _ (List.mem_append_left _ (List.mem_append_right _ h))) (by decide +kernel))
set_option maxRecDepth 20000 in
theorem gL_does_X2_tell : GoodIn wsL_does (wsV RL 59 RX2 yX2_tell wsX2_tell) := goodIn_app (goodIn_of _ (by decide +kernel)) ggL_does_X2_tell
set_option maxRecDepth 20000 in
theorem ggL_does_X2_add : GoodIn wsL_does wsX2_add := goodIn_ca (goodIn_ca (goodIn_r _ [81, 26, 27, 21, 82, 53, 54, 83, 69, 70, 8, 71, 72, 73, 45, 46, 47, 48, 44, 49, 50, 51, 52, 55, 56, 57, 58, 59, 60, 61, 62, 96, 97, 98, 99, 100, 101, 102, 103, 104, 105, 106, 107, 112, 113, 114, 115] (by decide +kernel) (by decide +kernel)) (goodIn_sub (fun _ h => List.mem_cons_of_mem _ (List.mem_append_left _ (List.mem_append_right _ h))) (by decide +kernel))) (goodIn_sub (fun _ h => List.mem_cons_of_mem _ (List.mem_append_right _ h)) (by decide +kernel))
set_option maxRecDepth 20000 in
theorem gL_does_X2_add : GoodIn wsL_does (wsV RL 63 RX2 yX2_add wsX2_add) := goodIn_app (goodIn_of _ (by decide +kernel)) ggL_does_X2_add
set_option maxRecDepth 20000 in
theorem ggL_does_X2_port : GoodIn wsL_does wsX2_port := goodIn_ca (goodIn_r _ [87, 44, 11, 12, 13, 8, 14, 15, 16, 17, 18, 19, 20, 21, 88, 89, 90, 91, 82, 10, 28, 29, 30, 31, 32, 33, 34, 35, 92, 93, 94, 95, 96, 97, 98, 99, 100, 101, 102, 103, 104, 105, 106, 107, 112, 113, 114, 115, 108, 109, 110, 111] (by decide +kernel) (by decide +kernel)) (goodIn_sub (fun _ h => List.mem_cons_of_mem _ (List.mem_append_left _ (List.mem_append_left _ (List.mem_append_right _ h)))) (by decide +kernel))
set_option maxRecDepth 20000 in
theorem gL_does_X2_port : GoodIn wsL_does (wsV RL 67 RX2 yX2_port wsX2_port) := goodIn_app (goodIn_of _ (by decide +kernel)) ggL_does_X2_port
theorem dL_does_0 : decode cL_does 0 = .ok (.iload_n 1, 1) := by decide +kernel
theorem dL_does_1 : decode cL_does 1 = .ok (.ifCond .ne 12, 3) := by decide +kernel
theorem dL_does_4 : decode cL_does 4 = .ok (.aload_n 0, 1) := by decide +kernel
theorem dL_does_5 : decode cL_does 5 = .ok (.iload_n 2, 1) := by decide +kernel
theorem dL_does_6 : decode cL_does 6 = .ok (.iload_n 3, 1) := by decide +kernel
theorem dL_does_7 : decode cL_does 7 = .ok (.invokevirtual 54, 3) := by decide +kernel
theorem dL_does_10 : decode cL_does 10 = .ok (.goto 43, 3) := by decide +kernel
theorem dL_does_13 : decode cL_does 13 = .ok (.iload_n 1, 1) := by decide +kernel
theorem dL_does_14 : decode cL_does 14 = .ok (.iconst 1, 1) := by decide +kernel
theorem dL_does_15 : decode cL_does 15 = .ok (.if_icmp .ne 14, 3) := by decide +kernel
theorem dL_does_18 : decode cL_does 18 = .ok (.aload_n 0, 1) := by decide +kernel
theorem dL_does_19 : decode cL_does 19 = .ok (.iload_n 2, 1) := by decide +kernel
theorem dL_does_20 : decode cL_does 20 = .ok (.iload_n 3, 1) := by decide +kernel
theorem dL_does_21 : decode cL_does 21 = .ok (.iload 4, 2) := by decide +kernel
theorem dL_does_23 : decode cL_does 23 = .ok (.invokevirtual 59, 3) := by decide +kernel
theorem dL_does_26 : decode cL_does 26 = .ok (.goto 27, 3) := by decide +kernel
theorem dL_does_29 : decode cL_does 29 = .ok (.iload_n 1, 1) := by decide +kernel
theorem dL_does_30 : decode cL_does 30 = .ok (.iconst 2, 1) := by decide +kernel
theorem dL_does_31 : decode cL_does 31 = .ok (.if_icmp .ne 16, 3) := by decide +kernel
theorem dL_does_34 : decode cL_does 34 = .ok (.aload_n 0, 1) := by decide +kernel
theorem dL_does_35 : decode cL_does 35 = .ok (.iload_n 2, 1) := by decide +kernel
theorem dL_does_36 : decode cL_does 36 = .ok (.iload_n 3, 1) := by decide +kernel
theorem dL_does_37 : decode cL_does 37 = .ok (.iload 4, 2) := by decide +kernel
theorem dL_does_39 : decode cL_does 39 = .ok (.bipush 7, 2) := by decide +kernel
theorem dL_does_41 : decode cL_does 41 = .ok (.invokevirtual 63, 3) := by decide +kernel
theorem dL_does_44 : decode cL_does 44 = .ok (.goto 9, 3) := by decide +kernel
theorem dL_does_47 : decode cL_does 47 = .ok (.aload_n 0, 1) := by decide +kernel
theorem dL_does_48 : decode cL_does 48 = .ok (.iload_n 2, 1) := by decide +kernel
theorem dL_does_49 : decode cL_does 49 = .ok (.iload_n 3, 1) := by decide +kernel
theorem dL_does_50 : decode cL_does 50 = .ok (.invokevirtual 67, 3) := by decide +kernel
theorem dL_does_53 : decode cL_does 53 = .ok (.ireturn, 1) := by decide +kernel
theorem dL_does_54 : decode cL_does 54 = .ok (.astore 5, 2) := by decide +kernel
theorem dL_does_56 : decode cL_does 56 = .ok (.ldc 72, 2) := by decide +kernel
theorem dL_does_58 : decode cL_does 58 = .ok (.ireturn, 1) := by decide +kernel
theorem dL_does_59 : decode cL_does 59 = .ok (.astore 5, 2) := by decide +kernel
theorem dL_does_61 : decode cL_does 61 = .ok (.ldc 75, 2) := by decide +kernel
theorem dL_does_63 : decode cL_does 63 = .ok (.ireturn, 1) := by decide +kernel
set_option maxRecDepth 20000 in
theorem ggL_links_X2_link : GoodIn wsL_links wsX2_link := goodIn_ca (goodIn_ca (goodIn_ca (goodIn_r _ [7, 8, 9, 10, 11, 12, 13, 14, 15, 16, 6, 17, 18, 19, 20, 21, 22, 23, 24, 25, 26, 27, 28, 29, 30, 31, 32, 33, 34, 35, 36, 37, 38, 39, 40, 41, 42, 43, 44, 45, 46, 47, 48, 49, 50, 51, 52, 53, 54, 55, 56, 57, 58, 59, 60, 61] (by decide +kernel) (by decide +kernel)) (goodIn_sub (fun _ h => List.mem_cons_of_mem _ (List.mem_append_left _ (List.mem_append_left _ (List.mem_append_right _ h)))) (by decide +kernel))) (goodIn_sub (fun _ h => List.mem_cons_of_mem _ (List.mem_append_left _ (List.mem_append_right _ h))) (by decide +kernel))) (goodIn_sub (fun _ h => List.mem_cons_of_mem _ (List.mem_append_right _ h)) (by decide +kernel))
set_option maxRecDepth 20000 in
theorem gL_links_X2_link : GoodIn wsL_links (wsV RL 76 RX2 yX2_link wsX2_link) := goodIn_app (goodIn_of _ (by decide +kernel)) ggL_links_X2_link
theorem dL_links_0 : decode cL_links 0 = .ok (.aload_n 0, 1) := by decide +kernel
theorem dL_links_1 : decode cL_links 1 = .ok (.iload_n 1, 1) := by decide +kernel
theorem dL_links_2 : decode cL_links 2 = .ok (.iload_n 2, 1) := by decide +kernel
theorem dL_links_3 : decode cL_links 3 = .ok (.iload_n 3, 1) := by decide +kernel
theorem dL_links_4 : decode cL_links 4 = .ok (.iload 4, 2) := by decide +kernel
theorem dL_links_6 : decode cL_links 6 = .ok (.invokevirtual 76, 3) := by decide +kernel
theorem dL_links_9 : decode cL_links 9 = .ok (.ireturn, 1) := by decide +kernel
theorem dL_links_10 : decode cL_links 10 = .ok (.astore 5, 2) := by decide +kernel
theorem dL_links_12 : decode cL_links 12 = .ok (.bipush (-12), 2) := by decide +kernel
theorem dL_links_14 : decode cL_links 14 = .ok (.ireturn, 1) := by decide +kernel
theorem dL_links_15 : decode cL_links 15 = .ok (.astore 5, 2) := by decide +kernel
theorem dL_links_17 : decode cL_links 17 = .ok (.bipush (-13), 2) := by decide +kernel
theorem dL_links_19 : decode cL_links 19 = .ok (.ireturn, 1) := by decide +kernel
set_option maxRecDepth 20000 in
theorem ggL_port_L_areNear : GoodIn wsL_port wsL_areNear := goodIn_r _ [4] (by decide +kernel) (by decide +kernel)
set_option maxRecDepth 20000 in
theorem gL_port_L_areNear : GoodIn wsL_port (va_wsS RL 27 yL_areNear wsL_areNear) := goodIn_app (goodIn_of _ (by decide +kernel)) ggL_port_L_areNear
set_option maxRecDepth 20000 in
theorem ggL_port_L_steps : GoodIn wsL_port wsL_steps := goodIn_r _ [7, 8, 9] (by decide +kernel) (by decide +kernel)
set_option maxRecDepth 20000 in
theorem gL_port_L_steps : GoodIn wsL_port (va_wsS RL 31 yL_steps wsL_steps) := goodIn_app (goodIn_of _ (by decide +kernel)) ggL_port_L_steps
set_option maxRecDepth 20000 in
theorem ggL_port_L_parent : GoodIn wsL_port wsL_parent := goodIn_r _ [12, 8] (by decide +kernel) (by decide +kernel)
set_option maxRecDepth 20000 in
theorem gL_port_L_parent : GoodIn wsL_port (va_wsS RL 35 yL_parent wsL_parent) := goodIn_app (goodIn_of _ (by decide +kernel)) ggL_port_L_parent
theorem dL_port_0 : decode cL_port 0 = .ok (.aload_n 0, 1) := by decide +kernel
theorem dL_port_1 : decode cL_port 1 = .ok (.aload_n 1, 1) := by decide +kernel
theorem dL_port_2 : decode cL_port 2 = .ok (.iload_n 3, 1) := by decide +kernel
theorem dL_port_3 : decode cL_port 3 = .ok (.iload 4, 2) := by decide +kernel
theorem dL_port_5 : decode cL_port 5 = .ok (.invokestatic 27, 3) := by decide +kernel
theorem dL_port_8 : decode cL_port 8 = .ok (.ifCond .ne 5, 3) := by decide +kernel
theorem dL_port_11 : decode cL_port 11 = .ok (.iconst 0, 1) := by decide +kernel
theorem dL_port_12 : decode cL_port 12 = .ok (.ireturn, 1) := by decide +kernel
theorem dL_port_13 : decode cL_port 13 = .ok (.aload_n 2, 1) := by decide +kernel
theorem dL_port_14 : decode cL_port 14 = .ok (.iload_n 3, 1) := by decide +kernel
theorem dL_port_15 : decode cL_port 15 = .ok (.laload, 1) := by decide +kernel
theorem dL_port_16 : decode cL_port 16 = .ok (.invokestatic 31, 3) := by decide +kernel
theorem dL_port_19 : decode cL_port 19 = .ok (.bipush 10, 2) := by decide +kernel
theorem dL_port_21 : decode cL_port 21 = .ok (.imul, 1) := by decide +kernel
theorem dL_port_22 : decode cL_port 22 = .ok (.iload_n 3, 1) := by decide +kernel
theorem dL_port_23 : decode cL_port 23 = .ok (.iadd, 1) := by decide +kernel
theorem dL_port_24 : decode cL_port 24 = .ok (.aload_n 2, 1) := by decide +kernel
theorem dL_port_25 : decode cL_port 25 = .ok (.iload 4, 2) := by decide +kernel
theorem dL_port_27 : decode cL_port 27 = .ok (.laload, 1) := by decide +kernel
theorem dL_port_28 : decode cL_port 28 = .ok (.invokestatic 31, 3) := by decide +kernel
theorem dL_port_31 : decode cL_port 31 = .ok (.bipush 10, 2) := by decide +kernel
theorem dL_port_33 : decode cL_port 33 = .ok (.imul, 1) := by decide +kernel
theorem dL_port_34 : decode cL_port 34 = .ok (.iload 4, 2) := by decide +kernel
theorem dL_port_36 : decode cL_port 36 = .ok (.iadd, 1) := by decide +kernel
theorem dL_port_37 : decode cL_port 37 = .ok (.if_icmp .ge 7, 3) := by decide +kernel
theorem dL_port_40 : decode cL_port 40 = .ok (.iconst 1, 1) := by decide +kernel
theorem dL_port_41 : decode cL_port 41 = .ok (.goto 4, 3) := by decide +kernel
theorem dL_port_44 : decode cL_port 44 = .ok (.iconst 0, 1) := by decide +kernel
theorem dL_port_45 : decode cL_port 45 = .ok (.istore 5, 2) := by decide +kernel
theorem dL_port_47 : decode cL_port 47 = .ok (.aload_n 2, 1) := by decide +kernel
theorem dL_port_48 : decode cL_port 48 = .ok (.iload_n 3, 1) := by decide +kernel
theorem dL_port_49 : decode cL_port 49 = .ok (.laload, 1) := by decide +kernel
theorem dL_port_50 : decode cL_port 50 = .ok (.invokestatic 35, 3) := by decide +kernel
theorem dL_port_53 : decode cL_port 53 = .ok (.iload 4, 2) := by decide +kernel
theorem dL_port_55 : decode cL_port 55 = .ok (.if_icmp .ne 7, 3) := by decide +kernel
theorem dL_port_58 : decode cL_port 58 = .ok (.iconst 1, 1) := by decide +kernel
theorem dL_port_59 : decode cL_port 59 = .ok (.goto 24, 3) := by decide +kernel
theorem dL_port_62 : decode cL_port 62 = .ok (.aload_n 2, 1) := by decide +kernel
theorem dL_port_63 : decode cL_port 63 = .ok (.iload 4, 2) := by decide +kernel
theorem dL_port_65 : decode cL_port 65 = .ok (.laload, 1) := by decide +kernel
theorem dL_port_66 : decode cL_port 66 = .ok (.invokestatic 35, 3) := by decide +kernel
theorem dL_port_69 : decode cL_port 69 = .ok (.iload_n 3, 1) := by decide +kernel
theorem dL_port_70 : decode cL_port 70 = .ok (.if_icmp .eq 8, 3) := by decide +kernel
theorem dL_port_73 : decode cL_port 73 = .ok (.iload 5, 2) := by decide +kernel
theorem dL_port_75 : decode cL_port 75 = .ok (.ifCond .eq 7, 3) := by decide +kernel
theorem dL_port_78 : decode cL_port 78 = .ok (.iconst 2, 1) := by decide +kernel
theorem dL_port_79 : decode cL_port 79 = .ok (.goto 4, 3) := by decide +kernel
theorem dL_port_82 : decode cL_port 82 = .ok (.iconst 3, 1) := by decide +kernel
theorem dL_port_83 : decode cL_port 83 = .ok (.ireturn, 1) := by decide +kernel
set_option maxRecDepth 20000 in
theorem ggL_isNet_X2_nodes : GoodIn wsL_isNet wsX2_nodes := goodIn_r _ [5, 6, 145, 146, 147, 148, 149, 150, 151, 152, 153, 154, 155, 156] (by decide +kernel) (by decide +kernel)
set_option maxRecDepth 20000 in
theorem gL_isNet_X2_nodes : GoodIn wsL_isNet (wsV RL 79 RX2 yX2_nodes wsX2_nodes) := goodIn_app (goodIn_of _ (by decide +kernel)) ggL_isNet_X2_nodes
set_option maxRecDepth 20000 in
theorem ggL_isNet_X2_links : GoodIn wsL_isNet wsX2_links := goodIn_r _ [10, 11, 145, 146, 147, 148, 149, 150, 151, 152, 153, 154, 155, 156, 157, 158, 159, 160] (by decide +kernel) (by decide +kernel)
set_option maxRecDepth 20000 in
theorem gL_isNet_X2_links : GoodIn wsL_isNet (wsV RL 83 RX2 yX2_links wsX2_links) := goodIn_app (goodIn_of _ (by decide +kernel)) ggL_isNet_X2_links
set_option maxRecDepth 20000 in
theorem ggL_isNet_L_best : GoodIn wsL_isNet wsL_best := goodIn_r _ [15, 16, 17, 14, 18, 19, 20, 21, 22, 23, 24, 25, 26, 27] (by decide +kernel) (by decide +kernel)
set_option maxRecDepth 20000 in
theorem gL_isNet_L_best : GoodIn wsL_isNet (va_wsS RL 86 yL_best wsL_best) := goodIn_app (goodIn_of _ (by decide +kernel)) ggL_isNet_L_best
set_option maxRecDepth 20000 in
theorem ggL_isNet_L_far : GoodIn wsL_isNet wsL_far := goodIn_r _ [30, 16, 17, 14, 18, 19, 20, 21] (by decide +kernel) (by decide +kernel)
set_option maxRecDepth 20000 in
theorem gL_isNet_L_far : GoodIn wsL_isNet (va_wsS RL 90 yL_far wsL_far) := goodIn_app (goodIn_of _ (by decide +kernel)) ggL_isNet_L_far
set_option maxRecDepth 20000 in
theorem ggL_isNet_X2_best : GoodIn wsL_isNet wsX2_best := goodIn_ca (goodIn_r _ [34, 35, 36, 37, 38, 4, 39, 40, 41, 42, 43, 44, 45, 6, 145, 146, 147, 148, 149, 150, 151, 152, 153, 154, 155, 156, 161, 162, 163, 164] (by decide +kernel) (by decide +kernel)) (goodIn_sub (fun _ h => List.mem_cons_of_mem _ (List.mem_append_left _ (List.mem_append_right _ h))) (by decide +kernel))
set_option maxRecDepth 20000 in
theorem gL_isNet_X2_best : GoodIn wsL_isNet (wsV RL 93 RX2 yX2_best wsX2_best) := goodIn_app (goodIn_of _ (by decide +kernel)) ggL_isNet_X2_best
set_option maxRecDepth 20000 in
theorem ggL_isNet_L_clock : GoodIn wsL_isNet wsL_clock := goodIn_r _ [48, 27, 26] (by decide +kernel) (by decide +kernel)
set_option maxRecDepth 20000 in
theorem gL_isNet_L_clock : GoodIn wsL_isNet (va_wsS RL 96 yL_clock wsL_clock) := goodIn_app (goodIn_of _ (by decide +kernel)) ggL_isNet_L_clock
set_option maxRecDepth 20000 in
theorem ggL_isNet_X2_steps : GoodIn wsL_isNet wsX2_steps := goodIn_ca (goodIn_r _ [52, 35, 36, 37, 38, 4, 39, 40, 41, 42, 43, 44, 45, 6, 145, 146, 147, 148, 149, 150, 151, 152, 153, 154, 155, 156, 161, 162, 163, 164] (by decide +kernel) (by decide +kernel)) (goodIn_sub (fun _ h => List.mem_cons_of_mem _ (List.mem_append_left _ (List.mem_append_right _ h))) (by decide +kernel))
set_option maxRecDepth 20000 in
theorem gL_isNet_X2_steps : GoodIn wsL_isNet (wsV RL 99 RX2 yX2_steps wsX2_steps) := goodIn_app (goodIn_of _ (by decide +kernel)) ggL_isNet_X2_steps
set_option maxRecDepth 20000 in
theorem ggL_isNet_L_steps : GoodIn wsL_isNet wsL_steps := goodIn_r _ [55, 56, 26] (by decide +kernel) (by decide +kernel)
set_option maxRecDepth 20000 in
theorem gL_isNet_L_steps : GoodIn wsL_isNet (va_wsS RL 31 yL_steps wsL_steps) := goodIn_app (goodIn_of _ (by decide +kernel)) ggL_isNet_L_steps
set_option maxRecDepth 20000 in
theorem ggL_isNet_X2_parent : GoodIn wsL_isNet wsX2_parent := goodIn_ca (goodIn_r _ [60, 35, 36, 37, 38, 4, 39, 40, 41, 42, 43, 44, 45, 6, 145, 146, 147, 148, 149, 150, 151, 152, 153, 154, 155, 156, 161, 162, 163, 164] (by decide +kernel) (by decide +kernel)) (goodIn_sub (fun _ h => List.mem_cons_of_mem _ (List.mem_append_left _ (List.mem_append_right _ h))) (by decide +kernel))
set_option maxRecDepth 20000 in
theorem gL_isNet_X2_parent : GoodIn wsL_isNet (wsV RL 101 RX2 yX2_parent wsX2_parent) := goodIn_app (goodIn_of _ (by decide +kernel)) ggL_isNet_X2_parent
set_option maxRecDepth 20000 in
theorem ggL_isNet_L_parent : GoodIn wsL_isNet wsL_parent := goodIn_r _ [63, 56] (by decide +kernel) (by decide +kernel)
set_option maxRecDepth 20000 in
theorem gL_isNet_L_parent : GoodIn wsL_isNet (va_wsS RL 35 yL_parent wsL_parent) := goodIn_app (goodIn_of _ (by decide +kernel)) ggL_isNet_L_parent
set_option maxRecDepth 20000 in
theorem ggL_isNet_X2_bestByGraph : GoodIn wsL_isNet wsX2_bestByGraph := goodIn_ca (goodIn_r _ [67, 36, 37, 38, 4, 39, 40, 41, 42, 43, 44, 45, 6, 68, 69, 70, 71, 72, 73, 74, 75, 76, 77, 78, 79, 80, 81, 11, 82, 83, 84, 85, 86, 87, 88, 89, 90, 91, 92, 93, 94, 95, 96, 97, 98, 99, 145, 146, 147, 148, 149, 150, 151, 152, 153, 154, 155, 156, 157, 158, 159, 160] (by decide +kernel) (by decide +kernel)) (goodIn_sub (fun _ h => List.mem_cons_of_mem _ (List.mem_append_left _ (List.mem_append_right _ h))) (by decide +kernel))
set_option maxRecDepth 20000 in
theorem gL_isNet_X2_bestByGraph : GoodIn wsL_isNet (wsV RL 103 RX2 yX2_bestByGraph wsX2_bestByGraph) := goodIn_app (goodIn_of _ (by decide +kernel)) ggL_isNet_X2_bestByGraph
set_option maxRecDepth 20000 in
theorem ggL_isNet_X2_stepsByGraph : GoodIn wsL_isNet wsX2_stepsByGraph := goodIn_ca (goodIn_r _ [103, 72, 36, 37, 38, 4, 39, 40, 41, 42, 43, 44, 45, 6, 68, 69, 70, 71, 73, 74, 75, 76, 77, 78, 79, 80, 81, 11, 82, 83, 84, 85, 86, 87, 88, 89, 90, 91, 92, 93, 94, 95, 96, 97, 98, 99, 145, 146, 147, 148, 149, 150, 151, 152, 153, 154, 155, 156, 157, 158, 159, 160] (by decide +kernel) (by decide +kernel)) (goodIn_sub (fun _ h => List.mem_cons_of_mem _ (List.mem_append_left _ (List.mem_append_right _ h))) (by decide +kernel))
set_option maxRecDepth 20000 in
theorem gL_isNet_X2_stepsByGraph : GoodIn wsL_isNet (wsV RL 106 RX2 yX2_stepsByGraph wsX2_stepsByGraph) := goodIn_app (goodIn_of _ (by decide +kernel)) ggL_isNet_X2_stepsByGraph
set_option maxRecDepth 20000 in
theorem ggL_isNet_X2_offset : GoodIn wsL_isNet wsX2_offset := goodIn_ca (goodIn_r _ [107, 108, 36, 37, 38, 4, 39, 40, 41, 42, 43, 44, 45, 6, 145, 146, 147, 148, 149, 150, 151, 152, 153, 154, 155, 156] (by decide +kernel) (by decide +kernel)) (goodIn_sub (fun _ h => List.mem_cons_of_mem _ (List.mem_append_left _ (List.mem_append_right _ h))) (by decide +kernel))
set_option maxRecDepth 20000 in
theorem gL_isNet_X2_offset : GoodIn wsL_isNet (wsV RL 109 RX2 yX2_offset wsX2_offset) := goodIn_app (goodIn_of _ (by decide +kernel)) ggL_isNet_X2_offset
set_option maxRecDepth 20000 in
theorem ggL_isNet_X2_rate : GoodIn wsL_isNet wsX2_rate := goodIn_ca (goodIn_r _ [112, 113, 36, 37, 38, 4, 39, 40, 41, 42, 43, 44, 45, 6, 145, 146, 147, 148, 149, 150, 151, 152, 153, 154, 155, 156] (by decide +kernel) (by decide +kernel)) (goodIn_sub (fun _ h => List.mem_cons_of_mem _ (List.mem_append_left _ (List.mem_append_right _ h))) (by decide +kernel))
set_option maxRecDepth 20000 in
theorem gL_isNet_X2_rate : GoodIn wsL_isNet (wsV RL 113 RX2 yX2_rate wsX2_rate) := goodIn_app (goodIn_of _ (by decide +kernel)) ggL_isNet_X2_rate
set_option maxRecDepth 20000 in
theorem ggL_isNet_X2_port : GoodIn wsL_isNet wsX2_port := goodIn_ca (goodIn_r _ [117, 35, 36, 37, 38, 4, 39, 40, 41, 42, 43, 44, 45, 6, 77, 78, 79, 80, 81, 11, 82, 83, 84, 85, 86, 87, 88, 89, 118, 119, 120, 121, 145, 146, 147, 148, 149, 150, 151, 152, 153, 154, 155, 156, 161, 162, 163, 164, 157, 158, 159, 160] (by decide +kernel) (by decide +kernel)) (goodIn_sub (fun _ h => List.mem_cons_of_mem _ (List.mem_append_left _ (List.mem_append_right _ h))) (by decide +kernel))
set_option maxRecDepth 20000 in
theorem gL_isNet_X2_port : GoodIn wsL_isNet (wsV RL 67 RX2 yX2_port wsX2_port) := goodIn_app (goodIn_of _ (by decide +kernel)) ggL_isNet_X2_port
set_option maxRecDepth 20000 in
theorem ggL_isNet_L_port : GoodIn wsL_isNet wsL_port := goodIn_r _ [124, 19, 20, 14, 21, 53, 54, 55, 56, 26, 61, 62, 63] (by decide +kernel) (by decide +kernel)
set_option maxRecDepth 20000 in
theorem gL_isNet_L_port : GoodIn wsL_isNet (va_wsS RL 116 yL_port wsL_port) := goodIn_app (goodIn_of _ (by decide +kernel)) ggL_isNet_L_port
set_option maxRecDepth 20000 in
theorem ggL_isNet_X2_spread : GoodIn wsL_isNet wsX2_spread := goodIn_ca (goodIn_r _ [128, 6, 81, 108, 129, 130, 131, 132, 133, 134, 135, 136, 137, 4, 138, 139, 140, 145, 146, 147, 148, 149, 150, 151, 152, 153, 154, 155, 156] (by decide +kernel) (by decide +kernel)) (goodIn_sub (fun _ h => List.mem_cons_of_mem _ (List.mem_append_right _ h)) (by decide +kernel))
set_option maxRecDepth 20000 in
theorem gL_isNet_X2_spread : GoodIn wsL_isNet (wsV RL 119 RX2 yX2_spread wsX2_spread) := goodIn_app (goodIn_of _ (by decide +kernel)) ggL_isNet_X2_spread
set_option maxRecDepth 20000 in
theorem ggL_isNet_X2_isSettled : GoodIn wsL_isNet wsX2_isSettled := goodIn_r _ [144, 6, 35, 72, 68, 69, 70, 4, 71, 73, 74, 75, 76, 77, 78, 79, 80, 81, 11, 82, 83, 84, 85, 86, 87, 88, 89, 90, 91, 92, 93, 94, 95, 96, 97, 98, 99, 145, 146, 147, 148, 149, 150, 151, 152, 153, 154, 155, 156, 161, 162, 163, 164, 157, 158, 159, 160] (by decide +kernel) (by decide +kernel)
set_option maxRecDepth 20000 in
theorem gL_isNet_X2_isSettled : GoodIn wsL_isNet (wsV RL 122 RX2 yX2_isSettled wsX2_isSettled) := goodIn_app (goodIn_of _ (by decide +kernel)) ggL_isNet_X2_isSettled
theorem dL_isNet_0 : decode cL_isNet 0 = .ok (.iconst 1, 1) := by decide +kernel
theorem dL_isNet_1 : decode cL_isNet 1 = .ok (.istore 7, 2) := by decide +kernel
theorem dL_isNet_3 : decode cL_isNet 3 = .ok (.aload_n 0, 1) := by decide +kernel
theorem dL_isNet_4 : decode cL_isNet 4 = .ok (.invokevirtual 79, 3) := by decide +kernel
theorem dL_isNet_7 : decode cL_isNet 7 = .ok (.aload_n 1, 1) := by decide +kernel
theorem dL_isNet_8 : decode cL_isNet 8 = .ok (.iconst 0, 1) := by decide +kernel
theorem dL_isNet_9 : decode cL_isNet 9 = .ok (.iaload, 1) := by decide +kernel
theorem dL_isNet_10 : decode cL_isNet 10 = .ok (.if_icmp .ne 17, 3) := by decide +kernel
theorem dL_isNet_13 : decode cL_isNet 13 = .ok (.aload_n 0, 1) := by decide +kernel
theorem dL_isNet_14 : decode cL_isNet 14 = .ok (.invokevirtual 83, 3) := by decide +kernel
theorem dL_isNet_17 : decode cL_isNet 17 = .ok (.aload_n 1, 1) := by decide +kernel
theorem dL_isNet_18 : decode cL_isNet 18 = .ok (.iconst 1, 1) := by decide +kernel
theorem dL_isNet_19 : decode cL_isNet 19 = .ok (.iaload, 1) := by decide +kernel
theorem dL_isNet_20 : decode cL_isNet 20 = .ok (.if_icmp .ne 7, 3) := by decide +kernel
theorem dL_isNet_23 : decode cL_isNet 23 = .ok (.iconst 1, 1) := by decide +kernel
theorem dL_isNet_24 : decode cL_isNet 24 = .ok (.goto 4, 3) := by decide +kernel
theorem dL_isNet_27 : decode cL_isNet 27 = .ok (.iconst 0, 1) := by decide +kernel
theorem dL_isNet_28 : decode cL_isNet 28 = .ok (.istore 8, 2) := by decide +kernel
theorem dL_isNet_30 : decode cL_isNet 30 = .ok (.iconst 0, 1) := by decide +kernel
theorem dL_isNet_31 : decode cL_isNet 31 = .ok (.istore 9, 2) := by decide +kernel
theorem dL_isNet_33 : decode cL_isNet 33 = .ok (.iload 9, 2) := by decide +kernel
theorem dL_isNet_35 : decode cL_isNet 35 = .ok (.aload_n 1, 1) := by decide +kernel
theorem dL_isNet_36 : decode cL_isNet 36 = .ok (.iconst 0, 1) := by decide +kernel
theorem dL_isNet_37 : decode cL_isNet 37 = .ok (.iaload, 1) := by decide +kernel
theorem dL_isNet_38 : decode cL_isNet 38 = .ok (.if_icmp .ge 220, 3) := by decide +kernel
theorem dL_isNet_41 : decode cL_isNet 41 = .ok (.iload 8, 2) := by decide +kernel
theorem dL_isNet_43 : decode cL_isNet 43 = .ok (.ifCond .eq 215, 3) := by decide +kernel
theorem dL_isNet_46 : decode cL_isNet 46 = .ok (.aload_n 1, 1) := by decide +kernel
theorem dL_isNet_47 : decode cL_isNet 47 = .ok (.aload_n 2, 1) := by decide +kernel
theorem dL_isNet_48 : decode cL_isNet 48 = .ok (.aload_n 3, 1) := by decide +kernel
theorem dL_isNet_49 : decode cL_isNet 49 = .ok (.iload 9, 2) := by decide +kernel
theorem dL_isNet_51 : decode cL_isNet 51 = .ok (.invokestatic 86, 3) := by decide +kernel
theorem dL_isNet_54 : decode cL_isNet 54 = .ok (.istore 10, 2) := by decide +kernel
theorem dL_isNet_56 : decode cL_isNet 56 = .ok (.aload_n 1, 1) := by decide +kernel
theorem dL_isNet_57 : decode cL_isNet 57 = .ok (.aload_n 2, 1) := by decide +kernel
theorem dL_isNet_58 : decode cL_isNet 58 = .ok (.aload_n 3, 1) := by decide +kernel
theorem dL_isNet_59 : decode cL_isNet 59 = .ok (.iload 9, 2) := by decide +kernel
theorem dL_isNet_61 : decode cL_isNet 61 = .ok (.iload 10, 2) := by decide +kernel
theorem dL_isNet_63 : decode cL_isNet 63 = .ok (.invokestatic 90, 3) := by decide +kernel
theorem dL_isNet_66 : decode cL_isNet 66 = .ok (.istore 11, 2) := by decide +kernel
theorem dL_isNet_68 : decode cL_isNet 68 = .ok (.iload 9, 2) := by decide +kernel
theorem dL_isNet_70 : decode cL_isNet 70 = .ok (.iload 6, 2) := by decide +kernel
theorem dL_isNet_72 : decode cL_isNet 72 = .ok (.iadd, 1) := by decide +kernel
theorem dL_isNet_73 : decode cL_isNet 73 = .ok (.aload_n 1, 1) := by decide +kernel
theorem dL_isNet_74 : decode cL_isNet 74 = .ok (.iconst 0, 1) := by decide +kernel
theorem dL_isNet_75 : decode cL_isNet 75 = .ok (.iaload, 1) := by decide +kernel
theorem dL_isNet_76 : decode cL_isNet 76 = .ok (.irem, 1) := by decide +kernel
theorem dL_isNet_77 : decode cL_isNet 77 = .ok (.istore 12, 2) := by decide +kernel
theorem dL_isNet_79 : decode cL_isNet 79 = .ok (.aload_n 0, 1) := by decide +kernel
theorem dL_isNet_80 : decode cL_isNet 80 = .ok (.iload 9, 2) := by decide +kernel
theorem dL_isNet_82 : decode cL_isNet 82 = .ok (.invokevirtual 93, 3) := by decide +kernel
theorem dL_isNet_85 : decode cL_isNet 85 = .ok (.aload 4, 2) := by decide +kernel
theorem dL_isNet_87 : decode cL_isNet 87 = .ok (.iload 9, 2) := by decide +kernel
theorem dL_isNet_89 : decode cL_isNet 89 = .ok (.laload, 1) := by decide +kernel
theorem dL_isNet_90 : decode cL_isNet 90 = .ok (.invokestatic 96, 3) := by decide +kernel
theorem dL_isNet_93 : decode cL_isNet 93 = .ok (.if_icmp .ne 118, 3) := by decide +kernel
theorem dL_isNet_96 : decode cL_isNet 96 = .ok (.aload_n 0, 1) := by decide +kernel
theorem dL_isNet_97 : decode cL_isNet 97 = .ok (.iload 9, 2) := by decide +kernel
theorem dL_isNet_99 : decode cL_isNet 99 = .ok (.invokevirtual 99, 3) := by decide +kernel
theorem dL_isNet_102 : decode cL_isNet 102 = .ok (.aload 4, 2) := by decide +kernel
theorem dL_isNet_104 : decode cL_isNet 104 = .ok (.iload 9, 2) := by decide +kernel
theorem dL_isNet_106 : decode cL_isNet 106 = .ok (.laload, 1) := by decide +kernel
theorem dL_isNet_107 : decode cL_isNet 107 = .ok (.invokestatic 31, 3) := by decide +kernel
theorem dL_isNet_110 : decode cL_isNet 110 = .ok (.if_icmp .ne 101, 3) := by decide +kernel
theorem dL_isNet_113 : decode cL_isNet 113 = .ok (.aload_n 0, 1) := by decide +kernel
theorem dL_isNet_114 : decode cL_isNet 114 = .ok (.iload 9, 2) := by decide +kernel
theorem dL_isNet_116 : decode cL_isNet 116 = .ok (.invokevirtual 101, 3) := by decide +kernel
theorem dL_isNet_119 : decode cL_isNet 119 = .ok (.aload 4, 2) := by decide +kernel
theorem dL_isNet_121 : decode cL_isNet 121 = .ok (.iload 9, 2) := by decide +kernel
theorem dL_isNet_123 : decode cL_isNet 123 = .ok (.laload, 1) := by decide +kernel
theorem dL_isNet_124 : decode cL_isNet 124 = .ok (.invokestatic 35, 3) := by decide +kernel
theorem dL_isNet_127 : decode cL_isNet 127 = .ok (.if_icmp .ne 84, 3) := by decide +kernel
theorem dL_isNet_130 : decode cL_isNet 130 = .ok (.aload_n 0, 1) := by decide +kernel
theorem dL_isNet_131 : decode cL_isNet 131 = .ok (.iload 9, 2) := by decide +kernel
theorem dL_isNet_133 : decode cL_isNet 133 = .ok (.invokevirtual 103, 3) := by decide +kernel
theorem dL_isNet_136 : decode cL_isNet 136 = .ok (.iload 10, 2) := by decide +kernel
theorem dL_isNet_138 : decode cL_isNet 138 = .ok (.if_icmp .ne 73, 3) := by decide +kernel
theorem dL_isNet_141 : decode cL_isNet 141 = .ok (.aload_n 0, 1) := by decide +kernel
theorem dL_isNet_142 : decode cL_isNet 142 = .ok (.iload 9, 2) := by decide +kernel
theorem dL_isNet_144 : decode cL_isNet 144 = .ok (.invokevirtual 106, 3) := by decide +kernel
theorem dL_isNet_147 : decode cL_isNet 147 = .ok (.iload 11, 2) := by decide +kernel
theorem dL_isNet_149 : decode cL_isNet 149 = .ok (.if_icmp .ne 62, 3) := by decide +kernel
theorem dL_isNet_152 : decode cL_isNet 152 = .ok (.aload_n 0, 1) := by decide +kernel
theorem dL_isNet_153 : decode cL_isNet 153 = .ok (.iload 9, 2) := by decide +kernel
theorem dL_isNet_155 : decode cL_isNet 155 = .ok (.invokevirtual 109, 3) := by decide +kernel
theorem dL_isNet_158 : decode cL_isNet 158 = .ok (.aload 5, 2) := by decide +kernel
theorem dL_isNet_160 : decode cL_isNet 160 = .ok (.iload 9, 2) := by decide +kernel
theorem dL_isNet_162 : decode cL_isNet 162 = .ok (.laload, 1) := by decide +kernel
theorem dL_isNet_163 : decode cL_isNet 163 = .ok (.lcmp, 1) := by decide +kernel
theorem dL_isNet_164 : decode cL_isNet 164 = .ok (.ifCond .ne 47, 3) := by decide +kernel
theorem dL_isNet_167 : decode cL_isNet 167 = .ok (.aload_n 0, 1) := by decide +kernel
theorem dL_isNet_168 : decode cL_isNet 168 = .ok (.iload 9, 2) := by decide +kernel
theorem dL_isNet_170 : decode cL_isNet 170 = .ok (.invokevirtual 113, 3) := by decide +kernel
theorem dL_isNet_173 : decode cL_isNet 173 = .ok (.aload 5, 2) := by decide +kernel
theorem dL_isNet_175 : decode cL_isNet 175 = .ok (.bipush 10, 2) := by decide +kernel
theorem dL_isNet_177 : decode cL_isNet 177 = .ok (.iload 9, 2) := by decide +kernel
theorem dL_isNet_179 : decode cL_isNet 179 = .ok (.iadd, 1) := by decide +kernel
theorem dL_isNet_180 : decode cL_isNet 180 = .ok (.laload, 1) := by decide +kernel
theorem dL_isNet_181 : decode cL_isNet 181 = .ok (.lcmp, 1) := by decide +kernel
theorem dL_isNet_182 : decode cL_isNet 182 = .ok (.ifCond .ne 29, 3) := by decide +kernel
theorem dL_isNet_185 : decode cL_isNet 185 = .ok (.aload_n 0, 1) := by decide +kernel
theorem dL_isNet_186 : decode cL_isNet 186 = .ok (.iload 9, 2) := by decide +kernel
theorem dL_isNet_188 : decode cL_isNet 188 = .ok (.iload 12, 2) := by decide +kernel
theorem dL_isNet_190 : decode cL_isNet 190 = .ok (.invokevirtual 67, 3) := by decide +kernel
theorem dL_isNet_193 : decode cL_isNet 193 = .ok (.aload_n 2, 1) := by decide +kernel
theorem dL_isNet_194 : decode cL_isNet 194 = .ok (.aload_n 3, 1) := by decide +kernel
theorem dL_isNet_195 : decode cL_isNet 195 = .ok (.aload 4, 2) := by decide +kernel
theorem dL_isNet_197 : decode cL_isNet 197 = .ok (.iload 9, 2) := by decide +kernel
theorem dL_isNet_199 : decode cL_isNet 199 = .ok (.iload 12, 2) := by decide +kernel
theorem dL_isNet_201 : decode cL_isNet 201 = .ok (.invokestatic 116, 3) := by decide +kernel
theorem dL_isNet_204 : decode cL_isNet 204 = .ok (.if_icmp .ne 7, 3) := by decide +kernel
theorem dL_isNet_207 : decode cL_isNet 207 = .ok (.iconst 1, 1) := by decide +kernel
theorem dL_isNet_208 : decode cL_isNet 208 = .ok (.goto 4, 3) := by decide +kernel
theorem dL_isNet_211 : decode cL_isNet 211 = .ok (.iconst 0, 1) := by decide +kernel
theorem dL_isNet_212 : decode cL_isNet 212 = .ok (.istore 8, 2) := by decide +kernel
theorem dL_isNet_214 : decode cL_isNet 214 = .ok (.iload 7, 2) := by decide +kernel
theorem dL_isNet_216 : decode cL_isNet 216 = .ok (.ifCond .eq 33, 3) := by decide +kernel
theorem dL_isNet_219 : decode cL_isNet 219 = .ok (.aload 4, 2) := by decide +kernel
theorem dL_isNet_221 : decode cL_isNet 221 = .ok (.iload 9, 2) := by decide +kernel
theorem dL_isNet_223 : decode cL_isNet 223 = .ok (.laload, 1) := by decide +kernel
theorem dL_isNet_224 : decode cL_isNet 224 = .ok (.invokestatic 96, 3) := by decide +kernel
theorem dL_isNet_227 : decode cL_isNet 227 = .ok (.iload 10, 2) := by decide +kernel
theorem dL_isNet_229 : decode cL_isNet 229 = .ok (.if_icmp .ne 20, 3) := by decide +kernel
theorem dL_isNet_232 : decode cL_isNet 232 = .ok (.aload 4, 2) := by decide +kernel
theorem dL_isNet_234 : decode cL_isNet 234 = .ok (.iload 9, 2) := by decide +kernel
theorem dL_isNet_236 : decode cL_isNet 236 = .ok (.laload, 1) := by decide +kernel
theorem dL_isNet_237 : decode cL_isNet 237 = .ok (.invokestatic 31, 3) := by decide +kernel
theorem dL_isNet_240 : decode cL_isNet 240 = .ok (.iload 11, 2) := by decide +kernel
theorem dL_isNet_242 : decode cL_isNet 242 = .ok (.if_icmp .ne 7, 3) := by decide +kernel
theorem dL_isNet_245 : decode cL_isNet 245 = .ok (.iconst 1, 1) := by decide +kernel
theorem dL_isNet_246 : decode cL_isNet 246 = .ok (.goto 4, 3) := by decide +kernel
theorem dL_isNet_249 : decode cL_isNet 249 = .ok (.iconst 0, 1) := by decide +kernel
theorem dL_isNet_250 : decode cL_isNet 250 = .ok (.istore 7, 2) := by decide +kernel
theorem dL_isNet_252 : decode cL_isNet 252 = .ok (.iinc 9 1, 3) := by decide +kernel
theorem dL_isNet_255 : decode cL_isNet 255 = .ok (.goto (-222), 3) := by decide +kernel
theorem dL_isNet_258 : decode cL_isNet 258 = .ok (.iconst 0, 1) := by decide +kernel
theorem dL_isNet_259 : decode cL_isNet 259 = .ok (.istore 9, 2) := by decide +kernel
theorem dL_isNet_261 : decode cL_isNet 261 = .ok (.iload 9, 2) := by decide +kernel
theorem dL_isNet_263 : decode cL_isNet 263 = .ok (.iconst 2, 1) := by decide +kernel
theorem dL_isNet_264 : decode cL_isNet 264 = .ok (.if_icmp .ge 132, 3) := by decide +kernel
theorem dL_isNet_267 : decode cL_isNet 267 = .ok (.iload 8, 2) := by decide +kernel
theorem dL_isNet_269 : decode cL_isNet 269 = .ok (.ifCond .eq 127, 3) := by decide +kernel
theorem dL_isNet_272 : decode cL_isNet 272 = .ok (.lconst 0, 1) := by decide +kernel
theorem dL_isNet_273 : decode cL_isNet 273 = .ok (.lstore 10, 2) := by decide +kernel
theorem dL_isNet_275 : decode cL_isNet 275 = .ok (.lconst 0, 1) := by decide +kernel
theorem dL_isNet_276 : decode cL_isNet 276 = .ok (.lstore 12, 2) := by decide +kernel
theorem dL_isNet_278 : decode cL_isNet 278 = .ok (.iconst 0, 1) := by decide +kernel
theorem dL_isNet_279 : decode cL_isNet 279 = .ok (.istore 14, 2) := by decide +kernel
theorem dL_isNet_281 : decode cL_isNet 281 = .ok (.iconst 0, 1) := by decide +kernel
theorem dL_isNet_282 : decode cL_isNet 282 = .ok (.istore 15, 2) := by decide +kernel
theorem dL_isNet_284 : decode cL_isNet 284 = .ok (.iload 15, 2) := by decide +kernel
theorem dL_isNet_286 : decode cL_isNet 286 = .ok (.aload_n 1, 1) := by decide +kernel
theorem dL_isNet_287 : decode cL_isNet 287 = .ok (.iconst 0, 1) := by decide +kernel
theorem dL_isNet_288 : decode cL_isNet 288 = .ok (.iaload, 1) := by decide +kernel
theorem dL_isNet_289 : decode cL_isNet 289 = .ok (.if_icmp .ge 79, 3) := by decide +kernel
theorem dL_isNet_292 : decode cL_isNet 292 = .ok (.aload_n 2, 1) := by decide +kernel
theorem dL_isNet_293 : decode cL_isNet 293 = .ok (.iconst 4, 1) := by decide +kernel
theorem dL_isNet_294 : decode cL_isNet 294 = .ok (.iload 15, 2) := by decide +kernel
theorem dL_isNet_296 : decode cL_isNet 296 = .ok (.imul, 1) := by decide +kernel
theorem dL_isNet_297 : decode cL_isNet 297 = .ok (.iaload, 1) := by decide +kernel
theorem dL_isNet_298 : decode cL_isNet 298 = .ok (.iload 9, 2) := by decide +kernel
theorem dL_isNet_300 : decode cL_isNet 300 = .ok (.if_icmp .ne 62, 3) := by decide +kernel
theorem dL_isNet_303 : decode cL_isNet 303 = .ok (.iload 14, 2) := by decide +kernel
theorem dL_isNet_305 : decode cL_isNet 305 = .ok (.ifCond .eq 14, 3) := by decide +kernel
theorem dL_isNet_308 : decode cL_isNet 308 = .ok (.aload 5, 2) := by decide +kernel
theorem dL_isNet_310 : decode cL_isNet 310 = .ok (.iload 15, 2) := by decide +kernel
theorem dL_isNet_312 : decode cL_isNet 312 = .ok (.laload, 1) := by decide +kernel
theorem dL_isNet_313 : decode cL_isNet 313 = .ok (.lload 10, 2) := by decide +kernel
theorem dL_isNet_315 : decode cL_isNet 315 = .ok (.lcmp, 1) := by decide +kernel
theorem dL_isNet_316 : decode cL_isNet 316 = .ok (.ifCond .ge 11, 3) := by decide +kernel
theorem dL_isNet_319 : decode cL_isNet 319 = .ok (.aload 5, 2) := by decide +kernel
theorem dL_isNet_321 : decode cL_isNet 321 = .ok (.iload 15, 2) := by decide +kernel
theorem dL_isNet_323 : decode cL_isNet 323 = .ok (.laload, 1) := by decide +kernel
theorem dL_isNet_324 : decode cL_isNet 324 = .ok (.goto 5, 3) := by decide +kernel
theorem dL_isNet_327 : decode cL_isNet 327 = .ok (.lload 10, 2) := by decide +kernel
theorem dL_isNet_329 : decode cL_isNet 329 = .ok (.lstore 10, 2) := by decide +kernel
theorem dL_isNet_331 : decode cL_isNet 331 = .ok (.iload 14, 2) := by decide +kernel
theorem dL_isNet_333 : decode cL_isNet 333 = .ok (.ifCond .eq 14, 3) := by decide +kernel
theorem dL_isNet_336 : decode cL_isNet 336 = .ok (.aload 5, 2) := by decide +kernel
theorem dL_isNet_338 : decode cL_isNet 338 = .ok (.iload 15, 2) := by decide +kernel
theorem dL_isNet_340 : decode cL_isNet 340 = .ok (.laload, 1) := by decide +kernel
theorem dL_isNet_341 : decode cL_isNet 341 = .ok (.lload 12, 2) := by decide +kernel
theorem dL_isNet_343 : decode cL_isNet 343 = .ok (.lcmp, 1) := by decide +kernel
theorem dL_isNet_344 : decode cL_isNet 344 = .ok (.ifCond .le 11, 3) := by decide +kernel
theorem dL_isNet_347 : decode cL_isNet 347 = .ok (.aload 5, 2) := by decide +kernel
theorem dL_isNet_349 : decode cL_isNet 349 = .ok (.iload 15, 2) := by decide +kernel
theorem dL_isNet_351 : decode cL_isNet 351 = .ok (.laload, 1) := by decide +kernel
theorem dL_isNet_352 : decode cL_isNet 352 = .ok (.goto 5, 3) := by decide +kernel
theorem dL_isNet_355 : decode cL_isNet 355 = .ok (.lload 12, 2) := by decide +kernel
theorem dL_isNet_357 : decode cL_isNet 357 = .ok (.lstore 12, 2) := by decide +kernel
theorem dL_isNet_359 : decode cL_isNet 359 = .ok (.iinc 14 1, 3) := by decide +kernel
theorem dL_isNet_362 : decode cL_isNet 362 = .ok (.iinc 15 1, 3) := by decide +kernel
theorem dL_isNet_365 : decode cL_isNet 365 = .ok (.goto (-81), 3) := by decide +kernel
theorem dL_isNet_368 : decode cL_isNet 368 = .ok (.aload_n 0, 1) := by decide +kernel
theorem dL_isNet_369 : decode cL_isNet 369 = .ok (.iload 9, 2) := by decide +kernel
theorem dL_isNet_371 : decode cL_isNet 371 = .ok (.invokevirtual 119, 3) := by decide +kernel
theorem dL_isNet_374 : decode cL_isNet 374 = .ok (.lload 12, 2) := by decide +kernel
theorem dL_isNet_376 : decode cL_isNet 376 = .ok (.lload 10, 2) := by decide +kernel
theorem dL_isNet_378 : decode cL_isNet 378 = .ok (.lsub, 1) := by decide +kernel
theorem dL_isNet_379 : decode cL_isNet 379 = .ok (.lcmp, 1) := by decide +kernel
theorem dL_isNet_380 : decode cL_isNet 380 = .ok (.ifCond .ne 7, 3) := by decide +kernel
theorem dL_isNet_383 : decode cL_isNet 383 = .ok (.iconst 1, 1) := by decide +kernel
theorem dL_isNet_384 : decode cL_isNet 384 = .ok (.goto 4, 3) := by decide +kernel
theorem dL_isNet_387 : decode cL_isNet 387 = .ok (.iconst 0, 1) := by decide +kernel
theorem dL_isNet_388 : decode cL_isNet 388 = .ok (.istore 8, 2) := by decide +kernel
theorem dL_isNet_390 : decode cL_isNet 390 = .ok (.iinc 9 1, 3) := by decide +kernel
theorem dL_isNet_393 : decode cL_isNet 393 = .ok (.goto (-132), 3) := by decide +kernel
theorem dL_isNet_396 : decode cL_isNet 396 = .ok (.iload 8, 2) := by decide +kernel
theorem dL_isNet_398 : decode cL_isNet 398 = .ok (.ifCond .eq 16, 3) := by decide +kernel
theorem dL_isNet_401 : decode cL_isNet 401 = .ok (.aload_n 0, 1) := by decide +kernel
theorem dL_isNet_402 : decode cL_isNet 402 = .ok (.invokevirtual 122, 3) := by decide +kernel
theorem dL_isNet_405 : decode cL_isNet 405 = .ok (.iload 7, 2) := by decide +kernel
theorem dL_isNet_407 : decode cL_isNet 407 = .ok (.if_icmp .ne 7, 3) := by decide +kernel
theorem dL_isNet_410 : decode cL_isNet 410 = .ok (.iconst 1, 1) := by decide +kernel
theorem dL_isNet_411 : decode cL_isNet 411 = .ok (.goto 4, 3) := by decide +kernel
theorem dL_isNet_414 : decode cL_isNet 414 = .ok (.iconst 0, 1) := by decide +kernel
theorem dL_isNet_415 : decode cL_isNet 415 = .ok (.ireturn, 1) := by decide +kernel
