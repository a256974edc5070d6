def wsL_law0_r1 : List Cond := [Cond.classLink RL 8 RX2, Cond.instantiable RX2 12, Cond.initialized RX2, Cond.classLink RL 73 RX3, Cond.instantiable RX3 24, Cond.initialized RX3, Cond.arrayClass .long, Cond.methodLink RL 72 yX2_init, Cond.instanceMethod yX2_init, Cond.code yX2_init cX2_init 1 none, Cond.methodLink RX2 1 objectInit, Cond.instanceMethod objectInit, Cond.code objectInit ⟨#[0xb1]⟩ 1 none, Cond.arrayClass .int, Cond.fieldLink RX2 9 "TimeNet" "domainOf" "[I", Cond.fieldLink RX2 13 "TimeNet" "gradeOf" "[I", Cond.fieldLink RX2 16 "TimeNet" "varianceOf" "[I", Cond.fieldLink RX2 19 "TimeNet" "driftOf" "[I", Cond.fieldLink RX2 22 "TimeNet" "offsetOf" "[J", Cond.fieldLink RX2 26 "TimeNet" "rateOf" "[J", Cond.classLink RX2 29 RX1, Cond.instantiable RX1 4, Cond.initialized RX1, Cond.fieldLink RX2 32 "TimeNet" "wires" "LTimeNet$Wires;"]
def wsL_law0_r2 : List Cond := [Cond.classLink RX2 36 RX0, Cond.instantiable RX0 4, Cond.initialized RX0, Cond.fieldLink RX2 39 "TimeNet" "known" "LTimeNet$Knowledge;", Cond.fieldLink RX2 43 "TimeNet" "heard" "LTimeNet$Knowledge;", Cond.fieldLink RX2 46 "TimeNet" "distanceTo" "[I", Cond.fieldLink RX2 49 "TimeNet" "nodeCount" "I", Cond.fieldLink RX2 53 "TimeNet" "tickCount" "I", Cond.instanceMethod yX1_init, Cond.code yX1_init cX1_init 1 none, Cond.methodLink RX1 3 objectInit, Cond.arrayClass .boolean, Cond.fieldLink RX1 9 "TimeNet$Wires" "laid" "[Z", Cond.fieldLink RX1 15 "TimeNet$Wires" "delay" "[I", Cond.fieldLink RX1 19 "TimeNet$Wires" "told" "[I", Cond.fieldLink RX1 22 "TimeNet$Wires" "count" "I", Cond.instanceMethod yX0_init, Cond.code yX0_init cX0_init 1 none, Cond.methodLink RX0 3 objectInit, Cond.fieldLink RX0 9 "TimeNet$Knowledge" "clockNode" "[I", Cond.fieldLink RX0 15 "TimeNet$Knowledge" "clockRank" "[I", Cond.fieldLink RX0 18 "TimeNet$Knowledge" "stepsAway" "[I", Cond.fieldLink RX0 21 "TimeNet$Knowledge" "knownFrom" "[I", Cond.methodLink RL 75 yX3_init]
def wsL_law0_r3 : List Cond := [Cond.instanceMethod yX3_init, Cond.code yX3_init cX3_init 1 none, Cond.methodLink RX3 1 objectInit, Cond.fieldLink RX3 7 "TimeNetModel" "domains" "[I", Cond.fieldLink RX3 13 "TimeNetModel" "grades" "[I", Cond.fieldLink RX3 16 "TimeNetModel" "variances" "[I", Cond.fieldLink RX3 19 "TimeNetModel" "drifts" "[I", Cond.fieldLink RX3 22 "TimeNetModel" "offsets" "[J", Cond.fieldLink RX3 26 "TimeNetModel" "rates" "[J", Cond.fieldLink RX3 29 "TimeNetModel" "isLinked" "[Z", Cond.fieldLink RX3 33 "TimeNetModel" "delays" "[I", Cond.fieldLink RX3 36 "TimeNetModel" "differences" "[I", Cond.fieldLink RX3 39 "TimeNetModel" "knownNode" "[I", Cond.fieldLink RX3 42 "TimeNetModel" "knownGrade" "[I", Cond.fieldLink RX3 45 "TimeNetModel" "knownVariance" "[I", Cond.fieldLink RX3 48 "TimeNetModel" "knownSteps" "[I", Cond.fieldLink RX3 51 "TimeNetModel" "parents" "[I", Cond.fieldLink RX3 54 "TimeNetModel" "nextNode" "[I", Cond.fieldLink RX3 57 "TimeNetModel" "nextGrade" "[I", Cond.fieldLink RX3 60 "TimeNetModel" "nextVariance" "[I", Cond.fieldLink RX3 63 "TimeNetModel" "nextSteps" "[I", Cond.fieldLink RX3 66 "TimeNetModel" "nextParents" "[I", Cond.fieldLink RX3 69 "TimeNetModel" "distances" "[I", Cond.fieldLink RX3 72 "TimeNetModel" "nodeMany" "I"]
def wsL_law0_r4 : List Cond := [Cond.methodLink RL 76 yL_add, Cond.static yL_add, Cond.initialized RL, Cond.codeWith yL_add cL_add 7 (some .int) [(0, 14, 17, 13), (0, 14, 21, 15)], Cond.classLink RL 13 "java/lang/IllegalArgumentException", Cond.classLink RL 15 "java/lang/IllegalStateException", Cond.methodLink RL 7 yX2_add, Cond.instanceMethod yX2_add, Cond.selects RX2 yX2_add yX2_add, Cond.code yX2_add cX2_add 6 (some .int), Cond.classLink RX2 60 "java/lang/IllegalStateException", Cond.initialized "java/lang/IllegalStateException", Cond.methodLink RX2 56 yX2_requireWithin, Cond.static yX2_requireWithin, Cond.code yX2_requireWithin cX2_requireWithin 3 none, Cond.classLink RX2 76 "java/lang/IllegalArgumentException", Cond.initialized "java/lang/IllegalArgumentException", Cond.methodLink RX2 67 yX2_knowOnlyItself, Cond.instanceMethod yX2_knowOnlyItself, Cond.selects RX2 yX2_knowOnlyItself yX2_knowOnlyItself, Cond.code yX2_knowOnlyItself cX2_knowOnlyItself 2 none, Cond.methodLink RX2 157 yX2_rankOf, Cond.instanceMethod yX2_rankOf, Cond.selects RX2 yX2_rankOf yX2_rankOf]
def wsL_law0_r5 : List Cond := [Cond.code yX2_rankOf cX2_rankOf 2 (some .int), Cond.instanceMethod yX0_start, Cond.selects RX0 yX0_start yX0_start, Cond.code yX0_start cX0_start 3 none, Cond.methodLink RL 81 yX3_add, Cond.instanceMethod yX3_add, Cond.selects RX3 yX3_add yX3_add, Cond.code yX3_add cX3_add 5 (some .int), Cond.fieldLink RX3 76 "TimeNetModel" "thrown" "I", Cond.methodLink RX3 79 yX3_in, Cond.static yX3_in, Cond.code yX3_in cX3_in 3 (some .boolean), Cond.methodLink RX3 83 yX3_knowItself, Cond.instanceMethod yX3_knowItself, Cond.selects RX3 yX3_knowItself yX3_knowItself, Cond.code yX3_knowItself cX3_knowItself 2 none, Cond.methodLink RL 82 yL_setClock, Cond.static yL_setClock, Cond.codeWith yL_setClock cL_setClock 6 (some .int) [(0, 12, 15, 21), (0, 12, 19, 13)], Cond.classLink RL 21 "java/lang/IndexOutOfBoundsException", Cond.methodLink RL 17 yX2_setClock, Cond.instanceMethod yX2_setClock, Cond.selects RX2 yX2_setClock yX2_setClock, Cond.code yX2_setClock cX2_setClock 5 (some .int)]
def wsL_law0_r6 : List Cond := [Cond.methodLink RX2 71 yX2_requireNode, Cond.instanceMethod yX2_requireNode, Cond.selects RX2 yX2_requireNode yX2_requireNode, Cond.code yX2_requireNode cX2_requireNode 2 none, Cond.classLink RX2 148 "java/lang/IndexOutOfBoundsException", Cond.initialized "java/lang/IndexOutOfBoundsException", Cond.methodLink RX2 144 yX2_isNode, Cond.instanceMethod yX2_isNode, Cond.selects RX2 yX2_isNode yX2_isNode, Cond.code yX2_isNode cX2_isNode 2 (some .boolean), Cond.methodLink RL 85 yX3_setClock, Cond.instanceMethod yX3_setClock, Cond.selects RX3 yX3_setClock yX3_setClock, Cond.code yX3_setClock cX3_setClock 5 (some .int), Cond.methodLink RX3 87 yX3_isNode, Cond.instanceMethod yX3_isNode, Cond.selects RX3 yX3_isNode yX3_isNode, Cond.code yX3_isNode cX3_isNode 2 (some .boolean), Cond.methodLink RL 86 yL_setDrift, Cond.static yL_setDrift, Cond.codeWith yL_setDrift cL_setDrift 5 (some .int) [(0, 10, 13, 21), (0, 10, 17, 13)], Cond.methodLink RL 23 yX2_setDrift, Cond.instanceMethod yX2_setDrift, Cond.selects RX2 yX2_setDrift yX2_setDrift]
def wsL_law0_r7 : List Cond := [Cond.code yX2_setDrift cX2_setDrift 4 (some .int), Cond.methodLink RL 89 yX3_setDrift, Cond.instanceMethod yX3_setDrift, Cond.selects RX3 yX3_setDrift yX3_setDrift, Cond.code yX3_setDrift cX3_setDrift 4 (some .int), Cond.methodLink RL 90 yL_setOffset, Cond.static yL_setOffset, Cond.codeWith yL_setOffset cL_setOffset 5 (some .int) [(0, 9, 12, 21), (0, 9, 16, 13)], Cond.methodLink RL 27 yX2_setOffset, Cond.instanceMethod yX2_setOffset, Cond.selects RX2 yX2_setOffset yX2_setOffset, Cond.code yX2_setOffset cX2_setOffset 5 (some .long), Cond.constant RX2 74 (-1000000), Cond.constant RX2 75 (1000000), Cond.methodLink RL 92 yX3_setOffset, Cond.instanceMethod yX3_setOffset, Cond.selects RX3 yX3_setOffset yX3_setOffset, Cond.code yX3_setOffset cX3_setOffset 5 (some .long), Cond.constant RX3 91 (-1000000), Cond.constant RX3 92 (1000000), Cond.methodLink RL 93 yL_link, Cond.static yL_link, Cond.codeWith yL_link cL_link 7 (some .int) [(0, 14, 17, 21), (0, 14, 21, 13), (0, 14, 25, 15)], Cond.methodLink RL 31 yX2_link]
def wsL_law0_r8 : List Cond := [Cond.instanceMethod yX2_link, Cond.selects RX2 yX2_link yX2_link, Cond.code yX2_link cX2_link 5 (some .int), Cond.constant RX2 81 (100000), Cond.instanceMethod yX1_areLinked, Cond.selects RX1 yX1_areLinked yX1_areLinked, Cond.code yX1_areLinked cX1_areLinked 3 (some .boolean), Cond.methodLink RX1 26 yX1_place, Cond.static yX1_place, Cond.code yX1_place cX1_place 2 (some .int), Cond.instanceMethod yX1_lay, Cond.selects RX1 yX1_lay yX1_lay, Cond.code yX1_lay cX1_lay 5 none, Cond.methodLink RX1 30 yX1_noteDifference, Cond.instanceMethod yX1_noteDifference, Cond.selects RX1 yX1_noteDifference yX1_noteDifference, Cond.code yX1_noteDifference cX1_noteDifference 5 (some .int), Cond.methodLink RL 95 yX3_link, Cond.instanceMethod yX3_link, Cond.selects RX3 yX3_link yX3_link, Cond.code yX3_link cX3_link 5 (some .int), Cond.constant RX3 93 (100000), Cond.fieldLink RX3 94 "TimeNetModel" "linkMany" "I", Cond.methodLink RL 96 yL_cut]
def wsL_law0_r9 : List Cond := [Cond.static yL_cut, Cond.codeWith yL_cut cL_cut 5 (some .int) [(0, 10, 13, 21), (0, 10, 17, 15)], Cond.methodLink RL 34 yX2_cut, Cond.instanceMethod yX2_cut, Cond.selects RX2 yX2_cut yX2_cut, Cond.code yX2_cut cX2_cut 3 (some .int), Cond.methodLink RX2 95 yX2_requireLinked, Cond.instanceMethod yX2_requireLinked, Cond.selects RX2 yX2_requireLinked yX2_requireLinked, Cond.code yX2_requireLinked cX2_requireLinked 3 none, Cond.instanceMethod yX1_remove, Cond.selects RX1 yX1_remove yX1_remove, Cond.code yX1_remove cX1_remove 3 none, Cond.methodLink RX2 102 yX2_forgetParent, Cond.instanceMethod yX2_forgetParent, Cond.selects RX2 yX2_forgetParent yX2_forgetParent, Cond.code yX2_forgetParent cX2_forgetParent 3 none, Cond.methodLink RL 98 yX3_cut, Cond.instanceMethod yX3_cut, Cond.selects RX3 yX3_cut yX3_cut, Cond.code yX3_cut cX3_cut 3 (some .int), Cond.methodLink RL 99 yL_tell, Cond.static yL_tell, Cond.codeWith yL_tell cL_tell 6 (some .int) [(0, 12, 15, 21), (0, 12, 19, 13), (0, 12, 23, 15)]]
def wsL_law0_r10 : List Cond := [Cond.methodLink RL 37 yX2_tell, Cond.instanceMethod yX2_tell, Cond.selects RX2 yX2_tell yX2_tell, Cond.code yX2_tell cX2_tell 4 (some .int), Cond.constant RX2 105 (-100000), Cond.methodLink RL 101 yX3_tell, Cond.instanceMethod yX3_tell, Cond.selects RX3 yX3_tell yX3_tell, Cond.code yX3_tell cX3_tell 5 (some .int), Cond.constant RX3 97 (-100000), Cond.methodLink RL 102 yL_tick, Cond.static yL_tick, Cond.codeWith yL_tick cL_tick 4 (some .int) [(0, 9, 12, 13)], Cond.methodLink RL 40 yX2_tick, Cond.instanceMethod yX2_tick, Cond.selects RX2 yX2_tick yX2_tick, Cond.code yX2_tick cX2_tick 3 (some .int), Cond.methodLink RX2 110 yX2_passOneTick, Cond.instanceMethod yX2_passOneTick, Cond.selects RX2 yX2_passOneTick yX2_passOneTick, Cond.code yX2_passOneTick cX2_passOneTick 3 none, Cond.methodLink RX2 180 yX2_announce, Cond.instanceMethod yX2_announce, Cond.selects RX2 yX2_announce yX2_announce]
def wsL_law0_r11 : List Cond := [Cond.code yX2_announce cX2_announce 2 none, Cond.instanceMethod yX0_copyFrom, Cond.selects RX0 yX0_copyFrom yX0_copyFrom, Cond.code yX0_copyFrom cX0_copyFrom 3 none, Cond.methodLink RX2 167 yX2_listen, Cond.instanceMethod yX2_listen, Cond.selects RX2 yX2_listen yX2_listen, Cond.code yX2_listen cX2_listen 3 none, Cond.methodLink RX2 122 yX2_areNeighbours, Cond.instanceMethod yX2_areNeighbours, Cond.selects RX2 yX2_areNeighbours yX2_areNeighbours, Cond.code yX2_areNeighbours cX2_areNeighbours 3 (some .boolean), Cond.instanceMethod yX0_reaches, Cond.selects RX0 yX0_reaches yX0_reaches, Cond.code yX0_reaches cX0_reaches 3 (some .boolean), Cond.instanceMethod yX0_takeIfBetter, Cond.selects RX0 yX0_takeIfBetter yX0_takeIfBetter, Cond.code yX0_takeIfBetter cX0_takeIfBetter 6 none, Cond.methodLink RX2 183 yX2_steer, Cond.instanceMethod yX2_steer, Cond.selects RX2 yX2_steer yX2_steer, Cond.code yX2_steer cX2_steer 5 none, Cond.constantLong RX2 190 (2), Cond.constantLong RX2 192 (16)]
def wsL_law0_r12 : List Cond := [Cond.instanceMethod yX1_errorFrom, Cond.selects RX1 yX1_errorFrom yX1_errorFrom, Cond.code yX1_errorFrom cX1_errorFrom 5 (some .int), Cond.methodLink RL 105 yX3_tick, Cond.instanceMethod yX3_tick, Cond.selects RX3 yX3_tick yX3_tick, Cond.code yX3_tick cX3_tick 5 (some .int), Cond.fieldLink RX3 118 "TimeNetModel" "tickMany" "I", Cond.methodLink RX3 112 yX3_announce, Cond.instanceMethod yX3_announce, Cond.selects RX3 yX3_announce yX3_announce, Cond.code yX3_announce cX3_announce 2 none, Cond.methodLink RX3 105 yX3_listen, Cond.instanceMethod yX3_listen, Cond.selects RX3 yX3_listen yX3_listen, Cond.code yX3_listen cX3_listen 4 none, Cond.methodLink RX3 98 yX3_areNeighbours, Cond.instanceMethod yX3_areNeighbours, Cond.selects RX3 yX3_areNeighbours yX3_areNeighbours, Cond.code yX3_areNeighbours cX3_areNeighbours 3 (some .boolean), Cond.methodLink RX3 102 yX3_isBetter, Cond.instanceMethod yX3_isBetter, Cond.selects RX3 yX3_isBetter yX3_isBetter, Cond.code yX3_isBetter cX3_isBetter 3 (some .boolean)]
def wsL_law0_r13 : List Cond := [Cond.methodLink RX3 115 yX3_steer, Cond.instanceMethod yX3_steer, Cond.selects RX3 yX3_steer yX3_steer, Cond.code yX3_steer cX3_steer 8 none, Cond.constantLong RX3 108 (2), Cond.constantLong RX3 110 (16), Cond.methodLink RL 106 yX2_nodes, Cond.instanceMethod yX2_nodes, Cond.selects RX2 yX2_nodes yX2_nodes, Cond.code yX2_nodes cX2_nodes 1 (some .int), Cond.methodLink RL 110 yX3_nodes, Cond.instanceMethod yX3_nodes, Cond.selects RX3 yX3_nodes yX3_nodes, Cond.code yX3_nodes cX3_nodes 1 (some .int), Cond.methodLink RL 111 yX2_links, Cond.instanceMethod yX2_links, Cond.selects RX2 yX2_links yX2_links, Cond.code yX2_links cX2_links 1 (some .int), Cond.methodLink RL 114 yX3_links, Cond.instanceMethod yX3_links, Cond.selects RX3 yX3_links yX3_links, Cond.code yX3_links cX3_links 1 (some .int), Cond.methodLink RL 115 yL_best, Cond.static yL_best]
def wsL_law0_r14 : List Cond := [Cond.codeWith yL_best cL_best 4 (some .int) [(0, 9, 12, 21)], Cond.methodLink RL 44 yX2_best, Cond.instanceMethod yX2_best, Cond.selects RX2 yX2_best yX2_best, Cond.code yX2_best cX2_best 2 (some .int), Cond.methodLink RL 117 yX3_best, Cond.instanceMethod yX3_best, Cond.selects RX3 yX3_best yX3_best, Cond.code yX3_best cX3_best 2 (some .int), Cond.methodLink RX3 121 yX3_asksFor, Cond.instanceMethod yX3_asksFor, Cond.selects RX3 yX3_asksFor yX3_asksFor, Cond.code yX3_asksFor cX3_asksFor 2 (some .boolean), Cond.methodLink RL 118 yL_steps, Cond.static yL_steps, Cond.codeWith yL_steps cL_steps 4 (some .int) [(0, 9, 12, 21)], Cond.methodLink RL 47 yX2_steps, Cond.instanceMethod yX2_steps, Cond.selects RX2 yX2_steps yX2_steps, Cond.code yX2_steps cX2_steps 2 (some .int), Cond.methodLink RL 120 yX3_steps, Cond.instanceMethod yX3_steps, Cond.selects RX3 yX3_steps yX3_steps, Cond.code yX3_steps cX3_steps 2 (some .int)]
def wsL_law0_r15 : List Cond := [Cond.methodLink RL 121 yL_parent, Cond.static yL_parent, Cond.codeWith yL_parent cL_parent 4 (some .int) [(0, 9, 12, 21)], Cond.methodLink RL 50 yX2_parent, Cond.instanceMethod yX2_parent, Cond.selects RX2 yX2_parent yX2_parent, Cond.code yX2_parent cX2_parent 2 (some .int), Cond.methodLink RL 123 yX3_parent, Cond.instanceMethod yX3_parent, Cond.selects RX3 yX3_parent yX3_parent, Cond.code yX3_parent cX3_parent 2 (some .int), Cond.methodLink RL 124 yL_port, Cond.static yL_port, Cond.codeWith yL_port cL_port 5 (some .int) [(0, 10, 13, 21)], Cond.methodLink RL 53 yX2_port, Cond.instanceMethod yX2_port, Cond.selects RX2 yX2_port yX2_port, Cond.code yX2_port cX2_port 3 (some .int), Cond.methodLink RX2 125 yX2_isNearer, Cond.instanceMethod yX2_isNearer, Cond.selects RX2 yX2_isNearer yX2_isNearer, Cond.code yX2_isNearer cX2_isNearer 5 (some .boolean), Cond.methodLink RL 126 yX3_port, Cond.instanceMethod yX3_port]
def wsL_law0_r16 : List Cond := [Cond.selects RX3 yX3_port yX3_port, Cond.code yX3_port cX3_port 4 (some .int), Cond.methodLink RL 127 yL_bestByGraph, Cond.static yL_bestByGraph, Cond.codeWith yL_bestByGraph cL_bestByGraph 4 (some .int) [(0, 9, 12, 21)], Cond.methodLink RL 56 yX2_bestByGraph, Cond.instanceMethod yX2_bestByGraph, Cond.selects RX2 yX2_bestByGraph yX2_bestByGraph, Cond.code yX2_bestByGraph cX2_bestByGraph 2 (some .int), Cond.methodLink RX2 128 yX2_measureDistances, Cond.instanceMethod yX2_measureDistances, Cond.selects RX2 yX2_measureDistances yX2_measureDistances, Cond.code yX2_measureDistances cX2_measureDistances 4 none, Cond.methodLink RX2 177 yX2_reachNeighbours, Cond.instanceMethod yX2_reachNeighbours, Cond.selects RX2 yX2_reachNeighbours yX2_reachNeighbours, Cond.code yX2_reachNeighbours cX2_reachNeighbours 4 none, Cond.methodLink RX2 131 yX2_bestInReach, Cond.instanceMethod yX2_bestInReach, Cond.selects RX2 yX2_bestInReach yX2_bestInReach, Cond.code yX2_bestInReach cX2_bestInReach 4 (some .int), Cond.methodLink RL 129 yX3_bestByGraph, Cond.instanceMethod yX3_bestByGraph, Cond.selects RX3 yX3_bestByGraph yX3_bestByGraph]
def wsL_law0_r17 : List Cond := [Cond.code yX3_bestByGraph cX3_bestByGraph 2 (some .int), Cond.methodLink RX3 127 yX3_bestReached, Cond.instanceMethod yX3_bestReached, Cond.selects RX3 yX3_bestReached yX3_bestReached, Cond.code yX3_bestReached cX3_bestReached 7 (some .int), Cond.methodLink RX3 124 yX3_layDistances, Cond.instanceMethod yX3_layDistances, Cond.selects RX3 yX3_layDistances yX3_layDistances, Cond.code yX3_layDistances cX3_layDistances 5 none, Cond.methodLink RL 130 yL_stepsByGraph, Cond.static yL_stepsByGraph, Cond.codeWith yL_stepsByGraph cL_stepsByGraph 4 (some .int) [(0, 9, 12, 21)], Cond.methodLink RL 59 yX2_stepsByGraph, Cond.instanceMethod yX2_stepsByGraph, Cond.selects RX2 yX2_stepsByGraph yX2_stepsByGraph, Cond.code yX2_stepsByGraph cX2_stepsByGraph 2 (some .int), Cond.methodLink RL 132 yX3_stepsByGraph, Cond.instanceMethod yX3_stepsByGraph, Cond.selects RX3 yX3_stepsByGraph yX3_stepsByGraph, Cond.code yX3_stepsByGraph cX3_stepsByGraph 2 (some .int), Cond.methodLink RL 133 yX3_thrown, Cond.instanceMethod yX3_thrown, Cond.selects RX3 yX3_thrown yX3_thrown, Cond.code yX3_thrown cX3_thrown 1 (some .int)]
def wsL_law0_r18 : List Cond := [Cond.methodLink RL 136 yX2_isSettled, Cond.instanceMethod yX2_isSettled, Cond.selects RX2 yX2_isSettled yX2_isSettled, Cond.code yX2_isSettled cX2_isSettled 3 (some .boolean), Cond.methodLink RL 140 yX3_isSettled, Cond.instanceMethod yX3_isSettled, Cond.selects RX3 yX3_isSettled yX3_isSettled, Cond.code yX3_isSettled cX3_isSettled 4 (some .boolean), Cond.methodLink RL 141 yL_offset, Cond.static yL_offset, Cond.codeWith yL_offset cL_offset 4 (some .int) [(0, 8, 11, 21)], Cond.methodLink RL 62 yX2_offset, Cond.instanceMethod yX2_offset, Cond.selects RX2 yX2_offset yX2_offset, Cond.code yX2_offset cX2_offset 2 (some .long), Cond.methodLink RL 143 yX3_offset, Cond.instanceMethod yX3_offset, Cond.selects RX3 yX3_offset yX3_offset, Cond.code yX3_offset cX3_offset 2 (some .long), Cond.methodLink RL 144 yL_rate, Cond.static yL_rate, Cond.codeWith yL_rate cL_rate 4 (some .int) [(0, 8, 11, 21)], Cond.methodLink RL 66 yX2_rate, Cond.instanceMethod yX2_rate]
def wsL_law0_r19 : List Cond := [Cond.selects RX2 yX2_rate yX2_rate, Cond.code yX2_rate cX2_rate 2 (some .long), Cond.methodLink RL 146 yX3_rate, Cond.instanceMethod yX3_rate, Cond.selects RX3 yX3_rate yX3_rate, Cond.code yX3_rate cX3_rate 2 (some .long), Cond.methodLink RL 147 yL_spread, Cond.static yL_spread, Cond.codeWith yL_spread cL_spread 4 (some .int) [(0, 8, 11, 13)], Cond.methodLink RL 69 yX2_spread, Cond.instanceMethod yX2_spread, Cond.selects RX2 yX2_spread yX2_spread, Cond.code yX2_spread cX2_spread 8 (some .long), Cond.methodLink RX2 135 Lib.MathLoose.min_long.x, Cond.static Lib.MathLoose.min_long.x, Cond.initialized "java/lang/Math", Cond.code Lib.MathLoose.min_long.x Lib.MathLoose.min_long.code 4 (some .long), Cond.methodLink RX2 141 Lib.MathLoose.max_long.x, Cond.static Lib.MathLoose.max_long.x, Cond.code Lib.MathLoose.max_long.x Lib.MathLoose.max_long.code 4 (some .long), Cond.methodLink RL 149 yX3_spread, Cond.instanceMethod yX3_spread, Cond.selects RX3 yX3_spread yX3_spread, Cond.code yX3_spread cX3_spread 8 (some .long)]
def wsL_law0 : List Cond := (wsL_law0_r1 ++ (wsL_law0_r2 ++ (wsL_law0_r3 ++ (wsL_law0_r4 ++ (wsL_law0_r5 ++ (wsL_law0_r6 ++ (wsL_law0_r7 ++ (wsL_law0_r8 ++ (wsL_law0_r9 ++ (wsL_law0_r10 ++ (wsL_law0_r11 ++ (wsL_law0_r12 ++ (wsL_law0_r13 ++ (wsL_law0_r14 ++ (wsL_law0_r15 ++ (wsL_law0_r16 ++ (wsL_law0_r17 ++ (wsL_law0_r18 ++ wsL_law0_r19)))))))))))))))))) ++ wsX20 ++ wsX30 ++ wsX10 ++ wsX00 ++ ([] : List Cond)
def wsL_law : List Cond := wsL_law0 ++ (vx_atS RX2 64 "java/lang/IllegalStateException" ["java/lang/RuntimeException", "java/lang/Exception"]).filter goodWord ++ (vx_atS RX2 80 "java/lang/IllegalArgumentException" ["java/lang/RuntimeException", "java/lang/Exception"]).filter goodWord ++ (vx_atS RX2 152 "java/lang/IndexOutOfBoundsException" ["java/lang/RuntimeException", "java/lang/Exception"]).filter goodWord
theorem mem_r {big ws : List Cond} (ps : List Nat) (hp : ws = ps.filterMap (fun i => big[i]?)) : ∀ w ∈ ws, w ∈ big := by
  intro w hw
  rw [hp] at hw
  obtain ⟨i, -, hi⟩ := List.mem_filterMap.mp hw
  first | exact List.mem_of_getElem? hi | exact List.getElem?_mem hi
set_option maxRecDepth 100000 in
theorem wt_47 : Cond.classLink RL 8 RX2 ∈ lw_tbl := List.mem_append_right _ (List.mem_append_left _ (List.mem_of_getElem? (l := tables_1_1) (i := 12) (by first | exact rfl | decide +kernel)))
set_option maxRecDepth 100000 in
theorem wt_48 : Cond.instantiable RX2 12 ∈ lw_tbl := List.mem_append_right _ (List.mem_append_left _ (List.mem_of_getElem? (l := tables_1_1) (i := 13) (by first | exact rfl | decide +kernel)))
set_option maxRecDepth 100000 in
theorem wt_36 : Cond.initialized RX2 ∈ lw_tbl := List.mem_append_right _ (List.mem_append_left _ (List.mem_of_getElem? (l := tables_1_1) (i := 1) (by first | exact rfl | decide +kernel)))
set_option maxRecDepth 100000 in
theorem wt_489 : Cond.classLink RL 73 RX3 ∈ lw_tbl := List.mem_append_right _ (List.mem_append_right _ (List.mem_append_left _ (List.mem_of_getElem? (l := tables_1_2) (i := 214) (by first | exact rfl | decide +kernel))))
set_option maxRecDepth 100000 in
theorem wt_490 : Cond.instantiable RX3 24 ∈ lw_tbl := List.mem_append_right _ (List.mem_append_right _ (List.mem_append_left _ (List.mem_of_getElem? (l := tables_1_2) (i := 215) (by first | exact rfl | decide +kernel))))
set_option maxRecDepth 100000 in
theorem wt_39 : Cond.initialized RX3 ∈ lw_tbl := List.mem_append_right _ (List.mem_append_left _ (List.mem_of_getElem? (l := tables_1_1) (i := 4) (by first | exact rfl | decide +kernel)))
set_option maxRecDepth 100000 in
theorem wt_76 : Cond.arrayClass .long ∈ lw_tbl := List.mem_append_right _ (List.mem_append_left _ (List.mem_of_getElem? (l := tables_1_1) (i := 41) (by first | exact rfl | decide +kernel)))
set_option maxRecDepth 100000 in
theorem wt_49 : Cond.methodLink RL 72 yX2_init ∈ lw_tbl := List.mem_append_right _ (List.mem_append_left _ (List.mem_of_getElem? (l := tables_1_1) (i := 14) (by first | exact rfl | decide +kernel)))
set_option maxRecDepth 100000 in
theorem wt_50 : Cond.instanceMethod yX2_init ∈ lw_tbl := List.mem_append_right _ (List.mem_append_left _ (List.mem_of_getElem? (l := tables_1_1) (i := 15) (by first | exact rfl | decide +kernel)))
set_option maxRecDepth 100000 in
theorem wt_51 : Cond.code yX2_init cX2_init 1 none ∈ lw_tbl := List.mem_append_right _ (List.mem_append_left _ (List.mem_of_getElem? (l := tables_1_1) (i := 16) (by first | exact rfl | decide +kernel)))
set_option maxRecDepth 100000 in
theorem wt_52 : Cond.methodLink RX2 1 objectInit ∈ lw_tbl := List.mem_append_right _ (List.mem_append_left _ (List.mem_of_getElem? (l := tables_1_1) (i := 17) (by first | exact rfl | decide +kernel)))
set_option maxRecDepth 100000 in
theorem wt_53 : Cond.instanceMethod objectInit ∈ lw_tbl := List.mem_append_right _ (List.mem_append_left _ (List.mem_of_getElem? (l := tables_1_1) (i := 18) (by first | exact rfl | decide +kernel)))
set_option maxRecDepth 100000 in
theorem wt_54 : Cond.code objectInit ⟨#[0xb1]⟩ 1 none ∈ lw_tbl := List.mem_append_right _ (List.mem_append_left _ (List.mem_of_getElem? (l := tables_1_1) (i := 19) (by first | exact rfl | decide +kernel)))
set_option maxRecDepth 100000 in
theorem wt_75 : Cond.arrayClass .int ∈ lw_tbl := List.mem_append_right _ (List.mem_append_left _ (List.mem_of_getElem? (l := tables_1_1) (i := 40) (by first | exact rfl | decide +kernel)))
set_option maxRecDepth 100000 in
theorem wt_100 : Cond.fieldLink RX2 9 "TimeNet" "domainOf" "[I" ∈ lw_tbl := List.mem_append_right _ (List.mem_append_left _ (List.mem_of_getElem? (l := tables_1_1) (i := 65) (by first | exact rfl | decide +kernel)))
set_option maxRecDepth 100000 in
theorem wt_101 : Cond.fieldLink RX2 13 "TimeNet" "gradeOf" "[I" ∈ lw_tbl := List.mem_append_right _ (List.mem_append_left _ (List.mem_of_getElem? (l := tables_1_1) (i := 66) (by first | exact rfl | decide +kernel)))
set_option maxRecDepth 100000 in
theorem wt_102 : Cond.fieldLink RX2 16 "TimeNet" "varianceOf" "[I" ∈ lw_tbl := List.mem_append_right _ (List.mem_append_left _ (List.mem_of_getElem? (l := tables_1_1) (i := 67) (by first | exact rfl | decide +kernel)))
set_option maxRecDepth 100000 in
theorem wt_103 : Cond.fieldLink RX2 19 "TimeNet" "driftOf" "[I" ∈ lw_tbl := List.mem_append_right _ (List.mem_append_left _ (List.mem_of_getElem? (l := tables_1_1) (i := 68) (by first | exact rfl | decide +kernel)))
set_option maxRecDepth 100000 in
theorem wt_104 : Cond.fieldLink RX2 22 "TimeNet" "offsetOf" "[J" ∈ lw_tbl := List.mem_append_right _ (List.mem_append_left _ (List.mem_of_getElem? (l := tables_1_1) (i := 69) (by first | exact rfl | decide +kernel)))
set_option maxRecDepth 100000 in
theorem wt_105 : Cond.fieldLink RX2 26 "TimeNet" "rateOf" "[J" ∈ lw_tbl := List.mem_append_right _ (List.mem_append_left _ (List.mem_of_getElem? (l := tables_1_1) (i := 70) (by first | exact rfl | decide +kernel)))
set_option maxRecDepth 100000 in
theorem wt_55 : Cond.classLink RX2 29 RX1 ∈ lw_tbl := List.mem_append_right _ (List.mem_append_left _ (List.mem_of_getElem? (l := tables_1_1) (i := 20) (by first | exact rfl | decide +kernel)))
set_option maxRecDepth 100000 in
theorem wt_56 : Cond.instantiable RX1 4 ∈ lw_tbl := List.mem_append_right _ (List.mem_append_left _ (List.mem_of_getElem? (l := tables_1_1) (i := 21) (by first | exact rfl | decide +kernel)))
set_option maxRecDepth 100000 in
theorem wt_37 : Cond.initialized RX1 ∈ lw_tbl := List.mem_append_right _ (List.mem_append_left _ (List.mem_of_getElem? (l := tables_1_1) (i := 2) (by first | exact rfl | decide +kernel)))
set_option maxRecDepth 100000 in
theorem wt_106 : Cond.fieldLink RX2 32 "TimeNet" "wires" "LTimeNet$Wires;" ∈ lw_tbl := List.mem_append_right _ (List.mem_append_left _ (List.mem_of_getElem? (l := tables_1_1) (i := 71) (by first | exact rfl | decide +kernel)))
theorem wsL_law0_r1_in : ∀ w ∈ wsL_law0_r1, w ∈ lw_tbl := List.forall_mem_cons.mpr ⟨wt_47, List.forall_mem_cons.mpr ⟨wt_48, List.forall_mem_cons.mpr ⟨wt_36, List.forall_mem_cons.mpr ⟨wt_489, List.forall_mem_cons.mpr ⟨wt_490, List.forall_mem_cons.mpr ⟨wt_39, List.forall_mem_cons.mpr ⟨wt_76, List.forall_mem_cons.mpr ⟨wt_49, List.forall_mem_cons.mpr ⟨wt_50, List.forall_mem_cons.mpr ⟨wt_51, List.forall_mem_cons.mpr ⟨wt_52, List.forall_mem_cons.mpr ⟨wt_53, List.forall_mem_cons.mpr ⟨wt_54, List.forall_mem_cons.mpr ⟨wt_75, List.forall_mem_cons.mpr ⟨wt_100, List.forall_mem_cons.mpr ⟨wt_101, List.forall_mem_cons.mpr ⟨wt_102, List.forall_mem_cons.mpr ⟨wt_103, List.forall_mem_cons.mpr ⟨wt_104, List.forall_mem_cons.mpr ⟨wt_105, List.forall_mem_cons.mpr ⟨wt_55, List.forall_mem_cons.mpr ⟨wt_56, List.forall_mem_cons.mpr ⟨wt_37, List.forall_mem_cons.mpr ⟨wt_106, fun _ h => absurd h List.not_mem_nil⟩⟩⟩⟩⟩⟩⟩⟩⟩⟩⟩⟩⟩⟩⟩⟩⟩⟩⟩⟩⟩⟩⟩⟩
set_option maxRecDepth 100000 in
theorem wt_78 : Cond.classLink RX2 36 RX0 ∈ lw_tbl := List.mem_append_right _ (List.mem_append_left _ (List.mem_of_getElem? (l := tables_1_1) (i := 43) (by first | exact rfl | decide +kernel)))
set_option maxRecDepth 100000 in
theorem wt_79 : Cond.instantiable RX0 4 ∈ lw_tbl := List.mem_append_right _ (List.mem_append_left _ (List.mem_of_getElem? (l := tables_1_1) (i := 44) (by first | exact rfl | decide +kernel)))
set_option maxRecDepth 100000 in
theorem wt_38 : Cond.initialized RX0 ∈ lw_tbl := List.mem_append_right _ (List.mem_append_left _ (List.mem_of_getElem? (l := tables_1_1) (i := 3) (by first | exact rfl | decide +kernel)))
set_option maxRecDepth 100000 in
theorem wt_107 : Cond.fieldLink RX2 39 "TimeNet" "known" "LTimeNet$Knowledge;" ∈ lw_tbl := List.mem_append_right _ (List.mem_append_left _ (List.mem_of_getElem? (l := tables_1_1) (i := 72) (by first | exact rfl | decide +kernel)))
set_option maxRecDepth 100000 in
theorem wt_108 : Cond.fieldLink RX2 43 "TimeNet" "heard" "LTimeNet$Knowledge;" ∈ lw_tbl := List.mem_append_right _ (List.mem_append_left _ (List.mem_of_getElem? (l := tables_1_1) (i := 73) (by first | exact rfl | decide +kernel)))
set_option maxRecDepth 100000 in
theorem wt_109 : Cond.fieldLink RX2 46 "TimeNet" "distanceTo" "[I" ∈ lw_tbl := List.mem_append_right _ (List.mem_append_left _ (List.mem_of_getElem? (l := tables_1_1) (i := 74) (by first | exact rfl | decide +kernel)))
set_option maxRecDepth 100000 in
theorem wt_110 : Cond.fieldLink RX2 49 "TimeNet" "nodeCount" "I" ∈ lw_tbl := List.mem_append_right _ (List.mem_append_left _ (List.mem_of_getElem? (l := tables_1_1) (i := 75) (by first | exact rfl | decide +kernel)))
set_option maxRecDepth 100000 in
theorem wt_111 : Cond.fieldLink RX2 53 "TimeNet" "tickCount" "I" ∈ lw_tbl := List.mem_append_right _ (List.mem_append_left _ (List.mem_of_getElem? (l := tables_1_1) (i := 76) (by first | exact rfl | decide +kernel)))
set_option maxRecDepth 100000 in
theorem wt_58 : Cond.instanceMethod yX1_init ∈ lw_tbl := List.mem_append_right _ (List.mem_append_left _ (List.mem_of_getElem? (l := tables_1_1) (i := 23) (by first | exact rfl | decide +kernel)))
set_option maxRecDepth 100000 in
theorem wt_59 : Cond.code yX1_init cX1_init 1 none ∈ lw_tbl := List.mem_append_right _ (List.mem_append_left _ (List.mem_of_getElem? (l := tables_1_1) (i := 24) (by first | exact rfl | decide +kernel)))
set_option maxRecDepth 100000 in
theorem wt_60 : Cond.methodLink RX1 3 objectInit ∈ lw_tbl := List.mem_append_right _ (List.mem_append_left _ (List.mem_of_getElem? (l := tables_1_1) (i := 25) (by first | exact rfl | decide +kernel)))
set_option maxRecDepth 100000 in
theorem wt_77 : Cond.arrayClass .boolean ∈ lw_tbl := List.mem_append_right _ (List.mem_append_left _ (List.mem_of_getElem? (l := tables_1_1) (i := 42) (by first | exact rfl | decide +kernel)))
set_option maxRecDepth 100000 in
theorem wt_61 : Cond.fieldLink RX1 9 "TimeNet$Wires" "laid" "[Z" ∈ lw_tbl := List.mem_append_right _ (List.mem_append_left _ (List.mem_of_getElem? (l := tables_1_1) (i := 26) (by first | exact rfl | decide +kernel)))
set_option maxRecDepth 100000 in
theorem wt_62 : Cond.fieldLink RX1 15 "TimeNet$Wires" "delay" "[I" ∈ lw_tbl := List.mem_append_right _ (List.mem_append_left _ (List.mem_of_getElem? (l := tables_1_1) (i := 27) (by first | exact rfl | decide +kernel)))
set_option maxRecDepth 100000 in
theorem wt_63 : Cond.fieldLink RX1 19 "TimeNet$Wires" "told" "[I" ∈ lw_tbl := List.mem_append_right _ (List.mem_append_left _ (List.mem_of_getElem? (l := tables_1_1) (i := 28) (by first | exact rfl | decide +kernel)))
set_option maxRecDepth 100000 in
theorem wt_64 : Cond.fieldLink RX1 22 "TimeNet$Wires" "count" "I" ∈ lw_tbl := List.mem_append_right _ (List.mem_append_left _ (List.mem_of_getElem? (l := tables_1_1) (i := 29) (by first | exact rfl | decide +kernel)))
set_option maxRecDepth 100000 in
theorem wt_81 : Cond.instanceMethod yX0_init ∈ lw_tbl := List.mem_append_right _ (List.mem_append_left _ (List.mem_of_getElem? (l := tables_1_1) (i := 46) (by first | exact rfl | decide +kernel)))
set_option maxRecDepth 100000 in
theorem wt_82 : Cond.code yX0_init cX0_init 1 none ∈ lw_tbl := List.mem_append_right _ (List.mem_append_left _ (List.mem_of_getElem? (l := tables_1_1) (i := 47) (by first | exact rfl | decide +kernel)))
set_option maxRecDepth 100000 in
theorem wt_83 : Cond.methodLink RX0 3 objectInit ∈ lw_tbl := List.mem_append_right _ (List.mem_append_left _ (List.mem_of_getElem? (l := tables_1_1) (i := 48) (by first | exact rfl | decide +kernel)))
set_option maxRecDepth 100000 in
theorem wt_84 : Cond.fieldLink RX0 9 "TimeNet$Knowledge" "clockNode" "[I" ∈ lw_tbl := List.mem_append_right _ (List.mem_append_left _ (List.mem_of_getElem? (l := tables_1_1) (i := 49) (by first | exact rfl | decide +kernel)))
set_option maxRecDepth 100000 in
theorem wt_86 : Cond.fieldLink RX0 15 "TimeNet$Knowledge" "clockRank" "[I" ∈ lw_tbl := List.mem_append_right _ (List.mem_append_left _ (List.mem_of_getElem? (l := tables_1_1) (i := 51) (by first | exact rfl | decide +kernel)))
set_option maxRecDepth 100000 in
theorem wt_87 : Cond.fieldLink RX0 18 "TimeNet$Knowledge" "stepsAway" "[I" ∈ lw_tbl := List.mem_append_right _ (List.mem_append_left _ (List.mem_of_getElem? (l := tables_1_1) (i := 52) (by first | exact rfl | decide +kernel)))
set_option maxRecDepth 100000 in
theorem wt_89 : Cond.fieldLink RX0 21 "TimeNet$Knowledge" "knownFrom" "[I" ∈ lw_tbl := List.mem_append_right _ (List.mem_append_left _ (List.mem_of_getElem? (l := tables_1_1) (i := 54) (by first | exact rfl | decide +kernel)))
set_option maxRecDepth 100000 in
theorem wt_491 : Cond.methodLink RL 75 yX3_init ∈ lw_tbl := List.mem_append_right _ (List.mem_append_right _ (List.mem_append_left _ (List.mem_of_getElem? (l := tables_1_2) (i := 216) (by first | exact rfl | decide +kernel))))
theorem wsL_law0_r2_in : ∀ w ∈ wsL_law0_r2, w ∈ lw_tbl := List.forall_mem_cons.mpr ⟨wt_78, List.forall_mem_cons.mpr ⟨wt_79, List.forall_mem_cons.mpr ⟨wt_38, List.forall_mem_cons.mpr ⟨wt_107, List.forall_mem_cons.mpr ⟨wt_108, List.forall_mem_cons.mpr ⟨wt_109, List.forall_mem_cons.mpr ⟨wt_110, List.forall_mem_cons.mpr ⟨wt_111, List.forall_mem_cons.mpr ⟨wt_58, List.forall_mem_cons.mpr ⟨wt_59, List.forall_mem_cons.mpr ⟨wt_60, List.forall_mem_cons.mpr ⟨wt_77, List.forall_mem_cons.mpr ⟨wt_61, List.forall_mem_cons.mpr ⟨wt_62, List.forall_mem_cons.mpr ⟨wt_63, List.forall_mem_cons.mpr ⟨wt_64, List.forall_mem_cons.mpr ⟨wt_81, List.forall_mem_cons.mpr ⟨wt_82, List.forall_mem_cons.mpr ⟨wt_83, List.forall_mem_cons.mpr ⟨wt_84, List.forall_mem_cons.mpr ⟨wt_86, List.forall_mem_cons.mpr ⟨wt_87, List.forall_mem_cons.mpr ⟨wt_89, List.forall_mem_cons.mpr ⟨wt_491, fun _ h => absurd h List.not_mem_nil⟩⟩⟩⟩⟩⟩⟩⟩⟩⟩⟩⟩⟩⟩⟩⟩⟩⟩⟩⟩⟩⟩⟩⟩
set_option maxRecDepth 100000 in
theorem wt_492 : Cond.instanceMethod yX3_init ∈ lw_tbl := List.mem_append_right _ (List.mem_append_right _ (List.mem_append_left _ (List.mem_of_getElem? (l := tables_1_2) (i := 217) (by first | exact rfl | decide +kernel))))
set_option maxRecDepth 100000 in
theorem wt_493 : Cond.code yX3_init cX3_init 1 none ∈ lw_tbl := List.mem_append_right _ (List.mem_append_right _ (List.mem_append_left _ (List.mem_of_getElem? (l := tables_1_2) (i := 218) (by first | exact rfl | decide +kernel))))
set_option maxRecDepth 100000 in
theorem wt_494 : Cond.methodLink RX3 1 objectInit ∈ lw_tbl := List.mem_append_right _ (List.mem_append_right _ (List.mem_append_left _ (List.mem_of_getElem? (l := tables_1_2) (i := 219) (by first | exact rfl | decide +kernel))))
set_option maxRecDepth 100000 in
theorem wt_497 : Cond.fieldLink RX3 7 "TimeNetModel" "domains" "[I" ∈ lw_tbl := List.mem_append_right _ (List.mem_append_right _ (List.mem_append_left _ (List.mem_of_getElem? (l := tables_1_2) (i := 222) (by first | exact rfl | decide +kernel))))
set_option maxRecDepth 100000 in
theorem wt_498 : Cond.fieldLink RX3 13 "TimeNetModel" "grades" "[I" ∈ lw_tbl := List.mem_append_right _ (List.mem_append_right _ (List.mem_append_left _ (List.mem_of_getElem? (l := tables_1_2) (i := 223) (by first | exact rfl | decide +kernel))))
set_option maxRecDepth 100000 in
theorem wt_499 : Cond.fieldLink RX3 16 "TimeNetModel" "variances" "[I" ∈ lw_tbl := List.mem_append_right _ (List.mem_append_right _ (List.mem_append_left _ (List.mem_of_getElem? (l := tables_1_2) (i := 224) (by first | exact rfl | decide +kernel))))
set_option maxRecDepth 100000 in
theorem wt_500 : Cond.fieldLink RX3 19 "TimeNetModel" "drifts" "[I" ∈ lw_tbl := List.mem_append_right _ (List.mem_append_right _ (List.mem_append_left _ (List.mem_of_getElem? (l := tables_1_2) (i := 225) (by first | exact rfl | decide +kernel))))
set_option maxRecDepth 100000 in
theorem wt_501 : Cond.fieldLink RX3 22 "TimeNetModel" "offsets" "[J" ∈ lw_tbl := List.mem_append_right _ (List.mem_append_right _ (List.mem_append_left _ (List.mem_of_getElem? (l := tables_1_2) (i := 226) (by first | exact rfl | decide +kernel))))
set_option maxRecDepth 100000 in
theorem wt_502 : Cond.fieldLink RX3 26 "TimeNetModel" "rates" "[J" ∈ lw_tbl := List.mem_append_right _ (List.mem_append_right _ (List.mem_append_left _ (List.mem_of_getElem? (l := tables_1_2) (i := 227) (by first | exact rfl | decide +kernel))))
set_option maxRecDepth 100000 in
theorem wt_503 : Cond.fieldLink RX3 29 "TimeNetModel" "isLinked" "[Z" ∈ lw_tbl := List.mem_append_right _ (List.mem_append_right _ (List.mem_append_left _ (List.mem_of_getElem? (l := tables_1_2) (i := 228) (by first | exact rfl | decide +kernel))))
set_option maxRecDepth 100000 in
theorem wt_504 : Cond.fieldLink RX3 33 "TimeNetModel" "delays" "[I" ∈ lw_tbl := List.mem_append_right _ (List.mem_append_right _ (List.mem_append_left _ (List.mem_of_getElem? (l := tables_1_2) (i := 229) (by first | exact rfl | decide +kernel))))
set_option maxRecDepth 100000 in
theorem wt_505 : Cond.fieldLink RX3 36 "TimeNetModel" "differences" "[I" ∈ lw_tbl := List.mem_append_right _ (List.mem_append_right _ (List.mem_append_left _ (List.mem_of_getElem? (l := tables_1_2) (i := 230) (by first | exact rfl | decide +kernel))))
set_option maxRecDepth 100000 in
theorem wt_506 : Cond.fieldLink RX3 39 "TimeNetModel" "knownNode" "[I" ∈ lw_tbl := List.mem_append_right _ (List.mem_append_right _ (List.mem_append_left _ (List.mem_of_getElem? (l := tables_1_2) (i := 231) (by first | exact rfl | decide +kernel))))
set_option maxRecDepth 100000 in
theorem wt_507 : Cond.fieldLink RX3 42 "TimeNetModel" "knownGrade" "[I" ∈ lw_tbl := List.mem_append_right _ (List.mem_append_right _ (List.mem_append_left _ (List.mem_of_getElem? (l := tables_1_2) (i := 232) (by first | exact rfl | decide +kernel))))
set_option maxRecDepth 100000 in
theorem wt_508 : Cond.fieldLink RX3 45 "TimeNetModel" "knownVariance" "[I" ∈ lw_tbl := List.mem_append_right _ (List.mem_append_right _ (List.mem_append_left _ (List.mem_of_getElem? (l := tables_1_2) (i := 233) (by first | exact rfl | decide +kernel))))
set_option maxRecDepth 100000 in
theorem wt_509 : Cond.fieldLink RX3 48 "TimeNetModel" "knownSteps" "[I" ∈ lw_tbl := List.mem_append_right _ (List.mem_append_right _ (List.mem_append_left _ (List.mem_of_getElem? (l := tables_1_2) (i := 234) (by first | exact rfl | decide +kernel))))
set_option maxRecDepth 100000 in
theorem wt_510 : Cond.fieldLink RX3 51 "TimeNetModel" "parents" "[I" ∈ lw_tbl := List.mem_append_right _ (List.mem_append_right _ (List.mem_append_left _ (List.mem_of_getElem? (l := tables_1_2) (i := 235) (by first | exact rfl | decide +kernel))))
set_option maxRecDepth 100000 in
theorem wt_513 : Cond.fieldLink RX3 54 "TimeNetModel" "nextNode" "[I" ∈ lw_tbl := List.mem_append_right _ (List.mem_append_right _ (List.mem_append_left _ (List.mem_of_getElem? (l := tables_1_2) (i := 238) (by first | exact rfl | decide +kernel))))
set_option maxRecDepth 100000 in
theorem wt_514 : Cond.fieldLink RX3 57 "TimeNetModel" "nextGrade" "[I" ∈ lw_tbl := List.mem_append_right _ (List.mem_append_right _ (List.mem_append_left _ (List.mem_of_getElem? (l := tables_1_2) (i := 239) (by first | exact rfl | decide +kernel))))
set_option maxRecDepth 100000 in
theorem wt_515 : Cond.fieldLink RX3 60 "TimeNetModel" "nextVariance" "[I" ∈ lw_tbl := List.mem_append_right _ (List.mem_append_right _ (List.mem_append_right _ (List.mem_of_getElem? (l := tables_1_3) (i := 0) (by first | exact rfl | decide +kernel))))
set_option maxRecDepth 100000 in
theorem wt_516 : Cond.fieldLink RX3 63 "TimeNetModel" "nextSteps" "[I" ∈ lw_tbl := List.mem_append_right _ (List.mem_append_right _ (List.mem_append_right _ (List.mem_of_getElem? (l := tables_1_3) (i := 1) (by first | exact rfl | decide +kernel))))
set_option maxRecDepth 100000 in
theorem wt_517 : Cond.fieldLink RX3 66 "TimeNetModel" "nextParents" "[I" ∈ lw_tbl := List.mem_append_right _ (List.mem_append_right _ (List.mem_append_right _ (List.mem_of_getElem? (l := tables_1_3) (i := 2) (by first | exact rfl | decide +kernel))))
set_option maxRecDepth 100000 in
theorem wt_518 : Cond.fieldLink RX3 69 "TimeNetModel" "distances" "[I" ∈ lw_tbl := List.mem_append_right _ (List.mem_append_right _ (List.mem_append_right _ (List.mem_of_getElem? (l := tables_1_3) (i := 3) (by first | exact rfl | decide +kernel))))
set_option maxRecDepth 100000 in
theorem wt_495 : Cond.fieldLink RX3 72 "TimeNetModel" "nodeMany" "I" ∈ lw_tbl := List.mem_append_right _ (List.mem_append_right _ (List.mem_append_left _ (List.mem_of_getElem? (l := tables_1_2) (i := 220) (by first | exact rfl | decide +kernel))))
theorem wsL_law0_r3_in : ∀ w ∈ wsL_law0_r3, w ∈ lw_tbl := List.forall_mem_cons.mpr ⟨wt_492, List.forall_mem_cons.mpr ⟨wt_493, List.forall_mem_cons.mpr ⟨wt_494, List.forall_mem_cons.mpr ⟨wt_497, List.forall_mem_cons.mpr ⟨wt_498, List.forall_mem_cons.mpr ⟨wt_499, List.forall_mem_cons.mpr ⟨wt_500, List.forall_mem_cons.mpr ⟨wt_501, List.forall_mem_cons.mpr ⟨wt_502, List.forall_mem_cons.mpr ⟨wt_503, List.forall_mem_cons.mpr ⟨wt_504, List.forall_mem_cons.mpr ⟨wt_505, List.forall_mem_cons.mpr ⟨wt_506, List.forall_mem_cons.mpr ⟨wt_507, List.forall_mem_cons.mpr ⟨wt_508, List.forall_mem_cons.mpr ⟨wt_509, List.forall_mem_cons.mpr ⟨wt_510, List.forall_mem_cons.mpr ⟨wt_513, List.forall_mem_cons.mpr ⟨wt_514, List.forall_mem_cons.mpr ⟨wt_515, List.forall_mem_cons.mpr ⟨wt_516, List.forall_mem_cons.mpr ⟨wt_517, List.forall_mem_cons.mpr ⟨wt_518, List.forall_mem_cons.mpr ⟨wt_495, fun _ h => absurd h List.not_mem_nil⟩⟩⟩⟩⟩⟩⟩⟩⟩⟩⟩⟩⟩⟩⟩⟩⟩⟩⟩⟩⟩⟩⟩⟩
set_option maxRecDepth 100000 in
theorem wt_176 : Cond.methodLink RL 76 yL_add ∈ lw_tbl := List.mem_append_right _ (List.mem_append_left _ (List.mem_of_getElem? (l := tables_1_1) (i := 141) (by first | exact rfl | decide +kernel)))
set_option maxRecDepth 100000 in
theorem wt_177 : Cond.static yL_add ∈ lw_tbl := List.mem_append_right _ (List.mem_append_left _ (List.mem_of_getElem? (l := tables_1_1) (i := 142) (by first | exact rfl | decide +kernel)))
set_option maxRecDepth 100000 in
theorem wt_35 : Cond.initialized RL ∈ lw_tbl := List.mem_append_right _ (List.mem_append_left _ (List.mem_of_getElem? (l := tables_1_1) (i := 0) (by first | exact rfl | decide +kernel)))
set_option maxRecDepth 100000 in
theorem wt_178 : Cond.codeWith yL_add cL_add 7 (some .int) [(0, 14, 17, 13), (0, 14, 21, 15)] ∈ lw_tbl := List.mem_append_right _ (List.mem_append_left _ (List.mem_of_getElem? (l := tables_1_1) (i := 143) (by first | exact rfl | decide +kernel)))
set_option maxRecDepth 100000 in
theorem wt_179 : Cond.classLink RL 13 "java/lang/IllegalArgumentException" ∈ lw_tbl := List.mem_append_right _ (List.mem_append_left _ (List.mem_of_getElem? (l := tables_1_1) (i := 144) (by first | exact rfl | decide +kernel)))
set_option maxRecDepth 100000 in
theorem wt_180 : Cond.classLink RL 15 "java/lang/IllegalStateException" ∈ lw_tbl := List.mem_append_right _ (List.mem_append_left _ (List.mem_of_getElem? (l := tables_1_1) (i := 145) (by first | exact rfl | decide +kernel)))
set_option maxRecDepth 100000 in
theorem wt_181 : Cond.methodLink RL 7 yX2_add ∈ lw_tbl := List.mem_append_right _ (List.mem_append_left _ (List.mem_of_getElem? (l := tables_1_1) (i := 146) (by first | exact rfl | decide +kernel)))
set_option maxRecDepth 100000 in
theorem wt_182 : Cond.instanceMethod yX2_add ∈ lw_tbl := List.mem_append_right _ (List.mem_append_left _ (List.mem_of_getElem? (l := tables_1_1) (i := 147) (by first | exact rfl | decide +kernel)))
set_option maxRecDepth 100000 in
theorem wt_183 : Cond.selects RX2 yX2_add yX2_add ∈ lw_tbl := List.mem_append_right _ (List.mem_append_left _ (List.mem_of_getElem? (l := tables_1_1) (i := 148) (by first | exact rfl | decide +kernel)))
set_option maxRecDepth 100000 in
theorem wt_184 : Cond.code yX2_add cX2_add 6 (some .int) ∈ lw_tbl := List.mem_append_right _ (List.mem_append_left _ (List.mem_of_getElem? (l := tables_1_1) (i := 149) (by first | exact rfl | decide +kernel)))
set_option maxRecDepth 100000 in
theorem wt_256 : Cond.classLink RX2 60 "java/lang/IllegalStateException" ∈ lw_tbl := List.mem_append_right _ (List.mem_append_left _ (List.mem_of_getElem? (l := tables_1_1) (i := 221) (by first | exact rfl | decide +kernel)))
set_option maxRecDepth 100000 in
theorem wt_44 : Cond.initialized "java/lang/IllegalStateException" ∈ lw_tbl := List.mem_append_right _ (List.mem_append_left _ (List.mem_of_getElem? (l := tables_1_1) (i := 9) (by first | exact rfl | decide +kernel)))
set_option maxRecDepth 100000 in
theorem wt_185 : Cond.methodLink RX2 56 yX2_requireWithin ∈ lw_tbl := List.mem_append_right _ (List.mem_append_left _ (List.mem_of_getElem? (l := tables_1_1) (i := 150) (by first | exact rfl | decide +kernel)))
set_option maxRecDepth 100000 in
theorem wt_186 : Cond.static yX2_requireWithin ∈ lw_tbl := List.mem_append_right _ (List.mem_append_left _ (List.mem_of_getElem? (l := tables_1_1) (i := 151) (by first | exact rfl | decide +kernel)))
set_option maxRecDepth 100000 in
theorem wt_187 : Cond.code yX2_requireWithin cX2_requireWithin 3 none ∈ lw_tbl := List.mem_append_right _ (List.mem_append_left _ (List.mem_of_getElem? (l := tables_1_1) (i := 152) (by first | exact rfl | decide +kernel)))
set_option maxRecDepth 100000 in
theorem wt_188 : Cond.classLink RX2 76 "java/lang/IllegalArgumentException" ∈ lw_tbl := List.mem_append_right _ (List.mem_append_left _ (List.mem_of_getElem? (l := tables_1_1) (i := 153) (by first | exact rfl | decide +kernel)))
set_option maxRecDepth 100000 in
theorem wt_43 : Cond.initialized "java/lang/IllegalArgumentException" ∈ lw_tbl := List.mem_append_right _ (List.mem_append_left _ (List.mem_of_getElem? (l := tables_1_1) (i := 8) (by first | exact rfl | decide +kernel)))
set_option maxRecDepth 100000 in
theorem wt_272 : Cond.methodLink RX2 67 yX2_knowOnlyItself ∈ lw_tbl := List.mem_append_right _ (List.mem_append_left _ (List.mem_of_getElem? (l := tables_1_1) (i := 237) (by first | exact rfl | decide +kernel)))
set_option maxRecDepth 100000 in
theorem wt_274 : Cond.instanceMethod yX2_knowOnlyItself ∈ lw_tbl := List.mem_append_right _ (List.mem_append_left _ (List.mem_of_getElem? (l := tables_1_1) (i := 239) (by first | exact rfl | decide +kernel)))
theorem wt_7 : Cond.selects RX2 yX2_knowOnlyItself yX2_knowOnlyItself ∈ lw_tbl := List.mem_of_getElem? (i := 7) (by decide +kernel)
set_option maxRecDepth 100000 in
theorem wt_275 : Cond.code yX2_knowOnlyItself cX2_knowOnlyItself 2 none ∈ lw_tbl := List.mem_append_right _ (List.mem_append_right _ (List.mem_append_left _ (List.mem_of_getElem? (l := tables_1_2) (i := 0) (by first | exact rfl | decide +kernel))))
set_option maxRecDepth 100000 in
theorem wt_172 : Cond.methodLink RX2 157 yX2_rankOf ∈ lw_tbl := List.mem_append_right _ (List.mem_append_left _ (List.mem_of_getElem? (l := tables_1_1) (i := 137) (by first | exact rfl | decide +kernel)))
set_option maxRecDepth 100000 in
theorem wt_174 : Cond.instanceMethod yX2_rankOf ∈ lw_tbl := List.mem_append_right _ (List.mem_append_left _ (List.mem_of_getElem? (l := tables_1_1) (i := 139) (by first | exact rfl | decide +kernel)))
theorem wt_5 : Cond.selects RX2 yX2_rankOf yX2_rankOf ∈ lw_tbl := List.mem_of_getElem? (i := 5) (by decide +kernel)
theorem wsL_law0_r4_in : ∀ w ∈ wsL_law0_r4, w ∈ lw_tbl := List.forall_mem_cons.mpr ⟨wt_176, List.forall_mem_cons.mpr ⟨wt_177, List.forall_mem_cons.mpr ⟨wt_35, List.forall_mem_cons.mpr ⟨wt_178, List.forall_mem_cons.mpr ⟨wt_179, List.forall_mem_cons.mpr ⟨wt_180, List.forall_mem_cons.mpr ⟨wt_181, List.forall_mem_cons.mpr ⟨wt_182, List.forall_mem_cons.mpr ⟨wt_183, List.forall_mem_cons.mpr ⟨wt_184, List.forall_mem_cons.mpr ⟨wt_256, List.forall_mem_cons.mpr ⟨wt_44, List.forall_mem_cons.mpr ⟨wt_185, List.forall_mem_cons.mpr ⟨wt_186, List.forall_mem_cons.mpr ⟨wt_187, List.forall_mem_cons.mpr ⟨wt_188, List.forall_mem_cons.mpr ⟨wt_43, List.forall_mem_cons.mpr ⟨wt_272, List.forall_mem_cons.mpr ⟨wt_274, List.forall_mem_cons.mpr ⟨wt_7, List.forall_mem_cons.mpr ⟨wt_275, List.forall_mem_cons.mpr ⟨wt_172, List.forall_mem_cons.mpr ⟨wt_174, List.forall_mem_cons.mpr ⟨wt_5, fun _ h => absurd h List.not_mem_nil⟩⟩⟩⟩⟩⟩⟩⟩⟩⟩⟩⟩⟩⟩⟩⟩⟩⟩⟩⟩⟩⟩⟩⟩
set_option maxRecDepth 100000 in
theorem wt_175 : Cond.code yX2_rankOf cX2_rankOf 2 (some .int) ∈ lw_tbl := List.mem_append_right _ (List.mem_append_left _ (List.mem_of_getElem? (l := tables_1_1) (i := 140) (by first | exact rfl | decide +kernel)))
set_option maxRecDepth 100000 in
theorem wt_278 : Cond.instanceMethod yX0_start ∈ lw_tbl := List.mem_append_right _ (List.mem_append_right _ (List.mem_append_left _ (List.mem_of_getElem? (l := tables_1_2) (i := 3) (by first | exact rfl | decide +kernel))))
theorem wt_8 : Cond.selects RX0 yX0_start yX0_start ∈ lw_tbl := List.mem_of_getElem? (i := 8) (by decide +kernel)
set_option maxRecDepth 100000 in
theorem wt_279 : Cond.code yX0_start cX0_start 3 none ∈ lw_tbl := List.mem_append_right _ (List.mem_append_right _ (List.mem_append_left _ (List.mem_of_getElem? (l := tables_1_2) (i := 4) (by first | exact rfl | decide +kernel))))
set_option maxRecDepth 100000 in
theorem wt_572 : Cond.methodLink RL 81 yX3_add ∈ lw_tbl := List.mem_append_right _ (List.mem_append_right _ (List.mem_append_right _ (List.mem_of_getElem? (l := tables_1_3) (i := 57) (by first | exact rfl | decide +kernel))))
set_option maxRecDepth 100000 in
theorem wt_573 : Cond.instanceMethod yX3_add ∈ lw_tbl := List.mem_append_right _ (List.mem_append_right _ (List.mem_append_right _ (List.mem_of_getElem? (l := tables_1_3) (i := 58) (by first | exact rfl | decide +kernel))))
set_option maxRecDepth 100000 in
theorem wt_574 : Cond.selects RX3 yX3_add yX3_add ∈ lw_tbl := List.mem_append_right _ (List.mem_append_right _ (List.mem_append_right _ (List.mem_of_getElem? (l := tables_1_3) (i := 59) (by first | exact rfl | decide +kernel))))
set_option maxRecDepth 100000 in
theorem wt_575 : Cond.code yX3_add cX3_add 5 (some .int) ∈ lw_tbl := List.mem_append_right _ (List.mem_append_right _ (List.mem_append_right _ (List.mem_of_getElem? (l := tables_1_3) (i := 60) (by first | exact rfl | decide +kernel))))
set_option maxRecDepth 100000 in
theorem wt_512 : Cond.fieldLink RX3 76 "TimeNetModel" "thrown" "I" ∈ lw_tbl := List.mem_append_right _ (List.mem_append_right _ (List.mem_append_left _ (List.mem_of_getElem? (l := tables_1_2) (i := 237) (by first | exact rfl | decide +kernel))))
set_option maxRecDepth 100000 in
theorem wt_576 : Cond.methodLink RX3 79 yX3_in ∈ lw_tbl := List.mem_append_right _ (List.mem_append_right _ (List.mem_append_right _ (List.mem_of_getElem? (l := tables_1_3) (i := 61) (by first | exact rfl | decide +kernel))))
set_option maxRecDepth 100000 in
theorem wt_577 : Cond.static yX3_in ∈ lw_tbl := List.mem_append_right _ (List.mem_append_right _ (List.mem_append_right _ (List.mem_of_getElem? (l := tables_1_3) (i := 62) (by first | exact rfl | decide +kernel))))
set_option maxRecDepth 100000 in
theorem wt_578 : Cond.code yX3_in cX3_in 3 (some .boolean) ∈ lw_tbl := List.mem_append_right _ (List.mem_append_right _ (List.mem_append_right _ (List.mem_of_getElem? (l := tables_1_3) (i := 63) (by first | exact rfl | decide +kernel))))
set_option maxRecDepth 100000 in
theorem wt_579 : Cond.methodLink RX3 83 yX3_knowItself ∈ lw_tbl := List.mem_append_right _ (List.mem_append_right _ (List.mem_append_right _ (List.mem_of_getElem? (l := tables_1_3) (i := 64) (by first | exact rfl | decide +kernel))))
set_option maxRecDepth 100000 in
theorem wt_581 : Cond.instanceMethod yX3_knowItself ∈ lw_tbl := List.mem_append_right _ (List.mem_append_right _ (List.mem_append_right _ (List.mem_of_getElem? (l := tables_1_3) (i := 66) (by first | exact rfl | decide +kernel))))
theorem wt_25 : Cond.selects RX3 yX3_knowItself yX3_knowItself ∈ lw_tbl := List.mem_of_getElem? (i := 25) (by decide +kernel)
set_option maxRecDepth 100000 in
theorem wt_582 : Cond.code yX3_knowItself cX3_knowItself 2 none ∈ lw_tbl := List.mem_append_right _ (List.mem_append_right _ (List.mem_append_right _ (List.mem_of_getElem? (l := tables_1_3) (i := 67) (by first | exact rfl | decide +kernel))))
set_option maxRecDepth 100000 in
theorem wt_280 : Cond.methodLink RL 82 yL_setClock ∈ lw_tbl := List.mem_append_right _ (List.mem_append_right _ (List.mem_append_left _ (List.mem_of_getElem? (l := tables_1_2) (i := 5) (by first | exact rfl | decide +kernel))))
set_option maxRecDepth 100000 in
theorem wt_281 : Cond.static yL_setClock ∈ lw_tbl := List.mem_append_right _ (List.mem_append_right _ (List.mem_append_left _ (List.mem_of_getElem? (l := tables_1_2) (i := 6) (by first | exact rfl | decide +kernel))))
set_option maxRecDepth 100000 in
theorem wt_282 : Cond.codeWith yL_setClock cL_setClock 6 (some .int) [(0, 12, 15, 21), (0, 12, 19, 13)] ∈ lw_tbl := List.mem_append_right _ (List.mem_append_right _ (List.mem_append_left _ (List.mem_of_getElem? (l := tables_1_2) (i := 7) (by first | exact rfl | decide +kernel))))
set_option maxRecDepth 100000 in
theorem wt_283 : Cond.classLink RL 21 "java/lang/IndexOutOfBoundsException" ∈ lw_tbl := List.mem_append_right _ (List.mem_append_right _ (List.mem_append_left _ (List.mem_of_getElem? (l := tables_1_2) (i := 8) (by first | exact rfl | decide +kernel))))
set_option maxRecDepth 100000 in
theorem wt_284 : Cond.methodLink RL 17 yX2_setClock ∈ lw_tbl := List.mem_append_right _ (List.mem_append_right _ (List.mem_append_left _ (List.mem_of_getElem? (l := tables_1_2) (i := 9) (by first | exact rfl | decide +kernel))))
set_option maxRecDepth 100000 in
theorem wt_285 : Cond.instanceMethod yX2_setClock ∈ lw_tbl := List.mem_append_right _ (List.mem_append_right _ (List.mem_append_left _ (List.mem_of_getElem? (l := tables_1_2) (i := 10) (by first | exact rfl | decide +kernel))))
set_option maxRecDepth 100000 in
theorem wt_286 : Cond.selects RX2 yX2_setClock yX2_setClock ∈ lw_tbl := List.mem_append_right _ (List.mem_append_right _ (List.mem_append_left _ (List.mem_of_getElem? (l := tables_1_2) (i := 11) (by first | exact rfl | decide +kernel))))
set_option maxRecDepth 100000 in
theorem wt_287 : Cond.code yX2_setClock cX2_setClock 5 (some .int) ∈ lw_tbl := List.mem_append_right _ (List.mem_append_right _ (List.mem_append_left _ (List.mem_of_getElem? (l := tables_1_2) (i := 12) (by first | exact rfl | decide +kernel))))
theorem wsL_law0_r5_in : ∀ w ∈ wsL_law0_r5, w ∈ lw_tbl := List.forall_mem_cons.mpr ⟨wt_175, List.forall_mem_cons.mpr ⟨wt_278, List.forall_mem_cons.mpr ⟨wt_8, List.forall_mem_cons.mpr ⟨wt_279, List.forall_mem_cons.mpr ⟨wt_572, List.forall_mem_cons.mpr ⟨wt_573, List.forall_mem_cons.mpr ⟨wt_574, List.forall_mem_cons.mpr ⟨wt_575, List.forall_mem_cons.mpr ⟨wt_512, List.forall_mem_cons.mpr ⟨wt_576, List.forall_mem_cons.mpr ⟨wt_577, List.forall_mem_cons.mpr ⟨wt_578, List.forall_mem_cons.mpr ⟨wt_579, List.forall_mem_cons.mpr ⟨wt_581, List.forall_mem_cons.mpr ⟨wt_25, List.forall_mem_cons.mpr ⟨wt_582, List.forall_mem_cons.mpr ⟨wt_280, List.forall_mem_cons.mpr ⟨wt_281, List.forall_mem_cons.mpr ⟨wt_282, List.forall_mem_cons.mpr ⟨wt_283, List.forall_mem_cons.mpr ⟨wt_284, List.forall_mem_cons.mpr ⟨wt_285, List.forall_mem_cons.mpr ⟨wt_286, List.forall_mem_cons.mpr ⟨wt_287, fun _ h => absurd h List.not_mem_nil⟩⟩⟩⟩⟩⟩⟩⟩⟩⟩⟩⟩⟩⟩⟩⟩⟩⟩⟩⟩⟩⟩⟩⟩
set_option maxRecDepth 100000 in
theorem wt_288 : Cond.methodLink RX2 71 yX2_requireNode ∈ lw_tbl := List.mem_append_right _ (List.mem_append_right _ (List.mem_append_left _ (List.mem_of_getElem? (l := tables_1_2) (i := 13) (by first | exact rfl | decide +kernel))))
set_option maxRecDepth 100000 in
theorem wt_290 : Cond.instanceMethod yX2_requireNode ∈ lw_tbl := List.mem_append_right _ (List.mem_append_right _ (List.mem_append_left _ (List.mem_of_getElem? (l := tables_1_2) (i := 15) (by first | exact rfl | decide +kernel))))
theorem wt_9 : Cond.selects RX2 yX2_requireNode yX2_requireNode ∈ lw_tbl := List.mem_of_getElem? (i := 9) (by decide +kernel)
set_option maxRecDepth 100000 in
theorem wt_291 : Cond.code yX2_requireNode cX2_requireNode 2 none ∈ lw_tbl := List.mem_append_right _ (List.mem_append_right _ (List.mem_append_left _ (List.mem_of_getElem? (l := tables_1_2) (i := 16) (by first | exact rfl | decide +kernel))))
set_option maxRecDepth 100000 in
theorem wt_296 : Cond.classLink RX2 148 "java/lang/IndexOutOfBoundsException" ∈ lw_tbl := List.mem_append_right _ (List.mem_append_right _ (List.mem_append_left _ (List.mem_of_getElem? (l := tables_1_2) (i := 21) (by first | exact rfl | decide +kernel))))
set_option maxRecDepth 100000 in
theorem wt_45 : Cond.initialized "java/lang/IndexOutOfBoundsException" ∈ lw_tbl := List.mem_append_right _ (List.mem_append_left _ (List.mem_of_getElem? (l := tables_1_1) (i := 10) (by first | exact rfl | decide +kernel)))
set_option maxRecDepth 100000 in
theorem wt_292 : Cond.methodLink RX2 144 yX2_isNode ∈ lw_tbl := List.mem_append_right _ (List.mem_append_right _ (List.mem_append_left _ (List.mem_of_getElem? (l := tables_1_2) (i := 17) (by first | exact rfl | decide +kernel))))
set_option maxRecDepth 100000 in
theorem wt_294 : Cond.instanceMethod yX2_isNode ∈ lw_tbl := List.mem_append_right _ (List.mem_append_right _ (List.mem_append_left _ (List.mem_of_getElem? (l := tables_1_2) (i := 19) (by first | exact rfl | decide +kernel))))
theorem wt_10 : Cond.selects RX2 yX2_isNode yX2_isNode ∈ lw_tbl := List.mem_of_getElem? (i := 10) (by decide +kernel)
set_option maxRecDepth 100000 in
theorem wt_295 : Cond.code yX2_isNode cX2_isNode 2 (some .boolean) ∈ lw_tbl := List.mem_append_right _ (List.mem_append_right _ (List.mem_append_left _ (List.mem_of_getElem? (l := tables_1_2) (i := 20) (by first | exact rfl | decide +kernel))))
set_option maxRecDepth 100000 in
theorem wt_583 : Cond.methodLink RL 85 yX3_setClock ∈ lw_tbl := List.mem_append_right _ (List.mem_append_right _ (List.mem_append_right _ (List.mem_of_getElem? (l := tables_1_3) (i := 68) (by first | exact rfl | decide +kernel))))
set_option maxRecDepth 100000 in
theorem wt_584 : Cond.instanceMethod yX3_setClock ∈ lw_tbl := List.mem_append_right _ (List.mem_append_right _ (List.mem_append_right _ (List.mem_of_getElem? (l := tables_1_3) (i := 69) (by first | exact rfl | decide +kernel))))
set_option maxRecDepth 100000 in
theorem wt_585 : Cond.selects RX3 yX3_setClock yX3_setClock ∈ lw_tbl := List.mem_append_right _ (List.mem_append_right _ (List.mem_append_right _ (List.mem_of_getElem? (l := tables_1_3) (i := 70) (by first | exact rfl | decide +kernel))))
set_option maxRecDepth 100000 in
theorem wt_586 : Cond.code yX3_setClock cX3_setClock 5 (some .int) ∈ lw_tbl := List.mem_append_right _ (List.mem_append_right _ (List.mem_append_right _ (List.mem_of_getElem? (l := tables_1_3) (i := 71) (by first | exact rfl | decide +kernel))))
set_option maxRecDepth 100000 in
theorem wt_587 : Cond.methodLink RX3 87 yX3_isNode ∈ lw_tbl := List.mem_append_right _ (List.mem_append_right _ (List.mem_append_right _ (List.mem_of_getElem? (l := tables_1_3) (i := 72) (by first | exact rfl | decide +kernel))))
set_option maxRecDepth 100000 in
theorem wt_589 : Cond.instanceMethod yX3_isNode ∈ lw_tbl := List.mem_append_right _ (List.mem_append_right _ (List.mem_append_right _ (List.mem_of_getElem? (l := tables_1_3) (i := 74) (by first | exact rfl | decide +kernel))))
theorem wt_26 : Cond.selects RX3 yX3_isNode yX3_isNode ∈ lw_tbl := List.mem_of_getElem? (i := 26) (by decide +kernel)
set_option maxRecDepth 100000 in
theorem wt_590 : Cond.code yX3_isNode cX3_isNode 2 (some .boolean) ∈ lw_tbl := List.mem_append_right _ (List.mem_append_right _ (List.mem_append_right _ (List.mem_of_getElem? (l := tables_1_3) (i := 75) (by first | exact rfl | decide +kernel))))
set_option maxRecDepth 100000 in
theorem wt_312 : Cond.methodLink RL 86 yL_setDrift ∈ lw_tbl := List.mem_append_right _ (List.mem_append_right _ (List.mem_append_left _ (List.mem_of_getElem? (l := tables_1_2) (i := 37) (by first | exact rfl | decide +kernel))))
set_option maxRecDepth 100000 in
theorem wt_313 : Cond.static yL_setDrift ∈ lw_tbl := List.mem_append_right _ (List.mem_append_right _ (List.mem_append_left _ (List.mem_of_getElem? (l := tables_1_2) (i := 38) (by first | exact rfl | decide +kernel))))
set_option maxRecDepth 100000 in
theorem wt_314 : Cond.codeWith yL_setDrift cL_setDrift 5 (some .int) [(0, 10, 13, 21), (0, 10, 17, 13)] ∈ lw_tbl := List.mem_append_right _ (List.mem_append_right _ (List.mem_append_left _ (List.mem_of_getElem? (l := tables_1_2) (i := 39) (by first | exact rfl | decide +kernel))))
set_option maxRecDepth 100000 in
theorem wt_315 : Cond.methodLink RL 23 yX2_setDrift ∈ lw_tbl := List.mem_append_right _ (List.mem_append_right _ (List.mem_append_left _ (List.mem_of_getElem? (l := tables_1_2) (i := 40) (by first | exact rfl | decide +kernel))))
set_option maxRecDepth 100000 in
theorem wt_316 : Cond.instanceMethod yX2_setDrift ∈ lw_tbl := List.mem_append_right _ (List.mem_append_right _ (List.mem_append_left _ (List.mem_of_getElem? (l := tables_1_2) (i := 41) (by first | exact rfl | decide +kernel))))
set_option maxRecDepth 100000 in
theorem wt_317 : Cond.selects RX2 yX2_setDrift yX2_setDrift ∈ lw_tbl := List.mem_append_right _ (List.mem_append_right _ (List.mem_append_left _ (List.mem_of_getElem? (l := tables_1_2) (i := 42) (by first | exact rfl | decide +kernel))))
theorem wsL_law0_r6_in : ∀ w ∈ wsL_law0_r6, w ∈ lw_tbl := List.forall_mem_cons.mpr ⟨wt_288, List.forall_mem_cons.mpr ⟨wt_290, List.forall_mem_cons.mpr ⟨wt_9, List.forall_mem_cons.mpr ⟨wt_291, List.forall_mem_cons.mpr ⟨wt_296, List.forall_mem_cons.mpr ⟨wt_45, List.forall_mem_cons.mpr ⟨wt_292, List.forall_mem_cons.mpr ⟨wt_294, List.forall_mem_cons.mpr ⟨wt_10, List.forall_mem_cons.mpr ⟨wt_295, List.forall_mem_cons.mpr ⟨wt_583, List.forall_mem_cons.mpr ⟨wt_584, List.forall_mem_cons.mpr ⟨wt_585, List.forall_mem_cons.mpr ⟨wt_586, List.forall_mem_cons.mpr ⟨wt_587, List.forall_mem_cons.mpr ⟨wt_589, List.forall_mem_cons.mpr ⟨wt_26, List.forall_mem_cons.mpr ⟨wt_590, List.forall_mem_cons.mpr ⟨wt_312, List.forall_mem_cons.mpr ⟨wt_313, List.forall_mem_cons.mpr ⟨wt_314, List.forall_mem_cons.mpr ⟨wt_315, List.forall_mem_cons.mpr ⟨wt_316, List.forall_mem_cons.mpr ⟨wt_317, fun _ h => absurd h List.not_mem_nil⟩⟩⟩⟩⟩⟩⟩⟩⟩⟩⟩⟩⟩⟩⟩⟩⟩⟩⟩⟩⟩⟩⟩⟩
set_option maxRecDepth 100000 in
theorem wt_318 : Cond.code yX2_setDrift cX2_setDrift 4 (some .int) ∈ lw_tbl := List.mem_append_right _ (List.mem_append_right _ (List.mem_append_left _ (List.mem_of_getElem? (l := tables_1_2) (i := 43) (by first | exact rfl | decide +kernel))))
set_option maxRecDepth 100000 in
theorem wt_591 : Cond.methodLink RL 89 yX3_setDrift ∈ lw_tbl := List.mem_append_right _ (List.mem_append_right _ (List.mem_append_right _ (List.mem_of_getElem? (l := tables_1_3) (i := 76) (by first | exact rfl | decide +kernel))))
set_option maxRecDepth 100000 in
theorem wt_592 : Cond.instanceMethod yX3_setDrift ∈ lw_tbl := List.mem_append_right _ (List.mem_append_right _ (List.mem_append_right _ (List.mem_of_getElem? (l := tables_1_3) (i := 77) (by first | exact rfl | decide +kernel))))
set_option maxRecDepth 100000 in
theorem wt_593 : Cond.selects RX3 yX3_setDrift yX3_setDrift ∈ lw_tbl := List.mem_append_right _ (List.mem_append_right _ (List.mem_append_right _ (List.mem_of_getElem? (l := tables_1_3) (i := 78) (by first | exact rfl | decide +kernel))))
set_option maxRecDepth 100000 in
theorem wt_594 : Cond.code yX3_setDrift cX3_setDrift 4 (some .int) ∈ lw_tbl := List.mem_append_right _ (List.mem_append_right _ (List.mem_append_right _ (List.mem_of_getElem? (l := tables_1_3) (i := 79) (by first | exact rfl | decide +kernel))))
set_option maxRecDepth 100000 in
theorem wt_319 : Cond.methodLink RL 90 yL_setOffset ∈ lw_tbl := List.mem_append_right _ (List.mem_append_right _ (List.mem_append_left _ (List.mem_of_getElem? (l := tables_1_2) (i := 44) (by first | exact rfl | decide +kernel))))
set_option maxRecDepth 100000 in
theorem wt_320 : Cond.static yL_setOffset ∈ lw_tbl := List.mem_append_right _ (List.mem_append_right _ (List.mem_append_left _ (List.mem_of_getElem? (l := tables_1_2) (i := 45) (by first | exact rfl | decide +kernel))))
set_option maxRecDepth 100000 in
theorem wt_321 : Cond.codeWith yL_setOffset cL_setOffset 5 (some .int) [(0, 9, 12, 21), (0, 9, 16, 13)] ∈ lw_tbl := List.mem_append_right _ (List.mem_append_right _ (List.mem_append_left _ (List.mem_of_getElem? (l := tables_1_2) (i := 46) (by first | exact rfl | decide +kernel))))
set_option maxRecDepth 100000 in
theorem wt_322 : Cond.methodLink RL 27 yX2_setOffset ∈ lw_tbl := List.mem_append_right _ (List.mem_append_right _ (List.mem_append_left _ (List.mem_of_getElem? (l := tables_1_2) (i := 47) (by first | exact rfl | decide +kernel))))
set_option maxRecDepth 100000 in
theorem wt_323 : Cond.instanceMethod yX2_setOffset ∈ lw_tbl := List.mem_append_right _ (List.mem_append_right _ (List.mem_append_left _ (List.mem_of_getElem? (l := tables_1_2) (i := 48) (by first | exact rfl | decide +kernel))))
set_option maxRecDepth 100000 in
theorem wt_324 : Cond.selects RX2 yX2_setOffset yX2_setOffset ∈ lw_tbl := List.mem_append_right _ (List.mem_append_right _ (List.mem_append_left _ (List.mem_of_getElem? (l := tables_1_2) (i := 49) (by first | exact rfl | decide +kernel))))
set_option maxRecDepth 100000 in
theorem wt_325 : Cond.code yX2_setOffset cX2_setOffset 5 (some .long) ∈ lw_tbl := List.mem_append_right _ (List.mem_append_right _ (List.mem_append_left _ (List.mem_of_getElem? (l := tables_1_2) (i := 50) (by first | exact rfl | decide +kernel))))
set_option maxRecDepth 100000 in
theorem wt_326 : Cond.constant RX2 74 (-1000000) ∈ lw_tbl := List.mem_append_right _ (List.mem_append_right _ (List.mem_append_left _ (List.mem_of_getElem? (l := tables_1_2) (i := 51) (by first | exact rfl | decide +kernel))))
set_option maxRecDepth 100000 in
theorem wt_327 : Cond.constant RX2 75 (1000000) ∈ lw_tbl := List.mem_append_right _ (List.mem_append_right _ (List.mem_append_left _ (List.mem_of_getElem? (l := tables_1_2) (i := 52) (by first | exact rfl | decide +kernel))))
set_option maxRecDepth 100000 in
theorem wt_595 : Cond.methodLink RL 92 yX3_setOffset ∈ lw_tbl := List.mem_append_right _ (List.mem_append_right _ (List.mem_append_right _ (List.mem_of_getElem? (l := tables_1_3) (i := 80) (by first | exact rfl | decide +kernel))))
set_option maxRecDepth 100000 in
theorem wt_596 : Cond.instanceMethod yX3_setOffset ∈ lw_tbl := List.mem_append_right _ (List.mem_append_right _ (List.mem_append_right _ (List.mem_of_getElem? (l := tables_1_3) (i := 81) (by first | exact rfl | decide +kernel))))
set_option maxRecDepth 100000 in
theorem wt_597 : Cond.selects RX3 yX3_setOffset yX3_setOffset ∈ lw_tbl := List.mem_append_right _ (List.mem_append_right _ (List.mem_append_right _ (List.mem_of_getElem? (l := tables_1_3) (i := 82) (by first | exact rfl | decide +kernel))))
set_option maxRecDepth 100000 in
theorem wt_598 : Cond.code yX3_setOffset cX3_setOffset 5 (some .long) ∈ lw_tbl := List.mem_append_right _ (List.mem_append_right _ (List.mem_append_right _ (List.mem_of_getElem? (l := tables_1_3) (i := 83) (by first | exact rfl | decide +kernel))))
set_option maxRecDepth 100000 in
theorem wt_599 : Cond.constant RX3 91 (-1000000) ∈ lw_tbl := List.mem_append_right _ (List.mem_append_right _ (List.mem_append_right _ (List.mem_of_getElem? (l := tables_1_3) (i := 84) (by first | exact rfl | decide +kernel))))
set_option maxRecDepth 100000 in
theorem wt_600 : Cond.constant RX3 92 (1000000) ∈ lw_tbl := List.mem_append_right _ (List.mem_append_right _ (List.mem_append_right _ (List.mem_of_getElem? (l := tables_1_3) (i := 85) (by first | exact rfl | decide +kernel))))
set_option maxRecDepth 100000 in
theorem wt_328 : Cond.methodLink RL 93 yL_link ∈ lw_tbl := List.mem_append_right _ (List.mem_append_right _ (List.mem_append_left _ (List.mem_of_getElem? (l := tables_1_2) (i := 53) (by first | exact rfl | decide +kernel))))
set_option maxRecDepth 100000 in
theorem wt_329 : Cond.static yL_link ∈ lw_tbl := List.mem_append_right _ (List.mem_append_right _ (List.mem_append_left _ (List.mem_of_getElem? (l := tables_1_2) (i := 54) (by first | exact rfl | decide +kernel))))
set_option maxRecDepth 100000 in
theorem wt_330 : Cond.codeWith yL_link cL_link 7 (some .int) [(0, 14, 17, 21), (0, 14, 21, 13), (0, 14, 25, 15)] ∈ lw_tbl := List.mem_append_right _ (List.mem_append_right _ (List.mem_append_left _ (List.mem_of_getElem? (l := tables_1_2) (i := 55) (by first | exact rfl | decide +kernel))))
set_option maxRecDepth 100000 in
theorem wt_331 : Cond.methodLink RL 31 yX2_link ∈ lw_tbl := List.mem_append_right _ (List.mem_append_right _ (List.mem_append_left _ (List.mem_of_getElem? (l := tables_1_2) (i := 56) (by first | exact rfl | decide +kernel))))
theorem wsL_law0_r7_in : ∀ w ∈ wsL_law0_r7, w ∈ lw_tbl := List.forall_mem_cons.mpr ⟨wt_318, List.forall_mem_cons.mpr ⟨wt_591, List.forall_mem_cons.mpr ⟨wt_592, List.forall_mem_cons.mpr ⟨wt_593, List.forall_mem_cons.mpr ⟨wt_594, List.forall_mem_cons.mpr ⟨wt_319, List.forall_mem_cons.mpr ⟨wt_320, List.forall_mem_cons.mpr ⟨wt_321, List.forall_mem_cons.mpr ⟨wt_322, List.forall_mem_cons.mpr ⟨wt_323, List.forall_mem_cons.mpr ⟨wt_324, List.forall_mem_cons.mpr ⟨wt_325, List.forall_mem_cons.mpr ⟨wt_326, List.forall_mem_cons.mpr ⟨wt_327, List.forall_mem_cons.mpr ⟨wt_595, List.forall_mem_cons.mpr ⟨wt_596, List.forall_mem_cons.mpr ⟨wt_597, List.forall_mem_cons.mpr ⟨wt_598, List.forall_mem_cons.mpr ⟨wt_599, List.forall_mem_cons.mpr ⟨wt_600, List.forall_mem_cons.mpr ⟨wt_328, List.forall_mem_cons.mpr ⟨wt_329, List.forall_mem_cons.mpr ⟨wt_330, List.forall_mem_cons.mpr ⟨wt_331, fun _ h => absurd h List.not_mem_nil⟩⟩⟩⟩⟩⟩⟩⟩⟩⟩⟩⟩⟩⟩⟩⟩⟩⟩⟩⟩⟩⟩⟩⟩
set_option maxRecDepth 100000 in
theorem wt_332 : Cond.instanceMethod yX2_link ∈ lw_tbl := List.mem_append_right _ (List.mem_append_right _ (List.mem_append_left _ (List.mem_of_getElem? (l := tables_1_2) (i := 57) (by first | exact rfl | decide +kernel))))
set_option maxRecDepth 100000 in
theorem wt_333 : Cond.selects RX2 yX2_link yX2_link ∈ lw_tbl := List.mem_append_right _ (List.mem_append_right _ (List.mem_append_left _ (List.mem_of_getElem? (l := tables_1_2) (i := 58) (by first | exact rfl | decide +kernel))))
set_option maxRecDepth 100000 in
theorem wt_334 : Cond.code yX2_link cX2_link 5 (some .int) ∈ lw_tbl := List.mem_append_right _ (List.mem_append_right _ (List.mem_append_left _ (List.mem_of_getElem? (l := tables_1_2) (i := 59) (by first | exact rfl | decide +kernel))))
set_option maxRecDepth 100000 in
theorem wt_336 : Cond.constant RX2 81 (100000) ∈ lw_tbl := List.mem_append_right _ (List.mem_append_right _ (List.mem_append_left _ (List.mem_of_getElem? (l := tables_1_2) (i := 61) (by first | exact rfl | decide +kernel))))
set_option maxRecDepth 100000 in
theorem wt_163 : Cond.instanceMethod yX1_areLinked ∈ lw_tbl := List.mem_append_right _ (List.mem_append_left _ (List.mem_of_getElem? (l := tables_1_1) (i := 128) (by first | exact rfl | decide +kernel)))
theorem wt_3 : Cond.selects RX1 yX1_areLinked yX1_areLinked ∈ lw_tbl := List.mem_of_getElem? (i := 3) (by decide +kernel)
set_option maxRecDepth 100000 in
theorem wt_164 : Cond.code yX1_areLinked cX1_areLinked 3 (some .boolean) ∈ lw_tbl := List.mem_append_right _ (List.mem_append_left _ (List.mem_of_getElem? (l := tables_1_1) (i := 129) (by first | exact rfl | decide +kernel)))
set_option maxRecDepth 100000 in
theorem wt_165 : Cond.methodLink RX1 26 yX1_place ∈ lw_tbl := List.mem_append_right _ (List.mem_append_left _ (List.mem_of_getElem? (l := tables_1_1) (i := 130) (by first | exact rfl | decide +kernel)))
set_option maxRecDepth 100000 in
theorem wt_166 : Cond.static yX1_place ∈ lw_tbl := List.mem_append_right _ (List.mem_append_left _ (List.mem_of_getElem? (l := tables_1_1) (i := 131) (by first | exact rfl | decide +kernel)))
set_option maxRecDepth 100000 in
theorem wt_167 : Cond.code yX1_place cX1_place 2 (some .int) ∈ lw_tbl := List.mem_append_right _ (List.mem_append_left _ (List.mem_of_getElem? (l := tables_1_1) (i := 132) (by first | exact rfl | decide +kernel)))
set_option maxRecDepth 100000 in
theorem wt_340 : Cond.instanceMethod yX1_lay ∈ lw_tbl := List.mem_append_right _ (List.mem_append_right _ (List.mem_append_left _ (List.mem_of_getElem? (l := tables_1_2) (i := 65) (by first | exact rfl | decide +kernel))))
theorem wt_11 : Cond.selects RX1 yX1_lay yX1_lay ∈ lw_tbl := List.mem_of_getElem? (i := 11) (by decide +kernel)
set_option maxRecDepth 100000 in
theorem wt_341 : Cond.code yX1_lay cX1_lay 5 none ∈ lw_tbl := List.mem_append_right _ (List.mem_append_right _ (List.mem_append_left _ (List.mem_of_getElem? (l := tables_1_2) (i := 66) (by first | exact rfl | decide +kernel))))
set_option maxRecDepth 100000 in
theorem wt_342 : Cond.methodLink RX1 30 yX1_noteDifference ∈ lw_tbl := List.mem_append_right _ (List.mem_append_right _ (List.mem_append_left _ (List.mem_of_getElem? (l := tables_1_2) (i := 67) (by first | exact rfl | decide +kernel))))
set_option maxRecDepth 100000 in
theorem wt_344 : Cond.instanceMethod yX1_noteDifference ∈ lw_tbl := List.mem_append_right _ (List.mem_append_right _ (List.mem_append_left _ (List.mem_of_getElem? (l := tables_1_2) (i := 69) (by first | exact rfl | decide +kernel))))
theorem wt_12 : Cond.selects RX1 yX1_noteDifference yX1_noteDifference ∈ lw_tbl := List.mem_of_getElem? (i := 12) (by decide +kernel)
set_option maxRecDepth 100000 in
theorem wt_345 : Cond.code yX1_noteDifference cX1_noteDifference 5 (some .int) ∈ lw_tbl := List.mem_append_right _ (List.mem_append_right _ (List.mem_append_left _ (List.mem_of_getElem? (l := tables_1_2) (i := 70) (by first | exact rfl | decide +kernel))))
set_option maxRecDepth 100000 in
theorem wt_601 : Cond.methodLink RL 95 yX3_link ∈ lw_tbl := List.mem_append_right _ (List.mem_append_right _ (List.mem_append_right _ (List.mem_of_getElem? (l := tables_1_3) (i := 86) (by first | exact rfl | decide +kernel))))
set_option maxRecDepth 100000 in
theorem wt_602 : Cond.instanceMethod yX3_link ∈ lw_tbl := List.mem_append_right _ (List.mem_append_right _ (List.mem_append_right _ (List.mem_of_getElem? (l := tables_1_3) (i := 87) (by first | exact rfl | decide +kernel))))
set_option maxRecDepth 100000 in
theorem wt_603 : Cond.selects RX3 yX3_link yX3_link ∈ lw_tbl := List.mem_append_right _ (List.mem_append_right _ (List.mem_append_right _ (List.mem_of_getElem? (l := tables_1_3) (i := 88) (by first | exact rfl | decide +kernel))))
set_option maxRecDepth 100000 in
theorem wt_604 : Cond.code yX3_link cX3_link 5 (some .int) ∈ lw_tbl := List.mem_append_right _ (List.mem_append_right _ (List.mem_append_right _ (List.mem_of_getElem? (l := tables_1_3) (i := 89) (by first | exact rfl | decide +kernel))))
set_option maxRecDepth 100000 in
theorem wt_605 : Cond.constant RX3 93 (100000) ∈ lw_tbl := List.mem_append_right _ (List.mem_append_right _ (List.mem_append_right _ (List.mem_of_getElem? (l := tables_1_3) (i := 90) (by first | exact rfl | decide +kernel))))
set_option maxRecDepth 100000 in
theorem wt_496 : Cond.fieldLink RX3 94 "TimeNetModel" "linkMany" "I" ∈ lw_tbl := List.mem_append_right _ (List.mem_append_right _ (List.mem_append_left _ (List.mem_of_getElem? (l := tables_1_2) (i := 221) (by first | exact rfl | decide +kernel))))
set_option maxRecDepth 100000 in
theorem wt_346 : Cond.methodLink RL 96 yL_cut ∈ lw_tbl := List.mem_append_right _ (List.mem_append_right _ (List.mem_append_left _ (List.mem_of_getElem? (l := tables_1_2) (i := 71) (by first | exact rfl | decide +kernel))))
theorem wsL_law0_r8_in : ∀ w ∈ wsL_law0_r8, w ∈ lw_tbl := List.forall_mem_cons.mpr ⟨wt_332, List.forall_mem_cons.mpr ⟨wt_333, List.forall_mem_cons.mpr ⟨wt_334, List.forall_mem_cons.mpr ⟨wt_336, List.forall_mem_cons.mpr ⟨wt_163, List.forall_mem_cons.mpr ⟨wt_3, List.forall_mem_cons.mpr ⟨wt_164, List.forall_mem_cons.mpr ⟨wt_165, List.forall_mem_cons.mpr ⟨wt_166, List.forall_mem_cons.mpr ⟨wt_167, List.forall_mem_cons.mpr ⟨wt_340, List.forall_mem_cons.mpr ⟨wt_11, List.forall_mem_cons.mpr ⟨wt_341, List.forall_mem_cons.mpr ⟨wt_342, List.forall_mem_cons.mpr ⟨wt_344, List.forall_mem_cons.mpr ⟨wt_12, List.forall_mem_cons.mpr ⟨wt_345, List.forall_mem_cons.mpr ⟨wt_601, List.forall_mem_cons.mpr ⟨wt_602, List.forall_mem_cons.mpr ⟨wt_603, List.forall_mem_cons.mpr ⟨wt_604, List.forall_mem_cons.mpr ⟨wt_605, List.forall_mem_cons.mpr ⟨wt_496, List.forall_mem_cons.mpr ⟨wt_346, fun _ h => absurd h List.not_mem_nil⟩⟩⟩⟩⟩⟩⟩⟩⟩⟩⟩⟩⟩⟩⟩⟩⟩⟩⟩⟩⟩⟩⟩⟩
set_option maxRecDepth 100000 in
theorem wt_347 : Cond.static yL_cut ∈ lw_tbl := List.mem_append_right _ (List.mem_append_right _ (List.mem_append_left _ (List.mem_of_getElem? (l := tables_1_2) (i := 72) (by first | exact rfl | decide +kernel))))
set_option maxRecDepth 100000 in
theorem wt_348 : Cond.codeWith yL_cut cL_cut 5 (some .int) [(0, 10, 13, 21), (0, 10, 17, 15)] ∈ lw_tbl := List.mem_append_right _ (List.mem_append_right _ (List.mem_append_left _ (List.mem_of_getElem? (l := tables_1_2) (i := 73) (by first | exact rfl | decide +kernel))))
set_option maxRecDepth 100000 in
theorem wt_349 : Cond.methodLink RL 34 yX2_cut ∈ lw_tbl := List.mem_append_right _ (List.mem_append_right _ (List.mem_append_left _ (List.mem_of_getElem? (l := tables_1_2) (i := 74) (by first | exact rfl | decide +kernel))))
set_option maxRecDepth 100000 in
theorem wt_350 : Cond.instanceMethod yX2_cut ∈ lw_tbl := List.mem_append_right _ (List.mem_append_right _ (List.mem_append_left _ (List.mem_of_getElem? (l := tables_1_2) (i := 75) (by first | exact rfl | decide +kernel))))
set_option maxRecDepth 100000 in
theorem wt_351 : Cond.selects RX2 yX2_cut yX2_cut ∈ lw_tbl := List.mem_append_right _ (List.mem_append_right _ (List.mem_append_left _ (List.mem_of_getElem? (l := tables_1_2) (i := 76) (by first | exact rfl | decide +kernel))))
set_option maxRecDepth 100000 in
theorem wt_352 : Cond.code yX2_cut cX2_cut 3 (some .int) ∈ lw_tbl := List.mem_append_right _ (List.mem_append_right _ (List.mem_append_left _ (List.mem_of_getElem? (l := tables_1_2) (i := 77) (by first | exact rfl | decide +kernel))))
set_option maxRecDepth 100000 in
theorem wt_353 : Cond.methodLink RX2 95 yX2_requireLinked ∈ lw_tbl := List.mem_append_right _ (List.mem_append_right _ (List.mem_append_left _ (List.mem_of_getElem? (l := tables_1_2) (i := 78) (by first | exact rfl | decide +kernel))))
set_option maxRecDepth 100000 in
theorem wt_355 : Cond.instanceMethod yX2_requireLinked ∈ lw_tbl := List.mem_append_right _ (List.mem_append_right _ (List.mem_append_left _ (List.mem_of_getElem? (l := tables_1_2) (i := 80) (by first | exact rfl | decide +kernel))))
theorem wt_13 : Cond.selects RX2 yX2_requireLinked yX2_requireLinked ∈ lw_tbl := List.mem_of_getElem? (i := 13) (by decide +kernel)
set_option maxRecDepth 100000 in
theorem wt_356 : Cond.code yX2_requireLinked cX2_requireLinked 3 none ∈ lw_tbl := List.mem_append_right _ (List.mem_append_right _ (List.mem_append_left _ (List.mem_of_getElem? (l := tables_1_2) (i := 81) (by first | exact rfl | decide +kernel))))
set_option maxRecDepth 100000 in
theorem wt_360 : Cond.instanceMethod yX1_remove ∈ lw_tbl := List.mem_append_right _ (List.mem_append_right _ (List.mem_append_left _ (List.mem_of_getElem? (l := tables_1_2) (i := 85) (by first | exact rfl | decide +kernel))))
theorem wt_14 : Cond.selects RX1 yX1_remove yX1_remove ∈ lw_tbl := List.mem_of_getElem? (i := 14) (by decide +kernel)
set_option maxRecDepth 100000 in
theorem wt_361 : Cond.code yX1_remove cX1_remove 3 none ∈ lw_tbl := List.mem_append_right _ (List.mem_append_right _ (List.mem_append_left _ (List.mem_of_getElem? (l := tables_1_2) (i := 86) (by first | exact rfl | decide +kernel))))
set_option maxRecDepth 100000 in
theorem wt_362 : Cond.methodLink RX2 102 yX2_forgetParent ∈ lw_tbl := List.mem_append_right _ (List.mem_append_right _ (List.mem_append_left _ (List.mem_of_getElem? (l := tables_1_2) (i := 87) (by first | exact rfl | decide +kernel))))
set_option maxRecDepth 100000 in
theorem wt_364 : Cond.instanceMethod yX2_forgetParent ∈ lw_tbl := List.mem_append_right _ (List.mem_append_right _ (List.mem_append_left _ (List.mem_of_getElem? (l := tables_1_2) (i := 89) (by first | exact rfl | decide +kernel))))
theorem wt_15 : Cond.selects RX2 yX2_forgetParent yX2_forgetParent ∈ lw_tbl := List.mem_of_getElem? (i := 15) (by decide +kernel)
set_option maxRecDepth 100000 in
theorem wt_365 : Cond.code yX2_forgetParent cX2_forgetParent 3 none ∈ lw_tbl := List.mem_append_right _ (List.mem_append_right _ (List.mem_append_left _ (List.mem_of_getElem? (l := tables_1_2) (i := 90) (by first | exact rfl | decide +kernel))))
set_option maxRecDepth 100000 in
theorem wt_606 : Cond.methodLink RL 98 yX3_cut ∈ lw_tbl := List.mem_append_right _ (List.mem_append_right _ (List.mem_append_right _ (List.mem_of_getElem? (l := tables_1_3) (i := 91) (by first | exact rfl | decide +kernel))))
set_option maxRecDepth 100000 in
theorem wt_607 : Cond.instanceMethod yX3_cut ∈ lw_tbl := List.mem_append_right _ (List.mem_append_right _ (List.mem_append_right _ (List.mem_of_getElem? (l := tables_1_3) (i := 92) (by first | exact rfl | decide +kernel))))
set_option maxRecDepth 100000 in
theorem wt_608 : Cond.selects RX3 yX3_cut yX3_cut ∈ lw_tbl := List.mem_append_right _ (List.mem_append_right _ (List.mem_append_right _ (List.mem_of_getElem? (l := tables_1_3) (i := 93) (by first | exact rfl | decide +kernel))))
set_option maxRecDepth 100000 in
theorem wt_609 : Cond.code yX3_cut cX3_cut 3 (some .int) ∈ lw_tbl := List.mem_append_right _ (List.mem_append_right _ (List.mem_append_right _ (List.mem_of_getElem? (l := tables_1_3) (i := 94) (by first | exact rfl | decide +kernel))))
set_option maxRecDepth 100000 in
theorem wt_366 : Cond.methodLink RL 99 yL_tell ∈ lw_tbl := List.mem_append_right _ (List.mem_append_right _ (List.mem_append_left _ (List.mem_of_getElem? (l := tables_1_2) (i := 91) (by first | exact rfl | decide +kernel))))
set_option maxRecDepth 100000 in
theorem wt_367 : Cond.static yL_tell ∈ lw_tbl := List.mem_append_right _ (List.mem_append_right _ (List.mem_append_left _ (List.mem_of_getElem? (l := tables_1_2) (i := 92) (by first | exact rfl | decide +kernel))))
set_option maxRecDepth 100000 in
theorem wt_368 : Cond.codeWith yL_tell cL_tell 6 (some .int) [(0, 12, 15, 21), (0, 12, 19, 13), (0, 12, 23, 15)] ∈ lw_tbl := List.mem_append_right _ (List.mem_append_right _ (List.mem_append_left _ (List.mem_of_getElem? (l := tables_1_2) (i := 93) (by first | exact rfl | decide +kernel))))
theorem wsL_law0_r9_in : ∀ w ∈ wsL_law0_r9, w ∈ lw_tbl := List.forall_mem_cons.mpr ⟨wt_347, List.forall_mem_cons.mpr ⟨wt_348, List.forall_mem_cons.mpr ⟨wt_349, List.forall_mem_cons.mpr ⟨wt_350, List.forall_mem_cons.mpr ⟨wt_351, List.forall_mem_cons.mpr ⟨wt_352, List.forall_mem_cons.mpr ⟨wt_353, List.forall_mem_cons.mpr ⟨wt_355, List.forall_mem_cons.mpr ⟨wt_13, List.forall_mem_cons.mpr ⟨wt_356, List.forall_mem_cons.mpr ⟨wt_360, List.forall_mem_cons.mpr ⟨wt_14, List.forall_mem_cons.mpr ⟨wt_361, List.forall_mem_cons.mpr ⟨wt_362, List.forall_mem_cons.mpr ⟨wt_364, List.forall_mem_cons.mpr ⟨wt_15, List.forall_mem_cons.mpr ⟨wt_365, List.forall_mem_cons.mpr ⟨wt_606, List.forall_mem_cons.mpr ⟨wt_607, List.forall_mem_cons.mpr ⟨wt_608, List.forall_mem_cons.mpr ⟨wt_609, List.forall_mem_cons.mpr ⟨wt_366, List.forall_mem_cons.mpr ⟨wt_367, List.forall_mem_cons.mpr ⟨wt_368, fun _ h => absurd h List.not_mem_nil⟩⟩⟩⟩⟩⟩⟩⟩⟩⟩⟩⟩⟩⟩⟩⟩⟩⟩⟩⟩⟩⟩⟩⟩
set_option maxRecDepth 100000 in
theorem wt_369 : Cond.methodLink RL 37 yX2_tell ∈ lw_tbl := List.mem_append_right _ (List.mem_append_right _ (List.mem_append_left _ (List.mem_of_getElem? (l := tables_1_2) (i := 94) (by first | exact rfl | decide +kernel))))
set_option maxRecDepth 100000 in
theorem wt_370 : Cond.instanceMethod yX2_tell ∈ lw_tbl := List.mem_append_right _ (List.mem_append_right _ (List.mem_append_left _ (List.mem_of_getElem? (l := tables_1_2) (i := 95) (by first | exact rfl | decide +kernel))))
set_option maxRecDepth 100000 in
theorem wt_371 : Cond.selects RX2 yX2_tell yX2_tell ∈ lw_tbl := List.mem_append_right _ (List.mem_append_right _ (List.mem_append_left _ (List.mem_of_getElem? (l := tables_1_2) (i := 96) (by first | exact rfl | decide +kernel))))
set_option maxRecDepth 100000 in
theorem wt_372 : Cond.code yX2_tell cX2_tell 4 (some .int) ∈ lw_tbl := List.mem_append_right _ (List.mem_append_right _ (List.mem_append_left _ (List.mem_of_getElem? (l := tables_1_2) (i := 97) (by first | exact rfl | decide +kernel))))
set_option maxRecDepth 100000 in
theorem wt_373 : Cond.constant RX2 105 (-100000) ∈ lw_tbl := List.mem_append_right _ (List.mem_append_right _ (List.mem_append_left _ (List.mem_of_getElem? (l := tables_1_2) (i := 98) (by first | exact rfl | decide +kernel))))
set_option maxRecDepth 100000 in
theorem wt_610 : Cond.methodLink RL 101 yX3_tell ∈ lw_tbl := List.mem_append_right _ (List.mem_append_right _ (List.mem_append_right _ (List.mem_of_getElem? (l := tables_1_3) (i := 95) (by first | exact rfl | decide +kernel))))
set_option maxRecDepth 100000 in
theorem wt_611 : Cond.instanceMethod yX3_tell ∈ lw_tbl := List.mem_append_right _ (List.mem_append_right _ (List.mem_append_right _ (List.mem_of_getElem? (l := tables_1_3) (i := 96) (by first | exact rfl | decide +kernel))))
set_option maxRecDepth 100000 in
theorem wt_612 : Cond.selects RX3 yX3_tell yX3_tell ∈ lw_tbl := List.mem_append_right _ (List.mem_append_right _ (List.mem_append_right _ (List.mem_of_getElem? (l := tables_1_3) (i := 97) (by first | exact rfl | decide +kernel))))
set_option maxRecDepth 100000 in
theorem wt_613 : Cond.code yX3_tell cX3_tell 5 (some .int) ∈ lw_tbl := List.mem_append_right _ (List.mem_append_right _ (List.mem_append_right _ (List.mem_of_getElem? (l := tables_1_3) (i := 98) (by first | exact rfl | decide +kernel))))
set_option maxRecDepth 100000 in
theorem wt_614 : Cond.constant RX3 97 (-100000) ∈ lw_tbl := List.mem_append_right _ (List.mem_append_right _ (List.mem_append_right _ (List.mem_of_getElem? (l := tables_1_3) (i := 99) (by first | exact rfl | decide +kernel))))
set_option maxRecDepth 100000 in
theorem wt_375 : Cond.methodLink RL 102 yL_tick ∈ lw_tbl := List.mem_append_right _ (List.mem_append_right _ (List.mem_append_left _ (List.mem_of_getElem? (l := tables_1_2) (i := 100) (by first | exact rfl | decide +kernel))))
set_option maxRecDepth 100000 in
theorem wt_376 : Cond.static yL_tick ∈ lw_tbl := List.mem_append_right _ (List.mem_append_right _ (List.mem_append_left _ (List.mem_of_getElem? (l := tables_1_2) (i := 101) (by first | exact rfl | decide +kernel))))
set_option maxRecDepth 100000 in
theorem wt_377 : Cond.codeWith yL_tick cL_tick 4 (some .int) [(0, 9, 12, 13)] ∈ lw_tbl := List.mem_append_right _ (List.mem_append_right _ (List.mem_append_left _ (List.mem_of_getElem? (l := tables_1_2) (i := 102) (by first | exact rfl | decide +kernel))))
set_option maxRecDepth 100000 in
theorem wt_378 : Cond.methodLink RL 40 yX2_tick ∈ lw_tbl := List.mem_append_right _ (List.mem_append_right _ (List.mem_append_left _ (List.mem_of_getElem? (l := tables_1_2) (i := 103) (by first | exact rfl | decide +kernel))))
set_option maxRecDepth 100000 in
theorem wt_379 : Cond.instanceMethod yX2_tick ∈ lw_tbl := List.mem_append_right _ (List.mem_append_right _ (List.mem_append_left _ (List.mem_of_getElem? (l := tables_1_2) (i := 104) (by first | exact rfl | decide +kernel))))
set_option maxRecDepth 100000 in
theorem wt_380 : Cond.selects RX2 yX2_tick yX2_tick ∈ lw_tbl := List.mem_append_right _ (List.mem_append_right _ (List.mem_append_left _ (List.mem_of_getElem? (l := tables_1_2) (i := 105) (by first | exact rfl | decide +kernel))))
set_option maxRecDepth 100000 in
theorem wt_381 : Cond.code yX2_tick cX2_tick 3 (some .int) ∈ lw_tbl := List.mem_append_right _ (List.mem_append_right _ (List.mem_append_left _ (List.mem_of_getElem? (l := tables_1_2) (i := 106) (by first | exact rfl | decide +kernel))))
set_option maxRecDepth 100000 in
theorem wt_382 : Cond.methodLink RX2 110 yX2_passOneTick ∈ lw_tbl := List.mem_append_right _ (List.mem_append_right _ (List.mem_append_left _ (List.mem_of_getElem? (l := tables_1_2) (i := 107) (by first | exact rfl | decide +kernel))))
set_option maxRecDepth 100000 in
theorem wt_384 : Cond.instanceMethod yX2_passOneTick ∈ lw_tbl := List.mem_append_right _ (List.mem_append_right _ (List.mem_append_left _ (List.mem_of_getElem? (l := tables_1_2) (i := 109) (by first | exact rfl | decide +kernel))))
theorem wt_16 : Cond.selects RX2 yX2_passOneTick yX2_passOneTick ∈ lw_tbl := List.mem_of_getElem? (i := 16) (by decide +kernel)
set_option maxRecDepth 100000 in
theorem wt_385 : Cond.code yX2_passOneTick cX2_passOneTick 3 none ∈ lw_tbl := List.mem_append_right _ (List.mem_append_right _ (List.mem_append_left _ (List.mem_of_getElem? (l := tables_1_2) (i := 110) (by first | exact rfl | decide +kernel))))
set_option maxRecDepth 100000 in
theorem wt_386 : Cond.methodLink RX2 180 yX2_announce ∈ lw_tbl := List.mem_append_right _ (List.mem_append_right _ (List.mem_append_left _ (List.mem_of_getElem? (l := tables_1_2) (i := 111) (by first | exact rfl | decide +kernel))))
set_option maxRecDepth 100000 in
theorem wt_388 : Cond.instanceMethod yX2_announce ∈ lw_tbl := List.mem_append_right _ (List.mem_append_right _ (List.mem_append_left _ (List.mem_of_getElem? (l := tables_1_2) (i := 113) (by first | exact rfl | decide +kernel))))
theorem wt_17 : Cond.selects RX2 yX2_announce yX2_announce ∈ lw_tbl := List.mem_of_getElem? (i := 17) (by decide +kernel)
theorem wsL_law0_r10_in : ∀ w ∈ wsL_law0_r10, w ∈ lw_tbl := List.forall_mem_cons.mpr ⟨wt_369, List.forall_mem_cons.mpr ⟨wt_370, List.forall_mem_cons.mpr ⟨wt_371, List.forall_mem_cons.mpr ⟨wt_372, List.forall_mem_cons.mpr ⟨wt_373, List.forall_mem_cons.mpr ⟨wt_610, List.forall_mem_cons.mpr ⟨wt_611, List.forall_mem_cons.mpr ⟨wt_612, List.forall_mem_cons.mpr ⟨wt_613, List.forall_mem_cons.mpr ⟨wt_614, List.forall_mem_cons.mpr ⟨wt_375, List.forall_mem_cons.mpr ⟨wt_376, List.forall_mem_cons.mpr ⟨wt_377, List.forall_mem_cons.mpr ⟨wt_378, List.forall_mem_cons.mpr ⟨wt_379, List.forall_mem_cons.mpr ⟨wt_380, List.forall_mem_cons.mpr ⟨wt_381, List.forall_mem_cons.mpr ⟨wt_382, List.forall_mem_cons.mpr ⟨wt_384, List.forall_mem_cons.mpr ⟨wt_16, List.forall_mem_cons.mpr ⟨wt_385, List.forall_mem_cons.mpr ⟨wt_386, List.forall_mem_cons.mpr ⟨wt_388, List.forall_mem_cons.mpr ⟨wt_17, fun _ h => absurd h List.not_mem_nil⟩⟩⟩⟩⟩⟩⟩⟩⟩⟩⟩⟩⟩⟩⟩⟩⟩⟩⟩⟩⟩⟩⟩⟩
set_option maxRecDepth 100000 in
theorem wt_389 : Cond.code yX2_announce cX2_announce 2 none ∈ lw_tbl := List.mem_append_right _ (List.mem_append_right _ (List.mem_append_left _ (List.mem_of_getElem? (l := tables_1_2) (i := 114) (by first | exact rfl | decide +kernel))))
set_option maxRecDepth 100000 in
theorem wt_392 : Cond.instanceMethod yX0_copyFrom ∈ lw_tbl := List.mem_append_right _ (List.mem_append_right _ (List.mem_append_left _ (List.mem_of_getElem? (l := tables_1_2) (i := 117) (by first | exact rfl | decide +kernel))))
theorem wt_18 : Cond.selects RX0 yX0_copyFrom yX0_copyFrom ∈ lw_tbl := List.mem_of_getElem? (i := 18) (by decide +kernel)
set_option maxRecDepth 100000 in
theorem wt_393 : Cond.code yX0_copyFrom cX0_copyFrom 3 none ∈ lw_tbl := List.mem_append_right _ (List.mem_append_right _ (List.mem_append_left _ (List.mem_of_getElem? (l := tables_1_2) (i := 118) (by first | exact rfl | decide +kernel))))
set_option maxRecDepth 100000 in
theorem wt_394 : Cond.methodLink RX2 167 yX2_listen ∈ lw_tbl := List.mem_append_right _ (List.mem_append_right _ (List.mem_append_left _ (List.mem_of_getElem? (l := tables_1_2) (i := 119) (by first | exact rfl | decide +kernel))))
set_option maxRecDepth 100000 in
theorem wt_396 : Cond.instanceMethod yX2_listen ∈ lw_tbl := List.mem_append_right _ (List.mem_append_right _ (List.mem_append_left _ (List.mem_of_getElem? (l := tables_1_2) (i := 121) (by first | exact rfl | decide +kernel))))
theorem wt_19 : Cond.selects RX2 yX2_listen yX2_listen ∈ lw_tbl := List.mem_of_getElem? (i := 19) (by decide +kernel)
set_option maxRecDepth 100000 in
theorem wt_397 : Cond.code yX2_listen cX2_listen 3 none ∈ lw_tbl := List.mem_append_right _ (List.mem_append_right _ (List.mem_append_left _ (List.mem_of_getElem? (l := tables_1_2) (i := 122) (by first | exact rfl | decide +kernel))))
set_option maxRecDepth 100000 in
theorem wt_157 : Cond.methodLink RX2 122 yX2_areNeighbours ∈ lw_tbl := List.mem_append_right _ (List.mem_append_left _ (List.mem_of_getElem? (l := tables_1_1) (i := 122) (by first | exact rfl | decide +kernel)))
set_option maxRecDepth 100000 in
theorem wt_159 : Cond.instanceMethod yX2_areNeighbours ∈ lw_tbl := List.mem_append_right _ (List.mem_append_left _ (List.mem_of_getElem? (l := tables_1_1) (i := 124) (by first | exact rfl | decide +kernel)))
theorem wt_2 : Cond.selects RX2 yX2_areNeighbours yX2_areNeighbours ∈ lw_tbl := List.mem_of_getElem? (i := 2) (by decide +kernel)
set_option maxRecDepth 100000 in
theorem wt_160 : Cond.code yX2_areNeighbours cX2_areNeighbours 3 (some .boolean) ∈ lw_tbl := List.mem_append_right _ (List.mem_append_left _ (List.mem_of_getElem? (l := tables_1_1) (i := 125) (by first | exact rfl | decide +kernel)))
set_option maxRecDepth 100000 in
theorem wt_400 : Cond.instanceMethod yX0_reaches ∈ lw_tbl := List.mem_append_right _ (List.mem_append_right _ (List.mem_append_left _ (List.mem_of_getElem? (l := tables_1_2) (i := 125) (by first | exact rfl | decide +kernel))))
theorem wt_20 : Cond.selects RX0 yX0_reaches yX0_reaches ∈ lw_tbl := List.mem_of_getElem? (i := 20) (by decide +kernel)
set_option maxRecDepth 100000 in
theorem wt_401 : Cond.code yX0_reaches cX0_reaches 3 (some .boolean) ∈ lw_tbl := List.mem_append_right _ (List.mem_append_right _ (List.mem_append_left _ (List.mem_of_getElem? (l := tables_1_2) (i := 126) (by first | exact rfl | decide +kernel))))
set_option maxRecDepth 100000 in
theorem wt_404 : Cond.instanceMethod yX0_takeIfBetter ∈ lw_tbl := List.mem_append_right _ (List.mem_append_right _ (List.mem_append_left _ (List.mem_of_getElem? (l := tables_1_2) (i := 129) (by first | exact rfl | decide +kernel))))
theorem wt_21 : Cond.selects RX0 yX0_takeIfBetter yX0_takeIfBetter ∈ lw_tbl := List.mem_of_getElem? (i := 21) (by decide +kernel)
set_option maxRecDepth 100000 in
theorem wt_405 : Cond.code yX0_takeIfBetter cX0_takeIfBetter 6 none ∈ lw_tbl := List.mem_append_right _ (List.mem_append_right _ (List.mem_append_left _ (List.mem_of_getElem? (l := tables_1_2) (i := 130) (by first | exact rfl | decide +kernel))))
set_option maxRecDepth 100000 in
theorem wt_406 : Cond.methodLink RX2 183 yX2_steer ∈ lw_tbl := List.mem_append_right _ (List.mem_append_right _ (List.mem_append_left _ (List.mem_of_getElem? (l := tables_1_2) (i := 131) (by first | exact rfl | decide +kernel))))
set_option maxRecDepth 100000 in
theorem wt_408 : Cond.instanceMethod yX2_steer ∈ lw_tbl := List.mem_append_right _ (List.mem_append_right _ (List.mem_append_left _ (List.mem_of_getElem? (l := tables_1_2) (i := 133) (by first | exact rfl | decide +kernel))))
theorem wt_22 : Cond.selects RX2 yX2_steer yX2_steer ∈ lw_tbl := List.mem_of_getElem? (i := 22) (by decide +kernel)
set_option maxRecDepth 100000 in
theorem wt_409 : Cond.code yX2_steer cX2_steer 5 none ∈ lw_tbl := List.mem_append_right _ (List.mem_append_right _ (List.mem_append_left _ (List.mem_of_getElem? (l := tables_1_2) (i := 134) (by first | exact rfl | decide +kernel))))
set_option maxRecDepth 100000 in
theorem wt_414 : Cond.constantLong RX2 190 (2) ∈ lw_tbl := List.mem_append_right _ (List.mem_append_right _ (List.mem_append_left _ (List.mem_of_getElem? (l := tables_1_2) (i := 139) (by first | exact rfl | decide +kernel))))
set_option maxRecDepth 100000 in
theorem wt_415 : Cond.constantLong RX2 192 (16) ∈ lw_tbl := List.mem_append_right _ (List.mem_append_right _ (List.mem_append_left _ (List.mem_of_getElem? (l := tables_1_2) (i := 140) (by first | exact rfl | decide +kernel))))
theorem wsL_law0_r11_in : ∀ w ∈ wsL_law0_r11, w ∈ lw_tbl := List.forall_mem_cons.mpr ⟨wt_389, List.forall_mem_cons.mpr ⟨wt_392, List.forall_mem_cons.mpr ⟨wt_18, List.forall_mem_cons.mpr ⟨wt_393, List.forall_mem_cons.mpr ⟨wt_394, List.forall_mem_cons.mpr ⟨wt_396, List.forall_mem_cons.mpr ⟨wt_19, List.forall_mem_cons.mpr ⟨wt_397, List.forall_mem_cons.mpr ⟨wt_157, List.forall_mem_cons.mpr ⟨wt_159, List.forall_mem_cons.mpr ⟨wt_2, List.forall_mem_cons.mpr ⟨wt_160, List.forall_mem_cons.mpr ⟨wt_400, List.forall_mem_cons.mpr ⟨wt_20, List.forall_mem_cons.mpr ⟨wt_401, List.forall_mem_cons.mpr ⟨wt_404, List.forall_mem_cons.mpr ⟨wt_21, List.forall_mem_cons.mpr ⟨wt_405, List.forall_mem_cons.mpr ⟨wt_406, List.forall_mem_cons.mpr ⟨wt_408, List.forall_mem_cons.mpr ⟨wt_22, List.forall_mem_cons.mpr ⟨wt_409, List.forall_mem_cons.mpr ⟨wt_414, List.forall_mem_cons.mpr ⟨wt_415, fun _ h => absurd h List.not_mem_nil⟩⟩⟩⟩⟩⟩⟩⟩⟩⟩⟩⟩⟩⟩⟩⟩⟩⟩⟩⟩⟩⟩⟩⟩
set_option maxRecDepth 100000 in
theorem wt_412 : Cond.instanceMethod yX1_errorFrom ∈ lw_tbl := List.mem_append_right _ (List.mem_append_right _ (List.mem_append_left _ (List.mem_of_getElem? (l := tables_1_2) (i := 137) (by first | exact rfl | decide +kernel))))
theorem wt_23 : Cond.selects RX1 yX1_errorFrom yX1_errorFrom ∈ lw_tbl := List.mem_of_getElem? (i := 23) (by decide +kernel)
set_option maxRecDepth 100000 in
theorem wt_413 : Cond.code yX1_errorFrom cX1_errorFrom 5 (some .int) ∈ lw_tbl := List.mem_append_right _ (List.mem_append_right _ (List.mem_append_left _ (List.mem_of_getElem? (l := tables_1_2) (i := 138) (by first | exact rfl | decide +kernel))))
set_option maxRecDepth 100000 in
theorem wt_615 : Cond.methodLink RL 105 yX3_tick ∈ lw_tbl := List.mem_append_right _ (List.mem_append_right _ (List.mem_append_right _ (List.mem_of_getElem? (l := tables_1_3) (i := 100) (by first | exact rfl | decide +kernel))))
set_option maxRecDepth 100000 in
theorem wt_616 : Cond.instanceMethod yX3_tick ∈ lw_tbl := List.mem_append_right _ (List.mem_append_right _ (List.mem_append_right _ (List.mem_of_getElem? (l := tables_1_3) (i := 101) (by first | exact rfl | decide +kernel))))
set_option maxRecDepth 100000 in
theorem wt_617 : Cond.selects RX3 yX3_tick yX3_tick ∈ lw_tbl := List.mem_append_right _ (List.mem_append_right _ (List.mem_append_right _ (List.mem_of_getElem? (l := tables_1_3) (i := 102) (by first | exact rfl | decide +kernel))))
set_option maxRecDepth 100000 in
theorem wt_618 : Cond.code yX3_tick cX3_tick 5 (some .int) ∈ lw_tbl := List.mem_append_right _ (List.mem_append_right _ (List.mem_append_right _ (List.mem_of_getElem? (l := tables_1_3) (i := 103) (by first | exact rfl | decide +kernel))))
set_option maxRecDepth 100000 in
theorem wt_511 : Cond.fieldLink RX3 118 "TimeNetModel" "tickMany" "I" ∈ lw_tbl := List.mem_append_right _ (List.mem_append_right _ (List.mem_append_left _ (List.mem_of_getElem? (l := tables_1_2) (i := 236) (by first | exact rfl | decide +kernel))))
set_option maxRecDepth 100000 in
theorem wt_619 : Cond.methodLink RX3 112 yX3_announce ∈ lw_tbl := List.mem_append_right _ (List.mem_append_right _ (List.mem_append_right _ (List.mem_of_getElem? (l := tables_1_3) (i := 104) (by first | exact rfl | decide +kernel))))
set_option maxRecDepth 100000 in
theorem wt_621 : Cond.instanceMethod yX3_announce ∈ lw_tbl := List.mem_append_right _ (List.mem_append_right _ (List.mem_append_right _ (List.mem_of_getElem? (l := tables_1_3) (i := 106) (by first | exact rfl | decide +kernel))))
theorem wt_27 : Cond.selects RX3 yX3_announce yX3_announce ∈ lw_tbl := List.mem_of_getElem? (i := 27) (by decide +kernel)
set_option maxRecDepth 100000 in
theorem wt_622 : Cond.code yX3_announce cX3_announce 2 none ∈ lw_tbl := List.mem_append_right _ (List.mem_append_right _ (List.mem_append_right _ (List.mem_of_getElem? (l := tables_1_3) (i := 107) (by first | exact rfl | decide +kernel))))
set_option maxRecDepth 100000 in
theorem wt_623 : Cond.methodLink RX3 105 yX3_listen ∈ lw_tbl := List.mem_append_right _ (List.mem_append_right _ (List.mem_append_right _ (List.mem_of_getElem? (l := tables_1_3) (i := 108) (by first | exact rfl | decide +kernel))))
set_option maxRecDepth 100000 in
theorem wt_625 : Cond.instanceMethod yX3_listen ∈ lw_tbl := List.mem_append_right _ (List.mem_append_right _ (List.mem_append_right _ (List.mem_of_getElem? (l := tables_1_3) (i := 110) (by first | exact rfl | decide +kernel))))
theorem wt_28 : Cond.selects RX3 yX3_listen yX3_listen ∈ lw_tbl := List.mem_of_getElem? (i := 28) (by decide +kernel)
set_option maxRecDepth 100000 in
theorem wt_626 : Cond.code yX3_listen cX3_listen 4 none ∈ lw_tbl := List.mem_append_right _ (List.mem_append_right _ (List.mem_append_right _ (List.mem_of_getElem? (l := tables_1_3) (i := 111) (by first | exact rfl | decide +kernel))))
set_option maxRecDepth 100000 in
theorem wt_627 : Cond.methodLink RX3 98 yX3_areNeighbours ∈ lw_tbl := List.mem_append_right _ (List.mem_append_right _ (List.mem_append_right _ (List.mem_of_getElem? (l := tables_1_3) (i := 112) (by first | exact rfl | decide +kernel))))
set_option maxRecDepth 100000 in
theorem wt_629 : Cond.instanceMethod yX3_areNeighbours ∈ lw_tbl := List.mem_append_right _ (List.mem_append_right _ (List.mem_append_right _ (List.mem_of_getElem? (l := tables_1_3) (i := 114) (by first | exact rfl | decide +kernel))))
theorem wt_29 : Cond.selects RX3 yX3_areNeighbours yX3_areNeighbours ∈ lw_tbl := List.mem_of_getElem? (i := 29) (by decide +kernel)
set_option maxRecDepth 100000 in
theorem wt_630 : Cond.code yX3_areNeighbours cX3_areNeighbours 3 (some .boolean) ∈ lw_tbl := List.mem_append_right _ (List.mem_append_right _ (List.mem_append_right _ (List.mem_of_getElem? (l := tables_1_3) (i := 115) (by first | exact rfl | decide +kernel))))
set_option maxRecDepth 100000 in
theorem wt_631 : Cond.methodLink RX3 102 yX3_isBetter ∈ lw_tbl := List.mem_append_right _ (List.mem_append_right _ (List.mem_append_right _ (List.mem_of_getElem? (l := tables_1_3) (i := 116) (by first | exact rfl | decide +kernel))))
set_option maxRecDepth 100000 in
theorem wt_633 : Cond.instanceMethod yX3_isBetter ∈ lw_tbl := List.mem_append_right _ (List.mem_append_right _ (List.mem_append_right _ (List.mem_of_getElem? (l := tables_1_3) (i := 118) (by first | exact rfl | decide +kernel))))
theorem wt_30 : Cond.selects RX3 yX3_isBetter yX3_isBetter ∈ lw_tbl := List.mem_of_getElem? (i := 30) (by decide +kernel)
set_option maxRecDepth 100000 in
theorem wt_634 : Cond.code yX3_isBetter cX3_isBetter 3 (some .boolean) ∈ lw_tbl := List.mem_append_right _ (List.mem_append_right _ (List.mem_append_right _ (List.mem_of_getElem? (l := tables_1_3) (i := 119) (by first | exact rfl | decide +kernel))))
theorem wsL_law0_r12_in : ∀ w ∈ wsL_law0_r12, w ∈ lw_tbl := List.forall_mem_cons.mpr ⟨wt_412, List.forall_mem_cons.mpr ⟨wt_23, List.forall_mem_cons.mpr ⟨wt_413, List.forall_mem_cons.mpr ⟨wt_615, List.forall_mem_cons.mpr ⟨wt_616, List.forall_mem_cons.mpr ⟨wt_617, List.forall_mem_cons.mpr ⟨wt_618, List.forall_mem_cons.mpr ⟨wt_511, List.forall_mem_cons.mpr ⟨wt_619, List.forall_mem_cons.mpr ⟨wt_621, List.forall_mem_cons.mpr ⟨wt_27, List.forall_mem_cons.mpr ⟨wt_622, List.forall_mem_cons.mpr ⟨wt_623, List.forall_mem_cons.mpr ⟨wt_625, List.forall_mem_cons.mpr ⟨wt_28, List.forall_mem_cons.mpr ⟨wt_626, List.forall_mem_cons.mpr ⟨wt_627, List.forall_mem_cons.mpr ⟨wt_629, List.forall_mem_cons.mpr ⟨wt_29, List.forall_mem_cons.mpr ⟨wt_630, List.forall_mem_cons.mpr ⟨wt_631, List.forall_mem_cons.mpr ⟨wt_633, List.forall_mem_cons.mpr ⟨wt_30, List.forall_mem_cons.mpr ⟨wt_634, fun _ h => absurd h List.not_mem_nil⟩⟩⟩⟩⟩⟩⟩⟩⟩⟩⟩⟩⟩⟩⟩⟩⟩⟩⟩⟩⟩⟩⟩⟩
set_option maxRecDepth 100000 in
theorem wt_635 : Cond.methodLink RX3 115 yX3_steer ∈ lw_tbl := List.mem_append_right _ (List.mem_append_right _ (List.mem_append_right _ (List.mem_of_getElem? (l := tables_1_3) (i := 120) (by first | exact rfl | decide +kernel))))
set_option maxRecDepth 100000 in
theorem wt_637 : Cond.instanceMethod yX3_steer ∈ lw_tbl := List.mem_append_right _ (List.mem_append_right _ (List.mem_append_right _ (List.mem_of_getElem? (l := tables_1_3) (i := 122) (by first | exact rfl | decide +kernel))))
theorem wt_31 : Cond.selects RX3 yX3_steer yX3_steer ∈ lw_tbl := List.mem_of_getElem? (i := 31) (by decide +kernel)
set_option maxRecDepth 100000 in
theorem wt_638 : Cond.code yX3_steer cX3_steer 8 none ∈ lw_tbl := List.mem_append_right _ (List.mem_append_right _ (List.mem_append_right _ (List.mem_of_getElem? (l := tables_1_3) (i := 123) (by first | exact rfl | decide +kernel))))
set_option maxRecDepth 100000 in
theorem wt_639 : Cond.constantLong RX3 108 (2) ∈ lw_tbl := List.mem_append_right _ (List.mem_append_right _ (List.mem_append_right _ (List.mem_of_getElem? (l := tables_1_3) (i := 124) (by first | exact rfl | decide +kernel))))
set_option maxRecDepth 100000 in
theorem wt_640 : Cond.constantLong RX3 110 (16) ∈ lw_tbl := List.mem_append_right _ (List.mem_append_right _ (List.mem_append_right _ (List.mem_of_getElem? (l := tables_1_3) (i := 125) (by first | exact rfl | decide +kernel))))
set_option maxRecDepth 100000 in
theorem wt_137 : Cond.methodLink RL 106 yX2_nodes ∈ lw_tbl := List.mem_append_right _ (List.mem_append_left _ (List.mem_of_getElem? (l := tables_1_1) (i := 102) (by first | exact rfl | decide +kernel)))
set_option maxRecDepth 100000 in
theorem wt_138 : Cond.instanceMethod yX2_nodes ∈ lw_tbl := List.mem_append_right _ (List.mem_append_left _ (List.mem_of_getElem? (l := tables_1_1) (i := 103) (by first | exact rfl | decide +kernel)))
set_option maxRecDepth 100000 in
theorem wt_139 : Cond.selects RX2 yX2_nodes yX2_nodes ∈ lw_tbl := List.mem_append_right _ (List.mem_append_left _ (List.mem_of_getElem? (l := tables_1_1) (i := 104) (by first | exact rfl | decide +kernel)))
set_option maxRecDepth 100000 in
theorem wt_140 : Cond.code yX2_nodes cX2_nodes 1 (some .int) ∈ lw_tbl := List.mem_append_right _ (List.mem_append_left _ (List.mem_of_getElem? (l := tables_1_1) (i := 105) (by first | exact rfl | decide +kernel)))
set_option maxRecDepth 100000 in
theorem wt_641 : Cond.methodLink RL 110 yX3_nodes ∈ lw_tbl := List.mem_append_right _ (List.mem_append_right _ (List.mem_append_right _ (List.mem_of_getElem? (l := tables_1_3) (i := 126) (by first | exact rfl | decide +kernel))))
set_option maxRecDepth 100000 in
theorem wt_642 : Cond.instanceMethod yX3_nodes ∈ lw_tbl := List.mem_append_right _ (List.mem_append_right _ (List.mem_append_right _ (List.mem_of_getElem? (l := tables_1_3) (i := 127) (by first | exact rfl | decide +kernel))))
set_option maxRecDepth 100000 in
theorem wt_643 : Cond.selects RX3 yX3_nodes yX3_nodes ∈ lw_tbl := List.mem_append_right _ (List.mem_append_right _ (List.mem_append_right _ (List.mem_of_getElem? (l := tables_1_3) (i := 128) (by first | exact rfl | decide +kernel))))
set_option maxRecDepth 100000 in
theorem wt_644 : Cond.code yX3_nodes cX3_nodes 1 (some .int) ∈ lw_tbl := List.mem_append_right _ (List.mem_append_right _ (List.mem_append_right _ (List.mem_of_getElem? (l := tables_1_3) (i := 129) (by first | exact rfl | decide +kernel))))
set_option maxRecDepth 100000 in
theorem wt_141 : Cond.methodLink RL 111 yX2_links ∈ lw_tbl := List.mem_append_right _ (List.mem_append_left _ (List.mem_of_getElem? (l := tables_1_1) (i := 106) (by first | exact rfl | decide +kernel)))
set_option maxRecDepth 100000 in
theorem wt_142 : Cond.instanceMethod yX2_links ∈ lw_tbl := List.mem_append_right _ (List.mem_append_left _ (List.mem_of_getElem? (l := tables_1_1) (i := 107) (by first | exact rfl | decide +kernel)))
set_option maxRecDepth 100000 in
theorem wt_143 : Cond.selects RX2 yX2_links yX2_links ∈ lw_tbl := List.mem_append_right _ (List.mem_append_left _ (List.mem_of_getElem? (l := tables_1_1) (i := 108) (by first | exact rfl | decide +kernel)))
set_option maxRecDepth 100000 in
theorem wt_144 : Cond.code yX2_links cX2_links 1 (some .int) ∈ lw_tbl := List.mem_append_right _ (List.mem_append_left _ (List.mem_of_getElem? (l := tables_1_1) (i := 109) (by first | exact rfl | decide +kernel)))
set_option maxRecDepth 100000 in
theorem wt_645 : Cond.methodLink RL 114 yX3_links ∈ lw_tbl := List.mem_append_right _ (List.mem_append_right _ (List.mem_append_right _ (List.mem_of_getElem? (l := tables_1_3) (i := 130) (by first | exact rfl | decide +kernel))))
set_option maxRecDepth 100000 in
theorem wt_646 : Cond.instanceMethod yX3_links ∈ lw_tbl := List.mem_append_right _ (List.mem_append_right _ (List.mem_append_right _ (List.mem_of_getElem? (l := tables_1_3) (i := 131) (by first | exact rfl | decide +kernel))))
set_option maxRecDepth 100000 in
theorem wt_647 : Cond.selects RX3 yX3_links yX3_links ∈ lw_tbl := List.mem_append_right _ (List.mem_append_right _ (List.mem_append_right _ (List.mem_of_getElem? (l := tables_1_3) (i := 132) (by first | exact rfl | decide +kernel))))
set_option maxRecDepth 100000 in
theorem wt_648 : Cond.code yX3_links cX3_links 1 (some .int) ∈ lw_tbl := List.mem_append_right _ (List.mem_append_right _ (List.mem_append_right _ (List.mem_of_getElem? (l := tables_1_3) (i := 133) (by first | exact rfl | decide +kernel))))
set_option maxRecDepth 100000 in
theorem wt_416 : Cond.methodLink RL 115 yL_best ∈ lw_tbl := List.mem_append_right _ (List.mem_append_right _ (List.mem_append_left _ (List.mem_of_getElem? (l := tables_1_2) (i := 141) (by first | exact rfl | decide +kernel))))
set_option maxRecDepth 100000 in
theorem wt_417 : Cond.static yL_best ∈ lw_tbl := List.mem_append_right _ (List.mem_append_right _ (List.mem_append_left _ (List.mem_of_getElem? (l := tables_1_2) (i := 142) (by first | exact rfl | decide +kernel))))
theorem wsL_law0_r13_in : ∀ w ∈ wsL_law0_r13, w ∈ lw_tbl := List.forall_mem_cons.mpr ⟨wt_635, List.forall_mem_cons.mpr ⟨wt_637, List.forall_mem_cons.mpr ⟨wt_31, List.forall_mem_cons.mpr ⟨wt_638, List.forall_mem_cons.mpr ⟨wt_639, List.forall_mem_cons.mpr ⟨wt_640, List.forall_mem_cons.mpr ⟨wt_137, List.forall_mem_cons.mpr ⟨wt_138, List.forall_mem_cons.mpr ⟨wt_139, List.forall_mem_cons.mpr ⟨wt_140, List.forall_mem_cons.mpr ⟨wt_641, List.forall_mem_cons.mpr ⟨wt_642, List.forall_mem_cons.mpr ⟨wt_643, List.forall_mem_cons.mpr ⟨wt_644, List.forall_mem_cons.mpr ⟨wt_141, List.forall_mem_cons.mpr ⟨wt_142, List.forall_mem_cons.mpr ⟨wt_143, List.forall_mem_cons.mpr ⟨wt_144, List.forall_mem_cons.mpr ⟨wt_645, List.forall_mem_cons.mpr ⟨wt_646, List.forall_mem_cons.mpr ⟨wt_647, List.forall_mem_cons.mpr ⟨wt_648, List.forall_mem_cons.mpr ⟨wt_416, List.forall_mem_cons.mpr ⟨wt_417, fun _ h => absurd h List.not_mem_nil⟩⟩⟩⟩⟩⟩⟩⟩⟩⟩⟩⟩⟩⟩⟩⟩⟩⟩⟩⟩⟩⟩⟩⟩
set_option maxRecDepth 100000 in
theorem wt_418 : Cond.codeWith yL_best cL_best 4 (some .int) [(0, 9, 12, 21)] ∈ lw_tbl := List.mem_append_right _ (List.mem_append_right _ (List.mem_append_left _ (List.mem_of_getElem? (l := tables_1_2) (i := 143) (by first | exact rfl | decide +kernel))))
set_option maxRecDepth 100000 in
theorem wt_419 : Cond.methodLink RL 44 yX2_best ∈ lw_tbl := List.mem_append_right _ (List.mem_append_right _ (List.mem_append_left _ (List.mem_of_getElem? (l := tables_1_2) (i := 144) (by first | exact rfl | decide +kernel))))
set_option maxRecDepth 100000 in
theorem wt_420 : Cond.instanceMethod yX2_best ∈ lw_tbl := List.mem_append_right _ (List.mem_append_right _ (List.mem_append_left _ (List.mem_of_getElem? (l := tables_1_2) (i := 145) (by first | exact rfl | decide +kernel))))
set_option maxRecDepth 100000 in
theorem wt_421 : Cond.selects RX2 yX2_best yX2_best ∈ lw_tbl := List.mem_append_right _ (List.mem_append_right _ (List.mem_append_left _ (List.mem_of_getElem? (l := tables_1_2) (i := 146) (by first | exact rfl | decide +kernel))))
set_option maxRecDepth 100000 in
theorem wt_422 : Cond.code yX2_best cX2_best 2 (some .int) ∈ lw_tbl := List.mem_append_right _ (List.mem_append_right _ (List.mem_append_left _ (List.mem_of_getElem? (l := tables_1_2) (i := 147) (by first | exact rfl | decide +kernel))))
set_option maxRecDepth 100000 in
theorem wt_649 : Cond.methodLink RL 117 yX3_best ∈ lw_tbl := List.mem_append_right _ (List.mem_append_right _ (List.mem_append_right _ (List.mem_of_getElem? (l := tables_1_3) (i := 134) (by first | exact rfl | decide +kernel))))
set_option maxRecDepth 100000 in
theorem wt_650 : Cond.instanceMethod yX3_best ∈ lw_tbl := List.mem_append_right _ (List.mem_append_right _ (List.mem_append_right _ (List.mem_of_getElem? (l := tables_1_3) (i := 135) (by first | exact rfl | decide +kernel))))
set_option maxRecDepth 100000 in
theorem wt_651 : Cond.selects RX3 yX3_best yX3_best ∈ lw_tbl := List.mem_append_right _ (List.mem_append_right _ (List.mem_append_right _ (List.mem_of_getElem? (l := tables_1_3) (i := 136) (by first | exact rfl | decide +kernel))))
set_option maxRecDepth 100000 in
theorem wt_652 : Cond.code yX3_best cX3_best 2 (some .int) ∈ lw_tbl := List.mem_append_right _ (List.mem_append_right _ (List.mem_append_right _ (List.mem_of_getElem? (l := tables_1_3) (i := 137) (by first | exact rfl | decide +kernel))))
set_option maxRecDepth 100000 in
theorem wt_653 : Cond.methodLink RX3 121 yX3_asksFor ∈ lw_tbl := List.mem_append_right _ (List.mem_append_right _ (List.mem_append_right _ (List.mem_of_getElem? (l := tables_1_3) (i := 138) (by first | exact rfl | decide +kernel))))
set_option maxRecDepth 100000 in
theorem wt_655 : Cond.instanceMethod yX3_asksFor ∈ lw_tbl := List.mem_append_right _ (List.mem_append_right _ (List.mem_append_right _ (List.mem_of_getElem? (l := tables_1_3) (i := 140) (by first | exact rfl | decide +kernel))))
theorem wt_32 : Cond.selects RX3 yX3_asksFor yX3_asksFor ∈ lw_tbl := List.mem_of_getElem? (i := 32) (by decide +kernel)
set_option maxRecDepth 100000 in
theorem wt_656 : Cond.code yX3_asksFor cX3_asksFor 2 (some .boolean) ∈ lw_tbl := List.mem_append_right _ (List.mem_append_right _ (List.mem_append_right _ (List.mem_of_getElem? (l := tables_1_3) (i := 141) (by first | exact rfl | decide +kernel))))
set_option maxRecDepth 100000 in
theorem wt_423 : Cond.methodLink RL 118 yL_steps ∈ lw_tbl := List.mem_append_right _ (List.mem_append_right _ (List.mem_append_left _ (List.mem_of_getElem? (l := tables_1_2) (i := 148) (by first | exact rfl | decide +kernel))))
set_option maxRecDepth 100000 in
theorem wt_424 : Cond.static yL_steps ∈ lw_tbl := List.mem_append_right _ (List.mem_append_right _ (List.mem_append_left _ (List.mem_of_getElem? (l := tables_1_2) (i := 149) (by first | exact rfl | decide +kernel))))
set_option maxRecDepth 100000 in
theorem wt_425 : Cond.codeWith yL_steps cL_steps 4 (some .int) [(0, 9, 12, 21)] ∈ lw_tbl := List.mem_append_right _ (List.mem_append_right _ (List.mem_append_left _ (List.mem_of_getElem? (l := tables_1_2) (i := 150) (by first | exact rfl | decide +kernel))))
set_option maxRecDepth 100000 in
theorem wt_426 : Cond.methodLink RL 47 yX2_steps ∈ lw_tbl := List.mem_append_right _ (List.mem_append_right _ (List.mem_append_left _ (List.mem_of_getElem? (l := tables_1_2) (i := 151) (by first | exact rfl | decide +kernel))))
set_option maxRecDepth 100000 in
theorem wt_427 : Cond.instanceMethod yX2_steps ∈ lw_tbl := List.mem_append_right _ (List.mem_append_right _ (List.mem_append_left _ (List.mem_of_getElem? (l := tables_1_2) (i := 152) (by first | exact rfl | decide +kernel))))
set_option maxRecDepth 100000 in
theorem wt_428 : Cond.selects RX2 yX2_steps yX2_steps ∈ lw_tbl := List.mem_append_right _ (List.mem_append_right _ (List.mem_append_left _ (List.mem_of_getElem? (l := tables_1_2) (i := 153) (by first | exact rfl | decide +kernel))))
set_option maxRecDepth 100000 in
theorem wt_429 : Cond.code yX2_steps cX2_steps 2 (some .int) ∈ lw_tbl := List.mem_append_right _ (List.mem_append_right _ (List.mem_append_left _ (List.mem_of_getElem? (l := tables_1_2) (i := 154) (by first | exact rfl | decide +kernel))))
set_option maxRecDepth 100000 in
theorem wt_657 : Cond.methodLink RL 120 yX3_steps ∈ lw_tbl := List.mem_append_right _ (List.mem_append_right _ (List.mem_append_right _ (List.mem_of_getElem? (l := tables_1_3) (i := 142) (by first | exact rfl | decide +kernel))))
set_option maxRecDepth 100000 in
theorem wt_658 : Cond.instanceMethod yX3_steps ∈ lw_tbl := List.mem_append_right _ (List.mem_append_right _ (List.mem_append_right _ (List.mem_of_getElem? (l := tables_1_3) (i := 143) (by first | exact rfl | decide +kernel))))
set_option maxRecDepth 100000 in
theorem wt_659 : Cond.selects RX3 yX3_steps yX3_steps ∈ lw_tbl := List.mem_append_right _ (List.mem_append_right _ (List.mem_append_right _ (List.mem_of_getElem? (l := tables_1_3) (i := 144) (by first | exact rfl | decide +kernel))))
set_option maxRecDepth 100000 in
theorem wt_660 : Cond.code yX3_steps cX3_steps 2 (some .int) ∈ lw_tbl := List.mem_append_right _ (List.mem_append_right _ (List.mem_append_right _ (List.mem_of_getElem? (l := tables_1_3) (i := 145) (by first | exact rfl | decide +kernel))))
theorem wsL_law0_r14_in : ∀ w ∈ wsL_law0_r14, w ∈ lw_tbl := List.forall_mem_cons.mpr ⟨wt_418, List.forall_mem_cons.mpr ⟨wt_419, List.forall_mem_cons.mpr ⟨wt_420, List.forall_mem_cons.mpr ⟨wt_421, List.forall_mem_cons.mpr ⟨wt_422, List.forall_mem_cons.mpr ⟨wt_649, List.forall_mem_cons.mpr ⟨wt_650, List.forall_mem_cons.mpr ⟨wt_651, List.forall_mem_cons.mpr ⟨wt_652, List.forall_mem_cons.mpr ⟨wt_653, List.forall_mem_cons.mpr ⟨wt_655, List.forall_mem_cons.mpr ⟨wt_32, List.forall_mem_cons.mpr ⟨wt_656, List.forall_mem_cons.mpr ⟨wt_423, List.forall_mem_cons.mpr ⟨wt_424, List.forall_mem_cons.mpr ⟨wt_425, List.forall_mem_cons.mpr ⟨wt_426, List.forall_mem_cons.mpr ⟨wt_427, List.forall_mem_cons.mpr ⟨wt_428, List.forall_mem_cons.mpr ⟨wt_429, List.forall_mem_cons.mpr ⟨wt_657, List.forall_mem_cons.mpr ⟨wt_658, List.forall_mem_cons.mpr ⟨wt_659, List.forall_mem_cons.mpr ⟨wt_660, fun _ h => absurd h List.not_mem_nil⟩⟩⟩⟩⟩⟩⟩⟩⟩⟩⟩⟩⟩⟩⟩⟩⟩⟩⟩⟩⟩⟩⟩⟩
set_option maxRecDepth 100000 in
theorem wt_430 : Cond.methodLink RL 121 yL_parent ∈ lw_tbl := List.mem_append_right _ (List.mem_append_right _ (List.mem_append_left _ (List.mem_of_getElem? (l := tables_1_2) (i := 155) (by first | exact rfl | decide +kernel))))
set_option maxRecDepth 100000 in
theorem wt_431 : Cond.static yL_parent ∈ lw_tbl := List.mem_append_right _ (List.mem_append_right _ (List.mem_append_left _ (List.mem_of_getElem? (l := tables_1_2) (i := 156) (by first | exact rfl | decide +kernel))))
set_option maxRecDepth 100000 in
theorem wt_432 : Cond.codeWith yL_parent cL_parent 4 (some .int) [(0, 9, 12, 21)] ∈ lw_tbl := List.mem_append_right _ (List.mem_append_right _ (List.mem_append_left _ (List.mem_of_getElem? (l := tables_1_2) (i := 157) (by first | exact rfl | decide +kernel))))
set_option maxRecDepth 100000 in
theorem wt_433 : Cond.methodLink RL 50 yX2_parent ∈ lw_tbl := List.mem_append_right _ (List.mem_append_right _ (List.mem_append_left _ (List.mem_of_getElem? (l := tables_1_2) (i := 158) (by first | exact rfl | decide +kernel))))
set_option maxRecDepth 100000 in
theorem wt_434 : Cond.instanceMethod yX2_parent ∈ lw_tbl := List.mem_append_right _ (List.mem_append_right _ (List.mem_append_left _ (List.mem_of_getElem? (l := tables_1_2) (i := 159) (by first | exact rfl | decide +kernel))))
set_option maxRecDepth 100000 in
theorem wt_435 : Cond.selects RX2 yX2_parent yX2_parent ∈ lw_tbl := List.mem_append_right _ (List.mem_append_right _ (List.mem_append_left _ (List.mem_of_getElem? (l := tables_1_2) (i := 160) (by first | exact rfl | decide +kernel))))
set_option maxRecDepth 100000 in
theorem wt_436 : Cond.code yX2_parent cX2_parent 2 (some .int) ∈ lw_tbl := List.mem_append_right _ (List.mem_append_right _ (List.mem_append_left _ (List.mem_of_getElem? (l := tables_1_2) (i := 161) (by first | exact rfl | decide +kernel))))
set_option maxRecDepth 100000 in
theorem wt_661 : Cond.methodLink RL 123 yX3_parent ∈ lw_tbl := List.mem_append_right _ (List.mem_append_right _ (List.mem_append_right _ (List.mem_of_getElem? (l := tables_1_3) (i := 146) (by first | exact rfl | decide +kernel))))
set_option maxRecDepth 100000 in
theorem wt_662 : Cond.instanceMethod yX3_parent ∈ lw_tbl := List.mem_append_right _ (List.mem_append_right _ (List.mem_append_right _ (List.mem_of_getElem? (l := tables_1_3) (i := 147) (by first | exact rfl | decide +kernel))))
set_option maxRecDepth 100000 in
theorem wt_663 : Cond.selects RX3 yX3_parent yX3_parent ∈ lw_tbl := List.mem_append_right _ (List.mem_append_right _ (List.mem_append_right _ (List.mem_of_getElem? (l := tables_1_3) (i := 148) (by first | exact rfl | decide +kernel))))
set_option maxRecDepth 100000 in
theorem wt_664 : Cond.code yX3_parent cX3_parent 2 (some .int) ∈ lw_tbl := List.mem_append_right _ (List.mem_append_right _ (List.mem_append_right _ (List.mem_of_getElem? (l := tables_1_3) (i := 149) (by first | exact rfl | decide +kernel))))
set_option maxRecDepth 100000 in
theorem wt_437 : Cond.methodLink RL 124 yL_port ∈ lw_tbl := List.mem_append_right _ (List.mem_append_right _ (List.mem_append_left _ (List.mem_of_getElem? (l := tables_1_2) (i := 162) (by first | exact rfl | decide +kernel))))
set_option maxRecDepth 100000 in
theorem wt_438 : Cond.static yL_port ∈ lw_tbl := List.mem_append_right _ (List.mem_append_right _ (List.mem_append_left _ (List.mem_of_getElem? (l := tables_1_2) (i := 163) (by first | exact rfl | decide +kernel))))
set_option maxRecDepth 100000 in
theorem wt_439 : Cond.codeWith yL_port cL_port 5 (some .int) [(0, 10, 13, 21)] ∈ lw_tbl := List.mem_append_right _ (List.mem_append_right _ (List.mem_append_left _ (List.mem_of_getElem? (l := tables_1_2) (i := 164) (by first | exact rfl | decide +kernel))))
set_option maxRecDepth 100000 in
theorem wt_440 : Cond.methodLink RL 53 yX2_port ∈ lw_tbl := List.mem_append_right _ (List.mem_append_right _ (List.mem_append_left _ (List.mem_of_getElem? (l := tables_1_2) (i := 165) (by first | exact rfl | decide +kernel))))
set_option maxRecDepth 100000 in
theorem wt_441 : Cond.instanceMethod yX2_port ∈ lw_tbl := List.mem_append_right _ (List.mem_append_right _ (List.mem_append_left _ (List.mem_of_getElem? (l := tables_1_2) (i := 166) (by first | exact rfl | decide +kernel))))
set_option maxRecDepth 100000 in
theorem wt_442 : Cond.selects RX2 yX2_port yX2_port ∈ lw_tbl := List.mem_append_right _ (List.mem_append_right _ (List.mem_append_left _ (List.mem_of_getElem? (l := tables_1_2) (i := 167) (by first | exact rfl | decide +kernel))))
set_option maxRecDepth 100000 in
theorem wt_443 : Cond.code yX2_port cX2_port 3 (some .int) ∈ lw_tbl := List.mem_append_right _ (List.mem_append_right _ (List.mem_append_left _ (List.mem_of_getElem? (l := tables_1_2) (i := 168) (by first | exact rfl | decide +kernel))))
set_option maxRecDepth 100000 in
theorem wt_444 : Cond.methodLink RX2 125 yX2_isNearer ∈ lw_tbl := List.mem_append_right _ (List.mem_append_right _ (List.mem_append_left _ (List.mem_of_getElem? (l := tables_1_2) (i := 169) (by first | exact rfl | decide +kernel))))
set_option maxRecDepth 100000 in
theorem wt_446 : Cond.instanceMethod yX2_isNearer ∈ lw_tbl := List.mem_append_right _ (List.mem_append_right _ (List.mem_append_left _ (List.mem_of_getElem? (l := tables_1_2) (i := 171) (by first | exact rfl | decide +kernel))))
theorem wt_24 : Cond.selects RX2 yX2_isNearer yX2_isNearer ∈ lw_tbl := List.mem_of_getElem? (i := 24) (by decide +kernel)
set_option maxRecDepth 100000 in
theorem wt_447 : Cond.code yX2_isNearer cX2_isNearer 5 (some .boolean) ∈ lw_tbl := List.mem_append_right _ (List.mem_append_right _ (List.mem_append_left _ (List.mem_of_getElem? (l := tables_1_2) (i := 172) (by first | exact rfl | decide +kernel))))
set_option maxRecDepth 100000 in
theorem wt_665 : Cond.methodLink RL 126 yX3_port ∈ lw_tbl := List.mem_append_right _ (List.mem_append_right _ (List.mem_append_right _ (List.mem_of_getElem? (l := tables_1_3) (i := 150) (by first | exact rfl | decide +kernel))))
set_option maxRecDepth 100000 in
theorem wt_666 : Cond.instanceMethod yX3_port ∈ lw_tbl := List.mem_append_right _ (List.mem_append_right _ (List.mem_append_right _ (List.mem_of_getElem? (l := tables_1_3) (i := 151) (by first | exact rfl | decide +kernel))))
theorem wsL_law0_r15_in : ∀ w ∈ wsL_law0_r15, w ∈ lw_tbl := List.forall_mem_cons.mpr ⟨wt_430, List.forall_mem_cons.mpr ⟨wt_431, List.forall_mem_cons.mpr ⟨wt_432, List.forall_mem_cons.mpr ⟨wt_433, List.forall_mem_cons.mpr ⟨wt_434, List.forall_mem_cons.mpr ⟨wt_435, List.forall_mem_cons.mpr ⟨wt_436, List.forall_mem_cons.mpr ⟨wt_661, List.forall_mem_cons.mpr ⟨wt_662, List.forall_mem_cons.mpr ⟨wt_663, List.forall_mem_cons.mpr ⟨wt_664, List.forall_mem_cons.mpr ⟨wt_437, List.forall_mem_cons.mpr ⟨wt_438, List.forall_mem_cons.mpr ⟨wt_439, List.forall_mem_cons.mpr ⟨wt_440, List.forall_mem_cons.mpr ⟨wt_441, List.forall_mem_cons.mpr ⟨wt_442, List.forall_mem_cons.mpr ⟨wt_443, List.forall_mem_cons.mpr ⟨wt_444, List.forall_mem_cons.mpr ⟨wt_446, List.forall_mem_cons.mpr ⟨wt_24, List.forall_mem_cons.mpr ⟨wt_447, List.forall_mem_cons.mpr ⟨wt_665, List.forall_mem_cons.mpr ⟨wt_666, fun _ h => absurd h List.not_mem_nil⟩⟩⟩⟩⟩⟩⟩⟩⟩⟩⟩⟩⟩⟩⟩⟩⟩⟩⟩⟩⟩⟩⟩⟩
set_option maxRecDepth 100000 in
theorem wt_667 : Cond.selects RX3 yX3_port yX3_port ∈ lw_tbl := List.mem_append_right _ (List.mem_append_right _ (List.mem_append_right _ (List.mem_of_getElem? (l := tables_1_3) (i := 152) (by first | exact rfl | decide +kernel))))
set_option maxRecDepth 100000 in
theorem wt_668 : Cond.code yX3_port cX3_port 4 (some .int) ∈ lw_tbl := List.mem_append_right _ (List.mem_append_right _ (List.mem_append_right _ (List.mem_of_getElem? (l := tables_1_3) (i := 153) (by first | exact rfl | decide +kernel))))
set_option maxRecDepth 100000 in
theorem wt_448 : Cond.methodLink RL 127 yL_bestByGraph ∈ lw_tbl := List.mem_append_right _ (List.mem_append_right _ (List.mem_append_left _ (List.mem_of_getElem? (l := tables_1_2) (i := 173) (by first | exact rfl | decide +kernel))))
set_option maxRecDepth 100000 in
theorem wt_449 : Cond.static yL_bestByGraph ∈ lw_tbl := List.mem_append_right _ (List.mem_append_right _ (List.mem_append_left _ (List.mem_of_getElem? (l := tables_1_2) (i := 174) (by first | exact rfl | decide +kernel))))
set_option maxRecDepth 100000 in
theorem wt_450 : Cond.codeWith yL_bestByGraph cL_bestByGraph 4 (some .int) [(0, 9, 12, 21)] ∈ lw_tbl := List.mem_append_right _ (List.mem_append_right _ (List.mem_append_left _ (List.mem_of_getElem? (l := tables_1_2) (i := 175) (by first | exact rfl | decide +kernel))))
set_option maxRecDepth 100000 in
theorem wt_451 : Cond.methodLink RL 56 yX2_bestByGraph ∈ lw_tbl := List.mem_append_right _ (List.mem_append_right _ (List.mem_append_left _ (List.mem_of_getElem? (l := tables_1_2) (i := 176) (by first | exact rfl | decide +kernel))))
set_option maxRecDepth 100000 in
theorem wt_452 : Cond.instanceMethod yX2_bestByGraph ∈ lw_tbl := List.mem_append_right _ (List.mem_append_right _ (List.mem_append_left _ (List.mem_of_getElem? (l := tables_1_2) (i := 177) (by first | exact rfl | decide +kernel))))
set_option maxRecDepth 100000 in
theorem wt_453 : Cond.selects RX2 yX2_bestByGraph yX2_bestByGraph ∈ lw_tbl := List.mem_append_right _ (List.mem_append_right _ (List.mem_append_left _ (List.mem_of_getElem? (l := tables_1_2) (i := 178) (by first | exact rfl | decide +kernel))))
set_option maxRecDepth 100000 in
theorem wt_454 : Cond.code yX2_bestByGraph cX2_bestByGraph 2 (some .int) ∈ lw_tbl := List.mem_append_right _ (List.mem_append_right _ (List.mem_append_left _ (List.mem_of_getElem? (l := tables_1_2) (i := 179) (by first | exact rfl | decide +kernel))))
set_option maxRecDepth 100000 in
theorem wt_149 : Cond.methodLink RX2 128 yX2_measureDistances ∈ lw_tbl := List.mem_append_right _ (List.mem_append_left _ (List.mem_of_getElem? (l := tables_1_1) (i := 114) (by first | exact rfl | decide +kernel)))
set_option maxRecDepth 100000 in
theorem wt_151 : Cond.instanceMethod yX2_measureDistances ∈ lw_tbl := List.mem_append_right _ (List.mem_append_left _ (List.mem_of_getElem? (l := tables_1_1) (i := 116) (by first | exact rfl | decide +kernel)))
theorem wt_0 : Cond.selects RX2 yX2_measureDistances yX2_measureDistances ∈ lw_tbl := List.mem_of_getElem? (i := 0) (by decide +kernel)
set_option maxRecDepth 100000 in
theorem wt_152 : Cond.code yX2_measureDistances cX2_measureDistances 4 none ∈ lw_tbl := List.mem_append_right _ (List.mem_append_left _ (List.mem_of_getElem? (l := tables_1_1) (i := 117) (by first | exact rfl | decide +kernel)))
set_option maxRecDepth 100000 in
theorem wt_153 : Cond.methodLink RX2 177 yX2_reachNeighbours ∈ lw_tbl := List.mem_append_right _ (List.mem_append_left _ (List.mem_of_getElem? (l := tables_1_1) (i := 118) (by first | exact rfl | decide +kernel)))
set_option maxRecDepth 100000 in
theorem wt_155 : Cond.instanceMethod yX2_reachNeighbours ∈ lw_tbl := List.mem_append_right _ (List.mem_append_left _ (List.mem_of_getElem? (l := tables_1_1) (i := 120) (by first | exact rfl | decide +kernel)))
theorem wt_1 : Cond.selects RX2 yX2_reachNeighbours yX2_reachNeighbours ∈ lw_tbl := List.mem_of_getElem? (i := 1) (by decide +kernel)
set_option maxRecDepth 100000 in
theorem wt_156 : Cond.code yX2_reachNeighbours cX2_reachNeighbours 4 none ∈ lw_tbl := List.mem_append_right _ (List.mem_append_left _ (List.mem_of_getElem? (l := tables_1_1) (i := 121) (by first | exact rfl | decide +kernel)))
set_option maxRecDepth 100000 in
theorem wt_168 : Cond.methodLink RX2 131 yX2_bestInReach ∈ lw_tbl := List.mem_append_right _ (List.mem_append_left _ (List.mem_of_getElem? (l := tables_1_1) (i := 133) (by first | exact rfl | decide +kernel)))
set_option maxRecDepth 100000 in
theorem wt_170 : Cond.instanceMethod yX2_bestInReach ∈ lw_tbl := List.mem_append_right _ (List.mem_append_left _ (List.mem_of_getElem? (l := tables_1_1) (i := 135) (by first | exact rfl | decide +kernel)))
theorem wt_4 : Cond.selects RX2 yX2_bestInReach yX2_bestInReach ∈ lw_tbl := List.mem_of_getElem? (i := 4) (by decide +kernel)
set_option maxRecDepth 100000 in
theorem wt_171 : Cond.code yX2_bestInReach cX2_bestInReach 4 (some .int) ∈ lw_tbl := List.mem_append_right _ (List.mem_append_left _ (List.mem_of_getElem? (l := tables_1_1) (i := 136) (by first | exact rfl | decide +kernel)))
set_option maxRecDepth 100000 in
theorem wt_669 : Cond.methodLink RL 129 yX3_bestByGraph ∈ lw_tbl := List.mem_append_right _ (List.mem_append_right _ (List.mem_append_right _ (List.mem_of_getElem? (l := tables_1_3) (i := 154) (by first | exact rfl | decide +kernel))))
set_option maxRecDepth 100000 in
theorem wt_670 : Cond.instanceMethod yX3_bestByGraph ∈ lw_tbl := List.mem_append_right _ (List.mem_append_right _ (List.mem_append_right _ (List.mem_of_getElem? (l := tables_1_3) (i := 155) (by first | exact rfl | decide +kernel))))
set_option maxRecDepth 100000 in
theorem wt_671 : Cond.selects RX3 yX3_bestByGraph yX3_bestByGraph ∈ lw_tbl := List.mem_append_right _ (List.mem_append_right _ (List.mem_append_right _ (List.mem_of_getElem? (l := tables_1_3) (i := 156) (by first | exact rfl | decide +kernel))))
theorem wsL_law0_r16_in : ∀ w ∈ wsL_law0_r16, w ∈ lw_tbl := List.forall_mem_cons.mpr ⟨wt_667, List.forall_mem_cons.mpr ⟨wt_668, List.forall_mem_cons.mpr ⟨wt_448, List.forall_mem_cons.mpr ⟨wt_449, List.forall_mem_cons.mpr ⟨wt_450, List.forall_mem_cons.mpr ⟨wt_451, List.forall_mem_cons.mpr ⟨wt_452, List.forall_mem_cons.mpr ⟨wt_453, List.forall_mem_cons.mpr ⟨wt_454, List.forall_mem_cons.mpr ⟨wt_149, List.forall_mem_cons.mpr ⟨wt_151, List.forall_mem_cons.mpr ⟨wt_0, List.forall_mem_cons.mpr ⟨wt_152, List.forall_mem_cons.mpr ⟨wt_153, List.forall_mem_cons.mpr ⟨wt_155, List.forall_mem_cons.mpr ⟨wt_1, List.forall_mem_cons.mpr ⟨wt_156, List.forall_mem_cons.mpr ⟨wt_168, List.forall_mem_cons.mpr ⟨wt_170, List.forall_mem_cons.mpr ⟨wt_4, List.forall_mem_cons.mpr ⟨wt_171, List.forall_mem_cons.mpr ⟨wt_669, List.forall_mem_cons.mpr ⟨wt_670, List.forall_mem_cons.mpr ⟨wt_671, fun _ h => absurd h List.not_mem_nil⟩⟩⟩⟩⟩⟩⟩⟩⟩⟩⟩⟩⟩⟩⟩⟩⟩⟩⟩⟩⟩⟩⟩⟩
set_option maxRecDepth 100000 in
theorem wt_672 : Cond.code yX3_bestByGraph cX3_bestByGraph 2 (some .int) ∈ lw_tbl := List.mem_append_right _ (List.mem_append_right _ (List.mem_append_right _ (List.mem_of_getElem? (l := tables_1_3) (i := 157) (by first | exact rfl | decide +kernel))))
set_option maxRecDepth 100000 in
theorem wt_673 : Cond.methodLink RX3 127 yX3_bestReached ∈ lw_tbl := List.mem_append_right _ (List.mem_append_right _ (List.mem_append_right _ (List.mem_of_getElem? (l := tables_1_3) (i := 158) (by first | exact rfl | decide +kernel))))
set_option maxRecDepth 100000 in
theorem wt_675 : Cond.instanceMethod yX3_bestReached ∈ lw_tbl := List.mem_append_right _ (List.mem_append_right _ (List.mem_append_right _ (List.mem_of_getElem? (l := tables_1_3) (i := 160) (by first | exact rfl | decide +kernel))))
theorem wt_33 : Cond.selects RX3 yX3_bestReached yX3_bestReached ∈ lw_tbl := List.mem_of_getElem? (i := 33) (by decide +kernel)
set_option maxRecDepth 100000 in
theorem wt_676 : Cond.code yX3_bestReached cX3_bestReached 7 (some .int) ∈ lw_tbl := List.mem_append_right _ (List.mem_append_right _ (List.mem_append_right _ (List.mem_of_getElem? (l := tables_1_3) (i := 161) (by first | exact rfl | decide +kernel))))
set_option maxRecDepth 100000 in
theorem wt_677 : Cond.methodLink RX3 124 yX3_layDistances ∈ lw_tbl := List.mem_append_right _ (List.mem_append_right _ (List.mem_append_right _ (List.mem_of_getElem? (l := tables_1_3) (i := 162) (by first | exact rfl | decide +kernel))))
set_option maxRecDepth 100000 in
theorem wt_679 : Cond.instanceMethod yX3_layDistances ∈ lw_tbl := List.mem_append_right _ (List.mem_append_right _ (List.mem_append_right _ (List.mem_of_getElem? (l := tables_1_3) (i := 164) (by first | exact rfl | decide +kernel))))
theorem wt_34 : Cond.selects RX3 yX3_layDistances yX3_layDistances ∈ lw_tbl := List.mem_of_getElem? (i := 34) (by decide +kernel)
set_option maxRecDepth 100000 in
theorem wt_680 : Cond.code yX3_layDistances cX3_layDistances 5 none ∈ lw_tbl := List.mem_append_right _ (List.mem_append_right _ (List.mem_append_right _ (List.mem_of_getElem? (l := tables_1_3) (i := 165) (by first | exact rfl | decide +kernel))))
set_option maxRecDepth 100000 in
theorem wt_455 : Cond.methodLink RL 130 yL_stepsByGraph ∈ lw_tbl := List.mem_append_right _ (List.mem_append_right _ (List.mem_append_left _ (List.mem_of_getElem? (l := tables_1_2) (i := 180) (by first | exact rfl | decide +kernel))))
set_option maxRecDepth 100000 in
theorem wt_456 : Cond.static yL_stepsByGraph ∈ lw_tbl := List.mem_append_right _ (List.mem_append_right _ (List.mem_append_left _ (List.mem_of_getElem? (l := tables_1_2) (i := 181) (by first | exact rfl | decide +kernel))))
set_option maxRecDepth 100000 in
theorem wt_457 : Cond.codeWith yL_stepsByGraph cL_stepsByGraph 4 (some .int) [(0, 9, 12, 21)] ∈ lw_tbl := List.mem_append_right _ (List.mem_append_right _ (List.mem_append_left _ (List.mem_of_getElem? (l := tables_1_2) (i := 182) (by first | exact rfl | decide +kernel))))
set_option maxRecDepth 100000 in
theorem wt_458 : Cond.methodLink RL 59 yX2_stepsByGraph ∈ lw_tbl := List.mem_append_right _ (List.mem_append_right _ (List.mem_append_left _ (List.mem_of_getElem? (l := tables_1_2) (i := 183) (by first | exact rfl | decide +kernel))))
set_option maxRecDepth 100000 in
theorem wt_459 : Cond.instanceMethod yX2_stepsByGraph ∈ lw_tbl := List.mem_append_right _ (List.mem_append_right _ (List.mem_append_left _ (List.mem_of_getElem? (l := tables_1_2) (i := 184) (by first | exact rfl | decide +kernel))))
set_option maxRecDepth 100000 in
theorem wt_460 : Cond.selects RX2 yX2_stepsByGraph yX2_stepsByGraph ∈ lw_tbl := List.mem_append_right _ (List.mem_append_right _ (List.mem_append_left _ (List.mem_of_getElem? (l := tables_1_2) (i := 185) (by first | exact rfl | decide +kernel))))
set_option maxRecDepth 100000 in
theorem wt_461 : Cond.code yX2_stepsByGraph cX2_stepsByGraph 2 (some .int) ∈ lw_tbl := List.mem_append_right _ (List.mem_append_right _ (List.mem_append_left _ (List.mem_of_getElem? (l := tables_1_2) (i := 186) (by first | exact rfl | decide +kernel))))
set_option maxRecDepth 100000 in
theorem wt_681 : Cond.methodLink RL 132 yX3_stepsByGraph ∈ lw_tbl := List.mem_append_right _ (List.mem_append_right _ (List.mem_append_right _ (List.mem_of_getElem? (l := tables_1_3) (i := 166) (by first | exact rfl | decide +kernel))))
set_option maxRecDepth 100000 in
theorem wt_682 : Cond.instanceMethod yX3_stepsByGraph ∈ lw_tbl := List.mem_append_right _ (List.mem_append_right _ (List.mem_append_right _ (List.mem_of_getElem? (l := tables_1_3) (i := 167) (by first | exact rfl | decide +kernel))))
set_option maxRecDepth 100000 in
theorem wt_683 : Cond.selects RX3 yX3_stepsByGraph yX3_stepsByGraph ∈ lw_tbl := List.mem_append_right _ (List.mem_append_right _ (List.mem_append_right _ (List.mem_of_getElem? (l := tables_1_3) (i := 168) (by first | exact rfl | decide +kernel))))
set_option maxRecDepth 100000 in
theorem wt_684 : Cond.code yX3_stepsByGraph cX3_stepsByGraph 2 (some .int) ∈ lw_tbl := List.mem_append_right _ (List.mem_append_right _ (List.mem_append_right _ (List.mem_of_getElem? (l := tables_1_3) (i := 169) (by first | exact rfl | decide +kernel))))
set_option maxRecDepth 100000 in
theorem wt_568 : Cond.methodLink RL 133 yX3_thrown ∈ lw_tbl := List.mem_append_right _ (List.mem_append_right _ (List.mem_append_right _ (List.mem_of_getElem? (l := tables_1_3) (i := 53) (by first | exact rfl | decide +kernel))))
set_option maxRecDepth 100000 in
theorem wt_569 : Cond.instanceMethod yX3_thrown ∈ lw_tbl := List.mem_append_right _ (List.mem_append_right _ (List.mem_append_right _ (List.mem_of_getElem? (l := tables_1_3) (i := 54) (by first | exact rfl | decide +kernel))))
set_option maxRecDepth 100000 in
theorem wt_570 : Cond.selects RX3 yX3_thrown yX3_thrown ∈ lw_tbl := List.mem_append_right _ (List.mem_append_right _ (List.mem_append_right _ (List.mem_of_getElem? (l := tables_1_3) (i := 55) (by first | exact rfl | decide +kernel))))
set_option maxRecDepth 100000 in
theorem wt_571 : Cond.code yX3_thrown cX3_thrown 1 (some .int) ∈ lw_tbl := List.mem_append_right _ (List.mem_append_right _ (List.mem_append_right _ (List.mem_of_getElem? (l := tables_1_3) (i := 56) (by first | exact rfl | decide +kernel))))
theorem wsL_law0_r17_in : ∀ w ∈ wsL_law0_r17, w ∈ lw_tbl := List.forall_mem_cons.mpr ⟨wt_672, List.forall_mem_cons.mpr ⟨wt_673, List.forall_mem_cons.mpr ⟨wt_675, List.forall_mem_cons.mpr ⟨wt_33, List.forall_mem_cons.mpr ⟨wt_676, List.forall_mem_cons.mpr ⟨wt_677, List.forall_mem_cons.mpr ⟨wt_679, List.forall_mem_cons.mpr ⟨wt_34, List.forall_mem_cons.mpr ⟨wt_680, List.forall_mem_cons.mpr ⟨wt_455, List.forall_mem_cons.mpr ⟨wt_456, List.forall_mem_cons.mpr ⟨wt_457, List.forall_mem_cons.mpr ⟨wt_458, List.forall_mem_cons.mpr ⟨wt_459, List.forall_mem_cons.mpr ⟨wt_460, List.forall_mem_cons.mpr ⟨wt_461, List.forall_mem_cons.mpr ⟨wt_681, List.forall_mem_cons.mpr ⟨wt_682, List.forall_mem_cons.mpr ⟨wt_683, List.forall_mem_cons.mpr ⟨wt_684, List.forall_mem_cons.mpr ⟨wt_568, List.forall_mem_cons.mpr ⟨wt_569, List.forall_mem_cons.mpr ⟨wt_570, List.forall_mem_cons.mpr ⟨wt_571, fun _ h => absurd h List.not_mem_nil⟩⟩⟩⟩⟩⟩⟩⟩⟩⟩⟩⟩⟩⟩⟩⟩⟩⟩⟩⟩⟩⟩⟩⟩
set_option maxRecDepth 100000 in
theorem wt_145 : Cond.methodLink RL 136 yX2_isSettled ∈ lw_tbl := List.mem_append_right _ (List.mem_append_left _ (List.mem_of_getElem? (l := tables_1_1) (i := 110) (by first | exact rfl | decide +kernel)))
set_option maxRecDepth 100000 in
theorem wt_146 : Cond.instanceMethod yX2_isSettled ∈ lw_tbl := List.mem_append_right _ (List.mem_append_left _ (List.mem_of_getElem? (l := tables_1_1) (i := 111) (by first | exact rfl | decide +kernel)))
set_option maxRecDepth 100000 in
theorem wt_147 : Cond.selects RX2 yX2_isSettled yX2_isSettled ∈ lw_tbl := List.mem_append_right _ (List.mem_append_left _ (List.mem_of_getElem? (l := tables_1_1) (i := 112) (by first | exact rfl | decide +kernel)))
set_option maxRecDepth 100000 in
theorem wt_148 : Cond.code yX2_isSettled cX2_isSettled 3 (some .boolean) ∈ lw_tbl := List.mem_append_right _ (List.mem_append_left _ (List.mem_of_getElem? (l := tables_1_1) (i := 113) (by first | exact rfl | decide +kernel)))
set_option maxRecDepth 100000 in
theorem wt_685 : Cond.methodLink RL 140 yX3_isSettled ∈ lw_tbl := List.mem_append_right _ (List.mem_append_right _ (List.mem_append_right _ (List.mem_of_getElem? (l := tables_1_3) (i := 170) (by first | exact rfl | decide +kernel))))
set_option maxRecDepth 100000 in
theorem wt_686 : Cond.instanceMethod yX3_isSettled ∈ lw_tbl := List.mem_append_right _ (List.mem_append_right _ (List.mem_append_right _ (List.mem_of_getElem? (l := tables_1_3) (i := 171) (by first | exact rfl | decide +kernel))))
set_option maxRecDepth 100000 in
theorem wt_687 : Cond.selects RX3 yX3_isSettled yX3_isSettled ∈ lw_tbl := List.mem_append_right _ (List.mem_append_right _ (List.mem_append_right _ (List.mem_of_getElem? (l := tables_1_3) (i := 172) (by first | exact rfl | decide +kernel))))
set_option maxRecDepth 100000 in
theorem wt_688 : Cond.code yX3_isSettled cX3_isSettled 4 (some .boolean) ∈ lw_tbl := List.mem_append_right _ (List.mem_append_right _ (List.mem_append_right _ (List.mem_of_getElem? (l := tables_1_3) (i := 173) (by first | exact rfl | decide +kernel))))
set_option maxRecDepth 100000 in
theorem wt_462 : Cond.methodLink RL 141 yL_offset ∈ lw_tbl := List.mem_append_right _ (List.mem_append_right _ (List.mem_append_left _ (List.mem_of_getElem? (l := tables_1_2) (i := 187) (by first | exact rfl | decide +kernel))))
set_option maxRecDepth 100000 in
theorem wt_463 : Cond.static yL_offset ∈ lw_tbl := List.mem_append_right _ (List.mem_append_right _ (List.mem_append_left _ (List.mem_of_getElem? (l := tables_1_2) (i := 188) (by first | exact rfl | decide +kernel))))
set_option maxRecDepth 100000 in
theorem wt_464 : Cond.codeWith yL_offset cL_offset 4 (some .int) [(0, 8, 11, 21)] ∈ lw_tbl := List.mem_append_right _ (List.mem_append_right _ (List.mem_append_left _ (List.mem_of_getElem? (l := tables_1_2) (i := 189) (by first | exact rfl | decide +kernel))))
set_option maxRecDepth 100000 in
theorem wt_465 : Cond.methodLink RL 62 yX2_offset ∈ lw_tbl := List.mem_append_right _ (List.mem_append_right _ (List.mem_append_left _ (List.mem_of_getElem? (l := tables_1_2) (i := 190) (by first | exact rfl | decide +kernel))))
set_option maxRecDepth 100000 in
theorem wt_466 : Cond.instanceMethod yX2_offset ∈ lw_tbl := List.mem_append_right _ (List.mem_append_right _ (List.mem_append_left _ (List.mem_of_getElem? (l := tables_1_2) (i := 191) (by first | exact rfl | decide +kernel))))
set_option maxRecDepth 100000 in
theorem wt_467 : Cond.selects RX2 yX2_offset yX2_offset ∈ lw_tbl := List.mem_append_right _ (List.mem_append_right _ (List.mem_append_left _ (List.mem_of_getElem? (l := tables_1_2) (i := 192) (by first | exact rfl | decide +kernel))))
set_option maxRecDepth 100000 in
theorem wt_468 : Cond.code yX2_offset cX2_offset 2 (some .long) ∈ lw_tbl := List.mem_append_right _ (List.mem_append_right _ (List.mem_append_left _ (List.mem_of_getElem? (l := tables_1_2) (i := 193) (by first | exact rfl | decide +kernel))))
set_option maxRecDepth 100000 in
theorem wt_689 : Cond.methodLink RL 143 yX3_offset ∈ lw_tbl := List.mem_append_right _ (List.mem_append_right _ (List.mem_append_right _ (List.mem_of_getElem? (l := tables_1_3) (i := 174) (by first | exact rfl | decide +kernel))))
set_option maxRecDepth 100000 in
theorem wt_690 : Cond.instanceMethod yX3_offset ∈ lw_tbl := List.mem_append_right _ (List.mem_append_right _ (List.mem_append_right _ (List.mem_of_getElem? (l := tables_1_3) (i := 175) (by first | exact rfl | decide +kernel))))
set_option maxRecDepth 100000 in
theorem wt_691 : Cond.selects RX3 yX3_offset yX3_offset ∈ lw_tbl := List.mem_append_right _ (List.mem_append_right _ (List.mem_append_right _ (List.mem_of_getElem? (l := tables_1_3) (i := 176) (by first | exact rfl | decide +kernel))))
set_option maxRecDepth 100000 in
theorem wt_692 : Cond.code yX3_offset cX3_offset 2 (some .long) ∈ lw_tbl := List.mem_append_right _ (List.mem_append_right _ (List.mem_append_right _ (List.mem_of_getElem? (l := tables_1_3) (i := 177) (by first | exact rfl | decide +kernel))))
set_option maxRecDepth 100000 in
theorem wt_469 : Cond.methodLink RL 144 yL_rate ∈ lw_tbl := List.mem_append_right _ (List.mem_append_right _ (List.mem_append_left _ (List.mem_of_getElem? (l := tables_1_2) (i := 194) (by first | exact rfl | decide +kernel))))
set_option maxRecDepth 100000 in
theorem wt_470 : Cond.static yL_rate ∈ lw_tbl := List.mem_append_right _ (List.mem_append_right _ (List.mem_append_left _ (List.mem_of_getElem? (l := tables_1_2) (i := 195) (by first | exact rfl | decide +kernel))))
set_option maxRecDepth 100000 in
theorem wt_471 : Cond.codeWith yL_rate cL_rate 4 (some .int) [(0, 8, 11, 21)] ∈ lw_tbl := List.mem_append_right _ (List.mem_append_right _ (List.mem_append_left _ (List.mem_of_getElem? (l := tables_1_2) (i := 196) (by first | exact rfl | decide +kernel))))
set_option maxRecDepth 100000 in
theorem wt_472 : Cond.methodLink RL 66 yX2_rate ∈ lw_tbl := List.mem_append_right _ (List.mem_append_right _ (List.mem_append_left _ (List.mem_of_getElem? (l := tables_1_2) (i := 197) (by first | exact rfl | decide +kernel))))
set_option maxRecDepth 100000 in
theorem wt_473 : Cond.instanceMethod yX2_rate ∈ lw_tbl := List.mem_append_right _ (List.mem_append_right _ (List.mem_append_left _ (List.mem_of_getElem? (l := tables_1_2) (i := 198) (by first | exact rfl | decide +kernel))))
theorem wsL_law0_r18_in : ∀ w ∈ wsL_law0_r18, w ∈ lw_tbl := List.forall_mem_cons.mpr ⟨wt_145, List.forall_mem_cons.mpr ⟨wt_146, List.forall_mem_cons.mpr ⟨wt_147, List.forall_mem_cons.mpr ⟨wt_148, List.forall_mem_cons.mpr ⟨wt_685, List.forall_mem_cons.mpr ⟨wt_686, List.forall_mem_cons.mpr ⟨wt_687, List.forall_mem_cons.mpr ⟨wt_688, List.forall_mem_cons.mpr ⟨wt_462, List.forall_mem_cons.mpr ⟨wt_463, List.forall_mem_cons.mpr ⟨wt_464, List.forall_mem_cons.mpr ⟨wt_465, List.forall_mem_cons.mpr ⟨wt_466, List.forall_mem_cons.mpr ⟨wt_467, List.forall_mem_cons.mpr ⟨wt_468, List.forall_mem_cons.mpr ⟨wt_689, List.forall_mem_cons.mpr ⟨wt_690, List.forall_mem_cons.mpr ⟨wt_691, List.forall_mem_cons.mpr ⟨wt_692, List.forall_mem_cons.mpr ⟨wt_469, List.forall_mem_cons.mpr ⟨wt_470, List.forall_mem_cons.mpr ⟨wt_471, List.forall_mem_cons.mpr ⟨wt_472, List.forall_mem_cons.mpr ⟨wt_473, fun _ h => absurd h List.not_mem_nil⟩⟩⟩⟩⟩⟩⟩⟩⟩⟩⟩⟩⟩⟩⟩⟩⟩⟩⟩⟩⟩⟩⟩⟩
set_option maxRecDepth 100000 in
theorem wt_474 : Cond.selects RX2 yX2_rate yX2_rate ∈ lw_tbl := List.mem_append_right _ (List.mem_append_right _ (List.mem_append_left _ (List.mem_of_getElem? (l := tables_1_2) (i := 199) (by first | exact rfl | decide +kernel))))
set_option maxRecDepth 100000 in
theorem wt_475 : Cond.code yX2_rate cX2_rate 2 (some .long) ∈ lw_tbl := List.mem_append_right _ (List.mem_append_right _ (List.mem_append_left _ (List.mem_of_getElem? (l := tables_1_2) (i := 200) (by first | exact rfl | decide +kernel))))
set_option maxRecDepth 100000 in
theorem wt_693 : Cond.methodLink RL 146 yX3_rate ∈ lw_tbl := List.mem_append_right _ (List.mem_append_right _ (List.mem_append_right _ (List.mem_of_getElem? (l := tables_1_3) (i := 178) (by first | exact rfl | decide +kernel))))
set_option maxRecDepth 100000 in
theorem wt_694 : Cond.instanceMethod yX3_rate ∈ lw_tbl := List.mem_append_right _ (List.mem_append_right _ (List.mem_append_right _ (List.mem_of_getElem? (l := tables_1_3) (i := 179) (by first | exact rfl | decide +kernel))))
set_option maxRecDepth 100000 in
theorem wt_695 : Cond.selects RX3 yX3_rate yX3_rate ∈ lw_tbl := List.mem_append_right _ (List.mem_append_right _ (List.mem_append_right _ (List.mem_of_getElem? (l := tables_1_3) (i := 180) (by first | exact rfl | decide +kernel))))
set_option maxRecDepth 100000 in
theorem wt_696 : Cond.code yX3_rate cX3_rate 2 (some .long) ∈ lw_tbl := List.mem_append_right _ (List.mem_append_right _ (List.mem_append_right _ (List.mem_of_getElem? (l := tables_1_3) (i := 181) (by first | exact rfl | decide +kernel))))
set_option maxRecDepth 100000 in
theorem wt_476 : Cond.methodLink RL 147 yL_spread ∈ lw_tbl := List.mem_append_right _ (List.mem_append_right _ (List.mem_append_left _ (List.mem_of_getElem? (l := tables_1_2) (i := 201) (by first | exact rfl | decide +kernel))))
set_option maxRecDepth 100000 in
theorem wt_477 : Cond.static yL_spread ∈ lw_tbl := List.mem_append_right _ (List.mem_append_right _ (List.mem_append_left _ (List.mem_of_getElem? (l := tables_1_2) (i := 202) (by first | exact rfl | decide +kernel))))
set_option maxRecDepth 100000 in
theorem wt_478 : Cond.codeWith yL_spread cL_spread 4 (some .int) [(0, 8, 11, 13)] ∈ lw_tbl := List.mem_append_right _ (List.mem_append_right _ (List.mem_append_left _ (List.mem_of_getElem? (l := tables_1_2) (i := 203) (by first | exact rfl | decide +kernel))))
set_option maxRecDepth 100000 in
theorem wt_479 : Cond.methodLink RL 69 yX2_spread ∈ lw_tbl := List.mem_append_right _ (List.mem_append_right _ (List.mem_append_left _ (List.mem_of_getElem? (l := tables_1_2) (i := 204) (by first | exact rfl | decide +kernel))))
set_option maxRecDepth 100000 in
theorem wt_480 : Cond.instanceMethod yX2_spread ∈ lw_tbl := List.mem_append_right _ (List.mem_append_right _ (List.mem_append_left _ (List.mem_of_getElem? (l := tables_1_2) (i := 205) (by first | exact rfl | decide +kernel))))
set_option maxRecDepth 100000 in
theorem wt_481 : Cond.selects RX2 yX2_spread yX2_spread ∈ lw_tbl := List.mem_append_right _ (List.mem_append_right _ (List.mem_append_left _ (List.mem_of_getElem? (l := tables_1_2) (i := 206) (by first | exact rfl | decide +kernel))))
set_option maxRecDepth 100000 in
theorem wt_482 : Cond.code yX2_spread cX2_spread 8 (some .long) ∈ lw_tbl := List.mem_append_right _ (List.mem_append_right _ (List.mem_append_left _ (List.mem_of_getElem? (l := tables_1_2) (i := 207) (by first | exact rfl | decide +kernel))))
set_option maxRecDepth 100000 in
theorem wt_483 : Cond.methodLink RX2 135 Lib.MathLoose.min_long.x ∈ lw_tbl := List.mem_append_right _ (List.mem_append_right _ (List.mem_append_left _ (List.mem_of_getElem? (l := tables_1_2) (i := 208) (by first | exact rfl | decide +kernel))))
set_option maxRecDepth 100000 in
theorem wt_484 : Cond.static Lib.MathLoose.min_long.x ∈ lw_tbl := List.mem_append_right _ (List.mem_append_right _ (List.mem_append_left _ (List.mem_of_getElem? (l := tables_1_2) (i := 209) (by first | exact rfl | decide +kernel))))
set_option maxRecDepth 100000 in
theorem wt_46 : Cond.initialized "java/lang/Math" ∈ lw_tbl := List.mem_append_right _ (List.mem_append_left _ (List.mem_of_getElem? (l := tables_1_1) (i := 11) (by first | exact rfl | decide +kernel)))
set_option maxRecDepth 100000 in
theorem wt_485 : Cond.code Lib.MathLoose.min_long.x Lib.MathLoose.min_long.code 4 (some .long) ∈ lw_tbl := List.mem_append_right _ (List.mem_append_right _ (List.mem_append_left _ (List.mem_of_getElem? (l := tables_1_2) (i := 210) (by first | exact rfl | decide +kernel))))
set_option maxRecDepth 100000 in
theorem wt_486 : Cond.methodLink RX2 141 Lib.MathLoose.max_long.x ∈ lw_tbl := List.mem_append_right _ (List.mem_append_right _ (List.mem_append_left _ (List.mem_of_getElem? (l := tables_1_2) (i := 211) (by first | exact rfl | decide +kernel))))
set_option maxRecDepth 100000 in
theorem wt_487 : Cond.static Lib.MathLoose.max_long.x ∈ lw_tbl := List.mem_append_right _ (List.mem_append_right _ (List.mem_append_left _ (List.mem_of_getElem? (l := tables_1_2) (i := 212) (by first | exact rfl | decide +kernel))))
set_option maxRecDepth 100000 in
theorem wt_488 : Cond.code Lib.MathLoose.max_long.x Lib.MathLoose.max_long.code 4 (some .long) ∈ lw_tbl := List.mem_append_right _ (List.mem_append_right _ (List.mem_append_left _ (List.mem_of_getElem? (l := tables_1_2) (i := 213) (by first | exact rfl | decide +kernel))))
set_option maxRecDepth 100000 in
theorem wt_697 : Cond.methodLink RL 149 yX3_spread ∈ lw_tbl := List.mem_append_right _ (List.mem_append_right _ (List.mem_append_right _ (List.mem_of_getElem? (l := tables_1_3) (i := 182) (by first | exact rfl | decide +kernel))))
set_option maxRecDepth 100000 in
theorem wt_698 : Cond.instanceMethod yX3_spread ∈ lw_tbl := List.mem_append_right _ (List.mem_append_right _ (List.mem_append_right _ (List.mem_of_getElem? (l := tables_1_3) (i := 183) (by first | exact rfl | decide +kernel))))
set_option maxRecDepth 100000 in
theorem wt_699 : Cond.selects RX3 yX3_spread yX3_spread ∈ lw_tbl := List.mem_append_right _ (List.mem_append_right _ (List.mem_append_right _ (List.mem_of_getElem? (l := tables_1_3) (i := 184) (by first | exact rfl | decide +kernel))))
set_option maxRecDepth 100000 in
theorem wt_700 : Cond.code yX3_spread cX3_spread 8 (some .long) ∈ lw_tbl := List.mem_append_right _ (List.mem_append_right _ (List.mem_append_right _ (List.mem_of_getElem? (l := tables_1_3) (i := 185) (by first | exact rfl | decide +kernel))))
theorem wsL_law0_r19_in : ∀ w ∈ wsL_law0_r19, w ∈ lw_tbl := List.forall_mem_cons.mpr ⟨wt_474, List.forall_mem_cons.mpr ⟨wt_475, List.forall_mem_cons.mpr ⟨wt_693, List.forall_mem_cons.mpr ⟨wt_694, List.forall_mem_cons.mpr ⟨wt_695, List.forall_mem_cons.mpr ⟨wt_696, List.forall_mem_cons.mpr ⟨wt_476, List.forall_mem_cons.mpr ⟨wt_477, List.forall_mem_cons.mpr ⟨wt_478, List.forall_mem_cons.mpr ⟨wt_479, List.forall_mem_cons.mpr ⟨wt_480, List.forall_mem_cons.mpr ⟨wt_481, List.forall_mem_cons.mpr ⟨wt_482, List.forall_mem_cons.mpr ⟨wt_483, List.forall_mem_cons.mpr ⟨wt_484, List.forall_mem_cons.mpr ⟨wt_46, List.forall_mem_cons.mpr ⟨wt_485, List.forall_mem_cons.mpr ⟨wt_486, List.forall_mem_cons.mpr ⟨wt_487, List.forall_mem_cons.mpr ⟨wt_488, List.forall_mem_cons.mpr ⟨wt_697, List.forall_mem_cons.mpr ⟨wt_698, List.forall_mem_cons.mpr ⟨wt_699, List.forall_mem_cons.mpr ⟨wt_700, fun _ h => absurd h List.not_mem_nil⟩⟩⟩⟩⟩⟩⟩⟩⟩⟩⟩⟩⟩⟩⟩⟩⟩⟩⟩⟩⟩⟩⟩⟩
theorem wsX20_in0 : ∀ w ∈ wsX20, w ∈ lw_tbl := by decide +kernel
theorem wsX30_in0 : ∀ w ∈ wsX30, w ∈ lw_tbl := by decide +kernel
theorem wsX10_in0 : ∀ w ∈ wsX10, w ∈ lw_tbl := by decide +kernel
theorem wsX00_in0 : ∀ w ∈ wsX00, w ∈ lw_tbl := by decide +kernel
theorem wsL_law_in0 : ∀ w ∈ wsL_law0, w ∈ lw_tbl := fun w h => (List.mem_append.mp h).elim (fun h => (List.mem_append.mp h).elim (fun h => (List.mem_append.mp h).elim (fun h => (List.mem_append.mp h).elim (fun h => (List.mem_append.mp h).elim (fun h => (List.mem_append.mp h).elim (fun h => wsL_law0_r1_in w h) (fun h => (List.mem_append.mp h).elim (fun h => wsL_law0_r2_in w h) (fun h => (List.mem_append.mp h).elim (fun h => wsL_law0_r3_in w h) (fun h => (List.mem_append.mp h).elim (fun h => wsL_law0_r4_in w h) (fun h => (List.mem_append.mp h).elim (fun h => wsL_law0_r5_in w h) (fun h => (List.mem_append.mp h).elim (fun h => wsL_law0_r6_in w h) (fun h => (List.mem_append.mp h).elim (fun h => wsL_law0_r7_in w h) (fun h => (List.mem_append.mp h).elim (fun h => wsL_law0_r8_in w h) (fun h => (List.mem_append.mp h).elim (fun h => wsL_law0_r9_in w h) (fun h => (List.mem_append.mp h).elim (fun h => wsL_law0_r10_in w h) (fun h => (List.mem_append.mp h).elim (fun h => wsL_law0_r11_in w h) (fun h => (List.mem_append.mp h).elim (fun h => wsL_law0_r12_in w h) (fun h => (List.mem_append.mp h).elim (fun h => wsL_law0_r13_in w h) (fun h => (List.mem_append.mp h).elim (fun h => wsL_law0_r14_in w h) (fun h => (List.mem_append.mp h).elim (fun h => wsL_law0_r15_in w h) (fun h => (List.mem_append.mp h).elim (fun h => wsL_law0_r16_in w h) (fun h => (List.mem_append.mp h).elim (fun h => wsL_law0_r17_in w h) (fun h => (List.mem_append.mp h).elim (fun h => wsL_law0_r18_in w h) (fun h => wsL_law0_r19_in w h))))))))))))))))))) (fun h => wsX20_in0 w h)) (fun h => wsX30_in0 w h)) (fun h => wsX10_in0 w h)) (fun h => wsX00_in0 w h)) (fun h => nomatch h)
theorem wsL_law_x0 : ∀ w ∈ (vx_atS RX2 64 "java/lang/IllegalStateException" ["java/lang/RuntimeException", "java/lang/Exception"]).filter goodWord, w ∈ lw_tbl := by decide +kernel
theorem wsL_law_x1 : ∀ w ∈ (vx_atS RX2 80 "java/lang/IllegalArgumentException" ["java/lang/RuntimeException", "java/lang/Exception"]).filter goodWord, w ∈ lw_tbl := by decide +kernel
theorem wsL_law_x2 : ∀ w ∈ (vx_atS RX2 152 "java/lang/IndexOutOfBoundsException" ["java/lang/RuntimeException", "java/lang/Exception"]).filter goodWord, w ∈ lw_tbl := by decide +kernel
theorem wsL_law_in : ∀ w ∈ wsL_law, w ∈ lw_tbl := fun w h => (List.mem_append.mp h).elim (fun h => (List.mem_append.mp h).elim (fun h => (List.mem_append.mp h).elim (fun h => wsL_law_in0 w h) (fun h => wsL_law_x0 w h)) (fun h => wsL_law_x1 w h)) (fun h => wsL_law_x2 w h)
theorem inlX0 : ∀ w ∈ wsX00, w ∈ wsL_law := fun _ h => List.mem_append_left _ (List.mem_append_left _ (List.mem_append_left _ (List.mem_append_left _ (List.mem_append_right _ h))))
theorem inX0 : ∀ w ∈ wsX00, w ∈ lw_tbl := fun w h => wsL_law_in w (inlX0 w h)
theorem inlX1 : ∀ w ∈ wsX10, w ∈ wsL_law := fun _ h => List.mem_append_left _ (List.mem_append_left _ (List.mem_append_left _ (List.mem_append_left _ (List.mem_append_left _ (List.mem_append_right _ h)))))
theorem inX1 : ∀ w ∈ wsX10, w ∈ lw_tbl := fun w h => wsL_law_in w (inlX1 w h)
theorem inlX2 : ∀ w ∈ wsX20, w ∈ wsL_law := fun _ h => List.mem_append_left _ (List.mem_append_left _ (List.mem_append_left _ (List.mem_append_left _ (List.mem_append_left _ (List.mem_append_left _ (List.mem_append_left _ (List.mem_append_right _ h)))))))
theorem inX2 : ∀ w ∈ wsX20, w ∈ lw_tbl := fun w h => wsL_law_in w (inlX2 w h)
theorem inlX3 : ∀ w ∈ wsX30, w ∈ wsL_law := fun _ h => List.mem_append_left _ (List.mem_append_left _ (List.mem_append_left _ (List.mem_append_left _ (List.mem_append_left _ (List.mem_append_left _ (List.mem_append_right _ h))))))
theorem inX3 : ∀ w ∈ wsX30, w ∈ lw_tbl := fun w h => wsL_law_in w (inlX3 w h)
theorem inJ9 : ∀ w ∈ wsJ90, w ∈ lw_tbl := by decide +kernel
theorem inJ0 : ∀ w ∈ wsJ00, w ∈ lw_tbl := by decide +kernel
