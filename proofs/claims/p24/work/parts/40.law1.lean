def wsL_cell : List Cond := .code yL_cell cL_cell 2 (some .int) :: ([])
def wsL_low : List Cond := .code yL_low cL_low 2 (some .int) :: ([.constant RL 7 (2147483647)])
def wsL_all_r1 : List Cond := [Cond.constantLong RL 8 (29), Cond.constantLong RL 10 (31), Cond.methodLink RL 12 yX5_count, Cond.instanceMethod yX5_count, Cond.selects RX5 yX5_count yX5_count, Cond.initialized RX5, Cond.code yX5_count cX5_count 2 (some .int), Cond.fieldLink RX5 10 "HeadBudgets" "now" "LHeadBudgets$Books;", Cond.fieldLink RX5 97 "HeadBudgets$Books" "year" "I", Cond.fieldLink RX5 23 "HeadBudgets$Books" "heads" "LHeadBudgets$Heads;", Cond.fieldLink RX5 41 "HeadBudgets$Heads" "made" "I", Cond.fieldLink RX5 82 "HeadBudgets$Books" "commitments" "LHeadBudgets$Commitments;", Cond.fieldLink RX5 86 "HeadBudgets$Commitments" "made" "I", Cond.fieldLink RX5 72 "HeadBudgets$Books" "carriedPart" "I", Cond.fieldLink RX5 144 "HeadBudgets$Books" "lapsed" "I", Cond.fieldLink RX5 116 "HeadBudgets$Books" "spent" "I", Cond.fieldLink RX5 19 "HeadBudgets" "memory" "LHeadBudgets$Memory;", Cond.fieldLink RX5 197 "HeadBudgets$Memory" "held" "I", Cond.methodLink RX5 191 yX1_countOpen, Cond.instanceMethod yX1_countOpen, Cond.selects RX1 yX1_countOpen yX1_countOpen, Cond.initialized RX1, Cond.code yX1_countOpen cX1_countOpen 3 (some .int), Cond.fieldLink RX1 15 "HeadBudgets$Commitments" "open" "[I"]
def wsL_all_r2 : List Cond := [Cond.methodLink RX5 62 yX3_countBarred, Cond.instanceMethod yX3_countBarred, Cond.selects RX3 yX3_countBarred yX3_countBarred, Cond.initialized RX3, Cond.code yX3_countBarred cX3_countBarred 3 (some .int), Cond.methodLink RX3 56 yX3_isBarred, Cond.instanceMethod yX3_isBarred, Cond.selects RX3 yX3_isBarred yX3_isBarred, Cond.code yX3_isBarred cX3_isBarred 4 (some .boolean), Cond.fieldLink RX3 21 "HeadBudgets$Heads" "frozen" "[I", Cond.fieldLink RX3 9 "HeadBudgets$Heads" "above" "[I", Cond.methodLink RX3 52 yX3_has, Cond.instanceMethod yX3_has, Cond.selects RX3 yX3_has yX3_has, Cond.code yX3_has cX3_has 2 (some .boolean), Cond.fieldLink RX3 48 "HeadBudgets$Heads" "made" "I", Cond.methodLink RX5 194 yX3_sumWithin, Cond.instanceMethod yX3_sumWithin, Cond.selects RX3 yX3_sumWithin yX3_sumWithin, Cond.code yX3_sumWithin cX3_sumWithin 5 (some .int), Cond.methodLink RX3 59 yX3_isWithin, Cond.instanceMethod yX3_isWithin, Cond.selects RX3 yX3_isWithin yX3_isWithin, Cond.code yX3_isWithin cX3_isWithin 5 (some .boolean)]
def wsL_all_r3 : List Cond := [Cond.methodLink RX3 63 yX3_summand, Cond.instanceMethod yX3_summand, Cond.selects RX3 yX3_summand yX3_summand, Cond.code yX3_summand cX3_summand 3 (some .int), Cond.fieldLink RX3 24 "HeadBudgets$Heads" "allotment" "[I", Cond.fieldLink RX3 27 "HeadBudgets$Heads" "committed" "[I", Cond.fieldLink RX3 30 "HeadBudgets$Heads" "spent" "[I", Cond.methodLink RX3 67 yX3_freeOf, Cond.instanceMethod yX3_freeOf, Cond.selects RX3 yX3_freeOf yX3_freeOf, Cond.code yX3_freeOf cX3_freeOf 2 (some .int), Cond.methodLink RL 18 yX5_head, Cond.instanceMethod yX5_head, Cond.selects RX5 yX5_head yX5_head, Cond.code yX5_head cX5_head 4 (some .int), Cond.fieldLink RX5 200 "HeadBudgets$Heads" "above" "[I", Cond.fieldLink RX5 37 "HeadBudgets$Heads" "depth" "[I", Cond.fieldLink RX5 203 "HeadBudgets$Heads" "rank" "[I", Cond.fieldLink RX5 59 "HeadBudgets$Heads" "frozen" "[I", Cond.fieldLink RX5 52 "HeadBudgets$Heads" "allotment" "[I", Cond.fieldLink RX5 206 "HeadBudgets$Heads" "committed" "[I", Cond.fieldLink RX5 209 "HeadBudgets$Heads" "spent" "[I", Cond.fieldLink RX5 56 "HeadBudgets$Heads" "allotted" "[I", Cond.fieldLink RX5 211 "HeadBudgets$Heads" "left" "[I"]
def wsL_all_r4 : List Cond := [Cond.fieldLink RX5 69 "HeadBudgets$Heads" "share" "[I", Cond.methodLink RX5 33 yX3_has, Cond.methodLink RX5 75 yX3_isBarred, Cond.methodLink RX5 78 yX3_freeOf, Cond.methodLink RL 22 yX5_wouldLapse, Cond.instanceMethod yX5_wouldLapse, Cond.selects RX5 yX5_wouldLapse yX5_wouldLapse, Cond.code yX5_wouldLapse cX5_wouldLapse 2 (some .int), Cond.methodLink RX5 137 yX3_lapseWithin, Cond.instanceMethod yX3_lapseWithin, Cond.selects RX3 yX3_lapseWithin yX3_lapseWithin, Cond.code yX3_lapseWithin cX3_lapseWithin 6 (some .int), Cond.static yX5_partOf, Cond.code yX5_partOf cX5_partOf 2 (some .int), Cond.constantLong RX5 223 (100), Cond.methodLink RL 25 yX5_commitment, Cond.instanceMethod yX5_commitment, Cond.selects RX5 yX5_commitment yX5_commitment, Cond.code yX5_commitment cX5_commitment 4 (some .int), Cond.fieldLink RX5 110 "HeadBudgets$Commitments" "head" "[I", Cond.fieldLink RX5 104 "HeadBudgets$Commitments" "open" "[I", Cond.fieldLink RX5 107 "HeadBudgets$Commitments" "paid" "[I", Cond.fieldLink RX5 214 "HeadBudgets$Commitments" "year" "[I", Cond.methodLink RX5 103 yX1_has]
def wsL_all_r5 : List Cond := [Cond.instanceMethod yX1_has, Cond.selects RX1 yX1_has yX1_has, Cond.code yX1_has cX1_has 2 (some .boolean), Cond.fieldLink RX1 30 "HeadBudgets$Commitments" "made" "I"]
def wsL_all : List Cond := .code yL_all cL_all 5 (some .long) :: ((wsL_all_r1 ++ (wsL_all_r2 ++ (wsL_all_r3 ++ (wsL_all_r4 ++ wsL_all_r5)))) ++ wsX50 ++ wsX00 ++ wsX30 ++ wsX10 ++ wsX40)
def wsL_isSound_r1 : List Cond := [Cond.methodLink RL 12 yX5_count, Cond.instanceMethod yX5_count, Cond.selects RX5 yX5_count yX5_count, Cond.initialized RX5, Cond.code yX5_count cX5_count 2 (some .int), Cond.fieldLink RX5 10 "HeadBudgets" "now" "LHeadBudgets$Books;", Cond.fieldLink RX5 97 "HeadBudgets$Books" "year" "I", Cond.fieldLink RX5 23 "HeadBudgets$Books" "heads" "LHeadBudgets$Heads;", Cond.fieldLink RX5 41 "HeadBudgets$Heads" "made" "I", Cond.fieldLink RX5 82 "HeadBudgets$Books" "commitments" "LHeadBudgets$Commitments;", Cond.fieldLink RX5 86 "HeadBudgets$Commitments" "made" "I", Cond.fieldLink RX5 72 "HeadBudgets$Books" "carriedPart" "I", Cond.fieldLink RX5 144 "HeadBudgets$Books" "lapsed" "I", Cond.fieldLink RX5 116 "HeadBudgets$Books" "spent" "I", Cond.fieldLink RX5 19 "HeadBudgets" "memory" "LHeadBudgets$Memory;", Cond.fieldLink RX5 197 "HeadBudgets$Memory" "held" "I", Cond.methodLink RX5 191 yX1_countOpen, Cond.instanceMethod yX1_countOpen, Cond.selects RX1 yX1_countOpen yX1_countOpen, Cond.initialized RX1, Cond.code yX1_countOpen cX1_countOpen 3 (some .int), Cond.fieldLink RX1 15 "HeadBudgets$Commitments" "open" "[I", Cond.methodLink RX5 62 yX3_countBarred, Cond.instanceMethod yX3_countBarred]
def wsL_isSound_r2 : List Cond := [Cond.selects RX3 yX3_countBarred yX3_countBarred, Cond.initialized RX3, Cond.code yX3_countBarred cX3_countBarred 3 (some .int), Cond.methodLink RX3 56 yX3_isBarred, Cond.instanceMethod yX3_isBarred, Cond.selects RX3 yX3_isBarred yX3_isBarred, Cond.code yX3_isBarred cX3_isBarred 4 (some .boolean), Cond.fieldLink RX3 21 "HeadBudgets$Heads" "frozen" "[I", Cond.fieldLink RX3 9 "HeadBudgets$Heads" "above" "[I", Cond.methodLink RX3 52 yX3_has, Cond.instanceMethod yX3_has, Cond.selects RX3 yX3_has yX3_has, Cond.code yX3_has cX3_has 2 (some .boolean), Cond.fieldLink RX3 48 "HeadBudgets$Heads" "made" "I", Cond.methodLink RX5 194 yX3_sumWithin, Cond.instanceMethod yX3_sumWithin, Cond.selects RX3 yX3_sumWithin yX3_sumWithin, Cond.code yX3_sumWithin cX3_sumWithin 5 (some .int), Cond.methodLink RX3 59 yX3_isWithin, Cond.instanceMethod yX3_isWithin, Cond.selects RX3 yX3_isWithin yX3_isWithin, Cond.code yX3_isWithin cX3_isWithin 5 (some .boolean), Cond.methodLink RX3 63 yX3_summand, Cond.instanceMethod yX3_summand]
def wsL_isSound_r3 : List Cond := [Cond.selects RX3 yX3_summand yX3_summand, Cond.code yX3_summand cX3_summand 3 (some .int), Cond.fieldLink RX3 24 "HeadBudgets$Heads" "allotment" "[I", Cond.fieldLink RX3 27 "HeadBudgets$Heads" "committed" "[I", Cond.fieldLink RX3 30 "HeadBudgets$Heads" "spent" "[I", Cond.methodLink RX3 67 yX3_freeOf, Cond.instanceMethod yX3_freeOf, Cond.selects RX3 yX3_freeOf yX3_freeOf, Cond.code yX3_freeOf cX3_freeOf 2 (some .int), Cond.methodLink RL 18 yX5_head, Cond.instanceMethod yX5_head, Cond.selects RX5 yX5_head yX5_head, Cond.code yX5_head cX5_head 4 (some .int), Cond.fieldLink RX5 200 "HeadBudgets$Heads" "above" "[I", Cond.fieldLink RX5 37 "HeadBudgets$Heads" "depth" "[I", Cond.fieldLink RX5 203 "HeadBudgets$Heads" "rank" "[I", Cond.fieldLink RX5 59 "HeadBudgets$Heads" "frozen" "[I", Cond.fieldLink RX5 52 "HeadBudgets$Heads" "allotment" "[I", Cond.fieldLink RX5 206 "HeadBudgets$Heads" "committed" "[I", Cond.fieldLink RX5 209 "HeadBudgets$Heads" "spent" "[I", Cond.fieldLink RX5 56 "HeadBudgets$Heads" "allotted" "[I", Cond.fieldLink RX5 211 "HeadBudgets$Heads" "left" "[I", Cond.fieldLink RX5 69 "HeadBudgets$Heads" "share" "[I", Cond.methodLink RX5 33 yX3_has]
def wsL_isSound_r4 : List Cond := [Cond.methodLink RX5 75 yX3_isBarred, Cond.methodLink RX5 78 yX3_freeOf, Cond.methodLink RL 28 yX5_total, Cond.instanceMethod yX5_total, Cond.selects RX5 yX5_total yX5_total, Cond.code yX5_total cX5_total 3 (some .int), Cond.methodLink RL 25 yX5_commitment, Cond.instanceMethod yX5_commitment, Cond.selects RX5 yX5_commitment yX5_commitment, Cond.code yX5_commitment cX5_commitment 4 (some .int), Cond.fieldLink RX5 110 "HeadBudgets$Commitments" "head" "[I", Cond.fieldLink RX5 104 "HeadBudgets$Commitments" "open" "[I", Cond.fieldLink RX5 107 "HeadBudgets$Commitments" "paid" "[I", Cond.fieldLink RX5 214 "HeadBudgets$Commitments" "year" "[I", Cond.methodLink RX5 103 yX1_has, Cond.instanceMethod yX1_has, Cond.selects RX1 yX1_has yX1_has, Cond.code yX1_has cX1_has 2 (some .boolean), Cond.fieldLink RX1 30 "HeadBudgets$Commitments" "made" "I", Cond.methodLink RL 22 yX5_wouldLapse, Cond.instanceMethod yX5_wouldLapse, Cond.selects RX5 yX5_wouldLapse yX5_wouldLapse, Cond.code yX5_wouldLapse cX5_wouldLapse 2 (some .int), Cond.methodLink RX5 137 yX3_lapseWithin]
def wsL_isSound_r5 : List Cond := [Cond.instanceMethod yX3_lapseWithin, Cond.selects RX3 yX3_lapseWithin yX3_lapseWithin, Cond.code yX3_lapseWithin cX3_lapseWithin 6 (some .int), Cond.static yX5_partOf, Cond.code yX5_partOf cX5_partOf 2 (some .int), Cond.constantLong RX5 223 (100)]
def wsL_isSound : List Cond := .code yL_isSound cL_isSound 12 (some .boolean) :: ((wsL_isSound_r1 ++ (wsL_isSound_r2 ++ (wsL_isSound_r3 ++ (wsL_isSound_r4 ++ wsL_isSound_r5)))) ++ wsX50 ++ wsX00 ++ wsX30 ++ wsX10 ++ wsX40)
def wsL_isMost_r1 : List Cond := [Cond.constant RL 50 (100000), Cond.methodLink RL 12 yX5_count, Cond.instanceMethod yX5_count, Cond.selects RX5 yX5_count yX5_count, Cond.initialized RX5, Cond.code yX5_count cX5_count 2 (some .int), Cond.fieldLink RX5 10 "HeadBudgets" "now" "LHeadBudgets$Books;", Cond.fieldLink RX5 97 "HeadBudgets$Books" "year" "I", Cond.fieldLink RX5 23 "HeadBudgets$Books" "heads" "LHeadBudgets$Heads;", Cond.fieldLink RX5 41 "HeadBudgets$Heads" "made" "I", Cond.fieldLink RX5 82 "HeadBudgets$Books" "commitments" "LHeadBudgets$Commitments;", Cond.fieldLink RX5 86 "HeadBudgets$Commitments" "made" "I", Cond.fieldLink RX5 72 "HeadBudgets$Books" "carriedPart" "I", Cond.fieldLink RX5 144 "HeadBudgets$Books" "lapsed" "I", Cond.fieldLink RX5 116 "HeadBudgets$Books" "spent" "I", Cond.fieldLink RX5 19 "HeadBudgets" "memory" "LHeadBudgets$Memory;", Cond.fieldLink RX5 197 "HeadBudgets$Memory" "held" "I", Cond.methodLink RX5 191 yX1_countOpen, Cond.instanceMethod yX1_countOpen, Cond.selects RX1 yX1_countOpen yX1_countOpen, Cond.initialized RX1, Cond.code yX1_countOpen cX1_countOpen 3 (some .int), Cond.fieldLink RX1 15 "HeadBudgets$Commitments" "open" "[I", Cond.methodLink RX5 62 yX3_countBarred]
def wsL_isMost_r2 : List Cond := [Cond.instanceMethod yX3_countBarred, Cond.selects RX3 yX3_countBarred yX3_countBarred, Cond.initialized RX3, Cond.code yX3_countBarred cX3_countBarred 3 (some .int), Cond.methodLink RX3 56 yX3_isBarred, Cond.instanceMethod yX3_isBarred, Cond.selects RX3 yX3_isBarred yX3_isBarred, Cond.code yX3_isBarred cX3_isBarred 4 (some .boolean), Cond.fieldLink RX3 21 "HeadBudgets$Heads" "frozen" "[I", Cond.fieldLink RX3 9 "HeadBudgets$Heads" "above" "[I", Cond.methodLink RX3 52 yX3_has, Cond.instanceMethod yX3_has, Cond.selects RX3 yX3_has yX3_has, Cond.code yX3_has cX3_has 2 (some .boolean), Cond.fieldLink RX3 48 "HeadBudgets$Heads" "made" "I", Cond.methodLink RX5 194 yX3_sumWithin, Cond.instanceMethod yX3_sumWithin, Cond.selects RX3 yX3_sumWithin yX3_sumWithin, Cond.code yX3_sumWithin cX3_sumWithin 5 (some .int), Cond.methodLink RX3 59 yX3_isWithin, Cond.instanceMethod yX3_isWithin, Cond.selects RX3 yX3_isWithin yX3_isWithin, Cond.code yX3_isWithin cX3_isWithin 5 (some .boolean), Cond.methodLink RX3 63 yX3_summand]
def wsL_isMost_r3 : List Cond := [Cond.instanceMethod yX3_summand, Cond.selects RX3 yX3_summand yX3_summand, Cond.code yX3_summand cX3_summand 3 (some .int), Cond.fieldLink RX3 24 "HeadBudgets$Heads" "allotment" "[I", Cond.fieldLink RX3 27 "HeadBudgets$Heads" "committed" "[I", Cond.fieldLink RX3 30 "HeadBudgets$Heads" "spent" "[I", Cond.methodLink RX3 67 yX3_freeOf, Cond.instanceMethod yX3_freeOf, Cond.selects RX3 yX3_freeOf yX3_freeOf, Cond.code yX3_freeOf cX3_freeOf 2 (some .int), Cond.methodLink RL 31 yL_low, Cond.static yL_low, Cond.initialized RL, Cond.code yL_low cL_low 2 (some .int), Cond.constant RL 7 (2147483647), Cond.methodLink RL 36 yX5_mostFrom, Cond.instanceMethod yX5_mostFrom, Cond.selects RX5 yX5_mostFrom yX5_mostFrom, Cond.code yX5_mostFrom cX5_mostFrom 3 (some .int), Cond.methodLink RX5 122 yX3_hasBoth, Cond.instanceMethod yX3_hasBoth, Cond.selects RX3 yX3_hasBoth yX3_hasBoth, Cond.code yX3_hasBoth cX3_hasBoth 3 (some .boolean), Cond.methodLink RX5 126 yX3_movable]
def wsL_isMost_r4 : List Cond := [Cond.instanceMethod yX3_movable, Cond.selects RX3 yX3_movable yX3_movable, Cond.code yX3_movable cX3_movable 5 (some .int), Cond.fieldLink RX3 33 "HeadBudgets$Heads" "allotted" "[I", Cond.fieldLink RX3 39 "HeadBudgets$Heads" "share" "[I", Cond.fieldLink RX3 36 "HeadBudgets$Heads" "left" "[I", Cond.constant RX3 80 (100000), Cond.methodLink RX3 81 Lib.Math.min.name, Cond.static Lib.Math.min.name, Cond.initialized "java/lang/Math", Cond.code Lib.Math.min.name Lib.Math.min.code 2 (some .int), Cond.methodLink RX3 86 Lib.Math.max.name, Cond.static Lib.Math.max.name, Cond.code Lib.Math.max.name Lib.Math.max.code 2 (some .int), Cond.methodLink RX3 71 yX3_hasBoth, Cond.methodLink RX3 74 yX3_mayGive, Cond.instanceMethod yX3_mayGive, Cond.selects RX3 yX3_mayGive yX3_mayGive, Cond.code yX3_mayGive cX3_mayGive 4 (some .boolean), Cond.fieldLink RX3 18 "HeadBudgets$Heads" "rank" "[I", Cond.static yX5_partOf, Cond.code yX5_partOf cX5_partOf 2 (some .int), Cond.constantLong RX5 223 (100), Cond.methodLink RL 39 yL_all]
def wsL_isMost_r5 : List Cond := [Cond.static yL_all, Cond.code yL_all cL_all 5 (some .long), Cond.constantLong RL 8 (29), Cond.constantLong RL 10 (31), Cond.methodLink RL 18 yX5_head, Cond.instanceMethod yX5_head, Cond.selects RX5 yX5_head yX5_head, Cond.code yX5_head cX5_head 4 (some .int), Cond.fieldLink RX5 200 "HeadBudgets$Heads" "above" "[I", Cond.fieldLink RX5 37 "HeadBudgets$Heads" "depth" "[I", Cond.fieldLink RX5 203 "HeadBudgets$Heads" "rank" "[I", Cond.fieldLink RX5 59 "HeadBudgets$Heads" "frozen" "[I", Cond.fieldLink RX5 52 "HeadBudgets$Heads" "allotment" "[I", Cond.fieldLink RX5 206 "HeadBudgets$Heads" "committed" "[I", Cond.fieldLink RX5 209 "HeadBudgets$Heads" "spent" "[I", Cond.fieldLink RX5 56 "HeadBudgets$Heads" "allotted" "[I", Cond.fieldLink RX5 211 "HeadBudgets$Heads" "left" "[I", Cond.fieldLink RX5 69 "HeadBudgets$Heads" "share" "[I", Cond.methodLink RX5 33 yX3_has, Cond.methodLink RX5 75 yX3_isBarred, Cond.methodLink RX5 78 yX3_freeOf, Cond.methodLink RL 22 yX5_wouldLapse, Cond.instanceMethod yX5_wouldLapse, Cond.selects RX5 yX5_wouldLapse yX5_wouldLapse]
def wsL_isMost_r6 : List Cond := [Cond.code yX5_wouldLapse cX5_wouldLapse 2 (some .int), Cond.methodLink RX5 137 yX3_lapseWithin, Cond.instanceMethod yX3_lapseWithin, Cond.selects RX3 yX3_lapseWithin yX3_lapseWithin, Cond.code yX3_lapseWithin cX3_lapseWithin 6 (some .int), Cond.methodLink RL 25 yX5_commitment, Cond.instanceMethod yX5_commitment, Cond.selects RX5 yX5_commitment yX5_commitment, Cond.code yX5_commitment cX5_commitment 4 (some .int), Cond.fieldLink RX5 110 "HeadBudgets$Commitments" "head" "[I", Cond.fieldLink RX5 104 "HeadBudgets$Commitments" "open" "[I", Cond.fieldLink RX5 107 "HeadBudgets$Commitments" "paid" "[I", Cond.fieldLink RX5 214 "HeadBudgets$Commitments" "year" "[I", Cond.methodLink RX5 103 yX1_has, Cond.instanceMethod yX1_has, Cond.selects RX1 yX1_has yX1_has, Cond.code yX1_has cX1_has 2 (some .boolean), Cond.fieldLink RX1 30 "HeadBudgets$Commitments" "made" "I", Cond.methodLink RL 43 yX5_bestGiver, Cond.instanceMethod yX5_bestGiver, Cond.selects RX5 yX5_bestGiver yX5_bestGiver, Cond.code yX5_bestGiver cX5_bestGiver 2 (some .int), Cond.methodLink RX5 216 yX3_giverOfMost, Cond.instanceMethod yX3_giverOfMost]
def wsL_isMost_r7 : List Cond := [Cond.selects RX3 yX3_giverOfMost yX3_giverOfMost, Cond.code yX3_giverOfMost cX3_giverOfMost 6 (some .int), Cond.methodLink RX3 89 yX3_movable, Cond.methodLink RL 28 yX5_total, Cond.instanceMethod yX5_total, Cond.selects RX5 yX5_total yX5_total, Cond.code yX5_total cX5_total 3 (some .int), Cond.methodLink RL 46 yX5_vire, Cond.instanceMethod yX5_vire, Cond.selects RX5 yX5_vire yX5_vire, Cond.code yX5_vire cX5_vire 5 (some .int), Cond.methodLink RX5 49 yX5_isAmount, Cond.static yX5_isAmount, Cond.code yX5_isAmount cX5_isAmount 1 (some .boolean), Cond.constant RX5 222 (100000), Cond.methodLink RX5 129 yX4_rememberVirement, Cond.instanceMethod yX4_rememberVirement, Cond.selects RX4 yX4_rememberVirement yX4_rememberVirement, Cond.initialized RX4, Cond.code yX4_rememberVirement cX4_rememberVirement 5 none, Cond.methodLink RX4 31 yX4_rememberWith, Cond.instanceMethod yX4_rememberWith, Cond.selects RX4 yX4_rememberWith yX4_rememberWith, Cond.code yX4_rememberWith cX4_rememberWith 7 none]
def wsL_isMost_r8 : List Cond := [Cond.fieldLink RX4 18 "HeadBudgets$Memory" "held" "I", Cond.fieldLink RX4 22 "HeadBudgets$Memory" "oldest" "I", Cond.fieldLink RX4 35 "HeadBudgets$Memory" "latestNumber" "I", Cond.fieldLink RX4 42 "HeadBudgets$Deed" "before" "LHeadBudgets$Books;", Cond.fieldLink RX4 52 "HeadBudgets$Deed" "number" "I", Cond.fieldLink RX4 55 "HeadBudgets$Deed" "kind" "I", Cond.fieldLink RX4 58 "HeadBudgets$Deed" "subject" "I", Cond.fieldLink RX4 61 "HeadBudgets$Deed" "taker" "I", Cond.fieldLink RX4 64 "HeadBudgets$Deed" "amount" "I", Cond.methodLink RX4 25 yJ9_floorMod_7cf53, Cond.static yJ9_floorMod_7cf53, Cond.initialized RJ9, Cond.code yJ9_floorMod_7cf53 cJ9_floorMod_7cf53 3 (some .int), Cond.methodLink RX4 38 yX4_recall, Cond.instanceMethod yX4_recall, Cond.selects RX4 yX4_recall yX4_recall, Cond.code yX4_recall cX4_recall 2 (some (.object "HeadBudgets$Deed")), Cond.fieldLink RX4 11 "HeadBudgets$Memory" "places" "[LHeadBudgets$Deed;", Cond.methodLink RX4 46 yX0_copyFrom, Cond.instanceMethod yX0_copyFrom, Cond.selects RX0 yX0_copyFrom yX0_copyFrom, Cond.initialized RX0, Cond.code yX0_copyFrom cX0_copyFrom 2 none, Cond.fieldLink RX0 12 "HeadBudgets$Books" "heads" "LHeadBudgets$Heads;"]
def wsL_isMost_r9 : List Cond := [Cond.fieldLink RX0 21 "HeadBudgets$Books" "commitments" "LHeadBudgets$Commitments;", Cond.fieldLink RX0 36 "HeadBudgets$Books" "year" "I", Cond.fieldLink RX0 25 "HeadBudgets$Books" "carriedPart" "I", Cond.fieldLink RX0 39 "HeadBudgets$Books" "lapsed" "I", Cond.fieldLink RX0 42 "HeadBudgets$Books" "spent" "I", Cond.methodLink RX0 29 yX3_copyFrom, Cond.instanceMethod yX3_copyFrom, Cond.selects RX3 yX3_copyFrom yX3_copyFrom, Cond.code yX3_copyFrom cX3_copyFrom 2 none, Cond.methodLink RX3 42 arraycopyName, Cond.native arraycopyName, Cond.static arraycopyName, Cond.initialized "java/lang/System", Cond.fieldLink RX3 15 "HeadBudgets$Heads" "depth" "[I", Cond.methodLink RX0 33 yX1_copyFrom, Cond.instanceMethod yX1_copyFrom, Cond.selects RX1 yX1_copyFrom yX1_copyFrom, Cond.code yX1_copyFrom cX1_copyFrom 2 none, Cond.fieldLink RX1 9 "HeadBudgets$Commitments" "head" "[I", Cond.methodLink RX1 24 arraycopyName, Cond.fieldLink RX1 18 "HeadBudgets$Commitments" "paid" "[I", Cond.fieldLink RX1 21 "HeadBudgets$Commitments" "year" "[I", Cond.methodLink RX5 133 yX3_moveByVirement, Cond.instanceMethod yX3_moveByVirement]
def wsL_isMost_r10 : List Cond := [Cond.selects RX3 yX3_moveByVirement yX3_moveByVirement, Cond.code yX3_moveByVirement cX3_moveByVirement 4 none, Cond.methodLink RL 51 yX5_undo, Cond.instanceMethod yX5_undo, Cond.selects RX5 yX5_undo yX5_undo, Cond.code yX5_undo cX5_undo 2 (some .int), Cond.fieldLink RX5 151 "HeadBudgets$Deed" "before" "LHeadBudgets$Books;", Cond.methodLink RX5 147 yX4_recall, Cond.methodLink RX5 156 yX0_copyFrom, Cond.methodLink RX5 160 yX4_forgetLatest, Cond.instanceMethod yX4_forgetLatest, Cond.selects RX4 yX4_forgetLatest yX4_forgetLatest, Cond.code yX4_forgetLatest cX4_forgetLatest 1 (some .int)]
def wsL_isMost : List Cond := .code yL_isMost cL_isMost 11 (some .boolean) :: ((wsL_isMost_r1 ++ (wsL_isMost_r2 ++ (wsL_isMost_r3 ++ (wsL_isMost_r4 ++ (wsL_isMost_r5 ++ (wsL_isMost_r6 ++ (wsL_isMost_r7 ++ (wsL_isMost_r8 ++ (wsL_isMost_r9 ++ wsL_isMost_r10))))))))) ++ wsX50 ++ wsX00 ++ wsX30 ++ wsX10 ++ wsX40 ++ wsX20)
def wsL_isEnded_r1 : List Cond := [Cond.methodLink RL 12 yX5_count, Cond.instanceMethod yX5_count, Cond.selects RX5 yX5_count yX5_count, Cond.initialized RX5, Cond.code yX5_count cX5_count 2 (some .int), Cond.fieldLink RX5 10 "HeadBudgets" "now" "LHeadBudgets$Books;", Cond.fieldLink RX5 97 "HeadBudgets$Books" "year" "I", Cond.fieldLink RX5 23 "HeadBudgets$Books" "heads" "LHeadBudgets$Heads;", Cond.fieldLink RX5 41 "HeadBudgets$Heads" "made" "I", Cond.fieldLink RX5 82 "HeadBudgets$Books" "commitments" "LHeadBudgets$Commitments;", Cond.fieldLink RX5 86 "HeadBudgets$Commitments" "made" "I", Cond.fieldLink RX5 72 "HeadBudgets$Books" "carriedPart" "I", Cond.fieldLink RX5 144 "HeadBudgets$Books" "lapsed" "I", Cond.fieldLink RX5 116 "HeadBudgets$Books" "spent" "I", Cond.fieldLink RX5 19 "HeadBudgets" "memory" "LHeadBudgets$Memory;", Cond.fieldLink RX5 197 "HeadBudgets$Memory" "held" "I", Cond.methodLink RX5 191 yX1_countOpen, Cond.instanceMethod yX1_countOpen, Cond.selects RX1 yX1_countOpen yX1_countOpen, Cond.initialized RX1, Cond.code yX1_countOpen cX1_countOpen 3 (some .int), Cond.fieldLink RX1 15 "HeadBudgets$Commitments" "open" "[I", Cond.methodLink RX5 62 yX3_countBarred, Cond.instanceMethod yX3_countBarred]
def wsL_isEnded_r2 : List Cond := [Cond.selects RX3 yX3_countBarred yX3_countBarred, Cond.initialized RX3, Cond.code yX3_countBarred cX3_countBarred 3 (some .int), Cond.methodLink RX3 56 yX3_isBarred, Cond.instanceMethod yX3_isBarred, Cond.selects RX3 yX3_isBarred yX3_isBarred, Cond.code yX3_isBarred cX3_isBarred 4 (some .boolean), Cond.fieldLink RX3 21 "HeadBudgets$Heads" "frozen" "[I", Cond.fieldLink RX3 9 "HeadBudgets$Heads" "above" "[I", Cond.methodLink RX3 52 yX3_has, Cond.instanceMethod yX3_has, Cond.selects RX3 yX3_has yX3_has, Cond.code yX3_has cX3_has 2 (some .boolean), Cond.fieldLink RX3 48 "HeadBudgets$Heads" "made" "I", Cond.methodLink RX5 194 yX3_sumWithin, Cond.instanceMethod yX3_sumWithin, Cond.selects RX3 yX3_sumWithin yX3_sumWithin, Cond.code yX3_sumWithin cX3_sumWithin 5 (some .int), Cond.methodLink RX3 59 yX3_isWithin, Cond.instanceMethod yX3_isWithin, Cond.selects RX3 yX3_isWithin yX3_isWithin, Cond.code yX3_isWithin cX3_isWithin 5 (some .boolean), Cond.methodLink RX3 63 yX3_summand, Cond.instanceMethod yX3_summand]
def wsL_isEnded_r3 : List Cond := [Cond.selects RX3 yX3_summand yX3_summand, Cond.code yX3_summand cX3_summand 3 (some .int), Cond.fieldLink RX3 24 "HeadBudgets$Heads" "allotment" "[I", Cond.fieldLink RX3 27 "HeadBudgets$Heads" "committed" "[I", Cond.fieldLink RX3 30 "HeadBudgets$Heads" "spent" "[I", Cond.methodLink RX3 67 yX3_freeOf, Cond.instanceMethod yX3_freeOf, Cond.selects RX3 yX3_freeOf yX3_freeOf, Cond.code yX3_freeOf cX3_freeOf 2 (some .int), Cond.methodLink RL 55 yX5_endYear, Cond.instanceMethod yX5_endYear, Cond.selects RX5 yX5_endYear yX5_endYear, Cond.code yX5_endYear cX5_endYear 2 (some .int), Cond.methodLink RX5 45 yX4_remember, Cond.instanceMethod yX4_remember, Cond.selects RX4 yX4_remember yX4_remember, Cond.initialized RX4, Cond.code yX4_remember cX4_remember 3 none, Cond.methodLink RX4 31 yX4_rememberWith, Cond.instanceMethod yX4_rememberWith, Cond.selects RX4 yX4_rememberWith yX4_rememberWith, Cond.code yX4_rememberWith cX4_rememberWith 7 none, Cond.fieldLink RX4 18 "HeadBudgets$Memory" "held" "I", Cond.fieldLink RX4 22 "HeadBudgets$Memory" "oldest" "I"]
def wsL_isEnded_r4 : List Cond := [Cond.fieldLink RX4 35 "HeadBudgets$Memory" "latestNumber" "I", Cond.fieldLink RX4 42 "HeadBudgets$Deed" "before" "LHeadBudgets$Books;", Cond.fieldLink RX4 52 "HeadBudgets$Deed" "number" "I", Cond.fieldLink RX4 55 "HeadBudgets$Deed" "kind" "I", Cond.fieldLink RX4 58 "HeadBudgets$Deed" "subject" "I", Cond.fieldLink RX4 61 "HeadBudgets$Deed" "taker" "I", Cond.fieldLink RX4 64 "HeadBudgets$Deed" "amount" "I", Cond.methodLink RX4 25 yJ9_floorMod_7cf53, Cond.static yJ9_floorMod_7cf53, Cond.initialized RJ9, Cond.code yJ9_floorMod_7cf53 cJ9_floorMod_7cf53 3 (some .int), Cond.methodLink RX4 38 yX4_recall, Cond.instanceMethod yX4_recall, Cond.selects RX4 yX4_recall yX4_recall, Cond.code yX4_recall cX4_recall 2 (some (.object "HeadBudgets$Deed")), Cond.fieldLink RX4 11 "HeadBudgets$Memory" "places" "[LHeadBudgets$Deed;", Cond.methodLink RX4 46 yX0_copyFrom, Cond.instanceMethod yX0_copyFrom, Cond.selects RX0 yX0_copyFrom yX0_copyFrom, Cond.initialized RX0, Cond.code yX0_copyFrom cX0_copyFrom 2 none, Cond.fieldLink RX0 12 "HeadBudgets$Books" "heads" "LHeadBudgets$Heads;", Cond.fieldLink RX0 21 "HeadBudgets$Books" "commitments" "LHeadBudgets$Commitments;", Cond.fieldLink RX0 36 "HeadBudgets$Books" "year" "I"]
def wsL_isEnded_r5 : List Cond := [Cond.fieldLink RX0 25 "HeadBudgets$Books" "carriedPart" "I", Cond.fieldLink RX0 39 "HeadBudgets$Books" "lapsed" "I", Cond.fieldLink RX0 42 "HeadBudgets$Books" "spent" "I", Cond.methodLink RX0 29 yX3_copyFrom, Cond.instanceMethod yX3_copyFrom, Cond.selects RX3 yX3_copyFrom yX3_copyFrom, Cond.code yX3_copyFrom cX3_copyFrom 2 none, Cond.methodLink RX3 42 arraycopyName, Cond.native arraycopyName, Cond.static arraycopyName, Cond.initialized "java/lang/System", Cond.fieldLink RX3 15 "HeadBudgets$Heads" "depth" "[I", Cond.fieldLink RX3 18 "HeadBudgets$Heads" "rank" "[I", Cond.fieldLink RX3 33 "HeadBudgets$Heads" "allotted" "[I", Cond.fieldLink RX3 36 "HeadBudgets$Heads" "left" "[I", Cond.fieldLink RX3 39 "HeadBudgets$Heads" "share" "[I", Cond.methodLink RX0 33 yX1_copyFrom, Cond.instanceMethod yX1_copyFrom, Cond.selects RX1 yX1_copyFrom yX1_copyFrom, Cond.code yX1_copyFrom cX1_copyFrom 2 none, Cond.fieldLink RX1 9 "HeadBudgets$Commitments" "head" "[I", Cond.methodLink RX1 24 arraycopyName, Cond.fieldLink RX1 18 "HeadBudgets$Commitments" "paid" "[I", Cond.fieldLink RX1 21 "HeadBudgets$Commitments" "year" "[I"]
def wsL_isEnded_r6 : List Cond := [Cond.fieldLink RX1 30 "HeadBudgets$Commitments" "made" "I", Cond.methodLink RX5 137 yX3_lapseWithin, Cond.instanceMethod yX3_lapseWithin, Cond.selects RX3 yX3_lapseWithin yX3_lapseWithin, Cond.code yX3_lapseWithin cX3_lapseWithin 6 (some .int), Cond.static yX5_partOf, Cond.code yX5_partOf cX5_partOf 2 (some .int), Cond.constantLong RX5 223 (100), Cond.methodLink RX5 140 yX3_carryForward, Cond.instanceMethod yX3_carryForward, Cond.selects RX3 yX3_carryForward yX3_carryForward, Cond.code yX3_carryForward cX3_carryForward 4 none, Cond.methodLink RL 39 yL_all, Cond.static yL_all, Cond.initialized RL, Cond.code yL_all cL_all 5 (some .long), Cond.constantLong RL 8 (29), Cond.constantLong RL 10 (31), Cond.methodLink RL 18 yX5_head, Cond.instanceMethod yX5_head, Cond.selects RX5 yX5_head yX5_head, Cond.code yX5_head cX5_head 4 (some .int), Cond.fieldLink RX5 200 "HeadBudgets$Heads" "above" "[I", Cond.fieldLink RX5 37 "HeadBudgets$Heads" "depth" "[I"]
def wsL_isEnded_r7 : List Cond := [Cond.fieldLink RX5 203 "HeadBudgets$Heads" "rank" "[I", Cond.fieldLink RX5 59 "HeadBudgets$Heads" "frozen" "[I", Cond.fieldLink RX5 52 "HeadBudgets$Heads" "allotment" "[I", Cond.fieldLink RX5 206 "HeadBudgets$Heads" "committed" "[I", Cond.fieldLink RX5 209 "HeadBudgets$Heads" "spent" "[I", Cond.fieldLink RX5 56 "HeadBudgets$Heads" "allotted" "[I", Cond.fieldLink RX5 211 "HeadBudgets$Heads" "left" "[I", Cond.fieldLink RX5 69 "HeadBudgets$Heads" "share" "[I", Cond.methodLink RX5 33 yX3_has, Cond.methodLink RX5 75 yX3_isBarred, Cond.methodLink RX5 78 yX3_freeOf, Cond.methodLink RL 22 yX5_wouldLapse, Cond.instanceMethod yX5_wouldLapse, Cond.selects RX5 yX5_wouldLapse yX5_wouldLapse, Cond.code yX5_wouldLapse cX5_wouldLapse 2 (some .int), Cond.methodLink RL 25 yX5_commitment, Cond.instanceMethod yX5_commitment, Cond.selects RX5 yX5_commitment yX5_commitment, Cond.code yX5_commitment cX5_commitment 4 (some .int), Cond.fieldLink RX5 110 "HeadBudgets$Commitments" "head" "[I", Cond.fieldLink RX5 104 "HeadBudgets$Commitments" "open" "[I", Cond.fieldLink RX5 107 "HeadBudgets$Commitments" "paid" "[I", Cond.fieldLink RX5 214 "HeadBudgets$Commitments" "year" "[I", Cond.methodLink RX5 103 yX1_has]
def wsL_isEnded_r8 : List Cond := [Cond.instanceMethod yX1_has, Cond.selects RX1 yX1_has yX1_has, Cond.code yX1_has cX1_has 2 (some .boolean), Cond.methodLink RL 28 yX5_total, Cond.instanceMethod yX5_total, Cond.selects RX5 yX5_total yX5_total, Cond.code yX5_total cX5_total 3 (some .int), Cond.methodLink RL 51 yX5_undo, Cond.instanceMethod yX5_undo, Cond.selects RX5 yX5_undo yX5_undo, Cond.code yX5_undo cX5_undo 2 (some .int), Cond.fieldLink RX5 151 "HeadBudgets$Deed" "before" "LHeadBudgets$Books;", Cond.methodLink RX5 147 yX4_recall, Cond.methodLink RX5 156 yX0_copyFrom, Cond.methodLink RX5 160 yX4_forgetLatest, Cond.instanceMethod yX4_forgetLatest, Cond.selects RX4 yX4_forgetLatest yX4_forgetLatest, Cond.code yX4_forgetLatest cX4_forgetLatest 1 (some .int)]
def wsL_isEnded : List Cond := .code yL_isEnded cL_isEnded 7 (some .boolean) :: ((wsL_isEnded_r1 ++ (wsL_isEnded_r2 ++ (wsL_isEnded_r3 ++ (wsL_isEnded_r4 ++ (wsL_isEnded_r5 ++ (wsL_isEnded_r6 ++ (wsL_isEnded_r7 ++ wsL_isEnded_r8))))))) ++ wsX50 ++ wsX00 ++ wsX30 ++ wsX10 ++ wsX40 ++ wsX20)
def wsL_acts_r1 : List Cond := [Cond.methodLink RL 12 yX5_count, Cond.instanceMethod yX5_count, Cond.selects RX5 yX5_count yX5_count, Cond.initialized RX5, Cond.code yX5_count cX5_count 2 (some .int), Cond.fieldLink RX5 10 "HeadBudgets" "now" "LHeadBudgets$Books;", Cond.fieldLink RX5 97 "HeadBudgets$Books" "year" "I", Cond.fieldLink RX5 23 "HeadBudgets$Books" "heads" "LHeadBudgets$Heads;", Cond.fieldLink RX5 41 "HeadBudgets$Heads" "made" "I", Cond.fieldLink RX5 82 "HeadBudgets$Books" "commitments" "LHeadBudgets$Commitments;", Cond.fieldLink RX5 86 "HeadBudgets$Commitments" "made" "I", Cond.fieldLink RX5 72 "HeadBudgets$Books" "carriedPart" "I", Cond.fieldLink RX5 144 "HeadBudgets$Books" "lapsed" "I", Cond.fieldLink RX5 116 "HeadBudgets$Books" "spent" "I", Cond.fieldLink RX5 19 "HeadBudgets" "memory" "LHeadBudgets$Memory;", Cond.fieldLink RX5 197 "HeadBudgets$Memory" "held" "I", Cond.methodLink RX5 191 yX1_countOpen, Cond.instanceMethod yX1_countOpen, Cond.selects RX1 yX1_countOpen yX1_countOpen, Cond.initialized RX1, Cond.code yX1_countOpen cX1_countOpen 3 (some .int), Cond.fieldLink RX1 15 "HeadBudgets$Commitments" "open" "[I", Cond.methodLink RX5 62 yX3_countBarred, Cond.instanceMethod yX3_countBarred]
def wsL_acts_r2 : List Cond := [Cond.selects RX3 yX3_countBarred yX3_countBarred, Cond.initialized RX3, Cond.code yX3_countBarred cX3_countBarred 3 (some .int), Cond.methodLink RX3 56 yX3_isBarred, Cond.instanceMethod yX3_isBarred, Cond.selects RX3 yX3_isBarred yX3_isBarred, Cond.code yX3_isBarred cX3_isBarred 4 (some .boolean), Cond.fieldLink RX3 21 "HeadBudgets$Heads" "frozen" "[I", Cond.fieldLink RX3 9 "HeadBudgets$Heads" "above" "[I", Cond.methodLink RX3 52 yX3_has, Cond.instanceMethod yX3_has, Cond.selects RX3 yX3_has yX3_has, Cond.code yX3_has cX3_has 2 (some .boolean), Cond.fieldLink RX3 48 "HeadBudgets$Heads" "made" "I", Cond.methodLink RX5 194 yX3_sumWithin, Cond.instanceMethod yX3_sumWithin, Cond.selects RX3 yX3_sumWithin yX3_sumWithin, Cond.code yX3_sumWithin cX3_sumWithin 5 (some .int), Cond.methodLink RX3 59 yX3_isWithin, Cond.instanceMethod yX3_isWithin, Cond.selects RX3 yX3_isWithin yX3_isWithin, Cond.code yX3_isWithin cX3_isWithin 5 (some .boolean), Cond.methodLink RX3 63 yX3_summand, Cond.instanceMethod yX3_summand]
def wsL_acts_r3 : List Cond := [Cond.selects RX3 yX3_summand yX3_summand, Cond.code yX3_summand cX3_summand 3 (some .int), Cond.fieldLink RX3 24 "HeadBudgets$Heads" "allotment" "[I", Cond.fieldLink RX3 27 "HeadBudgets$Heads" "committed" "[I", Cond.fieldLink RX3 30 "HeadBudgets$Heads" "spent" "[I", Cond.methodLink RX3 67 yX3_freeOf, Cond.instanceMethod yX3_freeOf, Cond.selects RX3 yX3_freeOf yX3_freeOf, Cond.code yX3_freeOf cX3_freeOf 2 (some .int), Cond.methodLink RL 31 yL_low, Cond.static yL_low, Cond.initialized RL, Cond.code yL_low cL_low 2 (some .int), Cond.constant RL 7 (2147483647), Cond.methodLink RL 58 yX5_make, Cond.instanceMethod yX5_make, Cond.selects RX5 yX5_make yX5_make, Cond.code yX5_make cX5_make 4 (some .int), Cond.fieldLink RX5 37 "HeadBudgets$Heads" "depth" "[I", Cond.methodLink RX5 33 yX3_has, Cond.methodLink RX5 45 yX4_remember, Cond.instanceMethod yX4_remember, Cond.selects RX4 yX4_remember yX4_remember, Cond.initialized RX4]
def wsL_acts_r4 : List Cond := [Cond.code yX4_remember cX4_remember 3 none, Cond.methodLink RX4 31 yX4_rememberWith, Cond.instanceMethod yX4_rememberWith, Cond.selects RX4 yX4_rememberWith yX4_rememberWith, Cond.code yX4_rememberWith cX4_rememberWith 7 none, Cond.fieldLink RX4 18 "HeadBudgets$Memory" "held" "I", Cond.fieldLink RX4 22 "HeadBudgets$Memory" "oldest" "I", Cond.fieldLink RX4 35 "HeadBudgets$Memory" "latestNumber" "I", Cond.fieldLink RX4 42 "HeadBudgets$Deed" "before" "LHeadBudgets$Books;", Cond.fieldLink RX4 52 "HeadBudgets$Deed" "number" "I", Cond.fieldLink RX4 55 "HeadBudgets$Deed" "kind" "I", Cond.fieldLink RX4 58 "HeadBudgets$Deed" "subject" "I", Cond.fieldLink RX4 61 "HeadBudgets$Deed" "taker" "I", Cond.fieldLink RX4 64 "HeadBudgets$Deed" "amount" "I", Cond.methodLink RX4 25 yJ9_floorMod_7cf53, Cond.static yJ9_floorMod_7cf53, Cond.initialized RJ9, Cond.code yJ9_floorMod_7cf53 cJ9_floorMod_7cf53 3 (some .int), Cond.methodLink RX4 38 yX4_recall, Cond.instanceMethod yX4_recall, Cond.selects RX4 yX4_recall yX4_recall, Cond.code yX4_recall cX4_recall 2 (some (.object "HeadBudgets$Deed")), Cond.fieldLink RX4 11 "HeadBudgets$Memory" "places" "[LHeadBudgets$Deed;", Cond.methodLink RX4 46 yX0_copyFrom]
def wsL_acts_r5 : List Cond := [Cond.instanceMethod yX0_copyFrom, Cond.selects RX0 yX0_copyFrom yX0_copyFrom, Cond.initialized RX0, Cond.code yX0_copyFrom cX0_copyFrom 2 none, Cond.fieldLink RX0 12 "HeadBudgets$Books" "heads" "LHeadBudgets$Heads;", Cond.fieldLink RX0 21 "HeadBudgets$Books" "commitments" "LHeadBudgets$Commitments;", Cond.fieldLink RX0 36 "HeadBudgets$Books" "year" "I", Cond.fieldLink RX0 25 "HeadBudgets$Books" "carriedPart" "I", Cond.fieldLink RX0 39 "HeadBudgets$Books" "lapsed" "I", Cond.fieldLink RX0 42 "HeadBudgets$Books" "spent" "I", Cond.methodLink RX0 29 yX3_copyFrom, Cond.instanceMethod yX3_copyFrom, Cond.selects RX3 yX3_copyFrom yX3_copyFrom, Cond.code yX3_copyFrom cX3_copyFrom 2 none, Cond.methodLink RX3 42 arraycopyName, Cond.native arraycopyName, Cond.static arraycopyName, Cond.initialized "java/lang/System", Cond.fieldLink RX3 15 "HeadBudgets$Heads" "depth" "[I", Cond.fieldLink RX3 18 "HeadBudgets$Heads" "rank" "[I", Cond.fieldLink RX3 33 "HeadBudgets$Heads" "allotted" "[I", Cond.fieldLink RX3 36 "HeadBudgets$Heads" "left" "[I", Cond.fieldLink RX3 39 "HeadBudgets$Heads" "share" "[I", Cond.methodLink RX0 33 yX1_copyFrom]
def wsL_acts_r6 : List Cond := [Cond.instanceMethod yX1_copyFrom, Cond.selects RX1 yX1_copyFrom yX1_copyFrom, Cond.code yX1_copyFrom cX1_copyFrom 2 none, Cond.fieldLink RX1 9 "HeadBudgets$Commitments" "head" "[I", Cond.methodLink RX1 24 arraycopyName, Cond.fieldLink RX1 18 "HeadBudgets$Commitments" "paid" "[I", Cond.fieldLink RX1 21 "HeadBudgets$Commitments" "year" "[I", Cond.fieldLink RX1 30 "HeadBudgets$Commitments" "made" "I", Cond.methodLink RX5 27 yX3_add, Cond.instanceMethod yX3_add, Cond.selects RX3 yX3_add yX3_add, Cond.code yX3_add cX3_add 4 (some .int), Cond.methodLink RL 61 yX5_allot, Cond.instanceMethod yX5_allot, Cond.selects RX5 yX5_allot yX5_allot, Cond.code yX5_allot cX5_allot 4 (some .int), Cond.fieldLink RX5 52 "HeadBudgets$Heads" "allotment" "[I", Cond.constant RX5 55 (1000000), Cond.fieldLink RX5 56 "HeadBudgets$Heads" "allotted" "[I", Cond.methodLink RX5 49 yX5_isAmount, Cond.static yX5_isAmount, Cond.code yX5_isAmount cX5_isAmount 1 (some .boolean), Cond.constant RX5 222 (100000), Cond.methodLink RL 64 yX5_freeze]
def wsL_acts_r7 : List Cond := [Cond.instanceMethod yX5_freeze, Cond.selects RX5 yX5_freeze yX5_freeze, Cond.code yX5_freeze cX5_freeze 4 (some .int), Cond.fieldLink RX5 59 "HeadBudgets$Heads" "frozen" "[I", Cond.methodLink RL 67 yX5_setShare, Cond.instanceMethod yX5_setShare, Cond.selects RX5 yX5_setShare yX5_setShare, Cond.code yX5_setShare cX5_setShare 5 (some .int), Cond.fieldLink RX5 69 "HeadBudgets$Heads" "share" "[I", Cond.methodLink RX5 66 yX5_isPercentage, Cond.static yX5_isPercentage, Cond.code yX5_isPercentage cX5_isPercentage 1 (some .boolean), Cond.methodLink RL 70 yX5_setCarried, Cond.instanceMethod yX5_setCarried, Cond.selects RX5 yX5_setCarried yX5_setCarried, Cond.code yX5_setCarried cX5_setCarried 3 (some .int), Cond.methodLink RL 73 yX5_commit, Cond.instanceMethod yX5_commit, Cond.selects RX5 yX5_commit yX5_commit, Cond.code yX5_commit cX5_commit 4 (some .int), Cond.methodLink RX5 75 yX3_isBarred, Cond.methodLink RX5 78 yX3_freeOf, Cond.methodLink RX5 89 yX4_rememberCommitment, Cond.instanceMethod yX4_rememberCommitment]
def wsL_acts_r8 : List Cond := [Cond.selects RX4 yX4_rememberCommitment yX4_rememberCommitment, Cond.code yX4_rememberCommitment cX4_rememberCommitment 3 none, Cond.methodLink RX5 93 yX3_changeCommitted, Cond.instanceMethod yX3_changeCommitted, Cond.selects RX3 yX3_changeCommitted yX3_changeCommitted, Cond.code yX3_changeCommitted cX3_changeCommitted 3 none, Cond.methodLink RX5 100 yX1_add, Cond.instanceMethod yX1_add, Cond.selects RX1 yX1_add yX1_add, Cond.code yX1_add cX1_add 5 (some .int), Cond.methodLink RL 76 yX5_pay, Cond.instanceMethod yX5_pay, Cond.selects RX5 yX5_pay yX5_pay, Cond.code yX5_pay cX5_pay 4 (some .int), Cond.fieldLink RX5 104 "HeadBudgets$Commitments" "open" "[I", Cond.fieldLink RX5 107 "HeadBudgets$Commitments" "paid" "[I", Cond.fieldLink RX5 110 "HeadBudgets$Commitments" "head" "[I", Cond.methodLink RX5 103 yX1_has, Cond.instanceMethod yX1_has, Cond.selects RX1 yX1_has yX1_has, Cond.code yX1_has cX1_has 2 (some .boolean), Cond.methodLink RX5 113 yX3_spendCommitted, Cond.instanceMethod yX3_spendCommitted, Cond.selects RX3 yX3_spendCommitted yX3_spendCommitted]
def wsL_acts_r9 : List Cond := [Cond.code yX3_spendCommitted cX3_spendCommitted 3 none, Cond.methodLink RL 79 yX5_release, Cond.instanceMethod yX5_release, Cond.selects RX5 yX5_release yX5_release, Cond.code yX5_release cX5_release 2 (some .int), Cond.methodLink RX5 119 yX0_freeOpenOf, Cond.instanceMethod yX0_freeOpenOf, Cond.selects RX0 yX0_freeOpenOf yX0_freeOpenOf, Cond.code yX0_freeOpenOf cX0_freeOpenOf 3 (some .int), Cond.fieldLink RX0 49 "HeadBudgets$Commitments" "open" "[I", Cond.fieldLink RX0 53 "HeadBudgets$Commitments" "head" "[I", Cond.methodLink RX0 45 yX1_has, Cond.methodLink RX0 56 yX3_changeCommitted, Cond.methodLink RL 46 yX5_vire, Cond.instanceMethod yX5_vire, Cond.selects RX5 yX5_vire yX5_vire, Cond.code yX5_vire cX5_vire 5 (some .int), Cond.methodLink RX5 122 yX3_hasBoth, Cond.instanceMethod yX3_hasBoth, Cond.selects RX3 yX3_hasBoth yX3_hasBoth, Cond.code yX3_hasBoth cX3_hasBoth 3 (some .boolean), Cond.methodLink RX5 126 yX3_movable, Cond.instanceMethod yX3_movable, Cond.selects RX3 yX3_movable yX3_movable]
def wsL_acts_r10 : List Cond := [Cond.code yX3_movable cX3_movable 5 (some .int), Cond.constant RX3 80 (100000), Cond.methodLink RX3 81 Lib.Math.min.name, Cond.static Lib.Math.min.name, Cond.initialized "java/lang/Math", Cond.code Lib.Math.min.name Lib.Math.min.code 2 (some .int), Cond.methodLink RX3 86 Lib.Math.max.name, Cond.static Lib.Math.max.name, Cond.code Lib.Math.max.name Lib.Math.max.code 2 (some .int), Cond.methodLink RX3 71 yX3_hasBoth, Cond.methodLink RX3 74 yX3_mayGive, Cond.instanceMethod yX3_mayGive, Cond.selects RX3 yX3_mayGive yX3_mayGive, Cond.code yX3_mayGive cX3_mayGive 4 (some .boolean), Cond.static yX5_partOf, Cond.code yX5_partOf cX5_partOf 2 (some .int), Cond.constantLong RX5 223 (100), Cond.methodLink RX5 129 yX4_rememberVirement, Cond.instanceMethod yX4_rememberVirement, Cond.selects RX4 yX4_rememberVirement yX4_rememberVirement, Cond.code yX4_rememberVirement cX4_rememberVirement 5 none, Cond.methodLink RX5 133 yX3_moveByVirement, Cond.instanceMethod yX3_moveByVirement, Cond.selects RX3 yX3_moveByVirement yX3_moveByVirement]
def wsL_acts_r11 : List Cond := [Cond.code yX3_moveByVirement cX3_moveByVirement 4 none, Cond.methodLink RL 82 yX5_revoke, Cond.instanceMethod yX5_revoke, Cond.selects RX5 yX5_revoke yX5_revoke, Cond.code yX5_revoke cX5_revoke 3 (some .int), Cond.fieldLink RX5 151 "HeadBudgets$Deed" "before" "LHeadBudgets$Books;", Cond.fieldLink RX5 163 "HeadBudgets$Deed" "number" "I", Cond.fieldLink RX5 169 "HeadBudgets$Deed" "kind" "I", Cond.fieldLink RX5 172 "HeadBudgets$Deed" "subject" "I", Cond.fieldLink RX5 175 "HeadBudgets$Deed" "taker" "I", Cond.fieldLink RX5 178 "HeadBudgets$Deed" "amount" "I", Cond.methodLink RX5 147 yX4_recall, Cond.methodLink RX5 166 yX4_wasRevoked, Cond.instanceMethod yX4_wasRevoked, Cond.selects RX4 yX4_wasRevoked yX4_wasRevoked, Cond.code yX4_wasRevoked cX4_wasRevoked 4 (some .boolean), Cond.methodLink RX5 181 yX5_revokeVirement, Cond.instanceMethod yX5_revokeVirement, Cond.selects RX5 yX5_revokeVirement yX5_revokeVirement, Cond.code yX5_revokeVirement cX5_revokeVirement 5 (some .int), Cond.methodLink RX5 188 yX4_rememberRevoking, Cond.instanceMethod yX4_rememberRevoking, Cond.selects RX4 yX4_rememberRevoking yX4_rememberRevoking, Cond.code yX4_rememberRevoking cX4_rememberRevoking 3 none]
def wsL_acts_r12 : List Cond := [Cond.methodLink RX5 185 yX5_revokeCommitment, Cond.instanceMethod yX5_revokeCommitment, Cond.selects RX5 yX5_revokeCommitment yX5_revokeCommitment, Cond.code yX5_revokeCommitment cX5_revokeCommitment 3 (some .int), Cond.methodLink RL 55 yX5_endYear, Cond.instanceMethod yX5_endYear, Cond.selects RX5 yX5_endYear yX5_endYear, Cond.code yX5_endYear cX5_endYear 2 (some .int), Cond.methodLink RX5 137 yX3_lapseWithin, Cond.instanceMethod yX3_lapseWithin, Cond.selects RX3 yX3_lapseWithin yX3_lapseWithin, Cond.code yX3_lapseWithin cX3_lapseWithin 6 (some .int), Cond.methodLink RX5 140 yX3_carryForward, Cond.instanceMethod yX3_carryForward, Cond.selects RX3 yX3_carryForward yX3_carryForward, Cond.code yX3_carryForward cX3_carryForward 4 none]
def wsL_acts : List Cond := .code yL_acts cL_acts 6 (some .int) :: ((wsL_acts_r1 ++ (wsL_acts_r2 ++ (wsL_acts_r3 ++ (wsL_acts_r4 ++ (wsL_acts_r5 ++ (wsL_acts_r6 ++ (wsL_acts_r7 ++ (wsL_acts_r8 ++ (wsL_acts_r9 ++ (wsL_acts_r10 ++ (wsL_acts_r11 ++ wsL_acts_r12))))))))))) ++ wsX50 ++ wsX00 ++ wsX30 ++ wsX10 ++ wsX40 ++ wsX20)
theorem dL_cell_0 : decode cL_cell 0 = .ok (.iload_n 1, 1) := by decide +kernel
theorem dL_cell_1 : decode cL_cell 1 = .ok (.aload_n 0, 1) := by decide +kernel
theorem dL_cell_2 : decode cL_cell 2 = .ok (.arraylength, 1) := by decide +kernel
theorem dL_cell_3 : decode cL_cell 3 = .ok (.if_icmp .ge 9, 3) := by decide +kernel
theorem dL_cell_6 : decode cL_cell 6 = .ok (.aload_n 0, 1) := by decide +kernel
theorem dL_cell_7 : decode cL_cell 7 = .ok (.iload_n 1, 1) := by decide +kernel
theorem dL_cell_8 : decode cL_cell 8 = .ok (.iaload, 1) := by decide +kernel
theorem dL_cell_9 : decode cL_cell 9 = .ok (.goto 16, 3) := by decide +kernel
theorem dL_cell_12 : decode cL_cell 12 = .ok (.sipush 7919, 3) := by decide +kernel
theorem dL_cell_15 : decode cL_cell 15 = .ok (.iload_n 1, 1) := by decide +kernel
theorem dL_cell_16 : decode cL_cell 16 = .ok (.bipush 9, 2) := by decide +kernel
theorem dL_cell_18 : decode cL_cell 18 = .ok (.iadd, 1) := by decide +kernel
theorem dL_cell_19 : decode cL_cell 19 = .ok (.imul, 1) := by decide +kernel
theorem dL_cell_20 : decode cL_cell 20 = .ok (.iload_n 1, 1) := by decide +kernel
theorem dL_cell_21 : decode cL_cell 21 = .ok (.bipush 31, 2) := by decide +kernel
theorem dL_cell_23 : decode cL_cell 23 = .ok (.iadd, 1) := by decide +kernel
theorem dL_cell_24 : decode cL_cell 24 = .ok (.imul, 1) := by decide +kernel
theorem dL_cell_25 : decode cL_cell 25 = .ok (.ireturn, 1) := by decide +kernel
theorem dL_low_0 : decode cL_low 0 = .ok (.iload_n 0, 1) := by decide +kernel
theorem dL_low_1 : decode cL_low 1 = .ok (.ldc 7, 2) := by decide +kernel
theorem dL_low_3 : decode cL_low 3 = .ok (.iand, 1) := by decide +kernel
theorem dL_low_4 : decode cL_low 4 = .ok (.iload_n 1, 1) := by decide +kernel
theorem dL_low_5 : decode cL_low 5 = .ok (.irem, 1) := by decide +kernel
theorem dL_low_6 : decode cL_low 6 = .ok (.ireturn, 1) := by decide +kernel
set_option maxRecDepth 20000 in
theorem ggL_all_X5_count : GoodIn wsL_all wsX5_count := goodIn_r _ [7, 8, 9, 10, 11, 12, 13, 14, 15, 16, 17, 18, 19, 20, 21, 22, 23, 24, 25, 26, 27, 28, 29, 30, 31, 32, 33, 34, 35, 36, 37, 38, 39, 40, 41, 42, 43, 44, 45, 46, 47, 48, 49, 50, 51, 52, 53, 54, 55, 56, 57, 58, 59, 101, 102, 103, 104, 105, 106, 107, 108, 109, 110, 111, 112, 113, 114, 115, 116, 117, 118, 119, 120, 121, 122, 123, 124, 125, 126, 127, 128] (by decide +kernel) (by decide +kernel)
set_option maxRecDepth 20000 in
theorem gL_all_X5_count : GoodIn wsL_all (wsV RL 12 RX5 yX5_count wsX5_count) := goodIn_app (goodIn_of _ (by decide +kernel)) ggL_all_X5_count
set_option maxRecDepth 20000 in
theorem ggL_all_X5_head : GoodIn wsL_all wsX5_head := goodIn_r _ [63, 8, 10, 64, 65, 66, 67, 68, 69, 70, 71, 72, 73, 74, 37, 38, 28, 39, 40, 75, 31, 32, 33, 34, 35, 36, 76, 57, 58, 59, 53, 54, 55, 101, 102, 103, 104, 105, 106, 107, 108, 109, 110, 111, 112, 113, 114, 115, 116, 117, 118, 119] (by decide +kernel) (by decide +kernel)
set_option maxRecDepth 20000 in
theorem gL_all_X5_head : GoodIn wsL_all (wsV RL 18 RX5 yX5_head wsX5_head) := goodIn_app (goodIn_of _ (by decide +kernel)) ggL_all_X5_head
set_option maxRecDepth 20000 in
theorem ggL_all_X5_wouldLapse : GoodIn wsL_all wsX5_wouldLapse := goodIn_r _ [80, 8, 10, 14, 74, 37, 38, 28, 39, 40, 81, 82, 83, 84, 45, 46, 47, 48, 35, 36, 56, 57, 58, 59, 53, 54, 55, 85, 6, 86, 87, 101, 102, 103, 104, 105, 106, 107, 108, 109, 110, 111, 112, 113, 114, 115, 116, 117, 118, 119] (by decide +kernel) (by decide +kernel)
set_option maxRecDepth 20000 in
theorem gL_all_X5_wouldLapse : GoodIn wsL_all (wsV RL 22 RX5 yX5_wouldLapse wsX5_wouldLapse) := goodIn_app (goodIn_of _ (by decide +kernel)) ggL_all_X5_wouldLapse
set_option maxRecDepth 20000 in
theorem ggL_all_X5_commitment : GoodIn wsL_all wsX5_commitment := goodIn_r _ [91, 8, 12, 92, 93, 94, 95, 96, 97, 98, 22, 99, 100, 101, 102, 103, 104, 105, 106, 107, 108, 120, 121, 122, 123, 124] (by decide +kernel) (by decide +kernel)
set_option maxRecDepth 20000 in
theorem gL_all_X5_commitment : GoodIn wsL_all (wsV RL 25 RX5 yX5_commitment wsX5_commitment) := goodIn_app (goodIn_of _ (by decide +kernel)) ggL_all_X5_commitment
theorem dL_all_0 : decode cL_all 0 = .ok (.ldc2_w 8, 3) := by decide +kernel
theorem dL_all_3 : decode cL_all 3 = .ok (.lstore_n 1, 1) := by decide +kernel
theorem dL_all_4 : decode cL_all 4 = .ok (.iconst 0, 1) := by decide +kernel
theorem dL_all_5 : decode cL_all 5 = .ok (.istore_n 3, 1) := by decide +kernel
theorem dL_all_6 : decode cL_all 6 = .ok (.iload_n 3, 1) := by decide +kernel
theorem dL_all_7 : decode cL_all 7 = .ok (.bipush 9, 2) := by decide +kernel
theorem dL_all_9 : decode cL_all 9 = .ok (.if_icmp .ge 22, 3) := by decide +kernel
theorem dL_all_12 : decode cL_all 12 = .ok (.ldc2_w 10, 3) := by decide +kernel
theorem dL_all_15 : decode cL_all 15 = .ok (.lload_n 1, 1) := by decide +kernel
theorem dL_all_16 : decode cL_all 16 = .ok (.lmul, 1) := by decide +kernel
theorem dL_all_17 : decode cL_all 17 = .ok (.aload_n 0, 1) := by decide +kernel
theorem dL_all_18 : decode cL_all 18 = .ok (.iload_n 3, 1) := by decide +kernel
theorem dL_all_19 : decode cL_all 19 = .ok (.invokevirtual 12, 3) := by decide +kernel
theorem dL_all_22 : decode cL_all 22 = .ok (.i2l, 1) := by decide +kernel
theorem dL_all_23 : decode cL_all 23 = .ok (.ladd, 1) := by decide +kernel
theorem dL_all_24 : decode cL_all 24 = .ok (.lstore_n 1, 1) := by decide +kernel
theorem dL_all_25 : decode cL_all 25 = .ok (.iinc 3 1, 3) := by decide +kernel
theorem dL_all_28 : decode cL_all 28 = .ok (.goto (-22), 3) := by decide +kernel
theorem dL_all_31 : decode cL_all 31 = .ok (.iconst 0, 1) := by decide +kernel
theorem dL_all_32 : decode cL_all 32 = .ok (.istore_n 3, 1) := by decide +kernel
theorem dL_all_33 : decode cL_all 33 = .ok (.iload_n 3, 1) := by decide +kernel
theorem dL_all_34 : decode cL_all 34 = .ok (.aload_n 0, 1) := by decide +kernel
theorem dL_all_35 : decode cL_all 35 = .ok (.iconst 1, 1) := by decide +kernel
theorem dL_all_36 : decode cL_all 36 = .ok (.invokevirtual 12, 3) := by decide +kernel
theorem dL_all_39 : decode cL_all 39 = .ok (.if_icmp .ge 53, 3) := by decide +kernel
theorem dL_all_42 : decode cL_all 42 = .ok (.iconst 0, 1) := by decide +kernel
theorem dL_all_43 : decode cL_all 43 = .ok (.istore 4, 2) := by decide +kernel
theorem dL_all_45 : decode cL_all 45 = .ok (.iload 4, 2) := by decide +kernel
theorem dL_all_47 : decode cL_all 47 = .ok (.bipush 12, 2) := by decide +kernel
theorem dL_all_49 : decode cL_all 49 = .ok (.if_icmp .ge 24, 3) := by decide +kernel
theorem dL_all_52 : decode cL_all 52 = .ok (.ldc2_w 10, 3) := by decide +kernel
theorem dL_all_55 : decode cL_all 55 = .ok (.lload_n 1, 1) := by decide +kernel
theorem dL_all_56 : decode cL_all 56 = .ok (.lmul, 1) := by decide +kernel
theorem dL_all_57 : decode cL_all 57 = .ok (.aload_n 0, 1) := by decide +kernel
theorem dL_all_58 : decode cL_all 58 = .ok (.iload_n 3, 1) := by decide +kernel
theorem dL_all_59 : decode cL_all 59 = .ok (.iload 4, 2) := by decide +kernel
theorem dL_all_61 : decode cL_all 61 = .ok (.invokevirtual 18, 3) := by decide +kernel
theorem dL_all_64 : decode cL_all 64 = .ok (.i2l, 1) := by decide +kernel
theorem dL_all_65 : decode cL_all 65 = .ok (.ladd, 1) := by decide +kernel
theorem dL_all_66 : decode cL_all 66 = .ok (.lstore_n 1, 1) := by decide +kernel
theorem dL_all_67 : decode cL_all 67 = .ok (.iinc 4 1, 3) := by decide +kernel
theorem dL_all_70 : decode cL_all 70 = .ok (.goto (-25), 3) := by decide +kernel
theorem dL_all_73 : decode cL_all 73 = .ok (.ldc2_w 10, 3) := by decide +kernel
theorem dL_all_76 : decode cL_all 76 = .ok (.lload_n 1, 1) := by decide +kernel
theorem dL_all_77 : decode cL_all 77 = .ok (.lmul, 1) := by decide +kernel
theorem dL_all_78 : decode cL_all 78 = .ok (.aload_n 0, 1) := by decide +kernel
theorem dL_all_79 : decode cL_all 79 = .ok (.iload_n 3, 1) := by decide +kernel
theorem dL_all_80 : decode cL_all 80 = .ok (.invokevirtual 22, 3) := by decide +kernel
theorem dL_all_83 : decode cL_all 83 = .ok (.i2l, 1) := by decide +kernel
theorem dL_all_84 : decode cL_all 84 = .ok (.ladd, 1) := by decide +kernel
theorem dL_all_85 : decode cL_all 85 = .ok (.lstore_n 1, 1) := by decide +kernel
theorem dL_all_86 : decode cL_all 86 = .ok (.iinc 3 1, 3) := by decide +kernel
theorem dL_all_89 : decode cL_all 89 = .ok (.goto (-56), 3) := by decide +kernel
theorem dL_all_92 : decode cL_all 92 = .ok (.iconst 0, 1) := by decide +kernel
theorem dL_all_93 : decode cL_all 93 = .ok (.istore_n 3, 1) := by decide +kernel
theorem dL_all_94 : decode cL_all 94 = .ok (.iload_n 3, 1) := by decide +kernel
theorem dL_all_95 : decode cL_all 95 = .ok (.iconst 4, 1) := by decide +kernel
theorem dL_all_96 : decode cL_all 96 = .ok (.aload_n 0, 1) := by decide +kernel
theorem dL_all_97 : decode cL_all 97 = .ok (.iconst 2, 1) := by decide +kernel
theorem dL_all_98 : decode cL_all 98 = .ok (.invokevirtual 12, 3) := by decide +kernel
theorem dL_all_101 : decode cL_all 101 = .ok (.imul, 1) := by decide +kernel
theorem dL_all_102 : decode cL_all 102 = .ok (.if_icmp .ge 27, 3) := by decide +kernel
theorem dL_all_105 : decode cL_all 105 = .ok (.ldc2_w 10, 3) := by decide +kernel
theorem dL_all_108 : decode cL_all 108 = .ok (.lload_n 1, 1) := by decide +kernel
theorem dL_all_109 : decode cL_all 109 = .ok (.lmul, 1) := by decide +kernel
theorem dL_all_110 : decode cL_all 110 = .ok (.aload_n 0, 1) := by decide +kernel
theorem dL_all_111 : decode cL_all 111 = .ok (.iload_n 3, 1) := by decide +kernel
theorem dL_all_112 : decode cL_all 112 = .ok (.iconst 4, 1) := by decide +kernel
theorem dL_all_113 : decode cL_all 113 = .ok (.idiv, 1) := by decide +kernel
theorem dL_all_114 : decode cL_all 114 = .ok (.iload_n 3, 1) := by decide +kernel
theorem dL_all_115 : decode cL_all 115 = .ok (.iconst 4, 1) := by decide +kernel
theorem dL_all_116 : decode cL_all 116 = .ok (.irem, 1) := by decide +kernel
theorem dL_all_117 : decode cL_all 117 = .ok (.invokevirtual 25, 3) := by decide +kernel
theorem dL_all_120 : decode cL_all 120 = .ok (.i2l, 1) := by decide +kernel
theorem dL_all_121 : decode cL_all 121 = .ok (.ladd, 1) := by decide +kernel
theorem dL_all_122 : decode cL_all 122 = .ok (.lstore_n 1, 1) := by decide +kernel
theorem dL_all_123 : decode cL_all 123 = .ok (.iinc 3 1, 3) := by decide +kernel
theorem dL_all_126 : decode cL_all 126 = .ok (.goto (-32), 3) := by decide +kernel
theorem dL_all_129 : decode cL_all 129 = .ok (.lload_n 1, 1) := by decide +kernel
theorem dL_all_130 : decode cL_all 130 = .ok (.lreturn, 1) := by decide +kernel
set_option maxRecDepth 20000 in
theorem ggL_isSound_X5_count : GoodIn wsL_isSound wsX5_count := goodIn_r _ [5, 6, 7, 8, 9, 10, 11, 12, 13, 14, 15, 16, 17, 18, 19, 20, 21, 22, 23, 24, 25, 26, 27, 28, 29, 30, 31, 32, 33, 34, 35, 36, 37, 38, 39, 40, 41, 42, 43, 44, 45, 46, 47, 48, 49, 50, 51, 52, 53, 54, 55, 56, 57, 103, 104, 105, 106, 107, 108, 109, 110, 111, 112, 113, 114, 115, 116, 117, 118, 119, 120, 121, 122, 123, 124, 125, 126, 127, 128, 129, 130] (by decide +kernel) (by decide +kernel)
set_option maxRecDepth 20000 in
theorem gL_isSound_X5_count : GoodIn wsL_isSound (wsV RL 12 RX5 yX5_count wsX5_count) := goodIn_app (goodIn_of _ (by decide +kernel)) ggL_isSound_X5_count
set_option maxRecDepth 20000 in
theorem ggL_isSound_X5_head : GoodIn wsL_isSound wsX5_head := goodIn_r _ [61, 6, 8, 62, 63, 64, 65, 66, 67, 68, 69, 70, 71, 72, 35, 36, 26, 37, 38, 73, 29, 30, 31, 32, 33, 34, 74, 55, 56, 57, 51, 52, 53, 103, 104, 105, 106, 107, 108, 109, 110, 111, 112, 113, 114, 115, 116, 117, 118, 119, 120, 121] (by decide +kernel) (by decide +kernel)
set_option maxRecDepth 20000 in
theorem gL_isSound_X5_head : GoodIn wsL_isSound (wsV RL 18 RX5 yX5_head wsX5_head) := goodIn_app (goodIn_of _ (by decide +kernel)) ggL_isSound_X5_head
set_option maxRecDepth 20000 in
theorem ggL_isSound_X5_total : GoodIn wsL_isSound wsX5_total := goodIn_r _ [78, 6, 8, 72, 35, 36, 26, 37, 38, 39, 40, 41, 42, 43, 44, 45, 46, 33, 34, 47, 48, 49, 50, 51, 52, 53, 54, 55, 56, 57, 103, 104, 105, 106, 107, 108, 109, 110, 111, 112, 113, 114, 115, 116, 117, 118, 119, 120, 121] (by decide +kernel) (by decide +kernel)
set_option maxRecDepth 20000 in
theorem gL_isSound_X5_total : GoodIn wsL_isSound (wsV RL 28 RX5 yX5_total wsX5_total) := goodIn_app (goodIn_of _ (by decide +kernel)) ggL_isSound_X5_total
set_option maxRecDepth 20000 in
theorem ggL_isSound_X5_commitment : GoodIn wsL_isSound wsX5_commitment := goodIn_r _ [82, 6, 10, 83, 84, 85, 86, 87, 88, 89, 20, 90, 91, 103, 104, 105, 106, 107, 108, 109, 110, 122, 123, 124, 125, 126] (by decide +kernel) (by decide +kernel)
set_option maxRecDepth 20000 in
theorem gL_isSound_X5_commitment : GoodIn wsL_isSound (wsV RL 25 RX5 yX5_commitment wsX5_commitment) := goodIn_app (goodIn_of _ (by decide +kernel)) ggL_isSound_X5_commitment
set_option maxRecDepth 20000 in
theorem ggL_isSound_X5_wouldLapse : GoodIn wsL_isSound wsX5_wouldLapse := goodIn_r _ [95, 6, 8, 12, 72, 35, 36, 26, 37, 38, 96, 97, 98, 99, 43, 44, 45, 46, 33, 34, 54, 55, 56, 57, 51, 52, 53, 100, 4, 101, 102, 103, 104, 105, 106, 107, 108, 109, 110, 111, 112, 113, 114, 115, 116, 117, 118, 119, 120, 121] (by decide +kernel) (by decide +kernel)
set_option maxRecDepth 20000 in
theorem gL_isSound_X5_wouldLapse : GoodIn wsL_isSound (wsV RL 22 RX5 yX5_wouldLapse wsX5_wouldLapse) := goodIn_app (goodIn_of _ (by decide +kernel)) ggL_isSound_X5_wouldLapse
theorem dL_isSound_0 : decode cL_isSound 0 = .ok (.aload_n 0, 1) := by decide +kernel
theorem dL_isSound_1 : decode cL_isSound 1 = .ok (.iconst 1, 1) := by decide +kernel
theorem dL_isSound_2 : decode cL_isSound 2 = .ok (.invokevirtual 12, 3) := by decide +kernel
theorem dL_isSound_5 : decode cL_isSound 5 = .ok (.istore_n 1, 1) := by decide +kernel
theorem dL_isSound_6 : decode cL_isSound 6 = .ok (.iconst 0, 1) := by decide +kernel
theorem dL_isSound_7 : decode cL_isSound 7 = .ok (.istore_n 2, 1) := by decide +kernel
theorem dL_isSound_8 : decode cL_isSound 8 = .ok (.iconst 0, 1) := by decide +kernel
theorem dL_isSound_9 : decode cL_isSound 9 = .ok (.istore_n 3, 1) := by decide +kernel
theorem dL_isSound_10 : decode cL_isSound 10 = .ok (.iconst 0, 1) := by decide +kernel
theorem dL_isSound_11 : decode cL_isSound 11 = .ok (.istore 4, 2) := by decide +kernel
theorem dL_isSound_13 : decode cL_isSound 13 = .ok (.iconst 0, 1) := by decide +kernel
theorem dL_isSound_14 : decode cL_isSound 14 = .ok (.istore 5, 2) := by decide +kernel
theorem dL_isSound_16 : decode cL_isSound 16 = .ok (.iload 5, 2) := by decide +kernel
theorem dL_isSound_18 : decode cL_isSound 18 = .ok (.iload_n 1, 1) := by decide +kernel
theorem dL_isSound_19 : decode cL_isSound 19 = .ok (.if_icmp .ge 338, 3) := by decide +kernel
theorem dL_isSound_22 : decode cL_isSound 22 = .ok (.aload_n 0, 1) := by decide +kernel
theorem dL_isSound_23 : decode cL_isSound 23 = .ok (.iload 5, 2) := by decide +kernel
theorem dL_isSound_25 : decode cL_isSound 25 = .ok (.iconst 0, 1) := by decide +kernel
theorem dL_isSound_26 : decode cL_isSound 26 = .ok (.invokevirtual 18, 3) := by decide +kernel
theorem dL_isSound_29 : decode cL_isSound 29 = .ok (.istore 6, 2) := by decide +kernel
theorem dL_isSound_31 : decode cL_isSound 31 = .ok (.iload 6, 2) := by decide +kernel
theorem dL_isSound_33 : decode cL_isSound 33 = .ok (.ifCond .ge 7, 3) := by decide +kernel
theorem dL_isSound_36 : decode cL_isSound 36 = .ok (.iconst 0, 1) := by decide +kernel
theorem dL_isSound_37 : decode cL_isSound 37 = .ok (.goto 12, 3) := by decide +kernel
theorem dL_isSound_40 : decode cL_isSound 40 = .ok (.aload_n 0, 1) := by decide +kernel
theorem dL_isSound_41 : decode cL_isSound 41 = .ok (.iload 6, 2) := by decide +kernel
theorem dL_isSound_43 : decode cL_isSound 43 = .ok (.iconst 1, 1) := by decide +kernel
theorem dL_isSound_44 : decode cL_isSound 44 = .ok (.invokevirtual 18, 3) := by decide +kernel
theorem dL_isSound_47 : decode cL_isSound 47 = .ok (.iconst 1, 1) := by decide +kernel
theorem dL_isSound_48 : decode cL_isSound 48 = .ok (.iadd, 1) := by decide +kernel
theorem dL_isSound_49 : decode cL_isSound 49 = .ok (.istore 7, 2) := by decide +kernel
theorem dL_isSound_51 : decode cL_isSound 51 = .ok (.aload_n 0, 1) := by decide +kernel
theorem dL_isSound_52 : decode cL_isSound 52 = .ok (.iload 5, 2) := by decide +kernel
theorem dL_isSound_54 : decode cL_isSound 54 = .ok (.iconst 3, 1) := by decide +kernel
theorem dL_isSound_55 : decode cL_isSound 55 = .ok (.invokevirtual 18, 3) := by decide +kernel
theorem dL_isSound_58 : decode cL_isSound 58 = .ok (.iconst 1, 1) := by decide +kernel
theorem dL_isSound_59 : decode cL_isSound 59 = .ok (.if_icmp .eq 19, 3) := by decide +kernel
theorem dL_isSound_62 : decode cL_isSound 62 = .ok (.iload 6, 2) := by decide +kernel
theorem dL_isSound_64 : decode cL_isSound 64 = .ok (.ifCond .lt 18, 3) := by decide +kernel
theorem dL_isSound_67 : decode cL_isSound 67 = .ok (.aload_n 0, 1) := by decide +kernel
theorem dL_isSound_68 : decode cL_isSound 68 = .ok (.iload 6, 2) := by decide +kernel
theorem dL_isSound_70 : decode cL_isSound 70 = .ok (.iconst 4, 1) := by decide +kernel
theorem dL_isSound_71 : decode cL_isSound 71 = .ok (.invokevirtual 18, 3) := by decide +kernel
theorem dL_isSound_74 : decode cL_isSound 74 = .ok (.iconst 1, 1) := by decide +kernel
theorem dL_isSound_75 : decode cL_isSound 75 = .ok (.if_icmp .ne 7, 3) := by decide +kernel
theorem dL_isSound_78 : decode cL_isSound 78 = .ok (.iconst 1, 1) := by decide +kernel
theorem dL_isSound_79 : decode cL_isSound 79 = .ok (.goto 4, 3) := by decide +kernel
theorem dL_isSound_82 : decode cL_isSound 82 = .ok (.iconst 0, 1) := by decide +kernel
theorem dL_isSound_83 : decode cL_isSound 83 = .ok (.istore 8, 2) := by decide +kernel
theorem dL_isSound_85 : decode cL_isSound 85 = .ok (.aload_n 0, 1) := by decide +kernel
theorem dL_isSound_86 : decode cL_isSound 86 = .ok (.iload 5, 2) := by decide +kernel
theorem dL_isSound_88 : decode cL_isSound 88 = .ok (.bipush 8, 2) := by decide +kernel
theorem dL_isSound_90 : decode cL_isSound 90 = .ok (.invokevirtual 18, 3) := by decide +kernel
theorem dL_isSound_93 : decode cL_isSound 93 = .ok (.aload_n 0, 1) := by decide +kernel
theorem dL_isSound_94 : decode cL_isSound 94 = .ok (.iload 5, 2) := by decide +kernel
theorem dL_isSound_96 : decode cL_isSound 96 = .ok (.iconst 5, 1) := by decide +kernel
theorem dL_isSound_97 : decode cL_isSound 97 = .ok (.invokevirtual 18, 3) := by decide +kernel
theorem dL_isSound_100 : decode cL_isSound 100 = .ok (.aload_n 0, 1) := by decide +kernel
theorem dL_isSound_101 : decode cL_isSound 101 = .ok (.iload 5, 2) := by decide +kernel
theorem dL_isSound_103 : decode cL_isSound 103 = .ok (.bipush 6, 2) := by decide +kernel
theorem dL_isSound_105 : decode cL_isSound 105 = .ok (.invokevirtual 18, 3) := by decide +kernel
theorem dL_isSound_108 : decode cL_isSound 108 = .ok (.isub, 1) := by decide +kernel
theorem dL_isSound_109 : decode cL_isSound 109 = .ok (.aload_n 0, 1) := by decide +kernel
theorem dL_isSound_110 : decode cL_isSound 110 = .ok (.iload 5, 2) := by decide +kernel
theorem dL_isSound_112 : decode cL_isSound 112 = .ok (.bipush 7, 2) := by decide +kernel
theorem dL_isSound_114 : decode cL_isSound 114 = .ok (.invokevirtual 18, 3) := by decide +kernel
theorem dL_isSound_117 : decode cL_isSound 117 = .ok (.isub, 1) := by decide +kernel
theorem dL_isSound_118 : decode cL_isSound 118 = .ok (.if_icmp .ne 51, 3) := by decide +kernel
theorem dL_isSound_121 : decode cL_isSound 121 = .ok (.aload_n 0, 1) := by decide +kernel
theorem dL_isSound_122 : decode cL_isSound 122 = .ok (.iload 5, 2) := by decide +kernel
theorem dL_isSound_124 : decode cL_isSound 124 = .ok (.bipush 8, 2) := by decide +kernel
theorem dL_isSound_126 : decode cL_isSound 126 = .ok (.invokevirtual 18, 3) := by decide +kernel
theorem dL_isSound_129 : decode cL_isSound 129 = .ok (.ifCond .lt 40, 3) := by decide +kernel
theorem dL_isSound_132 : decode cL_isSound 132 = .ok (.aload_n 0, 1) := by decide +kernel
theorem dL_isSound_133 : decode cL_isSound 133 = .ok (.iload 5, 2) := by decide +kernel
theorem dL_isSound_135 : decode cL_isSound 135 = .ok (.iconst 1, 1) := by decide +kernel
theorem dL_isSound_136 : decode cL_isSound 136 = .ok (.invokevirtual 18, 3) := by decide +kernel
theorem dL_isSound_139 : decode cL_isSound 139 = .ok (.iload 7, 2) := by decide +kernel
theorem dL_isSound_141 : decode cL_isSound 141 = .ok (.if_icmp .ne 28, 3) := by decide +kernel
theorem dL_isSound_144 : decode cL_isSound 144 = .ok (.iload 7, 2) := by decide +kernel
theorem dL_isSound_146 : decode cL_isSound 146 = .ok (.iconst 4, 1) := by decide +kernel
theorem dL_isSound_147 : decode cL_isSound 147 = .ok (.if_icmp .gt 22, 3) := by decide +kernel
theorem dL_isSound_150 : decode cL_isSound 150 = .ok (.aload_n 0, 1) := by decide +kernel
theorem dL_isSound_151 : decode cL_isSound 151 = .ok (.iload 5, 2) := by decide +kernel
theorem dL_isSound_153 : decode cL_isSound 153 = .ok (.iconst 4, 1) := by decide +kernel
theorem dL_isSound_154 : decode cL_isSound 154 = .ok (.invokevirtual 18, 3) := by decide +kernel
theorem dL_isSound_157 : decode cL_isSound 157 = .ok (.iload 8, 2) := by decide +kernel
theorem dL_isSound_159 : decode cL_isSound 159 = .ok (.if_icmp .ne 10, 3) := by decide +kernel
theorem dL_isSound_162 : decode cL_isSound 162 = .ok (.iload 6, 2) := by decide +kernel
theorem dL_isSound_164 : decode cL_isSound 164 = .ok (.iload 5, 2) := by decide +kernel
theorem dL_isSound_166 : decode cL_isSound 166 = .ok (.if_icmp .lt 5, 3) := by decide +kernel
theorem dL_isSound_169 : decode cL_isSound 169 = .ok (.iconst 0, 1) := by decide +kernel
theorem dL_isSound_170 : decode cL_isSound 170 = .ok (.ireturn, 1) := by decide +kernel
theorem dL_isSound_171 : decode cL_isSound 171 = .ok (.iconst 0, 1) := by decide +kernel
theorem dL_isSound_172 : decode cL_isSound 172 = .ok (.istore 9, 2) := by decide +kernel
theorem dL_isSound_174 : decode cL_isSound 174 = .ok (.iload 9, 2) := by decide +kernel
theorem dL_isSound_176 : decode cL_isSound 176 = .ok (.iconst 4, 1) := by decide +kernel
theorem dL_isSound_177 : decode cL_isSound 177 = .ok (.if_icmp .ge 94, 3) := by decide +kernel
theorem dL_isSound_180 : decode cL_isSound 180 = .ok (.aload_n 0, 1) := by decide +kernel
theorem dL_isSound_181 : decode cL_isSound 181 = .ok (.iload 5, 2) := by decide +kernel
theorem dL_isSound_183 : decode cL_isSound 183 = .ok (.iload 9, 2) := by decide +kernel
theorem dL_isSound_185 : decode cL_isSound 185 = .ok (.iconst 3, 1) := by decide +kernel
theorem dL_isSound_186 : decode cL_isSound 186 = .ok (.if_icmp .ge 10, 3) := by decide +kernel
theorem dL_isSound_189 : decode cL_isSound 189 = .ok (.iconst 5, 1) := by decide +kernel
theorem dL_isSound_190 : decode cL_isSound 190 = .ok (.iload 9, 2) := by decide +kernel
theorem dL_isSound_192 : decode cL_isSound 192 = .ok (.iadd, 1) := by decide +kernel
theorem dL_isSound_193 : decode cL_isSound 193 = .ok (.goto 5, 3) := by decide +kernel
theorem dL_isSound_196 : decode cL_isSound 196 = .ok (.bipush 8, 2) := by decide +kernel
theorem dL_isSound_198 : decode cL_isSound 198 = .ok (.invokevirtual 18, 3) := by decide +kernel
theorem dL_isSound_201 : decode cL_isSound 201 = .ok (.istore 10, 2) := by decide +kernel
theorem dL_isSound_203 : decode cL_isSound 203 = .ok (.iload 5, 2) := by decide +kernel
theorem dL_isSound_205 : decode cL_isSound 205 = .ok (.iconst 1, 1) := by decide +kernel
theorem dL_isSound_206 : decode cL_isSound 206 = .ok (.iadd, 1) := by decide +kernel
theorem dL_isSound_207 : decode cL_isSound 207 = .ok (.istore 11, 2) := by decide +kernel
theorem dL_isSound_209 : decode cL_isSound 209 = .ok (.iload 11, 2) := by decide +kernel
theorem dL_isSound_211 : decode cL_isSound 211 = .ok (.iload_n 1, 1) := by decide +kernel
theorem dL_isSound_212 : decode cL_isSound 212 = .ok (.if_icmp .ge 38, 3) := by decide +kernel
theorem dL_isSound_215 : decode cL_isSound 215 = .ok (.iload 10, 2) := by decide +kernel
theorem dL_isSound_217 : decode cL_isSound 217 = .ok (.aload_n 0, 1) := by decide +kernel
theorem dL_isSound_218 : decode cL_isSound 218 = .ok (.iload 11, 2) := by decide +kernel
theorem dL_isSound_220 : decode cL_isSound 220 = .ok (.iconst 0, 1) := by decide +kernel
theorem dL_isSound_221 : decode cL_isSound 221 = .ok (.invokevirtual 18, 3) := by decide +kernel
theorem dL_isSound_224 : decode cL_isSound 224 = .ok (.iload 5, 2) := by decide +kernel
theorem dL_isSound_226 : decode cL_isSound 226 = .ok (.if_icmp .ne 14, 3) := by decide +kernel
theorem dL_isSound_229 : decode cL_isSound 229 = .ok (.aload_n 0, 1) := by decide +kernel
theorem dL_isSound_230 : decode cL_isSound 230 = .ok (.iload 11, 2) := by decide +kernel
theorem dL_isSound_232 : decode cL_isSound 232 = .ok (.iload 9, 2) := by decide +kernel
theorem dL_isSound_234 : decode cL_isSound 234 = .ok (.invokevirtual 28, 3) := by decide +kernel
theorem dL_isSound_237 : decode cL_isSound 237 = .ok (.goto 4, 3) := by decide +kernel
theorem dL_isSound_240 : decode cL_isSound 240 = .ok (.iconst 0, 1) := by decide +kernel
theorem dL_isSound_241 : decode cL_isSound 241 = .ok (.iadd, 1) := by decide +kernel
theorem dL_isSound_242 : decode cL_isSound 242 = .ok (.istore 10, 2) := by decide +kernel
theorem dL_isSound_244 : decode cL_isSound 244 = .ok (.iinc 11 1, 3) := by decide +kernel
theorem dL_isSound_247 : decode cL_isSound 247 = .ok (.goto (-38), 3) := by decide +kernel
theorem dL_isSound_250 : decode cL_isSound 250 = .ok (.aload_n 0, 1) := by decide +kernel
theorem dL_isSound_251 : decode cL_isSound 251 = .ok (.iload 5, 2) := by decide +kernel
theorem dL_isSound_253 : decode cL_isSound 253 = .ok (.iload 9, 2) := by decide +kernel
theorem dL_isSound_255 : decode cL_isSound 255 = .ok (.invokevirtual 28, 3) := by decide +kernel
theorem dL_isSound_258 : decode cL_isSound 258 = .ok (.iload 10, 2) := by decide +kernel
theorem dL_isSound_260 : decode cL_isSound 260 = .ok (.if_icmp .eq 5, 3) := by decide +kernel
theorem dL_isSound_263 : decode cL_isSound 263 = .ok (.iconst 0, 1) := by decide +kernel
theorem dL_isSound_264 : decode cL_isSound 264 = .ok (.ireturn, 1) := by decide +kernel
theorem dL_isSound_265 : decode cL_isSound 265 = .ok (.iinc 9 1, 3) := by decide +kernel
theorem dL_isSound_268 : decode cL_isSound 268 = .ok (.goto (-94), 3) := by decide +kernel
theorem dL_isSound_271 : decode cL_isSound 271 = .ok (.iconst 0, 1) := by decide +kernel
theorem dL_isSound_272 : decode cL_isSound 272 = .ok (.istore 9, 2) := by decide +kernel
theorem dL_isSound_274 : decode cL_isSound 274 = .ok (.iconst 0, 1) := by decide +kernel
theorem dL_isSound_275 : decode cL_isSound 275 = .ok (.istore 10, 2) := by decide +kernel
theorem dL_isSound_277 : decode cL_isSound 277 = .ok (.iload 10, 2) := by decide +kernel
theorem dL_isSound_279 : decode cL_isSound 279 = .ok (.aload_n 0, 1) := by decide +kernel
theorem dL_isSound_280 : decode cL_isSound 280 = .ok (.iconst 2, 1) := by decide +kernel
theorem dL_isSound_281 : decode cL_isSound 281 = .ok (.invokevirtual 12, 3) := by decide +kernel
theorem dL_isSound_284 : decode cL_isSound 284 = .ok (.if_icmp .ge 37, 3) := by decide +kernel
theorem dL_isSound_287 : decode cL_isSound 287 = .ok (.iload 9, 2) := by decide +kernel
theorem dL_isSound_289 : decode cL_isSound 289 = .ok (.aload_n 0, 1) := by decide +kernel
theorem dL_isSound_290 : decode cL_isSound 290 = .ok (.iload 10, 2) := by decide +kernel
theorem dL_isSound_292 : decode cL_isSound 292 = .ok (.iconst 0, 1) := by decide +kernel
theorem dL_isSound_293 : decode cL_isSound 293 = .ok (.invokevirtual 25, 3) := by decide +kernel
theorem dL_isSound_296 : decode cL_isSound 296 = .ok (.iload 5, 2) := by decide +kernel
theorem dL_isSound_298 : decode cL_isSound 298 = .ok (.if_icmp .ne 13, 3) := by decide +kernel
theorem dL_isSound_301 : decode cL_isSound 301 = .ok (.aload_n 0, 1) := by decide +kernel
theorem dL_isSound_302 : decode cL_isSound 302 = .ok (.iload 10, 2) := by decide +kernel
theorem dL_isSound_304 : decode cL_isSound 304 = .ok (.iconst 1, 1) := by decide +kernel
theorem dL_isSound_305 : decode cL_isSound 305 = .ok (.invokevirtual 25, 3) := by decide +kernel
theorem dL_isSound_308 : decode cL_isSound 308 = .ok (.goto 4, 3) := by decide +kernel
theorem dL_isSound_311 : decode cL_isSound 311 = .ok (.iconst 0, 1) := by decide +kernel
theorem dL_isSound_312 : decode cL_isSound 312 = .ok (.iadd, 1) := by decide +kernel
theorem dL_isSound_313 : decode cL_isSound 313 = .ok (.istore 9, 2) := by decide +kernel
theorem dL_isSound_315 : decode cL_isSound 315 = .ok (.iinc 10 1, 3) := by decide +kernel
theorem dL_isSound_318 : decode cL_isSound 318 = .ok (.goto (-41), 3) := by decide +kernel
theorem dL_isSound_321 : decode cL_isSound 321 = .ok (.iload 9, 2) := by decide +kernel
theorem dL_isSound_323 : decode cL_isSound 323 = .ok (.aload_n 0, 1) := by decide +kernel
theorem dL_isSound_324 : decode cL_isSound 324 = .ok (.iload 5, 2) := by decide +kernel
theorem dL_isSound_326 : decode cL_isSound 326 = .ok (.bipush 6, 2) := by decide +kernel
theorem dL_isSound_328 : decode cL_isSound 328 = .ok (.invokevirtual 18, 3) := by decide +kernel
theorem dL_isSound_331 : decode cL_isSound 331 = .ok (.if_icmp .eq 5, 3) := by decide +kernel
theorem dL_isSound_334 : decode cL_isSound 334 = .ok (.iconst 0, 1) := by decide +kernel
theorem dL_isSound_335 : decode cL_isSound 335 = .ok (.ireturn, 1) := by decide +kernel
theorem dL_isSound_336 : decode cL_isSound 336 = .ok (.iload_n 2, 1) := by decide +kernel
theorem dL_isSound_337 : decode cL_isSound 337 = .ok (.iload 8, 2) := by decide +kernel
theorem dL_isSound_339 : decode cL_isSound 339 = .ok (.iadd, 1) := by decide +kernel
theorem dL_isSound_340 : decode cL_isSound 340 = .ok (.istore_n 2, 1) := by decide +kernel
theorem dL_isSound_341 : decode cL_isSound 341 = .ok (.iload_n 3, 1) := by decide +kernel
theorem dL_isSound_342 : decode cL_isSound 342 = .ok (.aload_n 0, 1) := by decide +kernel
theorem dL_isSound_343 : decode cL_isSound 343 = .ok (.iload 5, 2) := by decide +kernel
theorem dL_isSound_345 : decode cL_isSound 345 = .ok (.iconst 5, 1) := by decide +kernel
theorem dL_isSound_346 : decode cL_isSound 346 = .ok (.invokevirtual 18, 3) := by decide +kernel
theorem dL_isSound_349 : decode cL_isSound 349 = .ok (.iadd, 1) := by decide +kernel
theorem dL_isSound_350 : decode cL_isSound 350 = .ok (.istore_n 3, 1) := by decide +kernel
theorem dL_isSound_351 : decode cL_isSound 351 = .ok (.iinc 5 1, 3) := by decide +kernel
theorem dL_isSound_354 : decode cL_isSound 354 = .ok (.goto (-338), 3) := by decide +kernel
theorem dL_isSound_357 : decode cL_isSound 357 = .ok (.iconst 0, 1) := by decide +kernel
theorem dL_isSound_358 : decode cL_isSound 358 = .ok (.istore 5, 2) := by decide +kernel
theorem dL_isSound_360 : decode cL_isSound 360 = .ok (.iconst 0, 1) := by decide +kernel
theorem dL_isSound_361 : decode cL_isSound 361 = .ok (.istore 6, 2) := by decide +kernel
theorem dL_isSound_363 : decode cL_isSound 363 = .ok (.iload 6, 2) := by decide +kernel
theorem dL_isSound_365 : decode cL_isSound 365 = .ok (.aload_n 0, 1) := by decide +kernel
theorem dL_isSound_366 : decode cL_isSound 366 = .ok (.iconst 2, 1) := by decide +kernel
theorem dL_isSound_367 : decode cL_isSound 367 = .ok (.invokevirtual 12, 3) := by decide +kernel
theorem dL_isSound_370 : decode cL_isSound 370 = .ok (.if_icmp .ge 41, 3) := by decide +kernel
theorem dL_isSound_373 : decode cL_isSound 373 = .ok (.iload 4, 2) := by decide +kernel
theorem dL_isSound_375 : decode cL_isSound 375 = .ok (.aload_n 0, 1) := by decide +kernel
theorem dL_isSound_376 : decode cL_isSound 376 = .ok (.iload 6, 2) := by decide +kernel
theorem dL_isSound_378 : decode cL_isSound 378 = .ok (.iconst 1, 1) := by decide +kernel
theorem dL_isSound_379 : decode cL_isSound 379 = .ok (.invokevirtual 25, 3) := by decide +kernel
theorem dL_isSound_382 : decode cL_isSound 382 = .ok (.ifCond .le 7, 3) := by decide +kernel
theorem dL_isSound_385 : decode cL_isSound 385 = .ok (.iconst 1, 1) := by decide +kernel
theorem dL_isSound_386 : decode cL_isSound 386 = .ok (.goto 4, 3) := by decide +kernel
theorem dL_isSound_389 : decode cL_isSound 389 = .ok (.iconst 0, 1) := by decide +kernel
theorem dL_isSound_390 : decode cL_isSound 390 = .ok (.iadd, 1) := by decide +kernel
theorem dL_isSound_391 : decode cL_isSound 391 = .ok (.istore 4, 2) := by decide +kernel
theorem dL_isSound_393 : decode cL_isSound 393 = .ok (.iload 5, 2) := by decide +kernel
theorem dL_isSound_395 : decode cL_isSound 395 = .ok (.aload_n 0, 1) := by decide +kernel
theorem dL_isSound_396 : decode cL_isSound 396 = .ok (.iload 6, 2) := by decide +kernel
theorem dL_isSound_398 : decode cL_isSound 398 = .ok (.iconst 2, 1) := by decide +kernel
theorem dL_isSound_399 : decode cL_isSound 399 = .ok (.invokevirtual 25, 3) := by decide +kernel
theorem dL_isSound_402 : decode cL_isSound 402 = .ok (.iadd, 1) := by decide +kernel
theorem dL_isSound_403 : decode cL_isSound 403 = .ok (.istore 5, 2) := by decide +kernel
theorem dL_isSound_405 : decode cL_isSound 405 = .ok (.iinc 6 1, 3) := by decide +kernel
theorem dL_isSound_408 : decode cL_isSound 408 = .ok (.goto (-45), 3) := by decide +kernel
theorem dL_isSound_411 : decode cL_isSound 411 = .ok (.aload_n 0, 1) := by decide +kernel
theorem dL_isSound_412 : decode cL_isSound 412 = .ok (.iconst 4, 1) := by decide +kernel
theorem dL_isSound_413 : decode cL_isSound 413 = .ok (.invokevirtual 12, 3) := by decide +kernel
theorem dL_isSound_416 : decode cL_isSound 416 = .ok (.iload_n 2, 1) := by decide +kernel
theorem dL_isSound_417 : decode cL_isSound 417 = .ok (.if_icmp .ne 62, 3) := by decide +kernel
theorem dL_isSound_420 : decode cL_isSound 420 = .ok (.aload_n 0, 1) := by decide +kernel
theorem dL_isSound_421 : decode cL_isSound 421 = .ok (.bipush 6, 2) := by decide +kernel
theorem dL_isSound_423 : decode cL_isSound 423 = .ok (.invokevirtual 12, 3) := by decide +kernel
theorem dL_isSound_426 : decode cL_isSound 426 = .ok (.iload_n 3, 1) := by decide +kernel
theorem dL_isSound_427 : decode cL_isSound 427 = .ok (.if_icmp .ne 52, 3) := by decide +kernel
theorem dL_isSound_430 : decode cL_isSound 430 = .ok (.aload_n 0, 1) := by decide +kernel
theorem dL_isSound_431 : decode cL_isSound 431 = .ok (.iconst 3, 1) := by decide +kernel
theorem dL_isSound_432 : decode cL_isSound 432 = .ok (.invokevirtual 12, 3) := by decide +kernel
theorem dL_isSound_435 : decode cL_isSound 435 = .ok (.iload 4, 2) := by decide +kernel
theorem dL_isSound_437 : decode cL_isSound 437 = .ok (.if_icmp .ne 42, 3) := by decide +kernel
theorem dL_isSound_440 : decode cL_isSound 440 = .ok (.aload_n 0, 1) := by decide +kernel
theorem dL_isSound_441 : decode cL_isSound 441 = .ok (.bipush 8, 2) := by decide +kernel
theorem dL_isSound_443 : decode cL_isSound 443 = .ok (.invokevirtual 12, 3) := by decide +kernel
theorem dL_isSound_446 : decode cL_isSound 446 = .ok (.iload 5, 2) := by decide +kernel
theorem dL_isSound_448 : decode cL_isSound 448 = .ok (.if_icmp .ne 31, 3) := by decide +kernel
theorem dL_isSound_451 : decode cL_isSound 451 = .ok (.aload_n 0, 1) := by decide +kernel
theorem dL_isSound_452 : decode cL_isSound 452 = .ok (.iconst 0, 1) := by decide +kernel
theorem dL_isSound_453 : decode cL_isSound 453 = .ok (.iconst 4, 1) := by decide +kernel
theorem dL_isSound_454 : decode cL_isSound 454 = .ok (.invokevirtual 28, 3) := by decide +kernel
theorem dL_isSound_457 : decode cL_isSound 457 = .ok (.iload_n 1, 1) := by decide +kernel
theorem dL_isSound_458 : decode cL_isSound 458 = .ok (.if_icmp .ne 21, 3) := by decide +kernel
theorem dL_isSound_461 : decode cL_isSound 461 = .ok (.aload_n 0, 1) := by decide +kernel
theorem dL_isSound_462 : decode cL_isSound 462 = .ok (.iconst 0, 1) := by decide +kernel
theorem dL_isSound_463 : decode cL_isSound 463 = .ok (.invokevirtual 22, 3) := by decide +kernel
theorem dL_isSound_466 : decode cL_isSound 466 = .ok (.aload_n 0, 1) := by decide +kernel
theorem dL_isSound_467 : decode cL_isSound 467 = .ok (.iconst 0, 1) := by decide +kernel
theorem dL_isSound_468 : decode cL_isSound 468 = .ok (.iconst 3, 1) := by decide +kernel
theorem dL_isSound_469 : decode cL_isSound 469 = .ok (.invokevirtual 28, 3) := by decide +kernel
theorem dL_isSound_472 : decode cL_isSound 472 = .ok (.if_icmp .gt 7, 3) := by decide +kernel
theorem dL_isSound_475 : decode cL_isSound 475 = .ok (.iconst 1, 1) := by decide +kernel
theorem dL_isSound_476 : decode cL_isSound 476 = .ok (.goto 4, 3) := by decide +kernel
theorem dL_isSound_479 : decode cL_isSound 479 = .ok (.iconst 0, 1) := by decide +kernel
theorem dL_isSound_480 : decode cL_isSound 480 = .ok (.ireturn, 1) := by decide +kernel
