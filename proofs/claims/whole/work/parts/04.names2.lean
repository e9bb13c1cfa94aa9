def wsL_lot : List Cond := .codeWith yL_lot cL_lot 4 (some .int) [(0, 9, 12, 13), (0, 9, 15, 15)] :: ((wsL_lot_r1 ++ (wsL_lot_r2 ++ (wsL_lot_r3 ++ wsL_lot_r4))) ++ wsX80 ++ wsX30 ++ wsJx4a65c0 ++ (vx_atS RX8 82 "java/lang/IllegalArgumentException" ["java/lang/RuntimeException", "java/lang/Exception"]).filter goodWord ++ (vx_atS RX8 90 "java/lang/UnsupportedOperationException" ["java/lang/RuntimeException", "java/lang/Exception"]).filter goodWord)
def wsL_put_r1 : List Cond := [Cond.classLink RL 34 "java/lang/IndexOutOfBoundsException", Cond.methodLink RL 54 yX8_put, Cond.instanceMethod yX8_put, Cond.selects RX8 yX8_put yX8_put, Cond.initialized RX8, Cond.code yX8_put cX8_put 5 (some .boolean), Cond.methodLink RX8 206 yX8_lotAt, Cond.instanceMethod yX8_lotAt, Cond.selects RX8 yX8_lotAt yX8_lotAt, Cond.code yX8_lotAt cX8_lotAt 2 (some (.object "CorkForest$Lot")), Cond.classLink RX8 286 "java/lang/IndexOutOfBoundsException", Cond.initialized "java/lang/IndexOutOfBoundsException", Cond.fieldLink RX8 42 "CorkForest" "lots" "Ljava/util/ArrayList;", Cond.classLink RX8 203 "CorkForest$Lot", Cond.methodLink RX8 85 yJx4a65c_size_8abf5, Cond.instanceMethod yJx4a65c_size_8abf5, Cond.selects RJx4a65c yJx4a65c_size_8abf5 yJx4a65c_size_8abf5, Cond.initialized RJx4a65c, Cond.code yJx4a65c_size_8abf5 cJx4a65c_size_8abf5 1 (some .int), Cond.fieldLink RJx4a65c 48 "java/util/ArrayList" "size" "I", Cond.methodLink RX8 314 yJx4a65c_get_915e3, Cond.instanceMethod yJx4a65c_get_915e3, Cond.selects RJx4a65c yJx4a65c_get_915e3 yJx4a65c_get_915e3, Cond.code yJx4a65c_get_915e3 cJx4a65c_get_915e3 2 (some (.object "java/lang/Object"))]
def wsL_put_r2 : List Cond := [Cond.methodLink RJx4a65c 118 yJ15_checkIndex_7cf53, Cond.static yJ15_checkIndex_7cf53, Cond.initialized RJ15, Cond.code yJ15_checkIndex_7cf53 cJ15_checkIndex_7cf53 2 (some .int), Cond.methodLink RJ15 105 yJ3_checkIndex_8e157, Cond.static yJ3_checkIndex_8e157, Cond.initialized RJ3, Cond.code yJ3_checkIndex_8e157 cJ3_checkIndex_8e157 3 (some .int), Cond.methodLink RJx4a65c 123 yJx4a65c_elementData_915e3, Cond.instanceMethod yJx4a65c_elementData_915e3, Cond.selects RJx4a65c yJx4a65c_elementData_915e3 yJx4a65c_elementData_915e3, Cond.code yJx4a65c_elementData_915e3 cJx4a65c_elementData_915e3 2 (some (.object "java/lang/Object")), Cond.fieldLink RJx4a65c 9 "java/util/ArrayList" "elementData" "[Ljava/lang/Object;", Cond.methodLink RX8 178 yX8_plankAt, Cond.instanceMethod yX8_plankAt, Cond.selects RX8 yX8_plankAt yX8_plankAt, Cond.code yX8_plankAt cX8_plankAt 2 (some (.object "CorkForest$Plank")), Cond.fieldLink RX8 39 "CorkForest" "planks" "Ljava/util/ArrayList;", Cond.classLink RX8 137 "CorkForest$Plank", Cond.methodLink RX8 210 yX3_isSold, Cond.instanceMethod yX3_isSold, Cond.selects RX3 yX3_isSold yX3_isSold, Cond.initialized RX3, Cond.code yX3_isSold cX3_isSold 1 (some .boolean)]
def wsL_put_r3 : List Cond := [Cond.fieldLink RX3 22 "CorkForest$Lot" "buyer" "I", Cond.methodLink RX8 214 yX3_take, Cond.instanceMethod yX3_take, Cond.selects RX3 yX3_take yX3_take, Cond.code yX3_take cX3_take 2 none, Cond.fieldLink RX3 15 "CorkForest$Lot" "boards" "I", Cond.fieldLink RX3 19 "CorkForest$Lot" "weight" "I", Cond.methodLink RX3 31 yX4_weight, Cond.instanceMethod yX4_weight, Cond.selects RX4 yX4_weight yX4_weight, Cond.initialized RX4, Cond.code yX4_weight cX4_weight 1 (some .int), Cond.fieldLink RX4 21 "CorkForest$Plank" "high" "I", Cond.fieldLink RX4 24 "CorkForest$Plank" "wide" "I", Cond.fieldLink RX4 27 "CorkForest$Plank" "thick" "I", Cond.constantLong RX4 30 (1000)]
def wsL_put : List Cond := .codeWith yL_put cL_put 5 (some .int) [(0, 17, 20, 34)] :: ((wsL_put_r1 ++ (wsL_put_r2 ++ wsL_put_r3)) ++ wsX40 ++ wsX80 ++ wsJx4a65c0 ++ wsX30 ++ (vx_atS RX8 290 "java/lang/IndexOutOfBoundsException" ["java/lang/RuntimeException", "java/lang/Exception"]).filter goodWord)
def wsL_bid_r1 : List Cond := [Cond.classLink RL 34 "java/lang/IndexOutOfBoundsException", Cond.classLink RL 13 "java/lang/IllegalArgumentException", Cond.methodLink RL 58 yX8_bid, Cond.instanceMethod yX8_bid, Cond.selects RX8 yX8_bid yX8_bid, Cond.initialized RX8, Cond.code yX8_bid cX8_bid 5 (some .boolean), Cond.classLink RX8 78 "java/lang/IllegalArgumentException", Cond.initialized "java/lang/IllegalArgumentException", Cond.constant RX8 198 (1000000), Cond.methodLink RX8 206 yX8_lotAt, Cond.instanceMethod yX8_lotAt, Cond.selects RX8 yX8_lotAt yX8_lotAt, Cond.code yX8_lotAt cX8_lotAt 2 (some (.object "CorkForest$Lot")), Cond.classLink RX8 286 "java/lang/IndexOutOfBoundsException", Cond.initialized "java/lang/IndexOutOfBoundsException", Cond.fieldLink RX8 42 "CorkForest" "lots" "Ljava/util/ArrayList;", Cond.classLink RX8 203 "CorkForest$Lot", Cond.methodLink RX8 85 yJx4a65c_size_8abf5, Cond.instanceMethod yJx4a65c_size_8abf5, Cond.selects RJx4a65c yJx4a65c_size_8abf5 yJx4a65c_size_8abf5, Cond.initialized RJx4a65c, Cond.code yJx4a65c_size_8abf5 cJx4a65c_size_8abf5 1 (some .int), Cond.fieldLink RJx4a65c 48 "java/util/ArrayList" "size" "I"]
def wsL_bid_r2 : List Cond := [Cond.methodLink RX8 314 yJx4a65c_get_915e3, Cond.instanceMethod yJx4a65c_get_915e3, Cond.selects RJx4a65c yJx4a65c_get_915e3 yJx4a65c_get_915e3, Cond.code yJx4a65c_get_915e3 cJx4a65c_get_915e3 2 (some (.object "java/lang/Object")), Cond.methodLink RJx4a65c 118 yJ15_checkIndex_7cf53, Cond.static yJ15_checkIndex_7cf53, Cond.initialized RJ15, Cond.code yJ15_checkIndex_7cf53 cJ15_checkIndex_7cf53 2 (some .int), Cond.methodLink RJ15 105 yJ3_checkIndex_8e157, Cond.static yJ3_checkIndex_8e157, Cond.initialized RJ3, Cond.code yJ3_checkIndex_8e157 cJ3_checkIndex_8e157 3 (some .int), Cond.methodLink RJx4a65c 123 yJx4a65c_elementData_915e3, Cond.instanceMethod yJx4a65c_elementData_915e3, Cond.selects RJx4a65c yJx4a65c_elementData_915e3 yJx4a65c_elementData_915e3, Cond.code yJx4a65c_elementData_915e3 cJx4a65c_elementData_915e3 2 (some (.object "java/lang/Object")), Cond.fieldLink RJx4a65c 9 "java/util/ArrayList" "elementData" "[Ljava/lang/Object;", Cond.methodLink RX8 210 yX3_isSold, Cond.instanceMethod yX3_isSold, Cond.selects RX3 yX3_isSold yX3_isSold, Cond.initialized RX3, Cond.code yX3_isSold cX3_isSold 1 (some .boolean), Cond.fieldLink RX3 22 "CorkForest$Lot" "buyer" "I"]
def wsL_bid : List Cond := .codeWith yL_bid cL_bid 6 (some .int) [(0, 19, 22, 34), (0, 19, 26, 13)] :: ((wsL_bid_r1 ++ wsL_bid_r2) ++ wsX30 ++ wsX80 ++ wsJx4a65c0 ++ (vx_atS RX8 82 "java/lang/IllegalArgumentException" ["java/lang/RuntimeException", "java/lang/Exception"]).filter goodWord ++ (vx_atS RX8 290 "java/lang/IndexOutOfBoundsException" ["java/lang/RuntimeException", "java/lang/Exception"]).filter goodWord)
def wsL_sell_r1 : List Cond := [Cond.classLink RL 34 "java/lang/IndexOutOfBoundsException", Cond.methodLink RL 62 yX8_sell, Cond.instanceMethod yX8_sell, Cond.selects RX8 yX8_sell yX8_sell, Cond.initialized RX8, Cond.code yX8_sell cX8_sell 3 (some .int), Cond.methodLink RX8 206 yX8_lotAt, Cond.instanceMethod yX8_lotAt, Cond.selects RX8 yX8_lotAt yX8_lotAt, Cond.code yX8_lotAt cX8_lotAt 2 (some (.object "CorkForest$Lot")), Cond.classLink RX8 286 "java/lang/IndexOutOfBoundsException", Cond.initialized "java/lang/IndexOutOfBoundsException", Cond.fieldLink RX8 42 "CorkForest" "lots" "Ljava/util/ArrayList;", Cond.classLink RX8 203 "CorkForest$Lot", Cond.methodLink RX8 85 yJx4a65c_size_8abf5, Cond.instanceMethod yJx4a65c_size_8abf5, Cond.selects RJx4a65c yJx4a65c_size_8abf5 yJx4a65c_size_8abf5, Cond.initialized RJx4a65c, Cond.code yJx4a65c_size_8abf5 cJx4a65c_size_8abf5 1 (some .int), Cond.fieldLink RJx4a65c 48 "java/util/ArrayList" "size" "I", Cond.methodLink RX8 314 yJx4a65c_get_915e3, Cond.instanceMethod yJx4a65c_get_915e3, Cond.selects RJx4a65c yJx4a65c_get_915e3 yJx4a65c_get_915e3, Cond.code yJx4a65c_get_915e3 cJx4a65c_get_915e3 2 (some (.object "java/lang/Object"))]
def wsL_sell_r2 : List Cond := [Cond.methodLink RJx4a65c 118 yJ15_checkIndex_7cf53, Cond.static yJ15_checkIndex_7cf53, Cond.initialized RJ15, Cond.code yJ15_checkIndex_7cf53 cJ15_checkIndex_7cf53 2 (some .int), Cond.methodLink RJ15 105 yJ3_checkIndex_8e157, Cond.static yJ3_checkIndex_8e157, Cond.initialized RJ3, Cond.code yJ3_checkIndex_8e157 cJ3_checkIndex_8e157 3 (some .int), Cond.methodLink RJx4a65c 123 yJx4a65c_elementData_915e3, Cond.instanceMethod yJx4a65c_elementData_915e3, Cond.selects RJx4a65c yJx4a65c_elementData_915e3 yJx4a65c_elementData_915e3, Cond.code yJx4a65c_elementData_915e3 cJx4a65c_elementData_915e3 2 (some (.object "java/lang/Object")), Cond.fieldLink RJx4a65c 9 "java/util/ArrayList" "elementData" "[Ljava/lang/Object;", Cond.methodLink RX8 210 yX3_isSold, Cond.instanceMethod yX3_isSold, Cond.selects RX3 yX3_isSold yX3_isSold, Cond.initialized RX3, Cond.code yX3_isSold cX3_isSold 1 (some .boolean), Cond.fieldLink RX3 22 "CorkForest$Lot" "buyer" "I", Cond.methodLink RX8 229 yX3_goToGreatestBid, Cond.instanceMethod yX3_goToGreatestBid, Cond.selects RX3 yX3_goToGreatestBid yX3_goToGreatestBid, Cond.code yX3_goToGreatestBid cX3_goToGreatestBid 4 none, Cond.fieldLink RX3 9 "CorkForest$Lot" "bids" "[I"]
def wsL_sell_r3 : List Cond := [Cond.fieldLink RX3 28 "CorkForest$Lot" "floor" "I", Cond.fieldLink RX3 25 "CorkForest$Lot" "price" "I", Cond.methodLink RX3 36 yX3_isSold]
def wsL_sell : List Cond := .codeWith yL_sell cL_sell 4 (some .int) [(0, 9, 12, 34)] :: ((wsL_sell_r1 ++ (wsL_sell_r2 ++ wsL_sell_r3)) ++ wsX30 ++ wsX80 ++ wsJx4a65c0 ++ (vx_atS RX8 290 "java/lang/IndexOutOfBoundsException" ["java/lang/RuntimeException", "java/lang/Exception"]).filter goodWord)
def wsL_offer_r1 : List Cond := [Cond.classLink RL 34 "java/lang/IndexOutOfBoundsException", Cond.classLink RL 28 "java/util/NoSuchElementException", Cond.methodLink RL 65 yX8_offer, Cond.instanceMethod yX8_offer, Cond.selects RX8 yX8_offer yX8_offer, Cond.initialized RX8, Cond.code yX8_offer cX8_offer 4 (some .int), Cond.classLink RX8 114 "java/util/NoSuchElementException", Cond.initialized "java/util/NoSuchElementException", Cond.methodLink RX8 206 yX8_lotAt, Cond.instanceMethod yX8_lotAt, Cond.selects RX8 yX8_lotAt yX8_lotAt, Cond.code yX8_lotAt cX8_lotAt 2 (some (.object "CorkForest$Lot")), Cond.classLink RX8 286 "java/lang/IndexOutOfBoundsException", Cond.initialized "java/lang/IndexOutOfBoundsException", Cond.fieldLink RX8 42 "CorkForest" "lots" "Ljava/util/ArrayList;", Cond.classLink RX8 203 "CorkForest$Lot", Cond.methodLink RX8 85 yJx4a65c_size_8abf5, Cond.instanceMethod yJx4a65c_size_8abf5, Cond.selects RJx4a65c yJx4a65c_size_8abf5 yJx4a65c_size_8abf5, Cond.initialized RJx4a65c, Cond.code yJx4a65c_size_8abf5 cJx4a65c_size_8abf5 1 (some .int), Cond.fieldLink RJx4a65c 48 "java/util/ArrayList" "size" "I", Cond.methodLink RX8 314 yJx4a65c_get_915e3]
def wsL_offer_r2 : List Cond := [Cond.instanceMethod yJx4a65c_get_915e3, Cond.selects RJx4a65c yJx4a65c_get_915e3 yJx4a65c_get_915e3, Cond.code yJx4a65c_get_915e3 cJx4a65c_get_915e3 2 (some (.object "java/lang/Object")), Cond.methodLink RJx4a65c 118 yJ15_checkIndex_7cf53, Cond.static yJ15_checkIndex_7cf53, Cond.initialized RJ15, Cond.code yJ15_checkIndex_7cf53 cJ15_checkIndex_7cf53 2 (some .int), Cond.methodLink RJ15 105 yJ3_checkIndex_8e157, Cond.static yJ3_checkIndex_8e157, Cond.initialized RJ3, Cond.code yJ3_checkIndex_8e157 cJ3_checkIndex_8e157 3 (some .int), Cond.methodLink RJx4a65c 123 yJx4a65c_elementData_915e3, Cond.instanceMethod yJx4a65c_elementData_915e3, Cond.selects RJx4a65c yJx4a65c_elementData_915e3 yJx4a65c_elementData_915e3, Cond.code yJx4a65c_elementData_915e3 cJx4a65c_elementData_915e3 2 (some (.object "java/lang/Object")), Cond.fieldLink RJx4a65c 9 "java/util/ArrayList" "elementData" "[Ljava/lang/Object;"]
def wsL_offer : List Cond := .codeWith yL_offer cL_offer 5 (some .int) [(0, 10, 13, 34), (0, 10, 17, 28)] :: ((wsL_offer_r1 ++ wsL_offer_r2) ++ wsX30 ++ wsX80 ++ wsJx4a65c0 ++ (vx_atS RX8 118 "java/util/NoSuchElementException" ["java/lang/RuntimeException", "java/lang/Exception"]).filter goodWord ++ (vx_atS RX8 290 "java/lang/IndexOutOfBoundsException" ["java/lang/RuntimeException", "java/lang/Exception"]).filter goodWord)
def wsL_lay : List Cond := .codeWith yL_lay cL_lay 5 (some .int) [(0, 7, 10, 13)] :: ([.classLink RL 13 "java/lang/IllegalArgumentException", .methodLink RL 68 yX8_lay, .instanceMethod yX8_lay, .selects RX8 yX8_lay yX8_lay, .initialized RX8, .code yX8_lay cX8_lay 4 none, .classLink RX8 78 "java/lang/IllegalArgumentException", .initialized "java/lang/IllegalArgumentException", .fieldLink RX8 48 "CorkForest" "bench" "LCorkForest$Bench;", .methodLink RX8 248 yX0_layStrip, .instanceMethod yX0_layStrip, .selects RX0 yX0_layStrip yX0_layStrip, .initialized RX0, .code yX0_layStrip cX0_layStrip 6 none, .fieldLink RX0 31 "CorkForest$Bench" "cells" "I", .fieldLink RX0 34 "CorkForest$Bench" "flaws" "J", .methodLink RX0 44 yX0_lowest, .static yX0_lowest, .code yX0_lowest cX0_lowest 1 (some .long)] ++ wsX80 ++ wsX00 ++ (vx_atS RX8 82 "java/lang/IllegalArgumentException" ["java/lang/RuntimeException", "java/lang/Exception"]).filter goodWord)
def wsL_sort : List Cond := .codeWith yL_sort cL_sort 6 (some .int) [(0, 12, 15, 13)] :: ([.classLink RL 13 "java/lang/IllegalArgumentException", .methodLink RL 72 yX8_sort, .instanceMethod yX8_sort, .selects RX8 yX8_sort yX8_sort, .initialized RX8, .code yX8_sort cX8_sort 4 (some .int), .classLink RX8 78 "java/lang/IllegalArgumentException", .initialized "java/lang/IllegalArgumentException", .fieldLink RX8 48 "CorkForest" "bench" "LCorkForest$Bench;", .methodLink RX8 258 yX0_addSort, .instanceMethod yX0_addSort, .selects RX0 yX0_addSort yX0_addSort, .initialized RX0, .code yX0_addSort cX0_addSort 4 (some .int), .fieldLink RX0 27 "CorkForest$Bench" "sorts" "I", .fieldLink RX0 9 "CorkForest$Bench" "sizes" "[I", .fieldLink RX0 15 "CorkForest$Bench" "worths" "[I", .fieldLink RX0 18 "CorkForest$Bench" "flawsAllowed" "[I"] ++ wsX80 ++ wsX00 ++ (vx_atS RX8 82 "java/lang/IllegalArgumentException" ["java/lang/RuntimeException", "java/lang/Exception"]).filter goodWord)
def wsL_stand : List Cond := .codeWith yL_stand cL_stand 5 (some .int) [(0, 10, 13, 13)] :: ([.classLink RL 13 "java/lang/IllegalArgumentException", .methodLink RL 76 yX8_stand, .instanceMethod yX8_stand, .selects RX8 yX8_stand yX8_stand, .initialized RX8, .code yX8_stand cX8_stand 3 (some .int), .classLink RX8 78 "java/lang/IllegalArgumentException", .initialized "java/lang/IllegalArgumentException", .constant RX8 198 (1000000), .fieldLink RX8 55 "CorkForest" "stands" "LCorkForest$Stands;", .methodLink RX8 278 yX5_addStand, .instanceMethod yX5_addStand, .selects RX5 yX5_addStand yX5_addStand, .initialized RX5, .code yX5_addStand cX5_addStand 3 (some .int), .fieldLink RX5 27 "CorkForest$Stands" "size" "I", .fieldLink RX5 9 "CorkForest$Stands" "yields" "[I", .fieldLink RX5 15 "CorkForest$Stands" "allowed" "[I", .fieldLink RX5 34 "CorkForest$Stands" "known" "Z"] ++ wsX80 ++ wsX50 ++ (vx_atS RX8 82 "java/lang/IllegalArgumentException" ["java/lang/RuntimeException", "java/lang/Exception"]).filter goodWord)
def wsL_plan_r1 : List Cond := [Cond.classLink RL 34 "java/lang/IndexOutOfBoundsException", Cond.methodLink RL 79 yX8_plan, Cond.instanceMethod yX8_plan, Cond.selects RX8 yX8_plan yX8_plan, Cond.initialized RX8, Cond.code yX8_plan cX8_plan 2 (some .int), Cond.classLink RX8 286 "java/lang/IndexOutOfBoundsException", Cond.initialized "java/lang/IndexOutOfBoundsException", Cond.fieldLink RX8 55 "CorkForest" "stands" "LCorkForest$Stands;", Cond.methodLink RX8 285 yX5_size, Cond.instanceMethod yX5_size, Cond.selects RX5 yX5_size yX5_size, Cond.initialized RX5, Cond.code yX5_size cX5_size 1 (some .int), Cond.fieldLink RX5 27 "CorkForest$Stands" "size" "I", Cond.methodLink RX8 291 yX5_yearOf, Cond.instanceMethod yX5_yearOf, Cond.selects RX5 yX5_yearOf yX5_yearOf, Cond.code yX5_yearOf cX5_yearOf 2 (some .int), Cond.fieldLink RX5 24 "CorkForest$Stands" "best" "[I", Cond.methodLink RX5 38 yX5_search, Cond.instanceMethod yX5_search, Cond.selects RX5 yX5_search yX5_search, Cond.code yX5_search cX5_search 1 none]
def wsL_plan_r2 : List Cond := [Cond.fieldLink RX5 34 "CorkForest$Stands" "known" "Z", Cond.constant RX5 43 (2147483647), Cond.fieldLink RX5 31 "CorkForest$Stands" "least" "I", Cond.methodLink RX5 44 yX5_greatestYield, Cond.instanceMethod yX5_greatestYield, Cond.selects RX5 yX5_greatestYield yX5_greatestYield, Cond.code yX5_greatestYield cX5_greatestYield 3 (some .int), Cond.fieldLink RX5 9 "CorkForest$Stands" "yields" "[I", Cond.methodLink RX5 52 Lib.Math.max.name, Cond.static Lib.Math.max.name, Cond.initialized "java/lang/Math", Cond.code Lib.Math.max.name Lib.Math.max.code 2 (some .int), Cond.methodLink RX5 48 yX5_tryFrom, Cond.instanceMethod yX5_tryFrom, Cond.selects RX5 yX5_tryFrom yX5_tryFrom, Cond.code yX5_tryFrom cX5_tryFrom 4 none, Cond.fieldLink RX5 15 "CorkForest$Stands" "allowed" "[I", Cond.methodLink RX5 58 yX5_keepTried, Cond.instanceMethod yX5_keepTried, Cond.selects RX5 yX5_keepTried yX5_keepTried, Cond.code yX5_keepTried cX5_keepTried 3 none, Cond.fieldLink RX5 21 "CorkForest$Stands" "tried" "[I", Cond.methodLink RX5 62 yX5_tryYear, Cond.instanceMethod yX5_tryYear]
def wsL_plan_r3 : List Cond := [Cond.selects RX5 yX5_tryYear yX5_tryYear, Cond.code yX5_tryYear cX5_tryYear 6 none, Cond.fieldLink RX5 18 "CorkForest$Stands" "bears" "[I"]
def wsL_plan : List Cond := .codeWith yL_plan cL_plan 4 (some .int) [(0, 9, 12, 34)] :: ((wsL_plan_r1 ++ (wsL_plan_r2 ++ wsL_plan_r3)) ++ wsX80 ++ wsX50 ++ (vx_atS RX8 290 "java/lang/IndexOutOfBoundsException" ["java/lang/RuntimeException", "java/lang/Exception"]).filter goodWord)
theorem dX0_init_0 : decode cX0_init 0 = .ok (.aload_n 0, 1) := by decide +kernel
theorem dX0_init_1 : decode cX0_init 1 = .ok (.invokespecial 3, 3) := by decide +kernel
theorem dX0_init_4 : decode cX0_init 4 = .ok (.aload_n 0, 1) := by decide +kernel
theorem dX0_init_5 : decode cX0_init 5 = .ok (.bipush 6, 2) := by decide +kernel
theorem dX0_init_7 : decode cX0_init 7 = .ok (.newarray .int, 2) := by decide +kernel
theorem dX0_init_9 : decode cX0_init 9 = .ok (.putfield 9, 3) := by decide +kernel
theorem dX0_init_12 : decode cX0_init 12 = .ok (.aload_n 0, 1) := by decide +kernel
theorem dX0_init_13 : decode cX0_init 13 = .ok (.bipush 6, 2) := by decide +kernel
theorem dX0_init_15 : decode cX0_init 15 = .ok (.newarray .int, 2) := by decide +kernel
theorem dX0_init_17 : decode cX0_init 17 = .ok (.putfield 15, 3) := by decide +kernel
theorem dX0_init_20 : decode cX0_init 20 = .ok (.aload_n 0, 1) := by decide +kernel
theorem dX0_init_21 : decode cX0_init 21 = .ok (.bipush 6, 2) := by decide +kernel
theorem dX0_init_23 : decode cX0_init 23 = .ok (.newarray .int, 2) := by decide +kernel
theorem dX0_init_25 : decode cX0_init 25 = .ok (.putfield 18, 3) := by decide +kernel
theorem dX0_init_28 : decode cX0_init 28 = .ok (.aload_n 0, 1) := by decide +kernel
theorem dX0_init_29 : decode cX0_init 29 = .ok (.bipush 61, 2) := by decide +kernel
theorem dX0_init_31 : decode cX0_init 31 = .ok (.newarray .int, 2) := by decide +kernel
theorem dX0_init_33 : decode cX0_init 33 = .ok (.putfield 21, 3) := by decide +kernel
theorem dX0_init_36 : decode cX0_init 36 = .ok (.aload_n 0, 1) := by decide +kernel
theorem dX0_init_37 : decode cX0_init 37 = .ok (.bipush 61, 2) := by decide +kernel
theorem dX0_init_39 : decode cX0_init 39 = .ok (.newarray .int, 2) := by decide +kernel
theorem dX0_init_41 : decode cX0_init 41 = .ok (.putfield 24, 3) := by decide +kernel
theorem dX0_init_44 : decode cX0_init 44 = .ok (.aload_n 0, 1) := by decide +kernel
theorem dX0_init_45 : decode cX0_init 45 = .ok (.iconst 0, 1) := by decide +kernel
theorem dX0_init_46 : decode cX0_init 46 = .ok (.putfield 27, 3) := by decide +kernel
theorem dX0_init_49 : decode cX0_init 49 = .ok (.aload_n 0, 1) := by decide +kernel
theorem dX0_init_50 : decode cX0_init 50 = .ok (.iconst 1, 1) := by decide +kernel
theorem dX0_init_51 : decode cX0_init 51 = .ok (.putfield 31, 3) := by decide +kernel
theorem dX0_init_54 : decode cX0_init 54 = .ok (.aload_n 0, 1) := by decide +kernel
theorem dX0_init_55 : decode cX0_init 55 = .ok (.lconst 0, 1) := by decide +kernel
theorem dX0_init_56 : decode cX0_init 56 = .ok (.putfield 34, 3) := by decide +kernel
theorem dX0_init_59 : decode cX0_init 59 = .ok (.return_, 1) := by decide +kernel
theorem dX0_cells_0 : decode cX0_cells 0 = .ok (.aload_n 0, 1) := by decide +kernel
theorem dX0_cells_1 : decode cX0_cells 1 = .ok (.getfield 31, 3) := by decide +kernel
theorem dX0_cells_4 : decode cX0_cells 4 = .ok (.ireturn, 1) := by decide +kernel
theorem dX0_sorts_0 : decode cX0_sorts 0 = .ok (.aload_n 0, 1) := by decide +kernel
theorem dX0_sorts_1 : decode cX0_sorts 1 = .ok (.getfield 27, 3) := by decide +kernel
theorem dX0_sorts_4 : decode cX0_sorts 4 = .ok (.ireturn, 1) := by decide +kernel
set_option maxRecDepth 20000 in
theorem ggX0_flawsOfStrip_J13_bitCount_95d88 : GoodIn wsX0_flawsOfStrip wsJ13_bitCount_95d88 := goodIn_r _ [5, 6, 7, 8] (by decide +kernel) (by decide +kernel)
set_option maxRecDepth 20000 in
theorem gX0_flawsOfStrip_J13_bitCount_95d88 : GoodIn wsX0_flawsOfStrip (va_wsS RX0 38 yJ13_bitCount_95d88 wsJ13_bitCount_95d88) := goodIn_app (goodIn_of _ (by decide +kernel)) ggX0_flawsOfStrip_J13_bitCount_95d88
theorem dX0_flawsOfStrip_0 : decode cX0_flawsOfStrip 0 = .ok (.aload_n 0, 1) := by decide +kernel
theorem dX0_flawsOfStrip_1 : decode cX0_flawsOfStrip 1 = .ok (.getfield 34, 3) := by decide +kernel
theorem dX0_flawsOfStrip_4 : decode cX0_flawsOfStrip 4 = .ok (.invokestatic 38, 3) := by decide +kernel
theorem dX0_flawsOfStrip_7 : decode cX0_flawsOfStrip 7 = .ok (.ireturn, 1) := by decide +kernel
set_option maxRecDepth 20000 in
theorem ggX0_layStrip_X0_lowest : GoodIn wsX0_layStrip wsX0_lowest := goodIn_r _ [6] (by decide +kernel) (by decide +kernel)
set_option maxRecDepth 20000 in
theorem gX0_layStrip_X0_lowest : GoodIn wsX0_layStrip (va_wsS RX0 44 yX0_lowest wsX0_lowest) := goodIn_app (goodIn_of _ (by decide +kernel)) ggX0_layStrip_X0_lowest
theorem dX0_layStrip_0 : decode cX0_layStrip 0 = .ok (.iload_n 2, 1) := by decide +kernel
theorem dX0_layStrip_1 : decode cX0_layStrip 1 = .ok (.i2l, 1) := by decide +kernel
theorem dX0_layStrip_2 : decode cX0_layStrip 2 = .ok (.bipush 30, 2) := by decide +kernel
theorem dX0_layStrip_4 : decode cX0_layStrip 4 = .ok (.invokestatic 44, 3) := by decide +kernel
theorem dX0_layStrip_7 : decode cX0_layStrip 7 = .ok (.land, 1) := by decide +kernel
theorem dX0_layStrip_8 : decode cX0_layStrip 8 = .ok (.iload_n 3, 1) := by decide +kernel
theorem dX0_layStrip_9 : decode cX0_layStrip 9 = .ok (.i2l, 1) := by decide +kernel
theorem dX0_layStrip_10 : decode cX0_layStrip 10 = .ok (.bipush 30, 2) := by decide +kernel
theorem dX0_layStrip_12 : decode cX0_layStrip 12 = .ok (.invokestatic 44, 3) := by decide +kernel
theorem dX0_layStrip_15 : decode cX0_layStrip 15 = .ok (.land, 1) := by decide +kernel
theorem dX0_layStrip_16 : decode cX0_layStrip 16 = .ok (.bipush 30, 2) := by decide +kernel
theorem dX0_layStrip_18 : decode cX0_layStrip 18 = .ok (.lshl, 1) := by decide +kernel
theorem dX0_layStrip_19 : decode cX0_layStrip 19 = .ok (.lor, 1) := by decide +kernel
theorem dX0_layStrip_20 : decode cX0_layStrip 20 = .ok (.lstore 4, 2) := by decide +kernel
theorem dX0_layStrip_22 : decode cX0_layStrip 22 = .ok (.aload_n 0, 1) := by decide +kernel
theorem dX0_layStrip_23 : decode cX0_layStrip 23 = .ok (.iload_n 1, 1) := by decide +kernel
theorem dX0_layStrip_24 : decode cX0_layStrip 24 = .ok (.putfield 31, 3) := by decide +kernel
theorem dX0_layStrip_27 : decode cX0_layStrip 27 = .ok (.aload_n 0, 1) := by decide +kernel
theorem dX0_layStrip_28 : decode cX0_layStrip 28 = .ok (.lload 4, 2) := by decide +kernel
theorem dX0_layStrip_30 : decode cX0_layStrip 30 = .ok (.iload_n 1, 1) := by decide +kernel
theorem dX0_layStrip_31 : decode cX0_layStrip 31 = .ok (.invokestatic 44, 3) := by decide +kernel
theorem dX0_layStrip_34 : decode cX0_layStrip 34 = .ok (.land, 1) := by decide +kernel
theorem dX0_layStrip_35 : decode cX0_layStrip 35 = .ok (.putfield 34, 3) := by decide +kernel
theorem dX0_layStrip_38 : decode cX0_layStrip 38 = .ok (.return_, 1) := by decide +kernel
theorem dX0_addSort_0 : decode cX0_addSort 0 = .ok (.aload_n 0, 1) := by decide +kernel
theorem dX0_addSort_1 : decode cX0_addSort 1 = .ok (.getfield 27, 3) := by decide +kernel
theorem dX0_addSort_4 : decode cX0_addSort 4 = .ok (.bipush 6, 2) := by decide +kernel
theorem dX0_addSort_6 : decode cX0_addSort 6 = .ok (.if_icmp .lt 5, 3) := by decide +kernel
theorem dX0_addSort_9 : decode cX0_addSort 9 = .ok (.iconst (-1), 1) := by decide +kernel
theorem dX0_addSort_10 : decode cX0_addSort 10 = .ok (.ireturn, 1) := by decide +kernel
theorem dX0_addSort_11 : decode cX0_addSort 11 = .ok (.aload_n 0, 1) := by decide +kernel
theorem dX0_addSort_12 : decode cX0_addSort 12 = .ok (.getfield 9, 3) := by decide +kernel
theorem dX0_addSort_15 : decode cX0_addSort 15 = .ok (.aload_n 0, 1) := by decide +kernel
theorem dX0_addSort_16 : decode cX0_addSort 16 = .ok (.getfield 27, 3) := by decide +kernel
theorem dX0_addSort_19 : decode cX0_addSort 19 = .ok (.iload_n 1, 1) := by decide +kernel
theorem dX0_addSort_20 : decode cX0_addSort 20 = .ok (.iastore, 1) := by decide +kernel
theorem dX0_addSort_21 : decode cX0_addSort 21 = .ok (.aload_n 0, 1) := by decide +kernel
theorem dX0_addSort_22 : decode cX0_addSort 22 = .ok (.getfield 15, 3) := by decide +kernel
theorem dX0_addSort_25 : decode cX0_addSort 25 = .ok (.aload_n 0, 1) := by decide +kernel
theorem dX0_addSort_26 : decode cX0_addSort 26 = .ok (.getfield 27, 3) := by decide +kernel
theorem dX0_addSort_29 : decode cX0_addSort 29 = .ok (.iload_n 2, 1) := by decide +kernel
theorem dX0_addSort_30 : decode cX0_addSort 30 = .ok (.iastore, 1) := by decide +kernel
theorem dX0_addSort_31 : decode cX0_addSort 31 = .ok (.aload_n 0, 1) := by decide +kernel
theorem dX0_addSort_32 : decode cX0_addSort 32 = .ok (.getfield 18, 3) := by decide +kernel
theorem dX0_addSort_35 : decode cX0_addSort 35 = .ok (.aload_n 0, 1) := by decide +kernel
theorem dX0_addSort_36 : decode cX0_addSort 36 = .ok (.getfield 27, 3) := by decide +kernel
theorem dX0_addSort_39 : decode cX0_addSort 39 = .ok (.iload_n 3, 1) := by decide +kernel
theorem dX0_addSort_40 : decode cX0_addSort 40 = .ok (.iastore, 1) := by decide +kernel
theorem dX0_addSort_41 : decode cX0_addSort 41 = .ok (.aload_n 0, 1) := by decide +kernel
theorem dX0_addSort_42 : decode cX0_addSort 42 = .ok (.dup, 1) := by decide +kernel
theorem dX0_addSort_43 : decode cX0_addSort 43 = .ok (.getfield 27, 3) := by decide +kernel
theorem dX0_addSort_46 : decode cX0_addSort 46 = .ok (.iconst 1, 1) := by decide +kernel
theorem dX0_addSort_47 : decode cX0_addSort 47 = .ok (.iadd, 1) := by decide +kernel
theorem dX0_addSort_48 : decode cX0_addSort 48 = .ok (.putfield 27, 3) := by decide +kernel
theorem dX0_addSort_51 : decode cX0_addSort 51 = .ok (.aload_n 0, 1) := by decide +kernel
theorem dX0_addSort_52 : decode cX0_addSort 52 = .ok (.getfield 27, 3) := by decide +kernel
theorem dX0_addSort_55 : decode cX0_addSort 55 = .ok (.iconst 1, 1) := by decide +kernel
theorem dX0_addSort_56 : decode cX0_addSort 56 = .ok (.isub, 1) := by decide +kernel
theorem dX0_addSort_57 : decode cX0_addSort 57 = .ok (.ireturn, 1) := by decide +kernel
theorem dX0_dropSorts_0 : decode cX0_dropSorts 0 = .ok (.aload_n 0, 1) := by decide +kernel
theorem dX0_dropSorts_1 : decode cX0_dropSorts 1 = .ok (.getfield 27, 3) := by decide +kernel
theorem dX0_dropSorts_4 : decode cX0_dropSorts 4 = .ok (.istore_n 1, 1) := by decide +kernel
theorem dX0_dropSorts_5 : decode cX0_dropSorts 5 = .ok (.aload_n 0, 1) := by decide +kernel
theorem dX0_dropSorts_6 : decode cX0_dropSorts 6 = .ok (.iconst 0, 1) := by decide +kernel
theorem dX0_dropSorts_7 : decode cX0_dropSorts 7 = .ok (.putfield 27, 3) := by decide +kernel
theorem dX0_dropSorts_10 : decode cX0_dropSorts 10 = .ok (.iload_n 1, 1) := by decide +kernel
theorem dX0_dropSorts_11 : decode cX0_dropSorts 11 = .ok (.ireturn, 1) := by decide +kernel
theorem dX0_greatestWorth_0 : decode cX0_greatestWorth 0 = .ok (.aload_n 0, 1) := by decide +kernel
theorem dX0_greatestWorth_1 : decode cX0_greatestWorth 1 = .ok (.getfield 21, 3) := by decide +kernel
theorem dX0_greatestWorth_4 : decode cX0_greatestWorth 4 = .ok (.aload_n 0, 1) := by decide +kernel
theorem dX0_greatestWorth_5 : decode cX0_greatestWorth 5 = .ok (.getfield 31, 3) := by decide +kernel
theorem dX0_greatestWorth_8 : decode cX0_greatestWorth 8 = .ok (.iaload, 1) := by decide +kernel
theorem dX0_greatestWorth_9 : decode cX0_greatestWorth 9 = .ok (.ireturn, 1) := by decide +kernel
theorem dX0_fewestStoppers_0 : decode cX0_fewestStoppers 0 = .ok (.aload_n 0, 1) := by decide +kernel
theorem dX0_fewestStoppers_1 : decode cX0_fewestStoppers 1 = .ok (.getfield 24, 3) := by decide +kernel
theorem dX0_fewestStoppers_4 : decode cX0_fewestStoppers 4 = .ok (.aload_n 0, 1) := by decide +kernel
theorem dX0_fewestStoppers_5 : decode cX0_fewestStoppers 5 = .ok (.getfield 31, 3) := by decide +kernel
theorem dX0_fewestStoppers_8 : decode cX0_fewestStoppers 8 = .ok (.iaload, 1) := by decide +kernel
theorem dX0_fewestStoppers_9 : decode cX0_fewestStoppers 9 = .ok (.ireturn, 1) := by decide +kernel
set_option maxRecDepth 20000 in
theorem ggX0_layStoppers_X0_tryLast : GoodIn wsX0_layStoppers wsX0_tryLast := goodIn_r _ [9, 10, 11, 1, 12, 2, 13, 14, 15, 8, 16, 17, 18, 19, 20, 21, 22, 23, 24, 25, 26, 27, 28, 29, 30, 31, 32, 33, 34, 35] (by decide +kernel) (by decide +kernel)
set_option maxRecDepth 20000 in
theorem gX0_layStoppers_X0_tryLast : GoodIn wsX0_layStoppers (wsV RX0 48 RX0 yX0_tryLast wsX0_tryLast) := goodIn_app (goodIn_of _ (by decide +kernel)) ggX0_layStoppers_X0_tryLast
theorem dX0_layStoppers_0 : decode cX0_layStoppers 0 = .ok (.aload_n 0, 1) := by decide +kernel
theorem dX0_layStoppers_1 : decode cX0_layStoppers 1 = .ok (.getfield 21, 3) := by decide +kernel
theorem dX0_layStoppers_4 : decode cX0_layStoppers 4 = .ok (.iconst 0, 1) := by decide +kernel
theorem dX0_layStoppers_5 : decode cX0_layStoppers 5 = .ok (.iconst 0, 1) := by decide +kernel
theorem dX0_layStoppers_6 : decode cX0_layStoppers 6 = .ok (.iastore, 1) := by decide +kernel
theorem dX0_layStoppers_7 : decode cX0_layStoppers 7 = .ok (.aload_n 0, 1) := by decide +kernel
theorem dX0_layStoppers_8 : decode cX0_layStoppers 8 = .ok (.getfield 24, 3) := by decide +kernel
theorem dX0_layStoppers_11 : decode cX0_layStoppers 11 = .ok (.iconst 0, 1) := by decide +kernel
theorem dX0_layStoppers_12 : decode cX0_layStoppers 12 = .ok (.iconst 0, 1) := by decide +kernel
theorem dX0_layStoppers_13 : decode cX0_layStoppers 13 = .ok (.iastore, 1) := by decide +kernel
theorem dX0_layStoppers_14 : decode cX0_layStoppers 14 = .ok (.iconst 1, 1) := by decide +kernel
theorem dX0_layStoppers_15 : decode cX0_layStoppers 15 = .ok (.istore_n 1, 1) := by decide +kernel
theorem dX0_layStoppers_16 : decode cX0_layStoppers 16 = .ok (.iload_n 1, 1) := by decide +kernel
theorem dX0_layStoppers_17 : decode cX0_layStoppers 17 = .ok (.aload_n 0, 1) := by decide +kernel
theorem dX0_layStoppers_18 : decode cX0_layStoppers 18 = .ok (.getfield 31, 3) := by decide +kernel
theorem dX0_layStoppers_21 : decode cX0_layStoppers 21 = .ok (.if_icmp .gt 71, 3) := by decide +kernel
theorem dX0_layStoppers_24 : decode cX0_layStoppers 24 = .ok (.iload_n 1, 1) := by decide +kernel
theorem dX0_layStoppers_25 : decode cX0_layStoppers 25 = .ok (.bipush 60, 2) := by decide +kernel
theorem dX0_layStoppers_27 : decode cX0_layStoppers 27 = .ok (.if_icmp .gt 65, 3) := by decide +kernel
theorem dX0_layStoppers_30 : decode cX0_layStoppers 30 = .ok (.aload_n 0, 1) := by decide +kernel
theorem dX0_layStoppers_31 : decode cX0_layStoppers 31 = .ok (.getfield 21, 3) := by decide +kernel
theorem dX0_layStoppers_34 : decode cX0_layStoppers 34 = .ok (.iload_n 1, 1) := by decide +kernel
theorem dX0_layStoppers_35 : decode cX0_layStoppers 35 = .ok (.aload_n 0, 1) := by decide +kernel
theorem dX0_layStoppers_36 : decode cX0_layStoppers 36 = .ok (.getfield 21, 3) := by decide +kernel
theorem dX0_layStoppers_39 : decode cX0_layStoppers 39 = .ok (.iload_n 1, 1) := by decide +kernel
theorem dX0_layStoppers_40 : decode cX0_layStoppers 40 = .ok (.iconst 1, 1) := by decide +kernel
theorem dX0_layStoppers_41 : decode cX0_layStoppers 41 = .ok (.isub, 1) := by decide +kernel
theorem dX0_layStoppers_42 : decode cX0_layStoppers 42 = .ok (.iaload, 1) := by decide +kernel
theorem dX0_layStoppers_43 : decode cX0_layStoppers 43 = .ok (.iastore, 1) := by decide +kernel
theorem dX0_layStoppers_44 : decode cX0_layStoppers 44 = .ok (.aload_n 0, 1) := by decide +kernel
theorem dX0_layStoppers_45 : decode cX0_layStoppers 45 = .ok (.getfield 24, 3) := by decide +kernel
theorem dX0_layStoppers_48 : decode cX0_layStoppers 48 = .ok (.iload_n 1, 1) := by decide +kernel
theorem dX0_layStoppers_49 : decode cX0_layStoppers 49 = .ok (.aload_n 0, 1) := by decide +kernel
theorem dX0_layStoppers_50 : decode cX0_layStoppers 50 = .ok (.getfield 24, 3) := by decide +kernel
theorem dX0_layStoppers_53 : decode cX0_layStoppers 53 = .ok (.iload_n 1, 1) := by decide +kernel
theorem dX0_layStoppers_54 : decode cX0_layStoppers 54 = .ok (.iconst 1, 1) := by decide +kernel
theorem dX0_layStoppers_55 : decode cX0_layStoppers 55 = .ok (.isub, 1) := by decide +kernel
theorem dX0_layStoppers_56 : decode cX0_layStoppers 56 = .ok (.iaload, 1) := by decide +kernel
theorem dX0_layStoppers_57 : decode cX0_layStoppers 57 = .ok (.iastore, 1) := by decide +kernel
theorem dX0_layStoppers_58 : decode cX0_layStoppers 58 = .ok (.iconst 0, 1) := by decide +kernel
theorem dX0_layStoppers_59 : decode cX0_layStoppers 59 = .ok (.istore_n 2, 1) := by decide +kernel
theorem dX0_layStoppers_60 : decode cX0_layStoppers 60 = .ok (.iload_n 2, 1) := by decide +kernel
theorem dX0_layStoppers_61 : decode cX0_layStoppers 61 = .ok (.aload_n 0, 1) := by decide +kernel
theorem dX0_layStoppers_62 : decode cX0_layStoppers 62 = .ok (.getfield 27, 3) := by decide +kernel
theorem dX0_layStoppers_65 : decode cX0_layStoppers 65 = .ok (.if_icmp .ge 21, 3) := by decide +kernel
theorem dX0_layStoppers_68 : decode cX0_layStoppers 68 = .ok (.iload_n 2, 1) := by decide +kernel
theorem dX0_layStoppers_69 : decode cX0_layStoppers 69 = .ok (.bipush 6, 2) := by decide +kernel
theorem dX0_layStoppers_71 : decode cX0_layStoppers 71 = .ok (.if_icmp .ge 15, 3) := by decide +kernel
theorem dX0_layStoppers_74 : decode cX0_layStoppers 74 = .ok (.aload_n 0, 1) := by decide +kernel
theorem dX0_layStoppers_75 : decode cX0_layStoppers 75 = .ok (.iload_n 2, 1) := by decide +kernel
theorem dX0_layStoppers_76 : decode cX0_layStoppers 76 = .ok (.iload_n 1, 1) := by decide +kernel
theorem dX0_layStoppers_77 : decode cX0_layStoppers 77 = .ok (.invokevirtual 48, 3) := by decide +kernel
theorem dX0_layStoppers_80 : decode cX0_layStoppers 80 = .ok (.iinc 2 1, 3) := by decide +kernel
theorem dX0_layStoppers_83 : decode cX0_layStoppers 83 = .ok (.goto (-23), 3) := by decide +kernel
theorem dX0_layStoppers_86 : decode cX0_layStoppers 86 = .ok (.iinc 1 1, 3) := by decide +kernel
theorem dX0_layStoppers_89 : decode cX0_layStoppers 89 = .ok (.goto (-73), 3) := by decide +kernel
theorem dX0_layStoppers_92 : decode cX0_layStoppers 92 = .ok (.return_, 1) := by decide +kernel
set_option maxRecDepth 20000 in
theorem ggX0_tryLast_X0_flawsBetween : GoodIn wsX0_tryLast wsX0_flawsBetween := goodIn_r _ [10, 11, 12, 13, 9, 14, 15, 16, 17, 18, 19, 20, 21, 22, 23, 24, 25, 26, 27, 28, 29] (by decide +kernel) (by decide +kernel)
set_option maxRecDepth 20000 in
theorem gX0_tryLast_X0_flawsBetween : GoodIn wsX0_tryLast (wsV RX0 52 RX0 yX0_flawsBetween wsX0_flawsBetween) := goodIn_app (goodIn_of _ (by decide +kernel)) ggX0_tryLast_X0_flawsBetween
theorem dX0_tryLast_0 : decode cX0_tryLast 0 = .ok (.iload_n 2, 1) := by decide +kernel
theorem dX0_tryLast_1 : decode cX0_tryLast 1 = .ok (.aload_n 0, 1) := by decide +kernel
theorem dX0_tryLast_2 : decode cX0_tryLast 2 = .ok (.getfield 9, 3) := by decide +kernel
theorem dX0_tryLast_5 : decode cX0_tryLast 5 = .ok (.iload_n 1, 1) := by decide +kernel
theorem dX0_tryLast_6 : decode cX0_tryLast 6 = .ok (.iaload, 1) := by decide +kernel
theorem dX0_tryLast_7 : decode cX0_tryLast 7 = .ok (.isub, 1) := by decide +kernel
theorem dX0_tryLast_8 : decode cX0_tryLast 8 = .ok (.istore_n 3, 1) := by decide +kernel
theorem dX0_tryLast_9 : decode cX0_tryLast 9 = .ok (.iload_n 3, 1) := by decide +kernel
theorem dX0_tryLast_10 : decode cX0_tryLast 10 = .ok (.ifCond .lt 18, 3) := by decide +kernel
theorem dX0_tryLast_13 : decode cX0_tryLast 13 = .ok (.aload_n 0, 1) := by decide +kernel
theorem dX0_tryLast_14 : decode cX0_tryLast 14 = .ok (.iload_n 3, 1) := by decide +kernel
theorem dX0_tryLast_15 : decode cX0_tryLast 15 = .ok (.iload_n 2, 1) := by decide +kernel
theorem dX0_tryLast_16 : decode cX0_tryLast 16 = .ok (.invokevirtual 52, 3) := by decide +kernel
theorem dX0_tryLast_19 : decode cX0_tryLast 19 = .ok (.aload_n 0, 1) := by decide +kernel
theorem dX0_tryLast_20 : decode cX0_tryLast 20 = .ok (.getfield 18, 3) := by decide +kernel
theorem dX0_tryLast_23 : decode cX0_tryLast 23 = .ok (.iload_n 1, 1) := by decide +kernel
theorem dX0_tryLast_24 : decode cX0_tryLast 24 = .ok (.iaload, 1) := by decide +kernel
theorem dX0_tryLast_25 : decode cX0_tryLast 25 = .ok (.if_icmp .le 4, 3) := by decide +kernel
theorem dX0_tryLast_28 : decode cX0_tryLast 28 = .ok (.return_, 1) := by decide +kernel
theorem dX0_tryLast_29 : decode cX0_tryLast 29 = .ok (.aload_n 0, 1) := by decide +kernel
theorem dX0_tryLast_30 : decode cX0_tryLast 30 = .ok (.getfield 21, 3) := by decide +kernel
theorem dX0_tryLast_33 : decode cX0_tryLast 33 = .ok (.iload_n 3, 1) := by decide +kernel
theorem dX0_tryLast_34 : decode cX0_tryLast 34 = .ok (.iaload, 1) := by decide +kernel
theorem dX0_tryLast_35 : decode cX0_tryLast 35 = .ok (.aload_n 0, 1) := by decide +kernel
theorem dX0_tryLast_36 : decode cX0_tryLast 36 = .ok (.getfield 15, 3) := by decide +kernel
theorem dX0_tryLast_39 : decode cX0_tryLast 39 = .ok (.iload_n 1, 1) := by decide +kernel
theorem dX0_tryLast_40 : decode cX0_tryLast 40 = .ok (.iaload, 1) := by decide +kernel
theorem dX0_tryLast_41 : decode cX0_tryLast 41 = .ok (.iadd, 1) := by decide +kernel
theorem dX0_tryLast_42 : decode cX0_tryLast 42 = .ok (.istore 4, 2) := by decide +kernel
theorem dX0_tryLast_44 : decode cX0_tryLast 44 = .ok (.aload_n 0, 1) := by decide +kernel
theorem dX0_tryLast_45 : decode cX0_tryLast 45 = .ok (.getfield 24, 3) := by decide +kernel
theorem dX0_tryLast_48 : decode cX0_tryLast 48 = .ok (.iload_n 3, 1) := by decide +kernel
theorem dX0_tryLast_49 : decode cX0_tryLast 49 = .ok (.iaload, 1) := by decide +kernel
theorem dX0_tryLast_50 : decode cX0_tryLast 50 = .ok (.iconst 1, 1) := by decide +kernel
theorem dX0_tryLast_51 : decode cX0_tryLast 51 = .ok (.iadd, 1) := by decide +kernel
theorem dX0_tryLast_52 : decode cX0_tryLast 52 = .ok (.istore 5, 2) := by decide +kernel
theorem dX0_tryLast_54 : decode cX0_tryLast 54 = .ok (.iload 4, 2) := by decide +kernel
theorem dX0_tryLast_56 : decode cX0_tryLast 56 = .ok (.aload_n 0, 1) := by decide +kernel
theorem dX0_tryLast_57 : decode cX0_tryLast 57 = .ok (.getfield 21, 3) := by decide +kernel
theorem dX0_tryLast_60 : decode cX0_tryLast 60 = .ok (.iload_n 2, 1) := by decide +kernel
theorem dX0_tryLast_61 : decode cX0_tryLast 61 = .ok (.iaload, 1) := by decide +kernel
theorem dX0_tryLast_62 : decode cX0_tryLast 62 = .ok (.if_icmp .gt 25, 3) := by decide +kernel
theorem dX0_tryLast_65 : decode cX0_tryLast 65 = .ok (.iload 4, 2) := by decide +kernel
theorem dX0_tryLast_67 : decode cX0_tryLast 67 = .ok (.aload_n 0, 1) := by decide +kernel
theorem dX0_tryLast_68 : decode cX0_tryLast 68 = .ok (.getfield 21, 3) := by decide +kernel
theorem dX0_tryLast_71 : decode cX0_tryLast 71 = .ok (.iload_n 2, 1) := by decide +kernel
theorem dX0_tryLast_72 : decode cX0_tryLast 72 = .ok (.iaload, 1) := by decide +kernel
theorem dX0_tryLast_73 : decode cX0_tryLast 73 = .ok (.if_icmp .ne 30, 3) := by decide +kernel
theorem dX0_tryLast_76 : decode cX0_tryLast 76 = .ok (.iload 5, 2) := by decide +kernel
theorem dX0_tryLast_78 : decode cX0_tryLast 78 = .ok (.aload_n 0, 1) := by decide +kernel
theorem dX0_tryLast_79 : decode cX0_tryLast 79 = .ok (.getfield 24, 3) := by decide +kernel
theorem dX0_tryLast_82 : decode cX0_tryLast 82 = .ok (.iload_n 2, 1) := by decide +kernel
theorem dX0_tryLast_83 : decode cX0_tryLast 83 = .ok (.iaload, 1) := by decide +kernel
theorem dX0_tryLast_84 : decode cX0_tryLast 84 = .ok (.if_icmp .ge 19, 3) := by decide +kernel
theorem dX0_tryLast_87 : decode cX0_tryLast 87 = .ok (.aload_n 0, 1) := by decide +kernel
theorem dX0_tryLast_88 : decode cX0_tryLast 88 = .ok (.getfield 21, 3) := by decide +kernel
theorem dX0_tryLast_91 : decode cX0_tryLast 91 = .ok (.iload_n 2, 1) := by decide +kernel
theorem dX0_tryLast_92 : decode cX0_tryLast 92 = .ok (.iload 4, 2) := by decide +kernel
theorem dX0_tryLast_94 : decode cX0_tryLast 94 = .ok (.iastore, 1) := by decide +kernel
theorem dX0_tryLast_95 : decode cX0_tryLast 95 = .ok (.aload_n 0, 1) := by decide +kernel
theorem dX0_tryLast_96 : decode cX0_tryLast 96 = .ok (.getfield 24, 3) := by decide +kernel
theorem dX0_tryLast_99 : decode cX0_tryLast 99 = .ok (.iload_n 2, 1) := by decide +kernel
theorem dX0_tryLast_100 : decode cX0_tryLast 100 = .ok (.iload 5, 2) := by decide +kernel
theorem dX0_tryLast_102 : decode cX0_tryLast 102 = .ok (.iastore, 1) := by decide +kernel
theorem dX0_tryLast_103 : decode cX0_tryLast 103 = .ok (.return_, 1) := by decide +kernel
set_option maxRecDepth 20000 in
theorem ggX0_flawsBetween_X0_lowest : GoodIn wsX0_flawsBetween wsX0_lowest := goodIn_r _ [5] (by decide +kernel) (by decide +kernel)
set_option maxRecDepth 20000 in
theorem gX0_flawsBetween_X0_lowest : GoodIn wsX0_flawsBetween (va_wsS RX0 44 yX0_lowest wsX0_lowest) := goodIn_app (goodIn_of _ (by decide +kernel)) ggX0_flawsBetween_X0_lowest
set_option maxRecDepth 20000 in
theorem ggX0_flawsBetween_J13_bitCount_95d88 : GoodIn wsX0_flawsBetween wsJ13_bitCount_95d88 := goodIn_r _ [9, 10, 11, 12] (by decide +kernel) (by decide +kernel)
set_option maxRecDepth 20000 in
theorem gX0_flawsBetween_J13_bitCount_95d88 : GoodIn wsX0_flawsBetween (va_wsS RX0 38 yJ13_bitCount_95d88 wsJ13_bitCount_95d88) := goodIn_app (goodIn_of _ (by decide +kernel)) ggX0_flawsBetween_J13_bitCount_95d88
theorem dX0_flawsBetween_0 : decode cX0_flawsBetween 0 = .ok (.aload_n 0, 1) := by decide +kernel
theorem dX0_flawsBetween_1 : decode cX0_flawsBetween 1 = .ok (.getfield 34, 3) := by decide +kernel
theorem dX0_flawsBetween_4 : decode cX0_flawsBetween 4 = .ok (.iload_n 1, 1) := by decide +kernel
theorem dX0_flawsBetween_5 : decode cX0_flawsBetween 5 = .ok (.lushr, 1) := by decide +kernel
theorem dX0_flawsBetween_6 : decode cX0_flawsBetween 6 = .ok (.iload_n 2, 1) := by decide +kernel
theorem dX0_flawsBetween_7 : decode cX0_flawsBetween 7 = .ok (.iload_n 1, 1) := by decide +kernel
theorem dX0_flawsBetween_8 : decode cX0_flawsBetween 8 = .ok (.isub, 1) := by decide +kernel
theorem dX0_flawsBetween_9 : decode cX0_flawsBetween 9 = .ok (.invokestatic 44, 3) := by decide +kernel
theorem dX0_flawsBetween_12 : decode cX0_flawsBetween 12 = .ok (.land, 1) := by decide +kernel
theorem dX0_flawsBetween_13 : decode cX0_flawsBetween 13 = .ok (.invokestatic 38, 3) := by decide +kernel
theorem dX0_flawsBetween_16 : decode cX0_flawsBetween 16 = .ok (.ireturn, 1) := by decide +kernel
theorem dX0_lowest_0 : decode cX0_lowest 0 = .ok (.lconst 1, 1) := by decide +kernel
theorem dX0_lowest_1 : decode cX0_lowest 1 = .ok (.iload_n 0, 1) := by decide +kernel
theorem dX0_lowest_2 : decode cX0_lowest 2 = .ok (.lshl, 1) := by decide +kernel
theorem dX0_lowest_3 : decode cX0_lowest 3 = .ok (.lconst 1, 1) := by decide +kernel
theorem dX0_lowest_4 : decode cX0_lowest 4 = .ok (.lsub, 1) := by decide +kernel
theorem dX0_lowest_5 : decode cX0_lowest 5 = .ok (.lreturn, 1) := by decide +kernel
theorem dX1_init_0 : decode cX1_init 0 = .ok (.aload_n 0, 1) := by decide +kernel
theorem dX1_init_1 : decode cX1_init 1 = .ok (.invokespecial 3, 3) := by decide +kernel
theorem dX1_init_4 : decode cX1_init 4 = .ok (.aload_n 0, 1) := by decide +kernel
theorem dX1_init_5 : decode cX1_init 5 = .ok (.getstatic 9, 3) := by decide +kernel
theorem dX1_init_8 : decode cX1_init 8 = .ok (.invokevirtual 13, 3) := by decide +kernel
theorem dX1_init_11 : decode cX1_init 11 = .ok (.checkcast 14, 3) := by decide +kernel
theorem dX1_init_14 : decode cX1_init 14 = .ok (.putfield 18, 3) := by decide +kernel
theorem dX1_init_17 : decode cX1_init 17 = .ok (.return_, 1) := by decide +kernel
theorem dX1_told_0 : decode cX1_told 0 = .ok (.iload_n 1, 1) := by decide +kernel
theorem dX1_told_1 : decode cX1_told 1 = .ok (.ifCond .lt 21, 3) := by decide +kernel
theorem dX1_told_4 : decode cX1_told 4 = .ok (.iload_n 1, 1) := by decide +kernel
theorem dX1_told_5 : decode cX1_told 5 = .ok (.aload_n 0, 1) := by decide +kernel
theorem dX1_told_6 : decode cX1_told 6 = .ok (.getfield 18, 3) := by decide +kernel
theorem dX1_told_9 : decode cX1_told 9 = .ok (.arraylength, 1) := by decide +kernel
theorem dX1_told_10 : decode cX1_told 10 = .ok (.if_icmp .ge 12, 3) := by decide +kernel
theorem dX1_told_13 : decode cX1_told 13 = .ok (.aload_n 0, 1) := by decide +kernel
theorem dX1_told_14 : decode cX1_told 14 = .ok (.getfield 18, 3) := by decide +kernel
theorem dX1_told_17 : decode cX1_told 17 = .ok (.iload_n 1, 1) := by decide +kernel
theorem dX1_told_18 : decode cX1_told 18 = .ok (.iaload, 1) := by decide +kernel
theorem dX1_told_19 : decode cX1_told 19 = .ok (.goto 4, 3) := by decide +kernel
theorem dX1_told_22 : decode cX1_told 22 = .ok (.iconst (-1), 1) := by decide +kernel
theorem dX1_told_23 : decode cX1_told 23 = .ok (.ireturn, 1) := by decide +kernel
theorem dX1_copyTo_0 : decode cX1_copyTo 0 = .ok (.iconst 0, 1) := by decide +kernel
theorem dX1_copyTo_1 : decode cX1_copyTo 1 = .ok (.istore_n 2, 1) := by decide +kernel
theorem dX1_copyTo_2 : decode cX1_copyTo 2 = .ok (.iload_n 2, 1) := by decide +kernel
theorem dX1_copyTo_3 : decode cX1_copyTo 3 = .ok (.aload_n 0, 1) := by decide +kernel
theorem dX1_copyTo_4 : decode cX1_copyTo 4 = .ok (.getfield 18, 3) := by decide +kernel
theorem dX1_copyTo_7 : decode cX1_copyTo 7 = .ok (.arraylength, 1) := by decide +kernel
theorem dX1_copyTo_8 : decode cX1_copyTo 8 = .ok (.if_icmp .ge 24, 3) := by decide +kernel
theorem dX1_copyTo_11 : decode cX1_copyTo 11 = .ok (.iload_n 2, 1) := by decide +kernel
theorem dX1_copyTo_12 : decode cX1_copyTo 12 = .ok (.aload_n 1, 1) := by decide +kernel
theorem dX1_copyTo_13 : decode cX1_copyTo 13 = .ok (.arraylength, 1) := by decide +kernel
theorem dX1_copyTo_14 : decode cX1_copyTo 14 = .ok (.if_icmp .ge 18, 3) := by decide +kernel
theorem dX1_copyTo_17 : decode cX1_copyTo 17 = .ok (.aload_n 1, 1) := by decide +kernel
theorem dX1_copyTo_18 : decode cX1_copyTo 18 = .ok (.iload_n 2, 1) := by decide +kernel
theorem dX1_copyTo_19 : decode cX1_copyTo 19 = .ok (.aload_n 0, 1) := by decide +kernel
theorem dX1_copyTo_20 : decode cX1_copyTo 20 = .ok (.getfield 18, 3) := by decide +kernel
theorem dX1_copyTo_23 : decode cX1_copyTo 23 = .ok (.iload_n 2, 1) := by decide +kernel
theorem dX1_copyTo_24 : decode cX1_copyTo 24 = .ok (.iaload, 1) := by decide +kernel
theorem dX1_copyTo_25 : decode cX1_copyTo 25 = .ok (.iastore, 1) := by decide +kernel
theorem dX1_copyTo_26 : decode cX1_copyTo 26 = .ok (.iinc 2 1, 3) := by decide +kernel
theorem dX1_copyTo_29 : decode cX1_copyTo 29 = .ok (.goto (-27), 3) := by decide +kernel
theorem dX1_copyTo_32 : decode cX1_copyTo 32 = .ok (.return_, 1) := by decide +kernel
theorem dX1_become_0 : decode cX1_become 0 = .ok (.iconst 0, 1) := by decide +kernel
theorem dX1_become_1 : decode cX1_become 1 = .ok (.istore_n 2, 1) := by decide +kernel
theorem dX1_become_2 : decode cX1_become 2 = .ok (.iload_n 2, 1) := by decide +kernel
theorem dX1_become_3 : decode cX1_become 3 = .ok (.aload_n 0, 1) := by decide +kernel
theorem dX1_become_4 : decode cX1_become 4 = .ok (.getfield 18, 3) := by decide +kernel
theorem dX1_become_7 : decode cX1_become 7 = .ok (.arraylength, 1) := by decide +kernel
theorem dX1_become_8 : decode cX1_become 8 = .ok (.if_icmp .ge 24, 3) := by decide +kernel
theorem dX1_become_11 : decode cX1_become 11 = .ok (.iload_n 2, 1) := by decide +kernel
theorem dX1_become_12 : decode cX1_become 12 = .ok (.aload_n 1, 1) := by decide +kernel
theorem dX1_become_13 : decode cX1_become 13 = .ok (.arraylength, 1) := by decide +kernel
theorem dX1_become_14 : decode cX1_become 14 = .ok (.if_icmp .ge 18, 3) := by decide +kernel
theorem dX1_become_17 : decode cX1_become 17 = .ok (.aload_n 0, 1) := by decide +kernel
theorem dX1_become_18 : decode cX1_become 18 = .ok (.getfield 18, 3) := by decide +kernel
theorem dX1_become_21 : decode cX1_become 21 = .ok (.iload_n 2, 1) := by decide +kernel
theorem dX1_become_22 : decode cX1_become 22 = .ok (.aload_n 1, 1) := by decide +kernel
theorem dX1_become_23 : decode cX1_become 23 = .ok (.iload_n 2, 1) := by decide +kernel
theorem dX1_become_24 : decode cX1_become 24 = .ok (.iaload, 1) := by decide +kernel
theorem dX1_become_25 : decode cX1_become 25 = .ok (.iastore, 1) := by decide +kernel
theorem dX1_become_26 : decode cX1_become 26 = .ok (.iinc 2 1, 3) := by decide +kernel
theorem dX1_become_29 : decode cX1_become 29 = .ok (.goto (-27), 3) := by decide +kernel
theorem dX1_become_32 : decode cX1_become 32 = .ok (.return_, 1) := by decide +kernel
theorem dX1_word_0 : decode cX1_word 0 = .ok (.iload_n 0, 1) := by decide +kernel
theorem dX1_word_1 : decode cX1_word 1 = .ok (.tableswitch 57 0 5 #[39, 42, 45, 48, 51, 54], 39) := by decide +kernel
theorem dX1_word_40 : decode cX1_word 40 = .ok (.ldc 23, 2) := by decide +kernel
theorem dX1_word_42 : decode cX1_word 42 = .ok (.areturn, 1) := by decide +kernel
theorem dX1_word_43 : decode cX1_word 43 = .ok (.ldc 25, 2) := by decide +kernel
theorem dX1_word_45 : decode cX1_word 45 = .ok (.areturn, 1) := by decide +kernel
theorem dX1_word_46 : decode cX1_word 46 = .ok (.ldc 27, 2) := by decide +kernel
theorem dX1_word_48 : decode cX1_word 48 = .ok (.areturn, 1) := by decide +kernel
theorem dX1_word_49 : decode cX1_word 49 = .ok (.ldc 29, 2) := by decide +kernel
theorem dX1_word_51 : decode cX1_word 51 = .ok (.areturn, 1) := by decide +kernel
theorem dX1_word_52 : decode cX1_word 52 = .ok (.ldc 31, 2) := by decide +kernel
theorem dX1_word_54 : decode cX1_word 54 = .ok (.areturn, 1) := by decide +kernel
theorem dX1_word_55 : decode cX1_word 55 = .ok (.ldc 33, 2) := by decide +kernel
theorem dX1_word_57 : decode cX1_word 57 = .ok (.areturn, 1) := by decide +kernel
theorem dX1_word_58 : decode cX1_word 58 = .ok (.ldc 35, 2) := by decide +kernel
theorem dX1_word_60 : decode cX1_word 60 = .ok (.areturn, 1) := by decide +kernel
theorem dX2_init_0 : decode cX2_init 0 = .ok (.aload_n 0, 1) := by decide +kernel
theorem dX2_init_1 : decode cX2_init 1 = .ok (.invokespecial 3, 3) := by decide +kernel
theorem dX2_init_4 : decode cX2_init 4 = .ok (.aload_n 0, 1) := by decide +kernel
theorem dX2_init_5 : decode cX2_init 5 = .ok (.bipush 6, 2) := by decide +kernel
theorem dX2_init_7 : decode cX2_init 7 = .ok (.newarray .int, 2) := by decide +kernel
theorem dX2_init_9 : decode cX2_init 9 = .ok (.putfield 9, 3) := by decide +kernel
theorem dX2_init_12 : decode cX2_init 12 = .ok (.aload_n 0, 1) := by decide +kernel
theorem dX2_init_13 : decode cX2_init 13 = .ok (.iconst 0, 1) := by decide +kernel
theorem dX2_init_14 : decode cX2_init 14 = .ok (.putfield 15, 3) := by decide +kernel
theorem dX2_init_17 : decode cX2_init 17 = .ok (.aload_n 0, 1) := by decide +kernel
theorem dX2_init_18 : decode cX2_init 18 = .ok (.aload_n 1, 1) := by decide +kernel
theorem dX2_init_19 : decode cX2_init 19 = .ok (.putfield 19, 3) := by decide +kernel
theorem dX2_init_22 : decode cX2_init 22 = .ok (.aload_n 0, 1) := by decide +kernel
theorem dX2_init_23 : decode cX2_init 23 = .ok (.aload_n 2, 1) := by decide +kernel
theorem dX2_init_24 : decode cX2_init 24 = .ok (.putfield 23, 3) := by decide +kernel
theorem dX2_init_27 : decode cX2_init 27 = .ok (.return_, 1) := by decide +kernel
theorem dX2_place_0 : decode cX2_place 0 = .ok (.aload_n 0, 1) := by decide +kernel
theorem dX2_place_1 : decode cX2_place 1 = .ok (.getfield 15, 3) := by decide +kernel
theorem dX2_place_4 : decode cX2_place 4 = .ok (.ireturn, 1) := by decide +kernel
set_option maxRecDepth 20000 in
theorem ggX2_readText_X1_copyTo : GoodIn wsX2_readText wsX1_copyTo := goodIn_r _ [9, 10, 107] (by decide +kernel) (by decide +kernel)
set_option maxRecDepth 20000 in
theorem gX2_readText_X1_copyTo : GoodIn wsX2_readText (wsV RX2 27 RX1 yX1_copyTo wsX1_copyTo) := goodIn_app (goodIn_of _ (by decide +kernel)) ggX2_readText_X1_copyTo
set_option maxRecDepth 20000 in
theorem ggX2_readText_X2_readClause : GoodIn wsX2_readText wsX2_readClause := goodIn_r _ [15, 1, 3, 16, 17, 18, 14, 19, 4, 20, 21, 22, 23, 24, 25, 26, 27, 28, 29, 30, 31, 32, 33, 34, 35, 36, 37, 38, 39, 40, 8, 41, 42, 43, 44, 45, 46, 47, 48, 49, 50, 51, 52, 53, 54, 55, 56, 57, 58, 59, 60, 61, 62, 63, 64, 65, 66, 67, 68, 69, 70, 71, 72, 73, 74, 75, 76, 77, 78, 79, 80, 81, 82, 83, 84, 85, 86, 87, 88, 89, 90, 91, 92, 93, 94, 95, 96, 97, 98, 103, 104, 105, 106, 108, 109] (by decide +kernel) (by decide +kernel)
set_option maxRecDepth 20000 in
theorem gX2_readText_X2_readClause : GoodIn wsX2_readText (wsV RX2 33 RX2 yX2_readClause wsX2_readClause) := goodIn_app (goodIn_of _ (by decide +kernel)) ggX2_readText_X2_readClause
set_option maxRecDepth 20000 in
theorem ggX2_readText_X2_skipBlanks : GoodIn wsX2_readText wsX2_skipBlanks := goodIn_r _ [19, 1, 4, 20, 21, 22, 23, 24, 25, 26, 27, 28, 29, 30, 103, 104, 105, 106, 108, 109] (by decide +kernel) (by decide +kernel)
set_option maxRecDepth 20000 in
theorem gX2_readText_X2_skipBlanks : GoodIn wsX2_readText (wsV RX2 37 RX2 yX2_skipBlanks wsX2_skipBlanks) := goodIn_app (goodIn_of _ (by decide +kernel)) ggX2_readText_X2_skipBlanks
set_option maxRecDepth 20000 in
theorem ggX2_readText_X6_size : GoodIn wsX2_readText wsX6_size := goodIn_r _ [24, 25, 108, 109] (by decide +kernel) (by decide +kernel)
set_option maxRecDepth 20000 in
theorem gX2_readText_X6_size : GoodIn wsX2_readText (wsV RX2 40 RX6 yX6_size wsX6_size) := goodIn_app (goodIn_of _ (by decide +kernel)) ggX2_readText_X6_size
set_option maxRecDepth 20000 in
theorem ggX2_readText_X1_become : GoodIn wsX2_readText wsX1_become := goodIn_r _ [102, 10, 107] (by decide +kernel) (by decide +kernel)
set_option maxRecDepth 20000 in
theorem gX2_readText_X1_become : GoodIn wsX2_readText (wsV RX2 46 RX1 yX1_become wsX1_become) := goodIn_app (goodIn_of _ (by decide +kernel)) ggX2_readText_X1_become
set_option maxRecDepth 20000 in
theorem ggX2_readText_X6_at : GoodIn wsX2_readText wsX6_at := goodIn_r _ [29, 25, 30, 108, 109] (by decide +kernel) (by decide +kernel)
set_option maxRecDepth 20000 in
theorem gX2_readText_X6_at : GoodIn wsX2_readText (wsV RX2 49 RX6 yX6_at wsX6_at) := goodIn_app (goodIn_of _ (by decide +kernel)) ggX2_readText_X6_at
theorem dX2_readText_0 : decode cX2_readText 0 = .ok (.aload_n 0, 1) := by decide +kernel
theorem dX2_readText_1 : decode cX2_readText 1 = .ok (.iconst 0, 1) := by decide +kernel
theorem dX2_readText_2 : decode cX2_readText 2 = .ok (.putfield 15, 3) := by decide +kernel
theorem dX2_readText_5 : decode cX2_readText 5 = .ok (.aload_n 0, 1) := by decide +kernel
theorem dX2_readText_6 : decode cX2_readText 6 = .ok (.getfield 23, 3) := by decide +kernel
theorem dX2_readText_9 : decode cX2_readText 9 = .ok (.aload_n 0, 1) := by decide +kernel
theorem dX2_readText_10 : decode cX2_readText 10 = .ok (.getfield 9, 3) := by decide +kernel
theorem dX2_readText_13 : decode cX2_readText 13 = .ok (.invokevirtual 27, 3) := by decide +kernel
theorem dX2_readText_16 : decode cX2_readText 16 = .ok (.iconst 1, 1) := by decide +kernel
theorem dX2_readText_17 : decode cX2_readText 17 = .ok (.istore_n 1, 1) := by decide +kernel
theorem dX2_readText_18 : decode cX2_readText 18 = .ok (.iload_n 1, 1) := by decide +kernel
theorem dX2_readText_19 : decode cX2_readText 19 = .ok (.sipush 400, 3) := by decide +kernel
theorem dX2_readText_22 : decode cX2_readText 22 = .ok (.if_icmp .gt 77, 3) := by decide +kernel
theorem dX2_readText_25 : decode cX2_readText 25 = .ok (.aload_n 0, 1) := by decide +kernel
theorem dX2_readText_26 : decode cX2_readText 26 = .ok (.invokevirtual 33, 3) := by decide +kernel
theorem dX2_readText_29 : decode cX2_readText 29 = .ok (.ifCond .ne 5, 3) := by decide +kernel
theorem dX2_readText_32 : decode cX2_readText 32 = .ok (.iconst (-1), 1) := by decide +kernel
theorem dX2_readText_33 : decode cX2_readText 33 = .ok (.ireturn, 1) := by decide +kernel
theorem dX2_readText_34 : decode cX2_readText 34 = .ok (.aload_n 0, 1) := by decide +kernel
theorem dX2_readText_35 : decode cX2_readText 35 = .ok (.invokevirtual 37, 3) := by decide +kernel
theorem dX2_readText_38 : decode cX2_readText 38 = .ok (.aload_n 0, 1) := by decide +kernel
theorem dX2_readText_39 : decode cX2_readText 39 = .ok (.getfield 15, 3) := by decide +kernel
theorem dX2_readText_42 : decode cX2_readText 42 = .ok (.aload_n 0, 1) := by decide +kernel
theorem dX2_readText_43 : decode cX2_readText 43 = .ok (.getfield 19, 3) := by decide +kernel
theorem dX2_readText_46 : decode cX2_readText 46 = .ok (.invokevirtual 40, 3) := by decide +kernel
theorem dX2_readText_49 : decode cX2_readText 49 = .ok (.if_icmp .lt 16, 3) := by decide +kernel
theorem dX2_readText_52 : decode cX2_readText 52 = .ok (.aload_n 0, 1) := by decide +kernel
theorem dX2_readText_53 : decode cX2_readText 53 = .ok (.getfield 23, 3) := by decide +kernel
theorem dX2_readText_56 : decode cX2_readText 56 = .ok (.aload_n 0, 1) := by decide +kernel
theorem dX2_readText_57 : decode cX2_readText 57 = .ok (.getfield 9, 3) := by decide +kernel
theorem dX2_readText_60 : decode cX2_readText 60 = .ok (.invokevirtual 46, 3) := by decide +kernel
theorem dX2_readText_63 : decode cX2_readText 63 = .ok (.iload_n 1, 1) := by decide +kernel
theorem dX2_readText_64 : decode cX2_readText 64 = .ok (.ireturn, 1) := by decide +kernel
theorem dX2_readText_65 : decode cX2_readText 65 = .ok (.aload_n 0, 1) := by decide +kernel
theorem dX2_readText_66 : decode cX2_readText 66 = .ok (.getfield 19, 3) := by decide +kernel
theorem dX2_readText_69 : decode cX2_readText 69 = .ok (.aload_n 0, 1) := by decide +kernel
theorem dX2_readText_70 : decode cX2_readText 70 = .ok (.getfield 15, 3) := by decide +kernel
theorem dX2_readText_73 : decode cX2_readText 73 = .ok (.invokevirtual 49, 3) := by decide +kernel
theorem dX2_readText_76 : decode cX2_readText 76 = .ok (.bipush 59, 2) := by decide +kernel
theorem dX2_readText_78 : decode cX2_readText 78 = .ok (.if_icmp .eq 5, 3) := by decide +kernel
theorem dX2_readText_81 : decode cX2_readText 81 = .ok (.iconst (-1), 1) := by decide +kernel
theorem dX2_readText_82 : decode cX2_readText 82 = .ok (.ireturn, 1) := by decide +kernel
theorem dX2_readText_83 : decode cX2_readText 83 = .ok (.aload_n 0, 1) := by decide +kernel
theorem dX2_readText_84 : decode cX2_readText 84 = .ok (.dup, 1) := by decide +kernel
theorem dX2_readText_85 : decode cX2_readText 85 = .ok (.getfield 15, 3) := by decide +kernel
theorem dX2_readText_88 : decode cX2_readText 88 = .ok (.iconst 1, 1) := by decide +kernel
theorem dX2_readText_89 : decode cX2_readText 89 = .ok (.iadd, 1) := by decide +kernel
theorem dX2_readText_90 : decode cX2_readText 90 = .ok (.putfield 15, 3) := by decide +kernel
theorem dX2_readText_93 : decode cX2_readText 93 = .ok (.iinc 1 1, 3) := by decide +kernel
theorem dX2_readText_96 : decode cX2_readText 96 = .ok (.goto (-78), 3) := by decide +kernel
theorem dX2_readText_99 : decode cX2_readText 99 = .ok (.iconst (-1), 1) := by decide +kernel
theorem dX2_readText_100 : decode cX2_readText 100 = .ok (.ireturn, 1) := by decide +kernel
set_option maxRecDepth 20000 in
theorem ggX2_readClause_X2_skipBlanks : GoodIn wsX2_readClause wsX2_skipBlanks := goodIn_r _ [7, 1, 8, 9, 10, 11, 12, 13, 14, 15, 16, 17, 18, 19, 89, 90, 91, 92, 93, 94] (by decide +kernel) (by decide +kernel)
set_option maxRecDepth 20000 in
theorem gX2_readClause_X2_skipBlanks : GoodIn wsX2_readClause (wsV RX2 37 RX2 yX2_skipBlanks wsX2_skipBlanks) := goodIn_app (goodIn_of _ (by decide +kernel)) ggX2_readClause_X2_skipBlanks
set_option maxRecDepth 20000 in
theorem ggX2_readClause_X2_behindRun : GoodIn wsX2_readClause wsX2_behindRun := goodIn_r _ [23, 1, 8, 9, 10, 11, 12, 13, 14, 15, 16, 17, 18, 19, 89, 90, 91, 92, 93, 94] (by decide +kernel) (by decide +kernel)
set_option maxRecDepth 20000 in
theorem gX2_readClause_X2_behindRun : GoodIn wsX2_readClause (wsV RX2 53 RX2 yX2_behindRun wsX2_behindRun) := goodIn_app (goodIn_of _ (by decide +kernel)) ggX2_readClause_X2_behindRun
set_option maxRecDepth 20000 in
theorem ggX2_readClause_X2_kindOfWord : GoodIn wsX2_readClause wsX2_kindOfWord := goodIn_r _ [27, 28, 29, 30, 31, 32, 33, 34, 6, 35, 1, 8, 36, 37, 38, 39, 40, 41, 42, 43, 44, 45, 46, 47, 15, 16, 17, 12, 18, 14, 19, 48, 49, 50, 51, 52, 53, 54, 55, 56, 57, 58, 59, 60, 61, 62, 63, 64, 65, 66, 67, 68, 69, 70, 71, 72, 73, 74, 75, 76, 77, 78, 79, 80, 81, 82, 83, 84, 89, 90, 91, 92, 93, 94] (by decide +kernel) (by decide +kernel)
set_option maxRecDepth 20000 in
theorem gX2_readClause_X2_kindOfWord : GoodIn wsX2_readClause (wsV RX2 57 RX2 yX2_kindOfWord wsX2_kindOfWord) := goodIn_app (goodIn_of _ (by decide +kernel)) ggX2_readClause_X2_kindOfWord
set_option maxRecDepth 20000 in
theorem ggX2_readClause_X2_numberUpTo : GoodIn wsX2_readClause wsX2_numberUpTo := goodIn_r _ [88, 1, 8, 15, 16, 17, 12, 18, 14, 19, 89, 90, 91, 92, 93, 94] (by decide +kernel) (by decide +kernel)
set_option maxRecDepth 20000 in
theorem gX2_readClause_X2_numberUpTo : GoodIn wsX2_readClause (wsV RX2 60 RX2 yX2_numberUpTo wsX2_numberUpTo) := goodIn_app (goodIn_of _ (by decide +kernel)) ggX2_readClause_X2_numberUpTo
theorem dX2_readClause_0 : decode cX2_readClause 0 = .ok (.aload_n 0, 1) := by decide +kernel
theorem dX2_readClause_1 : decode cX2_readClause 1 = .ok (.invokevirtual 37, 3) := by decide +kernel
theorem dX2_readClause_4 : decode cX2_readClause 4 = .ok (.aload_n 0, 1) := by decide +kernel
theorem dX2_readClause_5 : decode cX2_readClause 5 = .ok (.bipush 97, 2) := by decide +kernel
theorem dX2_readClause_7 : decode cX2_readClause 7 = .ok (.bipush 122, 2) := by decide +kernel
theorem dX2_readClause_9 : decode cX2_readClause 9 = .ok (.invokevirtual 53, 3) := by decide +kernel
theorem dX2_readClause_12 : decode cX2_readClause 12 = .ok (.istore_n 1, 1) := by decide +kernel
theorem dX2_readClause_13 : decode cX2_readClause 13 = .ok (.aload_n 0, 1) := by decide +kernel
theorem dX2_readClause_14 : decode cX2_readClause 14 = .ok (.iload_n 1, 1) := by decide +kernel
theorem dX2_readClause_15 : decode cX2_readClause 15 = .ok (.invokevirtual 57, 3) := by decide +kernel
theorem dX2_readClause_18 : decode cX2_readClause 18 = .ok (.istore_n 2, 1) := by decide +kernel
theorem dX2_readClause_19 : decode cX2_readClause 19 = .ok (.iload_n 2, 1) := by decide +kernel
theorem dX2_readClause_20 : decode cX2_readClause 20 = .ok (.ifCond .lt 9, 3) := by decide +kernel
theorem dX2_readClause_23 : decode cX2_readClause 23 = .ok (.iload_n 2, 1) := by decide +kernel
theorem dX2_readClause_24 : decode cX2_readClause 24 = .ok (.bipush 6, 2) := by decide +kernel
theorem dX2_readClause_26 : decode cX2_readClause 26 = .ok (.if_icmp .lt 5, 3) := by decide +kernel
theorem dX2_readClause_29 : decode cX2_readClause 29 = .ok (.iconst 0, 1) := by decide +kernel
theorem dX2_readClause_30 : decode cX2_readClause 30 = .ok (.ireturn, 1) := by decide +kernel
theorem dX2_readClause_31 : decode cX2_readClause 31 = .ok (.aload_n 0, 1) := by decide +kernel
theorem dX2_readClause_32 : decode cX2_readClause 32 = .ok (.iload_n 1, 1) := by decide +kernel
theorem dX2_readClause_33 : decode cX2_readClause 33 = .ok (.putfield 15, 3) := by decide +kernel
theorem dX2_readClause_36 : decode cX2_readClause 36 = .ok (.aload_n 0, 1) := by decide +kernel
theorem dX2_readClause_37 : decode cX2_readClause 37 = .ok (.invokevirtual 37, 3) := by decide +kernel
theorem dX2_readClause_40 : decode cX2_readClause 40 = .ok (.aload_n 0, 1) := by decide +kernel
theorem dX2_readClause_41 : decode cX2_readClause 41 = .ok (.bipush 48, 2) := by decide +kernel
theorem dX2_readClause_43 : decode cX2_readClause 43 = .ok (.bipush 57, 2) := by decide +kernel
theorem dX2_readClause_45 : decode cX2_readClause 45 = .ok (.invokevirtual 53, 3) := by decide +kernel
theorem dX2_readClause_48 : decode cX2_readClause 48 = .ok (.istore_n 3, 1) := by decide +kernel
theorem dX2_readClause_49 : decode cX2_readClause 49 = .ok (.aload_n 0, 1) := by decide +kernel
theorem dX2_readClause_50 : decode cX2_readClause 50 = .ok (.iload_n 3, 1) := by decide +kernel
theorem dX2_readClause_51 : decode cX2_readClause 51 = .ok (.invokevirtual 60, 3) := by decide +kernel
theorem dX2_readClause_54 : decode cX2_readClause 54 = .ok (.istore 4, 2) := by decide +kernel
theorem dX2_readClause_56 : decode cX2_readClause 56 = .ok (.iload 4, 2) := by decide +kernel
theorem dX2_readClause_58 : decode cX2_readClause 58 = .ok (.iconst (-1), 1) := by decide +kernel
theorem dX2_readClause_59 : decode cX2_readClause 59 = .ok (.if_icmp .eq 13, 3) := by decide +kernel
theorem dX2_readClause_62 : decode cX2_readClause 62 = .ok (.iload 4, 2) := by decide +kernel
theorem dX2_readClause_64 : decode cX2_readClause 64 = .ok (.getstatic 63, 3) := by decide +kernel
theorem dX2_readClause_67 : decode cX2_readClause 67 = .ok (.iload_n 2, 1) := by decide +kernel
theorem dX2_readClause_68 : decode cX2_readClause 68 = .ok (.iaload, 1) := by decide +kernel
theorem dX2_readClause_69 : decode cX2_readClause 69 = .ok (.if_icmp .le 5, 3) := by decide +kernel
theorem dX2_readClause_72 : decode cX2_readClause 72 = .ok (.iconst 0, 1) := by decide +kernel
theorem dX2_readClause_73 : decode cX2_readClause 73 = .ok (.ireturn, 1) := by decide +kernel
theorem dX2_readClause_74 : decode cX2_readClause 74 = .ok (.aload_n 0, 1) := by decide +kernel
theorem dX2_readClause_75 : decode cX2_readClause 75 = .ok (.getfield 9, 3) := by decide +kernel
theorem dX2_readClause_78 : decode cX2_readClause 78 = .ok (.iload_n 2, 1) := by decide +kernel
theorem dX2_readClause_79 : decode cX2_readClause 79 = .ok (.iload 4, 2) := by decide +kernel
theorem dX2_readClause_81 : decode cX2_readClause 81 = .ok (.iastore, 1) := by decide +kernel
theorem dX2_readClause_82 : decode cX2_readClause 82 = .ok (.aload_n 0, 1) := by decide +kernel
theorem dX2_readClause_83 : decode cX2_readClause 83 = .ok (.iload_n 3, 1) := by decide +kernel
theorem dX2_readClause_84 : decode cX2_readClause 84 = .ok (.putfield 15, 3) := by decide +kernel
theorem dX2_readClause_87 : decode cX2_readClause 87 = .ok (.iconst 1, 1) := by decide +kernel
theorem dX2_readClause_88 : decode cX2_readClause 88 = .ok (.ireturn, 1) := by decide +kernel
set_option maxRecDepth 20000 in
theorem ggX2_skipBlanks_X6_size : GoodIn wsX2_skipBlanks wsX6_size := goodIn_r _ [7, 8, 18, 19] (by decide +kernel) (by decide +kernel)
set_option maxRecDepth 20000 in
theorem gX2_skipBlanks_X6_size : GoodIn wsX2_skipBlanks (wsV RX2 40 RX6 yX6_size wsX6_size) := goodIn_app (goodIn_of _ (by decide +kernel)) ggX2_skipBlanks_X6_size
set_option maxRecDepth 20000 in
theorem ggX2_skipBlanks_X6_at : GoodIn wsX2_skipBlanks wsX6_at := goodIn_r _ [12, 8, 13, 18, 19] (by decide +kernel) (by decide +kernel)
set_option maxRecDepth 20000 in
theorem gX2_skipBlanks_X6_at : GoodIn wsX2_skipBlanks (wsV RX2 49 RX6 yX6_at wsX6_at) := goodIn_app (goodIn_of _ (by decide +kernel)) ggX2_skipBlanks_X6_at
theorem dX2_skipBlanks_0 : decode cX2_skipBlanks 0 = .ok (.aload_n 0, 1) := by decide +kernel
theorem dX2_skipBlanks_1 : decode cX2_skipBlanks 1 = .ok (.getfield 15, 3) := by decide +kernel
theorem dX2_skipBlanks_4 : decode cX2_skipBlanks 4 = .ok (.aload_n 0, 1) := by decide +kernel
theorem dX2_skipBlanks_5 : decode cX2_skipBlanks 5 = .ok (.getfield 19, 3) := by decide +kernel
theorem dX2_skipBlanks_8 : decode cX2_skipBlanks 8 = .ok (.invokevirtual 40, 3) := by decide +kernel
theorem dX2_skipBlanks_11 : decode cX2_skipBlanks 11 = .ok (.if_icmp .ge 32, 3) := by decide +kernel
theorem dX2_skipBlanks_14 : decode cX2_skipBlanks 14 = .ok (.aload_n 0, 1) := by decide +kernel
theorem dX2_skipBlanks_15 : decode cX2_skipBlanks 15 = .ok (.getfield 19, 3) := by decide +kernel
theorem dX2_skipBlanks_18 : decode cX2_skipBlanks 18 = .ok (.aload_n 0, 1) := by decide +kernel
theorem dX2_skipBlanks_19 : decode cX2_skipBlanks 19 = .ok (.getfield 15, 3) := by decide +kernel
theorem dX2_skipBlanks_22 : decode cX2_skipBlanks 22 = .ok (.invokevirtual 49, 3) := by decide +kernel
theorem dX2_skipBlanks_25 : decode cX2_skipBlanks 25 = .ok (.bipush 32, 2) := by decide +kernel
theorem dX2_skipBlanks_27 : decode cX2_skipBlanks 27 = .ok (.if_icmp .ne 16, 3) := by decide +kernel
theorem dX2_skipBlanks_30 : decode cX2_skipBlanks 30 = .ok (.aload_n 0, 1) := by decide +kernel
theorem dX2_skipBlanks_31 : decode cX2_skipBlanks 31 = .ok (.dup, 1) := by decide +kernel
theorem dX2_skipBlanks_32 : decode cX2_skipBlanks 32 = .ok (.getfield 15, 3) := by decide +kernel
theorem dX2_skipBlanks_35 : decode cX2_skipBlanks 35 = .ok (.iconst 1, 1) := by decide +kernel
theorem dX2_skipBlanks_36 : decode cX2_skipBlanks 36 = .ok (.iadd, 1) := by decide +kernel
theorem dX2_skipBlanks_37 : decode cX2_skipBlanks 37 = .ok (.putfield 15, 3) := by decide +kernel
theorem dX2_skipBlanks_40 : decode cX2_skipBlanks 40 = .ok (.goto (-40), 3) := by decide +kernel
theorem dX2_skipBlanks_43 : decode cX2_skipBlanks 43 = .ok (.return_, 1) := by decide +kernel
set_option maxRecDepth 20000 in
theorem ggX2_behindRun_X6_size : GoodIn wsX2_behindRun wsX6_size := goodIn_r _ [7, 8, 18, 19] (by decide +kernel) (by decide +kernel)
set_option maxRecDepth 20000 in
theorem gX2_behindRun_X6_size : GoodIn wsX2_behindRun (wsV RX2 40 RX6 yX6_size wsX6_size) := goodIn_app (goodIn_of _ (by decide +kernel)) ggX2_behindRun_X6_size
set_option maxRecDepth 20000 in
theorem ggX2_behindRun_X6_at : GoodIn wsX2_behindRun wsX6_at := goodIn_r _ [12, 8, 13, 18, 19] (by decide +kernel) (by decide +kernel)
set_option maxRecDepth 20000 in
theorem gX2_behindRun_X6_at : GoodIn wsX2_behindRun (wsV RX2 49 RX6 yX6_at wsX6_at) := goodIn_app (goodIn_of _ (by decide +kernel)) ggX2_behindRun_X6_at
theorem dX2_behindRun_0 : decode cX2_behindRun 0 = .ok (.aload_n 0, 1) := by decide +kernel
theorem dX2_behindRun_1 : decode cX2_behindRun 1 = .ok (.getfield 15, 3) := by decide +kernel
theorem dX2_behindRun_4 : decode cX2_behindRun 4 = .ok (.istore_n 3, 1) := by decide +kernel
theorem dX2_behindRun_5 : decode cX2_behindRun 5 = .ok (.iload_n 3, 1) := by decide +kernel
theorem dX2_behindRun_6 : decode cX2_behindRun 6 = .ok (.aload_n 0, 1) := by decide +kernel
theorem dX2_behindRun_7 : decode cX2_behindRun 7 = .ok (.getfield 19, 3) := by decide +kernel
theorem dX2_behindRun_10 : decode cX2_behindRun 10 = .ok (.invokevirtual 40, 3) := by decide +kernel
theorem dX2_behindRun_13 : decode cX2_behindRun 13 = .ok (.if_icmp .ge 33, 3) := by decide +kernel
theorem dX2_behindRun_16 : decode cX2_behindRun 16 = .ok (.aload_n 0, 1) := by decide +kernel
theorem dX2_behindRun_17 : decode cX2_behindRun 17 = .ok (.getfield 19, 3) := by decide +kernel
theorem dX2_behindRun_20 : decode cX2_behindRun 20 = .ok (.iload_n 3, 1) := by decide +kernel
theorem dX2_behindRun_21 : decode cX2_behindRun 21 = .ok (.invokevirtual 49, 3) := by decide +kernel
theorem dX2_behindRun_24 : decode cX2_behindRun 24 = .ok (.iload_n 1, 1) := by decide +kernel
theorem dX2_behindRun_25 : decode cX2_behindRun 25 = .ok (.if_icmp .lt 21, 3) := by decide +kernel
theorem dX2_behindRun_28 : decode cX2_behindRun 28 = .ok (.aload_n 0, 1) := by decide +kernel
theorem dX2_behindRun_29 : decode cX2_behindRun 29 = .ok (.getfield 19, 3) := by decide +kernel
theorem dX2_behindRun_32 : decode cX2_behindRun 32 = .ok (.iload_n 3, 1) := by decide +kernel
theorem dX2_behindRun_33 : decode cX2_behindRun 33 = .ok (.invokevirtual 49, 3) := by decide +kernel
theorem dX2_behindRun_36 : decode cX2_behindRun 36 = .ok (.iload_n 2, 1) := by decide +kernel
theorem dX2_behindRun_37 : decode cX2_behindRun 37 = .ok (.if_icmp .gt 9, 3) := by decide +kernel
theorem dX2_behindRun_40 : decode cX2_behindRun 40 = .ok (.iinc 3 1, 3) := by decide +kernel
theorem dX2_behindRun_43 : decode cX2_behindRun 43 = .ok (.goto (-38), 3) := by decide +kernel
theorem dX2_behindRun_46 : decode cX2_behindRun 46 = .ok (.iload_n 3, 1) := by decide +kernel
theorem dX2_behindRun_47 : decode cX2_behindRun 47 = .ok (.ireturn, 1) := by decide +kernel
set_option maxRecDepth 20000 in
theorem ggX2_kindOfWord_X1_word : GoodIn wsX2_kindOfWord wsX1_word := goodIn_r _ [4] (by decide +kernel) (by decide +kernel)
set_option maxRecDepth 20000 in
theorem gX2_kindOfWord_X1_word : GoodIn wsX2_kindOfWord (va_wsS RX2 66 yX1_word wsX1_word) := goodIn_app (goodIn_of _ (by decide +kernel)) ggX2_kindOfWord_X1_word
set_option maxRecDepth 20000 in
theorem ggX2_kindOfWord_X2_isWord : GoodIn wsX2_kindOfWord wsX2_isWord := goodIn_r _ [9, 10, 11, 12, 13, 14, 15, 16, 17, 18, 19, 20, 21, 22, 23, 24, 25, 26, 27, 28, 29, 30, 31, 32, 33, 34, 35, 36, 37, 38, 39, 40, 41, 42, 43, 44, 45, 46, 47, 48, 49, 50, 51, 52, 53, 54, 55, 56, 57, 58, 59, 60, 61, 62, 63, 64, 65, 66, 67, 68, 69, 70, 71, 72, 73] (by decide +kernel) (by decide +kernel)
set_option maxRecDepth 20000 in
theorem gX2_kindOfWord_X2_isWord : GoodIn wsX2_kindOfWord (wsV RX2 70 RX2 yX2_isWord wsX2_isWord) := goodIn_app (goodIn_of _ (by decide +kernel)) ggX2_kindOfWord_X2_isWord
theorem dX2_kindOfWord_0 : decode cX2_kindOfWord 0 = .ok (.iconst 0, 1) := by decide +kernel
theorem dX2_kindOfWord_1 : decode cX2_kindOfWord 1 = .ok (.istore_n 2, 1) := by decide +kernel
theorem dX2_kindOfWord_2 : decode cX2_kindOfWord 2 = .ok (.iload_n 2, 1) := by decide +kernel
theorem dX2_kindOfWord_3 : decode cX2_kindOfWord 3 = .ok (.bipush 6, 2) := by decide +kernel
theorem dX2_kindOfWord_5 : decode cX2_kindOfWord 5 = .ok (.if_icmp .ge 23, 3) := by decide +kernel
theorem dX2_kindOfWord_8 : decode cX2_kindOfWord 8 = .ok (.aload_n 0, 1) := by decide +kernel
theorem dX2_kindOfWord_9 : decode cX2_kindOfWord 9 = .ok (.iload_n 2, 1) := by decide +kernel
theorem dX2_kindOfWord_10 : decode cX2_kindOfWord 10 = .ok (.invokestatic 66, 3) := by decide +kernel
theorem dX2_kindOfWord_13 : decode cX2_kindOfWord 13 = .ok (.iload_n 1, 1) := by decide +kernel
theorem dX2_kindOfWord_14 : decode cX2_kindOfWord 14 = .ok (.invokevirtual 70, 3) := by decide +kernel
theorem dX2_kindOfWord_17 : decode cX2_kindOfWord 17 = .ok (.ifCond .eq 5, 3) := by decide +kernel
theorem dX2_kindOfWord_20 : decode cX2_kindOfWord 20 = .ok (.iload_n 2, 1) := by decide +kernel
theorem dX2_kindOfWord_21 : decode cX2_kindOfWord 21 = .ok (.ireturn, 1) := by decide +kernel
theorem dX2_kindOfWord_22 : decode cX2_kindOfWord 22 = .ok (.iinc 2 1, 3) := by decide +kernel
theorem dX2_kindOfWord_25 : decode cX2_kindOfWord 25 = .ok (.goto (-23), 3) := by decide +kernel
theorem dX2_kindOfWord_28 : decode cX2_kindOfWord 28 = .ok (.iconst (-1), 1) := by decide +kernel
theorem dX2_kindOfWord_29 : decode cX2_kindOfWord 29 = .ok (.ireturn, 1) := by decide +kernel
set_option maxRecDepth 20000 in
theorem ggX2_isWord_J0_length_8abf5 : GoodIn wsX2_isWord wsJ0_length_8abf5 := goodIn_r _ [7, 8, 9, 10, 11, 6, 12, 13, 14] (by decide +kernel) (by decide +kernel)
set_option maxRecDepth 20000 in
theorem gX2_isWord_J0_length_8abf5 : GoodIn wsX2_isWord (wsV RX2 74 RJ0 yJ0_length_8abf5 wsJ0_length_8abf5) := goodIn_app (goodIn_of _ (by decide +kernel)) ggX2_isWord_J0_length_8abf5
set_option maxRecDepth 20000 in
theorem ggX2_isWord_X6_at : GoodIn wsX2_isWord wsX6_at := goodIn_r _ [19, 20, 21, 63, 64] (by decide +kernel) (by decide +kernel)
set_option maxRecDepth 20000 in
theorem gX2_isWord_X6_at : GoodIn wsX2_isWord (wsV RX2 49 RX6 yX6_at wsX6_at) := goodIn_app (goodIn_of _ (by decide +kernel)) ggX2_isWord_X6_at
set_option maxRecDepth 20000 in
theorem ggX2_isWord_J0_charAt_5068e : GoodIn wsX2_isWord wsJ0_charAt_5068e := goodIn_r _ [25, 8, 26, 27, 28, 6, 29, 13, 14, 30, 31, 32, 33, 34, 35, 36, 37, 38, 39, 40, 41, 42, 43, 44, 45, 46, 47, 48, 49, 50, 51, 52, 53, 54, 55, 56, 57, 58] (by decide +kernel) (by decide +kernel)
set_option maxRecDepth 20000 in
theorem gX2_isWord_J0_charAt_5068e : GoodIn wsX2_isWord (wsV RX2 79 RJ0 yJ0_charAt_5068e wsJ0_charAt_5068e) := goodIn_app (goodIn_of _ (by decide +kernel)) ggX2_isWord_J0_charAt_5068e
theorem dX2_isWord_0 : decode cX2_isWord 0 = .ok (.iload_n 2, 1) := by decide +kernel
theorem dX2_isWord_1 : decode cX2_isWord 1 = .ok (.aload_n 0, 1) := by decide +kernel
theorem dX2_isWord_2 : decode cX2_isWord 2 = .ok (.getfield 15, 3) := by decide +kernel
theorem dX2_isWord_5 : decode cX2_isWord 5 = .ok (.isub, 1) := by decide +kernel
theorem dX2_isWord_6 : decode cX2_isWord 6 = .ok (.aload_n 1, 1) := by decide +kernel
theorem dX2_isWord_7 : decode cX2_isWord 7 = .ok (.invokevirtual 74, 3) := by decide +kernel
theorem dX2_isWord_10 : decode cX2_isWord 10 = .ok (.if_icmp .eq 5, 3) := by decide +kernel
theorem dX2_isWord_13 : decode cX2_isWord 13 = .ok (.iconst 0, 1) := by decide +kernel
theorem dX2_isWord_14 : decode cX2_isWord 14 = .ok (.ireturn, 1) := by decide +kernel
theorem dX2_isWord_15 : decode cX2_isWord 15 = .ok (.iconst 0, 1) := by decide +kernel
theorem dX2_isWord_16 : decode cX2_isWord 16 = .ok (.istore_n 3, 1) := by decide +kernel
theorem dX2_isWord_17 : decode cX2_isWord 17 = .ok (.iload_n 3, 1) := by decide +kernel
theorem dX2_isWord_18 : decode cX2_isWord 18 = .ok (.aload_n 1, 1) := by decide +kernel
theorem dX2_isWord_19 : decode cX2_isWord 19 = .ok (.invokevirtual 74, 3) := by decide +kernel
theorem dX2_isWord_22 : decode cX2_isWord 22 = .ok (.if_icmp .ge 32, 3) := by decide +kernel
theorem dX2_isWord_25 : decode cX2_isWord 25 = .ok (.aload_n 0, 1) := by decide +kernel
theorem dX2_isWord_26 : decode cX2_isWord 26 = .ok (.getfield 19, 3) := by decide +kernel
theorem dX2_isWord_29 : decode cX2_isWord 29 = .ok (.aload_n 0, 1) := by decide +kernel
theorem dX2_isWord_30 : decode cX2_isWord 30 = .ok (.getfield 15, 3) := by decide +kernel
theorem dX2_isWord_33 : decode cX2_isWord 33 = .ok (.iload_n 3, 1) := by decide +kernel
theorem dX2_isWord_34 : decode cX2_isWord 34 = .ok (.iadd, 1) := by decide +kernel
theorem dX2_isWord_35 : decode cX2_isWord 35 = .ok (.invokevirtual 49, 3) := by decide +kernel
theorem dX2_isWord_38 : decode cX2_isWord 38 = .ok (.aload_n 1, 1) := by decide +kernel
theorem dX2_isWord_39 : decode cX2_isWord 39 = .ok (.iload_n 3, 1) := by decide +kernel
theorem dX2_isWord_40 : decode cX2_isWord 40 = .ok (.invokevirtual 79, 3) := by decide +kernel
theorem dX2_isWord_43 : decode cX2_isWord 43 = .ok (.if_icmp .eq 5, 3) := by decide +kernel
theorem dX2_isWord_46 : decode cX2_isWord 46 = .ok (.iconst 0, 1) := by decide +kernel
theorem dX2_isWord_47 : decode cX2_isWord 47 = .ok (.ireturn, 1) := by decide +kernel
theorem dX2_isWord_48 : decode cX2_isWord 48 = .ok (.iinc 3 1, 3) := by decide +kernel
theorem dX2_isWord_51 : decode cX2_isWord 51 = .ok (.goto (-34), 3) := by decide +kernel
theorem dX2_isWord_54 : decode cX2_isWord 54 = .ok (.iconst 1, 1) := by decide +kernel
theorem dX2_isWord_55 : decode cX2_isWord 55 = .ok (.ireturn, 1) := by decide +kernel
set_option maxRecDepth 20000 in
theorem ggX2_numberUpTo_X6_at : GoodIn wsX2_numberUpTo wsX6_at := goodIn_r _ [7, 8, 9, 14, 15] (by decide +kernel) (by decide +kernel)
set_option maxRecDepth 20000 in
theorem gX2_numberUpTo_X6_at : GoodIn wsX2_numberUpTo (wsV RX2 49 RX6 yX6_at wsX6_at) := goodIn_app (goodIn_of _ (by decide +kernel)) ggX2_numberUpTo_X6_at
theorem dX2_numberUpTo_0 : decode cX2_numberUpTo 0 = .ok (.iload_n 1, 1) := by decide +kernel
theorem dX2_numberUpTo_1 : decode cX2_numberUpTo 1 = .ok (.aload_n 0, 1) := by decide +kernel
theorem dX2_numberUpTo_2 : decode cX2_numberUpTo 2 = .ok (.getfield 15, 3) := by decide +kernel
theorem dX2_numberUpTo_5 : decode cX2_numberUpTo 5 = .ok (.isub, 1) := by decide +kernel
theorem dX2_numberUpTo_6 : decode cX2_numberUpTo 6 = .ok (.istore_n 2, 1) := by decide +kernel
theorem dX2_numberUpTo_7 : decode cX2_numberUpTo 7 = .ok (.iload_n 2, 1) := by decide +kernel
theorem dX2_numberUpTo_8 : decode cX2_numberUpTo 8 = .ok (.iconst 1, 1) := by decide +kernel
theorem dX2_numberUpTo_9 : decode cX2_numberUpTo 9 = .ok (.if_icmp .lt 8, 3) := by decide +kernel
theorem dX2_numberUpTo_12 : decode cX2_numberUpTo 12 = .ok (.iload_n 2, 1) := by decide +kernel
theorem dX2_numberUpTo_13 : decode cX2_numberUpTo 13 = .ok (.iconst 4, 1) := by decide +kernel
theorem dX2_numberUpTo_14 : decode cX2_numberUpTo 14 = .ok (.if_icmp .le 5, 3) := by decide +kernel
theorem dX2_numberUpTo_17 : decode cX2_numberUpTo 17 = .ok (.iconst (-1), 1) := by decide +kernel
theorem dX2_numberUpTo_18 : decode cX2_numberUpTo 18 = .ok (.ireturn, 1) := by decide +kernel
theorem dX2_numberUpTo_19 : decode cX2_numberUpTo 19 = .ok (.iconst 0, 1) := by decide +kernel
theorem dX2_numberUpTo_20 : decode cX2_numberUpTo 20 = .ok (.istore_n 3, 1) := by decide +kernel
theorem dX2_numberUpTo_21 : decode cX2_numberUpTo 21 = .ok (.aload_n 0, 1) := by decide +kernel
theorem dX2_numberUpTo_22 : decode cX2_numberUpTo 22 = .ok (.getfield 15, 3) := by decide +kernel
theorem dX2_numberUpTo_25 : decode cX2_numberUpTo 25 = .ok (.istore 4, 2) := by decide +kernel
theorem dX2_numberUpTo_27 : decode cX2_numberUpTo 27 = .ok (.iload 4, 2) := by decide +kernel
theorem dX2_numberUpTo_29 : decode cX2_numberUpTo 29 = .ok (.iload_n 1, 1) := by decide +kernel
theorem dX2_numberUpTo_30 : decode cX2_numberUpTo 30 = .ok (.if_icmp .ge 27, 3) := by decide +kernel
theorem dX2_numberUpTo_33 : decode cX2_numberUpTo 33 = .ok (.bipush 10, 2) := by decide +kernel
theorem dX2_numberUpTo_35 : decode cX2_numberUpTo 35 = .ok (.iload_n 3, 1) := by decide +kernel
theorem dX2_numberUpTo_36 : decode cX2_numberUpTo 36 = .ok (.imul, 1) := by decide +kernel
theorem dX2_numberUpTo_37 : decode cX2_numberUpTo 37 = .ok (.aload_n 0, 1) := by decide +kernel
theorem dX2_numberUpTo_38 : decode cX2_numberUpTo 38 = .ok (.getfield 19, 3) := by decide +kernel
theorem dX2_numberUpTo_41 : decode cX2_numberUpTo 41 = .ok (.iload 4, 2) := by decide +kernel
theorem dX2_numberUpTo_43 : decode cX2_numberUpTo 43 = .ok (.invokevirtual 49, 3) := by decide +kernel
theorem dX2_numberUpTo_46 : decode cX2_numberUpTo 46 = .ok (.bipush 48, 2) := by decide +kernel
theorem dX2_numberUpTo_48 : decode cX2_numberUpTo 48 = .ok (.isub, 1) := by decide +kernel
theorem dX2_numberUpTo_49 : decode cX2_numberUpTo 49 = .ok (.iadd, 1) := by decide +kernel
theorem dX2_numberUpTo_50 : decode cX2_numberUpTo 50 = .ok (.istore_n 3, 1) := by decide +kernel
theorem dX2_numberUpTo_51 : decode cX2_numberUpTo 51 = .ok (.iinc 4 1, 3) := by decide +kernel
theorem dX2_numberUpTo_54 : decode cX2_numberUpTo 54 = .ok (.goto (-27), 3) := by decide +kernel
theorem dX2_numberUpTo_57 : decode cX2_numberUpTo 57 = .ok (.iload_n 3, 1) := by decide +kernel
theorem dX2_numberUpTo_58 : decode cX2_numberUpTo 58 = .ok (.ireturn, 1) := by decide +kernel
theorem dX3_init_0 : decode cX3_init 0 = .ok (.aload_n 0, 1) := by decide +kernel
theorem dX3_init_1 : decode cX3_init 1 = .ok (.invokespecial 3, 3) := by decide +kernel
theorem dX3_init_4 : decode cX3_init 4 = .ok (.aload_n 0, 1) := by decide +kernel
theorem dX3_init_5 : decode cX3_init 5 = .ok (.bipush 8, 2) := by decide +kernel
theorem dX3_init_7 : decode cX3_init 7 = .ok (.newarray .int, 2) := by decide +kernel
theorem dX3_init_9 : decode cX3_init 9 = .ok (.dup, 1) := by decide +kernel
theorem dX3_init_10 : decode cX3_init 10 = .ok (.iconst 0, 1) := by decide +kernel
theorem dX3_init_11 : decode cX3_init 11 = .ok (.iconst (-1), 1) := by decide +kernel
theorem dX3_init_12 : decode cX3_init 12 = .ok (.iastore, 1) := by decide +kernel
theorem dX3_init_13 : decode cX3_init 13 = .ok (.dup, 1) := by decide +kernel
theorem dX3_init_14 : decode cX3_init 14 = .ok (.iconst 1, 1) := by decide +kernel
theorem dX3_init_15 : decode cX3_init 15 = .ok (.iconst (-1), 1) := by decide +kernel
theorem dX3_init_16 : decode cX3_init 16 = .ok (.iastore, 1) := by decide +kernel
theorem dX3_init_17 : decode cX3_init 17 = .ok (.dup, 1) := by decide +kernel
theorem dX3_init_18 : decode cX3_init 18 = .ok (.iconst 2, 1) := by decide +kernel
theorem dX3_init_19 : decode cX3_init 19 = .ok (.iconst (-1), 1) := by decide +kernel
theorem dX3_init_20 : decode cX3_init 20 = .ok (.iastore, 1) := by decide +kernel
theorem dX3_init_21 : decode cX3_init 21 = .ok (.dup, 1) := by decide +kernel
theorem dX3_init_22 : decode cX3_init 22 = .ok (.iconst 3, 1) := by decide +kernel
theorem dX3_init_23 : decode cX3_init 23 = .ok (.iconst (-1), 1) := by decide +kernel
theorem dX3_init_24 : decode cX3_init 24 = .ok (.iastore, 1) := by decide +kernel
theorem dX3_init_25 : decode cX3_init 25 = .ok (.dup, 1) := by decide +kernel
theorem dX3_init_26 : decode cX3_init 26 = .ok (.iconst 4, 1) := by decide +kernel
theorem dX3_init_27 : decode cX3_init 27 = .ok (.iconst (-1), 1) := by decide +kernel
theorem dX3_init_28 : decode cX3_init 28 = .ok (.iastore, 1) := by decide +kernel
theorem dX3_init_29 : decode cX3_init 29 = .ok (.dup, 1) := by decide +kernel
theorem dX3_init_30 : decode cX3_init 30 = .ok (.iconst 5, 1) := by decide +kernel
theorem dX3_init_31 : decode cX3_init 31 = .ok (.iconst (-1), 1) := by decide +kernel
theorem dX3_init_32 : decode cX3_init 32 = .ok (.iastore, 1) := by decide +kernel
theorem dX3_init_33 : decode cX3_init 33 = .ok (.dup, 1) := by decide +kernel
theorem dX3_init_34 : decode cX3_init 34 = .ok (.bipush 6, 2) := by decide +kernel
theorem dX3_init_36 : decode cX3_init 36 = .ok (.iconst (-1), 1) := by decide +kernel
theorem dX3_init_37 : decode cX3_init 37 = .ok (.iastore, 1) := by decide +kernel
theorem dX3_init_38 : decode cX3_init 38 = .ok (.dup, 1) := by decide +kernel
theorem dX3_init_39 : decode cX3_init 39 = .ok (.bipush 7, 2) := by decide +kernel
theorem dX3_init_41 : decode cX3_init 41 = .ok (.iconst (-1), 1) := by decide +kernel
theorem dX3_init_42 : decode cX3_init 42 = .ok (.iastore, 1) := by decide +kernel
theorem dX3_init_43 : decode cX3_init 43 = .ok (.putfield 9, 3) := by decide +kernel
theorem dX3_init_46 : decode cX3_init 46 = .ok (.aload_n 0, 1) := by decide +kernel
theorem dX3_init_47 : decode cX3_init 47 = .ok (.iconst 0, 1) := by decide +kernel
theorem dX3_init_48 : decode cX3_init 48 = .ok (.putfield 15, 3) := by decide +kernel
theorem dX3_init_51 : decode cX3_init 51 = .ok (.aload_n 0, 1) := by decide +kernel
theorem dX3_init_52 : decode cX3_init 52 = .ok (.iconst 0, 1) := by decide +kernel
theorem dX3_init_53 : decode cX3_init 53 = .ok (.putfield 19, 3) := by decide +kernel
theorem dX3_init_56 : decode cX3_init 56 = .ok (.aload_n 0, 1) := by decide +kernel
theorem dX3_init_57 : decode cX3_init 57 = .ok (.iconst (-1), 1) := by decide +kernel
theorem dX3_init_58 : decode cX3_init 58 = .ok (.putfield 22, 3) := by decide +kernel
theorem dX3_init_61 : decode cX3_init 61 = .ok (.aload_n 0, 1) := by decide +kernel
theorem dX3_init_62 : decode cX3_init 62 = .ok (.iconst (-1), 1) := by decide +kernel
theorem dX3_init_63 : decode cX3_init 63 = .ok (.putfield 25, 3) := by decide +kernel
theorem dX3_init_66 : decode cX3_init 66 = .ok (.aload_n 0, 1) := by decide +kernel
theorem dX3_init_67 : decode cX3_init 67 = .ok (.iload_n 1, 1) := by decide +kernel
theorem dX3_init_68 : decode cX3_init 68 = .ok (.putfield 28, 3) := by decide +kernel
theorem dX3_init_71 : decode cX3_init 71 = .ok (.return_, 1) := by decide +kernel
theorem dX3_isSold_0 : decode cX3_isSold 0 = .ok (.aload_n 0, 1) := by decide +kernel
theorem dX3_isSold_1 : decode cX3_isSold 1 = .ok (.getfield 22, 3) := by decide +kernel
theorem dX3_isSold_4 : decode cX3_isSold 4 = .ok (.iconst (-1), 1) := by decide +kernel
theorem dX3_isSold_5 : decode cX3_isSold 5 = .ok (.if_icmp .eq 7, 3) := by decide +kernel
theorem dX3_isSold_8 : decode cX3_isSold 8 = .ok (.iconst 1, 1) := by decide +kernel
theorem dX3_isSold_9 : decode cX3_isSold 9 = .ok (.goto 4, 3) := by decide +kernel
theorem dX3_isSold_12 : decode cX3_isSold 12 = .ok (.iconst 0, 1) := by decide +kernel
theorem dX3_isSold_13 : decode cX3_isSold 13 = .ok (.ireturn, 1) := by decide +kernel
set_option maxRecDepth 20000 in
theorem ggX3_take_X4_weight : GoodIn wsX3_take wsX4_weight := goodIn_r _ [7, 8, 9, 10, 11, 18, 19, 20, 21, 22, 23] (by decide +kernel) (by decide +kernel)
set_option maxRecDepth 20000 in
theorem gX3_take_X4_weight : GoodIn wsX3_take (wsV RX3 31 RX4 yX4_weight wsX4_weight) := goodIn_app (goodIn_of _ (by decide +kernel)) ggX3_take_X4_weight
theorem dX3_take_0 : decode cX3_take 0 = .ok (.aload_n 0, 1) := by decide +kernel
theorem dX3_take_1 : decode cX3_take 1 = .ok (.dup, 1) := by decide +kernel
theorem dX3_take_2 : decode cX3_take 2 = .ok (.getfield 15, 3) := by decide +kernel
theorem dX3_take_5 : decode cX3_take 5 = .ok (.iconst 1, 1) := by decide +kernel
theorem dX3_take_6 : decode cX3_take 6 = .ok (.iadd, 1) := by decide +kernel
theorem dX3_take_7 : decode cX3_take 7 = .ok (.putfield 15, 3) := by decide +kernel
theorem dX3_take_10 : decode cX3_take 10 = .ok (.aload_n 0, 1) := by decide +kernel
theorem dX3_take_11 : decode cX3_take 11 = .ok (.dup, 1) := by decide +kernel
theorem dX3_take_12 : decode cX3_take 12 = .ok (.getfield 19, 3) := by decide +kernel
theorem dX3_take_15 : decode cX3_take 15 = .ok (.aload_n 1, 1) := by decide +kernel
theorem dX3_take_16 : decode cX3_take 16 = .ok (.invokevirtual 31, 3) := by decide +kernel
theorem dX3_take_19 : decode cX3_take 19 = .ok (.iadd, 1) := by decide +kernel
theorem dX3_take_20 : decode cX3_take 20 = .ok (.putfield 19, 3) := by decide +kernel
theorem dX3_take_23 : decode cX3_take 23 = .ok (.return_, 1) := by decide +kernel
set_option maxRecDepth 20000 in
theorem ggX3_goToGreatestBid_X3_isSold : GoodIn wsX3_goToGreatestBid wsX3_isSold := goodIn_r _ [9, 2, 10, 11, 12, 13, 14, 15] (by decide +kernel) (by decide +kernel)
set_option maxRecDepth 20000 in
theorem gX3_goToGreatestBid_X3_isSold : GoodIn wsX3_goToGreatestBid (wsV RX3 36 RX3 yX3_isSold wsX3_isSold) := goodIn_app (goodIn_of _ (by decide +kernel)) ggX3_goToGreatestBid_X3_isSold
theorem dX3_goToGreatestBid_0 : decode cX3_goToGreatestBid 0 = .ok (.iconst (-1), 1) := by decide +kernel
theorem dX3_goToGreatestBid_1 : decode cX3_goToGreatestBid 1 = .ok (.istore_n 1, 1) := by decide +kernel
theorem dX3_goToGreatestBid_2 : decode cX3_goToGreatestBid 2 = .ok (.iconst (-1), 1) := by decide +kernel
theorem dX3_goToGreatestBid_3 : decode cX3_goToGreatestBid 3 = .ok (.istore_n 2, 1) := by decide +kernel
theorem dX3_goToGreatestBid_4 : decode cX3_goToGreatestBid 4 = .ok (.iconst 0, 1) := by decide +kernel
theorem dX3_goToGreatestBid_5 : decode cX3_goToGreatestBid 5 = .ok (.istore_n 3, 1) := by decide +kernel
theorem dX3_goToGreatestBid_6 : decode cX3_goToGreatestBid 6 = .ok (.iload_n 3, 1) := by decide +kernel
theorem dX3_goToGreatestBid_7 : decode cX3_goToGreatestBid 7 = .ok (.aload_n 0, 1) := by decide +kernel
theorem dX3_goToGreatestBid_8 : decode cX3_goToGreatestBid 8 = .ok (.getfield 9, 3) := by decide +kernel
theorem dX3_goToGreatestBid_11 : decode cX3_goToGreatestBid 11 = .ok (.arraylength, 1) := by decide +kernel
theorem dX3_goToGreatestBid_12 : decode cX3_goToGreatestBid 12 = .ok (.if_icmp .ge 53, 3) := by decide +kernel
theorem dX3_goToGreatestBid_15 : decode cX3_goToGreatestBid 15 = .ok (.aload_n 0, 1) := by decide +kernel
theorem dX3_goToGreatestBid_16 : decode cX3_goToGreatestBid 16 = .ok (.getfield 9, 3) := by decide +kernel
theorem dX3_goToGreatestBid_19 : decode cX3_goToGreatestBid 19 = .ok (.iload_n 3, 1) := by decide +kernel
theorem dX3_goToGreatestBid_20 : decode cX3_goToGreatestBid 20 = .ok (.iaload, 1) := by decide +kernel
theorem dX3_goToGreatestBid_21 : decode cX3_goToGreatestBid 21 = .ok (.iload_n 1, 1) := by decide +kernel
theorem dX3_goToGreatestBid_22 : decode cX3_goToGreatestBid 22 = .ok (.if_icmp .le 20, 3) := by decide +kernel
theorem dX3_goToGreatestBid_25 : decode cX3_goToGreatestBid 25 = .ok (.iload_n 1, 1) := by decide +kernel
theorem dX3_goToGreatestBid_26 : decode cX3_goToGreatestBid 26 = .ok (.istore_n 2, 1) := by decide +kernel
theorem dX3_goToGreatestBid_27 : decode cX3_goToGreatestBid 27 = .ok (.aload_n 0, 1) := by decide +kernel
theorem dX3_goToGreatestBid_28 : decode cX3_goToGreatestBid 28 = .ok (.getfield 9, 3) := by decide +kernel
theorem dX3_goToGreatestBid_31 : decode cX3_goToGreatestBid 31 = .ok (.iload_n 3, 1) := by decide +kernel
theorem dX3_goToGreatestBid_32 : decode cX3_goToGreatestBid 32 = .ok (.iaload, 1) := by decide +kernel
theorem dX3_goToGreatestBid_33 : decode cX3_goToGreatestBid 33 = .ok (.istore_n 1, 1) := by decide +kernel
theorem dX3_goToGreatestBid_34 : decode cX3_goToGreatestBid 34 = .ok (.aload_n 0, 1) := by decide +kernel
theorem dX3_goToGreatestBid_35 : decode cX3_goToGreatestBid 35 = .ok (.iload_n 3, 1) := by decide +kernel
theorem dX3_goToGreatestBid_36 : decode cX3_goToGreatestBid 36 = .ok (.putfield 22, 3) := by decide +kernel
theorem dX3_goToGreatestBid_39 : decode cX3_goToGreatestBid 39 = .ok (.goto 20, 3) := by decide +kernel
theorem dX3_goToGreatestBid_42 : decode cX3_goToGreatestBid 42 = .ok (.aload_n 0, 1) := by decide +kernel
theorem dX3_goToGreatestBid_43 : decode cX3_goToGreatestBid 43 = .ok (.getfield 9, 3) := by decide +kernel
theorem dX3_goToGreatestBid_46 : decode cX3_goToGreatestBid 46 = .ok (.iload_n 3, 1) := by decide +kernel
theorem dX3_goToGreatestBid_47 : decode cX3_goToGreatestBid 47 = .ok (.iaload, 1) := by decide +kernel
theorem dX3_goToGreatestBid_48 : decode cX3_goToGreatestBid 48 = .ok (.iload_n 2, 1) := by decide +kernel
theorem dX3_goToGreatestBid_49 : decode cX3_goToGreatestBid 49 = .ok (.if_icmp .le 10, 3) := by decide +kernel
theorem dX3_goToGreatestBid_52 : decode cX3_goToGreatestBid 52 = .ok (.aload_n 0, 1) := by decide +kernel
theorem dX3_goToGreatestBid_53 : decode cX3_goToGreatestBid 53 = .ok (.getfield 9, 3) := by decide +kernel
theorem dX3_goToGreatestBid_56 : decode cX3_goToGreatestBid 56 = .ok (.iload_n 3, 1) := by decide +kernel
theorem dX3_goToGreatestBid_57 : decode cX3_goToGreatestBid 57 = .ok (.iaload, 1) := by decide +kernel
theorem dX3_goToGreatestBid_58 : decode cX3_goToGreatestBid 58 = .ok (.istore_n 2, 1) := by decide +kernel
theorem dX3_goToGreatestBid_59 : decode cX3_goToGreatestBid 59 = .ok (.iinc 3 1, 3) := by decide +kernel
theorem dX3_goToGreatestBid_62 : decode cX3_goToGreatestBid 62 = .ok (.goto (-56), 3) := by decide +kernel
theorem dX3_goToGreatestBid_65 : decode cX3_goToGreatestBid 65 = .ok (.aload_n 0, 1) := by decide +kernel
theorem dX3_goToGreatestBid_66 : decode cX3_goToGreatestBid 66 = .ok (.invokevirtual 36, 3) := by decide +kernel
theorem dX3_goToGreatestBid_69 : decode cX3_goToGreatestBid 69 = .ok (.ifCond .eq 20, 3) := by decide +kernel
theorem dX3_goToGreatestBid_72 : decode cX3_goToGreatestBid 72 = .ok (.aload_n 0, 1) := by decide +kernel
theorem dX3_goToGreatestBid_73 : decode cX3_goToGreatestBid 73 = .ok (.iload_n 2, 1) := by decide +kernel
theorem dX3_goToGreatestBid_74 : decode cX3_goToGreatestBid 74 = .ok (.iconst (-1), 1) := by decide +kernel
theorem dX3_goToGreatestBid_75 : decode cX3_goToGreatestBid 75 = .ok (.if_icmp .ne 10, 3) := by decide +kernel
theorem dX3_goToGreatestBid_78 : decode cX3_goToGreatestBid 78 = .ok (.aload_n 0, 1) := by decide +kernel
theorem dX3_goToGreatestBid_79 : decode cX3_goToGreatestBid 79 = .ok (.getfield 28, 3) := by decide +kernel
theorem dX3_goToGreatestBid_82 : decode cX3_goToGreatestBid 82 = .ok (.goto 4, 3) := by decide +kernel
theorem dX3_goToGreatestBid_85 : decode cX3_goToGreatestBid 85 = .ok (.iload_n 2, 1) := by decide +kernel
theorem dX3_goToGreatestBid_86 : decode cX3_goToGreatestBid 86 = .ok (.putfield 25, 3) := by decide +kernel
theorem dX3_goToGreatestBid_89 : decode cX3_goToGreatestBid 89 = .ok (.return_, 1) := by decide +kernel
theorem dX4_init_0 : decode cX4_init 0 = .ok (.aload_n 0, 1) := by decide +kernel
theorem dX4_init_1 : decode cX4_init 1 = .ok (.invokespecial 3, 3) := by decide +kernel
theorem dX4_init_4 : decode cX4_init 4 = .ok (.aload_n 0, 1) := by decide +kernel
theorem dX4_init_5 : decode cX4_init 5 = .ok (.iconst (-1), 1) := by decide +kernel
theorem dX4_init_6 : decode cX4_init 6 = .ok (.putfield 9, 3) := by decide +kernel
theorem dX4_init_9 : decode cX4_init 9 = .ok (.aload_n 0, 1) := by decide +kernel
theorem dX4_init_10 : decode cX4_init 10 = .ok (.iload_n 1, 1) := by decide +kernel
theorem dX4_init_11 : decode cX4_init 11 = .ok (.putfield 15, 3) := by decide +kernel
theorem dX4_init_14 : decode cX4_init 14 = .ok (.aload_n 0, 1) := by decide +kernel
theorem dX4_init_15 : decode cX4_init 15 = .ok (.iload_n 2, 1) := by decide +kernel
theorem dX4_init_16 : decode cX4_init 16 = .ok (.putfield 18, 3) := by decide +kernel
theorem dX4_init_19 : decode cX4_init 19 = .ok (.aload_n 0, 1) := by decide +kernel
theorem dX4_init_20 : decode cX4_init 20 = .ok (.iload_n 3, 1) := by decide +kernel
theorem dX4_init_21 : decode cX4_init 21 = .ok (.putfield 21, 3) := by decide +kernel
theorem dX4_init_24 : decode cX4_init 24 = .ok (.aload_n 0, 1) := by decide +kernel
theorem dX4_init_25 : decode cX4_init 25 = .ok (.iload 4, 2) := by decide +kernel
theorem dX4_init_27 : decode cX4_init 27 = .ok (.putfield 24, 3) := by decide +kernel
theorem dX4_init_30 : decode cX4_init 30 = .ok (.aload_n 0, 1) := by decide +kernel
theorem dX4_init_31 : decode cX4_init 31 = .ok (.iload 5, 2) := by decide +kernel
theorem dX4_init_33 : decode cX4_init 33 = .ok (.putfield 27, 3) := by decide +kernel
theorem dX4_init_36 : decode cX4_init 36 = .ok (.return_, 1) := by decide +kernel
theorem dX4_weight_0 : decode cX4_weight 0 = .ok (.aload_n 0, 1) := by decide +kernel
theorem dX4_weight_1 : decode cX4_weight 1 = .ok (.getfield 21, 3) := by decide +kernel
theorem dX4_weight_4 : decode cX4_weight 4 = .ok (.i2l, 1) := by decide +kernel
theorem dX4_weight_5 : decode cX4_weight 5 = .ok (.aload_n 0, 1) := by decide +kernel
theorem dX4_weight_6 : decode cX4_weight 6 = .ok (.getfield 24, 3) := by decide +kernel
theorem dX4_weight_9 : decode cX4_weight 9 = .ok (.i2l, 1) := by decide +kernel
theorem dX4_weight_10 : decode cX4_weight 10 = .ok (.lmul, 1) := by decide +kernel
theorem dX4_weight_11 : decode cX4_weight 11 = .ok (.aload_n 0, 1) := by decide +kernel
theorem dX4_weight_12 : decode cX4_weight 12 = .ok (.getfield 27, 3) := by decide +kernel
theorem dX4_weight_15 : decode cX4_weight 15 = .ok (.i2l, 1) := by decide +kernel
theorem dX4_weight_16 : decode cX4_weight 16 = .ok (.lmul, 1) := by decide +kernel
theorem dX4_weight_17 : decode cX4_weight 17 = .ok (.ldc2_w 30, 3) := by decide +kernel
theorem dX4_weight_20 : decode cX4_weight 20 = .ok (.ldiv, 1) := by decide +kernel
theorem dX4_weight_21 : decode cX4_weight 21 = .ok (.l2i, 1) := by decide +kernel
theorem dX4_weight_22 : decode cX4_weight 22 = .ok (.ireturn, 1) := by decide +kernel
theorem dX5_init_0 : decode cX5_init 0 = .ok (.aload_n 0, 1) := by decide +kernel
theorem dX5_init_1 : decode cX5_init 1 = .ok (.invokespecial 3, 3) := by decide +kernel
theorem dX5_init_4 : decode cX5_init 4 = .ok (.aload_n 0, 1) := by decide +kernel
theorem dX5_init_5 : decode cX5_init 5 = .ok (.bipush 6, 2) := by decide +kernel
theorem dX5_init_7 : decode cX5_init 7 = .ok (.newarray .int, 2) := by decide +kernel
theorem dX5_init_9 : decode cX5_init 9 = .ok (.putfield 9, 3) := by decide +kernel
theorem dX5_init_12 : decode cX5_init 12 = .ok (.aload_n 0, 1) := by decide +kernel
theorem dX5_init_13 : decode cX5_init 13 = .ok (.bipush 6, 2) := by decide +kernel
theorem dX5_init_15 : decode cX5_init 15 = .ok (.newarray .int, 2) := by decide +kernel
theorem dX5_init_17 : decode cX5_init 17 = .ok (.putfield 15, 3) := by decide +kernel
theorem dX5_init_20 : decode cX5_init 20 = .ok (.aload_n 0, 1) := by decide +kernel
theorem dX5_init_21 : decode cX5_init 21 = .ok (.bipush 9, 2) := by decide +kernel
theorem dX5_init_23 : decode cX5_init 23 = .ok (.newarray .int, 2) := by decide +kernel
theorem dX5_init_25 : decode cX5_init 25 = .ok (.putfield 18, 3) := by decide +kernel
theorem dX5_init_28 : decode cX5_init 28 = .ok (.aload_n 0, 1) := by decide +kernel
theorem dX5_init_29 : decode cX5_init 29 = .ok (.bipush 6, 2) := by decide +kernel
theorem dX5_init_31 : decode cX5_init 31 = .ok (.newarray .int, 2) := by decide +kernel
theorem dX5_init_33 : decode cX5_init 33 = .ok (.putfield 21, 3) := by decide +kernel
theorem dX5_init_36 : decode cX5_init 36 = .ok (.aload_n 0, 1) := by decide +kernel
theorem dX5_init_37 : decode cX5_init 37 = .ok (.bipush 6, 2) := by decide +kernel
theorem dX5_init_39 : decode cX5_init 39 = .ok (.newarray .int, 2) := by decide +kernel
theorem dX5_init_41 : decode cX5_init 41 = .ok (.putfield 24, 3) := by decide +kernel
theorem dX5_init_44 : decode cX5_init 44 = .ok (.aload_n 0, 1) := by decide +kernel
theorem dX5_init_45 : decode cX5_init 45 = .ok (.iconst 0, 1) := by decide +kernel
theorem dX5_init_46 : decode cX5_init 46 = .ok (.putfield 27, 3) := by decide +kernel
theorem dX5_init_49 : decode cX5_init 49 = .ok (.aload_n 0, 1) := by decide +kernel
theorem dX5_init_50 : decode cX5_init 50 = .ok (.iconst 0, 1) := by decide +kernel
theorem dX5_init_51 : decode cX5_init 51 = .ok (.putfield 31, 3) := by decide +kernel
theorem dX5_init_54 : decode cX5_init 54 = .ok (.aload_n 0, 1) := by decide +kernel
theorem dX5_init_55 : decode cX5_init 55 = .ok (.iconst 1, 1) := by decide +kernel
theorem dX5_init_56 : decode cX5_init 56 = .ok (.putfield 34, 3) := by decide +kernel
theorem dX5_init_59 : decode cX5_init 59 = .ok (.return_, 1) := by decide +kernel
theorem dX5_size_0 : decode cX5_size 0 = .ok (.aload_n 0, 1) := by decide +kernel
theorem dX5_size_1 : decode cX5_size 1 = .ok (.getfield 27, 3) := by decide +kernel
theorem dX5_size_4 : decode cX5_size 4 = .ok (.ireturn, 1) := by decide +kernel
theorem dX5_addStand_0 : decode cX5_addStand 0 = .ok (.aload_n 0, 1) := by decide +kernel
theorem dX5_addStand_1 : decode cX5_addStand 1 = .ok (.getfield 27, 3) := by decide +kernel
theorem dX5_addStand_4 : decode cX5_addStand 4 = .ok (.bipush 6, 2) := by decide +kernel
theorem dX5_addStand_6 : decode cX5_addStand 6 = .ok (.if_icmp .lt 5, 3) := by decide +kernel
theorem dX5_addStand_9 : decode cX5_addStand 9 = .ok (.iconst (-1), 1) := by decide +kernel
theorem dX5_addStand_10 : decode cX5_addStand 10 = .ok (.ireturn, 1) := by decide +kernel
theorem dX5_addStand_11 : decode cX5_addStand 11 = .ok (.aload_n 0, 1) := by decide +kernel
theorem dX5_addStand_12 : decode cX5_addStand 12 = .ok (.getfield 9, 3) := by decide +kernel
theorem dX5_addStand_15 : decode cX5_addStand 15 = .ok (.aload_n 0, 1) := by decide +kernel
theorem dX5_addStand_16 : decode cX5_addStand 16 = .ok (.getfield 27, 3) := by decide +kernel
theorem dX5_addStand_19 : decode cX5_addStand 19 = .ok (.iload_n 1, 1) := by decide +kernel
theorem dX5_addStand_20 : decode cX5_addStand 20 = .ok (.iastore, 1) := by decide +kernel
theorem dX5_addStand_21 : decode cX5_addStand 21 = .ok (.aload_n 0, 1) := by decide +kernel
theorem dX5_addStand_22 : decode cX5_addStand 22 = .ok (.getfield 15, 3) := by decide +kernel
theorem dX5_addStand_25 : decode cX5_addStand 25 = .ok (.aload_n 0, 1) := by decide +kernel
theorem dX5_addStand_26 : decode cX5_addStand 26 = .ok (.getfield 27, 3) := by decide +kernel
theorem dX5_addStand_29 : decode cX5_addStand 29 = .ok (.iload_n 2, 1) := by decide +kernel
theorem dX5_addStand_30 : decode cX5_addStand 30 = .ok (.iastore, 1) := by decide +kernel
theorem dX5_addStand_31 : decode cX5_addStand 31 = .ok (.aload_n 0, 1) := by decide +kernel
theorem dX5_addStand_32 : decode cX5_addStand 32 = .ok (.dup, 1) := by decide +kernel
theorem dX5_addStand_33 : decode cX5_addStand 33 = .ok (.getfield 27, 3) := by decide +kernel
theorem dX5_addStand_36 : decode cX5_addStand 36 = .ok (.iconst 1, 1) := by decide +kernel
theorem dX5_addStand_37 : decode cX5_addStand 37 = .ok (.iadd, 1) := by decide +kernel
theorem dX5_addStand_38 : decode cX5_addStand 38 = .ok (.putfield 27, 3) := by decide +kernel
theorem dX5_addStand_41 : decode cX5_addStand 41 = .ok (.aload_n 0, 1) := by decide +kernel
theorem dX5_addStand_42 : decode cX5_addStand 42 = .ok (.iconst 0, 1) := by decide +kernel
theorem dX5_addStand_43 : decode cX5_addStand 43 = .ok (.putfield 34, 3) := by decide +kernel
theorem dX5_addStand_46 : decode cX5_addStand 46 = .ok (.aload_n 0, 1) := by decide +kernel
theorem dX5_addStand_47 : decode cX5_addStand 47 = .ok (.getfield 27, 3) := by decide +kernel
theorem dX5_addStand_50 : decode cX5_addStand 50 = .ok (.iconst 1, 1) := by decide +kernel
theorem dX5_addStand_51 : decode cX5_addStand 51 = .ok (.isub, 1) := by decide +kernel
theorem dX5_addStand_52 : decode cX5_addStand 52 = .ok (.ireturn, 1) := by decide +kernel
set_option maxRecDepth 20000 in
theorem ggX5_leastBurden_X5_search : GoodIn wsX5_leastBurden wsX5_search := goodIn_r _ [6, 7, 8, 1, 9, 10, 11, 5, 12, 13, 14, 15, 16, 17, 18, 19, 20, 21, 22, 23, 24, 25, 26, 27, 28, 29, 30, 31, 32, 33, 34, 35, 36, 37, 38, 39, 40, 41, 42] (by decide +kernel) (by decide +kernel)
set_option maxRecDepth 20000 in
theorem gX5_leastBurden_X5_search : GoodIn wsX5_leastBurden (wsV RX5 38 RX5 yX5_search wsX5_search) := goodIn_app (goodIn_of _ (by decide +kernel)) ggX5_leastBurden_X5_search
theorem dX5_leastBurden_0 : decode cX5_leastBurden 0 = .ok (.aload_n 0, 1) := by decide +kernel
theorem dX5_leastBurden_1 : decode cX5_leastBurden 1 = .ok (.invokevirtual 38, 3) := by decide +kernel
theorem dX5_leastBurden_4 : decode cX5_leastBurden 4 = .ok (.aload_n 0, 1) := by decide +kernel
theorem dX5_leastBurden_5 : decode cX5_leastBurden 5 = .ok (.getfield 31, 3) := by decide +kernel
theorem dX5_leastBurden_8 : decode cX5_leastBurden 8 = .ok (.ireturn, 1) := by decide +kernel
set_option maxRecDepth 20000 in
theorem ggX5_yearOf_X5_search : GoodIn wsX5_yearOf wsX5_search := goodIn_r _ [6, 7, 8, 9, 10, 11, 12, 5, 13, 14, 15, 16, 17, 18, 19, 20, 21, 22, 23, 24, 25, 26, 27, 28, 1, 29, 30, 31, 32, 33, 34, 35, 36, 37, 38, 39, 40, 41, 42] (by decide +kernel) (by decide +kernel)
set_option maxRecDepth 20000 in
theorem gX5_yearOf_X5_search : GoodIn wsX5_yearOf (wsV RX5 38 RX5 yX5_search wsX5_search) := goodIn_app (goodIn_of _ (by decide +kernel)) ggX5_yearOf_X5_search
theorem dX5_yearOf_0 : decode cX5_yearOf 0 = .ok (.aload_n 0, 1) := by decide +kernel
theorem dX5_yearOf_1 : decode cX5_yearOf 1 = .ok (.invokevirtual 38, 3) := by decide +kernel
theorem dX5_yearOf_4 : decode cX5_yearOf 4 = .ok (.iload_n 1, 1) := by decide +kernel
theorem dX5_yearOf_5 : decode cX5_yearOf 5 = .ok (.ifCond .lt 21, 3) := by decide +kernel
theorem dX5_yearOf_8 : decode cX5_yearOf 8 = .ok (.iload_n 1, 1) := by decide +kernel
theorem dX5_yearOf_9 : decode cX5_yearOf 9 = .ok (.aload_n 0, 1) := by decide +kernel
theorem dX5_yearOf_10 : decode cX5_yearOf 10 = .ok (.getfield 24, 3) := by decide +kernel
theorem dX5_yearOf_13 : decode cX5_yearOf 13 = .ok (.arraylength, 1) := by decide +kernel
theorem dX5_yearOf_14 : decode cX5_yearOf 14 = .ok (.if_icmp .ge 12, 3) := by decide +kernel
theorem dX5_yearOf_17 : decode cX5_yearOf 17 = .ok (.aload_n 0, 1) := by decide +kernel
theorem dX5_yearOf_18 : decode cX5_yearOf 18 = .ok (.getfield 24, 3) := by decide +kernel
theorem dX5_yearOf_21 : decode cX5_yearOf 21 = .ok (.iload_n 1, 1) := by decide +kernel
theorem dX5_yearOf_22 : decode cX5_yearOf 22 = .ok (.iaload, 1) := by decide +kernel
theorem dX5_yearOf_23 : decode cX5_yearOf 23 = .ok (.goto 4, 3) := by decide +kernel
theorem dX5_yearOf_26 : decode cX5_yearOf 26 = .ok (.iconst (-1), 1) := by decide +kernel
theorem dX5_yearOf_27 : decode cX5_yearOf 27 = .ok (.ireturn, 1) := by decide +kernel
set_option maxRecDepth 20000 in
theorem ggX5_search_X5_greatestYield : GoodIn wsX5_search wsX5_greatestYield := goodIn_r _ [8, 9, 10, 11, 12, 13, 14, 31, 32, 33, 34, 35, 36, 37, 38] (by decide +kernel) (by decide +kernel)
set_option maxRecDepth 20000 in
theorem gX5_search_X5_greatestYield : GoodIn wsX5_search (wsV RX5 44 RX5 yX5_greatestYield wsX5_greatestYield) := goodIn_app (goodIn_of _ (by decide +kernel)) ggX5_search_X5_greatestYield
set_option maxRecDepth 20000 in
theorem ggX5_search_X5_tryFrom : GoodIn wsX5_search wsX5_tryFrom := goodIn_r _ [18, 9, 19, 20, 21, 22, 7, 23, 3, 24, 25, 26, 27, 28, 29, 30, 10, 11, 12, 13, 14, 15, 16, 17, 31, 32, 33, 34, 35, 36, 37, 38] (by decide +kernel) (by decide +kernel)
set_option maxRecDepth 20000 in
theorem gX5_search_X5_tryFrom : GoodIn wsX5_search (wsV RX5 48 RX5 yX5_tryFrom wsX5_tryFrom) := goodIn_app (goodIn_of _ (by decide +kernel)) ggX5_search_X5_tryFrom
theorem dX5_search_0 : decode cX5_search 0 = .ok (.aload_n 0, 1) := by decide +kernel
theorem dX5_search_1 : decode cX5_search 1 = .ok (.getfield 34, 3) := by decide +kernel
theorem dX5_search_4 : decode cX5_search 4 = .ok (.ifCond .eq 4, 3) := by decide +kernel
theorem dX5_search_7 : decode cX5_search 7 = .ok (.return_, 1) := by decide +kernel
theorem dX5_search_8 : decode cX5_search 8 = .ok (.aload_n 0, 1) := by decide +kernel
theorem dX5_search_9 : decode cX5_search 9 = .ok (.ldc 43, 2) := by decide +kernel
theorem dX5_search_11 : decode cX5_search 11 = .ok (.putfield 31, 3) := by decide +kernel
theorem dX5_search_14 : decode cX5_search 14 = .ok (.aload_n 0, 1) := by decide +kernel
theorem dX5_search_15 : decode cX5_search 15 = .ok (.iconst 0, 1) := by decide +kernel
theorem dX5_search_16 : decode cX5_search 16 = .ok (.aload_n 0, 1) := by decide +kernel
theorem dX5_search_17 : decode cX5_search 17 = .ok (.invokevirtual 44, 3) := by decide +kernel
theorem dX5_search_20 : decode cX5_search 20 = .ok (.invokevirtual 48, 3) := by decide +kernel
theorem dX5_search_23 : decode cX5_search 23 = .ok (.aload_n 0, 1) := by decide +kernel
theorem dX5_search_24 : decode cX5_search 24 = .ok (.iconst 1, 1) := by decide +kernel
theorem dX5_search_25 : decode cX5_search 25 = .ok (.putfield 34, 3) := by decide +kernel
theorem dX5_search_28 : decode cX5_search 28 = .ok (.return_, 1) := by decide +kernel
theorem dX5_greatestYield_0 : decode cX5_greatestYield 0 = .ok (.iconst 0, 1) := by decide +kernel
theorem dX5_greatestYield_1 : decode cX5_greatestYield 1 = .ok (.istore_n 1, 1) := by decide +kernel
theorem dX5_greatestYield_2 : decode cX5_greatestYield 2 = .ok (.iconst 0, 1) := by decide +kernel
theorem dX5_greatestYield_3 : decode cX5_greatestYield 3 = .ok (.istore_n 2, 1) := by decide +kernel
theorem dX5_greatestYield_4 : decode cX5_greatestYield 4 = .ok (.iload_n 2, 1) := by decide +kernel
theorem dX5_greatestYield_5 : decode cX5_greatestYield 5 = .ok (.aload_n 0, 1) := by decide +kernel
theorem dX5_greatestYield_6 : decode cX5_greatestYield 6 = .ok (.getfield 27, 3) := by decide +kernel
theorem dX5_greatestYield_9 : decode cX5_greatestYield 9 = .ok (.if_icmp .ge 20, 3) := by decide +kernel
theorem dX5_greatestYield_12 : decode cX5_greatestYield 12 = .ok (.iload_n 1, 1) := by decide +kernel
theorem dX5_greatestYield_13 : decode cX5_greatestYield 13 = .ok (.aload_n 0, 1) := by decide +kernel
theorem dX5_greatestYield_14 : decode cX5_greatestYield 14 = .ok (.getfield 9, 3) := by decide +kernel
theorem dX5_greatestYield_17 : decode cX5_greatestYield 17 = .ok (.iload_n 2, 1) := by decide +kernel
theorem dX5_greatestYield_18 : decode cX5_greatestYield 18 = .ok (.iaload, 1) := by decide +kernel
theorem dX5_greatestYield_19 : decode cX5_greatestYield 19 = .ok (.invokestatic 52, 3) := by decide +kernel
theorem dX5_greatestYield_22 : decode cX5_greatestYield 22 = .ok (.istore_n 1, 1) := by decide +kernel
theorem dX5_greatestYield_23 : decode cX5_greatestYield 23 = .ok (.iinc 2 1, 3) := by decide +kernel
theorem dX5_greatestYield_26 : decode cX5_greatestYield 26 = .ok (.goto (-22), 3) := by decide +kernel
theorem dX5_greatestYield_29 : decode cX5_greatestYield 29 = .ok (.iload_n 1, 1) := by decide +kernel
theorem dX5_greatestYield_30 : decode cX5_greatestYield 30 = .ok (.ireturn, 1) := by decide +kernel
set_option maxRecDepth 20000 in
theorem ggX5_tryFrom_X5_keepTried : GoodIn wsX5_tryFrom wsX5_keepTried := goodIn_r _ [7, 8, 1, 9, 10, 24, 25, 26, 27, 28, 29, 30, 31] (by decide +kernel) (by decide +kernel)
set_option maxRecDepth 20000 in
theorem gX5_tryFrom_X5_keepTried : GoodIn wsX5_tryFrom (wsV RX5 58 RX5 yX5_keepTried wsX5_keepTried) := goodIn_app (goodIn_of _ (by decide +kernel)) ggX5_tryFrom_X5_keepTried
set_option maxRecDepth 20000 in
theorem ggX5_tryFrom_X5_tryYear : GoodIn wsX5_tryFrom wsX5_tryYear := goodIn_r _ [14, 15, 16, 17, 18, 19, 20, 8, 10, 21, 22, 23, 6, 0, 1, 2, 3, 4, 5, 7, 9, 11, 12, 13, 24, 25, 26, 27, 28, 29, 30, 31] (by decide +kernel) (by decide +kernel)
set_option maxRecDepth 20000 in
theorem gX5_tryFrom_X5_tryYear : GoodIn wsX5_tryFrom (wsV RX5 62 RX5 yX5_tryYear wsX5_tryYear) := goodIn_app (goodIn_of _ (by decide +kernel)) ggX5_tryFrom_X5_tryYear
theorem dX5_tryFrom_0 : decode cX5_tryFrom 0 = .ok (.iload_n 1, 1) := by decide +kernel
theorem dX5_tryFrom_1 : decode cX5_tryFrom 1 = .ok (.aload_n 0, 1) := by decide +kernel
theorem dX5_tryFrom_2 : decode cX5_tryFrom 2 = .ok (.getfield 27, 3) := by decide +kernel
theorem dX5_tryFrom_5 : decode cX5_tryFrom 5 = .ok (.if_icmp .ge 9, 3) := by decide +kernel
theorem dX5_tryFrom_8 : decode cX5_tryFrom 8 = .ok (.iload_n 1, 1) := by decide +kernel
theorem dX5_tryFrom_9 : decode cX5_tryFrom 9 = .ok (.bipush 6, 2) := by decide +kernel
theorem dX5_tryFrom_11 : decode cX5_tryFrom 11 = .ok (.if_icmp .lt 9, 3) := by decide +kernel
theorem dX5_tryFrom_14 : decode cX5_tryFrom 14 = .ok (.aload_n 0, 1) := by decide +kernel
theorem dX5_tryFrom_15 : decode cX5_tryFrom 15 = .ok (.iload_n 2, 1) := by decide +kernel
theorem dX5_tryFrom_16 : decode cX5_tryFrom 16 = .ok (.invokevirtual 58, 3) := by decide +kernel
theorem dX5_tryFrom_19 : decode cX5_tryFrom 19 = .ok (.return_, 1) := by decide +kernel
theorem dX5_tryFrom_20 : decode cX5_tryFrom 20 = .ok (.iconst 0, 1) := by decide +kernel
theorem dX5_tryFrom_21 : decode cX5_tryFrom 21 = .ok (.istore_n 3, 1) := by decide +kernel
theorem dX5_tryFrom_22 : decode cX5_tryFrom 22 = .ok (.iload_n 3, 1) := by decide +kernel
theorem dX5_tryFrom_23 : decode cX5_tryFrom 23 = .ok (.bipush 9, 2) := by decide +kernel
theorem dX5_tryFrom_25 : decode cX5_tryFrom 25 = .ok (.if_icmp .ge 30, 3) := by decide +kernel
theorem dX5_tryFrom_28 : decode cX5_tryFrom 28 = .ok (.aload_n 0, 1) := by decide +kernel
theorem dX5_tryFrom_29 : decode cX5_tryFrom 29 = .ok (.getfield 15, 3) := by decide +kernel
theorem dX5_tryFrom_32 : decode cX5_tryFrom 32 = .ok (.iload_n 1, 1) := by decide +kernel
theorem dX5_tryFrom_33 : decode cX5_tryFrom 33 = .ok (.iaload, 1) := by decide +kernel
theorem dX5_tryFrom_34 : decode cX5_tryFrom 34 = .ok (.iload_n 3, 1) := by decide +kernel
theorem dX5_tryFrom_35 : decode cX5_tryFrom 35 = .ok (.ishr, 1) := by decide +kernel
theorem dX5_tryFrom_36 : decode cX5_tryFrom 36 = .ok (.iconst 1, 1) := by decide +kernel
theorem dX5_tryFrom_37 : decode cX5_tryFrom 37 = .ok (.iand, 1) := by decide +kernel
theorem dX5_tryFrom_38 : decode cX5_tryFrom 38 = .ok (.iconst 1, 1) := by decide +kernel
theorem dX5_tryFrom_39 : decode cX5_tryFrom 39 = .ok (.if_icmp .ne 10, 3) := by decide +kernel
theorem dX5_tryFrom_42 : decode cX5_tryFrom 42 = .ok (.aload_n 0, 1) := by decide +kernel
theorem dX5_tryFrom_43 : decode cX5_tryFrom 43 = .ok (.iload_n 1, 1) := by decide +kernel
theorem dX5_tryFrom_44 : decode cX5_tryFrom 44 = .ok (.iload_n 3, 1) := by decide +kernel
theorem dX5_tryFrom_45 : decode cX5_tryFrom 45 = .ok (.iload_n 2, 1) := by decide +kernel
theorem dX5_tryFrom_46 : decode cX5_tryFrom 46 = .ok (.invokevirtual 62, 3) := by decide +kernel
theorem dX5_tryFrom_49 : decode cX5_tryFrom 49 = .ok (.iinc 3 1, 3) := by decide +kernel
theorem dX5_tryFrom_52 : decode cX5_tryFrom 52 = .ok (.goto (-30), 3) := by decide +kernel
theorem dX5_tryFrom_55 : decode cX5_tryFrom 55 = .ok (.return_, 1) := by decide +kernel
set_option maxRecDepth 20000 in
theorem ggX5_tryYear_X5_tryFrom : GoodIn wsX5_tryYear wsX5_tryFrom := goodIn_r _ [13, 14, 15, 16, 17, 18, 12, 19, 7, 20, 8, 21, 22, 23, 0, 1, 2, 3, 4, 5, 6, 9, 10, 11, 24, 25, 26, 27, 28, 29, 30, 31] (by decide +kernel) (by decide +kernel)
set_option maxRecDepth 20000 in
theorem gX5_tryYear_X5_tryFrom : GoodIn wsX5_tryYear (wsV RX5 48 RX5 yX5_tryFrom wsX5_tryFrom) := goodIn_app (goodIn_of _ (by decide +kernel)) ggX5_tryYear_X5_tryFrom
theorem dX5_tryYear_0 : decode cX5_tryYear 0 = .ok (.aload_n 0, 1) := by decide +kernel
theorem dX5_tryYear_1 : decode cX5_tryYear 1 = .ok (.getfield 18, 3) := by decide +kernel
theorem dX5_tryYear_4 : decode cX5_tryYear 4 = .ok (.iload_n 2, 1) := by decide +kernel
theorem dX5_tryYear_5 : decode cX5_tryYear 5 = .ok (.iaload, 1) := by decide +kernel
theorem dX5_tryYear_6 : decode cX5_tryYear 6 = .ok (.istore 4, 2) := by decide +kernel
theorem dX5_tryYear_8 : decode cX5_tryYear 8 = .ok (.iload_n 3, 1) := by decide +kernel
theorem dX5_tryYear_9 : decode cX5_tryYear 9 = .ok (.iload 4, 2) := by decide +kernel
theorem dX5_tryYear_11 : decode cX5_tryYear 11 = .ok (.aload_n 0, 1) := by decide +kernel
theorem dX5_tryYear_12 : decode cX5_tryYear 12 = .ok (.getfield 9, 3) := by decide +kernel
theorem dX5_tryYear_15 : decode cX5_tryYear 15 = .ok (.iload_n 1, 1) := by decide +kernel
theorem dX5_tryYear_16 : decode cX5_tryYear 16 = .ok (.iaload, 1) := by decide +kernel
theorem dX5_tryYear_17 : decode cX5_tryYear 17 = .ok (.iadd, 1) := by decide +kernel
theorem dX5_tryYear_18 : decode cX5_tryYear 18 = .ok (.invokestatic 52, 3) := by decide +kernel
theorem dX5_tryYear_21 : decode cX5_tryYear 21 = .ok (.istore 5, 2) := by decide +kernel
theorem dX5_tryYear_23 : decode cX5_tryYear 23 = .ok (.iload 5, 2) := by decide +kernel
theorem dX5_tryYear_25 : decode cX5_tryYear 25 = .ok (.aload_n 0, 1) := by decide +kernel
theorem dX5_tryYear_26 : decode cX5_tryYear 26 = .ok (.getfield 31, 3) := by decide +kernel
theorem dX5_tryYear_29 : decode cX5_tryYear 29 = .ok (.if_icmp .ge 42, 3) := by decide +kernel
theorem dX5_tryYear_32 : decode cX5_tryYear 32 = .ok (.aload_n 0, 1) := by decide +kernel
theorem dX5_tryYear_33 : decode cX5_tryYear 33 = .ok (.getfield 21, 3) := by decide +kernel
theorem dX5_tryYear_36 : decode cX5_tryYear 36 = .ok (.iload_n 1, 1) := by decide +kernel
theorem dX5_tryYear_37 : decode cX5_tryYear 37 = .ok (.iload_n 2, 1) := by decide +kernel
theorem dX5_tryYear_38 : decode cX5_tryYear 38 = .ok (.iastore, 1) := by decide +kernel
theorem dX5_tryYear_39 : decode cX5_tryYear 39 = .ok (.aload_n 0, 1) := by decide +kernel
theorem dX5_tryYear_40 : decode cX5_tryYear 40 = .ok (.getfield 18, 3) := by decide +kernel
theorem dX5_tryYear_43 : decode cX5_tryYear 43 = .ok (.iload_n 2, 1) := by decide +kernel
theorem dX5_tryYear_44 : decode cX5_tryYear 44 = .ok (.iload 4, 2) := by decide +kernel
theorem dX5_tryYear_46 : decode cX5_tryYear 46 = .ok (.aload_n 0, 1) := by decide +kernel
theorem dX5_tryYear_47 : decode cX5_tryYear 47 = .ok (.getfield 9, 3) := by decide +kernel
theorem dX5_tryYear_50 : decode cX5_tryYear 50 = .ok (.iload_n 1, 1) := by decide +kernel
theorem dX5_tryYear_51 : decode cX5_tryYear 51 = .ok (.iaload, 1) := by decide +kernel
theorem dX5_tryYear_52 : decode cX5_tryYear 52 = .ok (.iadd, 1) := by decide +kernel
theorem dX5_tryYear_53 : decode cX5_tryYear 53 = .ok (.iastore, 1) := by decide +kernel
theorem dX5_tryYear_54 : decode cX5_tryYear 54 = .ok (.aload_n 0, 1) := by decide +kernel
theorem dX5_tryYear_55 : decode cX5_tryYear 55 = .ok (.iload_n 1, 1) := by decide +kernel
theorem dX5_tryYear_56 : decode cX5_tryYear 56 = .ok (.iconst 1, 1) := by decide +kernel
theorem dX5_tryYear_57 : decode cX5_tryYear 57 = .ok (.iadd, 1) := by decide +kernel
theorem dX5_tryYear_58 : decode cX5_tryYear 58 = .ok (.iload 5, 2) := by decide +kernel
theorem dX5_tryYear_60 : decode cX5_tryYear 60 = .ok (.invokevirtual 48, 3) := by decide +kernel
theorem dX5_tryYear_63 : decode cX5_tryYear 63 = .ok (.aload_n 0, 1) := by decide +kernel
theorem dX5_tryYear_64 : decode cX5_tryYear 64 = .ok (.getfield 18, 3) := by decide +kernel
theorem dX5_tryYear_67 : decode cX5_tryYear 67 = .ok (.iload_n 2, 1) := by decide +kernel
theorem dX5_tryYear_68 : decode cX5_tryYear 68 = .ok (.iload 4, 2) := by decide +kernel
theorem dX5_tryYear_70 : decode cX5_tryYear 70 = .ok (.iastore, 1) := by decide +kernel
theorem dX5_tryYear_71 : decode cX5_tryYear 71 = .ok (.return_, 1) := by decide +kernel
theorem dX5_keepTried_0 : decode cX5_keepTried 0 = .ok (.aload_n 0, 1) := by decide +kernel
theorem dX5_keepTried_1 : decode cX5_keepTried 1 = .ok (.iload_n 1, 1) := by decide +kernel
theorem dX5_keepTried_2 : decode cX5_keepTried 2 = .ok (.putfield 31, 3) := by decide +kernel
theorem dX5_keepTried_5 : decode cX5_keepTried 5 = .ok (.iconst 0, 1) := by decide +kernel
theorem dX5_keepTried_6 : decode cX5_keepTried 6 = .ok (.istore_n 2, 1) := by decide +kernel
theorem dX5_keepTried_7 : decode cX5_keepTried 7 = .ok (.iload_n 2, 1) := by decide +kernel
theorem dX5_keepTried_8 : decode cX5_keepTried 8 = .ok (.aload_n 0, 1) := by decide +kernel
theorem dX5_keepTried_9 : decode cX5_keepTried 9 = .ok (.getfield 27, 3) := by decide +kernel
theorem dX5_keepTried_12 : decode cX5_keepTried 12 = .ok (.if_icmp .ge 21, 3) := by decide +kernel
theorem dX5_keepTried_15 : decode cX5_keepTried 15 = .ok (.aload_n 0, 1) := by decide +kernel
theorem dX5_keepTried_16 : decode cX5_keepTried 16 = .ok (.getfield 24, 3) := by decide +kernel
theorem dX5_keepTried_19 : decode cX5_keepTried 19 = .ok (.iload_n 2, 1) := by decide +kernel
theorem dX5_keepTried_20 : decode cX5_keepTried 20 = .ok (.aload_n 0, 1) := by decide +kernel
theorem dX5_keepTried_21 : decode cX5_keepTried 21 = .ok (.getfield 21, 3) := by decide +kernel
theorem dX5_keepTried_24 : decode cX5_keepTried 24 = .ok (.iload_n 2, 1) := by decide +kernel
theorem dX5_keepTried_25 : decode cX5_keepTried 25 = .ok (.iaload, 1) := by decide +kernel
theorem dX5_keepTried_26 : decode cX5_keepTried 26 = .ok (.iastore, 1) := by decide +kernel
theorem dX5_keepTried_27 : decode cX5_keepTried 27 = .ok (.iinc 2 1, 3) := by decide +kernel
theorem dX5_keepTried_30 : decode cX5_keepTried 30 = .ok (.goto (-23), 3) := by decide +kernel
theorem dX5_keepTried_33 : decode cX5_keepTried 33 = .ok (.return_, 1) := by decide +kernel
theorem dX6_init_0 : decode cX6_init 0 = .ok (.aload_n 0, 1) := by decide +kernel
theorem dX6_init_1 : decode cX6_init 1 = .ok (.invokespecial 3, 3) := by decide +kernel
theorem dX6_init_4 : decode cX6_init 4 = .ok (.aload_n 0, 1) := by decide +kernel
theorem dX6_init_5 : decode cX6_init 5 = .ok (.sipush 400, 3) := by decide +kernel
theorem dX6_init_8 : decode cX6_init 8 = .ok (.newarray .byte, 2) := by decide +kernel
theorem dX6_init_10 : decode cX6_init 10 = .ok (.putfield 9, 3) := by decide +kernel
theorem dX6_init_13 : decode cX6_init 13 = .ok (.aload_n 0, 1) := by decide +kernel
theorem dX6_init_14 : decode cX6_init 14 = .ok (.iconst 0, 1) := by decide +kernel
theorem dX6_init_15 : decode cX6_init 15 = .ok (.putfield 15, 3) := by decide +kernel
theorem dX6_init_18 : decode cX6_init 18 = .ok (.return_, 1) := by decide +kernel
theorem dX6_size_0 : decode cX6_size 0 = .ok (.aload_n 0, 1) := by decide +kernel
theorem dX6_size_1 : decode cX6_size 1 = .ok (.getfield 15, 3) := by decide +kernel
theorem dX6_size_4 : decode cX6_size 4 = .ok (.ireturn, 1) := by decide +kernel
theorem dX6_append_0 : decode cX6_append 0 = .ok (.bipush 24, 2) := by decide +kernel
theorem dX6_append_2 : decode cX6_append 2 = .ok (.istore_n 2, 1) := by decide +kernel
theorem dX6_append_3 : decode cX6_append 3 = .ok (.iload_n 2, 1) := by decide +kernel
theorem dX6_append_4 : decode cX6_append 4 = .ok (.ifCond .lt 44, 3) := by decide +kernel
theorem dX6_append_7 : decode cX6_append 7 = .ok (.aload_n 0, 1) := by decide +kernel
theorem dX6_append_8 : decode cX6_append 8 = .ok (.getfield 15, 3) := by decide +kernel
theorem dX6_append_11 : decode cX6_append 11 = .ok (.aload_n 0, 1) := by decide +kernel
theorem dX6_append_12 : decode cX6_append 12 = .ok (.getfield 9, 3) := by decide +kernel
theorem dX6_append_15 : decode cX6_append 15 = .ok (.arraylength, 1) := by decide +kernel
theorem dX6_append_16 : decode cX6_append 16 = .ok (.if_icmp .ge 26, 3) := by decide +kernel
theorem dX6_append_19 : decode cX6_append 19 = .ok (.aload_n 0, 1) := by decide +kernel
theorem dX6_append_20 : decode cX6_append 20 = .ok (.getfield 9, 3) := by decide +kernel
theorem dX6_append_23 : decode cX6_append 23 = .ok (.aload_n 0, 1) := by decide +kernel
theorem dX6_append_24 : decode cX6_append 24 = .ok (.getfield 15, 3) := by decide +kernel
theorem dX6_append_27 : decode cX6_append 27 = .ok (.iload_n 1, 1) := by decide +kernel
theorem dX6_append_28 : decode cX6_append 28 = .ok (.iload_n 2, 1) := by decide +kernel
theorem dX6_append_29 : decode cX6_append 29 = .ok (.iushr, 1) := by decide +kernel
theorem dX6_append_30 : decode cX6_append 30 = .ok (.i2b, 1) := by decide +kernel
theorem dX6_append_31 : decode cX6_append 31 = .ok (.bastore, 1) := by decide +kernel
theorem dX6_append_32 : decode cX6_append 32 = .ok (.aload_n 0, 1) := by decide +kernel
theorem dX6_append_33 : decode cX6_append 33 = .ok (.dup, 1) := by decide +kernel
theorem dX6_append_34 : decode cX6_append 34 = .ok (.getfield 15, 3) := by decide +kernel
theorem dX6_append_37 : decode cX6_append 37 = .ok (.iconst 1, 1) := by decide +kernel
theorem dX6_append_38 : decode cX6_append 38 = .ok (.iadd, 1) := by decide +kernel
theorem dX6_append_39 : decode cX6_append 39 = .ok (.putfield 15, 3) := by decide +kernel
theorem dX6_append_42 : decode cX6_append 42 = .ok (.iinc 2 (-8), 3) := by decide +kernel
theorem dX6_append_45 : decode cX6_append 45 = .ok (.goto (-42), 3) := by decide +kernel
theorem dX6_append_48 : decode cX6_append 48 = .ok (.return_, 1) := by decide +kernel
theorem dX6_cutTo_0 : decode cX6_cutTo 0 = .ok (.iload_n 1, 1) := by decide +kernel
theorem dX6_cutTo_1 : decode cX6_cutTo 1 = .ok (.ifCond .lt 11, 3) := by decide +kernel
theorem dX6_cutTo_4 : decode cX6_cutTo 4 = .ok (.iload_n 1, 1) := by decide +kernel
theorem dX6_cutTo_5 : decode cX6_cutTo 5 = .ok (.aload_n 0, 1) := by decide +kernel
theorem dX6_cutTo_6 : decode cX6_cutTo 6 = .ok (.getfield 15, 3) := by decide +kernel
theorem dX6_cutTo_9 : decode cX6_cutTo 9 = .ok (.if_icmp .le 5, 3) := by decide +kernel
theorem dX6_cutTo_12 : decode cX6_cutTo 12 = .ok (.iconst 0, 1) := by decide +kernel
theorem dX6_cutTo_13 : decode cX6_cutTo 13 = .ok (.ireturn, 1) := by decide +kernel
theorem dX6_cutTo_14 : decode cX6_cutTo 14 = .ok (.aload_n 0, 1) := by decide +kernel
theorem dX6_cutTo_15 : decode cX6_cutTo 15 = .ok (.iload_n 1, 1) := by decide +kernel
theorem dX6_cutTo_16 : decode cX6_cutTo 16 = .ok (.putfield 15, 3) := by decide +kernel
theorem dX6_cutTo_19 : decode cX6_cutTo 19 = .ok (.iconst 1, 1) := by decide +kernel
theorem dX6_cutTo_20 : decode cX6_cutTo 20 = .ok (.ireturn, 1) := by decide +kernel
theorem dX6_at_0 : decode cX6_at 0 = .ok (.iload_n 1, 1) := by decide +kernel
theorem dX6_at_1 : decode cX6_at 1 = .ok (.ifCond .lt 24, 3) := by decide +kernel
theorem dX6_at_4 : decode cX6_at 4 = .ok (.iload_n 1, 1) := by decide +kernel
theorem dX6_at_5 : decode cX6_at 5 = .ok (.aload_n 0, 1) := by decide +kernel
theorem dX6_at_6 : decode cX6_at 6 = .ok (.getfield 15, 3) := by decide +kernel
theorem dX6_at_9 : decode cX6_at 9 = .ok (.if_icmp .ge 16, 3) := by decide +kernel
theorem dX6_at_12 : decode cX6_at 12 = .ok (.aload_n 0, 1) := by decide +kernel
theorem dX6_at_13 : decode cX6_at 13 = .ok (.getfield 9, 3) := by decide +kernel
theorem dX6_at_16 : decode cX6_at 16 = .ok (.iload_n 1, 1) := by decide +kernel
theorem dX6_at_17 : decode cX6_at 17 = .ok (.baload, 1) := by decide +kernel
theorem dX6_at_18 : decode cX6_at 18 = .ok (.sipush 255, 3) := by decide +kernel
theorem dX6_at_21 : decode cX6_at 21 = .ok (.iand, 1) := by decide +kernel
theorem dX6_at_22 : decode cX6_at 22 = .ok (.goto 4, 3) := by decide +kernel
theorem dX6_at_25 : decode cX6_at 25 = .ok (.iconst (-1), 1) := by decide +kernel
theorem dX6_at_26 : decode cX6_at 26 = .ok (.ireturn, 1) := by decide +kernel
theorem dX7_init_0 : decode cX7_init 0 = .ok (.aload_n 0, 1) := by decide +kernel
theorem dX7_init_1 : decode cX7_init 1 = .ok (.invokespecial 3, 3) := by decide +kernel
theorem dX7_init_4 : decode cX7_init 4 = .ok (.aload_n 0, 1) := by decide +kernel
theorem dX7_init_5 : decode cX7_init 5 = .ok (.iconst 0, 1) := by decide +kernel
theorem dX7_init_6 : decode cX7_init 6 = .ok (.putfield 9, 3) := by decide +kernel
theorem dX7_init_9 : decode cX7_init 9 = .ok (.aload_n 0, 1) := by decide +kernel
theorem dX7_init_10 : decode cX7_init 10 = .ok (.iconst (-1), 1) := by decide +kernel
theorem dX7_init_11 : decode cX7_init 11 = .ok (.putfield 15, 3) := by decide +kernel
theorem dX7_init_14 : decode cX7_init 14 = .ok (.aload_n 0, 1) := by decide +kernel
theorem dX7_init_15 : decode cX7_init 15 = .ok (.iconst 0, 1) := by decide +kernel
theorem dX7_init_16 : decode cX7_init 16 = .ok (.putfield 18, 3) := by decide +kernel
theorem dX7_init_19 : decode cX7_init 19 = .ok (.aload_n 0, 1) := by decide +kernel
theorem dX7_init_20 : decode cX7_init 20 = .ok (.iconst (-1), 1) := by decide +kernel
theorem dX7_init_21 : decode cX7_init 21 = .ok (.putfield 21, 3) := by decide +kernel
theorem dX7_init_24 : decode cX7_init 24 = .ok (.aload_n 0, 1) := by decide +kernel
theorem dX7_init_25 : decode cX7_init 25 = .ok (.iconst 0, 1) := by decide +kernel
theorem dX7_init_26 : decode cX7_init 26 = .ok (.putfield 24, 3) := by decide +kernel
theorem dX7_init_29 : decode cX7_init 29 = .ok (.aload_n 0, 1) := by decide +kernel
theorem dX7_init_30 : decode cX7_init 30 = .ok (.iconst 0, 1) := by decide +kernel
theorem dX7_init_31 : decode cX7_init 31 = .ok (.putfield 28, 3) := by decide +kernel
theorem dX7_init_34 : decode cX7_init 34 = .ok (.aload_n 0, 1) := by decide +kernel
theorem dX7_init_35 : decode cX7_init 35 = .ok (.iconst 0, 1) := by decide +kernel
theorem dX7_init_36 : decode cX7_init 36 = .ok (.putfield 31, 3) := by decide +kernel
theorem dX7_init_39 : decode cX7_init 39 = .ok (.aload_n 0, 1) := by decide +kernel
theorem dX7_init_40 : decode cX7_init 40 = .ok (.iconst 0, 1) := by decide +kernel
theorem dX7_init_41 : decode cX7_init 41 = .ok (.putfield 34, 3) := by decide +kernel
theorem dX7_init_44 : decode cX7_init 44 = .ok (.aload_n 0, 1) := by decide +kernel
theorem dX7_init_45 : decode cX7_init 45 = .ok (.iconst 0, 1) := by decide +kernel
theorem dX7_init_46 : decode cX7_init 46 = .ok (.putfield 37, 3) := by decide +kernel
theorem dX7_init_49 : decode cX7_init 49 = .ok (.aload_n 0, 1) := by decide +kernel
theorem dX7_init_50 : decode cX7_init 50 = .ok (.iload_n 1, 1) := by decide +kernel
theorem dX7_init_51 : decode cX7_init 51 = .ok (.putfield 40, 3) := by decide +kernel
theorem dX7_init_54 : decode cX7_init 54 = .ok (.return_, 1) := by decide +kernel
theorem dX7_wasStripped_0 : decode cX7_wasStripped 0 = .ok (.aload_n 0, 1) := by decide +kernel
theorem dX7_wasStripped_1 : decode cX7_wasStripped 1 = .ok (.getfield 15, 3) := by decide +kernel
theorem dX7_wasStripped_4 : decode cX7_wasStripped 4 = .ok (.iconst (-1), 1) := by decide +kernel
theorem dX7_wasStripped_5 : decode cX7_wasStripped 5 = .ok (.if_icmp .eq 7, 3) := by decide +kernel
theorem dX7_wasStripped_8 : decode cX7_wasStripped 8 = .ok (.iconst 1, 1) := by decide +kernel
theorem dX7_wasStripped_9 : decode cX7_wasStripped 9 = .ok (.goto 4, 3) := by decide +kernel
theorem dX7_wasStripped_12 : decode cX7_wasStripped 12 = .ok (.iconst 0, 1) := by decide +kernel
theorem dX7_wasStripped_13 : decode cX7_wasStripped 13 = .ok (.ireturn, 1) := by decide +kernel
set_option maxRecDepth 20000 in
theorem ggX7_grow_X7_wasStripped : GoodIn wsX7_grow wsX7_wasStripped := goodIn_r _ [17, 6, 18, 19, 20, 21, 22, 23, 24, 25, 26, 27] (by decide +kernel) (by decide +kernel)
set_option maxRecDepth 20000 in
theorem gX7_grow_X7_wasStripped : GoodIn wsX7_grow (wsV RX7 49 RX7 yX7_wasStripped wsX7_wasStripped) := goodIn_app (goodIn_of _ (by decide +kernel)) ggX7_grow_X7_wasStripped
theorem dX7_grow_0 : decode cX7_grow 0 = .ok (.aload_n 0, 1) := by decide +kernel
theorem dX7_grow_1 : decode cX7_grow 1 = .ok (.sipush 600, 3) := by decide +kernel
theorem dX7_grow_4 : decode cX7_grow 4 = .ok (.aload_n 0, 1) := by decide +kernel
theorem dX7_grow_5 : decode cX7_grow 5 = .ok (.getfield 40, 3) := by decide +kernel
theorem dX7_grow_8 : decode cX7_grow 8 = .ok (.iconst 1, 1) := by decide +kernel
theorem dX7_grow_9 : decode cX7_grow 9 = .ok (.iadd, 1) := by decide +kernel
theorem dX7_grow_10 : decode cX7_grow 10 = .ok (.iload_n 2, 1) := by decide +kernel
theorem dX7_grow_11 : decode cX7_grow 11 = .ok (.bipush 100, 2) := by decide +kernel
theorem dX7_grow_13 : decode cX7_grow 13 = .ok (.idiv, 1) := by decide +kernel
theorem dX7_grow_14 : decode cX7_grow 14 = .ok (.iadd, 1) := by decide +kernel
theorem dX7_grow_15 : decode cX7_grow 15 = .ok (.invokestatic 43, 3) := by decide +kernel
theorem dX7_grow_18 : decode cX7_grow 18 = .ok (.putfield 40, 3) := by decide +kernel
theorem dX7_grow_21 : decode cX7_grow 21 = .ok (.aload_n 0, 1) := by decide +kernel
theorem dX7_grow_22 : decode cX7_grow 22 = .ok (.invokevirtual 49, 3) := by decide +kernel
theorem dX7_grow_25 : decode cX7_grow 25 = .ok (.ifCond .eq 12, 3) := by decide +kernel
theorem dX7_grow_28 : decode cX7_grow 28 = .ok (.iload_n 1, 1) := by decide +kernel
theorem dX7_grow_29 : decode cX7_grow 29 = .ok (.aload_n 0, 1) := by decide +kernel
theorem dX7_grow_30 : decode cX7_grow 30 = .ok (.getfield 15, 3) := by decide +kernel
theorem dX7_grow_33 : decode cX7_grow 33 = .ok (.isub, 1) := by decide +kernel
theorem dX7_grow_34 : decode cX7_grow 34 = .ok (.goto 5, 3) := by decide +kernel
theorem dX7_grow_37 : decode cX7_grow 37 = .ok (.bipush 20, 2) := by decide +kernel
theorem dX7_grow_39 : decode cX7_grow 39 = .ok (.istore_n 3, 1) := by decide +kernel
theorem dX7_grow_40 : decode cX7_grow 40 = .ok (.bipush 10, 2) := by decide +kernel
theorem dX7_grow_42 : decode cX7_grow 42 = .ok (.bipush 40, 2) := by decide +kernel
theorem dX7_grow_44 : decode cX7_grow 44 = .ok (.iconst 2, 1) := by decide +kernel
theorem dX7_grow_45 : decode cX7_grow 45 = .ok (.iload_n 3, 1) := by decide +kernel
theorem dX7_grow_46 : decode cX7_grow 46 = .ok (.imul, 1) := by decide +kernel
theorem dX7_grow_47 : decode cX7_grow 47 = .ok (.isub, 1) := by decide +kernel
theorem dX7_grow_48 : decode cX7_grow 48 = .ok (.invokestatic 53, 3) := by decide +kernel
theorem dX7_grow_51 : decode cX7_grow 51 = .ok (.bipush 50, 2) := by decide +kernel
theorem dX7_grow_53 : decode cX7_grow 53 = .ok (.iload_n 2, 1) := by decide +kernel
theorem dX7_grow_54 : decode cX7_grow 54 = .ok (.iadd, 1) := by decide +kernel
theorem dX7_grow_55 : decode cX7_grow 55 = .ok (.imul, 1) := by decide +kernel
theorem dX7_grow_56 : decode cX7_grow 56 = .ok (.bipush 100, 2) := by decide +kernel
theorem dX7_grow_58 : decode cX7_grow 58 = .ok (.idiv, 1) := by decide +kernel
theorem dX7_grow_59 : decode cX7_grow 59 = .ok (.istore 4, 2) := by decide +kernel
theorem dX7_grow_61 : decode cX7_grow 61 = .ok (.aload_n 0, 1) := by decide +kernel
theorem dX7_grow_62 : decode cX7_grow 62 = .ok (.dup, 1) := by decide +kernel
theorem dX7_grow_63 : decode cX7_grow 63 = .ok (.getfield 28, 3) := by decide +kernel
theorem dX7_grow_66 : decode cX7_grow 66 = .ok (.iload 4, 2) := by decide +kernel
theorem dX7_grow_68 : decode cX7_grow 68 = .ok (.iadd, 1) := by decide +kernel
theorem dX7_grow_69 : decode cX7_grow 69 = .ok (.putfield 28, 3) := by decide +kernel
theorem dX7_grow_72 : decode cX7_grow 72 = .ok (.aload_n 0, 1) := by decide +kernel
theorem dX7_grow_73 : decode cX7_grow 73 = .ok (.dup, 1) := by decide +kernel
theorem dX7_grow_74 : decode cX7_grow 74 = .ok (.getfield 9, 3) := by decide +kernel
theorem dX7_grow_77 : decode cX7_grow 77 = .ok (.iload 4, 2) := by decide +kernel
theorem dX7_grow_79 : decode cX7_grow 79 = .ok (.iadd, 1) := by decide +kernel
theorem dX7_grow_80 : decode cX7_grow 80 = .ok (.putfield 9, 3) := by decide +kernel
theorem dX7_grow_83 : decode cX7_grow 83 = .ok (.aload_n 0, 1) := by decide +kernel
theorem dX7_grow_84 : decode cX7_grow 84 = .ok (.getfield 9, 3) := by decide +kernel
theorem dX7_grow_87 : decode cX7_grow 87 = .ok (.sipush 3000, 3) := by decide +kernel
theorem dX7_grow_90 : decode cX7_grow 90 = .ok (.if_icmp .le 27, 3) := by decide +kernel
theorem dX7_grow_93 : decode cX7_grow 93 = .ok (.aload_n 0, 1) := by decide +kernel
theorem dX7_grow_94 : decode cX7_grow 94 = .ok (.dup, 1) := by decide +kernel
theorem dX7_grow_95 : decode cX7_grow 95 = .ok (.getfield 37, 3) := by decide +kernel
theorem dX7_grow_98 : decode cX7_grow 98 = .ok (.aload_n 0, 1) := by decide +kernel
theorem dX7_grow_99 : decode cX7_grow 99 = .ok (.getfield 9, 3) := by decide +kernel
theorem dX7_grow_102 : decode cX7_grow 102 = .ok (.sipush 3000, 3) := by decide +kernel
theorem dX7_grow_105 : decode cX7_grow 105 = .ok (.isub, 1) := by decide +kernel
theorem dX7_grow_106 : decode cX7_grow 106 = .ok (.iadd, 1) := by decide +kernel
theorem dX7_grow_107 : decode cX7_grow 107 = .ok (.putfield 37, 3) := by decide +kernel
theorem dX7_grow_110 : decode cX7_grow 110 = .ok (.aload_n 0, 1) := by decide +kernel
theorem dX7_grow_111 : decode cX7_grow 111 = .ok (.sipush 3000, 3) := by decide +kernel
theorem dX7_grow_114 : decode cX7_grow 114 = .ok (.putfield 9, 3) := by decide +kernel
theorem dX7_grow_117 : decode cX7_grow 117 = .ok (.return_, 1) := by decide +kernel
set_option maxRecDepth 20000 in
theorem ggX7_loseBarkToPlank_X7_bare : GoodIn wsX7_loseBarkToPlank wsX7_bare := goodIn_r _ [7, 2, 8, 9, 10, 11, 12, 13, 14, 15, 16, 17, 18, 19, 20] (by decide +kernel) (by decide +kernel)
set_option maxRecDepth 20000 in
theorem gX7_loseBarkToPlank_X7_bare : GoodIn wsX7_loseBarkToPlank (wsV RX7 56 RX7 yX7_bare wsX7_bare) := goodIn_app (goodIn_of _ (by decide +kernel)) ggX7_loseBarkToPlank_X7_bare
theorem dX7_loseBarkToPlank_0 : decode cX7_loseBarkToPlank 0 = .ok (.aload_n 0, 1) := by decide +kernel
theorem dX7_loseBarkToPlank_1 : decode cX7_loseBarkToPlank 1 = .ok (.dup, 1) := by decide +kernel
theorem dX7_loseBarkToPlank_2 : decode cX7_loseBarkToPlank 2 = .ok (.getfield 31, 3) := by decide +kernel
theorem dX7_loseBarkToPlank_5 : decode cX7_loseBarkToPlank 5 = .ok (.aload_n 0, 1) := by decide +kernel
theorem dX7_loseBarkToPlank_6 : decode cX7_loseBarkToPlank 6 = .ok (.getfield 9, 3) := by decide +kernel
theorem dX7_loseBarkToPlank_9 : decode cX7_loseBarkToPlank 9 = .ok (.iadd, 1) := by decide +kernel
theorem dX7_loseBarkToPlank_10 : decode cX7_loseBarkToPlank 10 = .ok (.putfield 31, 3) := by decide +kernel
theorem dX7_loseBarkToPlank_13 : decode cX7_loseBarkToPlank 13 = .ok (.aload_n 0, 1) := by decide +kernel
theorem dX7_loseBarkToPlank_14 : decode cX7_loseBarkToPlank 14 = .ok (.iload_n 1, 1) := by decide +kernel
theorem dX7_loseBarkToPlank_15 : decode cX7_loseBarkToPlank 15 = .ok (.iload_n 2, 1) := by decide +kernel
theorem dX7_loseBarkToPlank_16 : decode cX7_loseBarkToPlank 16 = .ok (.invokevirtual 56, 3) := by decide +kernel
theorem dX7_loseBarkToPlank_19 : decode cX7_loseBarkToPlank 19 = .ok (.return_, 1) := by decide +kernel
set_option maxRecDepth 20000 in
theorem ggX7_loseBarkToFire_X7_bare : GoodIn wsX7_loseBarkToFire wsX7_bare := goodIn_r _ [7, 1, 8, 9, 10, 11, 12, 13, 14, 15, 16, 17, 18, 19, 20] (by decide +kernel) (by decide +kernel)
set_option maxRecDepth 20000 in
theorem gX7_loseBarkToFire_X7_bare : GoodIn wsX7_loseBarkToFire (wsV RX7 56 RX7 yX7_bare wsX7_bare) := goodIn_app (goodIn_of _ (by decide +kernel)) ggX7_loseBarkToFire_X7_bare
theorem dX7_loseBarkToFire_0 : decode cX7_loseBarkToFire 0 = .ok (.aload_n 0, 1) := by decide +kernel
theorem dX7_loseBarkToFire_1 : decode cX7_loseBarkToFire 1 = .ok (.getfield 9, 3) := by decide +kernel
theorem dX7_loseBarkToFire_4 : decode cX7_loseBarkToFire 4 = .ok (.istore_n 2, 1) := by decide +kernel
theorem dX7_loseBarkToFire_5 : decode cX7_loseBarkToFire 5 = .ok (.aload_n 0, 1) := by decide +kernel
theorem dX7_loseBarkToFire_6 : decode cX7_loseBarkToFire 6 = .ok (.dup, 1) := by decide +kernel
theorem dX7_loseBarkToFire_7 : decode cX7_loseBarkToFire 7 = .ok (.getfield 34, 3) := by decide +kernel
theorem dX7_loseBarkToFire_10 : decode cX7_loseBarkToFire 10 = .ok (.iload_n 2, 1) := by decide +kernel
theorem dX7_loseBarkToFire_11 : decode cX7_loseBarkToFire 11 = .ok (.iadd, 1) := by decide +kernel
theorem dX7_loseBarkToFire_12 : decode cX7_loseBarkToFire 12 = .ok (.putfield 34, 3) := by decide +kernel
theorem dX7_loseBarkToFire_15 : decode cX7_loseBarkToFire 15 = .ok (.aload_n 0, 1) := by decide +kernel
theorem dX7_loseBarkToFire_16 : decode cX7_loseBarkToFire 16 = .ok (.iload_n 1, 1) := by decide +kernel
theorem dX7_loseBarkToFire_17 : decode cX7_loseBarkToFire 17 = .ok (.iconst 0, 1) := by decide +kernel
theorem dX7_loseBarkToFire_18 : decode cX7_loseBarkToFire 18 = .ok (.invokevirtual 56, 3) := by decide +kernel
theorem dX7_loseBarkToFire_21 : decode cX7_loseBarkToFire 21 = .ok (.iload_n 2, 1) := by decide +kernel
theorem dX7_loseBarkToFire_22 : decode cX7_loseBarkToFire 22 = .ok (.ireturn, 1) := by decide +kernel
theorem dX7_bare_0 : decode cX7_bare 0 = .ok (.aload_n 0, 1) := by decide +kernel
theorem dX7_bare_1 : decode cX7_bare 1 = .ok (.iconst 0, 1) := by decide +kernel
theorem dX7_bare_2 : decode cX7_bare 2 = .ok (.putfield 9, 3) := by decide +kernel
theorem dX7_bare_5 : decode cX7_bare 5 = .ok (.aload_n 0, 1) := by decide +kernel
theorem dX7_bare_6 : decode cX7_bare 6 = .ok (.iload_n 1, 1) := by decide +kernel
theorem dX7_bare_7 : decode cX7_bare 7 = .ok (.putfield 15, 3) := by decide +kernel
theorem dX7_bare_10 : decode cX7_bare 10 = .ok (.aload_n 0, 1) := by decide +kernel
theorem dX7_bare_11 : decode cX7_bare 11 = .ok (.iload_n 2, 1) := by decide +kernel
theorem dX7_bare_12 : decode cX7_bare 12 = .ok (.putfield 18, 3) := by decide +kernel
theorem dX7_bare_15 : decode cX7_bare 15 = .ok (.aload_n 0, 1) := by decide +kernel
theorem dX7_bare_16 : decode cX7_bare 16 = .ok (.iconst 0, 1) := by decide +kernel
theorem dX7_bare_17 : decode cX7_bare 17 = .ok (.putfield 24, 3) := by decide +kernel
theorem dX7_bare_20 : decode cX7_bare 20 = .ok (.return_, 1) := by decide +kernel
set_option maxRecDepth 20000 in
theorem ggX8_init_X6_init : GoodIn wsX8_init wsX6_init := goodIn_r _ [33, 34, 2, 3, 35, 36, 37, 94, 95] (by decide +kernel) (by decide +kernel)
set_option maxRecDepth 20000 in
theorem gX8_init_X6_init_n9 : GoodIn wsX8_init (wsX6_init) := ggX8_init_X6_init
set_option maxRecDepth 20000 in
theorem ggX8_init_X1_init : GoodIn wsX8_init wsX1_init := goodIn_r _ [39, 40, 2, 3, 41, 42, 43, 44, 45, 46, 47, 106] (by decide +kernel) (by decide +kernel)
set_option maxRecDepth 20000 in
theorem gX8_init_X1_init_n18 : GoodIn wsX8_init (wsX1_init) := ggX8_init_X1_init
set_option maxRecDepth 20000 in
theorem ggX8_init_X2_init : GoodIn wsX8_init wsX2_init := goodIn_r _ [50, 51, 2, 3, 52, 53, 54, 55, 56, 107, 108, 109, 110] (by decide +kernel) (by decide +kernel)
set_option maxRecDepth 20000 in
theorem gX8_init_X2_init : GoodIn wsX8_init (wsX2_init) := ggX8_init_X2_init
set_option maxRecDepth 20000 in
theorem ggX8_init_Jx4a65c_init_da8c8 : GoodIn wsX8_init wsJx4a65c_init_da8c8 := goodIn_r _ [59, 60, 61, 62, 63, 64, 65, 66, 67, 68, 69, 70, 71, 2, 3, 111, 112, 113] (by decide +kernel) (by decide +kernel)
set_option maxRecDepth 20000 in
theorem gX8_init_Jx4a65c_init_da8c8 : GoodIn wsX8_init (wsJx4a65c_init_da8c8) := ggX8_init_Jx4a65c_init_da8c8
set_option maxRecDepth 20000 in
theorem ggX8_init_X0_init : GoodIn wsX8_init wsX0_init := goodIn_r _ [73, 74, 2, 3, 52, 75, 76, 77, 78, 79, 80, 81, 82, 114, 115, 116, 117, 118, 119, 120, 121] (by decide +kernel) (by decide +kernel)
set_option maxRecDepth 20000 in
theorem gX8_init_X0_init_n47 : GoodIn wsX8_init (wsX0_init) := ggX8_init_X0_init
set_option maxRecDepth 20000 in
theorem ggX8_init_X5_init : GoodIn wsX8_init wsX5_init := goodIn_r _ [84, 85, 2, 3, 52, 86, 87, 88, 89, 90, 91, 92, 93, 122, 123, 124, 125, 126, 127, 128, 129] (by decide +kernel) (by decide +kernel)
set_option maxRecDepth 20000 in
theorem gX8_init_X5_init_n54 : GoodIn wsX8_init (wsX5_init) := ggX8_init_X5_init
theorem dX8_init_0 : decode cX8_init 0 = .ok (.aload_n 0, 1) := by decide +kernel
theorem dX8_init_1 : decode cX8_init 1 = .ok (.invokespecial 1, 3) := by decide +kernel
theorem dX8_init_4 : decode cX8_init 4 = .ok (.aload_n 0, 1) := by decide +kernel
theorem dX8_init_5 : decode cX8_init 5 = .ok (.new 7, 3) := by decide +kernel
theorem dX8_init_8 : decode cX8_init 8 = .ok (.dup, 1) := by decide +kernel
theorem dX8_init_9 : decode cX8_init 9 = .ok (.invokespecial 9, 3) := by decide +kernel
theorem dX8_init_12 : decode cX8_init 12 = .ok (.putfield 10, 3) := by decide +kernel
theorem dX8_init_15 : decode cX8_init 15 = .ok (.aload_n 0, 1) := by decide +kernel
theorem dX8_init_16 : decode cX8_init 16 = .ok (.new 16, 3) := by decide +kernel
theorem dX8_init_19 : decode cX8_init 19 = .ok (.dup, 1) := by decide +kernel
theorem dX8_init_20 : decode cX8_init 20 = .ok (.invokespecial 18, 3) := by decide +kernel
theorem dX8_init_23 : decode cX8_init 23 = .ok (.putfield 19, 3) := by decide +kernel
theorem dX8_init_26 : decode cX8_init 26 = .ok (.aload_n 0, 1) := by decide +kernel
theorem dX8_init_27 : decode cX8_init 27 = .ok (.new 23, 3) := by decide +kernel
theorem dX8_init_30 : decode cX8_init 30 = .ok (.dup, 1) := by decide +kernel
theorem dX8_init_31 : decode cX8_init 31 = .ok (.aload_n 0, 1) := by decide +kernel
theorem dX8_init_32 : decode cX8_init 32 = .ok (.getfield 10, 3) := by decide +kernel
theorem dX8_init_35 : decode cX8_init 35 = .ok (.aload_n 0, 1) := by decide +kernel
theorem dX8_init_36 : decode cX8_init 36 = .ok (.getfield 19, 3) := by decide +kernel
theorem dX8_init_39 : decode cX8_init 39 = .ok (.invokespecial 25, 3) := by decide +kernel
theorem dX8_init_42 : decode cX8_init 42 = .ok (.putfield 28, 3) := by decide +kernel
theorem dX8_init_45 : decode cX8_init 45 = .ok (.aload_n 0, 1) := by decide +kernel
theorem dX8_init_46 : decode cX8_init 46 = .ok (.new 32, 3) := by decide +kernel
theorem dX8_init_49 : decode cX8_init 49 = .ok (.dup, 1) := by decide +kernel
theorem dX8_init_50 : decode cX8_init 50 = .ok (.invokespecial 34, 3) := by decide +kernel
theorem dX8_init_53 : decode cX8_init 53 = .ok (.putfield 35, 3) := by decide +kernel
theorem dX8_init_56 : decode cX8_init 56 = .ok (.aload_n 0, 1) := by decide +kernel
theorem dX8_init_57 : decode cX8_init 57 = .ok (.new 32, 3) := by decide +kernel
theorem dX8_init_60 : decode cX8_init 60 = .ok (.dup, 1) := by decide +kernel
theorem dX8_init_61 : decode cX8_init 61 = .ok (.invokespecial 34, 3) := by decide +kernel
theorem dX8_init_64 : decode cX8_init 64 = .ok (.putfield 39, 3) := by decide +kernel
theorem dX8_init_67 : decode cX8_init 67 = .ok (.aload_n 0, 1) := by decide +kernel
theorem dX8_init_68 : decode cX8_init 68 = .ok (.new 32, 3) := by decide +kernel
theorem dX8_init_71 : decode cX8_init 71 = .ok (.dup, 1) := by decide +kernel
theorem dX8_init_72 : decode cX8_init 72 = .ok (.invokespecial 34, 3) := by decide +kernel
theorem dX8_init_75 : decode cX8_init 75 = .ok (.putfield 42, 3) := by decide +kernel
theorem dX8_init_78 : decode cX8_init 78 = .ok (.aload_n 0, 1) := by decide +kernel
theorem dX8_init_79 : decode cX8_init 79 = .ok (.new 45, 3) := by decide +kernel
theorem dX8_init_82 : decode cX8_init 82 = .ok (.dup, 1) := by decide +kernel
theorem dX8_init_83 : decode cX8_init 83 = .ok (.invokespecial 47, 3) := by decide +kernel
theorem dX8_init_86 : decode cX8_init 86 = .ok (.putfield 48, 3) := by decide +kernel
theorem dX8_init_89 : decode cX8_init 89 = .ok (.aload_n 0, 1) := by decide +kernel
theorem dX8_init_90 : decode cX8_init 90 = .ok (.new 52, 3) := by decide +kernel
theorem dX8_init_93 : decode cX8_init 93 = .ok (.dup, 1) := by decide +kernel
theorem dX8_init_94 : decode cX8_init 94 = .ok (.invokespecial 54, 3) := by decide +kernel
theorem dX8_init_97 : decode cX8_init 97 = .ok (.putfield 55, 3) := by decide +kernel
theorem dX8_init_100 : decode cX8_init 100 = .ok (.aload_n 0, 1) := by decide +kernel
theorem dX8_init_101 : decode cX8_init 101 = .ok (.iconst 0, 1) := by decide +kernel
theorem dX8_init_102 : decode cX8_init 102 = .ok (.putfield 59, 3) := by decide +kernel
theorem dX8_init_105 : decode cX8_init 105 = .ok (.aload_n 0, 1) := by decide +kernel
theorem dX8_init_106 : decode cX8_init 106 = .ok (.iconst (-1), 1) := by decide +kernel
theorem dX8_init_107 : decode cX8_init 107 = .ok (.putfield 63, 3) := by decide +kernel
theorem dX8_init_110 : decode cX8_init 110 = .ok (.return_, 1) := by decide +kernel
set_option maxRecDepth 20000 in
theorem ggX8_feed_X6_size : GoodIn wsX8_feed wsX6_size := goodIn_r _ [6, 7, 23, 24] (by decide +kernel) (by decide +kernel)
set_option maxRecDepth 20000 in
theorem gX8_feed_X6_size : GoodIn wsX8_feed (wsV RX8 66 RX6 yX6_size wsX6_size) := goodIn_app (goodIn_of _ (by decide +kernel)) ggX8_feed_X6_size
set_option maxRecDepth 20000 in
theorem ggX8_feed_X6_append : GoodIn wsX8_feed wsX6_append := goodIn_r _ [11, 7, 12, 23, 24] (by decide +kernel) (by decide +kernel)
set_option maxRecDepth 20000 in
theorem gX8_feed_X6_append : GoodIn wsX8_feed (wsV RX8 70 RX6 yX6_append wsX6_append) := goodIn_app (goodIn_of _ (by decide +kernel)) ggX8_feed_X6_append
theorem dX8_feed_0 : decode cX8_feed 0 = .ok (.aload_n 0, 1) := by decide +kernel
theorem dX8_feed_1 : decode cX8_feed 1 = .ok (.getfield 10, 3) := by decide +kernel
theorem dX8_feed_4 : decode cX8_feed 4 = .ok (.invokevirtual 66, 3) := by decide +kernel
theorem dX8_feed_7 : decode cX8_feed 7 = .ok (.bipush 20, 2) := by decide +kernel
theorem dX8_feed_9 : decode cX8_feed 9 = .ok (.iadd, 1) := by decide +kernel
theorem dX8_feed_10 : decode cX8_feed 10 = .ok (.sipush 400, 3) := by decide +kernel
theorem dX8_feed_13 : decode cX8_feed 13 = .ok (.if_icmp .le 5, 3) := by decide +kernel
theorem dX8_feed_16 : decode cX8_feed 16 = .ok (.iconst (-1), 1) := by decide +kernel
theorem dX8_feed_17 : decode cX8_feed 17 = .ok (.ireturn, 1) := by decide +kernel
theorem dX8_feed_18 : decode cX8_feed 18 = .ok (.aload_n 0, 1) := by decide +kernel
theorem dX8_feed_19 : decode cX8_feed 19 = .ok (.getfield 10, 3) := by decide +kernel
theorem dX8_feed_22 : decode cX8_feed 22 = .ok (.iload_n 1, 1) := by decide +kernel
theorem dX8_feed_23 : decode cX8_feed 23 = .ok (.invokevirtual 70, 3) := by decide +kernel
theorem dX8_feed_26 : decode cX8_feed 26 = .ok (.aload_n 0, 1) := by decide +kernel
theorem dX8_feed_27 : decode cX8_feed 27 = .ok (.getfield 10, 3) := by decide +kernel
theorem dX8_feed_30 : decode cX8_feed 30 = .ok (.iload_n 2, 1) := by decide +kernel
theorem dX8_feed_31 : decode cX8_feed 31 = .ok (.invokevirtual 70, 3) := by decide +kernel
theorem dX8_feed_34 : decode cX8_feed 34 = .ok (.aload_n 0, 1) := by decide +kernel
theorem dX8_feed_35 : decode cX8_feed 35 = .ok (.getfield 10, 3) := by decide +kernel
theorem dX8_feed_38 : decode cX8_feed 38 = .ok (.iload_n 3, 1) := by decide +kernel
theorem dX8_feed_39 : decode cX8_feed 39 = .ok (.invokevirtual 70, 3) := by decide +kernel
theorem dX8_feed_42 : decode cX8_feed 42 = .ok (.aload_n 0, 1) := by decide +kernel
theorem dX8_feed_43 : decode cX8_feed 43 = .ok (.getfield 10, 3) := by decide +kernel
theorem dX8_feed_46 : decode cX8_feed 46 = .ok (.iload 4, 2) := by decide +kernel
theorem dX8_feed_48 : decode cX8_feed 48 = .ok (.invokevirtual 70, 3) := by decide +kernel
theorem dX8_feed_51 : decode cX8_feed 51 = .ok (.aload_n 0, 1) := by decide +kernel
theorem dX8_feed_52 : decode cX8_feed 52 = .ok (.getfield 10, 3) := by decide +kernel
theorem dX8_feed_55 : decode cX8_feed 55 = .ok (.iload 5, 2) := by decide +kernel
theorem dX8_feed_57 : decode cX8_feed 57 = .ok (.invokevirtual 70, 3) := by decide +kernel
theorem dX8_feed_60 : decode cX8_feed 60 = .ok (.aload_n 0, 1) := by decide +kernel
theorem dX8_feed_61 : decode cX8_feed 61 = .ok (.getfield 10, 3) := by decide +kernel
theorem dX8_feed_64 : decode cX8_feed 64 = .ok (.invokevirtual 66, 3) := by decide +kernel
theorem dX8_feed_67 : decode cX8_feed 67 = .ok (.ireturn, 1) := by decide +kernel
set_option maxRecDepth 20000 in
theorem ggX8_end_X6_cutTo : GoodIn wsX8_end wsX6_cutTo := goodIn_r _ [6, 7, 18, 19] (by decide +kernel) (by decide +kernel)
set_option maxRecDepth 20000 in
theorem gX8_end_X6_cutTo : GoodIn wsX8_end (wsV RX8 74 RX6 yX6_cutTo wsX6_cutTo) := goodIn_app (goodIn_of _ (by decide +kernel)) ggX8_end_X6_cutTo
theorem dX8_end_0 : decode cX8_end 0 = .ok (.aload_n 0, 1) := by decide +kernel
theorem dX8_end_1 : decode cX8_end 1 = .ok (.getfield 10, 3) := by decide +kernel
theorem dX8_end_4 : decode cX8_end 4 = .ok (.iload_n 1, 1) := by decide +kernel
theorem dX8_end_5 : decode cX8_end 5 = .ok (.invokevirtual 74, 3) := by decide +kernel
theorem dX8_end_8 : decode cX8_end 8 = .ok (.ireturn, 1) := by decide +kernel
set_option maxRecDepth 20000 in
theorem ggX8_tree_Jx4a65c_size_8abf5 : GoodIn wsX8_tree wsJx4a65c_size_8abf5 := goodIn_r _ [13, 14, 105, 106, 107] (by decide +kernel) (by decide +kernel)
set_option maxRecDepth 20000 in
theorem gX8_tree_Jx4a65c_size_8abf5 : GoodIn wsX8_tree (wsV RX8 85 RJx4a65c yJx4a65c_size_8abf5 wsJx4a65c_size_8abf5) := goodIn_app (goodIn_of _ (by decide +kernel)) ggX8_tree_Jx4a65c_size_8abf5
set_option maxRecDepth 20000 in
theorem ggX8_tree_X7_init : GoodIn wsX8_tree wsX7_init := goodIn_r _ [17, 18, 19, 20, 21, 22, 23, 24, 25, 26, 27, 28, 29, 30, 95, 96, 97, 98, 99, 100, 101, 102, 103, 104] (by decide +kernel) (by decide +kernel)
set_option maxRecDepth 20000 in
theorem gX8_tree_X7_init : GoodIn wsX8_tree (wsX7_init) := ggX8_tree_X7_init
set_option maxRecDepth 20000 in
theorem ggX8_tree_Jx4a65c_add_9ea2d : GoodIn wsX8_tree wsJx4a65c_add_9ea2d := goodIn_r _ [34, 35, 36, 37, 14, 38, 39, 40, 12, 41, 42, 43, 44, 45, 46, 47, 48, 49, 50, 51, 52, 53, 54, 55, 56, 57, 58, 59, 60, 61, 62, 63, 64, 65, 66, 67, 68, 69, 70, 71, 72, 73, 74, 75, 76, 77, 78, 79, 80, 81, 82, 83, 84, 105, 106, 107] (by decide +kernel) (by decide +kernel)
set_option maxRecDepth 20000 in
theorem gX8_tree_Jx4a65c_add_9ea2d : GoodIn wsX8_tree (wsV RX8 95 RJx4a65c yJx4a65c_add_9ea2d wsJx4a65c_add_9ea2d) := goodIn_app (goodIn_of _ (by decide +kernel)) ggX8_tree_Jx4a65c_add_9ea2d
theorem dX8_tree_0 : decode cX8_tree 0 = .ok (.iload_n 1, 1) := by decide +kernel
theorem dX8_tree_1 : decode cX8_tree 1 = .ok (.bipush 20, 2) := by decide +kernel
theorem dX8_tree_3 : decode cX8_tree 3 = .ok (.if_icmp .lt 10, 3) := by decide +kernel
theorem dX8_tree_6 : decode cX8_tree 6 = .ok (.iload_n 1, 1) := by decide +kernel
theorem dX8_tree_7 : decode cX8_tree 7 = .ok (.sipush 600, 3) := by decide +kernel
theorem dX8_tree_10 : decode cX8_tree 10 = .ok (.if_icmp .le 13, 3) := by decide +kernel
theorem dX8_tree_13 : decode cX8_tree 13 = .ok (.new 78, 3) := by decide +kernel
theorem dX8_tree_16 : decode cX8_tree 16 = .ok (.dup, 1) := by decide +kernel
theorem dX8_tree_17 : decode cX8_tree 17 = .ok (.ldc 80, 2) := by decide +kernel
theorem dX8_tree_19 : decode cX8_tree 19 = .ok (.invokespecial 82, 3) := by decide +kernel
theorem dX8_tree_22 : decode cX8_tree 22 = .ok (.athrow, 1) := by decide +kernel
theorem dX8_tree_23 : decode cX8_tree 23 = .ok (.aload_n 0, 1) := by decide +kernel
theorem dX8_tree_24 : decode cX8_tree 24 = .ok (.getfield 35, 3) := by decide +kernel
theorem dX8_tree_27 : decode cX8_tree 27 = .ok (.invokevirtual 85, 3) := by decide +kernel
theorem dX8_tree_30 : decode cX8_tree 30 = .ok (.bipush 40, 2) := by decide +kernel
theorem dX8_tree_32 : decode cX8_tree 32 = .ok (.if_icmp .lt 13, 3) := by decide +kernel
theorem dX8_tree_35 : decode cX8_tree 35 = .ok (.new 86, 3) := by decide +kernel
theorem dX8_tree_38 : decode cX8_tree 38 = .ok (.dup, 1) := by decide +kernel
theorem dX8_tree_39 : decode cX8_tree 39 = .ok (.ldc 88, 2) := by decide +kernel
theorem dX8_tree_41 : decode cX8_tree 41 = .ok (.invokespecial 90, 3) := by decide +kernel
theorem dX8_tree_44 : decode cX8_tree 44 = .ok (.athrow, 1) := by decide +kernel
theorem dX8_tree_45 : decode cX8_tree 45 = .ok (.aload_n 0, 1) := by decide +kernel
theorem dX8_tree_46 : decode cX8_tree 46 = .ok (.getfield 35, 3) := by decide +kernel
theorem dX8_tree_49 : decode cX8_tree 49 = .ok (.new 91, 3) := by decide +kernel
theorem dX8_tree_52 : decode cX8_tree 52 = .ok (.dup, 1) := by decide +kernel
theorem dX8_tree_53 : decode cX8_tree 53 = .ok (.iload_n 1, 1) := by decide +kernel
theorem dX8_tree_54 : decode cX8_tree 54 = .ok (.invokespecial 93, 3) := by decide +kernel
theorem dX8_tree_57 : decode cX8_tree 57 = .ok (.invokevirtual 95, 3) := by decide +kernel
theorem dX8_tree_60 : decode cX8_tree 60 = .ok (.pop, 1) := by decide +kernel
theorem dX8_tree_61 : decode cX8_tree 61 = .ok (.aload_n 0, 1) := by decide +kernel
theorem dX8_tree_62 : decode cX8_tree 62 = .ok (.getfield 35, 3) := by decide +kernel
theorem dX8_tree_65 : decode cX8_tree 65 = .ok (.invokevirtual 85, 3) := by decide +kernel
theorem dX8_tree_68 : decode cX8_tree 68 = .ok (.iconst 1, 1) := by decide +kernel
theorem dX8_tree_69 : decode cX8_tree 69 = .ok (.isub, 1) := by decide +kernel
theorem dX8_tree_70 : decode cX8_tree 70 = .ok (.ireturn, 1) := by decide +kernel
set_option maxRecDepth 20000 in
theorem ggX8_years_X8_passYear : GoodIn wsX8_years wsX8_passYear := goodIn_r _ [8, 3, 9, 10, 11, 12, 13, 14, 15, 16, 17, 18, 19, 20, 21, 22, 23, 24, 25, 26, 27, 28, 29, 30, 31, 32, 33, 34, 35, 36, 37, 38, 39, 40, 41, 42, 43, 44, 45, 46, 47, 48, 49, 50, 51, 52, 53, 54, 55, 56, 57, 58, 59, 60, 61, 62, 63, 64, 65, 66, 67, 68, 69, 70, 71, 72, 73, 74, 75, 76, 77] (by decide +kernel) (by decide +kernel)
set_option maxRecDepth 20000 in
theorem gX8_years_X8_passYear : GoodIn wsX8_years (wsV RX8 103 RX8 yX8_passYear wsX8_passYear) := goodIn_app (goodIn_of _ (by decide +kernel)) ggX8_years_X8_passYear
theorem dX8_years_0 : decode cX8_years 0 = .ok (.iload_n 1, 1) := by decide +kernel
theorem dX8_years_1 : decode cX8_years 1 = .ok (.ifCond .lt 9, 3) := by decide +kernel
theorem dX8_years_4 : decode cX8_years 4 = .ok (.iload_n 1, 1) := by decide +kernel
theorem dX8_years_5 : decode cX8_years 5 = .ok (.bipush 50, 2) := by decide +kernel
theorem dX8_years_7 : decode cX8_years 7 = .ok (.if_icmp .le 13, 3) := by decide +kernel
theorem dX8_years_10 : decode cX8_years 10 = .ok (.new 78, 3) := by decide +kernel
theorem dX8_years_13 : decode cX8_years 13 = .ok (.dup, 1) := by decide +kernel
theorem dX8_years_14 : decode cX8_years 14 = .ok (.ldc 99, 2) := by decide +kernel
theorem dX8_years_16 : decode cX8_years 16 = .ok (.invokespecial 82, 3) := by decide +kernel
theorem dX8_years_19 : decode cX8_years 19 = .ok (.athrow, 1) := by decide +kernel
theorem dX8_years_20 : decode cX8_years 20 = .ok (.iload_n 2, 1) := by decide +kernel
theorem dX8_years_21 : decode cX8_years 21 = .ok (.ifCond .lt 10, 3) := by decide +kernel
theorem dX8_years_24 : decode cX8_years 24 = .ok (.iload_n 2, 1) := by decide +kernel
theorem dX8_years_25 : decode cX8_years 25 = .ok (.sipush 200, 3) := by decide +kernel
theorem dX8_years_28 : decode cX8_years 28 = .ok (.if_icmp .le 13, 3) := by decide +kernel
theorem dX8_years_31 : decode cX8_years 31 = .ok (.new 78, 3) := by decide +kernel
theorem dX8_years_34 : decode cX8_years 34 = .ok (.dup, 1) := by decide +kernel
theorem dX8_years_35 : decode cX8_years 35 = .ok (.ldc 101, 2) := by decide +kernel
theorem dX8_years_37 : decode cX8_years 37 = .ok (.invokespecial 82, 3) := by decide +kernel
theorem dX8_years_40 : decode cX8_years 40 = .ok (.athrow, 1) := by decide +kernel
theorem dX8_years_41 : decode cX8_years 41 = .ok (.iconst 0, 1) := by decide +kernel
theorem dX8_years_42 : decode cX8_years 42 = .ok (.istore_n 3, 1) := by decide +kernel
theorem dX8_years_43 : decode cX8_years 43 = .ok (.iload_n 3, 1) := by decide +kernel
theorem dX8_years_44 : decode cX8_years 44 = .ok (.iload_n 1, 1) := by decide +kernel
theorem dX8_years_45 : decode cX8_years 45 = .ok (.if_icmp .ge 14, 3) := by decide +kernel
theorem dX8_years_48 : decode cX8_years 48 = .ok (.aload_n 0, 1) := by decide +kernel
theorem dX8_years_49 : decode cX8_years 49 = .ok (.iload_n 2, 1) := by decide +kernel
theorem dX8_years_50 : decode cX8_years 50 = .ok (.invokevirtual 103, 3) := by decide +kernel
theorem dX8_years_53 : decode cX8_years 53 = .ok (.iinc 3 1, 3) := by decide +kernel
theorem dX8_years_56 : decode cX8_years 56 = .ok (.goto (-13), 3) := by decide +kernel
theorem dX8_years_59 : decode cX8_years 59 = .ok (.aload_n 0, 1) := by decide +kernel
theorem dX8_years_60 : decode cX8_years 60 = .ok (.getfield 59, 3) := by decide +kernel
theorem dX8_years_63 : decode cX8_years 63 = .ok (.ireturn, 1) := by decide +kernel
set_option maxRecDepth 20000 in
theorem ggX8_law_X2_readText : GoodIn wsX8_law wsX2_readText := goodIn_r _ [10, 11, 12, 13, 14, 15, 16, 17, 18, 19, 20, 21, 22, 23, 9, 24, 25, 26, 27, 28, 29, 30, 31, 32, 33, 34, 35, 36, 37, 38, 39, 40, 41, 42, 43, 44, 45, 46, 47, 48, 49, 50, 51, 52, 53, 54, 55, 56, 57, 58, 59, 60, 61, 62, 63, 64, 65, 66, 67, 68, 69, 70, 71, 72, 73, 74, 75, 76, 77, 78, 79, 80, 81, 82, 83, 84, 85, 86, 87, 88, 89, 90, 91, 92, 93, 94, 95, 96, 97, 98, 99, 100, 101, 102, 103, 104, 105, 106, 107, 108, 109, 110, 111, 130, 131, 132, 133, 134, 135, 136] (by decide +kernel) (by decide +kernel)
set_option maxRecDepth 20000 in
theorem gX8_law_X2_readText : GoodIn wsX8_law (wsV RX8 106 RX2 yX2_readText wsX2_readText) := goodIn_app (goodIn_of _ (by decide +kernel)) ggX8_law_X2_readText
set_option maxRecDepth 20000 in
theorem ggX8_law_X6_cutTo : GoodIn wsX8_law wsX6_cutTo := goodIn_r _ [115, 34, 135, 136] (by decide +kernel) (by decide +kernel)
set_option maxRecDepth 20000 in
theorem gX8_law_X6_cutTo : GoodIn wsX8_law (wsV RX8 74 RX6 yX6_cutTo wsX6_cutTo) := goodIn_app (goodIn_of _ (by decide +kernel)) ggX8_law_X6_cutTo
set_option maxRecDepth 20000 in
theorem ggX8_law_X2_place : GoodIn wsX8_law wsX2_place := goodIn_r _ [119, 11, 130, 131, 132, 133] (by decide +kernel) (by decide +kernel)
set_option maxRecDepth 20000 in
theorem gX8_law_X2_place : GoodIn wsX8_law (wsV RX8 109 RX2 yX2_place wsX2_place) := goodIn_app (goodIn_of _ (by decide +kernel)) ggX8_law_X2_place
theorem dX8_law_0 : decode cX8_law 0 = .ok (.aload_n 0, 1) := by decide +kernel
theorem dX8_law_1 : decode cX8_law 1 = .ok (.getfield 28, 3) := by decide +kernel
theorem dX8_law_4 : decode cX8_law 4 = .ok (.invokevirtual 106, 3) := by decide +kernel
theorem dX8_law_7 : decode cX8_law 7 = .ok (.istore_n 1, 1) := by decide +kernel
theorem dX8_law_8 : decode cX8_law 8 = .ok (.aload_n 0, 1) := by decide +kernel
theorem dX8_law_9 : decode cX8_law 9 = .ok (.getfield 10, 3) := by decide +kernel
theorem dX8_law_12 : decode cX8_law 12 = .ok (.iconst 0, 1) := by decide +kernel
theorem dX8_law_13 : decode cX8_law 13 = .ok (.invokevirtual 74, 3) := by decide +kernel
theorem dX8_law_16 : decode cX8_law 16 = .ok (.pop, 1) := by decide +kernel
theorem dX8_law_17 : decode cX8_law 17 = .ok (.iload_n 1, 1) := by decide +kernel
theorem dX8_law_18 : decode cX8_law 18 = .ok (.iconst (-1), 1) := by decide +kernel
theorem dX8_law_19 : decode cX8_law 19 = .ok (.if_icmp .ne 24, 3) := by decide +kernel
theorem dX8_law_22 : decode cX8_law 22 = .ok (.aload_n 0, 1) := by decide +kernel
theorem dX8_law_23 : decode cX8_law 23 = .ok (.aload_n 0, 1) := by decide +kernel
theorem dX8_law_24 : decode cX8_law 24 = .ok (.getfield 28, 3) := by decide +kernel
theorem dX8_law_27 : decode cX8_law 27 = .ok (.invokevirtual 109, 3) := by decide +kernel
theorem dX8_law_30 : decode cX8_law 30 = .ok (.putfield 63, 3) := by decide +kernel
theorem dX8_law_33 : decode cX8_law 33 = .ok (.new 78, 3) := by decide +kernel
theorem dX8_law_36 : decode cX8_law 36 = .ok (.dup, 1) := by decide +kernel
theorem dX8_law_37 : decode cX8_law 37 = .ok (.ldc 112, 2) := by decide +kernel
theorem dX8_law_39 : decode cX8_law 39 = .ok (.invokespecial 82, 3) := by decide +kernel
theorem dX8_law_42 : decode cX8_law 42 = .ok (.athrow, 1) := by decide +kernel
theorem dX8_law_43 : decode cX8_law 43 = .ok (.aload_n 0, 1) := by decide +kernel
theorem dX8_law_44 : decode cX8_law 44 = .ok (.iconst (-1), 1) := by decide +kernel
theorem dX8_law_45 : decode cX8_law 45 = .ok (.putfield 63, 3) := by decide +kernel
theorem dX8_law_48 : decode cX8_law 48 = .ok (.iload_n 1, 1) := by decide +kernel
theorem dX8_law_49 : decode cX8_law 49 = .ok (.ireturn, 1) := by decide +kernel
theorem dX8_fault_0 : decode cX8_fault 0 = .ok (.aload_n 0, 1) := by decide +kernel
theorem dX8_fault_1 : decode cX8_fault 1 = .ok (.getfield 63, 3) := by decide +kernel
theorem dX8_fault_4 : decode cX8_fault 4 = .ok (.ireturn, 1) := by decide +kernel
set_option maxRecDepth 20000 in
theorem ggX8_says_X1_told : GoodIn wsX8_says wsX1_told := goodIn_r _ [8, 9, 20] (by decide +kernel) (by decide +kernel)
set_option maxRecDepth 20000 in
theorem gX8_says_X1_told : GoodIn wsX8_says (wsV RX8 119 RX1 yX1_told wsX1_told) := goodIn_app (goodIn_of _ (by decide +kernel)) ggX8_says_X1_told
theorem dX8_says_0 : decode cX8_says 0 = .ok (.iload_n 1, 1) := by decide +kernel
theorem dX8_says_1 : decode cX8_says 1 = .ok (.ifCond .lt 9, 3) := by decide +kernel
theorem dX8_says_4 : decode cX8_says 4 = .ok (.iload_n 1, 1) := by decide +kernel
theorem dX8_says_5 : decode cX8_says 5 = .ok (.bipush 6, 2) := by decide +kernel
theorem dX8_says_7 : decode cX8_says 7 = .ok (.if_icmp .lt 13, 3) := by decide +kernel
theorem dX8_says_10 : decode cX8_says 10 = .ok (.new 114, 3) := by decide +kernel
theorem dX8_says_13 : decode cX8_says 13 = .ok (.dup, 1) := by decide +kernel
theorem dX8_says_14 : decode cX8_says 14 = .ok (.ldc 116, 2) := by decide +kernel
theorem dX8_says_16 : decode cX8_says 16 = .ok (.invokespecial 118, 3) := by decide +kernel
theorem dX8_says_19 : decode cX8_says 19 = .ok (.athrow, 1) := by decide +kernel
theorem dX8_says_20 : decode cX8_says 20 = .ok (.aload_n 0, 1) := by decide +kernel
theorem dX8_says_21 : decode cX8_says 21 = .ok (.getfield 19, 3) := by decide +kernel
theorem dX8_says_24 : decode cX8_says 24 = .ok (.iload_n 1, 1) := by decide +kernel
theorem dX8_says_25 : decode cX8_says 25 = .ok (.invokevirtual 119, 3) := by decide +kernel
theorem dX8_says_28 : decode cX8_says 28 = .ok (.ireturn, 1) := by decide +kernel
set_option maxRecDepth 20000 in
theorem ggX8_mark_X8_treeAt : GoodIn wsX8_mark wsX8_treeAt := goodIn_ca (goodIn_r _ [5, 6, 7, 8, 9, 10, 11, 12, 13, 14, 15, 16, 17, 18, 19, 20, 21, 22, 23, 24, 25, 26, 27, 28, 29, 30, 31, 32, 43, 44, 45, 46, 47, 48, 49, 50, 51, 52, 53, 54, 55] (by decide +kernel) (by decide +kernel)) (goodIn_sub (fun _ h => List.mem_cons_of_mem _ (List.mem_append_right _ h)) (by decide +kernel))
set_option maxRecDepth 20000 in
theorem gX8_mark_X8_treeAt : GoodIn wsX8_mark (wsV RX8 123 RX8 yX8_treeAt wsX8_treeAt) := goodIn_app (goodIn_of _ (by decide +kernel)) ggX8_mark_X8_treeAt
theorem dX8_mark_0 : decode cX8_mark 0 = .ok (.aload_n 0, 1) := by decide +kernel
theorem dX8_mark_1 : decode cX8_mark 1 = .ok (.iload_n 1, 1) := by decide +kernel
theorem dX8_mark_2 : decode cX8_mark 2 = .ok (.invokevirtual 123, 3) := by decide +kernel
theorem dX8_mark_5 : decode cX8_mark 5 = .ok (.astore_n 2, 1) := by decide +kernel
theorem dX8_mark_6 : decode cX8_mark 6 = .ok (.aload_n 2, 1) := by decide +kernel
theorem dX8_mark_7 : decode cX8_mark 7 = .ok (.getfield 127, 3) := by decide +kernel
theorem dX8_mark_10 : decode cX8_mark 10 = .ok (.istore_n 3, 1) := by decide +kernel
theorem dX8_mark_11 : decode cX8_mark 11 = .ok (.aload_n 2, 1) := by decide +kernel
theorem dX8_mark_12 : decode cX8_mark 12 = .ok (.iconst 1, 1) := by decide +kernel
theorem dX8_mark_13 : decode cX8_mark 13 = .ok (.putfield 127, 3) := by decide +kernel
theorem dX8_mark_16 : decode cX8_mark 16 = .ok (.iload_n 3, 1) := by decide +kernel
theorem dX8_mark_17 : decode cX8_mark 17 = .ok (.ifCond .ne 7, 3) := by decide +kernel
theorem dX8_mark_20 : decode cX8_mark 20 = .ok (.iconst 1, 1) := by decide +kernel
theorem dX8_mark_21 : decode cX8_mark 21 = .ok (.goto 4, 3) := by decide +kernel
theorem dX8_mark_24 : decode cX8_mark 24 = .ok (.iconst 0, 1) := by decide +kernel
theorem dX8_mark_25 : decode cX8_mark 25 = .ok (.ireturn, 1) := by decide +kernel
set_option maxRecDepth 20000 in
theorem ggX8_strip_X8_treeAt : GoodIn wsX8_strip wsX8_treeAt := goodIn_ca (goodIn_r _ [12, 13, 14, 15, 16, 17, 18, 19, 20, 21, 22, 23, 24, 25, 26, 27, 28, 29, 30, 31, 32, 33, 34, 35, 36, 37, 38, 39, 138, 139, 140, 141, 142, 143, 144, 145, 146, 147, 164, 165, 166] (by decide +kernel) (by decide +kernel)) (goodIn_sub (fun _ h => List.mem_cons_of_mem _ (List.mem_append_right _ h)) (by decide +kernel))
set_option maxRecDepth 20000 in
theorem gX8_strip_X8_treeAt : GoodIn wsX8_strip (wsV RX8 123 RX8 yX8_treeAt wsX8_treeAt) := goodIn_app (goodIn_of _ (by decide +kernel)) ggX8_strip_X8_treeAt
set_option maxRecDepth 20000 in
theorem ggX8_strip_X8_whatIsAgainst : GoodIn wsX8_strip wsX8_whatIsAgainst := goodIn_r _ [43, 7, 44, 3, 45, 46, 47, 48, 49, 50, 51, 52, 53, 54, 55, 56, 57, 58, 59, 11, 60, 17, 18, 19, 20, 21, 22, 154, 155, 156, 157, 158, 159, 160, 161, 162, 163, 138, 139, 140, 141, 142, 143, 144, 145, 146, 147, 167, 164, 165, 166] (by decide +kernel) (by decide +kernel)
set_option maxRecDepth 20000 in
theorem gX8_strip_X8_whatIsAgainst : GoodIn wsX8_strip (wsV RX8 133 RX8 yX8_whatIsAgainst wsX8_whatIsAgainst) := goodIn_app (goodIn_of _ (by decide +kernel)) ggX8_strip_X8_whatIsAgainst
set_option maxRecDepth 20000 in
theorem ggX8_strip_X4_init : GoodIn wsX8_strip wsX4_init := goodIn_r _ [63, 64, 65, 66, 67, 68, 69, 70, 71, 72, 148, 149, 150, 151, 152, 153] (by decide +kernel) (by decide +kernel)
set_option maxRecDepth 20000 in
theorem gX8_strip_X4_init : GoodIn wsX8_strip (wsX4_init) := ggX8_strip_X4_init
set_option maxRecDepth 20000 in
theorem ggX8_strip_Jx4a65c_add_9ea2d : GoodIn wsX8_strip wsJx4a65c_add_9ea2d := goodIn_r _ [76, 77, 78, 39, 22, 79, 80, 81, 20, 82, 83, 84, 85, 86, 87, 88, 89, 90, 91, 92, 93, 94, 95, 96, 97, 98, 99, 100, 101, 102, 103, 104, 105, 106, 107, 108, 109, 110, 111, 112, 113, 114, 115, 116, 117, 118, 119, 120, 121, 122, 123, 124, 125, 164, 165, 166] (by decide +kernel) (by decide +kernel)
set_option maxRecDepth 20000 in
theorem gX8_strip_Jx4a65c_add_9ea2d : GoodIn wsX8_strip (wsV RX8 95 RJx4a65c yJx4a65c_add_9ea2d wsJx4a65c_add_9ea2d) := goodIn_app (goodIn_of _ (by decide +kernel)) ggX8_strip_Jx4a65c_add_9ea2d
set_option maxRecDepth 20000 in
theorem ggX8_strip_X7_loseBarkToPlank : GoodIn wsX8_strip wsX7_loseBarkToPlank := goodIn_r _ [129, 130, 131, 132, 133, 134, 48, 135, 50, 136, 137, 154, 155, 156, 157, 158, 159, 160, 161, 162, 163] (by decide +kernel) (by decide +kernel)
set_option maxRecDepth 20000 in
theorem gX8_strip_X7_loseBarkToPlank : GoodIn wsX8_strip (wsV RX8 148 RX7 yX7_loseBarkToPlank wsX7_loseBarkToPlank) := goodIn_app (goodIn_of _ (by decide +kernel)) ggX8_strip_X7_loseBarkToPlank
set_option maxRecDepth 20000 in
theorem ggX8_strip_Jx4a65c_size_8abf5 : GoodIn wsX8_strip wsJx4a65c_size_8abf5 := goodIn_r _ [21, 22, 164, 165, 166] (by decide +kernel) (by decide +kernel)
set_option maxRecDepth 20000 in
theorem gX8_strip_Jx4a65c_size_8abf5 : GoodIn wsX8_strip (wsV RX8 85 RJx4a65c yJx4a65c_size_8abf5 wsJx4a65c_size_8abf5) := goodIn_app (goodIn_of _ (by decide +kernel)) ggX8_strip_Jx4a65c_size_8abf5
theorem dX8_strip_0 : decode cX8_strip 0 = .ok (.aload_n 0, 1) := by decide +kernel
theorem dX8_strip_1 : decode cX8_strip 1 = .ok (.iload_n 1, 1) := by decide +kernel
theorem dX8_strip_2 : decode cX8_strip 2 = .ok (.invokevirtual 123, 3) := by decide +kernel
theorem dX8_strip_5 : decode cX8_strip 5 = .ok (.astore_n 3, 1) := by decide +kernel
theorem dX8_strip_6 : decode cX8_strip 6 = .ok (.iload_n 2, 1) := by decide +kernel
theorem dX8_strip_7 : decode cX8_strip 7 = .ok (.iconst 1, 1) := by decide +kernel
theorem dX8_strip_8 : decode cX8_strip 8 = .ok (.if_icmp .lt 10, 3) := by decide +kernel
theorem dX8_strip_11 : decode cX8_strip 11 = .ok (.iload_n 2, 1) := by decide +kernel
theorem dX8_strip_12 : decode cX8_strip 12 = .ok (.sipush 3000, 3) := by decide +kernel
theorem dX8_strip_15 : decode cX8_strip 15 = .ok (.if_icmp .le 13, 3) := by decide +kernel
theorem dX8_strip_18 : decode cX8_strip 18 = .ok (.new 78, 3) := by decide +kernel
theorem dX8_strip_21 : decode cX8_strip 21 = .ok (.dup, 1) := by decide +kernel
theorem dX8_strip_22 : decode cX8_strip 22 = .ok (.ldc 131, 2) := by decide +kernel
theorem dX8_strip_24 : decode cX8_strip 24 = .ok (.invokespecial 82, 3) := by decide +kernel
theorem dX8_strip_27 : decode cX8_strip 27 = .ok (.athrow, 1) := by decide +kernel
theorem dX8_strip_28 : decode cX8_strip 28 = .ok (.aload_n 0, 1) := by decide +kernel
theorem dX8_strip_29 : decode cX8_strip 29 = .ok (.aload_n 3, 1) := by decide +kernel
theorem dX8_strip_30 : decode cX8_strip 30 = .ok (.iload_n 2, 1) := by decide +kernel
theorem dX8_strip_31 : decode cX8_strip 31 = .ok (.invokevirtual 133, 3) := by decide +kernel
theorem dX8_strip_34 : decode cX8_strip 34 = .ok (.istore 4, 2) := by decide +kernel
theorem dX8_strip_36 : decode cX8_strip 36 = .ok (.iload 4, 2) := by decide +kernel
theorem dX8_strip_38 : decode cX8_strip 38 = .ok (.ifCond .eq 7, 3) := by decide +kernel
theorem dX8_strip_41 : decode cX8_strip 41 = .ok (.iload 4, 2) := by decide +kernel
theorem dX8_strip_43 : decode cX8_strip 43 = .ok (.ineg, 1) := by decide +kernel
theorem dX8_strip_44 : decode cX8_strip 44 = .ok (.ireturn, 1) := by decide +kernel
theorem dX8_strip_45 : decode cX8_strip 45 = .ok (.aload_n 0, 1) := by decide +kernel
theorem dX8_strip_46 : decode cX8_strip 46 = .ok (.getfield 39, 3) := by decide +kernel
theorem dX8_strip_49 : decode cX8_strip 49 = .ok (.new 137, 3) := by decide +kernel
theorem dX8_strip_52 : decode cX8_strip 52 = .ok (.dup, 1) := by decide +kernel
theorem dX8_strip_53 : decode cX8_strip 53 = .ok (.iload_n 1, 1) := by decide +kernel
theorem dX8_strip_54 : decode cX8_strip 54 = .ok (.aload_n 0, 1) := by decide +kernel
theorem dX8_strip_55 : decode cX8_strip 55 = .ok (.getfield 59, 3) := by decide +kernel
theorem dX8_strip_58 : decode cX8_strip 58 = .ok (.iload_n 2, 1) := by decide +kernel
theorem dX8_strip_59 : decode cX8_strip 59 = .ok (.aload_n 3, 1) := by decide +kernel
theorem dX8_strip_60 : decode cX8_strip 60 = .ok (.getfield 139, 3) := by decide +kernel
theorem dX8_strip_63 : decode cX8_strip 63 = .ok (.aload_n 3, 1) := by decide +kernel
theorem dX8_strip_64 : decode cX8_strip 64 = .ok (.getfield 142, 3) := by decide +kernel
theorem dX8_strip_67 : decode cX8_strip 67 = .ok (.invokespecial 145, 3) := by decide +kernel
theorem dX8_strip_70 : decode cX8_strip 70 = .ok (.invokevirtual 95, 3) := by decide +kernel
theorem dX8_strip_73 : decode cX8_strip 73 = .ok (.pop, 1) := by decide +kernel
theorem dX8_strip_74 : decode cX8_strip 74 = .ok (.aload_n 3, 1) := by decide +kernel
theorem dX8_strip_75 : decode cX8_strip 75 = .ok (.aload_n 0, 1) := by decide +kernel
theorem dX8_strip_76 : decode cX8_strip 76 = .ok (.getfield 59, 3) := by decide +kernel
theorem dX8_strip_79 : decode cX8_strip 79 = .ok (.iload_n 2, 1) := by decide +kernel
theorem dX8_strip_80 : decode cX8_strip 80 = .ok (.invokevirtual 148, 3) := by decide +kernel
theorem dX8_strip_83 : decode cX8_strip 83 = .ok (.aload_n 0, 1) := by decide +kernel
theorem dX8_strip_84 : decode cX8_strip 84 = .ok (.getfield 39, 3) := by decide +kernel
theorem dX8_strip_87 : decode cX8_strip 87 = .ok (.invokevirtual 85, 3) := by decide +kernel
theorem dX8_strip_90 : decode cX8_strip 90 = .ok (.iconst 1, 1) := by decide +kernel
theorem dX8_strip_91 : decode cX8_strip 91 = .ok (.isub, 1) := by decide +kernel
theorem dX8_strip_92 : decode cX8_strip 92 = .ok (.ireturn, 1) := by decide +kernel
set_option maxRecDepth 20000 in
theorem ggX8_wound_X8_treeAt : GoodIn wsX8_wound wsX8_treeAt := goodIn_ca (goodIn_r _ [7, 8, 9, 10, 11, 12, 13, 14, 15, 16, 17, 18, 19, 20, 21, 22, 23, 24, 25, 26, 27, 28, 29, 30, 31, 32, 33, 34, 41, 42, 43, 44, 45, 46, 47, 48, 49, 50, 61, 62, 63] (by decide +kernel) (by decide +kernel)) (goodIn_sub (fun _ h => List.mem_cons_of_mem _ (List.mem_append_right _ h)) (by decide +kernel))
set_option maxRecDepth 20000 in
theorem gX8_wound_X8_treeAt : GoodIn wsX8_wound (wsV RX8 123 RX8 yX8_treeAt wsX8_treeAt) := goodIn_app (goodIn_of _ (by decide +kernel)) ggX8_wound_X8_treeAt
set_option maxRecDepth 20000 in
theorem ggX8_wound_X1_told : GoodIn wsX8_wound wsX1_told := goodIn_r _ [39, 40, 64] (by decide +kernel) (by decide +kernel)
set_option maxRecDepth 20000 in
theorem gX8_wound_X1_told : GoodIn wsX8_wound (wsV RX8 119 RX1 yX1_told wsX1_told) := goodIn_app (goodIn_of _ (by decide +kernel)) ggX8_wound_X1_told
theorem dX8_wound_0 : decode cX8_wound 0 = .ok (.aload_n 0, 1) := by decide +kernel
theorem dX8_wound_1 : decode cX8_wound 1 = .ok (.iload_n 1, 1) := by decide +kernel
theorem dX8_wound_2 : decode cX8_wound 2 = .ok (.invokevirtual 123, 3) := by decide +kernel
theorem dX8_wound_5 : decode cX8_wound 5 = .ok (.astore_n 2, 1) := by decide +kernel
theorem dX8_wound_6 : decode cX8_wound 6 = .ok (.aload_n 2, 1) := by decide +kernel
theorem dX8_wound_7 : decode cX8_wound 7 = .ok (.aload_n 0, 1) := by decide +kernel
theorem dX8_wound_8 : decode cX8_wound 8 = .ok (.getfield 59, 3) := by decide +kernel
theorem dX8_wound_11 : decode cX8_wound 11 = .ok (.aload_n 0, 1) := by decide +kernel
theorem dX8_wound_12 : decode cX8_wound 12 = .ok (.getfield 19, 3) := by decide +kernel
theorem dX8_wound_15 : decode cX8_wound 15 = .ok (.iconst 4, 1) := by decide +kernel
theorem dX8_wound_16 : decode cX8_wound 16 = .ok (.invokevirtual 119, 3) := by decide +kernel
theorem dX8_wound_19 : decode cX8_wound 19 = .ok (.iadd, 1) := by decide +kernel
theorem dX8_wound_20 : decode cX8_wound 20 = .ok (.putfield 152, 3) := by decide +kernel
theorem dX8_wound_23 : decode cX8_wound 23 = .ok (.aload_n 2, 1) := by decide +kernel
theorem dX8_wound_24 : decode cX8_wound 24 = .ok (.getfield 152, 3) := by decide +kernel
theorem dX8_wound_27 : decode cX8_wound 27 = .ok (.ireturn, 1) := by decide +kernel
set_option maxRecDepth 20000 in
theorem ggX8_fire_X8_treeAt : GoodIn wsX8_fire wsX8_treeAt := goodIn_ca (goodIn_r _ [6, 7, 8, 9, 10, 11, 12, 13, 14, 15, 16, 17, 18, 19, 20, 21, 22, 23, 24, 25, 26, 27, 28, 29, 30, 31, 32, 33, 48, 49, 50, 51, 52, 53, 54, 55, 56, 57, 58, 59, 60] (by decide +kernel) (by decide +kernel)) (goodIn_sub (fun _ h => List.mem_cons_of_mem _ (List.mem_append_right _ h)) (by decide +kernel))
set_option maxRecDepth 20000 in
theorem gX8_fire_X8_treeAt : GoodIn wsX8_fire (wsV RX8 123 RX8 yX8_treeAt wsX8_treeAt) := goodIn_app (goodIn_of _ (by decide +kernel)) ggX8_fire_X8_treeAt
set_option maxRecDepth 20000 in
theorem ggX8_fire_X7_loseBarkToFire : GoodIn wsX8_fire wsX7_loseBarkToFire := goodIn_r _ [38, 39, 40, 41, 42, 43, 37, 44, 45, 46, 47, 61, 62, 63, 64, 65, 66, 67, 68, 69, 70] (by decide +kernel) (by decide +kernel)
set_option maxRecDepth 20000 in
theorem gX8_fire_X7_loseBarkToFire : GoodIn wsX8_fire (wsV RX8 155 RX7 yX7_loseBarkToFire wsX7_loseBarkToFire) := goodIn_app (goodIn_of _ (by decide +kernel)) ggX8_fire_X7_loseBarkToFire
theorem dX8_fire_0 : decode cX8_fire 0 = .ok (.aload_n 0, 1) := by decide +kernel
theorem dX8_fire_1 : decode cX8_fire 1 = .ok (.iload_n 1, 1) := by decide +kernel
theorem dX8_fire_2 : decode cX8_fire 2 = .ok (.invokevirtual 123, 3) := by decide +kernel
theorem dX8_fire_5 : decode cX8_fire 5 = .ok (.aload_n 0, 1) := by decide +kernel
theorem dX8_fire_6 : decode cX8_fire 6 = .ok (.getfield 59, 3) := by decide +kernel
theorem dX8_fire_9 : decode cX8_fire 9 = .ok (.invokevirtual 155, 3) := by decide +kernel
theorem dX8_fire_12 : decode cX8_fire 12 = .ok (.ireturn, 1) := by decide +kernel
set_option maxRecDepth 20000 in
theorem ggX8_look_X8_treeAt : GoodIn wsX8_look wsX8_treeAt := goodIn_ca (goodIn_r _ [7, 8, 9, 10, 11, 12, 13, 14, 15, 16, 17, 18, 19, 20, 21, 22, 23, 24, 25, 26, 27, 28, 29, 30, 31, 32, 33, 34, 45, 46, 47, 48, 49, 50, 51, 52, 53, 54, 55, 56, 57] (by decide +kernel) (by decide +kernel)) (goodIn_sub (fun _ h => List.mem_cons_of_mem _ (List.mem_append_right _ h)) (by decide +kernel))
set_option maxRecDepth 20000 in
theorem gX8_look_X8_treeAt : GoodIn wsX8_look (wsV RX8 123 RX8 yX8_treeAt wsX8_treeAt) := goodIn_app (goodIn_of _ (by decide +kernel)) ggX8_look_X8_treeAt
theorem dX8_look_0 : decode cX8_look 0 = .ok (.aload_n 0, 1) := by decide +kernel
theorem dX8_look_1 : decode cX8_look 1 = .ok (.iload_n 1, 1) := by decide +kernel
theorem dX8_look_2 : decode cX8_look 2 = .ok (.invokevirtual 123, 3) := by decide +kernel
theorem dX8_look_5 : decode cX8_look 5 = .ok (.astore_n 3, 1) := by decide +kernel
theorem dX8_look_6 : decode cX8_look 6 = .ok (.iload_n 2, 1) := by decide +kernel
theorem dX8_look_7 : decode cX8_look 7 = .ok (.tableswitch 111 0 9 #[53, 58, 63, 68, 73, 78, 91, 96, 101, 106], 53) := by decide +kernel
theorem dX8_look_60 : decode cX8_look 60 = .ok (.aload_n 3, 1) := by decide +kernel
theorem dX8_look_61 : decode cX8_look 61 = .ok (.getfield 139, 3) := by decide +kernel
theorem dX8_look_64 : decode cX8_look 64 = .ok (.ireturn, 1) := by decide +kernel
theorem dX8_look_65 : decode cX8_look 65 = .ok (.aload_n 3, 1) := by decide +kernel
theorem dX8_look_66 : decode cX8_look 66 = .ok (.getfield 142, 3) := by decide +kernel
theorem dX8_look_69 : decode cX8_look 69 = .ok (.ireturn, 1) := by decide +kernel
theorem dX8_look_70 : decode cX8_look 70 = .ok (.aload_n 3, 1) := by decide +kernel
theorem dX8_look_71 : decode cX8_look 71 = .ok (.getfield 158, 3) := by decide +kernel
theorem dX8_look_74 : decode cX8_look 74 = .ok (.ireturn, 1) := by decide +kernel
theorem dX8_look_75 : decode cX8_look 75 = .ok (.aload_n 3, 1) := by decide +kernel
theorem dX8_look_76 : decode cX8_look 76 = .ok (.getfield 161, 3) := by decide +kernel
theorem dX8_look_79 : decode cX8_look 79 = .ok (.ireturn, 1) := by decide +kernel
theorem dX8_look_80 : decode cX8_look 80 = .ok (.aload_n 3, 1) := by decide +kernel
theorem dX8_look_81 : decode cX8_look 81 = .ok (.getfield 152, 3) := by decide +kernel
theorem dX8_look_84 : decode cX8_look 84 = .ok (.ireturn, 1) := by decide +kernel
theorem dX8_look_85 : decode cX8_look 85 = .ok (.aload_n 3, 1) := by decide +kernel
theorem dX8_look_86 : decode cX8_look 86 = .ok (.getfield 127, 3) := by decide +kernel
theorem dX8_look_89 : decode cX8_look 89 = .ok (.ifCond .eq 7, 3) := by decide +kernel
theorem dX8_look_92 : decode cX8_look 92 = .ok (.iconst 1, 1) := by decide +kernel
theorem dX8_look_93 : decode cX8_look 93 = .ok (.goto 4, 3) := by decide +kernel
theorem dX8_look_96 : decode cX8_look 96 = .ok (.iconst 0, 1) := by decide +kernel
theorem dX8_look_97 : decode cX8_look 97 = .ok (.ireturn, 1) := by decide +kernel
theorem dX8_look_98 : decode cX8_look 98 = .ok (.aload_n 3, 1) := by decide +kernel
theorem dX8_look_99 : decode cX8_look 99 = .ok (.getfield 164, 3) := by decide +kernel
theorem dX8_look_102 : decode cX8_look 102 = .ok (.ireturn, 1) := by decide +kernel
theorem dX8_look_103 : decode cX8_look 103 = .ok (.aload_n 3, 1) := by decide +kernel
theorem dX8_look_104 : decode cX8_look 104 = .ok (.getfield 167, 3) := by decide +kernel
theorem dX8_look_107 : decode cX8_look 107 = .ok (.ireturn, 1) := by decide +kernel
theorem dX8_look_108 : decode cX8_look 108 = .ok (.aload_n 3, 1) := by decide +kernel
theorem dX8_look_109 : decode cX8_look 109 = .ok (.getfield 170, 3) := by decide +kernel
theorem dX8_look_112 : decode cX8_look 112 = .ok (.ireturn, 1) := by decide +kernel
theorem dX8_look_113 : decode cX8_look 113 = .ok (.aload_n 3, 1) := by decide +kernel
theorem dX8_look_114 : decode cX8_look 114 = .ok (.getfield 173, 3) := by decide +kernel
theorem dX8_look_117 : decode cX8_look 117 = .ok (.ireturn, 1) := by decide +kernel
theorem dX8_look_118 : decode cX8_look 118 = .ok (.new 114, 3) := by decide +kernel
theorem dX8_look_121 : decode cX8_look 121 = .ok (.dup, 1) := by decide +kernel
theorem dX8_look_122 : decode cX8_look 122 = .ok (.ldc 176, 2) := by decide +kernel
theorem dX8_look_124 : decode cX8_look 124 = .ok (.invokespecial 118, 3) := by decide +kernel
theorem dX8_look_127 : decode cX8_look 127 = .ok (.athrow, 1) := by decide +kernel
set_option maxRecDepth 20000 in
theorem ggX8_plank_X8_plankAt : GoodIn wsX8_plank wsX8_plankAt := goodIn_ca (goodIn_r _ [7, 8, 9, 10, 11, 12, 13, 14, 15, 16, 17, 18, 19, 20, 21, 22, 23, 24, 25, 26, 27, 28, 29, 30, 31, 32, 33, 34, 41, 42, 43, 44, 45, 46, 47, 48, 49, 50, 51, 52, 53] (by decide +kernel) (by decide +kernel)) (goodIn_sub (fun _ h => List.mem_cons_of_mem _ (List.mem_append_right _ h)) (by decide +kernel))
set_option maxRecDepth 20000 in
theorem gX8_plank_X8_plankAt : GoodIn wsX8_plank (wsV RX8 178 RX8 yX8_plankAt wsX8_plankAt) := goodIn_app (goodIn_of _ (by decide +kernel)) ggX8_plank_X8_plankAt
theorem dX8_plank_0 : decode cX8_plank 0 = .ok (.aload_n 0, 1) := by decide +kernel
theorem dX8_plank_1 : decode cX8_plank 1 = .ok (.iload_n 1, 1) := by decide +kernel
theorem dX8_plank_2 : decode cX8_plank 2 = .ok (.invokevirtual 178, 3) := by decide +kernel
theorem dX8_plank_5 : decode cX8_plank 5 = .ok (.astore_n 3, 1) := by decide +kernel
theorem dX8_plank_6 : decode cX8_plank 6 = .ok (.iload_n 2, 1) := by decide +kernel
theorem dX8_plank_7 : decode cX8_plank 7 = .ok (.tableswitch 67 0 5 #[37, 42, 47, 52, 57, 62], 37) := by decide +kernel
theorem dX8_plank_44 : decode cX8_plank 44 = .ok (.aload_n 3, 1) := by decide +kernel
theorem dX8_plank_45 : decode cX8_plank 45 = .ok (.getfield 182, 3) := by decide +kernel
theorem dX8_plank_48 : decode cX8_plank 48 = .ok (.ireturn, 1) := by decide +kernel
theorem dX8_plank_49 : decode cX8_plank 49 = .ok (.aload_n 3, 1) := by decide +kernel
theorem dX8_plank_50 : decode cX8_plank 50 = .ok (.getfield 185, 3) := by decide +kernel
theorem dX8_plank_53 : decode cX8_plank 53 = .ok (.ireturn, 1) := by decide +kernel
theorem dX8_plank_54 : decode cX8_plank 54 = .ok (.aload_n 3, 1) := by decide +kernel
theorem dX8_plank_55 : decode cX8_plank 55 = .ok (.getfield 186, 3) := by decide +kernel
theorem dX8_plank_58 : decode cX8_plank 58 = .ok (.ireturn, 1) := by decide +kernel
theorem dX8_plank_59 : decode cX8_plank 59 = .ok (.aload_n 3, 1) := by decide +kernel
theorem dX8_plank_60 : decode cX8_plank 60 = .ok (.getfield 187, 3) := by decide +kernel
theorem dX8_plank_63 : decode cX8_plank 63 = .ok (.ireturn, 1) := by decide +kernel
theorem dX8_plank_64 : decode cX8_plank 64 = .ok (.aload_n 3, 1) := by decide +kernel
theorem dX8_plank_65 : decode cX8_plank 65 = .ok (.getfield 190, 3) := by decide +kernel
theorem dX8_plank_68 : decode cX8_plank 68 = .ok (.ireturn, 1) := by decide +kernel
theorem dX8_plank_69 : decode cX8_plank 69 = .ok (.aload_n 3, 1) := by decide +kernel
theorem dX8_plank_70 : decode cX8_plank 70 = .ok (.getfield 193, 3) := by decide +kernel
theorem dX8_plank_73 : decode cX8_plank 73 = .ok (.ireturn, 1) := by decide +kernel
theorem dX8_plank_74 : decode cX8_plank 74 = .ok (.new 114, 3) := by decide +kernel
theorem dX8_plank_77 : decode cX8_plank 77 = .ok (.dup, 1) := by decide +kernel
theorem dX8_plank_78 : decode cX8_plank 78 = .ok (.ldc 196, 2) := by decide +kernel
theorem dX8_plank_80 : decode cX8_plank 80 = .ok (.invokespecial 118, 3) := by decide +kernel
theorem dX8_plank_83 : decode cX8_plank 83 = .ok (.athrow, 1) := by decide +kernel
set_option maxRecDepth 20000 in
theorem ggX8_lot_Jx4a65c_size_8abf5 : GoodIn wsX8_lot wsJx4a65c_size_8abf5 := goodIn_r _ [14, 15, 99, 100, 101] (by decide +kernel) (by decide +kernel)
set_option maxRecDepth 20000 in
theorem gX8_lot_Jx4a65c_size_8abf5 : GoodIn wsX8_lot (wsV RX8 85 RJx4a65c yJx4a65c_size_8abf5 wsJx4a65c_size_8abf5) := goodIn_app (goodIn_of _ (by decide +kernel)) ggX8_lot_Jx4a65c_size_8abf5
set_option maxRecDepth 20000 in
theorem ggX8_lot_X3_init : GoodIn wsX8_lot wsX3_init := goodIn_r _ [18, 19, 20, 21, 22, 23, 24, 25, 26, 27, 28, 93, 94, 95, 96, 97, 98] (by decide +kernel) (by decide +kernel)
set_option maxRecDepth 20000 in
theorem gX8_lot_X3_init : GoodIn wsX8_lot (wsX3_init) := ggX8_lot_X3_init
set_option maxRecDepth 20000 in
theorem ggX8_lot_Jx4a65c_add_9ea2d : GoodIn wsX8_lot wsJx4a65c_add_9ea2d := goodIn_r _ [32, 33, 34, 35, 15, 36, 37, 38, 13, 39, 40, 41, 42, 43, 44, 45, 46, 47, 48, 49, 50, 51, 52, 53, 54, 55, 56, 57, 58, 59, 60, 61, 62, 63, 64, 65, 66, 67, 68, 69, 70, 71, 72, 73, 74, 75, 76, 77, 78, 79, 80, 81, 82, 99, 100, 101] (by decide +kernel) (by decide +kernel)
set_option maxRecDepth 20000 in
theorem gX8_lot_Jx4a65c_add_9ea2d : GoodIn wsX8_lot (wsV RX8 95 RJx4a65c yJx4a65c_add_9ea2d wsJx4a65c_add_9ea2d) := goodIn_app (goodIn_of _ (by decide +kernel)) ggX8_lot_Jx4a65c_add_9ea2d
theorem dX8_lot_0 : decode cX8_lot 0 = .ok (.iload_n 1, 1) := by decide +kernel
theorem dX8_lot_1 : decode cX8_lot 1 = .ok (.ifCond .lt 9, 3) := by decide +kernel
theorem dX8_lot_4 : decode cX8_lot 4 = .ok (.iload_n 1, 1) := by decide +kernel
theorem dX8_lot_5 : decode cX8_lot 5 = .ok (.ldc 198, 2) := by decide +kernel
theorem dX8_lot_7 : decode cX8_lot 7 = .ok (.if_icmp .le 13, 3) := by decide +kernel
theorem dX8_lot_10 : decode cX8_lot 10 = .ok (.new 78, 3) := by decide +kernel
theorem dX8_lot_13 : decode cX8_lot 13 = .ok (.dup, 1) := by decide +kernel
theorem dX8_lot_14 : decode cX8_lot 14 = .ok (.ldc 199, 2) := by decide +kernel
theorem dX8_lot_16 : decode cX8_lot 16 = .ok (.invokespecial 82, 3) := by decide +kernel
theorem dX8_lot_19 : decode cX8_lot 19 = .ok (.athrow, 1) := by decide +kernel
theorem dX8_lot_20 : decode cX8_lot 20 = .ok (.aload_n 0, 1) := by decide +kernel
theorem dX8_lot_21 : decode cX8_lot 21 = .ok (.getfield 42, 3) := by decide +kernel
theorem dX8_lot_24 : decode cX8_lot 24 = .ok (.invokevirtual 85, 3) := by decide +kernel
theorem dX8_lot_27 : decode cX8_lot 27 = .ok (.bipush 40, 2) := by decide +kernel
theorem dX8_lot_29 : decode cX8_lot 29 = .ok (.if_icmp .lt 13, 3) := by decide +kernel
theorem dX8_lot_32 : decode cX8_lot 32 = .ok (.new 86, 3) := by decide +kernel
theorem dX8_lot_35 : decode cX8_lot 35 = .ok (.dup, 1) := by decide +kernel
theorem dX8_lot_36 : decode cX8_lot 36 = .ok (.ldc 201, 2) := by decide +kernel
theorem dX8_lot_38 : decode cX8_lot 38 = .ok (.invokespecial 90, 3) := by decide +kernel
theorem dX8_lot_41 : decode cX8_lot 41 = .ok (.athrow, 1) := by decide +kernel
theorem dX8_lot_42 : decode cX8_lot 42 = .ok (.aload_n 0, 1) := by decide +kernel
theorem dX8_lot_43 : decode cX8_lot 43 = .ok (.getfield 42, 3) := by decide +kernel
theorem dX8_lot_46 : decode cX8_lot 46 = .ok (.new 203, 3) := by decide +kernel
theorem dX8_lot_49 : decode cX8_lot 49 = .ok (.dup, 1) := by decide +kernel
theorem dX8_lot_50 : decode cX8_lot 50 = .ok (.iload_n 1, 1) := by decide +kernel
theorem dX8_lot_51 : decode cX8_lot 51 = .ok (.invokespecial 205, 3) := by decide +kernel
theorem dX8_lot_54 : decode cX8_lot 54 = .ok (.invokevirtual 95, 3) := by decide +kernel
theorem dX8_lot_57 : decode cX8_lot 57 = .ok (.pop, 1) := by decide +kernel
theorem dX8_lot_58 : decode cX8_lot 58 = .ok (.aload_n 0, 1) := by decide +kernel
theorem dX8_lot_59 : decode cX8_lot 59 = .ok (.getfield 42, 3) := by decide +kernel
theorem dX8_lot_62 : decode cX8_lot 62 = .ok (.invokevirtual 85, 3) := by decide +kernel
theorem dX8_lot_65 : decode cX8_lot 65 = .ok (.iconst 1, 1) := by decide +kernel
theorem dX8_lot_66 : decode cX8_lot 66 = .ok (.isub, 1) := by decide +kernel
theorem dX8_lot_67 : decode cX8_lot 67 = .ok (.ireturn, 1) := by decide +kernel
set_option maxRecDepth 20000 in
theorem ggX8_put_X8_lotAt : GoodIn wsX8_put wsX8_lotAt := goodIn_ca (goodIn_r _ [5, 6, 7, 8, 9, 10, 11, 12, 13, 14, 15, 16, 17, 18, 19, 20, 21, 22, 23, 24, 25, 26, 27, 28, 29, 30, 31, 32, 66, 67, 68, 69, 70, 71, 72, 73, 74, 75, 76, 77, 78] (by decide +kernel) (by decide +kernel)) (goodIn_sub (fun _ h => List.mem_cons_of_mem _ (List.mem_append_right _ h)) (by decide +kernel))
set_option maxRecDepth 20000 in
theorem gX8_put_X8_lotAt : GoodIn wsX8_put (wsV RX8 206 RX8 yX8_lotAt wsX8_lotAt) := goodIn_app (goodIn_of _ (by decide +kernel)) ggX8_put_X8_lotAt
set_option maxRecDepth 20000 in
theorem ggX8_put_X8_plankAt : GoodIn wsX8_put wsX8_plankAt := goodIn_ca (goodIn_r _ [36, 6, 7, 37, 38, 10, 11, 12, 13, 14, 15, 16, 17, 18, 19, 20, 21, 22, 23, 24, 25, 26, 27, 28, 29, 30, 31, 32, 66, 67, 68, 69, 70, 71, 72, 73, 74, 75, 76, 77, 78] (by decide +kernel) (by decide +kernel)) (goodIn_sub (fun _ h => List.mem_cons_of_mem _ (List.mem_append_right _ h)) (by decide +kernel))
set_option maxRecDepth 20000 in
theorem gX8_put_X8_plankAt : GoodIn wsX8_put (wsV RX8 178 RX8 yX8_plankAt wsX8_plankAt) := goodIn_app (goodIn_of _ (by decide +kernel)) ggX8_put_X8_plankAt
set_option maxRecDepth 20000 in
theorem ggX8_put_X3_isSold : GoodIn wsX8_put wsX3_isSold := goodIn_r _ [43, 44, 79, 80, 81, 82, 83, 84] (by decide +kernel) (by decide +kernel)
set_option maxRecDepth 20000 in
theorem gX8_put_X3_isSold : GoodIn wsX8_put (wsV RX8 210 RX3 yX3_isSold wsX3_isSold) := goodIn_app (goodIn_of _ (by decide +kernel)) ggX8_put_X3_isSold
set_option maxRecDepth 20000 in
theorem ggX8_put_X3_take : GoodIn wsX8_put wsX3_take := goodIn_r _ [48, 49, 50, 51, 52, 53, 54, 55, 56, 57, 58, 59, 79, 80, 81, 82, 83, 84, 60, 61, 62, 63, 64, 65] (by decide +kernel) (by decide +kernel)
set_option maxRecDepth 20000 in
theorem gX8_put_X3_take : GoodIn wsX8_put (wsV RX8 214 RX3 yX3_take wsX3_take) := goodIn_app (goodIn_of _ (by decide +kernel)) ggX8_put_X3_take
theorem dX8_put_0 : decode cX8_put 0 = .ok (.aload_n 0, 1) := by decide +kernel
theorem dX8_put_1 : decode cX8_put 1 = .ok (.iload_n 1, 1) := by decide +kernel
theorem dX8_put_2 : decode cX8_put 2 = .ok (.invokevirtual 206, 3) := by decide +kernel
theorem dX8_put_5 : decode cX8_put 5 = .ok (.astore_n 3, 1) := by decide +kernel
theorem dX8_put_6 : decode cX8_put 6 = .ok (.aload_n 0, 1) := by decide +kernel
theorem dX8_put_7 : decode cX8_put 7 = .ok (.iload_n 2, 1) := by decide +kernel
theorem dX8_put_8 : decode cX8_put 8 = .ok (.invokevirtual 178, 3) := by decide +kernel
theorem dX8_put_11 : decode cX8_put 11 = .ok (.astore 4, 2) := by decide +kernel
theorem dX8_put_13 : decode cX8_put 13 = .ok (.aload 4, 2) := by decide +kernel
theorem dX8_put_15 : decode cX8_put 15 = .ok (.getfield 193, 3) := by decide +kernel
theorem dX8_put_18 : decode cX8_put 18 = .ok (.iconst (-1), 1) := by decide +kernel
theorem dX8_put_19 : decode cX8_put 19 = .ok (.if_icmp .ne 10, 3) := by decide +kernel
theorem dX8_put_22 : decode cX8_put 22 = .ok (.aload_n 3, 1) := by decide +kernel
theorem dX8_put_23 : decode cX8_put 23 = .ok (.invokevirtual 210, 3) := by decide +kernel
theorem dX8_put_26 : decode cX8_put 26 = .ok (.ifCond .eq 5, 3) := by decide +kernel
theorem dX8_put_29 : decode cX8_put 29 = .ok (.iconst 0, 1) := by decide +kernel
theorem dX8_put_30 : decode cX8_put 30 = .ok (.ireturn, 1) := by decide +kernel
theorem dX8_put_31 : decode cX8_put 31 = .ok (.aload 4, 2) := by decide +kernel
theorem dX8_put_33 : decode cX8_put 33 = .ok (.iload_n 1, 1) := by decide +kernel
theorem dX8_put_34 : decode cX8_put 34 = .ok (.putfield 193, 3) := by decide +kernel
theorem dX8_put_37 : decode cX8_put 37 = .ok (.aload_n 3, 1) := by decide +kernel
theorem dX8_put_38 : decode cX8_put 38 = .ok (.aload 4, 2) := by decide +kernel
theorem dX8_put_40 : decode cX8_put 40 = .ok (.invokevirtual 214, 3) := by decide +kernel
theorem dX8_put_43 : decode cX8_put 43 = .ok (.iconst 1, 1) := by decide +kernel
theorem dX8_put_44 : decode cX8_put 44 = .ok (.ireturn, 1) := by decide +kernel
set_option maxRecDepth 20000 in
theorem ggX8_bid_X8_lotAt : GoodIn wsX8_bid wsX8_lotAt := goodIn_ca (goodIn_r _ [8, 9, 10, 11, 12, 13, 14, 15, 16, 17, 18, 19, 20, 21, 22, 23, 24, 25, 26, 27, 28, 29, 30, 31, 32, 33, 34, 35, 48, 49, 50, 51, 52, 53, 54, 55, 56, 57, 58, 59, 60] (by decide +kernel) (by decide +kernel)) (goodIn_sub (fun _ h => List.mem_cons_of_mem _ (List.mem_append_right _ h)) (by decide +kernel))
set_option maxRecDepth 20000 in
theorem gX8_bid_X8_lotAt : GoodIn wsX8_bid (wsV RX8 206 RX8 yX8_lotAt wsX8_lotAt) := goodIn_app (goodIn_of _ (by decide +kernel)) ggX8_bid_X8_lotAt
set_option maxRecDepth 20000 in
theorem ggX8_bid_X3_isSold : GoodIn wsX8_bid wsX3_isSold := goodIn_r _ [40, 41, 42, 43, 44, 45, 46, 47] (by decide +kernel) (by decide +kernel)
set_option maxRecDepth 20000 in
theorem gX8_bid_X3_isSold : GoodIn wsX8_bid (wsV RX8 210 RX3 yX3_isSold wsX3_isSold) := goodIn_app (goodIn_of _ (by decide +kernel)) ggX8_bid_X3_isSold
theorem dX8_bid_0 : decode cX8_bid 0 = .ok (.aload_n 0, 1) := by decide +kernel
theorem dX8_bid_1 : decode cX8_bid 1 = .ok (.iload_n 1, 1) := by decide +kernel
theorem dX8_bid_2 : decode cX8_bid 2 = .ok (.invokevirtual 206, 3) := by decide +kernel
theorem dX8_bid_5 : decode cX8_bid 5 = .ok (.astore 4, 2) := by decide +kernel
theorem dX8_bid_7 : decode cX8_bid 7 = .ok (.iload_n 2, 1) := by decide +kernel
theorem dX8_bid_8 : decode cX8_bid 8 = .ok (.ifCond .lt 9, 3) := by decide +kernel
theorem dX8_bid_11 : decode cX8_bid 11 = .ok (.iload_n 2, 1) := by decide +kernel
theorem dX8_bid_12 : decode cX8_bid 12 = .ok (.bipush 8, 2) := by decide +kernel
theorem dX8_bid_14 : decode cX8_bid 14 = .ok (.if_icmp .lt 13, 3) := by decide +kernel
theorem dX8_bid_17 : decode cX8_bid 17 = .ok (.new 78, 3) := by decide +kernel
theorem dX8_bid_20 : decode cX8_bid 20 = .ok (.dup, 1) := by decide +kernel
theorem dX8_bid_21 : decode cX8_bid 21 = .ok (.ldc 218, 2) := by decide +kernel
theorem dX8_bid_23 : decode cX8_bid 23 = .ok (.invokespecial 82, 3) := by decide +kernel
theorem dX8_bid_26 : decode cX8_bid 26 = .ok (.athrow, 1) := by decide +kernel
theorem dX8_bid_27 : decode cX8_bid 27 = .ok (.iload_n 3, 1) := by decide +kernel
theorem dX8_bid_28 : decode cX8_bid 28 = .ok (.ifCond .lt 9, 3) := by decide +kernel
theorem dX8_bid_31 : decode cX8_bid 31 = .ok (.iload_n 3, 1) := by decide +kernel
theorem dX8_bid_32 : decode cX8_bid 32 = .ok (.ldc 198, 2) := by decide +kernel
theorem dX8_bid_34 : decode cX8_bid 34 = .ok (.if_icmp .le 13, 3) := by decide +kernel
theorem dX8_bid_37 : decode cX8_bid 37 = .ok (.new 78, 3) := by decide +kernel
theorem dX8_bid_40 : decode cX8_bid 40 = .ok (.dup, 1) := by decide +kernel
theorem dX8_bid_41 : decode cX8_bid 41 = .ok (.ldc 220, 2) := by decide +kernel
theorem dX8_bid_43 : decode cX8_bid 43 = .ok (.invokespecial 82, 3) := by decide +kernel
theorem dX8_bid_46 : decode cX8_bid 46 = .ok (.athrow, 1) := by decide +kernel
theorem dX8_bid_47 : decode cX8_bid 47 = .ok (.aload 4, 2) := by decide +kernel
theorem dX8_bid_49 : decode cX8_bid 49 = .ok (.invokevirtual 210, 3) := by decide +kernel
theorem dX8_bid_52 : decode cX8_bid 52 = .ok (.ifCond .ne 12, 3) := by decide +kernel
theorem dX8_bid_55 : decode cX8_bid 55 = .ok (.iload_n 3, 1) := by decide +kernel
theorem dX8_bid_56 : decode cX8_bid 56 = .ok (.aload 4, 2) := by decide +kernel
theorem dX8_bid_58 : decode cX8_bid 58 = .ok (.getfield 222, 3) := by decide +kernel
theorem dX8_bid_61 : decode cX8_bid 61 = .ok (.if_icmp .ge 5, 3) := by decide +kernel
theorem dX8_bid_64 : decode cX8_bid 64 = .ok (.iconst 0, 1) := by decide +kernel
theorem dX8_bid_65 : decode cX8_bid 65 = .ok (.ireturn, 1) := by decide +kernel
theorem dX8_bid_66 : decode cX8_bid 66 = .ok (.aload 4, 2) := by decide +kernel
theorem dX8_bid_68 : decode cX8_bid 68 = .ok (.getfield 225, 3) := by decide +kernel
theorem dX8_bid_71 : decode cX8_bid 71 = .ok (.iload_n 2, 1) := by decide +kernel
theorem dX8_bid_72 : decode cX8_bid 72 = .ok (.iload_n 3, 1) := by decide +kernel
theorem dX8_bid_73 : decode cX8_bid 73 = .ok (.iastore, 1) := by decide +kernel
theorem dX8_bid_74 : decode cX8_bid 74 = .ok (.iconst 1, 1) := by decide +kernel
theorem dX8_bid_75 : decode cX8_bid 75 = .ok (.ireturn, 1) := by decide +kernel
set_option maxRecDepth 20000 in
theorem ggX8_sell_X8_lotAt : GoodIn wsX8_sell wsX8_lotAt := goodIn_ca (goodIn_r _ [5, 6, 7, 8, 9, 10, 11, 12, 13, 14, 15, 16, 17, 18, 19, 20, 21, 22, 23, 24, 25, 26, 27, 28, 29, 30, 31, 32, 53, 54, 55, 56, 57, 58, 59, 60, 61, 62, 63, 64, 65] (by decide +kernel) (by decide +kernel)) (goodIn_sub (fun _ h => List.mem_cons_of_mem _ (List.mem_append_right _ h)) (by decide +kernel))
set_option maxRecDepth 20000 in
theorem gX8_sell_X8_lotAt : GoodIn wsX8_sell (wsV RX8 206 RX8 yX8_lotAt wsX8_lotAt) := goodIn_app (goodIn_of _ (by decide +kernel)) ggX8_sell_X8_lotAt
set_option maxRecDepth 20000 in
theorem ggX8_sell_X3_isSold : GoodIn wsX8_sell wsX3_isSold := goodIn_r _ [37, 38, 47, 48, 49, 50, 51, 52] (by decide +kernel) (by decide +kernel)
set_option maxRecDepth 20000 in
theorem gX8_sell_X3_isSold : GoodIn wsX8_sell (wsV RX8 210 RX3 yX3_isSold wsX3_isSold) := goodIn_app (goodIn_of _ (by decide +kernel)) ggX8_sell_X3_isSold
set_option maxRecDepth 20000 in
theorem ggX8_sell_X3_goToGreatestBid : GoodIn wsX8_sell wsX3_goToGreatestBid := goodIn_r _ [42, 43, 38, 44, 45, 46, 34, 35, 36, 37, 47, 48, 49, 50, 51, 52] (by decide +kernel) (by decide +kernel)
set_option maxRecDepth 20000 in
theorem gX8_sell_X3_goToGreatestBid : GoodIn wsX8_sell (wsV RX8 229 RX3 yX3_goToGreatestBid wsX3_goToGreatestBid) := goodIn_app (goodIn_of _ (by decide +kernel)) ggX8_sell_X3_goToGreatestBid
theorem dX8_sell_0 : decode cX8_sell 0 = .ok (.aload_n 0, 1) := by decide +kernel
theorem dX8_sell_1 : decode cX8_sell 1 = .ok (.iload_n 1, 1) := by decide +kernel
theorem dX8_sell_2 : decode cX8_sell 2 = .ok (.invokevirtual 206, 3) := by decide +kernel
theorem dX8_sell_5 : decode cX8_sell 5 = .ok (.astore_n 2, 1) := by decide +kernel
theorem dX8_sell_6 : decode cX8_sell 6 = .ok (.aload_n 2, 1) := by decide +kernel
theorem dX8_sell_7 : decode cX8_sell 7 = .ok (.invokevirtual 210, 3) := by decide +kernel
theorem dX8_sell_10 : decode cX8_sell 10 = .ok (.ifCond .eq 5, 3) := by decide +kernel
theorem dX8_sell_13 : decode cX8_sell 13 = .ok (.iconst (-1), 1) := by decide +kernel
theorem dX8_sell_14 : decode cX8_sell 14 = .ok (.ireturn, 1) := by decide +kernel
theorem dX8_sell_15 : decode cX8_sell 15 = .ok (.aload_n 2, 1) := by decide +kernel
theorem dX8_sell_16 : decode cX8_sell 16 = .ok (.invokevirtual 229, 3) := by decide +kernel
theorem dX8_sell_19 : decode cX8_sell 19 = .ok (.aload_n 2, 1) := by decide +kernel
theorem dX8_sell_20 : decode cX8_sell 20 = .ok (.getfield 232, 3) := by decide +kernel
theorem dX8_sell_23 : decode cX8_sell 23 = .ok (.ireturn, 1) := by decide +kernel
set_option maxRecDepth 20000 in
theorem ggX8_offer_X8_lotAt : GoodIn wsX8_offer wsX8_lotAt := goodIn_ca (goodIn_r _ [7, 8, 9, 10, 11, 12, 13, 14, 15, 16, 17, 18, 19, 20, 21, 22, 23, 24, 25, 26, 27, 28, 29, 30, 31, 32, 33, 34, 41, 42, 43, 44, 45, 46, 47, 48, 49, 50, 51, 52, 53] (by decide +kernel) (by decide +kernel)) (goodIn_sub (fun _ h => List.mem_cons_of_mem _ (List.mem_append_right _ h)) (by decide +kernel))
set_option maxRecDepth 20000 in
theorem gX8_offer_X8_lotAt : GoodIn wsX8_offer (wsV RX8 206 RX8 yX8_lotAt wsX8_lotAt) := goodIn_app (goodIn_of _ (by decide +kernel)) ggX8_offer_X8_lotAt
theorem dX8_offer_0 : decode cX8_offer 0 = .ok (.aload_n 0, 1) := by decide +kernel
theorem dX8_offer_1 : decode cX8_offer 1 = .ok (.iload_n 1, 1) := by decide +kernel
theorem dX8_offer_2 : decode cX8_offer 2 = .ok (.invokevirtual 206, 3) := by decide +kernel
theorem dX8_offer_5 : decode cX8_offer 5 = .ok (.astore_n 3, 1) := by decide +kernel
theorem dX8_offer_6 : decode cX8_offer 6 = .ok (.iload_n 2, 1) := by decide +kernel
theorem dX8_offer_7 : decode cX8_offer 7 = .ok (.tableswitch 58 0 4 #[33, 38, 43, 48, 53], 33) := by decide +kernel
theorem dX8_offer_40 : decode cX8_offer 40 = .ok (.aload_n 3, 1) := by decide +kernel
theorem dX8_offer_41 : decode cX8_offer 41 = .ok (.getfield 222, 3) := by decide +kernel
theorem dX8_offer_44 : decode cX8_offer 44 = .ok (.ireturn, 1) := by decide +kernel
theorem dX8_offer_45 : decode cX8_offer 45 = .ok (.aload_n 3, 1) := by decide +kernel
theorem dX8_offer_46 : decode cX8_offer 46 = .ok (.getfield 235, 3) := by decide +kernel
theorem dX8_offer_49 : decode cX8_offer 49 = .ok (.ireturn, 1) := by decide +kernel
theorem dX8_offer_50 : decode cX8_offer 50 = .ok (.aload_n 3, 1) := by decide +kernel
theorem dX8_offer_51 : decode cX8_offer 51 = .ok (.getfield 238, 3) := by decide +kernel
theorem dX8_offer_54 : decode cX8_offer 54 = .ok (.ireturn, 1) := by decide +kernel
theorem dX8_offer_55 : decode cX8_offer 55 = .ok (.aload_n 3, 1) := by decide +kernel
theorem dX8_offer_56 : decode cX8_offer 56 = .ok (.getfield 232, 3) := by decide +kernel
theorem dX8_offer_59 : decode cX8_offer 59 = .ok (.ireturn, 1) := by decide +kernel
theorem dX8_offer_60 : decode cX8_offer 60 = .ok (.aload_n 3, 1) := by decide +kernel
theorem dX8_offer_61 : decode cX8_offer 61 = .ok (.getfield 241, 3) := by decide +kernel
theorem dX8_offer_64 : decode cX8_offer 64 = .ok (.ireturn, 1) := by decide +kernel
theorem dX8_offer_65 : decode cX8_offer 65 = .ok (.new 114, 3) := by decide +kernel
theorem dX8_offer_68 : decode cX8_offer 68 = .ok (.dup, 1) := by decide +kernel
theorem dX8_offer_69 : decode cX8_offer 69 = .ok (.ldc 244, 2) := by decide +kernel
theorem dX8_offer_71 : decode cX8_offer 71 = .ok (.invokespecial 118, 3) := by decide +kernel
theorem dX8_offer_74 : decode cX8_offer 74 = .ok (.athrow, 1) := by decide +kernel
set_option maxRecDepth 20000 in
theorem ggX8_lay_X0_layStrip : GoodIn wsX8_lay wsX0_layStrip := goodIn_r _ [8, 9, 10, 11, 12, 7, 13, 24, 25, 26, 27, 28, 29, 30, 31] (by decide +kernel) (by decide +kernel)
set_option maxRecDepth 20000 in
theorem gX8_lay_X0_layStrip : GoodIn wsX8_lay (wsV RX8 248 RX0 yX0_layStrip wsX0_layStrip) := goodIn_app (goodIn_of _ (by decide +kernel)) ggX8_lay_X0_layStrip
theorem dX8_lay_0 : decode cX8_lay 0 = .ok (.iload_n 1, 1) := by decide +kernel
theorem dX8_lay_1 : decode cX8_lay 1 = .ok (.iconst 1, 1) := by decide +kernel
theorem dX8_lay_2 : decode cX8_lay 2 = .ok (.if_icmp .lt 9, 3) := by decide +kernel
theorem dX8_lay_5 : decode cX8_lay 5 = .ok (.iload_n 1, 1) := by decide +kernel
theorem dX8_lay_6 : decode cX8_lay 6 = .ok (.bipush 60, 2) := by decide +kernel
theorem dX8_lay_8 : decode cX8_lay 8 = .ok (.if_icmp .le 13, 3) := by decide +kernel
theorem dX8_lay_11 : decode cX8_lay 11 = .ok (.new 78, 3) := by decide +kernel
theorem dX8_lay_14 : decode cX8_lay 14 = .ok (.dup, 1) := by decide +kernel
theorem dX8_lay_15 : decode cX8_lay 15 = .ok (.ldc 246, 2) := by decide +kernel
theorem dX8_lay_17 : decode cX8_lay 17 = .ok (.invokespecial 82, 3) := by decide +kernel
theorem dX8_lay_20 : decode cX8_lay 20 = .ok (.athrow, 1) := by decide +kernel
theorem dX8_lay_21 : decode cX8_lay 21 = .ok (.aload_n 0, 1) := by decide +kernel
theorem dX8_lay_22 : decode cX8_lay 22 = .ok (.getfield 48, 3) := by decide +kernel
theorem dX8_lay_25 : decode cX8_lay 25 = .ok (.iload_n 1, 1) := by decide +kernel
theorem dX8_lay_26 : decode cX8_lay 26 = .ok (.iload_n 2, 1) := by decide +kernel
theorem dX8_lay_27 : decode cX8_lay 27 = .ok (.iload_n 3, 1) := by decide +kernel
theorem dX8_lay_28 : decode cX8_lay 28 = .ok (.invokevirtual 248, 3) := by decide +kernel
theorem dX8_lay_31 : decode cX8_lay 31 = .ok (.return_, 1) := by decide +kernel
set_option maxRecDepth 20000 in
theorem ggX8_sort_X0_addSort : GoodIn wsX8_sort wsX0_addSort := goodIn_r _ [8, 9, 10, 11, 12, 23, 24, 25, 26, 27, 28, 29, 30] (by decide +kernel) (by decide +kernel)
set_option maxRecDepth 20000 in
theorem gX8_sort_X0_addSort : GoodIn wsX8_sort (wsV RX8 258 RX0 yX0_addSort wsX0_addSort) := goodIn_app (goodIn_of _ (by decide +kernel)) ggX8_sort_X0_addSort
theorem dX8_sort_0 : decode cX8_sort 0 = .ok (.iload_n 1, 1) := by decide +kernel
theorem dX8_sort_1 : decode cX8_sort 1 = .ok (.iconst 1, 1) := by decide +kernel
theorem dX8_sort_2 : decode cX8_sort 2 = .ok (.if_icmp .lt 9, 3) := by decide +kernel
theorem dX8_sort_5 : decode cX8_sort 5 = .ok (.iload_n 1, 1) := by decide +kernel
theorem dX8_sort_6 : decode cX8_sort 6 = .ok (.bipush 12, 2) := by decide +kernel
theorem dX8_sort_8 : decode cX8_sort 8 = .ok (.if_icmp .le 13, 3) := by decide +kernel
theorem dX8_sort_11 : decode cX8_sort 11 = .ok (.new 78, 3) := by decide +kernel
theorem dX8_sort_14 : decode cX8_sort 14 = .ok (.dup, 1) := by decide +kernel
theorem dX8_sort_15 : decode cX8_sort 15 = .ok (.ldc 252, 2) := by decide +kernel
theorem dX8_sort_17 : decode cX8_sort 17 = .ok (.invokespecial 82, 3) := by decide +kernel
theorem dX8_sort_20 : decode cX8_sort 20 = .ok (.athrow, 1) := by decide +kernel
theorem dX8_sort_21 : decode cX8_sort 21 = .ok (.iload_n 2, 1) := by decide +kernel
theorem dX8_sort_22 : decode cX8_sort 22 = .ok (.ifCond .lt 10, 3) := by decide +kernel
theorem dX8_sort_25 : decode cX8_sort 25 = .ok (.iload_n 2, 1) := by decide +kernel
theorem dX8_sort_26 : decode cX8_sort 26 = .ok (.sipush 1000, 3) := by decide +kernel
theorem dX8_sort_29 : decode cX8_sort 29 = .ok (.if_icmp .le 13, 3) := by decide +kernel
theorem dX8_sort_32 : decode cX8_sort 32 = .ok (.new 78, 3) := by decide +kernel
theorem dX8_sort_35 : decode cX8_sort 35 = .ok (.dup, 1) := by decide +kernel
theorem dX8_sort_36 : decode cX8_sort 36 = .ok (.ldc 254, 2) := by decide +kernel
theorem dX8_sort_38 : decode cX8_sort 38 = .ok (.invokespecial 82, 3) := by decide +kernel
theorem dX8_sort_41 : decode cX8_sort 41 = .ok (.athrow, 1) := by decide +kernel
theorem dX8_sort_42 : decode cX8_sort 42 = .ok (.iload_n 3, 1) := by decide +kernel
theorem dX8_sort_43 : decode cX8_sort 43 = .ok (.ifCond .lt 9, 3) := by decide +kernel
theorem dX8_sort_46 : decode cX8_sort 46 = .ok (.iload_n 3, 1) := by decide +kernel
theorem dX8_sort_47 : decode cX8_sort 47 = .ok (.bipush 12, 2) := by decide +kernel
theorem dX8_sort_49 : decode cX8_sort 49 = .ok (.if_icmp .le 14, 3) := by decide +kernel
theorem dX8_sort_52 : decode cX8_sort 52 = .ok (.new 78, 3) := by decide +kernel
theorem dX8_sort_55 : decode cX8_sort 55 = .ok (.dup, 1) := by decide +kernel
theorem dX8_sort_56 : decode cX8_sort 56 = .ok (.ldc_w 256, 3) := by decide +kernel
theorem dX8_sort_59 : decode cX8_sort 59 = .ok (.invokespecial 82, 3) := by decide +kernel
theorem dX8_sort_62 : decode cX8_sort 62 = .ok (.athrow, 1) := by decide +kernel
theorem dX8_sort_63 : decode cX8_sort 63 = .ok (.aload_n 0, 1) := by decide +kernel
theorem dX8_sort_64 : decode cX8_sort 64 = .ok (.getfield 48, 3) := by decide +kernel
theorem dX8_sort_67 : decode cX8_sort 67 = .ok (.iload_n 1, 1) := by decide +kernel
theorem dX8_sort_68 : decode cX8_sort 68 = .ok (.iload_n 2, 1) := by decide +kernel
theorem dX8_sort_69 : decode cX8_sort 69 = .ok (.iload_n 3, 1) := by decide +kernel
theorem dX8_sort_70 : decode cX8_sort 70 = .ok (.invokevirtual 258, 3) := by decide +kernel
theorem dX8_sort_73 : decode cX8_sort 73 = .ok (.ireturn, 1) := by decide +kernel
set_option maxRecDepth 20000 in
theorem ggX8_unsort_X0_dropSorts : GoodIn wsX8_unsort wsX0_dropSorts := goodIn_r _ [6, 7, 18, 19, 20, 21, 22, 23, 24, 25] (by decide +kernel) (by decide +kernel)
set_option maxRecDepth 20000 in
theorem gX8_unsort_X0_dropSorts : GoodIn wsX8_unsort (wsV RX8 262 RX0 yX0_dropSorts wsX0_dropSorts) := goodIn_app (goodIn_of _ (by decide +kernel)) ggX8_unsort_X0_dropSorts
theorem dX8_unsort_0 : decode cX8_unsort 0 = .ok (.aload_n 0, 1) := by decide +kernel
theorem dX8_unsort_1 : decode cX8_unsort 1 = .ok (.getfield 48, 3) := by decide +kernel
theorem dX8_unsort_4 : decode cX8_unsort 4 = .ok (.invokevirtual 262, 3) := by decide +kernel
theorem dX8_unsort_7 : decode cX8_unsort 7 = .ok (.ireturn, 1) := by decide +kernel
set_option maxRecDepth 20000 in
theorem ggX8_punch_X0_layStoppers : GoodIn wsX8_punch wsX0_layStoppers := goodIn_r _ [6, 7, 8, 9, 10, 11, 12, 13, 5, 14, 15, 16, 17, 18, 19, 20, 21, 22, 23, 24, 25, 26, 27, 28, 29, 30, 31, 32, 51, 52, 53, 54, 55, 56, 57, 58] (by decide +kernel) (by decide +kernel)
set_option maxRecDepth 20000 in
theorem gX8_punch_X0_layStoppers : GoodIn wsX8_punch (wsV RX8 265 RX0 yX0_layStoppers wsX0_layStoppers) := goodIn_app (goodIn_of _ (by decide +kernel)) ggX8_punch_X0_layStoppers
set_option maxRecDepth 20000 in
theorem ggX8_punch_X0_fewestStoppers : GoodIn wsX8_punch wsX0_fewestStoppers := goodIn_r _ [36, 8, 9, 51, 52, 53, 54, 55, 56, 57, 58] (by decide +kernel) (by decide +kernel)
set_option maxRecDepth 20000 in
theorem gX8_punch_X0_fewestStoppers : GoodIn wsX8_punch (wsV RX8 268 RX0 yX0_fewestStoppers wsX0_fewestStoppers) := goodIn_app (goodIn_of _ (by decide +kernel)) ggX8_punch_X0_fewestStoppers
set_option maxRecDepth 20000 in
theorem ggX8_punch_X0_greatestWorth : GoodIn wsX8_punch wsX0_greatestWorth := goodIn_r _ [40, 7, 9, 51, 52, 53, 54, 55, 56, 57, 58] (by decide +kernel) (by decide +kernel)
set_option maxRecDepth 20000 in
theorem gX8_punch_X0_greatestWorth : GoodIn wsX8_punch (wsV RX8 271 RX0 yX0_greatestWorth wsX0_greatestWorth) := goodIn_app (goodIn_of _ (by decide +kernel)) ggX8_punch_X0_greatestWorth
theorem dX8_punch_0 : decode cX8_punch 0 = .ok (.aload_n 0, 1) := by decide +kernel
theorem dX8_punch_1 : decode cX8_punch 1 = .ok (.getfield 48, 3) := by decide +kernel
theorem dX8_punch_4 : decode cX8_punch 4 = .ok (.invokevirtual 265, 3) := by decide +kernel
theorem dX8_punch_7 : decode cX8_punch 7 = .ok (.iload_n 1, 1) := by decide +kernel
theorem dX8_punch_8 : decode cX8_punch 8 = .ok (.ifCond .eq 13, 3) := by decide +kernel
theorem dX8_punch_11 : decode cX8_punch 11 = .ok (.aload_n 0, 1) := by decide +kernel
theorem dX8_punch_12 : decode cX8_punch 12 = .ok (.getfield 48, 3) := by decide +kernel
theorem dX8_punch_15 : decode cX8_punch 15 = .ok (.invokevirtual 268, 3) := by decide +kernel
theorem dX8_punch_18 : decode cX8_punch 18 = .ok (.goto 10, 3) := by decide +kernel
theorem dX8_punch_21 : decode cX8_punch 21 = .ok (.aload_n 0, 1) := by decide +kernel
theorem dX8_punch_22 : decode cX8_punch 22 = .ok (.getfield 48, 3) := by decide +kernel
theorem dX8_punch_25 : decode cX8_punch 25 = .ok (.invokevirtual 271, 3) := by decide +kernel
theorem dX8_punch_28 : decode cX8_punch 28 = .ok (.ireturn, 1) := by decide +kernel
set_option maxRecDepth 20000 in
theorem ggX8_stand_X5_addStand : GoodIn wsX8_stand wsX5_addStand := goodIn_r _ [9, 10, 11, 12, 13, 24, 25, 26, 27, 28, 29, 30, 31] (by decide +kernel) (by decide +kernel)
set_option maxRecDepth 20000 in
theorem gX8_stand_X5_addStand : GoodIn wsX8_stand (wsV RX8 278 RX5 yX5_addStand wsX5_addStand) := goodIn_app (goodIn_of _ (by decide +kernel)) ggX8_stand_X5_addStand
theorem dX8_stand_0 : decode cX8_stand 0 = .ok (.iload_n 1, 1) := by decide +kernel
theorem dX8_stand_1 : decode cX8_stand 1 = .ok (.ifCond .lt 9, 3) := by decide +kernel
theorem dX8_stand_4 : decode cX8_stand 4 = .ok (.iload_n 1, 1) := by decide +kernel
theorem dX8_stand_5 : decode cX8_stand 5 = .ok (.ldc 198, 2) := by decide +kernel
theorem dX8_stand_7 : decode cX8_stand 7 = .ok (.if_icmp .le 14, 3) := by decide +kernel
theorem dX8_stand_10 : decode cX8_stand 10 = .ok (.new 78, 3) := by decide +kernel
theorem dX8_stand_13 : decode cX8_stand 13 = .ok (.dup, 1) := by decide +kernel
theorem dX8_stand_14 : decode cX8_stand 14 = .ok (.ldc_w 274, 3) := by decide +kernel
theorem dX8_stand_17 : decode cX8_stand 17 = .ok (.invokespecial 82, 3) := by decide +kernel
theorem dX8_stand_20 : decode cX8_stand 20 = .ok (.athrow, 1) := by decide +kernel
theorem dX8_stand_21 : decode cX8_stand 21 = .ok (.iload_n 2, 1) := by decide +kernel
theorem dX8_stand_22 : decode cX8_stand 22 = .ok (.iconst 1, 1) := by decide +kernel
theorem dX8_stand_23 : decode cX8_stand 23 = .ok (.if_icmp .lt 10, 3) := by decide +kernel
theorem dX8_stand_26 : decode cX8_stand 26 = .ok (.iload_n 2, 1) := by decide +kernel
theorem dX8_stand_27 : decode cX8_stand 27 = .ok (.sipush 511, 3) := by decide +kernel
theorem dX8_stand_30 : decode cX8_stand 30 = .ok (.if_icmp .le 14, 3) := by decide +kernel
theorem dX8_stand_33 : decode cX8_stand 33 = .ok (.new 78, 3) := by decide +kernel
theorem dX8_stand_36 : decode cX8_stand 36 = .ok (.dup, 1) := by decide +kernel
theorem dX8_stand_37 : decode cX8_stand 37 = .ok (.ldc_w 276, 3) := by decide +kernel
theorem dX8_stand_40 : decode cX8_stand 40 = .ok (.invokespecial 82, 3) := by decide +kernel
theorem dX8_stand_43 : decode cX8_stand 43 = .ok (.athrow, 1) := by decide +kernel
theorem dX8_stand_44 : decode cX8_stand 44 = .ok (.aload_n 0, 1) := by decide +kernel
theorem dX8_stand_45 : decode cX8_stand 45 = .ok (.getfield 55, 3) := by decide +kernel
theorem dX8_stand_48 : decode cX8_stand 48 = .ok (.iload_n 1, 1) := by decide +kernel
theorem dX8_stand_49 : decode cX8_stand 49 = .ok (.iload_n 2, 1) := by decide +kernel
theorem dX8_stand_50 : decode cX8_stand 50 = .ok (.invokevirtual 278, 3) := by decide +kernel
theorem dX8_stand_53 : decode cX8_stand 53 = .ok (.ireturn, 1) := by decide +kernel
set_option maxRecDepth 20000 in
theorem ggX8_even_X5_leastBurden : GoodIn wsX8_even wsX5_leastBurden := goodIn_r _ [6, 7, 8, 9, 10, 5, 11, 12, 13, 14, 15, 16, 17, 18, 19, 20, 21, 22, 23, 24, 25, 26, 27, 28, 29, 30, 31, 32, 33, 34, 35, 36, 37, 38, 39, 50, 51, 52, 53, 54, 55, 56, 57] (by decide +kernel) (by decide +kernel)
set_option maxRecDepth 20000 in
theorem gX8_even_X5_leastBurden : GoodIn wsX8_even (wsV RX8 282 RX5 yX5_leastBurden wsX5_leastBurden) := goodIn_app (goodIn_of _ (by decide +kernel)) ggX8_even_X5_leastBurden
theorem dX8_even_0 : decode cX8_even 0 = .ok (.aload_n 0, 1) := by decide +kernel
theorem dX8_even_1 : decode cX8_even 1 = .ok (.getfield 55, 3) := by decide +kernel
theorem dX8_even_4 : decode cX8_even 4 = .ok (.invokevirtual 282, 3) := by decide +kernel
theorem dX8_even_7 : decode cX8_even 7 = .ok (.ireturn, 1) := by decide +kernel
set_option maxRecDepth 20000 in
theorem ggX8_plan_X5_size : GoodIn wsX8_plan wsX5_size := goodIn_r _ [8, 9, 56, 57, 58, 59, 60, 61, 62, 63] (by decide +kernel) (by decide +kernel)
set_option maxRecDepth 20000 in
theorem gX8_plan_X5_size : GoodIn wsX8_plan (wsV RX8 285 RX5 yX5_size wsX5_size) := goodIn_app (goodIn_of _ (by decide +kernel)) ggX8_plan_X5_size
set_option maxRecDepth 20000 in
theorem ggX8_plan_X5_yearOf : GoodIn wsX8_plan wsX5_yearOf := goodIn_r _ [13, 14, 15, 16, 17, 7, 18, 19, 20, 21, 22, 23, 24, 25, 9, 26, 27, 28, 29, 30, 31, 32, 33, 34, 35, 36, 37, 38, 39, 40, 41, 42, 43, 44, 45, 56, 57, 58, 59, 60, 61, 62, 63] (by decide +kernel) (by decide +kernel)
set_option maxRecDepth 20000 in
theorem gX8_plan_X5_yearOf : GoodIn wsX8_plan (wsV RX8 291 RX5 yX5_yearOf wsX5_yearOf) := goodIn_app (goodIn_of _ (by decide +kernel)) ggX8_plan_X5_yearOf
theorem dX8_plan_0 : decode cX8_plan 0 = .ok (.iload_n 1, 1) := by decide +kernel
theorem dX8_plan_1 : decode cX8_plan 1 = .ok (.ifCond .lt 14, 3) := by decide +kernel
theorem dX8_plan_4 : decode cX8_plan 4 = .ok (.iload_n 1, 1) := by decide +kernel
theorem dX8_plan_5 : decode cX8_plan 5 = .ok (.aload_n 0, 1) := by decide +kernel
theorem dX8_plan_6 : decode cX8_plan 6 = .ok (.getfield 55, 3) := by decide +kernel
theorem dX8_plan_9 : decode cX8_plan 9 = .ok (.invokevirtual 285, 3) := by decide +kernel
theorem dX8_plan_12 : decode cX8_plan 12 = .ok (.if_icmp .lt 14, 3) := by decide +kernel
theorem dX8_plan_15 : decode cX8_plan 15 = .ok (.new 286, 3) := by decide +kernel
theorem dX8_plan_18 : decode cX8_plan 18 = .ok (.dup, 1) := by decide +kernel
theorem dX8_plan_19 : decode cX8_plan 19 = .ok (.ldc_w 288, 3) := by decide +kernel
theorem dX8_plan_22 : decode cX8_plan 22 = .ok (.invokespecial 290, 3) := by decide +kernel
theorem dX8_plan_25 : decode cX8_plan 25 = .ok (.athrow, 1) := by decide +kernel
theorem dX8_plan_26 : decode cX8_plan 26 = .ok (.aload_n 0, 1) := by decide +kernel
theorem dX8_plan_27 : decode cX8_plan 27 = .ok (.getfield 55, 3) := by decide +kernel
theorem dX8_plan_30 : decode cX8_plan 30 = .ok (.iload_n 1, 1) := by decide +kernel
theorem dX8_plan_31 : decode cX8_plan 31 = .ok (.invokevirtual 291, 3) := by decide +kernel
theorem dX8_plan_34 : decode cX8_plan 34 = .ok (.ireturn, 1) := by decide +kernel
set_option maxRecDepth 20000 in
theorem ggX8_count_Jx4a65c_size_8abf5 : GoodIn wsX8_count wsJx4a65c_size_8abf5 := goodIn_r _ [11, 12, 90, 91, 92] (by decide +kernel) (by decide +kernel)
set_option maxRecDepth 20000 in
theorem gX8_count_Jx4a65c_size_8abf5 : GoodIn wsX8_count (wsV RX8 85 RJx4a65c yJx4a65c_size_8abf5 wsJx4a65c_size_8abf5) := goodIn_app (goodIn_of _ (by decide +kernel)) ggX8_count_Jx4a65c_size_8abf5
set_option maxRecDepth 20000 in
theorem ggX8_count_X8_soldLots : GoodIn wsX8_count wsX8_soldLots := goodIn_r _ [17, 4, 18, 7, 8, 9, 10, 11, 12, 19, 20, 21, 22, 23, 24, 25, 26, 27, 28, 29, 30, 31, 32, 33, 34, 35, 36, 37, 38, 39, 40, 41, 80, 81, 82, 83, 84, 85, 86, 87, 88, 89, 90, 91, 92, 93, 94, 95, 96, 97, 98] (by decide +kernel) (by decide +kernel)
set_option maxRecDepth 20000 in
theorem gX8_count_X8_soldLots : GoodIn wsX8_count (wsV RX8 294 RX8 yX8_soldLots wsX8_soldLots) := goodIn_app (goodIn_of _ (by decide +kernel)) ggX8_count_X8_soldLots
set_option maxRecDepth 20000 in
theorem ggX8_count_X8_moneyOfSoldLots : GoodIn wsX8_count wsX8_moneyOfSoldLots := goodIn_r _ [45, 4, 18, 7, 8, 9, 10, 11, 12, 19, 20, 21, 22, 23, 24, 25, 26, 27, 28, 29, 30, 31, 32, 33, 34, 35, 36, 37, 38, 39, 40, 41, 80, 81, 82, 83, 84, 85, 86, 87, 88, 89, 93, 94, 95, 96, 97, 98, 90, 91, 92] (by decide +kernel) (by decide +kernel)
set_option maxRecDepth 20000 in
theorem gX8_count_X8_moneyOfSoldLots : GoodIn wsX8_count (wsV RX8 297 RX8 yX8_moneyOfSoldLots wsX8_moneyOfSoldLots) := goodIn_app (goodIn_of _ (by decide +kernel)) ggX8_count_X8_moneyOfSoldLots
set_option maxRecDepth 20000 in
theorem ggX8_count_X0_cells : GoodIn wsX8_count wsX0_cells := goodIn_r _ [50, 51, 99, 100, 101, 102, 103, 104, 105, 106] (by decide +kernel) (by decide +kernel)
set_option maxRecDepth 20000 in
theorem gX8_count_X0_cells : GoodIn wsX8_count (wsV RX8 300 RX0 yX0_cells wsX0_cells) := goodIn_app (goodIn_of _ (by decide +kernel)) ggX8_count_X0_cells
set_option maxRecDepth 20000 in
theorem ggX8_count_X0_flawsOfStrip : GoodIn wsX8_count wsX0_flawsOfStrip := goodIn_r _ [55, 56, 57, 58, 59, 60, 61, 62, 63, 99, 100, 101, 102, 103, 104, 105, 106] (by decide +kernel) (by decide +kernel)
set_option maxRecDepth 20000 in
theorem gX8_count_X0_flawsOfStrip : GoodIn wsX8_count (wsV RX8 303 RX0 yX0_flawsOfStrip wsX0_flawsOfStrip) := goodIn_app (goodIn_of _ (by decide +kernel)) ggX8_count_X0_flawsOfStrip
set_option maxRecDepth 20000 in
theorem ggX8_count_X0_sorts : GoodIn wsX8_count wsX0_sorts := goodIn_r _ [67, 68, 99, 100, 101, 102, 103, 104, 105, 106] (by decide +kernel) (by decide +kernel)
set_option maxRecDepth 20000 in
theorem gX8_count_X0_sorts : GoodIn wsX8_count (wsV RX8 306 RX0 yX0_sorts wsX0_sorts) := goodIn_app (goodIn_of _ (by decide +kernel)) ggX8_count_X0_sorts
set_option maxRecDepth 20000 in
theorem ggX8_count_X5_size : GoodIn wsX8_count wsX5_size := goodIn_r _ [73, 74, 107, 108, 109, 110, 111, 112, 113, 114] (by decide +kernel) (by decide +kernel)
set_option maxRecDepth 20000 in
theorem gX8_count_X5_size : GoodIn wsX8_count (wsV RX8 285 RX5 yX5_size wsX5_size) := goodIn_app (goodIn_of _ (by decide +kernel)) ggX8_count_X5_size
set_option maxRecDepth 20000 in
theorem ggX8_count_X8_markedTrees : GoodIn wsX8_count wsX8_markedTrees := goodIn_r _ [78, 2, 79, 7, 8, 9, 10, 11, 12, 19, 20, 21, 22, 23, 24, 25, 26, 27, 28, 29, 30, 31, 32, 33, 34, 35, 80, 81, 82, 83, 84, 85, 86, 87, 88, 89, 115, 116, 117, 118, 119, 120, 121, 122, 123, 124, 90, 91, 92] (by decide +kernel) (by decide +kernel)
set_option maxRecDepth 20000 in
theorem gX8_count_X8_markedTrees : GoodIn wsX8_count (wsV RX8 309 RX8 yX8_markedTrees wsX8_markedTrees) := goodIn_app (goodIn_of _ (by decide +kernel)) ggX8_count_X8_markedTrees
theorem dX8_count_0 : decode cX8_count 0 = .ok (.iload_n 1, 1) := by decide +kernel
theorem dX8_count_1 : decode cX8_count 1 = .ok (.tableswitch 135 0 10 #[59, 64, 72, 80, 88, 93, 98, 106, 114, 122, 130], 59) := by decide +kernel
theorem dX8_count_60 : decode cX8_count 60 = .ok (.aload_n 0, 1) := by decide +kernel
theorem dX8_count_61 : decode cX8_count 61 = .ok (.getfield 59, 3) := by decide +kernel
theorem dX8_count_64 : decode cX8_count 64 = .ok (.ireturn, 1) := by decide +kernel
theorem dX8_count_65 : decode cX8_count 65 = .ok (.aload_n 0, 1) := by decide +kernel
theorem dX8_count_66 : decode cX8_count 66 = .ok (.getfield 35, 3) := by decide +kernel
theorem dX8_count_69 : decode cX8_count 69 = .ok (.invokevirtual 85, 3) := by decide +kernel
theorem dX8_count_72 : decode cX8_count 72 = .ok (.ireturn, 1) := by decide +kernel
theorem dX8_count_73 : decode cX8_count 73 = .ok (.aload_n 0, 1) := by decide +kernel
theorem dX8_count_74 : decode cX8_count 74 = .ok (.getfield 39, 3) := by decide +kernel
theorem dX8_count_77 : decode cX8_count 77 = .ok (.invokevirtual 85, 3) := by decide +kernel
theorem dX8_count_80 : decode cX8_count 80 = .ok (.ireturn, 1) := by decide +kernel
theorem dX8_count_81 : decode cX8_count 81 = .ok (.aload_n 0, 1) := by decide +kernel
theorem dX8_count_82 : decode cX8_count 82 = .ok (.getfield 42, 3) := by decide +kernel
theorem dX8_count_85 : decode cX8_count 85 = .ok (.invokevirtual 85, 3) := by decide +kernel
theorem dX8_count_88 : decode cX8_count 88 = .ok (.ireturn, 1) := by decide +kernel
theorem dX8_count_89 : decode cX8_count 89 = .ok (.aload_n 0, 1) := by decide +kernel
theorem dX8_count_90 : decode cX8_count 90 = .ok (.invokevirtual 294, 3) := by decide +kernel
theorem dX8_count_93 : decode cX8_count 93 = .ok (.ireturn, 1) := by decide +kernel
theorem dX8_count_94 : decode cX8_count 94 = .ok (.aload_n 0, 1) := by decide +kernel
theorem dX8_count_95 : decode cX8_count 95 = .ok (.invokevirtual 297, 3) := by decide +kernel
theorem dX8_count_98 : decode cX8_count 98 = .ok (.ireturn, 1) := by decide +kernel
theorem dX8_count_99 : decode cX8_count 99 = .ok (.aload_n 0, 1) := by decide +kernel
theorem dX8_count_100 : decode cX8_count 100 = .ok (.getfield 48, 3) := by decide +kernel
theorem dX8_count_103 : decode cX8_count 103 = .ok (.invokevirtual 300, 3) := by decide +kernel
theorem dX8_count_106 : decode cX8_count 106 = .ok (.ireturn, 1) := by decide +kernel
theorem dX8_count_107 : decode cX8_count 107 = .ok (.aload_n 0, 1) := by decide +kernel
theorem dX8_count_108 : decode cX8_count 108 = .ok (.getfield 48, 3) := by decide +kernel
theorem dX8_count_111 : decode cX8_count 111 = .ok (.invokevirtual 303, 3) := by decide +kernel
theorem dX8_count_114 : decode cX8_count 114 = .ok (.ireturn, 1) := by decide +kernel
theorem dX8_count_115 : decode cX8_count 115 = .ok (.aload_n 0, 1) := by decide +kernel
theorem dX8_count_116 : decode cX8_count 116 = .ok (.getfield 48, 3) := by decide +kernel
theorem dX8_count_119 : decode cX8_count 119 = .ok (.invokevirtual 306, 3) := by decide +kernel
theorem dX8_count_122 : decode cX8_count 122 = .ok (.ireturn, 1) := by decide +kernel
theorem dX8_count_123 : decode cX8_count 123 = .ok (.aload_n 0, 1) := by decide +kernel
theorem dX8_count_124 : decode cX8_count 124 = .ok (.getfield 55, 3) := by decide +kernel
theorem dX8_count_127 : decode cX8_count 127 = .ok (.invokevirtual 285, 3) := by decide +kernel
theorem dX8_count_130 : decode cX8_count 130 = .ok (.ireturn, 1) := by decide +kernel
theorem dX8_count_131 : decode cX8_count 131 = .ok (.aload_n 0, 1) := by decide +kernel
theorem dX8_count_132 : decode cX8_count 132 = .ok (.invokevirtual 309, 3) := by decide +kernel
theorem dX8_count_135 : decode cX8_count 135 = .ok (.ireturn, 1) := by decide +kernel
theorem dX8_count_136 : decode cX8_count 136 = .ok (.iconst (-1), 1) := by decide +kernel
theorem dX8_count_137 : decode cX8_count 137 = .ok (.ireturn, 1) := by decide +kernel
set_option maxRecDepth 20000 in
theorem ggX8_treeAt_Jx4a65c_size_8abf5 : GoodIn wsX8_treeAt wsJx4a65c_size_8abf5 := goodIn_r _ [9, 10, 38, 39, 40] (by decide +kernel) (by decide +kernel)
set_option maxRecDepth 20000 in
theorem gX8_treeAt_Jx4a65c_size_8abf5 : GoodIn wsX8_treeAt (wsV RX8 85 RJx4a65c yJx4a65c_size_8abf5 wsJx4a65c_size_8abf5) := goodIn_app (goodIn_of _ (by decide +kernel)) ggX8_treeAt_Jx4a65c_size_8abf5
set_option maxRecDepth 20000 in
theorem ggX8_treeAt_Jx4a65c_get_915e3 : GoodIn wsX8_treeAt wsJx4a65c_get_915e3 := goodIn_r _ [14, 10, 15, 16, 17, 18, 19, 20, 21, 22, 23, 24, 25, 8, 26, 27, 38, 39, 40] (by decide +kernel) (by decide +kernel)
set_option maxRecDepth 20000 in
theorem gX8_treeAt_Jx4a65c_get_915e3 : GoodIn wsX8_treeAt (wsV RX8 314 RJx4a65c yJx4a65c_get_915e3 wsJx4a65c_get_915e3) := goodIn_app (goodIn_of _ (by decide +kernel)) ggX8_treeAt_Jx4a65c_get_915e3
theorem dX8_treeAt_0 : decode cX8_treeAt 0 = .ok (.iload_n 1, 1) := by decide +kernel
theorem dX8_treeAt_1 : decode cX8_treeAt 1 = .ok (.ifCond .lt 14, 3) := by decide +kernel
theorem dX8_treeAt_4 : decode cX8_treeAt 4 = .ok (.iload_n 1, 1) := by decide +kernel
theorem dX8_treeAt_5 : decode cX8_treeAt 5 = .ok (.aload_n 0, 1) := by decide +kernel
theorem dX8_treeAt_6 : decode cX8_treeAt 6 = .ok (.getfield 35, 3) := by decide +kernel
theorem dX8_treeAt_9 : decode cX8_treeAt 9 = .ok (.invokevirtual 85, 3) := by decide +kernel
theorem dX8_treeAt_12 : decode cX8_treeAt 12 = .ok (.if_icmp .lt 14, 3) := by decide +kernel
theorem dX8_treeAt_15 : decode cX8_treeAt 15 = .ok (.new 286, 3) := by decide +kernel
theorem dX8_treeAt_18 : decode cX8_treeAt 18 = .ok (.dup, 1) := by decide +kernel
theorem dX8_treeAt_19 : decode cX8_treeAt 19 = .ok (.ldc_w 312, 3) := by decide +kernel
theorem dX8_treeAt_22 : decode cX8_treeAt 22 = .ok (.invokespecial 290, 3) := by decide +kernel
theorem dX8_treeAt_25 : decode cX8_treeAt 25 = .ok (.athrow, 1) := by decide +kernel
theorem dX8_treeAt_26 : decode cX8_treeAt 26 = .ok (.aload_n 0, 1) := by decide +kernel
theorem dX8_treeAt_27 : decode cX8_treeAt 27 = .ok (.getfield 35, 3) := by decide +kernel
theorem dX8_treeAt_30 : decode cX8_treeAt 30 = .ok (.iload_n 1, 1) := by decide +kernel
theorem dX8_treeAt_31 : decode cX8_treeAt 31 = .ok (.invokevirtual 314, 3) := by decide +kernel
theorem dX8_treeAt_34 : decode cX8_treeAt 34 = .ok (.checkcast 91, 3) := by decide +kernel
theorem dX8_treeAt_37 : decode cX8_treeAt 37 = .ok (.areturn, 1) := by decide +kernel
set_option maxRecDepth 20000 in
theorem ggX8_plankAt_Jx4a65c_size_8abf5 : GoodIn wsX8_plankAt wsJx4a65c_size_8abf5 := goodIn_r _ [9, 10, 38, 39, 40] (by decide +kernel) (by decide +kernel)
set_option maxRecDepth 20000 in
theorem gX8_plankAt_Jx4a65c_size_8abf5 : GoodIn wsX8_plankAt (wsV RX8 85 RJx4a65c yJx4a65c_size_8abf5 wsJx4a65c_size_8abf5) := goodIn_app (goodIn_of _ (by decide +kernel)) ggX8_plankAt_Jx4a65c_size_8abf5
set_option maxRecDepth 20000 in
theorem ggX8_plankAt_Jx4a65c_get_915e3 : GoodIn wsX8_plankAt wsJx4a65c_get_915e3 := goodIn_r _ [14, 10, 15, 16, 17, 18, 19, 20, 21, 22, 23, 24, 25, 8, 26, 27, 38, 39, 40] (by decide +kernel) (by decide +kernel)
set_option maxRecDepth 20000 in
theorem gX8_plankAt_Jx4a65c_get_915e3 : GoodIn wsX8_plankAt (wsV RX8 314 RJx4a65c yJx4a65c_get_915e3 wsJx4a65c_get_915e3) := goodIn_app (goodIn_of _ (by decide +kernel)) ggX8_plankAt_Jx4a65c_get_915e3
theorem dX8_plankAt_0 : decode cX8_plankAt 0 = .ok (.iload_n 1, 1) := by decide +kernel
theorem dX8_plankAt_1 : decode cX8_plankAt 1 = .ok (.ifCond .lt 14, 3) := by decide +kernel
theorem dX8_plankAt_4 : decode cX8_plankAt 4 = .ok (.iload_n 1, 1) := by decide +kernel
theorem dX8_plankAt_5 : decode cX8_plankAt 5 = .ok (.aload_n 0, 1) := by decide +kernel
theorem dX8_plankAt_6 : decode cX8_plankAt 6 = .ok (.getfield 39, 3) := by decide +kernel
theorem dX8_plankAt_9 : decode cX8_plankAt 9 = .ok (.invokevirtual 85, 3) := by decide +kernel
theorem dX8_plankAt_12 : decode cX8_plankAt 12 = .ok (.if_icmp .lt 14, 3) := by decide +kernel
theorem dX8_plankAt_15 : decode cX8_plankAt 15 = .ok (.new 286, 3) := by decide +kernel
theorem dX8_plankAt_18 : decode cX8_plankAt 18 = .ok (.dup, 1) := by decide +kernel
theorem dX8_plankAt_19 : decode cX8_plankAt 19 = .ok (.ldc_w 318, 3) := by decide +kernel
theorem dX8_plankAt_22 : decode cX8_plankAt 22 = .ok (.invokespecial 290, 3) := by decide +kernel
theorem dX8_plankAt_25 : decode cX8_plankAt 25 = .ok (.athrow, 1) := by decide +kernel
theorem dX8_plankAt_26 : decode cX8_plankAt 26 = .ok (.aload_n 0, 1) := by decide +kernel
theorem dX8_plankAt_27 : decode cX8_plankAt 27 = .ok (.getfield 39, 3) := by decide +kernel
theorem dX8_plankAt_30 : decode cX8_plankAt 30 = .ok (.iload_n 1, 1) := by decide +kernel
theorem dX8_plankAt_31 : decode cX8_plankAt 31 = .ok (.invokevirtual 314, 3) := by decide +kernel
theorem dX8_plankAt_34 : decode cX8_plankAt 34 = .ok (.checkcast 137, 3) := by decide +kernel
theorem dX8_plankAt_37 : decode cX8_plankAt 37 = .ok (.areturn, 1) := by decide +kernel
set_option maxRecDepth 20000 in
theorem ggX8_lotAt_Jx4a65c_size_8abf5 : GoodIn wsX8_lotAt wsJx4a65c_size_8abf5 := goodIn_r _ [9, 10, 38, 39, 40] (by decide +kernel) (by decide +kernel)
set_option maxRecDepth 20000 in
theorem gX8_lotAt_Jx4a65c_size_8abf5 : GoodIn wsX8_lotAt (wsV RX8 85 RJx4a65c yJx4a65c_size_8abf5 wsJx4a65c_size_8abf5) := goodIn_app (goodIn_of _ (by decide +kernel)) ggX8_lotAt_Jx4a65c_size_8abf5
set_option maxRecDepth 20000 in
theorem ggX8_lotAt_Jx4a65c_get_915e3 : GoodIn wsX8_lotAt wsJx4a65c_get_915e3 := goodIn_r _ [14, 10, 15, 16, 17, 18, 19, 20, 21, 22, 23, 24, 25, 8, 26, 27, 38, 39, 40] (by decide +kernel) (by decide +kernel)
set_option maxRecDepth 20000 in
theorem gX8_lotAt_Jx4a65c_get_915e3 : GoodIn wsX8_lotAt (wsV RX8 314 RJx4a65c yJx4a65c_get_915e3 wsJx4a65c_get_915e3) := goodIn_app (goodIn_of _ (by decide +kernel)) ggX8_lotAt_Jx4a65c_get_915e3
theorem dX8_lotAt_0 : decode cX8_lotAt 0 = .ok (.iload_n 1, 1) := by decide +kernel
theorem dX8_lotAt_1 : decode cX8_lotAt 1 = .ok (.ifCond .lt 14, 3) := by decide +kernel
theorem dX8_lotAt_4 : decode cX8_lotAt 4 = .ok (.iload_n 1, 1) := by decide +kernel
theorem dX8_lotAt_5 : decode cX8_lotAt 5 = .ok (.aload_n 0, 1) := by decide +kernel
theorem dX8_lotAt_6 : decode cX8_lotAt 6 = .ok (.getfield 42, 3) := by decide +kernel
theorem dX8_lotAt_9 : decode cX8_lotAt 9 = .ok (.invokevirtual 85, 3) := by decide +kernel
theorem dX8_lotAt_12 : decode cX8_lotAt 12 = .ok (.if_icmp .lt 14, 3) := by decide +kernel
theorem dX8_lotAt_15 : decode cX8_lotAt 15 = .ok (.new 286, 3) := by decide +kernel
theorem dX8_lotAt_18 : decode cX8_lotAt 18 = .ok (.dup, 1) := by decide +kernel
theorem dX8_lotAt_19 : decode cX8_lotAt 19 = .ok (.ldc_w 320, 3) := by decide +kernel
theorem dX8_lotAt_22 : decode cX8_lotAt 22 = .ok (.invokespecial 290, 3) := by decide +kernel
theorem dX8_lotAt_25 : decode cX8_lotAt 25 = .ok (.athrow, 1) := by decide +kernel
theorem dX8_lotAt_26 : decode cX8_lotAt 26 = .ok (.aload_n 0, 1) := by decide +kernel
theorem dX8_lotAt_27 : decode cX8_lotAt 27 = .ok (.getfield 42, 3) := by decide +kernel
theorem dX8_lotAt_30 : decode cX8_lotAt 30 = .ok (.iload_n 1, 1) := by decide +kernel
theorem dX8_lotAt_31 : decode cX8_lotAt 31 = .ok (.invokevirtual 314, 3) := by decide +kernel
theorem dX8_lotAt_34 : decode cX8_lotAt 34 = .ok (.checkcast 203, 3) := by decide +kernel
theorem dX8_lotAt_37 : decode cX8_lotAt 37 = .ok (.areturn, 1) := by decide +kernel
set_option maxRecDepth 20000 in
theorem ggX8_passYear_Jx4a65c_size_8abf5 : GoodIn wsX8_passYear wsJx4a65c_size_8abf5 := goodIn_r _ [8, 9, 58, 59, 60] (by decide +kernel) (by decide +kernel)
set_option maxRecDepth 20000 in
theorem gX8_passYear_Jx4a65c_size_8abf5 : GoodIn wsX8_passYear (wsV RX8 85 RJx4a65c yJx4a65c_size_8abf5 wsJx4a65c_size_8abf5) := goodIn_app (goodIn_of _ (by decide +kernel)) ggX8_passYear_Jx4a65c_size_8abf5
set_option maxRecDepth 20000 in
theorem ggX8_passYear_Jx4a65c_get_915e3 : GoodIn wsX8_passYear wsJx4a65c_get_915e3 := goodIn_r _ [13, 9, 14, 15, 16, 17, 18, 19, 20, 21, 22, 23, 24, 7, 25, 26, 58, 59, 60] (by decide +kernel) (by decide +kernel)
set_option maxRecDepth 20000 in
theorem gX8_passYear_Jx4a65c_get_915e3 : GoodIn wsX8_passYear (wsV RX8 314 RJx4a65c yJx4a65c_get_915e3 wsJx4a65c_get_915e3) := goodIn_app (goodIn_of _ (by decide +kernel)) ggX8_passYear_Jx4a65c_get_915e3
set_option maxRecDepth 20000 in
theorem ggX8_passYear_X7_grow : GoodIn wsX8_passYear wsX7_grow := goodIn_r _ [31, 32, 33, 34, 35, 36, 37, 38, 39, 40, 41, 42, 43, 44, 45, 46, 30, 47, 61, 62, 63, 64, 65, 66, 67, 68, 69, 70] (by decide +kernel) (by decide +kernel)
set_option maxRecDepth 20000 in
theorem gX8_passYear_X7_grow : GoodIn wsX8_passYear (wsV RX8 322 RX7 yX7_grow wsX7_grow) := goodIn_app (goodIn_of _ (by decide +kernel)) ggX8_passYear_X7_grow
theorem dX8_passYear_0 : decode cX8_passYear 0 = .ok (.aload_n 0, 1) := by decide +kernel
theorem dX8_passYear_1 : decode cX8_passYear 1 = .ok (.dup, 1) := by decide +kernel
theorem dX8_passYear_2 : decode cX8_passYear 2 = .ok (.getfield 59, 3) := by decide +kernel
theorem dX8_passYear_5 : decode cX8_passYear 5 = .ok (.iconst 1, 1) := by decide +kernel
theorem dX8_passYear_6 : decode cX8_passYear 6 = .ok (.iadd, 1) := by decide +kernel
theorem dX8_passYear_7 : decode cX8_passYear 7 = .ok (.putfield 59, 3) := by decide +kernel
theorem dX8_passYear_10 : decode cX8_passYear 10 = .ok (.iconst 0, 1) := by decide +kernel
theorem dX8_passYear_11 : decode cX8_passYear 11 = .ok (.istore_n 2, 1) := by decide +kernel
theorem dX8_passYear_12 : decode cX8_passYear 12 = .ok (.iload_n 2, 1) := by decide +kernel
theorem dX8_passYear_13 : decode cX8_passYear 13 = .ok (.aload_n 0, 1) := by decide +kernel
theorem dX8_passYear_14 : decode cX8_passYear 14 = .ok (.getfield 35, 3) := by decide +kernel
theorem dX8_passYear_17 : decode cX8_passYear 17 = .ok (.invokevirtual 85, 3) := by decide +kernel
theorem dX8_passYear_20 : decode cX8_passYear 20 = .ok (.if_icmp .ge 28, 3) := by decide +kernel
theorem dX8_passYear_23 : decode cX8_passYear 23 = .ok (.aload_n 0, 1) := by decide +kernel
theorem dX8_passYear_24 : decode cX8_passYear 24 = .ok (.getfield 35, 3) := by decide +kernel
theorem dX8_passYear_27 : decode cX8_passYear 27 = .ok (.iload_n 2, 1) := by decide +kernel
theorem dX8_passYear_28 : decode cX8_passYear 28 = .ok (.invokevirtual 314, 3) := by decide +kernel
theorem dX8_passYear_31 : decode cX8_passYear 31 = .ok (.checkcast 91, 3) := by decide +kernel
theorem dX8_passYear_34 : decode cX8_passYear 34 = .ok (.aload_n 0, 1) := by decide +kernel
theorem dX8_passYear_35 : decode cX8_passYear 35 = .ok (.getfield 59, 3) := by decide +kernel
theorem dX8_passYear_38 : decode cX8_passYear 38 = .ok (.iload_n 1, 1) := by decide +kernel
theorem dX8_passYear_39 : decode cX8_passYear 39 = .ok (.invokevirtual 322, 3) := by decide +kernel
theorem dX8_passYear_42 : decode cX8_passYear 42 = .ok (.iinc 2 1, 3) := by decide +kernel
theorem dX8_passYear_45 : decode cX8_passYear 45 = .ok (.goto (-33), 3) := by decide +kernel
theorem dX8_passYear_48 : decode cX8_passYear 48 = .ok (.return_, 1) := by decide +kernel
set_option maxRecDepth 20000 in
theorem ggX8_whatIsAgainst_X7_wasStripped : GoodIn wsX8_whatIsAgainst wsX7_wasStripped := goodIn_r _ [8, 9, 27, 28, 29, 30, 31, 32, 33, 34, 35, 36] (by decide +kernel) (by decide +kernel)
set_option maxRecDepth 20000 in
theorem gX8_whatIsAgainst_X7_wasStripped : GoodIn wsX8_whatIsAgainst (wsV RX8 325 RX7 yX7_wasStripped wsX7_wasStripped) := goodIn_app (goodIn_of _ (by decide +kernel)) ggX8_whatIsAgainst_X7_wasStripped
set_option maxRecDepth 20000 in
theorem ggX8_whatIsAgainst_X1_told : GoodIn wsX8_whatIsAgainst wsX1_told := goodIn_r _ [14, 15, 47] (by decide +kernel) (by decide +kernel)
set_option maxRecDepth 20000 in
theorem gX8_whatIsAgainst_X1_told : GoodIn wsX8_whatIsAgainst (wsV RX8 119 RX1 yX1_told wsX1_told) := goodIn_app (goodIn_of _ (by decide +kernel)) ggX8_whatIsAgainst_X1_told
set_option maxRecDepth 20000 in
theorem ggX8_whatIsAgainst_X8_heightAllowed : GoodIn wsX8_whatIsAgainst wsX8_heightAllowed := goodIn_r _ [20, 2, 4, 5, 6, 7, 8, 9, 10, 11, 12, 13, 14, 15, 37, 38, 39, 40, 41, 42, 43, 44, 45, 46, 27, 28, 29, 30, 31, 32, 33, 34, 35, 36, 47] (by decide +kernel) (by decide +kernel)
set_option maxRecDepth 20000 in
theorem gX8_whatIsAgainst_X8_heightAllowed : GoodIn wsX8_whatIsAgainst (wsV RX8 328 RX8 yX8_heightAllowed wsX8_heightAllowed) := goodIn_app (goodIn_of _ (by decide +kernel)) ggX8_whatIsAgainst_X8_heightAllowed
set_option maxRecDepth 20000 in
theorem ggX8_whatIsAgainst_Jx4a65c_size_8abf5 : GoodIn wsX8_whatIsAgainst wsJx4a65c_size_8abf5 := goodIn_r _ [25, 26, 48, 49, 50] (by decide +kernel) (by decide +kernel)
set_option maxRecDepth 20000 in
theorem gX8_whatIsAgainst_Jx4a65c_size_8abf5 : GoodIn wsX8_whatIsAgainst (wsV RX8 85 RJx4a65c yJx4a65c_size_8abf5 wsJx4a65c_size_8abf5) := goodIn_app (goodIn_of _ (by decide +kernel)) ggX8_whatIsAgainst_Jx4a65c_size_8abf5
theorem dX8_whatIsAgainst_0 : decode cX8_whatIsAgainst 0 = .ok (.aload_n 1, 1) := by decide +kernel
theorem dX8_whatIsAgainst_1 : decode cX8_whatIsAgainst 1 = .ok (.getfield 127, 3) := by decide +kernel
theorem dX8_whatIsAgainst_4 : decode cX8_whatIsAgainst 4 = .ok (.ifCond .ne 5, 3) := by decide +kernel
theorem dX8_whatIsAgainst_7 : decode cX8_whatIsAgainst 7 = .ok (.iconst 1, 1) := by decide +kernel
theorem dX8_whatIsAgainst_8 : decode cX8_whatIsAgainst 8 = .ok (.ireturn, 1) := by decide +kernel
theorem dX8_whatIsAgainst_9 : decode cX8_whatIsAgainst 9 = .ok (.aload_n 1, 1) := by decide +kernel
theorem dX8_whatIsAgainst_10 : decode cX8_whatIsAgainst 10 = .ok (.getfield 152, 3) := by decide +kernel
theorem dX8_whatIsAgainst_13 : decode cX8_whatIsAgainst 13 = .ok (.iconst (-1), 1) := by decide +kernel
theorem dX8_whatIsAgainst_14 : decode cX8_whatIsAgainst 14 = .ok (.if_icmp .eq 16, 3) := by decide +kernel
theorem dX8_whatIsAgainst_17 : decode cX8_whatIsAgainst 17 = .ok (.aload_n 0, 1) := by decide +kernel
theorem dX8_whatIsAgainst_18 : decode cX8_whatIsAgainst 18 = .ok (.getfield 59, 3) := by decide +kernel
theorem dX8_whatIsAgainst_21 : decode cX8_whatIsAgainst 21 = .ok (.aload_n 1, 1) := by decide +kernel
theorem dX8_whatIsAgainst_22 : decode cX8_whatIsAgainst 22 = .ok (.getfield 152, 3) := by decide +kernel
theorem dX8_whatIsAgainst_25 : decode cX8_whatIsAgainst 25 = .ok (.if_icmp .gt 5, 3) := by decide +kernel
theorem dX8_whatIsAgainst_28 : decode cX8_whatIsAgainst 28 = .ok (.iconst 2, 1) := by decide +kernel
theorem dX8_whatIsAgainst_29 : decode cX8_whatIsAgainst 29 = .ok (.ireturn, 1) := by decide +kernel
theorem dX8_whatIsAgainst_30 : decode cX8_whatIsAgainst 30 = .ok (.aload_n 1, 1) := by decide +kernel
theorem dX8_whatIsAgainst_31 : decode cX8_whatIsAgainst 31 = .ok (.invokevirtual 325, 3) := by decide +kernel
theorem dX8_whatIsAgainst_34 : decode cX8_whatIsAgainst 34 = .ok (.ifCond .eq 25, 3) := by decide +kernel
theorem dX8_whatIsAgainst_37 : decode cX8_whatIsAgainst 37 = .ok (.aload_n 0, 1) := by decide +kernel
theorem dX8_whatIsAgainst_38 : decode cX8_whatIsAgainst 38 = .ok (.getfield 59, 3) := by decide +kernel
theorem dX8_whatIsAgainst_41 : decode cX8_whatIsAgainst 41 = .ok (.aload_n 1, 1) := by decide +kernel
theorem dX8_whatIsAgainst_42 : decode cX8_whatIsAgainst 42 = .ok (.getfield 158, 3) := by decide +kernel
theorem dX8_whatIsAgainst_45 : decode cX8_whatIsAgainst 45 = .ok (.isub, 1) := by decide +kernel
theorem dX8_whatIsAgainst_46 : decode cX8_whatIsAgainst 46 = .ok (.aload_n 0, 1) := by decide +kernel
theorem dX8_whatIsAgainst_47 : decode cX8_whatIsAgainst 47 = .ok (.getfield 19, 3) := by decide +kernel
theorem dX8_whatIsAgainst_50 : decode cX8_whatIsAgainst 50 = .ok (.iconst 0, 1) := by decide +kernel
theorem dX8_whatIsAgainst_51 : decode cX8_whatIsAgainst 51 = .ok (.invokevirtual 119, 3) := by decide +kernel
theorem dX8_whatIsAgainst_54 : decode cX8_whatIsAgainst 54 = .ok (.if_icmp .ge 5, 3) := by decide +kernel
theorem dX8_whatIsAgainst_57 : decode cX8_whatIsAgainst 57 = .ok (.iconst 3, 1) := by decide +kernel
theorem dX8_whatIsAgainst_58 : decode cX8_whatIsAgainst 58 = .ok (.ireturn, 1) := by decide +kernel
theorem dX8_whatIsAgainst_59 : decode cX8_whatIsAgainst 59 = .ok (.aload_n 1, 1) := by decide +kernel
theorem dX8_whatIsAgainst_60 : decode cX8_whatIsAgainst 60 = .ok (.getfield 139, 3) := by decide +kernel
theorem dX8_whatIsAgainst_63 : decode cX8_whatIsAgainst 63 = .ok (.aload_n 0, 1) := by decide +kernel
theorem dX8_whatIsAgainst_64 : decode cX8_whatIsAgainst 64 = .ok (.getfield 19, 3) := by decide +kernel
theorem dX8_whatIsAgainst_67 : decode cX8_whatIsAgainst 67 = .ok (.iconst 1, 1) := by decide +kernel
theorem dX8_whatIsAgainst_68 : decode cX8_whatIsAgainst 68 = .ok (.invokevirtual 119, 3) := by decide +kernel
theorem dX8_whatIsAgainst_71 : decode cX8_whatIsAgainst 71 = .ok (.if_icmp .ge 5, 3) := by decide +kernel
theorem dX8_whatIsAgainst_74 : decode cX8_whatIsAgainst 74 = .ok (.iconst 4, 1) := by decide +kernel
theorem dX8_whatIsAgainst_75 : decode cX8_whatIsAgainst 75 = .ok (.ireturn, 1) := by decide +kernel
theorem dX8_whatIsAgainst_76 : decode cX8_whatIsAgainst 76 = .ok (.aload_n 1, 1) := by decide +kernel
theorem dX8_whatIsAgainst_77 : decode cX8_whatIsAgainst 77 = .ok (.getfield 142, 3) := by decide +kernel
theorem dX8_whatIsAgainst_80 : decode cX8_whatIsAgainst 80 = .ok (.aload_n 0, 1) := by decide +kernel
theorem dX8_whatIsAgainst_81 : decode cX8_whatIsAgainst 81 = .ok (.getfield 19, 3) := by decide +kernel
theorem dX8_whatIsAgainst_84 : decode cX8_whatIsAgainst 84 = .ok (.iconst 5, 1) := by decide +kernel
theorem dX8_whatIsAgainst_85 : decode cX8_whatIsAgainst 85 = .ok (.invokevirtual 119, 3) := by decide +kernel
theorem dX8_whatIsAgainst_88 : decode cX8_whatIsAgainst 88 = .ok (.if_icmp .ge 5, 3) := by decide +kernel
theorem dX8_whatIsAgainst_91 : decode cX8_whatIsAgainst 91 = .ok (.iconst 5, 1) := by decide +kernel
theorem dX8_whatIsAgainst_92 : decode cX8_whatIsAgainst 92 = .ok (.ireturn, 1) := by decide +kernel
theorem dX8_whatIsAgainst_93 : decode cX8_whatIsAgainst 93 = .ok (.iload_n 2, 1) := by decide +kernel
theorem dX8_whatIsAgainst_94 : decode cX8_whatIsAgainst 94 = .ok (.aload_n 0, 1) := by decide +kernel
theorem dX8_whatIsAgainst_95 : decode cX8_whatIsAgainst 95 = .ok (.aload_n 1, 1) := by decide +kernel
theorem dX8_whatIsAgainst_96 : decode cX8_whatIsAgainst 96 = .ok (.invokevirtual 328, 3) := by decide +kernel
theorem dX8_whatIsAgainst_99 : decode cX8_whatIsAgainst 99 = .ok (.if_icmp .le 6, 3) := by decide +kernel
theorem dX8_whatIsAgainst_102 : decode cX8_whatIsAgainst 102 = .ok (.bipush 6, 2) := by decide +kernel
theorem dX8_whatIsAgainst_104 : decode cX8_whatIsAgainst 104 = .ok (.ireturn, 1) := by decide +kernel
theorem dX8_whatIsAgainst_105 : decode cX8_whatIsAgainst 105 = .ok (.aload_n 0, 1) := by decide +kernel
theorem dX8_whatIsAgainst_106 : decode cX8_whatIsAgainst 106 = .ok (.getfield 39, 3) := by decide +kernel
theorem dX8_whatIsAgainst_109 : decode cX8_whatIsAgainst 109 = .ok (.invokevirtual 85, 3) := by decide +kernel
theorem dX8_whatIsAgainst_112 : decode cX8_whatIsAgainst 112 = .ok (.sipush 200, 3) := by decide +kernel
theorem dX8_whatIsAgainst_115 : decode cX8_whatIsAgainst 115 = .ok (.if_icmp .lt 8, 3) := by decide +kernel
theorem dX8_whatIsAgainst_118 : decode cX8_whatIsAgainst 118 = .ok (.bipush 7, 2) := by decide +kernel
theorem dX8_whatIsAgainst_120 : decode cX8_whatIsAgainst 120 = .ok (.goto 4, 3) := by decide +kernel
theorem dX8_whatIsAgainst_123 : decode cX8_whatIsAgainst 123 = .ok (.iconst 0, 1) := by decide +kernel
theorem dX8_whatIsAgainst_124 : decode cX8_whatIsAgainst 124 = .ok (.ireturn, 1) := by decide +kernel
set_option maxRecDepth 20000 in
theorem ggX8_heightAllowed_X7_wasStripped : GoodIn wsX8_heightAllowed wsX7_wasStripped := goodIn_r _ [6, 7, 24, 25, 26, 27, 28, 29, 30, 31, 32, 33] (by decide +kernel) (by decide +kernel)
set_option maxRecDepth 20000 in
theorem gX8_heightAllowed_X7_wasStripped : GoodIn wsX8_heightAllowed (wsV RX8 325 RX7 yX7_wasStripped wsX7_wasStripped) := goodIn_app (goodIn_of _ (by decide +kernel)) ggX8_heightAllowed_X7_wasStripped
set_option maxRecDepth 20000 in
theorem ggX8_heightAllowed_X1_told : GoodIn wsX8_heightAllowed wsX1_told := goodIn_r _ [12, 13, 34] (by decide +kernel) (by decide +kernel)
set_option maxRecDepth 20000 in
theorem gX8_heightAllowed_X1_told : GoodIn wsX8_heightAllowed (wsV RX8 119 RX1 yX1_told wsX1_told) := goodIn_app (goodIn_of _ (by decide +kernel)) ggX8_heightAllowed_X1_told
theorem dX8_heightAllowed_0 : decode cX8_heightAllowed 0 = .ok (.aload_n 0, 1) := by decide +kernel
theorem dX8_heightAllowed_1 : decode cX8_heightAllowed 1 = .ok (.getfield 19, 3) := by decide +kernel
theorem dX8_heightAllowed_4 : decode cX8_heightAllowed 4 = .ok (.aload_n 1, 1) := by decide +kernel
theorem dX8_heightAllowed_5 : decode cX8_heightAllowed 5 = .ok (.invokevirtual 325, 3) := by decide +kernel
theorem dX8_heightAllowed_8 : decode cX8_heightAllowed 8 = .ok (.ifCond .eq 7, 3) := by decide +kernel
theorem dX8_heightAllowed_11 : decode cX8_heightAllowed 11 = .ok (.iconst 2, 1) := by decide +kernel
theorem dX8_heightAllowed_12 : decode cX8_heightAllowed 12 = .ok (.goto 4, 3) := by decide +kernel
theorem dX8_heightAllowed_15 : decode cX8_heightAllowed 15 = .ok (.iconst 3, 1) := by decide +kernel
theorem dX8_heightAllowed_16 : decode cX8_heightAllowed 16 = .ok (.invokevirtual 119, 3) := by decide +kernel
theorem dX8_heightAllowed_19 : decode cX8_heightAllowed 19 = .ok (.istore_n 2, 1) := by decide +kernel
theorem dX8_heightAllowed_20 : decode cX8_heightAllowed 20 = .ok (.aload_n 1, 1) := by decide +kernel
theorem dX8_heightAllowed_21 : decode cX8_heightAllowed 21 = .ok (.getfield 139, 3) := by decide +kernel
theorem dX8_heightAllowed_24 : decode cX8_heightAllowed 24 = .ok (.iload_n 2, 1) := by decide +kernel
theorem dX8_heightAllowed_25 : decode cX8_heightAllowed 25 = .ok (.imul, 1) := by decide +kernel
theorem dX8_heightAllowed_26 : decode cX8_heightAllowed 26 = .ok (.bipush 100, 2) := by decide +kernel
theorem dX8_heightAllowed_28 : decode cX8_heightAllowed 28 = .ok (.idiv, 1) := by decide +kernel
theorem dX8_heightAllowed_29 : decode cX8_heightAllowed 29 = .ok (.ireturn, 1) := by decide +kernel
set_option maxRecDepth 20000 in
theorem ggX8_soldLots_Jx4a65c_size_8abf5 : GoodIn wsX8_soldLots wsJx4a65c_size_8abf5 := goodIn_r _ [7, 8, 42, 43, 44] (by decide +kernel) (by decide +kernel)
set_option maxRecDepth 20000 in
theorem gX8_soldLots_Jx4a65c_size_8abf5 : GoodIn wsX8_soldLots (wsV RX8 85 RJx4a65c yJx4a65c_size_8abf5 wsJx4a65c_size_8abf5) := goodIn_app (goodIn_of _ (by decide +kernel)) ggX8_soldLots_Jx4a65c_size_8abf5
set_option maxRecDepth 20000 in
theorem ggX8_soldLots_Jx4a65c_get_915e3 : GoodIn wsX8_soldLots wsJx4a65c_get_915e3 := goodIn_r _ [12, 8, 13, 14, 15, 16, 17, 18, 19, 20, 21, 22, 23, 6, 24, 25, 42, 43, 44] (by decide +kernel) (by decide +kernel)
set_option maxRecDepth 20000 in
theorem gX8_soldLots_Jx4a65c_get_915e3 : GoodIn wsX8_soldLots (wsV RX8 314 RJx4a65c yJx4a65c_get_915e3 wsJx4a65c_get_915e3) := goodIn_app (goodIn_of _ (by decide +kernel)) ggX8_soldLots_Jx4a65c_get_915e3
set_option maxRecDepth 20000 in
theorem ggX8_soldLots_X3_isSold : GoodIn wsX8_soldLots wsX3_isSold := goodIn_r _ [30, 31, 45, 46, 47, 48, 49, 50] (by decide +kernel) (by decide +kernel)
set_option maxRecDepth 20000 in
theorem gX8_soldLots_X3_isSold : GoodIn wsX8_soldLots (wsV RX8 210 RX3 yX3_isSold wsX3_isSold) := goodIn_app (goodIn_of _ (by decide +kernel)) ggX8_soldLots_X3_isSold
theorem dX8_soldLots_0 : decode cX8_soldLots 0 = .ok (.iconst 0, 1) := by decide +kernel
theorem dX8_soldLots_1 : decode cX8_soldLots 1 = .ok (.istore_n 1, 1) := by decide +kernel
theorem dX8_soldLots_2 : decode cX8_soldLots 2 = .ok (.iconst 0, 1) := by decide +kernel
theorem dX8_soldLots_3 : decode cX8_soldLots 3 = .ok (.istore_n 2, 1) := by decide +kernel
theorem dX8_soldLots_4 : decode cX8_soldLots 4 = .ok (.iload_n 2, 1) := by decide +kernel
theorem dX8_soldLots_5 : decode cX8_soldLots 5 = .ok (.aload_n 0, 1) := by decide +kernel
theorem dX8_soldLots_6 : decode cX8_soldLots 6 = .ok (.getfield 42, 3) := by decide +kernel
theorem dX8_soldLots_9 : decode cX8_soldLots 9 = .ok (.invokevirtual 85, 3) := by decide +kernel
theorem dX8_soldLots_12 : decode cX8_soldLots 12 = .ok (.if_icmp .ge 29, 3) := by decide +kernel
theorem dX8_soldLots_15 : decode cX8_soldLots 15 = .ok (.aload_n 0, 1) := by decide +kernel
theorem dX8_soldLots_16 : decode cX8_soldLots 16 = .ok (.getfield 42, 3) := by decide +kernel
theorem dX8_soldLots_19 : decode cX8_soldLots 19 = .ok (.iload_n 2, 1) := by decide +kernel
theorem dX8_soldLots_20 : decode cX8_soldLots 20 = .ok (.invokevirtual 314, 3) := by decide +kernel
theorem dX8_soldLots_23 : decode cX8_soldLots 23 = .ok (.checkcast 203, 3) := by decide +kernel
theorem dX8_soldLots_26 : decode cX8_soldLots 26 = .ok (.invokevirtual 210, 3) := by decide +kernel
theorem dX8_soldLots_29 : decode cX8_soldLots 29 = .ok (.ifCond .eq 6, 3) := by decide +kernel
theorem dX8_soldLots_32 : decode cX8_soldLots 32 = .ok (.iinc 1 1, 3) := by decide +kernel
theorem dX8_soldLots_35 : decode cX8_soldLots 35 = .ok (.iinc 2 1, 3) := by decide +kernel
theorem dX8_soldLots_38 : decode cX8_soldLots 38 = .ok (.goto (-34), 3) := by decide +kernel
theorem dX8_soldLots_41 : decode cX8_soldLots 41 = .ok (.iload_n 1, 1) := by decide +kernel
theorem dX8_soldLots_42 : decode cX8_soldLots 42 = .ok (.ireturn, 1) := by decide +kernel
set_option maxRecDepth 20000 in
theorem ggX8_moneyOfSoldLots_Jx4a65c_size_8abf5 : GoodIn wsX8_moneyOfSoldLots wsJx4a65c_size_8abf5 := goodIn_r _ [7, 8, 48, 49, 50] (by decide +kernel) (by decide +kernel)
set_option maxRecDepth 20000 in
theorem gX8_moneyOfSoldLots_Jx4a65c_size_8abf5 : GoodIn wsX8_moneyOfSoldLots (wsV RX8 85 RJx4a65c yJx4a65c_size_8abf5 wsJx4a65c_size_8abf5) := goodIn_app (goodIn_of _ (by decide +kernel)) ggX8_moneyOfSoldLots_Jx4a65c_size_8abf5
set_option maxRecDepth 20000 in
theorem ggX8_moneyOfSoldLots_Jx4a65c_get_915e3 : GoodIn wsX8_moneyOfSoldLots wsJx4a65c_get_915e3 := goodIn_r _ [12, 8, 13, 14, 15, 16, 17, 18, 19, 20, 21, 22, 23, 6, 24, 25, 48, 49, 50] (by decide +kernel) (by decide +kernel)
set_option maxRecDepth 20000 in
theorem gX8_moneyOfSoldLots_Jx4a65c_get_915e3 : GoodIn wsX8_moneyOfSoldLots (wsV RX8 314 RJx4a65c yJx4a65c_get_915e3 wsJx4a65c_get_915e3) := goodIn_app (goodIn_of _ (by decide +kernel)) ggX8_moneyOfSoldLots_Jx4a65c_get_915e3
set_option maxRecDepth 20000 in
theorem ggX8_moneyOfSoldLots_X3_isSold : GoodIn wsX8_moneyOfSoldLots wsX3_isSold := goodIn_r _ [30, 31, 42, 43, 44, 45, 46, 47] (by decide +kernel) (by decide +kernel)
set_option maxRecDepth 20000 in
theorem gX8_moneyOfSoldLots_X3_isSold : GoodIn wsX8_moneyOfSoldLots (wsV RX8 210 RX3 yX3_isSold wsX3_isSold) := goodIn_app (goodIn_of _ (by decide +kernel)) ggX8_moneyOfSoldLots_X3_isSold
theorem dX8_moneyOfSoldLots_0 : decode cX8_moneyOfSoldLots 0 = .ok (.iconst 0, 1) := by decide +kernel
theorem dX8_moneyOfSoldLots_1 : decode cX8_moneyOfSoldLots 1 = .ok (.istore_n 1, 1) := by decide +kernel
theorem dX8_moneyOfSoldLots_2 : decode cX8_moneyOfSoldLots 2 = .ok (.iconst 0, 1) := by decide +kernel
theorem dX8_moneyOfSoldLots_3 : decode cX8_moneyOfSoldLots 3 = .ok (.istore_n 2, 1) := by decide +kernel
theorem dX8_moneyOfSoldLots_4 : decode cX8_moneyOfSoldLots 4 = .ok (.iload_n 2, 1) := by decide +kernel
theorem dX8_moneyOfSoldLots_5 : decode cX8_moneyOfSoldLots 5 = .ok (.aload_n 0, 1) := by decide +kernel
theorem dX8_moneyOfSoldLots_6 : decode cX8_moneyOfSoldLots 6 = .ok (.getfield 42, 3) := by decide +kernel
theorem dX8_moneyOfSoldLots_9 : decode cX8_moneyOfSoldLots 9 = .ok (.invokevirtual 85, 3) := by decide +kernel
theorem dX8_moneyOfSoldLots_12 : decode cX8_moneyOfSoldLots 12 = .ok (.if_icmp .ge 35, 3) := by decide +kernel
theorem dX8_moneyOfSoldLots_15 : decode cX8_moneyOfSoldLots 15 = .ok (.aload_n 0, 1) := by decide +kernel
theorem dX8_moneyOfSoldLots_16 : decode cX8_moneyOfSoldLots 16 = .ok (.getfield 42, 3) := by decide +kernel
theorem dX8_moneyOfSoldLots_19 : decode cX8_moneyOfSoldLots 19 = .ok (.iload_n 2, 1) := by decide +kernel
theorem dX8_moneyOfSoldLots_20 : decode cX8_moneyOfSoldLots 20 = .ok (.invokevirtual 314, 3) := by decide +kernel
theorem dX8_moneyOfSoldLots_23 : decode cX8_moneyOfSoldLots 23 = .ok (.checkcast 203, 3) := by decide +kernel
theorem dX8_moneyOfSoldLots_26 : decode cX8_moneyOfSoldLots 26 = .ok (.astore_n 3, 1) := by decide +kernel
theorem dX8_moneyOfSoldLots_27 : decode cX8_moneyOfSoldLots 27 = .ok (.aload_n 3, 1) := by decide +kernel
theorem dX8_moneyOfSoldLots_28 : decode cX8_moneyOfSoldLots 28 = .ok (.invokevirtual 210, 3) := by decide +kernel
theorem dX8_moneyOfSoldLots_31 : decode cX8_moneyOfSoldLots 31 = .ok (.ifCond .eq 10, 3) := by decide +kernel
theorem dX8_moneyOfSoldLots_34 : decode cX8_moneyOfSoldLots 34 = .ok (.iload_n 1, 1) := by decide +kernel
theorem dX8_moneyOfSoldLots_35 : decode cX8_moneyOfSoldLots 35 = .ok (.aload_n 3, 1) := by decide +kernel
theorem dX8_moneyOfSoldLots_36 : decode cX8_moneyOfSoldLots 36 = .ok (.getfield 241, 3) := by decide +kernel
theorem dX8_moneyOfSoldLots_39 : decode cX8_moneyOfSoldLots 39 = .ok (.iadd, 1) := by decide +kernel
theorem dX8_moneyOfSoldLots_40 : decode cX8_moneyOfSoldLots 40 = .ok (.istore_n 1, 1) := by decide +kernel
theorem dX8_moneyOfSoldLots_41 : decode cX8_moneyOfSoldLots 41 = .ok (.iinc 2 1, 3) := by decide +kernel
theorem dX8_moneyOfSoldLots_44 : decode cX8_moneyOfSoldLots 44 = .ok (.goto (-40), 3) := by decide +kernel
theorem dX8_moneyOfSoldLots_47 : decode cX8_moneyOfSoldLots 47 = .ok (.iload_n 1, 1) := by decide +kernel
theorem dX8_moneyOfSoldLots_48 : decode cX8_moneyOfSoldLots 48 = .ok (.ireturn, 1) := by decide +kernel
set_option maxRecDepth 20000 in
theorem ggX8_markedTrees_Jx4a65c_size_8abf5 : GoodIn wsX8_markedTrees wsJx4a65c_size_8abf5 := goodIn_r _ [7, 8, 46, 47, 48] (by decide +kernel) (by decide +kernel)
set_option maxRecDepth 20000 in
theorem gX8_markedTrees_Jx4a65c_size_8abf5 : GoodIn wsX8_markedTrees (wsV RX8 85 RJx4a65c yJx4a65c_size_8abf5 wsJx4a65c_size_8abf5) := goodIn_app (goodIn_of _ (by decide +kernel)) ggX8_markedTrees_Jx4a65c_size_8abf5
set_option maxRecDepth 20000 in
theorem ggX8_markedTrees_Jx4a65c_get_915e3 : GoodIn wsX8_markedTrees wsJx4a65c_get_915e3 := goodIn_r _ [12, 8, 13, 14, 15, 16, 17, 18, 19, 20, 21, 22, 23, 6, 24, 25, 46, 47, 48] (by decide +kernel) (by decide +kernel)
set_option maxRecDepth 20000 in
theorem gX8_markedTrees_Jx4a65c_get_915e3 : GoodIn wsX8_markedTrees (wsV RX8 314 RJx4a65c yJx4a65c_get_915e3 wsJx4a65c_get_915e3) := goodIn_app (goodIn_of _ (by decide +kernel)) ggX8_markedTrees_Jx4a65c_get_915e3
theorem dX8_markedTrees_0 : decode cX8_markedTrees 0 = .ok (.iconst 0, 1) := by decide +kernel
theorem dX8_markedTrees_1 : decode cX8_markedTrees 1 = .ok (.istore_n 1, 1) := by decide +kernel
theorem dX8_markedTrees_2 : decode cX8_markedTrees 2 = .ok (.iconst 0, 1) := by decide +kernel
theorem dX8_markedTrees_3 : decode cX8_markedTrees 3 = .ok (.istore_n 2, 1) := by decide +kernel
theorem dX8_markedTrees_4 : decode cX8_markedTrees 4 = .ok (.iload_n 2, 1) := by decide +kernel
theorem dX8_markedTrees_5 : decode cX8_markedTrees 5 = .ok (.aload_n 0, 1) := by decide +kernel
theorem dX8_markedTrees_6 : decode cX8_markedTrees 6 = .ok (.getfield 35, 3) := by decide +kernel
theorem dX8_markedTrees_9 : decode cX8_markedTrees 9 = .ok (.invokevirtual 85, 3) := by decide +kernel
theorem dX8_markedTrees_12 : decode cX8_markedTrees 12 = .ok (.if_icmp .ge 29, 3) := by decide +kernel
theorem dX8_markedTrees_15 : decode cX8_markedTrees 15 = .ok (.aload_n 0, 1) := by decide +kernel
theorem dX8_markedTrees_16 : decode cX8_markedTrees 16 = .ok (.getfield 35, 3) := by decide +kernel
theorem dX8_markedTrees_19 : decode cX8_markedTrees 19 = .ok (.iload_n 2, 1) := by decide +kernel
theorem dX8_markedTrees_20 : decode cX8_markedTrees 20 = .ok (.invokevirtual 314, 3) := by decide +kernel
theorem dX8_markedTrees_23 : decode cX8_markedTrees 23 = .ok (.checkcast 91, 3) := by decide +kernel
theorem dX8_markedTrees_26 : decode cX8_markedTrees 26 = .ok (.getfield 127, 3) := by decide +kernel
theorem dX8_markedTrees_29 : decode cX8_markedTrees 29 = .ok (.ifCond .eq 6, 3) := by decide +kernel
