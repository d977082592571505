set_option maxRecDepth 20000 in
theorem ggX9_leastLifeOnRail_Jx4a65c_size_8abf5 : GoodIn wsX9_leastLifeOnRail wsJx4a65c_size_8abf5 := goodIn_r _ [17, 13, 57, 58, 59] (by decide +kernel) (by decide +kernel)
set_option maxRecDepth 20000 in
theorem gX9_leastLifeOnRail_Jx4a65c_size_8abf5 : GoodIn wsX9_leastLifeOnRail (wsV RX9 63 RJx4a65c yJx4a65c_size_8abf5 wsJx4a65c_size_8abf5) := goodIn_app (goodIn_of _ (by decide +kernel)) ggX9_leastLifeOnRail_Jx4a65c_size_8abf5
set_option maxRecDepth 20000 in
theorem ggX9_leastLifeOnRail_Jx4a65c_get_915e3 : GoodIn wsX9_leastLifeOnRail wsJx4a65c_get_915e3 := goodIn_r _ [21, 13, 22, 23, 24, 25, 26, 27, 28, 29, 30, 31, 32, 11, 33, 34, 57, 58, 59] (by decide +kernel) (by decide +kernel)
set_option maxRecDepth 20000 in
theorem gX9_leastLifeOnRail_Jx4a65c_get_915e3 : GoodIn wsX9_leastLifeOnRail (wsV RX9 279 RJx4a65c yJx4a65c_get_915e3 wsJx4a65c_get_915e3) := goodIn_app (goodIn_of _ (by decide +kernel)) ggX9_leastLifeOnRail_Jx4a65c_get_915e3
set_option maxRecDepth 20000 in
theorem ggX9_numberOfHall_Jx4a65c_size_8abf5 : GoodIn wsX9_numberOfHall wsJx4a65c_size_8abf5 := goodIn_r _ [18, 19, 76, 77, 78] (by decide +kernel) (by decide +kernel)
set_option maxRecDepth 20000 in
theorem gX9_numberOfHall_Jx4a65c_size_8abf5 : GoodIn wsX9_numberOfHall (wsV RX9 63 RJx4a65c yJx4a65c_size_8abf5 wsJx4a65c_size_8abf5) := goodIn_app (goodIn_of _ (by decide +kernel)) ggX9_numberOfHall_Jx4a65c_size_8abf5
set_option maxRecDepth 20000 in
theorem ggX9_numberOfHall_X9_leastLifeOnRail : GoodIn wsX9_numberOfHall wsX9_leastLifeOnRail := goodIn_r _ [24, 8, 25, 26, 27, 28, 29, 30, 31, 32, 33, 17, 34, 19, 14, 15, 16, 18, 35, 36, 37, 38, 39, 40, 41, 42, 43, 44, 45, 46, 47, 48, 49, 50, 51, 58, 59, 60, 61, 62, 63, 64, 65, 66, 67, 68, 69, 70, 71, 72, 73, 74, 75, 79, 80, 81, 82, 76, 77, 78] (by decide +kernel) (by decide +kernel)
set_option maxRecDepth 20000 in
theorem gX9_numberOfHall_X9_leastLifeOnRail : GoodIn wsX9_numberOfHall (wsV RX9 468 RX9 yX9_leastLifeOnRail wsX9_leastLifeOnRail) := goodIn_app (goodIn_of _ (by decide +kernel)) ggX9_numberOfHall_X9_leastLifeOnRail
set_option maxRecDepth 20000 in
theorem ggX9_numberOfHall_X1_of : GoodIn wsX9_numberOfHall wsX1_of := goodIn_r _ [56, 57, 83] (by decide +kernel) (by decide +kernel)
set_option maxRecDepth 20000 in
theorem gX9_numberOfHall_X1_of : GoodIn wsX9_numberOfHall (wsV RX9 171 RX1 yX1_of wsX1_of) := goodIn_app (goodIn_of _ (by decide +kernel)) ggX9_numberOfHall_X1_of
set_option maxRecDepth 20000 in
theorem ggX9_firstPriceOf_X2_begin : GoodIn wsX9_firstPriceOf wsX2_begin := goodIn_r _ [10, 11, 12, 13, 14, 15, 16, 17, 18, 19, 20, 21, 22, 23, 24, 25, 26, 27, 28, 29, 30, 31, 32, 33, 34, 35, 36, 37, 38, 39, 40, 41, 42, 43, 44, 45, 46, 47, 48, 49, 50, 51, 52, 53, 54, 55, 56, 57, 58, 59, 60, 61, 62, 63, 64, 65, 120, 121, 122, 123, 124, 125, 126, 127, 128, 129, 130, 131, 132, 133, 134, 135, 136, 137, 138, 139, 140, 141, 142, 143, 144, 145, 146, 147, 148, 149, 150, 151, 152, 153, 154, 155, 156, 157, 158, 159, 160, 161, 162, 163, 164, 165, 166, 167, 168] (by decide +kernel) (by decide +kernel)
set_option maxRecDepth 20000 in
theorem gX9_firstPriceOf_X2_begin : GoodIn wsX9_firstPriceOf (wsV RX9 247 RX2 yX2_begin wsX2_begin) := goodIn_app (goodIn_of _ (by decide +kernel)) ggX9_firstPriceOf_X2_begin
set_option maxRecDepth 20000 in
theorem ggX9_firstPriceOf_X2_nextTaker : GoodIn wsX9_firstPriceOf wsX2_nextTaker := goodIn_r _ [69, 27, 25, 24, 70, 32, 42, 16, 17, 18, 19, 39, 71, 72, 73, 9, 74, 40, 43, 44, 45, 46, 47, 48, 49, 50, 51, 52, 53, 54, 55, 56, 57, 58, 59, 60, 61, 62, 63, 64, 65, 75, 76, 77, 78, 79, 12, 80, 14, 81, 20, 82, 23, 83, 84, 85, 86, 87, 88, 89, 90, 91, 92, 38, 93, 94, 95, 96, 29, 97, 98, 99, 100, 101, 132, 133, 134, 135, 136, 137, 138, 139, 140, 141, 158, 159, 160, 161, 162, 163, 164, 165, 147, 148, 149, 150, 151, 152, 153, 154, 155, 156, 157, 166, 167, 168] (by decide +kernel) (by decide +kernel)
set_option maxRecDepth 20000 in
theorem gX9_firstPriceOf_X2_nextTaker : GoodIn wsX9_firstPriceOf (wsV RX9 251 RX2 yX2_nextTaker wsX2_nextTaker) := goodIn_app (goodIn_of _ (by decide +kernel)) ggX9_firstPriceOf_X2_nextTaker
set_option maxRecDepth 20000 in
theorem ggX9_lowestPriceOf_X2_begin : GoodIn wsX9_lowestPriceOf wsX2_begin := goodIn_r _ [14, 15, 16, 17, 18, 19, 20, 7, 8, 9, 21, 22, 23, 24, 25, 26, 27, 28, 29, 30, 31, 32, 33, 34, 35, 36, 37, 38, 39, 40, 41, 42, 43, 44, 45, 46, 47, 48, 49, 50, 51, 52, 53, 54, 55, 56, 57, 58, 59, 60, 61, 62, 63, 64, 65, 66, 121, 122, 123, 124, 125, 126, 127, 128, 129, 130, 131, 132, 133, 134, 135, 136, 137, 138, 139, 140, 141, 142, 143, 144, 145, 146, 147, 148, 149, 150, 151, 152, 153, 154, 155, 156, 157, 158, 159, 160, 161, 162, 163, 164, 165, 166, 167, 168, 169] (by decide +kernel) (by decide +kernel)
set_option maxRecDepth 20000 in
theorem gX9_lowestPriceOf_X2_begin : GoodIn wsX9_lowestPriceOf (wsV RX9 247 RX2 yX2_begin wsX2_begin) := goodIn_app (goodIn_of _ (by decide +kernel)) ggX9_lowestPriceOf_X2_begin
set_option maxRecDepth 20000 in
theorem ggX9_lowestPriceOf_X2_nextTaker : GoodIn wsX9_lowestPriceOf wsX2_nextTaker := goodIn_r _ [70, 28, 26, 25, 71, 33, 43, 20, 7, 8, 9, 40, 72, 73, 74, 13, 75, 41, 44, 45, 46, 47, 48, 49, 50, 51, 52, 53, 54, 55, 56, 57, 58, 59, 60, 61, 62, 63, 64, 65, 66, 76, 77, 78, 79, 80, 16, 81, 18, 82, 21, 83, 24, 84, 85, 86, 87, 88, 89, 90, 91, 92, 93, 39, 94, 95, 96, 97, 30, 98, 99, 100, 101, 102, 133, 134, 135, 136, 137, 138, 139, 140, 141, 142, 159, 160, 161, 162, 163, 164, 165, 166, 148, 149, 150, 151, 152, 153, 154, 155, 156, 157, 158, 167, 168, 169] (by decide +kernel) (by decide +kernel)
set_option maxRecDepth 20000 in
theorem gX9_lowestPriceOf_X2_nextTaker : GoodIn wsX9_lowestPriceOf (wsV RX9 251 RX2 yX2_nextTaker wsX2_nextTaker) := goodIn_app (goodIn_of _ (by decide +kernel)) ggX9_lowestPriceOf_X2_nextTaker
set_option maxRecDepth 20000 in
theorem ggX9_hoursUntilReady_X9_sumAsked : GoodIn wsX9_hoursUntilReady wsX9_sumAsked := goodIn_r _ [10] (by decide +kernel) (by decide +kernel)
set_option maxRecDepth 20000 in
theorem gX9_hoursUntilReady_X9_sumAsked : GoodIn wsX9_hoursUntilReady (va_wsS RX9 472 yX9_sumAsked wsX9_sumAsked) := goodIn_app (goodIn_of _ (by decide +kernel)) ggX9_hoursUntilReady_X9_sumAsked
set_option maxRecDepth 20000 in
theorem ggX9_fewestLamps_X9_sumAsked : GoodIn wsX9_fewestLamps wsX9_sumAsked := goodIn_r _ [5] (by decide +kernel) (by decide +kernel)
set_option maxRecDepth 20000 in
theorem gX9_fewestLamps_X9_sumAsked : GoodIn wsX9_fewestLamps (va_wsS RX9 472 yX9_sumAsked wsX9_sumAsked) := goodIn_app (goodIn_of _ (by decide +kernel)) ggX9_fewestLamps_X9_sumAsked
set_option maxRecDepth 20000 in
theorem ggX9_mixedWithGrowing_Jx4a65c_size_8abf5 : GoodIn wsX9_mixedWithGrowing wsJx4a65c_size_8abf5 := goodIn_r _ [9, 10, 91, 92, 93] (by decide +kernel) (by decide +kernel)
set_option maxRecDepth 20000 in
theorem gX9_mixedWithGrowing_Jx4a65c_size_8abf5 : GoodIn wsX9_mixedWithGrowing (wsV RX9 63 RJx4a65c yJx4a65c_size_8abf5 wsJx4a65c_size_8abf5) := goodIn_app (goodIn_of _ (by decide +kernel)) ggX9_mixedWithGrowing_Jx4a65c_size_8abf5
set_option maxRecDepth 20000 in
theorem ggX9_mixedWithGrowing_Jx4a65c_get_915e3 : GoodIn wsX9_mixedWithGrowing wsJx4a65c_get_915e3 := goodIn_r _ [14, 10, 15, 16, 17, 18, 19, 20, 21, 22, 23, 24, 25, 8, 26, 27, 91, 92, 93] (by decide +kernel) (by decide +kernel)
set_option maxRecDepth 20000 in
theorem gX9_mixedWithGrowing_Jx4a65c_get_915e3 : GoodIn wsX9_mixedWithGrowing (wsV RX9 279 RJx4a65c yJx4a65c_get_915e3 wsJx4a65c_get_915e3) := goodIn_app (goodIn_of _ (by decide +kernel)) ggX9_mixedWithGrowing_Jx4a65c_get_915e3
set_option maxRecDepth 20000 in
theorem ggX9_mixedWithGrowing_X4_numberOf : GoodIn wsX9_mixedWithGrowing wsX4_numberOf := goodIn_r _ [32, 33, 34, 35, 36, 37, 38, 39, 40, 41, 42, 43, 94, 95, 96, 97, 98, 99] (by decide +kernel) (by decide +kernel)
set_option maxRecDepth 20000 in
theorem gX9_mixedWithGrowing_X4_numberOf : GoodIn wsX9_mixedWithGrowing (wsV RX9 348 RX4 yX4_numberOf wsX4_numberOf) := goodIn_app (goodIn_of _ (by decide +kernel)) ggX9_mixedWithGrowing_X4_numberOf
set_option maxRecDepth 20000 in
theorem ggX9_mixedWithGrowing_X9_mixed : GoodIn wsX9_mixedWithGrowing wsX9_mixed := goodIn_r _ [47, 48] (by decide +kernel) (by decide +kernel)
set_option maxRecDepth 20000 in
theorem gX9_mixedWithGrowing_X9_mixed : GoodIn wsX9_mixedWithGrowing (va_wsS RX9 392 yX9_mixed wsX9_mixed) := goodIn_app (goodIn_of _ (by decide +kernel)) ggX9_mixedWithGrowing_X9_mixed
set_option maxRecDepth 20000 in
theorem ggX9_mixedWithGrowing_X3_numberOf : GoodIn wsX9_mixedWithGrowing wsX3_numberOf := goodIn_r _ [53, 54, 55, 56, 57, 58, 59, 100, 101, 102, 103, 104, 105, 106] (by decide +kernel) (by decide +kernel)
set_option maxRecDepth 20000 in
theorem gX9_mixedWithGrowing_X3_numberOf : GoodIn wsX9_mixedWithGrowing (wsV RX9 340 RX3 yX3_numberOf wsX3_numberOf) := goodIn_app (goodIn_of _ (by decide +kernel)) ggX9_mixedWithGrowing_X3_numberOf
set_option maxRecDepth 20000 in
theorem ggX9_mixedWithGrowing_X9_hoursUntilReady : GoodIn wsX9_mixedWithGrowing wsX9_hoursUntilReady := goodIn_r _ [63, 64, 65, 66, 67, 68, 69, 70, 71, 46, 72, 100, 101, 102, 103, 104, 105, 106, 73, 74, 75, 76, 77, 78, 79, 80, 81, 82, 83, 84, 85, 86, 87, 88, 89, 90, 94, 95, 96, 97, 98] (by decide +kernel) (by decide +kernel)
set_option maxRecDepth 20000 in
theorem gX9_mixedWithGrowing_X9_hoursUntilReady : GoodIn wsX9_mixedWithGrowing (wsV RX9 381 RX9 yX9_hoursUntilReady wsX9_hoursUntilReady) := goodIn_app (goodIn_of _ (by decide +kernel)) ggX9_mixedWithGrowing_X9_hoursUntilReady
set_option maxRecDepth 20000 in
theorem ggX9_mixedWithLots_Jx4a65c_size_8abf5 : GoodIn wsX9_mixedWithLots wsJx4a65c_size_8abf5 := goodIn_r _ [7, 8, 152, 153, 154] (by decide +kernel) (by decide +kernel)
set_option maxRecDepth 20000 in
theorem gX9_mixedWithLots_Jx4a65c_size_8abf5 : GoodIn wsX9_mixedWithLots (wsV RX9 63 RJx4a65c yJx4a65c_size_8abf5 wsJx4a65c_size_8abf5) := goodIn_app (goodIn_of _ (by decide +kernel)) ggX9_mixedWithLots_Jx4a65c_size_8abf5
set_option maxRecDepth 20000 in
theorem ggX9_mixedWithLots_Jx4a65c_get_915e3 : GoodIn wsX9_mixedWithLots wsJx4a65c_get_915e3 := goodIn_r _ [12, 8, 13, 14, 15, 16, 17, 18, 19, 20, 21, 22, 23, 6, 24, 25, 152, 153, 154] (by decide +kernel) (by decide +kernel)
set_option maxRecDepth 20000 in
theorem gX9_mixedWithLots_Jx4a65c_get_915e3 : GoodIn wsX9_mixedWithLots (wsV RX9 279 RJx4a65c yJx4a65c_get_915e3 wsJx4a65c_get_915e3) := goodIn_app (goodIn_of _ (by decide +kernel)) ggX9_mixedWithLots_Jx4a65c_get_915e3
set_option maxRecDepth 20000 in
theorem ggX9_mixedWithLots_X5_numberOf : GoodIn wsX9_mixedWithLots wsX5_numberOf := goodIn_r _ [30, 31, 32, 33, 34, 35, 36, 37, 38, 39, 40, 155, 156, 157, 158, 159, 160, 161, 162, 163, 164, 165, 166] (by decide +kernel) (by decide +kernel)
set_option maxRecDepth 20000 in
theorem gX9_mixedWithLots_X5_numberOf : GoodIn wsX9_mixedWithLots (wsV RX9 345 RX5 yX5_numberOf wsX5_numberOf) := goodIn_app (goodIn_of _ (by decide +kernel)) ggX9_mixedWithLots_X5_numberOf
set_option maxRecDepth 20000 in
theorem ggX9_mixedWithLots_X9_mixed : GoodIn wsX9_mixedWithLots wsX9_mixed := goodIn_r _ [44, 45] (by decide +kernel) (by decide +kernel)
set_option maxRecDepth 20000 in
theorem gX9_mixedWithLots_X9_mixed : GoodIn wsX9_mixedWithLots (va_wsS RX9 392 yX9_mixed wsX9_mixed) := goodIn_app (goodIn_of _ (by decide +kernel)) ggX9_mixedWithLots_X9_mixed
set_option maxRecDepth 20000 in
theorem ggX9_mixedWithLots_X9_firstPriceOf : GoodIn wsX9_mixedWithLots wsX9_firstPriceOf := goodIn_r _ [49, 50, 51, 52, 53, 54, 55, 56, 57, 58, 59, 60, 61, 62, 63, 64, 65, 66, 67, 68, 69, 70, 71, 72, 73, 74, 75, 76, 77, 78, 79, 80, 81, 82, 83, 84, 85, 86, 87, 88, 89, 90, 91, 92, 4, 5, 6, 7, 8, 93, 10, 11, 12, 13, 14, 15, 16, 17, 18, 19, 20, 21, 22, 23, 24, 25, 94, 95, 96, 97, 98, 99, 100, 101, 102, 103, 104, 105, 106, 107, 108, 109, 110, 111, 112, 113, 114, 115, 116, 117, 118, 119, 120, 121, 122, 123, 124, 125, 126, 127, 43, 128, 134, 135, 136, 137, 138, 139, 140, 141, 142, 143, 144, 145, 146, 147, 148, 149, 150, 151, 155, 156, 157, 158, 159, 160, 161, 162, 163, 164, 165, 166, 167, 168, 169, 170, 171, 172, 173, 174, 175, 176, 177, 178, 179, 180, 181, 182, 183, 184, 185, 186, 187, 188, 189, 190, 191, 192, 193, 194, 195, 196, 197, 198, 199, 200, 152, 153, 154] (by decide +kernel) (by decide +kernel)
set_option maxRecDepth 20000 in
theorem gX9_mixedWithLots_X9_firstPriceOf : GoodIn wsX9_mixedWithLots (wsV RX9 374 RX9 yX9_firstPriceOf wsX9_firstPriceOf) := goodIn_app (goodIn_of _ (by decide +kernel)) ggX9_mixedWithLots_X9_firstPriceOf
set_option maxRecDepth 20000 in
theorem ggX9_mixedWithLots_X9_lowestPriceOf : GoodIn wsX9_mixedWithLots wsX9_lowestPriceOf := goodIn_r _ [132, 50, 51, 52, 53, 54, 133, 66, 67, 68, 55, 56, 57, 58, 59, 60, 61, 62, 63, 64, 65, 69, 70, 71, 72, 73, 74, 75, 76, 77, 78, 79, 80, 81, 82, 83, 84, 85, 86, 87, 88, 89, 90, 91, 92, 4, 5, 6, 7, 8, 93, 10, 11, 12, 13, 14, 15, 16, 17, 18, 19, 20, 21, 22, 23, 24, 25, 94, 95, 96, 97, 98, 99, 100, 101, 102, 103, 104, 105, 106, 107, 108, 109, 110, 111, 112, 113, 114, 115, 116, 117, 118, 119, 120, 121, 122, 123, 124, 125, 126, 127, 43, 128, 134, 135, 136, 137, 138, 139, 140, 141, 142, 143, 144, 145, 146, 147, 148, 149, 150, 151, 155, 156, 157, 158, 159, 160, 161, 162, 163, 164, 165, 166, 167, 168, 169, 170, 171, 172, 173, 174, 175, 176, 177, 178, 179, 180, 181, 182, 183, 184, 185, 186, 187, 188, 189, 190, 191, 192, 193, 194, 195, 196, 197, 198, 199, 200, 152, 153, 154] (by decide +kernel) (by decide +kernel)
set_option maxRecDepth 20000 in
theorem gX9_mixedWithLots_X9_lowestPriceOf : GoodIn wsX9_mixedWithLots (wsV RX9 378 RX9 yX9_lowestPriceOf wsX9_lowestPriceOf) := goodIn_app (goodIn_of _ (by decide +kernel)) ggX9_mixedWithLots_X9_lowestPriceOf
set_option maxRecDepth 20000 in
theorem ggX9_mixedWithTrade_Jx4a65c_size_8abf5 : GoodIn wsX9_mixedWithTrade wsJx4a65c_size_8abf5 := goodIn_r _ [12, 13, 92, 93, 94] (by decide +kernel) (by decide +kernel)
set_option maxRecDepth 20000 in
theorem gX9_mixedWithTrade_Jx4a65c_size_8abf5 : GoodIn wsX9_mixedWithTrade (wsV RX9 63 RJx4a65c yJx4a65c_size_8abf5 wsJx4a65c_size_8abf5) := goodIn_app (goodIn_of _ (by decide +kernel)) ggX9_mixedWithTrade_Jx4a65c_size_8abf5
set_option maxRecDepth 20000 in
theorem ggX9_mixedWithTrade_Jx4a65c_get_915e3 : GoodIn wsX9_mixedWithTrade wsJx4a65c_get_915e3 := goodIn_r _ [17, 13, 18, 19, 20, 21, 22, 23, 24, 25, 26, 27, 28, 11, 29, 30, 92, 93, 94] (by decide +kernel) (by decide +kernel)
set_option maxRecDepth 20000 in
theorem gX9_mixedWithTrade_Jx4a65c_get_915e3 : GoodIn wsX9_mixedWithTrade (wsV RX9 279 RJx4a65c yJx4a65c_get_915e3 wsJx4a65c_get_915e3) := goodIn_app (goodIn_of _ (by decide +kernel)) ggX9_mixedWithTrade_Jx4a65c_get_915e3
set_option maxRecDepth 20000 in
theorem ggX9_mixedWithTrade_X0_numberOf : GoodIn wsX9_mixedWithTrade wsX0_numberOf := goodIn_r _ [35, 36, 37, 38, 39, 40, 41, 42, 43, 44, 45, 46, 47, 48, 95, 96, 97, 98, 99, 100, 101, 102, 103, 104, 105, 106] (by decide +kernel) (by decide +kernel)
set_option maxRecDepth 20000 in
theorem gX9_mixedWithTrade_X0_numberOf : GoodIn wsX9_mixedWithTrade (wsV RX9 351 RX0 yX0_numberOf wsX0_numberOf) := goodIn_app (goodIn_of _ (by decide +kernel)) ggX9_mixedWithTrade_X0_numberOf
set_option maxRecDepth 20000 in
theorem ggX9_mixedWithTrade_X9_mixed : GoodIn wsX9_mixedWithTrade wsX9_mixed := goodIn_r _ [52, 53] (by decide +kernel) (by decide +kernel)
set_option maxRecDepth 20000 in
theorem gX9_mixedWithTrade_X9_mixed : GoodIn wsX9_mixedWithTrade (va_wsS RX9 392 yX9_mixed wsX9_mixed) := goodIn_app (goodIn_of _ (by decide +kernel)) ggX9_mixedWithTrade_X9_mixed
set_option maxRecDepth 20000 in
theorem ggX9_mixedWithTrade_X7_numberOf : GoodIn wsX9_mixedWithTrade wsX7_numberOf := goodIn_r _ [58, 59, 60, 61, 62, 63, 64, 65, 107, 108, 109, 110, 111, 112, 113, 114, 115, 116, 117, 118, 119, 120, 121, 122, 123, 124, 125, 95, 96, 97, 98, 99, 100, 101, 102, 103, 104, 105] (by decide +kernel) (by decide +kernel)
set_option maxRecDepth 20000 in
theorem gX9_mixedWithTrade_X7_numberOf : GoodIn wsX9_mixedWithTrade (wsV RX9 359 RX7 yX7_numberOf wsX7_numberOf) := goodIn_app (goodIn_of _ (by decide +kernel)) ggX9_mixedWithTrade_X7_numberOf
