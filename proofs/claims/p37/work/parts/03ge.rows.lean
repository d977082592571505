set_option maxRecDepth 20000 in
theorem ggX9_growCrops_Jx4a65c_get_915e3 : GoodIn wsX9_growCrops wsJx4a65c_get_915e3 := goodIn_r _ [15, 11, 16, 17, 18, 19, 20, 21, 22, 23, 24, 25, 26, 9, 27, 28, 71, 72, 73] (by decide +kernel) (by decide +kernel)
set_option maxRecDepth 20000 in
theorem gX9_growCrops_Jx4a65c_get_915e3 : GoodIn wsX9_growCrops (wsV RX9 279 RJx4a65c yJx4a65c_get_915e3 wsJx4a65c_get_915e3) := goodIn_app (goodIn_of _ (by decide +kernel)) ggX9_growCrops_Jx4a65c_get_915e3
set_option maxRecDepth 20000 in
theorem ggX9_growCrops_X3_growBy : GoodIn wsX9_growCrops wsX3_growBy := goodIn_r _ [33, 34, 35, 36, 37, 38, 39, 40, 59, 60, 61, 62, 63, 64, 65] (by decide +kernel) (by decide +kernel)
set_option maxRecDepth 20000 in
theorem gX9_growCrops_X3_growBy : GoodIn wsX9_growCrops (wsV RX9 433 RX3 yX3_growBy wsX3_growBy) := goodIn_app (goodIn_of _ (by decide +kernel)) ggX9_growCrops_X3_growBy
set_option maxRecDepth 20000 in
theorem ggX9_payForLamps_Jx4a65c_size_8abf5 : GoodIn wsX9_payForLamps wsJx4a65c_size_8abf5 := goodIn_r _ [9, 10, 51, 52, 53] (by decide +kernel) (by decide +kernel)
set_option maxRecDepth 20000 in
theorem gX9_payForLamps_Jx4a65c_size_8abf5 : GoodIn wsX9_payForLamps (wsV RX9 63 RJx4a65c yJx4a65c_size_8abf5 wsJx4a65c_size_8abf5) := goodIn_app (goodIn_of _ (by decide +kernel)) ggX9_payForLamps_Jx4a65c_size_8abf5
set_option maxRecDepth 20000 in
theorem ggX9_payForLamps_Jx4a65c_get_915e3 : GoodIn wsX9_payForLamps wsJx4a65c_get_915e3 := goodIn_r _ [14, 10, 15, 16, 17, 18, 19, 20, 21, 22, 23, 24, 25, 8, 26, 27, 51, 52, 53] (by decide +kernel) (by decide +kernel)
set_option maxRecDepth 20000 in
theorem gX9_payForLamps_Jx4a65c_get_915e3 : GoodIn wsX9_payForLamps (wsV RX9 279 RJx4a65c yJx4a65c_get_915e3 wsJx4a65c_get_915e3) := goodIn_app (goodIn_of _ (by decide +kernel)) ggX9_payForLamps_Jx4a65c_get_915e3
set_option maxRecDepth 20000 in
theorem ggX9_loseLife_Jx4a65c_size_8abf5 : GoodIn wsX9_loseLife wsJx4a65c_size_8abf5 := goodIn_r _ [17, 18, 74, 75, 76] (by decide +kernel) (by decide +kernel)
set_option maxRecDepth 20000 in
theorem gX9_loseLife_Jx4a65c_size_8abf5 : GoodIn wsX9_loseLife (wsV RX9 63 RJx4a65c yJx4a65c_size_8abf5 wsJx4a65c_size_8abf5) := goodIn_app (goodIn_of _ (by decide +kernel)) ggX9_loseLife_Jx4a65c_size_8abf5
set_option maxRecDepth 20000 in
theorem ggX9_loseLife_Jx4a65c_get_915e3 : GoodIn wsX9_loseLife wsJx4a65c_get_915e3 := goodIn_r _ [22, 18, 23, 24, 25, 26, 27, 28, 29, 30, 31, 32, 33, 16, 34, 35, 74, 75, 76] (by decide +kernel) (by decide +kernel)
set_option maxRecDepth 20000 in
theorem gX9_loseLife_Jx4a65c_get_915e3 : GoodIn wsX9_loseLife (wsV RX9 279 RJx4a65c yJx4a65c_get_915e3 wsJx4a65c_get_915e3) := goodIn_app (goodIn_of _ (by decide +kernel)) ggX9_loseLife_Jx4a65c_get_915e3
set_option maxRecDepth 20000 in
theorem ggX9_loseLife_X9_lifeLostIn : GoodIn wsX9_loseLife wsX9_lifeLostIn := goodIn_r _ [39] (by decide +kernel) (by decide +kernel)
set_option maxRecDepth 20000 in
theorem gX9_loseLife_X9_lifeLostIn : GoodIn wsX9_loseLife (va_wsS RX9 437 yX9_lifeLostIn wsX9_lifeLostIn) := goodIn_app (goodIn_of _ (by decide +kernel)) ggX9_loseLife_X9_lifeLostIn
set_option maxRecDepth 20000 in
theorem ggX9_runRail_Jx4a65c_isEmpty_aae02 : GoodIn wsX9_runRail wsJx4a65c_isEmpty_aae02 := goodIn_r _ [8, 9, 89, 90, 91] (by decide +kernel) (by decide +kernel)
set_option maxRecDepth 20000 in
theorem gX9_runRail_Jx4a65c_isEmpty_aae02 : GoodIn wsX9_runRail (wsV RX9 237 RJx4a65c yJx4a65c_isEmpty_aae02 wsJx4a65c_isEmpty_aae02) := goodIn_app (goodIn_of _ (by decide +kernel)) ggX9_runRail_Jx4a65c_isEmpty_aae02
set_option maxRecDepth 20000 in
theorem ggX9_runRail_X9_nextOnRail : GoodIn wsX9_runRail wsX9_nextOnRail := goodIn_r _ [14, 2, 3, 15, 16, 17, 18, 19, 7, 20, 9, 21, 22, 23, 24, 25, 26, 27, 28, 29, 30, 31, 32, 33, 34, 35, 36, 37, 71, 72, 73, 74, 75, 76, 77, 78, 79, 80, 81, 82, 83, 84, 85, 86, 87, 88, 92, 93, 94, 95, 96, 97, 98, 99, 100, 101, 102, 103, 104, 105, 106, 89, 90, 91] (by decide +kernel) (by decide +kernel)
set_option maxRecDepth 20000 in
theorem gX9_runRail_X9_nextOnRail : GoodIn wsX9_runRail (wsV RX9 443 RX9 yX9_nextOnRail wsX9_nextOnRail) := goodIn_app (goodIn_of _ (by decide +kernel)) ggX9_runRail_X9_nextOnRail
set_option maxRecDepth 20000 in
theorem ggX9_runRail_Jx4a65c_remove_915e3 : GoodIn wsX9_runRail wsJx4a65c_remove_915e3 := goodIn_r _ [41, 9, 37, 25, 26, 27, 28, 29, 30, 31, 32, 42, 43, 44, 7, 45, 46, 47, 48, 49, 50, 51, 89, 90, 91] (by decide +kernel) (by decide +kernel)
set_option maxRecDepth 20000 in
theorem gX9_runRail_Jx4a65c_remove_915e3 : GoodIn wsX9_runRail (wsV RX9 243 RJx4a65c yJx4a65c_remove_915e3 wsJx4a65c_remove_915e3) := goodIn_app (goodIn_of _ (by decide +kernel)) ggX9_runRail_Jx4a65c_remove_915e3
set_option maxRecDepth 20000 in
theorem ggX9_runRail_X9_unload : GoodIn wsX9_runRail wsX9_unload := goodIn_r _ [55, 15, 16, 56, 57, 58, 59, 60, 61, 62, 63, 64, 65, 66, 67, 68, 69, 70, 92, 93, 94, 95, 96, 97, 98, 99, 100, 101, 102, 103, 104, 105, 106, 71, 72, 73, 74, 75, 76, 77, 78, 79, 80, 81, 82, 83, 84, 85, 86, 87, 88, 107] (by decide +kernel) (by decide +kernel)
set_option maxRecDepth 20000 in
theorem gX9_runRail_X9_unload : GoodIn wsX9_runRail (wsV RX9 446 RX9 yX9_unload wsX9_unload) := goodIn_app (goodIn_of _ (by decide +kernel)) ggX9_runRail_X9_unload
set_option maxRecDepth 20000 in
theorem ggX9_nextOnRail_Jx4a65c_size_8abf5 : GoodIn wsX9_nextOnRail wsJx4a65c_size_8abf5 := goodIn_r _ [9, 10, 61, 62, 63] (by decide +kernel) (by decide +kernel)
set_option maxRecDepth 20000 in
theorem gX9_nextOnRail_Jx4a65c_size_8abf5 : GoodIn wsX9_nextOnRail (wsV RX9 63 RJx4a65c yJx4a65c_size_8abf5 wsJx4a65c_size_8abf5) := goodIn_app (goodIn_of _ (by decide +kernel)) ggX9_nextOnRail_Jx4a65c_size_8abf5
set_option maxRecDepth 20000 in
theorem ggX9_nextOnRail_Jx4a65c_get_915e3 : GoodIn wsX9_nextOnRail wsJx4a65c_get_915e3 := goodIn_r _ [14, 10, 15, 16, 17, 18, 19, 20, 21, 22, 23, 24, 25, 8, 26, 27, 61, 62, 63] (by decide +kernel) (by decide +kernel)
set_option maxRecDepth 20000 in
theorem gX9_nextOnRail_Jx4a65c_get_915e3 : GoodIn wsX9_nextOnRail (wsV RX9 279 RJx4a65c yJx4a65c_get_915e3 wsJx4a65c_get_915e3) := goodIn_app (goodIn_of _ (by decide +kernel)) ggX9_nextOnRail_Jx4a65c_get_915e3
set_option maxRecDepth 20000 in
theorem ggX9_unload_X1_of : GoodIn wsX9_unload wsX1_of := goodIn_r _ [12, 13, 51] (by decide +kernel) (by decide +kernel)
set_option maxRecDepth 20000 in
theorem gX9_unload_X1_of : GoodIn wsX9_unload (wsV RX9 171 RX1 yX1_of wsX1_of) := goodIn_app (goodIn_of _ (by decide +kernel)) ggX9_unload_X1_of
set_option maxRecDepth 20000 in
theorem ggX9_unload_X1_put : GoodIn wsX9_unload wsX1_put := goodIn_r _ [17, 13, 51] (by decide +kernel) (by decide +kernel)
set_option maxRecDepth 20000 in
theorem gX9_unload_X1_put : GoodIn wsX9_unload (wsV RX9 179 RX1 yX1_put wsX1_put) := goodIn_app (goodIn_of _ (by decide +kernel)) ggX9_unload_X1_put
set_option maxRecDepth 20000 in
theorem ggX9_sell_X9_bucketsFor : GoodIn wsX9_sell wsX9_bucketsFor := goodIn_r _ [22] (by decide +kernel) (by decide +kernel)
set_option maxRecDepth 20000 in
theorem gX9_sell_X9_bucketsFor : GoodIn wsX9_sell (va_wsS RX9 123 yX9_bucketsFor wsX9_bucketsFor) := goodIn_app (goodIn_of _ (by decide +kernel)) ggX9_sell_X9_bucketsFor
set_option maxRecDepth 20000 in
theorem ggX9_sell_X7_init : GoodIn wsX9_sell wsX7_init := goodIn_r _ [25, 26, 27, 28, 29, 30, 31, 32, 33, 34, 35, 152, 153, 154, 155, 156, 157, 158] (by decide +kernel) (by decide +kernel)
set_option maxRecDepth 20000 in
theorem gX9_sell_X7_init : GoodIn wsX9_sell (wsX7_init) := ggX9_sell_X7_init
set_option maxRecDepth 20000 in
theorem ggX9_sell_X9_book : GoodIn wsX9_sell wsX9_book := goodIn_r _ [39, 40, 41, 42, 43, 44, 45, 46, 47, 48, 49, 50, 10, 1, 51, 52, 53, 54, 55, 56, 21, 57, 152, 153, 154, 155, 156, 157, 158, 181, 182, 183, 184, 185, 186, 187, 188, 189, 190, 191, 159, 160, 161, 162, 163, 164, 165, 166, 167, 168, 169, 170, 171, 172, 173, 174, 175, 176, 140, 141, 142, 143, 144, 145, 146, 147, 148, 149, 150, 151, 192, 193, 194, 195, 196, 197, 198, 199, 200, 201, 202, 203, 204] (by decide +kernel) (by decide +kernel)
set_option maxRecDepth 20000 in
theorem gX9_sell_X9_book : GoodIn wsX9_sell (wsV RX9 456 RX9 yX9_book wsX9_book) := goodIn_app (goodIn_of _ (by decide +kernel)) ggX9_sell_X9_book
set_option maxRecDepth 20000 in
theorem ggX9_sell_X8_init : GoodIn wsX9_sell wsX8_init := goodIn_r _ [60, 61, 27, 28, 62, 63, 64, 65, 177, 178, 179, 180] (by decide +kernel) (by decide +kernel)
set_option maxRecDepth 20000 in
theorem gX9_sell_X8_init : GoodIn wsX9_sell (wsX8_init) := ggX9_sell_X8_init
set_option maxRecDepth 20000 in
theorem ggX9_sell_Jx4a65c_add_9ea2d : GoodIn wsX9_sell wsJx4a65c_add_9ea2d := goodIn_r _ [70, 71, 72, 73, 74, 75, 76, 77, 69, 78, 79, 80, 81, 82, 83, 84, 85, 86, 87, 88, 89, 4, 90, 91, 92, 93, 94, 95, 96, 97, 98, 99, 100, 101, 102, 103, 104, 105, 106, 107, 108, 109, 110, 111, 112, 113, 114, 3, 5, 115, 116, 117, 118, 205, 206, 207] (by decide +kernel) (by decide +kernel)
set_option maxRecDepth 20000 in
theorem gX9_sell_Jx4a65c_add_9ea2d : GoodIn wsX9_sell (wsV RX9 77 RJx4a65c yJx4a65c_add_9ea2d wsJx4a65c_add_9ea2d) := goodIn_app (goodIn_of _ (by decide +kernel)) ggX9_sell_Jx4a65c_add_9ea2d
set_option maxRecDepth 20000 in
theorem ggX9_sell_Jx4a65c_size_8abf5 : GoodIn wsX9_sell wsJx4a65c_size_8abf5 := goodIn_r _ [122, 74, 205, 206, 207] (by decide +kernel) (by decide +kernel)
set_option maxRecDepth 20000 in
theorem gX9_sell_Jx4a65c_size_8abf5 : GoodIn wsX9_sell (wsV RX9 63 RJx4a65c yJx4a65c_size_8abf5 wsJx4a65c_size_8abf5) := goodIn_app (goodIn_of _ (by decide +kernel)) ggX9_sell_Jx4a65c_size_8abf5
set_option maxRecDepth 20000 in
theorem ggX9_sell_Jx4a65c_remove_915e3 : GoodIn wsX9_sell wsJx4a65c_remove_915e3 := goodIn_r _ [126, 74, 73, 127, 128, 129, 130, 131, 132, 133, 134, 135, 136, 137, 69, 138, 71, 72, 139, 116, 117, 118, 205, 206, 207] (by decide +kernel) (by decide +kernel)
set_option maxRecDepth 20000 in
theorem gX9_sell_Jx4a65c_remove_915e3 : GoodIn wsX9_sell (wsV RX9 243 RJx4a65c yJx4a65c_remove_915e3 wsJx4a65c_remove_915e3) := goodIn_app (goodIn_of _ (by decide +kernel)) ggX9_sell_Jx4a65c_remove_915e3
set_option maxRecDepth 20000 in
theorem ggX9_takeBack_X9_book : GoodIn wsX9_takeBack wsX9_book := goodIn_r _ [8, 9, 10, 11, 12, 13, 14, 15, 1, 16, 17, 18, 19, 20, 21, 22, 23, 24, 25, 26, 7, 27, 61, 62, 63, 64, 65, 66, 67, 98, 99, 100, 101, 102, 103, 104, 105, 106, 107, 108, 80, 81, 82, 83, 84, 85, 86, 87, 88, 89, 90, 91, 92, 93, 94, 95, 96, 97, 68, 69, 70, 71, 72, 73, 74, 75, 76, 77, 78, 79, 109, 110, 111, 112, 113, 114, 115, 116, 117, 118, 119, 120, 121] (by decide +kernel) (by decide +kernel)
set_option maxRecDepth 20000 in
theorem gX9_takeBack_X9_book : GoodIn wsX9_takeBack (wsV RX9 456 RX9 yX9_book wsX9_book) := goodIn_app (goodIn_of _ (by decide +kernel)) ggX9_takeBack_X9_book
set_option maxRecDepth 20000 in
theorem ggX9_takeBack_Jx4a65c_isEmpty_aae02 : GoodIn wsX9_takeBack wsJx4a65c_isEmpty_aae02 := goodIn_r _ [32, 33, 122, 123, 124] (by decide +kernel) (by decide +kernel)
set_option maxRecDepth 20000 in
theorem gX9_takeBack_Jx4a65c_isEmpty_aae02 : GoodIn wsX9_takeBack (wsV RX9 237 RJx4a65c yJx4a65c_isEmpty_aae02 wsJx4a65c_isEmpty_aae02) := goodIn_app (goodIn_of _ (by decide +kernel)) ggX9_takeBack_Jx4a65c_isEmpty_aae02
set_option maxRecDepth 20000 in
theorem ggX9_takeBack_Jx4a65c_size_8abf5 : GoodIn wsX9_takeBack wsJx4a65c_size_8abf5 := goodIn_r _ [37, 33, 122, 123, 124] (by decide +kernel) (by decide +kernel)
set_option maxRecDepth 20000 in
theorem gX9_takeBack_Jx4a65c_size_8abf5 : GoodIn wsX9_takeBack (wsV RX9 63 RJx4a65c yJx4a65c_size_8abf5 wsJx4a65c_size_8abf5) := goodIn_app (goodIn_of _ (by decide +kernel)) ggX9_takeBack_Jx4a65c_size_8abf5
set_option maxRecDepth 20000 in
theorem ggX9_takeBack_Jx4a65c_remove_915e3 : GoodIn wsX9_takeBack wsJx4a65c_remove_915e3 := goodIn_r _ [41, 33, 42, 43, 44, 45, 46, 47, 48, 49, 50, 51, 52, 53, 31, 54, 55, 56, 57, 58, 59, 60, 122, 123, 124] (by decide +kernel) (by decide +kernel)
set_option maxRecDepth 20000 in
theorem gX9_takeBack_Jx4a65c_remove_915e3 : GoodIn wsX9_takeBack (wsV RX9 243 RJx4a65c yJx4a65c_remove_915e3 wsJx4a65c_remove_915e3) := goodIn_app (goodIn_of _ (by decide +kernel)) ggX9_takeBack_Jx4a65c_remove_915e3
set_option maxRecDepth 20000 in
theorem ggX9_book_X9_shareOfGrower : GoodIn wsX9_book wsX9_shareOfGrower := goodIn_r _ [21] (by decide +kernel) (by decide +kernel)
set_option maxRecDepth 20000 in
theorem gX9_book_X9_shareOfGrower : GoodIn wsX9_book (va_wsS RX9 274 yX9_shareOfGrower wsX9_shareOfGrower) := goodIn_app (goodIn_of _ (by decide +kernel)) ggX9_book_X9_shareOfGrower
set_option maxRecDepth 20000 in
theorem ggX9_bindsOne_X1_of : GoodIn wsX9_bindsOne wsX1_of := goodIn_r _ [9, 10, 15] (by decide +kernel) (by decide +kernel)
set_option maxRecDepth 20000 in
theorem gX9_bindsOne_X1_of : GoodIn wsX9_bindsOne (wsV RX9 171 RX1 yX1_of wsX1_of) := goodIn_app (goodIn_of _ (by decide +kernel)) ggX9_bindsOne_X1_of
set_option maxRecDepth 20000 in
theorem ggX9_bindsOne_X1_put : GoodIn wsX9_bindsOne wsX1_put := goodIn_r _ [14, 10, 15] (by decide +kernel) (by decide +kernel)
set_option maxRecDepth 20000 in
theorem gX9_bindsOne_X1_put : GoodIn wsX9_bindsOne (wsV RX9 179 RX1 yX1_put wsX1_put) := goodIn_app (goodIn_of _ (by decide +kernel)) ggX9_bindsOne_X1_put
set_option maxRecDepth 20000 in
theorem ggX9_lotInRow_Jx4a65c_size_8abf5 : GoodIn wsX9_lotInRow wsJx4a65c_size_8abf5 := goodIn_r _ [8, 9, 57, 58, 59] (by decide +kernel) (by decide +kernel)
set_option maxRecDepth 20000 in
theorem gX9_lotInRow_Jx4a65c_size_8abf5 : GoodIn wsX9_lotInRow (wsV RX9 63 RJx4a65c yJx4a65c_size_8abf5 wsJx4a65c_size_8abf5) := goodIn_app (goodIn_of _ (by decide +kernel)) ggX9_lotInRow_Jx4a65c_size_8abf5
set_option maxRecDepth 20000 in
theorem ggX9_lotInRow_Jx4a65c_get_915e3 : GoodIn wsX9_lotInRow wsJx4a65c_get_915e3 := goodIn_r _ [13, 9, 14, 15, 16, 17, 18, 19, 20, 21, 22, 23, 24, 7, 25, 26, 57, 58, 59] (by decide +kernel) (by decide +kernel)
set_option maxRecDepth 20000 in
theorem gX9_lotInRow_Jx4a65c_get_915e3 : GoodIn wsX9_lotInRow (wsV RX9 279 RJx4a65c yJx4a65c_get_915e3 wsJx4a65c_get_915e3) := goodIn_app (goodIn_of _ (by decide +kernel)) ggX9_lotInRow_Jx4a65c_get_915e3
set_option maxRecDepth 20000 in
theorem ggX9_leastLifeOnRail_Jx4a65c_isEmpty_aae02 : GoodIn wsX9_leastLifeOnRail wsJx4a65c_isEmpty_aae02 := goodIn_r _ [12, 13, 57, 58, 59] (by decide +kernel) (by decide +kernel)
set_option maxRecDepth 20000 in
theorem gX9_leastLifeOnRail_Jx4a65c_isEmpty_aae02 : GoodIn wsX9_leastLifeOnRail (wsV RX9 237 RJx4a65c yJx4a65c_isEmpty_aae02 wsJx4a65c_isEmpty_aae02) := goodIn_app (goodIn_of _ (by decide +kernel)) ggX9_leastLifeOnRail_Jx4a65c_isEmpty_aae02
