set_option maxRecDepth 20000 in
theorem ggX0_init_X1_init : GoodIn wsX0_init wsX1_init := goodIn_r _ [14, 15, 2, 3, 16, 17, 18] (by decide +kernel) (by decide +kernel)
set_option maxRecDepth 20000 in
theorem gX0_init_X1_init : GoodIn wsX0_init (wsX1_init) := ggX0_init_X1_init
set_option maxRecDepth 20000 in
theorem ggX0_numberOf_X1_of : GoodIn wsX0_numberOf wsX1_of := goodIn_r _ [12, 13, 25] (by decide +kernel) (by decide +kernel)
set_option maxRecDepth 20000 in
theorem gX0_numberOf_X1_of : GoodIn wsX0_numberOf (wsV RX0 42 RX1 yX1_of wsX1_of) := goodIn_app (goodIn_of _ (by decide +kernel)) ggX0_numberOf_X1_of
set_option maxRecDepth 20000 in
theorem ggX2_begin_Jx4a65c_size_8abf5 : GoodIn wsX2_begin wsJx4a65c_size_8abf5 := goodIn_r _ [37, 38, 102, 103, 104] (by decide +kernel) (by decide +kernel)
set_option maxRecDepth 20000 in
theorem gX2_begin_Jx4a65c_size_8abf5 : GoodIn wsX2_begin (wsV RX2 62 RJx4a65c yJx4a65c_size_8abf5 wsJx4a65c_size_8abf5) := goodIn_app (goodIn_of _ (by decide +kernel)) ggX2_begin_Jx4a65c_size_8abf5
set_option maxRecDepth 20000 in
theorem ggX2_begin_Jx4a65c_get_915e3 : GoodIn wsX2_begin wsJx4a65c_get_915e3 := goodIn_r _ [42, 38, 43, 44, 45, 46, 47, 48, 49, 50, 51, 52, 53, 36, 54, 55, 102, 103, 104] (by decide +kernel) (by decide +kernel)
set_option maxRecDepth 20000 in
theorem gX2_begin_Jx4a65c_get_915e3 : GoodIn wsX2_begin (wsV RX2 68 RJx4a65c yJx4a65c_get_915e3 wsJx4a65c_get_915e3) := goodIn_app (goodIn_of _ (by decide +kernel)) ggX2_begin_Jx4a65c_get_915e3
set_option maxRecDepth 20000 in
theorem ggX2_nextTaker_X2_firstToPress : GoodIn wsX2_nextTaker wsX2_firstToPress := goodIn_r _ [16, 17, 18, 19, 20, 21, 22, 23, 24, 25, 26, 27, 28, 29, 30, 31, 32, 33, 34, 35, 36, 37, 38, 39, 40, 41, 42, 43, 15, 44, 6, 4, 11, 45, 46, 47, 48, 49, 50, 51, 52, 53, 54, 55, 56, 57, 58, 59, 60, 61, 2, 62, 63, 103, 104, 105, 84, 85, 86, 87, 88, 89, 90, 91, 92, 93, 94, 95, 96, 97, 98, 99, 100, 101, 102, 74, 75, 76, 77, 78, 79, 80, 81, 82, 83] (by decide +kernel) (by decide +kernel)
set_option maxRecDepth 20000 in
theorem gX2_nextTaker_X2_firstToPress : GoodIn wsX2_nextTaker (wsV RX2 104 RX2 yX2_firstToPress wsX2_firstToPress) := goodIn_app (goodIn_of _ (by decide +kernel)) ggX2_nextTaker_X2_firstToPress
set_option maxRecDepth 20000 in
theorem ggX2_nextTaker_X2_stampOf : GoodIn wsX2_nextTaker wsX2_stampOf := goodIn_r _ [61, 2, 62, 4, 63, 74, 75, 76, 77, 78, 79, 80, 81, 82, 83, 84, 85, 86, 87, 88, 89, 90, 91, 92, 93, 94, 95, 96, 97, 98, 99, 100, 101, 102] (by decide +kernel) (by decide +kernel)
set_option maxRecDepth 20000 in
theorem gX2_nextTaker_X2_stampOf : GoodIn wsX2_nextTaker (wsV RX2 108 RX2 yX2_stampOf wsX2_stampOf) := goodIn_app (goodIn_of _ (by decide +kernel)) ggX2_nextTaker_X2_stampOf
set_option maxRecDepth 20000 in
theorem ggX2_nextTaker_X2_take : GoodIn wsX2_nextTaker wsX2_take := goodIn_r _ [67, 68, 7, 8, 9, 10, 69, 70, 6, 4, 5, 1, 2, 71, 72, 73, 74, 75, 76, 77, 78, 79, 80, 81, 82, 83, 84, 85, 86, 87, 88, 89, 90, 91, 92, 93, 94, 95, 96, 97, 98, 99, 100, 101, 102] (by decide +kernel) (by decide +kernel)
set_option maxRecDepth 20000 in
theorem gX2_nextTaker_X2_take : GoodIn wsX2_nextTaker (wsV RX2 116 RX2 yX2_take wsX2_take) := goodIn_app (goodIn_of _ (by decide +kernel)) ggX2_nextTaker_X2_take
set_option maxRecDepth 20000 in
theorem ggX2_firstToPress_Jx4a65c_size_8abf5 : GoodIn wsX2_firstToPress wsJx4a65c_size_8abf5 := goodIn_r _ [6, 7, 53, 54, 55] (by decide +kernel) (by decide +kernel)
set_option maxRecDepth 20000 in
theorem gX2_firstToPress_Jx4a65c_size_8abf5 : GoodIn wsX2_firstToPress (wsV RX2 62 RJx4a65c yJx4a65c_size_8abf5 wsJx4a65c_size_8abf5) := goodIn_app (goodIn_of _ (by decide +kernel)) ggX2_firstToPress_Jx4a65c_size_8abf5
set_option maxRecDepth 20000 in
theorem ggX2_firstToPress_Jx4a65c_get_915e3 : GoodIn wsX2_firstToPress wsJx4a65c_get_915e3 := goodIn_r _ [11, 7, 12, 13, 14, 15, 16, 17, 18, 19, 20, 21, 22, 5, 23, 24, 53, 54, 55] (by decide +kernel) (by decide +kernel)
set_option maxRecDepth 20000 in
theorem gX2_firstToPress_Jx4a65c_get_915e3 : GoodIn wsX2_firstToPress (wsV RX2 68 RJx4a65c yJx4a65c_get_915e3 wsJx4a65c_get_915e3) := goodIn_app (goodIn_of _ (by decide +kernel)) ggX2_firstToPress_Jx4a65c_get_915e3
set_option maxRecDepth 20000 in
theorem ggX2_firstToPress_X2_fits : GoodIn wsX2_firstToPress wsX2_fits := goodIn_r _ [29, 30, 31, 32, 33, 34, 35, 36, 37, 38, 39, 40, 56, 57, 58, 59, 60, 61, 62, 63, 64, 65, 66, 67, 68, 69, 70, 71, 72, 73, 74, 75, 76, 77, 78, 79, 80, 81, 82, 83, 84] (by decide +kernel) (by decide +kernel)
set_option maxRecDepth 20000 in
theorem gX2_firstToPress_X2_fits : GoodIn wsX2_firstToPress (wsV RX2 120 RX2 yX2_fits wsX2_fits) := goodIn_app (goodIn_of _ (by decide +kernel)) ggX2_firstToPress_X2_fits
set_option maxRecDepth 20000 in
theorem ggX2_firstToPress_X2_isAhead : GoodIn wsX2_firstToPress wsX2_isAhead := goodIn_r _ [44, 31, 45, 46, 47, 48, 28, 49, 50, 51, 52, 56, 57, 58, 59, 60, 61, 62, 63, 64, 65, 66, 67, 68, 69, 70, 71, 72, 73, 74, 75, 76, 77, 78, 79, 80, 81, 82, 83, 84] (by decide +kernel) (by decide +kernel)
set_option maxRecDepth 20000 in
theorem gX2_firstToPress_X2_isAhead : GoodIn wsX2_firstToPress (wsV RX2 124 RX2 yX2_isAhead wsX2_isAhead) := goodIn_app (goodIn_of _ (by decide +kernel)) ggX2_firstToPress_X2_isAhead
set_option maxRecDepth 20000 in
theorem ggX2_isAhead_X2_stampOf : GoodIn wsX2_isAhead wsX2_stampOf := goodIn_r _ [7, 8, 9, 1, 10, 30, 31, 32, 33, 34, 35, 36, 37, 38, 39, 11, 12, 13, 14, 15, 16, 17, 18, 19, 20, 21, 22, 23, 24, 25, 26, 27, 28, 29] (by decide +kernel) (by decide +kernel)
set_option maxRecDepth 20000 in
theorem gX2_isAhead_X2_stampOf : GoodIn wsX2_isAhead (wsV RX2 108 RX2 yX2_stampOf wsX2_stampOf) := goodIn_app (goodIn_of _ (by decide +kernel)) ggX2_isAhead_X2_stampOf
set_option maxRecDepth 20000 in
theorem ggX2_take_X9_bucketsFor : GoodIn wsX2_take wsX9_bucketsFor := goodIn_r _ [15] (by decide +kernel) (by decide +kernel)
set_option maxRecDepth 20000 in
theorem gX2_take_X9_bucketsFor_n138 : GoodIn wsX2_take (wsX9_bucketsFor) := ggX2_take_X9_bucketsFor
set_option maxRecDepth 20000 in
theorem ggX3_growBy_X9_sumAsked : GoodIn wsX3_growBy wsX9_sumAsked := goodIn_r _ [7] (by decide +kernel) (by decide +kernel)
set_option maxRecDepth 20000 in
theorem gX3_growBy_X9_sumAsked_n33 : GoodIn wsX3_growBy (wsX9_sumAsked) := ggX3_growBy_X9_sumAsked
set_option maxRecDepth 20000 in
theorem ggX4_init_X1_init : GoodIn wsX4_init wsX1_init := goodIn_r _ [12, 13, 2, 3, 14, 15, 16] (by decide +kernel) (by decide +kernel)
set_option maxRecDepth 20000 in
theorem gX4_init_X1_init : GoodIn wsX4_init (wsX1_init) := ggX4_init_X1_init
set_option maxRecDepth 20000 in
theorem ggX4_numberOf_X1_total : GoodIn wsX4_numberOf wsX1_total := goodIn_r _ [10, 11, 17] (by decide +kernel) (by decide +kernel)
set_option maxRecDepth 20000 in
theorem gX4_numberOf_X1_total : GoodIn wsX4_numberOf (wsV RX4 31 RX1 yX1_total wsX1_total) := goodIn_app (goodIn_of _ (by decide +kernel)) ggX4_numberOf_X1_total
set_option maxRecDepth 20000 in
theorem ggX5_init_X9_freshLife : GoodIn wsX5_init wsX9_freshLife := goodIn_r _ [26] (by decide +kernel) (by decide +kernel)
set_option maxRecDepth 20000 in
theorem gX5_init_X9_freshLife_n51 : GoodIn wsX5_init (wsX9_freshLife) := ggX5_init_X9_freshLife
set_option maxRecDepth 20000 in
theorem ggX9_init_Jx4a65c_init_da8c8 : GoodIn wsX9_init wsJx4a65c_init_da8c8 := goodIn_r _ [28, 29, 30, 31, 32, 33, 34, 35, 36, 37, 38, 39, 40, 2, 3, 50, 51, 52] (by decide +kernel) (by decide +kernel)
set_option maxRecDepth 20000 in
theorem gX9_init_Jx4a65c_init_da8c8 : GoodIn wsX9_init (wsJx4a65c_init_da8c8) := ggX9_init_Jx4a65c_init_da8c8
set_option maxRecDepth 20000 in
theorem ggX9_init_X1_init : GoodIn wsX9_init wsX1_init := goodIn_r _ [43, 44, 2, 3, 45, 46, 71] (by decide +kernel) (by decide +kernel)
set_option maxRecDepth 20000 in
theorem gX9_init_X1_init : GoodIn wsX9_init (wsX1_init) := ggX9_init_X1_init
set_option maxRecDepth 20000 in
theorem ggX9_init_X2_init : GoodIn wsX9_init wsX2_init := goodIn_r _ [48, 49, 2, 3] (by decide +kernel) (by decide +kernel)
set_option maxRecDepth 20000 in
theorem gX9_init_X2_init_n48 : GoodIn wsX9_init (wsX2_init) := ggX9_init_X2_init
set_option maxRecDepth 20000 in
theorem ggX9_grower_Jx4a65c_size_8abf5 : GoodIn wsX9_grower wsJx4a65c_size_8abf5 := goodIn_r _ [11, 12, 107, 108, 109] (by decide +kernel) (by decide +kernel)
set_option maxRecDepth 20000 in
theorem gX9_grower_Jx4a65c_size_8abf5 : GoodIn wsX9_grower (wsV RX9 63 RJx4a65c yJx4a65c_size_8abf5 wsJx4a65c_size_8abf5) := goodIn_app (goodIn_of _ (by decide +kernel)) ggX9_grower_Jx4a65c_size_8abf5
set_option maxRecDepth 20000 in
theorem ggX9_grower_X4_init : GoodIn wsX9_grower wsX4_init := goodIn_r _ [14, 15, 16, 17, 18, 19, 20, 21, 22, 23, 24, 25, 26, 27, 28, 29, 110, 102, 103, 104, 105, 106] (by decide +kernel) (by decide +kernel)
set_option maxRecDepth 20000 in
theorem gX9_grower_X4_init_n76 : GoodIn wsX9_grower (wsX4_init) := ggX9_grower_X4_init
set_option maxRecDepth 20000 in
theorem ggX9_grower_Jx4a65c_add_9ea2d : GoodIn wsX9_grower wsJx4a65c_add_9ea2d := goodIn_r _ [33, 34, 35, 36, 12, 37, 38, 39, 10, 40, 41, 42, 43, 44, 45, 46, 47, 48, 49, 50, 51, 52, 53, 54, 55, 56, 57, 58, 59, 60, 61, 62, 63, 64, 65, 66, 67, 68, 69, 70, 71, 72, 73, 74, 75, 76, 77, 78, 79, 80, 81, 82, 83, 107, 108, 109] (by decide +kernel) (by decide +kernel)
set_option maxRecDepth 20000 in
theorem gX9_grower_Jx4a65c_add_9ea2d : GoodIn wsX9_grower (wsV RX9 77 RJx4a65c yJx4a65c_add_9ea2d wsJx4a65c_add_9ea2d) := goodIn_app (goodIn_of _ (by decide +kernel)) ggX9_grower_Jx4a65c_add_9ea2d
set_option maxRecDepth 20000 in
theorem ggX9_lamps_X9_growerAt : GoodIn wsX9_lamps wsX9_growerAt := goodIn_ca (goodIn_r _ [8, 9, 10, 11, 12, 13, 14, 15, 16, 17, 18, 19, 20, 21, 22, 23, 24, 25, 26, 27, 28, 29, 30, 31, 32, 33, 34, 35, 44, 45, 46, 47, 48, 49, 50, 51, 52, 53, 54, 55, 56, 57, 58, 59, 60, 61, 62, 63, 64] (by decide +kernel) (by decide +kernel)) (goodIn_sub (fun _ h => List.mem_cons_of_mem _ (List.mem_append_right _ h)) (by decide +kernel))
set_option maxRecDepth 20000 in
theorem gX9_lamps_X9_growerAt : GoodIn wsX9_lamps (wsV RX9 81 RX9 yX9_growerAt wsX9_growerAt) := goodIn_app (goodIn_of _ (by decide +kernel)) ggX9_lamps_X9_growerAt
set_option maxRecDepth 20000 in
theorem ggX9_lamps_X9_isWithin : GoodIn wsX9_lamps wsX9_isWithin := goodIn_r _ [38] (by decide +kernel) (by decide +kernel)
set_option maxRecDepth 20000 in
theorem gX9_lamps_X9_isWithin : GoodIn wsX9_lamps (va_wsS RX9 85 yX9_isWithin wsX9_isWithin) := goodIn_app (goodIn_of _ (by decide +kernel)) ggX9_lamps_X9_isWithin
set_option maxRecDepth 20000 in
theorem ggX9_plant_X9_growerAt : GoodIn wsX9_plant wsX9_growerAt := goodIn_ca (goodIn_r _ [13, 14, 15, 16, 17, 18, 19, 20, 21, 22, 23, 24, 25, 26, 27, 28, 29, 30, 31, 32, 33, 34, 35, 36, 37, 38, 39, 40, 110, 111, 112, 113, 114, 115, 116, 117, 118, 119, 120, 121, 122, 123, 124, 125, 126, 127, 135, 136, 137] (by decide +kernel) (by decide +kernel)) (goodIn_sub (fun _ h => List.mem_cons_of_mem _ (List.mem_append_right _ h)) (by decide +kernel))
set_option maxRecDepth 20000 in
theorem gX9_plant_X9_growerAt : GoodIn wsX9_plant (wsV RX9 81 RX9 yX9_growerAt wsX9_growerAt) := goodIn_app (goodIn_of _ (by decide +kernel)) ggX9_plant_X9_growerAt
set_option maxRecDepth 20000 in
theorem ggX9_plant_X9_isCultivar : GoodIn wsX9_plant wsX9_isCultivar := goodIn_r _ [43] (by decide +kernel) (by decide +kernel)
set_option maxRecDepth 20000 in
theorem gX9_plant_X9_isCultivar : GoodIn wsX9_plant (va_wsS RX9 97 yX9_isCultivar wsX9_isCultivar) := goodIn_app (goodIn_of _ (by decide +kernel)) ggX9_plant_X9_isCultivar
set_option maxRecDepth 20000 in
theorem ggX9_plant_X9_isWithin : GoodIn wsX9_plant wsX9_isWithin := goodIn_r _ [46] (by decide +kernel) (by decide +kernel)
set_option maxRecDepth 20000 in
theorem gX9_plant_X9_isWithin : GoodIn wsX9_plant (va_wsS RX9 85 yX9_isWithin wsX9_isWithin) := goodIn_app (goodIn_of _ (by decide +kernel)) ggX9_plant_X9_isWithin
set_option maxRecDepth 20000 in
theorem ggX9_plant_Jx4a65c_size_8abf5 : GoodIn wsX9_plant wsJx4a65c_size_8abf5 := goodIn_r _ [22, 23, 135, 136, 137] (by decide +kernel) (by decide +kernel)
set_option maxRecDepth 20000 in
theorem gX9_plant_Jx4a65c_size_8abf5 : GoodIn wsX9_plant (wsV RX9 63 RJx4a65c yJx4a65c_size_8abf5 wsJx4a65c_size_8abf5) := goodIn_app (goodIn_of _ (by decide +kernel)) ggX9_plant_Jx4a65c_size_8abf5
set_option maxRecDepth 20000 in
theorem ggX9_plant_X3_init : GoodIn wsX9_plant wsX3_init := goodIn_r _ [49, 50, 51, 52, 53, 54, 55, 56, 128, 129, 130, 131, 132, 133, 134] (by decide +kernel) (by decide +kernel)
set_option maxRecDepth 20000 in
theorem gX9_plant_X3_init : GoodIn wsX9_plant (wsX3_init) := ggX9_plant_X3_init
set_option maxRecDepth 20000 in
theorem ggX9_plant_Jx4a65c_add_9ea2d : GoodIn wsX9_plant wsJx4a65c_add_9ea2d := goodIn_r _ [60, 61, 62, 40, 23, 63, 64, 65, 21, 66, 67, 68, 69, 70, 71, 72, 73, 74, 75, 76, 77, 78, 79, 80, 81, 82, 83, 84, 85, 86, 87, 88, 89, 90, 91, 92, 93, 94, 95, 96, 97, 98, 99, 100, 101, 102, 103, 104, 105, 106, 107, 108, 109, 135, 136, 137] (by decide +kernel) (by decide +kernel)
set_option maxRecDepth 20000 in
theorem gX9_plant_Jx4a65c_add_9ea2d : GoodIn wsX9_plant (wsV RX9 77 RJx4a65c yJx4a65c_add_9ea2d wsJx4a65c_add_9ea2d) := goodIn_app (goodIn_of _ (by decide +kernel)) ggX9_plant_Jx4a65c_add_9ea2d
set_option maxRecDepth 20000 in
theorem ggX9_cut_X9_cropAt : GoodIn wsX9_cut wsX9_cropAt := goodIn_ca (goodIn_r _ [18, 19, 20, 21, 22, 23, 24, 25, 26, 27, 28, 29, 30, 31, 32, 33, 34, 35, 36, 37, 38, 39, 40, 41, 42, 43, 44, 45, 134, 135, 136, 137, 138, 139, 140, 141, 142, 143, 144, 145, 146, 147, 148, 149, 150, 151, 164, 165, 166] (by decide +kernel) (by decide +kernel)) (goodIn_sub (fun _ h => List.mem_cons_of_mem _ (List.mem_append_right _ h)) (by decide +kernel))
set_option maxRecDepth 20000 in
theorem gX9_cut_X9_cropAt : GoodIn wsX9_cut (wsV RX9 110 RX9 yX9_cropAt wsX9_cropAt) := goodIn_app (goodIn_of _ (by decide +kernel)) ggX9_cut_X9_cropAt
