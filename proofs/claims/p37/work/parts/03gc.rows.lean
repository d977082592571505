set_option maxRecDepth 20000 in
theorem ggX9_presell_X9_lotAt : GoodIn wsX9_presell wsX9_lotAt := goodIn_ca (goodIn_r _ [12, 13, 14, 15, 16, 17, 18, 19, 20, 21, 22, 23, 24, 25, 26, 27, 28, 29, 30, 31, 32, 33, 34, 35, 36, 37, 38, 39, 196, 197, 198, 199, 200, 201, 202, 203, 204, 205, 206, 207, 208, 209, 210, 211, 212, 213, 214, 215, 216] (by decide +kernel) (by decide +kernel)) (goodIn_sub (fun _ h => List.mem_cons_of_mem _ (List.mem_append_right _ h)) (by decide +kernel))
set_option maxRecDepth 20000 in
theorem gX9_presell_X9_lotAt : GoodIn wsX9_presell (wsV RX9 140 RX9 yX9_lotAt wsX9_lotAt) := goodIn_app (goodIn_of _ (by decide +kernel)) ggX9_presell_X9_lotAt
set_option maxRecDepth 20000 in
theorem ggX9_presell_X9_buyerAt : GoodIn wsX9_presell wsX9_buyerAt := goodIn_ca (goodIn_r _ [43, 13, 14, 44, 45, 17, 18, 19, 20, 21, 22, 23, 24, 25, 26, 27, 28, 29, 30, 31, 32, 33, 34, 35, 36, 37, 38, 39, 196, 197, 198, 199, 200, 201, 202, 203, 204, 205, 206, 207, 208, 209, 210, 211, 212, 213, 214, 215, 216] (by decide +kernel) (by decide +kernel)) (goodIn_sub (fun _ h => List.mem_cons_of_mem _ (List.mem_append_right _ h)) (by decide +kernel))
set_option maxRecDepth 20000 in
theorem gX9_presell_X9_buyerAt : GoodIn wsX9_presell (wsV RX9 214 RX9 yX9_buyerAt wsX9_buyerAt) := goodIn_app (goodIn_of _ (by decide +kernel)) ggX9_presell_X9_buyerAt
set_option maxRecDepth 20000 in
theorem ggX9_presell_X9_isWithin : GoodIn wsX9_presell wsX9_isWithin := goodIn_r _ [48] (by decide +kernel) (by decide +kernel)
set_option maxRecDepth 20000 in
theorem gX9_presell_X9_isWithin : GoodIn wsX9_presell (va_wsS RX9 85 yX9_isWithin wsX9_isWithin) := goodIn_app (goodIn_of _ (by decide +kernel)) ggX9_presell_X9_isWithin
set_option maxRecDepth 20000 in
theorem ggX9_presell_X9_sell : GoodIn wsX9_presell wsX9_sell := goodIn_r _ [52, 53, 54, 55, 56, 57, 58, 59, 60, 61, 6, 5, 62, 63, 64, 65, 66, 67, 68, 69, 70, 11, 71, 72, 73, 74, 75, 76, 77, 78, 79, 80, 81, 82, 83, 84, 85, 86, 87, 88, 89, 90, 91, 92, 7, 93, 94, 95, 96, 97, 98, 99, 100, 101, 102, 103, 104, 105, 106, 107, 108, 109, 110, 111, 112, 113, 114, 115, 116, 20, 117, 118, 119, 39, 22, 120, 121, 122, 123, 124, 125, 126, 127, 128, 129, 130, 131, 132, 133, 134, 135, 136, 137, 138, 139, 140, 141, 142, 143, 144, 145, 146, 147, 148, 149, 150, 151, 152, 153, 154, 155, 156, 157, 158, 159, 160, 161, 162, 163, 17, 18, 19, 21, 164, 165, 166, 167, 27, 28, 29, 30, 31, 32, 33, 34, 168, 169, 170, 171, 172, 173, 174, 175, 176, 177, 178, 179, 180, 181, 182, 183, 184, 217, 218, 219, 220, 221, 222, 223, 196, 197, 198, 199, 200, 201, 202, 203, 204, 205, 206, 207, 208, 209, 210, 211, 212, 213, 224, 225, 226, 227, 185, 186, 187, 188, 189, 190, 191, 192, 193, 194, 195, 228, 229, 230, 231, 232, 233, 234, 235, 236, 237, 238, 239, 240, 214, 215, 216] (by decide +kernel) (by decide +kernel)
set_option maxRecDepth 20000 in
theorem gX9_presell_X9_sell : GoodIn wsX9_presell (wsV RX9 263 RX9 yX9_sell wsX9_sell) := goodIn_app (goodIn_of _ (by decide +kernel)) ggX9_presell_X9_sell
set_option maxRecDepth 20000 in
theorem ggX9_presell_X9_shareOfGrower : GoodIn wsX9_presell wsX9_shareOfGrower := goodIn_r _ [105] (by decide +kernel) (by decide +kernel)
set_option maxRecDepth 20000 in
theorem gX9_presell_X9_shareOfGrower : GoodIn wsX9_presell (va_wsS RX9 274 yX9_shareOfGrower wsX9_shareOfGrower) := goodIn_app (goodIn_of _ (by decide +kernel)) ggX9_presell_X9_shareOfGrower
set_option maxRecDepth 20000 in
theorem ggX9_undo_Jx4a65c_isEmpty_aae02 : GoodIn wsX9_undo wsJx4a65c_isEmpty_aae02 := goodIn_r _ [17, 18, 127, 128, 129] (by decide +kernel) (by decide +kernel)
set_option maxRecDepth 20000 in
theorem gX9_undo_Jx4a65c_isEmpty_aae02 : GoodIn wsX9_undo (wsV RX9 237 RJx4a65c yJx4a65c_isEmpty_aae02 wsJx4a65c_isEmpty_aae02) := goodIn_app (goodIn_of _ (by decide +kernel)) ggX9_undo_Jx4a65c_isEmpty_aae02
set_option maxRecDepth 20000 in
theorem ggX9_undo_Jx4a65c_size_8abf5 : GoodIn wsX9_undo wsJx4a65c_size_8abf5 := goodIn_r _ [22, 18, 127, 128, 129] (by decide +kernel) (by decide +kernel)
set_option maxRecDepth 20000 in
theorem gX9_undo_Jx4a65c_size_8abf5 : GoodIn wsX9_undo (wsV RX9 63 RJx4a65c yJx4a65c_size_8abf5 wsJx4a65c_size_8abf5) := goodIn_app (goodIn_of _ (by decide +kernel)) ggX9_undo_Jx4a65c_size_8abf5
set_option maxRecDepth 20000 in
theorem ggX9_undo_Jx4a65c_get_915e3 : GoodIn wsX9_undo wsJx4a65c_get_915e3 := goodIn_r _ [26, 18, 27, 28, 29, 30, 31, 32, 33, 34, 35, 36, 37, 16, 38, 39, 127, 128, 129] (by decide +kernel) (by decide +kernel)
set_option maxRecDepth 20000 in
theorem gX9_undo_Jx4a65c_get_915e3 : GoodIn wsX9_undo (wsV RX9 279 RJx4a65c yJx4a65c_get_915e3 wsJx4a65c_get_915e3) := goodIn_app (goodIn_of _ (by decide +kernel)) ggX9_undo_Jx4a65c_get_915e3
set_option maxRecDepth 20000 in
theorem ggX9_undo_Jx4a65c_remove_915e3 : GoodIn wsX9_undo wsJx4a65c_remove_915e3 := goodIn_r _ [43, 18, 39, 27, 28, 29, 30, 31, 32, 33, 34, 44, 45, 46, 16, 47, 48, 49, 50, 51, 52, 53, 127, 128, 129] (by decide +kernel) (by decide +kernel)
set_option maxRecDepth 20000 in
theorem gX9_undo_Jx4a65c_remove_915e3 : GoodIn wsX9_undo (wsV RX9 243 RJx4a65c yJx4a65c_remove_915e3 wsJx4a65c_remove_915e3) := goodIn_app (goodIn_of _ (by decide +kernel)) ggX9_undo_Jx4a65c_remove_915e3
set_option maxRecDepth 20000 in
theorem ggX9_undo_X9_takeBack : GoodIn wsX9_undo wsX9_takeBack := goodIn_r _ [58, 7, 8, 59, 60, 61, 62, 57, 63, 12, 11, 64, 9, 65, 10, 66, 67, 68, 69, 70, 71, 72, 73, 74, 75, 76, 77, 78, 13, 14, 15, 16, 17, 18, 19, 20, 21, 22, 40, 41, 42, 43, 39, 27, 28, 29, 30, 31, 32, 33, 34, 44, 45, 46, 47, 48, 49, 50, 51, 52, 53, 97, 98, 99, 100, 101, 102, 103, 104, 105, 106, 107, 108, 109, 110, 111, 112, 113, 114, 115, 79, 80, 81, 82, 83, 84, 85, 86, 87, 88, 89, 90, 91, 92, 93, 94, 95, 96, 116, 117, 118, 119, 120, 121, 122, 123, 124, 125, 126, 130, 131, 132, 133, 134, 135, 136, 137, 138, 139, 140, 141, 142, 127, 128, 129] (by decide +kernel) (by decide +kernel)
set_option maxRecDepth 20000 in
theorem gX9_undo_X9_takeBack : GoodIn wsX9_undo (wsV RX9 297 RX9 yX9_takeBack wsX9_takeBack) := goodIn_app (goodIn_of _ (by decide +kernel)) ggX9_undo_X9_takeBack
set_option maxRecDepth 20000 in
theorem ggX9_bind_X9_buyerAt : GoodIn wsX9_bind wsX9_buyerAt := goodIn_ca (goodIn_r _ [9, 10, 11, 12, 13, 14, 15, 16, 17, 18, 19, 20, 21, 22, 23, 24, 25, 26, 27, 28, 29, 30, 31, 32, 33, 34, 35, 36, 68, 69, 70, 71, 72, 73, 74, 75, 76, 77, 78, 79, 80, 81, 82, 83, 84, 85, 86, 87, 88] (by decide +kernel) (by decide +kernel)) (goodIn_sub (fun _ h => List.mem_cons_of_mem _ (List.mem_append_right _ h)) (by decide +kernel))
set_option maxRecDepth 20000 in
theorem gX9_bind_X9_buyerAt : GoodIn wsX9_bind (wsV RX9 214 RX9 yX9_buyerAt wsX9_buyerAt) := goodIn_app (goodIn_of _ (by decide +kernel)) ggX9_bind_X9_buyerAt
set_option maxRecDepth 20000 in
theorem ggX9_bind_X9_isWithin : GoodIn wsX9_bind wsX9_isWithin := goodIn_r _ [39] (by decide +kernel) (by decide +kernel)
set_option maxRecDepth 20000 in
theorem gX9_bind_X9_isWithin : GoodIn wsX9_bind (va_wsS RX9 85 yX9_isWithin wsX9_isWithin) := goodIn_app (goodIn_of _ (by decide +kernel)) ggX9_bind_X9_isWithin
set_option maxRecDepth 20000 in
theorem ggX9_bind_X9_bindsOne : GoodIn wsX9_bind wsX9_bindsOne := goodIn_r _ [42, 43, 44, 45, 46, 47, 48, 49, 50, 51, 52, 53, 54, 55, 56, 89] (by decide +kernel) (by decide +kernel)
set_option maxRecDepth 20000 in
theorem gX9_bind_X9_bindsOne : GoodIn wsX9_bind (va_wsS RX9 309 yX9_bindsOne wsX9_bindsOne) := goodIn_app (goodIn_of _ (by decide +kernel)) ggX9_bind_X9_bindsOne
set_option maxRecDepth 20000 in
theorem ggX9_back_X9_buyerAt : GoodIn wsX9_back wsX9_buyerAt := goodIn_ca (goodIn_r _ [13, 14, 15, 16, 17, 18, 19, 20, 21, 22, 23, 24, 25, 26, 27, 28, 29, 30, 31, 32, 33, 34, 35, 36, 37, 38, 39, 40, 52, 53, 54, 55, 56, 57, 58, 59, 60, 61, 62, 63, 64, 65, 66, 67, 68, 69, 70, 71, 72] (by decide +kernel) (by decide +kernel)) (goodIn_sub (fun _ h => List.mem_cons_of_mem _ (List.mem_append_right _ h)) (by decide +kernel))
set_option maxRecDepth 20000 in
theorem gX9_back_X9_buyerAt : GoodIn wsX9_back (wsV RX9 214 RX9 yX9_buyerAt wsX9_buyerAt) := goodIn_app (goodIn_of _ (by decide +kernel)) ggX9_back_X9_buyerAt
set_option maxRecDepth 20000 in
theorem ggX9_clear_X9_lotAt : GoodIn wsX9_clear wsX9_lotAt := goodIn_ca (goodIn_r _ [18, 19, 20, 21, 22, 23, 24, 25, 26, 27, 28, 29, 30, 31, 32, 33, 34, 35, 36, 37, 38, 39, 40, 41, 42, 43, 44, 45, 58, 59, 60, 61, 62, 63, 64, 65, 66, 67, 68, 69, 70, 71, 72, 73, 74, 75, 81, 82, 83] (by decide +kernel) (by decide +kernel)) (goodIn_sub (fun _ h => List.mem_cons_of_mem _ (List.mem_append_right _ h)) (by decide +kernel))
set_option maxRecDepth 20000 in
theorem gX9_clear_X9_lotAt : GoodIn wsX9_clear (wsV RX9 140 RX9 yX9_lotAt wsX9_lotAt) := goodIn_app (goodIn_of _ (by decide +kernel)) ggX9_clear_X9_lotAt
set_option maxRecDepth 20000 in
theorem ggX9_ofCrop_X9_cropAt : GoodIn wsX9_ofCrop wsX9_cropAt := goodIn_ca (goodIn_r _ [7, 8, 9, 10, 11, 12, 13, 14, 15, 16, 17, 18, 19, 20, 21, 22, 23, 24, 25, 26, 27, 28, 29, 30, 31, 32, 33, 34, 49, 50, 51, 52, 53, 54, 55, 56, 57, 58, 59, 60, 61, 62, 63, 64, 65, 66, 67, 68, 69] (by decide +kernel) (by decide +kernel)) (goodIn_sub (fun _ h => List.mem_cons_of_mem _ (List.mem_append_right _ h)) (by decide +kernel))
set_option maxRecDepth 20000 in
theorem gX9_ofCrop_X9_cropAt : GoodIn wsX9_ofCrop (wsV RX9 110 RX9 yX9_cropAt wsX9_cropAt) := goodIn_app (goodIn_of _ (by decide +kernel)) ggX9_ofCrop_X9_cropAt
set_option maxRecDepth 20000 in
theorem ggX9_ofCrop_X9_isWithin : GoodIn wsX9_ofCrop wsX9_isWithin := goodIn_r _ [37] (by decide +kernel) (by decide +kernel)
set_option maxRecDepth 20000 in
theorem gX9_ofCrop_X9_isWithin : GoodIn wsX9_ofCrop (va_wsS RX9 85 yX9_isWithin wsX9_isWithin) := goodIn_app (goodIn_of _ (by decide +kernel)) ggX9_ofCrop_X9_isWithin
set_option maxRecDepth 20000 in
theorem ggX9_ofCrop_X3_numberOf : GoodIn wsX9_ofCrop wsX3_numberOf := goodIn_r _ [42, 43, 44, 45, 46, 47, 48, 70, 71, 72, 73, 74, 75, 76] (by decide +kernel) (by decide +kernel)
set_option maxRecDepth 20000 in
theorem gX9_ofCrop_X3_numberOf : GoodIn wsX9_ofCrop (wsV RX9 340 RX3 yX3_numberOf wsX3_numberOf) := goodIn_app (goodIn_of _ (by decide +kernel)) ggX9_ofCrop_X3_numberOf
set_option maxRecDepth 20000 in
theorem ggX9_ofLot_X9_lotAt : GoodIn wsX9_ofLot wsX9_lotAt := goodIn_ca (goodIn_r _ [7, 8, 9, 10, 11, 12, 13, 14, 15, 16, 17, 18, 19, 20, 21, 22, 23, 24, 25, 26, 27, 28, 29, 30, 31, 32, 33, 34, 53, 54, 55, 56, 57, 58, 59, 60, 61, 62, 63, 64, 65, 66, 67, 68, 69, 70, 71, 72, 73] (by decide +kernel) (by decide +kernel)) (goodIn_sub (fun _ h => List.mem_cons_of_mem _ (List.mem_append_right _ h)) (by decide +kernel))
set_option maxRecDepth 20000 in
theorem gX9_ofLot_X9_lotAt : GoodIn wsX9_ofLot (wsV RX9 140 RX9 yX9_lotAt wsX9_lotAt) := goodIn_app (goodIn_of _ (by decide +kernel)) ggX9_ofLot_X9_lotAt
set_option maxRecDepth 20000 in
theorem ggX9_ofLot_X9_isWithin : GoodIn wsX9_ofLot wsX9_isWithin := goodIn_r _ [37] (by decide +kernel) (by decide +kernel)
set_option maxRecDepth 20000 in
theorem gX9_ofLot_X9_isWithin : GoodIn wsX9_ofLot (va_wsS RX9 85 yX9_isWithin wsX9_isWithin) := goodIn_app (goodIn_of _ (by decide +kernel)) ggX9_ofLot_X9_isWithin
set_option maxRecDepth 20000 in
theorem ggX9_ofLot_X5_numberOf : GoodIn wsX9_ofLot wsX5_numberOf := goodIn_r _ [42, 43, 44, 45, 46, 47, 48, 49, 50, 51, 52, 74, 75, 76, 77, 78, 79, 80, 81, 82, 83, 84, 85] (by decide +kernel) (by decide +kernel)
set_option maxRecDepth 20000 in
theorem gX9_ofLot_X5_numberOf : GoodIn wsX9_ofLot (wsV RX9 345 RX5 yX5_numberOf wsX5_numberOf) := goodIn_app (goodIn_of _ (by decide +kernel)) ggX9_ofLot_X5_numberOf
set_option maxRecDepth 20000 in
theorem ggX9_ofGrower_X9_growerAt : GoodIn wsX9_ofGrower wsX9_growerAt := goodIn_ca (goodIn_r _ [7, 8, 9, 10, 11, 12, 13, 14, 15, 16, 17, 18, 19, 20, 21, 22, 23, 24, 25, 26, 27, 28, 29, 30, 31, 32, 33, 34, 54, 55, 56, 57, 58, 59, 60, 61, 62, 63, 64, 65, 66, 67, 68, 69, 70, 71, 72, 73, 74] (by decide +kernel) (by decide +kernel)) (goodIn_sub (fun _ h => List.mem_cons_of_mem _ (List.mem_append_right _ h)) (by decide +kernel))
set_option maxRecDepth 20000 in
theorem gX9_ofGrower_X9_growerAt : GoodIn wsX9_ofGrower (wsV RX9 81 RX9 yX9_growerAt wsX9_growerAt) := goodIn_app (goodIn_of _ (by decide +kernel)) ggX9_ofGrower_X9_growerAt
set_option maxRecDepth 20000 in
theorem ggX9_ofGrower_X9_isWithin : GoodIn wsX9_ofGrower wsX9_isWithin := goodIn_r _ [37] (by decide +kernel) (by decide +kernel)
set_option maxRecDepth 20000 in
theorem gX9_ofGrower_X9_isWithin : GoodIn wsX9_ofGrower (va_wsS RX9 85 yX9_isWithin wsX9_isWithin) := goodIn_app (goodIn_of _ (by decide +kernel)) ggX9_ofGrower_X9_isWithin
set_option maxRecDepth 20000 in
theorem ggX9_ofGrower_X4_numberOf : GoodIn wsX9_ofGrower wsX4_numberOf := goodIn_r _ [42, 43, 44, 45, 46, 47, 48, 49, 50, 51, 52, 53, 75, 76, 77, 78, 79, 80] (by decide +kernel) (by decide +kernel)
set_option maxRecDepth 20000 in
theorem gX9_ofGrower_X4_numberOf : GoodIn wsX9_ofGrower (wsV RX9 348 RX4 yX4_numberOf wsX4_numberOf) := goodIn_app (goodIn_of _ (by decide +kernel)) ggX9_ofGrower_X4_numberOf
set_option maxRecDepth 20000 in
theorem ggX9_ofBuyer_X9_buyerAt : GoodIn wsX9_ofBuyer wsX9_buyerAt := goodIn_ca (goodIn_r _ [7, 8, 9, 10, 11, 12, 13, 14, 15, 16, 17, 18, 19, 20, 21, 22, 23, 24, 25, 26, 27, 28, 29, 30, 31, 32, 33, 34, 56, 57, 58, 59, 60, 61, 62, 63, 64, 65, 66, 67, 68, 69, 70, 71, 72, 73, 74, 75, 76] (by decide +kernel) (by decide +kernel)) (goodIn_sub (fun _ h => List.mem_cons_of_mem _ (List.mem_append_right _ h)) (by decide +kernel))
set_option maxRecDepth 20000 in
theorem gX9_ofBuyer_X9_buyerAt : GoodIn wsX9_ofBuyer (wsV RX9 214 RX9 yX9_buyerAt wsX9_buyerAt) := goodIn_app (goodIn_of _ (by decide +kernel)) ggX9_ofBuyer_X9_buyerAt
set_option maxRecDepth 20000 in
theorem ggX9_ofBuyer_X9_isWithin : GoodIn wsX9_ofBuyer wsX9_isWithin := goodIn_r _ [37] (by decide +kernel) (by decide +kernel)
set_option maxRecDepth 20000 in
theorem gX9_ofBuyer_X9_isWithin : GoodIn wsX9_ofBuyer (va_wsS RX9 85 yX9_isWithin wsX9_isWithin) := goodIn_app (goodIn_of _ (by decide +kernel)) ggX9_ofBuyer_X9_isWithin
set_option maxRecDepth 20000 in
theorem ggX9_ofBuyer_X0_numberOf : GoodIn wsX9_ofBuyer wsX0_numberOf := goodIn_r _ [42, 43, 44, 45, 46, 47, 48, 49, 50, 51, 52, 53, 54, 55, 77, 78, 79, 80, 81, 82, 83, 84, 85, 86, 87, 88] (by decide +kernel) (by decide +kernel)
set_option maxRecDepth 20000 in
theorem gX9_ofBuyer_X0_numberOf : GoodIn wsX9_ofBuyer (wsV RX9 351 RX0 yX0_numberOf wsX0_numberOf) := goodIn_app (goodIn_of _ (by decide +kernel)) ggX9_ofBuyer_X0_numberOf
set_option maxRecDepth 20000 in
theorem ggX9_sale_Jx4a65c_size_8abf5 : GoodIn wsX9_sale wsJx4a65c_size_8abf5 := goodIn_r _ [11, 12, 64, 65, 66] (by decide +kernel) (by decide +kernel)
set_option maxRecDepth 20000 in
theorem gX9_sale_Jx4a65c_size_8abf5 : GoodIn wsX9_sale (wsV RX9 63 RJx4a65c yJx4a65c_size_8abf5 wsJx4a65c_size_8abf5) := goodIn_app (goodIn_of _ (by decide +kernel)) ggX9_sale_Jx4a65c_size_8abf5
set_option maxRecDepth 20000 in
theorem ggX9_sale_X9_isWithin : GoodIn wsX9_sale wsX9_isWithin := goodIn_r _ [16] (by decide +kernel) (by decide +kernel)
set_option maxRecDepth 20000 in
theorem gX9_sale_X9_isWithin : GoodIn wsX9_sale (va_wsS RX9 85 yX9_isWithin wsX9_isWithin) := goodIn_app (goodIn_of _ (by decide +kernel)) ggX9_sale_X9_isWithin
set_option maxRecDepth 20000 in
theorem ggX9_sale_Jx4a65c_get_915e3 : GoodIn wsX9_sale wsJx4a65c_get_915e3 := goodIn_r _ [20, 12, 21, 22, 23, 24, 25, 26, 27, 28, 29, 30, 31, 10, 32, 33, 64, 65, 66] (by decide +kernel) (by decide +kernel)
set_option maxRecDepth 20000 in
theorem gX9_sale_Jx4a65c_get_915e3 : GoodIn wsX9_sale (wsV RX9 279 RJx4a65c yJx4a65c_get_915e3 wsJx4a65c_get_915e3) := goodIn_app (goodIn_of _ (by decide +kernel)) ggX9_sale_Jx4a65c_get_915e3
set_option maxRecDepth 20000 in
theorem ggX9_sale_X7_numberOf : GoodIn wsX9_sale wsX7_numberOf := goodIn_r _ [38, 39, 40, 41, 42, 43, 44, 45, 67, 68, 69, 70, 71, 72, 73, 74, 75, 76, 77, 78, 79, 80, 81, 82, 83, 84, 85, 86, 87, 88, 89, 90, 91, 92, 93, 94, 95, 96] (by decide +kernel) (by decide +kernel)
set_option maxRecDepth 20000 in
theorem gX9_sale_X7_numberOf : GoodIn wsX9_sale (wsV RX9 359 RX7 yX7_numberOf wsX7_numberOf) := goodIn_app (goodIn_of _ (by decide +kernel)) ggX9_sale_X7_numberOf
set_option maxRecDepth 20000 in
theorem ggX9_row_X9_lotInRow : GoodIn wsX9_row wsX9_lotInRow := goodIn_r _ [7, 8, 9, 10, 11, 12, 13, 14, 15, 16, 17, 18, 19, 20, 21, 22, 23, 24, 25, 26, 27, 28, 29, 30, 31, 32, 33, 34, 35, 36, 37, 38, 39, 40, 41, 42, 43, 44, 45, 46, 47, 48, 49, 50, 51, 52, 53, 54, 55, 56, 57, 58, 59, 60, 61, 62, 63, 64, 65, 66] (by decide +kernel) (by decide +kernel)
set_option maxRecDepth 20000 in
theorem gX9_row_X9_lotInRow : GoodIn wsX9_row (wsV RX9 362 RX9 yX9_lotInRow wsX9_lotInRow) := goodIn_app (goodIn_of _ (by decide +kernel)) ggX9_row_X9_lotInRow
