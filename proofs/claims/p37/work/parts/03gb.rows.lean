set_option maxRecDepth 20000 in
theorem ggX9_cut_Jx4a65c_size_8abf5 : GoodIn wsX9_cut wsJx4a65c_size_8abf5 := goodIn_r _ [27, 28, 164, 165, 166] (by decide +kernel) (by decide +kernel)
set_option maxRecDepth 20000 in
theorem gX9_cut_Jx4a65c_size_8abf5 : GoodIn wsX9_cut (wsV RX9 63 RJx4a65c yJx4a65c_size_8abf5 wsJx4a65c_size_8abf5) := goodIn_app (goodIn_of _ (by decide +kernel)) ggX9_cut_Jx4a65c_size_8abf5
set_option maxRecDepth 20000 in
theorem ggX9_cut_X9_bucketsFor : GoodIn wsX9_cut wsX9_bucketsFor := goodIn_r _ [48] (by decide +kernel) (by decide +kernel)
set_option maxRecDepth 20000 in
theorem gX9_cut_X9_bucketsFor : GoodIn wsX9_cut (va_wsS RX9 123 yX9_bucketsFor wsX9_bucketsFor) := goodIn_app (goodIn_of _ (by decide +kernel)) ggX9_cut_X9_bucketsFor
set_option maxRecDepth 20000 in
theorem ggX9_cut_X5_init : GoodIn wsX9_cut wsX5_init := goodIn_r _ [51, 52, 53, 54, 55, 56, 57, 58, 59, 60, 61, 62, 63, 64, 65, 66, 67, 68, 69, 70, 71, 72, 73, 74, 75, 17, 76, 152, 153, 154, 155, 156, 157, 158, 159, 160, 161, 162, 163, 127, 128, 129, 130, 131, 132, 133] (by decide +kernel) (by decide +kernel)
set_option maxRecDepth 20000 in
theorem gX9_cut_X5_init : GoodIn wsX9_cut (wsX5_init) := ggX9_cut_X5_init
set_option maxRecDepth 20000 in
theorem ggX9_cut_Jx4a65c_add_9ea2d : GoodIn wsX9_cut wsJx4a65c_add_9ea2d := goodIn_r _ [80, 81, 82, 45, 28, 83, 84, 85, 26, 86, 87, 88, 89, 90, 91, 92, 93, 94, 95, 96, 70, 71, 72, 97, 98, 99, 100, 101, 102, 103, 104, 105, 106, 107, 108, 109, 110, 111, 112, 113, 114, 115, 116, 117, 118, 119, 120, 121, 122, 123, 124, 125, 126, 164, 165, 166] (by decide +kernel) (by decide +kernel)
set_option maxRecDepth 20000 in
theorem gX9_cut_Jx4a65c_add_9ea2d : GoodIn wsX9_cut (wsV RX9 77 RJx4a65c yJx4a65c_add_9ea2d wsJx4a65c_add_9ea2d) := goodIn_app (goodIn_of _ (by decide +kernel)) ggX9_cut_Jx4a65c_add_9ea2d
set_option maxRecDepth 20000 in
theorem ggX9_pass_X9_isWithin : GoodIn wsX9_pass wsX9_isWithin := goodIn_r _ [7] (by decide +kernel) (by decide +kernel)
set_option maxRecDepth 20000 in
theorem gX9_pass_X9_isWithin : GoodIn wsX9_pass (va_wsS RX9 85 yX9_isWithin wsX9_isWithin) := goodIn_app (goodIn_of _ (by decide +kernel)) ggX9_pass_X9_isWithin
set_option maxRecDepth 20000 in
theorem ggX9_pass_X9_passOneHour : GoodIn wsX9_pass wsX9_passOneHour := goodIn_r _ [11, 12, 13, 14, 15, 6, 16, 17, 18, 19, 20, 21, 22, 23, 24, 25, 26, 27, 28, 29, 30, 31, 32, 33, 34, 35, 36, 37, 38, 39, 40, 41, 42, 43, 44, 45, 46, 47, 48, 49, 50, 51, 52, 53, 54, 3, 55, 56, 57, 58, 59, 60, 61, 62, 63, 64, 65, 66, 67, 68, 69, 70, 71, 72, 73, 74, 75, 76, 77, 78, 79, 80, 81, 82, 83, 84, 85, 86, 87, 88, 89, 90, 91, 92, 93, 94, 95, 96, 97, 98, 99, 100, 101, 102, 103, 104, 105, 106, 107, 108, 109, 110, 111, 112, 113, 114, 115, 116, 117, 118, 119, 120, 121, 122, 123, 124, 125, 126, 127, 128, 129, 130, 131, 132, 133, 134, 135, 136, 137, 138, 139, 140, 141, 142, 143, 144, 145, 146, 147, 148, 149, 150, 151, 152, 153, 154, 155, 156, 157, 158, 159, 160, 161, 162, 163, 164, 165, 166, 167, 168, 169, 170, 171, 172, 173, 174, 175, 176, 177, 178, 179, 180, 181, 182, 183, 184, 185, 186, 187, 188, 189, 190, 191, 192, 193, 194, 195, 196, 197] (by decide +kernel) (by decide +kernel)
set_option maxRecDepth 20000 in
theorem gX9_pass_X9_passOneHour : GoodIn wsX9_pass (wsV RX9 156 RX9 yX9_passOneHour wsX9_passOneHour) := goodIn_app (goodIn_of _ (by decide +kernel)) ggX9_pass_X9_passOneHour
set_option maxRecDepth 20000 in
theorem ggX9_bring_X9_lotAt : GoodIn wsX9_bring wsX9_lotAt := goodIn_ca (goodIn_r _ [18, 19, 20, 21, 22, 23, 24, 25, 26, 27, 28, 29, 30, 31, 32, 33, 34, 35, 36, 37, 38, 39, 40, 41, 42, 43, 44, 45, 129, 130, 131, 132, 133, 134, 135, 136, 137, 138, 139, 140, 141, 142, 143, 144, 145, 146, 147, 148, 149] (by decide +kernel) (by decide +kernel)) (goodIn_sub (fun _ h => List.mem_cons_of_mem _ (List.mem_append_right _ h)) (by decide +kernel))
set_option maxRecDepth 20000 in
theorem gX9_bring_X9_lotAt : GoodIn wsX9_bring (wsV RX9 140 RX9 yX9_lotAt wsX9_lotAt) := goodIn_app (goodIn_of _ (by decide +kernel)) ggX9_bring_X9_lotAt
set_option maxRecDepth 20000 in
theorem ggX9_bring_X9_isWithin : GoodIn wsX9_bring wsX9_isWithin := goodIn_r _ [48] (by decide +kernel) (by decide +kernel)
set_option maxRecDepth 20000 in
theorem gX9_bring_X9_isWithin : GoodIn wsX9_bring (va_wsS RX9 85 yX9_isWithin wsX9_isWithin) := goodIn_app (goodIn_of _ (by decide +kernel)) ggX9_bring_X9_isWithin
set_option maxRecDepth 20000 in
theorem ggX9_bring_X1_of : GoodIn wsX9_bring wsX1_of := goodIn_r _ [53, 54, 150] (by decide +kernel) (by decide +kernel)
set_option maxRecDepth 20000 in
theorem gX9_bring_X1_of : GoodIn wsX9_bring (wsV RX9 171 RX1 yX1_of wsX1_of) := goodIn_app (goodIn_of _ (by decide +kernel)) ggX9_bring_X1_of
set_option maxRecDepth 20000 in
theorem ggX9_bring_X1_put : GoodIn wsX9_bring wsX1_put := goodIn_r _ [58, 54, 150] (by decide +kernel) (by decide +kernel)
set_option maxRecDepth 20000 in
theorem gX9_bring_X1_put : GoodIn wsX9_bring (wsV RX9 179 RX1 yX1_put wsX1_put) := goodIn_app (goodIn_of _ (by decide +kernel)) ggX9_bring_X1_put
set_option maxRecDepth 20000 in
theorem ggX9_bring_Jx4a65c_add_9ea2d : GoodIn wsX9_bring wsJx4a65c_add_9ea2d := goodIn_r _ [62, 63, 64, 45, 28, 65, 66, 67, 26, 68, 69, 70, 71, 72, 73, 74, 75, 76, 77, 78, 79, 80, 81, 82, 83, 84, 85, 86, 87, 88, 89, 90, 91, 92, 93, 94, 95, 96, 97, 98, 99, 100, 101, 102, 103, 104, 105, 106, 107, 108, 109, 110, 111, 147, 148, 149] (by decide +kernel) (by decide +kernel)
set_option maxRecDepth 20000 in
theorem gX9_bring_Jx4a65c_add_9ea2d : GoodIn wsX9_bring (wsV RX9 77 RJx4a65c yJx4a65c_add_9ea2d wsJx4a65c_add_9ea2d) := goodIn_app (goodIn_of _ (by decide +kernel)) ggX9_bring_Jx4a65c_add_9ea2d
set_option maxRecDepth 20000 in
theorem ggX9_bring_Jx4a65c_size_8abf5 : GoodIn wsX9_bring wsJx4a65c_size_8abf5 := goodIn_r _ [27, 28, 147, 148, 149] (by decide +kernel) (by decide +kernel)
set_option maxRecDepth 20000 in
theorem gX9_bring_Jx4a65c_size_8abf5 : GoodIn wsX9_bring (wsV RX9 63 RJx4a65c yJx4a65c_size_8abf5 wsJx4a65c_size_8abf5) := goodIn_app (goodIn_of _ (by decide +kernel)) ggX9_bring_Jx4a65c_size_8abf5
set_option maxRecDepth 20000 in
theorem ggX9_inspect_X9_lotAt : GoodIn wsX9_inspect wsX9_lotAt := goodIn_ca (goodIn_r _ [19, 20, 21, 22, 23, 24, 25, 26, 27, 28, 29, 30, 31, 32, 33, 34, 35, 36, 37, 38, 39, 40, 41, 42, 43, 44, 45, 46, 64, 65, 66, 67, 68, 69, 70, 71, 72, 73, 74, 75, 76, 77, 78, 79, 80, 81, 82, 83, 84] (by decide +kernel) (by decide +kernel)) (goodIn_sub (fun _ h => List.mem_cons_of_mem _ (List.mem_append_right _ h)) (by decide +kernel))
set_option maxRecDepth 20000 in
theorem gX9_inspect_X9_lotAt : GoodIn wsX9_inspect (wsV RX9 140 RX9 yX9_lotAt wsX9_lotAt) := goodIn_app (goodIn_of _ (by decide +kernel)) ggX9_inspect_X9_lotAt
set_option maxRecDepth 20000 in
theorem ggX9_buyer_X9_isWithin : GoodIn wsX9_buyer wsX9_isWithin := goodIn_r _ [12] (by decide +kernel) (by decide +kernel)
set_option maxRecDepth 20000 in
theorem gX9_buyer_X9_isWithin : GoodIn wsX9_buyer (va_wsS RX9 85 yX9_isWithin wsX9_isWithin) := goodIn_app (goodIn_of _ (by decide +kernel)) ggX9_buyer_X9_isWithin
set_option maxRecDepth 20000 in
theorem ggX9_buyer_Jx4a65c_size_8abf5 : GoodIn wsX9_buyer wsJx4a65c_size_8abf5 := goodIn_r _ [17, 18, 122, 123, 124] (by decide +kernel) (by decide +kernel)
set_option maxRecDepth 20000 in
theorem gX9_buyer_Jx4a65c_size_8abf5 : GoodIn wsX9_buyer (wsV RX9 63 RJx4a65c yJx4a65c_size_8abf5 wsJx4a65c_size_8abf5) := goodIn_app (goodIn_of _ (by decide +kernel)) ggX9_buyer_Jx4a65c_size_8abf5
set_option maxRecDepth 20000 in
theorem ggX9_buyer_X0_init : GoodIn wsX9_buyer wsX0_init := goodIn_r _ [21, 22, 23, 24, 25, 26, 27, 28, 29, 30, 31, 32, 33, 34, 35, 36, 37, 38, 125, 111, 112, 113, 114, 115, 116, 117, 118, 119, 120, 121] (by decide +kernel) (by decide +kernel)
set_option maxRecDepth 20000 in
theorem gX9_buyer_X0_init : GoodIn wsX9_buyer (wsX0_init) := ggX9_buyer_X0_init
set_option maxRecDepth 20000 in
theorem ggX9_buyer_Jx4a65c_add_9ea2d : GoodIn wsX9_buyer wsJx4a65c_add_9ea2d := goodIn_r _ [42, 43, 44, 45, 18, 46, 47, 48, 16, 49, 50, 51, 52, 53, 54, 55, 56, 57, 58, 59, 60, 61, 62, 63, 64, 65, 66, 67, 68, 69, 70, 71, 72, 73, 74, 75, 76, 77, 78, 79, 80, 81, 82, 83, 84, 85, 86, 87, 88, 89, 90, 91, 92, 122, 123, 124] (by decide +kernel) (by decide +kernel)
set_option maxRecDepth 20000 in
theorem gX9_buyer_Jx4a65c_add_9ea2d : GoodIn wsX9_buyer (wsV RX9 77 RJx4a65c yJx4a65c_add_9ea2d wsJx4a65c_add_9ea2d) := goodIn_app (goodIn_of _ (by decide +kernel)) ggX9_buyer_Jx4a65c_add_9ea2d
set_option maxRecDepth 20000 in
theorem ggX9_even_X9_buyerAt : GoodIn wsX9_even wsX9_buyerAt := goodIn_ca (goodIn_r _ [8, 9, 10, 11, 12, 13, 14, 15, 16, 17, 18, 19, 20, 21, 22, 23, 24, 25, 26, 27, 28, 29, 30, 31, 32, 33, 34, 35, 50, 51, 52, 53, 54, 55, 56, 57, 58, 59, 60, 61, 62, 63, 64, 65, 66, 67, 68, 69, 70] (by decide +kernel) (by decide +kernel)) (goodIn_sub (fun _ h => List.mem_cons_of_mem _ (List.mem_append_right _ h)) (by decide +kernel))
set_option maxRecDepth 20000 in
theorem gX9_even_X9_buyerAt : GoodIn wsX9_even (wsV RX9 214 RX9 yX9_buyerAt wsX9_buyerAt) := goodIn_app (goodIn_of _ (by decide +kernel)) ggX9_even_X9_buyerAt
set_option maxRecDepth 20000 in
theorem ggX9_even_X9_isWithin : GoodIn wsX9_even wsX9_isWithin := goodIn_r _ [38] (by decide +kernel) (by decide +kernel)
set_option maxRecDepth 20000 in
theorem gX9_even_X9_isWithin : GoodIn wsX9_even (va_wsS RX9 85 yX9_isWithin wsX9_isWithin) := goodIn_app (goodIn_of _ (by decide +kernel)) ggX9_even_X9_isWithin
set_option maxRecDepth 20000 in
theorem ggX9_leave_X9_buyerAt : GoodIn wsX9_leave wsX9_buyerAt := goodIn_ca (goodIn_r _ [8, 9, 10, 11, 12, 13, 14, 15, 16, 17, 18, 19, 20, 21, 22, 23, 24, 25, 26, 27, 28, 29, 30, 31, 32, 33, 34, 35, 50, 51, 52, 53, 54, 55, 56, 57, 58, 59, 60, 61, 62, 63, 64, 65, 66, 67, 68, 69, 70] (by decide +kernel) (by decide +kernel)) (goodIn_sub (fun _ h => List.mem_cons_of_mem _ (List.mem_append_right _ h)) (by decide +kernel))
set_option maxRecDepth 20000 in
theorem gX9_leave_X9_buyerAt : GoodIn wsX9_leave (wsV RX9 214 RX9 yX9_buyerAt wsX9_buyerAt) := goodIn_app (goodIn_of _ (by decide +kernel)) ggX9_leave_X9_buyerAt
set_option maxRecDepth 20000 in
theorem ggX9_leave_X9_isWithin : GoodIn wsX9_leave wsX9_isWithin := goodIn_r _ [38] (by decide +kernel) (by decide +kernel)
set_option maxRecDepth 20000 in
theorem gX9_leave_X9_isWithin : GoodIn wsX9_leave (va_wsS RX9 85 yX9_isWithin wsX9_isWithin) := goodIn_app (goodIn_of _ (by decide +kernel)) ggX9_leave_X9_isWithin
set_option maxRecDepth 20000 in
theorem ggX9_order_X9_buyerAt : GoodIn wsX9_order wsX9_buyerAt := goodIn_ca (goodIn_r _ [13, 14, 15, 16, 17, 18, 19, 20, 21, 22, 23, 24, 25, 26, 27, 28, 29, 30, 31, 32, 33, 34, 35, 36, 37, 38, 39, 40, 113, 114, 115, 116, 117, 118, 119, 120, 121, 122, 123, 124, 125, 126, 127, 128, 129, 130, 139, 140, 141] (by decide +kernel) (by decide +kernel)) (goodIn_sub (fun _ h => List.mem_cons_of_mem _ (List.mem_append_right _ h)) (by decide +kernel))
set_option maxRecDepth 20000 in
theorem gX9_order_X9_buyerAt : GoodIn wsX9_order (wsV RX9 214 RX9 yX9_buyerAt wsX9_buyerAt) := goodIn_app (goodIn_of _ (by decide +kernel)) ggX9_order_X9_buyerAt
set_option maxRecDepth 20000 in
theorem ggX9_order_X9_isCultivar : GoodIn wsX9_order wsX9_isCultivar := goodIn_r _ [43] (by decide +kernel) (by decide +kernel)
set_option maxRecDepth 20000 in
theorem gX9_order_X9_isCultivar : GoodIn wsX9_order (va_wsS RX9 97 yX9_isCultivar wsX9_isCultivar) := goodIn_app (goodIn_of _ (by decide +kernel)) ggX9_order_X9_isCultivar
set_option maxRecDepth 20000 in
theorem ggX9_order_X9_isWithin : GoodIn wsX9_order wsX9_isWithin := goodIn_r _ [46] (by decide +kernel) (by decide +kernel)
set_option maxRecDepth 20000 in
theorem gX9_order_X9_isWithin : GoodIn wsX9_order (va_wsS RX9 85 yX9_isWithin wsX9_isWithin) := goodIn_app (goodIn_of _ (by decide +kernel)) ggX9_order_X9_isWithin
set_option maxRecDepth 20000 in
theorem ggX9_order_Jx4a65c_size_8abf5 : GoodIn wsX9_order wsJx4a65c_size_8abf5 := goodIn_r _ [22, 23, 139, 140, 141] (by decide +kernel) (by decide +kernel)
set_option maxRecDepth 20000 in
theorem gX9_order_Jx4a65c_size_8abf5 : GoodIn wsX9_order (wsV RX9 63 RJx4a65c yJx4a65c_size_8abf5 wsJx4a65c_size_8abf5) := goodIn_app (goodIn_of _ (by decide +kernel)) ggX9_order_Jx4a65c_size_8abf5
set_option maxRecDepth 20000 in
theorem ggX9_order_X6_init : GoodIn wsX9_order wsX6_init := goodIn_r _ [49, 50, 51, 52, 53, 54, 55, 56, 57, 58, 59, 131, 132, 133, 134, 135, 136, 137, 138] (by decide +kernel) (by decide +kernel)
set_option maxRecDepth 20000 in
theorem gX9_order_X6_init : GoodIn wsX9_order (wsX6_init) := ggX9_order_X6_init
set_option maxRecDepth 20000 in
theorem ggX9_order_Jx4a65c_add_9ea2d : GoodIn wsX9_order wsJx4a65c_add_9ea2d := goodIn_r _ [63, 64, 65, 40, 23, 66, 67, 68, 21, 69, 70, 71, 72, 73, 74, 75, 76, 77, 78, 79, 80, 81, 82, 83, 84, 85, 86, 87, 88, 89, 90, 91, 92, 93, 94, 95, 96, 97, 98, 99, 100, 101, 102, 103, 104, 105, 106, 107, 108, 109, 110, 111, 112, 139, 140, 141] (by decide +kernel) (by decide +kernel)
set_option maxRecDepth 20000 in
theorem gX9_order_Jx4a65c_add_9ea2d : GoodIn wsX9_order (wsV RX9 77 RJx4a65c yJx4a65c_add_9ea2d wsJx4a65c_add_9ea2d) := goodIn_app (goodIn_of _ (by decide +kernel)) ggX9_order_Jx4a65c_add_9ea2d
set_option maxRecDepth 20000 in
theorem ggX9_clock_Jx4a65c_isEmpty_aae02 : GoodIn wsX9_clock wsJx4a65c_isEmpty_aae02 := goodIn_r _ [19, 20, 282, 283, 284] (by decide +kernel) (by decide +kernel)
set_option maxRecDepth 20000 in
theorem gX9_clock_Jx4a65c_isEmpty_aae02 : GoodIn wsX9_clock (wsV RX9 237 RJx4a65c yJx4a65c_isEmpty_aae02 wsJx4a65c_isEmpty_aae02) := goodIn_app (goodIn_of _ (by decide +kernel)) ggX9_clock_Jx4a65c_isEmpty_aae02
set_option maxRecDepth 20000 in
theorem ggX9_clock_Jx4a65c_remove_915e3 : GoodIn wsX9_clock wsJx4a65c_remove_915e3 := goodIn_r _ [24, 20, 25, 26, 27, 28, 29, 30, 31, 32, 33, 34, 35, 36, 18, 37, 38, 39, 40, 41, 42, 43, 282, 283, 284] (by decide +kernel) (by decide +kernel)
set_option maxRecDepth 20000 in
theorem gX9_clock_Jx4a65c_remove_915e3 : GoodIn wsX9_clock (wsV RX9 243 RJx4a65c yJx4a65c_remove_915e3 wsJx4a65c_remove_915e3) := goodIn_app (goodIn_of _ (by decide +kernel)) ggX9_clock_Jx4a65c_remove_915e3
set_option maxRecDepth 20000 in
theorem ggX9_clock_X2_begin : GoodIn wsX9_clock wsX2_begin := goodIn_r _ [48, 49, 50, 51, 52, 53, 54, 55, 56, 57, 58, 59, 60, 61, 62, 63, 64, 65, 66, 67, 68, 69, 70, 71, 72, 73, 74, 75, 76, 77, 78, 79, 80, 81, 82, 83, 18, 84, 20, 85, 86, 87, 88, 26, 27, 28, 29, 30, 31, 32, 33, 89, 90, 91, 92, 25, 252, 253, 254, 255, 256, 257, 258, 259, 260, 261, 262, 263, 272, 273, 274, 275, 276, 277, 278, 279, 280, 281, 285, 286, 287, 288, 289, 290, 291, 292, 293, 294, 295, 296, 297, 298, 299, 300, 264, 265, 266, 267, 268, 269, 270, 271, 282, 283, 284] (by decide +kernel) (by decide +kernel)
set_option maxRecDepth 20000 in
theorem gX9_clock_X2_begin : GoodIn wsX9_clock (wsV RX9 247 RX2 yX2_begin wsX2_begin) := goodIn_app (goodIn_of _ (by decide +kernel)) ggX9_clock_X2_begin
set_option maxRecDepth 20000 in
theorem ggX9_clock_X2_nextTaker : GoodIn wsX9_clock wsX2_nextTaker := goodIn_r _ [96, 65, 63, 62, 97, 70, 80, 54, 55, 56, 57, 77, 98, 99, 100, 47, 101, 78, 81, 82, 83, 18, 84, 20, 85, 86, 87, 88, 26, 27, 28, 29, 30, 31, 32, 33, 89, 90, 91, 92, 25, 102, 103, 104, 105, 106, 50, 107, 52, 108, 58, 109, 61, 110, 111, 112, 113, 114, 115, 116, 117, 118, 119, 76, 120, 121, 122, 123, 67, 124, 125, 126, 127, 128, 272, 273, 274, 275, 276, 277, 278, 279, 280, 281, 264, 265, 266, 267, 268, 269, 270, 271, 290, 291, 292, 293, 294, 295, 296, 297, 298, 299, 300, 282, 283, 284] (by decide +kernel) (by decide +kernel)
set_option maxRecDepth 20000 in
theorem gX9_clock_X2_nextTaker : GoodIn wsX9_clock (wsV RX9 251 RX2 yX2_nextTaker wsX2_nextTaker) := goodIn_app (goodIn_of _ (by decide +kernel)) ggX9_clock_X2_nextTaker
set_option maxRecDepth 20000 in
theorem ggX9_clock_X9_sell : GoodIn wsX9_clock wsX9_sell := goodIn_r _ [132, 133, 134, 55, 56, 57, 135, 136, 137, 138, 5, 14, 139, 140, 141, 142, 143, 144, 145, 146, 126, 127, 128, 147, 148, 149, 150, 151, 152, 153, 154, 155, 156, 157, 158, 159, 160, 161, 162, 163, 164, 165, 166, 167, 168, 169, 170, 171, 172, 173, 174, 175, 176, 177, 178, 179, 180, 181, 182, 183, 184, 185, 186, 187, 188, 189, 190, 191, 192, 18, 193, 38, 39, 25, 20, 194, 195, 196, 197, 198, 199, 200, 201, 202, 203, 204, 205, 206, 207, 74, 75, 208, 209, 210, 211, 212, 213, 214, 215, 216, 217, 218, 219, 220, 221, 222, 223, 224, 225, 226, 227, 228, 229, 230, 231, 232, 41, 42, 43, 233, 82, 83, 84, 21, 22, 23, 24, 26, 27, 28, 29, 30, 31, 32, 33, 34, 35, 36, 37, 40, 252, 253, 254, 255, 256, 257, 258, 259, 260, 261, 262, 263, 301, 302, 303, 304, 305, 306, 307, 234, 235, 236, 237, 238, 239, 240, 241, 242, 243, 244, 245, 246, 247, 248, 249, 250, 251, 308, 309, 310, 311, 290, 291, 292, 293, 294, 295, 296, 297, 298, 299, 300, 285, 286, 287, 288, 289, 264, 265, 266, 267, 268, 269, 270, 271, 282, 283, 284] (by decide +kernel) (by decide +kernel)
set_option maxRecDepth 20000 in
theorem gX9_clock_X9_sell : GoodIn wsX9_clock (wsV RX9 263 RX9 yX9_sell wsX9_sell) := goodIn_app (goodIn_of _ (by decide +kernel)) ggX9_clock_X9_sell
