set_option maxRecDepth 20000 in
theorem ggX9_many_X9_isWithin : GoodIn wsX9_many wsX9_isWithin := goodIn_r _ [6] (by decide +kernel) (by decide +kernel)
set_option maxRecDepth 20000 in
theorem gX9_many_X9_isWithin : GoodIn wsX9_many (va_wsS RX9 85 yX9_isWithin wsX9_isWithin) := goodIn_app (goodIn_of _ (by decide +kernel)) ggX9_many_X9_isWithin
set_option maxRecDepth 20000 in
theorem ggX9_many_X9_numberOfHall : GoodIn wsX9_many wsX9_numberOfHall := goodIn_r _ [10, 11, 12, 13, 14, 15, 16, 17, 18, 19, 20, 21, 22, 23, 24, 25, 26, 27, 28, 29, 30, 31, 32, 5, 33, 34, 35, 36, 37, 38, 39, 40, 41, 42, 43, 44, 45, 46, 47, 48, 49, 50, 51, 52, 53, 54, 55, 56, 57, 58, 59, 60, 61, 62, 63, 64, 65, 66, 67, 68, 69, 70, 71, 72, 73, 74, 75, 76, 77, 78, 79, 80, 81, 82, 83, 84, 85, 86, 87, 88, 89, 90, 91, 92] (by decide +kernel) (by decide +kernel)
set_option maxRecDepth 20000 in
theorem gX9_many_X9_numberOfHall : GoodIn wsX9_many (wsV RX9 367 RX9 yX9_numberOfHall wsX9_numberOfHall) := goodIn_app (goodIn_of _ (by decide +kernel)) ggX9_many_X9_numberOfHall
set_option maxRecDepth 20000 in
theorem ggX9_wouldFetch_X9_lotAt : GoodIn wsX9_wouldFetch wsX9_lotAt := goodIn_ca (goodIn_r _ [5, 6, 7, 8, 9, 10, 11, 12, 13, 14, 15, 16, 17, 18, 19, 20, 21, 22, 23, 24, 25, 26, 27, 28, 29, 30, 31, 32, 116, 117, 118, 119, 120, 121, 122, 123, 124, 125, 126, 127, 128, 129, 130, 131, 132, 133, 134, 135, 136] (by decide +kernel) (by decide +kernel)) (goodIn_sub (fun _ h => List.mem_cons_of_mem _ (List.mem_append_right _ h)) (by decide +kernel))
set_option maxRecDepth 20000 in
theorem gX9_wouldFetch_X9_lotAt : GoodIn wsX9_wouldFetch (wsV RX9 140 RX9 yX9_lotAt wsX9_lotAt) := goodIn_app (goodIn_of _ (by decide +kernel)) ggX9_wouldFetch_X9_lotAt
set_option maxRecDepth 20000 in
theorem ggX9_wouldFetch_X9_firstPriceOf : GoodIn wsX9_wouldFetch wsX9_firstPriceOf := goodIn_r _ [36, 37, 38, 39, 40, 41, 42, 43, 44, 45, 46, 47, 48, 49, 50, 51, 52, 53, 54, 55, 56, 57, 58, 59, 60, 61, 62, 63, 64, 65, 66, 67, 68, 69, 70, 71, 72, 73, 74, 75, 76, 77, 78, 79, 11, 12, 13, 14, 15, 80, 17, 18, 19, 20, 21, 22, 23, 24, 25, 26, 27, 28, 29, 30, 31, 32, 81, 82, 83, 84, 85, 86, 87, 88, 89, 90, 91, 92, 93, 94, 95, 96, 97, 98, 99, 100, 101, 102, 103, 104, 105, 106, 107, 108, 109, 110, 111, 112, 113, 114, 4, 115, 116, 117, 118, 119, 120, 121, 122, 123, 124, 125, 126, 127, 128, 129, 130, 131, 132, 133, 137, 138, 139, 140, 141, 142, 143, 144, 145, 146, 147, 148, 149, 150, 151, 152, 153, 154, 155, 156, 157, 158, 159, 160, 161, 162, 163, 164, 165, 166, 167, 168, 169, 170, 171, 172, 173, 174, 175, 176, 177, 178, 179, 180, 181, 182, 134, 135, 136] (by decide +kernel) (by decide +kernel)
set_option maxRecDepth 20000 in
theorem gX9_wouldFetch_X9_firstPriceOf : GoodIn wsX9_wouldFetch (wsV RX9 374 RX9 yX9_firstPriceOf wsX9_firstPriceOf) := goodIn_app (goodIn_of _ (by decide +kernel)) ggX9_wouldFetch_X9_firstPriceOf
set_option maxRecDepth 20000 in
theorem ggX9_bestMinimum_X9_lotAt : GoodIn wsX9_bestMinimum wsX9_lotAt := goodIn_ca (goodIn_r _ [5, 6, 7, 8, 9, 10, 11, 12, 13, 14, 15, 16, 17, 18, 19, 20, 21, 22, 23, 24, 25, 26, 27, 28, 29, 30, 31, 32, 117, 118, 119, 120, 121, 122, 123, 124, 125, 126, 127, 128, 129, 130, 131, 132, 133, 134, 135, 136, 137] (by decide +kernel) (by decide +kernel)) (goodIn_sub (fun _ h => List.mem_cons_of_mem _ (List.mem_append_right _ h)) (by decide +kernel))
set_option maxRecDepth 20000 in
theorem gX9_bestMinimum_X9_lotAt : GoodIn wsX9_bestMinimum (wsV RX9 140 RX9 yX9_lotAt wsX9_lotAt) := goodIn_app (goodIn_of _ (by decide +kernel)) ggX9_bestMinimum_X9_lotAt
set_option maxRecDepth 20000 in
theorem ggX9_bestMinimum_X9_lowestPriceOf : GoodIn wsX9_bestMinimum wsX9_lowestPriceOf := goodIn_r _ [36, 37, 38, 39, 40, 41, 42, 43, 44, 45, 46, 47, 48, 49, 50, 51, 52, 53, 54, 55, 56, 57, 58, 59, 60, 61, 62, 63, 64, 65, 66, 67, 68, 69, 70, 71, 72, 73, 74, 75, 76, 77, 78, 79, 80, 11, 12, 13, 14, 15, 81, 17, 18, 19, 20, 21, 22, 23, 24, 25, 26, 27, 28, 29, 30, 31, 32, 82, 83, 84, 85, 86, 87, 88, 89, 90, 91, 92, 93, 94, 95, 96, 97, 98, 99, 100, 101, 102, 103, 104, 105, 106, 107, 108, 109, 110, 111, 112, 113, 114, 115, 4, 116, 117, 118, 119, 120, 121, 122, 123, 124, 125, 126, 127, 128, 129, 130, 131, 132, 133, 134, 138, 139, 140, 141, 142, 143, 144, 145, 146, 147, 148, 149, 150, 151, 152, 153, 154, 155, 156, 157, 158, 159, 160, 161, 162, 163, 164, 165, 166, 167, 168, 169, 170, 171, 172, 173, 174, 175, 176, 177, 178, 179, 180, 181, 182, 183, 135, 136, 137] (by decide +kernel) (by decide +kernel)
set_option maxRecDepth 20000 in
theorem gX9_bestMinimum_X9_lowestPriceOf : GoodIn wsX9_bestMinimum (wsV RX9 378 RX9 yX9_lowestPriceOf wsX9_lowestPriceOf) := goodIn_app (goodIn_of _ (by decide +kernel)) ggX9_bestMinimum_X9_lowestPriceOf
set_option maxRecDepth 20000 in
theorem ggX9_readyIn_X9_cropAt : GoodIn wsX9_readyIn wsX9_cropAt := goodIn_ca (goodIn_r _ [5, 6, 7, 8, 9, 10, 11, 12, 13, 14, 15, 16, 17, 18, 19, 20, 21, 22, 23, 24, 25, 26, 27, 28, 29, 30, 31, 32, 46, 47, 48, 49, 50, 51, 52, 53, 54, 55, 56, 57, 58, 59, 60, 61, 62, 63, 64, 65, 66] (by decide +kernel) (by decide +kernel)) (goodIn_sub (fun _ h => List.mem_cons_of_mem _ (List.mem_append_right _ h)) (by decide +kernel))
set_option maxRecDepth 20000 in
theorem gX9_readyIn_X9_cropAt : GoodIn wsX9_readyIn (wsV RX9 110 RX9 yX9_cropAt wsX9_cropAt) := goodIn_app (goodIn_of _ (by decide +kernel)) ggX9_readyIn_X9_cropAt
set_option maxRecDepth 20000 in
theorem ggX9_readyIn_X9_hoursUntilReady : GoodIn wsX9_readyIn wsX9_hoursUntilReady := goodIn_r _ [36, 37, 38, 39, 40, 41, 42, 43, 44, 4, 45, 67, 68, 69, 70, 71, 72, 73, 46, 47, 48, 49, 50, 51, 52, 53, 54, 55, 56, 57, 58, 59, 60, 61, 62, 63, 74, 75, 76, 77, 78] (by decide +kernel) (by decide +kernel)
set_option maxRecDepth 20000 in
theorem gX9_readyIn_X9_hoursUntilReady : GoodIn wsX9_readyIn (wsV RX9 381 RX9 yX9_hoursUntilReady wsX9_hoursUntilReady) := goodIn_app (goodIn_of _ (by decide +kernel)) ggX9_readyIn_X9_hoursUntilReady
set_option maxRecDepth 20000 in
theorem ggX9_digest_X9_numberOfHall : GoodIn wsX9_digest wsX9_numberOfHall := goodIn_r _ [6, 7, 8, 9, 10, 11, 12, 13, 14, 15, 16, 17, 18, 19, 20, 21, 22, 23, 24, 25, 26, 27, 28, 5, 29, 30, 31, 32, 33, 34, 35, 36, 37, 38, 39, 40, 41, 42, 43, 44, 45, 46, 47, 48, 49, 50, 51, 52, 53, 54, 55, 56, 57, 58, 59, 60, 61, 62, 256, 257, 258, 259, 260, 261, 262, 263, 264, 265, 266, 267, 268, 269, 270, 271, 272, 273, 274, 275, 276, 277, 278, 279, 280, 281] (by decide +kernel) (by decide +kernel)
set_option maxRecDepth 20000 in
theorem gX9_digest_X9_numberOfHall : GoodIn wsX9_digest (wsV RX9 367 RX9 yX9_numberOfHall wsX9_numberOfHall) := goodIn_app (goodIn_of _ (by decide +kernel)) ggX9_digest_X9_numberOfHall
set_option maxRecDepth 20000 in
theorem ggX9_digest_X9_mixed : GoodIn wsX9_digest wsX9_mixed := goodIn_r _ [65, 66] (by decide +kernel) (by decide +kernel)
set_option maxRecDepth 20000 in
theorem gX9_digest_X9_mixed : GoodIn wsX9_digest (va_wsS RX9 392 yX9_mixed wsX9_mixed) := goodIn_app (goodIn_of _ (by decide +kernel)) ggX9_digest_X9_mixed
set_option maxRecDepth 20000 in
theorem ggX9_digest_X9_mixedWithGrowing : GoodIn wsX9_digest wsX9_mixedWithGrowing := goodIn_r _ [70, 8, 71, 9, 72, 20, 21, 22, 23, 24, 25, 40, 41, 42, 43, 44, 45, 46, 47, 48, 49, 50, 51, 52, 53, 54, 55, 56, 73, 74, 75, 76, 77, 78, 79, 80, 81, 82, 83, 84, 85, 60, 86, 62, 63, 64, 5, 65, 66, 87, 88, 89, 90, 91, 92, 93, 94, 95, 96, 97, 98, 99, 100, 101, 102, 103, 104, 105, 106, 107, 108, 109, 110, 256, 257, 258, 259, 260, 261, 262, 263, 264, 265, 266, 267, 268, 269, 270, 271, 272, 273, 274, 275, 276, 282, 283, 284, 285, 286, 281, 287, 288, 289, 290, 291, 292, 293] (by decide +kernel) (by decide +kernel)
set_option maxRecDepth 20000 in
theorem gX9_digest_X9_mixedWithGrowing : GoodIn wsX9_digest (wsV RX9 396 RX9 yX9_mixedWithGrowing wsX9_mixedWithGrowing) := goodIn_app (goodIn_of _ (by decide +kernel)) ggX9_digest_X9_mixedWithGrowing
set_option maxRecDepth 20000 in
theorem ggX9_digest_X9_mixedWithLots : GoodIn wsX9_digest wsX9_mixedWithLots := goodIn_r _ [114, 10, 115, 20, 21, 22, 23, 24, 25, 40, 41, 42, 43, 44, 45, 46, 47, 48, 49, 50, 51, 52, 53, 54, 55, 56, 116, 117, 118, 119, 120, 121, 122, 123, 124, 125, 126, 127, 128, 129, 130, 63, 64, 5, 65, 66, 131, 132, 133, 134, 135, 136, 11, 12, 137, 138, 139, 140, 141, 142, 143, 144, 145, 146, 147, 148, 33, 34, 35, 149, 150, 151, 152, 153, 154, 155, 156, 157, 158, 159, 160, 161, 162, 163, 164, 165, 166, 167, 168, 169, 170, 171, 172, 173, 174, 175, 176, 177, 178, 179, 180, 181, 182, 183, 184, 185, 186, 187, 188, 189, 190, 191, 192, 193, 194, 195, 196, 197, 198, 199, 200, 201, 202, 203, 204, 205, 206, 207, 208, 209, 210, 211, 212, 32, 256, 257, 258, 259, 260, 261, 262, 263, 264, 265, 266, 267, 268, 269, 270, 271, 272, 273, 274, 275, 276, 294, 295, 296, 297, 298, 299, 300, 301, 302, 303, 304, 305, 306, 307, 308, 309, 310, 311, 312, 313, 314, 315, 282, 283, 284, 285, 286, 316, 317, 318, 319, 320, 321, 322, 323, 324, 325, 326, 327, 328, 329, 330, 331, 332, 333, 334] (by decide +kernel) (by decide +kernel)
set_option maxRecDepth 20000 in
theorem gX9_digest_X9_mixedWithLots : GoodIn wsX9_digest (wsV RX9 400 RX9 yX9_mixedWithLots wsX9_mixedWithLots) := goodIn_app (goodIn_of _ (by decide +kernel)) ggX9_digest_X9_mixedWithLots
set_option maxRecDepth 20000 in
theorem ggX9_digest_X9_mixedWithTrade : GoodIn wsX9_digest wsX9_mixedWithTrade := goodIn_r _ [216, 11, 217, 12, 218, 219, 220, 221, 20, 21, 22, 23, 24, 25, 40, 41, 42, 43, 44, 45, 46, 47, 48, 49, 50, 51, 52, 53, 54, 55, 56, 222, 223, 224, 225, 226, 227, 228, 229, 230, 231, 232, 233, 234, 58, 59, 60, 61, 62, 63, 64, 5, 65, 66, 235, 236, 237, 238, 239, 240, 241, 242, 243, 244, 245, 246, 256, 257, 258, 259, 260, 261, 262, 263, 264, 265, 266, 267, 268, 269, 270, 271, 272, 273, 327, 328, 329, 330, 331, 332, 333, 334, 274, 275, 276, 316, 317, 318, 319, 320, 321, 322, 323, 324, 325, 326, 281, 335, 336, 337, 338, 339, 340, 341, 294, 295, 296, 297, 298, 299, 300, 301, 302, 303, 304, 305] (by decide +kernel) (by decide +kernel)
set_option maxRecDepth 20000 in
theorem gX9_digest_X9_mixedWithTrade : GoodIn wsX9_digest (wsV RX9 403 RX9 yX9_mixedWithTrade wsX9_mixedWithTrade) := goodIn_app (goodIn_of _ (by decide +kernel)) ggX9_digest_X9_mixedWithTrade
set_option maxRecDepth 20000 in
theorem ggX9_digest_X9_lotInRow : GoodIn wsX9_digest wsX9_lotInRow := goodIn_r _ [250, 13, 115, 251, 20, 21, 22, 23, 24, 25, 40, 41, 42, 43, 44, 45, 46, 47, 48, 49, 50, 51, 52, 53, 54, 55, 56, 256, 257, 258, 259, 260, 261, 262, 263, 264, 265, 266, 267, 268, 269, 270, 271, 272, 273, 294, 295, 296, 297, 298, 299, 300, 301, 302, 303, 304, 305, 274, 275, 276] (by decide +kernel) (by decide +kernel)
set_option maxRecDepth 20000 in
theorem gX9_digest_X9_lotInRow : GoodIn wsX9_digest (wsV RX9 362 RX9 yX9_lotInRow wsX9_lotInRow) := goodIn_app (goodIn_of _ (by decide +kernel)) ggX9_digest_X9_lotInRow
set_option maxRecDepth 20000 in
theorem ggX9_digest_X9_fewestLamps : GoodIn wsX9_digest wsX9_fewestLamps := goodIn_r _ [255, 103, 108, 109, 5, 110, 256, 257, 258, 259, 260, 261, 262, 263, 264, 265, 266, 267, 268, 269, 270, 271, 272, 273] (by decide +kernel) (by decide +kernel)
set_option maxRecDepth 20000 in
theorem gX9_digest_X9_fewestLamps : GoodIn wsX9_digest (wsV RX9 387 RX9 yX9_fewestLamps wsX9_fewestLamps) := goodIn_app (goodIn_of _ (by decide +kernel)) ggX9_digest_X9_fewestLamps
set_option maxRecDepth 20000 in
theorem ggX9_growerAt_Jx4a65c_size_8abf5 : GoodIn wsX9_growerAt wsJx4a65c_size_8abf5 := goodIn_r _ [9, 10, 46, 47, 48] (by decide +kernel) (by decide +kernel)
set_option maxRecDepth 20000 in
theorem gX9_growerAt_Jx4a65c_size_8abf5 : GoodIn wsX9_growerAt (wsV RX9 63 RJx4a65c yJx4a65c_size_8abf5 wsJx4a65c_size_8abf5) := goodIn_app (goodIn_of _ (by decide +kernel)) ggX9_growerAt_Jx4a65c_size_8abf5
set_option maxRecDepth 20000 in
theorem ggX9_growerAt_Jx4a65c_get_915e3 : GoodIn wsX9_growerAt wsJx4a65c_get_915e3 := goodIn_r _ [14, 10, 15, 16, 17, 18, 19, 20, 21, 22, 23, 24, 25, 8, 26, 27, 46, 47, 48] (by decide +kernel) (by decide +kernel)
set_option maxRecDepth 20000 in
theorem gX9_growerAt_Jx4a65c_get_915e3 : GoodIn wsX9_growerAt (wsV RX9 279 RJx4a65c yJx4a65c_get_915e3 wsJx4a65c_get_915e3) := goodIn_app (goodIn_of _ (by decide +kernel)) ggX9_growerAt_Jx4a65c_get_915e3
set_option maxRecDepth 20000 in
theorem ggX9_cropAt_Jx4a65c_size_8abf5 : GoodIn wsX9_cropAt wsJx4a65c_size_8abf5 := goodIn_r _ [9, 10, 46, 47, 48] (by decide +kernel) (by decide +kernel)
set_option maxRecDepth 20000 in
theorem gX9_cropAt_Jx4a65c_size_8abf5 : GoodIn wsX9_cropAt (wsV RX9 63 RJx4a65c yJx4a65c_size_8abf5 wsJx4a65c_size_8abf5) := goodIn_app (goodIn_of _ (by decide +kernel)) ggX9_cropAt_Jx4a65c_size_8abf5
set_option maxRecDepth 20000 in
theorem ggX9_cropAt_Jx4a65c_get_915e3 : GoodIn wsX9_cropAt wsJx4a65c_get_915e3 := goodIn_r _ [14, 10, 15, 16, 17, 18, 19, 20, 21, 22, 23, 24, 25, 8, 26, 27, 46, 47, 48] (by decide +kernel) (by decide +kernel)
set_option maxRecDepth 20000 in
theorem gX9_cropAt_Jx4a65c_get_915e3 : GoodIn wsX9_cropAt (wsV RX9 279 RJx4a65c yJx4a65c_get_915e3 wsJx4a65c_get_915e3) := goodIn_app (goodIn_of _ (by decide +kernel)) ggX9_cropAt_Jx4a65c_get_915e3
set_option maxRecDepth 20000 in
theorem ggX9_lotAt_Jx4a65c_size_8abf5 : GoodIn wsX9_lotAt wsJx4a65c_size_8abf5 := goodIn_r _ [9, 10, 46, 47, 48] (by decide +kernel) (by decide +kernel)
set_option maxRecDepth 20000 in
theorem gX9_lotAt_Jx4a65c_size_8abf5 : GoodIn wsX9_lotAt (wsV RX9 63 RJx4a65c yJx4a65c_size_8abf5 wsJx4a65c_size_8abf5) := goodIn_app (goodIn_of _ (by decide +kernel)) ggX9_lotAt_Jx4a65c_size_8abf5
set_option maxRecDepth 20000 in
theorem ggX9_lotAt_Jx4a65c_get_915e3 : GoodIn wsX9_lotAt wsJx4a65c_get_915e3 := goodIn_r _ [14, 10, 15, 16, 17, 18, 19, 20, 21, 22, 23, 24, 25, 8, 26, 27, 46, 47, 48] (by decide +kernel) (by decide +kernel)
set_option maxRecDepth 20000 in
theorem gX9_lotAt_Jx4a65c_get_915e3 : GoodIn wsX9_lotAt (wsV RX9 279 RJx4a65c yJx4a65c_get_915e3 wsJx4a65c_get_915e3) := goodIn_app (goodIn_of _ (by decide +kernel)) ggX9_lotAt_Jx4a65c_get_915e3
set_option maxRecDepth 20000 in
theorem ggX9_buyerAt_Jx4a65c_size_8abf5 : GoodIn wsX9_buyerAt wsJx4a65c_size_8abf5 := goodIn_r _ [9, 10, 46, 47, 48] (by decide +kernel) (by decide +kernel)
set_option maxRecDepth 20000 in
theorem gX9_buyerAt_Jx4a65c_size_8abf5 : GoodIn wsX9_buyerAt (wsV RX9 63 RJx4a65c yJx4a65c_size_8abf5 wsJx4a65c_size_8abf5) := goodIn_app (goodIn_of _ (by decide +kernel)) ggX9_buyerAt_Jx4a65c_size_8abf5
set_option maxRecDepth 20000 in
theorem ggX9_buyerAt_Jx4a65c_get_915e3 : GoodIn wsX9_buyerAt wsJx4a65c_get_915e3 := goodIn_r _ [14, 10, 15, 16, 17, 18, 19, 20, 21, 22, 23, 24, 25, 8, 26, 27, 46, 47, 48] (by decide +kernel) (by decide +kernel)
set_option maxRecDepth 20000 in
theorem gX9_buyerAt_Jx4a65c_get_915e3 : GoodIn wsX9_buyerAt (wsV RX9 279 RJx4a65c yJx4a65c_get_915e3 wsJx4a65c_get_915e3) := goodIn_app (goodIn_of _ (by decide +kernel)) ggX9_buyerAt_Jx4a65c_get_915e3
set_option maxRecDepth 20000 in
theorem ggX9_passOneHour_X9_beginDay : GoodIn wsX9_passOneHour wsX9_beginDay := goodIn_r _ [6, 7, 8, 9, 10, 11, 12, 13, 14, 15, 16, 17, 18, 19, 20, 21, 22, 23, 24, 25, 26, 27, 28, 29, 30, 31, 32, 33, 34, 35, 36, 37, 38, 128, 129, 130, 131, 132, 133, 134, 135, 136, 137, 138, 139, 140, 141, 142, 143, 144, 145, 146, 147, 148, 149, 150, 151, 152, 153, 154] (by decide +kernel) (by decide +kernel)
set_option maxRecDepth 20000 in
theorem gX9_passOneHour_X9_beginDay : GoodIn wsX9_passOneHour (wsV RX9 414 RX9 yX9_beginDay wsX9_beginDay) := goodIn_app (goodIn_of _ (by decide +kernel)) ggX9_passOneHour_X9_beginDay
set_option maxRecDepth 20000 in
theorem ggX9_passOneHour_X9_growCrops : GoodIn wsX9_passOneHour wsX9_growCrops := goodIn_r _ [42, 43, 44, 45, 46, 47, 10, 11, 12, 13, 14, 15, 16, 17, 18, 19, 20, 21, 22, 23, 24, 25, 26, 27, 28, 29, 30, 31, 32, 48, 49, 50, 51, 52, 53, 54, 55, 56, 57, 5, 58, 128, 129, 130, 131, 132, 133, 134, 135, 136, 137, 138, 139, 140, 141, 142, 143, 144, 145, 155, 156, 157, 158, 159, 160, 161, 146, 147, 148, 149, 150, 151, 152, 153] (by decide +kernel) (by decide +kernel)
set_option maxRecDepth 20000 in
theorem gX9_passOneHour_X9_growCrops : GoodIn wsX9_passOneHour (wsV RX9 417 RX9 yX9_growCrops wsX9_growCrops) := goodIn_app (goodIn_of _ (by decide +kernel)) ggX9_passOneHour_X9_growCrops
set_option maxRecDepth 20000 in
theorem ggX9_passOneHour_X9_payForLamps : GoodIn wsX9_passOneHour wsX9_payForLamps := goodIn_r _ [62, 7, 8, 63, 47, 10, 11, 12, 13, 14, 15, 16, 17, 18, 19, 20, 21, 22, 23, 24, 25, 26, 27, 28, 29, 30, 31, 32, 128, 129, 130, 131, 132, 133, 134, 135, 136, 137, 138, 139, 140, 141, 142, 143, 144, 145, 146, 147, 148, 149, 150, 151, 152, 153] (by decide +kernel) (by decide +kernel)
set_option maxRecDepth 20000 in
theorem gX9_passOneHour_X9_payForLamps : GoodIn wsX9_passOneHour (wsV RX9 420 RX9 yX9_payForLamps wsX9_payForLamps) := goodIn_app (goodIn_of _ (by decide +kernel)) ggX9_passOneHour_X9_payForLamps
set_option maxRecDepth 20000 in
theorem ggX9_passOneHour_X9_loseLife : GoodIn wsX9_passOneHour wsX9_loseLife := goodIn_r _ [67, 68, 69, 70, 71, 72, 73, 74, 75, 76, 77, 78, 79, 10, 11, 12, 13, 14, 15, 16, 17, 18, 19, 20, 21, 22, 23, 24, 25, 26, 27, 28, 29, 30, 31, 32, 80, 81, 5, 82, 128, 129, 130, 131, 132, 133, 134, 135, 136, 137, 138, 139, 140, 141, 142, 143, 144, 145, 162, 163, 164, 165, 166, 167, 168, 169, 170, 171, 172, 173, 174, 175, 176, 177, 151, 152, 153] (by decide +kernel) (by decide +kernel)
set_option maxRecDepth 20000 in
theorem gX9_passOneHour_X9_loseLife : GoodIn wsX9_passOneHour (wsV RX9 423 RX9 yX9_loseLife wsX9_loseLife) := goodIn_app (goodIn_of _ (by decide +kernel)) ggX9_passOneHour_X9_loseLife
set_option maxRecDepth 20000 in
theorem ggX9_passOneHour_X9_runRail : GoodIn wsX9_passOneHour wsX9_runRail := goodIn_r _ [86, 87, 77, 78, 88, 89, 90, 13, 91, 15, 92, 93, 94, 5, 95, 96, 97, 10, 11, 12, 14, 16, 17, 18, 19, 20, 21, 22, 23, 24, 25, 26, 27, 28, 29, 30, 31, 32, 98, 99, 100, 101, 102, 103, 104, 105, 106, 107, 108, 109, 110, 111, 112, 113, 114, 115, 1, 116, 117, 118, 119, 120, 121, 122, 36, 123, 38, 124, 125, 126, 127, 128, 129, 130, 131, 132, 133, 134, 135, 136, 137, 138, 139, 140, 141, 142, 143, 144, 145, 151, 152, 153, 174, 175, 176, 177, 178, 179, 180, 181, 182, 183, 184, 185, 186, 187, 188, 154] (by decide +kernel) (by decide +kernel)
set_option maxRecDepth 20000 in
theorem gX9_passOneHour_X9_runRail : GoodIn wsX9_passOneHour (wsV RX9 426 RX9 yX9_runRail wsX9_runRail) := goodIn_app (goodIn_of _ (by decide +kernel)) ggX9_passOneHour_X9_runRail
set_option maxRecDepth 20000 in
theorem ggX9_beginDay_Jx4a65c_size_8abf5 : GoodIn wsX9_beginDay wsJx4a65c_size_8abf5 := goodIn_r _ [8, 9, 56, 57, 58] (by decide +kernel) (by decide +kernel)
set_option maxRecDepth 20000 in
theorem gX9_beginDay_Jx4a65c_size_8abf5 : GoodIn wsX9_beginDay (wsV RX9 63 RJx4a65c yJx4a65c_size_8abf5 wsJx4a65c_size_8abf5) := goodIn_app (goodIn_of _ (by decide +kernel)) ggX9_beginDay_Jx4a65c_size_8abf5
set_option maxRecDepth 20000 in
theorem ggX9_beginDay_Jx4a65c_get_915e3 : GoodIn wsX9_beginDay wsJx4a65c_get_915e3 := goodIn_r _ [13, 9, 14, 15, 16, 17, 18, 19, 20, 21, 22, 23, 24, 7, 25, 26, 56, 57, 58] (by decide +kernel) (by decide +kernel)
set_option maxRecDepth 20000 in
theorem gX9_beginDay_Jx4a65c_get_915e3 : GoodIn wsX9_beginDay (wsV RX9 279 RJx4a65c yJx4a65c_get_915e3 wsJx4a65c_get_915e3) := goodIn_app (goodIn_of _ (by decide +kernel)) ggX9_beginDay_Jx4a65c_get_915e3
set_option maxRecDepth 20000 in
theorem ggX9_beginDay_X1_putAll : GoodIn wsX9_beginDay wsX1_putAll := goodIn_r _ [31, 32, 59] (by decide +kernel) (by decide +kernel)
set_option maxRecDepth 20000 in
theorem gX9_beginDay_X1_putAll : GoodIn wsX9_beginDay (wsV RX9 429 RX1 yX1_putAll wsX1_putAll) := goodIn_app (goodIn_of _ (by decide +kernel)) ggX9_beginDay_X1_putAll
set_option maxRecDepth 20000 in
theorem ggX9_growCrops_Jx4a65c_size_8abf5 : GoodIn wsX9_growCrops wsJx4a65c_size_8abf5 := goodIn_r _ [10, 11, 71, 72, 73] (by decide +kernel) (by decide +kernel)
set_option maxRecDepth 20000 in
theorem gX9_growCrops_Jx4a65c_size_8abf5 : GoodIn wsX9_growCrops (wsV RX9 63 RJx4a65c yJx4a65c_size_8abf5 wsJx4a65c_size_8abf5) := goodIn_app (goodIn_of _ (by decide +kernel)) ggX9_growCrops_Jx4a65c_size_8abf5
