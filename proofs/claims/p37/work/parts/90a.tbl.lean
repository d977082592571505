set_option maxRecDepth 20000 in
theorem in_wsL_law0_r1 : GoodIn lw_tbl wsL_law0_r1 := goodIn_p wsL_law0_r1 [65, 68] (by decide +kernel) (by decide +kernel)
set_option maxRecDepth 20000 in
theorem in_wsL_law0_r2 : GoodIn lw_tbl wsL_law0_r2 := goodIn_p wsL_law0_r2 [73, 76, 79] (by decide +kernel) (by decide +kernel)
set_option maxRecDepth 20000 in
theorem in_wsL_law0_r3 : GoodIn lw_tbl wsL_law0_r3 := goodIn_p wsL_law0_r3 [99, 110, 203, 207, 280] (by decide +kernel) (by decide +kernel)
set_option maxRecDepth 20000 in
theorem in_wsL_law0_r4 : GoodIn lw_tbl wsL_law0_r4 := goodIn_p wsL_law0_r4 [309, 313, 317, 321] (by decide +kernel) (by decide +kernel)
set_option maxRecDepth 20000 in
theorem in_wsL_law0_r5 : GoodIn lw_tbl wsL_law0_r5 := goodIn_p wsL_law0_r5 [327, 324, 331, 334, 355] (by decide +kernel) (by decide +kernel)
set_option maxRecDepth 20000 in
theorem in_wsL_law0_r6 : GoodIn lw_tbl wsL_law0_r6 := goodIn_p wsL_law0_r6 [361, 864, 860, 570] (by decide +kernel) (by decide +kernel)
set_option maxRecDepth 20000 in
theorem in_wsL_law0_r7 : GoodIn lw_tbl wsL_law0_r7 := goodIn_p wsL_law0_r7 [407, 577, 427] (by decide +kernel) (by decide +kernel)
set_option maxRecDepth 20000 in
theorem in_wsL_law0_r8 : GoodIn lw_tbl wsL_law0_r8 := goodIn_p wsL_law0_r8 [374, 394, 397, 400, 404] (by decide +kernel) (by decide +kernel)
set_option maxRecDepth 20000 in
theorem in_wsL_law0_r9 : GoodIn lw_tbl wsL_law0_r9 := goodIn_p wsL_law0_r9 [430, 437, 644, 633] (by decide +kernel) (by decide +kernel)
set_option maxRecDepth 20000 in
theorem in_wsL_law0_r10 : GoodIn lw_tbl wsL_law0_r10 := goodIn_p wsL_law0_r10 [651, 751, 756] (by decide +kernel) (by decide +kernel)
set_option maxRecDepth 20000 in
theorem in_wsL_law0_r11 : GoodIn lw_tbl wsL_law0_r11 := goodIn_p wsL_law0_r11 [760, 764, 561, 719, 555] (by decide +kernel) (by decide +kernel)
set_option maxRecDepth 20000 in
theorem in_wsL_law0_r12 : GoodIn lw_tbl wsL_law0_r12 := goodIn_p wsL_law0_r12 [724, 370, 710] (by decide +kernel) (by decide +kernel)
set_option maxRecDepth 20000 in
theorem in_wsL_law0_r13 : GoodIn lw_tbl wsL_law0_r13 := goodIn_p wsL_law0_r13 [477, 715, 473, 482] (by decide +kernel) (by decide +kernel)
set_option maxRecDepth 20000 in
theorem in_wsL_law0_r14 : GoodIn lw_tbl wsL_law0_r14 := goodIn_p wsL_law0_r14 [488, 492, 728, 733] (by decide +kernel) (by decide +kernel)
set_option maxRecDepth 20000 in
theorem in_wsL_law0_r15 : GoodIn lw_tbl wsL_law0_r15 := goodIn_p wsL_law0_r15 [737, 551, 566, 868] (by decide +kernel) (by decide +kernel)
set_option maxRecDepth 20000 in
theorem in_wsL_law0_r16 : GoodIn lw_tbl wsL_law0_r16 := goodIn_p wsL_law0_r16 [874, 879, 769, 773, 777] (by decide +kernel) (by decide +kernel)
set_option maxRecDepth 20000 in
theorem in_wsL_law0_r17 : GoodIn lw_tbl wsL_law0_r17 := goodIn_p wsL_law0_r17 [] (by decide +kernel) (by decide +kernel)
set_option maxRecDepth 20000 in
theorem in_wsL_law0_r18 : GoodIn lw_tbl wsL_law0_r18 := goodIn_p wsL_law0_r18 [787, 791, 795, 799] (by decide +kernel) (by decide +kernel)
set_option maxRecDepth 20000 in
theorem in_wsL_law0_r19 : GoodIn lw_tbl wsL_law0_r19 := goodIn_p wsL_law0_r19 [803, 807, 812, 816, 883] (by decide +kernel) (by decide +kernel)
set_option maxRecDepth 20000 in
theorem in_wsL_law0_r20 : GoodIn lw_tbl wsL_law0_r20 := goodIn_p wsL_law0_r20 [888, 892, 897, 901] (by decide +kernel) (by decide +kernel)
set_option maxRecDepth 20000 in
theorem in_wsL_law0_r21 : GoodIn lw_tbl wsL_law0_r21 := goodIn_p wsL_law0_r21 [935] (by decide +kernel) (by decide +kernel)
set_option maxRecDepth 20000 in
theorem in_wsL_law0_r22 : GoodIn lw_tbl wsL_law0_r22 := goodIn_p wsL_law0_r22 [938, 942, 964, 970, 973] (by decide +kernel) (by decide +kernel)
set_option maxRecDepth 20000 in
theorem in_wsL_law0_r23 : GoodIn lw_tbl wsL_law0_r23 := goodIn_p wsL_law0_r23 [977, 853, 982, 849, 741, 746] (by decide +kernel) (by decide +kernel)
set_option maxRecDepth 20000 in
theorem in_wsL_law0_r24 : GoodIn lw_tbl wsL_law0_r24 := goodIn_p wsL_law0_r24 [986, 990, 639, 629] (by decide +kernel) (by decide +kernel)
set_option maxRecDepth 20000 in
theorem in_wsL_law0_r25 : GoodIn lw_tbl wsL_law0_r25 := goodIn_p wsL_law0_r25 [690, 694, 699, 705, 995, 999] (by decide +kernel) (by decide +kernel)
set_option maxRecDepth 20000 in
theorem in_wsL_law0_r26 : GoodIn lw_tbl wsL_law0_r26 := goodIn_p wsL_law0_r26 [1004, 1008, 1012, 1016, 1020, 836, 1025] (by decide +kernel) (by decide +kernel)
set_option maxRecDepth 20000 in
theorem in_wsL_law0_r27 : GoodIn lw_tbl wsL_law0_r27 := goodIn_p wsL_law0_r27 [1029, 1032, 1036, 1040, 1044] (by decide +kernel) (by decide +kernel)
set_option maxRecDepth 20000 in
theorem in_wsL_law0_r28 : GoodIn lw_tbl wsL_law0_r28 := goodIn_p wsL_law0_r28 [1048, 833, 1051, 820, 824] (by decide +kernel) (by decide +kernel)
set_option maxRecDepth 20000 in
theorem in_wsL_law0_r29 : GoodIn lw_tbl wsL_law0_r29 := goodIn_p wsL_law0_r29 [829, 840, 844, 857] (by decide +kernel) (by decide +kernel)
set_option maxRecDepth 20000 in
theorem in_wsX90 : GoodIn lw_tbl wsX90 := goodIn_of _ (by decide +kernel)
set_option maxRecDepth 20000 in
theorem in_wsJx4a65c0 : GoodIn lw_tbl wsJx4a65c0 := goodIn_of _ (by decide +kernel)
set_option maxRecDepth 20000 in
theorem in_wsX10 : GoodIn lw_tbl wsX10 := goodIn_of _ (by decide +kernel)
set_option maxRecDepth 20000 in
theorem in_wsX20 : GoodIn lw_tbl wsX20 := goodIn_of _ (by decide +kernel)
set_option maxRecDepth 20000 in
theorem in_wsX40 : GoodIn lw_tbl wsX40 := goodIn_of _ (by decide +kernel)
set_option maxRecDepth 20000 in
theorem in_wsX00 : GoodIn lw_tbl wsX00 := goodIn_of _ (by decide +kernel)
set_option maxRecDepth 20000 in
theorem in_wsX30 : GoodIn lw_tbl wsX30 := goodIn_of _ (by decide +kernel)
set_option maxRecDepth 20000 in
theorem in_wsX60 : GoodIn lw_tbl wsX60 := goodIn_of _ (by decide +kernel)
set_option maxRecDepth 20000 in
theorem in_wsX80 : GoodIn lw_tbl wsX80 := goodIn_of _ (by decide +kernel)
set_option maxRecDepth 20000 in
theorem in_wsX50 : GoodIn lw_tbl wsX50 := goodIn_of _ (by decide +kernel)
set_option maxRecDepth 20000 in
theorem in_wsX70 : GoodIn lw_tbl wsX70 := goodIn_of _ (by decide +kernel)
theorem in_wsL_law0 : GoodIn lw_tbl wsL_law0 := goodIn_app (goodIn_app (goodIn_app (goodIn_app (goodIn_app (goodIn_app (goodIn_app (goodIn_app (goodIn_app (goodIn_app (goodIn_app (goodIn_app (goodIn_app in_wsL_law0_r1 (goodIn_app in_wsL_law0_r2 (goodIn_app in_wsL_law0_r3 (goodIn_app in_wsL_law0_r4 (goodIn_app in_wsL_law0_r5 (goodIn_app in_wsL_law0_r6 (goodIn_app in_wsL_law0_r7 (goodIn_app in_wsL_law0_r8 (goodIn_app in_wsL_law0_r9 (goodIn_app in_wsL_law0_r10 (goodIn_app in_wsL_law0_r11 (goodIn_app in_wsL_law0_r12 (goodIn_app in_wsL_law0_r13 (goodIn_app in_wsL_law0_r14 (goodIn_app in_wsL_law0_r15 (goodIn_app in_wsL_law0_r16 (goodIn_app in_wsL_law0_r17 (goodIn_app in_wsL_law0_r18 (goodIn_app in_wsL_law0_r19 (goodIn_app in_wsL_law0_r20 (goodIn_app in_wsL_law0_r21 (goodIn_app in_wsL_law0_r22 (goodIn_app in_wsL_law0_r23 (goodIn_app in_wsL_law0_r24 (goodIn_app in_wsL_law0_r25 (goodIn_app in_wsL_law0_r26 (goodIn_app in_wsL_law0_r27 (goodIn_app in_wsL_law0_r28 (in_wsL_law0_r29))))))))))))))))))))))))))))) in_wsX90) in_wsJx4a65c0) in_wsX10) in_wsX20) in_wsX40) in_wsX00) in_wsX30) in_wsX60) in_wsX80) in_wsX50) in_wsX70) (fun _ h => absurd h List.not_mem_nil)
set_option maxRecDepth 20000 in
theorem in_wsL_x0 : GoodIn lw_tbl ((vx_atS RX9 71 "java/lang/IllegalStateException" ["java/lang/RuntimeException", "java/lang/Exception"]).filter goodWord) := goodIn_of _ (by decide +kernel)
set_option maxRecDepth 20000 in
theorem in_wsL_x1 : GoodIn lw_tbl ((vx_atS RX9 93 "java/lang/IllegalArgumentException" ["java/lang/RuntimeException", "java/lang/Exception"]).filter goodWord) := goodIn_of _ (by decide +kernel)
set_option maxRecDepth 20000 in
theorem in_wsL_x2 : GoodIn lw_tbl ((vx_atS RX9 332 "java/lang/IndexOutOfBoundsException" ["java/lang/RuntimeException", "java/lang/Exception"]).filter goodWord) := goodIn_of _ (by decide +kernel)
theorem in_wsL_law : GoodIn lw_tbl wsL_law := goodIn_app (goodIn_app (goodIn_app (in_wsL_law0) in_wsL_x0) in_wsL_x1) in_wsL_x2
theorem goodIn_tr {a b c : List Cond} (h : GoodIn a b) (g : GoodIn b c) : GoodIn a c := fun w hw => ⟨(h w (g w hw).1).1, (g w hw).2⟩
