set_option maxRecDepth 20000 in
theorem gJ7_copyOf_1904c_J7_copyOf_6403c : GoodIn wsJ7_copyOf_1904c (va_wsS RJ7 300 yJ7_copyOf_6403c wsJ7_copyOf_6403c) := goodIn_app (goodIn_of _ (by decide +kernel)) ggJ7_copyOf_1904c_J7_copyOf_6403c
theorem dJ7_copyOf_1904c_0 : decode cJ7_copyOf_1904c 0 = .ok (.aload_n 0, 1) := by decide +kernel
theorem dJ7_copyOf_1904c_1 : decode cJ7_copyOf_1904c 1 = .ok (.iload_n 1, 1) := by decide +kernel
theorem dJ7_copyOf_1904c_2 : decode cJ7_copyOf_1904c 2 = .ok (.aload_n 0, 1) := by decide +kernel
theorem dJ7_copyOf_1904c_3 : decode cJ7_copyOf_1904c 3 = .ok (.invokevirtual 86, 3) := by decide +kernel
theorem dJ7_copyOf_1904c_6 : decode cJ7_copyOf_1904c 6 = .ok (.invokestatic 300, 3) := by decide +kernel
theorem dJ7_copyOf_1904c_9 : decode cJ7_copyOf_1904c 9 = .ok (.areturn, 1) := by decide +kernel
theorem dJ7_copyOf_6403c_0 : decode cJ7_copyOf_6403c 0 = .ok (.aload_n 2, 1) := by decide +kernel
theorem dJ7_copyOf_6403c_1 : decode cJ7_copyOf_6403c 1 = .ok (.ldc 110, 2) := by decide +kernel
theorem dJ7_copyOf_6403c_3 : decode cJ7_copyOf_6403c 3 = .ok (.if_acmp .ne 10, 3) := by decide +kernel
theorem dJ7_copyOf_6403c_6 : decode cJ7_copyOf_6403c 6 = .ok (.iload_n 1, 1) := by decide +kernel
theorem dJ7_copyOf_6403c_7 : decode cJ7_copyOf_6403c 7 = .ok (.anewarray 2, 3) := by decide +kernel
theorem dJ7_copyOf_6403c_10 : decode cJ7_copyOf_6403c 10 = .ok (.goto 14, 3) := by decide +kernel
theorem dJ7_copyOf_6403c_13 : decode cJ7_copyOf_6403c 13 = .ok (.aload_n 2, 1) := by decide +kernel
theorem dJ7_copyOf_6403c_14 : decode cJ7_copyOf_6403c 14 = .ok (.invokevirtual 90, 3) := by decide +kernel
theorem dJ7_copyOf_6403c_17 : decode cJ7_copyOf_6403c 17 = .ok (.iload_n 1, 1) := by decide +kernel
theorem dJ7_copyOf_6403c_18 : decode cJ7_copyOf_6403c 18 = .ok (.invokestatic 95, 3) := by decide +kernel
theorem dJ7_copyOf_6403c_21 : decode cJ7_copyOf_6403c 21 = .ok (.checkcast 110, 3) := by decide +kernel
theorem dJ7_copyOf_6403c_24 : decode cJ7_copyOf_6403c 24 = .ok (.astore_n 3, 1) := by decide +kernel
theorem dJ7_copyOf_6403c_25 : decode cJ7_copyOf_6403c 25 = .ok (.aload_n 0, 1) := by decide +kernel
theorem dJ7_copyOf_6403c_26 : decode cJ7_copyOf_6403c 26 = .ok (.iconst 0, 1) := by decide +kernel
theorem dJ7_copyOf_6403c_27 : decode cJ7_copyOf_6403c 27 = .ok (.aload_n 3, 1) := by decide +kernel
theorem dJ7_copyOf_6403c_28 : decode cJ7_copyOf_6403c 28 = .ok (.iconst 0, 1) := by decide +kernel
theorem dJ7_copyOf_6403c_29 : decode cJ7_copyOf_6403c 29 = .ok (.aload_n 0, 1) := by decide +kernel
theorem dJ7_copyOf_6403c_30 : decode cJ7_copyOf_6403c 30 = .ok (.arraylength, 1) := by decide +kernel
theorem dJ7_copyOf_6403c_31 : decode cJ7_copyOf_6403c 31 = .ok (.iload_n 1, 1) := by decide +kernel
theorem dJ7_copyOf_6403c_32 : decode cJ7_copyOf_6403c 32 = .ok (.invokestatic 304, 3) := by decide +kernel
theorem dJ7_copyOf_6403c_35 : decode cJ7_copyOf_6403c 35 = .ok (.invokestatic 150, 3) := by decide +kernel
theorem dJ7_copyOf_6403c_38 : decode cJ7_copyOf_6403c 38 = .ok (.aload_n 3, 1) := by decide +kernel
theorem dJ7_copyOf_6403c_39 : decode cJ7_copyOf_6403c 39 = .ok (.areturn, 1) := by decide +kernel
set_option maxRecDepth 20000 in
theorem ggJ15_checkIndex_7cf53_J3_checkIndex_8e157 : GoodIn wsJ15_checkIndex_7cf53 wsJ3_checkIndex_8e157 := goodIn_r _ [4] (by decide +kernel) (by decide +kernel)
set_option maxRecDepth 20000 in
theorem gJ15_checkIndex_7cf53_J3_checkIndex_8e157 : GoodIn wsJ15_checkIndex_7cf53 (va_wsS RJ15 105 yJ3_checkIndex_8e157 wsJ3_checkIndex_8e157) := goodIn_app (goodIn_of _ (by decide +kernel)) ggJ15_checkIndex_7cf53_J3_checkIndex_8e157
theorem dJ15_checkIndex_7cf53_0 : decode cJ15_checkIndex_7cf53 0 = .ok (.iload_n 0, 1) := by decide +kernel
theorem dJ15_checkIndex_7cf53_1 : decode cJ15_checkIndex_7cf53 1 = .ok (.iload_n 1, 1) := by decide +kernel
theorem dJ15_checkIndex_7cf53_2 : decode cJ15_checkIndex_7cf53 2 = .ok (.aconst_null, 1) := by decide +kernel
theorem dJ15_checkIndex_7cf53_3 : decode cJ15_checkIndex_7cf53 3 = .ok (.invokestatic 105, 3) := by decide +kernel
theorem dJ15_checkIndex_7cf53_6 : decode cJ15_checkIndex_7cf53 6 = .ok (.ireturn, 1) := by decide +kernel
set_option maxRecDepth 20000 in
theorem ggJ8_newLength_cabcc_J8_hugeLength_7cf53 : GoodIn wsJ8_newLength_cabcc wsJ8_hugeLength_7cf53 := goodIn_r _ [9, 5] (by decide +kernel) (by decide +kernel)
set_option maxRecDepth 20000 in
theorem gJ8_newLength_cabcc_J8_hugeLength_7cf53 : GoodIn wsJ8_newLength_cabcc (va_wsS RJ8 201 yJ8_hugeLength_7cf53 wsJ8_hugeLength_7cf53) := goodIn_app (goodIn_of _ (by decide +kernel)) ggJ8_newLength_cabcc_J8_hugeLength_7cf53
theorem dJ8_newLength_cabcc_0 : decode cJ8_newLength_cabcc 0 = .ok (.iload_n 0, 1) := by decide +kernel
theorem dJ8_newLength_cabcc_1 : decode cJ8_newLength_cabcc 1 = .ok (.iload_n 1, 1) := by decide +kernel
theorem dJ8_newLength_cabcc_2 : decode cJ8_newLength_cabcc 2 = .ok (.iload_n 2, 1) := by decide +kernel
theorem dJ8_newLength_cabcc_3 : decode cJ8_newLength_cabcc 3 = .ok (.invokestatic 194, 3) := by decide +kernel
theorem dJ8_newLength_cabcc_6 : decode cJ8_newLength_cabcc 6 = .ok (.iadd, 1) := by decide +kernel
theorem dJ8_newLength_cabcc_7 : decode cJ8_newLength_cabcc 7 = .ok (.istore_n 3, 1) := by decide +kernel
theorem dJ8_newLength_cabcc_8 : decode cJ8_newLength_cabcc 8 = .ok (.iconst 0, 1) := by decide +kernel
theorem dJ8_newLength_cabcc_9 : decode cJ8_newLength_cabcc 9 = .ok (.iload_n 3, 1) := by decide +kernel
theorem dJ8_newLength_cabcc_10 : decode cJ8_newLength_cabcc 10 = .ok (.if_icmp .ge 11, 3) := by decide +kernel
theorem dJ8_newLength_cabcc_13 : decode cJ8_newLength_cabcc 13 = .ok (.iload_n 3, 1) := by decide +kernel
theorem dJ8_newLength_cabcc_14 : decode cJ8_newLength_cabcc 14 = .ok (.ldc 200, 2) := by decide +kernel
theorem dJ8_newLength_cabcc_16 : decode cJ8_newLength_cabcc 16 = .ok (.if_icmp .gt 5, 3) := by decide +kernel
theorem dJ8_newLength_cabcc_19 : decode cJ8_newLength_cabcc 19 = .ok (.iload_n 3, 1) := by decide +kernel
theorem dJ8_newLength_cabcc_20 : decode cJ8_newLength_cabcc 20 = .ok (.ireturn, 1) := by decide +kernel
theorem dJ8_newLength_cabcc_21 : decode cJ8_newLength_cabcc 21 = .ok (.iload_n 0, 1) := by decide +kernel
theorem dJ8_newLength_cabcc_22 : decode cJ8_newLength_cabcc 22 = .ok (.iload_n 1, 1) := by decide +kernel
theorem dJ8_newLength_cabcc_23 : decode cJ8_newLength_cabcc 23 = .ok (.invokestatic 201, 3) := by decide +kernel
theorem dJ8_newLength_cabcc_26 : decode cJ8_newLength_cabcc 26 = .ok (.ireturn, 1) := by decide +kernel
theorem dJ8_hugeLength_7cf53_0 : decode cJ8_hugeLength_7cf53 0 = .ok (.iload_n 0, 1) := by decide +kernel
theorem dJ8_hugeLength_7cf53_1 : decode cJ8_hugeLength_7cf53 1 = .ok (.iload_n 1, 1) := by decide +kernel
theorem dJ8_hugeLength_7cf53_2 : decode cJ8_hugeLength_7cf53 2 = .ok (.iadd, 1) := by decide +kernel
theorem dJ8_hugeLength_7cf53_3 : decode cJ8_hugeLength_7cf53 3 = .ok (.istore_n 2, 1) := by decide +kernel
theorem dJ8_hugeLength_7cf53_4 : decode cJ8_hugeLength_7cf53 4 = .ok (.iload_n 2, 1) := by decide +kernel
theorem dJ8_hugeLength_7cf53_5 : decode cJ8_hugeLength_7cf53 5 = .ok (.ifCond .ge 44, 3) := by decide +kernel
theorem dJ8_hugeLength_7cf53_8 : decode cJ8_hugeLength_7cf53 8 = .ok (.new 204, 3) := by decide +kernel
theorem dJ8_hugeLength_7cf53_11 : decode cJ8_hugeLength_7cf53 11 = .ok (.dup, 1) := by decide +kernel
theorem dJ8_hugeLength_7cf53_12 : decode cJ8_hugeLength_7cf53 12 = .ok (.new 89, 3) := by decide +kernel
theorem dJ8_hugeLength_7cf53_15 : decode cJ8_hugeLength_7cf53 15 = .ok (.dup, 1) := by decide +kernel
theorem dJ8_hugeLength_7cf53_16 : decode cJ8_hugeLength_7cf53 16 = .ok (.invokespecial 91, 3) := by decide +kernel
theorem dJ8_hugeLength_7cf53_19 : decode cJ8_hugeLength_7cf53 19 = .ok (.ldc 206, 2) := by decide +kernel
theorem dJ8_hugeLength_7cf53_21 : decode cJ8_hugeLength_7cf53 21 = .ok (.invokevirtual 94, 3) := by decide +kernel
theorem dJ8_hugeLength_7cf53_24 : decode cJ8_hugeLength_7cf53 24 = .ok (.iload_n 0, 1) := by decide +kernel
theorem dJ8_hugeLength_7cf53_25 : decode cJ8_hugeLength_7cf53 25 = .ok (.invokevirtual 98, 3) := by decide +kernel
theorem dJ8_hugeLength_7cf53_28 : decode cJ8_hugeLength_7cf53 28 = .ok (.ldc 208, 2) := by decide +kernel
theorem dJ8_hugeLength_7cf53_30 : decode cJ8_hugeLength_7cf53 30 = .ok (.invokevirtual 94, 3) := by decide +kernel
theorem dJ8_hugeLength_7cf53_33 : decode cJ8_hugeLength_7cf53 33 = .ok (.iload_n 1, 1) := by decide +kernel
theorem dJ8_hugeLength_7cf53_34 : decode cJ8_hugeLength_7cf53 34 = .ok (.invokevirtual 98, 3) := by decide +kernel
theorem dJ8_hugeLength_7cf53_37 : decode cJ8_hugeLength_7cf53 37 = .ok (.ldc 210, 2) := by decide +kernel
theorem dJ8_hugeLength_7cf53_39 : decode cJ8_hugeLength_7cf53 39 = .ok (.invokevirtual 94, 3) := by decide +kernel
theorem dJ8_hugeLength_7cf53_42 : decode cJ8_hugeLength_7cf53 42 = .ok (.invokevirtual 101, 3) := by decide +kernel
theorem dJ8_hugeLength_7cf53_45 : decode cJ8_hugeLength_7cf53 45 = .ok (.invokespecial 212, 3) := by decide +kernel
theorem dJ8_hugeLength_7cf53_48 : decode cJ8_hugeLength_7cf53 48 = .ok (.athrow, 1) := by decide +kernel
theorem dJ8_hugeLength_7cf53_49 : decode cJ8_hugeLength_7cf53 49 = .ok (.iload_n 2, 1) := by decide +kernel
theorem dJ8_hugeLength_7cf53_50 : decode cJ8_hugeLength_7cf53 50 = .ok (.ldc 200, 2) := by decide +kernel
theorem dJ8_hugeLength_7cf53_52 : decode cJ8_hugeLength_7cf53 52 = .ok (.if_icmp .gt 6, 3) := by decide +kernel
theorem dJ8_hugeLength_7cf53_55 : decode cJ8_hugeLength_7cf53 55 = .ok (.ldc 200, 2) := by decide +kernel
theorem dJ8_hugeLength_7cf53_57 : decode cJ8_hugeLength_7cf53 57 = .ok (.ireturn, 1) := by decide +kernel
theorem dJ8_hugeLength_7cf53_58 : decode cJ8_hugeLength_7cf53 58 = .ok (.iload_n 2, 1) := by decide +kernel
theorem dJ8_hugeLength_7cf53_59 : decode cJ8_hugeLength_7cf53 59 = .ok (.ireturn, 1) := by decide +kernel
theorem dJ3_checkIndex_8e157_0 : decode cJ3_checkIndex_8e157 0 = .ok (.iload_n 0, 1) := by decide +kernel
theorem dJ3_checkIndex_8e157_1 : decode cJ3_checkIndex_8e157 1 = .ok (.ifCond .lt 8, 3) := by decide +kernel
theorem dJ3_checkIndex_8e157_4 : decode cJ3_checkIndex_8e157 4 = .ok (.iload_n 0, 1) := by decide +kernel
theorem dJ3_checkIndex_8e157_5 : decode cJ3_checkIndex_8e157 5 = .ok (.iload_n 1, 1) := by decide +kernel
theorem dJ3_checkIndex_8e157_6 : decode cJ3_checkIndex_8e157 6 = .ok (.if_icmp .lt 10, 3) := by decide +kernel
theorem dJ3_checkIndex_8e157_9 : decode cJ3_checkIndex_8e157 9 = .ok (.aload_n 2, 1) := by decide +kernel
theorem dJ3_checkIndex_8e157_10 : decode cJ3_checkIndex_8e157 10 = .ok (.iload_n 0, 1) := by decide +kernel
theorem dJ3_checkIndex_8e157_11 : decode cJ3_checkIndex_8e157 11 = .ok (.iload_n 1, 1) := by decide +kernel
theorem dJ3_checkIndex_8e157_12 : decode cJ3_checkIndex_8e157 12 = .ok (.invokestatic 95, 3) := by decide +kernel
theorem dJ3_checkIndex_8e157_15 : decode cJ3_checkIndex_8e157 15 = .ok (.athrow, 1) := by decide +kernel
theorem dJ3_checkIndex_8e157_16 : decode cJ3_checkIndex_8e157 16 = .ok (.iload_n 0, 1) := by decide +kernel
theorem dJ3_checkIndex_8e157_17 : decode cJ3_checkIndex_8e157 17 = .ok (.ireturn, 1) := by decide +kernel
set_option maxRecDepth 20000 in
theorem ggL_tree_X8_tree : GoodIn wsL_tree wsX8_tree := goodIn_ca (goodIn_ca (goodIn_r _ [7, 8, 9, 10, 11, 12, 13, 14, 15, 16, 17, 18, 19, 20, 21, 22, 23, 24, 25, 26, 27, 28, 29, 30, 31, 32, 33, 34, 35, 36, 37, 38, 39, 40, 41, 42, 43, 44, 45, 46, 47, 48, 49, 50, 51, 52, 53, 54, 55, 56, 57, 58, 59, 60, 61, 62, 63, 64, 65, 66, 67, 68, 69, 70, 71, 72, 73, 74, 75, 76, 77, 78, 79, 80, 81, 82, 83, 84, 85, 86, 87, 88, 89, 90, 91, 92, 93, 94, 95, 96, 97, 98, 99, 100, 101, 102, 103, 104, 105, 106, 107, 108, 109, 110, 111, 112, 113, 114] (by decide +kernel) (by decide +kernel)) (goodIn_sub (fun _ h => List.mem_cons_of_mem _ (List.mem_append_left _ (List.mem_append_right _ h))) (by decide +kernel))) (goodIn_sub (fun _ h => List.mem_cons_of_mem _ (List.mem_append_right _ h)) (by decide +kernel))
set_option maxRecDepth 20000 in
theorem gL_tree_X8_tree : GoodIn wsL_tree (wsV RL 7 RX8 yX8_tree wsX8_tree) := goodIn_app (goodIn_of _ (by decide +kernel)) ggL_tree_X8_tree
theorem dL_tree_0 : decode cL_tree 0 = .ok (.aload_n 2, 1) := by decide +kernel
theorem dL_tree_1 : decode cL_tree 1 = .ok (.iconst 0, 1) := by decide +kernel
theorem dL_tree_2 : decode cL_tree 2 = .ok (.aload_n 0, 1) := by decide +kernel
theorem dL_tree_3 : decode cL_tree 3 = .ok (.iload_n 1, 1) := by decide +kernel
theorem dL_tree_4 : decode cL_tree 4 = .ok (.invokevirtual 7, 3) := by decide +kernel
theorem dL_tree_7 : decode cL_tree 7 = .ok (.i2l, 1) := by decide +kernel
theorem dL_tree_8 : decode cL_tree 8 = .ok (.lastore, 1) := by decide +kernel
theorem dL_tree_9 : decode cL_tree 9 = .ok (.goto 9, 3) := by decide +kernel
theorem dL_tree_12 : decode cL_tree 12 = .ok (.astore_n 3, 1) := by decide +kernel
theorem dL_tree_13 : decode cL_tree 13 = .ok (.iconst 1, 1) := by decide +kernel
theorem dL_tree_14 : decode cL_tree 14 = .ok (.ireturn, 1) := by decide +kernel
theorem dL_tree_15 : decode cL_tree 15 = .ok (.astore_n 3, 1) := by decide +kernel
theorem dL_tree_16 : decode cL_tree 16 = .ok (.iconst 2, 1) := by decide +kernel
theorem dL_tree_17 : decode cL_tree 17 = .ok (.ireturn, 1) := by decide +kernel
theorem dL_tree_18 : decode cL_tree 18 = .ok (.iconst 0, 1) := by decide +kernel
theorem dL_tree_19 : decode cL_tree 19 = .ok (.ireturn, 1) := by decide +kernel
set_option maxRecDepth 20000 in
theorem ggL_years_X8_years : GoodIn wsL_years wsX8_years := goodIn_ca (goodIn_r _ [6, 7, 8, 9, 10, 11, 12, 5, 13, 14, 15, 16, 17, 18, 19, 20, 21, 22, 23, 24, 25, 26, 27, 28, 29, 30, 31, 32, 33, 34, 35, 36, 37, 38, 39, 40, 41, 42, 43, 44, 45, 46, 47, 48, 49, 50, 51, 52, 53, 54, 55, 56, 57, 58, 59, 60, 61, 62, 63, 64, 65, 66, 67, 68, 69, 70, 71, 72, 73, 74, 75, 76, 77, 78, 79, 80, 81, 82] (by decide +kernel) (by decide +kernel)) (goodIn_sub (fun _ h => List.mem_cons_of_mem _ (List.mem_append_right _ h)) (by decide +kernel))
set_option maxRecDepth 20000 in
theorem gL_years_X8_years : GoodIn wsL_years (wsV RL 17 RX8 yX8_years wsX8_years) := goodIn_app (goodIn_of _ (by decide +kernel)) ggL_years_X8_years
theorem dL_years_0 : decode cL_years 0 = .ok (.aload_n 3, 1) := by decide +kernel
theorem dL_years_1 : decode cL_years 1 = .ok (.iconst 0, 1) := by decide +kernel
theorem dL_years_2 : decode cL_years 2 = .ok (.aload_n 0, 1) := by decide +kernel
theorem dL_years_3 : decode cL_years 3 = .ok (.iload_n 1, 1) := by decide +kernel
theorem dL_years_4 : decode cL_years 4 = .ok (.iload_n 2, 1) := by decide +kernel
theorem dL_years_5 : decode cL_years 5 = .ok (.invokevirtual 17, 3) := by decide +kernel
theorem dL_years_8 : decode cL_years 8 = .ok (.i2l, 1) := by decide +kernel
theorem dL_years_9 : decode cL_years 9 = .ok (.lastore, 1) := by decide +kernel
theorem dL_years_10 : decode cL_years 10 = .ok (.goto 7, 3) := by decide +kernel
theorem dL_years_13 : decode cL_years 13 = .ok (.astore 4, 2) := by decide +kernel
theorem dL_years_15 : decode cL_years 15 = .ok (.iconst 1, 1) := by decide +kernel
theorem dL_years_16 : decode cL_years 16 = .ok (.ireturn, 1) := by decide +kernel
theorem dL_years_17 : decode cL_years 17 = .ok (.iconst 0, 1) := by decide +kernel
theorem dL_years_18 : decode cL_years 18 = .ok (.ireturn, 1) := by decide +kernel
set_option maxRecDepth 20000 in
theorem ggL_law_X8_law : GoodIn wsL_law wsX8_law := goodIn_ca (goodIn_r _ [6, 7, 8, 9, 10, 11, 12, 13, 14, 15, 16, 17, 18, 19, 20, 21, 22, 23, 24, 25, 26, 27, 28, 29, 30, 31, 32, 33, 34, 35, 36, 37, 38, 39, 40, 41, 42, 43, 44, 45, 46, 47, 48, 49, 50, 51, 52, 53, 54, 55, 56, 57, 58, 59, 60, 61, 62, 63, 64, 65, 66, 67, 68, 69, 70, 71, 72, 73, 74, 75, 76, 77, 78, 79, 80, 81, 82, 83, 84, 85, 86, 87, 88, 89, 90, 91, 92, 93, 94, 95, 96, 97, 98, 99, 100, 101, 102, 103, 104, 105, 106, 107, 108, 109, 110, 111, 112, 113, 114, 115, 116, 117, 118, 119, 120, 121, 122, 123, 124, 125, 126, 127, 128, 129, 130, 131, 132, 133, 134, 135, 136, 137, 138, 139, 140, 141, 142] (by decide +kernel) (by decide +kernel)) (goodIn_sub (fun _ h => List.mem_cons_of_mem _ (List.mem_append_right _ h)) (by decide +kernel))
set_option maxRecDepth 20000 in
theorem gL_law_X8_law : GoodIn wsL_law (wsV RL 21 RX8 yX8_law wsX8_law) := goodIn_app (goodIn_of _ (by decide +kernel)) ggL_law_X8_law
theorem dL_law_0 : decode cL_law 0 = .ok (.aload_n 1, 1) := by decide +kernel
theorem dL_law_1 : decode cL_law 1 = .ok (.iconst 0, 1) := by decide +kernel
theorem dL_law_2 : decode cL_law 2 = .ok (.aload_n 0, 1) := by decide +kernel
theorem dL_law_3 : decode cL_law 3 = .ok (.invokevirtual 21, 3) := by decide +kernel
theorem dL_law_6 : decode cL_law 6 = .ok (.i2l, 1) := by decide +kernel
theorem dL_law_7 : decode cL_law 7 = .ok (.lastore, 1) := by decide +kernel
theorem dL_law_8 : decode cL_law 8 = .ok (.goto 6, 3) := by decide +kernel
theorem dL_law_11 : decode cL_law 11 = .ok (.astore_n 2, 1) := by decide +kernel
theorem dL_law_12 : decode cL_law 12 = .ok (.iconst 1, 1) := by decide +kernel
theorem dL_law_13 : decode cL_law 13 = .ok (.ireturn, 1) := by decide +kernel
theorem dL_law_14 : decode cL_law 14 = .ok (.iconst 0, 1) := by decide +kernel
theorem dL_law_15 : decode cL_law 15 = .ok (.ireturn, 1) := by decide +kernel
set_option maxRecDepth 20000 in
theorem ggL_says_X8_says : GoodIn wsL_says wsX8_says := goodIn_ca (goodIn_r _ [6, 7, 8, 9, 10, 11, 12, 13, 14, 15, 16, 17, 18, 19, 20, 21, 22, 23, 24, 25, 26] (by decide +kernel) (by decide +kernel)) (goodIn_sub (fun _ h => List.mem_cons_of_mem _ (List.mem_append_right _ h)) (by decide +kernel))
set_option maxRecDepth 20000 in
theorem gL_says_X8_says : GoodIn wsL_says (wsV RL 25 RX8 yX8_says wsX8_says) := goodIn_app (goodIn_of _ (by decide +kernel)) ggL_says_X8_says
theorem dL_says_0 : decode cL_says 0 = .ok (.aload_n 2, 1) := by decide +kernel
theorem dL_says_1 : decode cL_says 1 = .ok (.iconst 0, 1) := by decide +kernel
theorem dL_says_2 : decode cL_says 2 = .ok (.aload_n 0, 1) := by decide +kernel
theorem dL_says_3 : decode cL_says 3 = .ok (.iload_n 1, 1) := by decide +kernel
theorem dL_says_4 : decode cL_says 4 = .ok (.invokevirtual 25, 3) := by decide +kernel
theorem dL_says_7 : decode cL_says 7 = .ok (.i2l, 1) := by decide +kernel
theorem dL_says_8 : decode cL_says 8 = .ok (.lastore, 1) := by decide +kernel
theorem dL_says_9 : decode cL_says 9 = .ok (.goto 6, 3) := by decide +kernel
theorem dL_says_12 : decode cL_says 12 = .ok (.astore_n 3, 1) := by decide +kernel
theorem dL_says_13 : decode cL_says 13 = .ok (.iconst 1, 1) := by decide +kernel
theorem dL_says_14 : decode cL_says 14 = .ok (.ireturn, 1) := by decide +kernel
theorem dL_says_15 : decode cL_says 15 = .ok (.iconst 0, 1) := by decide +kernel
theorem dL_says_16 : decode cL_says 16 = .ok (.ireturn, 1) := by decide +kernel
set_option maxRecDepth 20000 in
theorem ggL_mark_X8_mark : GoodIn wsL_mark wsX8_mark := goodIn_ca (goodIn_r _ [6, 7, 8, 9, 5, 10, 11, 12, 13, 14, 15, 16, 17, 18, 19, 20, 21, 22, 23, 24, 25, 26, 27, 28, 29, 30, 31, 32, 33, 34, 35, 36, 37, 38, 39, 40, 41, 42, 43, 44, 45, 46, 47, 48, 49, 50, 51, 52, 53, 54, 55, 56, 57, 58, 59, 60] (by decide +kernel) (by decide +kernel)) (goodIn_sub (fun _ h => List.mem_cons_of_mem _ (List.mem_append_right _ h)) (by decide +kernel))
set_option maxRecDepth 20000 in
theorem gL_mark_X8_mark : GoodIn wsL_mark (wsV RL 30 RX8 yX8_mark wsX8_mark) := goodIn_app (goodIn_of _ (by decide +kernel)) ggL_mark_X8_mark
theorem dL_mark_0 : decode cL_mark 0 = .ok (.aload_n 2, 1) := by decide +kernel
theorem dL_mark_1 : decode cL_mark 1 = .ok (.iconst 0, 1) := by decide +kernel
theorem dL_mark_2 : decode cL_mark 2 = .ok (.aload_n 0, 1) := by decide +kernel
theorem dL_mark_3 : decode cL_mark 3 = .ok (.iload_n 1, 1) := by decide +kernel
theorem dL_mark_4 : decode cL_mark 4 = .ok (.invokevirtual 30, 3) := by decide +kernel
theorem dL_mark_7 : decode cL_mark 7 = .ok (.ifCond .eq 7, 3) := by decide +kernel
theorem dL_mark_10 : decode cL_mark 10 = .ok (.lconst 1, 1) := by decide +kernel
theorem dL_mark_11 : decode cL_mark 11 = .ok (.goto 4, 3) := by decide +kernel
theorem dL_mark_14 : decode cL_mark 14 = .ok (.lconst 0, 1) := by decide +kernel
theorem dL_mark_15 : decode cL_mark 15 = .ok (.lastore, 1) := by decide +kernel
theorem dL_mark_16 : decode cL_mark 16 = .ok (.goto 6, 3) := by decide +kernel
theorem dL_mark_19 : decode cL_mark 19 = .ok (.astore_n 3, 1) := by decide +kernel
theorem dL_mark_20 : decode cL_mark 20 = .ok (.iconst 1, 1) := by decide +kernel
theorem dL_mark_21 : decode cL_mark 21 = .ok (.ireturn, 1) := by decide +kernel
theorem dL_mark_22 : decode cL_mark 22 = .ok (.iconst 0, 1) := by decide +kernel
theorem dL_mark_23 : decode cL_mark 23 = .ok (.ireturn, 1) := by decide +kernel
set_option maxRecDepth 20000 in
theorem ggL_strip_X8_strip : GoodIn wsL_strip wsX8_strip := goodIn_ca (goodIn_ca (goodIn_r _ [7, 8, 9, 10, 11, 12, 13, 14, 15, 16, 17, 6, 18, 19, 20, 21, 22, 23, 24, 25, 26, 27, 28, 29, 30, 31, 32, 33, 34, 35, 36, 37, 38, 39, 40, 41, 42, 43, 44, 45, 46, 47, 48, 49, 50, 51, 52, 53, 54, 55, 56, 57, 58, 59, 60, 61, 62, 63, 64, 65, 66, 67, 68, 69, 70, 71, 72, 73, 74, 75, 76, 77, 78, 79, 80, 81, 82, 83, 84, 85, 86, 87, 88, 89, 90, 91, 92, 93, 94, 95, 96, 97, 98, 99, 100, 101, 102, 103, 104, 105, 106, 107, 108, 109, 110, 111, 112, 113, 114, 115, 116, 117, 118, 119, 120, 121, 122, 123, 124, 125, 126, 127, 128, 129, 130, 131, 132, 133, 134, 135, 136, 137, 138, 139, 140, 141, 142, 143, 144, 145, 146, 147, 148, 149, 150, 151, 152, 153, 154, 155, 156, 157, 158, 159, 160, 161, 162, 163, 164, 165, 166, 167, 168, 169, 170, 171, 172, 173] (by decide +kernel) (by decide +kernel)) (goodIn_sub (fun _ h => List.mem_cons_of_mem _ (List.mem_append_left _ (List.mem_append_right _ h))) (by decide +kernel))) (goodIn_sub (fun _ h => List.mem_cons_of_mem _ (List.mem_append_right _ h)) (by decide +kernel))
set_option maxRecDepth 20000 in
theorem gL_strip_X8_strip : GoodIn wsL_strip (wsV RL 36 RX8 yX8_strip wsX8_strip) := goodIn_app (goodIn_of _ (by decide +kernel)) ggL_strip_X8_strip
theorem dL_strip_0 : decode cL_strip 0 = .ok (.aload_n 3, 1) := by decide +kernel
theorem dL_strip_1 : decode cL_strip 1 = .ok (.iconst 0, 1) := by decide +kernel
theorem dL_strip_2 : decode cL_strip 2 = .ok (.aload_n 0, 1) := by decide +kernel
theorem dL_strip_3 : decode cL_strip 3 = .ok (.iload_n 1, 1) := by decide +kernel
theorem dL_strip_4 : decode cL_strip 4 = .ok (.iload_n 2, 1) := by decide +kernel
theorem dL_strip_5 : decode cL_strip 5 = .ok (.invokevirtual 36, 3) := by decide +kernel
theorem dL_strip_8 : decode cL_strip 8 = .ok (.i2l, 1) := by decide +kernel
theorem dL_strip_9 : decode cL_strip 9 = .ok (.lastore, 1) := by decide +kernel
theorem dL_strip_10 : decode cL_strip 10 = .ok (.goto 11, 3) := by decide +kernel
theorem dL_strip_13 : decode cL_strip 13 = .ok (.astore 4, 2) := by decide +kernel
theorem dL_strip_15 : decode cL_strip 15 = .ok (.iconst 1, 1) := by decide +kernel
theorem dL_strip_16 : decode cL_strip 16 = .ok (.ireturn, 1) := by decide +kernel
theorem dL_strip_17 : decode cL_strip 17 = .ok (.astore 4, 2) := by decide +kernel
theorem dL_strip_19 : decode cL_strip 19 = .ok (.iconst 2, 1) := by decide +kernel
theorem dL_strip_20 : decode cL_strip 20 = .ok (.ireturn, 1) := by decide +kernel
theorem dL_strip_21 : decode cL_strip 21 = .ok (.iconst 0, 1) := by decide +kernel
theorem dL_strip_22 : decode cL_strip 22 = .ok (.ireturn, 1) := by decide +kernel
set_option maxRecDepth 20000 in
theorem ggL_wound_X8_wound : GoodIn wsL_wound wsX8_wound := goodIn_ca (goodIn_r _ [6, 7, 8, 9, 10, 11, 5, 12, 13, 14, 15, 16, 17, 18, 19, 20, 21, 22, 23, 24, 25, 26, 27, 28, 29, 30, 31, 32, 33, 34, 35, 36, 37, 38, 39, 40, 41, 42, 43, 44, 45, 46, 47, 48, 49, 50, 51, 52, 53, 54, 55, 56, 57, 58, 59, 60, 61, 62, 63, 64, 65, 66, 67, 68, 69] (by decide +kernel) (by decide +kernel)) (goodIn_sub (fun _ h => List.mem_cons_of_mem _ (List.mem_append_right _ h)) (by decide +kernel))
set_option maxRecDepth 20000 in
theorem gL_wound_X8_wound : GoodIn wsL_wound (wsV RL 39 RX8 yX8_wound wsX8_wound) := goodIn_app (goodIn_of _ (by decide +kernel)) ggL_wound_X8_wound
theorem dL_wound_0 : decode cL_wound 0 = .ok (.aload_n 2, 1) := by decide +kernel
theorem dL_wound_1 : decode cL_wound 1 = .ok (.iconst 0, 1) := by decide +kernel
theorem dL_wound_2 : decode cL_wound 2 = .ok (.aload_n 0, 1) := by decide +kernel
theorem dL_wound_3 : decode cL_wound 3 = .ok (.iload_n 1, 1) := by decide +kernel
theorem dL_wound_4 : decode cL_wound 4 = .ok (.invokevirtual 39, 3) := by decide +kernel
theorem dL_wound_7 : decode cL_wound 7 = .ok (.i2l, 1) := by decide +kernel
theorem dL_wound_8 : decode cL_wound 8 = .ok (.lastore, 1) := by decide +kernel
theorem dL_wound_9 : decode cL_wound 9 = .ok (.goto 6, 3) := by decide +kernel
theorem dL_wound_12 : decode cL_wound 12 = .ok (.astore_n 3, 1) := by decide +kernel
theorem dL_wound_13 : decode cL_wound 13 = .ok (.iconst 1, 1) := by decide +kernel
theorem dL_wound_14 : decode cL_wound 14 = .ok (.ireturn, 1) := by decide +kernel
theorem dL_wound_15 : decode cL_wound 15 = .ok (.iconst 0, 1) := by decide +kernel
theorem dL_wound_16 : decode cL_wound 16 = .ok (.ireturn, 1) := by decide +kernel
set_option maxRecDepth 20000 in
theorem ggL_fire_X8_fire : GoodIn wsL_fire wsX8_fire := goodIn_ca (goodIn_r _ [6, 7, 8, 9, 10, 5, 11, 12, 13, 14, 15, 16, 17, 18, 19, 20, 21, 22, 23, 24, 25, 26, 27, 28, 29, 30, 31, 32, 33, 34, 35, 36, 37, 38, 39, 40, 41, 42, 43, 44, 45, 46, 47, 48, 49, 50, 51, 52, 53, 54, 55, 56, 57, 58, 59, 60, 61, 62, 63, 64, 65, 66, 67, 68, 69, 70, 71, 72, 73, 74, 75] (by decide +kernel) (by decide +kernel)) (goodIn_sub (fun _ h => List.mem_cons_of_mem _ (List.mem_append_right _ h)) (by decide +kernel))
set_option maxRecDepth 20000 in
theorem gL_fire_X8_fire : GoodIn wsL_fire (wsV RL 42 RX8 yX8_fire wsX8_fire) := goodIn_app (goodIn_of _ (by decide +kernel)) ggL_fire_X8_fire
theorem dL_fire_0 : decode cL_fire 0 = .ok (.aload_n 2, 1) := by decide +kernel
theorem dL_fire_1 : decode cL_fire 1 = .ok (.iconst 0, 1) := by decide +kernel
theorem dL_fire_2 : decode cL_fire 2 = .ok (.aload_n 0, 1) := by decide +kernel
theorem dL_fire_3 : decode cL_fire 3 = .ok (.iload_n 1, 1) := by decide +kernel
theorem dL_fire_4 : decode cL_fire 4 = .ok (.invokevirtual 42, 3) := by decide +kernel
theorem dL_fire_7 : decode cL_fire 7 = .ok (.i2l, 1) := by decide +kernel
theorem dL_fire_8 : decode cL_fire 8 = .ok (.lastore, 1) := by decide +kernel
theorem dL_fire_9 : decode cL_fire 9 = .ok (.goto 6, 3) := by decide +kernel
theorem dL_fire_12 : decode cL_fire 12 = .ok (.astore_n 3, 1) := by decide +kernel
theorem dL_fire_13 : decode cL_fire 13 = .ok (.iconst 1, 1) := by decide +kernel
theorem dL_fire_14 : decode cL_fire 14 = .ok (.ireturn, 1) := by decide +kernel
theorem dL_fire_15 : decode cL_fire 15 = .ok (.iconst 0, 1) := by decide +kernel
theorem dL_fire_16 : decode cL_fire 16 = .ok (.ireturn, 1) := by decide +kernel
set_option maxRecDepth 20000 in
theorem ggL_look_X8_look : GoodIn wsL_look wsX8_look := goodIn_ca (goodIn_ca (goodIn_r _ [7, 8, 9, 10, 11, 12, 6, 13, 14, 15, 16, 17, 18, 19, 20, 21, 22, 23, 24, 25, 26, 27, 28, 29, 30, 31, 32, 33, 34, 35, 36, 37, 38, 39, 40, 41, 42, 43, 44, 45, 46, 47, 48, 49, 50, 51, 52, 53, 54, 55, 56, 57, 58, 59, 60, 61, 62, 63] (by decide +kernel) (by decide +kernel)) (goodIn_sub (fun _ h => List.mem_cons_of_mem _ (List.mem_append_left _ (List.mem_append_right _ h))) (by decide +kernel))) (goodIn_sub (fun _ h => List.mem_cons_of_mem _ (List.mem_append_right _ h)) (by decide +kernel))
set_option maxRecDepth 20000 in
theorem gL_look_X8_look : GoodIn wsL_look (wsV RL 45 RX8 yX8_look wsX8_look) := goodIn_app (goodIn_of _ (by decide +kernel)) ggL_look_X8_look
theorem dL_look_0 : decode cL_look 0 = .ok (.aload_n 3, 1) := by decide +kernel
theorem dL_look_1 : decode cL_look 1 = .ok (.iconst 0, 1) := by decide +kernel
theorem dL_look_2 : decode cL_look 2 = .ok (.aload_n 0, 1) := by decide +kernel
theorem dL_look_3 : decode cL_look 3 = .ok (.iload_n 1, 1) := by decide +kernel
theorem dL_look_4 : decode cL_look 4 = .ok (.iload_n 2, 1) := by decide +kernel
theorem dL_look_5 : decode cL_look 5 = .ok (.invokevirtual 45, 3) := by decide +kernel
theorem dL_look_8 : decode cL_look 8 = .ok (.i2l, 1) := by decide +kernel
theorem dL_look_9 : decode cL_look 9 = .ok (.lastore, 1) := by decide +kernel
theorem dL_look_10 : decode cL_look 10 = .ok (.goto 11, 3) := by decide +kernel
theorem dL_look_13 : decode cL_look 13 = .ok (.astore 4, 2) := by decide +kernel
theorem dL_look_15 : decode cL_look 15 = .ok (.iconst 1, 1) := by decide +kernel
theorem dL_look_16 : decode cL_look 16 = .ok (.ireturn, 1) := by decide +kernel
theorem dL_look_17 : decode cL_look 17 = .ok (.astore 4, 2) := by decide +kernel
theorem dL_look_19 : decode cL_look 19 = .ok (.iconst 2, 1) := by decide +kernel
theorem dL_look_20 : decode cL_look 20 = .ok (.ireturn, 1) := by decide +kernel
theorem dL_look_21 : decode cL_look 21 = .ok (.iconst 0, 1) := by decide +kernel
theorem dL_look_22 : decode cL_look 22 = .ok (.ireturn, 1) := by decide +kernel
set_option maxRecDepth 20000 in
theorem ggL_plank_X8_plank : GoodIn wsL_plank wsX8_plank := goodIn_ca (goodIn_ca (goodIn_r _ [7, 8, 9, 10, 11, 12, 6, 13, 14, 15, 16, 17, 18, 19, 20, 21, 22, 23, 24, 25, 26, 27, 28, 29, 30, 31, 32, 33, 34, 35, 36, 37, 38, 39, 40, 41, 42, 43, 44, 45, 46, 47, 48, 49, 50, 51, 52, 53, 54, 55, 56, 57, 58, 59] (by decide +kernel) (by decide +kernel)) (goodIn_sub (fun _ h => List.mem_cons_of_mem _ (List.mem_append_left _ (List.mem_append_right _ h))) (by decide +kernel))) (goodIn_sub (fun _ h => List.mem_cons_of_mem _ (List.mem_append_right _ h)) (by decide +kernel))
set_option maxRecDepth 20000 in
theorem gL_plank_X8_plank : GoodIn wsL_plank (wsV RL 48 RX8 yX8_plank wsX8_plank) := goodIn_app (goodIn_of _ (by decide +kernel)) ggL_plank_X8_plank
theorem dL_plank_0 : decode cL_plank 0 = .ok (.aload_n 3, 1) := by decide +kernel
theorem dL_plank_1 : decode cL_plank 1 = .ok (.iconst 0, 1) := by decide +kernel
theorem dL_plank_2 : decode cL_plank 2 = .ok (.aload_n 0, 1) := by decide +kernel
theorem dL_plank_3 : decode cL_plank 3 = .ok (.iload_n 1, 1) := by decide +kernel
theorem dL_plank_4 : decode cL_plank 4 = .ok (.iload_n 2, 1) := by decide +kernel
theorem dL_plank_5 : decode cL_plank 5 = .ok (.invokevirtual 48, 3) := by decide +kernel
theorem dL_plank_8 : decode cL_plank 8 = .ok (.i2l, 1) := by decide +kernel
theorem dL_plank_9 : decode cL_plank 9 = .ok (.lastore, 1) := by decide +kernel
theorem dL_plank_10 : decode cL_plank 10 = .ok (.goto 11, 3) := by decide +kernel
theorem dL_plank_13 : decode cL_plank 13 = .ok (.astore 4, 2) := by decide +kernel
theorem dL_plank_15 : decode cL_plank 15 = .ok (.iconst 1, 1) := by decide +kernel
theorem dL_plank_16 : decode cL_plank 16 = .ok (.ireturn, 1) := by decide +kernel
theorem dL_plank_17 : decode cL_plank 17 = .ok (.astore 4, 2) := by decide +kernel
theorem dL_plank_19 : decode cL_plank 19 = .ok (.iconst 2, 1) := by decide +kernel
theorem dL_plank_20 : decode cL_plank 20 = .ok (.ireturn, 1) := by decide +kernel
theorem dL_plank_21 : decode cL_plank 21 = .ok (.iconst 0, 1) := by decide +kernel
theorem dL_plank_22 : decode cL_plank 22 = .ok (.ireturn, 1) := by decide +kernel
set_option maxRecDepth 20000 in
theorem ggL_lot_X8_lot : GoodIn wsL_lot wsX8_lot := goodIn_ca (goodIn_ca (goodIn_r _ [7, 8, 9, 10, 11, 12, 13, 14, 15, 16, 17, 18, 19, 20, 21, 22, 23, 24, 25, 26, 27, 28, 29, 30, 31, 32, 33, 34, 35, 36, 37, 38, 39, 40, 41, 42, 43, 44, 45, 46, 47, 48, 49, 50, 51, 52, 53, 54, 55, 56, 57, 58, 59, 60, 61, 62, 63, 64, 65, 66, 67, 68, 69, 70, 71, 72, 73, 74, 75, 76, 77, 78, 79, 80, 81, 82, 83, 84, 85, 86, 87, 88, 89, 90, 91, 92, 93, 94, 95, 96, 97, 98, 99, 100, 101, 102, 103, 104, 105, 106, 107, 108] (by decide +kernel) (by decide +kernel)) (goodIn_sub (fun _ h => List.mem_cons_of_mem _ (List.mem_append_left _ (List.mem_append_right _ h))) (by decide +kernel))) (goodIn_sub (fun _ h => List.mem_cons_of_mem _ (List.mem_append_right _ h)) (by decide +kernel))
set_option maxRecDepth 20000 in
theorem gL_lot_X8_lot : GoodIn wsL_lot (wsV RL 51 RX8 yX8_lot wsX8_lot) := goodIn_app (goodIn_of _ (by decide +kernel)) ggL_lot_X8_lot
theorem dL_lot_0 : decode cL_lot 0 = .ok (.aload_n 2, 1) := by decide +kernel
theorem dL_lot_1 : decode cL_lot 1 = .ok (.iconst 0, 1) := by decide +kernel
theorem dL_lot_2 : decode cL_lot 2 = .ok (.aload_n 0, 1) := by decide +kernel
theorem dL_lot_3 : decode cL_lot 3 = .ok (.iload_n 1, 1) := by decide +kernel
theorem dL_lot_4 : decode cL_lot 4 = .ok (.invokevirtual 51, 3) := by decide +kernel
theorem dL_lot_7 : decode cL_lot 7 = .ok (.i2l, 1) := by decide +kernel
theorem dL_lot_8 : decode cL_lot 8 = .ok (.lastore, 1) := by decide +kernel
theorem dL_lot_9 : decode cL_lot 9 = .ok (.goto 9, 3) := by decide +kernel
theorem dL_lot_12 : decode cL_lot 12 = .ok (.astore_n 3, 1) := by decide +kernel
theorem dL_lot_13 : decode cL_lot 13 = .ok (.iconst 1, 1) := by decide +kernel
theorem dL_lot_14 : decode cL_lot 14 = .ok (.ireturn, 1) := by decide +kernel
theorem dL_lot_15 : decode cL_lot 15 = .ok (.astore_n 3, 1) := by decide +kernel
theorem dL_lot_16 : decode cL_lot 16 = .ok (.iconst 2, 1) := by decide +kernel
theorem dL_lot_17 : decode cL_lot 17 = .ok (.ireturn, 1) := by decide +kernel
theorem dL_lot_18 : decode cL_lot 18 = .ok (.iconst 0, 1) := by decide +kernel
theorem dL_lot_19 : decode cL_lot 19 = .ok (.ireturn, 1) := by decide +kernel
set_option maxRecDepth 20000 in
theorem ggL_put_X8_put : GoodIn wsL_put wsX8_put := goodIn_ca (goodIn_r _ [6, 7, 8, 9, 5, 10, 11, 12, 13, 14, 15, 16, 17, 18, 19, 20, 21, 22, 23, 24, 25, 26, 27, 28, 29, 30, 31, 32, 33, 34, 35, 36, 37, 38, 39, 40, 41, 42, 43, 44, 45, 46, 47, 48, 49, 50, 51, 52, 53, 54, 55, 56, 57, 58, 59, 60, 61, 62, 63, 64, 65, 66, 67, 68, 69, 70, 71, 72, 73, 74, 75, 76, 77, 78, 79, 80, 81, 82, 83, 84, 85, 86, 87, 88, 89] (by decide +kernel) (by decide +kernel)) (goodIn_sub (fun _ h => List.mem_cons_of_mem _ (List.mem_append_right _ h)) (by decide +kernel))
set_option maxRecDepth 20000 in
theorem gL_put_X8_put : GoodIn wsL_put (wsV RL 54 RX8 yX8_put wsX8_put) := goodIn_app (goodIn_of _ (by decide +kernel)) ggL_put_X8_put
theorem dL_put_0 : decode cL_put 0 = .ok (.aload_n 3, 1) := by decide +kernel
theorem dL_put_1 : decode cL_put 1 = .ok (.iconst 0, 1) := by decide +kernel
theorem dL_put_2 : decode cL_put 2 = .ok (.aload_n 0, 1) := by decide +kernel
theorem dL_put_3 : decode cL_put 3 = .ok (.iload_n 1, 1) := by decide +kernel
theorem dL_put_4 : decode cL_put 4 = .ok (.iload_n 2, 1) := by decide +kernel
theorem dL_put_5 : decode cL_put 5 = .ok (.invokevirtual 54, 3) := by decide +kernel
theorem dL_put_8 : decode cL_put 8 = .ok (.ifCond .eq 7, 3) := by decide +kernel
theorem dL_put_11 : decode cL_put 11 = .ok (.lconst 1, 1) := by decide +kernel
theorem dL_put_12 : decode cL_put 12 = .ok (.goto 4, 3) := by decide +kernel
theorem dL_put_15 : decode cL_put 15 = .ok (.lconst 0, 1) := by decide +kernel
theorem dL_put_16 : decode cL_put 16 = .ok (.lastore, 1) := by decide +kernel
theorem dL_put_17 : decode cL_put 17 = .ok (.goto 7, 3) := by decide +kernel
theorem dL_put_20 : decode cL_put 20 = .ok (.astore 4, 2) := by decide +kernel
theorem dL_put_22 : decode cL_put 22 = .ok (.iconst 1, 1) := by decide +kernel
theorem dL_put_23 : decode cL_put 23 = .ok (.ireturn, 1) := by decide +kernel
theorem dL_put_24 : decode cL_put 24 = .ok (.iconst 0, 1) := by decide +kernel
theorem dL_put_25 : decode cL_put 25 = .ok (.ireturn, 1) := by decide +kernel
set_option maxRecDepth 20000 in
theorem ggL_bid_X8_bid : GoodIn wsL_bid wsX8_bid := goodIn_ca (goodIn_ca (goodIn_r _ [7, 8, 9, 10, 11, 12, 13, 6, 14, 15, 16, 17, 18, 19, 20, 21, 22, 23, 24, 25, 26, 27, 28, 29, 30, 31, 32, 33, 34, 35, 36, 37, 38, 39, 40, 41, 42, 43, 44, 45, 46, 47, 48, 49, 50, 51, 52, 53, 54, 55, 56, 57, 58, 59, 60, 61, 62, 63, 64, 65, 66] (by decide +kernel) (by decide +kernel)) (goodIn_sub (fun _ h => List.mem_cons_of_mem _ (List.mem_append_left _ (List.mem_append_right _ h))) (by decide +kernel))) (goodIn_sub (fun _ h => List.mem_cons_of_mem _ (List.mem_append_right _ h)) (by decide +kernel))
set_option maxRecDepth 20000 in
theorem gL_bid_X8_bid : GoodIn wsL_bid (wsV RL 58 RX8 yX8_bid wsX8_bid) := goodIn_app (goodIn_of _ (by decide +kernel)) ggL_bid_X8_bid
theorem dL_bid_0 : decode cL_bid 0 = .ok (.aload 4, 2) := by decide +kernel
theorem dL_bid_2 : decode cL_bid 2 = .ok (.iconst 0, 1) := by decide +kernel
theorem dL_bid_3 : decode cL_bid 3 = .ok (.aload_n 0, 1) := by decide +kernel
theorem dL_bid_4 : decode cL_bid 4 = .ok (.iload_n 1, 1) := by decide +kernel
theorem dL_bid_5 : decode cL_bid 5 = .ok (.iload_n 2, 1) := by decide +kernel
theorem dL_bid_6 : decode cL_bid 6 = .ok (.iload_n 3, 1) := by decide +kernel
theorem dL_bid_7 : decode cL_bid 7 = .ok (.invokevirtual 58, 3) := by decide +kernel
theorem dL_bid_10 : decode cL_bid 10 = .ok (.ifCond .eq 7, 3) := by decide +kernel
theorem dL_bid_13 : decode cL_bid 13 = .ok (.lconst 1, 1) := by decide +kernel
theorem dL_bid_14 : decode cL_bid 14 = .ok (.goto 4, 3) := by decide +kernel
theorem dL_bid_17 : decode cL_bid 17 = .ok (.lconst 0, 1) := by decide +kernel
theorem dL_bid_18 : decode cL_bid 18 = .ok (.lastore, 1) := by decide +kernel
theorem dL_bid_19 : decode cL_bid 19 = .ok (.goto 11, 3) := by decide +kernel
theorem dL_bid_22 : decode cL_bid 22 = .ok (.astore 5, 2) := by decide +kernel
theorem dL_bid_24 : decode cL_bid 24 = .ok (.iconst 1, 1) := by decide +kernel
theorem dL_bid_25 : decode cL_bid 25 = .ok (.ireturn, 1) := by decide +kernel
theorem dL_bid_26 : decode cL_bid 26 = .ok (.astore 5, 2) := by decide +kernel
theorem dL_bid_28 : decode cL_bid 28 = .ok (.iconst 2, 1) := by decide +kernel
theorem dL_bid_29 : decode cL_bid 29 = .ok (.ireturn, 1) := by decide +kernel
theorem dL_bid_30 : decode cL_bid 30 = .ok (.iconst 0, 1) := by decide +kernel
theorem dL_bid_31 : decode cL_bid 31 = .ok (.ireturn, 1) := by decide +kernel
set_option maxRecDepth 20000 in
theorem ggL_sell_X8_sell : GoodIn wsL_sell wsX8_sell := goodIn_ca (goodIn_r _ [6, 7, 8, 9, 5, 10, 11, 12, 13, 14, 15, 16, 17, 18, 19, 20, 21, 22, 23, 24, 25, 26, 27, 28, 29, 30, 31, 32, 33, 34, 35, 36, 37, 38, 39, 40, 41, 42, 43, 44, 45, 46, 47, 48, 49, 50, 51, 52, 53, 54, 55, 56, 57, 58, 59, 60, 61, 62, 63, 64, 65, 66, 67, 68, 69, 70] (by decide +kernel) (by decide +kernel)) (goodIn_sub (fun _ h => List.mem_cons_of_mem _ (List.mem_append_right _ h)) (by decide +kernel))
set_option maxRecDepth 20000 in
theorem gL_sell_X8_sell : GoodIn wsL_sell (wsV RL 62 RX8 yX8_sell wsX8_sell) := goodIn_app (goodIn_of _ (by decide +kernel)) ggL_sell_X8_sell
theorem dL_sell_0 : decode cL_sell 0 = .ok (.aload_n 2, 1) := by decide +kernel
theorem dL_sell_1 : decode cL_sell 1 = .ok (.iconst 0, 1) := by decide +kernel
theorem dL_sell_2 : decode cL_sell 2 = .ok (.aload_n 0, 1) := by decide +kernel
theorem dL_sell_3 : decode cL_sell 3 = .ok (.iload_n 1, 1) := by decide +kernel
theorem dL_sell_4 : decode cL_sell 4 = .ok (.invokevirtual 62, 3) := by decide +kernel
theorem dL_sell_7 : decode cL_sell 7 = .ok (.i2l, 1) := by decide +kernel
theorem dL_sell_8 : decode cL_sell 8 = .ok (.lastore, 1) := by decide +kernel
theorem dL_sell_9 : decode cL_sell 9 = .ok (.goto 6, 3) := by decide +kernel
theorem dL_sell_12 : decode cL_sell 12 = .ok (.astore_n 3, 1) := by decide +kernel
theorem dL_sell_13 : decode cL_sell 13 = .ok (.iconst 1, 1) := by decide +kernel
theorem dL_sell_14 : decode cL_sell 14 = .ok (.ireturn, 1) := by decide +kernel
theorem dL_sell_15 : decode cL_sell 15 = .ok (.iconst 0, 1) := by decide +kernel
theorem dL_sell_16 : decode cL_sell 16 = .ok (.ireturn, 1) := by decide +kernel
set_option maxRecDepth 20000 in
theorem ggL_offer_X8_offer : GoodIn wsL_offer wsX8_offer := goodIn_ca (goodIn_ca (goodIn_r _ [7, 8, 9, 10, 11, 12, 6, 13, 14, 15, 16, 17, 18, 19, 20, 21, 22, 23, 24, 25, 26, 27, 28, 29, 30, 31, 32, 33, 34, 35, 36, 37, 38, 39, 40, 41, 42, 43, 44, 45, 46, 47, 48, 49, 50, 51, 52, 53, 54, 55, 56, 57, 58, 59] (by decide +kernel) (by decide +kernel)) (goodIn_sub (fun _ h => List.mem_cons_of_mem _ (List.mem_append_left _ (List.mem_append_right _ h))) (by decide +kernel))) (goodIn_sub (fun _ h => List.mem_cons_of_mem _ (List.mem_append_right _ h)) (by decide +kernel))
set_option maxRecDepth 20000 in
theorem gL_offer_X8_offer : GoodIn wsL_offer (wsV RL 65 RX8 yX8_offer wsX8_offer) := goodIn_app (goodIn_of _ (by decide +kernel)) ggL_offer_X8_offer
theorem dL_offer_0 : decode cL_offer 0 = .ok (.aload_n 3, 1) := by decide +kernel
theorem dL_offer_1 : decode cL_offer 1 = .ok (.iconst 0, 1) := by decide +kernel
theorem dL_offer_2 : decode cL_offer 2 = .ok (.aload_n 0, 1) := by decide +kernel
theorem dL_offer_3 : decode cL_offer 3 = .ok (.iload_n 1, 1) := by decide +kernel
theorem dL_offer_4 : decode cL_offer 4 = .ok (.iload_n 2, 1) := by decide +kernel
theorem dL_offer_5 : decode cL_offer 5 = .ok (.invokevirtual 65, 3) := by decide +kernel
theorem dL_offer_8 : decode cL_offer 8 = .ok (.i2l, 1) := by decide +kernel
theorem dL_offer_9 : decode cL_offer 9 = .ok (.lastore, 1) := by decide +kernel
theorem dL_offer_10 : decode cL_offer 10 = .ok (.goto 11, 3) := by decide +kernel
theorem dL_offer_13 : decode cL_offer 13 = .ok (.astore 4, 2) := by decide +kernel
theorem dL_offer_15 : decode cL_offer 15 = .ok (.iconst 1, 1) := by decide +kernel
theorem dL_offer_16 : decode cL_offer 16 = .ok (.ireturn, 1) := by decide +kernel
theorem dL_offer_17 : decode cL_offer 17 = .ok (.astore 4, 2) := by decide +kernel
theorem dL_offer_19 : decode cL_offer 19 = .ok (.iconst 2, 1) := by decide +kernel
theorem dL_offer_20 : decode cL_offer 20 = .ok (.ireturn, 1) := by decide +kernel
theorem dL_offer_21 : decode cL_offer 21 = .ok (.iconst 0, 1) := by decide +kernel
theorem dL_offer_22 : decode cL_offer 22 = .ok (.ireturn, 1) := by decide +kernel
set_option maxRecDepth 20000 in
theorem ggL_lay_X8_lay : GoodIn wsL_lay wsX8_lay := goodIn_ca (goodIn_r _ [6, 7, 8, 9, 10, 11, 12, 13, 14, 15, 16, 17, 18, 19, 20, 21, 22, 23, 24, 25, 26, 27, 28, 29, 30, 31, 32, 33, 34, 35, 36, 37] (by decide +kernel) (by decide +kernel)) (goodIn_sub (fun _ h => List.mem_cons_of_mem _ (List.mem_append_right _ h)) (by decide +kernel))
set_option maxRecDepth 20000 in
theorem gL_lay_X8_lay : GoodIn wsL_lay (wsV RL 68 RX8 yX8_lay wsX8_lay) := goodIn_app (goodIn_of _ (by decide +kernel)) ggL_lay_X8_lay
theorem dL_lay_0 : decode cL_lay 0 = .ok (.aload_n 0, 1) := by decide +kernel
theorem dL_lay_1 : decode cL_lay 1 = .ok (.iload_n 1, 1) := by decide +kernel
theorem dL_lay_2 : decode cL_lay 2 = .ok (.iload_n 2, 1) := by decide +kernel
theorem dL_lay_3 : decode cL_lay 3 = .ok (.iload_n 3, 1) := by decide +kernel
theorem dL_lay_4 : decode cL_lay 4 = .ok (.invokevirtual 68, 3) := by decide +kernel
theorem dL_lay_7 : decode cL_lay 7 = .ok (.goto 7, 3) := by decide +kernel
theorem dL_lay_10 : decode cL_lay 10 = .ok (.astore 4, 2) := by decide +kernel
theorem dL_lay_12 : decode cL_lay 12 = .ok (.iconst 1, 1) := by decide +kernel
theorem dL_lay_13 : decode cL_lay 13 = .ok (.ireturn, 1) := by decide +kernel
theorem dL_lay_14 : decode cL_lay 14 = .ok (.iconst 0, 1) := by decide +kernel
theorem dL_lay_15 : decode cL_lay 15 = .ok (.ireturn, 1) := by decide +kernel
set_option maxRecDepth 20000 in
theorem ggL_sort_X8_sort : GoodIn wsL_sort wsX8_sort := goodIn_ca (goodIn_r _ [6, 7, 8, 9, 10, 11, 12, 13, 14, 15, 16, 17, 18, 19, 20, 21, 22, 23, 24, 25, 26, 27, 28, 29, 30, 31, 32, 33, 34, 35, 36] (by decide +kernel) (by decide +kernel)) (goodIn_sub (fun _ h => List.mem_cons_of_mem _ (List.mem_append_right _ h)) (by decide +kernel))
set_option maxRecDepth 20000 in
theorem gL_sort_X8_sort : GoodIn wsL_sort (wsV RL 72 RX8 yX8_sort wsX8_sort) := goodIn_app (goodIn_of _ (by decide +kernel)) ggL_sort_X8_sort
theorem dL_sort_0 : decode cL_sort 0 = .ok (.aload 4, 2) := by decide +kernel
theorem dL_sort_2 : decode cL_sort 2 = .ok (.iconst 0, 1) := by decide +kernel
theorem dL_sort_3 : decode cL_sort 3 = .ok (.aload_n 0, 1) := by decide +kernel
theorem dL_sort_4 : decode cL_sort 4 = .ok (.iload_n 1, 1) := by decide +kernel
theorem dL_sort_5 : decode cL_sort 5 = .ok (.iload_n 2, 1) := by decide +kernel
theorem dL_sort_6 : decode cL_sort 6 = .ok (.iload_n 3, 1) := by decide +kernel
theorem dL_sort_7 : decode cL_sort 7 = .ok (.invokevirtual 72, 3) := by decide +kernel
theorem dL_sort_10 : decode cL_sort 10 = .ok (.i2l, 1) := by decide +kernel
theorem dL_sort_11 : decode cL_sort 11 = .ok (.lastore, 1) := by decide +kernel
theorem dL_sort_12 : decode cL_sort 12 = .ok (.goto 7, 3) := by decide +kernel
theorem dL_sort_15 : decode cL_sort 15 = .ok (.astore 5, 2) := by decide +kernel
theorem dL_sort_17 : decode cL_sort 17 = .ok (.iconst 1, 1) := by decide +kernel
theorem dL_sort_18 : decode cL_sort 18 = .ok (.ireturn, 1) := by decide +kernel
theorem dL_sort_19 : decode cL_sort 19 = .ok (.iconst 0, 1) := by decide +kernel
theorem dL_sort_20 : decode cL_sort 20 = .ok (.ireturn, 1) := by decide +kernel
set_option maxRecDepth 20000 in
theorem ggL_stand_X8_stand : GoodIn wsL_stand wsX8_stand := goodIn_ca (goodIn_r _ [6, 7, 8, 9, 10, 11, 12, 13, 14, 15, 16, 17, 18, 19, 20, 21, 22, 23, 24, 25, 26, 27, 28, 29, 30, 31, 32, 33, 34, 35, 36, 37] (by decide +kernel) (by decide +kernel)) (goodIn_sub (fun _ h => List.mem_cons_of_mem _ (List.mem_append_right _ h)) (by decide +kernel))
set_option maxRecDepth 20000 in
theorem gL_stand_X8_stand : GoodIn wsL_stand (wsV RL 76 RX8 yX8_stand wsX8_stand) := goodIn_app (goodIn_of _ (by decide +kernel)) ggL_stand_X8_stand
theorem dL_stand_0 : decode cL_stand 0 = .ok (.aload_n 3, 1) := by decide +kernel
theorem dL_stand_1 : decode cL_stand 1 = .ok (.iconst 0, 1) := by decide +kernel
theorem dL_stand_2 : decode cL_stand 2 = .ok (.aload_n 0, 1) := by decide +kernel
theorem dL_stand_3 : decode cL_stand 3 = .ok (.iload_n 1, 1) := by decide +kernel
theorem dL_stand_4 : decode cL_stand 4 = .ok (.iload_n 2, 1) := by decide +kernel
theorem dL_stand_5 : decode cL_stand 5 = .ok (.invokevirtual 76, 3) := by decide +kernel
theorem dL_stand_8 : decode cL_stand 8 = .ok (.i2l, 1) := by decide +kernel
theorem dL_stand_9 : decode cL_stand 9 = .ok (.lastore, 1) := by decide +kernel
theorem dL_stand_10 : decode cL_stand 10 = .ok (.goto 7, 3) := by decide +kernel
theorem dL_stand_13 : decode cL_stand 13 = .ok (.astore 4, 2) := by decide +kernel
theorem dL_stand_15 : decode cL_stand 15 = .ok (.iconst 1, 1) := by decide +kernel
theorem dL_stand_16 : decode cL_stand 16 = .ok (.ireturn, 1) := by decide +kernel
theorem dL_stand_17 : decode cL_stand 17 = .ok (.iconst 0, 1) := by decide +kernel
theorem dL_stand_18 : decode cL_stand 18 = .ok (.ireturn, 1) := by decide +kernel
set_option maxRecDepth 20000 in
theorem ggL_plan_X8_plan : GoodIn wsL_plan wsX8_plan := goodIn_ca (goodIn_r _ [6, 7, 8, 9, 10, 11, 12, 13, 14, 15, 16, 17, 18, 19, 20, 21, 22, 23, 24, 25, 26, 27, 28, 29, 30, 31, 32, 33, 34, 35, 36, 37, 38, 39, 40, 41, 42, 43, 44, 45, 46, 47, 48, 49, 50, 51, 52, 53, 54, 55, 56, 57, 58, 59, 60, 61, 62, 63, 64, 65, 66, 67, 68, 69] (by decide +kernel) (by decide +kernel)) (goodIn_sub (fun _ h => List.mem_cons_of_mem _ (List.mem_append_right _ h)) (by decide +kernel))
set_option maxRecDepth 20000 in
theorem gL_plan_X8_plan : GoodIn wsL_plan (wsV RL 79 RX8 yX8_plan wsX8_plan) := goodIn_app (goodIn_of _ (by decide +kernel)) ggL_plan_X8_plan
theorem dL_plan_0 : decode cL_plan 0 = .ok (.aload_n 2, 1) := by decide +kernel
theorem dL_plan_1 : decode cL_plan 1 = .ok (.iconst 0, 1) := by decide +kernel
theorem dL_plan_2 : decode cL_plan 2 = .ok (.aload_n 0, 1) := by decide +kernel
theorem dL_plan_3 : decode cL_plan 3 = .ok (.iload_n 1, 1) := by decide +kernel
theorem dL_plan_4 : decode cL_plan 4 = .ok (.invokevirtual 79, 3) := by decide +kernel
theorem dL_plan_7 : decode cL_plan 7 = .ok (.i2l, 1) := by decide +kernel
theorem dL_plan_8 : decode cL_plan 8 = .ok (.lastore, 1) := by decide +kernel
theorem dL_plan_9 : decode cL_plan 9 = .ok (.goto 6, 3) := by decide +kernel
theorem dL_plan_12 : decode cL_plan 12 = .ok (.astore_n 3, 1) := by decide +kernel
theorem dL_plan_13 : decode cL_plan 13 = .ok (.iconst 1, 1) := by decide +kernel
theorem dL_plan_14 : decode cL_plan 14 = .ok (.ireturn, 1) := by decide +kernel
theorem dL_plan_15 : decode cL_plan 15 = .ok (.iconst 0, 1) := by decide +kernel
theorem dL_plan_16 : decode cL_plan 16 = .ok (.ireturn, 1) := by decide +kernel
theorem dL_law__0 : decode cL_law_ 0 = .ok (.new 8, 3) := by decide +kernel
theorem dL_law__3 : decode cL_law_ 3 = .ok (.dup, 1) := by decide +kernel
theorem dL_law__4 : decode cL_law_ 4 = .ok (.invokespecial 82, 3) := by decide +kernel
theorem dL_law__7 : decode cL_law_ 7 = .ok (.astore_n 1, 1) := by decide +kernel
theorem dL_law__8 : decode cL_law_ 8 = .ok (.new 83, 3) := by decide +kernel
theorem dL_law__11 : decode cL_law_ 11 = .ok (.dup, 1) := by decide +kernel
theorem dL_law__12 : decode cL_law_ 12 = .ok (.invokespecial 85, 3) := by decide +kernel
theorem dL_law__15 : decode cL_law_ 15 = .ok (.astore_n 2, 1) := by decide +kernel
theorem dL_law__16 : decode cL_law_ 16 = .ok (.iconst 1, 1) := by decide +kernel
theorem dL_law__17 : decode cL_law_ 17 = .ok (.newarray .long, 2) := by decide +kernel
theorem dL_law__19 : decode cL_law_ 19 = .ok (.astore_n 3, 1) := by decide +kernel
theorem dL_law__20 : decode cL_law_ 20 = .ok (.iconst 0, 1) := by decide +kernel
theorem dL_law__21 : decode cL_law_ 21 = .ok (.istore 4, 2) := by decide +kernel
theorem dL_law__23 : decode cL_law_ 23 = .ok (.iload 4, 2) := by decide +kernel
theorem dL_law__25 : decode cL_law_ 25 = .ok (.aload_n 0, 1) := by decide +kernel
theorem dL_law__26 : decode cL_law_ 26 = .ok (.arraylength, 1) := by decide +kernel
theorem dL_law__27 : decode cL_law_ 27 = .ok (.bipush 6, 2) := by decide +kernel
theorem dL_law__29 : decode cL_law_ 29 = .ok (.isub, 1) := by decide +kernel
theorem dL_law__30 : decode cL_law_ 30 = .ok (.if_icmp .gt 1548, 3) := by decide +kernel
theorem dL_law__33 : decode cL_law_ 33 = .ok (.aload_n 0, 1) := by decide +kernel
theorem dL_law__34 : decode cL_law_ 34 = .ok (.iload 4, 2) := by decide +kernel
theorem dL_law__36 : decode cL_law_ 36 = .ok (.iaload, 1) := by decide +kernel
theorem dL_law__37 : decode cL_law_ 37 = .ok (.bipush 31, 2) := by decide +kernel
theorem dL_law__39 : decode cL_law_ 39 = .ok (.iand, 1) := by decide +kernel
theorem dL_law__40 : decode cL_law_ 40 = .ok (.tableswitch 1532 0 25 #[120, 193, 218, 274, 342, 386, 399, 455, 518, 586, 642, 698, 766, 834, 890, 965, 1052, 1108, 1176, 1236, 1316, 1329, 1370, 1438, 1451, 1507], 120) := by decide +kernel
theorem dL_law__160 : decode cL_law_ 160 = .ok (.aload_n 1, 1) := by decide +kernel
theorem dL_law__161 : decode cL_law_ 161 = .ok (.aload_n 0, 1) := by decide +kernel
theorem dL_law__162 : decode cL_law_ 162 = .ok (.iload 4, 2) := by decide +kernel
theorem dL_law__164 : decode cL_law_ 164 = .ok (.iconst 1, 1) := by decide +kernel
theorem dL_law__165 : decode cL_law_ 165 = .ok (.iadd, 1) := by decide +kernel
theorem dL_law__166 : decode cL_law_ 166 = .ok (.iaload, 1) := by decide +kernel
theorem dL_law__167 : decode cL_law_ 167 = .ok (.aload_n 0, 1) := by decide +kernel
theorem dL_law__168 : decode cL_law_ 168 = .ok (.iload 4, 2) := by decide +kernel
theorem dL_law__170 : decode cL_law_ 170 = .ok (.iconst 2, 1) := by decide +kernel
theorem dL_law__171 : decode cL_law_ 171 = .ok (.iadd, 1) := by decide +kernel
theorem dL_law__172 : decode cL_law_ 172 = .ok (.iaload, 1) := by decide +kernel
theorem dL_law__173 : decode cL_law_ 173 = .ok (.aload_n 0, 1) := by decide +kernel
theorem dL_law__174 : decode cL_law_ 174 = .ok (.iload 4, 2) := by decide +kernel
theorem dL_law__176 : decode cL_law_ 176 = .ok (.iconst 3, 1) := by decide +kernel
theorem dL_law__177 : decode cL_law_ 177 = .ok (.iadd, 1) := by decide +kernel
theorem dL_law__178 : decode cL_law_ 178 = .ok (.iaload, 1) := by decide +kernel
theorem dL_law__179 : decode cL_law_ 179 = .ok (.aload_n 0, 1) := by decide +kernel
theorem dL_law__180 : decode cL_law_ 180 = .ok (.iload 4, 2) := by decide +kernel
theorem dL_law__182 : decode cL_law_ 182 = .ok (.iconst 4, 1) := by decide +kernel
theorem dL_law__183 : decode cL_law_ 183 = .ok (.iadd, 1) := by decide +kernel
theorem dL_law__184 : decode cL_law_ 184 = .ok (.iaload, 1) := by decide +kernel
theorem dL_law__185 : decode cL_law_ 185 = .ok (.aload_n 0, 1) := by decide +kernel
theorem dL_law__186 : decode cL_law_ 186 = .ok (.iload 4, 2) := by decide +kernel
theorem dL_law__188 : decode cL_law_ 188 = .ok (.iconst 5, 1) := by decide +kernel
theorem dL_law__189 : decode cL_law_ 189 = .ok (.iadd, 1) := by decide +kernel
theorem dL_law__190 : decode cL_law_ 190 = .ok (.iaload, 1) := by decide +kernel
theorem dL_law__191 : decode cL_law_ 191 = .ok (.invokevirtual 86, 3) := by decide +kernel
theorem dL_law__194 : decode cL_law_ 194 = .ok (.aload_n 2, 1) := by decide +kernel
theorem dL_law__195 : decode cL_law_ 195 = .ok (.aload_n 0, 1) := by decide +kernel
theorem dL_law__196 : decode cL_law_ 196 = .ok (.iload 4, 2) := by decide +kernel
theorem dL_law__198 : decode cL_law_ 198 = .ok (.iconst 1, 1) := by decide +kernel
theorem dL_law__199 : decode cL_law_ 199 = .ok (.iadd, 1) := by decide +kernel
theorem dL_law__200 : decode cL_law_ 200 = .ok (.iaload, 1) := by decide +kernel
theorem dL_law__201 : decode cL_law_ 201 = .ok (.aload_n 0, 1) := by decide +kernel
theorem dL_law__202 : decode cL_law_ 202 = .ok (.iload 4, 2) := by decide +kernel
theorem dL_law__204 : decode cL_law_ 204 = .ok (.iconst 2, 1) := by decide +kernel
theorem dL_law__205 : decode cL_law_ 205 = .ok (.iadd, 1) := by decide +kernel
theorem dL_law__206 : decode cL_law_ 206 = .ok (.iaload, 1) := by decide +kernel
theorem dL_law__207 : decode cL_law_ 207 = .ok (.aload_n 0, 1) := by decide +kernel
theorem dL_law__208 : decode cL_law_ 208 = .ok (.iload 4, 2) := by decide +kernel
theorem dL_law__210 : decode cL_law_ 210 = .ok (.iconst 3, 1) := by decide +kernel
theorem dL_law__211 : decode cL_law_ 211 = .ok (.iadd, 1) := by decide +kernel
theorem dL_law__212 : decode cL_law_ 212 = .ok (.iaload, 1) := by decide +kernel
theorem dL_law__213 : decode cL_law_ 213 = .ok (.aload_n 0, 1) := by decide +kernel
theorem dL_law__214 : decode cL_law_ 214 = .ok (.iload 4, 2) := by decide +kernel
theorem dL_law__216 : decode cL_law_ 216 = .ok (.iconst 4, 1) := by decide +kernel
theorem dL_law__217 : decode cL_law_ 217 = .ok (.iadd, 1) := by decide +kernel
theorem dL_law__218 : decode cL_law_ 218 = .ok (.iaload, 1) := by decide +kernel
theorem dL_law__219 : decode cL_law_ 219 = .ok (.aload_n 0, 1) := by decide +kernel
theorem dL_law__220 : decode cL_law_ 220 = .ok (.iload 4, 2) := by decide +kernel
theorem dL_law__222 : decode cL_law_ 222 = .ok (.iconst 5, 1) := by decide +kernel
theorem dL_law__223 : decode cL_law_ 223 = .ok (.iadd, 1) := by decide +kernel
theorem dL_law__224 : decode cL_law_ 224 = .ok (.iaload, 1) := by decide +kernel
theorem dL_law__225 : decode cL_law_ 225 = .ok (.invokevirtual 90, 3) := by decide +kernel
theorem dL_law__228 : decode cL_law_ 228 = .ok (.if_icmp .eq 1344, 3) := by decide +kernel
theorem dL_law__231 : decode cL_law_ 231 = .ok (.iconst 0, 1) := by decide +kernel
theorem dL_law__232 : decode cL_law_ 232 = .ok (.ireturn, 1) := by decide +kernel
theorem dL_law__233 : decode cL_law_ 233 = .ok (.aload_n 1, 1) := by decide +kernel
theorem dL_law__234 : decode cL_law_ 234 = .ok (.aload_n 0, 1) := by decide +kernel
theorem dL_law__235 : decode cL_law_ 235 = .ok (.iload 4, 2) := by decide +kernel
theorem dL_law__237 : decode cL_law_ 237 = .ok (.iconst 1, 1) := by decide +kernel
theorem dL_law__238 : decode cL_law_ 238 = .ok (.iadd, 1) := by decide +kernel
theorem dL_law__239 : decode cL_law_ 239 = .ok (.iaload, 1) := by decide +kernel
theorem dL_law__240 : decode cL_law_ 240 = .ok (.invokevirtual 91, 3) := by decide +kernel
theorem dL_law__243 : decode cL_law_ 243 = .ok (.aload_n 2, 1) := by decide +kernel
theorem dL_law__244 : decode cL_law_ 244 = .ok (.aload_n 0, 1) := by decide +kernel
theorem dL_law__245 : decode cL_law_ 245 = .ok (.iload 4, 2) := by decide +kernel
theorem dL_law__247 : decode cL_law_ 247 = .ok (.iconst 1, 1) := by decide +kernel
theorem dL_law__248 : decode cL_law_ 248 = .ok (.iadd, 1) := by decide +kernel
theorem dL_law__249 : decode cL_law_ 249 = .ok (.iaload, 1) := by decide +kernel
theorem dL_law__250 : decode cL_law_ 250 = .ok (.invokevirtual 94, 3) := by decide +kernel
theorem dL_law__253 : decode cL_law_ 253 = .ok (.if_icmp .eq 1319, 3) := by decide +kernel
theorem dL_law__256 : decode cL_law_ 256 = .ok (.iconst 0, 1) := by decide +kernel
theorem dL_law__257 : decode cL_law_ 257 = .ok (.ireturn, 1) := by decide +kernel
theorem dL_law__258 : decode cL_law_ 258 = .ok (.aload_n 1, 1) := by decide +kernel
theorem dL_law__259 : decode cL_law_ 259 = .ok (.aload_n 0, 1) := by decide +kernel
theorem dL_law__260 : decode cL_law_ 260 = .ok (.iload 4, 2) := by decide +kernel
theorem dL_law__262 : decode cL_law_ 262 = .ok (.iconst 1, 1) := by decide +kernel
theorem dL_law__263 : decode cL_law_ 263 = .ok (.iadd, 1) := by decide +kernel
theorem dL_law__264 : decode cL_law_ 264 = .ok (.iaload, 1) := by decide +kernel
theorem dL_law__265 : decode cL_law_ 265 = .ok (.aload_n 3, 1) := by decide +kernel
theorem dL_law__266 : decode cL_law_ 266 = .ok (.invokestatic 95, 3) := by decide +kernel
theorem dL_law__269 : decode cL_law_ 269 = .ok (.istore 5, 2) := by decide +kernel
theorem dL_law__271 : decode cL_law_ 271 = .ok (.aload_n 2, 1) := by decide +kernel
theorem dL_law__272 : decode cL_law_ 272 = .ok (.aload_n 0, 1) := by decide +kernel
theorem dL_law__273 : decode cL_law_ 273 = .ok (.iload 4, 2) := by decide +kernel
theorem dL_law__275 : decode cL_law_ 275 = .ok (.iconst 1, 1) := by decide +kernel
theorem dL_law__276 : decode cL_law_ 276 = .ok (.iadd, 1) := by decide +kernel
theorem dL_law__277 : decode cL_law_ 277 = .ok (.iaload, 1) := by decide +kernel
theorem dL_law__278 : decode cL_law_ 278 = .ok (.invokevirtual 100, 3) := by decide +kernel
theorem dL_law__281 : decode cL_law_ 281 = .ok (.istore 6, 2) := by decide +kernel
theorem dL_law__283 : decode cL_law_ 283 = .ok (.aload_n 2, 1) := by decide +kernel
theorem dL_law__284 : decode cL_law_ 284 = .ok (.invokevirtual 101, 3) := by decide +kernel
theorem dL_law__287 : decode cL_law_ 287 = .ok (.iload 5, 2) := by decide +kernel
theorem dL_law__289 : decode cL_law_ 289 = .ok (.if_icmp .eq 5, 3) := by decide +kernel
theorem dL_law__292 : decode cL_law_ 292 = .ok (.iconst 0, 1) := by decide +kernel
theorem dL_law__293 : decode cL_law_ 293 = .ok (.ireturn, 1) := by decide +kernel
theorem dL_law__294 : decode cL_law_ 294 = .ok (.iload 5, 2) := by decide +kernel
theorem dL_law__296 : decode cL_law_ 296 = .ok (.ifCond .ne 15, 3) := by decide +kernel
theorem dL_law__299 : decode cL_law_ 299 = .ok (.aload_n 3, 1) := by decide +kernel
theorem dL_law__300 : decode cL_law_ 300 = .ok (.iconst 0, 1) := by decide +kernel
theorem dL_law__301 : decode cL_law_ 301 = .ok (.laload, 1) := by decide +kernel
theorem dL_law__302 : decode cL_law_ 302 = .ok (.iload 6, 2) := by decide +kernel
theorem dL_law__304 : decode cL_law_ 304 = .ok (.i2l, 1) := by decide +kernel
theorem dL_law__305 : decode cL_law_ 305 = .ok (.lcmp, 1) := by decide +kernel
theorem dL_law__306 : decode cL_law_ 306 = .ok (.ifCond .eq 5, 3) := by decide +kernel
theorem dL_law__309 : decode cL_law_ 309 = .ok (.iconst 0, 1) := by decide +kernel
theorem dL_law__310 : decode cL_law_ 310 = .ok (.ireturn, 1) := by decide +kernel
theorem dL_law__311 : decode cL_law_ 311 = .ok (.goto 1261, 3) := by decide +kernel
theorem dL_law__314 : decode cL_law_ 314 = .ok (.aload_n 1, 1) := by decide +kernel
theorem dL_law__315 : decode cL_law_ 315 = .ok (.aload_n 0, 1) := by decide +kernel
theorem dL_law__316 : decode cL_law_ 316 = .ok (.iload 4, 2) := by decide +kernel
theorem dL_law__318 : decode cL_law_ 318 = .ok (.iconst 1, 1) := by decide +kernel
theorem dL_law__319 : decode cL_law_ 319 = .ok (.iadd, 1) := by decide +kernel
theorem dL_law__320 : decode cL_law_ 320 = .ok (.iaload, 1) := by decide +kernel
theorem dL_law__321 : decode cL_law_ 321 = .ok (.aload_n 0, 1) := by decide +kernel
theorem dL_law__322 : decode cL_law_ 322 = .ok (.iload 4, 2) := by decide +kernel
theorem dL_law__324 : decode cL_law_ 324 = .ok (.iconst 2, 1) := by decide +kernel
theorem dL_law__325 : decode cL_law_ 325 = .ok (.iadd, 1) := by decide +kernel
theorem dL_law__326 : decode cL_law_ 326 = .ok (.iaload, 1) := by decide +kernel
theorem dL_law__327 : decode cL_law_ 327 = .ok (.aload_n 3, 1) := by decide +kernel
theorem dL_law__328 : decode cL_law_ 328 = .ok (.invokestatic 104, 3) := by decide +kernel
theorem dL_law__331 : decode cL_law_ 331 = .ok (.istore 5, 2) := by decide +kernel
theorem dL_law__333 : decode cL_law_ 333 = .ok (.aload_n 2, 1) := by decide +kernel
theorem dL_law__334 : decode cL_law_ 334 = .ok (.aload_n 0, 1) := by decide +kernel
theorem dL_law__335 : decode cL_law_ 335 = .ok (.iload 4, 2) := by decide +kernel
theorem dL_law__337 : decode cL_law_ 337 = .ok (.iconst 1, 1) := by decide +kernel
theorem dL_law__338 : decode cL_law_ 338 = .ok (.iadd, 1) := by decide +kernel
theorem dL_law__339 : decode cL_law_ 339 = .ok (.iaload, 1) := by decide +kernel
theorem dL_law__340 : decode cL_law_ 340 = .ok (.aload_n 0, 1) := by decide +kernel
theorem dL_law__341 : decode cL_law_ 341 = .ok (.iload 4, 2) := by decide +kernel
theorem dL_law__343 : decode cL_law_ 343 = .ok (.iconst 2, 1) := by decide +kernel
theorem dL_law__344 : decode cL_law_ 344 = .ok (.iadd, 1) := by decide +kernel
theorem dL_law__345 : decode cL_law_ 345 = .ok (.iaload, 1) := by decide +kernel
theorem dL_law__346 : decode cL_law_ 346 = .ok (.invokevirtual 107, 3) := by decide +kernel
theorem dL_law__349 : decode cL_law_ 349 = .ok (.istore 6, 2) := by decide +kernel
theorem dL_law__351 : decode cL_law_ 351 = .ok (.aload_n 2, 1) := by decide +kernel
theorem dL_law__352 : decode cL_law_ 352 = .ok (.invokevirtual 101, 3) := by decide +kernel
theorem dL_law__355 : decode cL_law_ 355 = .ok (.iload 5, 2) := by decide +kernel
theorem dL_law__357 : decode cL_law_ 357 = .ok (.if_icmp .eq 5, 3) := by decide +kernel
theorem dL_law__360 : decode cL_law_ 360 = .ok (.iconst 0, 1) := by decide +kernel
theorem dL_law__361 : decode cL_law_ 361 = .ok (.ireturn, 1) := by decide +kernel
theorem dL_law__362 : decode cL_law_ 362 = .ok (.iload 5, 2) := by decide +kernel
theorem dL_law__364 : decode cL_law_ 364 = .ok (.ifCond .ne 15, 3) := by decide +kernel
theorem dL_law__367 : decode cL_law_ 367 = .ok (.aload_n 3, 1) := by decide +kernel
theorem dL_law__368 : decode cL_law_ 368 = .ok (.iconst 0, 1) := by decide +kernel
theorem dL_law__369 : decode cL_law_ 369 = .ok (.laload, 1) := by decide +kernel
theorem dL_law__370 : decode cL_law_ 370 = .ok (.iload 6, 2) := by decide +kernel
theorem dL_law__372 : decode cL_law_ 372 = .ok (.i2l, 1) := by decide +kernel
theorem dL_law__373 : decode cL_law_ 373 = .ok (.lcmp, 1) := by decide +kernel
theorem dL_law__374 : decode cL_law_ 374 = .ok (.ifCond .eq 5, 3) := by decide +kernel
theorem dL_law__377 : decode cL_law_ 377 = .ok (.iconst 0, 1) := by decide +kernel
theorem dL_law__378 : decode cL_law_ 378 = .ok (.ireturn, 1) := by decide +kernel
theorem dL_law__379 : decode cL_law_ 379 = .ok (.goto 1193, 3) := by decide +kernel
theorem dL_law__382 : decode cL_law_ 382 = .ok (.aload_n 1, 1) := by decide +kernel
theorem dL_law__383 : decode cL_law_ 383 = .ok (.aload_n 3, 1) := by decide +kernel
theorem dL_law__384 : decode cL_law_ 384 = .ok (.invokestatic 108, 3) := by decide +kernel
theorem dL_law__387 : decode cL_law_ 387 = .ok (.istore 5, 2) := by decide +kernel
theorem dL_law__389 : decode cL_law_ 389 = .ok (.aload_n 2, 1) := by decide +kernel
theorem dL_law__390 : decode cL_law_ 390 = .ok (.invokevirtual 111, 3) := by decide +kernel
theorem dL_law__393 : decode cL_law_ 393 = .ok (.istore 6, 2) := by decide +kernel
theorem dL_law__395 : decode cL_law_ 395 = .ok (.aload_n 2, 1) := by decide +kernel
theorem dL_law__396 : decode cL_law_ 396 = .ok (.invokevirtual 101, 3) := by decide +kernel
theorem dL_law__399 : decode cL_law_ 399 = .ok (.iload 5, 2) := by decide +kernel
theorem dL_law__401 : decode cL_law_ 401 = .ok (.if_icmp .eq 5, 3) := by decide +kernel
theorem dL_law__404 : decode cL_law_ 404 = .ok (.iconst 0, 1) := by decide +kernel
theorem dL_law__405 : decode cL_law_ 405 = .ok (.ireturn, 1) := by decide +kernel
theorem dL_law__406 : decode cL_law_ 406 = .ok (.iload 5, 2) := by decide +kernel
theorem dL_law__408 : decode cL_law_ 408 = .ok (.ifCond .ne 15, 3) := by decide +kernel
theorem dL_law__411 : decode cL_law_ 411 = .ok (.aload_n 3, 1) := by decide +kernel
theorem dL_law__412 : decode cL_law_ 412 = .ok (.iconst 0, 1) := by decide +kernel
theorem dL_law__413 : decode cL_law_ 413 = .ok (.laload, 1) := by decide +kernel
theorem dL_law__414 : decode cL_law_ 414 = .ok (.iload 6, 2) := by decide +kernel
theorem dL_law__416 : decode cL_law_ 416 = .ok (.i2l, 1) := by decide +kernel
theorem dL_law__417 : decode cL_law_ 417 = .ok (.lcmp, 1) := by decide +kernel
theorem dL_law__418 : decode cL_law_ 418 = .ok (.ifCond .eq 5, 3) := by decide +kernel
theorem dL_law__421 : decode cL_law_ 421 = .ok (.iconst 0, 1) := by decide +kernel
theorem dL_law__422 : decode cL_law_ 422 = .ok (.ireturn, 1) := by decide +kernel
theorem dL_law__423 : decode cL_law_ 423 = .ok (.goto 1149, 3) := by decide +kernel
theorem dL_law__426 : decode cL_law_ 426 = .ok (.aload_n 1, 1) := by decide +kernel
theorem dL_law__427 : decode cL_law_ 427 = .ok (.invokevirtual 112, 3) := by decide +kernel
theorem dL_law__430 : decode cL_law_ 430 = .ok (.aload_n 2, 1) := by decide +kernel
theorem dL_law__431 : decode cL_law_ 431 = .ok (.invokevirtual 115, 3) := by decide +kernel
theorem dL_law__434 : decode cL_law_ 434 = .ok (.if_icmp .eq 1138, 3) := by decide +kernel
theorem dL_law__437 : decode cL_law_ 437 = .ok (.iconst 0, 1) := by decide +kernel
theorem dL_law__438 : decode cL_law_ 438 = .ok (.ireturn, 1) := by decide +kernel
theorem dL_law__439 : decode cL_law_ 439 = .ok (.aload_n 1, 1) := by decide +kernel
theorem dL_law__440 : decode cL_law_ 440 = .ok (.aload_n 0, 1) := by decide +kernel
theorem dL_law__441 : decode cL_law_ 441 = .ok (.iload 4, 2) := by decide +kernel
theorem dL_law__443 : decode cL_law_ 443 = .ok (.iconst 1, 1) := by decide +kernel
theorem dL_law__444 : decode cL_law_ 444 = .ok (.iadd, 1) := by decide +kernel
theorem dL_law__445 : decode cL_law_ 445 = .ok (.iaload, 1) := by decide +kernel
theorem dL_law__446 : decode cL_law_ 446 = .ok (.aload_n 3, 1) := by decide +kernel
theorem dL_law__447 : decode cL_law_ 447 = .ok (.invokestatic 116, 3) := by decide +kernel
theorem dL_law__450 : decode cL_law_ 450 = .ok (.istore 5, 2) := by decide +kernel
theorem dL_law__452 : decode cL_law_ 452 = .ok (.aload_n 2, 1) := by decide +kernel
theorem dL_law__453 : decode cL_law_ 453 = .ok (.aload_n 0, 1) := by decide +kernel
theorem dL_law__454 : decode cL_law_ 454 = .ok (.iload 4, 2) := by decide +kernel
theorem dL_law__456 : decode cL_law_ 456 = .ok (.iconst 1, 1) := by decide +kernel
theorem dL_law__457 : decode cL_law_ 457 = .ok (.iadd, 1) := by decide +kernel
theorem dL_law__458 : decode cL_law_ 458 = .ok (.iaload, 1) := by decide +kernel
theorem dL_law__459 : decode cL_law_ 459 = .ok (.invokevirtual 118, 3) := by decide +kernel
theorem dL_law__462 : decode cL_law_ 462 = .ok (.istore 6, 2) := by decide +kernel
theorem dL_law__464 : decode cL_law_ 464 = .ok (.aload_n 2, 1) := by decide +kernel
theorem dL_law__465 : decode cL_law_ 465 = .ok (.invokevirtual 101, 3) := by decide +kernel
theorem dL_law__468 : decode cL_law_ 468 = .ok (.iload 5, 2) := by decide +kernel
theorem dL_law__470 : decode cL_law_ 470 = .ok (.if_icmp .eq 5, 3) := by decide +kernel
theorem dL_law__473 : decode cL_law_ 473 = .ok (.iconst 0, 1) := by decide +kernel
theorem dL_law__474 : decode cL_law_ 474 = .ok (.ireturn, 1) := by decide +kernel
theorem dL_law__475 : decode cL_law_ 475 = .ok (.iload 5, 2) := by decide +kernel
theorem dL_law__477 : decode cL_law_ 477 = .ok (.ifCond .ne 15, 3) := by decide +kernel
theorem dL_law__480 : decode cL_law_ 480 = .ok (.aload_n 3, 1) := by decide +kernel
theorem dL_law__481 : decode cL_law_ 481 = .ok (.iconst 0, 1) := by decide +kernel
theorem dL_law__482 : decode cL_law_ 482 = .ok (.laload, 1) := by decide +kernel
theorem dL_law__483 : decode cL_law_ 483 = .ok (.iload 6, 2) := by decide +kernel
theorem dL_law__485 : decode cL_law_ 485 = .ok (.i2l, 1) := by decide +kernel
theorem dL_law__486 : decode cL_law_ 486 = .ok (.lcmp, 1) := by decide +kernel
theorem dL_law__487 : decode cL_law_ 487 = .ok (.ifCond .eq 5, 3) := by decide +kernel
theorem dL_law__490 : decode cL_law_ 490 = .ok (.iconst 0, 1) := by decide +kernel
theorem dL_law__491 : decode cL_law_ 491 = .ok (.ireturn, 1) := by decide +kernel
theorem dL_law__492 : decode cL_law_ 492 = .ok (.goto 1080, 3) := by decide +kernel
theorem dL_law__495 : decode cL_law_ 495 = .ok (.aload_n 1, 1) := by decide +kernel
theorem dL_law__496 : decode cL_law_ 496 = .ok (.aload_n 0, 1) := by decide +kernel
theorem dL_law__497 : decode cL_law_ 497 = .ok (.iload 4, 2) := by decide +kernel
theorem dL_law__499 : decode cL_law_ 499 = .ok (.iconst 1, 1) := by decide +kernel
theorem dL_law__500 : decode cL_law_ 500 = .ok (.iadd, 1) := by decide +kernel
theorem dL_law__501 : decode cL_law_ 501 = .ok (.iaload, 1) := by decide +kernel
theorem dL_law__502 : decode cL_law_ 502 = .ok (.aload_n 3, 1) := by decide +kernel
theorem dL_law__503 : decode cL_law_ 503 = .ok (.invokestatic 119, 3) := by decide +kernel
theorem dL_law__506 : decode cL_law_ 506 = .ok (.istore 5, 2) := by decide +kernel
theorem dL_law__508 : decode cL_law_ 508 = .ok (.aload_n 2, 1) := by decide +kernel
theorem dL_law__509 : decode cL_law_ 509 = .ok (.aload_n 0, 1) := by decide +kernel
theorem dL_law__510 : decode cL_law_ 510 = .ok (.iload 4, 2) := by decide +kernel
theorem dL_law__512 : decode cL_law_ 512 = .ok (.iconst 1, 1) := by decide +kernel
theorem dL_law__513 : decode cL_law_ 513 = .ok (.iadd, 1) := by decide +kernel
theorem dL_law__514 : decode cL_law_ 514 = .ok (.iaload, 1) := by decide +kernel
theorem dL_law__515 : decode cL_law_ 515 = .ok (.invokevirtual 121, 3) := by decide +kernel
theorem dL_law__518 : decode cL_law_ 518 = .ok (.istore 6, 2) := by decide +kernel
theorem dL_law__520 : decode cL_law_ 520 = .ok (.aload_n 2, 1) := by decide +kernel
theorem dL_law__521 : decode cL_law_ 521 = .ok (.invokevirtual 101, 3) := by decide +kernel
theorem dL_law__524 : decode cL_law_ 524 = .ok (.iload 5, 2) := by decide +kernel
theorem dL_law__526 : decode cL_law_ 526 = .ok (.if_icmp .eq 5, 3) := by decide +kernel
theorem dL_law__529 : decode cL_law_ 529 = .ok (.iconst 0, 1) := by decide +kernel
theorem dL_law__530 : decode cL_law_ 530 = .ok (.ireturn, 1) := by decide +kernel
theorem dL_law__531 : decode cL_law_ 531 = .ok (.iload 5, 2) := by decide +kernel
theorem dL_law__533 : decode cL_law_ 533 = .ok (.ifCond .ne 22, 3) := by decide +kernel
theorem dL_law__536 : decode cL_law_ 536 = .ok (.aload_n 3, 1) := by decide +kernel
theorem dL_law__537 : decode cL_law_ 537 = .ok (.iconst 0, 1) := by decide +kernel
theorem dL_law__538 : decode cL_law_ 538 = .ok (.laload, 1) := by decide +kernel
theorem dL_law__539 : decode cL_law_ 539 = .ok (.iload 6, 2) := by decide +kernel
theorem dL_law__541 : decode cL_law_ 541 = .ok (.ifCond .eq 7, 3) := by decide +kernel
theorem dL_law__544 : decode cL_law_ 544 = .ok (.lconst 1, 1) := by decide +kernel
theorem dL_law__545 : decode cL_law_ 545 = .ok (.goto 4, 3) := by decide +kernel
theorem dL_law__548 : decode cL_law_ 548 = .ok (.lconst 0, 1) := by decide +kernel
theorem dL_law__549 : decode cL_law_ 549 = .ok (.lcmp, 1) := by decide +kernel
theorem dL_law__550 : decode cL_law_ 550 = .ok (.ifCond .eq 5, 3) := by decide +kernel
theorem dL_law__553 : decode cL_law_ 553 = .ok (.iconst 0, 1) := by decide +kernel
theorem dL_law__554 : decode cL_law_ 554 = .ok (.ireturn, 1) := by decide +kernel
theorem dL_law__555 : decode cL_law_ 555 = .ok (.goto 1017, 3) := by decide +kernel
theorem dL_law__558 : decode cL_law_ 558 = .ok (.aload_n 1, 1) := by decide +kernel
theorem dL_law__559 : decode cL_law_ 559 = .ok (.aload_n 0, 1) := by decide +kernel
theorem dL_law__560 : decode cL_law_ 560 = .ok (.iload 4, 2) := by decide +kernel
theorem dL_law__562 : decode cL_law_ 562 = .ok (.iconst 1, 1) := by decide +kernel
theorem dL_law__563 : decode cL_law_ 563 = .ok (.iadd, 1) := by decide +kernel
theorem dL_law__564 : decode cL_law_ 564 = .ok (.iaload, 1) := by decide +kernel
theorem dL_law__565 : decode cL_law_ 565 = .ok (.aload_n 0, 1) := by decide +kernel
theorem dL_law__566 : decode cL_law_ 566 = .ok (.iload 4, 2) := by decide +kernel
theorem dL_law__568 : decode cL_law_ 568 = .ok (.iconst 2, 1) := by decide +kernel
theorem dL_law__569 : decode cL_law_ 569 = .ok (.iadd, 1) := by decide +kernel
theorem dL_law__570 : decode cL_law_ 570 = .ok (.iaload, 1) := by decide +kernel
theorem dL_law__571 : decode cL_law_ 571 = .ok (.aload_n 3, 1) := by decide +kernel
theorem dL_law__572 : decode cL_law_ 572 = .ok (.invokestatic 122, 3) := by decide +kernel
theorem dL_law__575 : decode cL_law_ 575 = .ok (.istore 5, 2) := by decide +kernel
theorem dL_law__577 : decode cL_law_ 577 = .ok (.aload_n 2, 1) := by decide +kernel
theorem dL_law__578 : decode cL_law_ 578 = .ok (.aload_n 0, 1) := by decide +kernel
theorem dL_law__579 : decode cL_law_ 579 = .ok (.iload 4, 2) := by decide +kernel
theorem dL_law__581 : decode cL_law_ 581 = .ok (.iconst 1, 1) := by decide +kernel
theorem dL_law__582 : decode cL_law_ 582 = .ok (.iadd, 1) := by decide +kernel
theorem dL_law__583 : decode cL_law_ 583 = .ok (.iaload, 1) := by decide +kernel
theorem dL_law__584 : decode cL_law_ 584 = .ok (.aload_n 0, 1) := by decide +kernel
theorem dL_law__585 : decode cL_law_ 585 = .ok (.iload 4, 2) := by decide +kernel
theorem dL_law__587 : decode cL_law_ 587 = .ok (.iconst 2, 1) := by decide +kernel
theorem dL_law__588 : decode cL_law_ 588 = .ok (.iadd, 1) := by decide +kernel
theorem dL_law__589 : decode cL_law_ 589 = .ok (.iaload, 1) := by decide +kernel
theorem dL_law__590 : decode cL_law_ 590 = .ok (.invokevirtual 124, 3) := by decide +kernel
theorem dL_law__593 : decode cL_law_ 593 = .ok (.istore 6, 2) := by decide +kernel
theorem dL_law__595 : decode cL_law_ 595 = .ok (.aload_n 2, 1) := by decide +kernel
theorem dL_law__596 : decode cL_law_ 596 = .ok (.invokevirtual 101, 3) := by decide +kernel
theorem dL_law__599 : decode cL_law_ 599 = .ok (.iload 5, 2) := by decide +kernel
theorem dL_law__601 : decode cL_law_ 601 = .ok (.if_icmp .eq 5, 3) := by decide +kernel
theorem dL_law__604 : decode cL_law_ 604 = .ok (.iconst 0, 1) := by decide +kernel
theorem dL_law__605 : decode cL_law_ 605 = .ok (.ireturn, 1) := by decide +kernel
theorem dL_law__606 : decode cL_law_ 606 = .ok (.iload 5, 2) := by decide +kernel
theorem dL_law__608 : decode cL_law_ 608 = .ok (.ifCond .ne 15, 3) := by decide +kernel
theorem dL_law__611 : decode cL_law_ 611 = .ok (.aload_n 3, 1) := by decide +kernel
theorem dL_law__612 : decode cL_law_ 612 = .ok (.iconst 0, 1) := by decide +kernel
theorem dL_law__613 : decode cL_law_ 613 = .ok (.laload, 1) := by decide +kernel
theorem dL_law__614 : decode cL_law_ 614 = .ok (.iload 6, 2) := by decide +kernel
theorem dL_law__616 : decode cL_law_ 616 = .ok (.i2l, 1) := by decide +kernel
theorem dL_law__617 : decode cL_law_ 617 = .ok (.lcmp, 1) := by decide +kernel
theorem dL_law__618 : decode cL_law_ 618 = .ok (.ifCond .eq 5, 3) := by decide +kernel
theorem dL_law__621 : decode cL_law_ 621 = .ok (.iconst 0, 1) := by decide +kernel
theorem dL_law__622 : decode cL_law_ 622 = .ok (.ireturn, 1) := by decide +kernel
theorem dL_law__623 : decode cL_law_ 623 = .ok (.goto 949, 3) := by decide +kernel
theorem dL_law__626 : decode cL_law_ 626 = .ok (.aload_n 1, 1) := by decide +kernel
theorem dL_law__627 : decode cL_law_ 627 = .ok (.aload_n 0, 1) := by decide +kernel
theorem dL_law__628 : decode cL_law_ 628 = .ok (.iload 4, 2) := by decide +kernel
theorem dL_law__630 : decode cL_law_ 630 = .ok (.iconst 1, 1) := by decide +kernel
theorem dL_law__631 : decode cL_law_ 631 = .ok (.iadd, 1) := by decide +kernel
theorem dL_law__632 : decode cL_law_ 632 = .ok (.iaload, 1) := by decide +kernel
theorem dL_law__633 : decode cL_law_ 633 = .ok (.aload_n 3, 1) := by decide +kernel
theorem dL_law__634 : decode cL_law_ 634 = .ok (.invokestatic 125, 3) := by decide +kernel
theorem dL_law__637 : decode cL_law_ 637 = .ok (.istore 5, 2) := by decide +kernel
theorem dL_law__639 : decode cL_law_ 639 = .ok (.aload_n 2, 1) := by decide +kernel
theorem dL_law__640 : decode cL_law_ 640 = .ok (.aload_n 0, 1) := by decide +kernel
theorem dL_law__641 : decode cL_law_ 641 = .ok (.iload 4, 2) := by decide +kernel
theorem dL_law__643 : decode cL_law_ 643 = .ok (.iconst 1, 1) := by decide +kernel
theorem dL_law__644 : decode cL_law_ 644 = .ok (.iadd, 1) := by decide +kernel
theorem dL_law__645 : decode cL_law_ 645 = .ok (.iaload, 1) := by decide +kernel
theorem dL_law__646 : decode cL_law_ 646 = .ok (.invokevirtual 127, 3) := by decide +kernel
theorem dL_law__649 : decode cL_law_ 649 = .ok (.istore 6, 2) := by decide +kernel
theorem dL_law__651 : decode cL_law_ 651 = .ok (.aload_n 2, 1) := by decide +kernel
theorem dL_law__652 : decode cL_law_ 652 = .ok (.invokevirtual 101, 3) := by decide +kernel
theorem dL_law__655 : decode cL_law_ 655 = .ok (.iload 5, 2) := by decide +kernel
theorem dL_law__657 : decode cL_law_ 657 = .ok (.if_icmp .eq 5, 3) := by decide +kernel
theorem dL_law__660 : decode cL_law_ 660 = .ok (.iconst 0, 1) := by decide +kernel
theorem dL_law__661 : decode cL_law_ 661 = .ok (.ireturn, 1) := by decide +kernel
theorem dL_law__662 : decode cL_law_ 662 = .ok (.iload 5, 2) := by decide +kernel
theorem dL_law__664 : decode cL_law_ 664 = .ok (.ifCond .ne 15, 3) := by decide +kernel
theorem dL_law__667 : decode cL_law_ 667 = .ok (.aload_n 3, 1) := by decide +kernel
theorem dL_law__668 : decode cL_law_ 668 = .ok (.iconst 0, 1) := by decide +kernel
theorem dL_law__669 : decode cL_law_ 669 = .ok (.laload, 1) := by decide +kernel
theorem dL_law__670 : decode cL_law_ 670 = .ok (.iload 6, 2) := by decide +kernel
theorem dL_law__672 : decode cL_law_ 672 = .ok (.i2l, 1) := by decide +kernel
theorem dL_law__673 : decode cL_law_ 673 = .ok (.lcmp, 1) := by decide +kernel
theorem dL_law__674 : decode cL_law_ 674 = .ok (.ifCond .eq 5, 3) := by decide +kernel
theorem dL_law__677 : decode cL_law_ 677 = .ok (.iconst 0, 1) := by decide +kernel
theorem dL_law__678 : decode cL_law_ 678 = .ok (.ireturn, 1) := by decide +kernel
theorem dL_law__679 : decode cL_law_ 679 = .ok (.goto 893, 3) := by decide +kernel
theorem dL_law__682 : decode cL_law_ 682 = .ok (.aload_n 1, 1) := by decide +kernel
theorem dL_law__683 : decode cL_law_ 683 = .ok (.aload_n 0, 1) := by decide +kernel
theorem dL_law__684 : decode cL_law_ 684 = .ok (.iload 4, 2) := by decide +kernel
theorem dL_law__686 : decode cL_law_ 686 = .ok (.iconst 1, 1) := by decide +kernel
theorem dL_law__687 : decode cL_law_ 687 = .ok (.iadd, 1) := by decide +kernel
theorem dL_law__688 : decode cL_law_ 688 = .ok (.iaload, 1) := by decide +kernel
theorem dL_law__689 : decode cL_law_ 689 = .ok (.aload_n 3, 1) := by decide +kernel
theorem dL_law__690 : decode cL_law_ 690 = .ok (.invokestatic 128, 3) := by decide +kernel
theorem dL_law__693 : decode cL_law_ 693 = .ok (.istore 5, 2) := by decide +kernel
theorem dL_law__695 : decode cL_law_ 695 = .ok (.aload_n 2, 1) := by decide +kernel
theorem dL_law__696 : decode cL_law_ 696 = .ok (.aload_n 0, 1) := by decide +kernel
theorem dL_law__697 : decode cL_law_ 697 = .ok (.iload 4, 2) := by decide +kernel
theorem dL_law__699 : decode cL_law_ 699 = .ok (.iconst 1, 1) := by decide +kernel
theorem dL_law__700 : decode cL_law_ 700 = .ok (.iadd, 1) := by decide +kernel
theorem dL_law__701 : decode cL_law_ 701 = .ok (.iaload, 1) := by decide +kernel
theorem dL_law__702 : decode cL_law_ 702 = .ok (.invokevirtual 130, 3) := by decide +kernel
theorem dL_law__705 : decode cL_law_ 705 = .ok (.istore 6, 2) := by decide +kernel
theorem dL_law__707 : decode cL_law_ 707 = .ok (.aload_n 2, 1) := by decide +kernel
theorem dL_law__708 : decode cL_law_ 708 = .ok (.invokevirtual 101, 3) := by decide +kernel
theorem dL_law__711 : decode cL_law_ 711 = .ok (.iload 5, 2) := by decide +kernel
theorem dL_law__713 : decode cL_law_ 713 = .ok (.if_icmp .eq 5, 3) := by decide +kernel
theorem dL_law__716 : decode cL_law_ 716 = .ok (.iconst 0, 1) := by decide +kernel
theorem dL_law__717 : decode cL_law_ 717 = .ok (.ireturn, 1) := by decide +kernel
theorem dL_law__718 : decode cL_law_ 718 = .ok (.iload 5, 2) := by decide +kernel
theorem dL_law__720 : decode cL_law_ 720 = .ok (.ifCond .ne 15, 3) := by decide +kernel
theorem dL_law__723 : decode cL_law_ 723 = .ok (.aload_n 3, 1) := by decide +kernel
theorem dL_law__724 : decode cL_law_ 724 = .ok (.iconst 0, 1) := by decide +kernel
theorem dL_law__725 : decode cL_law_ 725 = .ok (.laload, 1) := by decide +kernel
theorem dL_law__726 : decode cL_law_ 726 = .ok (.iload 6, 2) := by decide +kernel
theorem dL_law__728 : decode cL_law_ 728 = .ok (.i2l, 1) := by decide +kernel
theorem dL_law__729 : decode cL_law_ 729 = .ok (.lcmp, 1) := by decide +kernel
theorem dL_law__730 : decode cL_law_ 730 = .ok (.ifCond .eq 5, 3) := by decide +kernel
theorem dL_law__733 : decode cL_law_ 733 = .ok (.iconst 0, 1) := by decide +kernel
theorem dL_law__734 : decode cL_law_ 734 = .ok (.ireturn, 1) := by decide +kernel
theorem dL_law__735 : decode cL_law_ 735 = .ok (.goto 837, 3) := by decide +kernel
theorem dL_law__738 : decode cL_law_ 738 = .ok (.aload_n 1, 1) := by decide +kernel
theorem dL_law__739 : decode cL_law_ 739 = .ok (.aload_n 0, 1) := by decide +kernel
theorem dL_law__740 : decode cL_law_ 740 = .ok (.iload 4, 2) := by decide +kernel
theorem dL_law__742 : decode cL_law_ 742 = .ok (.iconst 1, 1) := by decide +kernel
theorem dL_law__743 : decode cL_law_ 743 = .ok (.iadd, 1) := by decide +kernel
theorem dL_law__744 : decode cL_law_ 744 = .ok (.iaload, 1) := by decide +kernel
theorem dL_law__745 : decode cL_law_ 745 = .ok (.aload_n 0, 1) := by decide +kernel
theorem dL_law__746 : decode cL_law_ 746 = .ok (.iload 4, 2) := by decide +kernel
theorem dL_law__748 : decode cL_law_ 748 = .ok (.iconst 2, 1) := by decide +kernel
theorem dL_law__749 : decode cL_law_ 749 = .ok (.iadd, 1) := by decide +kernel
theorem dL_law__750 : decode cL_law_ 750 = .ok (.iaload, 1) := by decide +kernel
theorem dL_law__751 : decode cL_law_ 751 = .ok (.aload_n 3, 1) := by decide +kernel
theorem dL_law__752 : decode cL_law_ 752 = .ok (.invokestatic 131, 3) := by decide +kernel
theorem dL_law__755 : decode cL_law_ 755 = .ok (.istore 5, 2) := by decide +kernel
theorem dL_law__757 : decode cL_law_ 757 = .ok (.aload_n 2, 1) := by decide +kernel
theorem dL_law__758 : decode cL_law_ 758 = .ok (.aload_n 0, 1) := by decide +kernel
theorem dL_law__759 : decode cL_law_ 759 = .ok (.iload 4, 2) := by decide +kernel
theorem dL_law__761 : decode cL_law_ 761 = .ok (.iconst 1, 1) := by decide +kernel
theorem dL_law__762 : decode cL_law_ 762 = .ok (.iadd, 1) := by decide +kernel
theorem dL_law__763 : decode cL_law_ 763 = .ok (.iaload, 1) := by decide +kernel
theorem dL_law__764 : decode cL_law_ 764 = .ok (.aload_n 0, 1) := by decide +kernel
theorem dL_law__765 : decode cL_law_ 765 = .ok (.iload 4, 2) := by decide +kernel
theorem dL_law__767 : decode cL_law_ 767 = .ok (.iconst 2, 1) := by decide +kernel
theorem dL_law__768 : decode cL_law_ 768 = .ok (.iadd, 1) := by decide +kernel
theorem dL_law__769 : decode cL_law_ 769 = .ok (.iaload, 1) := by decide +kernel
theorem dL_law__770 : decode cL_law_ 770 = .ok (.invokevirtual 133, 3) := by decide +kernel
theorem dL_law__773 : decode cL_law_ 773 = .ok (.istore 6, 2) := by decide +kernel
theorem dL_law__775 : decode cL_law_ 775 = .ok (.aload_n 2, 1) := by decide +kernel
theorem dL_law__776 : decode cL_law_ 776 = .ok (.invokevirtual 101, 3) := by decide +kernel
theorem dL_law__779 : decode cL_law_ 779 = .ok (.iload 5, 2) := by decide +kernel
theorem dL_law__781 : decode cL_law_ 781 = .ok (.if_icmp .eq 5, 3) := by decide +kernel
theorem dL_law__784 : decode cL_law_ 784 = .ok (.iconst 0, 1) := by decide +kernel
theorem dL_law__785 : decode cL_law_ 785 = .ok (.ireturn, 1) := by decide +kernel
theorem dL_law__786 : decode cL_law_ 786 = .ok (.iload 5, 2) := by decide +kernel
theorem dL_law__788 : decode cL_law_ 788 = .ok (.ifCond .ne 15, 3) := by decide +kernel
theorem dL_law__791 : decode cL_law_ 791 = .ok (.aload_n 3, 1) := by decide +kernel
theorem dL_law__792 : decode cL_law_ 792 = .ok (.iconst 0, 1) := by decide +kernel
theorem dL_law__793 : decode cL_law_ 793 = .ok (.laload, 1) := by decide +kernel
theorem dL_law__794 : decode cL_law_ 794 = .ok (.iload 6, 2) := by decide +kernel
theorem dL_law__796 : decode cL_law_ 796 = .ok (.i2l, 1) := by decide +kernel
theorem dL_law__797 : decode cL_law_ 797 = .ok (.lcmp, 1) := by decide +kernel
theorem dL_law__798 : decode cL_law_ 798 = .ok (.ifCond .eq 5, 3) := by decide +kernel
theorem dL_law__801 : decode cL_law_ 801 = .ok (.iconst 0, 1) := by decide +kernel
theorem dL_law__802 : decode cL_law_ 802 = .ok (.ireturn, 1) := by decide +kernel
theorem dL_law__803 : decode cL_law_ 803 = .ok (.goto 769, 3) := by decide +kernel
theorem dL_law__806 : decode cL_law_ 806 = .ok (.aload_n 1, 1) := by decide +kernel
theorem dL_law__807 : decode cL_law_ 807 = .ok (.aload_n 0, 1) := by decide +kernel
theorem dL_law__808 : decode cL_law_ 808 = .ok (.iload 4, 2) := by decide +kernel
theorem dL_law__810 : decode cL_law_ 810 = .ok (.iconst 1, 1) := by decide +kernel
theorem dL_law__811 : decode cL_law_ 811 = .ok (.iadd, 1) := by decide +kernel
theorem dL_law__812 : decode cL_law_ 812 = .ok (.iaload, 1) := by decide +kernel
theorem dL_law__813 : decode cL_law_ 813 = .ok (.aload_n 0, 1) := by decide +kernel
theorem dL_law__814 : decode cL_law_ 814 = .ok (.iload 4, 2) := by decide +kernel
theorem dL_law__816 : decode cL_law_ 816 = .ok (.iconst 2, 1) := by decide +kernel
theorem dL_law__817 : decode cL_law_ 817 = .ok (.iadd, 1) := by decide +kernel
theorem dL_law__818 : decode cL_law_ 818 = .ok (.iaload, 1) := by decide +kernel
theorem dL_law__819 : decode cL_law_ 819 = .ok (.aload_n 3, 1) := by decide +kernel
theorem dL_law__820 : decode cL_law_ 820 = .ok (.invokestatic 134, 3) := by decide +kernel
theorem dL_law__823 : decode cL_law_ 823 = .ok (.istore 5, 2) := by decide +kernel
theorem dL_law__825 : decode cL_law_ 825 = .ok (.aload_n 2, 1) := by decide +kernel
theorem dL_law__826 : decode cL_law_ 826 = .ok (.aload_n 0, 1) := by decide +kernel
theorem dL_law__827 : decode cL_law_ 827 = .ok (.iload 4, 2) := by decide +kernel
theorem dL_law__829 : decode cL_law_ 829 = .ok (.iconst 1, 1) := by decide +kernel
theorem dL_law__830 : decode cL_law_ 830 = .ok (.iadd, 1) := by decide +kernel
theorem dL_law__831 : decode cL_law_ 831 = .ok (.iaload, 1) := by decide +kernel
theorem dL_law__832 : decode cL_law_ 832 = .ok (.aload_n 0, 1) := by decide +kernel
theorem dL_law__833 : decode cL_law_ 833 = .ok (.iload 4, 2) := by decide +kernel
theorem dL_law__835 : decode cL_law_ 835 = .ok (.iconst 2, 1) := by decide +kernel
theorem dL_law__836 : decode cL_law_ 836 = .ok (.iadd, 1) := by decide +kernel
theorem dL_law__837 : decode cL_law_ 837 = .ok (.iaload, 1) := by decide +kernel
theorem dL_law__838 : decode cL_law_ 838 = .ok (.invokevirtual 136, 3) := by decide +kernel
theorem dL_law__841 : decode cL_law_ 841 = .ok (.istore 6, 2) := by decide +kernel
theorem dL_law__843 : decode cL_law_ 843 = .ok (.aload_n 2, 1) := by decide +kernel
theorem dL_law__844 : decode cL_law_ 844 = .ok (.invokevirtual 101, 3) := by decide +kernel
theorem dL_law__847 : decode cL_law_ 847 = .ok (.iload 5, 2) := by decide +kernel
theorem dL_law__849 : decode cL_law_ 849 = .ok (.if_icmp .eq 5, 3) := by decide +kernel
theorem dL_law__852 : decode cL_law_ 852 = .ok (.iconst 0, 1) := by decide +kernel
theorem dL_law__853 : decode cL_law_ 853 = .ok (.ireturn, 1) := by decide +kernel
theorem dL_law__854 : decode cL_law_ 854 = .ok (.iload 5, 2) := by decide +kernel
theorem dL_law__856 : decode cL_law_ 856 = .ok (.ifCond .ne 15, 3) := by decide +kernel
theorem dL_law__859 : decode cL_law_ 859 = .ok (.aload_n 3, 1) := by decide +kernel
theorem dL_law__860 : decode cL_law_ 860 = .ok (.iconst 0, 1) := by decide +kernel
theorem dL_law__861 : decode cL_law_ 861 = .ok (.laload, 1) := by decide +kernel
theorem dL_law__862 : decode cL_law_ 862 = .ok (.iload 6, 2) := by decide +kernel
theorem dL_law__864 : decode cL_law_ 864 = .ok (.i2l, 1) := by decide +kernel
theorem dL_law__865 : decode cL_law_ 865 = .ok (.lcmp, 1) := by decide +kernel
theorem dL_law__866 : decode cL_law_ 866 = .ok (.ifCond .eq 5, 3) := by decide +kernel
theorem dL_law__869 : decode cL_law_ 869 = .ok (.iconst 0, 1) := by decide +kernel
theorem dL_law__870 : decode cL_law_ 870 = .ok (.ireturn, 1) := by decide +kernel
theorem dL_law__871 : decode cL_law_ 871 = .ok (.goto 701, 3) := by decide +kernel
theorem dL_law__874 : decode cL_law_ 874 = .ok (.aload_n 1, 1) := by decide +kernel
theorem dL_law__875 : decode cL_law_ 875 = .ok (.aload_n 0, 1) := by decide +kernel
theorem dL_law__876 : decode cL_law_ 876 = .ok (.iload 4, 2) := by decide +kernel
theorem dL_law__878 : decode cL_law_ 878 = .ok (.iconst 1, 1) := by decide +kernel
theorem dL_law__879 : decode cL_law_ 879 = .ok (.iadd, 1) := by decide +kernel
theorem dL_law__880 : decode cL_law_ 880 = .ok (.iaload, 1) := by decide +kernel
theorem dL_law__881 : decode cL_law_ 881 = .ok (.aload_n 3, 1) := by decide +kernel
theorem dL_law__882 : decode cL_law_ 882 = .ok (.invokestatic 137, 3) := by decide +kernel
theorem dL_law__885 : decode cL_law_ 885 = .ok (.istore 5, 2) := by decide +kernel
theorem dL_law__887 : decode cL_law_ 887 = .ok (.aload_n 2, 1) := by decide +kernel
theorem dL_law__888 : decode cL_law_ 888 = .ok (.aload_n 0, 1) := by decide +kernel
theorem dL_law__889 : decode cL_law_ 889 = .ok (.iload 4, 2) := by decide +kernel
theorem dL_law__891 : decode cL_law_ 891 = .ok (.iconst 1, 1) := by decide +kernel
theorem dL_law__892 : decode cL_law_ 892 = .ok (.iadd, 1) := by decide +kernel
theorem dL_law__893 : decode cL_law_ 893 = .ok (.iaload, 1) := by decide +kernel
theorem dL_law__894 : decode cL_law_ 894 = .ok (.invokevirtual 139, 3) := by decide +kernel
theorem dL_law__897 : decode cL_law_ 897 = .ok (.istore 6, 2) := by decide +kernel
theorem dL_law__899 : decode cL_law_ 899 = .ok (.aload_n 2, 1) := by decide +kernel
theorem dL_law__900 : decode cL_law_ 900 = .ok (.invokevirtual 101, 3) := by decide +kernel
theorem dL_law__903 : decode cL_law_ 903 = .ok (.iload 5, 2) := by decide +kernel
theorem dL_law__905 : decode cL_law_ 905 = .ok (.if_icmp .eq 5, 3) := by decide +kernel
theorem dL_law__908 : decode cL_law_ 908 = .ok (.iconst 0, 1) := by decide +kernel
theorem dL_law__909 : decode cL_law_ 909 = .ok (.ireturn, 1) := by decide +kernel
theorem dL_law__910 : decode cL_law_ 910 = .ok (.iload 5, 2) := by decide +kernel
theorem dL_law__912 : decode cL_law_ 912 = .ok (.ifCond .ne 15, 3) := by decide +kernel
theorem dL_law__915 : decode cL_law_ 915 = .ok (.aload_n 3, 1) := by decide +kernel
theorem dL_law__916 : decode cL_law_ 916 = .ok (.iconst 0, 1) := by decide +kernel
theorem dL_law__917 : decode cL_law_ 917 = .ok (.laload, 1) := by decide +kernel
theorem dL_law__918 : decode cL_law_ 918 = .ok (.iload 6, 2) := by decide +kernel
theorem dL_law__920 : decode cL_law_ 920 = .ok (.i2l, 1) := by decide +kernel
theorem dL_law__921 : decode cL_law_ 921 = .ok (.lcmp, 1) := by decide +kernel
theorem dL_law__922 : decode cL_law_ 922 = .ok (.ifCond .eq 5, 3) := by decide +kernel
theorem dL_law__925 : decode cL_law_ 925 = .ok (.iconst 0, 1) := by decide +kernel
theorem dL_law__926 : decode cL_law_ 926 = .ok (.ireturn, 1) := by decide +kernel
theorem dL_law__927 : decode cL_law_ 927 = .ok (.goto 645, 3) := by decide +kernel
theorem dL_law__930 : decode cL_law_ 930 = .ok (.aload_n 1, 1) := by decide +kernel
theorem dL_law__931 : decode cL_law_ 931 = .ok (.aload_n 0, 1) := by decide +kernel
theorem dL_law__932 : decode cL_law_ 932 = .ok (.iload 4, 2) := by decide +kernel
theorem dL_law__934 : decode cL_law_ 934 = .ok (.iconst 1, 1) := by decide +kernel
theorem dL_law__935 : decode cL_law_ 935 = .ok (.iadd, 1) := by decide +kernel
theorem dL_law__936 : decode cL_law_ 936 = .ok (.iaload, 1) := by decide +kernel
theorem dL_law__937 : decode cL_law_ 937 = .ok (.aload_n 0, 1) := by decide +kernel
theorem dL_law__938 : decode cL_law_ 938 = .ok (.iload 4, 2) := by decide +kernel
theorem dL_law__940 : decode cL_law_ 940 = .ok (.iconst 2, 1) := by decide +kernel
theorem dL_law__941 : decode cL_law_ 941 = .ok (.iadd, 1) := by decide +kernel
theorem dL_law__942 : decode cL_law_ 942 = .ok (.iaload, 1) := by decide +kernel
theorem dL_law__943 : decode cL_law_ 943 = .ok (.aload_n 3, 1) := by decide +kernel
theorem dL_law__944 : decode cL_law_ 944 = .ok (.invokestatic 140, 3) := by decide +kernel
theorem dL_law__947 : decode cL_law_ 947 = .ok (.istore 5, 2) := by decide +kernel
theorem dL_law__949 : decode cL_law_ 949 = .ok (.aload_n 2, 1) := by decide +kernel
theorem dL_law__950 : decode cL_law_ 950 = .ok (.aload_n 0, 1) := by decide +kernel
theorem dL_law__951 : decode cL_law_ 951 = .ok (.iload 4, 2) := by decide +kernel
theorem dL_law__953 : decode cL_law_ 953 = .ok (.iconst 1, 1) := by decide +kernel
theorem dL_law__954 : decode cL_law_ 954 = .ok (.iadd, 1) := by decide +kernel
theorem dL_law__955 : decode cL_law_ 955 = .ok (.iaload, 1) := by decide +kernel
theorem dL_law__956 : decode cL_law_ 956 = .ok (.aload_n 0, 1) := by decide +kernel
theorem dL_law__957 : decode cL_law_ 957 = .ok (.iload 4, 2) := by decide +kernel
theorem dL_law__959 : decode cL_law_ 959 = .ok (.iconst 2, 1) := by decide +kernel
theorem dL_law__960 : decode cL_law_ 960 = .ok (.iadd, 1) := by decide +kernel
theorem dL_law__961 : decode cL_law_ 961 = .ok (.iaload, 1) := by decide +kernel
theorem dL_law__962 : decode cL_law_ 962 = .ok (.invokevirtual 142, 3) := by decide +kernel
theorem dL_law__965 : decode cL_law_ 965 = .ok (.istore 6, 2) := by decide +kernel
theorem dL_law__967 : decode cL_law_ 967 = .ok (.aload_n 2, 1) := by decide +kernel
theorem dL_law__968 : decode cL_law_ 968 = .ok (.invokevirtual 101, 3) := by decide +kernel
theorem dL_law__971 : decode cL_law_ 971 = .ok (.iload 5, 2) := by decide +kernel
theorem dL_law__973 : decode cL_law_ 973 = .ok (.if_icmp .eq 5, 3) := by decide +kernel
theorem dL_law__976 : decode cL_law_ 976 = .ok (.iconst 0, 1) := by decide +kernel
theorem dL_law__977 : decode cL_law_ 977 = .ok (.ireturn, 1) := by decide +kernel
theorem dL_law__978 : decode cL_law_ 978 = .ok (.iload 5, 2) := by decide +kernel
theorem dL_law__980 : decode cL_law_ 980 = .ok (.ifCond .ne 22, 3) := by decide +kernel
theorem dL_law__983 : decode cL_law_ 983 = .ok (.aload_n 3, 1) := by decide +kernel
theorem dL_law__984 : decode cL_law_ 984 = .ok (.iconst 0, 1) := by decide +kernel
theorem dL_law__985 : decode cL_law_ 985 = .ok (.laload, 1) := by decide +kernel
theorem dL_law__986 : decode cL_law_ 986 = .ok (.iload 6, 2) := by decide +kernel
theorem dL_law__988 : decode cL_law_ 988 = .ok (.ifCond .eq 7, 3) := by decide +kernel
theorem dL_law__991 : decode cL_law_ 991 = .ok (.lconst 1, 1) := by decide +kernel
theorem dL_law__992 : decode cL_law_ 992 = .ok (.goto 4, 3) := by decide +kernel
theorem dL_law__995 : decode cL_law_ 995 = .ok (.lconst 0, 1) := by decide +kernel
theorem dL_law__996 : decode cL_law_ 996 = .ok (.lcmp, 1) := by decide +kernel
theorem dL_law__997 : decode cL_law_ 997 = .ok (.ifCond .eq 5, 3) := by decide +kernel
theorem dL_law__1000 : decode cL_law_ 1000 = .ok (.iconst 0, 1) := by decide +kernel
theorem dL_law__1001 : decode cL_law_ 1001 = .ok (.ireturn, 1) := by decide +kernel
theorem dL_law__1002 : decode cL_law_ 1002 = .ok (.goto 570, 3) := by decide +kernel
theorem dL_law__1005 : decode cL_law_ 1005 = .ok (.aload_n 1, 1) := by decide +kernel
theorem dL_law__1006 : decode cL_law_ 1006 = .ok (.aload_n 0, 1) := by decide +kernel
theorem dL_law__1007 : decode cL_law_ 1007 = .ok (.iload 4, 2) := by decide +kernel
theorem dL_law__1009 : decode cL_law_ 1009 = .ok (.iconst 1, 1) := by decide +kernel
theorem dL_law__1010 : decode cL_law_ 1010 = .ok (.iadd, 1) := by decide +kernel
theorem dL_law__1011 : decode cL_law_ 1011 = .ok (.iaload, 1) := by decide +kernel
theorem dL_law__1012 : decode cL_law_ 1012 = .ok (.aload_n 0, 1) := by decide +kernel
theorem dL_law__1013 : decode cL_law_ 1013 = .ok (.iload 4, 2) := by decide +kernel
theorem dL_law__1015 : decode cL_law_ 1015 = .ok (.iconst 2, 1) := by decide +kernel
theorem dL_law__1016 : decode cL_law_ 1016 = .ok (.iadd, 1) := by decide +kernel
theorem dL_law__1017 : decode cL_law_ 1017 = .ok (.iaload, 1) := by decide +kernel
theorem dL_law__1018 : decode cL_law_ 1018 = .ok (.aload_n 0, 1) := by decide +kernel
theorem dL_law__1019 : decode cL_law_ 1019 = .ok (.iload 4, 2) := by decide +kernel
theorem dL_law__1021 : decode cL_law_ 1021 = .ok (.iconst 3, 1) := by decide +kernel
theorem dL_law__1022 : decode cL_law_ 1022 = .ok (.iadd, 1) := by decide +kernel
theorem dL_law__1023 : decode cL_law_ 1023 = .ok (.iaload, 1) := by decide +kernel
theorem dL_law__1024 : decode cL_law_ 1024 = .ok (.aload_n 3, 1) := by decide +kernel
theorem dL_law__1025 : decode cL_law_ 1025 = .ok (.invokestatic 143, 3) := by decide +kernel
theorem dL_law__1028 : decode cL_law_ 1028 = .ok (.istore 5, 2) := by decide +kernel
theorem dL_law__1030 : decode cL_law_ 1030 = .ok (.aload_n 2, 1) := by decide +kernel
theorem dL_law__1031 : decode cL_law_ 1031 = .ok (.aload_n 0, 1) := by decide +kernel
theorem dL_law__1032 : decode cL_law_ 1032 = .ok (.iload 4, 2) := by decide +kernel
theorem dL_law__1034 : decode cL_law_ 1034 = .ok (.iconst 1, 1) := by decide +kernel
theorem dL_law__1035 : decode cL_law_ 1035 = .ok (.iadd, 1) := by decide +kernel
theorem dL_law__1036 : decode cL_law_ 1036 = .ok (.iaload, 1) := by decide +kernel
theorem dL_law__1037 : decode cL_law_ 1037 = .ok (.aload_n 0, 1) := by decide +kernel
theorem dL_law__1038 : decode cL_law_ 1038 = .ok (.iload 4, 2) := by decide +kernel
theorem dL_law__1040 : decode cL_law_ 1040 = .ok (.iconst 2, 1) := by decide +kernel
theorem dL_law__1041 : decode cL_law_ 1041 = .ok (.iadd, 1) := by decide +kernel
theorem dL_law__1042 : decode cL_law_ 1042 = .ok (.iaload, 1) := by decide +kernel
theorem dL_law__1043 : decode cL_law_ 1043 = .ok (.aload_n 0, 1) := by decide +kernel
theorem dL_law__1044 : decode cL_law_ 1044 = .ok (.iload 4, 2) := by decide +kernel
theorem dL_law__1046 : decode cL_law_ 1046 = .ok (.iconst 3, 1) := by decide +kernel
theorem dL_law__1047 : decode cL_law_ 1047 = .ok (.iadd, 1) := by decide +kernel
theorem dL_law__1048 : decode cL_law_ 1048 = .ok (.iaload, 1) := by decide +kernel
theorem dL_law__1049 : decode cL_law_ 1049 = .ok (.invokevirtual 146, 3) := by decide +kernel
theorem dL_law__1052 : decode cL_law_ 1052 = .ok (.istore 6, 2) := by decide +kernel
theorem dL_law__1054 : decode cL_law_ 1054 = .ok (.aload_n 2, 1) := by decide +kernel
theorem dL_law__1055 : decode cL_law_ 1055 = .ok (.invokevirtual 101, 3) := by decide +kernel
theorem dL_law__1058 : decode cL_law_ 1058 = .ok (.iload 5, 2) := by decide +kernel
theorem dL_law__1060 : decode cL_law_ 1060 = .ok (.if_icmp .eq 5, 3) := by decide +kernel
theorem dL_law__1063 : decode cL_law_ 1063 = .ok (.iconst 0, 1) := by decide +kernel
theorem dL_law__1064 : decode cL_law_ 1064 = .ok (.ireturn, 1) := by decide +kernel
theorem dL_law__1065 : decode cL_law_ 1065 = .ok (.iload 5, 2) := by decide +kernel
theorem dL_law__1067 : decode cL_law_ 1067 = .ok (.ifCond .ne 22, 3) := by decide +kernel
theorem dL_law__1070 : decode cL_law_ 1070 = .ok (.aload_n 3, 1) := by decide +kernel
theorem dL_law__1071 : decode cL_law_ 1071 = .ok (.iconst 0, 1) := by decide +kernel
theorem dL_law__1072 : decode cL_law_ 1072 = .ok (.laload, 1) := by decide +kernel
theorem dL_law__1073 : decode cL_law_ 1073 = .ok (.iload 6, 2) := by decide +kernel
theorem dL_law__1075 : decode cL_law_ 1075 = .ok (.ifCond .eq 7, 3) := by decide +kernel
theorem dL_law__1078 : decode cL_law_ 1078 = .ok (.lconst 1, 1) := by decide +kernel
theorem dL_law__1079 : decode cL_law_ 1079 = .ok (.goto 4, 3) := by decide +kernel
theorem dL_law__1082 : decode cL_law_ 1082 = .ok (.lconst 0, 1) := by decide +kernel
theorem dL_law__1083 : decode cL_law_ 1083 = .ok (.lcmp, 1) := by decide +kernel
theorem dL_law__1084 : decode cL_law_ 1084 = .ok (.ifCond .eq 5, 3) := by decide +kernel
theorem dL_law__1087 : decode cL_law_ 1087 = .ok (.iconst 0, 1) := by decide +kernel
theorem dL_law__1088 : decode cL_law_ 1088 = .ok (.ireturn, 1) := by decide +kernel
theorem dL_law__1089 : decode cL_law_ 1089 = .ok (.goto 483, 3) := by decide +kernel
theorem dL_law__1092 : decode cL_law_ 1092 = .ok (.aload_n 1, 1) := by decide +kernel
theorem dL_law__1093 : decode cL_law_ 1093 = .ok (.aload_n 0, 1) := by decide +kernel
theorem dL_law__1094 : decode cL_law_ 1094 = .ok (.iload 4, 2) := by decide +kernel
theorem dL_law__1096 : decode cL_law_ 1096 = .ok (.iconst 1, 1) := by decide +kernel
theorem dL_law__1097 : decode cL_law_ 1097 = .ok (.iadd, 1) := by decide +kernel
theorem dL_law__1098 : decode cL_law_ 1098 = .ok (.iaload, 1) := by decide +kernel
theorem dL_law__1099 : decode cL_law_ 1099 = .ok (.aload_n 3, 1) := by decide +kernel
theorem dL_law__1100 : decode cL_law_ 1100 = .ok (.invokestatic 147, 3) := by decide +kernel
theorem dL_law__1103 : decode cL_law_ 1103 = .ok (.istore 5, 2) := by decide +kernel
theorem dL_law__1105 : decode cL_law_ 1105 = .ok (.aload_n 2, 1) := by decide +kernel
theorem dL_law__1106 : decode cL_law_ 1106 = .ok (.aload_n 0, 1) := by decide +kernel
theorem dL_law__1107 : decode cL_law_ 1107 = .ok (.iload 4, 2) := by decide +kernel
theorem dL_law__1109 : decode cL_law_ 1109 = .ok (.iconst 1, 1) := by decide +kernel
theorem dL_law__1110 : decode cL_law_ 1110 = .ok (.iadd, 1) := by decide +kernel
theorem dL_law__1111 : decode cL_law_ 1111 = .ok (.iaload, 1) := by decide +kernel
theorem dL_law__1112 : decode cL_law_ 1112 = .ok (.invokevirtual 149, 3) := by decide +kernel
theorem dL_law__1115 : decode cL_law_ 1115 = .ok (.istore 6, 2) := by decide +kernel
theorem dL_law__1117 : decode cL_law_ 1117 = .ok (.aload_n 2, 1) := by decide +kernel
theorem dL_law__1118 : decode cL_law_ 1118 = .ok (.invokevirtual 101, 3) := by decide +kernel
theorem dL_law__1121 : decode cL_law_ 1121 = .ok (.iload 5, 2) := by decide +kernel
theorem dL_law__1123 : decode cL_law_ 1123 = .ok (.if_icmp .eq 5, 3) := by decide +kernel
theorem dL_law__1126 : decode cL_law_ 1126 = .ok (.iconst 0, 1) := by decide +kernel
theorem dL_law__1127 : decode cL_law_ 1127 = .ok (.ireturn, 1) := by decide +kernel
theorem dL_law__1128 : decode cL_law_ 1128 = .ok (.iload 5, 2) := by decide +kernel
theorem dL_law__1130 : decode cL_law_ 1130 = .ok (.ifCond .ne 15, 3) := by decide +kernel
theorem dL_law__1133 : decode cL_law_ 1133 = .ok (.aload_n 3, 1) := by decide +kernel
theorem dL_law__1134 : decode cL_law_ 1134 = .ok (.iconst 0, 1) := by decide +kernel
theorem dL_law__1135 : decode cL_law_ 1135 = .ok (.laload, 1) := by decide +kernel
theorem dL_law__1136 : decode cL_law_ 1136 = .ok (.iload 6, 2) := by decide +kernel
theorem dL_law__1138 : decode cL_law_ 1138 = .ok (.i2l, 1) := by decide +kernel
theorem dL_law__1139 : decode cL_law_ 1139 = .ok (.lcmp, 1) := by decide +kernel
theorem dL_law__1140 : decode cL_law_ 1140 = .ok (.ifCond .eq 5, 3) := by decide +kernel
theorem dL_law__1143 : decode cL_law_ 1143 = .ok (.iconst 0, 1) := by decide +kernel
theorem dL_law__1144 : decode cL_law_ 1144 = .ok (.ireturn, 1) := by decide +kernel
theorem dL_law__1145 : decode cL_law_ 1145 = .ok (.goto 427, 3) := by decide +kernel
theorem dL_law__1148 : decode cL_law_ 1148 = .ok (.aload_n 1, 1) := by decide +kernel
theorem dL_law__1149 : decode cL_law_ 1149 = .ok (.aload_n 0, 1) := by decide +kernel
theorem dL_law__1150 : decode cL_law_ 1150 = .ok (.iload 4, 2) := by decide +kernel
theorem dL_law__1152 : decode cL_law_ 1152 = .ok (.iconst 1, 1) := by decide +kernel
theorem dL_law__1153 : decode cL_law_ 1153 = .ok (.iadd, 1) := by decide +kernel
theorem dL_law__1154 : decode cL_law_ 1154 = .ok (.iaload, 1) := by decide +kernel
theorem dL_law__1155 : decode cL_law_ 1155 = .ok (.aload_n 0, 1) := by decide +kernel
theorem dL_law__1156 : decode cL_law_ 1156 = .ok (.iload 4, 2) := by decide +kernel
theorem dL_law__1158 : decode cL_law_ 1158 = .ok (.iconst 2, 1) := by decide +kernel
theorem dL_law__1159 : decode cL_law_ 1159 = .ok (.iadd, 1) := by decide +kernel
theorem dL_law__1160 : decode cL_law_ 1160 = .ok (.iaload, 1) := by decide +kernel
theorem dL_law__1161 : decode cL_law_ 1161 = .ok (.aload_n 3, 1) := by decide +kernel
theorem dL_law__1162 : decode cL_law_ 1162 = .ok (.invokestatic 150, 3) := by decide +kernel
theorem dL_law__1165 : decode cL_law_ 1165 = .ok (.istore 5, 2) := by decide +kernel
theorem dL_law__1167 : decode cL_law_ 1167 = .ok (.aload_n 2, 1) := by decide +kernel
theorem dL_law__1168 : decode cL_law_ 1168 = .ok (.aload_n 0, 1) := by decide +kernel
theorem dL_law__1169 : decode cL_law_ 1169 = .ok (.iload 4, 2) := by decide +kernel
theorem dL_law__1171 : decode cL_law_ 1171 = .ok (.iconst 1, 1) := by decide +kernel
theorem dL_law__1172 : decode cL_law_ 1172 = .ok (.iadd, 1) := by decide +kernel
theorem dL_law__1173 : decode cL_law_ 1173 = .ok (.iaload, 1) := by decide +kernel
theorem dL_law__1174 : decode cL_law_ 1174 = .ok (.aload_n 0, 1) := by decide +kernel
theorem dL_law__1175 : decode cL_law_ 1175 = .ok (.iload 4, 2) := by decide +kernel
theorem dL_law__1177 : decode cL_law_ 1177 = .ok (.iconst 2, 1) := by decide +kernel
theorem dL_law__1178 : decode cL_law_ 1178 = .ok (.iadd, 1) := by decide +kernel
theorem dL_law__1179 : decode cL_law_ 1179 = .ok (.iaload, 1) := by decide +kernel
theorem dL_law__1180 : decode cL_law_ 1180 = .ok (.invokevirtual 152, 3) := by decide +kernel
theorem dL_law__1183 : decode cL_law_ 1183 = .ok (.istore 6, 2) := by decide +kernel
theorem dL_law__1185 : decode cL_law_ 1185 = .ok (.aload_n 2, 1) := by decide +kernel
theorem dL_law__1186 : decode cL_law_ 1186 = .ok (.invokevirtual 101, 3) := by decide +kernel
theorem dL_law__1189 : decode cL_law_ 1189 = .ok (.iload 5, 2) := by decide +kernel
theorem dL_law__1191 : decode cL_law_ 1191 = .ok (.if_icmp .eq 5, 3) := by decide +kernel
theorem dL_law__1194 : decode cL_law_ 1194 = .ok (.iconst 0, 1) := by decide +kernel
theorem dL_law__1195 : decode cL_law_ 1195 = .ok (.ireturn, 1) := by decide +kernel
theorem dL_law__1196 : decode cL_law_ 1196 = .ok (.iload 5, 2) := by decide +kernel
theorem dL_law__1198 : decode cL_law_ 1198 = .ok (.ifCond .ne 15, 3) := by decide +kernel
theorem dL_law__1201 : decode cL_law_ 1201 = .ok (.aload_n 3, 1) := by decide +kernel
theorem dL_law__1202 : decode cL_law_ 1202 = .ok (.iconst 0, 1) := by decide +kernel
theorem dL_law__1203 : decode cL_law_ 1203 = .ok (.laload, 1) := by decide +kernel
theorem dL_law__1204 : decode cL_law_ 1204 = .ok (.iload 6, 2) := by decide +kernel
theorem dL_law__1206 : decode cL_law_ 1206 = .ok (.i2l, 1) := by decide +kernel
theorem dL_law__1207 : decode cL_law_ 1207 = .ok (.lcmp, 1) := by decide +kernel
theorem dL_law__1208 : decode cL_law_ 1208 = .ok (.ifCond .eq 5, 3) := by decide +kernel
theorem dL_law__1211 : decode cL_law_ 1211 = .ok (.iconst 0, 1) := by decide +kernel
theorem dL_law__1212 : decode cL_law_ 1212 = .ok (.ireturn, 1) := by decide +kernel
theorem dL_law__1213 : decode cL_law_ 1213 = .ok (.goto 359, 3) := by decide +kernel
theorem dL_law__1216 : decode cL_law_ 1216 = .ok (.aload_n 1, 1) := by decide +kernel
theorem dL_law__1217 : decode cL_law_ 1217 = .ok (.aload_n 0, 1) := by decide +kernel
theorem dL_law__1218 : decode cL_law_ 1218 = .ok (.iload 4, 2) := by decide +kernel
theorem dL_law__1220 : decode cL_law_ 1220 = .ok (.iconst 1, 1) := by decide +kernel
theorem dL_law__1221 : decode cL_law_ 1221 = .ok (.iadd, 1) := by decide +kernel
theorem dL_law__1222 : decode cL_law_ 1222 = .ok (.iaload, 1) := by decide +kernel
theorem dL_law__1223 : decode cL_law_ 1223 = .ok (.aload_n 0, 1) := by decide +kernel
theorem dL_law__1224 : decode cL_law_ 1224 = .ok (.iload 4, 2) := by decide +kernel
theorem dL_law__1226 : decode cL_law_ 1226 = .ok (.iconst 2, 1) := by decide +kernel
theorem dL_law__1227 : decode cL_law_ 1227 = .ok (.iadd, 1) := by decide +kernel
theorem dL_law__1228 : decode cL_law_ 1228 = .ok (.iaload, 1) := by decide +kernel
theorem dL_law__1229 : decode cL_law_ 1229 = .ok (.aload_n 0, 1) := by decide +kernel
theorem dL_law__1230 : decode cL_law_ 1230 = .ok (.iload 4, 2) := by decide +kernel
theorem dL_law__1232 : decode cL_law_ 1232 = .ok (.iconst 3, 1) := by decide +kernel
theorem dL_law__1233 : decode cL_law_ 1233 = .ok (.iadd, 1) := by decide +kernel
theorem dL_law__1234 : decode cL_law_ 1234 = .ok (.iaload, 1) := by decide +kernel
theorem dL_law__1235 : decode cL_law_ 1235 = .ok (.invokestatic 153, 3) := by decide +kernel
theorem dL_law__1238 : decode cL_law_ 1238 = .ok (.istore 5, 2) := by decide +kernel
theorem dL_law__1240 : decode cL_law_ 1240 = .ok (.aload_n 2, 1) := by decide +kernel
theorem dL_law__1241 : decode cL_law_ 1241 = .ok (.aload_n 0, 1) := by decide +kernel
theorem dL_law__1242 : decode cL_law_ 1242 = .ok (.iload 4, 2) := by decide +kernel
theorem dL_law__1244 : decode cL_law_ 1244 = .ok (.iconst 1, 1) := by decide +kernel
theorem dL_law__1245 : decode cL_law_ 1245 = .ok (.iadd, 1) := by decide +kernel
theorem dL_law__1246 : decode cL_law_ 1246 = .ok (.iaload, 1) := by decide +kernel
theorem dL_law__1247 : decode cL_law_ 1247 = .ok (.aload_n 0, 1) := by decide +kernel
theorem dL_law__1248 : decode cL_law_ 1248 = .ok (.iload 4, 2) := by decide +kernel
theorem dL_law__1250 : decode cL_law_ 1250 = .ok (.iconst 2, 1) := by decide +kernel
theorem dL_law__1251 : decode cL_law_ 1251 = .ok (.iadd, 1) := by decide +kernel
theorem dL_law__1252 : decode cL_law_ 1252 = .ok (.iaload, 1) := by decide +kernel
theorem dL_law__1253 : decode cL_law_ 1253 = .ok (.aload_n 0, 1) := by decide +kernel
theorem dL_law__1254 : decode cL_law_ 1254 = .ok (.iload 4, 2) := by decide +kernel
theorem dL_law__1256 : decode cL_law_ 1256 = .ok (.iconst 3, 1) := by decide +kernel
theorem dL_law__1257 : decode cL_law_ 1257 = .ok (.iadd, 1) := by decide +kernel
theorem dL_law__1258 : decode cL_law_ 1258 = .ok (.iaload, 1) := by decide +kernel
theorem dL_law__1259 : decode cL_law_ 1259 = .ok (.invokevirtual 156, 3) := by decide +kernel
theorem dL_law__1262 : decode cL_law_ 1262 = .ok (.aload_n 2, 1) := by decide +kernel
theorem dL_law__1263 : decode cL_law_ 1263 = .ok (.invokevirtual 101, 3) := by decide +kernel
theorem dL_law__1266 : decode cL_law_ 1266 = .ok (.iload 5, 2) := by decide +kernel
theorem dL_law__1268 : decode cL_law_ 1268 = .ok (.if_icmp .eq 5, 3) := by decide +kernel
theorem dL_law__1271 : decode cL_law_ 1271 = .ok (.iconst 0, 1) := by decide +kernel
theorem dL_law__1272 : decode cL_law_ 1272 = .ok (.ireturn, 1) := by decide +kernel
theorem dL_law__1273 : decode cL_law_ 1273 = .ok (.goto 299, 3) := by decide +kernel
theorem dL_law__1276 : decode cL_law_ 1276 = .ok (.aload_n 1, 1) := by decide +kernel
theorem dL_law__1277 : decode cL_law_ 1277 = .ok (.aload_n 0, 1) := by decide +kernel
theorem dL_law__1278 : decode cL_law_ 1278 = .ok (.iload 4, 2) := by decide +kernel
theorem dL_law__1280 : decode cL_law_ 1280 = .ok (.iconst 1, 1) := by decide +kernel
theorem dL_law__1281 : decode cL_law_ 1281 = .ok (.iadd, 1) := by decide +kernel
theorem dL_law__1282 : decode cL_law_ 1282 = .ok (.iaload, 1) := by decide +kernel
theorem dL_law__1283 : decode cL_law_ 1283 = .ok (.aload_n 0, 1) := by decide +kernel
theorem dL_law__1284 : decode cL_law_ 1284 = .ok (.iload 4, 2) := by decide +kernel
theorem dL_law__1286 : decode cL_law_ 1286 = .ok (.iconst 2, 1) := by decide +kernel
theorem dL_law__1287 : decode cL_law_ 1287 = .ok (.iadd, 1) := by decide +kernel
theorem dL_law__1288 : decode cL_law_ 1288 = .ok (.iaload, 1) := by decide +kernel
theorem dL_law__1289 : decode cL_law_ 1289 = .ok (.aload_n 0, 1) := by decide +kernel
theorem dL_law__1290 : decode cL_law_ 1290 = .ok (.iload 4, 2) := by decide +kernel
theorem dL_law__1292 : decode cL_law_ 1292 = .ok (.iconst 3, 1) := by decide +kernel
theorem dL_law__1293 : decode cL_law_ 1293 = .ok (.iadd, 1) := by decide +kernel
theorem dL_law__1294 : decode cL_law_ 1294 = .ok (.iaload, 1) := by decide +kernel
theorem dL_law__1295 : decode cL_law_ 1295 = .ok (.aload_n 3, 1) := by decide +kernel
theorem dL_law__1296 : decode cL_law_ 1296 = .ok (.invokestatic 157, 3) := by decide +kernel
theorem dL_law__1299 : decode cL_law_ 1299 = .ok (.istore 5, 2) := by decide +kernel
theorem dL_law__1301 : decode cL_law_ 1301 = .ok (.aload_n 2, 1) := by decide +kernel
theorem dL_law__1302 : decode cL_law_ 1302 = .ok (.aload_n 0, 1) := by decide +kernel
theorem dL_law__1303 : decode cL_law_ 1303 = .ok (.iload 4, 2) := by decide +kernel
theorem dL_law__1305 : decode cL_law_ 1305 = .ok (.iconst 1, 1) := by decide +kernel
theorem dL_law__1306 : decode cL_law_ 1306 = .ok (.iadd, 1) := by decide +kernel
theorem dL_law__1307 : decode cL_law_ 1307 = .ok (.iaload, 1) := by decide +kernel
theorem dL_law__1308 : decode cL_law_ 1308 = .ok (.aload_n 0, 1) := by decide +kernel
theorem dL_law__1309 : decode cL_law_ 1309 = .ok (.iload 4, 2) := by decide +kernel
theorem dL_law__1311 : decode cL_law_ 1311 = .ok (.iconst 2, 1) := by decide +kernel
theorem dL_law__1312 : decode cL_law_ 1312 = .ok (.iadd, 1) := by decide +kernel
theorem dL_law__1313 : decode cL_law_ 1313 = .ok (.iaload, 1) := by decide +kernel
theorem dL_law__1314 : decode cL_law_ 1314 = .ok (.aload_n 0, 1) := by decide +kernel
theorem dL_law__1315 : decode cL_law_ 1315 = .ok (.iload 4, 2) := by decide +kernel
theorem dL_law__1317 : decode cL_law_ 1317 = .ok (.iconst 3, 1) := by decide +kernel
theorem dL_law__1318 : decode cL_law_ 1318 = .ok (.iadd, 1) := by decide +kernel
theorem dL_law__1319 : decode cL_law_ 1319 = .ok (.iaload, 1) := by decide +kernel
theorem dL_law__1320 : decode cL_law_ 1320 = .ok (.invokevirtual 159, 3) := by decide +kernel
theorem dL_law__1323 : decode cL_law_ 1323 = .ok (.istore 6, 2) := by decide +kernel
theorem dL_law__1325 : decode cL_law_ 1325 = .ok (.aload_n 2, 1) := by decide +kernel
theorem dL_law__1326 : decode cL_law_ 1326 = .ok (.invokevirtual 101, 3) := by decide +kernel
theorem dL_law__1329 : decode cL_law_ 1329 = .ok (.iload 5, 2) := by decide +kernel
theorem dL_law__1331 : decode cL_law_ 1331 = .ok (.if_icmp .eq 5, 3) := by decide +kernel
theorem dL_law__1334 : decode cL_law_ 1334 = .ok (.iconst 0, 1) := by decide +kernel
theorem dL_law__1335 : decode cL_law_ 1335 = .ok (.ireturn, 1) := by decide +kernel
theorem dL_law__1336 : decode cL_law_ 1336 = .ok (.iload 5, 2) := by decide +kernel
theorem dL_law__1338 : decode cL_law_ 1338 = .ok (.ifCond .ne 15, 3) := by decide +kernel
theorem dL_law__1341 : decode cL_law_ 1341 = .ok (.aload_n 3, 1) := by decide +kernel
theorem dL_law__1342 : decode cL_law_ 1342 = .ok (.iconst 0, 1) := by decide +kernel
theorem dL_law__1343 : decode cL_law_ 1343 = .ok (.laload, 1) := by decide +kernel
theorem dL_law__1344 : decode cL_law_ 1344 = .ok (.iload 6, 2) := by decide +kernel
theorem dL_law__1346 : decode cL_law_ 1346 = .ok (.i2l, 1) := by decide +kernel
theorem dL_law__1347 : decode cL_law_ 1347 = .ok (.lcmp, 1) := by decide +kernel
theorem dL_law__1348 : decode cL_law_ 1348 = .ok (.ifCond .eq 5, 3) := by decide +kernel
theorem dL_law__1351 : decode cL_law_ 1351 = .ok (.iconst 0, 1) := by decide +kernel
theorem dL_law__1352 : decode cL_law_ 1352 = .ok (.ireturn, 1) := by decide +kernel
theorem dL_law__1353 : decode cL_law_ 1353 = .ok (.goto 219, 3) := by decide +kernel
theorem dL_law__1356 : decode cL_law_ 1356 = .ok (.aload_n 1, 1) := by decide +kernel
theorem dL_law__1357 : decode cL_law_ 1357 = .ok (.invokevirtual 160, 3) := by decide +kernel
theorem dL_law__1360 : decode cL_law_ 1360 = .ok (.aload_n 2, 1) := by decide +kernel
theorem dL_law__1361 : decode cL_law_ 1361 = .ok (.invokevirtual 163, 3) := by decide +kernel
theorem dL_law__1364 : decode cL_law_ 1364 = .ok (.if_icmp .eq 208, 3) := by decide +kernel
theorem dL_law__1367 : decode cL_law_ 1367 = .ok (.iconst 0, 1) := by decide +kernel
theorem dL_law__1368 : decode cL_law_ 1368 = .ok (.ireturn, 1) := by decide +kernel
theorem dL_law__1369 : decode cL_law_ 1369 = .ok (.aload_n 1, 1) := by decide +kernel
theorem dL_law__1370 : decode cL_law_ 1370 = .ok (.aload_n 0, 1) := by decide +kernel
theorem dL_law__1371 : decode cL_law_ 1371 = .ok (.iload 4, 2) := by decide +kernel
theorem dL_law__1373 : decode cL_law_ 1373 = .ok (.iconst 1, 1) := by decide +kernel
theorem dL_law__1374 : decode cL_law_ 1374 = .ok (.iadd, 1) := by decide +kernel
theorem dL_law__1375 : decode cL_law_ 1375 = .ok (.iaload, 1) := by decide +kernel
theorem dL_law__1376 : decode cL_law_ 1376 = .ok (.ifCond .eq 7, 3) := by decide +kernel
theorem dL_law__1379 : decode cL_law_ 1379 = .ok (.iconst 1, 1) := by decide +kernel
theorem dL_law__1380 : decode cL_law_ 1380 = .ok (.goto 4, 3) := by decide +kernel
theorem dL_law__1383 : decode cL_law_ 1383 = .ok (.iconst 0, 1) := by decide +kernel
theorem dL_law__1384 : decode cL_law_ 1384 = .ok (.invokevirtual 164, 3) := by decide +kernel
theorem dL_law__1387 : decode cL_law_ 1387 = .ok (.aload_n 2, 1) := by decide +kernel
theorem dL_law__1388 : decode cL_law_ 1388 = .ok (.aload_n 0, 1) := by decide +kernel
theorem dL_law__1389 : decode cL_law_ 1389 = .ok (.iload 4, 2) := by decide +kernel
theorem dL_law__1391 : decode cL_law_ 1391 = .ok (.iconst 1, 1) := by decide +kernel
theorem dL_law__1392 : decode cL_law_ 1392 = .ok (.iadd, 1) := by decide +kernel
theorem dL_law__1393 : decode cL_law_ 1393 = .ok (.iaload, 1) := by decide +kernel
theorem dL_law__1394 : decode cL_law_ 1394 = .ok (.ifCond .eq 7, 3) := by decide +kernel
theorem dL_law__1397 : decode cL_law_ 1397 = .ok (.iconst 1, 1) := by decide +kernel
theorem dL_law__1398 : decode cL_law_ 1398 = .ok (.goto 4, 3) := by decide +kernel
theorem dL_law__1401 : decode cL_law_ 1401 = .ok (.iconst 0, 1) := by decide +kernel
theorem dL_law__1402 : decode cL_law_ 1402 = .ok (.invokevirtual 168, 3) := by decide +kernel
theorem dL_law__1405 : decode cL_law_ 1405 = .ok (.if_icmp .eq 167, 3) := by decide +kernel
theorem dL_law__1408 : decode cL_law_ 1408 = .ok (.iconst 0, 1) := by decide +kernel
theorem dL_law__1409 : decode cL_law_ 1409 = .ok (.ireturn, 1) := by decide +kernel
theorem dL_law__1410 : decode cL_law_ 1410 = .ok (.aload_n 1, 1) := by decide +kernel
theorem dL_law__1411 : decode cL_law_ 1411 = .ok (.aload_n 0, 1) := by decide +kernel
theorem dL_law__1412 : decode cL_law_ 1412 = .ok (.iload 4, 2) := by decide +kernel
theorem dL_law__1414 : decode cL_law_ 1414 = .ok (.iconst 1, 1) := by decide +kernel
theorem dL_law__1415 : decode cL_law_ 1415 = .ok (.iadd, 1) := by decide +kernel
theorem dL_law__1416 : decode cL_law_ 1416 = .ok (.iaload, 1) := by decide +kernel
theorem dL_law__1417 : decode cL_law_ 1417 = .ok (.aload_n 0, 1) := by decide +kernel
theorem dL_law__1418 : decode cL_law_ 1418 = .ok (.iload 4, 2) := by decide +kernel
theorem dL_law__1420 : decode cL_law_ 1420 = .ok (.iconst 2, 1) := by decide +kernel
theorem dL_law__1421 : decode cL_law_ 1421 = .ok (.iadd, 1) := by decide +kernel
theorem dL_law__1422 : decode cL_law_ 1422 = .ok (.iaload, 1) := by decide +kernel
theorem dL_law__1423 : decode cL_law_ 1423 = .ok (.aload_n 3, 1) := by decide +kernel
theorem dL_law__1424 : decode cL_law_ 1424 = .ok (.invokestatic 169, 3) := by decide +kernel
theorem dL_law__1427 : decode cL_law_ 1427 = .ok (.istore 5, 2) := by decide +kernel
theorem dL_law__1429 : decode cL_law_ 1429 = .ok (.aload_n 2, 1) := by decide +kernel
theorem dL_law__1430 : decode cL_law_ 1430 = .ok (.aload_n 0, 1) := by decide +kernel
theorem dL_law__1431 : decode cL_law_ 1431 = .ok (.iload 4, 2) := by decide +kernel
theorem dL_law__1433 : decode cL_law_ 1433 = .ok (.iconst 1, 1) := by decide +kernel
theorem dL_law__1434 : decode cL_law_ 1434 = .ok (.iadd, 1) := by decide +kernel
theorem dL_law__1435 : decode cL_law_ 1435 = .ok (.iaload, 1) := by decide +kernel
theorem dL_law__1436 : decode cL_law_ 1436 = .ok (.aload_n 0, 1) := by decide +kernel
theorem dL_law__1437 : decode cL_law_ 1437 = .ok (.iload 4, 2) := by decide +kernel
theorem dL_law__1439 : decode cL_law_ 1439 = .ok (.iconst 2, 1) := by decide +kernel
theorem dL_law__1440 : decode cL_law_ 1440 = .ok (.iadd, 1) := by decide +kernel
theorem dL_law__1441 : decode cL_law_ 1441 = .ok (.iaload, 1) := by decide +kernel
theorem dL_law__1442 : decode cL_law_ 1442 = .ok (.invokevirtual 171, 3) := by decide +kernel
theorem dL_law__1445 : decode cL_law_ 1445 = .ok (.istore 6, 2) := by decide +kernel
theorem dL_law__1447 : decode cL_law_ 1447 = .ok (.aload_n 2, 1) := by decide +kernel
theorem dL_law__1448 : decode cL_law_ 1448 = .ok (.invokevirtual 101, 3) := by decide +kernel
theorem dL_law__1451 : decode cL_law_ 1451 = .ok (.iload 5, 2) := by decide +kernel
theorem dL_law__1453 : decode cL_law_ 1453 = .ok (.if_icmp .eq 5, 3) := by decide +kernel
theorem dL_law__1456 : decode cL_law_ 1456 = .ok (.iconst 0, 1) := by decide +kernel
theorem dL_law__1457 : decode cL_law_ 1457 = .ok (.ireturn, 1) := by decide +kernel
theorem dL_law__1458 : decode cL_law_ 1458 = .ok (.iload 5, 2) := by decide +kernel
theorem dL_law__1460 : decode cL_law_ 1460 = .ok (.ifCond .ne 15, 3) := by decide +kernel
theorem dL_law__1463 : decode cL_law_ 1463 = .ok (.aload_n 3, 1) := by decide +kernel
theorem dL_law__1464 : decode cL_law_ 1464 = .ok (.iconst 0, 1) := by decide +kernel
theorem dL_law__1465 : decode cL_law_ 1465 = .ok (.laload, 1) := by decide +kernel
theorem dL_law__1466 : decode cL_law_ 1466 = .ok (.iload 6, 2) := by decide +kernel
theorem dL_law__1468 : decode cL_law_ 1468 = .ok (.i2l, 1) := by decide +kernel
theorem dL_law__1469 : decode cL_law_ 1469 = .ok (.lcmp, 1) := by decide +kernel
theorem dL_law__1470 : decode cL_law_ 1470 = .ok (.ifCond .eq 5, 3) := by decide +kernel
theorem dL_law__1473 : decode cL_law_ 1473 = .ok (.iconst 0, 1) := by decide +kernel
theorem dL_law__1474 : decode cL_law_ 1474 = .ok (.ireturn, 1) := by decide +kernel
theorem dL_law__1475 : decode cL_law_ 1475 = .ok (.goto 97, 3) := by decide +kernel
theorem dL_law__1478 : decode cL_law_ 1478 = .ok (.aload_n 1, 1) := by decide +kernel
theorem dL_law__1479 : decode cL_law_ 1479 = .ok (.invokevirtual 172, 3) := by decide +kernel
theorem dL_law__1482 : decode cL_law_ 1482 = .ok (.aload_n 2, 1) := by decide +kernel
theorem dL_law__1483 : decode cL_law_ 1483 = .ok (.invokevirtual 175, 3) := by decide +kernel
theorem dL_law__1486 : decode cL_law_ 1486 = .ok (.if_icmp .eq 86, 3) := by decide +kernel
theorem dL_law__1489 : decode cL_law_ 1489 = .ok (.iconst 0, 1) := by decide +kernel
theorem dL_law__1490 : decode cL_law_ 1490 = .ok (.ireturn, 1) := by decide +kernel
theorem dL_law__1491 : decode cL_law_ 1491 = .ok (.aload_n 1, 1) := by decide +kernel
theorem dL_law__1492 : decode cL_law_ 1492 = .ok (.aload_n 0, 1) := by decide +kernel
theorem dL_law__1493 : decode cL_law_ 1493 = .ok (.iload 4, 2) := by decide +kernel
theorem dL_law__1495 : decode cL_law_ 1495 = .ok (.iconst 1, 1) := by decide +kernel
theorem dL_law__1496 : decode cL_law_ 1496 = .ok (.iadd, 1) := by decide +kernel
theorem dL_law__1497 : decode cL_law_ 1497 = .ok (.iaload, 1) := by decide +kernel
theorem dL_law__1498 : decode cL_law_ 1498 = .ok (.aload_n 3, 1) := by decide +kernel
theorem dL_law__1499 : decode cL_law_ 1499 = .ok (.invokestatic 176, 3) := by decide +kernel
theorem dL_law__1502 : decode cL_law_ 1502 = .ok (.istore 5, 2) := by decide +kernel
theorem dL_law__1504 : decode cL_law_ 1504 = .ok (.aload_n 2, 1) := by decide +kernel
theorem dL_law__1505 : decode cL_law_ 1505 = .ok (.aload_n 0, 1) := by decide +kernel
theorem dL_law__1506 : decode cL_law_ 1506 = .ok (.iload 4, 2) := by decide +kernel
theorem dL_law__1508 : decode cL_law_ 1508 = .ok (.iconst 1, 1) := by decide +kernel
theorem dL_law__1509 : decode cL_law_ 1509 = .ok (.iadd, 1) := by decide +kernel
theorem dL_law__1510 : decode cL_law_ 1510 = .ok (.iaload, 1) := by decide +kernel
theorem dL_law__1511 : decode cL_law_ 1511 = .ok (.invokevirtual 178, 3) := by decide +kernel
theorem dL_law__1514 : decode cL_law_ 1514 = .ok (.istore 6, 2) := by decide +kernel
theorem dL_law__1516 : decode cL_law_ 1516 = .ok (.aload_n 2, 1) := by decide +kernel
theorem dL_law__1517 : decode cL_law_ 1517 = .ok (.invokevirtual 101, 3) := by decide +kernel
theorem dL_law__1520 : decode cL_law_ 1520 = .ok (.iload 5, 2) := by decide +kernel
theorem dL_law__1522 : decode cL_law_ 1522 = .ok (.if_icmp .eq 5, 3) := by decide +kernel
theorem dL_law__1525 : decode cL_law_ 1525 = .ok (.iconst 0, 1) := by decide +kernel
theorem dL_law__1526 : decode cL_law_ 1526 = .ok (.ireturn, 1) := by decide +kernel
theorem dL_law__1527 : decode cL_law_ 1527 = .ok (.iload 5, 2) := by decide +kernel
theorem dL_law__1529 : decode cL_law_ 1529 = .ok (.ifCond .ne 15, 3) := by decide +kernel
theorem dL_law__1532 : decode cL_law_ 1532 = .ok (.aload_n 3, 1) := by decide +kernel
theorem dL_law__1533 : decode cL_law_ 1533 = .ok (.iconst 0, 1) := by decide +kernel
theorem dL_law__1534 : decode cL_law_ 1534 = .ok (.laload, 1) := by decide +kernel
theorem dL_law__1535 : decode cL_law_ 1535 = .ok (.iload 6, 2) := by decide +kernel
theorem dL_law__1537 : decode cL_law_ 1537 = .ok (.i2l, 1) := by decide +kernel
theorem dL_law__1538 : decode cL_law_ 1538 = .ok (.lcmp, 1) := by decide +kernel
theorem dL_law__1539 : decode cL_law_ 1539 = .ok (.ifCond .eq 5, 3) := by decide +kernel
theorem dL_law__1542 : decode cL_law_ 1542 = .ok (.iconst 0, 1) := by decide +kernel
theorem dL_law__1543 : decode cL_law_ 1543 = .ok (.ireturn, 1) := by decide +kernel
theorem dL_law__1544 : decode cL_law_ 1544 = .ok (.goto 28, 3) := by decide +kernel
theorem dL_law__1547 : decode cL_law_ 1547 = .ok (.aload_n 1, 1) := by decide +kernel
theorem dL_law__1548 : decode cL_law_ 1548 = .ok (.aload_n 0, 1) := by decide +kernel
theorem dL_law__1549 : decode cL_law_ 1549 = .ok (.iload 4, 2) := by decide +kernel
theorem dL_law__1551 : decode cL_law_ 1551 = .ok (.iconst 1, 1) := by decide +kernel
theorem dL_law__1552 : decode cL_law_ 1552 = .ok (.iadd, 1) := by decide +kernel
theorem dL_law__1553 : decode cL_law_ 1553 = .ok (.iaload, 1) := by decide +kernel
theorem dL_law__1554 : decode cL_law_ 1554 = .ok (.invokevirtual 179, 3) := by decide +kernel
theorem dL_law__1557 : decode cL_law_ 1557 = .ok (.aload_n 2, 1) := by decide +kernel
theorem dL_law__1558 : decode cL_law_ 1558 = .ok (.aload_n 0, 1) := by decide +kernel
theorem dL_law__1559 : decode cL_law_ 1559 = .ok (.iload 4, 2) := by decide +kernel
theorem dL_law__1561 : decode cL_law_ 1561 = .ok (.iconst 1, 1) := by decide +kernel
theorem dL_law__1562 : decode cL_law_ 1562 = .ok (.iadd, 1) := by decide +kernel
theorem dL_law__1563 : decode cL_law_ 1563 = .ok (.iaload, 1) := by decide +kernel
theorem dL_law__1564 : decode cL_law_ 1564 = .ok (.invokevirtual 182, 3) := by decide +kernel
theorem dL_law__1567 : decode cL_law_ 1567 = .ok (.if_icmp .eq 5, 3) := by decide +kernel
theorem dL_law__1570 : decode cL_law_ 1570 = .ok (.iconst 0, 1) := by decide +kernel
theorem dL_law__1571 : decode cL_law_ 1571 = .ok (.ireturn, 1) := by decide +kernel
theorem dL_law__1572 : decode cL_law_ 1572 = .ok (.iinc 4 6, 3) := by decide +kernel
theorem dL_law__1575 : decode cL_law_ 1575 = .ok (.goto (-1552), 3) := by decide +kernel
theorem dL_law__1578 : decode cL_law_ 1578 = .ok (.iconst 1, 1) := by decide +kernel
theorem dL_law__1579 : decode cL_law_ 1579 = .ok (.ireturn, 1) := by decide +kernel
abbrev vwCl : List vw_C := [(RJx4a65c, TJx4a65c, 3), (RX0, TX0, 8), (RX1, TX1, 1), (RX2, TX2, 4), (RX3, TX3, 6), (RX4, TX4, 6), (RX5, TX5, 8), (RX6, TX6, 2), (RX7, TX7, 10), (RX8, TX8, 10), (RX9, TX9, 42)]
