theorem dX4_status_0 : decode cX4_status 0 = .ok (.aload_n 0, 1) := by decide +kernel
theorem dX4_status_1 : decode cX4_status 1 = .ok (.getfield 19, 3) := by decide +kernel
theorem dX4_status_4 : decode cX4_status 4 = .ok (.iload_n 1, 1) := by decide +kernel
theorem dX4_status_5 : decode cX4_status 5 = .ok (.iload_n 2, 1) := by decide +kernel
theorem dX4_status_6 : decode cX4_status 6 = .ok (.invokevirtual 139, 3) := by decide +kernel
theorem dX4_status_9 : decode cX4_status 9 = .ok (.ifCond .eq 19, 3) := by decide +kernel
theorem dX4_status_12 : decode cX4_status 12 = .ok (.aload_n 0, 1) := by decide +kernel
theorem dX4_status_13 : decode cX4_status 13 = .ok (.getfield 19, 3) := by decide +kernel
theorem dX4_status_16 : decode cX4_status 16 = .ok (.getfield 146, 3) := by decide +kernel
theorem dX4_status_19 : decode cX4_status 19 = .ok (.iload_n 1, 1) := by decide +kernel
theorem dX4_status_20 : decode cX4_status 20 = .ok (.iload_n 2, 1) := by decide +kernel
theorem dX4_status_21 : decode cX4_status 21 = .ok (.invokestatic 143, 3) := by decide +kernel
theorem dX4_status_24 : decode cX4_status 24 = .ok (.iaload, 1) := by decide +kernel
theorem dX4_status_25 : decode cX4_status 25 = .ok (.goto 4, 3) := by decide +kernel
theorem dX4_status_28 : decode cX4_status 28 = .ok (.iconst (-1), 1) := by decide +kernel
theorem dX4_status_29 : decode cX4_status 29 = .ok (.ireturn, 1) := by decide +kernel
theorem dX4_elected_0 : decode cX4_elected 0 = .ok (.iload_n 1, 1) := by decide +kernel
theorem dX4_elected_1 : decode cX4_elected 1 = .ok (.ifCond .lt 26, 3) := by decide +kernel
theorem dX4_elected_4 : decode cX4_elected 4 = .ok (.iload_n 1, 1) := by decide +kernel
theorem dX4_elected_5 : decode cX4_elected 5 = .ok (.aload_n 0, 1) := by decide +kernel
theorem dX4_elected_6 : decode cX4_elected 6 = .ok (.getfield 19, 3) := by decide +kernel
theorem dX4_elected_9 : decode cX4_elected 9 = .ok (.getfield 149, 3) := by decide +kernel
theorem dX4_elected_12 : decode cX4_elected 12 = .ok (.if_icmp .ge 15, 3) := by decide +kernel
theorem dX4_elected_15 : decode cX4_elected 15 = .ok (.aload_n 0, 1) := by decide +kernel
theorem dX4_elected_16 : decode cX4_elected 16 = .ok (.getfield 19, 3) := by decide +kernel
theorem dX4_elected_19 : decode cX4_elected 19 = .ok (.getfield 152, 3) := by decide +kernel
theorem dX4_elected_22 : decode cX4_elected 22 = .ok (.iload_n 1, 1) := by decide +kernel
theorem dX4_elected_23 : decode cX4_elected 23 = .ok (.iaload, 1) := by decide +kernel
theorem dX4_elected_24 : decode cX4_elected 24 = .ok (.goto 5, 3) := by decide +kernel
theorem dX4_elected_27 : decode cX4_elected 27 = .ok (.bipush (-9), 2) := by decide +kernel
theorem dX4_elected_29 : decode cX4_elected 29 = .ok (.ireturn, 1) := by decide +kernel
set_option maxRecDepth 20000 in
theorem ggX4_keep_X1_hasCell : GoodIn wsX4_keep wsX1_hasCell := goodIn_r _ [9, 10, 11, 12, 13, 8, 14, 15, 24, 25, 26, 27, 28, 29, 30, 31, 32, 33, 34, 35, 36, 37, 38, 39, 40, 41] (by decide +kernel) (by decide +kernel)
set_option maxRecDepth 20000 in
theorem gX4_keep_X1_hasCell : GoodIn wsX4_keep (wsV RX4 139 RX1 yX1_hasCell wsX1_hasCell) := goodIn_app (goodIn_of _ (by decide +kernel)) ggX4_keep_X1_hasCell
set_option maxRecDepth 20000 in
theorem ggX4_keep_X4_cell : GoodIn wsX4_keep wsX4_cell := goodIn_r _ [19] (by decide +kernel) (by decide +kernel)
set_option maxRecDepth 20000 in
theorem gX4_keep_X4_cell : GoodIn wsX4_keep (va_wsS RX4 143 yX4_cell wsX4_cell) := goodIn_app (goodIn_of _ (by decide +kernel)) ggX4_keep_X4_cell
theorem dX4_keep_0 : decode cX4_keep 0 = .ok (.aload_n 0, 1) := by decide +kernel
theorem dX4_keep_1 : decode cX4_keep 1 = .ok (.getfield 19, 3) := by decide +kernel
theorem dX4_keep_4 : decode cX4_keep 4 = .ok (.iload_n 1, 1) := by decide +kernel
theorem dX4_keep_5 : decode cX4_keep 5 = .ok (.iload_n 2, 1) := by decide +kernel
theorem dX4_keep_6 : decode cX4_keep 6 = .ok (.invokevirtual 139, 3) := by decide +kernel
theorem dX4_keep_9 : decode cX4_keep 9 = .ok (.ifCond .ne 5, 3) := by decide +kernel
theorem dX4_keep_12 : decode cX4_keep 12 = .ok (.iconst (-1), 1) := by decide +kernel
theorem dX4_keep_13 : decode cX4_keep 13 = .ok (.ireturn, 1) := by decide +kernel
theorem dX4_keep_14 : decode cX4_keep 14 = .ok (.aload_n 0, 1) := by decide +kernel
theorem dX4_keep_15 : decode cX4_keep 15 = .ok (.getfield 19, 3) := by decide +kernel
theorem dX4_keep_18 : decode cX4_keep 18 = .ok (.getfield 155, 3) := by decide +kernel
theorem dX4_keep_21 : decode cX4_keep 21 = .ok (.iconst 3, 1) := by decide +kernel
theorem dX4_keep_22 : decode cX4_keep 22 = .ok (.if_icmp .ne 20, 3) := by decide +kernel
theorem dX4_keep_25 : decode cX4_keep 25 = .ok (.aload_n 0, 1) := by decide +kernel
theorem dX4_keep_26 : decode cX4_keep 26 = .ok (.getfield 19, 3) := by decide +kernel
theorem dX4_keep_29 : decode cX4_keep 29 = .ok (.getfield 146, 3) := by decide +kernel
theorem dX4_keep_32 : decode cX4_keep 32 = .ok (.iload_n 1, 1) := by decide +kernel
theorem dX4_keep_33 : decode cX4_keep 33 = .ok (.iload_n 2, 1) := by decide +kernel
theorem dX4_keep_34 : decode cX4_keep 34 = .ok (.invokestatic 143, 3) := by decide +kernel
theorem dX4_keep_37 : decode cX4_keep 37 = .ok (.iaload, 1) := by decide +kernel
theorem dX4_keep_38 : decode cX4_keep 38 = .ok (.iconst 3, 1) := by decide +kernel
theorem dX4_keep_39 : decode cX4_keep 39 = .ok (.if_icmp .ne 6, 3) := by decide +kernel
theorem dX4_keep_42 : decode cX4_keep 42 = .ok (.bipush (-3), 2) := by decide +kernel
theorem dX4_keep_44 : decode cX4_keep 44 = .ok (.ireturn, 1) := by decide +kernel
theorem dX4_keep_45 : decode cX4_keep 45 = .ok (.aload_n 0, 1) := by decide +kernel
theorem dX4_keep_46 : decode cX4_keep 46 = .ok (.getfield 19, 3) := by decide +kernel
theorem dX4_keep_49 : decode cX4_keep 49 = .ok (.getfield 158, 3) := by decide +kernel
theorem dX4_keep_52 : decode cX4_keep 52 = .ok (.iload_n 1, 1) := by decide +kernel
theorem dX4_keep_53 : decode cX4_keep 53 = .ok (.iload_n 2, 1) := by decide +kernel
theorem dX4_keep_54 : decode cX4_keep 54 = .ok (.invokestatic 143, 3) := by decide +kernel
theorem dX4_keep_57 : decode cX4_keep 57 = .ok (.iaload, 1) := by decide +kernel
theorem dX4_keep_58 : decode cX4_keep 58 = .ok (.ireturn, 1) := by decide +kernel
set_option maxRecDepth 20000 in
theorem ggX4_lies_X1_hasStage : GoodIn wsX4_lies wsX1_hasStage := goodIn_r _ [10, 11, 26, 27, 28, 29, 30, 31, 32, 33, 34, 35, 36, 37, 38, 39, 40, 41, 42, 43] (by decide +kernel) (by decide +kernel)
set_option maxRecDepth 20000 in
theorem gX4_lies_X1_hasStage : GoodIn wsX4_lies (wsV RX4 111 RX1 yX1_hasStage wsX1_hasStage) := goodIn_app (goodIn_of _ (by decide +kernel)) ggX4_lies_X1_hasStage
set_option maxRecDepth 20000 in
theorem ggX4_lies_X3_hasPlace : GoodIn wsX4_lies wsX3_hasPlace := goodIn_r _ [16, 17, 44, 45, 46, 47, 48] (by decide +kernel) (by decide +kernel)
set_option maxRecDepth 20000 in
theorem gX4_lies_X3_hasPlace : GoodIn wsX4_lies (wsV RX4 161 RX3 yX3_hasPlace wsX3_hasPlace) := goodIn_app (goodIn_of _ (by decide +kernel)) ggX4_lies_X3_hasPlace
set_option maxRecDepth 20000 in
theorem ggX4_lies_X4_place : GoodIn wsX4_lies wsX4_place := goodIn_r _ [21] (by decide +kernel) (by decide +kernel)
set_option maxRecDepth 20000 in
theorem gX4_lies_X4_place : GoodIn wsX4_lies (va_wsS RX4 167 yX4_place wsX4_place) := goodIn_app (goodIn_of _ (by decide +kernel)) ggX4_lies_X4_place
theorem dX4_lies_0 : decode cX4_lies 0 = .ok (.aload_n 0, 1) := by decide +kernel
theorem dX4_lies_1 : decode cX4_lies 1 = .ok (.getfield 19, 3) := by decide +kernel
theorem dX4_lies_4 : decode cX4_lies 4 = .ok (.iload_n 1, 1) := by decide +kernel
theorem dX4_lies_5 : decode cX4_lies 5 = .ok (.invokevirtual 111, 3) := by decide +kernel
theorem dX4_lies_8 : decode cX4_lies 8 = .ok (.ifCond .ne 5, 3) := by decide +kernel
theorem dX4_lies_11 : decode cX4_lies 11 = .ok (.iconst (-1), 1) := by decide +kernel
theorem dX4_lies_12 : decode cX4_lies 12 = .ok (.ireturn, 1) := by decide +kernel
theorem dX4_lies_13 : decode cX4_lies 13 = .ok (.aload_n 0, 1) := by decide +kernel
theorem dX4_lies_14 : decode cX4_lies 14 = .ok (.getfield 19, 3) := by decide +kernel
theorem dX4_lies_17 : decode cX4_lies 17 = .ok (.getfield 155, 3) := by decide +kernel
theorem dX4_lies_20 : decode cX4_lies 20 = .ok (.iconst 3, 1) := by decide +kernel
theorem dX4_lies_21 : decode cX4_lies 21 = .ok (.if_icmp .ne 7, 3) := by decide +kernel
theorem dX4_lies_24 : decode cX4_lies 24 = .ok (.iconst 1, 1) := by decide +kernel
theorem dX4_lies_25 : decode cX4_lies 25 = .ok (.goto 4, 3) := by decide +kernel
theorem dX4_lies_28 : decode cX4_lies 28 = .ok (.iconst 0, 1) := by decide +kernel
theorem dX4_lies_29 : decode cX4_lies 29 = .ok (.istore 4, 2) := by decide +kernel
theorem dX4_lies_31 : decode cX4_lies 31 = .ok (.iload 4, 2) := by decide +kernel
theorem dX4_lies_33 : decode cX4_lies 33 = .ok (.ifCond .ne 17, 3) := by decide +kernel
theorem dX4_lies_36 : decode cX4_lies 36 = .ok (.aload_n 0, 1) := by decide +kernel
theorem dX4_lies_37 : decode cX4_lies 37 = .ok (.getfield 26, 3) := by decide +kernel
theorem dX4_lies_40 : decode cX4_lies 40 = .ok (.iload_n 1, 1) := by decide +kernel
theorem dX4_lies_41 : decode cX4_lies 41 = .ok (.iload_n 2, 1) := by decide +kernel
theorem dX4_lies_42 : decode cX4_lies 42 = .ok (.invokevirtual 161, 3) := by decide +kernel
theorem dX4_lies_45 : decode cX4_lies 45 = .ok (.ifCond .ne 5, 3) := by decide +kernel
theorem dX4_lies_48 : decode cX4_lies 48 = .ok (.iconst (-1), 1) := by decide +kernel
theorem dX4_lies_49 : decode cX4_lies 49 = .ok (.ireturn, 1) := by decide +kernel
theorem dX4_lies_50 : decode cX4_lies 50 = .ok (.iload_n 3, 1) := by decide +kernel
theorem dX4_lies_51 : decode cX4_lies 51 = .ok (.ifCond .eq 11, 3) := by decide +kernel
theorem dX4_lies_54 : decode cX4_lies 54 = .ok (.iload_n 3, 1) := by decide +kernel
theorem dX4_lies_55 : decode cX4_lies 55 = .ok (.iconst 1, 1) := by decide +kernel
theorem dX4_lies_56 : decode cX4_lies 56 = .ok (.if_icmp .eq 6, 3) := by decide +kernel
theorem dX4_lies_59 : decode cX4_lies 59 = .ok (.bipush (-2), 2) := by decide +kernel
theorem dX4_lies_61 : decode cX4_lies 61 = .ok (.ireturn, 1) := by decide +kernel
theorem dX4_lies_62 : decode cX4_lies 62 = .ok (.iload 4, 2) := by decide +kernel
theorem dX4_lies_64 : decode cX4_lies 64 = .ok (.ifCond .eq 6, 3) := by decide +kernel
theorem dX4_lies_67 : decode cX4_lies 67 = .ok (.bipush (-3), 2) := by decide +kernel
theorem dX4_lies_69 : decode cX4_lies 69 = .ok (.ireturn, 1) := by decide +kernel
theorem dX4_lies_70 : decode cX4_lies 70 = .ok (.iload_n 3, 1) := by decide +kernel
theorem dX4_lies_71 : decode cX4_lies 71 = .ok (.ifCond .ne 19, 3) := by decide +kernel
theorem dX4_lies_74 : decode cX4_lies 74 = .ok (.aload_n 0, 1) := by decide +kernel
theorem dX4_lies_75 : decode cX4_lies 75 = .ok (.getfield 26, 3) := by decide +kernel
theorem dX4_lies_78 : decode cX4_lies 78 = .ok (.getfield 164, 3) := by decide +kernel
theorem dX4_lies_81 : decode cX4_lies 81 = .ok (.iload_n 1, 1) := by decide +kernel
theorem dX4_lies_82 : decode cX4_lies 82 = .ok (.iload_n 2, 1) := by decide +kernel
theorem dX4_lies_83 : decode cX4_lies 83 = .ok (.invokestatic 167, 3) := by decide +kernel
theorem dX4_lies_86 : decode cX4_lies 86 = .ok (.iaload, 1) := by decide +kernel
theorem dX4_lies_87 : decode cX4_lies 87 = .ok (.goto 16, 3) := by decide +kernel
theorem dX4_lies_90 : decode cX4_lies 90 = .ok (.aload_n 0, 1) := by decide +kernel
theorem dX4_lies_91 : decode cX4_lies 91 = .ok (.getfield 26, 3) := by decide +kernel
theorem dX4_lies_94 : decode cX4_lies 94 = .ok (.getfield 170, 3) := by decide +kernel
theorem dX4_lies_97 : decode cX4_lies 97 = .ok (.iload_n 1, 1) := by decide +kernel
theorem dX4_lies_98 : decode cX4_lies 98 = .ok (.iload_n 2, 1) := by decide +kernel
theorem dX4_lies_99 : decode cX4_lies 99 = .ok (.invokestatic 167, 3) := by decide +kernel
theorem dX4_lies_102 : decode cX4_lies 102 = .ok (.iaload, 1) := by decide +kernel
theorem dX4_lies_103 : decode cX4_lies 103 = .ok (.ireturn, 1) := by decide +kernel
set_option maxRecDepth 20000 in
theorem ggX4_sheet_X1_hasCell : GoodIn wsX4_sheet wsX1_hasCell := goodIn_r _ [8, 9, 10, 11, 12, 7, 13, 14, 23, 24, 25, 26, 27, 28, 29, 30, 31, 32, 33, 34, 35, 36, 37, 38, 39, 40] (by decide +kernel) (by decide +kernel)
set_option maxRecDepth 20000 in
theorem gX4_sheet_X1_hasCell : GoodIn wsX4_sheet (wsV RX4 139 RX1 yX1_hasCell wsX1_hasCell) := goodIn_app (goodIn_of _ (by decide +kernel)) ggX4_sheet_X1_hasCell
set_option maxRecDepth 20000 in
theorem ggX4_sheet_X4_cell : GoodIn wsX4_sheet wsX4_cell := goodIn_r _ [18] (by decide +kernel) (by decide +kernel)
set_option maxRecDepth 20000 in
theorem gX4_sheet_X4_cell : GoodIn wsX4_sheet (va_wsS RX4 143 yX4_cell wsX4_cell) := goodIn_app (goodIn_of _ (by decide +kernel)) ggX4_sheet_X4_cell
theorem dX4_sheet_0 : decode cX4_sheet 0 = .ok (.aload_n 0, 1) := by decide +kernel
theorem dX4_sheet_1 : decode cX4_sheet 1 = .ok (.getfield 19, 3) := by decide +kernel
theorem dX4_sheet_4 : decode cX4_sheet 4 = .ok (.iload_n 1, 1) := by decide +kernel
theorem dX4_sheet_5 : decode cX4_sheet 5 = .ok (.iload_n 2, 1) := by decide +kernel
theorem dX4_sheet_6 : decode cX4_sheet 6 = .ok (.invokevirtual 139, 3) := by decide +kernel
theorem dX4_sheet_9 : decode cX4_sheet 9 = .ok (.ifCond .eq 16, 3) := by decide +kernel
theorem dX4_sheet_12 : decode cX4_sheet 12 = .ok (.aload_n 0, 1) := by decide +kernel
theorem dX4_sheet_13 : decode cX4_sheet 13 = .ok (.getfield 30, 3) := by decide +kernel
theorem dX4_sheet_16 : decode cX4_sheet 16 = .ok (.iload_n 1, 1) := by decide +kernel
theorem dX4_sheet_17 : decode cX4_sheet 17 = .ok (.iload_n 2, 1) := by decide +kernel
theorem dX4_sheet_18 : decode cX4_sheet 18 = .ok (.invokestatic 143, 3) := by decide +kernel
theorem dX4_sheet_21 : decode cX4_sheet 21 = .ok (.laload, 1) := by decide +kernel
theorem dX4_sheet_22 : decode cX4_sheet 22 = .ok (.goto 6, 3) := by decide +kernel
theorem dX4_sheet_25 : decode cX4_sheet 25 = .ok (.ldc2_w 114, 3) := by decide +kernel
theorem dX4_sheet_28 : decode cX4_sheet 28 = .ok (.lreturn, 1) := by decide +kernel
set_option maxRecDepth 20000 in
theorem ggX4_forge_X1_hasCell : GoodIn wsX4_forge wsX1_hasCell := goodIn_r _ [8, 9, 10, 11, 12, 7, 13, 14, 23, 24, 25, 26, 27, 28, 29, 30, 31, 32, 33, 34, 35, 36, 37, 38, 39, 40] (by decide +kernel) (by decide +kernel)
set_option maxRecDepth 20000 in
theorem gX4_forge_X1_hasCell : GoodIn wsX4_forge (wsV RX4 139 RX1 yX1_hasCell wsX1_hasCell) := goodIn_app (goodIn_of _ (by decide +kernel)) ggX4_forge_X1_hasCell
set_option maxRecDepth 20000 in
theorem ggX4_forge_X4_cell : GoodIn wsX4_forge wsX4_cell := goodIn_r _ [18] (by decide +kernel) (by decide +kernel)
set_option maxRecDepth 20000 in
theorem gX4_forge_X4_cell : GoodIn wsX4_forge (va_wsS RX4 143 yX4_cell wsX4_cell) := goodIn_app (goodIn_of _ (by decide +kernel)) ggX4_forge_X4_cell
theorem dX4_forge_0 : decode cX4_forge 0 = .ok (.aload_n 0, 1) := by decide +kernel
theorem dX4_forge_1 : decode cX4_forge 1 = .ok (.getfield 19, 3) := by decide +kernel
theorem dX4_forge_4 : decode cX4_forge 4 = .ok (.iload_n 1, 1) := by decide +kernel
theorem dX4_forge_5 : decode cX4_forge 5 = .ok (.iload_n 2, 1) := by decide +kernel
theorem dX4_forge_6 : decode cX4_forge 6 = .ok (.invokevirtual 139, 3) := by decide +kernel
theorem dX4_forge_9 : decode cX4_forge 9 = .ok (.ifCond .ne 7, 3) := by decide +kernel
theorem dX4_forge_12 : decode cX4_forge 12 = .ok (.ldc2_w 114, 3) := by decide +kernel
theorem dX4_forge_15 : decode cX4_forge 15 = .ok (.lreturn, 1) := by decide +kernel
theorem dX4_forge_16 : decode cX4_forge 16 = .ok (.aload_n 0, 1) := by decide +kernel
theorem dX4_forge_17 : decode cX4_forge 17 = .ok (.getfield 30, 3) := by decide +kernel
theorem dX4_forge_20 : decode cX4_forge 20 = .ok (.iload_n 1, 1) := by decide +kernel
theorem dX4_forge_21 : decode cX4_forge 21 = .ok (.iload_n 2, 1) := by decide +kernel
theorem dX4_forge_22 : decode cX4_forge 22 = .ok (.invokestatic 143, 3) := by decide +kernel
theorem dX4_forge_25 : decode cX4_forge 25 = .ok (.laload, 1) := by decide +kernel
theorem dX4_forge_26 : decode cX4_forge 26 = .ok (.lstore 5, 2) := by decide +kernel
theorem dX4_forge_28 : decode cX4_forge 28 = .ok (.aload_n 0, 1) := by decide +kernel
theorem dX4_forge_29 : decode cX4_forge 29 = .ok (.getfield 30, 3) := by decide +kernel
theorem dX4_forge_32 : decode cX4_forge 32 = .ok (.iload_n 1, 1) := by decide +kernel
theorem dX4_forge_33 : decode cX4_forge 33 = .ok (.iload_n 2, 1) := by decide +kernel
theorem dX4_forge_34 : decode cX4_forge 34 = .ok (.invokestatic 143, 3) := by decide +kernel
theorem dX4_forge_37 : decode cX4_forge 37 = .ok (.lload_n 3, 1) := by decide +kernel
theorem dX4_forge_38 : decode cX4_forge 38 = .ok (.lastore, 1) := by decide +kernel
theorem dX4_forge_39 : decode cX4_forge 39 = .ok (.lload 5, 2) := by decide +kernel
theorem dX4_forge_41 : decode cX4_forge 41 = .ok (.lreturn, 1) := by decide +kernel
set_option maxRecDepth 20000 in
theorem ggX4_check_X4_cell : GoodIn wsX4_check wsX4_cell := goodIn_r _ [9] (by decide +kernel) (by decide +kernel)
set_option maxRecDepth 20000 in
theorem gX4_check_X4_cell : GoodIn wsX4_check (va_wsS RX4 143 yX4_cell wsX4_cell) := goodIn_app (goodIn_of _ (by decide +kernel)) ggX4_check_X4_cell
theorem dX4_check_0 : decode cX4_check 0 = .ok (.aload_n 0, 1) := by decide +kernel
theorem dX4_check_1 : decode cX4_check 1 = .ok (.getfield 19, 3) := by decide +kernel
theorem dX4_check_4 : decode cX4_check 4 = .ok (.getfield 108, 3) := by decide +kernel
theorem dX4_check_7 : decode cX4_check 7 = .ok (.ifCond .ne 6, 3) := by decide +kernel
theorem dX4_check_10 : decode cX4_check 10 = .ok (.bipush (-3), 2) := by decide +kernel
theorem dX4_check_12 : decode cX4_check 12 = .ok (.ireturn, 1) := by decide +kernel
theorem dX4_check_13 : decode cX4_check 13 = .ok (.iconst 0, 1) := by decide +kernel
theorem dX4_check_14 : decode cX4_check 14 = .ok (.istore_n 1, 1) := by decide +kernel
theorem dX4_check_15 : decode cX4_check 15 = .ok (.iload_n 1, 1) := by decide +kernel
theorem dX4_check_16 : decode cX4_check 16 = .ok (.aload_n 0, 1) := by decide +kernel
theorem dX4_check_17 : decode cX4_check 17 = .ok (.getfield 19, 3) := by decide +kernel
theorem dX4_check_20 : decode cX4_check 20 = .ok (.getfield 108, 3) := by decide +kernel
theorem dX4_check_23 : decode cX4_check 23 = .ok (.if_icmp .ge 60, 3) := by decide +kernel
theorem dX4_check_26 : decode cX4_check 26 = .ok (.iconst 0, 1) := by decide +kernel
theorem dX4_check_27 : decode cX4_check 27 = .ok (.istore_n 2, 1) := by decide +kernel
theorem dX4_check_28 : decode cX4_check 28 = .ok (.iload_n 2, 1) := by decide +kernel
theorem dX4_check_29 : decode cX4_check 29 = .ok (.aload_n 0, 1) := by decide +kernel
theorem dX4_check_30 : decode cX4_check 30 = .ok (.getfield 19, 3) := by decide +kernel
theorem dX4_check_33 : decode cX4_check 33 = .ok (.getfield 173, 3) := by decide +kernel
theorem dX4_check_36 : decode cX4_check 36 = .ok (.if_icmp .ge 41, 3) := by decide +kernel
theorem dX4_check_39 : decode cX4_check 39 = .ok (.aload_n 0, 1) := by decide +kernel
theorem dX4_check_40 : decode cX4_check 40 = .ok (.getfield 30, 3) := by decide +kernel
theorem dX4_check_43 : decode cX4_check 43 = .ok (.iload_n 1, 1) := by decide +kernel
theorem dX4_check_44 : decode cX4_check 44 = .ok (.iload_n 2, 1) := by decide +kernel
theorem dX4_check_45 : decode cX4_check 45 = .ok (.invokestatic 143, 3) := by decide +kernel
theorem dX4_check_48 : decode cX4_check 48 = .ok (.laload, 1) := by decide +kernel
theorem dX4_check_49 : decode cX4_check 49 = .ok (.aload_n 0, 1) := by decide +kernel
theorem dX4_check_50 : decode cX4_check 50 = .ok (.getfield 19, 3) := by decide +kernel
theorem dX4_check_53 : decode cX4_check 53 = .ok (.getfield 99, 3) := by decide +kernel
theorem dX4_check_56 : decode cX4_check 56 = .ok (.iload_n 1, 1) := by decide +kernel
theorem dX4_check_57 : decode cX4_check 57 = .ok (.iload_n 2, 1) := by decide +kernel
theorem dX4_check_58 : decode cX4_check 58 = .ok (.invokestatic 143, 3) := by decide +kernel
theorem dX4_check_61 : decode cX4_check 61 = .ok (.laload, 1) := by decide +kernel
theorem dX4_check_62 : decode cX4_check 62 = .ok (.lcmp, 1) := by decide +kernel
theorem dX4_check_63 : decode cX4_check 63 = .ok (.ifCond .eq 8, 3) := by decide +kernel
theorem dX4_check_66 : decode cX4_check 66 = .ok (.bipush (-20), 2) := by decide +kernel
theorem dX4_check_68 : decode cX4_check 68 = .ok (.iload_n 1, 1) := by decide +kernel
theorem dX4_check_69 : decode cX4_check 69 = .ok (.isub, 1) := by decide +kernel
theorem dX4_check_70 : decode cX4_check 70 = .ok (.ireturn, 1) := by decide +kernel
theorem dX4_check_71 : decode cX4_check 71 = .ok (.iinc 2 1, 3) := by decide +kernel
theorem dX4_check_74 : decode cX4_check 74 = .ok (.goto (-46), 3) := by decide +kernel
theorem dX4_check_77 : decode cX4_check 77 = .ok (.iinc 1 1, 3) := by decide +kernel
theorem dX4_check_80 : decode cX4_check 80 = .ok (.goto (-65), 3) := by decide +kernel
theorem dX4_check_83 : decode cX4_check 83 = .ok (.iconst 1, 1) := by decide +kernel
theorem dX4_check_84 : decode cX4_check 84 = .ok (.ireturn, 1) := by decide +kernel
set_option maxRecDepth 20000 in
theorem ggX4_prefer_X0_hasCandidate : GoodIn wsX4_prefer wsX0_hasCandidate := goodIn_r _ [6, 7, 19, 20, 21, 22, 23, 24, 25, 26] (by decide +kernel) (by decide +kernel)
set_option maxRecDepth 20000 in
theorem gX4_prefer_X0_hasCandidate : GoodIn wsX4_prefer (wsV RX4 42 RX0 yX0_hasCandidate wsX0_hasCandidate) := goodIn_app (goodIn_of _ (by decide +kernel)) ggX4_prefer_X0_hasCandidate
set_option maxRecDepth 20000 in
theorem ggX4_prefer_X0_papersFor : GoodIn wsX4_prefer wsX0_papersFor := goodIn_r _ [11, 12, 13, 14, 19, 20, 21, 22, 23, 24, 25, 26] (by decide +kernel) (by decide +kernel)
set_option maxRecDepth 20000 in
theorem gX4_prefer_X0_papersFor : GoodIn wsX4_prefer (wsV RX4 174 RX0 yX0_papersFor wsX0_papersFor) := goodIn_app (goodIn_of _ (by decide +kernel)) ggX4_prefer_X0_papersFor
theorem dX4_prefer_0 : decode cX4_prefer 0 = .ok (.aload_n 0, 1) := by decide +kernel
theorem dX4_prefer_1 : decode cX4_prefer 1 = .ok (.getfield 12, 3) := by decide +kernel
theorem dX4_prefer_4 : decode cX4_prefer 4 = .ok (.iload_n 1, 1) := by decide +kernel
theorem dX4_prefer_5 : decode cX4_prefer 5 = .ok (.invokevirtual 42, 3) := by decide +kernel
theorem dX4_prefer_8 : decode cX4_prefer 8 = .ok (.ifCond .eq 14, 3) := by decide +kernel
theorem dX4_prefer_11 : decode cX4_prefer 11 = .ok (.aload_n 0, 1) := by decide +kernel
theorem dX4_prefer_12 : decode cX4_prefer 12 = .ok (.getfield 12, 3) := by decide +kernel
theorem dX4_prefer_15 : decode cX4_prefer 15 = .ok (.iload_n 2, 1) := by decide +kernel
theorem dX4_prefer_16 : decode cX4_prefer 16 = .ok (.invokevirtual 42, 3) := by decide +kernel
theorem dX4_prefer_19 : decode cX4_prefer 19 = .ok (.ifCond .ne 5, 3) := by decide +kernel
theorem dX4_prefer_22 : decode cX4_prefer 22 = .ok (.iconst (-1), 1) := by decide +kernel
theorem dX4_prefer_23 : decode cX4_prefer 23 = .ok (.ireturn, 1) := by decide +kernel
theorem dX4_prefer_24 : decode cX4_prefer 24 = .ok (.iload_n 1, 1) := by decide +kernel
theorem dX4_prefer_25 : decode cX4_prefer 25 = .ok (.iload_n 2, 1) := by decide +kernel
theorem dX4_prefer_26 : decode cX4_prefer 26 = .ok (.if_icmp .ne 8, 3) := by decide +kernel
theorem dX4_prefer_29 : decode cX4_prefer 29 = .ok (.bipush (-3), 2) := by decide +kernel
theorem dX4_prefer_31 : decode cX4_prefer 31 = .ok (.goto 12, 3) := by decide +kernel
theorem dX4_prefer_34 : decode cX4_prefer 34 = .ok (.aload_n 0, 1) := by decide +kernel
theorem dX4_prefer_35 : decode cX4_prefer 35 = .ok (.getfield 12, 3) := by decide +kernel
theorem dX4_prefer_38 : decode cX4_prefer 38 = .ok (.iload_n 1, 1) := by decide +kernel
theorem dX4_prefer_39 : decode cX4_prefer 39 = .ok (.iload_n 2, 1) := by decide +kernel
theorem dX4_prefer_40 : decode cX4_prefer 40 = .ok (.invokevirtual 174, 3) := by decide +kernel
theorem dX4_prefer_43 : decode cX4_prefer 43 = .ok (.ireturn, 1) := by decide +kernel
set_option maxRecDepth 20000 in
theorem ggX4_winner_X0_withdrawnOnes : GoodIn wsX4_winner wsX0_withdrawnOnes := goodIn_r _ [8, 9, 10, 33, 34, 35, 36, 37, 38, 39, 40] (by decide +kernel) (by decide +kernel)
set_option maxRecDepth 20000 in
theorem gX4_winner_X0_withdrawnOnes : GoodIn wsX4_winner (wsV RX4 84 RX0 yX0_withdrawnOnes wsX0_withdrawnOnes) := goodIn_app (goodIn_of _ (by decide +kernel)) ggX4_winner_X0_withdrawnOnes
set_option maxRecDepth 20000 in
theorem ggX4_winner_X0_beatenBy : GoodIn wsX4_winner wsX0_beatenBy := goodIn_r _ [14, 9, 10, 15, 16, 17, 7, 18, 19, 20, 21, 33, 34, 35, 36, 37, 38, 39, 40] (by decide +kernel) (by decide +kernel)
set_option maxRecDepth 20000 in
theorem gX4_winner_X0_beatenBy : GoodIn wsX4_winner (wsV RX4 177 RX0 yX0_beatenBy wsX0_beatenBy) := goodIn_app (goodIn_of _ (by decide +kernel)) ggX4_winner_X0_beatenBy
set_option maxRecDepth 20000 in
theorem ggX4_winner_J6_bitCount_0f7a4 : GoodIn wsX4_winner wsJ6_bitCount_0f7a4 := goodIn_r _ [25, 26, 27, 28] (by decide +kernel) (by decide +kernel)
set_option maxRecDepth 20000 in
theorem gX4_winner_J6_bitCount_0f7a4 : GoodIn wsX4_winner (va_wsS RX4 181 yJ6_bitCount_0f7a4 wsJ6_bitCount_0f7a4) := goodIn_app (goodIn_of _ (by decide +kernel)) ggX4_winner_J6_bitCount_0f7a4
theorem dX4_winner_0 : decode cX4_winner 0 = .ok (.aload_n 0, 1) := by decide +kernel
theorem dX4_winner_1 : decode cX4_winner 1 = .ok (.getfield 12, 3) := by decide +kernel
theorem dX4_winner_4 : decode cX4_winner 4 = .ok (.getfield 34, 3) := by decide +kernel
theorem dX4_winner_7 : decode cX4_winner 7 = .ok (.aload_n 0, 1) := by decide +kernel
theorem dX4_winner_8 : decode cX4_winner 8 = .ok (.getfield 12, 3) := by decide +kernel
theorem dX4_winner_11 : decode cX4_winner 11 = .ok (.invokevirtual 84, 3) := by decide +kernel
theorem dX4_winner_14 : decode cX4_winner 14 = .ok (.isub, 1) := by decide +kernel
theorem dX4_winner_15 : decode cX4_winner 15 = .ok (.istore_n 1, 1) := by decide +kernel
theorem dX4_winner_16 : decode cX4_winner 16 = .ok (.iconst 0, 1) := by decide +kernel
theorem dX4_winner_17 : decode cX4_winner 17 = .ok (.istore_n 2, 1) := by decide +kernel
theorem dX4_winner_18 : decode cX4_winner 18 = .ok (.iload_n 2, 1) := by decide +kernel
theorem dX4_winner_19 : decode cX4_winner 19 = .ok (.aload_n 0, 1) := by decide +kernel
theorem dX4_winner_20 : decode cX4_winner 20 = .ok (.getfield 12, 3) := by decide +kernel
theorem dX4_winner_23 : decode cX4_winner 23 = .ok (.getfield 34, 3) := by decide +kernel
theorem dX4_winner_26 : decode cX4_winner 26 = .ok (.if_icmp .ge 40, 3) := by decide +kernel
theorem dX4_winner_29 : decode cX4_winner 29 = .ok (.aload_n 0, 1) := by decide +kernel
theorem dX4_winner_30 : decode cX4_winner 30 = .ok (.getfield 12, 3) := by decide +kernel
theorem dX4_winner_33 : decode cX4_winner 33 = .ok (.getfield 46, 3) := by decide +kernel
theorem dX4_winner_36 : decode cX4_winner 36 = .ok (.iload_n 2, 1) := by decide +kernel
theorem dX4_winner_37 : decode cX4_winner 37 = .ok (.baload, 1) := by decide +kernel
theorem dX4_winner_38 : decode cX4_winner 38 = .ok (.ifCond .ne 22, 3) := by decide +kernel
theorem dX4_winner_41 : decode cX4_winner 41 = .ok (.aload_n 0, 1) := by decide +kernel
theorem dX4_winner_42 : decode cX4_winner 42 = .ok (.getfield 12, 3) := by decide +kernel
theorem dX4_winner_45 : decode cX4_winner 45 = .ok (.iload_n 2, 1) := by decide +kernel
theorem dX4_winner_46 : decode cX4_winner 46 = .ok (.invokevirtual 177, 3) := by decide +kernel
theorem dX4_winner_49 : decode cX4_winner 49 = .ok (.invokestatic 181, 3) := by decide +kernel
theorem dX4_winner_52 : decode cX4_winner 52 = .ok (.iload_n 1, 1) := by decide +kernel
theorem dX4_winner_53 : decode cX4_winner 53 = .ok (.iconst 1, 1) := by decide +kernel
theorem dX4_winner_54 : decode cX4_winner 54 = .ok (.isub, 1) := by decide +kernel
theorem dX4_winner_55 : decode cX4_winner 55 = .ok (.if_icmp .ne 5, 3) := by decide +kernel
theorem dX4_winner_58 : decode cX4_winner 58 = .ok (.iload_n 2, 1) := by decide +kernel
theorem dX4_winner_59 : decode cX4_winner 59 = .ok (.ireturn, 1) := by decide +kernel
theorem dX4_winner_60 : decode cX4_winner 60 = .ok (.iinc 2 1, 3) := by decide +kernel
theorem dX4_winner_63 : decode cX4_winner 63 = .ok (.goto (-45), 3) := by decide +kernel
theorem dX4_winner_66 : decode cX4_winner 66 = .ok (.bipush (-9), 2) := by decide +kernel
theorem dX4_winner_68 : decode cX4_winner 68 = .ok (.ireturn, 1) := by decide +kernel
set_option maxRecDepth 20000 in
theorem ggX4_leads_X0_hasCandidate : GoodIn wsX4_leads wsX0_hasCandidate := goodIn_r _ [6, 7, 39, 40, 41, 42, 43, 44, 45, 46] (by decide +kernel) (by decide +kernel)
set_option maxRecDepth 20000 in
theorem gX4_leads_X0_hasCandidate : GoodIn wsX4_leads (wsV RX4 42 RX0 yX0_hasCandidate wsX0_hasCandidate) := goodIn_app (goodIn_of _ (by decide +kernel)) ggX4_leads_X0_hasCandidate
set_option maxRecDepth 20000 in
theorem ggX4_leads_X0_ledBy : GoodIn wsX4_leads wsX0_ledBy := goodIn_r _ [11, 12, 7, 13, 14, 15, 5, 16, 17, 18, 19, 20, 21, 22, 23, 24, 25, 26, 27, 39, 40, 41, 42, 43, 44, 45, 46] (by decide +kernel) (by decide +kernel)
set_option maxRecDepth 20000 in
theorem gX4_leads_X0_ledBy : GoodIn wsX4_leads (wsV RX4 186 RX0 yX0_ledBy wsX0_ledBy) := goodIn_app (goodIn_of _ (by decide +kernel)) ggX4_leads_X0_ledBy
set_option maxRecDepth 20000 in
theorem ggX4_leads_J6_bitCount_0f7a4 : GoodIn wsX4_leads wsJ6_bitCount_0f7a4 := goodIn_r _ [31, 32, 33, 34] (by decide +kernel) (by decide +kernel)
set_option maxRecDepth 20000 in
theorem gX4_leads_J6_bitCount_0f7a4 : GoodIn wsX4_leads (va_wsS RX4 181 yJ6_bitCount_0f7a4 wsJ6_bitCount_0f7a4) := goodIn_app (goodIn_of _ (by decide +kernel)) ggX4_leads_J6_bitCount_0f7a4
theorem dX4_leads_0 : decode cX4_leads 0 = .ok (.aload_n 0, 1) := by decide +kernel
theorem dX4_leads_1 : decode cX4_leads 1 = .ok (.getfield 12, 3) := by decide +kernel
theorem dX4_leads_4 : decode cX4_leads 4 = .ok (.iload_n 1, 1) := by decide +kernel
theorem dX4_leads_5 : decode cX4_leads 5 = .ok (.invokevirtual 42, 3) := by decide +kernel
theorem dX4_leads_8 : decode cX4_leads 8 = .ok (.ifCond .eq 17, 3) := by decide +kernel
theorem dX4_leads_11 : decode cX4_leads 11 = .ok (.aload_n 0, 1) := by decide +kernel
theorem dX4_leads_12 : decode cX4_leads 12 = .ok (.getfield 12, 3) := by decide +kernel
theorem dX4_leads_15 : decode cX4_leads 15 = .ok (.iload_n 1, 1) := by decide +kernel
theorem dX4_leads_16 : decode cX4_leads 16 = .ok (.invokevirtual 186, 3) := by decide +kernel
theorem dX4_leads_19 : decode cX4_leads 19 = .ok (.invokestatic 181, 3) := by decide +kernel
theorem dX4_leads_22 : decode cX4_leads 22 = .ok (.goto 4, 3) := by decide +kernel
theorem dX4_leads_25 : decode cX4_leads 25 = .ok (.iconst (-1), 1) := by decide +kernel
theorem dX4_leads_26 : decode cX4_leads 26 = .ok (.ireturn, 1) := by decide +kernel
set_option maxRecDepth 20000 in
theorem ggX4_points_X0_hasCandidate : GoodIn wsX4_points wsX0_hasCandidate := goodIn_r _ [6, 7, 24, 25, 26, 27, 28, 29, 30, 31] (by decide +kernel) (by decide +kernel)
set_option maxRecDepth 20000 in
theorem gX4_points_X0_hasCandidate : GoodIn wsX4_points (wsV RX4 42 RX0 yX0_hasCandidate wsX0_hasCandidate) := goodIn_app (goodIn_of _ (by decide +kernel)) ggX4_points_X0_hasCandidate
set_option maxRecDepth 20000 in
theorem ggX4_points_X0_pointsOf : GoodIn wsX4_points wsX0_pointsOf := goodIn_r _ [11, 7, 12, 13, 14, 15, 5, 16, 17, 18, 19, 24, 25, 26, 27, 28, 29, 30, 31] (by decide +kernel) (by decide +kernel)
set_option maxRecDepth 20000 in
theorem gX4_points_X0_pointsOf : GoodIn wsX4_points (wsV RX4 189 RX0 yX0_pointsOf wsX0_pointsOf) := goodIn_app (goodIn_of _ (by decide +kernel)) ggX4_points_X0_pointsOf
theorem dX4_points_0 : decode cX4_points 0 = .ok (.aload_n 0, 1) := by decide +kernel
theorem dX4_points_1 : decode cX4_points 1 = .ok (.getfield 12, 3) := by decide +kernel
theorem dX4_points_4 : decode cX4_points 4 = .ok (.iload_n 1, 1) := by decide +kernel
theorem dX4_points_5 : decode cX4_points 5 = .ok (.invokevirtual 42, 3) := by decide +kernel
theorem dX4_points_8 : decode cX4_points 8 = .ok (.ifCond .eq 14, 3) := by decide +kernel
theorem dX4_points_11 : decode cX4_points 11 = .ok (.aload_n 0, 1) := by decide +kernel
theorem dX4_points_12 : decode cX4_points 12 = .ok (.getfield 12, 3) := by decide +kernel
theorem dX4_points_15 : decode cX4_points 15 = .ok (.iload_n 1, 1) := by decide +kernel
theorem dX4_points_16 : decode cX4_points 16 = .ok (.invokevirtual 189, 3) := by decide +kernel
theorem dX4_points_19 : decode cX4_points 19 = .ok (.goto 4, 3) := by decide +kernel
theorem dX4_points_22 : decode cX4_points 22 = .ok (.iconst (-1), 1) := by decide +kernel
theorem dX4_points_23 : decode cX4_points 23 = .ok (.ireturn, 1) := by decide +kernel
set_option maxRecDepth 20000 in
theorem ggX4_told_X0_validPapers : GoodIn wsX4_told wsX0_validPapers := goodIn_r _ [12, 13, 14, 15, 16, 17, 11, 18, 19, 20, 21, 31, 32, 33, 34, 35, 36, 37, 38] (by decide +kernel) (by decide +kernel)
set_option maxRecDepth 20000 in
theorem gX4_told_X0_validPapers : GoodIn wsX4_told (wsV RX4 192 RX0 yX0_validPapers wsX0_validPapers) := goodIn_app (goodIn_of _ (by decide +kernel)) ggX4_told_X0_validPapers
set_option maxRecDepth 20000 in
theorem ggX4_told_X0_withdrawnOnes : GoodIn wsX4_told wsX0_withdrawnOnes := goodIn_r _ [25, 26, 20, 31, 32, 33, 34, 35, 36, 37, 38] (by decide +kernel) (by decide +kernel)
set_option maxRecDepth 20000 in
theorem gX4_told_X0_withdrawnOnes : GoodIn wsX4_told (wsV RX4 84 RX0 yX0_withdrawnOnes wsX0_withdrawnOnes) := goodIn_app (goodIn_of _ (by decide +kernel)) ggX4_told_X0_withdrawnOnes
theorem dX4_told_0 : decode cX4_told 0 = .ok (.iload_n 1, 1) := by decide +kernel
theorem dX4_told_1 : decode cX4_told 1 = .ok (.tableswitch 99 0 6 #[43, 51, 59, 67, 75, 83, 91], 43) := by decide +kernel
theorem dX4_told_44 : decode cX4_told 44 = .ok (.aload_n 0, 1) := by decide +kernel
theorem dX4_told_45 : decode cX4_told 45 = .ok (.getfield 12, 3) := by decide +kernel
theorem dX4_told_48 : decode cX4_told 48 = .ok (.getfield 34, 3) := by decide +kernel
theorem dX4_told_51 : decode cX4_told 51 = .ok (.ireturn, 1) := by decide +kernel
theorem dX4_told_52 : decode cX4_told 52 = .ok (.aload_n 0, 1) := by decide +kernel
theorem dX4_told_53 : decode cX4_told 53 = .ok (.getfield 12, 3) := by decide +kernel
theorem dX4_told_56 : decode cX4_told 56 = .ok (.getfield 61, 3) := by decide +kernel
theorem dX4_told_59 : decode cX4_told 59 = .ok (.ireturn, 1) := by decide +kernel
theorem dX4_told_60 : decode cX4_told 60 = .ok (.aload_n 0, 1) := by decide +kernel
theorem dX4_told_61 : decode cX4_told 61 = .ok (.getfield 12, 3) := by decide +kernel
theorem dX4_told_64 : decode cX4_told 64 = .ok (.invokevirtual 192, 3) := by decide +kernel
theorem dX4_told_67 : decode cX4_told 67 = .ok (.ireturn, 1) := by decide +kernel
theorem dX4_told_68 : decode cX4_told 68 = .ok (.aload_n 0, 1) := by decide +kernel
theorem dX4_told_69 : decode cX4_told 69 = .ok (.getfield 19, 3) := by decide +kernel
theorem dX4_told_72 : decode cX4_told 72 = .ok (.getfield 108, 3) := by decide +kernel
theorem dX4_told_75 : decode cX4_told 75 = .ok (.ireturn, 1) := by decide +kernel
theorem dX4_told_76 : decode cX4_told 76 = .ok (.aload_n 0, 1) := by decide +kernel
theorem dX4_told_77 : decode cX4_told 77 = .ok (.getfield 19, 3) := by decide +kernel
theorem dX4_told_80 : decode cX4_told 80 = .ok (.getfield 149, 3) := by decide +kernel
theorem dX4_told_83 : decode cX4_told 83 = .ok (.ireturn, 1) := by decide +kernel
theorem dX4_told_84 : decode cX4_told 84 = .ok (.aload_n 0, 1) := by decide +kernel
theorem dX4_told_85 : decode cX4_told 85 = .ok (.getfield 19, 3) := by decide +kernel
theorem dX4_told_88 : decode cX4_told 88 = .ok (.getfield 155, 3) := by decide +kernel
theorem dX4_told_91 : decode cX4_told 91 = .ok (.ireturn, 1) := by decide +kernel
theorem dX4_told_92 : decode cX4_told 92 = .ok (.aload_n 0, 1) := by decide +kernel
theorem dX4_told_93 : decode cX4_told 93 = .ok (.getfield 12, 3) := by decide +kernel
theorem dX4_told_96 : decode cX4_told 96 = .ok (.invokevirtual 84, 3) := by decide +kernel
theorem dX4_told_99 : decode cX4_told 99 = .ok (.ireturn, 1) := by decide +kernel
theorem dX4_told_100 : decode cX4_told 100 = .ok (.bipush (-2), 2) := by decide +kernel
theorem dX4_told_102 : decode cX4_told 102 = .ok (.ireturn, 1) := by decide +kernel
theorem dX4_isPapers_0 : decode cX4_isPapers 0 = .ok (.iload_n 0, 1) := by decide +kernel
theorem dX4_isPapers_1 : decode cX4_isPapers 1 = .ok (.iconst 1, 1) := by decide +kernel
theorem dX4_isPapers_2 : decode cX4_isPapers 2 = .ok (.if_icmp .lt 14, 3) := by decide +kernel
theorem dX4_isPapers_5 : decode cX4_isPapers 5 = .ok (.iload_n 0, 1) := by decide +kernel
theorem dX4_isPapers_6 : decode cX4_isPapers 6 = .ok (.sipush 500, 3) := by decide +kernel
theorem dX4_isPapers_9 : decode cX4_isPapers 9 = .ok (.if_icmp .gt 7, 3) := by decide +kernel
theorem dX4_isPapers_12 : decode cX4_isPapers 12 = .ok (.iconst 1, 1) := by decide +kernel
theorem dX4_isPapers_13 : decode cX4_isPapers 13 = .ok (.goto 4, 3) := by decide +kernel
theorem dX4_isPapers_16 : decode cX4_isPapers 16 = .ok (.iconst 0, 1) := by decide +kernel
theorem dX4_isPapers_17 : decode cX4_isPapers 17 = .ok (.ireturn, 1) := by decide +kernel
theorem dX4_cell_0 : decode cX4_cell 0 = .ok (.iload_n 0, 1) := by decide +kernel
theorem dX4_cell_1 : decode cX4_cell 1 = .ok (.bipush 12, 2) := by decide +kernel
theorem dX4_cell_3 : decode cX4_cell 3 = .ok (.imul, 1) := by decide +kernel
theorem dX4_cell_4 : decode cX4_cell 4 = .ok (.iload_n 1, 1) := by decide +kernel
theorem dX4_cell_5 : decode cX4_cell 5 = .ok (.iadd, 1) := by decide +kernel
theorem dX4_cell_6 : decode cX4_cell 6 = .ok (.ireturn, 1) := by decide +kernel
theorem dX4_place_0 : decode cX4_place 0 = .ok (.iload_n 0, 1) := by decide +kernel
theorem dX4_place_1 : decode cX4_place 1 = .ok (.bipush 80, 2) := by decide +kernel
theorem dX4_place_3 : decode cX4_place 3 = .ok (.imul, 1) := by decide +kernel
theorem dX4_place_4 : decode cX4_place 4 = .ok (.iload_n 1, 1) := by decide +kernel
theorem dX4_place_5 : decode cX4_place 5 = .ok (.iadd, 1) := by decide +kernel
theorem dX4_place_6 : decode cX4_place 6 = .ok (.ireturn, 1) := by decide +kernel
set_option maxRecDepth 20000 in
theorem ggX5_init_X5_begin : GoodIn wsX5_init wsX5_begin := goodIn_r _ [39, 40, 41, 5, 7, 42, 43, 44, 45, 46, 47, 48, 49, 50, 51, 52, 53, 54, 55, 56, 57, 58, 59, 60, 61, 62, 63, 64, 65, 66, 67, 68, 69, 70, 71, 72, 73, 74, 75, 76, 77, 78, 79] (by decide +kernel) (by decide +kernel)
set_option maxRecDepth 20000 in
theorem gX5_init_X5_begin : GoodIn wsX5_init (wsV RX5 93 RX5 yX5_begin wsX5_begin) := goodIn_app (goodIn_of _ (by decide +kernel)) ggX5_init_X5_begin
theorem dX5_init_0 : decode cX5_init 0 = .ok (.aload_n 0, 1) := by decide +kernel
theorem dX5_init_1 : decode cX5_init 1 = .ok (.invokespecial 1, 3) := by decide +kernel
theorem dX5_init_4 : decode cX5_init 4 = .ok (.aload_n 0, 1) := by decide +kernel
theorem dX5_init_5 : decode cX5_init 5 = .ok (.bipush 12, 2) := by decide +kernel
theorem dX5_init_7 : decode cX5_init 7 = .ok (.newarray .boolean, 2) := by decide +kernel
theorem dX5_init_9 : decode cX5_init 9 = .ok (.putfield 7, 3) := by decide +kernel
theorem dX5_init_12 : decode cX5_init 12 = .ok (.aload_n 0, 1) := by decide +kernel
theorem dX5_init_13 : decode cX5_init 13 = .ok (.bipush 12, 2) := by decide +kernel
theorem dX5_init_15 : decode cX5_init 15 = .ok (.newarray .int, 2) := by decide +kernel
theorem dX5_init_17 : decode cX5_init 17 = .ok (.putfield 13, 3) := by decide +kernel
theorem dX5_init_20 : decode cX5_init 20 = .ok (.aload_n 0, 1) := by decide +kernel
theorem dX5_init_21 : decode cX5_init 21 = .ok (.bipush 80, 2) := by decide +kernel
theorem dX5_init_23 : decode cX5_init 23 = .ok (.newarray .int, 2) := by decide +kernel
theorem dX5_init_25 : decode cX5_init 25 = .ok (.putfield 17, 3) := by decide +kernel
theorem dX5_init_28 : decode cX5_init 28 = .ok (.aload_n 0, 1) := by decide +kernel
theorem dX5_init_29 : decode cX5_init 29 = .ok (.bipush 80, 2) := by decide +kernel
theorem dX5_init_31 : decode cX5_init 31 = .ok (.newarray .int, 2) := by decide +kernel
theorem dX5_init_33 : decode cX5_init 33 = .ok (.putfield 20, 3) := by decide +kernel
theorem dX5_init_36 : decode cX5_init 36 = .ok (.aload_n 0, 1) := by decide +kernel
theorem dX5_init_37 : decode cX5_init 37 = .ok (.sipush 960, 3) := by decide +kernel
theorem dX5_init_40 : decode cX5_init 40 = .ok (.newarray .int, 2) := by decide +kernel
theorem dX5_init_42 : decode cX5_init 42 = .ok (.putfield 23, 3) := by decide +kernel
theorem dX5_init_45 : decode cX5_init 45 = .ok (.aload_n 0, 1) := by decide +kernel
theorem dX5_init_46 : decode cX5_init 46 = .ok (.bipush 16, 2) := by decide +kernel
theorem dX5_init_48 : decode cX5_init 48 = .ok (.newarray .int, 2) := by decide +kernel
theorem dX5_init_50 : decode cX5_init 50 = .ok (.putfield 26, 3) := by decide +kernel
theorem dX5_init_53 : decode cX5_init 53 = .ok (.aload_n 0, 1) := by decide +kernel
theorem dX5_init_54 : decode cX5_init 54 = .ok (.bipush 90, 2) := by decide +kernel
theorem dX5_init_56 : decode cX5_init 56 = .ok (.newarray .int, 2) := by decide +kernel
theorem dX5_init_58 : decode cX5_init 58 = .ok (.putfield 29, 3) := by decide +kernel
theorem dX5_init_61 : decode cX5_init 61 = .ok (.aload_n 0, 1) := by decide +kernel
theorem dX5_init_62 : decode cX5_init 62 = .ok (.bipush 90, 2) := by decide +kernel
theorem dX5_init_64 : decode cX5_init 64 = .ok (.newarray .int, 2) := by decide +kernel
theorem dX5_init_66 : decode cX5_init 66 = .ok (.putfield 32, 3) := by decide +kernel
theorem dX5_init_69 : decode cX5_init 69 = .ok (.aload_n 0, 1) := by decide +kernel
theorem dX5_init_70 : decode cX5_init 70 = .ok (.bipush 90, 2) := by decide +kernel
theorem dX5_init_72 : decode cX5_init 72 = .ok (.newarray .long, 2) := by decide +kernel
theorem dX5_init_74 : decode cX5_init 74 = .ok (.putfield 35, 3) := by decide +kernel
theorem dX5_init_77 : decode cX5_init 77 = .ok (.aload_n 0, 1) := by decide +kernel
theorem dX5_init_78 : decode cX5_init 78 = .ok (.bipush 90, 2) := by decide +kernel
theorem dX5_init_80 : decode cX5_init 80 = .ok (.newarray .long, 2) := by decide +kernel
theorem dX5_init_82 : decode cX5_init 82 = .ok (.putfield 39, 3) := by decide +kernel
theorem dX5_init_85 : decode cX5_init 85 = .ok (.aload_n 0, 1) := by decide +kernel
theorem dX5_init_86 : decode cX5_init 86 = .ok (.bipush 90, 2) := by decide +kernel
theorem dX5_init_88 : decode cX5_init 88 = .ok (.newarray .int, 2) := by decide +kernel
theorem dX5_init_90 : decode cX5_init 90 = .ok (.putfield 42, 3) := by decide +kernel
theorem dX5_init_93 : decode cX5_init 93 = .ok (.aload_n 0, 1) := by decide +kernel
theorem dX5_init_94 : decode cX5_init 94 = .ok (.bipush 90, 2) := by decide +kernel
theorem dX5_init_96 : decode cX5_init 96 = .ok (.newarray .long, 2) := by decide +kernel
theorem dX5_init_98 : decode cX5_init 98 = .ok (.putfield 45, 3) := by decide +kernel
theorem dX5_init_101 : decode cX5_init 101 = .ok (.aload_n 0, 1) := by decide +kernel
theorem dX5_init_102 : decode cX5_init 102 = .ok (.bipush 90, 2) := by decide +kernel
theorem dX5_init_104 : decode cX5_init 104 = .ok (.newarray .long, 2) := by decide +kernel
theorem dX5_init_106 : decode cX5_init 106 = .ok (.putfield 48, 3) := by decide +kernel
theorem dX5_init_109 : decode cX5_init 109 = .ok (.aload_n 0, 1) := by decide +kernel
theorem dX5_init_110 : decode cX5_init 110 = .ok (.sipush 1080, 3) := by decide +kernel
theorem dX5_init_113 : decode cX5_init 113 = .ok (.newarray .long, 2) := by decide +kernel
theorem dX5_init_115 : decode cX5_init 115 = .ok (.putfield 51, 3) := by decide +kernel
theorem dX5_init_118 : decode cX5_init 118 = .ok (.aload_n 0, 1) := by decide +kernel
theorem dX5_init_119 : decode cX5_init 119 = .ok (.sipush 1080, 3) := by decide +kernel
theorem dX5_init_122 : decode cX5_init 122 = .ok (.newarray .int, 2) := by decide +kernel
theorem dX5_init_124 : decode cX5_init 124 = .ok (.putfield 54, 3) := by decide +kernel
theorem dX5_init_127 : decode cX5_init 127 = .ok (.aload_n 0, 1) := by decide +kernel
theorem dX5_init_128 : decode cX5_init 128 = .ok (.sipush 1080, 3) := by decide +kernel
theorem dX5_init_131 : decode cX5_init 131 = .ok (.newarray .long, 2) := by decide +kernel
theorem dX5_init_133 : decode cX5_init 133 = .ok (.putfield 57, 3) := by decide +kernel
theorem dX5_init_136 : decode cX5_init 136 = .ok (.aload_n 0, 1) := by decide +kernel
theorem dX5_init_137 : decode cX5_init 137 = .ok (.sipush 7200, 3) := by decide +kernel
theorem dX5_init_140 : decode cX5_init 140 = .ok (.newarray .int, 2) := by decide +kernel
theorem dX5_init_142 : decode cX5_init 142 = .ok (.putfield 60, 3) := by decide +kernel
theorem dX5_init_145 : decode cX5_init 145 = .ok (.aload_n 0, 1) := by decide +kernel
theorem dX5_init_146 : decode cX5_init 146 = .ok (.sipush 7200, 3) := by decide +kernel
theorem dX5_init_149 : decode cX5_init 149 = .ok (.newarray .long, 2) := by decide +kernel
theorem dX5_init_151 : decode cX5_init 151 = .ok (.putfield 63, 3) := by decide +kernel
theorem dX5_init_154 : decode cX5_init 154 = .ok (.aload_n 0, 1) := by decide +kernel
theorem dX5_init_155 : decode cX5_init 155 = .ok (.sipush 1080, 3) := by decide +kernel
theorem dX5_init_158 : decode cX5_init 158 = .ok (.newarray .long, 2) := by decide +kernel
theorem dX5_init_160 : decode cX5_init 160 = .ok (.putfield 66, 3) := by decide +kernel
theorem dX5_init_163 : decode cX5_init 163 = .ok (.aload_n 0, 1) := by decide +kernel
theorem dX5_init_164 : decode cX5_init 164 = .ok (.bipush 12, 2) := by decide +kernel
theorem dX5_init_166 : decode cX5_init 166 = .ok (.newarray .int, 2) := by decide +kernel
theorem dX5_init_168 : decode cX5_init 168 = .ok (.putfield 69, 3) := by decide +kernel
theorem dX5_init_171 : decode cX5_init 171 = .ok (.aload_n 0, 1) := by decide +kernel
theorem dX5_init_172 : decode cX5_init 172 = .ok (.bipush 12, 2) := by decide +kernel
theorem dX5_init_174 : decode cX5_init 174 = .ok (.newarray .long, 2) := by decide +kernel
theorem dX5_init_176 : decode cX5_init 176 = .ok (.putfield 72, 3) := by decide +kernel
theorem dX5_init_179 : decode cX5_init 179 = .ok (.aload_n 0, 1) := by decide +kernel
theorem dX5_init_180 : decode cX5_init 180 = .ok (.bipush 12, 2) := by decide +kernel
theorem dX5_init_182 : decode cX5_init 182 = .ok (.newarray .int, 2) := by decide +kernel
theorem dX5_init_184 : decode cX5_init 184 = .ok (.putfield 75, 3) := by decide +kernel
theorem dX5_init_187 : decode cX5_init 187 = .ok (.aload_n 0, 1) := by decide +kernel
theorem dX5_init_188 : decode cX5_init 188 = .ok (.bipush 12, 2) := by decide +kernel
theorem dX5_init_190 : decode cX5_init 190 = .ok (.newarray .long, 2) := by decide +kernel
theorem dX5_init_192 : decode cX5_init 192 = .ok (.putfield 78, 3) := by decide +kernel
theorem dX5_init_195 : decode cX5_init 195 = .ok (.aload_n 0, 1) := by decide +kernel
theorem dX5_init_196 : decode cX5_init 196 = .ok (.bipush 80, 2) := by decide +kernel
theorem dX5_init_198 : decode cX5_init 198 = .ok (.newarray .int, 2) := by decide +kernel
theorem dX5_init_200 : decode cX5_init 200 = .ok (.putfield 81, 3) := by decide +kernel
theorem dX5_init_203 : decode cX5_init 203 = .ok (.aload_n 0, 1) := by decide +kernel
theorem dX5_init_204 : decode cX5_init 204 = .ok (.bipush 80, 2) := by decide +kernel
theorem dX5_init_206 : decode cX5_init 206 = .ok (.newarray .long, 2) := by decide +kernel
theorem dX5_init_208 : decode cX5_init 208 = .ok (.putfield 84, 3) := by decide +kernel
theorem dX5_init_211 : decode cX5_init 211 = .ok (.aload_n 0, 1) := by decide +kernel
theorem dX5_init_212 : decode cX5_init 212 = .ok (.bipush 80, 2) := by decide +kernel
theorem dX5_init_214 : decode cX5_init 214 = .ok (.newarray .int, 2) := by decide +kernel
theorem dX5_init_216 : decode cX5_init 216 = .ok (.putfield 87, 3) := by decide +kernel
theorem dX5_init_219 : decode cX5_init 219 = .ok (.aload_n 0, 1) := by decide +kernel
theorem dX5_init_220 : decode cX5_init 220 = .ok (.bipush 12, 2) := by decide +kernel
theorem dX5_init_222 : decode cX5_init 222 = .ok (.newarray .boolean, 2) := by decide +kernel
theorem dX5_init_224 : decode cX5_init 224 = .ok (.putfield 90, 3) := by decide +kernel
theorem dX5_init_227 : decode cX5_init 227 = .ok (.aload_n 0, 1) := by decide +kernel
theorem dX5_init_228 : decode cX5_init 228 = .ok (.iconst 3, 1) := by decide +kernel
theorem dX5_init_229 : decode cX5_init 229 = .ok (.invokevirtual 93, 3) := by decide +kernel
theorem dX5_init_232 : decode cX5_init 232 = .ok (.aload_n 0, 1) := by decide +kernel
theorem dX5_init_233 : decode cX5_init 233 = .ok (.bipush (-9), 2) := by decide +kernel
theorem dX5_init_235 : decode cX5_init 235 = .ok (.putfield 97, 3) := by decide +kernel
theorem dX5_init_238 : decode cX5_init 238 = .ok (.return_, 1) := by decide +kernel
theorem dX5_in_0 : decode cX5_in 0 = .ok (.iload_n 0, 1) := by decide +kernel
theorem dX5_in_1 : decode cX5_in 1 = .ok (.iload_n 1, 1) := by decide +kernel
theorem dX5_in_2 : decode cX5_in 2 = .ok (.if_icmp .lt 12, 3) := by decide +kernel
theorem dX5_in_5 : decode cX5_in 5 = .ok (.iload_n 0, 1) := by decide +kernel
theorem dX5_in_6 : decode cX5_in 6 = .ok (.iload_n 2, 1) := by decide +kernel
theorem dX5_in_7 : decode cX5_in 7 = .ok (.if_icmp .gt 7, 3) := by decide +kernel
theorem dX5_in_10 : decode cX5_in 10 = .ok (.iconst 1, 1) := by decide +kernel
theorem dX5_in_11 : decode cX5_in 11 = .ok (.goto 4, 3) := by decide +kernel
theorem dX5_in_14 : decode cX5_in 14 = .ok (.iconst 0, 1) := by decide +kernel
theorem dX5_in_15 : decode cX5_in 15 = .ok (.ireturn, 1) := by decide +kernel
theorem dX5_begin_0 : decode cX5_begin 0 = .ok (.aload_n 0, 1) := by decide +kernel
theorem dX5_begin_1 : decode cX5_begin 1 = .ok (.iload_n 1, 1) := by decide +kernel
theorem dX5_begin_2 : decode cX5_begin 2 = .ok (.putfield 101, 3) := by decide +kernel
theorem dX5_begin_5 : decode cX5_begin 5 = .ok (.aload_n 0, 1) := by decide +kernel
theorem dX5_begin_6 : decode cX5_begin 6 = .ok (.iconst 0, 1) := by decide +kernel
theorem dX5_begin_7 : decode cX5_begin 7 = .ok (.putfield 104, 3) := by decide +kernel
theorem dX5_begin_10 : decode cX5_begin 10 = .ok (.iconst 0, 1) := by decide +kernel
theorem dX5_begin_11 : decode cX5_begin 11 = .ok (.istore_n 2, 1) := by decide +kernel
theorem dX5_begin_12 : decode cX5_begin 12 = .ok (.iload_n 2, 1) := by decide +kernel
theorem dX5_begin_13 : decode cX5_begin 13 = .ok (.bipush 12, 2) := by decide +kernel
theorem dX5_begin_15 : decode cX5_begin 15 = .ok (.if_icmp .ge 23, 3) := by decide +kernel
theorem dX5_begin_18 : decode cX5_begin 18 = .ok (.aload_n 0, 1) := by decide +kernel
theorem dX5_begin_19 : decode cX5_begin 19 = .ok (.getfield 7, 3) := by decide +kernel
theorem dX5_begin_22 : decode cX5_begin 22 = .ok (.iload_n 2, 1) := by decide +kernel
theorem dX5_begin_23 : decode cX5_begin 23 = .ok (.iconst 0, 1) := by decide +kernel
theorem dX5_begin_24 : decode cX5_begin 24 = .ok (.bastore, 1) := by decide +kernel
theorem dX5_begin_25 : decode cX5_begin 25 = .ok (.aload_n 0, 1) := by decide +kernel
theorem dX5_begin_26 : decode cX5_begin 26 = .ok (.getfield 13, 3) := by decide +kernel
theorem dX5_begin_29 : decode cX5_begin 29 = .ok (.iload_n 2, 1) := by decide +kernel
theorem dX5_begin_30 : decode cX5_begin 30 = .ok (.iload_n 2, 1) := by decide +kernel
theorem dX5_begin_31 : decode cX5_begin 31 = .ok (.iastore, 1) := by decide +kernel
theorem dX5_begin_32 : decode cX5_begin 32 = .ok (.iinc 2 1, 3) := by decide +kernel
theorem dX5_begin_35 : decode cX5_begin 35 = .ok (.goto (-23), 3) := by decide +kernel
theorem dX5_begin_38 : decode cX5_begin 38 = .ok (.return_, 1) := by decide +kernel
set_option maxRecDepth 20000 in
theorem ggX5_noOne_X5_in : GoodIn wsX5_noOne wsX5_in := goodIn_r _ [5] (by decide +kernel) (by decide +kernel)
set_option maxRecDepth 20000 in
theorem gX5_noOne_X5_in : GoodIn wsX5_noOne (va_wsS RX5 107 yX5_in wsX5_in) := goodIn_app (goodIn_of _ (by decide +kernel)) ggX5_noOne_X5_in
theorem dX5_noOne_0 : decode cX5_noOne 0 = .ok (.iload_n 1, 1) := by decide +kernel
theorem dX5_noOne_1 : decode cX5_noOne 1 = .ok (.iconst 0, 1) := by decide +kernel
theorem dX5_noOne_2 : decode cX5_noOne 2 = .ok (.aload_n 0, 1) := by decide +kernel
theorem dX5_noOne_3 : decode cX5_noOne 3 = .ok (.getfield 101, 3) := by decide +kernel
theorem dX5_noOne_6 : decode cX5_noOne 6 = .ok (.iconst 1, 1) := by decide +kernel
theorem dX5_noOne_7 : decode cX5_noOne 7 = .ok (.isub, 1) := by decide +kernel
theorem dX5_noOne_8 : decode cX5_noOne 8 = .ok (.invokestatic 107, 3) := by decide +kernel
theorem dX5_noOne_11 : decode cX5_noOne 11 = .ok (.ifCond .ne 7, 3) := by decide +kernel
theorem dX5_noOne_14 : decode cX5_noOne 14 = .ok (.iconst 1, 1) := by decide +kernel
theorem dX5_noOne_15 : decode cX5_noOne 15 = .ok (.goto 4, 3) := by decide +kernel
theorem dX5_noOne_18 : decode cX5_noOne 18 = .ok (.iconst 0, 1) := by decide +kernel
theorem dX5_noOne_19 : decode cX5_noOne 19 = .ok (.ireturn, 1) := by decide +kernel
set_option maxRecDepth 20000 in
theorem ggX5_candidates_X5_in : GoodIn wsX5_candidates wsX5_in := goodIn_r _ [5] (by decide +kernel) (by decide +kernel)
set_option maxRecDepth 20000 in
theorem gX5_candidates_X5_in : GoodIn wsX5_candidates (va_wsS RX5 107 yX5_in wsX5_in) := goodIn_app (goodIn_of _ (by decide +kernel)) ggX5_candidates_X5_in
set_option maxRecDepth 20000 in
theorem ggX5_candidates_X5_begin : GoodIn wsX5_candidates wsX5_begin := goodIn_r _ [9, 1, 10, 11, 12, 13, 14, 15, 16, 17, 18, 19, 20, 21, 22, 23, 24, 25, 26, 27, 28, 29, 30, 31, 32, 33, 34, 35, 36, 37, 38, 39, 40, 41, 42, 43, 44, 45, 46, 47, 48, 49, 50] (by decide +kernel) (by decide +kernel)
set_option maxRecDepth 20000 in
theorem gX5_candidates_X5_begin : GoodIn wsX5_candidates (wsV RX5 93 RX5 yX5_begin wsX5_begin) := goodIn_app (goodIn_of _ (by decide +kernel)) ggX5_candidates_X5_begin
theorem dX5_candidates_0 : decode cX5_candidates 0 = .ok (.iload_n 1, 1) := by decide +kernel
theorem dX5_candidates_1 : decode cX5_candidates 1 = .ok (.iconst 1, 1) := by decide +kernel
theorem dX5_candidates_2 : decode cX5_candidates 2 = .ok (.bipush 12, 2) := by decide +kernel
theorem dX5_candidates_4 : decode cX5_candidates 4 = .ok (.invokestatic 107, 3) := by decide +kernel
theorem dX5_candidates_7 : decode cX5_candidates 7 = .ok (.ifCond .ne 6, 3) := by decide +kernel
theorem dX5_candidates_10 : decode cX5_candidates 10 = .ok (.bipush (-2), 2) := by decide +kernel
theorem dX5_candidates_12 : decode cX5_candidates 12 = .ok (.ireturn, 1) := by decide +kernel
theorem dX5_candidates_13 : decode cX5_candidates 13 = .ok (.aload_n 0, 1) := by decide +kernel
theorem dX5_candidates_14 : decode cX5_candidates 14 = .ok (.getfield 101, 3) := by decide +kernel
theorem dX5_candidates_17 : decode cX5_candidates 17 = .ok (.istore_n 2, 1) := by decide +kernel
theorem dX5_candidates_18 : decode cX5_candidates 18 = .ok (.aload_n 0, 1) := by decide +kernel
theorem dX5_candidates_19 : decode cX5_candidates 19 = .ok (.iload_n 1, 1) := by decide +kernel
theorem dX5_candidates_20 : decode cX5_candidates 20 = .ok (.invokevirtual 93, 3) := by decide +kernel
theorem dX5_candidates_23 : decode cX5_candidates 23 = .ok (.iload_n 2, 1) := by decide +kernel
theorem dX5_candidates_24 : decode cX5_candidates 24 = .ok (.ireturn, 1) := by decide +kernel
set_option maxRecDepth 20000 in
theorem ggX5_withdraw_X5_noOne : GoodIn wsX5_withdraw wsX5_noOne := goodIn_r _ [6, 7, 8, 9, 5, 10, 11, 12, 13, 14, 15, 16, 17, 18, 19, 20, 21, 22, 23, 24, 25, 26, 27, 28, 29, 30, 31, 32, 33, 34, 35, 36, 37, 38, 39, 40, 41, 42, 43, 44, 45, 46, 47, 48] (by decide +kernel) (by decide +kernel)
set_option maxRecDepth 20000 in
theorem gX5_withdraw_X5_noOne : GoodIn wsX5_withdraw (wsV RX5 111 RX5 yX5_noOne wsX5_noOne) := goodIn_app (goodIn_of _ (by decide +kernel)) ggX5_withdraw_X5_noOne
theorem dX5_withdraw_0 : decode cX5_withdraw 0 = .ok (.aload_n 0, 1) := by decide +kernel
theorem dX5_withdraw_1 : decode cX5_withdraw 1 = .ok (.iload_n 1, 1) := by decide +kernel
theorem dX5_withdraw_2 : decode cX5_withdraw 2 = .ok (.invokevirtual 111, 3) := by decide +kernel
theorem dX5_withdraw_5 : decode cX5_withdraw 5 = .ok (.ifCond .eq 5, 3) := by decide +kernel
theorem dX5_withdraw_8 : decode cX5_withdraw 8 = .ok (.iconst (-1), 1) := by decide +kernel
theorem dX5_withdraw_9 : decode cX5_withdraw 9 = .ok (.ireturn, 1) := by decide +kernel
theorem dX5_withdraw_10 : decode cX5_withdraw 10 = .ok (.aload_n 0, 1) := by decide +kernel
theorem dX5_withdraw_11 : decode cX5_withdraw 11 = .ok (.getfield 7, 3) := by decide +kernel
theorem dX5_withdraw_14 : decode cX5_withdraw 14 = .ok (.iload_n 1, 1) := by decide +kernel
theorem dX5_withdraw_15 : decode cX5_withdraw 15 = .ok (.baload, 1) := by decide +kernel
theorem dX5_withdraw_16 : decode cX5_withdraw 16 = .ok (.iload_n 2, 1) := by decide +kernel
theorem dX5_withdraw_17 : decode cX5_withdraw 17 = .ok (.if_icmp .ne 7, 3) := by decide +kernel
theorem dX5_withdraw_20 : decode cX5_withdraw 20 = .ok (.iconst 0, 1) := by decide +kernel
theorem dX5_withdraw_21 : decode cX5_withdraw 21 = .ok (.goto 4, 3) := by decide +kernel
theorem dX5_withdraw_24 : decode cX5_withdraw 24 = .ok (.iconst 1, 1) := by decide +kernel
theorem dX5_withdraw_25 : decode cX5_withdraw 25 = .ok (.istore_n 3, 1) := by decide +kernel
theorem dX5_withdraw_26 : decode cX5_withdraw 26 = .ok (.aload_n 0, 1) := by decide +kernel
theorem dX5_withdraw_27 : decode cX5_withdraw 27 = .ok (.getfield 7, 3) := by decide +kernel
theorem dX5_withdraw_30 : decode cX5_withdraw 30 = .ok (.iload_n 1, 1) := by decide +kernel
theorem dX5_withdraw_31 : decode cX5_withdraw 31 = .ok (.iload_n 2, 1) := by decide +kernel
theorem dX5_withdraw_32 : decode cX5_withdraw 32 = .ok (.bastore, 1) := by decide +kernel
theorem dX5_withdraw_33 : decode cX5_withdraw 33 = .ok (.iload_n 3, 1) := by decide +kernel
theorem dX5_withdraw_34 : decode cX5_withdraw 34 = .ok (.ireturn, 1) := by decide +kernel
set_option maxRecDepth 20000 in
theorem ggX5_lot_X5_noOne : GoodIn wsX5_lot wsX5_noOne := goodIn_r _ [7, 1, 8, 9, 6, 10, 11, 12, 13, 14, 15, 16, 17, 18, 19, 20, 21, 22, 23, 24, 25, 26, 27, 28, 29, 30, 31, 32, 33, 34, 35, 36, 37, 38, 39, 40, 41, 42, 43, 44, 45, 46, 47, 48] (by decide +kernel) (by decide +kernel)
set_option maxRecDepth 20000 in
theorem gX5_lot_X5_noOne : GoodIn wsX5_lot (wsV RX5 111 RX5 yX5_noOne wsX5_noOne) := goodIn_app (goodIn_of _ (by decide +kernel)) ggX5_lot_X5_noOne
set_option maxRecDepth 20000 in
theorem ggX5_lot_X5_in : GoodIn wsX5_lot wsX5_in := goodIn_r _ [10] (by decide +kernel) (by decide +kernel)
set_option maxRecDepth 20000 in
theorem gX5_lot_X5_in : GoodIn wsX5_lot (va_wsS RX5 107 yX5_in wsX5_in) := goodIn_app (goodIn_of _ (by decide +kernel)) ggX5_lot_X5_in
theorem dX5_lot_0 : decode cX5_lot 0 = .ok (.aload_n 0, 1) := by decide +kernel
theorem dX5_lot_1 : decode cX5_lot 1 = .ok (.iload_n 1, 1) := by decide +kernel
theorem dX5_lot_2 : decode cX5_lot 2 = .ok (.invokevirtual 111, 3) := by decide +kernel
theorem dX5_lot_5 : decode cX5_lot 5 = .ok (.ifCond .eq 5, 3) := by decide +kernel
theorem dX5_lot_8 : decode cX5_lot 8 = .ok (.iconst (-1), 1) := by decide +kernel
theorem dX5_lot_9 : decode cX5_lot 9 = .ok (.ireturn, 1) := by decide +kernel
theorem dX5_lot_10 : decode cX5_lot 10 = .ok (.iload_n 2, 1) := by decide +kernel
theorem dX5_lot_11 : decode cX5_lot 11 = .ok (.iconst 0, 1) := by decide +kernel
theorem dX5_lot_12 : decode cX5_lot 12 = .ok (.aload_n 0, 1) := by decide +kernel
theorem dX5_lot_13 : decode cX5_lot 13 = .ok (.getfield 101, 3) := by decide +kernel
theorem dX5_lot_16 : decode cX5_lot 16 = .ok (.iconst 1, 1) := by decide +kernel
theorem dX5_lot_17 : decode cX5_lot 17 = .ok (.isub, 1) := by decide +kernel
theorem dX5_lot_18 : decode cX5_lot 18 = .ok (.invokestatic 107, 3) := by decide +kernel
theorem dX5_lot_21 : decode cX5_lot 21 = .ok (.ifCond .ne 6, 3) := by decide +kernel
theorem dX5_lot_24 : decode cX5_lot 24 = .ok (.bipush (-2), 2) := by decide +kernel
theorem dX5_lot_26 : decode cX5_lot 26 = .ok (.ireturn, 1) := by decide +kernel
theorem dX5_lot_27 : decode cX5_lot 27 = .ok (.aload_n 0, 1) := by decide +kernel
theorem dX5_lot_28 : decode cX5_lot 28 = .ok (.getfield 13, 3) := by decide +kernel
theorem dX5_lot_31 : decode cX5_lot 31 = .ok (.iload_n 1, 1) := by decide +kernel
theorem dX5_lot_32 : decode cX5_lot 32 = .ok (.iaload, 1) := by decide +kernel
theorem dX5_lot_33 : decode cX5_lot 33 = .ok (.istore_n 3, 1) := by decide +kernel
theorem dX5_lot_34 : decode cX5_lot 34 = .ok (.iconst 0, 1) := by decide +kernel
theorem dX5_lot_35 : decode cX5_lot 35 = .ok (.istore 4, 2) := by decide +kernel
theorem dX5_lot_37 : decode cX5_lot 37 = .ok (.iload 4, 2) := by decide +kernel
theorem dX5_lot_39 : decode cX5_lot 39 = .ok (.aload_n 0, 1) := by decide +kernel
theorem dX5_lot_40 : decode cX5_lot 40 = .ok (.getfield 101, 3) := by decide +kernel
theorem dX5_lot_43 : decode cX5_lot 43 = .ok (.if_icmp .ge 38, 3) := by decide +kernel
theorem dX5_lot_46 : decode cX5_lot 46 = .ok (.aload_n 0, 1) := by decide +kernel
theorem dX5_lot_47 : decode cX5_lot 47 = .ok (.getfield 13, 3) := by decide +kernel
theorem dX5_lot_50 : decode cX5_lot 50 = .ok (.iload 4, 2) := by decide +kernel
theorem dX5_lot_52 : decode cX5_lot 52 = .ok (.aload_n 0, 1) := by decide +kernel
theorem dX5_lot_53 : decode cX5_lot 53 = .ok (.getfield 13, 3) := by decide +kernel
theorem dX5_lot_56 : decode cX5_lot 56 = .ok (.iload 4, 2) := by decide +kernel
theorem dX5_lot_58 : decode cX5_lot 58 = .ok (.iaload, 1) := by decide +kernel
theorem dX5_lot_59 : decode cX5_lot 59 = .ok (.iload_n 2, 1) := by decide +kernel
theorem dX5_lot_60 : decode cX5_lot 60 = .ok (.if_icmp .ne 7, 3) := by decide +kernel
theorem dX5_lot_63 : decode cX5_lot 63 = .ok (.iload_n 3, 1) := by decide +kernel
theorem dX5_lot_64 : decode cX5_lot 64 = .ok (.goto 10, 3) := by decide +kernel
theorem dX5_lot_67 : decode cX5_lot 67 = .ok (.aload_n 0, 1) := by decide +kernel
theorem dX5_lot_68 : decode cX5_lot 68 = .ok (.getfield 13, 3) := by decide +kernel
theorem dX5_lot_71 : decode cX5_lot 71 = .ok (.iload 4, 2) := by decide +kernel
theorem dX5_lot_73 : decode cX5_lot 73 = .ok (.iaload, 1) := by decide +kernel
theorem dX5_lot_74 : decode cX5_lot 74 = .ok (.iastore, 1) := by decide +kernel
theorem dX5_lot_75 : decode cX5_lot 75 = .ok (.iinc 4 1, 3) := by decide +kernel
theorem dX5_lot_78 : decode cX5_lot 78 = .ok (.goto (-41), 3) := by decide +kernel
theorem dX5_lot_81 : decode cX5_lot 81 = .ok (.aload_n 0, 1) := by decide +kernel
theorem dX5_lot_82 : decode cX5_lot 82 = .ok (.getfield 13, 3) := by decide +kernel
theorem dX5_lot_85 : decode cX5_lot 85 = .ok (.iload_n 1, 1) := by decide +kernel
theorem dX5_lot_86 : decode cX5_lot 86 = .ok (.iload_n 2, 1) := by decide +kernel
theorem dX5_lot_87 : decode cX5_lot 87 = .ok (.iastore, 1) := by decide +kernel
theorem dX5_lot_88 : decode cX5_lot 88 = .ok (.iload_n 3, 1) := by decide +kernel
theorem dX5_lot_89 : decode cX5_lot 89 = .ok (.ireturn, 1) := by decide +kernel
theorem dX5_read_0 : decode cX5_read 0 = .ok (.iconst 0, 1) := by decide +kernel
theorem dX5_read_1 : decode cX5_read 1 = .ok (.istore_n 3, 1) := by decide +kernel
theorem dX5_read_2 : decode cX5_read 2 = .ok (.iconst 1, 1) := by decide +kernel
theorem dX5_read_3 : decode cX5_read 3 = .ok (.istore 4, 2) := by decide +kernel
theorem dX5_read_5 : decode cX5_read 5 = .ok (.iconst 0, 1) := by decide +kernel
theorem dX5_read_6 : decode cX5_read 6 = .ok (.istore 5, 2) := by decide +kernel
theorem dX5_read_8 : decode cX5_read 8 = .ok (.iconst 0, 1) := by decide +kernel
theorem dX5_read_9 : decode cX5_read 9 = .ok (.istore 6, 2) := by decide +kernel
theorem dX5_read_11 : decode cX5_read 11 = .ok (.iload 6, 2) := by decide +kernel
theorem dX5_read_13 : decode cX5_read 13 = .ok (.bipush 16, 2) := by decide +kernel
theorem dX5_read_15 : decode cX5_read 15 = .ok (.if_icmp .ge 113, 3) := by decide +kernel
theorem dX5_read_18 : decode cX5_read 18 = .ok (.lload_n 1, 1) := by decide +kernel
theorem dX5_read_19 : decode cX5_read 19 = .ok (.iconst 4, 1) := by decide +kernel
theorem dX5_read_20 : decode cX5_read 20 = .ok (.iload 6, 2) := by decide +kernel
theorem dX5_read_22 : decode cX5_read 22 = .ok (.imul, 1) := by decide +kernel
theorem dX5_read_23 : decode cX5_read 23 = .ok (.lushr, 1) := by decide +kernel
theorem dX5_read_24 : decode cX5_read 24 = .ok (.ldc2_w 115, 3) := by decide +kernel
theorem dX5_read_27 : decode cX5_read 27 = .ok (.land, 1) := by decide +kernel
theorem dX5_read_28 : decode cX5_read 28 = .ok (.l2i, 1) := by decide +kernel
theorem dX5_read_29 : decode cX5_read 29 = .ok (.istore 7, 2) := by decide +kernel
theorem dX5_read_31 : decode cX5_read 31 = .ok (.iload 7, 2) := by decide +kernel
theorem dX5_read_33 : decode cX5_read 33 = .ok (.ifCond .ne 9, 3) := by decide +kernel
theorem dX5_read_36 : decode cX5_read 36 = .ok (.iconst 1, 1) := by decide +kernel
theorem dX5_read_37 : decode cX5_read 37 = .ok (.istore 5, 2) := by decide +kernel
theorem dX5_read_39 : decode cX5_read 39 = .ok (.goto 83, 3) := by decide +kernel
theorem dX5_read_42 : decode cX5_read 42 = .ok (.iload 4, 2) := by decide +kernel
theorem dX5_read_44 : decode cX5_read 44 = .ok (.ifCond .eq 21, 3) := by decide +kernel
theorem dX5_read_47 : decode cX5_read 47 = .ok (.iload 5, 2) := by decide +kernel
theorem dX5_read_49 : decode cX5_read 49 = .ok (.ifCond .ne 16, 3) := by decide +kernel
theorem dX5_read_52 : decode cX5_read 52 = .ok (.iload 7, 2) := by decide +kernel
theorem dX5_read_54 : decode cX5_read 54 = .ok (.aload_n 0, 1) := by decide +kernel
theorem dX5_read_55 : decode cX5_read 55 = .ok (.getfield 101, 3) := by decide +kernel
theorem dX5_read_58 : decode cX5_read 58 = .ok (.if_icmp .gt 7, 3) := by decide +kernel
theorem dX5_read_61 : decode cX5_read 61 = .ok (.iconst 1, 1) := by decide +kernel
theorem dX5_read_62 : decode cX5_read 62 = .ok (.goto 4, 3) := by decide +kernel
theorem dX5_read_65 : decode cX5_read 65 = .ok (.iconst 0, 1) := by decide +kernel
theorem dX5_read_66 : decode cX5_read 66 = .ok (.istore 4, 2) := by decide +kernel
theorem dX5_read_68 : decode cX5_read 68 = .ok (.iconst 0, 1) := by decide +kernel
theorem dX5_read_69 : decode cX5_read 69 = .ok (.istore 8, 2) := by decide +kernel
theorem dX5_read_71 : decode cX5_read 71 = .ok (.iload 8, 2) := by decide +kernel
theorem dX5_read_73 : decode cX5_read 73 = .ok (.iload_n 3, 1) := by decide +kernel
theorem dX5_read_74 : decode cX5_read 74 = .ok (.if_icmp .ge 35, 3) := by decide +kernel
theorem dX5_read_77 : decode cX5_read 77 = .ok (.iload 4, 2) := by decide +kernel
theorem dX5_read_79 : decode cX5_read 79 = .ok (.ifCond .eq 21, 3) := by decide +kernel
theorem dX5_read_82 : decode cX5_read 82 = .ok (.aload_n 0, 1) := by decide +kernel
theorem dX5_read_83 : decode cX5_read 83 = .ok (.getfield 26, 3) := by decide +kernel
theorem dX5_read_86 : decode cX5_read 86 = .ok (.iload 8, 2) := by decide +kernel
theorem dX5_read_88 : decode cX5_read 88 = .ok (.iaload, 1) := by decide +kernel
theorem dX5_read_89 : decode cX5_read 89 = .ok (.iload 7, 2) := by decide +kernel
theorem dX5_read_91 : decode cX5_read 91 = .ok (.iconst 1, 1) := by decide +kernel
theorem dX5_read_92 : decode cX5_read 92 = .ok (.isub, 1) := by decide +kernel
theorem dX5_read_93 : decode cX5_read 93 = .ok (.if_icmp .eq 7, 3) := by decide +kernel
theorem dX5_read_96 : decode cX5_read 96 = .ok (.iconst 1, 1) := by decide +kernel
theorem dX5_read_97 : decode cX5_read 97 = .ok (.goto 4, 3) := by decide +kernel
theorem dX5_read_100 : decode cX5_read 100 = .ok (.iconst 0, 1) := by decide +kernel
theorem dX5_read_101 : decode cX5_read 101 = .ok (.istore 4, 2) := by decide +kernel
theorem dX5_read_103 : decode cX5_read 103 = .ok (.iinc 8 1, 3) := by decide +kernel
theorem dX5_read_106 : decode cX5_read 106 = .ok (.goto (-35), 3) := by decide +kernel
theorem dX5_read_109 : decode cX5_read 109 = .ok (.aload_n 0, 1) := by decide +kernel
theorem dX5_read_110 : decode cX5_read 110 = .ok (.getfield 26, 3) := by decide +kernel
theorem dX5_read_113 : decode cX5_read 113 = .ok (.iload_n 3, 1) := by decide +kernel
theorem dX5_read_114 : decode cX5_read 114 = .ok (.iload 7, 2) := by decide +kernel
theorem dX5_read_116 : decode cX5_read 116 = .ok (.iconst 1, 1) := by decide +kernel
theorem dX5_read_117 : decode cX5_read 117 = .ok (.isub, 1) := by decide +kernel
theorem dX5_read_118 : decode cX5_read 118 = .ok (.iastore, 1) := by decide +kernel
theorem dX5_read_119 : decode cX5_read 119 = .ok (.iinc 3 1, 3) := by decide +kernel
theorem dX5_read_122 : decode cX5_read 122 = .ok (.iinc 6 1, 3) := by decide +kernel
theorem dX5_read_125 : decode cX5_read 125 = .ok (.goto (-114), 3) := by decide +kernel
theorem dX5_read_128 : decode cX5_read 128 = .ok (.iload 4, 2) := by decide +kernel
theorem dX5_read_130 : decode cX5_read 130 = .ok (.ifCond .eq 7, 3) := by decide +kernel
theorem dX5_read_133 : decode cX5_read 133 = .ok (.iload_n 3, 1) := by decide +kernel
theorem dX5_read_134 : decode cX5_read 134 = .ok (.goto 4, 3) := by decide +kernel
theorem dX5_read_137 : decode cX5_read 137 = .ok (.iconst 0, 1) := by decide +kernel
theorem dX5_read_138 : decode cX5_read 138 = .ok (.ireturn, 1) := by decide +kernel
set_option maxRecDepth 20000 in
theorem ggX5_pile_X5_read : GoodIn wsX5_pile wsX5_read := goodIn_r _ [10, 11, 12, 5, 16, 17, 18, 19, 20, 21, 22, 23, 24, 25, 26, 27, 28, 29, 30, 31, 32, 33, 34, 35, 36, 37, 38, 39, 40, 41, 42, 43, 44, 45, 46, 47, 48, 49, 50, 51, 52, 53] (by decide +kernel) (by decide +kernel)
set_option maxRecDepth 20000 in
theorem gX5_pile_X5_read : GoodIn wsX5_pile (wsV RX5 117 RX5 yX5_read wsX5_read) := goodIn_app (goodIn_of _ (by decide +kernel)) ggX5_pile_X5_read
set_option maxRecDepth 20000 in
theorem ggX5_pile_X5_in : GoodIn wsX5_pile wsX5_in := goodIn_r _ [15] (by decide +kernel) (by decide +kernel)
set_option maxRecDepth 20000 in
theorem gX5_pile_X5_in : GoodIn wsX5_pile (va_wsS RX5 107 yX5_in wsX5_in) := goodIn_app (goodIn_of _ (by decide +kernel)) ggX5_pile_X5_in
theorem dX5_pile_0 : decode cX5_pile 0 = .ok (.aload_n 0, 1) := by decide +kernel
theorem dX5_pile_1 : decode cX5_pile 1 = .ok (.lload_n 1, 1) := by decide +kernel
theorem dX5_pile_2 : decode cX5_pile 2 = .ok (.invokevirtual 117, 3) := by decide +kernel
theorem dX5_pile_5 : decode cX5_pile 5 = .ok (.istore 4, 2) := by decide +kernel
theorem dX5_pile_7 : decode cX5_pile 7 = .ok (.iload 4, 2) := by decide +kernel
theorem dX5_pile_9 : decode cX5_pile 9 = .ok (.ifCond .eq 14, 3) := by decide +kernel
theorem dX5_pile_12 : decode cX5_pile 12 = .ok (.iload_n 3, 1) := by decide +kernel
theorem dX5_pile_13 : decode cX5_pile 13 = .ok (.iconst 1, 1) := by decide +kernel
theorem dX5_pile_14 : decode cX5_pile 14 = .ok (.sipush 500, 3) := by decide +kernel
theorem dX5_pile_17 : decode cX5_pile 17 = .ok (.invokestatic 107, 3) := by decide +kernel
theorem dX5_pile_20 : decode cX5_pile 20 = .ok (.ifCond .ne 6, 3) := by decide +kernel
theorem dX5_pile_23 : decode cX5_pile 23 = .ok (.bipush (-2), 2) := by decide +kernel
theorem dX5_pile_25 : decode cX5_pile 25 = .ok (.ireturn, 1) := by decide +kernel
theorem dX5_pile_26 : decode cX5_pile 26 = .ok (.aload_n 0, 1) := by decide +kernel
theorem dX5_pile_27 : decode cX5_pile 27 = .ok (.getfield 104, 3) := by decide +kernel
theorem dX5_pile_30 : decode cX5_pile 30 = .ok (.bipush 80, 2) := by decide +kernel
theorem dX5_pile_32 : decode cX5_pile 32 = .ok (.if_icmp .ne 6, 3) := by decide +kernel
theorem dX5_pile_35 : decode cX5_pile 35 = .ok (.bipush (-4), 2) := by decide +kernel
theorem dX5_pile_37 : decode cX5_pile 37 = .ok (.ireturn, 1) := by decide +kernel
theorem dX5_pile_38 : decode cX5_pile 38 = .ok (.aload_n 0, 1) := by decide +kernel
theorem dX5_pile_39 : decode cX5_pile 39 = .ok (.getfield 17, 3) := by decide +kernel
theorem dX5_pile_42 : decode cX5_pile 42 = .ok (.aload_n 0, 1) := by decide +kernel
theorem dX5_pile_43 : decode cX5_pile 43 = .ok (.getfield 104, 3) := by decide +kernel
theorem dX5_pile_46 : decode cX5_pile 46 = .ok (.iload_n 3, 1) := by decide +kernel
theorem dX5_pile_47 : decode cX5_pile 47 = .ok (.iastore, 1) := by decide +kernel
theorem dX5_pile_48 : decode cX5_pile 48 = .ok (.aload_n 0, 1) := by decide +kernel
theorem dX5_pile_49 : decode cX5_pile 49 = .ok (.getfield 20, 3) := by decide +kernel
theorem dX5_pile_52 : decode cX5_pile 52 = .ok (.aload_n 0, 1) := by decide +kernel
theorem dX5_pile_53 : decode cX5_pile 53 = .ok (.getfield 104, 3) := by decide +kernel
theorem dX5_pile_56 : decode cX5_pile 56 = .ok (.iload 4, 2) := by decide +kernel
theorem dX5_pile_58 : decode cX5_pile 58 = .ok (.iastore, 1) := by decide +kernel
theorem dX5_pile_59 : decode cX5_pile 59 = .ok (.iconst 0, 1) := by decide +kernel
theorem dX5_pile_60 : decode cX5_pile 60 = .ok (.istore 5, 2) := by decide +kernel
theorem dX5_pile_62 : decode cX5_pile 62 = .ok (.iload 5, 2) := by decide +kernel
theorem dX5_pile_64 : decode cX5_pile 64 = .ok (.iload 4, 2) := by decide +kernel
theorem dX5_pile_66 : decode cX5_pile 66 = .ok (.if_icmp .ge 31, 3) := by decide +kernel
theorem dX5_pile_69 : decode cX5_pile 69 = .ok (.aload_n 0, 1) := by decide +kernel
theorem dX5_pile_70 : decode cX5_pile 70 = .ok (.getfield 23, 3) := by decide +kernel
theorem dX5_pile_73 : decode cX5_pile 73 = .ok (.bipush 12, 2) := by decide +kernel
theorem dX5_pile_75 : decode cX5_pile 75 = .ok (.aload_n 0, 1) := by decide +kernel
theorem dX5_pile_76 : decode cX5_pile 76 = .ok (.getfield 104, 3) := by decide +kernel
theorem dX5_pile_79 : decode cX5_pile 79 = .ok (.imul, 1) := by decide +kernel
theorem dX5_pile_80 : decode cX5_pile 80 = .ok (.iload 5, 2) := by decide +kernel
theorem dX5_pile_82 : decode cX5_pile 82 = .ok (.iadd, 1) := by decide +kernel
theorem dX5_pile_83 : decode cX5_pile 83 = .ok (.aload_n 0, 1) := by decide +kernel
theorem dX5_pile_84 : decode cX5_pile 84 = .ok (.getfield 26, 3) := by decide +kernel
theorem dX5_pile_87 : decode cX5_pile 87 = .ok (.iload 5, 2) := by decide +kernel
theorem dX5_pile_89 : decode cX5_pile 89 = .ok (.iaload, 1) := by decide +kernel
theorem dX5_pile_90 : decode cX5_pile 90 = .ok (.iastore, 1) := by decide +kernel
theorem dX5_pile_91 : decode cX5_pile 91 = .ok (.iinc 5 1, 3) := by decide +kernel
theorem dX5_pile_94 : decode cX5_pile 94 = .ok (.goto (-32), 3) := by decide +kernel
theorem dX5_pile_97 : decode cX5_pile 97 = .ok (.aload_n 0, 1) := by decide +kernel
theorem dX5_pile_98 : decode cX5_pile 98 = .ok (.dup, 1) := by decide +kernel
theorem dX5_pile_99 : decode cX5_pile 99 = .ok (.getfield 104, 3) := by decide +kernel
theorem dX5_pile_102 : decode cX5_pile 102 = .ok (.iconst 1, 1) := by decide +kernel
theorem dX5_pile_103 : decode cX5_pile 103 = .ok (.iadd, 1) := by decide +kernel
theorem dX5_pile_104 : decode cX5_pile 104 = .ok (.putfield 104, 3) := by decide +kernel
theorem dX5_pile_107 : decode cX5_pile 107 = .ok (.aload_n 0, 1) := by decide +kernel
theorem dX5_pile_108 : decode cX5_pile 108 = .ok (.getfield 104, 3) := by decide +kernel
theorem dX5_pile_111 : decode cX5_pile 111 = .ok (.iconst 1, 1) := by decide +kernel
theorem dX5_pile_112 : decode cX5_pile 112 = .ok (.isub, 1) := by decide +kernel
theorem dX5_pile_113 : decode cX5_pile 113 = .ok (.ireturn, 1) := by decide +kernel
set_option maxRecDepth 20000 in
theorem ggX5_change_X5_in : GoodIn wsX5_change wsX5_in := goodIn_r _ [6] (by decide +kernel) (by decide +kernel)
set_option maxRecDepth 20000 in
theorem gX5_change_X5_in : GoodIn wsX5_change (va_wsS RX5 107 yX5_in wsX5_in) := goodIn_app (goodIn_of _ (by decide +kernel)) ggX5_change_X5_in
theorem dX5_change_0 : decode cX5_change 0 = .ok (.iload_n 1, 1) := by decide +kernel
theorem dX5_change_1 : decode cX5_change 1 = .ok (.iconst 0, 1) := by decide +kernel
theorem dX5_change_2 : decode cX5_change 2 = .ok (.aload_n 0, 1) := by decide +kernel
theorem dX5_change_3 : decode cX5_change 3 = .ok (.getfield 104, 3) := by decide +kernel
theorem dX5_change_6 : decode cX5_change 6 = .ok (.iconst 1, 1) := by decide +kernel
theorem dX5_change_7 : decode cX5_change 7 = .ok (.isub, 1) := by decide +kernel
theorem dX5_change_8 : decode cX5_change 8 = .ok (.invokestatic 107, 3) := by decide +kernel
theorem dX5_change_11 : decode cX5_change 11 = .ok (.ifCond .ne 5, 3) := by decide +kernel
theorem dX5_change_14 : decode cX5_change 14 = .ok (.iconst (-1), 1) := by decide +kernel
theorem dX5_change_15 : decode cX5_change 15 = .ok (.ireturn, 1) := by decide +kernel
theorem dX5_change_16 : decode cX5_change 16 = .ok (.iload_n 2, 1) := by decide +kernel
theorem dX5_change_17 : decode cX5_change 17 = .ok (.iconst 1, 1) := by decide +kernel
theorem dX5_change_18 : decode cX5_change 18 = .ok (.sipush 500, 3) := by decide +kernel
theorem dX5_change_21 : decode cX5_change 21 = .ok (.invokestatic 107, 3) := by decide +kernel
theorem dX5_change_24 : decode cX5_change 24 = .ok (.ifCond .ne 6, 3) := by decide +kernel
theorem dX5_change_27 : decode cX5_change 27 = .ok (.bipush (-2), 2) := by decide +kernel
theorem dX5_change_29 : decode cX5_change 29 = .ok (.ireturn, 1) := by decide +kernel
theorem dX5_change_30 : decode cX5_change 30 = .ok (.aload_n 0, 1) := by decide +kernel
theorem dX5_change_31 : decode cX5_change 31 = .ok (.getfield 17, 3) := by decide +kernel
theorem dX5_change_34 : decode cX5_change 34 = .ok (.iload_n 1, 1) := by decide +kernel
theorem dX5_change_35 : decode cX5_change 35 = .ok (.iaload, 1) := by decide +kernel
theorem dX5_change_36 : decode cX5_change 36 = .ok (.istore_n 3, 1) := by decide +kernel
theorem dX5_change_37 : decode cX5_change 37 = .ok (.aload_n 0, 1) := by decide +kernel
theorem dX5_change_38 : decode cX5_change 38 = .ok (.getfield 17, 3) := by decide +kernel
theorem dX5_change_41 : decode cX5_change 41 = .ok (.iload_n 1, 1) := by decide +kernel
theorem dX5_change_42 : decode cX5_change 42 = .ok (.iload_n 2, 1) := by decide +kernel
theorem dX5_change_43 : decode cX5_change 43 = .ok (.iastore, 1) := by decide +kernel
theorem dX5_change_44 : decode cX5_change 44 = .ok (.iload_n 3, 1) := by decide +kernel
theorem dX5_change_45 : decode cX5_change 45 = .ok (.ireturn, 1) := by decide +kernel
theorem dX5_isValid_0 : decode cX5_isValid 0 = .ok (.iconst 0, 1) := by decide +kernel
theorem dX5_isValid_1 : decode cX5_isValid 1 = .ok (.istore_n 2, 1) := by decide +kernel
theorem dX5_isValid_2 : decode cX5_isValid 2 = .ok (.iconst 0, 1) := by decide +kernel
theorem dX5_isValid_3 : decode cX5_isValid 3 = .ok (.istore_n 3, 1) := by decide +kernel
theorem dX5_isValid_4 : decode cX5_isValid 4 = .ok (.iload_n 3, 1) := by decide +kernel
theorem dX5_isValid_5 : decode cX5_isValid 5 = .ok (.aload_n 0, 1) := by decide +kernel
theorem dX5_isValid_6 : decode cX5_isValid 6 = .ok (.getfield 20, 3) := by decide +kernel
theorem dX5_isValid_9 : decode cX5_isValid 9 = .ok (.iload_n 1, 1) := by decide +kernel
theorem dX5_isValid_10 : decode cX5_isValid 10 = .ok (.iaload, 1) := by decide +kernel
theorem dX5_isValid_11 : decode cX5_isValid 11 = .ok (.if_icmp .ge 38, 3) := by decide +kernel
theorem dX5_isValid_14 : decode cX5_isValid 14 = .ok (.iload_n 2, 1) := by decide +kernel
theorem dX5_isValid_15 : decode cX5_isValid 15 = .ok (.ifCond .ne 22, 3) := by decide +kernel
theorem dX5_isValid_18 : decode cX5_isValid 18 = .ok (.aload_n 0, 1) := by decide +kernel
theorem dX5_isValid_19 : decode cX5_isValid 19 = .ok (.getfield 7, 3) := by decide +kernel
