theorem dX3_putOut_76 : decode cX3_putOut 76 = .ok (.iload_n 3, 1) := by decide +kernel
theorem dX3_putOut_77 : decode cX3_putOut 77 = .ok (.iadd, 1) := by decide +kernel
theorem dX3_putOut_78 : decode cX3_putOut 78 = .ok (.lconst 0, 1) := by decide +kernel
theorem dX3_putOut_79 : decode cX3_putOut 79 = .ok (.lastore, 1) := by decide +kernel
theorem dX3_putOut_80 : decode cX3_putOut 80 = .ok (.return_, 1) := by decide +kernel
set_option maxRecDepth 20000 in
theorem ggX3_passSurplus_X1_quota : GoodIn wsX3_passSurplus wsX1_quota := goodIn_r _ [9, 10, 11, 12, 13, 8, 14, 15, 65, 66, 67, 68, 69, 70, 71, 72, 73, 74, 75, 76, 77, 78, 79, 80, 81, 82] (by decide +kernel) (by decide +kernel)
set_option maxRecDepth 20000 in
theorem gX3_passSurplus_X1_quota : GoodIn wsX3_passSurplus (wsV RX3 100 RX1 yX1_quota wsX1_quota) := goodIn_app (goodIn_of _ (by decide +kernel)) ggX3_passSurplus_X1_quota
set_option maxRecDepth 20000 in
theorem ggX3_passSurplus_X3_passLast : GoodIn wsX3_passSurplus wsX3_passLast := goodIn_r _ [20, 21, 22, 23, 24, 25, 26, 27, 28, 19, 29, 30, 31, 32, 33, 34, 35, 36, 37, 38, 39, 40, 41, 42, 43, 44, 45, 46, 47, 48, 8, 49, 50, 51, 52, 53, 54, 55, 1, 2, 56, 12, 13, 14, 15, 83, 84, 85, 86, 87, 88, 89, 90, 91, 92, 93, 94, 95, 65, 66, 67, 68, 69, 70, 71, 72, 73, 74, 75, 76, 77, 78, 79, 80, 81, 82] (by decide +kernel) (by decide +kernel)
set_option maxRecDepth 20000 in
theorem gX3_passSurplus_X3_passLast : GoodIn wsX3_passSurplus (wsV RX3 107 RX3 yX3_passLast wsX3_passLast) := goodIn_app (goodIn_of _ (by decide +kernel)) ggX3_passSurplus_X3_passLast
set_option maxRecDepth 20000 in
theorem ggX3_passSurplus_X3_passAll : GoodIn wsX3_passSurplus wsX3_passAll := goodIn_r _ [60, 1, 2, 21, 30, 24, 3, 23, 61, 62, 63, 19, 64, 22, 52, 53, 54, 55, 25, 31, 40, 41, 42, 43, 44, 45, 46, 47, 48, 8, 49, 50, 51, 56, 12, 13, 14, 15, 65, 66, 67, 68, 69, 70, 71, 72, 73, 74, 75, 76, 77, 78, 79, 80, 81, 82, 83, 84, 85, 86, 87, 88, 89, 90, 91, 92, 93, 94, 95] (by decide +kernel) (by decide +kernel)
set_option maxRecDepth 20000 in
theorem gX3_passSurplus_X3_passAll : GoodIn wsX3_passSurplus (wsV RX3 110 RX3 yX3_passAll wsX3_passAll) := goodIn_app (goodIn_of _ (by decide +kernel)) ggX3_passSurplus_X3_passAll
set_option maxRecDepth 20000 in
theorem ggX3_passSurplus_X1_now : GoodIn wsX3_passSurplus wsX1_now := goodIn_r _ [14, 15, 65, 66, 67, 68, 69, 70, 71, 72, 73, 74, 75, 76, 77, 78, 79, 80, 81, 82] (by decide +kernel) (by decide +kernel)
set_option maxRecDepth 20000 in
theorem gX3_passSurplus_X1_now : GoodIn wsX3_passSurplus (wsV RX3 116 RX1 yX1_now wsX1_now) := goodIn_app (goodIn_of _ (by decide +kernel)) ggX3_passSurplus_X1_now
theorem dX3_passSurplus_0 : decode cX3_passSurplus 0 = .ok (.aload_n 2, 1) := by decide +kernel
theorem dX3_passSurplus_1 : decode cX3_passSurplus 1 = .ok (.getfield 97, 3) := by decide +kernel
theorem dX3_passSurplus_4 : decode cX3_passSurplus 4 = .ok (.aload_n 2, 1) := by decide +kernel
theorem dX3_passSurplus_5 : decode cX3_passSurplus 5 = .ok (.getfield 96, 3) := by decide +kernel
theorem dX3_passSurplus_8 : decode cX3_passSurplus 8 = .ok (.iload_n 3, 1) := by decide +kernel
theorem dX3_passSurplus_9 : decode cX3_passSurplus 9 = .ok (.iadd, 1) := by decide +kernel
theorem dX3_passSurplus_10 : decode cX3_passSurplus 10 = .ok (.laload, 1) := by decide +kernel
theorem dX3_passSurplus_11 : decode cX3_passSurplus 11 = .ok (.aload_n 2, 1) := by decide +kernel
theorem dX3_passSurplus_12 : decode cX3_passSurplus 12 = .ok (.invokevirtual 100, 3) := by decide +kernel
theorem dX3_passSurplus_15 : decode cX3_passSurplus 15 = .ok (.lsub, 1) := by decide +kernel
theorem dX3_passSurplus_16 : decode cX3_passSurplus 16 = .ok (.lstore 4, 2) := by decide +kernel
theorem dX3_passSurplus_18 : decode cX3_passSurplus 18 = .ok (.aload_n 2, 1) := by decide +kernel
theorem dX3_passSurplus_19 : decode cX3_passSurplus 19 = .ok (.getfield 104, 3) := by decide +kernel
theorem dX3_passSurplus_22 : decode cX3_passSurplus 22 = .ok (.iconst 2, 1) := by decide +kernel
theorem dX3_passSurplus_23 : decode cX3_passSurplus 23 = .ok (.if_icmp .ne 15, 3) := by decide +kernel
theorem dX3_passSurplus_26 : decode cX3_passSurplus 26 = .ok (.aload_n 0, 1) := by decide +kernel
theorem dX3_passSurplus_27 : decode cX3_passSurplus 27 = .ok (.aload_n 1, 1) := by decide +kernel
theorem dX3_passSurplus_28 : decode cX3_passSurplus 28 = .ok (.aload_n 2, 1) := by decide +kernel
theorem dX3_passSurplus_29 : decode cX3_passSurplus 29 = .ok (.iload_n 3, 1) := by decide +kernel
theorem dX3_passSurplus_30 : decode cX3_passSurplus 30 = .ok (.lload 4, 2) := by decide +kernel
theorem dX3_passSurplus_32 : decode cX3_passSurplus 32 = .ok (.invokevirtual 107, 3) := by decide +kernel
theorem dX3_passSurplus_35 : decode cX3_passSurplus 35 = .ok (.goto 12, 3) := by decide +kernel
theorem dX3_passSurplus_38 : decode cX3_passSurplus 38 = .ok (.aload_n 0, 1) := by decide +kernel
theorem dX3_passSurplus_39 : decode cX3_passSurplus 39 = .ok (.aload_n 1, 1) := by decide +kernel
theorem dX3_passSurplus_40 : decode cX3_passSurplus 40 = .ok (.aload_n 2, 1) := by decide +kernel
theorem dX3_passSurplus_41 : decode cX3_passSurplus 41 = .ok (.iload_n 3, 1) := by decide +kernel
theorem dX3_passSurplus_42 : decode cX3_passSurplus 42 = .ok (.lload 4, 2) := by decide +kernel
theorem dX3_passSurplus_44 : decode cX3_passSurplus 44 = .ok (.invokevirtual 110, 3) := by decide +kernel
theorem dX3_passSurplus_47 : decode cX3_passSurplus 47 = .ok (.lstore 6, 2) := by decide +kernel
theorem dX3_passSurplus_49 : decode cX3_passSurplus 49 = .ok (.aload_n 2, 1) := by decide +kernel
theorem dX3_passSurplus_50 : decode cX3_passSurplus 50 = .ok (.getfield 97, 3) := by decide +kernel
theorem dX3_passSurplus_53 : decode cX3_passSurplus 53 = .ok (.aload_n 2, 1) := by decide +kernel
theorem dX3_passSurplus_54 : decode cX3_passSurplus 54 = .ok (.getfield 96, 3) := by decide +kernel
theorem dX3_passSurplus_57 : decode cX3_passSurplus 57 = .ok (.iload_n 3, 1) := by decide +kernel
theorem dX3_passSurplus_58 : decode cX3_passSurplus 58 = .ok (.iadd, 1) := by decide +kernel
theorem dX3_passSurplus_59 : decode cX3_passSurplus 59 = .ok (.aload_n 2, 1) := by decide +kernel
theorem dX3_passSurplus_60 : decode cX3_passSurplus 60 = .ok (.invokevirtual 100, 3) := by decide +kernel
theorem dX3_passSurplus_63 : decode cX3_passSurplus 63 = .ok (.lastore, 1) := by decide +kernel
theorem dX3_passSurplus_64 : decode cX3_passSurplus 64 = .ok (.aload_n 2, 1) := by decide +kernel
theorem dX3_passSurplus_65 : decode cX3_passSurplus 65 = .ok (.getfield 113, 3) := by decide +kernel
theorem dX3_passSurplus_68 : decode cX3_passSurplus 68 = .ok (.aload_n 2, 1) := by decide +kernel
theorem dX3_passSurplus_69 : decode cX3_passSurplus 69 = .ok (.invokevirtual 116, 3) := by decide +kernel
theorem dX3_passSurplus_72 : decode cX3_passSurplus 72 = .ok (.dup2, 1) := by decide +kernel
theorem dX3_passSurplus_73 : decode cX3_passSurplus 73 = .ok (.laload, 1) := by decide +kernel
theorem dX3_passSurplus_74 : decode cX3_passSurplus 74 = .ok (.lload 4, 2) := by decide +kernel
theorem dX3_passSurplus_76 : decode cX3_passSurplus 76 = .ok (.lload 6, 2) := by decide +kernel
theorem dX3_passSurplus_78 : decode cX3_passSurplus 78 = .ok (.lsub, 1) := by decide +kernel
theorem dX3_passSurplus_79 : decode cX3_passSurplus 79 = .ok (.ladd, 1) := by decide +kernel
theorem dX3_passSurplus_80 : decode cX3_passSurplus 80 = .ok (.lastore, 1) := by decide +kernel
theorem dX3_passSurplus_81 : decode cX3_passSurplus 81 = .ok (.return_, 1) := by decide +kernel
set_option maxRecDepth 20000 in
theorem ggX3_passAll_X3_papersOf : GoodIn wsX3_passAll wsX3_papersOf := goodIn_r _ [12, 3, 4, 5, 13, 56, 57, 58, 59, 60, 61, 62, 63, 64, 65, 66, 67, 68] (by decide +kernel) (by decide +kernel)
set_option maxRecDepth 20000 in
theorem gX3_passAll_X3_papersOf : GoodIn wsX3_passAll (wsV RX3 119 RX3 yX3_papersOf wsX3_papersOf) := goodIn_app (goodIn_of _ (by decide +kernel)) ggX3_passAll_X3_papersOf
set_option maxRecDepth 20000 in
theorem ggX3_passAll_X3_send : GoodIn wsX3_passAll wsX3_send := goodIn_r _ [17, 13, 4, 5, 7, 18, 1, 2, 19, 20, 21, 22, 11, 23, 24, 25, 26, 27, 28, 29, 30, 31, 32, 33, 34, 35, 36, 37, 61, 62, 63, 64, 65, 66, 67, 68, 56, 57, 58, 59, 60, 38, 39, 40, 41, 42, 43, 44, 45, 46, 47, 48, 49, 50, 51, 52, 53, 54, 55] (by decide +kernel) (by decide +kernel)
set_option maxRecDepth 20000 in
theorem gX3_passAll_X3_send : GoodIn wsX3_passAll (wsV RX3 89 RX3 yX3_send wsX3_send) := goodIn_app (goodIn_of _ (by decide +kernel)) ggX3_passAll_X3_send
theorem dX3_passAll_0 : decode cX3_passAll 0 = .ok (.aload_n 2, 1) := by decide +kernel
theorem dX3_passAll_1 : decode cX3_passAll 1 = .ok (.getfield 97, 3) := by decide +kernel
theorem dX3_passAll_4 : decode cX3_passAll 4 = .ok (.aload_n 2, 1) := by decide +kernel
theorem dX3_passAll_5 : decode cX3_passAll 5 = .ok (.getfield 96, 3) := by decide +kernel
theorem dX3_passAll_8 : decode cX3_passAll 8 = .ok (.iload_n 3, 1) := by decide +kernel
theorem dX3_passAll_9 : decode cX3_passAll 9 = .ok (.iadd, 1) := by decide +kernel
theorem dX3_passAll_10 : decode cX3_passAll 10 = .ok (.laload, 1) := by decide +kernel
theorem dX3_passAll_11 : decode cX3_passAll 11 = .ok (.lstore 6, 2) := by decide +kernel
theorem dX3_passAll_13 : decode cX3_passAll 13 = .ok (.aload_n 0, 1) := by decide +kernel
theorem dX3_passAll_14 : decode cX3_passAll 14 = .ok (.aload_n 1, 1) := by decide +kernel
theorem dX3_passAll_15 : decode cX3_passAll 15 = .ok (.iload_n 3, 1) := by decide +kernel
theorem dX3_passAll_16 : decode cX3_passAll 16 = .ok (.invokevirtual 119, 3) := by decide +kernel
theorem dX3_passAll_19 : decode cX3_passAll 19 = .ok (.lstore 8, 2) := by decide +kernel
theorem dX3_passAll_21 : decode cX3_passAll 21 = .ok (.lload 6, 2) := by decide +kernel
theorem dX3_passAll_23 : decode cX3_passAll 23 = .ok (.lconst 0, 1) := by decide +kernel
theorem dX3_passAll_24 : decode cX3_passAll 24 = .ok (.lcmp, 1) := by decide +kernel
theorem dX3_passAll_25 : decode cX3_passAll 25 = .ok (.ifCond .le 10, 3) := by decide +kernel
theorem dX3_passAll_28 : decode cX3_passAll 28 = .ok (.lload 8, 2) := by decide +kernel
theorem dX3_passAll_30 : decode cX3_passAll 30 = .ok (.lconst 0, 1) := by decide +kernel
theorem dX3_passAll_31 : decode cX3_passAll 31 = .ok (.lcmp, 1) := by decide +kernel
theorem dX3_passAll_32 : decode cX3_passAll 32 = .ok (.ifCond .gt 5, 3) := by decide +kernel
theorem dX3_passAll_35 : decode cX3_passAll 35 = .ok (.lconst 0, 1) := by decide +kernel
theorem dX3_passAll_36 : decode cX3_passAll 36 = .ok (.lreturn, 1) := by decide +kernel
theorem dX3_passAll_37 : decode cX3_passAll 37 = .ok (.lconst 0, 1) := by decide +kernel
theorem dX3_passAll_38 : decode cX3_passAll 38 = .ok (.lstore 10, 2) := by decide +kernel
theorem dX3_passAll_40 : decode cX3_passAll 40 = .ok (.iconst 0, 1) := by decide +kernel
theorem dX3_passAll_41 : decode cX3_passAll 41 = .ok (.istore 12, 2) := by decide +kernel
theorem dX3_passAll_43 : decode cX3_passAll 43 = .ok (.iload 12, 2) := by decide +kernel
theorem dX3_passAll_45 : decode cX3_passAll 45 = .ok (.aload_n 0, 1) := by decide +kernel
theorem dX3_passAll_46 : decode cX3_passAll 46 = .ok (.getfield 21, 3) := by decide +kernel
theorem dX3_passAll_49 : decode cX3_passAll 49 = .ok (.if_icmp .ge 76, 3) := by decide +kernel
theorem dX3_passAll_52 : decode cX3_passAll 52 = .ok (.aload_n 0, 1) := by decide +kernel
theorem dX3_passAll_53 : decode cX3_passAll 53 = .ok (.getfield 9, 3) := by decide +kernel
theorem dX3_passAll_56 : decode cX3_passAll 56 = .ok (.aload_n 0, 1) := by decide +kernel
theorem dX3_passAll_57 : decode cX3_passAll 57 = .ok (.getfield 28, 3) := by decide +kernel
theorem dX3_passAll_60 : decode cX3_passAll 60 = .ok (.iload 12, 2) := by decide +kernel
theorem dX3_passAll_62 : decode cX3_passAll 62 = .ok (.iadd, 1) := by decide +kernel
theorem dX3_passAll_63 : decode cX3_passAll 63 = .ok (.iaload, 1) := by decide +kernel
theorem dX3_passAll_64 : decode cX3_passAll 64 = .ok (.iload_n 3, 1) := by decide +kernel
theorem dX3_passAll_65 : decode cX3_passAll 65 = .ok (.if_icmp .ne 54, 3) := by decide +kernel
theorem dX3_passAll_68 : decode cX3_passAll 68 = .ok (.aload_n 2, 1) := by decide +kernel
theorem dX3_passAll_69 : decode cX3_passAll 69 = .ok (.getfield 104, 3) := by decide +kernel
theorem dX3_passAll_72 : decode cX3_passAll 72 = .ok (.ifCond .ne 25, 3) := by decide +kernel
theorem dX3_passAll_75 : decode cX3_passAll 75 = .ok (.aload_n 0, 1) := by decide +kernel
theorem dX3_passAll_76 : decode cX3_passAll 76 = .ok (.getfield 15, 3) := by decide +kernel
theorem dX3_passAll_79 : decode cX3_passAll 79 = .ok (.aload_n 0, 1) := by decide +kernel
theorem dX3_passAll_80 : decode cX3_passAll 80 = .ok (.getfield 28, 3) := by decide +kernel
theorem dX3_passAll_83 : decode cX3_passAll 83 = .ok (.iload 12, 2) := by decide +kernel
theorem dX3_passAll_85 : decode cX3_passAll 85 = .ok (.iadd, 1) := by decide +kernel
theorem dX3_passAll_86 : decode cX3_passAll 86 = .ok (.iaload, 1) := by decide +kernel
theorem dX3_passAll_87 : decode cX3_passAll 87 = .ok (.i2l, 1) := by decide +kernel
theorem dX3_passAll_88 : decode cX3_passAll 88 = .ok (.lload 4, 2) := by decide +kernel
theorem dX3_passAll_90 : decode cX3_passAll 90 = .ok (.lmul, 1) := by decide +kernel
theorem dX3_passAll_91 : decode cX3_passAll 91 = .ok (.lload 6, 2) := by decide +kernel
theorem dX3_passAll_93 : decode cX3_passAll 93 = .ok (.ldiv, 1) := by decide +kernel
theorem dX3_passAll_94 : decode cX3_passAll 94 = .ok (.goto 8, 3) := by decide +kernel
theorem dX3_passAll_97 : decode cX3_passAll 97 = .ok (.lload 4, 2) := by decide +kernel
theorem dX3_passAll_99 : decode cX3_passAll 99 = .ok (.lload 8, 2) := by decide +kernel
theorem dX3_passAll_101 : decode cX3_passAll 101 = .ok (.ldiv, 1) := by decide +kernel
theorem dX3_passAll_102 : decode cX3_passAll 102 = .ok (.lstore 13, 2) := by decide +kernel
theorem dX3_passAll_104 : decode cX3_passAll 104 = .ok (.lload 10, 2) := by decide +kernel
theorem dX3_passAll_106 : decode cX3_passAll 106 = .ok (.aload_n 0, 1) := by decide +kernel
theorem dX3_passAll_107 : decode cX3_passAll 107 = .ok (.aload_n 1, 1) := by decide +kernel
theorem dX3_passAll_108 : decode cX3_passAll 108 = .ok (.aload_n 2, 1) := by decide +kernel
theorem dX3_passAll_109 : decode cX3_passAll 109 = .ok (.iload 12, 2) := by decide +kernel
theorem dX3_passAll_111 : decode cX3_passAll 111 = .ok (.lload 13, 2) := by decide +kernel
theorem dX3_passAll_113 : decode cX3_passAll 113 = .ok (.invokevirtual 89, 3) := by decide +kernel
theorem dX3_passAll_116 : decode cX3_passAll 116 = .ok (.ladd, 1) := by decide +kernel
theorem dX3_passAll_117 : decode cX3_passAll 117 = .ok (.lstore 10, 2) := by decide +kernel
theorem dX3_passAll_119 : decode cX3_passAll 119 = .ok (.iinc 12 1, 3) := by decide +kernel
theorem dX3_passAll_122 : decode cX3_passAll 122 = .ok (.goto (-79), 3) := by decide +kernel
theorem dX3_passAll_125 : decode cX3_passAll 125 = .ok (.lload 10, 2) := by decide +kernel
theorem dX3_passAll_127 : decode cX3_passAll 127 = .ok (.lreturn, 1) := by decide +kernel
theorem dX3_papersOf_0 : decode cX3_papersOf 0 = .ok (.lconst 0, 1) := by decide +kernel
theorem dX3_papersOf_1 : decode cX3_papersOf 1 = .ok (.lstore_n 3, 1) := by decide +kernel
theorem dX3_papersOf_2 : decode cX3_papersOf 2 = .ok (.iconst 0, 1) := by decide +kernel
theorem dX3_papersOf_3 : decode cX3_papersOf 3 = .ok (.istore 5, 2) := by decide +kernel
theorem dX3_papersOf_5 : decode cX3_papersOf 5 = .ok (.iload 5, 2) := by decide +kernel
theorem dX3_papersOf_7 : decode cX3_papersOf 7 = .ok (.aload_n 0, 1) := by decide +kernel
theorem dX3_papersOf_8 : decode cX3_papersOf 8 = .ok (.getfield 21, 3) := by decide +kernel
theorem dX3_papersOf_11 : decode cX3_papersOf 11 = .ok (.if_icmp .ge 36, 3) := by decide +kernel
theorem dX3_papersOf_14 : decode cX3_papersOf 14 = .ok (.aload_n 0, 1) := by decide +kernel
theorem dX3_papersOf_15 : decode cX3_papersOf 15 = .ok (.getfield 9, 3) := by decide +kernel
theorem dX3_papersOf_18 : decode cX3_papersOf 18 = .ok (.aload_n 0, 1) := by decide +kernel
theorem dX3_papersOf_19 : decode cX3_papersOf 19 = .ok (.getfield 28, 3) := by decide +kernel
theorem dX3_papersOf_22 : decode cX3_papersOf 22 = .ok (.iload 5, 2) := by decide +kernel
theorem dX3_papersOf_24 : decode cX3_papersOf 24 = .ok (.iadd, 1) := by decide +kernel
theorem dX3_papersOf_25 : decode cX3_papersOf 25 = .ok (.iaload, 1) := by decide +kernel
theorem dX3_papersOf_26 : decode cX3_papersOf 26 = .ok (.iload_n 2, 1) := by decide +kernel
theorem dX3_papersOf_27 : decode cX3_papersOf 27 = .ok (.if_icmp .ne 14, 3) := by decide +kernel
theorem dX3_papersOf_30 : decode cX3_papersOf 30 = .ok (.lload_n 3, 1) := by decide +kernel
theorem dX3_papersOf_31 : decode cX3_papersOf 31 = .ok (.aload_n 1, 1) := by decide +kernel
theorem dX3_papersOf_32 : decode cX3_papersOf 32 = .ok (.getfield 123, 3) := by decide +kernel
theorem dX3_papersOf_35 : decode cX3_papersOf 35 = .ok (.iload 5, 2) := by decide +kernel
theorem dX3_papersOf_37 : decode cX3_papersOf 37 = .ok (.iaload, 1) := by decide +kernel
theorem dX3_papersOf_38 : decode cX3_papersOf 38 = .ok (.i2l, 1) := by decide +kernel
theorem dX3_papersOf_39 : decode cX3_papersOf 39 = .ok (.ladd, 1) := by decide +kernel
theorem dX3_papersOf_40 : decode cX3_papersOf 40 = .ok (.lstore_n 3, 1) := by decide +kernel
theorem dX3_papersOf_41 : decode cX3_papersOf 41 = .ok (.iinc 5 1, 3) := by decide +kernel
theorem dX3_papersOf_44 : decode cX3_papersOf 44 = .ok (.goto (-39), 3) := by decide +kernel
theorem dX3_papersOf_47 : decode cX3_papersOf 47 = .ok (.lload_n 3, 1) := by decide +kernel
theorem dX3_papersOf_48 : decode cX3_papersOf 48 = .ok (.lreturn, 1) := by decide +kernel
set_option maxRecDepth 20000 in
theorem ggX3_passLast_X3_latestParcel : GoodIn wsX3_passLast wsX3_latestParcel := goodIn_r _ [10, 1, 11, 4, 12, 13, 14, 15, 16, 45, 46, 47, 48, 49] (by decide +kernel) (by decide +kernel)
set_option maxRecDepth 20000 in
theorem gX3_passLast_X3_latestParcel : GoodIn wsX3_passLast (wsV RX3 126 RX3 yX3_latestParcel wsX3_latestParcel) := goodIn_app (goodIn_of _ (by decide +kernel)) ggX3_passLast_X3_latestParcel
set_option maxRecDepth 20000 in
theorem ggX3_passLast_X3_passes : GoodIn wsX3_passLast wsX3_passes := goodIn_r _ [20, 11, 4, 12, 21, 22, 23, 9, 24, 25, 26, 27, 28, 29, 30, 31, 32, 33, 45, 46, 47, 48, 49, 50, 51, 52, 53, 54, 55, 56, 57, 58, 59, 60, 61, 62, 63, 64, 65, 66, 67, 68, 69, 70, 71, 72, 73, 74, 75] (by decide +kernel) (by decide +kernel)
set_option maxRecDepth 20000 in
theorem gX3_passLast_X3_passes : GoodIn wsX3_passLast (wsV RX3 130 RX3 yX3_passes wsX3_passes) := goodIn_app (goodIn_of _ (by decide +kernel)) ggX3_passLast_X3_passes
set_option maxRecDepth 20000 in
theorem ggX3_passLast_X3_send : GoodIn wsX3_passLast wsX3_send := goodIn_r _ [37, 2, 11, 4, 3, 5, 38, 39, 12, 21, 22, 23, 9, 24, 25, 26, 27, 28, 29, 30, 31, 32, 33, 40, 41, 42, 43, 44, 50, 51, 52, 53, 54, 55, 56, 57, 45, 46, 47, 48, 49, 58, 59, 60, 61, 62, 63, 64, 65, 66, 67, 68, 69, 70, 71, 72, 73, 74, 75] (by decide +kernel) (by decide +kernel)
set_option maxRecDepth 20000 in
theorem gX3_passLast_X3_send : GoodIn wsX3_passLast (wsV RX3 89 RX3 yX3_send wsX3_send) := goodIn_app (goodIn_of _ (by decide +kernel)) ggX3_passLast_X3_send
set_option maxRecDepth 20000 in
theorem ggX3_passLast_X1_now : GoodIn wsX3_passLast wsX1_now := goodIn_r _ [43, 44, 58, 59, 60, 61, 62, 63, 64, 65, 66, 67, 68, 69, 70, 71, 72, 73, 74, 75] (by decide +kernel) (by decide +kernel)
set_option maxRecDepth 20000 in
theorem gX3_passLast_X1_now : GoodIn wsX3_passLast (wsV RX3 116 RX1 yX1_now wsX1_now) := goodIn_app (goodIn_of _ (by decide +kernel)) ggX3_passLast_X1_now
theorem dX3_passLast_0 : decode cX3_passLast 0 = .ok (.aload_n 0, 1) := by decide +kernel
theorem dX3_passLast_1 : decode cX3_passLast 1 = .ok (.iload_n 3, 1) := by decide +kernel
theorem dX3_passLast_2 : decode cX3_passLast 2 = .ok (.invokevirtual 126, 3) := by decide +kernel
theorem dX3_passLast_5 : decode cX3_passLast 5 = .ok (.istore 6, 2) := by decide +kernel
theorem dX3_passLast_7 : decode cX3_passLast 7 = .ok (.lconst 0, 1) := by decide +kernel
theorem dX3_passLast_8 : decode cX3_passLast 8 = .ok (.lstore 7, 2) := by decide +kernel
theorem dX3_passLast_10 : decode cX3_passLast 10 = .ok (.lconst 0, 1) := by decide +kernel
theorem dX3_passLast_11 : decode cX3_passLast 11 = .ok (.lstore 9, 2) := by decide +kernel
theorem dX3_passLast_13 : decode cX3_passLast 13 = .ok (.iconst 0, 1) := by decide +kernel
theorem dX3_passLast_14 : decode cX3_passLast 14 = .ok (.istore 11, 2) := by decide +kernel
theorem dX3_passLast_16 : decode cX3_passLast 16 = .ok (.iload 11, 2) := by decide +kernel
theorem dX3_passLast_18 : decode cX3_passLast 18 = .ok (.aload_n 0, 1) := by decide +kernel
theorem dX3_passLast_19 : decode cX3_passLast 19 = .ok (.getfield 21, 3) := by decide +kernel
theorem dX3_passLast_22 : decode cX3_passLast 22 = .ok (.if_icmp .ge 63, 3) := by decide +kernel
theorem dX3_passLast_25 : decode cX3_passLast 25 = .ok (.aload_n 0, 1) := by decide +kernel
theorem dX3_passLast_26 : decode cX3_passLast 26 = .ok (.aload_n 1, 1) := by decide +kernel
theorem dX3_passLast_27 : decode cX3_passLast 27 = .ok (.aload_n 2, 1) := by decide +kernel
theorem dX3_passLast_28 : decode cX3_passLast 28 = .ok (.iload 11, 2) := by decide +kernel
theorem dX3_passLast_30 : decode cX3_passLast 30 = .ok (.iload_n 3, 1) := by decide +kernel
theorem dX3_passLast_31 : decode cX3_passLast 31 = .ok (.iload 6, 2) := by decide +kernel
theorem dX3_passLast_33 : decode cX3_passLast 33 = .ok (.invokevirtual 130, 3) := by decide +kernel
theorem dX3_passLast_36 : decode cX3_passLast 36 = .ok (.ifCond .eq 43, 3) := by decide +kernel
theorem dX3_passLast_39 : decode cX3_passLast 39 = .ok (.lload 7, 2) := by decide +kernel
theorem dX3_passLast_41 : decode cX3_passLast 41 = .ok (.aload_n 1, 1) := by decide +kernel
theorem dX3_passLast_42 : decode cX3_passLast 42 = .ok (.getfield 123, 3) := by decide +kernel
theorem dX3_passLast_45 : decode cX3_passLast 45 = .ok (.iload 11, 2) := by decide +kernel
theorem dX3_passLast_47 : decode cX3_passLast 47 = .ok (.iaload, 1) := by decide +kernel
theorem dX3_passLast_48 : decode cX3_passLast 48 = .ok (.i2l, 1) := by decide +kernel
theorem dX3_passLast_49 : decode cX3_passLast 49 = .ok (.ladd, 1) := by decide +kernel
theorem dX3_passLast_50 : decode cX3_passLast 50 = .ok (.lstore 7, 2) := by decide +kernel
theorem dX3_passLast_52 : decode cX3_passLast 52 = .ok (.lload 9, 2) := by decide +kernel
theorem dX3_passLast_54 : decode cX3_passLast 54 = .ok (.aload_n 1, 1) := by decide +kernel
theorem dX3_passLast_55 : decode cX3_passLast 55 = .ok (.getfield 123, 3) := by decide +kernel
theorem dX3_passLast_58 : decode cX3_passLast 58 = .ok (.iload 11, 2) := by decide +kernel
theorem dX3_passLast_60 : decode cX3_passLast 60 = .ok (.iaload, 1) := by decide +kernel
theorem dX3_passLast_61 : decode cX3_passLast 61 = .ok (.i2l, 1) := by decide +kernel
theorem dX3_passLast_62 : decode cX3_passLast 62 = .ok (.aload_n 0, 1) := by decide +kernel
theorem dX3_passLast_63 : decode cX3_passLast 63 = .ok (.getfield 15, 3) := by decide +kernel
theorem dX3_passLast_66 : decode cX3_passLast 66 = .ok (.aload_n 0, 1) := by decide +kernel
theorem dX3_passLast_67 : decode cX3_passLast 67 = .ok (.getfield 28, 3) := by decide +kernel
theorem dX3_passLast_70 : decode cX3_passLast 70 = .ok (.iload 11, 2) := by decide +kernel
theorem dX3_passLast_72 : decode cX3_passLast 72 = .ok (.iadd, 1) := by decide +kernel
theorem dX3_passLast_73 : decode cX3_passLast 73 = .ok (.iaload, 1) := by decide +kernel
theorem dX3_passLast_74 : decode cX3_passLast 74 = .ok (.i2l, 1) := by decide +kernel
theorem dX3_passLast_75 : decode cX3_passLast 75 = .ok (.lmul, 1) := by decide +kernel
theorem dX3_passLast_76 : decode cX3_passLast 76 = .ok (.ladd, 1) := by decide +kernel
theorem dX3_passLast_77 : decode cX3_passLast 77 = .ok (.lstore 9, 2) := by decide +kernel
theorem dX3_passLast_79 : decode cX3_passLast 79 = .ok (.iinc 11 1, 3) := by decide +kernel
theorem dX3_passLast_82 : decode cX3_passLast 82 = .ok (.goto (-66), 3) := by decide +kernel
theorem dX3_passLast_85 : decode cX3_passLast 85 = .ok (.lload 9, 2) := by decide +kernel
theorem dX3_passLast_87 : decode cX3_passLast 87 = .ok (.lload 4, 2) := by decide +kernel
theorem dX3_passLast_89 : decode cX3_passLast 89 = .ok (.lcmp, 1) := by decide +kernel
theorem dX3_passLast_90 : decode cX3_passLast 90 = .ok (.ifCond .le 14, 3) := by decide +kernel
theorem dX3_passLast_93 : decode cX3_passLast 93 = .ok (.lload 7, 2) := by decide +kernel
theorem dX3_passLast_95 : decode cX3_passLast 95 = .ok (.lconst 0, 1) := by decide +kernel
theorem dX3_passLast_96 : decode cX3_passLast 96 = .ok (.lcmp, 1) := by decide +kernel
theorem dX3_passLast_97 : decode cX3_passLast 97 = .ok (.ifCond .le 7, 3) := by decide +kernel
theorem dX3_passLast_100 : decode cX3_passLast 100 = .ok (.iconst 1, 1) := by decide +kernel
theorem dX3_passLast_101 : decode cX3_passLast 101 = .ok (.goto 4, 3) := by decide +kernel
theorem dX3_passLast_104 : decode cX3_passLast 104 = .ok (.iconst 0, 1) := by decide +kernel
theorem dX3_passLast_105 : decode cX3_passLast 105 = .ok (.istore 11, 2) := by decide +kernel
theorem dX3_passLast_107 : decode cX3_passLast 107 = .ok (.iload 11, 2) := by decide +kernel
theorem dX3_passLast_109 : decode cX3_passLast 109 = .ok (.ifCond .eq 11, 3) := by decide +kernel
theorem dX3_passLast_112 : decode cX3_passLast 112 = .ok (.lload 4, 2) := by decide +kernel
theorem dX3_passLast_114 : decode cX3_passLast 114 = .ok (.lload 7, 2) := by decide +kernel
theorem dX3_passLast_116 : decode cX3_passLast 116 = .ok (.ldiv, 1) := by decide +kernel
theorem dX3_passLast_117 : decode cX3_passLast 117 = .ok (.goto 4, 3) := by decide +kernel
theorem dX3_passLast_120 : decode cX3_passLast 120 = .ok (.lconst 0, 1) := by decide +kernel
theorem dX3_passLast_121 : decode cX3_passLast 121 = .ok (.lstore 12, 2) := by decide +kernel
theorem dX3_passLast_123 : decode cX3_passLast 123 = .ok (.lconst 0, 1) := by decide +kernel
theorem dX3_passLast_124 : decode cX3_passLast 124 = .ok (.lstore 14, 2) := by decide +kernel
theorem dX3_passLast_126 : decode cX3_passLast 126 = .ok (.iconst 0, 1) := by decide +kernel
theorem dX3_passLast_127 : decode cX3_passLast 127 = .ok (.istore 16, 2) := by decide +kernel
theorem dX3_passLast_129 : decode cX3_passLast 129 = .ok (.iload 16, 2) := by decide +kernel
theorem dX3_passLast_131 : decode cX3_passLast 131 = .ok (.aload_n 0, 1) := by decide +kernel
theorem dX3_passLast_132 : decode cX3_passLast 132 = .ok (.getfield 21, 3) := by decide +kernel
theorem dX3_passLast_135 : decode cX3_passLast 135 = .ok (.if_icmp .ge 59, 3) := by decide +kernel
theorem dX3_passLast_138 : decode cX3_passLast 138 = .ok (.aload_n 0, 1) := by decide +kernel
theorem dX3_passLast_139 : decode cX3_passLast 139 = .ok (.aload_n 1, 1) := by decide +kernel
theorem dX3_passLast_140 : decode cX3_passLast 140 = .ok (.aload_n 2, 1) := by decide +kernel
theorem dX3_passLast_141 : decode cX3_passLast 141 = .ok (.iload 16, 2) := by decide +kernel
theorem dX3_passLast_143 : decode cX3_passLast 143 = .ok (.iload_n 3, 1) := by decide +kernel
theorem dX3_passLast_144 : decode cX3_passLast 144 = .ok (.iload 6, 2) := by decide +kernel
theorem dX3_passLast_146 : decode cX3_passLast 146 = .ok (.invokevirtual 130, 3) := by decide +kernel
theorem dX3_passLast_149 : decode cX3_passLast 149 = .ok (.ifCond .eq 39, 3) := by decide +kernel
theorem dX3_passLast_152 : decode cX3_passLast 152 = .ok (.lload 14, 2) := by decide +kernel
theorem dX3_passLast_154 : decode cX3_passLast 154 = .ok (.aload_n 0, 1) := by decide +kernel
theorem dX3_passLast_155 : decode cX3_passLast 155 = .ok (.aload_n 1, 1) := by decide +kernel
theorem dX3_passLast_156 : decode cX3_passLast 156 = .ok (.aload_n 2, 1) := by decide +kernel
theorem dX3_passLast_157 : decode cX3_passLast 157 = .ok (.iload 16, 2) := by decide +kernel
theorem dX3_passLast_159 : decode cX3_passLast 159 = .ok (.iload 11, 2) := by decide +kernel
theorem dX3_passLast_161 : decode cX3_passLast 161 = .ok (.ifCond .eq 8, 3) := by decide +kernel
theorem dX3_passLast_164 : decode cX3_passLast 164 = .ok (.lload 12, 2) := by decide +kernel
theorem dX3_passLast_166 : decode cX3_passLast 166 = .ok (.goto 16, 3) := by decide +kernel
theorem dX3_passLast_169 : decode cX3_passLast 169 = .ok (.aload_n 0, 1) := by decide +kernel
theorem dX3_passLast_170 : decode cX3_passLast 170 = .ok (.getfield 15, 3) := by decide +kernel
theorem dX3_passLast_173 : decode cX3_passLast 173 = .ok (.aload_n 0, 1) := by decide +kernel
theorem dX3_passLast_174 : decode cX3_passLast 174 = .ok (.getfield 28, 3) := by decide +kernel
theorem dX3_passLast_177 : decode cX3_passLast 177 = .ok (.iload 16, 2) := by decide +kernel
theorem dX3_passLast_179 : decode cX3_passLast 179 = .ok (.iadd, 1) := by decide +kernel
theorem dX3_passLast_180 : decode cX3_passLast 180 = .ok (.iaload, 1) := by decide +kernel
theorem dX3_passLast_181 : decode cX3_passLast 181 = .ok (.i2l, 1) := by decide +kernel
theorem dX3_passLast_182 : decode cX3_passLast 182 = .ok (.invokevirtual 89, 3) := by decide +kernel
theorem dX3_passLast_185 : decode cX3_passLast 185 = .ok (.ladd, 1) := by decide +kernel
theorem dX3_passLast_186 : decode cX3_passLast 186 = .ok (.lstore 14, 2) := by decide +kernel
theorem dX3_passLast_188 : decode cX3_passLast 188 = .ok (.iinc 16 1, 3) := by decide +kernel
theorem dX3_passLast_191 : decode cX3_passLast 191 = .ok (.goto (-62), 3) := by decide +kernel
theorem dX3_passLast_194 : decode cX3_passLast 194 = .ok (.iload 11, 2) := by decide +kernel
theorem dX3_passLast_196 : decode cX3_passLast 196 = .ok (.ifCond .eq 6, 3) := by decide +kernel
theorem dX3_passLast_199 : decode cX3_passLast 199 = .ok (.lload 14, 2) := by decide +kernel
theorem dX3_passLast_201 : decode cX3_passLast 201 = .ok (.lreturn, 1) := by decide +kernel
theorem dX3_passLast_202 : decode cX3_passLast 202 = .ok (.aload_n 2, 1) := by decide +kernel
theorem dX3_passLast_203 : decode cX3_passLast 203 = .ok (.getfield 134, 3) := by decide +kernel
theorem dX3_passLast_206 : decode cX3_passLast 206 = .ok (.aload_n 2, 1) := by decide +kernel
theorem dX3_passLast_207 : decode cX3_passLast 207 = .ok (.invokevirtual 116, 3) := by decide +kernel
theorem dX3_passLast_210 : decode cX3_passLast 210 = .ok (.dup2, 1) := by decide +kernel
theorem dX3_passLast_211 : decode cX3_passLast 211 = .ok (.laload, 1) := by decide +kernel
theorem dX3_passLast_212 : decode cX3_passLast 212 = .ok (.lload 4, 2) := by decide +kernel
theorem dX3_passLast_214 : decode cX3_passLast 214 = .ok (.lload 9, 2) := by decide +kernel
theorem dX3_passLast_216 : decode cX3_passLast 216 = .ok (.lsub, 1) := by decide +kernel
theorem dX3_passLast_217 : decode cX3_passLast 217 = .ok (.ladd, 1) := by decide +kernel
theorem dX3_passLast_218 : decode cX3_passLast 218 = .ok (.lastore, 1) := by decide +kernel
theorem dX3_passLast_219 : decode cX3_passLast 219 = .ok (.lload 4, 2) := by decide +kernel
theorem dX3_passLast_221 : decode cX3_passLast 221 = .ok (.lreturn, 1) := by decide +kernel
theorem dX3_latestParcel_0 : decode cX3_latestParcel 0 = .ok (.iconst 0, 1) := by decide +kernel
theorem dX3_latestParcel_1 : decode cX3_latestParcel 1 = .ok (.istore_n 2, 1) := by decide +kernel
theorem dX3_latestParcel_2 : decode cX3_latestParcel 2 = .ok (.iconst 0, 1) := by decide +kernel
theorem dX3_latestParcel_3 : decode cX3_latestParcel 3 = .ok (.istore_n 3, 1) := by decide +kernel
theorem dX3_latestParcel_4 : decode cX3_latestParcel 4 = .ok (.iload_n 3, 1) := by decide +kernel
theorem dX3_latestParcel_5 : decode cX3_latestParcel 5 = .ok (.aload_n 0, 1) := by decide +kernel
theorem dX3_latestParcel_6 : decode cX3_latestParcel 6 = .ok (.getfield 21, 3) := by decide +kernel
theorem dX3_latestParcel_9 : decode cX3_latestParcel 9 = .ok (.if_icmp .ge 35, 3) := by decide +kernel
theorem dX3_latestParcel_12 : decode cX3_latestParcel 12 = .ok (.aload_n 0, 1) := by decide +kernel
theorem dX3_latestParcel_13 : decode cX3_latestParcel 13 = .ok (.getfield 9, 3) := by decide +kernel
theorem dX3_latestParcel_16 : decode cX3_latestParcel 16 = .ok (.aload_n 0, 1) := by decide +kernel
theorem dX3_latestParcel_17 : decode cX3_latestParcel 17 = .ok (.getfield 28, 3) := by decide +kernel
theorem dX3_latestParcel_20 : decode cX3_latestParcel 20 = .ok (.iload_n 3, 1) := by decide +kernel
theorem dX3_latestParcel_21 : decode cX3_latestParcel 21 = .ok (.iadd, 1) := by decide +kernel
theorem dX3_latestParcel_22 : decode cX3_latestParcel 22 = .ok (.iaload, 1) := by decide +kernel
theorem dX3_latestParcel_23 : decode cX3_latestParcel 23 = .ok (.iload_n 1, 1) := by decide +kernel
theorem dX3_latestParcel_24 : decode cX3_latestParcel 24 = .ok (.if_icmp .ne 14, 3) := by decide +kernel
theorem dX3_latestParcel_27 : decode cX3_latestParcel 27 = .ok (.iload_n 2, 1) := by decide +kernel
theorem dX3_latestParcel_28 : decode cX3_latestParcel 28 = .ok (.aload_n 0, 1) := by decide +kernel
theorem dX3_latestParcel_29 : decode cX3_latestParcel 29 = .ok (.getfield 18, 3) := by decide +kernel
theorem dX3_latestParcel_32 : decode cX3_latestParcel 32 = .ok (.iload_n 3, 1) := by decide +kernel
theorem dX3_latestParcel_33 : decode cX3_latestParcel 33 = .ok (.iaload, 1) := by decide +kernel
theorem dX3_latestParcel_34 : decode cX3_latestParcel 34 = .ok (.invokestatic 137, 3) := by decide +kernel
theorem dX3_latestParcel_37 : decode cX3_latestParcel 37 = .ok (.istore_n 2, 1) := by decide +kernel
theorem dX3_latestParcel_38 : decode cX3_latestParcel 38 = .ok (.iinc 3 1, 3) := by decide +kernel
theorem dX3_latestParcel_41 : decode cX3_latestParcel 41 = .ok (.goto (-37), 3) := by decide +kernel
theorem dX3_latestParcel_44 : decode cX3_latestParcel 44 = .ok (.iload_n 2, 1) := by decide +kernel
theorem dX3_latestParcel_45 : decode cX3_latestParcel 45 = .ok (.ireturn, 1) := by decide +kernel
set_option maxRecDepth 20000 in
theorem ggX3_passes_X3_nextOf : GoodIn wsX3_passes wsX3_nextOf := goodIn_r _ [8, 9, 10, 11, 12, 13, 14, 15, 16, 17, 23, 24, 25, 26, 27, 28, 29, 30, 31, 32, 33, 34, 35, 36, 37, 38, 39, 40, 41, 42, 43, 44, 45, 46, 47, 48] (by decide +kernel) (by decide +kernel)
set_option maxRecDepth 20000 in
theorem gX3_passes_X3_nextOf : GoodIn wsX3_passes (wsV RX3 142 RX3 yX3_nextOf wsX3_nextOf) := goodIn_app (goodIn_of _ (by decide +kernel)) ggX3_passes_X3_nextOf
theorem dX3_passes_0 : decode cX3_passes 0 = .ok (.aload_n 0, 1) := by decide +kernel
theorem dX3_passes_1 : decode cX3_passes 1 = .ok (.getfield 9, 3) := by decide +kernel
theorem dX3_passes_4 : decode cX3_passes 4 = .ok (.aload_n 0, 1) := by decide +kernel
theorem dX3_passes_5 : decode cX3_passes 5 = .ok (.getfield 28, 3) := by decide +kernel
theorem dX3_passes_8 : decode cX3_passes 8 = .ok (.iload_n 3, 1) := by decide +kernel
theorem dX3_passes_9 : decode cX3_passes 9 = .ok (.iadd, 1) := by decide +kernel
theorem dX3_passes_10 : decode cX3_passes 10 = .ok (.iaload, 1) := by decide +kernel
theorem dX3_passes_11 : decode cX3_passes 11 = .ok (.iload 4, 2) := by decide +kernel
theorem dX3_passes_13 : decode cX3_passes 13 = .ok (.if_icmp .ne 30, 3) := by decide +kernel
theorem dX3_passes_16 : decode cX3_passes 16 = .ok (.aload_n 0, 1) := by decide +kernel
theorem dX3_passes_17 : decode cX3_passes 17 = .ok (.getfield 18, 3) := by decide +kernel
theorem dX3_passes_20 : decode cX3_passes 20 = .ok (.iload_n 3, 1) := by decide +kernel
theorem dX3_passes_21 : decode cX3_passes 21 = .ok (.iaload, 1) := by decide +kernel
theorem dX3_passes_22 : decode cX3_passes 22 = .ok (.iload 5, 2) := by decide +kernel
theorem dX3_passes_24 : decode cX3_passes 24 = .ok (.if_icmp .ne 19, 3) := by decide +kernel
theorem dX3_passes_27 : decode cX3_passes 27 = .ok (.aload_n 0, 1) := by decide +kernel
theorem dX3_passes_28 : decode cX3_passes 28 = .ok (.aload_n 1, 1) := by decide +kernel
theorem dX3_passes_29 : decode cX3_passes 29 = .ok (.aload_n 2, 1) := by decide +kernel
theorem dX3_passes_30 : decode cX3_passes 30 = .ok (.iload_n 3, 1) := by decide +kernel
theorem dX3_passes_31 : decode cX3_passes 31 = .ok (.invokevirtual 142, 3) := by decide +kernel
theorem dX3_passes_34 : decode cX3_passes 34 = .ok (.bipush (-9), 2) := by decide +kernel
theorem dX3_passes_36 : decode cX3_passes 36 = .ok (.if_icmp .eq 7, 3) := by decide +kernel
theorem dX3_passes_39 : decode cX3_passes 39 = .ok (.iconst 1, 1) := by decide +kernel
theorem dX3_passes_40 : decode cX3_passes 40 = .ok (.goto 4, 3) := by decide +kernel
theorem dX3_passes_43 : decode cX3_passes 43 = .ok (.iconst 0, 1) := by decide +kernel
theorem dX3_passes_44 : decode cX3_passes 44 = .ok (.ireturn, 1) := by decide +kernel
set_option maxRecDepth 20000 in
theorem ggX3_nextOf_X1_isHopeful : GoodIn wsX3_nextOf wsX1_isHopeful := goodIn_r _ [7, 8, 9, 18, 19, 20, 21, 22, 23, 24, 25, 26, 27, 28, 29, 30, 31, 32, 33, 34, 35] (by decide +kernel) (by decide +kernel)
set_option maxRecDepth 20000 in
theorem gX3_nextOf_X1_isHopeful : GoodIn wsX3_nextOf (wsV RX3 152 RX1 yX1_isHopeful wsX1_isHopeful) := goodIn_app (goodIn_of _ (by decide +kernel)) ggX3_nextOf_X1_isHopeful
theorem dX3_nextOf_0 : decode cX3_nextOf 0 = .ok (.iconst 0, 1) := by decide +kernel
theorem dX3_nextOf_1 : decode cX3_nextOf 1 = .ok (.istore 4, 2) := by decide +kernel
theorem dX3_nextOf_3 : decode cX3_nextOf 3 = .ok (.iload 4, 2) := by decide +kernel
theorem dX3_nextOf_5 : decode cX3_nextOf 5 = .ok (.aload_n 1, 1) := by decide +kernel
theorem dX3_nextOf_6 : decode cX3_nextOf 6 = .ok (.getfield 146, 3) := by decide +kernel
theorem dX3_nextOf_9 : decode cX3_nextOf 9 = .ok (.iload_n 3, 1) := by decide +kernel
theorem dX3_nextOf_10 : decode cX3_nextOf 10 = .ok (.iaload, 1) := by decide +kernel
theorem dX3_nextOf_11 : decode cX3_nextOf 11 = .ok (.if_icmp .ge 35, 3) := by decide +kernel
theorem dX3_nextOf_14 : decode cX3_nextOf 14 = .ok (.aload_n 1, 1) := by decide +kernel
theorem dX3_nextOf_15 : decode cX3_nextOf 15 = .ok (.getfield 149, 3) := by decide +kernel
theorem dX3_nextOf_18 : decode cX3_nextOf 18 = .ok (.iload_n 3, 1) := by decide +kernel
theorem dX3_nextOf_19 : decode cX3_nextOf 19 = .ok (.bipush 12, 2) := by decide +kernel
theorem dX3_nextOf_21 : decode cX3_nextOf 21 = .ok (.imul, 1) := by decide +kernel
theorem dX3_nextOf_22 : decode cX3_nextOf 22 = .ok (.iload 4, 2) := by decide +kernel
theorem dX3_nextOf_24 : decode cX3_nextOf 24 = .ok (.iadd, 1) := by decide +kernel
theorem dX3_nextOf_25 : decode cX3_nextOf 25 = .ok (.iaload, 1) := by decide +kernel
theorem dX3_nextOf_26 : decode cX3_nextOf 26 = .ok (.istore 5, 2) := by decide +kernel
theorem dX3_nextOf_28 : decode cX3_nextOf 28 = .ok (.aload_n 2, 1) := by decide +kernel
theorem dX3_nextOf_29 : decode cX3_nextOf 29 = .ok (.iload 5, 2) := by decide +kernel
theorem dX3_nextOf_31 : decode cX3_nextOf 31 = .ok (.invokevirtual 152, 3) := by decide +kernel
theorem dX3_nextOf_34 : decode cX3_nextOf 34 = .ok (.ifCond .eq 6, 3) := by decide +kernel
theorem dX3_nextOf_37 : decode cX3_nextOf 37 = .ok (.iload 5, 2) := by decide +kernel
theorem dX3_nextOf_39 : decode cX3_nextOf 39 = .ok (.ireturn, 1) := by decide +kernel
theorem dX3_nextOf_40 : decode cX3_nextOf 40 = .ok (.iinc 4 1, 3) := by decide +kernel
theorem dX3_nextOf_43 : decode cX3_nextOf 43 = .ok (.goto (-40), 3) := by decide +kernel
theorem dX3_nextOf_46 : decode cX3_nextOf 46 = .ok (.bipush (-9), 2) := by decide +kernel
theorem dX3_nextOf_48 : decode cX3_nextOf 48 = .ok (.ireturn, 1) := by decide +kernel
set_option maxRecDepth 20000 in
theorem ggX3_send_X3_nextOf : GoodIn wsX3_send wsX3_nextOf := goodIn_r _ [13, 14, 15, 16, 17, 18, 19, 20, 21, 22, 28, 29, 30, 31, 32, 33, 34, 35, 41, 42, 43, 44, 45, 46, 47, 48, 49, 50, 51, 52, 53, 54, 55, 56, 57, 58] (by decide +kernel) (by decide +kernel)
set_option maxRecDepth 20000 in
theorem gX3_send_X3_nextOf : GoodIn wsX3_send (wsV RX3 142 RX3 yX3_nextOf wsX3_nextOf) := goodIn_app (goodIn_of _ (by decide +kernel)) ggX3_send_X3_nextOf
set_option maxRecDepth 20000 in
theorem ggX3_send_X1_now : GoodIn wsX3_send wsX1_now := goodIn_r _ [26, 27, 41, 42, 43, 44, 45, 46, 47, 48, 49, 50, 51, 52, 53, 54, 55, 56, 57, 58] (by decide +kernel) (by decide +kernel)
set_option maxRecDepth 20000 in
theorem gX3_send_X1_now : GoodIn wsX3_send (wsV RX3 116 RX1 yX1_now wsX1_now) := goodIn_app (goodIn_of _ (by decide +kernel)) ggX3_send_X1_now
theorem dX3_send_0 : decode cX3_send 0 = .ok (.aload_n 0, 1) := by decide +kernel
theorem dX3_send_1 : decode cX3_send 1 = .ok (.aload_n 1, 1) := by decide +kernel
theorem dX3_send_2 : decode cX3_send 2 = .ok (.aload_n 2, 1) := by decide +kernel
theorem dX3_send_3 : decode cX3_send 3 = .ok (.iload_n 3, 1) := by decide +kernel
theorem dX3_send_4 : decode cX3_send 4 = .ok (.invokevirtual 142, 3) := by decide +kernel
theorem dX3_send_7 : decode cX3_send 7 = .ok (.istore 6, 2) := by decide +kernel
theorem dX3_send_9 : decode cX3_send 9 = .ok (.aload_n 1, 1) := by decide +kernel
theorem dX3_send_10 : decode cX3_send 10 = .ok (.getfield 123, 3) := by decide +kernel
theorem dX3_send_13 : decode cX3_send 13 = .ok (.iload_n 3, 1) := by decide +kernel
theorem dX3_send_14 : decode cX3_send 14 = .ok (.iaload, 1) := by decide +kernel
theorem dX3_send_15 : decode cX3_send 15 = .ok (.i2l, 1) := by decide +kernel
theorem dX3_send_16 : decode cX3_send 16 = .ok (.lload 4, 2) := by decide +kernel
theorem dX3_send_18 : decode cX3_send 18 = .ok (.lmul, 1) := by decide +kernel
theorem dX3_send_19 : decode cX3_send 19 = .ok (.lstore 7, 2) := by decide +kernel
theorem dX3_send_21 : decode cX3_send 21 = .ok (.aload_n 0, 1) := by decide +kernel
theorem dX3_send_22 : decode cX3_send 22 = .ok (.getfield 9, 3) := by decide +kernel
theorem dX3_send_25 : decode cX3_send 25 = .ok (.aload_n 0, 1) := by decide +kernel
theorem dX3_send_26 : decode cX3_send 26 = .ok (.getfield 28, 3) := by decide +kernel
theorem dX3_send_29 : decode cX3_send 29 = .ok (.iload_n 3, 1) := by decide +kernel
theorem dX3_send_30 : decode cX3_send 30 = .ok (.iadd, 1) := by decide +kernel
theorem dX3_send_31 : decode cX3_send 31 = .ok (.iload 6, 2) := by decide +kernel
theorem dX3_send_33 : decode cX3_send 33 = .ok (.iastore, 1) := by decide +kernel
theorem dX3_send_34 : decode cX3_send 34 = .ok (.iload 6, 2) := by decide +kernel
theorem dX3_send_36 : decode cX3_send 36 = .ok (.bipush (-9), 2) := by decide +kernel
theorem dX3_send_38 : decode cX3_send 38 = .ok (.if_icmp .ne 32, 3) := by decide +kernel
theorem dX3_send_41 : decode cX3_send 41 = .ok (.aload_n 0, 1) := by decide +kernel
theorem dX3_send_42 : decode cX3_send 42 = .ok (.getfield 15, 3) := by decide +kernel
theorem dX3_send_45 : decode cX3_send 45 = .ok (.aload_n 0, 1) := by decide +kernel
theorem dX3_send_46 : decode cX3_send 46 = .ok (.getfield 28, 3) := by decide +kernel
theorem dX3_send_49 : decode cX3_send 49 = .ok (.iload_n 3, 1) := by decide +kernel
theorem dX3_send_50 : decode cX3_send 50 = .ok (.iadd, 1) := by decide +kernel
theorem dX3_send_51 : decode cX3_send 51 = .ok (.iconst 0, 1) := by decide +kernel
theorem dX3_send_52 : decode cX3_send 52 = .ok (.iastore, 1) := by decide +kernel
theorem dX3_send_53 : decode cX3_send 53 = .ok (.aload_n 2, 1) := by decide +kernel
theorem dX3_send_54 : decode cX3_send 54 = .ok (.getfield 134, 3) := by decide +kernel
theorem dX3_send_57 : decode cX3_send 57 = .ok (.aload_n 2, 1) := by decide +kernel
theorem dX3_send_58 : decode cX3_send 58 = .ok (.invokevirtual 116, 3) := by decide +kernel
theorem dX3_send_61 : decode cX3_send 61 = .ok (.dup2, 1) := by decide +kernel
theorem dX3_send_62 : decode cX3_send 62 = .ok (.laload, 1) := by decide +kernel
theorem dX3_send_63 : decode cX3_send 63 = .ok (.lload 7, 2) := by decide +kernel
theorem dX3_send_65 : decode cX3_send 65 = .ok (.ladd, 1) := by decide +kernel
theorem dX3_send_66 : decode cX3_send 66 = .ok (.lastore, 1) := by decide +kernel
theorem dX3_send_67 : decode cX3_send 67 = .ok (.goto 44, 3) := by decide +kernel
theorem dX3_send_70 : decode cX3_send 70 = .ok (.aload_n 0, 1) := by decide +kernel
theorem dX3_send_71 : decode cX3_send 71 = .ok (.getfield 15, 3) := by decide +kernel
theorem dX3_send_74 : decode cX3_send 74 = .ok (.aload_n 0, 1) := by decide +kernel
theorem dX3_send_75 : decode cX3_send 75 = .ok (.getfield 28, 3) := by decide +kernel
theorem dX3_send_78 : decode cX3_send 78 = .ok (.iload_n 3, 1) := by decide +kernel
theorem dX3_send_79 : decode cX3_send 79 = .ok (.iadd, 1) := by decide +kernel
theorem dX3_send_80 : decode cX3_send 80 = .ok (.lload 4, 2) := by decide +kernel
theorem dX3_send_82 : decode cX3_send 82 = .ok (.l2i, 1) := by decide +kernel
theorem dX3_send_83 : decode cX3_send 83 = .ok (.iastore, 1) := by decide +kernel
theorem dX3_send_84 : decode cX3_send 84 = .ok (.aload_n 2, 1) := by decide +kernel
theorem dX3_send_85 : decode cX3_send 85 = .ok (.getfield 97, 3) := by decide +kernel
theorem dX3_send_88 : decode cX3_send 88 = .ok (.aload_n 2, 1) := by decide +kernel
theorem dX3_send_89 : decode cX3_send 89 = .ok (.getfield 96, 3) := by decide +kernel
theorem dX3_send_92 : decode cX3_send 92 = .ok (.iload 6, 2) := by decide +kernel
theorem dX3_send_94 : decode cX3_send 94 = .ok (.iadd, 1) := by decide +kernel
theorem dX3_send_95 : decode cX3_send 95 = .ok (.dup2, 1) := by decide +kernel
theorem dX3_send_96 : decode cX3_send 96 = .ok (.laload, 1) := by decide +kernel
theorem dX3_send_97 : decode cX3_send 97 = .ok (.lload 7, 2) := by decide +kernel
theorem dX3_send_99 : decode cX3_send 99 = .ok (.ladd, 1) := by decide +kernel
theorem dX3_send_100 : decode cX3_send 100 = .ok (.lastore, 1) := by decide +kernel
theorem dX3_send_101 : decode cX3_send 101 = .ok (.aload_n 0, 1) := by decide +kernel
theorem dX3_send_102 : decode cX3_send 102 = .ok (.getfield 18, 3) := by decide +kernel
theorem dX3_send_105 : decode cX3_send 105 = .ok (.iload_n 3, 1) := by decide +kernel
theorem dX3_send_106 : decode cX3_send 106 = .ok (.aload_n 2, 1) := by decide +kernel
theorem dX3_send_107 : decode cX3_send 107 = .ok (.invokevirtual 116, 3) := by decide +kernel
theorem dX3_send_110 : decode cX3_send 110 = .ok (.iastore, 1) := by decide +kernel
theorem dX3_send_111 : decode cX3_send 111 = .ok (.lload 7, 2) := by decide +kernel
theorem dX3_send_113 : decode cX3_send 113 = .ok (.lreturn, 1) := by decide +kernel
set_option maxRecDepth 20000 in
theorem ggX4_init_X0_init : GoodIn wsX4_init wsX0_init := goodIn_r _ [20, 21, 2, 3, 22, 23, 24, 25, 26, 27, 28, 29, 30, 31, 32, 6, 33, 34, 35, 58, 59, 60, 61, 62, 63, 64, 65] (by decide +kernel) (by decide +kernel)
set_option maxRecDepth 20000 in
theorem gX4_init_X0_init : GoodIn wsX4_init (wsX0_init) := ggX4_init_X0_init
set_option maxRecDepth 20000 in
theorem ggX4_init_X1_init : GoodIn wsX4_init wsX1_init := goodIn_r _ [37, 38, 2, 3, 39, 24, 40, 41, 42, 43, 44, 16, 45, 46, 47, 48, 49, 50, 51, 70, 71, 72, 73, 74, 75, 76, 77, 78, 79, 80, 81, 82, 83, 84, 85, 86, 87] (by decide +kernel) (by decide +kernel)
set_option maxRecDepth 20000 in
theorem gX4_init_X1_init_n18 : GoodIn wsX4_init (wsX1_init) := ggX4_init_X1_init
set_option maxRecDepth 20000 in
theorem ggX4_init_X3_init : GoodIn wsX4_init wsX3_init := goodIn_r _ [53, 54, 2, 3, 24, 55, 56, 57, 88, 89, 90, 91, 92] (by decide +kernel) (by decide +kernel)
set_option maxRecDepth 20000 in
theorem gX4_init_X3_init_n25 : GoodIn wsX4_init (wsX3_init) := ggX4_init_X3_init
theorem dX4_init_0 : decode cX4_init 0 = .ok (.aload_n 0, 1) := by decide +kernel
theorem dX4_init_1 : decode cX4_init 1 = .ok (.invokespecial 3, 3) := by decide +kernel
theorem dX4_init_4 : decode cX4_init 4 = .ok (.aload_n 0, 1) := by decide +kernel
theorem dX4_init_5 : decode cX4_init 5 = .ok (.new 9, 3) := by decide +kernel
theorem dX4_init_8 : decode cX4_init 8 = .ok (.dup, 1) := by decide +kernel
theorem dX4_init_9 : decode cX4_init 9 = .ok (.invokespecial 11, 3) := by decide +kernel
theorem dX4_init_12 : decode cX4_init 12 = .ok (.putfield 12, 3) := by decide +kernel
theorem dX4_init_15 : decode cX4_init 15 = .ok (.aload_n 0, 1) := by decide +kernel
theorem dX4_init_16 : decode cX4_init 16 = .ok (.new 16, 3) := by decide +kernel
theorem dX4_init_19 : decode cX4_init 19 = .ok (.dup, 1) := by decide +kernel
theorem dX4_init_20 : decode cX4_init 20 = .ok (.invokespecial 18, 3) := by decide +kernel
theorem dX4_init_23 : decode cX4_init 23 = .ok (.putfield 19, 3) := by decide +kernel
theorem dX4_init_26 : decode cX4_init 26 = .ok (.aload_n 0, 1) := by decide +kernel
theorem dX4_init_27 : decode cX4_init 27 = .ok (.new 23, 3) := by decide +kernel
theorem dX4_init_30 : decode cX4_init 30 = .ok (.dup, 1) := by decide +kernel
theorem dX4_init_31 : decode cX4_init 31 = .ok (.invokespecial 25, 3) := by decide +kernel
theorem dX4_init_34 : decode cX4_init 34 = .ok (.putfield 26, 3) := by decide +kernel
theorem dX4_init_37 : decode cX4_init 37 = .ok (.aload_n 0, 1) := by decide +kernel
theorem dX4_init_38 : decode cX4_init 38 = .ok (.sipush 864, 3) := by decide +kernel
theorem dX4_init_41 : decode cX4_init 41 = .ok (.newarray .long, 2) := by decide +kernel
theorem dX4_init_43 : decode cX4_init 43 = .ok (.putfield 30, 3) := by decide +kernel
theorem dX4_init_46 : decode cX4_init 46 = .ok (.return_, 1) := by decide +kernel
set_option maxRecDepth 20000 in
theorem ggX4_candidates_X0_open : GoodIn wsX4_candidates wsX0_open := goodIn_r _ [7, 8, 9, 10, 11, 16, 17, 18, 19, 20, 21, 22, 23] (by decide +kernel) (by decide +kernel)
set_option maxRecDepth 20000 in
theorem gX4_candidates_X0_open : GoodIn wsX4_candidates (wsV RX4 38 RX0 yX0_open wsX0_open) := goodIn_app (goodIn_of _ (by decide +kernel)) ggX4_candidates_X0_open
theorem dX4_candidates_0 : decode cX4_candidates 0 = .ok (.iload_n 1, 1) := by decide +kernel
theorem dX4_candidates_1 : decode cX4_candidates 1 = .ok (.iconst 1, 1) := by decide +kernel
theorem dX4_candidates_2 : decode cX4_candidates 2 = .ok (.if_icmp .lt 9, 3) := by decide +kernel
theorem dX4_candidates_5 : decode cX4_candidates 5 = .ok (.iload_n 1, 1) := by decide +kernel
theorem dX4_candidates_6 : decode cX4_candidates 6 = .ok (.bipush 12, 2) := by decide +kernel
theorem dX4_candidates_8 : decode cX4_candidates 8 = .ok (.if_icmp .le 6, 3) := by decide +kernel
theorem dX4_candidates_11 : decode cX4_candidates 11 = .ok (.bipush (-2), 2) := by decide +kernel
theorem dX4_candidates_13 : decode cX4_candidates 13 = .ok (.ireturn, 1) := by decide +kernel
theorem dX4_candidates_14 : decode cX4_candidates 14 = .ok (.aload_n 0, 1) := by decide +kernel
theorem dX4_candidates_15 : decode cX4_candidates 15 = .ok (.getfield 12, 3) := by decide +kernel
theorem dX4_candidates_18 : decode cX4_candidates 18 = .ok (.getfield 34, 3) := by decide +kernel
theorem dX4_candidates_21 : decode cX4_candidates 21 = .ok (.istore_n 2, 1) := by decide +kernel
theorem dX4_candidates_22 : decode cX4_candidates 22 = .ok (.aload_n 0, 1) := by decide +kernel
theorem dX4_candidates_23 : decode cX4_candidates 23 = .ok (.getfield 12, 3) := by decide +kernel
theorem dX4_candidates_26 : decode cX4_candidates 26 = .ok (.iload_n 1, 1) := by decide +kernel
theorem dX4_candidates_27 : decode cX4_candidates 27 = .ok (.invokevirtual 38, 3) := by decide +kernel
theorem dX4_candidates_30 : decode cX4_candidates 30 = .ok (.iload_n 2, 1) := by decide +kernel
theorem dX4_candidates_31 : decode cX4_candidates 31 = .ok (.ireturn, 1) := by decide +kernel
set_option maxRecDepth 20000 in
theorem ggX4_withdraw_X0_hasCandidate : GoodIn wsX4_withdraw wsX0_hasCandidate := goodIn_r _ [7, 8, 13, 14, 15, 16, 17, 18, 19, 20] (by decide +kernel) (by decide +kernel)
set_option maxRecDepth 20000 in
theorem gX4_withdraw_X0_hasCandidate : GoodIn wsX4_withdraw (wsV RX4 42 RX0 yX0_hasCandidate wsX0_hasCandidate) := goodIn_app (goodIn_of _ (by decide +kernel)) ggX4_withdraw_X0_hasCandidate
theorem dX4_withdraw_0 : decode cX4_withdraw 0 = .ok (.aload_n 0, 1) := by decide +kernel
theorem dX4_withdraw_1 : decode cX4_withdraw 1 = .ok (.getfield 12, 3) := by decide +kernel
theorem dX4_withdraw_4 : decode cX4_withdraw 4 = .ok (.iload_n 1, 1) := by decide +kernel
theorem dX4_withdraw_5 : decode cX4_withdraw 5 = .ok (.invokevirtual 42, 3) := by decide +kernel
theorem dX4_withdraw_8 : decode cX4_withdraw 8 = .ok (.ifCond .ne 5, 3) := by decide +kernel
theorem dX4_withdraw_11 : decode cX4_withdraw 11 = .ok (.iconst (-1), 1) := by decide +kernel
theorem dX4_withdraw_12 : decode cX4_withdraw 12 = .ok (.ireturn, 1) := by decide +kernel
theorem dX4_withdraw_13 : decode cX4_withdraw 13 = .ok (.aload_n 0, 1) := by decide +kernel
theorem dX4_withdraw_14 : decode cX4_withdraw 14 = .ok (.getfield 12, 3) := by decide +kernel
theorem dX4_withdraw_17 : decode cX4_withdraw 17 = .ok (.getfield 46, 3) := by decide +kernel
theorem dX4_withdraw_20 : decode cX4_withdraw 20 = .ok (.iload_n 1, 1) := by decide +kernel
theorem dX4_withdraw_21 : decode cX4_withdraw 21 = .ok (.baload, 1) := by decide +kernel
theorem dX4_withdraw_22 : decode cX4_withdraw 22 = .ok (.iload_n 2, 1) := by decide +kernel
theorem dX4_withdraw_23 : decode cX4_withdraw 23 = .ok (.if_icmp .ne 5, 3) := by decide +kernel
theorem dX4_withdraw_26 : decode cX4_withdraw 26 = .ok (.iconst 0, 1) := by decide +kernel
theorem dX4_withdraw_27 : decode cX4_withdraw 27 = .ok (.ireturn, 1) := by decide +kernel
theorem dX4_withdraw_28 : decode cX4_withdraw 28 = .ok (.aload_n 0, 1) := by decide +kernel
theorem dX4_withdraw_29 : decode cX4_withdraw 29 = .ok (.getfield 12, 3) := by decide +kernel
theorem dX4_withdraw_32 : decode cX4_withdraw 32 = .ok (.getfield 46, 3) := by decide +kernel
theorem dX4_withdraw_35 : decode cX4_withdraw 35 = .ok (.iload_n 1, 1) := by decide +kernel
theorem dX4_withdraw_36 : decode cX4_withdraw 36 = .ok (.iload_n 2, 1) := by decide +kernel
theorem dX4_withdraw_37 : decode cX4_withdraw 37 = .ok (.bastore, 1) := by decide +kernel
theorem dX4_withdraw_38 : decode cX4_withdraw 38 = .ok (.iconst 1, 1) := by decide +kernel
theorem dX4_withdraw_39 : decode cX4_withdraw 39 = .ok (.ireturn, 1) := by decide +kernel
set_option maxRecDepth 20000 in
theorem ggX4_lot_X0_hasCandidate : GoodIn wsX4_lot wsX0_hasCandidate := goodIn_r _ [7, 8, 18, 19, 20, 21, 22, 23, 24, 25] (by decide +kernel) (by decide +kernel)
set_option maxRecDepth 20000 in
theorem gX4_lot_X0_hasCandidate : GoodIn wsX4_lot (wsV RX4 42 RX0 yX0_hasCandidate wsX0_hasCandidate) := goodIn_app (goodIn_of _ (by decide +kernel)) ggX4_lot_X0_hasCandidate
set_option maxRecDepth 20000 in
theorem ggX4_lot_X0_swapLots : GoodIn wsX4_lot wsX0_swapLots := goodIn_r _ [12, 13, 8, 18, 19, 20, 21, 22, 23, 24, 25] (by decide +kernel) (by decide +kernel)
set_option maxRecDepth 20000 in
theorem gX4_lot_X0_swapLots : GoodIn wsX4_lot (wsV RX4 50 RX0 yX0_swapLots wsX0_swapLots) := goodIn_app (goodIn_of _ (by decide +kernel)) ggX4_lot_X0_swapLots
theorem dX4_lot_0 : decode cX4_lot 0 = .ok (.aload_n 0, 1) := by decide +kernel
theorem dX4_lot_1 : decode cX4_lot 1 = .ok (.getfield 12, 3) := by decide +kernel
theorem dX4_lot_4 : decode cX4_lot 4 = .ok (.iload_n 1, 1) := by decide +kernel
theorem dX4_lot_5 : decode cX4_lot 5 = .ok (.invokevirtual 42, 3) := by decide +kernel
theorem dX4_lot_8 : decode cX4_lot 8 = .ok (.ifCond .ne 5, 3) := by decide +kernel
theorem dX4_lot_11 : decode cX4_lot 11 = .ok (.iconst (-1), 1) := by decide +kernel
theorem dX4_lot_12 : decode cX4_lot 12 = .ok (.ireturn, 1) := by decide +kernel
theorem dX4_lot_13 : decode cX4_lot 13 = .ok (.iload_n 2, 1) := by decide +kernel
theorem dX4_lot_14 : decode cX4_lot 14 = .ok (.ifCond .lt 14, 3) := by decide +kernel
theorem dX4_lot_17 : decode cX4_lot 17 = .ok (.iload_n 2, 1) := by decide +kernel
theorem dX4_lot_18 : decode cX4_lot 18 = .ok (.aload_n 0, 1) := by decide +kernel
theorem dX4_lot_19 : decode cX4_lot 19 = .ok (.getfield 12, 3) := by decide +kernel
theorem dX4_lot_22 : decode cX4_lot 22 = .ok (.getfield 34, 3) := by decide +kernel
theorem dX4_lot_25 : decode cX4_lot 25 = .ok (.if_icmp .lt 6, 3) := by decide +kernel
theorem dX4_lot_28 : decode cX4_lot 28 = .ok (.bipush (-2), 2) := by decide +kernel
theorem dX4_lot_30 : decode cX4_lot 30 = .ok (.ireturn, 1) := by decide +kernel
theorem dX4_lot_31 : decode cX4_lot 31 = .ok (.aload_n 0, 1) := by decide +kernel
theorem dX4_lot_32 : decode cX4_lot 32 = .ok (.getfield 12, 3) := by decide +kernel
theorem dX4_lot_35 : decode cX4_lot 35 = .ok (.iload_n 1, 1) := by decide +kernel
theorem dX4_lot_36 : decode cX4_lot 36 = .ok (.iload_n 2, 1) := by decide +kernel
theorem dX4_lot_37 : decode cX4_lot 37 = .ok (.invokevirtual 50, 3) := by decide +kernel
theorem dX4_lot_40 : decode cX4_lot 40 = .ok (.ireturn, 1) := by decide +kernel
set_option maxRecDepth 20000 in
theorem ggX4_pile_X0_preferencesTold : GoodIn wsX4_pile wsX0_preferencesTold := goodIn_r _ [7, 8, 9, 10, 6, 11, 12, 30, 31, 32, 33, 34, 35, 36, 37] (by decide +kernel) (by decide +kernel)
set_option maxRecDepth 20000 in
theorem gX4_pile_X0_preferencesTold : GoodIn wsX4_pile (wsV RX4 54 RX0 yX0_preferencesTold wsX0_preferencesTold) := goodIn_app (goodIn_of _ (by decide +kernel)) ggX4_pile_X0_preferencesTold
set_option maxRecDepth 20000 in
theorem ggX4_pile_X4_isPapers : GoodIn wsX4_pile wsX4_isPapers := goodIn_r _ [16] (by decide +kernel) (by decide +kernel)
set_option maxRecDepth 20000 in
theorem gX4_pile_X4_isPapers : GoodIn wsX4_pile (va_wsS RX4 58 yX4_isPapers wsX4_isPapers) := goodIn_app (goodIn_of _ (by decide +kernel)) ggX4_pile_X4_isPapers
set_option maxRecDepth 20000 in
theorem ggX4_pile_X0_addPile : GoodIn wsX4_pile wsX0_addPile := goodIn_r _ [20, 21, 22, 23, 24, 25, 9, 10, 6, 11, 12, 30, 31, 32, 33, 34, 35, 36, 37] (by decide +kernel) (by decide +kernel)
set_option maxRecDepth 20000 in
theorem gX4_pile_X0_addPile : GoodIn wsX4_pile (wsV RX4 64 RX0 yX0_addPile wsX0_addPile) := goodIn_app (goodIn_of _ (by decide +kernel)) ggX4_pile_X0_addPile
theorem dX4_pile_0 : decode cX4_pile 0 = .ok (.aload_n 0, 1) := by decide +kernel
theorem dX4_pile_1 : decode cX4_pile 1 = .ok (.getfield 12, 3) := by decide +kernel
theorem dX4_pile_4 : decode cX4_pile 4 = .ok (.lload_n 1, 1) := by decide +kernel
theorem dX4_pile_5 : decode cX4_pile 5 = .ok (.invokevirtual 54, 3) := by decide +kernel
theorem dX4_pile_8 : decode cX4_pile 8 = .ok (.istore 4, 2) := by decide +kernel
theorem dX4_pile_10 : decode cX4_pile 10 = .ok (.iload 4, 2) := by decide +kernel
theorem dX4_pile_12 : decode cX4_pile 12 = .ok (.ifCond .eq 10, 3) := by decide +kernel
theorem dX4_pile_15 : decode cX4_pile 15 = .ok (.iload_n 3, 1) := by decide +kernel
theorem dX4_pile_16 : decode cX4_pile 16 = .ok (.invokestatic 58, 3) := by decide +kernel
theorem dX4_pile_19 : decode cX4_pile 19 = .ok (.ifCond .ne 6, 3) := by decide +kernel
theorem dX4_pile_22 : decode cX4_pile 22 = .ok (.bipush (-2), 2) := by decide +kernel
theorem dX4_pile_24 : decode cX4_pile 24 = .ok (.ireturn, 1) := by decide +kernel
theorem dX4_pile_25 : decode cX4_pile 25 = .ok (.aload_n 0, 1) := by decide +kernel
theorem dX4_pile_26 : decode cX4_pile 26 = .ok (.getfield 12, 3) := by decide +kernel
theorem dX4_pile_29 : decode cX4_pile 29 = .ok (.getfield 61, 3) := by decide +kernel
theorem dX4_pile_32 : decode cX4_pile 32 = .ok (.bipush 80, 2) := by decide +kernel
theorem dX4_pile_34 : decode cX4_pile 34 = .ok (.if_icmp .lt 6, 3) := by decide +kernel
theorem dX4_pile_37 : decode cX4_pile 37 = .ok (.bipush (-4), 2) := by decide +kernel
theorem dX4_pile_39 : decode cX4_pile 39 = .ok (.ireturn, 1) := by decide +kernel
theorem dX4_pile_40 : decode cX4_pile 40 = .ok (.aload_n 0, 1) := by decide +kernel
theorem dX4_pile_41 : decode cX4_pile 41 = .ok (.getfield 12, 3) := by decide +kernel
theorem dX4_pile_44 : decode cX4_pile 44 = .ok (.lload_n 1, 1) := by decide +kernel
theorem dX4_pile_45 : decode cX4_pile 45 = .ok (.iload 4, 2) := by decide +kernel
theorem dX4_pile_47 : decode cX4_pile 47 = .ok (.iload_n 3, 1) := by decide +kernel
theorem dX4_pile_48 : decode cX4_pile 48 = .ok (.invokevirtual 64, 3) := by decide +kernel
theorem dX4_pile_51 : decode cX4_pile 51 = .ok (.ireturn, 1) := by decide +kernel
set_option maxRecDepth 20000 in
theorem ggX4_change_X0_hasPile : GoodIn wsX4_change wsX0_hasPile := goodIn_r _ [7, 8, 17, 18, 19, 20, 21, 22, 23, 24] (by decide +kernel) (by decide +kernel)
set_option maxRecDepth 20000 in
theorem gX4_change_X0_hasPile : GoodIn wsX4_change (wsV RX4 68 RX0 yX0_hasPile wsX0_hasPile) := goodIn_app (goodIn_of _ (by decide +kernel)) ggX4_change_X0_hasPile
set_option maxRecDepth 20000 in
theorem ggX4_change_X4_isPapers : GoodIn wsX4_change wsX4_isPapers := goodIn_r _ [12] (by decide +kernel) (by decide +kernel)
set_option maxRecDepth 20000 in
theorem gX4_change_X4_isPapers : GoodIn wsX4_change (va_wsS RX4 58 yX4_isPapers wsX4_isPapers) := goodIn_app (goodIn_of _ (by decide +kernel)) ggX4_change_X4_isPapers
theorem dX4_change_0 : decode cX4_change 0 = .ok (.aload_n 0, 1) := by decide +kernel
theorem dX4_change_1 : decode cX4_change 1 = .ok (.getfield 12, 3) := by decide +kernel
theorem dX4_change_4 : decode cX4_change 4 = .ok (.iload_n 1, 1) := by decide +kernel
theorem dX4_change_5 : decode cX4_change 5 = .ok (.invokevirtual 68, 3) := by decide +kernel
theorem dX4_change_8 : decode cX4_change 8 = .ok (.ifCond .ne 5, 3) := by decide +kernel
theorem dX4_change_11 : decode cX4_change 11 = .ok (.iconst (-1), 1) := by decide +kernel
theorem dX4_change_12 : decode cX4_change 12 = .ok (.ireturn, 1) := by decide +kernel
theorem dX4_change_13 : decode cX4_change 13 = .ok (.iload_n 2, 1) := by decide +kernel
theorem dX4_change_14 : decode cX4_change 14 = .ok (.invokestatic 58, 3) := by decide +kernel
theorem dX4_change_17 : decode cX4_change 17 = .ok (.ifCond .ne 6, 3) := by decide +kernel
theorem dX4_change_20 : decode cX4_change 20 = .ok (.bipush (-2), 2) := by decide +kernel
theorem dX4_change_22 : decode cX4_change 22 = .ok (.ireturn, 1) := by decide +kernel
theorem dX4_change_23 : decode cX4_change 23 = .ok (.aload_n 0, 1) := by decide +kernel
theorem dX4_change_24 : decode cX4_change 24 = .ok (.getfield 12, 3) := by decide +kernel
theorem dX4_change_27 : decode cX4_change 27 = .ok (.getfield 71, 3) := by decide +kernel
theorem dX4_change_30 : decode cX4_change 30 = .ok (.iload_n 1, 1) := by decide +kernel
theorem dX4_change_31 : decode cX4_change 31 = .ok (.iaload, 1) := by decide +kernel
theorem dX4_change_32 : decode cX4_change 32 = .ok (.istore_n 3, 1) := by decide +kernel
theorem dX4_change_33 : decode cX4_change 33 = .ok (.aload_n 0, 1) := by decide +kernel
theorem dX4_change_34 : decode cX4_change 34 = .ok (.getfield 12, 3) := by decide +kernel
theorem dX4_change_37 : decode cX4_change 37 = .ok (.getfield 71, 3) := by decide +kernel
theorem dX4_change_40 : decode cX4_change 40 = .ok (.iload_n 1, 1) := by decide +kernel
theorem dX4_change_41 : decode cX4_change 41 = .ok (.iload_n 2, 1) := by decide +kernel
theorem dX4_change_42 : decode cX4_change 42 = .ok (.iastore, 1) := by decide +kernel
theorem dX4_change_43 : decode cX4_change 43 = .ok (.iload_n 3, 1) := by decide +kernel
theorem dX4_change_44 : decode cX4_change 44 = .ok (.ireturn, 1) := by decide +kernel
set_option maxRecDepth 20000 in
theorem ggX4_about_X0_hasPile : GoodIn wsX4_about wsX0_hasPile := goodIn_r _ [8, 9, 25, 26, 27, 28, 29, 30, 31, 32] (by decide +kernel) (by decide +kernel)
set_option maxRecDepth 20000 in
theorem gX4_about_X0_hasPile : GoodIn wsX4_about (wsV RX4 68 RX0 yX0_hasPile wsX0_hasPile) := goodIn_app (goodIn_of _ (by decide +kernel)) ggX4_about_X0_hasPile
set_option maxRecDepth 20000 in
theorem ggX4_about_X0_preferenceAt : GoodIn wsX4_about wsX0_preferenceAt := goodIn_r _ [13, 14, 15, 25, 26, 27, 28, 29, 30, 31, 32] (by decide +kernel) (by decide +kernel)
set_option maxRecDepth 20000 in
theorem gX4_about_X0_preferenceAt : GoodIn wsX4_about (wsV RX4 75 RX0 yX0_preferenceAt wsX0_preferenceAt) := goodIn_app (goodIn_of _ (by decide +kernel)) ggX4_about_X0_preferenceAt
set_option maxRecDepth 20000 in
theorem ggX4_about_X0_isValid : GoodIn wsX4_about wsX0_isValid := goodIn_r _ [19, 14, 20, 15, 25, 26, 27, 28, 29, 30, 31, 32] (by decide +kernel) (by decide +kernel)
set_option maxRecDepth 20000 in
theorem gX4_about_X0_isValid : GoodIn wsX4_about (wsV RX4 81 RX0 yX0_isValid wsX0_isValid) := goodIn_app (goodIn_of _ (by decide +kernel)) ggX4_about_X0_isValid
theorem dX4_about_0 : decode cX4_about 0 = .ok (.aload_n 0, 1) := by decide +kernel
theorem dX4_about_1 : decode cX4_about 1 = .ok (.getfield 12, 3) := by decide +kernel
theorem dX4_about_4 : decode cX4_about 4 = .ok (.iload_n 1, 1) := by decide +kernel
theorem dX4_about_5 : decode cX4_about 5 = .ok (.invokevirtual 68, 3) := by decide +kernel
theorem dX4_about_8 : decode cX4_about 8 = .ok (.ifCond .ne 5, 3) := by decide +kernel
theorem dX4_about_11 : decode cX4_about 11 = .ok (.iconst (-1), 1) := by decide +kernel
theorem dX4_about_12 : decode cX4_about 12 = .ok (.ireturn, 1) := by decide +kernel
theorem dX4_about_13 : decode cX4_about 13 = .ok (.iload_n 2, 1) := by decide +kernel
theorem dX4_about_14 : decode cX4_about 14 = .ok (.bipush 10, 2) := by decide +kernel
theorem dX4_about_16 : decode cX4_about 16 = .ok (.if_icmp .lt 22, 3) := by decide +kernel
theorem dX4_about_19 : decode cX4_about 19 = .ok (.iload_n 2, 1) := by decide +kernel
theorem dX4_about_20 : decode cX4_about 20 = .ok (.bipush 22, 2) := by decide +kernel
theorem dX4_about_22 : decode cX4_about 22 = .ok (.if_icmp .ge 16, 3) := by decide +kernel
theorem dX4_about_25 : decode cX4_about 25 = .ok (.aload_n 0, 1) := by decide +kernel
theorem dX4_about_26 : decode cX4_about 26 = .ok (.getfield 12, 3) := by decide +kernel
theorem dX4_about_29 : decode cX4_about 29 = .ok (.iload_n 1, 1) := by decide +kernel
theorem dX4_about_30 : decode cX4_about 30 = .ok (.iload_n 2, 1) := by decide +kernel
theorem dX4_about_31 : decode cX4_about 31 = .ok (.bipush 10, 2) := by decide +kernel
theorem dX4_about_33 : decode cX4_about 33 = .ok (.isub, 1) := by decide +kernel
theorem dX4_about_34 : decode cX4_about 34 = .ok (.invokevirtual 75, 3) := by decide +kernel
theorem dX4_about_37 : decode cX4_about 37 = .ok (.ireturn, 1) := by decide +kernel
theorem dX4_about_38 : decode cX4_about 38 = .ok (.iload_n 2, 1) := by decide +kernel
theorem dX4_about_39 : decode cX4_about 39 = .ok (.tableswitch 62 0 2 #[25, 35, 45], 25) := by decide +kernel
theorem dX4_about_64 : decode cX4_about 64 = .ok (.aload_n 0, 1) := by decide +kernel
theorem dX4_about_65 : decode cX4_about 65 = .ok (.getfield 12, 3) := by decide +kernel
theorem dX4_about_68 : decode cX4_about 68 = .ok (.getfield 71, 3) := by decide +kernel
theorem dX4_about_71 : decode cX4_about 71 = .ok (.iload_n 1, 1) := by decide +kernel
theorem dX4_about_72 : decode cX4_about 72 = .ok (.iaload, 1) := by decide +kernel
theorem dX4_about_73 : decode cX4_about 73 = .ok (.ireturn, 1) := by decide +kernel
theorem dX4_about_74 : decode cX4_about 74 = .ok (.aload_n 0, 1) := by decide +kernel
theorem dX4_about_75 : decode cX4_about 75 = .ok (.getfield 12, 3) := by decide +kernel
theorem dX4_about_78 : decode cX4_about 78 = .ok (.getfield 78, 3) := by decide +kernel
theorem dX4_about_81 : decode cX4_about 81 = .ok (.iload_n 1, 1) := by decide +kernel
theorem dX4_about_82 : decode cX4_about 82 = .ok (.iaload, 1) := by decide +kernel
theorem dX4_about_83 : decode cX4_about 83 = .ok (.ireturn, 1) := by decide +kernel
theorem dX4_about_84 : decode cX4_about 84 = .ok (.aload_n 0, 1) := by decide +kernel
theorem dX4_about_85 : decode cX4_about 85 = .ok (.getfield 12, 3) := by decide +kernel
theorem dX4_about_88 : decode cX4_about 88 = .ok (.iload_n 1, 1) := by decide +kernel
theorem dX4_about_89 : decode cX4_about 89 = .ok (.invokevirtual 81, 3) := by decide +kernel
theorem dX4_about_92 : decode cX4_about 92 = .ok (.ifCond .eq 7, 3) := by decide +kernel
theorem dX4_about_95 : decode cX4_about 95 = .ok (.iconst 1, 1) := by decide +kernel
theorem dX4_about_96 : decode cX4_about 96 = .ok (.goto 4, 3) := by decide +kernel
theorem dX4_about_99 : decode cX4_about 99 = .ok (.iconst 0, 1) := by decide +kernel
theorem dX4_about_100 : decode cX4_about 100 = .ok (.ireturn, 1) := by decide +kernel
theorem dX4_about_101 : decode cX4_about 101 = .ok (.bipush (-2), 2) := by decide +kernel
theorem dX4_about_103 : decode cX4_about 103 = .ok (.ireturn, 1) := by decide +kernel
set_option maxRecDepth 20000 in
theorem ggX4_count_X0_withdrawnOnes : GoodIn wsX4_count wsX0_withdrawnOnes := goodIn_r _ [16, 17, 18, 245, 246, 247, 248, 249, 250, 251, 252] (by decide +kernel) (by decide +kernel)
set_option maxRecDepth 20000 in
theorem gX4_count_X0_withdrawnOnes : GoodIn wsX4_count (wsV RX4 84 RX0 yX0_withdrawnOnes wsX0_withdrawnOnes) := goodIn_app (goodIn_of _ (by decide +kernel)) ggX4_count_X0_withdrawnOnes
set_option maxRecDepth 20000 in
theorem ggX4_count_X1_begin : GoodIn wsX4_count wsX1_begin := goodIn_r _ [23, 24, 25, 26, 27, 28, 29, 30, 31, 32, 33, 34, 35, 36, 37, 38, 39, 40, 41, 42, 253, 254, 255, 256, 257, 258, 259, 260, 261, 262, 263, 264, 265, 266, 267, 268, 269, 270, 245, 246, 247, 248, 249, 250, 251, 252] (by decide +kernel) (by decide +kernel)
set_option maxRecDepth 20000 in
theorem gX4_count_X1_begin : GoodIn wsX4_count (wsV RX4 88 RX1 yX1_begin wsX1_begin) := goodIn_app (goodIn_of _ (by decide +kernel)) ggX4_count_X1_begin
set_option maxRecDepth 20000 in
theorem ggX4_count_X2_run : GoodIn wsX4_count wsX2_run := goodIn_r _ [46, 47, 48, 49, 50, 51, 52, 53, 54, 45, 55, 56, 57, 58, 59, 60, 61, 62, 63, 64, 65, 15, 66, 67, 18, 68, 69, 70, 71, 72, 73, 74, 75, 76, 77, 78, 22, 79, 29, 80, 81, 82, 83, 28, 25, 84, 85, 86, 87, 88, 89, 90, 91, 92, 93, 94, 27, 40, 30, 95, 96, 97, 98, 99, 39, 100, 101, 102, 103, 24, 37, 104, 105, 106, 107, 108, 109, 110, 111, 112, 113, 114, 115, 116, 117, 118, 119, 120, 121, 122, 123, 124, 125, 126, 127, 128, 129, 130, 131, 132, 133, 134, 135, 136, 137, 138, 34, 35, 31, 32, 33, 139, 8, 9, 10, 41, 140, 141, 142, 143, 144, 145, 146, 147, 148, 149, 253, 254, 255, 256, 257, 258, 259, 260, 261, 262, 263, 264, 265, 266, 267, 268, 269, 270, 245, 246, 247, 248, 249, 250, 251, 252] (by decide +kernel) (by decide +kernel)
set_option maxRecDepth 20000 in
theorem gX4_count_X2_run : GoodIn wsX4_count (va_wsS RX4 92 yX2_run wsX2_run) := goodIn_app (goodIn_of _ (by decide +kernel)) ggX4_count_X2_run
set_option maxRecDepth 20000 in
theorem ggX4_count_X3_run : GoodIn wsX4_count wsX3_run := goodIn_r _ [154, 155, 156, 157, 158, 159, 160, 161, 162, 163, 15, 164, 165, 166, 167, 64, 65, 66, 67, 18, 68, 168, 169, 170, 153, 171, 172, 173, 174, 175, 176, 177, 178, 179, 180, 181, 182, 183, 184, 185, 186, 187, 188, 189, 190, 112, 113, 22, 114, 40, 30, 191, 77, 78, 79, 29, 192, 81, 82, 83, 28, 25, 84, 85, 86, 87, 88, 89, 90, 91, 92, 93, 94, 27, 95, 96, 97, 98, 99, 39, 100, 101, 102, 103, 24, 37, 104, 105, 106, 107, 108, 109, 110, 111, 193, 194, 195, 196, 197, 132, 133, 134, 198, 136, 137, 138, 34, 35, 31, 32, 33, 139, 8, 9, 10, 41, 199, 200, 201, 202, 203, 204, 205, 206, 207, 208, 209, 210, 211, 212, 213, 214, 215, 216, 217, 218, 219, 220, 221, 222, 223, 224, 225, 226, 227, 120, 228, 229, 230, 231, 232, 233, 234, 235, 236, 237, 238, 239, 240, 245, 246, 247, 248, 249, 250, 251, 252, 271, 272, 273, 274, 275, 253, 254, 255, 256, 257, 258, 259, 260, 261, 262, 263, 264, 265, 266, 267, 268, 269, 270] (by decide +kernel) (by decide +kernel)
set_option maxRecDepth 20000 in
theorem gX4_count_X3_run : GoodIn wsX4_count (wsV RX4 98 RX3 yX3_run wsX3_run) := goodIn_app (goodIn_of _ (by decide +kernel)) ggX4_count_X3_run
theorem dX4_count_0 : decode cX4_count 0 = .ok (.iload_n 1, 1) := by decide +kernel
theorem dX4_count_1 : decode cX4_count 1 = .ok (.ifCond .lt 19, 3) := by decide +kernel
theorem dX4_count_4 : decode cX4_count 4 = .ok (.iload_n 1, 1) := by decide +kernel
theorem dX4_count_5 : decode cX4_count 5 = .ok (.iconst 3, 1) := by decide +kernel
theorem dX4_count_6 : decode cX4_count 6 = .ok (.if_icmp .gt 14, 3) := by decide +kernel
theorem dX4_count_9 : decode cX4_count 9 = .ok (.iload_n 2, 1) := by decide +kernel
theorem dX4_count_10 : decode cX4_count 10 = .ok (.iconst 1, 1) := by decide +kernel
theorem dX4_count_11 : decode cX4_count 11 = .ok (.if_icmp .lt 9, 3) := by decide +kernel
theorem dX4_count_14 : decode cX4_count 14 = .ok (.iload_n 2, 1) := by decide +kernel
theorem dX4_count_15 : decode cX4_count 15 = .ok (.bipush 12, 2) := by decide +kernel
theorem dX4_count_17 : decode cX4_count 17 = .ok (.if_icmp .le 6, 3) := by decide +kernel
theorem dX4_count_20 : decode cX4_count 20 = .ok (.bipush (-2), 2) := by decide +kernel
theorem dX4_count_22 : decode cX4_count 22 = .ok (.ireturn, 1) := by decide +kernel
theorem dX4_count_23 : decode cX4_count 23 = .ok (.aload_n 0, 1) := by decide +kernel
theorem dX4_count_24 : decode cX4_count 24 = .ok (.getfield 12, 3) := by decide +kernel
theorem dX4_count_27 : decode cX4_count 27 = .ok (.invokevirtual 84, 3) := by decide +kernel
theorem dX4_count_30 : decode cX4_count 30 = .ok (.aload_n 0, 1) := by decide +kernel
theorem dX4_count_31 : decode cX4_count 31 = .ok (.getfield 12, 3) := by decide +kernel
theorem dX4_count_34 : decode cX4_count 34 = .ok (.getfield 34, 3) := by decide +kernel
theorem dX4_count_37 : decode cX4_count 37 = .ok (.if_icmp .ne 6, 3) := by decide +kernel
theorem dX4_count_40 : decode cX4_count 40 = .ok (.bipush (-3), 2) := by decide +kernel
theorem dX4_count_42 : decode cX4_count 42 = .ok (.ireturn, 1) := by decide +kernel
theorem dX4_count_43 : decode cX4_count 43 = .ok (.aload_n 0, 1) := by decide +kernel
theorem dX4_count_44 : decode cX4_count 44 = .ok (.getfield 19, 3) := by decide +kernel
theorem dX4_count_47 : decode cX4_count 47 = .ok (.aload_n 0, 1) := by decide +kernel
theorem dX4_count_48 : decode cX4_count 48 = .ok (.getfield 12, 3) := by decide +kernel
theorem dX4_count_51 : decode cX4_count 51 = .ok (.iload_n 1, 1) := by decide +kernel
theorem dX4_count_52 : decode cX4_count 52 = .ok (.iload_n 2, 1) := by decide +kernel
theorem dX4_count_53 : decode cX4_count 53 = .ok (.invokevirtual 88, 3) := by decide +kernel
theorem dX4_count_56 : decode cX4_count 56 = .ok (.iload_n 1, 1) := by decide +kernel
theorem dX4_count_57 : decode cX4_count 57 = .ok (.iconst 3, 1) := by decide +kernel
theorem dX4_count_58 : decode cX4_count 58 = .ok (.if_icmp .ne 17, 3) := by decide +kernel
theorem dX4_count_61 : decode cX4_count 61 = .ok (.aload_n 0, 1) := by decide +kernel
theorem dX4_count_62 : decode cX4_count 62 = .ok (.getfield 12, 3) := by decide +kernel
theorem dX4_count_65 : decode cX4_count 65 = .ok (.aload_n 0, 1) := by decide +kernel
theorem dX4_count_66 : decode cX4_count 66 = .ok (.getfield 19, 3) := by decide +kernel
theorem dX4_count_69 : decode cX4_count 69 = .ok (.invokestatic 92, 3) := by decide +kernel
theorem dX4_count_72 : decode cX4_count 72 = .ok (.goto 18, 3) := by decide +kernel
theorem dX4_count_75 : decode cX4_count 75 = .ok (.aload_n 0, 1) := by decide +kernel
theorem dX4_count_76 : decode cX4_count 76 = .ok (.getfield 26, 3) := by decide +kernel
theorem dX4_count_79 : decode cX4_count 79 = .ok (.aload_n 0, 1) := by decide +kernel
theorem dX4_count_80 : decode cX4_count 80 = .ok (.getfield 12, 3) := by decide +kernel
theorem dX4_count_83 : decode cX4_count 83 = .ok (.aload_n 0, 1) := by decide +kernel
theorem dX4_count_84 : decode cX4_count 84 = .ok (.getfield 19, 3) := by decide +kernel
theorem dX4_count_87 : decode cX4_count 87 = .ok (.invokevirtual 98, 3) := by decide +kernel
theorem dX4_count_90 : decode cX4_count 90 = .ok (.aload_n 0, 1) := by decide +kernel
theorem dX4_count_91 : decode cX4_count 91 = .ok (.getfield 19, 3) := by decide +kernel
theorem dX4_count_94 : decode cX4_count 94 = .ok (.getfield 99, 3) := by decide +kernel
theorem dX4_count_97 : decode cX4_count 97 = .ok (.iconst 0, 1) := by decide +kernel
theorem dX4_count_98 : decode cX4_count 98 = .ok (.aload_n 0, 1) := by decide +kernel
theorem dX4_count_99 : decode cX4_count 99 = .ok (.getfield 30, 3) := by decide +kernel
theorem dX4_count_102 : decode cX4_count 102 = .ok (.iconst 0, 1) := by decide +kernel
theorem dX4_count_103 : decode cX4_count 103 = .ok (.aload_n 0, 1) := by decide +kernel
theorem dX4_count_104 : decode cX4_count 104 = .ok (.getfield 30, 3) := by decide +kernel
theorem dX4_count_107 : decode cX4_count 107 = .ok (.arraylength, 1) := by decide +kernel
theorem dX4_count_108 : decode cX4_count 108 = .ok (.invokestatic 102, 3) := by decide +kernel
theorem dX4_count_111 : decode cX4_count 111 = .ok (.aload_n 0, 1) := by decide +kernel
theorem dX4_count_112 : decode cX4_count 112 = .ok (.getfield 19, 3) := by decide +kernel
theorem dX4_count_115 : decode cX4_count 115 = .ok (.getfield 108, 3) := by decide +kernel
theorem dX4_count_118 : decode cX4_count 118 = .ok (.ireturn, 1) := by decide +kernel
set_option maxRecDepth 20000 in
theorem ggX4_stage_X1_hasStage : GoodIn wsX4_stage wsX1_hasStage := goodIn_r _ [15, 16, 21, 22, 23, 24, 25, 26, 27, 28, 29, 30, 31, 32, 33, 34, 35, 36, 37, 38] (by decide +kernel) (by decide +kernel)
set_option maxRecDepth 20000 in
theorem gX4_stage_X1_hasStage : GoodIn wsX4_stage (wsV RX4 111 RX1 yX1_hasStage wsX1_hasStage) := goodIn_app (goodIn_of _ (by decide +kernel)) ggX4_stage_X1_hasStage
theorem dX4_stage_0 : decode cX4_stage 0 = .ok (.aload_n 0, 1) := by decide +kernel
theorem dX4_stage_1 : decode cX4_stage 1 = .ok (.getfield 19, 3) := by decide +kernel
theorem dX4_stage_4 : decode cX4_stage 4 = .ok (.iload_n 1, 1) := by decide +kernel
theorem dX4_stage_5 : decode cX4_stage 5 = .ok (.invokevirtual 111, 3) := by decide +kernel
theorem dX4_stage_8 : decode cX4_stage 8 = .ok (.ifCond .ne 7, 3) := by decide +kernel
theorem dX4_stage_11 : decode cX4_stage 11 = .ok (.ldc2_w 114, 3) := by decide +kernel
theorem dX4_stage_14 : decode cX4_stage 14 = .ok (.lreturn, 1) := by decide +kernel
theorem dX4_stage_15 : decode cX4_stage 15 = .ok (.iload_n 2, 1) := by decide +kernel
theorem dX4_stage_16 : decode cX4_stage 16 = .ok (.tableswitch 117 0 6 #[44, 55, 66, 76, 86, 97, 107], 44) := by decide +kernel
theorem dX4_stage_60 : decode cX4_stage 60 = .ok (.aload_n 0, 1) := by decide +kernel
theorem dX4_stage_61 : decode cX4_stage 61 = .ok (.getfield 19, 3) := by decide +kernel
theorem dX4_stage_64 : decode cX4_stage 64 = .ok (.getfield 116, 3) := by decide +kernel
theorem dX4_stage_67 : decode cX4_stage 67 = .ok (.iload_n 1, 1) := by decide +kernel
theorem dX4_stage_68 : decode cX4_stage 68 = .ok (.iaload, 1) := by decide +kernel
theorem dX4_stage_69 : decode cX4_stage 69 = .ok (.i2l, 1) := by decide +kernel
theorem dX4_stage_70 : decode cX4_stage 70 = .ok (.lreturn, 1) := by decide +kernel
theorem dX4_stage_71 : decode cX4_stage 71 = .ok (.aload_n 0, 1) := by decide +kernel
theorem dX4_stage_72 : decode cX4_stage 72 = .ok (.getfield 19, 3) := by decide +kernel
theorem dX4_stage_75 : decode cX4_stage 75 = .ok (.getfield 119, 3) := by decide +kernel
theorem dX4_stage_78 : decode cX4_stage 78 = .ok (.iload_n 1, 1) := by decide +kernel
theorem dX4_stage_79 : decode cX4_stage 79 = .ok (.iaload, 1) := by decide +kernel
theorem dX4_stage_80 : decode cX4_stage 80 = .ok (.i2l, 1) := by decide +kernel
theorem dX4_stage_81 : decode cX4_stage 81 = .ok (.lreturn, 1) := by decide +kernel
theorem dX4_stage_82 : decode cX4_stage 82 = .ok (.aload_n 0, 1) := by decide +kernel
theorem dX4_stage_83 : decode cX4_stage 83 = .ok (.getfield 19, 3) := by decide +kernel
theorem dX4_stage_86 : decode cX4_stage 86 = .ok (.getfield 122, 3) := by decide +kernel
theorem dX4_stage_89 : decode cX4_stage 89 = .ok (.iload_n 1, 1) := by decide +kernel
theorem dX4_stage_90 : decode cX4_stage 90 = .ok (.laload, 1) := by decide +kernel
theorem dX4_stage_91 : decode cX4_stage 91 = .ok (.lreturn, 1) := by decide +kernel
theorem dX4_stage_92 : decode cX4_stage 92 = .ok (.aload_n 0, 1) := by decide +kernel
theorem dX4_stage_93 : decode cX4_stage 93 = .ok (.getfield 19, 3) := by decide +kernel
theorem dX4_stage_96 : decode cX4_stage 96 = .ok (.getfield 125, 3) := by decide +kernel
theorem dX4_stage_99 : decode cX4_stage 99 = .ok (.iload_n 1, 1) := by decide +kernel
theorem dX4_stage_100 : decode cX4_stage 100 = .ok (.laload, 1) := by decide +kernel
theorem dX4_stage_101 : decode cX4_stage 101 = .ok (.lreturn, 1) := by decide +kernel
theorem dX4_stage_102 : decode cX4_stage 102 = .ok (.aload_n 0, 1) := by decide +kernel
theorem dX4_stage_103 : decode cX4_stage 103 = .ok (.getfield 19, 3) := by decide +kernel
theorem dX4_stage_106 : decode cX4_stage 106 = .ok (.getfield 128, 3) := by decide +kernel
theorem dX4_stage_109 : decode cX4_stage 109 = .ok (.iload_n 1, 1) := by decide +kernel
theorem dX4_stage_110 : decode cX4_stage 110 = .ok (.iaload, 1) := by decide +kernel
theorem dX4_stage_111 : decode cX4_stage 111 = .ok (.i2l, 1) := by decide +kernel
theorem dX4_stage_112 : decode cX4_stage 112 = .ok (.lreturn, 1) := by decide +kernel
theorem dX4_stage_113 : decode cX4_stage 113 = .ok (.aload_n 0, 1) := by decide +kernel
theorem dX4_stage_114 : decode cX4_stage 114 = .ok (.getfield 19, 3) := by decide +kernel
theorem dX4_stage_117 : decode cX4_stage 117 = .ok (.getfield 131, 3) := by decide +kernel
theorem dX4_stage_120 : decode cX4_stage 120 = .ok (.iload_n 1, 1) := by decide +kernel
theorem dX4_stage_121 : decode cX4_stage 121 = .ok (.laload, 1) := by decide +kernel
theorem dX4_stage_122 : decode cX4_stage 122 = .ok (.lreturn, 1) := by decide +kernel
theorem dX4_stage_123 : decode cX4_stage 123 = .ok (.aload_n 0, 1) := by decide +kernel
theorem dX4_stage_124 : decode cX4_stage 124 = .ok (.getfield 19, 3) := by decide +kernel
theorem dX4_stage_127 : decode cX4_stage 127 = .ok (.getfield 134, 3) := by decide +kernel
theorem dX4_stage_130 : decode cX4_stage 130 = .ok (.iload_n 1, 1) := by decide +kernel
theorem dX4_stage_131 : decode cX4_stage 131 = .ok (.laload, 1) := by decide +kernel
theorem dX4_stage_132 : decode cX4_stage 132 = .ok (.lreturn, 1) := by decide +kernel
theorem dX4_stage_133 : decode cX4_stage 133 = .ok (.ldc2_w 137, 3) := by decide +kernel
theorem dX4_stage_136 : decode cX4_stage 136 = .ok (.lreturn, 1) := by decide +kernel
set_option maxRecDepth 20000 in
theorem ggX4_votes_X1_hasCell : GoodIn wsX4_votes wsX1_hasCell := goodIn_r _ [8, 9, 10, 11, 12, 7, 13, 14, 23, 24, 25, 26, 27, 28, 29, 30, 31, 32, 33, 34, 35, 36, 37, 38, 39, 40] (by decide +kernel) (by decide +kernel)
set_option maxRecDepth 20000 in
theorem gX4_votes_X1_hasCell : GoodIn wsX4_votes (wsV RX4 139 RX1 yX1_hasCell wsX1_hasCell) := goodIn_app (goodIn_of _ (by decide +kernel)) ggX4_votes_X1_hasCell
set_option maxRecDepth 20000 in
theorem ggX4_votes_X4_cell : GoodIn wsX4_votes wsX4_cell := goodIn_r _ [18] (by decide +kernel) (by decide +kernel)
set_option maxRecDepth 20000 in
theorem gX4_votes_X4_cell : GoodIn wsX4_votes (va_wsS RX4 143 yX4_cell wsX4_cell) := goodIn_app (goodIn_of _ (by decide +kernel)) ggX4_votes_X4_cell
theorem dX4_votes_0 : decode cX4_votes 0 = .ok (.aload_n 0, 1) := by decide +kernel
theorem dX4_votes_1 : decode cX4_votes 1 = .ok (.getfield 19, 3) := by decide +kernel
theorem dX4_votes_4 : decode cX4_votes 4 = .ok (.iload_n 1, 1) := by decide +kernel
theorem dX4_votes_5 : decode cX4_votes 5 = .ok (.iload_n 2, 1) := by decide +kernel
theorem dX4_votes_6 : decode cX4_votes 6 = .ok (.invokevirtual 139, 3) := by decide +kernel
theorem dX4_votes_9 : decode cX4_votes 9 = .ok (.ifCond .eq 19, 3) := by decide +kernel
theorem dX4_votes_12 : decode cX4_votes 12 = .ok (.aload_n 0, 1) := by decide +kernel
theorem dX4_votes_13 : decode cX4_votes 13 = .ok (.getfield 19, 3) := by decide +kernel
theorem dX4_votes_16 : decode cX4_votes 16 = .ok (.getfield 99, 3) := by decide +kernel
theorem dX4_votes_19 : decode cX4_votes 19 = .ok (.iload_n 1, 1) := by decide +kernel
theorem dX4_votes_20 : decode cX4_votes 20 = .ok (.iload_n 2, 1) := by decide +kernel
theorem dX4_votes_21 : decode cX4_votes 21 = .ok (.invokestatic 143, 3) := by decide +kernel
theorem dX4_votes_24 : decode cX4_votes 24 = .ok (.laload, 1) := by decide +kernel
theorem dX4_votes_25 : decode cX4_votes 25 = .ok (.goto 6, 3) := by decide +kernel
theorem dX4_votes_28 : decode cX4_votes 28 = .ok (.ldc2_w 114, 3) := by decide +kernel
theorem dX4_votes_31 : decode cX4_votes 31 = .ok (.lreturn, 1) := by decide +kernel
set_option maxRecDepth 20000 in
theorem ggX4_status_X1_hasCell : GoodIn wsX4_status wsX1_hasCell := goodIn_r _ [7, 8, 9, 10, 11, 6, 12, 13, 22, 23, 24, 25, 26, 27, 28, 29, 30, 31, 32, 33, 34, 35, 36, 37, 38, 39] (by decide +kernel) (by decide +kernel)
set_option maxRecDepth 20000 in
theorem gX4_status_X1_hasCell : GoodIn wsX4_status (wsV RX4 139 RX1 yX1_hasCell wsX1_hasCell) := goodIn_app (goodIn_of _ (by decide +kernel)) ggX4_status_X1_hasCell
set_option maxRecDepth 20000 in
theorem ggX4_status_X4_cell : GoodIn wsX4_status wsX4_cell := goodIn_r _ [17] (by decide +kernel) (by decide +kernel)
set_option maxRecDepth 20000 in
theorem gX4_status_X4_cell : GoodIn wsX4_status (va_wsS RX4 143 yX4_cell wsX4_cell) := goodIn_app (goodIn_of _ (by decide +kernel)) ggX4_status_X4_cell
