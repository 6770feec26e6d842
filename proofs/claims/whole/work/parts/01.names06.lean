theorem dX5_validPapers_2 : decode cX5_validPapers 2 = .ok (.iconst 0, 1) := by decide +kernel
theorem dX5_validPapers_3 : decode cX5_validPapers 3 = .ok (.istore_n 2, 1) := by decide +kernel
theorem dX5_validPapers_4 : decode cX5_validPapers 4 = .ok (.iload_n 2, 1) := by decide +kernel
theorem dX5_validPapers_5 : decode cX5_validPapers 5 = .ok (.aload_n 0, 1) := by decide +kernel
theorem dX5_validPapers_6 : decode cX5_validPapers 6 = .ok (.getfield 104, 3) := by decide +kernel
theorem dX5_validPapers_9 : decode cX5_validPapers 9 = .ok (.if_icmp .ge 30, 3) := by decide +kernel
theorem dX5_validPapers_12 : decode cX5_validPapers 12 = .ok (.iload_n 1, 1) := by decide +kernel
theorem dX5_validPapers_13 : decode cX5_validPapers 13 = .ok (.aload_n 0, 1) := by decide +kernel
theorem dX5_validPapers_14 : decode cX5_validPapers 14 = .ok (.iload_n 2, 1) := by decide +kernel
theorem dX5_validPapers_15 : decode cX5_validPapers 15 = .ok (.invokevirtual 121, 3) := by decide +kernel
theorem dX5_validPapers_18 : decode cX5_validPapers 18 = .ok (.ifCond .eq 12, 3) := by decide +kernel
theorem dX5_validPapers_21 : decode cX5_validPapers 21 = .ok (.aload_n 0, 1) := by decide +kernel
theorem dX5_validPapers_22 : decode cX5_validPapers 22 = .ok (.getfield 17, 3) := by decide +kernel
theorem dX5_validPapers_25 : decode cX5_validPapers 25 = .ok (.iload_n 2, 1) := by decide +kernel
theorem dX5_validPapers_26 : decode cX5_validPapers 26 = .ok (.iaload, 1) := by decide +kernel
theorem dX5_validPapers_27 : decode cX5_validPapers 27 = .ok (.goto 4, 3) := by decide +kernel
theorem dX5_validPapers_30 : decode cX5_validPapers 30 = .ok (.iconst 0, 1) := by decide +kernel
theorem dX5_validPapers_31 : decode cX5_validPapers 31 = .ok (.iadd, 1) := by decide +kernel
theorem dX5_validPapers_32 : decode cX5_validPapers 32 = .ok (.istore_n 1, 1) := by decide +kernel
theorem dX5_validPapers_33 : decode cX5_validPapers 33 = .ok (.iinc 2 1, 3) := by decide +kernel
theorem dX5_validPapers_36 : decode cX5_validPapers 36 = .ok (.goto (-32), 3) := by decide +kernel
theorem dX5_validPapers_39 : decode cX5_validPapers 39 = .ok (.iload_n 1, 1) := by decide +kernel
theorem dX5_validPapers_40 : decode cX5_validPapers 40 = .ok (.ireturn, 1) := by decide +kernel
set_option maxRecDepth 20000 in
theorem ggX5_countByPiles_X5_validPapers : GoodIn wsX5_countByPiles wsX5_validPapers := goodIn_r _ [11, 4, 12, 13, 14, 15, 10, 16, 17, 18, 19, 95, 96, 97, 98, 99, 100, 101, 102, 103, 104, 105, 106, 107, 108, 109, 110, 111, 112, 113, 114, 115, 116, 117, 118, 119, 120, 121, 122, 123, 124, 125, 126, 127, 128, 129, 130, 131, 132] (by decide +kernel) (by decide +kernel)
set_option maxRecDepth 20000 in
theorem gX5_countByPiles_X5_validPapers : GoodIn wsX5_countByPiles (wsV RX5 173 RX5 yX5_validPapers wsX5_validPapers) := goodIn_app (goodIn_of _ (by decide +kernel)) ggX5_countByPiles_X5_validPapers
set_option maxRecDepth 20000 in
theorem ggX5_countByPiles_X5_isValid : GoodIn wsX5_countByPiles wsX5_isValid := goodIn_r _ [16, 17, 18, 19, 95, 96, 97, 98, 99, 100, 101, 102, 103, 104, 105, 106, 107, 108, 109, 110, 111, 112, 113, 114, 115, 116, 117, 118, 119, 120, 121, 122, 123, 124, 125, 126, 127, 128, 129, 130, 131, 132] (by decide +kernel) (by decide +kernel)
set_option maxRecDepth 20000 in
theorem gX5_countByPiles_X5_isValid : GoodIn wsX5_countByPiles (wsV RX5 121 RX5 yX5_isValid wsX5_isValid) := goodIn_app (goodIn_of _ (by decide +kernel)) ggX5_countByPiles_X5_isValid
set_option maxRecDepth 20000 in
theorem ggX5_countByPiles_X5_goes : GoodIn wsX5_countByPiles wsX5_goes := goodIn_r _ [23, 5, 6, 24, 25, 26, 12, 27, 28, 29, 30, 10, 31, 17, 32, 19, 95, 96, 97, 98, 99, 100, 101, 102, 103, 104, 105, 106, 107, 108, 109, 110, 111, 112, 113, 114, 115, 116, 117, 118, 119, 120, 121, 122, 123, 124, 125, 126, 127, 128, 129, 130, 131, 132] (by decide +kernel) (by decide +kernel)
set_option maxRecDepth 20000 in
theorem gX5_countByPiles_X5_goes : GoodIn wsX5_countByPiles (wsV RX5 162 RX5 yX5_goes wsX5_goes) := goodIn_app (goodIn_of _ (by decide +kernel)) ggX5_countByPiles_X5_goes
set_option maxRecDepth 20000 in
theorem ggX5_countByPiles_X5_ends : GoodIn wsX5_countByPiles wsX5_ends := goodIn_r _ [36, 3, 37, 1, 38, 39, 40, 10, 41, 32, 42, 43, 44, 45, 46, 47, 27, 48, 49, 50, 51, 25, 52, 53, 54, 55, 56, 57, 58, 95, 96, 97, 98, 99, 100, 101, 102, 103, 104, 105, 106, 107, 108, 109, 110, 111, 112, 113, 114, 115, 116, 117, 118, 119, 120, 121, 122, 123, 124, 125, 126, 127, 128, 129, 130, 131, 132] (by decide +kernel) (by decide +kernel)
set_option maxRecDepth 20000 in
theorem gX5_countByPiles_X5_ends : GoodIn wsX5_countByPiles (wsV RX5 179 RX5 yX5_ends wsX5_ends) := goodIn_app (goodIn_of _ (by decide +kernel)) ggX5_countByPiles_X5_ends
set_option maxRecDepth 20000 in
theorem ggX5_countByPiles_X5_record : GoodIn wsX5_countByPiles wsX5_record := goodIn_r _ [62, 25, 63, 64, 65, 26, 66, 67, 68, 37, 69, 3, 70, 47, 53, 27, 71, 32, 72, 4, 73, 5, 74, 6, 95, 96, 97, 98, 99, 100, 101, 102, 103, 104, 105, 106, 107, 108, 109, 110, 111, 112, 113, 114, 115, 116, 117, 118, 119, 120, 121, 122, 123, 124, 125, 126, 127, 128, 129, 130, 131, 132] (by decide +kernel) (by decide +kernel)
set_option maxRecDepth 20000 in
theorem gX5_countByPiles_X5_record : GoodIn wsX5_countByPiles (wsV RX5 183 RX5 yX5_record wsX5_record) := goodIn_app (goodIn_of _ (by decide +kernel)) ggX5_countByPiles_X5_record
set_option maxRecDepth 20000 in
theorem ggX5_countByPiles_X5_most : GoodIn wsX5_countByPiles wsX5_most := goodIn_r _ [46, 47, 32, 27, 48, 49, 50, 10, 51, 25, 52, 53, 54, 95, 96, 97, 98, 99, 100, 101, 102, 103, 104, 105, 106, 107, 108, 109, 110, 111, 112, 113, 114, 115, 116, 117, 118, 119, 120, 121, 122, 123, 124, 125, 126, 127, 128, 129, 130, 131, 132] (by decide +kernel) (by decide +kernel)
set_option maxRecDepth 20000 in
theorem gX5_countByPiles_X5_most : GoodIn wsX5_countByPiles (wsV RX5 131 RX5 yX5_most wsX5_most) := goodIn_app (goodIn_of _ (by decide +kernel)) ggX5_countByPiles_X5_most
set_option maxRecDepth 20000 in
theorem ggX5_countByPiles_X5_transfer : GoodIn wsX5_countByPiles wsX5_transfer := goodIn_r _ [78, 27, 3, 52, 79, 80, 81, 10, 82, 4, 5, 12, 6, 67, 20, 21, 22, 23, 24, 25, 26, 28, 29, 30, 31, 17, 32, 19, 83, 84, 85, 86, 95, 96, 97, 98, 99, 100, 101, 102, 103, 104, 105, 106, 107, 108, 109, 110, 111, 112, 113, 114, 115, 116, 117, 118, 119, 120, 121, 122, 123, 124, 125, 126, 127, 128, 129, 130, 131, 132] (by decide +kernel) (by decide +kernel)
set_option maxRecDepth 20000 in
theorem gX5_countByPiles_X5_transfer : GoodIn wsX5_countByPiles (wsV RX5 187 RX5 yX5_transfer wsX5_transfer) := goodIn_app (goodIn_of _ (by decide +kernel)) ggX5_countByPiles_X5_transfer
set_option maxRecDepth 20000 in
theorem ggX5_countByPiles_X5_fewest : GoodIn wsX5_countByPiles wsX5_fewest := goodIn_r _ [90, 47, 32, 48, 49, 50, 10, 51, 27, 25, 52, 53, 54, 95, 96, 97, 98, 99, 100, 101, 102, 103, 104, 105, 106, 107, 108, 109, 110, 111, 112, 113, 114, 115, 116, 117, 118, 119, 120, 121, 122, 123, 124, 125, 126, 127, 128, 129, 130, 131, 132] (by decide +kernel) (by decide +kernel)
set_option maxRecDepth 20000 in
theorem gX5_countByPiles_X5_fewest : GoodIn wsX5_countByPiles (wsV RX5 190 RX5 yX5_fewest wsX5_fewest) := goodIn_app (goodIn_of _ (by decide +kernel)) ggX5_countByPiles_X5_fewest
set_option maxRecDepth 20000 in
theorem ggX5_countByPiles_X5_goesOut : GoodIn wsX5_countByPiles wsX5_goesOut := goodIn_r _ [94, 32, 4, 5, 6, 27, 20, 21, 22, 10, 23, 24, 25, 26, 12, 28, 29, 30, 31, 17, 19, 95, 96, 97, 98, 99, 100, 101, 102, 103, 104, 105, 106, 107, 108, 109, 110, 111, 112, 113, 114, 115, 116, 117, 118, 119, 120, 121, 122, 123, 124, 125, 126, 127, 128, 129, 130, 131, 132] (by decide +kernel) (by decide +kernel)
set_option maxRecDepth 20000 in
theorem gX5_countByPiles_X5_goesOut : GoodIn wsX5_countByPiles (wsV RX5 193 RX5 yX5_goesOut wsX5_goesOut) := goodIn_app (goodIn_of _ (by decide +kernel)) ggX5_countByPiles_X5_goesOut
theorem dX5_countByPiles_0 : decode cX5_countByPiles 0 = .ok (.aload_n 0, 1) := by decide +kernel
theorem dX5_countByPiles_1 : decode cX5_countByPiles 1 = .ok (.aload_n 0, 1) := by decide +kernel
theorem dX5_countByPiles_2 : decode cX5_countByPiles 2 = .ok (.invokevirtual 173, 3) := by decide +kernel
theorem dX5_countByPiles_5 : decode cX5_countByPiles 5 = .ok (.aload_n 0, 1) := by decide +kernel
theorem dX5_countByPiles_6 : decode cX5_countByPiles 6 = .ok (.getfield 150, 3) := by decide +kernel
theorem dX5_countByPiles_9 : decode cX5_countByPiles 9 = .ok (.iconst 1, 1) := by decide +kernel
theorem dX5_countByPiles_10 : decode cX5_countByPiles 10 = .ok (.iadd, 1) := by decide +kernel
theorem dX5_countByPiles_11 : decode cX5_countByPiles 11 = .ok (.idiv, 1) := by decide +kernel
theorem dX5_countByPiles_12 : decode cX5_countByPiles 12 = .ok (.iconst 1, 1) := by decide +kernel
theorem dX5_countByPiles_13 : decode cX5_countByPiles 13 = .ok (.iadd, 1) := by decide +kernel
theorem dX5_countByPiles_14 : decode cX5_countByPiles 14 = .ok (.i2l, 1) := by decide +kernel
theorem dX5_countByPiles_15 : decode cX5_countByPiles 15 = .ok (.ldc2_w 177, 3) := by decide +kernel
theorem dX5_countByPiles_18 : decode cX5_countByPiles 18 = .ok (.lmul, 1) := by decide +kernel
theorem dX5_countByPiles_19 : decode cX5_countByPiles 19 = .ok (.putfield 138, 3) := by decide +kernel
theorem dX5_countByPiles_22 : decode cX5_countByPiles 22 = .ok (.iconst 0, 1) := by decide +kernel
theorem dX5_countByPiles_23 : decode cX5_countByPiles 23 = .ok (.istore_n 1, 1) := by decide +kernel
theorem dX5_countByPiles_24 : decode cX5_countByPiles 24 = .ok (.iload_n 1, 1) := by decide +kernel
theorem dX5_countByPiles_25 : decode cX5_countByPiles 25 = .ok (.aload_n 0, 1) := by decide +kernel
theorem dX5_countByPiles_26 : decode cX5_countByPiles 26 = .ok (.getfield 104, 3) := by decide +kernel
theorem dX5_countByPiles_29 : decode cX5_countByPiles 29 = .ok (.if_icmp .ge 40, 3) := by decide +kernel
theorem dX5_countByPiles_32 : decode cX5_countByPiles 32 = .ok (.aload_n 0, 1) := by decide +kernel
theorem dX5_countByPiles_33 : decode cX5_countByPiles 33 = .ok (.getfield 81, 3) := by decide +kernel
theorem dX5_countByPiles_36 : decode cX5_countByPiles 36 = .ok (.iload_n 1, 1) := by decide +kernel
theorem dX5_countByPiles_37 : decode cX5_countByPiles 37 = .ok (.iconst (-1), 1) := by decide +kernel
theorem dX5_countByPiles_38 : decode cX5_countByPiles 38 = .ok (.iastore, 1) := by decide +kernel
theorem dX5_countByPiles_39 : decode cX5_countByPiles 39 = .ok (.aload_n 0, 1) := by decide +kernel
theorem dX5_countByPiles_40 : decode cX5_countByPiles 40 = .ok (.getfield 84, 3) := by decide +kernel
theorem dX5_countByPiles_43 : decode cX5_countByPiles 43 = .ok (.iload_n 1, 1) := by decide +kernel
theorem dX5_countByPiles_44 : decode cX5_countByPiles 44 = .ok (.lconst 0, 1) := by decide +kernel
theorem dX5_countByPiles_45 : decode cX5_countByPiles 45 = .ok (.lastore, 1) := by decide +kernel
theorem dX5_countByPiles_46 : decode cX5_countByPiles 46 = .ok (.aload_n 0, 1) := by decide +kernel
theorem dX5_countByPiles_47 : decode cX5_countByPiles 47 = .ok (.iload_n 1, 1) := by decide +kernel
theorem dX5_countByPiles_48 : decode cX5_countByPiles 48 = .ok (.invokevirtual 121, 3) := by decide +kernel
theorem dX5_countByPiles_51 : decode cX5_countByPiles 51 = .ok (.ifCond .eq 12, 3) := by decide +kernel
theorem dX5_countByPiles_54 : decode cX5_countByPiles 54 = .ok (.aload_n 0, 1) := by decide +kernel
theorem dX5_countByPiles_55 : decode cX5_countByPiles 55 = .ok (.iload_n 1, 1) := by decide +kernel
theorem dX5_countByPiles_56 : decode cX5_countByPiles 56 = .ok (.ldc2_w 177, 3) := by decide +kernel
theorem dX5_countByPiles_59 : decode cX5_countByPiles 59 = .ok (.invokevirtual 162, 3) := by decide +kernel
theorem dX5_countByPiles_62 : decode cX5_countByPiles 62 = .ok (.pop, 1) := by decide +kernel
theorem dX5_countByPiles_63 : decode cX5_countByPiles 63 = .ok (.iinc 1 1, 3) := by decide +kernel
theorem dX5_countByPiles_66 : decode cX5_countByPiles 66 = .ok (.goto (-42), 3) := by decide +kernel
theorem dX5_countByPiles_69 : decode cX5_countByPiles 69 = .ok (.iconst 0, 1) := by decide +kernel
theorem dX5_countByPiles_70 : decode cX5_countByPiles 70 = .ok (.istore_n 1, 1) := by decide +kernel
theorem dX5_countByPiles_71 : decode cX5_countByPiles 71 = .ok (.bipush (-9), 2) := by decide +kernel
theorem dX5_countByPiles_73 : decode cX5_countByPiles 73 = .ok (.istore_n 2, 1) := by decide +kernel
theorem dX5_countByPiles_74 : decode cX5_countByPiles 74 = .ok (.aload_n 0, 1) := by decide +kernel
theorem dX5_countByPiles_75 : decode cX5_countByPiles 75 = .ok (.invokevirtual 179, 3) := by decide +kernel
theorem dX5_countByPiles_78 : decode cX5_countByPiles 78 = .ok (.istore_n 3, 1) := by decide +kernel
theorem dX5_countByPiles_79 : decode cX5_countByPiles 79 = .ok (.aload_n 0, 1) := by decide +kernel
theorem dX5_countByPiles_80 : decode cX5_countByPiles 80 = .ok (.iload_n 1, 1) := by decide +kernel
theorem dX5_countByPiles_81 : decode cX5_countByPiles 81 = .ok (.iload_n 2, 1) := by decide +kernel
theorem dX5_countByPiles_82 : decode cX5_countByPiles 82 = .ok (.lconst 0, 1) := by decide +kernel
theorem dX5_countByPiles_83 : decode cX5_countByPiles 83 = .ok (.invokevirtual 183, 3) := by decide +kernel
theorem dX5_countByPiles_86 : decode cX5_countByPiles 86 = .ok (.iload_n 3, 1) := by decide +kernel
theorem dX5_countByPiles_87 : decode cX5_countByPiles 87 = .ok (.ifCond .ne 62, 3) := by decide +kernel
theorem dX5_countByPiles_90 : decode cX5_countByPiles 90 = .ok (.aload_n 0, 1) := by decide +kernel
theorem dX5_countByPiles_91 : decode cX5_countByPiles 91 = .ok (.iconst 1, 1) := by decide +kernel
theorem dX5_countByPiles_92 : decode cX5_countByPiles 92 = .ok (.aload_n 0, 1) := by decide +kernel
theorem dX5_countByPiles_93 : decode cX5_countByPiles 93 = .ok (.getfield 138, 3) := by decide +kernel
theorem dX5_countByPiles_96 : decode cX5_countByPiles 96 = .ok (.lconst 1, 1) := by decide +kernel
theorem dX5_countByPiles_97 : decode cX5_countByPiles 97 = .ok (.ladd, 1) := by decide +kernel
theorem dX5_countByPiles_98 : decode cX5_countByPiles 98 = .ok (.invokevirtual 131, 3) := by decide +kernel
theorem dX5_countByPiles_101 : decode cX5_countByPiles 101 = .ok (.istore 4, 2) := by decide +kernel
theorem dX5_countByPiles_103 : decode cX5_countByPiles 103 = .ok (.iload 4, 2) := by decide +kernel
theorem dX5_countByPiles_105 : decode cX5_countByPiles 105 = .ok (.ifCond .lt 14, 3) := by decide +kernel
theorem dX5_countByPiles_108 : decode cX5_countByPiles 108 = .ok (.iconst 1, 1) := by decide +kernel
theorem dX5_countByPiles_109 : decode cX5_countByPiles 109 = .ok (.istore_n 1, 1) := by decide +kernel
theorem dX5_countByPiles_110 : decode cX5_countByPiles 110 = .ok (.aload_n 0, 1) := by decide +kernel
theorem dX5_countByPiles_111 : decode cX5_countByPiles 111 = .ok (.iload 4, 2) := by decide +kernel
theorem dX5_countByPiles_113 : decode cX5_countByPiles 113 = .ok (.invokevirtual 187, 3) := by decide +kernel
theorem dX5_countByPiles_116 : decode cX5_countByPiles 116 = .ok (.goto 17, 3) := by decide +kernel
theorem dX5_countByPiles_119 : decode cX5_countByPiles 119 = .ok (.iconst 2, 1) := by decide +kernel
theorem dX5_countByPiles_120 : decode cX5_countByPiles 120 = .ok (.istore_n 1, 1) := by decide +kernel
theorem dX5_countByPiles_121 : decode cX5_countByPiles 121 = .ok (.aload_n 0, 1) := by decide +kernel
theorem dX5_countByPiles_122 : decode cX5_countByPiles 122 = .ok (.invokevirtual 190, 3) := by decide +kernel
theorem dX5_countByPiles_125 : decode cX5_countByPiles 125 = .ok (.istore 4, 2) := by decide +kernel
theorem dX5_countByPiles_127 : decode cX5_countByPiles 127 = .ok (.aload_n 0, 1) := by decide +kernel
theorem dX5_countByPiles_128 : decode cX5_countByPiles 128 = .ok (.iload 4, 2) := by decide +kernel
theorem dX5_countByPiles_130 : decode cX5_countByPiles 130 = .ok (.invokevirtual 193, 3) := by decide +kernel
theorem dX5_countByPiles_133 : decode cX5_countByPiles 133 = .ok (.aload_n 0, 1) := by decide +kernel
theorem dX5_countByPiles_134 : decode cX5_countByPiles 134 = .ok (.invokevirtual 179, 3) := by decide +kernel
theorem dX5_countByPiles_137 : decode cX5_countByPiles 137 = .ok (.istore_n 3, 1) := by decide +kernel
theorem dX5_countByPiles_138 : decode cX5_countByPiles 138 = .ok (.aload_n 0, 1) := by decide +kernel
theorem dX5_countByPiles_139 : decode cX5_countByPiles 139 = .ok (.iload_n 1, 1) := by decide +kernel
theorem dX5_countByPiles_140 : decode cX5_countByPiles 140 = .ok (.iload 4, 2) := by decide +kernel
theorem dX5_countByPiles_142 : decode cX5_countByPiles 142 = .ok (.lconst 0, 1) := by decide +kernel
theorem dX5_countByPiles_143 : decode cX5_countByPiles 143 = .ok (.invokevirtual 183, 3) := by decide +kernel
theorem dX5_countByPiles_146 : decode cX5_countByPiles 146 = .ok (.goto (-60), 3) := by decide +kernel
theorem dX5_countByPiles_149 : decode cX5_countByPiles 149 = .ok (.return_, 1) := by decide +kernel
set_option maxRecDepth 20000 in
theorem ggX5_spread_X5_isValid : GoodIn wsX5_spread wsX5_isValid := goodIn_r _ [17, 6, 8, 7, 18, 19, 20, 21, 22, 23, 24, 25, 26, 27, 28, 29, 30, 31, 32, 33, 34, 35, 36, 37, 38, 39, 40, 41, 42, 43, 44, 45, 46, 47, 48, 49, 50, 51, 52, 53, 54, 55] (by decide +kernel) (by decide +kernel)
set_option maxRecDepth 20000 in
theorem gX5_spread_X5_isValid : GoodIn wsX5_spread (wsV RX5 121 RX5 yX5_isValid wsX5_isValid) := goodIn_app (goodIn_of _ (by decide +kernel)) ggX5_spread_X5_isValid
theorem dX5_spread_0 : decode cX5_spread 0 = .ok (.iconst 0, 1) := by decide +kernel
theorem dX5_spread_1 : decode cX5_spread 1 = .ok (.istore_n 1, 1) := by decide +kernel
theorem dX5_spread_2 : decode cX5_spread 2 = .ok (.iload_n 1, 1) := by decide +kernel
theorem dX5_spread_3 : decode cX5_spread 3 = .ok (.aload_n 0, 1) := by decide +kernel
theorem dX5_spread_4 : decode cX5_spread 4 = .ok (.getfield 101, 3) := by decide +kernel
theorem dX5_spread_7 : decode cX5_spread 7 = .ok (.if_icmp .ge 16, 3) := by decide +kernel
theorem dX5_spread_10 : decode cX5_spread 10 = .ok (.aload_n 0, 1) := by decide +kernel
theorem dX5_spread_11 : decode cX5_spread 11 = .ok (.getfield 72, 3) := by decide +kernel
theorem dX5_spread_14 : decode cX5_spread 14 = .ok (.iload_n 1, 1) := by decide +kernel
theorem dX5_spread_15 : decode cX5_spread 15 = .ok (.lconst 0, 1) := by decide +kernel
theorem dX5_spread_16 : decode cX5_spread 16 = .ok (.lastore, 1) := by decide +kernel
theorem dX5_spread_17 : decode cX5_spread 17 = .ok (.iinc 1 1, 3) := by decide +kernel
theorem dX5_spread_20 : decode cX5_spread 20 = .ok (.goto (-18), 3) := by decide +kernel
theorem dX5_spread_23 : decode cX5_spread 23 = .ok (.aload_n 0, 1) := by decide +kernel
theorem dX5_spread_24 : decode cX5_spread 24 = .ok (.lconst 0, 1) := by decide +kernel
theorem dX5_spread_25 : decode cX5_spread 25 = .ok (.putfield 153, 3) := by decide +kernel
theorem dX5_spread_28 : decode cX5_spread 28 = .ok (.iconst 0, 1) := by decide +kernel
theorem dX5_spread_29 : decode cX5_spread 29 = .ok (.istore_n 1, 1) := by decide +kernel
theorem dX5_spread_30 : decode cX5_spread 30 = .ok (.iload_n 1, 1) := by decide +kernel
theorem dX5_spread_31 : decode cX5_spread 31 = .ok (.aload_n 0, 1) := by decide +kernel
theorem dX5_spread_32 : decode cX5_spread 32 = .ok (.getfield 104, 3) := by decide +kernel
theorem dX5_spread_35 : decode cX5_spread 35 = .ok (.if_icmp .ge 123, 3) := by decide +kernel
theorem dX5_spread_38 : decode cX5_spread 38 = .ok (.aload_n 0, 1) := by decide +kernel
theorem dX5_spread_39 : decode cX5_spread 39 = .ok (.iload_n 1, 1) := by decide +kernel
theorem dX5_spread_40 : decode cX5_spread 40 = .ok (.invokevirtual 121, 3) := by decide +kernel
theorem dX5_spread_43 : decode cX5_spread 43 = .ok (.ifCond .eq 109, 3) := by decide +kernel
theorem dX5_spread_46 : decode cX5_spread 46 = .ok (.ldc2_w 196, 3) := by decide +kernel
theorem dX5_spread_49 : decode cX5_spread 49 = .ok (.lstore_n 2, 1) := by decide +kernel
theorem dX5_spread_50 : decode cX5_spread 50 = .ok (.iconst 0, 1) := by decide +kernel
theorem dX5_spread_51 : decode cX5_spread 51 = .ok (.istore 4, 2) := by decide +kernel
theorem dX5_spread_53 : decode cX5_spread 53 = .ok (.iload 4, 2) := by decide +kernel
theorem dX5_spread_55 : decode cX5_spread 55 = .ok (.aload_n 0, 1) := by decide +kernel
theorem dX5_spread_56 : decode cX5_spread 56 = .ok (.getfield 20, 3) := by decide +kernel
theorem dX5_spread_59 : decode cX5_spread 59 = .ok (.iload_n 1, 1) := by decide +kernel
theorem dX5_spread_60 : decode cX5_spread 60 = .ok (.iaload, 1) := by decide +kernel
theorem dX5_spread_61 : decode cX5_spread 61 = .ok (.if_icmp .ge 73, 3) := by decide +kernel
theorem dX5_spread_64 : decode cX5_spread 64 = .ok (.aload_n 0, 1) := by decide +kernel
theorem dX5_spread_65 : decode cX5_spread 65 = .ok (.getfield 23, 3) := by decide +kernel
theorem dX5_spread_68 : decode cX5_spread 68 = .ok (.bipush 12, 2) := by decide +kernel
theorem dX5_spread_70 : decode cX5_spread 70 = .ok (.iload_n 1, 1) := by decide +kernel
theorem dX5_spread_71 : decode cX5_spread 71 = .ok (.imul, 1) := by decide +kernel
theorem dX5_spread_72 : decode cX5_spread 72 = .ok (.iload 4, 2) := by decide +kernel
theorem dX5_spread_74 : decode cX5_spread 74 = .ok (.iadd, 1) := by decide +kernel
theorem dX5_spread_75 : decode cX5_spread 75 = .ok (.iaload, 1) := by decide +kernel
theorem dX5_spread_76 : decode cX5_spread 76 = .ok (.istore 5, 2) := by decide +kernel
theorem dX5_spread_78 : decode cX5_spread 78 = .ok (.aload_n 0, 1) := by decide +kernel
theorem dX5_spread_79 : decode cX5_spread 79 = .ok (.getfield 7, 3) := by decide +kernel
theorem dX5_spread_82 : decode cX5_spread 82 = .ok (.iload 5, 2) := by decide +kernel
theorem dX5_spread_84 : decode cX5_spread 84 = .ok (.baload, 1) := by decide +kernel
theorem dX5_spread_85 : decode cX5_spread 85 = .ok (.ifCond .ne 43, 3) := by decide +kernel
theorem dX5_spread_88 : decode cX5_spread 88 = .ok (.lload_n 2, 1) := by decide +kernel
theorem dX5_spread_89 : decode cX5_spread 89 = .ok (.aload_n 0, 1) := by decide +kernel
theorem dX5_spread_90 : decode cX5_spread 90 = .ok (.getfield 78, 3) := by decide +kernel
theorem dX5_spread_93 : decode cX5_spread 93 = .ok (.iload 5, 2) := by decide +kernel
theorem dX5_spread_95 : decode cX5_spread 95 = .ok (.laload, 1) := by decide +kernel
theorem dX5_spread_96 : decode cX5_spread 96 = .ok (.lmul, 1) := by decide +kernel
theorem dX5_spread_97 : decode cX5_spread 97 = .ok (.ldc2_w 196, 3) := by decide +kernel
theorem dX5_spread_100 : decode cX5_spread 100 = .ok (.ldiv, 1) := by decide +kernel
theorem dX5_spread_101 : decode cX5_spread 101 = .ok (.lstore 6, 2) := by decide +kernel
theorem dX5_spread_103 : decode cX5_spread 103 = .ok (.aload_n 0, 1) := by decide +kernel
theorem dX5_spread_104 : decode cX5_spread 104 = .ok (.getfield 72, 3) := by decide +kernel
theorem dX5_spread_107 : decode cX5_spread 107 = .ok (.iload 5, 2) := by decide +kernel
theorem dX5_spread_109 : decode cX5_spread 109 = .ok (.dup2, 1) := by decide +kernel
theorem dX5_spread_110 : decode cX5_spread 110 = .ok (.laload, 1) := by decide +kernel
theorem dX5_spread_111 : decode cX5_spread 111 = .ok (.lload 6, 2) := by decide +kernel
theorem dX5_spread_113 : decode cX5_spread 113 = .ok (.aload_n 0, 1) := by decide +kernel
theorem dX5_spread_114 : decode cX5_spread 114 = .ok (.getfield 17, 3) := by decide +kernel
theorem dX5_spread_117 : decode cX5_spread 117 = .ok (.iload_n 1, 1) := by decide +kernel
theorem dX5_spread_118 : decode cX5_spread 118 = .ok (.iaload, 1) := by decide +kernel
theorem dX5_spread_119 : decode cX5_spread 119 = .ok (.i2l, 1) := by decide +kernel
theorem dX5_spread_120 : decode cX5_spread 120 = .ok (.lmul, 1) := by decide +kernel
theorem dX5_spread_121 : decode cX5_spread 121 = .ok (.ladd, 1) := by decide +kernel
theorem dX5_spread_122 : decode cX5_spread 122 = .ok (.lastore, 1) := by decide +kernel
theorem dX5_spread_123 : decode cX5_spread 123 = .ok (.lload_n 2, 1) := by decide +kernel
theorem dX5_spread_124 : decode cX5_spread 124 = .ok (.lload 6, 2) := by decide +kernel
theorem dX5_spread_126 : decode cX5_spread 126 = .ok (.lsub, 1) := by decide +kernel
theorem dX5_spread_127 : decode cX5_spread 127 = .ok (.lstore_n 2, 1) := by decide +kernel
theorem dX5_spread_128 : decode cX5_spread 128 = .ok (.iinc 4 1, 3) := by decide +kernel
theorem dX5_spread_131 : decode cX5_spread 131 = .ok (.goto (-78), 3) := by decide +kernel
theorem dX5_spread_134 : decode cX5_spread 134 = .ok (.aload_n 0, 1) := by decide +kernel
theorem dX5_spread_135 : decode cX5_spread 135 = .ok (.dup, 1) := by decide +kernel
theorem dX5_spread_136 : decode cX5_spread 136 = .ok (.getfield 153, 3) := by decide +kernel
theorem dX5_spread_139 : decode cX5_spread 139 = .ok (.lload_n 2, 1) := by decide +kernel
theorem dX5_spread_140 : decode cX5_spread 140 = .ok (.aload_n 0, 1) := by decide +kernel
theorem dX5_spread_141 : decode cX5_spread 141 = .ok (.getfield 17, 3) := by decide +kernel
theorem dX5_spread_144 : decode cX5_spread 144 = .ok (.iload_n 1, 1) := by decide +kernel
theorem dX5_spread_145 : decode cX5_spread 145 = .ok (.iaload, 1) := by decide +kernel
theorem dX5_spread_146 : decode cX5_spread 146 = .ok (.i2l, 1) := by decide +kernel
theorem dX5_spread_147 : decode cX5_spread 147 = .ok (.lmul, 1) := by decide +kernel
theorem dX5_spread_148 : decode cX5_spread 148 = .ok (.ladd, 1) := by decide +kernel
theorem dX5_spread_149 : decode cX5_spread 149 = .ok (.putfield 153, 3) := by decide +kernel
theorem dX5_spread_152 : decode cX5_spread 152 = .ok (.iinc 1 1, 3) := by decide +kernel
theorem dX5_spread_155 : decode cX5_spread 155 = .ok (.goto (-125), 3) := by decide +kernel
theorem dX5_spread_158 : decode cX5_spread 158 = .ok (.lconst 0, 1) := by decide +kernel
theorem dX5_spread_159 : decode cX5_spread 159 = .ok (.lstore_n 1, 1) := by decide +kernel
theorem dX5_spread_160 : decode cX5_spread 160 = .ok (.iconst 0, 1) := by decide +kernel
theorem dX5_spread_161 : decode cX5_spread 161 = .ok (.istore_n 3, 1) := by decide +kernel
theorem dX5_spread_162 : decode cX5_spread 162 = .ok (.iload_n 3, 1) := by decide +kernel
theorem dX5_spread_163 : decode cX5_spread 163 = .ok (.aload_n 0, 1) := by decide +kernel
theorem dX5_spread_164 : decode cX5_spread 164 = .ok (.getfield 101, 3) := by decide +kernel
theorem dX5_spread_167 : decode cX5_spread 167 = .ok (.if_icmp .ge 18, 3) := by decide +kernel
theorem dX5_spread_170 : decode cX5_spread 170 = .ok (.lload_n 1, 1) := by decide +kernel
theorem dX5_spread_171 : decode cX5_spread 171 = .ok (.aload_n 0, 1) := by decide +kernel
theorem dX5_spread_172 : decode cX5_spread 172 = .ok (.getfield 72, 3) := by decide +kernel
theorem dX5_spread_175 : decode cX5_spread 175 = .ok (.iload_n 3, 1) := by decide +kernel
theorem dX5_spread_176 : decode cX5_spread 176 = .ok (.laload, 1) := by decide +kernel
theorem dX5_spread_177 : decode cX5_spread 177 = .ok (.ladd, 1) := by decide +kernel
theorem dX5_spread_178 : decode cX5_spread 178 = .ok (.lstore_n 1, 1) := by decide +kernel
theorem dX5_spread_179 : decode cX5_spread 179 = .ok (.iinc 3 1, 3) := by decide +kernel
theorem dX5_spread_182 : decode cX5_spread 182 = .ok (.goto (-20), 3) := by decide +kernel
theorem dX5_spread_185 : decode cX5_spread 185 = .ok (.aload_n 0, 1) := by decide +kernel
theorem dX5_spread_186 : decode cX5_spread 186 = .ok (.lload_n 1, 1) := by decide +kernel
theorem dX5_spread_187 : decode cX5_spread 187 = .ok (.aload_n 0, 1) := by decide +kernel
theorem dX5_spread_188 : decode cX5_spread 188 = .ok (.getfield 150, 3) := by decide +kernel
theorem dX5_spread_191 : decode cX5_spread 191 = .ok (.iconst 1, 1) := by decide +kernel
theorem dX5_spread_192 : decode cX5_spread 192 = .ok (.iadd, 1) := by decide +kernel
theorem dX5_spread_193 : decode cX5_spread 193 = .ok (.i2l, 1) := by decide +kernel
theorem dX5_spread_194 : decode cX5_spread 194 = .ok (.ldiv, 1) := by decide +kernel
theorem dX5_spread_195 : decode cX5_spread 195 = .ok (.lconst 1, 1) := by decide +kernel
theorem dX5_spread_196 : decode cX5_spread 196 = .ok (.ladd, 1) := by decide +kernel
theorem dX5_spread_197 : decode cX5_spread 197 = .ok (.putfield 138, 3) := by decide +kernel
theorem dX5_spread_200 : decode cX5_spread 200 = .ok (.return_, 1) := by decide +kernel
theorem dX5_excess_0 : decode cX5_excess 0 = .ok (.lconst 0, 1) := by decide +kernel
theorem dX5_excess_1 : decode cX5_excess 1 = .ok (.lstore_n 1, 1) := by decide +kernel
theorem dX5_excess_2 : decode cX5_excess 2 = .ok (.iconst 0, 1) := by decide +kernel
theorem dX5_excess_3 : decode cX5_excess 3 = .ok (.istore_n 3, 1) := by decide +kernel
theorem dX5_excess_4 : decode cX5_excess 4 = .ok (.iload_n 3, 1) := by decide +kernel
theorem dX5_excess_5 : decode cX5_excess 5 = .ok (.aload_n 0, 1) := by decide +kernel
theorem dX5_excess_6 : decode cX5_excess 6 = .ok (.getfield 101, 3) := by decide +kernel
theorem dX5_excess_9 : decode cX5_excess 9 = .ok (.if_icmp .ge 51, 3) := by decide +kernel
theorem dX5_excess_12 : decode cX5_excess 12 = .ok (.lload_n 1, 1) := by decide +kernel
theorem dX5_excess_13 : decode cX5_excess 13 = .ok (.aload_n 0, 1) := by decide +kernel
theorem dX5_excess_14 : decode cX5_excess 14 = .ok (.getfield 75, 3) := by decide +kernel
theorem dX5_excess_17 : decode cX5_excess 17 = .ok (.iload_n 3, 1) := by decide +kernel
theorem dX5_excess_18 : decode cX5_excess 18 = .ok (.iaload, 1) := by decide +kernel
theorem dX5_excess_19 : decode cX5_excess 19 = .ok (.iconst 1, 1) := by decide +kernel
theorem dX5_excess_20 : decode cX5_excess 20 = .ok (.if_icmp .ne 31, 3) := by decide +kernel
theorem dX5_excess_23 : decode cX5_excess 23 = .ok (.aload_n 0, 1) := by decide +kernel
theorem dX5_excess_24 : decode cX5_excess 24 = .ok (.getfield 72, 3) := by decide +kernel
theorem dX5_excess_27 : decode cX5_excess 27 = .ok (.iload_n 3, 1) := by decide +kernel
theorem dX5_excess_28 : decode cX5_excess 28 = .ok (.laload, 1) := by decide +kernel
theorem dX5_excess_29 : decode cX5_excess 29 = .ok (.aload_n 0, 1) := by decide +kernel
theorem dX5_excess_30 : decode cX5_excess 30 = .ok (.getfield 138, 3) := by decide +kernel
theorem dX5_excess_33 : decode cX5_excess 33 = .ok (.lcmp, 1) := by decide +kernel
theorem dX5_excess_34 : decode cX5_excess 34 = .ok (.ifCond .le 17, 3) := by decide +kernel
theorem dX5_excess_37 : decode cX5_excess 37 = .ok (.aload_n 0, 1) := by decide +kernel
theorem dX5_excess_38 : decode cX5_excess 38 = .ok (.getfield 72, 3) := by decide +kernel
theorem dX5_excess_41 : decode cX5_excess 41 = .ok (.iload_n 3, 1) := by decide +kernel
theorem dX5_excess_42 : decode cX5_excess 42 = .ok (.laload, 1) := by decide +kernel
theorem dX5_excess_43 : decode cX5_excess 43 = .ok (.aload_n 0, 1) := by decide +kernel
theorem dX5_excess_44 : decode cX5_excess 44 = .ok (.getfield 138, 3) := by decide +kernel
theorem dX5_excess_47 : decode cX5_excess 47 = .ok (.lsub, 1) := by decide +kernel
theorem dX5_excess_48 : decode cX5_excess 48 = .ok (.goto 4, 3) := by decide +kernel
theorem dX5_excess_51 : decode cX5_excess 51 = .ok (.lconst 0, 1) := by decide +kernel
theorem dX5_excess_52 : decode cX5_excess 52 = .ok (.ladd, 1) := by decide +kernel
theorem dX5_excess_53 : decode cX5_excess 53 = .ok (.lstore_n 1, 1) := by decide +kernel
theorem dX5_excess_54 : decode cX5_excess 54 = .ok (.iinc 3 1, 3) := by decide +kernel
theorem dX5_excess_57 : decode cX5_excess 57 = .ok (.goto (-53), 3) := by decide +kernel
theorem dX5_excess_60 : decode cX5_excess 60 = .ok (.lload_n 1, 1) := by decide +kernel
theorem dX5_excess_61 : decode cX5_excess 61 = .ok (.lreturn, 1) := by decide +kernel
set_option maxRecDepth 20000 in
theorem ggX5_countByKeeps_X5_spread : GoodIn wsX5_countByKeeps wsX5_spread := goodIn_r _ [17, 1, 10, 18, 19, 11, 20, 21, 22, 4, 23, 24, 12, 25, 26, 27, 16, 28, 77, 78, 79, 80, 81, 82, 83, 84, 85, 86, 87, 88, 89, 90, 91, 92, 93, 94, 95, 96, 97, 98, 99, 100, 101, 102, 103, 104, 105, 106, 107, 108, 109, 110, 111, 112, 113, 114] (by decide +kernel) (by decide +kernel)
set_option maxRecDepth 20000 in
theorem gX5_countByKeeps_X5_spread : GoodIn wsX5_countByKeeps (wsV RX5 198 RX5 yX5_spread wsX5_spread) := goodIn_app (goodIn_of _ (by decide +kernel)) ggX5_countByKeeps_X5_spread
set_option maxRecDepth 20000 in
theorem ggX5_countByKeeps_X5_ends : GoodIn wsX5_countByKeeps wsX5_ends := goodIn_r _ [32, 12, 5, 24, 33, 34, 35, 16, 36, 9, 37, 38, 39, 40, 41, 1, 10, 42, 43, 44, 45, 3, 46, 47, 48, 49, 50, 51, 52, 77, 78, 79, 80, 81, 82, 83, 84, 85, 86, 87, 88, 89, 90, 91, 92, 93, 94, 95, 96, 97, 98, 99, 100, 101, 102, 103, 104, 105, 106, 107, 108, 109, 110, 111, 112, 113, 114] (by decide +kernel) (by decide +kernel)
set_option maxRecDepth 20000 in
theorem gX5_countByKeeps_X5_ends : GoodIn wsX5_countByKeeps (wsV RX5 179 RX5 yX5_ends wsX5_ends) := goodIn_app (goodIn_of _ (by decide +kernel)) ggX5_countByKeeps_X5_ends
set_option maxRecDepth 20000 in
theorem ggX5_countByKeeps_X5_record : GoodIn wsX5_countByKeeps wsX5_record := goodIn_r _ [56, 3, 6, 57, 58, 18, 59, 60, 61, 5, 62, 12, 7, 1, 47, 10, 63, 9, 64, 19, 65, 66, 67, 68, 77, 78, 79, 80, 81, 82, 83, 84, 85, 86, 87, 88, 89, 90, 91, 92, 93, 94, 95, 96, 97, 98, 99, 100, 101, 102, 103, 104, 105, 106, 107, 108, 109, 110, 111, 112, 113, 114] (by decide +kernel) (by decide +kernel)
set_option maxRecDepth 20000 in
theorem gX5_countByKeeps_X5_record : GoodIn wsX5_countByKeeps (wsV RX5 183 RX5 yX5_record wsX5_record) := goodIn_app (goodIn_of _ (by decide +kernel)) ggX5_countByKeeps_X5_record
set_option maxRecDepth 20000 in
theorem ggX5_countByKeeps_X5_excess : GoodIn wsX5_countByKeeps wsX5_excess := goodIn_r _ [72, 1, 9, 10, 12, 77, 78, 79, 80, 81, 82, 83, 84, 85, 86, 87, 88, 89, 90, 91, 92, 93, 94, 95, 96, 97, 98, 99, 100, 101, 102, 103, 104, 105, 106, 107, 108, 109, 110, 111, 112, 113, 114] (by decide +kernel) (by decide +kernel)
set_option maxRecDepth 20000 in
theorem gX5_countByKeeps_X5_excess : GoodIn wsX5_countByKeeps (wsV RX5 201 RX5 yX5_excess wsX5_excess) := goodIn_app (goodIn_of _ (by decide +kernel)) ggX5_countByKeeps_X5_excess
set_option maxRecDepth 20000 in
theorem ggX5_countByKeeps_X5_fewest : GoodIn wsX5_countByKeeps wsX5_fewest := goodIn_r _ [76, 1, 9, 42, 43, 44, 16, 45, 10, 3, 46, 47, 48, 77, 78, 79, 80, 81, 82, 83, 84, 85, 86, 87, 88, 89, 90, 91, 92, 93, 94, 95, 96, 97, 98, 99, 100, 101, 102, 103, 104, 105, 106, 107, 108, 109, 110, 111, 112, 113, 114] (by decide +kernel) (by decide +kernel)
set_option maxRecDepth 20000 in
theorem gX5_countByKeeps_X5_fewest : GoodIn wsX5_countByKeeps (wsV RX5 190 RX5 yX5_fewest wsX5_fewest) := goodIn_app (goodIn_of _ (by decide +kernel)) ggX5_countByKeeps_X5_fewest
theorem dX5_countByKeeps_0 : decode cX5_countByKeeps 0 = .ok (.iconst 0, 1) := by decide +kernel
theorem dX5_countByKeeps_1 : decode cX5_countByKeeps 1 = .ok (.istore_n 1, 1) := by decide +kernel
theorem dX5_countByKeeps_2 : decode cX5_countByKeeps 2 = .ok (.iload_n 1, 1) := by decide +kernel
theorem dX5_countByKeeps_3 : decode cX5_countByKeeps 3 = .ok (.ifCond .ne 283, 3) := by decide +kernel
theorem dX5_countByKeeps_6 : decode cX5_countByKeeps 6 = .ok (.aload_n 0, 1) := by decide +kernel
theorem dX5_countByKeeps_7 : decode cX5_countByKeeps 7 = .ok (.invokevirtual 198, 3) := by decide +kernel
theorem dX5_countByKeeps_10 : decode cX5_countByKeeps 10 = .ok (.iconst 0, 1) := by decide +kernel
theorem dX5_countByKeeps_11 : decode cX5_countByKeeps 11 = .ok (.istore_n 2, 1) := by decide +kernel
theorem dX5_countByKeeps_12 : decode cX5_countByKeeps 12 = .ok (.iload_n 2, 1) := by decide +kernel
theorem dX5_countByKeeps_13 : decode cX5_countByKeeps 13 = .ok (.aload_n 0, 1) := by decide +kernel
theorem dX5_countByKeeps_14 : decode cX5_countByKeeps 14 = .ok (.getfield 101, 3) := by decide +kernel
theorem dX5_countByKeeps_17 : decode cX5_countByKeeps 17 = .ok (.if_icmp .ge 29, 3) := by decide +kernel
theorem dX5_countByKeeps_20 : decode cX5_countByKeeps 20 = .ok (.aload_n 0, 1) := by decide +kernel
theorem dX5_countByKeeps_21 : decode cX5_countByKeeps 21 = .ok (.getfield 57, 3) := by decide +kernel
theorem dX5_countByKeeps_24 : decode cX5_countByKeeps 24 = .ok (.bipush 12, 2) := by decide +kernel
theorem dX5_countByKeeps_26 : decode cX5_countByKeeps 26 = .ok (.aload_n 0, 1) := by decide +kernel
theorem dX5_countByKeeps_27 : decode cX5_countByKeeps 27 = .ok (.getfield 124, 3) := by decide +kernel
theorem dX5_countByKeeps_30 : decode cX5_countByKeeps 30 = .ok (.imul, 1) := by decide +kernel
theorem dX5_countByKeeps_31 : decode cX5_countByKeeps 31 = .ok (.iload_n 2, 1) := by decide +kernel
theorem dX5_countByKeeps_32 : decode cX5_countByKeeps 32 = .ok (.iadd, 1) := by decide +kernel
theorem dX5_countByKeeps_33 : decode cX5_countByKeeps 33 = .ok (.aload_n 0, 1) := by decide +kernel
theorem dX5_countByKeeps_34 : decode cX5_countByKeeps 34 = .ok (.getfield 78, 3) := by decide +kernel
theorem dX5_countByKeeps_37 : decode cX5_countByKeeps 37 = .ok (.iload_n 2, 1) := by decide +kernel
theorem dX5_countByKeeps_38 : decode cX5_countByKeeps 38 = .ok (.laload, 1) := by decide +kernel
theorem dX5_countByKeeps_39 : decode cX5_countByKeeps 39 = .ok (.lastore, 1) := by decide +kernel
theorem dX5_countByKeeps_40 : decode cX5_countByKeeps 40 = .ok (.iinc 2 1, 3) := by decide +kernel
theorem dX5_countByKeeps_43 : decode cX5_countByKeeps 43 = .ok (.goto (-31), 3) := by decide +kernel
theorem dX5_countByKeeps_46 : decode cX5_countByKeeps 46 = .ok (.aload_n 0, 1) := by decide +kernel
theorem dX5_countByKeeps_47 : decode cX5_countByKeeps 47 = .ok (.getfield 135, 3) := by decide +kernel
theorem dX5_countByKeeps_50 : decode cX5_countByKeeps 50 = .ok (.istore_n 2, 1) := by decide +kernel
theorem dX5_countByKeeps_51 : decode cX5_countByKeeps 51 = .ok (.aload_n 0, 1) := by decide +kernel
theorem dX5_countByKeeps_52 : decode cX5_countByKeeps 52 = .ok (.invokevirtual 179, 3) := by decide +kernel
theorem dX5_countByKeeps_55 : decode cX5_countByKeeps 55 = .ok (.istore_n 1, 1) := by decide +kernel
theorem dX5_countByKeeps_56 : decode cX5_countByKeeps 56 = .ok (.iload_n 1, 1) := by decide +kernel
theorem dX5_countByKeeps_57 : decode cX5_countByKeeps 57 = .ok (.ifCond .eq 12, 3) := by decide +kernel
theorem dX5_countByKeeps_60 : decode cX5_countByKeeps 60 = .ok (.aload_n 0, 1) := by decide +kernel
theorem dX5_countByKeeps_61 : decode cX5_countByKeeps 61 = .ok (.iconst 3, 1) := by decide +kernel
theorem dX5_countByKeeps_62 : decode cX5_countByKeeps 62 = .ok (.bipush (-9), 2) := by decide +kernel
theorem dX5_countByKeeps_64 : decode cX5_countByKeeps 64 = .ok (.lconst 0, 1) := by decide +kernel
theorem dX5_countByKeeps_65 : decode cX5_countByKeeps 65 = .ok (.invokevirtual 183, 3) := by decide +kernel
theorem dX5_countByKeeps_68 : decode cX5_countByKeeps 68 = .ok (.return_, 1) := by decide +kernel
theorem dX5_countByKeeps_69 : decode cX5_countByKeeps 69 = .ok (.aload_n 0, 1) := by decide +kernel
theorem dX5_countByKeeps_70 : decode cX5_countByKeeps 70 = .ok (.invokevirtual 201, 3) := by decide +kernel
theorem dX5_countByKeeps_73 : decode cX5_countByKeeps 73 = .ok (.lstore_n 3, 1) := by decide +kernel
theorem dX5_countByKeeps_74 : decode cX5_countByKeeps 74 = .ok (.aload_n 0, 1) := by decide +kernel
theorem dX5_countByKeeps_75 : decode cX5_countByKeeps 75 = .ok (.getfield 124, 3) := by decide +kernel
theorem dX5_countByKeeps_78 : decode cX5_countByKeeps 78 = .ok (.istore 5, 2) := by decide +kernel
theorem dX5_countByKeeps_80 : decode cX5_countByKeeps 80 = .ok (.iload 5, 2) := by decide +kernel
theorem dX5_countByKeeps_82 : decode cX5_countByKeeps 82 = .ok (.ifCond .le 34, 3) := by decide +kernel
theorem dX5_countByKeeps_85 : decode cX5_countByKeeps 85 = .ok (.aload_n 0, 1) := by decide +kernel
theorem dX5_countByKeeps_86 : decode cX5_countByKeeps 86 = .ok (.getfield 29, 3) := by decide +kernel
theorem dX5_countByKeeps_89 : decode cX5_countByKeeps 89 = .ok (.iload 5, 2) := by decide +kernel
theorem dX5_countByKeeps_91 : decode cX5_countByKeeps 91 = .ok (.iconst 1, 1) := by decide +kernel
theorem dX5_countByKeeps_92 : decode cX5_countByKeeps 92 = .ok (.isub, 1) := by decide +kernel
theorem dX5_countByKeeps_93 : decode cX5_countByKeeps 93 = .ok (.iaload, 1) := by decide +kernel
theorem dX5_countByKeeps_94 : decode cX5_countByKeeps 94 = .ok (.iconst 3, 1) := by decide +kernel
theorem dX5_countByKeeps_95 : decode cX5_countByKeeps 95 = .ok (.if_icmp .ne 21, 3) := by decide +kernel
theorem dX5_countByKeeps_98 : decode cX5_countByKeeps 98 = .ok (.lload_n 3, 1) := by decide +kernel
theorem dX5_countByKeeps_99 : decode cX5_countByKeeps 99 = .ok (.aload_n 0, 1) := by decide +kernel
theorem dX5_countByKeeps_100 : decode cX5_countByKeeps 100 = .ok (.getfield 48, 3) := by decide +kernel
theorem dX5_countByKeeps_103 : decode cX5_countByKeeps 103 = .ok (.iload 5, 2) := by decide +kernel
theorem dX5_countByKeeps_105 : decode cX5_countByKeeps 105 = .ok (.iconst 1, 1) := by decide +kernel
theorem dX5_countByKeeps_106 : decode cX5_countByKeeps 106 = .ok (.isub, 1) := by decide +kernel
theorem dX5_countByKeeps_107 : decode cX5_countByKeeps 107 = .ok (.laload, 1) := by decide +kernel
theorem dX5_countByKeeps_108 : decode cX5_countByKeeps 108 = .ok (.lcmp, 1) := by decide +kernel
theorem dX5_countByKeeps_109 : decode cX5_countByKeeps 109 = .ok (.ifCond .lt 7, 3) := by decide +kernel
theorem dX5_countByKeeps_112 : decode cX5_countByKeeps 112 = .ok (.iconst 1, 1) := by decide +kernel
theorem dX5_countByKeeps_113 : decode cX5_countByKeeps 113 = .ok (.goto 4, 3) := by decide +kernel
theorem dX5_countByKeeps_116 : decode cX5_countByKeeps 116 = .ok (.iconst 0, 1) := by decide +kernel
theorem dX5_countByKeeps_117 : decode cX5_countByKeeps 117 = .ok (.istore 6, 2) := by decide +kernel
theorem dX5_countByKeeps_119 : decode cX5_countByKeeps 119 = .ok (.iload 5, 2) := by decide +kernel
theorem dX5_countByKeeps_121 : decode cX5_countByKeeps 121 = .ok (.bipush 60, 2) := by decide +kernel
theorem dX5_countByKeeps_123 : decode cX5_countByKeeps 123 = .ok (.if_icmp .ge 24, 3) := by decide +kernel
theorem dX5_countByKeeps_126 : decode cX5_countByKeeps 126 = .ok (.aload_n 0, 1) := by decide +kernel
theorem dX5_countByKeeps_127 : decode cX5_countByKeeps 127 = .ok (.getfield 135, 3) := by decide +kernel
theorem dX5_countByKeeps_130 : decode cX5_countByKeeps 130 = .ok (.iload_n 2, 1) := by decide +kernel
theorem dX5_countByKeeps_131 : decode cX5_countByKeeps 131 = .ok (.if_icmp .ne 49, 3) := by decide +kernel
theorem dX5_countByKeeps_134 : decode cX5_countByKeeps 134 = .ok (.lload_n 3, 1) := by decide +kernel
theorem dX5_countByKeeps_135 : decode cX5_countByKeeps 135 = .ok (.ldc2_w 205, 3) := by decide +kernel
theorem dX5_countByKeeps_138 : decode cX5_countByKeeps 138 = .ok (.lcmp, 1) := by decide +kernel
theorem dX5_countByKeeps_139 : decode cX5_countByKeeps 139 = .ok (.ifCond .lt 8, 3) := by decide +kernel
theorem dX5_countByKeeps_142 : decode cX5_countByKeeps 142 = .ok (.iload 6, 2) := by decide +kernel
theorem dX5_countByKeeps_144 : decode cX5_countByKeeps 144 = .ok (.ifCond .eq 36, 3) := by decide +kernel
theorem dX5_countByKeeps_147 : decode cX5_countByKeeps 147 = .ok (.aload_n 0, 1) := by decide +kernel
theorem dX5_countByKeeps_148 : decode cX5_countByKeeps 148 = .ok (.invokevirtual 190, 3) := by decide +kernel
theorem dX5_countByKeeps_151 : decode cX5_countByKeeps 151 = .ok (.istore 7, 2) := by decide +kernel
theorem dX5_countByKeeps_153 : decode cX5_countByKeeps 153 = .ok (.aload_n 0, 1) := by decide +kernel
theorem dX5_countByKeeps_154 : decode cX5_countByKeeps 154 = .ok (.getfield 75, 3) := by decide +kernel
theorem dX5_countByKeeps_157 : decode cX5_countByKeeps 157 = .ok (.iload 7, 2) := by decide +kernel
theorem dX5_countByKeeps_159 : decode cX5_countByKeeps 159 = .ok (.iconst 2, 1) := by decide +kernel
theorem dX5_countByKeeps_160 : decode cX5_countByKeeps 160 = .ok (.iastore, 1) := by decide +kernel
theorem dX5_countByKeeps_161 : decode cX5_countByKeeps 161 = .ok (.aload_n 0, 1) := by decide +kernel
theorem dX5_countByKeeps_162 : decode cX5_countByKeeps 162 = .ok (.iconst 4, 1) := by decide +kernel
theorem dX5_countByKeeps_163 : decode cX5_countByKeeps 163 = .ok (.iload 7, 2) := by decide +kernel
theorem dX5_countByKeeps_165 : decode cX5_countByKeeps 165 = .ok (.lload_n 3, 1) := by decide +kernel
theorem dX5_countByKeeps_166 : decode cX5_countByKeeps 166 = .ok (.invokevirtual 183, 3) := by decide +kernel
theorem dX5_countByKeeps_169 : decode cX5_countByKeeps 169 = .ok (.aload_n 0, 1) := by decide +kernel
theorem dX5_countByKeeps_170 : decode cX5_countByKeeps 170 = .ok (.getfield 78, 3) := by decide +kernel
theorem dX5_countByKeeps_173 : decode cX5_countByKeeps 173 = .ok (.iload 7, 2) := by decide +kernel
theorem dX5_countByKeeps_175 : decode cX5_countByKeeps 175 = .ok (.lconst 0, 1) := by decide +kernel
theorem dX5_countByKeeps_176 : decode cX5_countByKeeps 176 = .ok (.lastore, 1) := by decide +kernel
theorem dX5_countByKeeps_177 : decode cX5_countByKeeps 177 = .ok (.goto 106, 3) := by decide +kernel
theorem dX5_countByKeeps_180 : decode cX5_countByKeeps 180 = .ok (.aload_n 0, 1) := by decide +kernel
theorem dX5_countByKeeps_181 : decode cX5_countByKeeps 181 = .ok (.iconst 3, 1) := by decide +kernel
theorem dX5_countByKeeps_182 : decode cX5_countByKeeps 182 = .ok (.bipush (-9), 2) := by decide +kernel
theorem dX5_countByKeeps_184 : decode cX5_countByKeeps 184 = .ok (.lload_n 3, 1) := by decide +kernel
theorem dX5_countByKeeps_185 : decode cX5_countByKeeps 185 = .ok (.invokevirtual 183, 3) := by decide +kernel
theorem dX5_countByKeeps_188 : decode cX5_countByKeeps 188 = .ok (.iconst 0, 1) := by decide +kernel
theorem dX5_countByKeeps_189 : decode cX5_countByKeeps 189 = .ok (.istore 7, 2) := by decide +kernel
theorem dX5_countByKeeps_191 : decode cX5_countByKeeps 191 = .ok (.iload 7, 2) := by decide +kernel
theorem dX5_countByKeeps_193 : decode cX5_countByKeeps 193 = .ok (.aload_n 0, 1) := by decide +kernel
theorem dX5_countByKeeps_194 : decode cX5_countByKeeps 194 = .ok (.getfield 101, 3) := by decide +kernel
theorem dX5_countByKeeps_197 : decode cX5_countByKeeps 197 = .ok (.if_icmp .ge 86, 3) := by decide +kernel
theorem dX5_countByKeeps_200 : decode cX5_countByKeeps 200 = .ok (.aload_n 0, 1) := by decide +kernel
theorem dX5_countByKeeps_201 : decode cX5_countByKeeps 201 = .ok (.getfield 75, 3) := by decide +kernel
theorem dX5_countByKeeps_204 : decode cX5_countByKeeps 204 = .ok (.iload 7, 2) := by decide +kernel
theorem dX5_countByKeeps_206 : decode cX5_countByKeeps 206 = .ok (.iaload, 1) := by decide +kernel
theorem dX5_countByKeeps_207 : decode cX5_countByKeeps 207 = .ok (.iconst 1, 1) := by decide +kernel
theorem dX5_countByKeeps_208 : decode cX5_countByKeeps 208 = .ok (.if_icmp .ne 69, 3) := by decide +kernel
theorem dX5_countByKeeps_211 : decode cX5_countByKeeps 211 = .ok (.aload_n 0, 1) := by decide +kernel
theorem dX5_countByKeeps_212 : decode cX5_countByKeeps 212 = .ok (.getfield 72, 3) := by decide +kernel
theorem dX5_countByKeeps_215 : decode cX5_countByKeeps 215 = .ok (.iload 7, 2) := by decide +kernel
theorem dX5_countByKeeps_217 : decode cX5_countByKeeps 217 = .ok (.laload, 1) := by decide +kernel
theorem dX5_countByKeeps_218 : decode cX5_countByKeeps 218 = .ok (.lconst 0, 1) := by decide +kernel
theorem dX5_countByKeeps_219 : decode cX5_countByKeeps 219 = .ok (.lcmp, 1) := by decide +kernel
theorem dX5_countByKeeps_220 : decode cX5_countByKeeps 220 = .ok (.ifCond .ne 9, 3) := by decide +kernel
theorem dX5_countByKeeps_223 : decode cX5_countByKeeps 223 = .ok (.ldc2_w 196, 3) := by decide +kernel
theorem dX5_countByKeeps_226 : decode cX5_countByKeeps 226 = .ok (.goto 25, 3) := by decide +kernel
theorem dX5_countByKeeps_229 : decode cX5_countByKeeps 229 = .ok (.aload_n 0, 1) := by decide +kernel
theorem dX5_countByKeeps_230 : decode cX5_countByKeeps 230 = .ok (.getfield 78, 3) := by decide +kernel
theorem dX5_countByKeeps_233 : decode cX5_countByKeeps 233 = .ok (.iload 7, 2) := by decide +kernel
theorem dX5_countByKeeps_235 : decode cX5_countByKeeps 235 = .ok (.laload, 1) := by decide +kernel
theorem dX5_countByKeeps_236 : decode cX5_countByKeeps 236 = .ok (.aload_n 0, 1) := by decide +kernel
theorem dX5_countByKeeps_237 : decode cX5_countByKeeps 237 = .ok (.getfield 138, 3) := by decide +kernel
theorem dX5_countByKeeps_240 : decode cX5_countByKeeps 240 = .ok (.lmul, 1) := by decide +kernel
theorem dX5_countByKeeps_241 : decode cX5_countByKeeps 241 = .ok (.aload_n 0, 1) := by decide +kernel
theorem dX5_countByKeeps_242 : decode cX5_countByKeeps 242 = .ok (.getfield 72, 3) := by decide +kernel
theorem dX5_countByKeeps_245 : decode cX5_countByKeeps 245 = .ok (.iload 7, 2) := by decide +kernel
theorem dX5_countByKeeps_247 : decode cX5_countByKeeps 247 = .ok (.laload, 1) := by decide +kernel
theorem dX5_countByKeeps_248 : decode cX5_countByKeeps 248 = .ok (.ldiv, 1) := by decide +kernel
theorem dX5_countByKeeps_249 : decode cX5_countByKeeps 249 = .ok (.lconst 1, 1) := by decide +kernel
theorem dX5_countByKeeps_250 : decode cX5_countByKeeps 250 = .ok (.ladd, 1) := by decide +kernel
theorem dX5_countByKeeps_251 : decode cX5_countByKeeps 251 = .ok (.lstore 8, 2) := by decide +kernel
theorem dX5_countByKeeps_253 : decode cX5_countByKeeps 253 = .ok (.aload_n 0, 1) := by decide +kernel
theorem dX5_countByKeeps_254 : decode cX5_countByKeeps 254 = .ok (.getfield 78, 3) := by decide +kernel
theorem dX5_countByKeeps_257 : decode cX5_countByKeeps 257 = .ok (.iload 7, 2) := by decide +kernel
theorem dX5_countByKeeps_259 : decode cX5_countByKeeps 259 = .ok (.lload 8, 2) := by decide +kernel
theorem dX5_countByKeeps_261 : decode cX5_countByKeeps 261 = .ok (.ldc2_w 196, 3) := by decide +kernel
theorem dX5_countByKeeps_264 : decode cX5_countByKeeps 264 = .ok (.lcmp, 1) := by decide +kernel
theorem dX5_countByKeeps_265 : decode cX5_countByKeeps 265 = .ok (.ifCond .le 9, 3) := by decide +kernel
theorem dX5_countByKeeps_268 : decode cX5_countByKeeps 268 = .ok (.ldc2_w 196, 3) := by decide +kernel
theorem dX5_countByKeeps_271 : decode cX5_countByKeeps 271 = .ok (.goto 5, 3) := by decide +kernel
theorem dX5_countByKeeps_274 : decode cX5_countByKeeps 274 = .ok (.lload 8, 2) := by decide +kernel
theorem dX5_countByKeeps_276 : decode cX5_countByKeeps 276 = .ok (.lastore, 1) := by decide +kernel
theorem dX5_countByKeeps_277 : decode cX5_countByKeeps 277 = .ok (.iinc 7 1, 3) := by decide +kernel
theorem dX5_countByKeeps_280 : decode cX5_countByKeeps 280 = .ok (.goto (-89), 3) := by decide +kernel
theorem dX5_countByKeeps_283 : decode cX5_countByKeeps 283 = .ok (.goto (-281), 3) := by decide +kernel
theorem dX5_countByKeeps_286 : decode cX5_countByKeeps 286 = .ok (.return_, 1) := by decide +kernel
set_option maxRecDepth 20000 in
theorem ggX5_count_X5_in : GoodIn wsX5_count wsX5_in := goodIn_r _ [19] (by decide +kernel) (by decide +kernel)
set_option maxRecDepth 20000 in
theorem gX5_count_X5_in : GoodIn wsX5_count (va_wsS RX5 107 yX5_in wsX5_in) := goodIn_app (goodIn_of _ (by decide +kernel)) ggX5_count_X5_in
set_option maxRecDepth 20000 in
theorem ggX5_count_X5_countByPiles : GoodIn wsX5_count wsX5_countByPiles := goodIn_r _ [23, 4, 24, 25, 6, 26, 27, 28, 29, 30, 18, 31, 32, 33, 34, 35, 36, 37, 2, 38, 39, 40, 41, 42, 43, 8, 10, 12, 44, 45, 46, 47, 13, 48, 49, 50, 51, 9, 52, 53, 54, 55, 56, 57, 58, 59, 60, 1, 61, 62, 63, 64, 3, 65, 66, 67, 68, 69, 70, 71, 72, 73, 74, 75, 76, 77, 78, 11, 79, 80, 81, 82, 83, 84, 85, 86, 87, 88, 89, 90, 91, 92, 93, 94, 95, 96, 97, 98, 99, 100, 101, 102, 103, 104, 105, 120, 121, 122, 123, 124, 125, 126, 127, 128, 129, 130, 131, 132, 133, 134, 135, 136, 137, 138, 139, 140, 141, 142, 143, 144, 145, 146, 147, 148, 149, 150, 151, 152, 153, 154, 155, 156, 157] (by decide +kernel) (by decide +kernel)
set_option maxRecDepth 20000 in
theorem gX5_count_X5_countByPiles : GoodIn wsX5_count (wsV RX5 213 RX5 yX5_countByPiles wsX5_countByPiles) := goodIn_app (goodIn_of _ (by decide +kernel)) ggX5_count_X5_countByPiles
set_option maxRecDepth 20000 in
theorem ggX5_count_X5_countByKeeps : GoodIn wsX5_count wsX5_countByKeeps := goodIn_r _ [109, 1, 110, 8, 14, 9, 75, 81, 111, 13, 12, 15, 25, 112, 113, 114, 18, 115, 10, 6, 37, 38, 2, 32, 4, 33, 34, 35, 36, 48, 49, 50, 51, 52, 53, 54, 55, 56, 57, 58, 59, 60, 61, 62, 63, 64, 3, 65, 66, 67, 68, 69, 70, 71, 72, 73, 74, 76, 77, 78, 11, 79, 80, 82, 83, 84, 26, 85, 27, 116, 117, 118, 119, 98, 99, 100, 101, 120, 121, 122, 123, 124, 125, 126, 127, 128, 129, 130, 131, 132, 133, 134, 135, 136, 137, 138, 139, 140, 141, 142, 143, 144, 145, 146, 147, 148, 149, 150, 151, 152, 153, 154, 155, 156, 157] (by decide +kernel) (by decide +kernel)
set_option maxRecDepth 20000 in
theorem gX5_count_X5_countByKeeps : GoodIn wsX5_count (wsV RX5 216 RX5 yX5_countByKeeps wsX5_countByKeeps) := goodIn_app (goodIn_of _ (by decide +kernel)) ggX5_count_X5_countByKeeps
theorem dX5_count_0 : decode cX5_count 0 = .ok (.iload_n 1, 1) := by decide +kernel
theorem dX5_count_1 : decode cX5_count 1 = .ok (.iconst 0, 1) := by decide +kernel
theorem dX5_count_2 : decode cX5_count 2 = .ok (.iconst 3, 1) := by decide +kernel
theorem dX5_count_3 : decode cX5_count 3 = .ok (.invokestatic 107, 3) := by decide +kernel
theorem dX5_count_6 : decode cX5_count 6 = .ok (.ifCond .eq 13, 3) := by decide +kernel
theorem dX5_count_9 : decode cX5_count 9 = .ok (.iload_n 2, 1) := by decide +kernel
theorem dX5_count_10 : decode cX5_count 10 = .ok (.iconst 1, 1) := by decide +kernel
theorem dX5_count_11 : decode cX5_count 11 = .ok (.bipush 12, 2) := by decide +kernel
theorem dX5_count_13 : decode cX5_count 13 = .ok (.invokestatic 107, 3) := by decide +kernel
theorem dX5_count_16 : decode cX5_count 16 = .ok (.ifCond .ne 6, 3) := by decide +kernel
theorem dX5_count_19 : decode cX5_count 19 = .ok (.bipush (-2), 2) := by decide +kernel
theorem dX5_count_21 : decode cX5_count 21 = .ok (.ireturn, 1) := by decide +kernel
theorem dX5_count_22 : decode cX5_count 22 = .ok (.iconst 0, 1) := by decide +kernel
theorem dX5_count_23 : decode cX5_count 23 = .ok (.istore_n 3, 1) := by decide +kernel
theorem dX5_count_24 : decode cX5_count 24 = .ok (.iconst 0, 1) := by decide +kernel
theorem dX5_count_25 : decode cX5_count 25 = .ok (.istore 4, 2) := by decide +kernel
theorem dX5_count_27 : decode cX5_count 27 = .ok (.iload 4, 2) := by decide +kernel
theorem dX5_count_29 : decode cX5_count 29 = .ok (.aload_n 0, 1) := by decide +kernel
theorem dX5_count_30 : decode cX5_count 30 = .ok (.getfield 101, 3) := by decide +kernel
theorem dX5_count_33 : decode cX5_count 33 = .ok (.if_icmp .ge 29, 3) := by decide +kernel
theorem dX5_count_36 : decode cX5_count 36 = .ok (.iload_n 3, 1) := by decide +kernel
theorem dX5_count_37 : decode cX5_count 37 = .ok (.ifCond .ne 13, 3) := by decide +kernel
theorem dX5_count_40 : decode cX5_count 40 = .ok (.aload_n 0, 1) := by decide +kernel
theorem dX5_count_41 : decode cX5_count 41 = .ok (.getfield 7, 3) := by decide +kernel
theorem dX5_count_44 : decode cX5_count 44 = .ok (.iload 4, 2) := by decide +kernel
theorem dX5_count_46 : decode cX5_count 46 = .ok (.baload, 1) := by decide +kernel
theorem dX5_count_47 : decode cX5_count 47 = .ok (.ifCond .ne 7, 3) := by decide +kernel
theorem dX5_count_50 : decode cX5_count 50 = .ok (.iconst 1, 1) := by decide +kernel
theorem dX5_count_51 : decode cX5_count 51 = .ok (.goto 4, 3) := by decide +kernel
theorem dX5_count_54 : decode cX5_count 54 = .ok (.iconst 0, 1) := by decide +kernel
theorem dX5_count_55 : decode cX5_count 55 = .ok (.istore_n 3, 1) := by decide +kernel
theorem dX5_count_56 : decode cX5_count 56 = .ok (.iinc 4 1, 3) := by decide +kernel
theorem dX5_count_59 : decode cX5_count 59 = .ok (.goto (-32), 3) := by decide +kernel
theorem dX5_count_62 : decode cX5_count 62 = .ok (.iload_n 3, 1) := by decide +kernel
theorem dX5_count_63 : decode cX5_count 63 = .ok (.ifCond .ne 6, 3) := by decide +kernel
theorem dX5_count_66 : decode cX5_count 66 = .ok (.bipush (-3), 2) := by decide +kernel
theorem dX5_count_68 : decode cX5_count 68 = .ok (.ireturn, 1) := by decide +kernel
theorem dX5_count_69 : decode cX5_count 69 = .ok (.aload_n 0, 1) := by decide +kernel
theorem dX5_count_70 : decode cX5_count 70 = .ok (.iload_n 1, 1) := by decide +kernel
theorem dX5_count_71 : decode cX5_count 71 = .ok (.putfield 97, 3) := by decide +kernel
theorem dX5_count_74 : decode cX5_count 74 = .ok (.aload_n 0, 1) := by decide +kernel
theorem dX5_count_75 : decode cX5_count 75 = .ok (.iload_n 2, 1) := by decide +kernel
theorem dX5_count_76 : decode cX5_count 76 = .ok (.putfield 150, 3) := by decide +kernel
theorem dX5_count_79 : decode cX5_count 79 = .ok (.aload_n 0, 1) := by decide +kernel
theorem dX5_count_80 : decode cX5_count 80 = .ok (.aload_n 0, 1) := by decide +kernel
theorem dX5_count_81 : decode cX5_count 81 = .ok (.getfield 101, 3) := by decide +kernel
theorem dX5_count_84 : decode cX5_count 84 = .ok (.putfield 207, 3) := by decide +kernel
theorem dX5_count_87 : decode cX5_count 87 = .ok (.aload_n 0, 1) := by decide +kernel
theorem dX5_count_88 : decode cX5_count 88 = .ok (.aload_n 0, 1) := by decide +kernel
theorem dX5_count_89 : decode cX5_count 89 = .ok (.getfield 104, 3) := by decide +kernel
theorem dX5_count_92 : decode cX5_count 92 = .ok (.putfield 210, 3) := by decide +kernel
theorem dX5_count_95 : decode cX5_count 95 = .ok (.aload_n 0, 1) := by decide +kernel
theorem dX5_count_96 : decode cX5_count 96 = .ok (.iconst 0, 1) := by decide +kernel
theorem dX5_count_97 : decode cX5_count 97 = .ok (.putfield 124, 3) := by decide +kernel
theorem dX5_count_100 : decode cX5_count 100 = .ok (.aload_n 0, 1) := by decide +kernel
theorem dX5_count_101 : decode cX5_count 101 = .ok (.iconst 0, 1) := by decide +kernel
theorem dX5_count_102 : decode cX5_count 102 = .ok (.putfield 135, 3) := by decide +kernel
theorem dX5_count_105 : decode cX5_count 105 = .ok (.aload_n 0, 1) := by decide +kernel
theorem dX5_count_106 : decode cX5_count 106 = .ok (.lconst 0, 1) := by decide +kernel
theorem dX5_count_107 : decode cX5_count 107 = .ok (.putfield 153, 3) := by decide +kernel
theorem dX5_count_110 : decode cX5_count 110 = .ok (.aload_n 0, 1) := by decide +kernel
theorem dX5_count_111 : decode cX5_count 111 = .ok (.lconst 0, 1) := by decide +kernel
theorem dX5_count_112 : decode cX5_count 112 = .ok (.putfield 156, 3) := by decide +kernel
theorem dX5_count_115 : decode cX5_count 115 = .ok (.iconst 0, 1) := by decide +kernel
theorem dX5_count_116 : decode cX5_count 116 = .ok (.istore 4, 2) := by decide +kernel
theorem dX5_count_118 : decode cX5_count 118 = .ok (.iload 4, 2) := by decide +kernel
theorem dX5_count_120 : decode cX5_count 120 = .ok (.bipush 12, 2) := by decide +kernel
theorem dX5_count_122 : decode cX5_count 122 = .ok (.if_icmp .ge 58, 3) := by decide +kernel
theorem dX5_count_125 : decode cX5_count 125 = .ok (.aload_n 0, 1) := by decide +kernel
theorem dX5_count_126 : decode cX5_count 126 = .ok (.getfield 72, 3) := by decide +kernel
theorem dX5_count_129 : decode cX5_count 129 = .ok (.iload 4, 2) := by decide +kernel
theorem dX5_count_131 : decode cX5_count 131 = .ok (.lconst 0, 1) := by decide +kernel
theorem dX5_count_132 : decode cX5_count 132 = .ok (.lastore, 1) := by decide +kernel
theorem dX5_count_133 : decode cX5_count 133 = .ok (.aload_n 0, 1) := by decide +kernel
theorem dX5_count_134 : decode cX5_count 134 = .ok (.getfield 75, 3) := by decide +kernel
theorem dX5_count_137 : decode cX5_count 137 = .ok (.iload 4, 2) := by decide +kernel
theorem dX5_count_139 : decode cX5_count 139 = .ok (.iload 4, 2) := by decide +kernel
theorem dX5_count_141 : decode cX5_count 141 = .ok (.aload_n 0, 1) := by decide +kernel
theorem dX5_count_142 : decode cX5_count 142 = .ok (.getfield 101, 3) := by decide +kernel
theorem dX5_count_145 : decode cX5_count 145 = .ok (.if_icmp .ge 13, 3) := by decide +kernel
theorem dX5_count_148 : decode cX5_count 148 = .ok (.aload_n 0, 1) := by decide +kernel
theorem dX5_count_149 : decode cX5_count 149 = .ok (.getfield 7, 3) := by decide +kernel
theorem dX5_count_152 : decode cX5_count 152 = .ok (.iload 4, 2) := by decide +kernel
theorem dX5_count_154 : decode cX5_count 154 = .ok (.baload, 1) := by decide +kernel
theorem dX5_count_155 : decode cX5_count 155 = .ok (.ifCond .eq 7, 3) := by decide +kernel
theorem dX5_count_158 : decode cX5_count 158 = .ok (.iconst 3, 1) := by decide +kernel
theorem dX5_count_159 : decode cX5_count 159 = .ok (.goto 4, 3) := by decide +kernel
theorem dX5_count_162 : decode cX5_count 162 = .ok (.iconst 0, 1) := by decide +kernel
theorem dX5_count_163 : decode cX5_count 163 = .ok (.iastore, 1) := by decide +kernel
theorem dX5_count_164 : decode cX5_count 164 = .ok (.aload_n 0, 1) := by decide +kernel
theorem dX5_count_165 : decode cX5_count 165 = .ok (.getfield 78, 3) := by decide +kernel
theorem dX5_count_168 : decode cX5_count 168 = .ok (.iload 4, 2) := by decide +kernel
theorem dX5_count_170 : decode cX5_count 170 = .ok (.ldc2_w 196, 3) := by decide +kernel
theorem dX5_count_173 : decode cX5_count 173 = .ok (.lastore, 1) := by decide +kernel
theorem dX5_count_174 : decode cX5_count 174 = .ok (.iinc 4 1, 3) := by decide +kernel
theorem dX5_count_177 : decode cX5_count 177 = .ok (.goto (-59), 3) := by decide +kernel
theorem dX5_count_180 : decode cX5_count 180 = .ok (.iload_n 1, 1) := by decide +kernel
theorem dX5_count_181 : decode cX5_count 181 = .ok (.iconst 3, 1) := by decide +kernel
theorem dX5_count_182 : decode cX5_count 182 = .ok (.if_icmp .ge 10, 3) := by decide +kernel
theorem dX5_count_185 : decode cX5_count 185 = .ok (.aload_n 0, 1) := by decide +kernel
theorem dX5_count_186 : decode cX5_count 186 = .ok (.invokevirtual 213, 3) := by decide +kernel
theorem dX5_count_189 : decode cX5_count 189 = .ok (.goto 7, 3) := by decide +kernel
theorem dX5_count_192 : decode cX5_count 192 = .ok (.aload_n 0, 1) := by decide +kernel
theorem dX5_count_193 : decode cX5_count 193 = .ok (.invokevirtual 216, 3) := by decide +kernel
theorem dX5_count_196 : decode cX5_count 196 = .ok (.aload_n 0, 1) := by decide +kernel
theorem dX5_count_197 : decode cX5_count 197 = .ok (.getfield 124, 3) := by decide +kernel
theorem dX5_count_200 : decode cX5_count 200 = .ok (.ireturn, 1) := by decide +kernel
set_option maxRecDepth 20000 in
theorem ggX5_noStage_X5_in : GoodIn wsX5_noStage wsX5_in := goodIn_r _ [5] (by decide +kernel) (by decide +kernel)
set_option maxRecDepth 20000 in
theorem gX5_noStage_X5_in : GoodIn wsX5_noStage (va_wsS RX5 107 yX5_in wsX5_in) := goodIn_app (goodIn_of _ (by decide +kernel)) ggX5_noStage_X5_in
theorem dX5_noStage_0 : decode cX5_noStage 0 = .ok (.iload_n 1, 1) := by decide +kernel
theorem dX5_noStage_1 : decode cX5_noStage 1 = .ok (.iconst 0, 1) := by decide +kernel
theorem dX5_noStage_2 : decode cX5_noStage 2 = .ok (.aload_n 0, 1) := by decide +kernel
theorem dX5_noStage_3 : decode cX5_noStage 3 = .ok (.getfield 124, 3) := by decide +kernel
theorem dX5_noStage_6 : decode cX5_noStage 6 = .ok (.iconst 1, 1) := by decide +kernel
theorem dX5_noStage_7 : decode cX5_noStage 7 = .ok (.isub, 1) := by decide +kernel
theorem dX5_noStage_8 : decode cX5_noStage 8 = .ok (.invokestatic 107, 3) := by decide +kernel
theorem dX5_noStage_11 : decode cX5_noStage 11 = .ok (.ifCond .ne 7, 3) := by decide +kernel
theorem dX5_noStage_14 : decode cX5_noStage 14 = .ok (.iconst 1, 1) := by decide +kernel
theorem dX5_noStage_15 : decode cX5_noStage 15 = .ok (.goto 4, 3) := by decide +kernel
theorem dX5_noStage_18 : decode cX5_noStage 18 = .ok (.iconst 0, 1) := by decide +kernel
theorem dX5_noStage_19 : decode cX5_noStage 19 = .ok (.ireturn, 1) := by decide +kernel
set_option maxRecDepth 20000 in
theorem ggX5_noVotes_X5_noStage : GoodIn wsX5_noVotes wsX5_noStage := goodIn_r _ [6, 7, 8, 9, 5, 10, 11, 12, 13, 14, 15, 16, 17, 18, 19, 20, 21, 22, 23, 24, 25, 26, 27, 28, 29, 30, 31, 32, 33, 34, 35, 36, 37, 38, 39, 40, 41, 42, 43, 44, 45, 46, 47, 48] (by decide +kernel) (by decide +kernel)
set_option maxRecDepth 20000 in
theorem gX5_noVotes_X5_noStage : GoodIn wsX5_noVotes (wsV RX5 219 RX5 yX5_noStage wsX5_noStage) := goodIn_app (goodIn_of _ (by decide +kernel)) ggX5_noVotes_X5_noStage
set_option maxRecDepth 20000 in
theorem ggX5_noVotes_X5_in : GoodIn wsX5_noVotes wsX5_in := goodIn_r _ [10] (by decide +kernel) (by decide +kernel)
set_option maxRecDepth 20000 in
theorem gX5_noVotes_X5_in : GoodIn wsX5_noVotes (va_wsS RX5 107 yX5_in wsX5_in) := goodIn_app (goodIn_of _ (by decide +kernel)) ggX5_noVotes_X5_in
theorem dX5_noVotes_0 : decode cX5_noVotes 0 = .ok (.aload_n 0, 1) := by decide +kernel
theorem dX5_noVotes_1 : decode cX5_noVotes 1 = .ok (.iload_n 1, 1) := by decide +kernel
theorem dX5_noVotes_2 : decode cX5_noVotes 2 = .ok (.invokevirtual 219, 3) := by decide +kernel
theorem dX5_noVotes_5 : decode cX5_noVotes 5 = .ok (.ifCond .ne 17, 3) := by decide +kernel
theorem dX5_noVotes_8 : decode cX5_noVotes 8 = .ok (.iload_n 2, 1) := by decide +kernel
theorem dX5_noVotes_9 : decode cX5_noVotes 9 = .ok (.iconst 0, 1) := by decide +kernel
theorem dX5_noVotes_10 : decode cX5_noVotes 10 = .ok (.aload_n 0, 1) := by decide +kernel
theorem dX5_noVotes_11 : decode cX5_noVotes 11 = .ok (.getfield 207, 3) := by decide +kernel
theorem dX5_noVotes_14 : decode cX5_noVotes 14 = .ok (.iconst 1, 1) := by decide +kernel
theorem dX5_noVotes_15 : decode cX5_noVotes 15 = .ok (.isub, 1) := by decide +kernel
theorem dX5_noVotes_16 : decode cX5_noVotes 16 = .ok (.invokestatic 107, 3) := by decide +kernel
theorem dX5_noVotes_19 : decode cX5_noVotes 19 = .ok (.ifCond .ne 7, 3) := by decide +kernel
theorem dX5_noVotes_22 : decode cX5_noVotes 22 = .ok (.iconst 1, 1) := by decide +kernel
theorem dX5_noVotes_23 : decode cX5_noVotes 23 = .ok (.goto 4, 3) := by decide +kernel
theorem dX5_noVotes_26 : decode cX5_noVotes 26 = .ok (.iconst 0, 1) := by decide +kernel
theorem dX5_noVotes_27 : decode cX5_noVotes 27 = .ok (.ireturn, 1) := by decide +kernel
set_option maxRecDepth 20000 in
theorem ggX5_stage_X5_noStage : GoodIn wsX5_stage wsX5_noStage := goodIn_r _ [14, 15, 16, 17, 13, 18, 19, 20, 21, 22, 23, 24, 25, 26, 27, 28, 29, 30, 31, 32, 33, 34, 35, 36, 37, 38, 39, 40, 41, 42, 43, 44, 45, 46, 47, 48, 49, 50, 51, 52, 53, 54, 55, 56] (by decide +kernel) (by decide +kernel)
set_option maxRecDepth 20000 in
theorem gX5_stage_X5_noStage : GoodIn wsX5_stage (wsV RX5 219 RX5 yX5_noStage wsX5_noStage) := goodIn_app (goodIn_of _ (by decide +kernel)) ggX5_stage_X5_noStage
theorem dX5_stage_0 : decode cX5_stage 0 = .ok (.aload_n 0, 1) := by decide +kernel
theorem dX5_stage_1 : decode cX5_stage 1 = .ok (.iload_n 1, 1) := by decide +kernel
theorem dX5_stage_2 : decode cX5_stage 2 = .ok (.invokevirtual 219, 3) := by decide +kernel
theorem dX5_stage_5 : decode cX5_stage 5 = .ok (.ifCond .eq 7, 3) := by decide +kernel
theorem dX5_stage_8 : decode cX5_stage 8 = .ok (.ldc2_w 222, 3) := by decide +kernel
theorem dX5_stage_11 : decode cX5_stage 11 = .ok (.lreturn, 1) := by decide +kernel
theorem dX5_stage_12 : decode cX5_stage 12 = .ok (.iload_n 2, 1) := by decide +kernel
theorem dX5_stage_13 : decode cX5_stage 13 = .ok (.tableswitch 95 0 6 #[43, 51, 59, 66, 73, 81, 88], 43) := by decide +kernel
theorem dX5_stage_56 : decode cX5_stage 56 = .ok (.aload_n 0, 1) := by decide +kernel
theorem dX5_stage_57 : decode cX5_stage 57 = .ok (.getfield 29, 3) := by decide +kernel
theorem dX5_stage_60 : decode cX5_stage 60 = .ok (.iload_n 1, 1) := by decide +kernel
theorem dX5_stage_61 : decode cX5_stage 61 = .ok (.iaload, 1) := by decide +kernel
theorem dX5_stage_62 : decode cX5_stage 62 = .ok (.i2l, 1) := by decide +kernel
theorem dX5_stage_63 : decode cX5_stage 63 = .ok (.lreturn, 1) := by decide +kernel
theorem dX5_stage_64 : decode cX5_stage 64 = .ok (.aload_n 0, 1) := by decide +kernel
theorem dX5_stage_65 : decode cX5_stage 65 = .ok (.getfield 32, 3) := by decide +kernel
theorem dX5_stage_68 : decode cX5_stage 68 = .ok (.iload_n 1, 1) := by decide +kernel
theorem dX5_stage_69 : decode cX5_stage 69 = .ok (.iaload, 1) := by decide +kernel
theorem dX5_stage_70 : decode cX5_stage 70 = .ok (.i2l, 1) := by decide +kernel
theorem dX5_stage_71 : decode cX5_stage 71 = .ok (.lreturn, 1) := by decide +kernel
theorem dX5_stage_72 : decode cX5_stage 72 = .ok (.aload_n 0, 1) := by decide +kernel
theorem dX5_stage_73 : decode cX5_stage 73 = .ok (.getfield 35, 3) := by decide +kernel
theorem dX5_stage_76 : decode cX5_stage 76 = .ok (.iload_n 1, 1) := by decide +kernel
theorem dX5_stage_77 : decode cX5_stage 77 = .ok (.laload, 1) := by decide +kernel
theorem dX5_stage_78 : decode cX5_stage 78 = .ok (.lreturn, 1) := by decide +kernel
theorem dX5_stage_79 : decode cX5_stage 79 = .ok (.aload_n 0, 1) := by decide +kernel
theorem dX5_stage_80 : decode cX5_stage 80 = .ok (.getfield 39, 3) := by decide +kernel
theorem dX5_stage_83 : decode cX5_stage 83 = .ok (.iload_n 1, 1) := by decide +kernel
theorem dX5_stage_84 : decode cX5_stage 84 = .ok (.laload, 1) := by decide +kernel
theorem dX5_stage_85 : decode cX5_stage 85 = .ok (.lreturn, 1) := by decide +kernel
theorem dX5_stage_86 : decode cX5_stage 86 = .ok (.aload_n 0, 1) := by decide +kernel
theorem dX5_stage_87 : decode cX5_stage 87 = .ok (.getfield 42, 3) := by decide +kernel
theorem dX5_stage_90 : decode cX5_stage 90 = .ok (.iload_n 1, 1) := by decide +kernel
theorem dX5_stage_91 : decode cX5_stage 91 = .ok (.iaload, 1) := by decide +kernel
theorem dX5_stage_92 : decode cX5_stage 92 = .ok (.i2l, 1) := by decide +kernel
theorem dX5_stage_93 : decode cX5_stage 93 = .ok (.lreturn, 1) := by decide +kernel
theorem dX5_stage_94 : decode cX5_stage 94 = .ok (.aload_n 0, 1) := by decide +kernel
theorem dX5_stage_95 : decode cX5_stage 95 = .ok (.getfield 45, 3) := by decide +kernel
theorem dX5_stage_98 : decode cX5_stage 98 = .ok (.iload_n 1, 1) := by decide +kernel
theorem dX5_stage_99 : decode cX5_stage 99 = .ok (.laload, 1) := by decide +kernel
theorem dX5_stage_100 : decode cX5_stage 100 = .ok (.lreturn, 1) := by decide +kernel
theorem dX5_stage_101 : decode cX5_stage 101 = .ok (.aload_n 0, 1) := by decide +kernel
theorem dX5_stage_102 : decode cX5_stage 102 = .ok (.getfield 48, 3) := by decide +kernel
theorem dX5_stage_105 : decode cX5_stage 105 = .ok (.iload_n 1, 1) := by decide +kernel
theorem dX5_stage_106 : decode cX5_stage 106 = .ok (.laload, 1) := by decide +kernel
theorem dX5_stage_107 : decode cX5_stage 107 = .ok (.lreturn, 1) := by decide +kernel
theorem dX5_stage_108 : decode cX5_stage 108 = .ok (.ldc2_w 224, 3) := by decide +kernel
theorem dX5_stage_111 : decode cX5_stage 111 = .ok (.lreturn, 1) := by decide +kernel
set_option maxRecDepth 20000 in
theorem ggX5_votes_X5_noVotes : GoodIn wsX5_votes wsX5_noVotes := goodIn_r _ [7, 8, 9, 10, 11, 6, 12, 13, 14, 15, 16, 17, 18, 19, 20, 21, 22, 23, 24, 25, 26, 27, 28, 29, 30, 31, 32, 33, 34, 35, 36, 37, 38, 39, 40, 41, 42, 43, 44, 45, 46, 47, 48, 49, 50, 51, 52, 53, 54] (by decide +kernel) (by decide +kernel)
set_option maxRecDepth 20000 in
theorem gX5_votes_X5_noVotes : GoodIn wsX5_votes (wsV RX5 226 RX5 yX5_noVotes wsX5_noVotes) := goodIn_app (goodIn_of _ (by decide +kernel)) ggX5_votes_X5_noVotes
theorem dX5_votes_0 : decode cX5_votes 0 = .ok (.aload_n 0, 1) := by decide +kernel
theorem dX5_votes_1 : decode cX5_votes 1 = .ok (.iload_n 1, 1) := by decide +kernel
theorem dX5_votes_2 : decode cX5_votes 2 = .ok (.iload_n 2, 1) := by decide +kernel
theorem dX5_votes_3 : decode cX5_votes 3 = .ok (.invokevirtual 226, 3) := by decide +kernel
theorem dX5_votes_6 : decode cX5_votes 6 = .ok (.ifCond .eq 9, 3) := by decide +kernel
theorem dX5_votes_9 : decode cX5_votes 9 = .ok (.ldc2_w 222, 3) := by decide +kernel
theorem dX5_votes_12 : decode cX5_votes 12 = .ok (.goto 14, 3) := by decide +kernel
theorem dX5_votes_15 : decode cX5_votes 15 = .ok (.aload_n 0, 1) := by decide +kernel
theorem dX5_votes_16 : decode cX5_votes 16 = .ok (.getfield 51, 3) := by decide +kernel
theorem dX5_votes_19 : decode cX5_votes 19 = .ok (.bipush 12, 2) := by decide +kernel
theorem dX5_votes_21 : decode cX5_votes 21 = .ok (.iload_n 1, 1) := by decide +kernel
theorem dX5_votes_22 : decode cX5_votes 22 = .ok (.imul, 1) := by decide +kernel
theorem dX5_votes_23 : decode cX5_votes 23 = .ok (.iload_n 2, 1) := by decide +kernel
theorem dX5_votes_24 : decode cX5_votes 24 = .ok (.iadd, 1) := by decide +kernel
theorem dX5_votes_25 : decode cX5_votes 25 = .ok (.laload, 1) := by decide +kernel
theorem dX5_votes_26 : decode cX5_votes 26 = .ok (.lreturn, 1) := by decide +kernel
set_option maxRecDepth 20000 in
theorem ggX5_status_X5_noVotes : GoodIn wsX5_status wsX5_noVotes := goodIn_r _ [6, 7, 8, 9, 10, 5, 11, 12, 13, 14, 15, 16, 17, 18, 19, 20, 21, 22, 23, 24, 25, 26, 27, 28, 29, 30, 31, 32, 33, 34, 35, 36, 37, 38, 39, 40, 41, 42, 43, 44, 45, 46, 47, 48, 49, 50, 51, 52, 53] (by decide +kernel) (by decide +kernel)
set_option maxRecDepth 20000 in
theorem gX5_status_X5_noVotes : GoodIn wsX5_status (wsV RX5 226 RX5 yX5_noVotes wsX5_noVotes) := goodIn_app (goodIn_of _ (by decide +kernel)) ggX5_status_X5_noVotes
theorem dX5_status_0 : decode cX5_status 0 = .ok (.aload_n 0, 1) := by decide +kernel
theorem dX5_status_1 : decode cX5_status 1 = .ok (.iload_n 1, 1) := by decide +kernel
theorem dX5_status_2 : decode cX5_status 2 = .ok (.iload_n 2, 1) := by decide +kernel
theorem dX5_status_3 : decode cX5_status 3 = .ok (.invokevirtual 226, 3) := by decide +kernel
theorem dX5_status_6 : decode cX5_status 6 = .ok (.ifCond .eq 7, 3) := by decide +kernel
theorem dX5_status_9 : decode cX5_status 9 = .ok (.iconst (-1), 1) := by decide +kernel
theorem dX5_status_10 : decode cX5_status 10 = .ok (.goto 14, 3) := by decide +kernel
theorem dX5_status_13 : decode cX5_status 13 = .ok (.aload_n 0, 1) := by decide +kernel
theorem dX5_status_14 : decode cX5_status 14 = .ok (.getfield 54, 3) := by decide +kernel
theorem dX5_status_17 : decode cX5_status 17 = .ok (.bipush 12, 2) := by decide +kernel
theorem dX5_status_19 : decode cX5_status 19 = .ok (.iload_n 1, 1) := by decide +kernel
theorem dX5_status_20 : decode cX5_status 20 = .ok (.imul, 1) := by decide +kernel
theorem dX5_status_21 : decode cX5_status 21 = .ok (.iload_n 2, 1) := by decide +kernel
theorem dX5_status_22 : decode cX5_status 22 = .ok (.iadd, 1) := by decide +kernel
theorem dX5_status_23 : decode cX5_status 23 = .ok (.iaload, 1) := by decide +kernel
theorem dX5_status_24 : decode cX5_status 24 = .ok (.ireturn, 1) := by decide +kernel
set_option maxRecDepth 20000 in
theorem ggX5_elected_X5_in : GoodIn wsX5_elected wsX5_in := goodIn_r _ [6] (by decide +kernel) (by decide +kernel)
set_option maxRecDepth 20000 in
theorem gX5_elected_X5_in : GoodIn wsX5_elected (va_wsS RX5 107 yX5_in wsX5_in) := goodIn_app (goodIn_of _ (by decide +kernel)) ggX5_elected_X5_in
theorem dX5_elected_0 : decode cX5_elected 0 = .ok (.iload_n 1, 1) := by decide +kernel
theorem dX5_elected_1 : decode cX5_elected 1 = .ok (.iconst 0, 1) := by decide +kernel
theorem dX5_elected_2 : decode cX5_elected 2 = .ok (.aload_n 0, 1) := by decide +kernel
theorem dX5_elected_3 : decode cX5_elected 3 = .ok (.getfield 135, 3) := by decide +kernel
theorem dX5_elected_6 : decode cX5_elected 6 = .ok (.iconst 1, 1) := by decide +kernel
theorem dX5_elected_7 : decode cX5_elected 7 = .ok (.isub, 1) := by decide +kernel
theorem dX5_elected_8 : decode cX5_elected 8 = .ok (.invokestatic 107, 3) := by decide +kernel
theorem dX5_elected_11 : decode cX5_elected 11 = .ok (.ifCond .eq 12, 3) := by decide +kernel
theorem dX5_elected_14 : decode cX5_elected 14 = .ok (.aload_n 0, 1) := by decide +kernel
theorem dX5_elected_15 : decode cX5_elected 15 = .ok (.getfield 69, 3) := by decide +kernel
theorem dX5_elected_18 : decode cX5_elected 18 = .ok (.iload_n 1, 1) := by decide +kernel
theorem dX5_elected_19 : decode cX5_elected 19 = .ok (.iaload, 1) := by decide +kernel
theorem dX5_elected_20 : decode cX5_elected 20 = .ok (.goto 5, 3) := by decide +kernel
theorem dX5_elected_23 : decode cX5_elected 23 = .ok (.bipush (-9), 2) := by decide +kernel
theorem dX5_elected_25 : decode cX5_elected 25 = .ok (.ireturn, 1) := by decide +kernel
set_option maxRecDepth 20000 in
theorem ggX5_keep_X5_noVotes : GoodIn wsX5_keep wsX5_noVotes := goodIn_r _ [8, 9, 10, 11, 12, 7, 13, 14, 15, 16, 17, 18, 19, 20, 21, 22, 23, 24, 25, 26, 27, 28, 29, 30, 31, 32, 33, 34, 35, 36, 37, 38, 39, 40, 41, 42, 43, 44, 45, 46, 47, 48, 49, 50, 51, 52, 53, 54, 55] (by decide +kernel) (by decide +kernel)
set_option maxRecDepth 20000 in
theorem gX5_keep_X5_noVotes : GoodIn wsX5_keep (wsV RX5 226 RX5 yX5_noVotes wsX5_noVotes) := goodIn_app (goodIn_of _ (by decide +kernel)) ggX5_keep_X5_noVotes
theorem dX5_keep_0 : decode cX5_keep 0 = .ok (.aload_n 0, 1) := by decide +kernel
theorem dX5_keep_1 : decode cX5_keep 1 = .ok (.iload_n 1, 1) := by decide +kernel
theorem dX5_keep_2 : decode cX5_keep 2 = .ok (.iload_n 2, 1) := by decide +kernel
theorem dX5_keep_3 : decode cX5_keep 3 = .ok (.invokevirtual 226, 3) := by decide +kernel
theorem dX5_keep_6 : decode cX5_keep 6 = .ok (.ifCond .eq 5, 3) := by decide +kernel
theorem dX5_keep_9 : decode cX5_keep 9 = .ok (.iconst (-1), 1) := by decide +kernel
theorem dX5_keep_10 : decode cX5_keep 10 = .ok (.ireturn, 1) := by decide +kernel
theorem dX5_keep_11 : decode cX5_keep 11 = .ok (.aload_n 0, 1) := by decide +kernel
theorem dX5_keep_12 : decode cX5_keep 12 = .ok (.getfield 97, 3) := by decide +kernel
theorem dX5_keep_15 : decode cX5_keep 15 = .ok (.iconst 3, 1) := by decide +kernel
theorem dX5_keep_16 : decode cX5_keep 16 = .ok (.if_icmp .ne 18, 3) := by decide +kernel
theorem dX5_keep_19 : decode cX5_keep 19 = .ok (.aload_n 0, 1) := by decide +kernel
theorem dX5_keep_20 : decode cX5_keep 20 = .ok (.getfield 54, 3) := by decide +kernel
theorem dX5_keep_23 : decode cX5_keep 23 = .ok (.bipush 12, 2) := by decide +kernel
theorem dX5_keep_25 : decode cX5_keep 25 = .ok (.iload_n 1, 1) := by decide +kernel
theorem dX5_keep_26 : decode cX5_keep 26 = .ok (.imul, 1) := by decide +kernel
theorem dX5_keep_27 : decode cX5_keep 27 = .ok (.iload_n 2, 1) := by decide +kernel
theorem dX5_keep_28 : decode cX5_keep 28 = .ok (.iadd, 1) := by decide +kernel
theorem dX5_keep_29 : decode cX5_keep 29 = .ok (.iaload, 1) := by decide +kernel
theorem dX5_keep_30 : decode cX5_keep 30 = .ok (.iconst 3, 1) := by decide +kernel
theorem dX5_keep_31 : decode cX5_keep 31 = .ok (.if_icmp .ne 8, 3) := by decide +kernel
theorem dX5_keep_34 : decode cX5_keep 34 = .ok (.bipush (-3), 2) := by decide +kernel
theorem dX5_keep_36 : decode cX5_keep 36 = .ok (.goto 15, 3) := by decide +kernel
theorem dX5_keep_39 : decode cX5_keep 39 = .ok (.aload_n 0, 1) := by decide +kernel
theorem dX5_keep_40 : decode cX5_keep 40 = .ok (.getfield 57, 3) := by decide +kernel
theorem dX5_keep_43 : decode cX5_keep 43 = .ok (.bipush 12, 2) := by decide +kernel
theorem dX5_keep_45 : decode cX5_keep 45 = .ok (.iload_n 1, 1) := by decide +kernel
theorem dX5_keep_46 : decode cX5_keep 46 = .ok (.imul, 1) := by decide +kernel
theorem dX5_keep_47 : decode cX5_keep 47 = .ok (.iload_n 2, 1) := by decide +kernel
theorem dX5_keep_48 : decode cX5_keep 48 = .ok (.iadd, 1) := by decide +kernel
theorem dX5_keep_49 : decode cX5_keep 49 = .ok (.laload, 1) := by decide +kernel
theorem dX5_keep_50 : decode cX5_keep 50 = .ok (.l2i, 1) := by decide +kernel
theorem dX5_keep_51 : decode cX5_keep 51 = .ok (.ireturn, 1) := by decide +kernel
set_option maxRecDepth 20000 in
theorem ggX5_lies_X5_noStage : GoodIn wsX5_lies wsX5_noStage := goodIn_r _ [9, 10, 11, 12, 8, 13, 14, 15, 16, 17, 18, 19, 20, 21, 22, 23, 24, 25, 26, 27, 28, 29, 30, 31, 32, 33, 34, 35, 36, 37, 38, 39, 40, 41, 42, 43, 44, 45, 46, 47, 48, 49, 50, 51] (by decide +kernel) (by decide +kernel)
set_option maxRecDepth 20000 in
theorem gX5_lies_X5_noStage : GoodIn wsX5_lies (wsV RX5 219 RX5 yX5_noStage wsX5_noStage) := goodIn_app (goodIn_of _ (by decide +kernel)) ggX5_lies_X5_noStage
set_option maxRecDepth 20000 in
theorem ggX5_lies_X5_in : GoodIn wsX5_lies wsX5_in := goodIn_r _ [13] (by decide +kernel) (by decide +kernel)
set_option maxRecDepth 20000 in
theorem gX5_lies_X5_in : GoodIn wsX5_lies (va_wsS RX5 107 yX5_in wsX5_in) := goodIn_app (goodIn_of _ (by decide +kernel)) ggX5_lies_X5_in
theorem dX5_lies_0 : decode cX5_lies 0 = .ok (.aload_n 0, 1) := by decide +kernel
theorem dX5_lies_1 : decode cX5_lies 1 = .ok (.iload_n 1, 1) := by decide +kernel
theorem dX5_lies_2 : decode cX5_lies 2 = .ok (.invokevirtual 219, 3) := by decide +kernel
theorem dX5_lies_5 : decode cX5_lies 5 = .ok (.ifCond .ne 25, 3) := by decide +kernel
theorem dX5_lies_8 : decode cX5_lies 8 = .ok (.aload_n 0, 1) := by decide +kernel
theorem dX5_lies_9 : decode cX5_lies 9 = .ok (.getfield 97, 3) := by decide +kernel
theorem dX5_lies_12 : decode cX5_lies 12 = .ok (.iconst 3, 1) := by decide +kernel
theorem dX5_lies_13 : decode cX5_lies 13 = .ok (.if_icmp .ge 19, 3) := by decide +kernel
theorem dX5_lies_16 : decode cX5_lies 16 = .ok (.iload_n 2, 1) := by decide +kernel
theorem dX5_lies_17 : decode cX5_lies 17 = .ok (.iconst 0, 1) := by decide +kernel
theorem dX5_lies_18 : decode cX5_lies 18 = .ok (.aload_n 0, 1) := by decide +kernel
theorem dX5_lies_19 : decode cX5_lies 19 = .ok (.getfield 210, 3) := by decide +kernel
theorem dX5_lies_22 : decode cX5_lies 22 = .ok (.iconst 1, 1) := by decide +kernel
theorem dX5_lies_23 : decode cX5_lies 23 = .ok (.isub, 1) := by decide +kernel
theorem dX5_lies_24 : decode cX5_lies 24 = .ok (.invokestatic 107, 3) := by decide +kernel
theorem dX5_lies_27 : decode cX5_lies 27 = .ok (.ifCond .ne 5, 3) := by decide +kernel
theorem dX5_lies_30 : decode cX5_lies 30 = .ok (.iconst (-1), 1) := by decide +kernel
theorem dX5_lies_31 : decode cX5_lies 31 = .ok (.ireturn, 1) := by decide +kernel
theorem dX5_lies_32 : decode cX5_lies 32 = .ok (.iload_n 3, 1) := by decide +kernel
theorem dX5_lies_33 : decode cX5_lies 33 = .ok (.iconst 0, 1) := by decide +kernel
theorem dX5_lies_34 : decode cX5_lies 34 = .ok (.iconst 1, 1) := by decide +kernel
theorem dX5_lies_35 : decode cX5_lies 35 = .ok (.invokestatic 107, 3) := by decide +kernel
theorem dX5_lies_38 : decode cX5_lies 38 = .ok (.ifCond .ne 6, 3) := by decide +kernel
theorem dX5_lies_41 : decode cX5_lies 41 = .ok (.bipush (-2), 2) := by decide +kernel
theorem dX5_lies_43 : decode cX5_lies 43 = .ok (.ireturn, 1) := by decide +kernel
theorem dX5_lies_44 : decode cX5_lies 44 = .ok (.aload_n 0, 1) := by decide +kernel
theorem dX5_lies_45 : decode cX5_lies 45 = .ok (.getfield 97, 3) := by decide +kernel
theorem dX5_lies_48 : decode cX5_lies 48 = .ok (.iconst 3, 1) := by decide +kernel
theorem dX5_lies_49 : decode cX5_lies 49 = .ok (.if_icmp .ne 6, 3) := by decide +kernel
theorem dX5_lies_52 : decode cX5_lies 52 = .ok (.bipush (-3), 2) := by decide +kernel
theorem dX5_lies_54 : decode cX5_lies 54 = .ok (.ireturn, 1) := by decide +kernel
theorem dX5_lies_55 : decode cX5_lies 55 = .ok (.aload_n 0, 1) := by decide +kernel
theorem dX5_lies_56 : decode cX5_lies 56 = .ok (.getfield 60, 3) := by decide +kernel
theorem dX5_lies_59 : decode cX5_lies 59 = .ok (.bipush 80, 2) := by decide +kernel
theorem dX5_lies_61 : decode cX5_lies 61 = .ok (.iload_n 1, 1) := by decide +kernel
theorem dX5_lies_62 : decode cX5_lies 62 = .ok (.imul, 1) := by decide +kernel
theorem dX5_lies_63 : decode cX5_lies 63 = .ok (.iload_n 2, 1) := by decide +kernel
theorem dX5_lies_64 : decode cX5_lies 64 = .ok (.iadd, 1) := by decide +kernel
theorem dX5_lies_65 : decode cX5_lies 65 = .ok (.iaload, 1) := by decide +kernel
theorem dX5_lies_66 : decode cX5_lies 66 = .ok (.istore 4, 2) := by decide +kernel
theorem dX5_lies_68 : decode cX5_lies 68 = .ok (.iload_n 3, 1) := by decide +kernel
theorem dX5_lies_69 : decode cX5_lies 69 = .ok (.ifCond .ne 18, 3) := by decide +kernel
theorem dX5_lies_72 : decode cX5_lies 72 = .ok (.iload 4, 2) := by decide +kernel
theorem dX5_lies_74 : decode cX5_lies 74 = .ok (.ifCond .ge 8, 3) := by decide +kernel
theorem dX5_lies_77 : decode cX5_lies 77 = .ok (.bipush (-9), 2) := by decide +kernel
theorem dX5_lies_79 : decode cX5_lies 79 = .ok (.goto 20, 3) := by decide +kernel
theorem dX5_lies_82 : decode cX5_lies 82 = .ok (.iload 4, 2) := by decide +kernel
theorem dX5_lies_84 : decode cX5_lies 84 = .ok (.goto 15, 3) := by decide +kernel
theorem dX5_lies_87 : decode cX5_lies 87 = .ok (.aload_n 0, 1) := by decide +kernel
theorem dX5_lies_88 : decode cX5_lies 88 = .ok (.getfield 63, 3) := by decide +kernel
theorem dX5_lies_91 : decode cX5_lies 91 = .ok (.bipush 80, 2) := by decide +kernel
theorem dX5_lies_93 : decode cX5_lies 93 = .ok (.iload_n 1, 1) := by decide +kernel
theorem dX5_lies_94 : decode cX5_lies 94 = .ok (.imul, 1) := by decide +kernel
theorem dX5_lies_95 : decode cX5_lies 95 = .ok (.iload_n 2, 1) := by decide +kernel
theorem dX5_lies_96 : decode cX5_lies 96 = .ok (.iadd, 1) := by decide +kernel
theorem dX5_lies_97 : decode cX5_lies 97 = .ok (.laload, 1) := by decide +kernel
theorem dX5_lies_98 : decode cX5_lies 98 = .ok (.l2i, 1) := by decide +kernel
theorem dX5_lies_99 : decode cX5_lies 99 = .ok (.ireturn, 1) := by decide +kernel
set_option maxRecDepth 20000 in
theorem ggX5_sheet_X5_noVotes : GoodIn wsX5_sheet wsX5_noVotes := goodIn_r _ [7, 8, 9, 10, 11, 6, 12, 13, 14, 15, 16, 17, 18, 19, 20, 21, 22, 23, 24, 25, 26, 27, 28, 29, 30, 31, 32, 33, 34, 35, 36, 37, 38, 39, 40, 41, 42, 43, 44, 45, 46, 47, 48, 49, 50, 51, 52, 53, 54] (by decide +kernel) (by decide +kernel)
set_option maxRecDepth 20000 in
theorem gX5_sheet_X5_noVotes : GoodIn wsX5_sheet (wsV RX5 226 RX5 yX5_noVotes wsX5_noVotes) := goodIn_app (goodIn_of _ (by decide +kernel)) ggX5_sheet_X5_noVotes
theorem dX5_sheet_0 : decode cX5_sheet 0 = .ok (.aload_n 0, 1) := by decide +kernel
theorem dX5_sheet_1 : decode cX5_sheet 1 = .ok (.iload_n 1, 1) := by decide +kernel
theorem dX5_sheet_2 : decode cX5_sheet 2 = .ok (.iload_n 2, 1) := by decide +kernel
theorem dX5_sheet_3 : decode cX5_sheet 3 = .ok (.invokevirtual 226, 3) := by decide +kernel
theorem dX5_sheet_6 : decode cX5_sheet 6 = .ok (.ifCond .eq 9, 3) := by decide +kernel
theorem dX5_sheet_9 : decode cX5_sheet 9 = .ok (.ldc2_w 222, 3) := by decide +kernel
theorem dX5_sheet_12 : decode cX5_sheet 12 = .ok (.goto 14, 3) := by decide +kernel
theorem dX5_sheet_15 : decode cX5_sheet 15 = .ok (.aload_n 0, 1) := by decide +kernel
theorem dX5_sheet_16 : decode cX5_sheet 16 = .ok (.getfield 66, 3) := by decide +kernel
theorem dX5_sheet_19 : decode cX5_sheet 19 = .ok (.bipush 12, 2) := by decide +kernel
theorem dX5_sheet_21 : decode cX5_sheet 21 = .ok (.iload_n 1, 1) := by decide +kernel
theorem dX5_sheet_22 : decode cX5_sheet 22 = .ok (.imul, 1) := by decide +kernel
theorem dX5_sheet_23 : decode cX5_sheet 23 = .ok (.iload_n 2, 1) := by decide +kernel
theorem dX5_sheet_24 : decode cX5_sheet 24 = .ok (.iadd, 1) := by decide +kernel
theorem dX5_sheet_25 : decode cX5_sheet 25 = .ok (.laload, 1) := by decide +kernel
theorem dX5_sheet_26 : decode cX5_sheet 26 = .ok (.lreturn, 1) := by decide +kernel
set_option maxRecDepth 20000 in
theorem ggX5_forge_X5_noVotes : GoodIn wsX5_forge wsX5_noVotes := goodIn_r _ [7, 8, 9, 10, 11, 6, 12, 13, 14, 15, 16, 17, 18, 19, 20, 21, 22, 23, 24, 25, 26, 27, 28, 29, 30, 31, 32, 33, 34, 35, 36, 37, 38, 39, 40, 41, 42, 43, 44, 45, 46, 47, 48, 49, 50, 51, 52, 53, 54] (by decide +kernel) (by decide +kernel)
set_option maxRecDepth 20000 in
theorem gX5_forge_X5_noVotes : GoodIn wsX5_forge (wsV RX5 226 RX5 yX5_noVotes wsX5_noVotes) := goodIn_app (goodIn_of _ (by decide +kernel)) ggX5_forge_X5_noVotes
theorem dX5_forge_0 : decode cX5_forge 0 = .ok (.aload_n 0, 1) := by decide +kernel
theorem dX5_forge_1 : decode cX5_forge 1 = .ok (.iload_n 1, 1) := by decide +kernel
theorem dX5_forge_2 : decode cX5_forge 2 = .ok (.iload_n 2, 1) := by decide +kernel
theorem dX5_forge_3 : decode cX5_forge 3 = .ok (.invokevirtual 226, 3) := by decide +kernel
theorem dX5_forge_6 : decode cX5_forge 6 = .ok (.ifCond .eq 7, 3) := by decide +kernel
theorem dX5_forge_9 : decode cX5_forge 9 = .ok (.ldc2_w 222, 3) := by decide +kernel
theorem dX5_forge_12 : decode cX5_forge 12 = .ok (.lreturn, 1) := by decide +kernel
theorem dX5_forge_13 : decode cX5_forge 13 = .ok (.aload_n 0, 1) := by decide +kernel
theorem dX5_forge_14 : decode cX5_forge 14 = .ok (.getfield 66, 3) := by decide +kernel
theorem dX5_forge_17 : decode cX5_forge 17 = .ok (.bipush 12, 2) := by decide +kernel
theorem dX5_forge_19 : decode cX5_forge 19 = .ok (.iload_n 1, 1) := by decide +kernel
theorem dX5_forge_20 : decode cX5_forge 20 = .ok (.imul, 1) := by decide +kernel
theorem dX5_forge_21 : decode cX5_forge 21 = .ok (.iload_n 2, 1) := by decide +kernel
