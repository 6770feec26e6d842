theorem dX5_isValid_22 : decode cX5_isValid 22 = .ok (.aload_n 0, 1) := by decide +kernel
theorem dX5_isValid_23 : decode cX5_isValid 23 = .ok (.getfield 23, 3) := by decide +kernel
theorem dX5_isValid_26 : decode cX5_isValid 26 = .ok (.bipush 12, 2) := by decide +kernel
theorem dX5_isValid_28 : decode cX5_isValid 28 = .ok (.iload_n 1, 1) := by decide +kernel
theorem dX5_isValid_29 : decode cX5_isValid 29 = .ok (.imul, 1) := by decide +kernel
theorem dX5_isValid_30 : decode cX5_isValid 30 = .ok (.iload_n 3, 1) := by decide +kernel
theorem dX5_isValid_31 : decode cX5_isValid 31 = .ok (.iadd, 1) := by decide +kernel
theorem dX5_isValid_32 : decode cX5_isValid 32 = .ok (.iaload, 1) := by decide +kernel
theorem dX5_isValid_33 : decode cX5_isValid 33 = .ok (.baload, 1) := by decide +kernel
theorem dX5_isValid_34 : decode cX5_isValid 34 = .ok (.ifCond .ne 7, 3) := by decide +kernel
theorem dX5_isValid_37 : decode cX5_isValid 37 = .ok (.iconst 1, 1) := by decide +kernel
theorem dX5_isValid_38 : decode cX5_isValid 38 = .ok (.goto 4, 3) := by decide +kernel
theorem dX5_isValid_41 : decode cX5_isValid 41 = .ok (.iconst 0, 1) := by decide +kernel
theorem dX5_isValid_42 : decode cX5_isValid 42 = .ok (.istore_n 2, 1) := by decide +kernel
theorem dX5_isValid_43 : decode cX5_isValid 43 = .ok (.iinc 3 1, 3) := by decide +kernel
theorem dX5_isValid_46 : decode cX5_isValid 46 = .ok (.goto (-42), 3) := by decide +kernel
theorem dX5_isValid_49 : decode cX5_isValid 49 = .ok (.iload_n 2, 1) := by decide +kernel
theorem dX5_isValid_50 : decode cX5_isValid 50 = .ok (.ireturn, 1) := by decide +kernel
set_option maxRecDepth 20000 in
theorem ggX5_about_X5_in : GoodIn wsX5_about wsX5_in := goodIn_r _ [8] (by decide +kernel) (by decide +kernel)
set_option maxRecDepth 20000 in
theorem gX5_about_X5_in : GoodIn wsX5_about (va_wsS RX5 107 yX5_in wsX5_in) := goodIn_app (goodIn_of _ (by decide +kernel)) ggX5_about_X5_in
set_option maxRecDepth 20000 in
theorem ggX5_about_X5_isValid : GoodIn wsX5_about wsX5_isValid := goodIn_r _ [12, 2, 13, 3, 14, 15, 16, 17, 18, 19, 20, 21, 22, 23, 24, 25, 26, 27, 28, 29, 30, 31, 32, 33, 34, 35, 36, 37, 38, 39, 40, 41, 42, 43, 44, 45, 46, 47, 48, 49, 50, 51] (by decide +kernel) (by decide +kernel)
set_option maxRecDepth 20000 in
theorem gX5_about_X5_isValid : GoodIn wsX5_about (wsV RX5 121 RX5 yX5_isValid wsX5_isValid) := goodIn_app (goodIn_of _ (by decide +kernel)) ggX5_about_X5_isValid
theorem dX5_about_0 : decode cX5_about 0 = .ok (.iload_n 1, 1) := by decide +kernel
theorem dX5_about_1 : decode cX5_about 1 = .ok (.iconst 0, 1) := by decide +kernel
theorem dX5_about_2 : decode cX5_about 2 = .ok (.aload_n 0, 1) := by decide +kernel
theorem dX5_about_3 : decode cX5_about 3 = .ok (.getfield 104, 3) := by decide +kernel
theorem dX5_about_6 : decode cX5_about 6 = .ok (.iconst 1, 1) := by decide +kernel
theorem dX5_about_7 : decode cX5_about 7 = .ok (.isub, 1) := by decide +kernel
theorem dX5_about_8 : decode cX5_about 8 = .ok (.invokestatic 107, 3) := by decide +kernel
theorem dX5_about_11 : decode cX5_about 11 = .ok (.ifCond .ne 5, 3) := by decide +kernel
theorem dX5_about_14 : decode cX5_about 14 = .ok (.iconst (-1), 1) := by decide +kernel
theorem dX5_about_15 : decode cX5_about 15 = .ok (.ireturn, 1) := by decide +kernel
theorem dX5_about_16 : decode cX5_about 16 = .ok (.iload_n 2, 1) := by decide +kernel
theorem dX5_about_17 : decode cX5_about 17 = .ok (.iconst 2, 1) := by decide +kernel
theorem dX5_about_18 : decode cX5_about 18 = .ok (.if_icmp .ne 17, 3) := by decide +kernel
theorem dX5_about_21 : decode cX5_about 21 = .ok (.aload_n 0, 1) := by decide +kernel
theorem dX5_about_22 : decode cX5_about 22 = .ok (.iload_n 1, 1) := by decide +kernel
theorem dX5_about_23 : decode cX5_about 23 = .ok (.invokevirtual 121, 3) := by decide +kernel
theorem dX5_about_26 : decode cX5_about 26 = .ok (.ifCond .eq 7, 3) := by decide +kernel
theorem dX5_about_29 : decode cX5_about 29 = .ok (.iconst 1, 1) := by decide +kernel
theorem dX5_about_30 : decode cX5_about 30 = .ok (.goto 4, 3) := by decide +kernel
theorem dX5_about_33 : decode cX5_about 33 = .ok (.iconst 0, 1) := by decide +kernel
theorem dX5_about_34 : decode cX5_about 34 = .ok (.ireturn, 1) := by decide +kernel
theorem dX5_about_35 : decode cX5_about 35 = .ok (.iload_n 2, 1) := by decide +kernel
theorem dX5_about_36 : decode cX5_about 36 = .ok (.bipush 10, 2) := by decide +kernel
theorem dX5_about_38 : decode cX5_about 38 = .ok (.bipush 21, 2) := by decide +kernel
theorem dX5_about_40 : decode cX5_about 40 = .ok (.invokestatic 107, 3) := by decide +kernel
theorem dX5_about_43 : decode cX5_about 43 = .ok (.ifCond .eq 36, 3) := by decide +kernel
theorem dX5_about_46 : decode cX5_about 46 = .ok (.iload_n 2, 1) := by decide +kernel
theorem dX5_about_47 : decode cX5_about 47 = .ok (.bipush 10, 2) := by decide +kernel
theorem dX5_about_49 : decode cX5_about 49 = .ok (.isub, 1) := by decide +kernel
theorem dX5_about_50 : decode cX5_about 50 = .ok (.aload_n 0, 1) := by decide +kernel
theorem dX5_about_51 : decode cX5_about 51 = .ok (.getfield 20, 3) := by decide +kernel
theorem dX5_about_54 : decode cX5_about 54 = .ok (.iload_n 1, 1) := by decide +kernel
theorem dX5_about_55 : decode cX5_about 55 = .ok (.iaload, 1) := by decide +kernel
theorem dX5_about_56 : decode cX5_about 56 = .ok (.if_icmp .ge 20, 3) := by decide +kernel
theorem dX5_about_59 : decode cX5_about 59 = .ok (.aload_n 0, 1) := by decide +kernel
theorem dX5_about_60 : decode cX5_about 60 = .ok (.getfield 23, 3) := by decide +kernel
theorem dX5_about_63 : decode cX5_about 63 = .ok (.bipush 12, 2) := by decide +kernel
theorem dX5_about_65 : decode cX5_about 65 = .ok (.iload_n 1, 1) := by decide +kernel
theorem dX5_about_66 : decode cX5_about 66 = .ok (.imul, 1) := by decide +kernel
theorem dX5_about_67 : decode cX5_about 67 = .ok (.iload_n 2, 1) := by decide +kernel
theorem dX5_about_68 : decode cX5_about 68 = .ok (.iadd, 1) := by decide +kernel
theorem dX5_about_69 : decode cX5_about 69 = .ok (.bipush 10, 2) := by decide +kernel
theorem dX5_about_71 : decode cX5_about 71 = .ok (.isub, 1) := by decide +kernel
theorem dX5_about_72 : decode cX5_about 72 = .ok (.iaload, 1) := by decide +kernel
theorem dX5_about_73 : decode cX5_about 73 = .ok (.goto 5, 3) := by decide +kernel
theorem dX5_about_76 : decode cX5_about 76 = .ok (.bipush (-9), 2) := by decide +kernel
theorem dX5_about_78 : decode cX5_about 78 = .ok (.ireturn, 1) := by decide +kernel
theorem dX5_about_79 : decode cX5_about 79 = .ok (.iload_n 2, 1) := by decide +kernel
theorem dX5_about_80 : decode cX5_about 80 = .ok (.ifCond .ne 12, 3) := by decide +kernel
theorem dX5_about_83 : decode cX5_about 83 = .ok (.aload_n 0, 1) := by decide +kernel
theorem dX5_about_84 : decode cX5_about 84 = .ok (.getfield 17, 3) := by decide +kernel
theorem dX5_about_87 : decode cX5_about 87 = .ok (.iload_n 1, 1) := by decide +kernel
theorem dX5_about_88 : decode cX5_about 88 = .ok (.iaload, 1) := by decide +kernel
theorem dX5_about_89 : decode cX5_about 89 = .ok (.goto 19, 3) := by decide +kernel
theorem dX5_about_92 : decode cX5_about 92 = .ok (.iload_n 2, 1) := by decide +kernel
theorem dX5_about_93 : decode cX5_about 93 = .ok (.iconst 1, 1) := by decide +kernel
theorem dX5_about_94 : decode cX5_about 94 = .ok (.if_icmp .ne 12, 3) := by decide +kernel
theorem dX5_about_97 : decode cX5_about 97 = .ok (.aload_n 0, 1) := by decide +kernel
theorem dX5_about_98 : decode cX5_about 98 = .ok (.getfield 20, 3) := by decide +kernel
theorem dX5_about_101 : decode cX5_about 101 = .ok (.iload_n 1, 1) := by decide +kernel
theorem dX5_about_102 : decode cX5_about 102 = .ok (.iaload, 1) := by decide +kernel
theorem dX5_about_103 : decode cX5_about 103 = .ok (.goto 5, 3) := by decide +kernel
theorem dX5_about_106 : decode cX5_about 106 = .ok (.bipush (-2), 2) := by decide +kernel
theorem dX5_about_108 : decode cX5_about 108 = .ok (.ireturn, 1) := by decide +kernel
theorem dX5_hasMore_0 : decode cX5_hasMore 0 = .ok (.aload_n 0, 1) := by decide +kernel
theorem dX5_hasMore_1 : decode cX5_hasMore 1 = .ok (.getfield 72, 3) := by decide +kernel
theorem dX5_hasMore_4 : decode cX5_hasMore 4 = .ok (.iload_n 1, 1) := by decide +kernel
theorem dX5_hasMore_5 : decode cX5_hasMore 5 = .ok (.laload, 1) := by decide +kernel
theorem dX5_hasMore_6 : decode cX5_hasMore 6 = .ok (.aload_n 0, 1) := by decide +kernel
theorem dX5_hasMore_7 : decode cX5_hasMore 7 = .ok (.getfield 72, 3) := by decide +kernel
theorem dX5_hasMore_10 : decode cX5_hasMore 10 = .ok (.iload_n 2, 1) := by decide +kernel
theorem dX5_hasMore_11 : decode cX5_hasMore 11 = .ok (.laload, 1) := by decide +kernel
theorem dX5_hasMore_12 : decode cX5_hasMore 12 = .ok (.lcmp, 1) := by decide +kernel
theorem dX5_hasMore_13 : decode cX5_hasMore 13 = .ok (.ifCond .eq 25, 3) := by decide +kernel
theorem dX5_hasMore_16 : decode cX5_hasMore 16 = .ok (.aload_n 0, 1) := by decide +kernel
theorem dX5_hasMore_17 : decode cX5_hasMore 17 = .ok (.getfield 72, 3) := by decide +kernel
theorem dX5_hasMore_20 : decode cX5_hasMore 20 = .ok (.iload_n 1, 1) := by decide +kernel
theorem dX5_hasMore_21 : decode cX5_hasMore 21 = .ok (.laload, 1) := by decide +kernel
theorem dX5_hasMore_22 : decode cX5_hasMore 22 = .ok (.aload_n 0, 1) := by decide +kernel
theorem dX5_hasMore_23 : decode cX5_hasMore 23 = .ok (.getfield 72, 3) := by decide +kernel
theorem dX5_hasMore_26 : decode cX5_hasMore 26 = .ok (.iload_n 2, 1) := by decide +kernel
theorem dX5_hasMore_27 : decode cX5_hasMore 27 = .ok (.laload, 1) := by decide +kernel
theorem dX5_hasMore_28 : decode cX5_hasMore 28 = .ok (.lcmp, 1) := by decide +kernel
theorem dX5_hasMore_29 : decode cX5_hasMore 29 = .ok (.ifCond .le 7, 3) := by decide +kernel
theorem dX5_hasMore_32 : decode cX5_hasMore 32 = .ok (.iconst 1, 1) := by decide +kernel
theorem dX5_hasMore_33 : decode cX5_hasMore 33 = .ok (.goto 4, 3) := by decide +kernel
theorem dX5_hasMore_36 : decode cX5_hasMore 36 = .ok (.iconst 0, 1) := by decide +kernel
theorem dX5_hasMore_37 : decode cX5_hasMore 37 = .ok (.ireturn, 1) := by decide +kernel
theorem dX5_hasMore_38 : decode cX5_hasMore 38 = .ok (.aload_n 0, 1) := by decide +kernel
theorem dX5_hasMore_39 : decode cX5_hasMore 39 = .ok (.getfield 124, 3) := by decide +kernel
theorem dX5_hasMore_42 : decode cX5_hasMore 42 = .ok (.iconst 1, 1) := by decide +kernel
theorem dX5_hasMore_43 : decode cX5_hasMore 43 = .ok (.isub, 1) := by decide +kernel
theorem dX5_hasMore_44 : decode cX5_hasMore 44 = .ok (.istore_n 3, 1) := by decide +kernel
theorem dX5_hasMore_45 : decode cX5_hasMore 45 = .ok (.iload_n 3, 1) := by decide +kernel
theorem dX5_hasMore_46 : decode cX5_hasMore 46 = .ok (.ifCond .lt 75, 3) := by decide +kernel
theorem dX5_hasMore_49 : decode cX5_hasMore 49 = .ok (.aload_n 0, 1) := by decide +kernel
theorem dX5_hasMore_50 : decode cX5_hasMore 50 = .ok (.getfield 97, 3) := by decide +kernel
theorem dX5_hasMore_53 : decode cX5_hasMore 53 = .ok (.iconst 3, 1) := by decide +kernel
theorem dX5_hasMore_54 : decode cX5_hasMore 54 = .ok (.if_icmp .ge 67, 3) := by decide +kernel
theorem dX5_hasMore_57 : decode cX5_hasMore 57 = .ok (.aload_n 0, 1) := by decide +kernel
theorem dX5_hasMore_58 : decode cX5_hasMore 58 = .ok (.getfield 51, 3) := by decide +kernel
theorem dX5_hasMore_61 : decode cX5_hasMore 61 = .ok (.bipush 12, 2) := by decide +kernel
theorem dX5_hasMore_63 : decode cX5_hasMore 63 = .ok (.iload_n 3, 1) := by decide +kernel
theorem dX5_hasMore_64 : decode cX5_hasMore 64 = .ok (.imul, 1) := by decide +kernel
theorem dX5_hasMore_65 : decode cX5_hasMore 65 = .ok (.iload_n 1, 1) := by decide +kernel
theorem dX5_hasMore_66 : decode cX5_hasMore 66 = .ok (.iadd, 1) := by decide +kernel
theorem dX5_hasMore_67 : decode cX5_hasMore 67 = .ok (.laload, 1) := by decide +kernel
theorem dX5_hasMore_68 : decode cX5_hasMore 68 = .ok (.aload_n 0, 1) := by decide +kernel
theorem dX5_hasMore_69 : decode cX5_hasMore 69 = .ok (.getfield 51, 3) := by decide +kernel
theorem dX5_hasMore_72 : decode cX5_hasMore 72 = .ok (.bipush 12, 2) := by decide +kernel
theorem dX5_hasMore_74 : decode cX5_hasMore 74 = .ok (.iload_n 3, 1) := by decide +kernel
theorem dX5_hasMore_75 : decode cX5_hasMore 75 = .ok (.imul, 1) := by decide +kernel
theorem dX5_hasMore_76 : decode cX5_hasMore 76 = .ok (.iload_n 2, 1) := by decide +kernel
theorem dX5_hasMore_77 : decode cX5_hasMore 77 = .ok (.iadd, 1) := by decide +kernel
theorem dX5_hasMore_78 : decode cX5_hasMore 78 = .ok (.laload, 1) := by decide +kernel
theorem dX5_hasMore_79 : decode cX5_hasMore 79 = .ok (.lcmp, 1) := by decide +kernel
theorem dX5_hasMore_80 : decode cX5_hasMore 80 = .ok (.ifCond .eq 35, 3) := by decide +kernel
theorem dX5_hasMore_83 : decode cX5_hasMore 83 = .ok (.aload_n 0, 1) := by decide +kernel
theorem dX5_hasMore_84 : decode cX5_hasMore 84 = .ok (.getfield 51, 3) := by decide +kernel
theorem dX5_hasMore_87 : decode cX5_hasMore 87 = .ok (.bipush 12, 2) := by decide +kernel
theorem dX5_hasMore_89 : decode cX5_hasMore 89 = .ok (.iload_n 3, 1) := by decide +kernel
theorem dX5_hasMore_90 : decode cX5_hasMore 90 = .ok (.imul, 1) := by decide +kernel
theorem dX5_hasMore_91 : decode cX5_hasMore 91 = .ok (.iload_n 1, 1) := by decide +kernel
theorem dX5_hasMore_92 : decode cX5_hasMore 92 = .ok (.iadd, 1) := by decide +kernel
theorem dX5_hasMore_93 : decode cX5_hasMore 93 = .ok (.laload, 1) := by decide +kernel
theorem dX5_hasMore_94 : decode cX5_hasMore 94 = .ok (.aload_n 0, 1) := by decide +kernel
theorem dX5_hasMore_95 : decode cX5_hasMore 95 = .ok (.getfield 51, 3) := by decide +kernel
theorem dX5_hasMore_98 : decode cX5_hasMore 98 = .ok (.bipush 12, 2) := by decide +kernel
theorem dX5_hasMore_100 : decode cX5_hasMore 100 = .ok (.iload_n 3, 1) := by decide +kernel
theorem dX5_hasMore_101 : decode cX5_hasMore 101 = .ok (.imul, 1) := by decide +kernel
theorem dX5_hasMore_102 : decode cX5_hasMore 102 = .ok (.iload_n 2, 1) := by decide +kernel
theorem dX5_hasMore_103 : decode cX5_hasMore 103 = .ok (.iadd, 1) := by decide +kernel
theorem dX5_hasMore_104 : decode cX5_hasMore 104 = .ok (.laload, 1) := by decide +kernel
theorem dX5_hasMore_105 : decode cX5_hasMore 105 = .ok (.lcmp, 1) := by decide +kernel
theorem dX5_hasMore_106 : decode cX5_hasMore 106 = .ok (.ifCond .le 7, 3) := by decide +kernel
theorem dX5_hasMore_109 : decode cX5_hasMore 109 = .ok (.iconst 1, 1) := by decide +kernel
theorem dX5_hasMore_110 : decode cX5_hasMore 110 = .ok (.goto 4, 3) := by decide +kernel
theorem dX5_hasMore_113 : decode cX5_hasMore 113 = .ok (.iconst 0, 1) := by decide +kernel
theorem dX5_hasMore_114 : decode cX5_hasMore 114 = .ok (.ireturn, 1) := by decide +kernel
theorem dX5_hasMore_115 : decode cX5_hasMore 115 = .ok (.iinc 3 (-1), 3) := by decide +kernel
theorem dX5_hasMore_118 : decode cX5_hasMore 118 = .ok (.goto (-73), 3) := by decide +kernel
theorem dX5_hasMore_121 : decode cX5_hasMore 121 = .ok (.aload_n 0, 1) := by decide +kernel
theorem dX5_hasMore_122 : decode cX5_hasMore 122 = .ok (.getfield 13, 3) := by decide +kernel
theorem dX5_hasMore_125 : decode cX5_hasMore 125 = .ok (.iload_n 1, 1) := by decide +kernel
theorem dX5_hasMore_126 : decode cX5_hasMore 126 = .ok (.iaload, 1) := by decide +kernel
theorem dX5_hasMore_127 : decode cX5_hasMore 127 = .ok (.aload_n 0, 1) := by decide +kernel
theorem dX5_hasMore_128 : decode cX5_hasMore 128 = .ok (.getfield 13, 3) := by decide +kernel
theorem dX5_hasMore_131 : decode cX5_hasMore 131 = .ok (.iload_n 2, 1) := by decide +kernel
theorem dX5_hasMore_132 : decode cX5_hasMore 132 = .ok (.iaload, 1) := by decide +kernel
theorem dX5_hasMore_133 : decode cX5_hasMore 133 = .ok (.if_icmp .ge 7, 3) := by decide +kernel
theorem dX5_hasMore_136 : decode cX5_hasMore 136 = .ok (.iconst 1, 1) := by decide +kernel
theorem dX5_hasMore_137 : decode cX5_hasMore 137 = .ok (.goto 4, 3) := by decide +kernel
theorem dX5_hasMore_140 : decode cX5_hasMore 140 = .ok (.iconst 0, 1) := by decide +kernel
theorem dX5_hasMore_141 : decode cX5_hasMore 141 = .ok (.ireturn, 1) := by decide +kernel
set_option maxRecDepth 20000 in
theorem ggX5_most_X5_hasMore : GoodIn wsX5_most wsX5_hasMore := goodIn_r _ [8, 3, 9, 10, 11, 12, 13, 14, 15, 16, 17, 18, 19, 20, 21, 22, 23, 24, 25, 26, 27, 28, 29, 30, 31, 32, 33, 34, 35, 36, 37, 38, 39, 40, 41, 42, 43, 44, 45, 46, 47, 48, 49, 50] (by decide +kernel) (by decide +kernel)
set_option maxRecDepth 20000 in
theorem gX5_most_X5_hasMore : GoodIn wsX5_most (wsV RX5 127 RX5 yX5_hasMore wsX5_hasMore) := goodIn_app (goodIn_of _ (by decide +kernel)) ggX5_most_X5_hasMore
theorem dX5_most_0 : decode cX5_most 0 = .ok (.iconst (-1), 1) := by decide +kernel
theorem dX5_most_1 : decode cX5_most 1 = .ok (.istore 4, 2) := by decide +kernel
theorem dX5_most_3 : decode cX5_most 3 = .ok (.iconst 0, 1) := by decide +kernel
theorem dX5_most_4 : decode cX5_most 4 = .ok (.istore 5, 2) := by decide +kernel
theorem dX5_most_6 : decode cX5_most 6 = .ok (.iload 5, 2) := by decide +kernel
theorem dX5_most_8 : decode cX5_most 8 = .ok (.aload_n 0, 1) := by decide +kernel
theorem dX5_most_9 : decode cX5_most 9 = .ok (.getfield 101, 3) := by decide +kernel
theorem dX5_most_12 : decode cX5_most 12 = .ok (.if_icmp .ge 52, 3) := by decide +kernel
theorem dX5_most_15 : decode cX5_most 15 = .ok (.aload_n 0, 1) := by decide +kernel
theorem dX5_most_16 : decode cX5_most 16 = .ok (.getfield 75, 3) := by decide +kernel
theorem dX5_most_19 : decode cX5_most 19 = .ok (.iload 5, 2) := by decide +kernel
theorem dX5_most_21 : decode cX5_most 21 = .ok (.iaload, 1) := by decide +kernel
theorem dX5_most_22 : decode cX5_most 22 = .ok (.iload_n 1, 1) := by decide +kernel
theorem dX5_most_23 : decode cX5_most 23 = .ok (.if_icmp .ne 35, 3) := by decide +kernel
theorem dX5_most_26 : decode cX5_most 26 = .ok (.aload_n 0, 1) := by decide +kernel
theorem dX5_most_27 : decode cX5_most 27 = .ok (.getfield 72, 3) := by decide +kernel
theorem dX5_most_30 : decode cX5_most 30 = .ok (.iload 5, 2) := by decide +kernel
theorem dX5_most_32 : decode cX5_most 32 = .ok (.laload, 1) := by decide +kernel
theorem dX5_most_33 : decode cX5_most 33 = .ok (.lload_n 2, 1) := by decide +kernel
theorem dX5_most_34 : decode cX5_most 34 = .ok (.lcmp, 1) := by decide +kernel
theorem dX5_most_35 : decode cX5_most 35 = .ok (.ifCond .lt 23, 3) := by decide +kernel
theorem dX5_most_38 : decode cX5_most 38 = .ok (.iload 4, 2) := by decide +kernel
theorem dX5_most_40 : decode cX5_most 40 = .ok (.ifCond .lt 14, 3) := by decide +kernel
theorem dX5_most_43 : decode cX5_most 43 = .ok (.aload_n 0, 1) := by decide +kernel
theorem dX5_most_44 : decode cX5_most 44 = .ok (.iload 5, 2) := by decide +kernel
theorem dX5_most_46 : decode cX5_most 46 = .ok (.iload 4, 2) := by decide +kernel
theorem dX5_most_48 : decode cX5_most 48 = .ok (.invokevirtual 127, 3) := by decide +kernel
theorem dX5_most_51 : decode cX5_most 51 = .ok (.ifCond .eq 7, 3) := by decide +kernel
theorem dX5_most_54 : decode cX5_most 54 = .ok (.iload 5, 2) := by decide +kernel
theorem dX5_most_56 : decode cX5_most 56 = .ok (.istore 4, 2) := by decide +kernel
theorem dX5_most_58 : decode cX5_most 58 = .ok (.iinc 5 1, 3) := by decide +kernel
theorem dX5_most_61 : decode cX5_most 61 = .ok (.goto (-55), 3) := by decide +kernel
theorem dX5_most_64 : decode cX5_most 64 = .ok (.iload 4, 2) := by decide +kernel
theorem dX5_most_66 : decode cX5_most 66 = .ok (.ireturn, 1) := by decide +kernel
set_option maxRecDepth 20000 in
theorem ggX5_fewest_X5_hasMore : GoodIn wsX5_fewest wsX5_hasMore := goodIn_r _ [7, 8, 9, 10, 11, 12, 13, 14, 15, 16, 17, 18, 19, 20, 21, 22, 23, 24, 25, 26, 27, 28, 29, 30, 31, 32, 33, 34, 35, 36, 37, 38, 39, 40, 41, 42, 43, 44, 45, 46, 47, 48, 49, 50] (by decide +kernel) (by decide +kernel)
set_option maxRecDepth 20000 in
theorem gX5_fewest_X5_hasMore : GoodIn wsX5_fewest (wsV RX5 127 RX5 yX5_hasMore wsX5_hasMore) := goodIn_app (goodIn_of _ (by decide +kernel)) ggX5_fewest_X5_hasMore
theorem dX5_fewest_0 : decode cX5_fewest 0 = .ok (.iconst (-1), 1) := by decide +kernel
theorem dX5_fewest_1 : decode cX5_fewest 1 = .ok (.istore_n 1, 1) := by decide +kernel
theorem dX5_fewest_2 : decode cX5_fewest 2 = .ok (.iconst 0, 1) := by decide +kernel
theorem dX5_fewest_3 : decode cX5_fewest 3 = .ok (.istore_n 2, 1) := by decide +kernel
theorem dX5_fewest_4 : decode cX5_fewest 4 = .ok (.iload_n 2, 1) := by decide +kernel
theorem dX5_fewest_5 : decode cX5_fewest 5 = .ok (.aload_n 0, 1) := by decide +kernel
theorem dX5_fewest_6 : decode cX5_fewest 6 = .ok (.getfield 101, 3) := by decide +kernel
theorem dX5_fewest_9 : decode cX5_fewest 9 = .ok (.if_icmp .ge 33, 3) := by decide +kernel
theorem dX5_fewest_12 : decode cX5_fewest 12 = .ok (.aload_n 0, 1) := by decide +kernel
theorem dX5_fewest_13 : decode cX5_fewest 13 = .ok (.getfield 75, 3) := by decide +kernel
theorem dX5_fewest_16 : decode cX5_fewest 16 = .ok (.iload_n 2, 1) := by decide +kernel
theorem dX5_fewest_17 : decode cX5_fewest 17 = .ok (.iaload, 1) := by decide +kernel
theorem dX5_fewest_18 : decode cX5_fewest 18 = .ok (.ifCond .ne 18, 3) := by decide +kernel
theorem dX5_fewest_21 : decode cX5_fewest 21 = .ok (.iload_n 1, 1) := by decide +kernel
theorem dX5_fewest_22 : decode cX5_fewest 22 = .ok (.ifCond .lt 12, 3) := by decide +kernel
theorem dX5_fewest_25 : decode cX5_fewest 25 = .ok (.aload_n 0, 1) := by decide +kernel
theorem dX5_fewest_26 : decode cX5_fewest 26 = .ok (.iload_n 1, 1) := by decide +kernel
theorem dX5_fewest_27 : decode cX5_fewest 27 = .ok (.iload_n 2, 1) := by decide +kernel
theorem dX5_fewest_28 : decode cX5_fewest 28 = .ok (.invokevirtual 127, 3) := by decide +kernel
theorem dX5_fewest_31 : decode cX5_fewest 31 = .ok (.ifCond .eq 5, 3) := by decide +kernel
theorem dX5_fewest_34 : decode cX5_fewest 34 = .ok (.iload_n 2, 1) := by decide +kernel
theorem dX5_fewest_35 : decode cX5_fewest 35 = .ok (.istore_n 1, 1) := by decide +kernel
theorem dX5_fewest_36 : decode cX5_fewest 36 = .ok (.iinc 2 1, 3) := by decide +kernel
theorem dX5_fewest_39 : decode cX5_fewest 39 = .ok (.goto (-35), 3) := by decide +kernel
theorem dX5_fewest_42 : decode cX5_fewest 42 = .ok (.iload_n 1, 1) := by decide +kernel
theorem dX5_fewest_43 : decode cX5_fewest 43 = .ok (.ireturn, 1) := by decide +kernel
theorem dX5_statusMany_0 : decode cX5_statusMany 0 = .ok (.iconst 0, 1) := by decide +kernel
theorem dX5_statusMany_1 : decode cX5_statusMany 1 = .ok (.istore_n 2, 1) := by decide +kernel
theorem dX5_statusMany_2 : decode cX5_statusMany 2 = .ok (.iconst 0, 1) := by decide +kernel
theorem dX5_statusMany_3 : decode cX5_statusMany 3 = .ok (.istore_n 3, 1) := by decide +kernel
theorem dX5_statusMany_4 : decode cX5_statusMany 4 = .ok (.iload_n 3, 1) := by decide +kernel
theorem dX5_statusMany_5 : decode cX5_statusMany 5 = .ok (.aload_n 0, 1) := by decide +kernel
theorem dX5_statusMany_6 : decode cX5_statusMany 6 = .ok (.getfield 101, 3) := by decide +kernel
theorem dX5_statusMany_9 : decode cX5_statusMany 9 = .ok (.if_icmp .ge 27, 3) := by decide +kernel
theorem dX5_statusMany_12 : decode cX5_statusMany 12 = .ok (.iload_n 2, 1) := by decide +kernel
theorem dX5_statusMany_13 : decode cX5_statusMany 13 = .ok (.aload_n 0, 1) := by decide +kernel
theorem dX5_statusMany_14 : decode cX5_statusMany 14 = .ok (.getfield 75, 3) := by decide +kernel
theorem dX5_statusMany_17 : decode cX5_statusMany 17 = .ok (.iload_n 3, 1) := by decide +kernel
theorem dX5_statusMany_18 : decode cX5_statusMany 18 = .ok (.iaload, 1) := by decide +kernel
theorem dX5_statusMany_19 : decode cX5_statusMany 19 = .ok (.iload_n 1, 1) := by decide +kernel
theorem dX5_statusMany_20 : decode cX5_statusMany 20 = .ok (.if_icmp .ne 7, 3) := by decide +kernel
theorem dX5_statusMany_23 : decode cX5_statusMany 23 = .ok (.iconst 1, 1) := by decide +kernel
theorem dX5_statusMany_24 : decode cX5_statusMany 24 = .ok (.goto 4, 3) := by decide +kernel
theorem dX5_statusMany_27 : decode cX5_statusMany 27 = .ok (.iconst 0, 1) := by decide +kernel
theorem dX5_statusMany_28 : decode cX5_statusMany 28 = .ok (.iadd, 1) := by decide +kernel
theorem dX5_statusMany_29 : decode cX5_statusMany 29 = .ok (.istore_n 2, 1) := by decide +kernel
theorem dX5_statusMany_30 : decode cX5_statusMany 30 = .ok (.iinc 3 1, 3) := by decide +kernel
theorem dX5_statusMany_33 : decode cX5_statusMany 33 = .ok (.goto (-29), 3) := by decide +kernel
theorem dX5_statusMany_36 : decode cX5_statusMany 36 = .ok (.iload_n 2, 1) := by decide +kernel
theorem dX5_statusMany_37 : decode cX5_statusMany 37 = .ok (.ireturn, 1) := by decide +kernel
set_option maxRecDepth 20000 in
theorem ggX5_electAll_X5_most : GoodIn wsX5_electAll wsX5_most := goodIn_r _ [8, 9, 1, 10, 11, 12, 13, 7, 14, 15, 16, 17, 18, 19, 20, 21, 22, 23, 24, 25, 26, 27, 28, 29, 30, 31, 32, 33, 34, 35, 36, 37, 38, 39, 40, 41, 42, 43, 44, 45, 46, 47, 48, 49, 50, 51, 52, 53, 54, 55, 56] (by decide +kernel) (by decide +kernel)
set_option maxRecDepth 20000 in
theorem gX5_electAll_X5_most : GoodIn wsX5_electAll (wsV RX5 131 RX5 yX5_most wsX5_most) := goodIn_app (goodIn_of _ (by decide +kernel)) ggX5_electAll_X5_most
theorem dX5_electAll_0 : decode cX5_electAll 0 = .ok (.aload_n 0, 1) := by decide +kernel
theorem dX5_electAll_1 : decode cX5_electAll 1 = .ok (.iconst 0, 1) := by decide +kernel
theorem dX5_electAll_2 : decode cX5_electAll 2 = .ok (.lload_n 1, 1) := by decide +kernel
theorem dX5_electAll_3 : decode cX5_electAll 3 = .ok (.invokevirtual 131, 3) := by decide +kernel
theorem dX5_electAll_6 : decode cX5_electAll 6 = .ok (.istore_n 3, 1) := by decide +kernel
theorem dX5_electAll_7 : decode cX5_electAll 7 = .ok (.iload_n 3, 1) := by decide +kernel
theorem dX5_electAll_8 : decode cX5_electAll 8 = .ok (.ifCond .lt 40, 3) := by decide +kernel
theorem dX5_electAll_11 : decode cX5_electAll 11 = .ok (.aload_n 0, 1) := by decide +kernel
theorem dX5_electAll_12 : decode cX5_electAll 12 = .ok (.getfield 75, 3) := by decide +kernel
theorem dX5_electAll_15 : decode cX5_electAll 15 = .ok (.iload_n 3, 1) := by decide +kernel
theorem dX5_electAll_16 : decode cX5_electAll 16 = .ok (.iconst 1, 1) := by decide +kernel
theorem dX5_electAll_17 : decode cX5_electAll 17 = .ok (.iastore, 1) := by decide +kernel
theorem dX5_electAll_18 : decode cX5_electAll 18 = .ok (.aload_n 0, 1) := by decide +kernel
theorem dX5_electAll_19 : decode cX5_electAll 19 = .ok (.getfield 69, 3) := by decide +kernel
theorem dX5_electAll_22 : decode cX5_electAll 22 = .ok (.aload_n 0, 1) := by decide +kernel
theorem dX5_electAll_23 : decode cX5_electAll 23 = .ok (.getfield 135, 3) := by decide +kernel
theorem dX5_electAll_26 : decode cX5_electAll 26 = .ok (.iload_n 3, 1) := by decide +kernel
theorem dX5_electAll_27 : decode cX5_electAll 27 = .ok (.iastore, 1) := by decide +kernel
theorem dX5_electAll_28 : decode cX5_electAll 28 = .ok (.aload_n 0, 1) := by decide +kernel
theorem dX5_electAll_29 : decode cX5_electAll 29 = .ok (.dup, 1) := by decide +kernel
theorem dX5_electAll_30 : decode cX5_electAll 30 = .ok (.getfield 135, 3) := by decide +kernel
theorem dX5_electAll_33 : decode cX5_electAll 33 = .ok (.iconst 1, 1) := by decide +kernel
theorem dX5_electAll_34 : decode cX5_electAll 34 = .ok (.iadd, 1) := by decide +kernel
theorem dX5_electAll_35 : decode cX5_electAll 35 = .ok (.putfield 135, 3) := by decide +kernel
theorem dX5_electAll_38 : decode cX5_electAll 38 = .ok (.aload_n 0, 1) := by decide +kernel
theorem dX5_electAll_39 : decode cX5_electAll 39 = .ok (.iconst 0, 1) := by decide +kernel
theorem dX5_electAll_40 : decode cX5_electAll 40 = .ok (.lload_n 1, 1) := by decide +kernel
theorem dX5_electAll_41 : decode cX5_electAll 41 = .ok (.invokevirtual 131, 3) := by decide +kernel
theorem dX5_electAll_44 : decode cX5_electAll 44 = .ok (.istore_n 3, 1) := by decide +kernel
theorem dX5_electAll_45 : decode cX5_electAll 45 = .ok (.goto (-38), 3) := by decide +kernel
theorem dX5_electAll_48 : decode cX5_electAll 48 = .ok (.return_, 1) := by decide +kernel
set_option maxRecDepth 20000 in
theorem ggX5_ends_X5_electAll : GoodIn wsX5_ends wsX5_electAll := goodIn_r _ [8, 9, 10, 2, 11, 12, 13, 7, 14, 15, 16, 17, 18, 19, 20, 21, 22, 23, 24, 29, 30, 31, 32, 33, 34, 35, 36, 37, 38, 39, 40, 41, 42, 43, 44, 45, 46, 47, 48, 49, 50, 51, 52, 53, 54, 55, 56, 57, 58, 59, 60, 61, 62, 63, 64, 65, 66] (by decide +kernel) (by decide +kernel)
set_option maxRecDepth 20000 in
theorem gX5_ends_X5_electAll : GoodIn wsX5_ends (wsV RX5 142 RX5 yX5_electAll wsX5_electAll) := goodIn_app (goodIn_of _ (by decide +kernel)) ggX5_ends_X5_electAll
set_option maxRecDepth 20000 in
theorem ggX5_ends_X5_statusMany : GoodIn wsX5_ends wsX5_statusMany := goodIn_r _ [28, 15, 9, 29, 30, 31, 32, 33, 34, 35, 36, 37, 38, 39, 40, 41, 42, 43, 44, 45, 46, 47, 48, 49, 50, 51, 52, 53, 54, 55, 56, 57, 58, 59, 60, 61, 62, 63, 64, 65, 66] (by decide +kernel) (by decide +kernel)
set_option maxRecDepth 20000 in
theorem gX5_ends_X5_statusMany : GoodIn wsX5_ends (wsV RX5 146 RX5 yX5_statusMany wsX5_statusMany) := goodIn_app (goodIn_of _ (by decide +kernel)) ggX5_ends_X5_statusMany
theorem dX5_ends_0 : decode cX5_ends 0 = .ok (.aload_n 0, 1) := by decide +kernel
theorem dX5_ends_1 : decode cX5_ends 1 = .ok (.aload_n 0, 1) := by decide +kernel
theorem dX5_ends_2 : decode cX5_ends 2 = .ok (.getfield 138, 3) := by decide +kernel
theorem dX5_ends_5 : decode cX5_ends 5 = .ok (.invokevirtual 142, 3) := by decide +kernel
theorem dX5_ends_8 : decode cX5_ends 8 = .ok (.aload_n 0, 1) := by decide +kernel
theorem dX5_ends_9 : decode cX5_ends 9 = .ok (.iconst 0, 1) := by decide +kernel
theorem dX5_ends_10 : decode cX5_ends 10 = .ok (.invokevirtual 146, 3) := by decide +kernel
theorem dX5_ends_13 : decode cX5_ends 13 = .ok (.aload_n 0, 1) := by decide +kernel
theorem dX5_ends_14 : decode cX5_ends 14 = .ok (.getfield 135, 3) := by decide +kernel
theorem dX5_ends_17 : decode cX5_ends 17 = .ok (.iadd, 1) := by decide +kernel
theorem dX5_ends_18 : decode cX5_ends 18 = .ok (.aload_n 0, 1) := by decide +kernel
theorem dX5_ends_19 : decode cX5_ends 19 = .ok (.getfield 150, 3) := by decide +kernel
theorem dX5_ends_22 : decode cX5_ends 22 = .ok (.if_icmp .gt 8, 3) := by decide +kernel
theorem dX5_ends_25 : decode cX5_ends 25 = .ok (.aload_n 0, 1) := by decide +kernel
theorem dX5_ends_26 : decode cX5_ends 26 = .ok (.lconst 0, 1) := by decide +kernel
theorem dX5_ends_27 : decode cX5_ends 27 = .ok (.invokevirtual 142, 3) := by decide +kernel
theorem dX5_ends_30 : decode cX5_ends 30 = .ok (.aload_n 0, 1) := by decide +kernel
theorem dX5_ends_31 : decode cX5_ends 31 = .ok (.iconst 0, 1) := by decide +kernel
theorem dX5_ends_32 : decode cX5_ends 32 = .ok (.invokevirtual 146, 3) := by decide +kernel
theorem dX5_ends_35 : decode cX5_ends 35 = .ok (.ifCond .eq 14, 3) := by decide +kernel
theorem dX5_ends_38 : decode cX5_ends 38 = .ok (.aload_n 0, 1) := by decide +kernel
theorem dX5_ends_39 : decode cX5_ends 39 = .ok (.getfield 135, 3) := by decide +kernel
theorem dX5_ends_42 : decode cX5_ends 42 = .ok (.aload_n 0, 1) := by decide +kernel
theorem dX5_ends_43 : decode cX5_ends 43 = .ok (.getfield 150, 3) := by decide +kernel
theorem dX5_ends_46 : decode cX5_ends 46 = .ok (.if_icmp .lt 7, 3) := by decide +kernel
theorem dX5_ends_49 : decode cX5_ends 49 = .ok (.iconst 1, 1) := by decide +kernel
theorem dX5_ends_50 : decode cX5_ends 50 = .ok (.goto 4, 3) := by decide +kernel
theorem dX5_ends_53 : decode cX5_ends 53 = .ok (.iconst 0, 1) := by decide +kernel
theorem dX5_ends_54 : decode cX5_ends 54 = .ok (.ireturn, 1) := by decide +kernel
theorem dX5_record_0 : decode cX5_record 0 = .ok (.aload_n 0, 1) := by decide +kernel
theorem dX5_record_1 : decode cX5_record 1 = .ok (.getfield 124, 3) := by decide +kernel
theorem dX5_record_4 : decode cX5_record 4 = .ok (.istore 5, 2) := by decide +kernel
theorem dX5_record_6 : decode cX5_record 6 = .ok (.aload_n 0, 1) := by decide +kernel
theorem dX5_record_7 : decode cX5_record 7 = .ok (.getfield 29, 3) := by decide +kernel
theorem dX5_record_10 : decode cX5_record 10 = .ok (.iload 5, 2) := by decide +kernel
theorem dX5_record_12 : decode cX5_record 12 = .ok (.iload_n 1, 1) := by decide +kernel
theorem dX5_record_13 : decode cX5_record 13 = .ok (.iastore, 1) := by decide +kernel
theorem dX5_record_14 : decode cX5_record 14 = .ok (.aload_n 0, 1) := by decide +kernel
theorem dX5_record_15 : decode cX5_record 15 = .ok (.getfield 32, 3) := by decide +kernel
theorem dX5_record_18 : decode cX5_record 18 = .ok (.iload 5, 2) := by decide +kernel
theorem dX5_record_20 : decode cX5_record 20 = .ok (.iload_n 2, 1) := by decide +kernel
theorem dX5_record_21 : decode cX5_record 21 = .ok (.iastore, 1) := by decide +kernel
theorem dX5_record_22 : decode cX5_record 22 = .ok (.aload_n 0, 1) := by decide +kernel
theorem dX5_record_23 : decode cX5_record 23 = .ok (.getfield 35, 3) := by decide +kernel
theorem dX5_record_26 : decode cX5_record 26 = .ok (.iload 5, 2) := by decide +kernel
theorem dX5_record_28 : decode cX5_record 28 = .ok (.aload_n 0, 1) := by decide +kernel
theorem dX5_record_29 : decode cX5_record 29 = .ok (.getfield 153, 3) := by decide +kernel
theorem dX5_record_32 : decode cX5_record 32 = .ok (.lastore, 1) := by decide +kernel
theorem dX5_record_33 : decode cX5_record 33 = .ok (.aload_n 0, 1) := by decide +kernel
theorem dX5_record_34 : decode cX5_record 34 = .ok (.getfield 39, 3) := by decide +kernel
theorem dX5_record_37 : decode cX5_record 37 = .ok (.iload 5, 2) := by decide +kernel
theorem dX5_record_39 : decode cX5_record 39 = .ok (.aload_n 0, 1) := by decide +kernel
theorem dX5_record_40 : decode cX5_record 40 = .ok (.getfield 156, 3) := by decide +kernel
theorem dX5_record_43 : decode cX5_record 43 = .ok (.lastore, 1) := by decide +kernel
theorem dX5_record_44 : decode cX5_record 44 = .ok (.aload_n 0, 1) := by decide +kernel
theorem dX5_record_45 : decode cX5_record 45 = .ok (.getfield 42, 3) := by decide +kernel
theorem dX5_record_48 : decode cX5_record 48 = .ok (.iload 5, 2) := by decide +kernel
theorem dX5_record_50 : decode cX5_record 50 = .ok (.aload_n 0, 1) := by decide +kernel
theorem dX5_record_51 : decode cX5_record 51 = .ok (.getfield 135, 3) := by decide +kernel
theorem dX5_record_54 : decode cX5_record 54 = .ok (.iastore, 1) := by decide +kernel
theorem dX5_record_55 : decode cX5_record 55 = .ok (.aload_n 0, 1) := by decide +kernel
theorem dX5_record_56 : decode cX5_record 56 = .ok (.getfield 45, 3) := by decide +kernel
theorem dX5_record_59 : decode cX5_record 59 = .ok (.iload 5, 2) := by decide +kernel
theorem dX5_record_61 : decode cX5_record 61 = .ok (.aload_n 0, 1) := by decide +kernel
theorem dX5_record_62 : decode cX5_record 62 = .ok (.getfield 138, 3) := by decide +kernel
theorem dX5_record_65 : decode cX5_record 65 = .ok (.lastore, 1) := by decide +kernel
theorem dX5_record_66 : decode cX5_record 66 = .ok (.aload_n 0, 1) := by decide +kernel
theorem dX5_record_67 : decode cX5_record 67 = .ok (.getfield 48, 3) := by decide +kernel
theorem dX5_record_70 : decode cX5_record 70 = .ok (.iload 5, 2) := by decide +kernel
theorem dX5_record_72 : decode cX5_record 72 = .ok (.lload_n 3, 1) := by decide +kernel
theorem dX5_record_73 : decode cX5_record 73 = .ok (.lastore, 1) := by decide +kernel
theorem dX5_record_74 : decode cX5_record 74 = .ok (.iconst 0, 1) := by decide +kernel
theorem dX5_record_75 : decode cX5_record 75 = .ok (.istore 6, 2) := by decide +kernel
theorem dX5_record_77 : decode cX5_record 77 = .ok (.iload 6, 2) := by decide +kernel
theorem dX5_record_79 : decode cX5_record 79 = .ok (.aload_n 0, 1) := by decide +kernel
theorem dX5_record_80 : decode cX5_record 80 = .ok (.getfield 101, 3) := by decide +kernel
theorem dX5_record_83 : decode cX5_record 83 = .ok (.if_icmp .ge 69, 3) := by decide +kernel
theorem dX5_record_86 : decode cX5_record 86 = .ok (.aload_n 0, 1) := by decide +kernel
theorem dX5_record_87 : decode cX5_record 87 = .ok (.getfield 51, 3) := by decide +kernel
theorem dX5_record_90 : decode cX5_record 90 = .ok (.bipush 12, 2) := by decide +kernel
theorem dX5_record_92 : decode cX5_record 92 = .ok (.iload 5, 2) := by decide +kernel
theorem dX5_record_94 : decode cX5_record 94 = .ok (.imul, 1) := by decide +kernel
theorem dX5_record_95 : decode cX5_record 95 = .ok (.iload 6, 2) := by decide +kernel
theorem dX5_record_97 : decode cX5_record 97 = .ok (.iadd, 1) := by decide +kernel
theorem dX5_record_98 : decode cX5_record 98 = .ok (.aload_n 0, 1) := by decide +kernel
theorem dX5_record_99 : decode cX5_record 99 = .ok (.getfield 72, 3) := by decide +kernel
theorem dX5_record_102 : decode cX5_record 102 = .ok (.iload 6, 2) := by decide +kernel
theorem dX5_record_104 : decode cX5_record 104 = .ok (.laload, 1) := by decide +kernel
theorem dX5_record_105 : decode cX5_record 105 = .ok (.lastore, 1) := by decide +kernel
theorem dX5_record_106 : decode cX5_record 106 = .ok (.aload_n 0, 1) := by decide +kernel
theorem dX5_record_107 : decode cX5_record 107 = .ok (.getfield 54, 3) := by decide +kernel
theorem dX5_record_110 : decode cX5_record 110 = .ok (.bipush 12, 2) := by decide +kernel
theorem dX5_record_112 : decode cX5_record 112 = .ok (.iload 5, 2) := by decide +kernel
theorem dX5_record_114 : decode cX5_record 114 = .ok (.imul, 1) := by decide +kernel
theorem dX5_record_115 : decode cX5_record 115 = .ok (.iload 6, 2) := by decide +kernel
theorem dX5_record_117 : decode cX5_record 117 = .ok (.iadd, 1) := by decide +kernel
theorem dX5_record_118 : decode cX5_record 118 = .ok (.aload_n 0, 1) := by decide +kernel
theorem dX5_record_119 : decode cX5_record 119 = .ok (.getfield 75, 3) := by decide +kernel
theorem dX5_record_122 : decode cX5_record 122 = .ok (.iload 6, 2) := by decide +kernel
theorem dX5_record_124 : decode cX5_record 124 = .ok (.iaload, 1) := by decide +kernel
theorem dX5_record_125 : decode cX5_record 125 = .ok (.iastore, 1) := by decide +kernel
theorem dX5_record_126 : decode cX5_record 126 = .ok (.aload_n 0, 1) := by decide +kernel
theorem dX5_record_127 : decode cX5_record 127 = .ok (.getfield 66, 3) := by decide +kernel
theorem dX5_record_130 : decode cX5_record 130 = .ok (.bipush 12, 2) := by decide +kernel
theorem dX5_record_132 : decode cX5_record 132 = .ok (.iload 5, 2) := by decide +kernel
theorem dX5_record_134 : decode cX5_record 134 = .ok (.imul, 1) := by decide +kernel
theorem dX5_record_135 : decode cX5_record 135 = .ok (.iload 6, 2) := by decide +kernel
theorem dX5_record_137 : decode cX5_record 137 = .ok (.iadd, 1) := by decide +kernel
theorem dX5_record_138 : decode cX5_record 138 = .ok (.aload_n 0, 1) := by decide +kernel
theorem dX5_record_139 : decode cX5_record 139 = .ok (.getfield 72, 3) := by decide +kernel
theorem dX5_record_142 : decode cX5_record 142 = .ok (.iload 6, 2) := by decide +kernel
theorem dX5_record_144 : decode cX5_record 144 = .ok (.laload, 1) := by decide +kernel
theorem dX5_record_145 : decode cX5_record 145 = .ok (.lastore, 1) := by decide +kernel
theorem dX5_record_146 : decode cX5_record 146 = .ok (.iinc 6 1, 3) := by decide +kernel
theorem dX5_record_149 : decode cX5_record 149 = .ok (.goto (-72), 3) := by decide +kernel
theorem dX5_record_152 : decode cX5_record 152 = .ok (.iconst 0, 1) := by decide +kernel
theorem dX5_record_153 : decode cX5_record 153 = .ok (.istore 6, 2) := by decide +kernel
theorem dX5_record_155 : decode cX5_record 155 = .ok (.iload 6, 2) := by decide +kernel
theorem dX5_record_157 : decode cX5_record 157 = .ok (.aload_n 0, 1) := by decide +kernel
theorem dX5_record_158 : decode cX5_record 158 = .ok (.getfield 104, 3) := by decide +kernel
theorem dX5_record_161 : decode cX5_record 161 = .ok (.if_icmp .ge 68, 3) := by decide +kernel
theorem dX5_record_164 : decode cX5_record 164 = .ok (.iload_n 1, 1) := by decide +kernel
theorem dX5_record_165 : decode cX5_record 165 = .ok (.iconst 3, 1) := by decide +kernel
theorem dX5_record_166 : decode cX5_record 166 = .ok (.if_icmp .ge 63, 3) := by decide +kernel
theorem dX5_record_169 : decode cX5_record 169 = .ok (.aload_n 0, 1) := by decide +kernel
theorem dX5_record_170 : decode cX5_record 170 = .ok (.getfield 60, 3) := by decide +kernel
theorem dX5_record_173 : decode cX5_record 173 = .ok (.bipush 80, 2) := by decide +kernel
theorem dX5_record_175 : decode cX5_record 175 = .ok (.iload 5, 2) := by decide +kernel
theorem dX5_record_177 : decode cX5_record 177 = .ok (.imul, 1) := by decide +kernel
theorem dX5_record_178 : decode cX5_record 178 = .ok (.iload 6, 2) := by decide +kernel
theorem dX5_record_180 : decode cX5_record 180 = .ok (.iadd, 1) := by decide +kernel
theorem dX5_record_181 : decode cX5_record 181 = .ok (.aload_n 0, 1) := by decide +kernel
theorem dX5_record_182 : decode cX5_record 182 = .ok (.getfield 81, 3) := by decide +kernel
theorem dX5_record_185 : decode cX5_record 185 = .ok (.iload 6, 2) := by decide +kernel
theorem dX5_record_187 : decode cX5_record 187 = .ok (.iaload, 1) := by decide +kernel
theorem dX5_record_188 : decode cX5_record 188 = .ok (.iastore, 1) := by decide +kernel
theorem dX5_record_189 : decode cX5_record 189 = .ok (.aload_n 0, 1) := by decide +kernel
theorem dX5_record_190 : decode cX5_record 190 = .ok (.getfield 63, 3) := by decide +kernel
theorem dX5_record_193 : decode cX5_record 193 = .ok (.bipush 80, 2) := by decide +kernel
theorem dX5_record_195 : decode cX5_record 195 = .ok (.iload 5, 2) := by decide +kernel
theorem dX5_record_197 : decode cX5_record 197 = .ok (.imul, 1) := by decide +kernel
theorem dX5_record_198 : decode cX5_record 198 = .ok (.iload 6, 2) := by decide +kernel
theorem dX5_record_200 : decode cX5_record 200 = .ok (.iadd, 1) := by decide +kernel
theorem dX5_record_201 : decode cX5_record 201 = .ok (.aload_n 0, 1) := by decide +kernel
theorem dX5_record_202 : decode cX5_record 202 = .ok (.getfield 81, 3) := by decide +kernel
theorem dX5_record_205 : decode cX5_record 205 = .ok (.iload 6, 2) := by decide +kernel
theorem dX5_record_207 : decode cX5_record 207 = .ok (.iaload, 1) := by decide +kernel
theorem dX5_record_208 : decode cX5_record 208 = .ok (.ifCond .ge 7, 3) := by decide +kernel
theorem dX5_record_211 : decode cX5_record 211 = .ok (.lconst 0, 1) := by decide +kernel
theorem dX5_record_212 : decode cX5_record 212 = .ok (.goto 10, 3) := by decide +kernel
theorem dX5_record_215 : decode cX5_record 215 = .ok (.aload_n 0, 1) := by decide +kernel
theorem dX5_record_216 : decode cX5_record 216 = .ok (.getfield 84, 3) := by decide +kernel
theorem dX5_record_219 : decode cX5_record 219 = .ok (.iload 6, 2) := by decide +kernel
theorem dX5_record_221 : decode cX5_record 221 = .ok (.laload, 1) := by decide +kernel
theorem dX5_record_222 : decode cX5_record 222 = .ok (.lastore, 1) := by decide +kernel
theorem dX5_record_223 : decode cX5_record 223 = .ok (.iinc 6 1, 3) := by decide +kernel
theorem dX5_record_226 : decode cX5_record 226 = .ok (.goto (-71), 3) := by decide +kernel
theorem dX5_record_229 : decode cX5_record 229 = .ok (.aload_n 0, 1) := by decide +kernel
theorem dX5_record_230 : decode cX5_record 230 = .ok (.dup, 1) := by decide +kernel
theorem dX5_record_231 : decode cX5_record 231 = .ok (.getfield 124, 3) := by decide +kernel
theorem dX5_record_234 : decode cX5_record 234 = .ok (.iconst 1, 1) := by decide +kernel
theorem dX5_record_235 : decode cX5_record 235 = .ok (.iadd, 1) := by decide +kernel
theorem dX5_record_236 : decode cX5_record 236 = .ok (.putfield 124, 3) := by decide +kernel
theorem dX5_record_239 : decode cX5_record 239 = .ok (.return_, 1) := by decide +kernel
theorem dX5_next_0 : decode cX5_next 0 = .ok (.iconst 0, 1) := by decide +kernel
theorem dX5_next_1 : decode cX5_next 1 = .ok (.istore_n 2, 1) := by decide +kernel
theorem dX5_next_2 : decode cX5_next 2 = .ok (.iload_n 2, 1) := by decide +kernel
theorem dX5_next_3 : decode cX5_next 3 = .ok (.aload_n 0, 1) := by decide +kernel
theorem dX5_next_4 : decode cX5_next 4 = .ok (.getfield 20, 3) := by decide +kernel
theorem dX5_next_7 : decode cX5_next 7 = .ok (.iload_n 1, 1) := by decide +kernel
theorem dX5_next_8 : decode cX5_next 8 = .ok (.iaload, 1) := by decide +kernel
theorem dX5_next_9 : decode cX5_next 9 = .ok (.if_icmp .ge 40, 3) := by decide +kernel
theorem dX5_next_12 : decode cX5_next 12 = .ok (.aload_n 0, 1) := by decide +kernel
theorem dX5_next_13 : decode cX5_next 13 = .ok (.getfield 75, 3) := by decide +kernel
theorem dX5_next_16 : decode cX5_next 16 = .ok (.aload_n 0, 1) := by decide +kernel
theorem dX5_next_17 : decode cX5_next 17 = .ok (.getfield 23, 3) := by decide +kernel
theorem dX5_next_20 : decode cX5_next 20 = .ok (.bipush 12, 2) := by decide +kernel
theorem dX5_next_22 : decode cX5_next 22 = .ok (.iload_n 1, 1) := by decide +kernel
theorem dX5_next_23 : decode cX5_next 23 = .ok (.imul, 1) := by decide +kernel
theorem dX5_next_24 : decode cX5_next 24 = .ok (.iload_n 2, 1) := by decide +kernel
theorem dX5_next_25 : decode cX5_next 25 = .ok (.iadd, 1) := by decide +kernel
theorem dX5_next_26 : decode cX5_next 26 = .ok (.iaload, 1) := by decide +kernel
theorem dX5_next_27 : decode cX5_next 27 = .ok (.iaload, 1) := by decide +kernel
theorem dX5_next_28 : decode cX5_next 28 = .ok (.ifCond .ne 15, 3) := by decide +kernel
theorem dX5_next_31 : decode cX5_next 31 = .ok (.aload_n 0, 1) := by decide +kernel
theorem dX5_next_32 : decode cX5_next 32 = .ok (.getfield 23, 3) := by decide +kernel
theorem dX5_next_35 : decode cX5_next 35 = .ok (.bipush 12, 2) := by decide +kernel
theorem dX5_next_37 : decode cX5_next 37 = .ok (.iload_n 1, 1) := by decide +kernel
theorem dX5_next_38 : decode cX5_next 38 = .ok (.imul, 1) := by decide +kernel
theorem dX5_next_39 : decode cX5_next 39 = .ok (.iload_n 2, 1) := by decide +kernel
theorem dX5_next_40 : decode cX5_next 40 = .ok (.iadd, 1) := by decide +kernel
theorem dX5_next_41 : decode cX5_next 41 = .ok (.iaload, 1) := by decide +kernel
theorem dX5_next_42 : decode cX5_next 42 = .ok (.ireturn, 1) := by decide +kernel
theorem dX5_next_43 : decode cX5_next 43 = .ok (.iinc 2 1, 3) := by decide +kernel
theorem dX5_next_46 : decode cX5_next 46 = .ok (.goto (-44), 3) := by decide +kernel
theorem dX5_next_49 : decode cX5_next 49 = .ok (.iconst (-1), 1) := by decide +kernel
theorem dX5_next_50 : decode cX5_next 50 = .ok (.ireturn, 1) := by decide +kernel
set_option maxRecDepth 20000 in
theorem ggX5_goes_X5_next : GoodIn wsX5_goes wsX5_next := goodIn_r _ [12, 13, 14, 15, 16, 17, 18, 19, 20, 21, 22, 23, 24, 25, 26, 27, 28, 29, 30, 31, 32, 33, 34, 35, 36, 37, 38, 39, 40, 41, 42, 43, 44, 45, 46, 47, 48, 49, 50, 51, 52, 53] (by decide +kernel) (by decide +kernel)
set_option maxRecDepth 20000 in
theorem gX5_goes_X5_next : GoodIn wsX5_goes (wsV RX5 159 RX5 yX5_next wsX5_next) := goodIn_app (goodIn_of _ (by decide +kernel)) ggX5_goes_X5_next
theorem dX5_goes_0 : decode cX5_goes 0 = .ok (.aload_n 0, 1) := by decide +kernel
theorem dX5_goes_1 : decode cX5_goes 1 = .ok (.iload_n 1, 1) := by decide +kernel
theorem dX5_goes_2 : decode cX5_goes 2 = .ok (.invokevirtual 159, 3) := by decide +kernel
theorem dX5_goes_5 : decode cX5_goes 5 = .ok (.istore 4, 2) := by decide +kernel
theorem dX5_goes_7 : decode cX5_goes 7 = .ok (.aload_n 0, 1) := by decide +kernel
theorem dX5_goes_8 : decode cX5_goes 8 = .ok (.getfield 81, 3) := by decide +kernel
theorem dX5_goes_11 : decode cX5_goes 11 = .ok (.iload_n 1, 1) := by decide +kernel
theorem dX5_goes_12 : decode cX5_goes 12 = .ok (.iload 4, 2) := by decide +kernel
theorem dX5_goes_14 : decode cX5_goes 14 = .ok (.iastore, 1) := by decide +kernel
theorem dX5_goes_15 : decode cX5_goes 15 = .ok (.aload_n 0, 1) := by decide +kernel
theorem dX5_goes_16 : decode cX5_goes 16 = .ok (.getfield 84, 3) := by decide +kernel
theorem dX5_goes_19 : decode cX5_goes 19 = .ok (.iload_n 1, 1) := by decide +kernel
theorem dX5_goes_20 : decode cX5_goes 20 = .ok (.lload_n 2, 1) := by decide +kernel
theorem dX5_goes_21 : decode cX5_goes 21 = .ok (.lastore, 1) := by decide +kernel
theorem dX5_goes_22 : decode cX5_goes 22 = .ok (.aload_n 0, 1) := by decide +kernel
theorem dX5_goes_23 : decode cX5_goes 23 = .ok (.getfield 87, 3) := by decide +kernel
theorem dX5_goes_26 : decode cX5_goes 26 = .ok (.iload_n 1, 1) := by decide +kernel
theorem dX5_goes_27 : decode cX5_goes 27 = .ok (.aload_n 0, 1) := by decide +kernel
theorem dX5_goes_28 : decode cX5_goes 28 = .ok (.getfield 124, 3) := by decide +kernel
theorem dX5_goes_31 : decode cX5_goes 31 = .ok (.iastore, 1) := by decide +kernel
theorem dX5_goes_32 : decode cX5_goes 32 = .ok (.iload 4, 2) := by decide +kernel
theorem dX5_goes_34 : decode cX5_goes 34 = .ok (.ifCond .ge 23, 3) := by decide +kernel
theorem dX5_goes_37 : decode cX5_goes 37 = .ok (.aload_n 0, 1) := by decide +kernel
theorem dX5_goes_38 : decode cX5_goes 38 = .ok (.dup, 1) := by decide +kernel
theorem dX5_goes_39 : decode cX5_goes 39 = .ok (.getfield 153, 3) := by decide +kernel
theorem dX5_goes_42 : decode cX5_goes 42 = .ok (.aload_n 0, 1) := by decide +kernel
theorem dX5_goes_43 : decode cX5_goes 43 = .ok (.getfield 17, 3) := by decide +kernel
theorem dX5_goes_46 : decode cX5_goes 46 = .ok (.iload_n 1, 1) := by decide +kernel
theorem dX5_goes_47 : decode cX5_goes 47 = .ok (.iaload, 1) := by decide +kernel
theorem dX5_goes_48 : decode cX5_goes 48 = .ok (.i2l, 1) := by decide +kernel
theorem dX5_goes_49 : decode cX5_goes 49 = .ok (.lload_n 2, 1) := by decide +kernel
theorem dX5_goes_50 : decode cX5_goes 50 = .ok (.lmul, 1) := by decide +kernel
theorem dX5_goes_51 : decode cX5_goes 51 = .ok (.ladd, 1) := by decide +kernel
theorem dX5_goes_52 : decode cX5_goes 52 = .ok (.putfield 153, 3) := by decide +kernel
theorem dX5_goes_55 : decode cX5_goes 55 = .ok (.iconst 0, 1) := by decide +kernel
theorem dX5_goes_56 : decode cX5_goes 56 = .ok (.ireturn, 1) := by decide +kernel
theorem dX5_goes_57 : decode cX5_goes 57 = .ok (.aload_n 0, 1) := by decide +kernel
theorem dX5_goes_58 : decode cX5_goes 58 = .ok (.getfield 72, 3) := by decide +kernel
theorem dX5_goes_61 : decode cX5_goes 61 = .ok (.iload 4, 2) := by decide +kernel
theorem dX5_goes_63 : decode cX5_goes 63 = .ok (.dup2, 1) := by decide +kernel
theorem dX5_goes_64 : decode cX5_goes 64 = .ok (.laload, 1) := by decide +kernel
theorem dX5_goes_65 : decode cX5_goes 65 = .ok (.aload_n 0, 1) := by decide +kernel
theorem dX5_goes_66 : decode cX5_goes 66 = .ok (.getfield 17, 3) := by decide +kernel
theorem dX5_goes_69 : decode cX5_goes 69 = .ok (.iload_n 1, 1) := by decide +kernel
theorem dX5_goes_70 : decode cX5_goes 70 = .ok (.iaload, 1) := by decide +kernel
theorem dX5_goes_71 : decode cX5_goes 71 = .ok (.i2l, 1) := by decide +kernel
theorem dX5_goes_72 : decode cX5_goes 72 = .ok (.lload_n 2, 1) := by decide +kernel
theorem dX5_goes_73 : decode cX5_goes 73 = .ok (.lmul, 1) := by decide +kernel
theorem dX5_goes_74 : decode cX5_goes 74 = .ok (.ladd, 1) := by decide +kernel
theorem dX5_goes_75 : decode cX5_goes 75 = .ok (.lastore, 1) := by decide +kernel
theorem dX5_goes_76 : decode cX5_goes 76 = .ok (.iconst 1, 1) := by decide +kernel
theorem dX5_goes_77 : decode cX5_goes 77 = .ok (.ireturn, 1) := by decide +kernel
set_option maxRecDepth 20000 in
theorem ggX5_surplusOfAll_X5_goes : GoodIn wsX5_surplusOfAll wsX5_goes := goodIn_r _ [12, 3, 6, 13, 14, 15, 4, 1, 16, 17, 18, 11, 19, 20, 21, 22, 23, 24, 25, 26, 27, 28, 29, 30, 31, 32, 33, 34, 35, 36, 37, 38, 39, 40, 41, 42, 43, 44, 45, 46, 47, 48, 49, 50, 51, 52, 53, 54, 55, 56, 57, 58, 59, 60] (by decide +kernel) (by decide +kernel)
set_option maxRecDepth 20000 in
theorem gX5_surplusOfAll_X5_goes : GoodIn wsX5_surplusOfAll (wsV RX5 162 RX5 yX5_goes wsX5_goes) := goodIn_app (goodIn_of _ (by decide +kernel)) ggX5_surplusOfAll_X5_goes
theorem dX5_surplusOfAll_0 : decode cX5_surplusOfAll 0 = .ok (.aload_n 0, 1) := by decide +kernel
theorem dX5_surplusOfAll_1 : decode cX5_surplusOfAll 1 = .ok (.getfield 72, 3) := by decide +kernel
theorem dX5_surplusOfAll_4 : decode cX5_surplusOfAll 4 = .ok (.iload_n 1, 1) := by decide +kernel
theorem dX5_surplusOfAll_5 : decode cX5_surplusOfAll 5 = .ok (.laload, 1) := by decide +kernel
theorem dX5_surplusOfAll_6 : decode cX5_surplusOfAll 6 = .ok (.lstore 4, 2) := by decide +kernel
theorem dX5_surplusOfAll_8 : decode cX5_surplusOfAll 8 = .ok (.lconst 0, 1) := by decide +kernel
theorem dX5_surplusOfAll_9 : decode cX5_surplusOfAll 9 = .ok (.lstore 6, 2) := by decide +kernel
theorem dX5_surplusOfAll_11 : decode cX5_surplusOfAll 11 = .ok (.iconst 0, 1) := by decide +kernel
theorem dX5_surplusOfAll_12 : decode cX5_surplusOfAll 12 = .ok (.istore 8, 2) := by decide +kernel
theorem dX5_surplusOfAll_14 : decode cX5_surplusOfAll 14 = .ok (.iload 8, 2) := by decide +kernel
theorem dX5_surplusOfAll_16 : decode cX5_surplusOfAll 16 = .ok (.aload_n 0, 1) := by decide +kernel
theorem dX5_surplusOfAll_17 : decode cX5_surplusOfAll 17 = .ok (.getfield 104, 3) := by decide +kernel
theorem dX5_surplusOfAll_20 : decode cX5_surplusOfAll 20 = .ok (.if_icmp .ge 37, 3) := by decide +kernel
theorem dX5_surplusOfAll_23 : decode cX5_surplusOfAll 23 = .ok (.lload 6, 2) := by decide +kernel
theorem dX5_surplusOfAll_25 : decode cX5_surplusOfAll 25 = .ok (.aload_n 0, 1) := by decide +kernel
theorem dX5_surplusOfAll_26 : decode cX5_surplusOfAll 26 = .ok (.getfield 81, 3) := by decide +kernel
theorem dX5_surplusOfAll_29 : decode cX5_surplusOfAll 29 = .ok (.iload 8, 2) := by decide +kernel
theorem dX5_surplusOfAll_31 : decode cX5_surplusOfAll 31 = .ok (.iaload, 1) := by decide +kernel
theorem dX5_surplusOfAll_32 : decode cX5_surplusOfAll 32 = .ok (.iload_n 1, 1) := by decide +kernel
theorem dX5_surplusOfAll_33 : decode cX5_surplusOfAll 33 = .ok (.if_icmp .ne 14, 3) := by decide +kernel
theorem dX5_surplusOfAll_36 : decode cX5_surplusOfAll 36 = .ok (.aload_n 0, 1) := by decide +kernel
theorem dX5_surplusOfAll_37 : decode cX5_surplusOfAll 37 = .ok (.getfield 17, 3) := by decide +kernel
theorem dX5_surplusOfAll_40 : decode cX5_surplusOfAll 40 = .ok (.iload 8, 2) := by decide +kernel
theorem dX5_surplusOfAll_42 : decode cX5_surplusOfAll 42 = .ok (.iaload, 1) := by decide +kernel
theorem dX5_surplusOfAll_43 : decode cX5_surplusOfAll 43 = .ok (.i2l, 1) := by decide +kernel
theorem dX5_surplusOfAll_44 : decode cX5_surplusOfAll 44 = .ok (.goto 4, 3) := by decide +kernel
theorem dX5_surplusOfAll_47 : decode cX5_surplusOfAll 47 = .ok (.lconst 0, 1) := by decide +kernel
theorem dX5_surplusOfAll_48 : decode cX5_surplusOfAll 48 = .ok (.ladd, 1) := by decide +kernel
theorem dX5_surplusOfAll_49 : decode cX5_surplusOfAll 49 = .ok (.lstore 6, 2) := by decide +kernel
theorem dX5_surplusOfAll_51 : decode cX5_surplusOfAll 51 = .ok (.iinc 8 1, 3) := by decide +kernel
theorem dX5_surplusOfAll_54 : decode cX5_surplusOfAll 54 = .ok (.goto (-40), 3) := by decide +kernel
theorem dX5_surplusOfAll_57 : decode cX5_surplusOfAll 57 = .ok (.lconst 0, 1) := by decide +kernel
theorem dX5_surplusOfAll_58 : decode cX5_surplusOfAll 58 = .ok (.lstore 8, 2) := by decide +kernel
theorem dX5_surplusOfAll_60 : decode cX5_surplusOfAll 60 = .ok (.iconst 0, 1) := by decide +kernel
theorem dX5_surplusOfAll_61 : decode cX5_surplusOfAll 61 = .ok (.istore 10, 2) := by decide +kernel
theorem dX5_surplusOfAll_63 : decode cX5_surplusOfAll 63 = .ok (.iload 10, 2) := by decide +kernel
theorem dX5_surplusOfAll_65 : decode cX5_surplusOfAll 65 = .ok (.aload_n 0, 1) := by decide +kernel
theorem dX5_surplusOfAll_66 : decode cX5_surplusOfAll 66 = .ok (.getfield 104, 3) := by decide +kernel
theorem dX5_surplusOfAll_69 : decode cX5_surplusOfAll 69 = .ok (.if_icmp .ge 73, 3) := by decide +kernel
theorem dX5_surplusOfAll_72 : decode cX5_surplusOfAll 72 = .ok (.aload_n 0, 1) := by decide +kernel
theorem dX5_surplusOfAll_73 : decode cX5_surplusOfAll 73 = .ok (.getfield 81, 3) := by decide +kernel
theorem dX5_surplusOfAll_76 : decode cX5_surplusOfAll 76 = .ok (.iload 10, 2) := by decide +kernel
theorem dX5_surplusOfAll_78 : decode cX5_surplusOfAll 78 = .ok (.iaload, 1) := by decide +kernel
theorem dX5_surplusOfAll_79 : decode cX5_surplusOfAll 79 = .ok (.iload_n 1, 1) := by decide +kernel
theorem dX5_surplusOfAll_80 : decode cX5_surplusOfAll 80 = .ok (.if_icmp .ne 56, 3) := by decide +kernel
theorem dX5_surplusOfAll_83 : decode cX5_surplusOfAll 83 = .ok (.aload_n 0, 1) := by decide +kernel
theorem dX5_surplusOfAll_84 : decode cX5_surplusOfAll 84 = .ok (.getfield 97, 3) := by decide +kernel
theorem dX5_surplusOfAll_87 : decode cX5_surplusOfAll 87 = .ok (.ifCond .ne 18, 3) := by decide +kernel
theorem dX5_surplusOfAll_90 : decode cX5_surplusOfAll 90 = .ok (.aload_n 0, 1) := by decide +kernel
theorem dX5_surplusOfAll_91 : decode cX5_surplusOfAll 91 = .ok (.getfield 84, 3) := by decide +kernel
theorem dX5_surplusOfAll_94 : decode cX5_surplusOfAll 94 = .ok (.iload 10, 2) := by decide +kernel
theorem dX5_surplusOfAll_96 : decode cX5_surplusOfAll 96 = .ok (.laload, 1) := by decide +kernel
theorem dX5_surplusOfAll_97 : decode cX5_surplusOfAll 97 = .ok (.lload_n 2, 1) := by decide +kernel
theorem dX5_surplusOfAll_98 : decode cX5_surplusOfAll 98 = .ok (.lmul, 1) := by decide +kernel
theorem dX5_surplusOfAll_99 : decode cX5_surplusOfAll 99 = .ok (.lload 4, 2) := by decide +kernel
theorem dX5_surplusOfAll_101 : decode cX5_surplusOfAll 101 = .ok (.ldiv, 1) := by decide +kernel
theorem dX5_surplusOfAll_102 : decode cX5_surplusOfAll 102 = .ok (.goto 7, 3) := by decide +kernel
theorem dX5_surplusOfAll_105 : decode cX5_surplusOfAll 105 = .ok (.lload_n 2, 1) := by decide +kernel
theorem dX5_surplusOfAll_106 : decode cX5_surplusOfAll 106 = .ok (.lload 6, 2) := by decide +kernel
theorem dX5_surplusOfAll_108 : decode cX5_surplusOfAll 108 = .ok (.ldiv, 1) := by decide +kernel
theorem dX5_surplusOfAll_109 : decode cX5_surplusOfAll 109 = .ok (.lstore 11, 2) := by decide +kernel
theorem dX5_surplusOfAll_111 : decode cX5_surplusOfAll 111 = .ok (.lload 8, 2) := by decide +kernel
theorem dX5_surplusOfAll_113 : decode cX5_surplusOfAll 113 = .ok (.aload_n 0, 1) := by decide +kernel
theorem dX5_surplusOfAll_114 : decode cX5_surplusOfAll 114 = .ok (.getfield 17, 3) := by decide +kernel
theorem dX5_surplusOfAll_117 : decode cX5_surplusOfAll 117 = .ok (.iload 10, 2) := by decide +kernel
theorem dX5_surplusOfAll_119 : decode cX5_surplusOfAll 119 = .ok (.iaload, 1) := by decide +kernel
theorem dX5_surplusOfAll_120 : decode cX5_surplusOfAll 120 = .ok (.i2l, 1) := by decide +kernel
theorem dX5_surplusOfAll_121 : decode cX5_surplusOfAll 121 = .ok (.lload 11, 2) := by decide +kernel
theorem dX5_surplusOfAll_123 : decode cX5_surplusOfAll 123 = .ok (.lmul, 1) := by decide +kernel
theorem dX5_surplusOfAll_124 : decode cX5_surplusOfAll 124 = .ok (.ladd, 1) := by decide +kernel
theorem dX5_surplusOfAll_125 : decode cX5_surplusOfAll 125 = .ok (.lstore 8, 2) := by decide +kernel
theorem dX5_surplusOfAll_127 : decode cX5_surplusOfAll 127 = .ok (.aload_n 0, 1) := by decide +kernel
theorem dX5_surplusOfAll_128 : decode cX5_surplusOfAll 128 = .ok (.iload 10, 2) := by decide +kernel
theorem dX5_surplusOfAll_130 : decode cX5_surplusOfAll 130 = .ok (.lload 11, 2) := by decide +kernel
theorem dX5_surplusOfAll_132 : decode cX5_surplusOfAll 132 = .ok (.invokevirtual 162, 3) := by decide +kernel
theorem dX5_surplusOfAll_135 : decode cX5_surplusOfAll 135 = .ok (.pop, 1) := by decide +kernel
theorem dX5_surplusOfAll_136 : decode cX5_surplusOfAll 136 = .ok (.iinc 10 1, 3) := by decide +kernel
theorem dX5_surplusOfAll_139 : decode cX5_surplusOfAll 139 = .ok (.goto (-76), 3) := by decide +kernel
theorem dX5_surplusOfAll_142 : decode cX5_surplusOfAll 142 = .ok (.aload_n 0, 1) := by decide +kernel
theorem dX5_surplusOfAll_143 : decode cX5_surplusOfAll 143 = .ok (.dup, 1) := by decide +kernel
theorem dX5_surplusOfAll_144 : decode cX5_surplusOfAll 144 = .ok (.getfield 156, 3) := by decide +kernel
theorem dX5_surplusOfAll_147 : decode cX5_surplusOfAll 147 = .ok (.lload_n 2, 1) := by decide +kernel
theorem dX5_surplusOfAll_148 : decode cX5_surplusOfAll 148 = .ok (.lload 8, 2) := by decide +kernel
theorem dX5_surplusOfAll_150 : decode cX5_surplusOfAll 150 = .ok (.lsub, 1) := by decide +kernel
theorem dX5_surplusOfAll_151 : decode cX5_surplusOfAll 151 = .ok (.ladd, 1) := by decide +kernel
theorem dX5_surplusOfAll_152 : decode cX5_surplusOfAll 152 = .ok (.putfield 156, 3) := by decide +kernel
theorem dX5_surplusOfAll_155 : decode cX5_surplusOfAll 155 = .ok (.return_, 1) := by decide +kernel
set_option maxRecDepth 20000 in
theorem ggX5_surplusOfLast_X5_next : GoodIn wsX5_surplusOfLast wsX5_next := goodIn_r _ [12, 13, 14, 15, 22, 23, 24, 25, 26, 27, 28, 29, 30, 31, 32, 33, 34, 35, 36, 37, 38, 39, 40, 41, 42, 43, 44, 45, 46, 47, 48, 49, 50, 51, 52, 53, 54, 55, 56, 57, 58, 59] (by decide +kernel) (by decide +kernel)
set_option maxRecDepth 20000 in
theorem gX5_surplusOfLast_X5_next : GoodIn wsX5_surplusOfLast (wsV RX5 159 RX5 yX5_next wsX5_next) := goodIn_app (goodIn_of _ (by decide +kernel)) ggX5_surplusOfLast_X5_next
set_option maxRecDepth 20000 in
theorem ggX5_surplusOfLast_X5_goes : GoodIn wsX5_surplusOfLast wsX5_goes := goodIn_r _ [19, 2, 5, 3, 20, 7, 4, 21, 8, 9, 10, 11, 12, 13, 14, 15, 22, 23, 24, 25, 26, 27, 28, 29, 30, 31, 32, 33, 34, 35, 36, 37, 38, 39, 40, 41, 42, 43, 44, 45, 46, 47, 48, 49, 50, 51, 52, 53, 54, 55, 56, 57, 58, 59] (by decide +kernel) (by decide +kernel)
set_option maxRecDepth 20000 in
theorem gX5_surplusOfLast_X5_goes : GoodIn wsX5_surplusOfLast (wsV RX5 162 RX5 yX5_goes wsX5_goes) := goodIn_app (goodIn_of _ (by decide +kernel)) ggX5_surplusOfLast_X5_goes
theorem dX5_surplusOfLast_0 : decode cX5_surplusOfLast 0 = .ok (.iconst (-1), 1) := by decide +kernel
theorem dX5_surplusOfLast_1 : decode cX5_surplusOfLast 1 = .ok (.istore 4, 2) := by decide +kernel
theorem dX5_surplusOfLast_3 : decode cX5_surplusOfLast 3 = .ok (.iconst 0, 1) := by decide +kernel
theorem dX5_surplusOfLast_4 : decode cX5_surplusOfLast 4 = .ok (.istore 5, 2) := by decide +kernel
theorem dX5_surplusOfLast_6 : decode cX5_surplusOfLast 6 = .ok (.iload 5, 2) := by decide +kernel
theorem dX5_surplusOfLast_8 : decode cX5_surplusOfLast 8 = .ok (.aload_n 0, 1) := by decide +kernel
theorem dX5_surplusOfLast_9 : decode cX5_surplusOfLast 9 = .ok (.getfield 104, 3) := by decide +kernel
theorem dX5_surplusOfLast_12 : decode cX5_surplusOfLast 12 = .ok (.if_icmp .ge 46, 3) := by decide +kernel
theorem dX5_surplusOfLast_15 : decode cX5_surplusOfLast 15 = .ok (.aload_n 0, 1) := by decide +kernel
theorem dX5_surplusOfLast_16 : decode cX5_surplusOfLast 16 = .ok (.getfield 81, 3) := by decide +kernel
theorem dX5_surplusOfLast_19 : decode cX5_surplusOfLast 19 = .ok (.iload 5, 2) := by decide +kernel
theorem dX5_surplusOfLast_21 : decode cX5_surplusOfLast 21 = .ok (.iaload, 1) := by decide +kernel
theorem dX5_surplusOfLast_22 : decode cX5_surplusOfLast 22 = .ok (.iload_n 1, 1) := by decide +kernel
theorem dX5_surplusOfLast_23 : decode cX5_surplusOfLast 23 = .ok (.if_icmp .ne 25, 3) := by decide +kernel
theorem dX5_surplusOfLast_26 : decode cX5_surplusOfLast 26 = .ok (.aload_n 0, 1) := by decide +kernel
theorem dX5_surplusOfLast_27 : decode cX5_surplusOfLast 27 = .ok (.getfield 87, 3) := by decide +kernel
theorem dX5_surplusOfLast_30 : decode cX5_surplusOfLast 30 = .ok (.iload 5, 2) := by decide +kernel
theorem dX5_surplusOfLast_32 : decode cX5_surplusOfLast 32 = .ok (.iaload, 1) := by decide +kernel
theorem dX5_surplusOfLast_33 : decode cX5_surplusOfLast 33 = .ok (.iload 4, 2) := by decide +kernel
theorem dX5_surplusOfLast_35 : decode cX5_surplusOfLast 35 = .ok (.if_icmp .le 13, 3) := by decide +kernel
theorem dX5_surplusOfLast_38 : decode cX5_surplusOfLast 38 = .ok (.aload_n 0, 1) := by decide +kernel
theorem dX5_surplusOfLast_39 : decode cX5_surplusOfLast 39 = .ok (.getfield 87, 3) := by decide +kernel
theorem dX5_surplusOfLast_42 : decode cX5_surplusOfLast 42 = .ok (.iload 5, 2) := by decide +kernel
theorem dX5_surplusOfLast_44 : decode cX5_surplusOfLast 44 = .ok (.iaload, 1) := by decide +kernel
theorem dX5_surplusOfLast_45 : decode cX5_surplusOfLast 45 = .ok (.goto 5, 3) := by decide +kernel
theorem dX5_surplusOfLast_48 : decode cX5_surplusOfLast 48 = .ok (.iload 4, 2) := by decide +kernel
theorem dX5_surplusOfLast_50 : decode cX5_surplusOfLast 50 = .ok (.istore 4, 2) := by decide +kernel
theorem dX5_surplusOfLast_52 : decode cX5_surplusOfLast 52 = .ok (.iinc 5 1, 3) := by decide +kernel
theorem dX5_surplusOfLast_55 : decode cX5_surplusOfLast 55 = .ok (.goto (-49), 3) := by decide +kernel
theorem dX5_surplusOfLast_58 : decode cX5_surplusOfLast 58 = .ok (.lconst 0, 1) := by decide +kernel
theorem dX5_surplusOfLast_59 : decode cX5_surplusOfLast 59 = .ok (.lstore 5, 2) := by decide +kernel
theorem dX5_surplusOfLast_61 : decode cX5_surplusOfLast 61 = .ok (.lconst 0, 1) := by decide +kernel
theorem dX5_surplusOfLast_62 : decode cX5_surplusOfLast 62 = .ok (.lstore 7, 2) := by decide +kernel
theorem dX5_surplusOfLast_64 : decode cX5_surplusOfLast 64 = .ok (.iconst 0, 1) := by decide +kernel
theorem dX5_surplusOfLast_65 : decode cX5_surplusOfLast 65 = .ok (.istore 9, 2) := by decide +kernel
theorem dX5_surplusOfLast_67 : decode cX5_surplusOfLast 67 = .ok (.iload 9, 2) := by decide +kernel
theorem dX5_surplusOfLast_69 : decode cX5_surplusOfLast 69 = .ok (.aload_n 0, 1) := by decide +kernel
theorem dX5_surplusOfLast_70 : decode cX5_surplusOfLast 70 = .ok (.getfield 104, 3) := by decide +kernel
theorem dX5_surplusOfLast_73 : decode cX5_surplusOfLast 73 = .ok (.if_icmp .ge 75, 3) := by decide +kernel
theorem dX5_surplusOfLast_76 : decode cX5_surplusOfLast 76 = .ok (.aload_n 0, 1) := by decide +kernel
theorem dX5_surplusOfLast_77 : decode cX5_surplusOfLast 77 = .ok (.getfield 81, 3) := by decide +kernel
theorem dX5_surplusOfLast_80 : decode cX5_surplusOfLast 80 = .ok (.iload 9, 2) := by decide +kernel
theorem dX5_surplusOfLast_82 : decode cX5_surplusOfLast 82 = .ok (.iaload, 1) := by decide +kernel
theorem dX5_surplusOfLast_83 : decode cX5_surplusOfLast 83 = .ok (.iload_n 1, 1) := by decide +kernel
theorem dX5_surplusOfLast_84 : decode cX5_surplusOfLast 84 = .ok (.if_icmp .ne 58, 3) := by decide +kernel
theorem dX5_surplusOfLast_87 : decode cX5_surplusOfLast 87 = .ok (.aload_n 0, 1) := by decide +kernel
theorem dX5_surplusOfLast_88 : decode cX5_surplusOfLast 88 = .ok (.getfield 87, 3) := by decide +kernel
theorem dX5_surplusOfLast_91 : decode cX5_surplusOfLast 91 = .ok (.iload 9, 2) := by decide +kernel
theorem dX5_surplusOfLast_93 : decode cX5_surplusOfLast 93 = .ok (.iaload, 1) := by decide +kernel
theorem dX5_surplusOfLast_94 : decode cX5_surplusOfLast 94 = .ok (.iload 4, 2) := by decide +kernel
theorem dX5_surplusOfLast_96 : decode cX5_surplusOfLast 96 = .ok (.if_icmp .ne 46, 3) := by decide +kernel
theorem dX5_surplusOfLast_99 : decode cX5_surplusOfLast 99 = .ok (.aload_n 0, 1) := by decide +kernel
theorem dX5_surplusOfLast_100 : decode cX5_surplusOfLast 100 = .ok (.iload 9, 2) := by decide +kernel
theorem dX5_surplusOfLast_102 : decode cX5_surplusOfLast 102 = .ok (.invokevirtual 159, 3) := by decide +kernel
theorem dX5_surplusOfLast_105 : decode cX5_surplusOfLast 105 = .ok (.ifCond .lt 37, 3) := by decide +kernel
theorem dX5_surplusOfLast_108 : decode cX5_surplusOfLast 108 = .ok (.lload 5, 2) := by decide +kernel
theorem dX5_surplusOfLast_110 : decode cX5_surplusOfLast 110 = .ok (.aload_n 0, 1) := by decide +kernel
theorem dX5_surplusOfLast_111 : decode cX5_surplusOfLast 111 = .ok (.getfield 17, 3) := by decide +kernel
theorem dX5_surplusOfLast_114 : decode cX5_surplusOfLast 114 = .ok (.iload 9, 2) := by decide +kernel
theorem dX5_surplusOfLast_116 : decode cX5_surplusOfLast 116 = .ok (.iaload, 1) := by decide +kernel
theorem dX5_surplusOfLast_117 : decode cX5_surplusOfLast 117 = .ok (.i2l, 1) := by decide +kernel
theorem dX5_surplusOfLast_118 : decode cX5_surplusOfLast 118 = .ok (.ladd, 1) := by decide +kernel
theorem dX5_surplusOfLast_119 : decode cX5_surplusOfLast 119 = .ok (.lstore 5, 2) := by decide +kernel
theorem dX5_surplusOfLast_121 : decode cX5_surplusOfLast 121 = .ok (.lload 7, 2) := by decide +kernel
theorem dX5_surplusOfLast_123 : decode cX5_surplusOfLast 123 = .ok (.aload_n 0, 1) := by decide +kernel
theorem dX5_surplusOfLast_124 : decode cX5_surplusOfLast 124 = .ok (.getfield 17, 3) := by decide +kernel
theorem dX5_surplusOfLast_127 : decode cX5_surplusOfLast 127 = .ok (.iload 9, 2) := by decide +kernel
theorem dX5_surplusOfLast_129 : decode cX5_surplusOfLast 129 = .ok (.iaload, 1) := by decide +kernel
theorem dX5_surplusOfLast_130 : decode cX5_surplusOfLast 130 = .ok (.i2l, 1) := by decide +kernel
theorem dX5_surplusOfLast_131 : decode cX5_surplusOfLast 131 = .ok (.aload_n 0, 1) := by decide +kernel
theorem dX5_surplusOfLast_132 : decode cX5_surplusOfLast 132 = .ok (.getfield 84, 3) := by decide +kernel
theorem dX5_surplusOfLast_135 : decode cX5_surplusOfLast 135 = .ok (.iload 9, 2) := by decide +kernel
theorem dX5_surplusOfLast_137 : decode cX5_surplusOfLast 137 = .ok (.laload, 1) := by decide +kernel
theorem dX5_surplusOfLast_138 : decode cX5_surplusOfLast 138 = .ok (.lmul, 1) := by decide +kernel
theorem dX5_surplusOfLast_139 : decode cX5_surplusOfLast 139 = .ok (.ladd, 1) := by decide +kernel
theorem dX5_surplusOfLast_140 : decode cX5_surplusOfLast 140 = .ok (.lstore 7, 2) := by decide +kernel
theorem dX5_surplusOfLast_142 : decode cX5_surplusOfLast 142 = .ok (.iinc 9 1, 3) := by decide +kernel
theorem dX5_surplusOfLast_145 : decode cX5_surplusOfLast 145 = .ok (.goto (-78), 3) := by decide +kernel
theorem dX5_surplusOfLast_148 : decode cX5_surplusOfLast 148 = .ok (.lconst 0, 1) := by decide +kernel
theorem dX5_surplusOfLast_149 : decode cX5_surplusOfLast 149 = .ok (.lstore 9, 2) := by decide +kernel
theorem dX5_surplusOfLast_151 : decode cX5_surplusOfLast 151 = .ok (.iconst 0, 1) := by decide +kernel
theorem dX5_surplusOfLast_152 : decode cX5_surplusOfLast 152 = .ok (.istore 11, 2) := by decide +kernel
theorem dX5_surplusOfLast_154 : decode cX5_surplusOfLast 154 = .ok (.iload 11, 2) := by decide +kernel
theorem dX5_surplusOfLast_156 : decode cX5_surplusOfLast 156 = .ok (.aload_n 0, 1) := by decide +kernel
theorem dX5_surplusOfLast_157 : decode cX5_surplusOfLast 157 = .ok (.getfield 104, 3) := by decide +kernel
theorem dX5_surplusOfLast_160 : decode cX5_surplusOfLast 160 = .ok (.if_icmp .ge 89, 3) := by decide +kernel
theorem dX5_surplusOfLast_163 : decode cX5_surplusOfLast 163 = .ok (.aload_n 0, 1) := by decide +kernel
theorem dX5_surplusOfLast_164 : decode cX5_surplusOfLast 164 = .ok (.getfield 81, 3) := by decide +kernel
theorem dX5_surplusOfLast_167 : decode cX5_surplusOfLast 167 = .ok (.iload 11, 2) := by decide +kernel
theorem dX5_surplusOfLast_169 : decode cX5_surplusOfLast 169 = .ok (.iaload, 1) := by decide +kernel
theorem dX5_surplusOfLast_170 : decode cX5_surplusOfLast 170 = .ok (.iload_n 1, 1) := by decide +kernel
theorem dX5_surplusOfLast_171 : decode cX5_surplusOfLast 171 = .ok (.if_icmp .ne 72, 3) := by decide +kernel
theorem dX5_surplusOfLast_174 : decode cX5_surplusOfLast 174 = .ok (.aload_n 0, 1) := by decide +kernel
theorem dX5_surplusOfLast_175 : decode cX5_surplusOfLast 175 = .ok (.getfield 87, 3) := by decide +kernel
theorem dX5_surplusOfLast_178 : decode cX5_surplusOfLast 178 = .ok (.iload 11, 2) := by decide +kernel
theorem dX5_surplusOfLast_180 : decode cX5_surplusOfLast 180 = .ok (.iaload, 1) := by decide +kernel
theorem dX5_surplusOfLast_181 : decode cX5_surplusOfLast 181 = .ok (.iload 4, 2) := by decide +kernel
theorem dX5_surplusOfLast_183 : decode cX5_surplusOfLast 183 = .ok (.if_icmp .ne 60, 3) := by decide +kernel
theorem dX5_surplusOfLast_186 : decode cX5_surplusOfLast 186 = .ok (.aload_n 0, 1) := by decide +kernel
theorem dX5_surplusOfLast_187 : decode cX5_surplusOfLast 187 = .ok (.iload 11, 2) := by decide +kernel
theorem dX5_surplusOfLast_189 : decode cX5_surplusOfLast 189 = .ok (.invokevirtual 159, 3) := by decide +kernel
theorem dX5_surplusOfLast_192 : decode cX5_surplusOfLast 192 = .ok (.ifCond .lt 51, 3) := by decide +kernel
theorem dX5_surplusOfLast_195 : decode cX5_surplusOfLast 195 = .ok (.lload 7, 2) := by decide +kernel
theorem dX5_surplusOfLast_197 : decode cX5_surplusOfLast 197 = .ok (.lload_n 2, 1) := by decide +kernel
theorem dX5_surplusOfLast_198 : decode cX5_surplusOfLast 198 = .ok (.lcmp, 1) := by decide +kernel
theorem dX5_surplusOfLast_199 : decode cX5_surplusOfLast 199 = .ok (.ifCond .le 10, 3) := by decide +kernel
theorem dX5_surplusOfLast_202 : decode cX5_surplusOfLast 202 = .ok (.lload_n 2, 1) := by decide +kernel
theorem dX5_surplusOfLast_203 : decode cX5_surplusOfLast 203 = .ok (.lload 5, 2) := by decide +kernel
theorem dX5_surplusOfLast_205 : decode cX5_surplusOfLast 205 = .ok (.ldiv, 1) := by decide +kernel
theorem dX5_surplusOfLast_206 : decode cX5_surplusOfLast 206 = .ok (.goto 10, 3) := by decide +kernel
theorem dX5_surplusOfLast_209 : decode cX5_surplusOfLast 209 = .ok (.aload_n 0, 1) := by decide +kernel
theorem dX5_surplusOfLast_210 : decode cX5_surplusOfLast 210 = .ok (.getfield 84, 3) := by decide +kernel
theorem dX5_surplusOfLast_213 : decode cX5_surplusOfLast 213 = .ok (.iload 11, 2) := by decide +kernel
theorem dX5_surplusOfLast_215 : decode cX5_surplusOfLast 215 = .ok (.laload, 1) := by decide +kernel
theorem dX5_surplusOfLast_216 : decode cX5_surplusOfLast 216 = .ok (.lstore 12, 2) := by decide +kernel
theorem dX5_surplusOfLast_218 : decode cX5_surplusOfLast 218 = .ok (.lload 9, 2) := by decide +kernel
theorem dX5_surplusOfLast_220 : decode cX5_surplusOfLast 220 = .ok (.aload_n 0, 1) := by decide +kernel
theorem dX5_surplusOfLast_221 : decode cX5_surplusOfLast 221 = .ok (.getfield 17, 3) := by decide +kernel
theorem dX5_surplusOfLast_224 : decode cX5_surplusOfLast 224 = .ok (.iload 11, 2) := by decide +kernel
theorem dX5_surplusOfLast_226 : decode cX5_surplusOfLast 226 = .ok (.iaload, 1) := by decide +kernel
theorem dX5_surplusOfLast_227 : decode cX5_surplusOfLast 227 = .ok (.i2l, 1) := by decide +kernel
theorem dX5_surplusOfLast_228 : decode cX5_surplusOfLast 228 = .ok (.lload 12, 2) := by decide +kernel
theorem dX5_surplusOfLast_230 : decode cX5_surplusOfLast 230 = .ok (.lmul, 1) := by decide +kernel
theorem dX5_surplusOfLast_231 : decode cX5_surplusOfLast 231 = .ok (.ladd, 1) := by decide +kernel
theorem dX5_surplusOfLast_232 : decode cX5_surplusOfLast 232 = .ok (.lstore 9, 2) := by decide +kernel
theorem dX5_surplusOfLast_234 : decode cX5_surplusOfLast 234 = .ok (.aload_n 0, 1) := by decide +kernel
theorem dX5_surplusOfLast_235 : decode cX5_surplusOfLast 235 = .ok (.iload 11, 2) := by decide +kernel
theorem dX5_surplusOfLast_237 : decode cX5_surplusOfLast 237 = .ok (.lload 12, 2) := by decide +kernel
theorem dX5_surplusOfLast_239 : decode cX5_surplusOfLast 239 = .ok (.invokevirtual 162, 3) := by decide +kernel
theorem dX5_surplusOfLast_242 : decode cX5_surplusOfLast 242 = .ok (.pop, 1) := by decide +kernel
theorem dX5_surplusOfLast_243 : decode cX5_surplusOfLast 243 = .ok (.iinc 11 1, 3) := by decide +kernel
theorem dX5_surplusOfLast_246 : decode cX5_surplusOfLast 246 = .ok (.goto (-92), 3) := by decide +kernel
theorem dX5_surplusOfLast_249 : decode cX5_surplusOfLast 249 = .ok (.lload 7, 2) := by decide +kernel
theorem dX5_surplusOfLast_251 : decode cX5_surplusOfLast 251 = .ok (.lload_n 2, 1) := by decide +kernel
theorem dX5_surplusOfLast_252 : decode cX5_surplusOfLast 252 = .ok (.lcmp, 1) := by decide +kernel
theorem dX5_surplusOfLast_253 : decode cX5_surplusOfLast 253 = .ok (.ifCond .le 19, 3) := by decide +kernel
theorem dX5_surplusOfLast_256 : decode cX5_surplusOfLast 256 = .ok (.aload_n 0, 1) := by decide +kernel
theorem dX5_surplusOfLast_257 : decode cX5_surplusOfLast 257 = .ok (.dup, 1) := by decide +kernel
theorem dX5_surplusOfLast_258 : decode cX5_surplusOfLast 258 = .ok (.getfield 156, 3) := by decide +kernel
theorem dX5_surplusOfLast_261 : decode cX5_surplusOfLast 261 = .ok (.lload_n 2, 1) := by decide +kernel
theorem dX5_surplusOfLast_262 : decode cX5_surplusOfLast 262 = .ok (.lload 9, 2) := by decide +kernel
theorem dX5_surplusOfLast_264 : decode cX5_surplusOfLast 264 = .ok (.lsub, 1) := by decide +kernel
theorem dX5_surplusOfLast_265 : decode cX5_surplusOfLast 265 = .ok (.ladd, 1) := by decide +kernel
theorem dX5_surplusOfLast_266 : decode cX5_surplusOfLast 266 = .ok (.putfield 156, 3) := by decide +kernel
theorem dX5_surplusOfLast_269 : decode cX5_surplusOfLast 269 = .ok (.goto 16, 3) := by decide +kernel
theorem dX5_surplusOfLast_272 : decode cX5_surplusOfLast 272 = .ok (.aload_n 0, 1) := by decide +kernel
theorem dX5_surplusOfLast_273 : decode cX5_surplusOfLast 273 = .ok (.dup, 1) := by decide +kernel
theorem dX5_surplusOfLast_274 : decode cX5_surplusOfLast 274 = .ok (.getfield 153, 3) := by decide +kernel
theorem dX5_surplusOfLast_277 : decode cX5_surplusOfLast 277 = .ok (.lload_n 2, 1) := by decide +kernel
theorem dX5_surplusOfLast_278 : decode cX5_surplusOfLast 278 = .ok (.lload 7, 2) := by decide +kernel
theorem dX5_surplusOfLast_280 : decode cX5_surplusOfLast 280 = .ok (.lsub, 1) := by decide +kernel
theorem dX5_surplusOfLast_281 : decode cX5_surplusOfLast 281 = .ok (.ladd, 1) := by decide +kernel
theorem dX5_surplusOfLast_282 : decode cX5_surplusOfLast 282 = .ok (.putfield 153, 3) := by decide +kernel
theorem dX5_surplusOfLast_285 : decode cX5_surplusOfLast 285 = .ok (.return_, 1) := by decide +kernel
set_option maxRecDepth 20000 in
theorem ggX5_transfer_X5_surplusOfAll : GoodIn wsX5_transfer wsX5_surplusOfAll := goodIn_r _ [8, 1, 9, 10, 11, 3, 12, 13, 14, 15, 16, 7, 17, 18, 19, 20, 21, 22, 23, 24, 25, 26, 27, 32, 33, 34, 35, 36, 37, 38, 39, 40, 41, 42, 43, 44, 45, 46, 47, 48, 49, 50, 51, 52, 53, 54, 55, 56, 57, 58, 59, 60, 61, 62, 63, 64, 65, 66, 67, 68, 69] (by decide +kernel) (by decide +kernel)
set_option maxRecDepth 20000 in
theorem gX5_transfer_X5_surplusOfAll : GoodIn wsX5_transfer (wsV RX5 166 RX5 yX5_surplusOfAll wsX5_surplusOfAll) := goodIn_app (goodIn_of _ (by decide +kernel)) ggX5_transfer_X5_surplusOfAll
set_option maxRecDepth 20000 in
theorem ggX5_transfer_X5_surplusOfLast : GoodIn wsX5_transfer wsX5_surplusOfLast := goodIn_r _ [31, 9, 10, 18, 11, 12, 13, 20, 21, 22, 23, 7, 24, 25, 26, 27, 14, 15, 16, 17, 19, 1, 32, 33, 34, 35, 36, 37, 38, 39, 40, 41, 42, 43, 44, 45, 46, 47, 48, 49, 50, 51, 52, 53, 54, 55, 56, 57, 58, 59, 60, 61, 62, 63, 64, 65, 66, 67, 68, 69] (by decide +kernel) (by decide +kernel)
set_option maxRecDepth 20000 in
theorem gX5_transfer_X5_surplusOfLast : GoodIn wsX5_transfer (wsV RX5 170 RX5 yX5_surplusOfLast wsX5_surplusOfLast) := goodIn_app (goodIn_of _ (by decide +kernel)) ggX5_transfer_X5_surplusOfLast
theorem dX5_transfer_0 : decode cX5_transfer 0 = .ok (.aload_n 0, 1) := by decide +kernel
theorem dX5_transfer_1 : decode cX5_transfer 1 = .ok (.getfield 72, 3) := by decide +kernel
theorem dX5_transfer_4 : decode cX5_transfer 4 = .ok (.iload_n 1, 1) := by decide +kernel
theorem dX5_transfer_5 : decode cX5_transfer 5 = .ok (.laload, 1) := by decide +kernel
theorem dX5_transfer_6 : decode cX5_transfer 6 = .ok (.aload_n 0, 1) := by decide +kernel
theorem dX5_transfer_7 : decode cX5_transfer 7 = .ok (.getfield 138, 3) := by decide +kernel
theorem dX5_transfer_10 : decode cX5_transfer 10 = .ok (.lsub, 1) := by decide +kernel
theorem dX5_transfer_11 : decode cX5_transfer 11 = .ok (.lstore_n 2, 1) := by decide +kernel
theorem dX5_transfer_12 : decode cX5_transfer 12 = .ok (.aload_n 0, 1) := by decide +kernel
theorem dX5_transfer_13 : decode cX5_transfer 13 = .ok (.getfield 97, 3) := by decide +kernel
theorem dX5_transfer_16 : decode cX5_transfer 16 = .ok (.iconst 2, 1) := by decide +kernel
theorem dX5_transfer_17 : decode cX5_transfer 17 = .ok (.if_icmp .ge 12, 3) := by decide +kernel
theorem dX5_transfer_20 : decode cX5_transfer 20 = .ok (.aload_n 0, 1) := by decide +kernel
theorem dX5_transfer_21 : decode cX5_transfer 21 = .ok (.iload_n 1, 1) := by decide +kernel
theorem dX5_transfer_22 : decode cX5_transfer 22 = .ok (.lload_n 2, 1) := by decide +kernel
theorem dX5_transfer_23 : decode cX5_transfer 23 = .ok (.invokevirtual 166, 3) := by decide +kernel
theorem dX5_transfer_26 : decode cX5_transfer 26 = .ok (.goto 9, 3) := by decide +kernel
theorem dX5_transfer_29 : decode cX5_transfer 29 = .ok (.aload_n 0, 1) := by decide +kernel
theorem dX5_transfer_30 : decode cX5_transfer 30 = .ok (.iload_n 1, 1) := by decide +kernel
theorem dX5_transfer_31 : decode cX5_transfer 31 = .ok (.lload_n 2, 1) := by decide +kernel
theorem dX5_transfer_32 : decode cX5_transfer 32 = .ok (.invokevirtual 170, 3) := by decide +kernel
theorem dX5_transfer_35 : decode cX5_transfer 35 = .ok (.aload_n 0, 1) := by decide +kernel
theorem dX5_transfer_36 : decode cX5_transfer 36 = .ok (.getfield 72, 3) := by decide +kernel
theorem dX5_transfer_39 : decode cX5_transfer 39 = .ok (.iload_n 1, 1) := by decide +kernel
theorem dX5_transfer_40 : decode cX5_transfer 40 = .ok (.aload_n 0, 1) := by decide +kernel
theorem dX5_transfer_41 : decode cX5_transfer 41 = .ok (.getfield 138, 3) := by decide +kernel
theorem dX5_transfer_44 : decode cX5_transfer 44 = .ok (.lastore, 1) := by decide +kernel
theorem dX5_transfer_45 : decode cX5_transfer 45 = .ok (.return_, 1) := by decide +kernel
set_option maxRecDepth 20000 in
theorem ggX5_goesOut_X5_goes : GoodIn wsX5_goesOut wsX5_goes := goodIn_r _ [10, 3, 4, 11, 12, 13, 14, 5, 15, 16, 17, 9, 18, 19, 1, 20, 21, 22, 23, 24, 25, 26, 27, 28, 29, 30, 31, 32, 33, 34, 35, 36, 37, 38, 39, 40, 41, 42, 43, 44, 45, 46, 47, 48, 49, 50, 51, 52, 53, 54, 55, 56, 57, 58] (by decide +kernel) (by decide +kernel)
set_option maxRecDepth 20000 in
theorem gX5_goesOut_X5_goes : GoodIn wsX5_goesOut (wsV RX5 162 RX5 yX5_goes wsX5_goes) := goodIn_app (goodIn_of _ (by decide +kernel)) ggX5_goesOut_X5_goes
theorem dX5_goesOut_0 : decode cX5_goesOut 0 = .ok (.aload_n 0, 1) := by decide +kernel
theorem dX5_goesOut_1 : decode cX5_goesOut 1 = .ok (.getfield 75, 3) := by decide +kernel
theorem dX5_goesOut_4 : decode cX5_goesOut 4 = .ok (.iload_n 1, 1) := by decide +kernel
theorem dX5_goesOut_5 : decode cX5_goesOut 5 = .ok (.iconst 2, 1) := by decide +kernel
theorem dX5_goesOut_6 : decode cX5_goesOut 6 = .ok (.iastore, 1) := by decide +kernel
theorem dX5_goesOut_7 : decode cX5_goesOut 7 = .ok (.iconst 0, 1) := by decide +kernel
theorem dX5_goesOut_8 : decode cX5_goesOut 8 = .ok (.istore_n 2, 1) := by decide +kernel
theorem dX5_goesOut_9 : decode cX5_goesOut 9 = .ok (.iload_n 2, 1) := by decide +kernel
theorem dX5_goesOut_10 : decode cX5_goesOut 10 = .ok (.aload_n 0, 1) := by decide +kernel
theorem dX5_goesOut_11 : decode cX5_goesOut 11 = .ok (.getfield 104, 3) := by decide +kernel
theorem dX5_goesOut_14 : decode cX5_goesOut 14 = .ok (.if_icmp .ge 31, 3) := by decide +kernel
theorem dX5_goesOut_17 : decode cX5_goesOut 17 = .ok (.aload_n 0, 1) := by decide +kernel
theorem dX5_goesOut_18 : decode cX5_goesOut 18 = .ok (.getfield 81, 3) := by decide +kernel
theorem dX5_goesOut_21 : decode cX5_goesOut 21 = .ok (.iload_n 2, 1) := by decide +kernel
theorem dX5_goesOut_22 : decode cX5_goesOut 22 = .ok (.iaload, 1) := by decide +kernel
theorem dX5_goesOut_23 : decode cX5_goesOut 23 = .ok (.iload_n 1, 1) := by decide +kernel
theorem dX5_goesOut_24 : decode cX5_goesOut 24 = .ok (.if_icmp .ne 15, 3) := by decide +kernel
theorem dX5_goesOut_27 : decode cX5_goesOut 27 = .ok (.aload_n 0, 1) := by decide +kernel
theorem dX5_goesOut_28 : decode cX5_goesOut 28 = .ok (.iload_n 2, 1) := by decide +kernel
theorem dX5_goesOut_29 : decode cX5_goesOut 29 = .ok (.aload_n 0, 1) := by decide +kernel
theorem dX5_goesOut_30 : decode cX5_goesOut 30 = .ok (.getfield 84, 3) := by decide +kernel
theorem dX5_goesOut_33 : decode cX5_goesOut 33 = .ok (.iload_n 2, 1) := by decide +kernel
theorem dX5_goesOut_34 : decode cX5_goesOut 34 = .ok (.laload, 1) := by decide +kernel
theorem dX5_goesOut_35 : decode cX5_goesOut 35 = .ok (.invokevirtual 162, 3) := by decide +kernel
theorem dX5_goesOut_38 : decode cX5_goesOut 38 = .ok (.pop, 1) := by decide +kernel
theorem dX5_goesOut_39 : decode cX5_goesOut 39 = .ok (.iinc 2 1, 3) := by decide +kernel
theorem dX5_goesOut_42 : decode cX5_goesOut 42 = .ok (.goto (-33), 3) := by decide +kernel
theorem dX5_goesOut_45 : decode cX5_goesOut 45 = .ok (.aload_n 0, 1) := by decide +kernel
theorem dX5_goesOut_46 : decode cX5_goesOut 46 = .ok (.getfield 72, 3) := by decide +kernel
theorem dX5_goesOut_49 : decode cX5_goesOut 49 = .ok (.iload_n 1, 1) := by decide +kernel
theorem dX5_goesOut_50 : decode cX5_goesOut 50 = .ok (.lconst 0, 1) := by decide +kernel
theorem dX5_goesOut_51 : decode cX5_goesOut 51 = .ok (.lastore, 1) := by decide +kernel
theorem dX5_goesOut_52 : decode cX5_goesOut 52 = .ok (.return_, 1) := by decide +kernel
set_option maxRecDepth 20000 in
theorem ggX5_validPapers_X5_isValid : GoodIn wsX5_validPapers wsX5_isValid := goodIn_r _ [7, 8, 9, 10, 11, 12, 13, 14, 15, 16, 17, 18, 19, 20, 21, 22, 23, 24, 25, 26, 27, 28, 29, 30, 31, 32, 33, 34, 35, 36, 37, 38, 39, 40, 41, 42, 43, 44, 45, 46, 47, 48] (by decide +kernel) (by decide +kernel)
set_option maxRecDepth 20000 in
theorem gX5_validPapers_X5_isValid : GoodIn wsX5_validPapers (wsV RX5 121 RX5 yX5_isValid wsX5_isValid) := goodIn_app (goodIn_of _ (by decide +kernel)) ggX5_validPapers_X5_isValid
theorem dX5_validPapers_0 : decode cX5_validPapers 0 = .ok (.iconst 0, 1) := by decide +kernel
theorem dX5_validPapers_1 : decode cX5_validPapers 1 = .ok (.istore_n 1, 1) := by decide +kernel
