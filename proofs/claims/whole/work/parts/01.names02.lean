theorem dX1_electFrom_14 : decode cX1_electFrom 14 = .ok (.iconst 0, 1) := by decide +kernel
theorem dX1_electFrom_15 : decode cX1_electFrom 15 = .ok (.lload_n 1, 1) := by decide +kernel
theorem dX1_electFrom_16 : decode cX1_electFrom 16 = .ok (.invokevirtual 106, 3) := by decide +kernel
theorem dX1_electFrom_19 : decode cX1_electFrom 19 = .ok (.istore 4, 2) := by decide +kernel
theorem dX1_electFrom_21 : decode cX1_electFrom 21 = .ok (.iload 4, 2) := by decide +kernel
theorem dX1_electFrom_23 : decode cX1_electFrom 23 = .ok (.bipush (-9), 2) := by decide +kernel
theorem dX1_electFrom_25 : decode cX1_electFrom 25 = .ok (.if_icmp .ne 4, 3) := by decide +kernel
theorem dX1_electFrom_28 : decode cX1_electFrom 28 = .ok (.return_, 1) := by decide +kernel
theorem dX1_electFrom_29 : decode cX1_electFrom 29 = .ok (.aload_n 0, 1) := by decide +kernel
theorem dX1_electFrom_30 : decode cX1_electFrom 30 = .ok (.getfield 47, 3) := by decide +kernel
theorem dX1_electFrom_33 : decode cX1_electFrom 33 = .ok (.aload_n 0, 1) := by decide +kernel
theorem dX1_electFrom_34 : decode cX1_electFrom 34 = .ok (.getfield 72, 3) := by decide +kernel
theorem dX1_electFrom_37 : decode cX1_electFrom 37 = .ok (.iload 4, 2) := by decide +kernel
theorem dX1_electFrom_39 : decode cX1_electFrom 39 = .ok (.iadd, 1) := by decide +kernel
theorem dX1_electFrom_40 : decode cX1_electFrom 40 = .ok (.iconst 1, 1) := by decide +kernel
theorem dX1_electFrom_41 : decode cX1_electFrom 41 = .ok (.iastore, 1) := by decide +kernel
theorem dX1_electFrom_42 : decode cX1_electFrom 42 = .ok (.aload_n 0, 1) := by decide +kernel
theorem dX1_electFrom_43 : decode cX1_electFrom 43 = .ok (.getfield 15, 3) := by decide +kernel
theorem dX1_electFrom_46 : decode cX1_electFrom 46 = .ok (.iload_n 3, 1) := by decide +kernel
theorem dX1_electFrom_47 : decode cX1_electFrom 47 = .ok (.iload 4, 2) := by decide +kernel
theorem dX1_electFrom_49 : decode cX1_electFrom 49 = .ok (.iastore, 1) := by decide +kernel
theorem dX1_electFrom_50 : decode cX1_electFrom 50 = .ok (.aload_n 0, 1) := by decide +kernel
theorem dX1_electFrom_51 : decode cX1_electFrom 51 = .ok (.iload_n 3, 1) := by decide +kernel
theorem dX1_electFrom_52 : decode cX1_electFrom 52 = .ok (.iconst 1, 1) := by decide +kernel
theorem dX1_electFrom_53 : decode cX1_electFrom 53 = .ok (.iadd, 1) := by decide +kernel
theorem dX1_electFrom_54 : decode cX1_electFrom 54 = .ok (.putfield 69, 3) := by decide +kernel
theorem dX1_electFrom_57 : decode cX1_electFrom 57 = .ok (.iinc 3 1, 3) := by decide +kernel
theorem dX1_electFrom_60 : decode cX1_electFrom 60 = .ok (.goto (-55), 3) := by decide +kernel
theorem dX1_electFrom_63 : decode cX1_electFrom 63 = .ok (.return_, 1) := by decide +kernel
set_option maxRecDepth 20000 in
theorem ggX1_hopefulOnes_X1_isHopeful : GoodIn wsX1_hopefulOnes wsX1_isHopeful := goodIn_r _ [6, 7, 8, 9, 10, 11, 12, 13, 14, 15, 16, 17, 18, 19, 20, 21, 22, 23, 24, 25, 26] (by decide +kernel) (by decide +kernel)
set_option maxRecDepth 20000 in
theorem gX1_hopefulOnes_X1_isHopeful : GoodIn wsX1_hopefulOnes (wsV RX1 110 RX1 yX1_isHopeful wsX1_isHopeful) := goodIn_app (goodIn_of _ (by decide +kernel)) ggX1_hopefulOnes_X1_isHopeful
theorem dX1_hopefulOnes_0 : decode cX1_hopefulOnes 0 = .ok (.iconst 0, 1) := by decide +kernel
theorem dX1_hopefulOnes_1 : decode cX1_hopefulOnes 1 = .ok (.istore_n 1, 1) := by decide +kernel
theorem dX1_hopefulOnes_2 : decode cX1_hopefulOnes 2 = .ok (.iconst 0, 1) := by decide +kernel
theorem dX1_hopefulOnes_3 : decode cX1_hopefulOnes 3 = .ok (.istore_n 2, 1) := by decide +kernel
theorem dX1_hopefulOnes_4 : decode cX1_hopefulOnes 4 = .ok (.iload_n 2, 1) := by decide +kernel
theorem dX1_hopefulOnes_5 : decode cX1_hopefulOnes 5 = .ok (.aload_n 0, 1) := by decide +kernel
theorem dX1_hopefulOnes_6 : decode cX1_hopefulOnes 6 = .ok (.getfield 60, 3) := by decide +kernel
theorem dX1_hopefulOnes_9 : decode cX1_hopefulOnes 9 = .ok (.if_icmp .ge 20, 3) := by decide +kernel
theorem dX1_hopefulOnes_12 : decode cX1_hopefulOnes 12 = .ok (.aload_n 0, 1) := by decide +kernel
theorem dX1_hopefulOnes_13 : decode cX1_hopefulOnes 13 = .ok (.iload_n 2, 1) := by decide +kernel
theorem dX1_hopefulOnes_14 : decode cX1_hopefulOnes 14 = .ok (.invokevirtual 110, 3) := by decide +kernel
theorem dX1_hopefulOnes_17 : decode cX1_hopefulOnes 17 = .ok (.ifCond .eq 6, 3) := by decide +kernel
theorem dX1_hopefulOnes_20 : decode cX1_hopefulOnes 20 = .ok (.iinc 1 1, 3) := by decide +kernel
theorem dX1_hopefulOnes_23 : decode cX1_hopefulOnes 23 = .ok (.iinc 2 1, 3) := by decide +kernel
theorem dX1_hopefulOnes_26 : decode cX1_hopefulOnes 26 = .ok (.goto (-22), 3) := by decide +kernel
theorem dX1_hopefulOnes_29 : decode cX1_hopefulOnes 29 = .ok (.iload_n 1, 1) := by decide +kernel
theorem dX1_hopefulOnes_30 : decode cX1_hopefulOnes 30 = .ok (.ireturn, 1) := by decide +kernel
set_option maxRecDepth 20000 in
theorem ggX1_richest_X1_quota : GoodIn wsX1_richest wsX1_quota := goodIn_r _ [5, 6, 7, 8, 9, 4, 10, 11, 29, 30, 31, 32, 33, 34, 35, 36, 37, 38, 39, 40, 41, 42, 43, 44, 45, 46] (by decide +kernel) (by decide +kernel)
set_option maxRecDepth 20000 in
theorem gX1_richest_X1_quota : GoodIn wsX1_richest (wsV RX1 95 RX1 yX1_quota wsX1_quota) := goodIn_app (goodIn_of _ (by decide +kernel)) ggX1_richest_X1_quota
set_option maxRecDepth 20000 in
theorem ggX1_richest_X1_most : GoodIn wsX1_richest wsX1_most := goodIn_r _ [15, 16, 17, 18, 19, 20, 21, 22, 4, 23, 24, 25, 7, 8, 9, 10, 11, 26, 27, 28, 29, 30, 31, 32, 33, 34, 35, 36, 37, 38, 39, 40, 41, 42, 43, 44, 45, 46] (by decide +kernel) (by decide +kernel)
set_option maxRecDepth 20000 in
theorem gX1_richest_X1_most : GoodIn wsX1_richest (wsV RX1 106 RX1 yX1_most wsX1_most) := goodIn_app (goodIn_of _ (by decide +kernel)) ggX1_richest_X1_most
theorem dX1_richest_0 : decode cX1_richest 0 = .ok (.aload_n 0, 1) := by decide +kernel
theorem dX1_richest_1 : decode cX1_richest 1 = .ok (.iconst 1, 1) := by decide +kernel
theorem dX1_richest_2 : decode cX1_richest 2 = .ok (.aload_n 0, 1) := by decide +kernel
theorem dX1_richest_3 : decode cX1_richest 3 = .ok (.invokevirtual 95, 3) := by decide +kernel
theorem dX1_richest_6 : decode cX1_richest 6 = .ok (.lconst 1, 1) := by decide +kernel
theorem dX1_richest_7 : decode cX1_richest 7 = .ok (.ladd, 1) := by decide +kernel
theorem dX1_richest_8 : decode cX1_richest 8 = .ok (.invokevirtual 106, 3) := by decide +kernel
theorem dX1_richest_11 : decode cX1_richest 11 = .ok (.ireturn, 1) := by decide +kernel
set_option maxRecDepth 20000 in
theorem ggX1_most_X1_hasMore : GoodIn wsX1_most wsX1_hasMore := goodIn_r _ [9, 10, 4, 11, 12, 13, 14, 8, 15, 16, 17, 18, 19, 20, 21, 22, 23, 24, 25, 26, 27, 28, 29, 30, 31, 32, 33, 34, 35, 36, 37] (by decide +kernel) (by decide +kernel)
set_option maxRecDepth 20000 in
theorem gX1_most_X1_hasMore : GoodIn wsX1_most (wsV RX1 113 RX1 yX1_hasMore wsX1_hasMore) := goodIn_app (goodIn_of _ (by decide +kernel)) ggX1_most_X1_hasMore
theorem dX1_most_0 : decode cX1_most 0 = .ok (.bipush (-9), 2) := by decide +kernel
theorem dX1_most_2 : decode cX1_most 2 = .ok (.istore 4, 2) := by decide +kernel
theorem dX1_most_4 : decode cX1_most 4 = .ok (.iconst 0, 1) := by decide +kernel
theorem dX1_most_5 : decode cX1_most 5 = .ok (.istore 5, 2) := by decide +kernel
theorem dX1_most_7 : decode cX1_most 7 = .ok (.iload 5, 2) := by decide +kernel
theorem dX1_most_9 : decode cX1_most 9 = .ok (.aload_n 0, 1) := by decide +kernel
theorem dX1_most_10 : decode cX1_most 10 = .ok (.getfield 60, 3) := by decide +kernel
theorem dX1_most_13 : decode cX1_most 13 = .ok (.if_icmp .ge 76, 3) := by decide +kernel
theorem dX1_most_16 : decode cX1_most 16 = .ok (.aload_n 0, 1) := by decide +kernel
theorem dX1_most_17 : decode cX1_most 17 = .ok (.getfield 47, 3) := by decide +kernel
theorem dX1_most_20 : decode cX1_most 20 = .ok (.aload_n 0, 1) := by decide +kernel
theorem dX1_most_21 : decode cX1_most 21 = .ok (.getfield 72, 3) := by decide +kernel
theorem dX1_most_24 : decode cX1_most 24 = .ok (.iload 5, 2) := by decide +kernel
theorem dX1_most_26 : decode cX1_most 26 = .ok (.iadd, 1) := by decide +kernel
theorem dX1_most_27 : decode cX1_most 27 = .ok (.iaload, 1) := by decide +kernel
theorem dX1_most_28 : decode cX1_most 28 = .ok (.iload_n 1, 1) := by decide +kernel
theorem dX1_most_29 : decode cX1_most 29 = .ok (.if_icmp .ne 24, 3) := by decide +kernel
theorem dX1_most_32 : decode cX1_most 32 = .ok (.aload_n 0, 1) := by decide +kernel
theorem dX1_most_33 : decode cX1_most 33 = .ok (.getfield 44, 3) := by decide +kernel
theorem dX1_most_36 : decode cX1_most 36 = .ok (.aload_n 0, 1) := by decide +kernel
theorem dX1_most_37 : decode cX1_most 37 = .ok (.getfield 72, 3) := by decide +kernel
theorem dX1_most_40 : decode cX1_most 40 = .ok (.iload 5, 2) := by decide +kernel
theorem dX1_most_42 : decode cX1_most 42 = .ok (.iadd, 1) := by decide +kernel
theorem dX1_most_43 : decode cX1_most 43 = .ok (.laload, 1) := by decide +kernel
theorem dX1_most_44 : decode cX1_most 44 = .ok (.lload_n 2, 1) := by decide +kernel
theorem dX1_most_45 : decode cX1_most 45 = .ok (.lcmp, 1) := by decide +kernel
theorem dX1_most_46 : decode cX1_most 46 = .ok (.ifCond .lt 7, 3) := by decide +kernel
theorem dX1_most_49 : decode cX1_most 49 = .ok (.iconst 1, 1) := by decide +kernel
theorem dX1_most_50 : decode cX1_most 50 = .ok (.goto 4, 3) := by decide +kernel
theorem dX1_most_53 : decode cX1_most 53 = .ok (.iconst 0, 1) := by decide +kernel
theorem dX1_most_54 : decode cX1_most 54 = .ok (.istore 6, 2) := by decide +kernel
theorem dX1_most_56 : decode cX1_most 56 = .ok (.iload 6, 2) := by decide +kernel
theorem dX1_most_58 : decode cX1_most 58 = .ok (.ifCond .eq 25, 3) := by decide +kernel
theorem dX1_most_61 : decode cX1_most 61 = .ok (.iload 4, 2) := by decide +kernel
theorem dX1_most_63 : decode cX1_most 63 = .ok (.bipush (-9), 2) := by decide +kernel
theorem dX1_most_65 : decode cX1_most 65 = .ok (.if_icmp .eq 14, 3) := by decide +kernel
theorem dX1_most_68 : decode cX1_most 68 = .ok (.aload_n 0, 1) := by decide +kernel
theorem dX1_most_69 : decode cX1_most 69 = .ok (.iload 5, 2) := by decide +kernel
theorem dX1_most_71 : decode cX1_most 71 = .ok (.iload 4, 2) := by decide +kernel
theorem dX1_most_73 : decode cX1_most 73 = .ok (.invokevirtual 113, 3) := by decide +kernel
theorem dX1_most_76 : decode cX1_most 76 = .ok (.ifCond .eq 7, 3) := by decide +kernel
theorem dX1_most_79 : decode cX1_most 79 = .ok (.iload 5, 2) := by decide +kernel
theorem dX1_most_81 : decode cX1_most 81 = .ok (.istore 4, 2) := by decide +kernel
theorem dX1_most_83 : decode cX1_most 83 = .ok (.iinc 5 1, 3) := by decide +kernel
theorem dX1_most_86 : decode cX1_most 86 = .ok (.goto (-79), 3) := by decide +kernel
theorem dX1_most_89 : decode cX1_most 89 = .ok (.iload 4, 2) := by decide +kernel
theorem dX1_most_91 : decode cX1_most 91 = .ok (.ireturn, 1) := by decide +kernel
set_option maxRecDepth 20000 in
theorem ggX1_poorest_X1_isHopeful : GoodIn wsX1_poorest wsX1_isHopeful := goodIn_r _ [6, 7, 8, 24, 25, 26, 27, 28, 29, 30, 31, 32, 33, 34, 35, 36, 37, 38, 39, 40, 41] (by decide +kernel) (by decide +kernel)
set_option maxRecDepth 20000 in
theorem gX1_poorest_X1_isHopeful : GoodIn wsX1_poorest (wsV RX1 110 RX1 yX1_isHopeful wsX1_isHopeful) := goodIn_app (goodIn_of _ (by decide +kernel)) ggX1_poorest_X1_isHopeful
set_option maxRecDepth 20000 in
theorem ggX1_poorest_X1_hasMore : GoodIn wsX1_poorest wsX1_hasMore := goodIn_r _ [12, 13, 14, 15, 16, 17, 18, 5, 19, 20, 21, 22, 23, 24, 25, 26, 27, 28, 29, 30, 31, 32, 33, 34, 35, 36, 37, 38, 39, 40, 41] (by decide +kernel) (by decide +kernel)
set_option maxRecDepth 20000 in
theorem gX1_poorest_X1_hasMore : GoodIn wsX1_poorest (wsV RX1 113 RX1 yX1_hasMore wsX1_hasMore) := goodIn_app (goodIn_of _ (by decide +kernel)) ggX1_poorest_X1_hasMore
theorem dX1_poorest_0 : decode cX1_poorest 0 = .ok (.bipush (-9), 2) := by decide +kernel
theorem dX1_poorest_2 : decode cX1_poorest 2 = .ok (.istore_n 1, 1) := by decide +kernel
theorem dX1_poorest_3 : decode cX1_poorest 3 = .ok (.iconst 0, 1) := by decide +kernel
theorem dX1_poorest_4 : decode cX1_poorest 4 = .ok (.istore_n 2, 1) := by decide +kernel
theorem dX1_poorest_5 : decode cX1_poorest 5 = .ok (.iload_n 2, 1) := by decide +kernel
theorem dX1_poorest_6 : decode cX1_poorest 6 = .ok (.aload_n 0, 1) := by decide +kernel
theorem dX1_poorest_7 : decode cX1_poorest 7 = .ok (.getfield 60, 3) := by decide +kernel
theorem dX1_poorest_10 : decode cX1_poorest 10 = .ok (.if_icmp .ge 34, 3) := by decide +kernel
theorem dX1_poorest_13 : decode cX1_poorest 13 = .ok (.aload_n 0, 1) := by decide +kernel
theorem dX1_poorest_14 : decode cX1_poorest 14 = .ok (.iload_n 2, 1) := by decide +kernel
theorem dX1_poorest_15 : decode cX1_poorest 15 = .ok (.invokevirtual 110, 3) := by decide +kernel
theorem dX1_poorest_18 : decode cX1_poorest 18 = .ok (.ifCond .eq 20, 3) := by decide +kernel
theorem dX1_poorest_21 : decode cX1_poorest 21 = .ok (.iload_n 1, 1) := by decide +kernel
theorem dX1_poorest_22 : decode cX1_poorest 22 = .ok (.bipush (-9), 2) := by decide +kernel
theorem dX1_poorest_24 : decode cX1_poorest 24 = .ok (.if_icmp .eq 12, 3) := by decide +kernel
theorem dX1_poorest_27 : decode cX1_poorest 27 = .ok (.aload_n 0, 1) := by decide +kernel
theorem dX1_poorest_28 : decode cX1_poorest 28 = .ok (.iload_n 1, 1) := by decide +kernel
theorem dX1_poorest_29 : decode cX1_poorest 29 = .ok (.iload_n 2, 1) := by decide +kernel
theorem dX1_poorest_30 : decode cX1_poorest 30 = .ok (.invokevirtual 113, 3) := by decide +kernel
theorem dX1_poorest_33 : decode cX1_poorest 33 = .ok (.ifCond .eq 5, 3) := by decide +kernel
theorem dX1_poorest_36 : decode cX1_poorest 36 = .ok (.iload_n 2, 1) := by decide +kernel
theorem dX1_poorest_37 : decode cX1_poorest 37 = .ok (.istore_n 1, 1) := by decide +kernel
theorem dX1_poorest_38 : decode cX1_poorest 38 = .ok (.iinc 2 1, 3) := by decide +kernel
theorem dX1_poorest_41 : decode cX1_poorest 41 = .ok (.goto (-36), 3) := by decide +kernel
theorem dX1_poorest_44 : decode cX1_poorest 44 = .ok (.iload_n 1, 1) := by decide +kernel
theorem dX1_poorest_45 : decode cX1_poorest 45 = .ok (.ireturn, 1) := by decide +kernel
set_option maxRecDepth 20000 in
theorem ggX1_hasMore_X1_now : GoodIn wsX1_hasMore wsX1_now := goodIn_r _ [8, 9, 13, 14, 15, 16, 17, 18, 19, 20, 21, 22, 23, 24, 25, 26, 27, 28, 29, 30] (by decide +kernel) (by decide +kernel)
set_option maxRecDepth 20000 in
theorem gX1_hasMore_X1_now : GoodIn wsX1_hasMore (wsV RX1 81 RX1 yX1_now wsX1_now) := goodIn_app (goodIn_of _ (by decide +kernel)) ggX1_hasMore_X1_now
set_option maxRecDepth 20000 in
theorem ggX1_hasMore_X4_cell : GoodIn wsX1_hasMore wsX4_cell := goodIn_r _ [12] (by decide +kernel) (by decide +kernel)
set_option maxRecDepth 20000 in
theorem gX1_hasMore_X4_cell_n85 : GoodIn wsX1_hasMore (wsX4_cell) := ggX1_hasMore_X4_cell
theorem dX1_hasMore_0 : decode cX1_hasMore 0 = .ok (.aload_n 0, 1) := by decide +kernel
theorem dX1_hasMore_1 : decode cX1_hasMore 1 = .ok (.getfield 9, 3) := by decide +kernel
theorem dX1_hasMore_4 : decode cX1_hasMore 4 = .ok (.iconst 3, 1) := by decide +kernel
theorem dX1_hasMore_5 : decode cX1_hasMore 5 = .ok (.if_icmp .ne 10, 3) := by decide +kernel
theorem dX1_hasMore_8 : decode cX1_hasMore 8 = .ok (.aload_n 0, 1) := by decide +kernel
theorem dX1_hasMore_9 : decode cX1_hasMore 9 = .ok (.invokevirtual 81, 3) := by decide +kernel
theorem dX1_hasMore_12 : decode cX1_hasMore 12 = .ok (.goto 4, 3) := by decide +kernel
theorem dX1_hasMore_15 : decode cX1_hasMore 15 = .ok (.iconst 0, 1) := by decide +kernel
theorem dX1_hasMore_16 : decode cX1_hasMore 16 = .ok (.istore_n 3, 1) := by decide +kernel
theorem dX1_hasMore_17 : decode cX1_hasMore 17 = .ok (.aload_n 0, 1) := by decide +kernel
theorem dX1_hasMore_18 : decode cX1_hasMore 18 = .ok (.invokevirtual 81, 3) := by decide +kernel
theorem dX1_hasMore_21 : decode cX1_hasMore 21 = .ok (.istore 4, 2) := by decide +kernel
theorem dX1_hasMore_23 : decode cX1_hasMore 23 = .ok (.iload 4, 2) := by decide +kernel
theorem dX1_hasMore_25 : decode cX1_hasMore 25 = .ok (.iload_n 3, 1) := by decide +kernel
theorem dX1_hasMore_26 : decode cX1_hasMore 26 = .ok (.if_icmp .lt 54, 3) := by decide +kernel
theorem dX1_hasMore_29 : decode cX1_hasMore 29 = .ok (.aload_n 0, 1) := by decide +kernel
theorem dX1_hasMore_30 : decode cX1_hasMore 30 = .ok (.getfield 44, 3) := by decide +kernel
theorem dX1_hasMore_33 : decode cX1_hasMore 33 = .ok (.iload 4, 2) := by decide +kernel
theorem dX1_hasMore_35 : decode cX1_hasMore 35 = .ok (.iload_n 1, 1) := by decide +kernel
theorem dX1_hasMore_36 : decode cX1_hasMore 36 = .ok (.invokestatic 85, 3) := by decide +kernel
theorem dX1_hasMore_39 : decode cX1_hasMore 39 = .ok (.laload, 1) := by decide +kernel
theorem dX1_hasMore_40 : decode cX1_hasMore 40 = .ok (.aload_n 0, 1) := by decide +kernel
theorem dX1_hasMore_41 : decode cX1_hasMore 41 = .ok (.getfield 44, 3) := by decide +kernel
theorem dX1_hasMore_44 : decode cX1_hasMore 44 = .ok (.iload 4, 2) := by decide +kernel
theorem dX1_hasMore_46 : decode cX1_hasMore 46 = .ok (.iload_n 2, 1) := by decide +kernel
theorem dX1_hasMore_47 : decode cX1_hasMore 47 = .ok (.invokestatic 85, 3) := by decide +kernel
theorem dX1_hasMore_50 : decode cX1_hasMore 50 = .ok (.laload, 1) := by decide +kernel
theorem dX1_hasMore_51 : decode cX1_hasMore 51 = .ok (.lsub, 1) := by decide +kernel
theorem dX1_hasMore_52 : decode cX1_hasMore 52 = .ok (.lstore 5, 2) := by decide +kernel
theorem dX1_hasMore_54 : decode cX1_hasMore 54 = .ok (.lload 5, 2) := by decide +kernel
theorem dX1_hasMore_56 : decode cX1_hasMore 56 = .ok (.lconst 0, 1) := by decide +kernel
theorem dX1_hasMore_57 : decode cX1_hasMore 57 = .ok (.lcmp, 1) := by decide +kernel
theorem dX1_hasMore_58 : decode cX1_hasMore 58 = .ok (.ifCond .eq 16, 3) := by decide +kernel
theorem dX1_hasMore_61 : decode cX1_hasMore 61 = .ok (.lload 5, 2) := by decide +kernel
theorem dX1_hasMore_63 : decode cX1_hasMore 63 = .ok (.lconst 0, 1) := by decide +kernel
theorem dX1_hasMore_64 : decode cX1_hasMore 64 = .ok (.lcmp, 1) := by decide +kernel
theorem dX1_hasMore_65 : decode cX1_hasMore 65 = .ok (.ifCond .le 7, 3) := by decide +kernel
theorem dX1_hasMore_68 : decode cX1_hasMore 68 = .ok (.iconst 1, 1) := by decide +kernel
theorem dX1_hasMore_69 : decode cX1_hasMore 69 = .ok (.goto 4, 3) := by decide +kernel
theorem dX1_hasMore_72 : decode cX1_hasMore 72 = .ok (.iconst 0, 1) := by decide +kernel
theorem dX1_hasMore_73 : decode cX1_hasMore 73 = .ok (.ireturn, 1) := by decide +kernel
theorem dX1_hasMore_74 : decode cX1_hasMore 74 = .ok (.iinc 4 (-1), 3) := by decide +kernel
theorem dX1_hasMore_77 : decode cX1_hasMore 77 = .ok (.goto (-54), 3) := by decide +kernel
theorem dX1_hasMore_80 : decode cX1_hasMore 80 = .ok (.aload_n 0, 1) := by decide +kernel
theorem dX1_hasMore_81 : decode cX1_hasMore 81 = .ok (.getfield 19, 3) := by decide +kernel
theorem dX1_hasMore_84 : decode cX1_hasMore 84 = .ok (.iload_n 1, 1) := by decide +kernel
theorem dX1_hasMore_85 : decode cX1_hasMore 85 = .ok (.iaload, 1) := by decide +kernel
theorem dX1_hasMore_86 : decode cX1_hasMore 86 = .ok (.aload_n 0, 1) := by decide +kernel
theorem dX1_hasMore_87 : decode cX1_hasMore 87 = .ok (.getfield 19, 3) := by decide +kernel
theorem dX1_hasMore_90 : decode cX1_hasMore 90 = .ok (.iload_n 2, 1) := by decide +kernel
theorem dX1_hasMore_91 : decode cX1_hasMore 91 = .ok (.iaload, 1) := by decide +kernel
theorem dX1_hasMore_92 : decode cX1_hasMore 92 = .ok (.if_icmp .ge 7, 3) := by decide +kernel
theorem dX1_hasMore_95 : decode cX1_hasMore 95 = .ok (.iconst 1, 1) := by decide +kernel
theorem dX1_hasMore_96 : decode cX1_hasMore 96 = .ok (.goto 4, 3) := by decide +kernel
theorem dX1_hasMore_99 : decode cX1_hasMore 99 = .ok (.iconst 0, 1) := by decide +kernel
theorem dX1_hasMore_100 : decode cX1_hasMore 100 = .ok (.ireturn, 1) := by decide +kernel
set_option maxRecDepth 20000 in
theorem ggX2_run_X2_share : GoodIn wsX2_run wsX2_share := goodIn_r _ [10, 11, 12, 6, 13, 14, 15, 16, 17, 18, 19, 20, 21, 22, 23, 24, 25, 26, 27, 9, 28, 29, 30, 31, 32, 33, 34, 35, 36, 37, 38, 126, 127, 128, 129, 130, 131, 132, 133, 134, 135, 136, 137, 138, 139, 140, 141, 142, 143, 144, 145, 146, 147, 148, 149, 150, 151] (by decide +kernel) (by decide +kernel)
set_option maxRecDepth 20000 in
theorem gX2_run_X2_share : GoodIn wsX2_run (va_wsS RX2 9 yX2_share wsX2_share) := goodIn_app (goodIn_of _ (by decide +kernel)) ggX2_run_X2_share
set_option maxRecDepth 20000 in
theorem ggX2_run_X1_settle : GoodIn wsX2_run wsX1_settle := goodIn_r _ [42, 43, 44, 45, 46, 47, 48, 36, 49, 50, 51, 34, 35, 37, 38, 52, 53, 54, 55, 56, 57, 58, 59, 60, 61, 62, 63, 64, 65, 66, 67, 68, 69, 70, 71, 72, 73, 74, 75, 76, 77, 78, 79, 80, 81, 126, 127, 128, 129, 130, 131, 132, 133, 134, 135, 136, 137, 138, 139, 140, 141, 142, 143] (by decide +kernel) (by decide +kernel)
set_option maxRecDepth 20000 in
theorem gX2_run_X1_settle : GoodIn wsX2_run (wsV RX2 21 RX1 yX1_settle wsX1_settle) := goodIn_app (goodIn_of _ (by decide +kernel)) ggX2_run_X1_settle
set_option maxRecDepth 20000 in
theorem ggX2_run_X2_excessOf : GoodIn wsX2_run wsX2_excessOf := goodIn_r _ [84, 11, 12, 6, 85, 86, 87, 88, 89, 90, 91, 36, 92, 57, 58, 93, 47, 48, 49, 50, 51, 34, 35, 37, 38, 126, 127, 128, 129, 130, 131, 132, 133, 134, 135, 136, 137, 138, 139, 140, 141, 142, 143] (by decide +kernel) (by decide +kernel)
set_option maxRecDepth 20000 in
theorem gX2_run_X2_excessOf : GoodIn wsX2_run (va_wsS RX2 29 yX2_excessOf wsX2_excessOf) := goodIn_app (goodIn_of _ (by decide +kernel)) ggX2_run_X2_excessOf
set_option maxRecDepth 20000 in
theorem ggX2_run_X2_mustPutOut : GoodIn wsX2_run wsX2_mustPutOut := goodIn_r _ [96, 2, 3, 97, 33, 34, 35, 36, 37, 38, 126, 127, 128, 129, 130, 131, 132, 133, 134, 135, 136, 137, 138, 139, 140, 141, 142, 143] (by decide +kernel) (by decide +kernel)
set_option maxRecDepth 20000 in
theorem gX2_run_X2_mustPutOut : GoodIn wsX2_run (va_wsS RX2 33 yX2_mustPutOut wsX2_mustPutOut) := goodIn_app (goodIn_of _ (by decide +kernel)) ggX2_run_X2_mustPutOut
set_option maxRecDepth 20000 in
theorem ggX2_run_X1_poorest : GoodIn wsX2_run wsX1_poorest := goodIn_r _ [101, 56, 78, 79, 80, 36, 81, 57, 58, 65, 66, 67, 68, 69, 64, 70, 51, 34, 35, 37, 38, 71, 72, 73, 126, 127, 128, 129, 130, 131, 132, 133, 134, 135, 136, 137, 138, 139, 140, 141, 142, 143] (by decide +kernel) (by decide +kernel)
set_option maxRecDepth 20000 in
theorem gX2_run_X1_poorest : GoodIn wsX2_run (wsV RX2 37 RX1 yX1_poorest wsX1_poorest) := goodIn_app (goodIn_of _ (by decide +kernel)) ggX2_run_X1_poorest
set_option maxRecDepth 20000 in
theorem ggX2_run_X1_turn : GoodIn wsX2_run wsX1_turn := goodIn_r _ [105, 38, 58, 106, 107, 108, 109, 50, 110, 64, 56, 111, 112, 113, 114, 57, 115, 51, 34, 35, 36, 37, 71, 72, 73, 126, 127, 128, 129, 130, 131, 132, 133, 134, 135, 136, 137, 138, 139, 140, 141, 142, 143] (by decide +kernel) (by decide +kernel)
set_option maxRecDepth 20000 in
theorem gX2_run_X1_turn : GoodIn wsX2_run (wsV RX2 54 RX1 yX1_turn wsX1_turn) := goodIn_app (goodIn_of _ (by decide +kernel)) ggX2_run_X1_turn
set_option maxRecDepth 20000 in
theorem ggX2_run_X2_changeKeeps : GoodIn wsX2_run wsX2_changeKeeps := goodIn_r _ [118, 32, 6, 11, 12, 89, 90, 91, 36, 92, 57, 58, 93, 47, 48, 49, 50, 51, 34, 35, 37, 38, 119, 120, 9, 121, 122, 29, 123, 124, 87, 125, 126, 127, 128, 129, 130, 131, 132, 133, 134, 135, 136, 137, 138, 139, 140, 141, 142, 143] (by decide +kernel) (by decide +kernel)
set_option maxRecDepth 20000 in
theorem gX2_run_X2_changeKeeps : GoodIn wsX2_run (va_wsS RX2 58 yX2_changeKeeps wsX2_changeKeeps) := goodIn_app (goodIn_of _ (by decide +kernel)) ggX2_run_X2_changeKeeps
theorem dX2_run_0 : decode cX2_run 0 = .ok (.iconst 0, 1) := by decide +kernel
theorem dX2_run_1 : decode cX2_run 1 = .ok (.istore_n 2, 1) := by decide +kernel
theorem dX2_run_2 : decode cX2_run 2 = .ok (.iload_n 2, 1) := by decide +kernel
theorem dX2_run_3 : decode cX2_run 3 = .ok (.bipush 72, 2) := by decide +kernel
theorem dX2_run_5 : decode cX2_run 5 = .ok (.if_icmp .ge 124, 3) := by decide +kernel
theorem dX2_run_8 : decode cX2_run 8 = .ok (.aload_n 0, 1) := by decide +kernel
theorem dX2_run_9 : decode cX2_run 9 = .ok (.aload_n 1, 1) := by decide +kernel
theorem dX2_run_10 : decode cX2_run 10 = .ok (.invokestatic 9, 3) := by decide +kernel
theorem dX2_run_13 : decode cX2_run 13 = .ok (.aload_n 1, 1) := by decide +kernel
theorem dX2_run_14 : decode cX2_run 14 = .ok (.getfield 15, 3) := by decide +kernel
theorem dX2_run_17 : decode cX2_run 17 = .ok (.istore_n 3, 1) := by decide +kernel
theorem dX2_run_18 : decode cX2_run 18 = .ok (.aload_n 1, 1) := by decide +kernel
theorem dX2_run_19 : decode cX2_run 19 = .ok (.invokevirtual 21, 3) := by decide +kernel
theorem dX2_run_22 : decode cX2_run 22 = .ok (.ifCond .eq 4, 3) := by decide +kernel
theorem dX2_run_25 : decode cX2_run 25 = .ok (.return_, 1) := by decide +kernel
theorem dX2_run_26 : decode cX2_run 26 = .ok (.aload_n 1, 1) := by decide +kernel
theorem dX2_run_27 : decode cX2_run 27 = .ok (.getfield 25, 3) := by decide +kernel
theorem dX2_run_30 : decode cX2_run 30 = .ok (.iload_n 2, 1) := by decide +kernel
theorem dX2_run_31 : decode cX2_run 31 = .ok (.aload_n 1, 1) := by decide +kernel
theorem dX2_run_32 : decode cX2_run 32 = .ok (.invokestatic 29, 3) := by decide +kernel
theorem dX2_run_35 : decode cX2_run 35 = .ok (.lastore, 1) := by decide +kernel
theorem dX2_run_36 : decode cX2_run 36 = .ok (.aload_n 1, 1) := by decide +kernel
theorem dX2_run_37 : decode cX2_run 37 = .ok (.getfield 15, 3) := by decide +kernel
theorem dX2_run_40 : decode cX2_run 40 = .ok (.iload_n 3, 1) := by decide +kernel
theorem dX2_run_41 : decode cX2_run 41 = .ok (.if_icmp .le 7, 3) := by decide +kernel
theorem dX2_run_44 : decode cX2_run 44 = .ok (.iconst 1, 1) := by decide +kernel
theorem dX2_run_45 : decode cX2_run 45 = .ok (.goto 4, 3) := by decide +kernel
theorem dX2_run_48 : decode cX2_run 48 = .ok (.iconst 0, 1) := by decide +kernel
theorem dX2_run_49 : decode cX2_run 49 = .ok (.istore 4, 2) := by decide +kernel
theorem dX2_run_51 : decode cX2_run 51 = .ok (.aload_n 1, 1) := by decide +kernel
theorem dX2_run_52 : decode cX2_run 52 = .ok (.iload 4, 2) := by decide +kernel
theorem dX2_run_54 : decode cX2_run 54 = .ok (.invokestatic 33, 3) := by decide +kernel
theorem dX2_run_57 : decode cX2_run 57 = .ok (.ifCond .eq 10, 3) := by decide +kernel
theorem dX2_run_60 : decode cX2_run 60 = .ok (.aload_n 1, 1) := by decide +kernel
theorem dX2_run_61 : decode cX2_run 61 = .ok (.invokevirtual 37, 3) := by decide +kernel
theorem dX2_run_64 : decode cX2_run 64 = .ok (.goto 5, 3) := by decide +kernel
theorem dX2_run_67 : decode cX2_run 67 = .ok (.bipush (-9), 2) := by decide +kernel
theorem dX2_run_69 : decode cX2_run 69 = .ok (.istore 5, 2) := by decide +kernel
theorem dX2_run_71 : decode cX2_run 71 = .ok (.iload 5, 2) := by decide +kernel
theorem dX2_run_73 : decode cX2_run 73 = .ok (.bipush (-9), 2) := by decide +kernel
theorem dX2_run_75 : decode cX2_run 75 = .ok (.if_icmp .eq 31, 3) := by decide +kernel
theorem dX2_run_78 : decode cX2_run 78 = .ok (.aload_n 1, 1) := by decide +kernel
theorem dX2_run_79 : decode cX2_run 79 = .ok (.getfield 41, 3) := by decide +kernel
theorem dX2_run_82 : decode cX2_run 82 = .ok (.iload_n 2, 1) := by decide +kernel
theorem dX2_run_83 : decode cX2_run 83 = .ok (.iconst 4, 1) := by decide +kernel
theorem dX2_run_84 : decode cX2_run 84 = .ok (.iastore, 1) := by decide +kernel
theorem dX2_run_85 : decode cX2_run 85 = .ok (.aload_n 1, 1) := by decide +kernel
theorem dX2_run_86 : decode cX2_run 86 = .ok (.getfield 45, 3) := by decide +kernel
theorem dX2_run_89 : decode cX2_run 89 = .ok (.iload_n 2, 1) := by decide +kernel
theorem dX2_run_90 : decode cX2_run 90 = .ok (.iload 5, 2) := by decide +kernel
theorem dX2_run_92 : decode cX2_run 92 = .ok (.iastore, 1) := by decide +kernel
theorem dX2_run_93 : decode cX2_run 93 = .ok (.aload_n 1, 1) := by decide +kernel
theorem dX2_run_94 : decode cX2_run 94 = .ok (.getfield 48, 3) := by decide +kernel
theorem dX2_run_97 : decode cX2_run 97 = .ok (.aload_n 1, 1) := by decide +kernel
theorem dX2_run_98 : decode cX2_run 98 = .ok (.getfield 51, 3) := by decide +kernel
theorem dX2_run_101 : decode cX2_run 101 = .ok (.iload 5, 2) := by decide +kernel
theorem dX2_run_103 : decode cX2_run 103 = .ok (.iadd, 1) := by decide +kernel
theorem dX2_run_104 : decode cX2_run 104 = .ok (.iconst 2, 1) := by decide +kernel
theorem dX2_run_105 : decode cX2_run 105 = .ok (.iastore, 1) := by decide +kernel
theorem dX2_run_106 : decode cX2_run 106 = .ok (.aload_n 1, 1) := by decide +kernel
theorem dX2_run_107 : decode cX2_run 107 = .ok (.iconst 3, 1) := by decide +kernel
theorem dX2_run_108 : decode cX2_run 108 = .ok (.bipush (-9), 2) := by decide +kernel
theorem dX2_run_110 : decode cX2_run 110 = .ok (.invokevirtual 54, 3) := by decide +kernel
theorem dX2_run_113 : decode cX2_run 113 = .ok (.ifCond .ne 4, 3) := by decide +kernel
theorem dX2_run_116 : decode cX2_run 116 = .ok (.return_, 1) := by decide +kernel
theorem dX2_run_117 : decode cX2_run 117 = .ok (.aload_n 1, 1) := by decide +kernel
theorem dX2_run_118 : decode cX2_run 118 = .ok (.iload 5, 2) := by decide +kernel
theorem dX2_run_120 : decode cX2_run 120 = .ok (.invokestatic 58, 3) := by decide +kernel
theorem dX2_run_123 : decode cX2_run 123 = .ok (.iinc 2 1, 3) := by decide +kernel
theorem dX2_run_126 : decode cX2_run 126 = .ok (.goto (-124), 3) := by decide +kernel
theorem dX2_run_129 : decode cX2_run 129 = .ok (.return_, 1) := by decide +kernel
set_option maxRecDepth 20000 in
theorem ggX2_share_X0_isValid : GoodIn wsX2_share wsX0_isValid := goodIn_r _ [13, 14, 15, 16, 49, 50, 51, 52, 53, 54, 55, 56] (by decide +kernel) (by decide +kernel)
set_option maxRecDepth 20000 in
theorem gX2_share_X0_isValid : GoodIn wsX2_share (wsV RX2 73 RX0 yX0_isValid wsX0_isValid) := goodIn_app (goodIn_of _ (by decide +kernel)) ggX2_share_X0_isValid
set_option maxRecDepth 20000 in
theorem ggX2_share_X2_sharePapers : GoodIn wsX2_share wsX2_sharePapers := goodIn_r _ [20, 21, 22, 3, 23, 24, 2, 5, 49, 50, 51, 52, 53, 54, 55, 56, 31, 32, 33, 34, 35, 36, 37, 38, 39, 40, 41, 42, 43, 44, 45, 46, 47, 48] (by decide +kernel) (by decide +kernel)
set_option maxRecDepth 20000 in
theorem gX2_share_X2_sharePapers : GoodIn wsX2_share (va_wsS RX2 80 yX2_sharePapers wsX2_sharePapers) := goodIn_app (goodIn_of _ (by decide +kernel)) ggX2_share_X2_sharePapers
set_option maxRecDepth 20000 in
theorem ggX2_share_X1_now : GoodIn wsX2_share wsX1_now := goodIn_r _ [29, 30, 31, 32, 33, 34, 35, 36, 37, 38, 39, 40, 41, 42, 43, 44, 45, 46, 47, 48] (by decide +kernel) (by decide +kernel)
set_option maxRecDepth 20000 in
theorem gX2_share_X1_now : GoodIn wsX2_share (wsV RX2 87 RX1 yX1_now wsX1_now) := goodIn_app (goodIn_of _ (by decide +kernel)) ggX2_share_X1_now
theorem dX2_share_0 : decode cX2_share 0 = .ok (.iconst 0, 1) := by decide +kernel
theorem dX2_share_1 : decode cX2_share 1 = .ok (.istore_n 2, 1) := by decide +kernel
theorem dX2_share_2 : decode cX2_share 2 = .ok (.iload_n 2, 1) := by decide +kernel
theorem dX2_share_3 : decode cX2_share 3 = .ok (.aload_n 1, 1) := by decide +kernel
theorem dX2_share_4 : decode cX2_share 4 = .ok (.getfield 62, 3) := by decide +kernel
theorem dX2_share_7 : decode cX2_share 7 = .ok (.if_icmp .ge 21, 3) := by decide +kernel
theorem dX2_share_10 : decode cX2_share 10 = .ok (.aload_n 1, 1) := by decide +kernel
theorem dX2_share_11 : decode cX2_share 11 = .ok (.getfield 65, 3) := by decide +kernel
theorem dX2_share_14 : decode cX2_share 14 = .ok (.aload_n 1, 1) := by decide +kernel
theorem dX2_share_15 : decode cX2_share 15 = .ok (.getfield 51, 3) := by decide +kernel
theorem dX2_share_18 : decode cX2_share 18 = .ok (.iload_n 2, 1) := by decide +kernel
theorem dX2_share_19 : decode cX2_share 19 = .ok (.iadd, 1) := by decide +kernel
theorem dX2_share_20 : decode cX2_share 20 = .ok (.lconst 0, 1) := by decide +kernel
theorem dX2_share_21 : decode cX2_share 21 = .ok (.lastore, 1) := by decide +kernel
theorem dX2_share_22 : decode cX2_share 22 = .ok (.iinc 2 1, 3) := by decide +kernel
theorem dX2_share_25 : decode cX2_share 25 = .ok (.goto (-23), 3) := by decide +kernel
theorem dX2_share_28 : decode cX2_share 28 = .ok (.lconst 0, 1) := by decide +kernel
theorem dX2_share_29 : decode cX2_share 29 = .ok (.lstore_n 2, 1) := by decide +kernel
theorem dX2_share_30 : decode cX2_share 30 = .ok (.iconst 0, 1) := by decide +kernel
theorem dX2_share_31 : decode cX2_share 31 = .ok (.istore 4, 2) := by decide +kernel
theorem dX2_share_33 : decode cX2_share 33 = .ok (.iload 4, 2) := by decide +kernel
theorem dX2_share_35 : decode cX2_share 35 = .ok (.aload_n 0, 1) := by decide +kernel
theorem dX2_share_36 : decode cX2_share 36 = .ok (.getfield 68, 3) := by decide +kernel
theorem dX2_share_39 : decode cX2_share 39 = .ok (.if_icmp .ge 37, 3) := by decide +kernel
theorem dX2_share_42 : decode cX2_share 42 = .ok (.aload_n 0, 1) := by decide +kernel
theorem dX2_share_43 : decode cX2_share 43 = .ok (.iload 4, 2) := by decide +kernel
theorem dX2_share_45 : decode cX2_share 45 = .ok (.invokevirtual 73, 3) := by decide +kernel
theorem dX2_share_48 : decode cX2_share 48 = .ok (.ifCond .eq 22, 3) := by decide +kernel
theorem dX2_share_51 : decode cX2_share 51 = .ok (.lload_n 2, 1) := by decide +kernel
theorem dX2_share_52 : decode cX2_share 52 = .ok (.aload_n 0, 1) := by decide +kernel
theorem dX2_share_53 : decode cX2_share 53 = .ok (.getfield 77, 3) := by decide +kernel
theorem dX2_share_56 : decode cX2_share 56 = .ok (.iload 4, 2) := by decide +kernel
theorem dX2_share_58 : decode cX2_share 58 = .ok (.iaload, 1) := by decide +kernel
theorem dX2_share_59 : decode cX2_share 59 = .ok (.i2l, 1) := by decide +kernel
theorem dX2_share_60 : decode cX2_share 60 = .ok (.aload_n 0, 1) := by decide +kernel
theorem dX2_share_61 : decode cX2_share 61 = .ok (.aload_n 1, 1) := by decide +kernel
theorem dX2_share_62 : decode cX2_share 62 = .ok (.iload 4, 2) := by decide +kernel
theorem dX2_share_64 : decode cX2_share 64 = .ok (.invokestatic 80, 3) := by decide +kernel
theorem dX2_share_67 : decode cX2_share 67 = .ok (.lmul, 1) := by decide +kernel
theorem dX2_share_68 : decode cX2_share 68 = .ok (.ladd, 1) := by decide +kernel
theorem dX2_share_69 : decode cX2_share 69 = .ok (.lstore_n 2, 1) := by decide +kernel
theorem dX2_share_70 : decode cX2_share 70 = .ok (.iinc 4 1, 3) := by decide +kernel
theorem dX2_share_73 : decode cX2_share 73 = .ok (.goto (-40), 3) := by decide +kernel
theorem dX2_share_76 : decode cX2_share 76 = .ok (.aload_n 1, 1) := by decide +kernel
theorem dX2_share_77 : decode cX2_share 77 = .ok (.getfield 84, 3) := by decide +kernel
theorem dX2_share_80 : decode cX2_share 80 = .ok (.aload_n 1, 1) := by decide +kernel
theorem dX2_share_81 : decode cX2_share 81 = .ok (.invokevirtual 87, 3) := by decide +kernel
theorem dX2_share_84 : decode cX2_share 84 = .ok (.lload_n 2, 1) := by decide +kernel
theorem dX2_share_85 : decode cX2_share 85 = .ok (.lastore, 1) := by decide +kernel
theorem dX2_share_86 : decode cX2_share 86 = .ok (.lconst 0, 1) := by decide +kernel
theorem dX2_share_87 : decode cX2_share 87 = .ok (.lstore 4, 2) := by decide +kernel
theorem dX2_share_89 : decode cX2_share 89 = .ok (.iconst 0, 1) := by decide +kernel
theorem dX2_share_90 : decode cX2_share 90 = .ok (.istore 6, 2) := by decide +kernel
theorem dX2_share_92 : decode cX2_share 92 = .ok (.iload 6, 2) := by decide +kernel
theorem dX2_share_94 : decode cX2_share 94 = .ok (.aload_n 1, 1) := by decide +kernel
theorem dX2_share_95 : decode cX2_share 95 = .ok (.getfield 62, 3) := by decide +kernel
theorem dX2_share_98 : decode cX2_share 98 = .ok (.if_icmp .ge 26, 3) := by decide +kernel
theorem dX2_share_101 : decode cX2_share 101 = .ok (.lload 4, 2) := by decide +kernel
theorem dX2_share_103 : decode cX2_share 103 = .ok (.aload_n 1, 1) := by decide +kernel
theorem dX2_share_104 : decode cX2_share 104 = .ok (.getfield 65, 3) := by decide +kernel
theorem dX2_share_107 : decode cX2_share 107 = .ok (.aload_n 1, 1) := by decide +kernel
theorem dX2_share_108 : decode cX2_share 108 = .ok (.getfield 51, 3) := by decide +kernel
theorem dX2_share_111 : decode cX2_share 111 = .ok (.iload 6, 2) := by decide +kernel
theorem dX2_share_113 : decode cX2_share 113 = .ok (.iadd, 1) := by decide +kernel
theorem dX2_share_114 : decode cX2_share 114 = .ok (.laload, 1) := by decide +kernel
theorem dX2_share_115 : decode cX2_share 115 = .ok (.ladd, 1) := by decide +kernel
theorem dX2_share_116 : decode cX2_share 116 = .ok (.lstore 4, 2) := by decide +kernel
theorem dX2_share_118 : decode cX2_share 118 = .ok (.iinc 6 1, 3) := by decide +kernel
theorem dX2_share_121 : decode cX2_share 121 = .ok (.goto (-29), 3) := by decide +kernel
theorem dX2_share_124 : decode cX2_share 124 = .ok (.aload_n 1, 1) := by decide +kernel
theorem dX2_share_125 : decode cX2_share 125 = .ok (.getfield 90, 3) := by decide +kernel
theorem dX2_share_128 : decode cX2_share 128 = .ok (.aload_n 1, 1) := by decide +kernel
theorem dX2_share_129 : decode cX2_share 129 = .ok (.invokevirtual 87, 3) := by decide +kernel
theorem dX2_share_132 : decode cX2_share 132 = .ok (.lload 4, 2) := by decide +kernel
theorem dX2_share_134 : decode cX2_share 134 = .ok (.aload_n 1, 1) := by decide +kernel
theorem dX2_share_135 : decode cX2_share 135 = .ok (.getfield 93, 3) := by decide +kernel
theorem dX2_share_138 : decode cX2_share 138 = .ok (.iconst 1, 1) := by decide +kernel
theorem dX2_share_139 : decode cX2_share 139 = .ok (.iadd, 1) := by decide +kernel
theorem dX2_share_140 : decode cX2_share 140 = .ok (.i2l, 1) := by decide +kernel
theorem dX2_share_141 : decode cX2_share 141 = .ok (.ldiv, 1) := by decide +kernel
theorem dX2_share_142 : decode cX2_share 142 = .ok (.lconst 1, 1) := by decide +kernel
theorem dX2_share_143 : decode cX2_share 143 = .ok (.ladd, 1) := by decide +kernel
theorem dX2_share_144 : decode cX2_share 144 = .ok (.lastore, 1) := by decide +kernel
theorem dX2_share_145 : decode cX2_share 145 = .ok (.return_, 1) := by decide +kernel
theorem dX2_sharePapers_0 : decode cX2_sharePapers 0 = .ok (.ldc2_w 96, 3) := by decide +kernel
theorem dX2_sharePapers_3 : decode cX2_sharePapers 3 = .ok (.lstore_n 3, 1) := by decide +kernel
theorem dX2_sharePapers_4 : decode cX2_sharePapers 4 = .ok (.iconst 0, 1) := by decide +kernel
theorem dX2_sharePapers_5 : decode cX2_sharePapers 5 = .ok (.istore 5, 2) := by decide +kernel
theorem dX2_sharePapers_7 : decode cX2_sharePapers 7 = .ok (.iload 5, 2) := by decide +kernel
theorem dX2_sharePapers_9 : decode cX2_sharePapers 9 = .ok (.aload_n 0, 1) := by decide +kernel
theorem dX2_sharePapers_10 : decode cX2_sharePapers 10 = .ok (.getfield 98, 3) := by decide +kernel
theorem dX2_sharePapers_13 : decode cX2_sharePapers 13 = .ok (.iload_n 2, 1) := by decide +kernel
theorem dX2_sharePapers_14 : decode cX2_sharePapers 14 = .ok (.iaload, 1) := by decide +kernel
theorem dX2_sharePapers_15 : decode cX2_sharePapers 15 = .ok (.if_icmp .ge 69, 3) := by decide +kernel
theorem dX2_sharePapers_18 : decode cX2_sharePapers 18 = .ok (.aload_n 1, 1) := by decide +kernel
theorem dX2_sharePapers_19 : decode cX2_sharePapers 19 = .ok (.getfield 51, 3) := by decide +kernel
theorem dX2_sharePapers_22 : decode cX2_sharePapers 22 = .ok (.aload_n 0, 1) := by decide +kernel
theorem dX2_sharePapers_23 : decode cX2_sharePapers 23 = .ok (.getfield 101, 3) := by decide +kernel
theorem dX2_sharePapers_26 : decode cX2_sharePapers 26 = .ok (.iload_n 2, 1) := by decide +kernel
theorem dX2_sharePapers_27 : decode cX2_sharePapers 27 = .ok (.bipush 12, 2) := by decide +kernel
theorem dX2_sharePapers_29 : decode cX2_sharePapers 29 = .ok (.imul, 1) := by decide +kernel
theorem dX2_sharePapers_30 : decode cX2_sharePapers 30 = .ok (.iload 5, 2) := by decide +kernel
theorem dX2_sharePapers_32 : decode cX2_sharePapers 32 = .ok (.iadd, 1) := by decide +kernel
theorem dX2_sharePapers_33 : decode cX2_sharePapers 33 = .ok (.iaload, 1) := by decide +kernel
theorem dX2_sharePapers_34 : decode cX2_sharePapers 34 = .ok (.iadd, 1) := by decide +kernel
theorem dX2_sharePapers_35 : decode cX2_sharePapers 35 = .ok (.istore 6, 2) := by decide +kernel
theorem dX2_sharePapers_37 : decode cX2_sharePapers 37 = .ok (.lload_n 3, 1) := by decide +kernel
theorem dX2_sharePapers_38 : decode cX2_sharePapers 38 = .ok (.aload_n 1, 1) := by decide +kernel
theorem dX2_sharePapers_39 : decode cX2_sharePapers 39 = .ok (.getfield 104, 3) := by decide +kernel
theorem dX2_sharePapers_42 : decode cX2_sharePapers 42 = .ok (.iload 6, 2) := by decide +kernel
theorem dX2_sharePapers_44 : decode cX2_sharePapers 44 = .ok (.iaload, 1) := by decide +kernel
theorem dX2_sharePapers_45 : decode cX2_sharePapers 45 = .ok (.i2l, 1) := by decide +kernel
theorem dX2_sharePapers_46 : decode cX2_sharePapers 46 = .ok (.lmul, 1) := by decide +kernel
theorem dX2_sharePapers_47 : decode cX2_sharePapers 47 = .ok (.ldc2_w 96, 3) := by decide +kernel
theorem dX2_sharePapers_50 : decode cX2_sharePapers 50 = .ok (.ldiv, 1) := by decide +kernel
theorem dX2_sharePapers_51 : decode cX2_sharePapers 51 = .ok (.lstore 7, 2) := by decide +kernel
theorem dX2_sharePapers_53 : decode cX2_sharePapers 53 = .ok (.aload_n 1, 1) := by decide +kernel
theorem dX2_sharePapers_54 : decode cX2_sharePapers 54 = .ok (.getfield 65, 3) := by decide +kernel
theorem dX2_sharePapers_57 : decode cX2_sharePapers 57 = .ok (.iload 6, 2) := by decide +kernel
theorem dX2_sharePapers_59 : decode cX2_sharePapers 59 = .ok (.dup2, 1) := by decide +kernel
theorem dX2_sharePapers_60 : decode cX2_sharePapers 60 = .ok (.laload, 1) := by decide +kernel
theorem dX2_sharePapers_61 : decode cX2_sharePapers 61 = .ok (.aload_n 0, 1) := by decide +kernel
theorem dX2_sharePapers_62 : decode cX2_sharePapers 62 = .ok (.getfield 77, 3) := by decide +kernel
theorem dX2_sharePapers_65 : decode cX2_sharePapers 65 = .ok (.iload_n 2, 1) := by decide +kernel
theorem dX2_sharePapers_66 : decode cX2_sharePapers 66 = .ok (.iaload, 1) := by decide +kernel
theorem dX2_sharePapers_67 : decode cX2_sharePapers 67 = .ok (.i2l, 1) := by decide +kernel
theorem dX2_sharePapers_68 : decode cX2_sharePapers 68 = .ok (.lload 7, 2) := by decide +kernel
theorem dX2_sharePapers_70 : decode cX2_sharePapers 70 = .ok (.lmul, 1) := by decide +kernel
theorem dX2_sharePapers_71 : decode cX2_sharePapers 71 = .ok (.ladd, 1) := by decide +kernel
theorem dX2_sharePapers_72 : decode cX2_sharePapers 72 = .ok (.lastore, 1) := by decide +kernel
theorem dX2_sharePapers_73 : decode cX2_sharePapers 73 = .ok (.lload_n 3, 1) := by decide +kernel
theorem dX2_sharePapers_74 : decode cX2_sharePapers 74 = .ok (.lload 7, 2) := by decide +kernel
theorem dX2_sharePapers_76 : decode cX2_sharePapers 76 = .ok (.lsub, 1) := by decide +kernel
theorem dX2_sharePapers_77 : decode cX2_sharePapers 77 = .ok (.lstore_n 3, 1) := by decide +kernel
theorem dX2_sharePapers_78 : decode cX2_sharePapers 78 = .ok (.iinc 5 1, 3) := by decide +kernel
theorem dX2_sharePapers_81 : decode cX2_sharePapers 81 = .ok (.goto (-74), 3) := by decide +kernel
theorem dX2_sharePapers_84 : decode cX2_sharePapers 84 = .ok (.lload_n 3, 1) := by decide +kernel
theorem dX2_sharePapers_85 : decode cX2_sharePapers 85 = .ok (.lreturn, 1) := by decide +kernel
set_option maxRecDepth 20000 in
theorem ggX2_excessOf_X1_isElected : GoodIn wsX2_excessOf wsX1_isElected := goodIn_r _ [12, 13, 14, 25, 26, 27, 28, 29, 30, 31, 32, 33, 34, 35, 36, 37, 38, 39, 40, 41, 42] (by decide +kernel) (by decide +kernel)
set_option maxRecDepth 20000 in
theorem gX2_excessOf_X1_isElected : GoodIn wsX2_excessOf (wsV RX2 107 RX1 yX1_isElected wsX1_isElected) := goodIn_app (goodIn_of _ (by decide +kernel)) ggX2_excessOf_X1_isElected
set_option maxRecDepth 20000 in
theorem ggX2_excessOf_X1_quota : GoodIn wsX2_excessOf wsX1_quota := goodIn_r _ [18, 19, 20, 21, 22, 11, 23, 24, 25, 26, 27, 28, 29, 30, 31, 32, 33, 34, 35, 36, 37, 38, 39, 40, 41, 42] (by decide +kernel) (by decide +kernel)
set_option maxRecDepth 20000 in
theorem gX2_excessOf_X1_quota : GoodIn wsX2_excessOf (wsV RX2 110 RX1 yX1_quota wsX1_quota) := goodIn_app (goodIn_of _ (by decide +kernel)) ggX2_excessOf_X1_quota
theorem dX2_excessOf_0 : decode cX2_excessOf 0 = .ok (.lconst 0, 1) := by decide +kernel
theorem dX2_excessOf_1 : decode cX2_excessOf 1 = .ok (.lstore_n 1, 1) := by decide +kernel
theorem dX2_excessOf_2 : decode cX2_excessOf 2 = .ok (.iconst 0, 1) := by decide +kernel
theorem dX2_excessOf_3 : decode cX2_excessOf 3 = .ok (.istore_n 3, 1) := by decide +kernel
theorem dX2_excessOf_4 : decode cX2_excessOf 4 = .ok (.iload_n 3, 1) := by decide +kernel
theorem dX2_excessOf_5 : decode cX2_excessOf 5 = .ok (.aload_n 0, 1) := by decide +kernel
theorem dX2_excessOf_6 : decode cX2_excessOf 6 = .ok (.getfield 62, 3) := by decide +kernel
theorem dX2_excessOf_9 : decode cX2_excessOf 9 = .ok (.if_icmp .ge 40, 3) := by decide +kernel
theorem dX2_excessOf_12 : decode cX2_excessOf 12 = .ok (.aload_n 0, 1) := by decide +kernel
theorem dX2_excessOf_13 : decode cX2_excessOf 13 = .ok (.iload_n 3, 1) := by decide +kernel
theorem dX2_excessOf_14 : decode cX2_excessOf 14 = .ok (.invokevirtual 107, 3) := by decide +kernel
theorem dX2_excessOf_17 : decode cX2_excessOf 17 = .ok (.ifCond .eq 26, 3) := by decide +kernel
theorem dX2_excessOf_20 : decode cX2_excessOf 20 = .ok (.lload_n 1, 1) := by decide +kernel
theorem dX2_excessOf_21 : decode cX2_excessOf 21 = .ok (.lconst 0, 1) := by decide +kernel
theorem dX2_excessOf_22 : decode cX2_excessOf 22 = .ok (.aload_n 0, 1) := by decide +kernel
theorem dX2_excessOf_23 : decode cX2_excessOf 23 = .ok (.getfield 65, 3) := by decide +kernel
theorem dX2_excessOf_26 : decode cX2_excessOf 26 = .ok (.aload_n 0, 1) := by decide +kernel
theorem dX2_excessOf_27 : decode cX2_excessOf 27 = .ok (.getfield 51, 3) := by decide +kernel
theorem dX2_excessOf_30 : decode cX2_excessOf 30 = .ok (.iload_n 3, 1) := by decide +kernel
theorem dX2_excessOf_31 : decode cX2_excessOf 31 = .ok (.iadd, 1) := by decide +kernel
theorem dX2_excessOf_32 : decode cX2_excessOf 32 = .ok (.laload, 1) := by decide +kernel
theorem dX2_excessOf_33 : decode cX2_excessOf 33 = .ok (.aload_n 0, 1) := by decide +kernel
theorem dX2_excessOf_34 : decode cX2_excessOf 34 = .ok (.invokevirtual 110, 3) := by decide +kernel
theorem dX2_excessOf_37 : decode cX2_excessOf 37 = .ok (.lsub, 1) := by decide +kernel
theorem dX2_excessOf_38 : decode cX2_excessOf 38 = .ok (.invokestatic 114, 3) := by decide +kernel
theorem dX2_excessOf_41 : decode cX2_excessOf 41 = .ok (.ladd, 1) := by decide +kernel
theorem dX2_excessOf_42 : decode cX2_excessOf 42 = .ok (.lstore_n 1, 1) := by decide +kernel
theorem dX2_excessOf_43 : decode cX2_excessOf 43 = .ok (.iinc 3 1, 3) := by decide +kernel
theorem dX2_excessOf_46 : decode cX2_excessOf 46 = .ok (.goto (-42), 3) := by decide +kernel
theorem dX2_excessOf_49 : decode cX2_excessOf 49 = .ok (.lload_n 1, 1) := by decide +kernel
theorem dX2_excessOf_50 : decode cX2_excessOf 50 = .ok (.lreturn, 1) := by decide +kernel
set_option maxRecDepth 20000 in
theorem ggX2_mustPutOut_X1_now : GoodIn wsX2_mustPutOut wsX1_now := goodIn_r _ [8, 9, 10, 11, 12, 13, 14, 15, 16, 17, 18, 19, 20, 21, 22, 23, 24, 25, 26, 27] (by decide +kernel) (by decide +kernel)
set_option maxRecDepth 20000 in
theorem gX2_mustPutOut_X1_now : GoodIn wsX2_mustPutOut (wsV RX2 87 RX1 yX1_now wsX1_now) := goodIn_app (goodIn_of _ (by decide +kernel)) ggX2_mustPutOut_X1_now
theorem dX2_mustPutOut_0 : decode cX2_mustPutOut 0 = .ok (.aload_n 0, 1) := by decide +kernel
theorem dX2_mustPutOut_1 : decode cX2_mustPutOut 1 = .ok (.invokevirtual 87, 3) := by decide +kernel
theorem dX2_mustPutOut_4 : decode cX2_mustPutOut 4 = .ok (.istore_n 2, 1) := by decide +kernel
theorem dX2_mustPutOut_5 : decode cX2_mustPutOut 5 = .ok (.iload_n 2, 1) := by decide +kernel
theorem dX2_mustPutOut_6 : decode cX2_mustPutOut 6 = .ok (.bipush 60, 2) := by decide +kernel
theorem dX2_mustPutOut_8 : decode cX2_mustPutOut 8 = .ok (.if_icmp .lt 5, 3) := by decide +kernel
theorem dX2_mustPutOut_11 : decode cX2_mustPutOut 11 = .ok (.iconst 1, 1) := by decide +kernel
theorem dX2_mustPutOut_12 : decode cX2_mustPutOut 12 = .ok (.ireturn, 1) := by decide +kernel
theorem dX2_mustPutOut_13 : decode cX2_mustPutOut 13 = .ok (.iload_n 1, 1) := by decide +kernel
theorem dX2_mustPutOut_14 : decode cX2_mustPutOut 14 = .ok (.ifCond .eq 5, 3) := by decide +kernel
theorem dX2_mustPutOut_17 : decode cX2_mustPutOut 17 = .ok (.iconst 0, 1) := by decide +kernel
theorem dX2_mustPutOut_18 : decode cX2_mustPutOut 18 = .ok (.ireturn, 1) := by decide +kernel
theorem dX2_mustPutOut_19 : decode cX2_mustPutOut 19 = .ok (.aload_n 0, 1) := by decide +kernel
theorem dX2_mustPutOut_20 : decode cX2_mustPutOut 20 = .ok (.getfield 25, 3) := by decide +kernel
theorem dX2_mustPutOut_23 : decode cX2_mustPutOut 23 = .ok (.iload_n 2, 1) := by decide +kernel
theorem dX2_mustPutOut_24 : decode cX2_mustPutOut 24 = .ok (.laload, 1) := by decide +kernel
theorem dX2_mustPutOut_25 : decode cX2_mustPutOut 25 = .ok (.lstore_n 3, 1) := by decide +kernel
theorem dX2_mustPutOut_26 : decode cX2_mustPutOut 26 = .ok (.iload_n 2, 1) := by decide +kernel
theorem dX2_mustPutOut_27 : decode cX2_mustPutOut 27 = .ok (.ifCond .le 32, 3) := by decide +kernel
theorem dX2_mustPutOut_30 : decode cX2_mustPutOut 30 = .ok (.aload_n 0, 1) := by decide +kernel
theorem dX2_mustPutOut_31 : decode cX2_mustPutOut 31 = .ok (.getfield 41, 3) := by decide +kernel
theorem dX2_mustPutOut_34 : decode cX2_mustPutOut 34 = .ok (.iload_n 2, 1) := by decide +kernel
theorem dX2_mustPutOut_35 : decode cX2_mustPutOut 35 = .ok (.iconst 1, 1) := by decide +kernel
theorem dX2_mustPutOut_36 : decode cX2_mustPutOut 36 = .ok (.isub, 1) := by decide +kernel
theorem dX2_mustPutOut_37 : decode cX2_mustPutOut 37 = .ok (.iaload, 1) := by decide +kernel
theorem dX2_mustPutOut_38 : decode cX2_mustPutOut 38 = .ok (.iconst 3, 1) := by decide +kernel
theorem dX2_mustPutOut_39 : decode cX2_mustPutOut 39 = .ok (.if_icmp .ne 20, 3) := by decide +kernel
theorem dX2_mustPutOut_42 : decode cX2_mustPutOut 42 = .ok (.lload_n 3, 1) := by decide +kernel
theorem dX2_mustPutOut_43 : decode cX2_mustPutOut 43 = .ok (.aload_n 0, 1) := by decide +kernel
theorem dX2_mustPutOut_44 : decode cX2_mustPutOut 44 = .ok (.getfield 25, 3) := by decide +kernel
theorem dX2_mustPutOut_47 : decode cX2_mustPutOut 47 = .ok (.iload_n 2, 1) := by decide +kernel
theorem dX2_mustPutOut_48 : decode cX2_mustPutOut 48 = .ok (.iconst 1, 1) := by decide +kernel
theorem dX2_mustPutOut_49 : decode cX2_mustPutOut 49 = .ok (.isub, 1) := by decide +kernel
theorem dX2_mustPutOut_50 : decode cX2_mustPutOut 50 = .ok (.laload, 1) := by decide +kernel
theorem dX2_mustPutOut_51 : decode cX2_mustPutOut 51 = .ok (.lcmp, 1) := by decide +kernel
theorem dX2_mustPutOut_52 : decode cX2_mustPutOut 52 = .ok (.ifCond .lt 7, 3) := by decide +kernel
theorem dX2_mustPutOut_55 : decode cX2_mustPutOut 55 = .ok (.iconst 1, 1) := by decide +kernel
theorem dX2_mustPutOut_56 : decode cX2_mustPutOut 56 = .ok (.goto 4, 3) := by decide +kernel
theorem dX2_mustPutOut_59 : decode cX2_mustPutOut 59 = .ok (.iconst 0, 1) := by decide +kernel
theorem dX2_mustPutOut_60 : decode cX2_mustPutOut 60 = .ok (.istore 5, 2) := by decide +kernel
theorem dX2_mustPutOut_62 : decode cX2_mustPutOut 62 = .ok (.lload_n 3, 1) := by decide +kernel
theorem dX2_mustPutOut_63 : decode cX2_mustPutOut 63 = .ok (.ldc2_w 120, 3) := by decide +kernel
theorem dX2_mustPutOut_66 : decode cX2_mustPutOut 66 = .ok (.lcmp, 1) := by decide +kernel
theorem dX2_mustPutOut_67 : decode cX2_mustPutOut 67 = .ok (.ifCond .lt 8, 3) := by decide +kernel
theorem dX2_mustPutOut_70 : decode cX2_mustPutOut 70 = .ok (.iload 5, 2) := by decide +kernel
theorem dX2_mustPutOut_72 : decode cX2_mustPutOut 72 = .ok (.ifCond .eq 7, 3) := by decide +kernel
theorem dX2_mustPutOut_75 : decode cX2_mustPutOut 75 = .ok (.iconst 1, 1) := by decide +kernel
theorem dX2_mustPutOut_76 : decode cX2_mustPutOut 76 = .ok (.goto 4, 3) := by decide +kernel
theorem dX2_mustPutOut_79 : decode cX2_mustPutOut 79 = .ok (.iconst 0, 1) := by decide +kernel
theorem dX2_mustPutOut_80 : decode cX2_mustPutOut 80 = .ok (.ireturn, 1) := by decide +kernel
set_option maxRecDepth 20000 in
theorem ggX2_changeKeeps_X1_isElected : GoodIn wsX2_changeKeeps wsX1_isElected := goodIn_r _ [9, 10, 11, 32, 33, 34, 35, 36, 37, 38, 39, 40, 41, 42, 43, 44, 45, 46, 47, 48, 49] (by decide +kernel) (by decide +kernel)
set_option maxRecDepth 20000 in
theorem gX2_changeKeeps_X1_isElected : GoodIn wsX2_changeKeeps (wsV RX2 107 RX1 yX1_isElected wsX1_isElected) := goodIn_app (goodIn_of _ (by decide +kernel)) ggX2_changeKeeps_X1_isElected
set_option maxRecDepth 20000 in
theorem ggX2_changeKeeps_X1_quota : GoodIn wsX2_changeKeeps wsX1_quota := goodIn_r _ [15, 16, 17, 18, 19, 8, 20, 21, 32, 33, 34, 35, 36, 37, 38, 39, 40, 41, 42, 43, 44, 45, 46, 47, 48, 49] (by decide +kernel) (by decide +kernel)
set_option maxRecDepth 20000 in
theorem gX2_changeKeeps_X1_quota : GoodIn wsX2_changeKeeps (wsV RX2 110 RX1 yX1_quota wsX1_quota) := goodIn_app (goodIn_of _ (by decide +kernel)) ggX2_changeKeeps_X1_quota
set_option maxRecDepth 20000 in
theorem ggX2_changeKeeps_X2_keepFor : GoodIn wsX2_changeKeeps wsX2_keepFor := goodIn_r _ [25, 26, 27, 28, 29, 30, 31] (by decide +kernel) (by decide +kernel)
set_option maxRecDepth 20000 in
theorem gX2_changeKeeps_X2_keepFor : GoodIn wsX2_changeKeeps (va_wsS RX2 122 yX2_keepFor wsX2_keepFor) := goodIn_app (goodIn_of _ (by decide +kernel)) ggX2_changeKeeps_X2_keepFor
theorem dX2_changeKeeps_0 : decode cX2_changeKeeps 0 = .ok (.iload_n 1, 1) := by decide +kernel
theorem dX2_changeKeeps_1 : decode cX2_changeKeeps 1 = .ok (.bipush (-9), 2) := by decide +kernel
theorem dX2_changeKeeps_3 : decode cX2_changeKeeps 3 = .ok (.if_icmp .eq 16, 3) := by decide +kernel
theorem dX2_changeKeeps_6 : decode cX2_changeKeeps 6 = .ok (.aload_n 0, 1) := by decide +kernel
theorem dX2_changeKeeps_7 : decode cX2_changeKeeps 7 = .ok (.getfield 104, 3) := by decide +kernel
theorem dX2_changeKeeps_10 : decode cX2_changeKeeps 10 = .ok (.aload_n 0, 1) := by decide +kernel
theorem dX2_changeKeeps_11 : decode cX2_changeKeeps 11 = .ok (.getfield 51, 3) := by decide +kernel
theorem dX2_changeKeeps_14 : decode cX2_changeKeeps 14 = .ok (.iload_n 1, 1) := by decide +kernel
theorem dX2_changeKeeps_15 : decode cX2_changeKeeps 15 = .ok (.iadd, 1) := by decide +kernel
theorem dX2_changeKeeps_16 : decode cX2_changeKeeps 16 = .ok (.iconst 0, 1) := by decide +kernel
theorem dX2_changeKeeps_17 : decode cX2_changeKeeps 17 = .ok (.iastore, 1) := by decide +kernel
theorem dX2_changeKeeps_18 : decode cX2_changeKeeps 18 = .ok (.return_, 1) := by decide +kernel
theorem dX2_changeKeeps_19 : decode cX2_changeKeeps 19 = .ok (.iconst 0, 1) := by decide +kernel
theorem dX2_changeKeeps_20 : decode cX2_changeKeeps 20 = .ok (.istore_n 2, 1) := by decide +kernel
theorem dX2_changeKeeps_21 : decode cX2_changeKeeps 21 = .ok (.iload_n 2, 1) := by decide +kernel
theorem dX2_changeKeeps_22 : decode cX2_changeKeeps 22 = .ok (.aload_n 0, 1) := by decide +kernel
theorem dX2_changeKeeps_23 : decode cX2_changeKeeps 23 = .ok (.getfield 62, 3) := by decide +kernel
theorem dX2_changeKeeps_26 : decode cX2_changeKeeps 26 = .ok (.if_icmp .ge 50, 3) := by decide +kernel
theorem dX2_changeKeeps_29 : decode cX2_changeKeeps 29 = .ok (.aload_n 0, 1) := by decide +kernel
theorem dX2_changeKeeps_30 : decode cX2_changeKeeps 30 = .ok (.iload_n 2, 1) := by decide +kernel
theorem dX2_changeKeeps_31 : decode cX2_changeKeeps 31 = .ok (.invokevirtual 107, 3) := by decide +kernel
theorem dX2_changeKeeps_34 : decode cX2_changeKeeps 34 = .ok (.ifCond .eq 36, 3) := by decide +kernel
theorem dX2_changeKeeps_37 : decode cX2_changeKeeps 37 = .ok (.aload_n 0, 1) := by decide +kernel
theorem dX2_changeKeeps_38 : decode cX2_changeKeeps 38 = .ok (.getfield 51, 3) := by decide +kernel
theorem dX2_changeKeeps_41 : decode cX2_changeKeeps 41 = .ok (.iload_n 2, 1) := by decide +kernel
theorem dX2_changeKeeps_42 : decode cX2_changeKeeps 42 = .ok (.iadd, 1) := by decide +kernel
theorem dX2_changeKeeps_43 : decode cX2_changeKeeps 43 = .ok (.istore_n 3, 1) := by decide +kernel
theorem dX2_changeKeeps_44 : decode cX2_changeKeeps 44 = .ok (.aload_n 0, 1) := by decide +kernel
theorem dX2_changeKeeps_45 : decode cX2_changeKeeps 45 = .ok (.getfield 104, 3) := by decide +kernel
theorem dX2_changeKeeps_48 : decode cX2_changeKeeps 48 = .ok (.iload_n 3, 1) := by decide +kernel
theorem dX2_changeKeeps_49 : decode cX2_changeKeeps 49 = .ok (.aload_n 0, 1) := by decide +kernel
theorem dX2_changeKeeps_50 : decode cX2_changeKeeps 50 = .ok (.getfield 104, 3) := by decide +kernel
theorem dX2_changeKeeps_53 : decode cX2_changeKeeps 53 = .ok (.iload_n 3, 1) := by decide +kernel
theorem dX2_changeKeeps_54 : decode cX2_changeKeeps 54 = .ok (.iaload, 1) := by decide +kernel
theorem dX2_changeKeeps_55 : decode cX2_changeKeeps 55 = .ok (.i2l, 1) := by decide +kernel
theorem dX2_changeKeeps_56 : decode cX2_changeKeeps 56 = .ok (.aload_n 0, 1) := by decide +kernel
theorem dX2_changeKeeps_57 : decode cX2_changeKeeps 57 = .ok (.invokevirtual 110, 3) := by decide +kernel
theorem dX2_changeKeeps_60 : decode cX2_changeKeeps 60 = .ok (.aload_n 0, 1) := by decide +kernel
theorem dX2_changeKeeps_61 : decode cX2_changeKeeps 61 = .ok (.getfield 65, 3) := by decide +kernel
theorem dX2_changeKeeps_64 : decode cX2_changeKeeps 64 = .ok (.iload_n 3, 1) := by decide +kernel
theorem dX2_changeKeeps_65 : decode cX2_changeKeeps 65 = .ok (.laload, 1) := by decide +kernel
theorem dX2_changeKeeps_66 : decode cX2_changeKeeps 66 = .ok (.invokestatic 122, 3) := by decide +kernel
theorem dX2_changeKeeps_69 : decode cX2_changeKeeps 69 = .ok (.iastore, 1) := by decide +kernel
theorem dX2_changeKeeps_70 : decode cX2_changeKeeps 70 = .ok (.iinc 2 1, 3) := by decide +kernel
theorem dX2_changeKeeps_73 : decode cX2_changeKeeps 73 = .ok (.goto (-52), 3) := by decide +kernel
theorem dX2_changeKeeps_76 : decode cX2_changeKeeps 76 = .ok (.return_, 1) := by decide +kernel
theorem dX2_keepFor_0 : decode cX2_keepFor 0 = .ok (.lload 4, 2) := by decide +kernel
theorem dX2_keepFor_2 : decode cX2_keepFor 2 = .ok (.lconst 0, 1) := by decide +kernel
theorem dX2_keepFor_3 : decode cX2_keepFor 3 = .ok (.lcmp, 1) := by decide +kernel
theorem dX2_keepFor_4 : decode cX2_keepFor 4 = .ok (.ifCond .gt 6, 3) := by decide +kernel
theorem dX2_keepFor_7 : decode cX2_keepFor 7 = .ok (.ldc 126, 2) := by decide +kernel
theorem dX2_keepFor_9 : decode cX2_keepFor 9 = .ok (.ireturn, 1) := by decide +kernel
theorem dX2_keepFor_10 : decode cX2_keepFor 10 = .ok (.ldc2_w 96, 3) := by decide +kernel
theorem dX2_keepFor_13 : decode cX2_keepFor 13 = .ok (.lload_n 0, 1) := by decide +kernel
theorem dX2_keepFor_14 : decode cX2_keepFor 14 = .ok (.lload_n 2, 1) := by decide +kernel
theorem dX2_keepFor_15 : decode cX2_keepFor 15 = .ok (.lmul, 1) := by decide +kernel
theorem dX2_keepFor_16 : decode cX2_keepFor 16 = .ok (.lload 4, 2) := by decide +kernel
theorem dX2_keepFor_18 : decode cX2_keepFor 18 = .ok (.ldiv, 1) := by decide +kernel
theorem dX2_keepFor_19 : decode cX2_keepFor 19 = .ok (.lconst 1, 1) := by decide +kernel
theorem dX2_keepFor_20 : decode cX2_keepFor 20 = .ok (.ladd, 1) := by decide +kernel
theorem dX2_keepFor_21 : decode cX2_keepFor 21 = .ok (.invokestatic 127, 3) := by decide +kernel
theorem dX2_keepFor_24 : decode cX2_keepFor 24 = .ok (.l2i, 1) := by decide +kernel
theorem dX2_keepFor_25 : decode cX2_keepFor 25 = .ok (.ireturn, 1) := by decide +kernel
theorem dX3_init_0 : decode cX3_init 0 = .ok (.aload_n 0, 1) := by decide +kernel
theorem dX3_init_1 : decode cX3_init 1 = .ok (.invokespecial 3, 3) := by decide +kernel
theorem dX3_init_4 : decode cX3_init 4 = .ok (.aload_n 0, 1) := by decide +kernel
theorem dX3_init_5 : decode cX3_init 5 = .ok (.sipush 1040, 3) := by decide +kernel
theorem dX3_init_8 : decode cX3_init 8 = .ok (.newarray .int, 2) := by decide +kernel
theorem dX3_init_10 : decode cX3_init 10 = .ok (.putfield 9, 3) := by decide +kernel
theorem dX3_init_13 : decode cX3_init 13 = .ok (.aload_n 0, 1) := by decide +kernel
theorem dX3_init_14 : decode cX3_init 14 = .ok (.sipush 1040, 3) := by decide +kernel
theorem dX3_init_17 : decode cX3_init 17 = .ok (.newarray .int, 2) := by decide +kernel
theorem dX3_init_19 : decode cX3_init 19 = .ok (.putfield 15, 3) := by decide +kernel
theorem dX3_init_22 : decode cX3_init 22 = .ok (.aload_n 0, 1) := by decide +kernel
theorem dX3_init_23 : decode cX3_init 23 = .ok (.bipush 80, 2) := by decide +kernel
theorem dX3_init_25 : decode cX3_init 25 = .ok (.newarray .int, 2) := by decide +kernel
theorem dX3_init_27 : decode cX3_init 27 = .ok (.putfield 18, 3) := by decide +kernel
theorem dX3_init_30 : decode cX3_init 30 = .ok (.return_, 1) := by decide +kernel
theorem dX3_hasPlace_0 : decode cX3_hasPlace 0 = .ok (.iload_n 1, 1) := by decide +kernel
theorem dX3_hasPlace_1 : decode cX3_hasPlace 1 = .ok (.ifCond .lt 25, 3) := by decide +kernel
theorem dX3_hasPlace_4 : decode cX3_hasPlace 4 = .ok (.iload_n 1, 1) := by decide +kernel
theorem dX3_hasPlace_5 : decode cX3_hasPlace 5 = .ok (.bipush 13, 2) := by decide +kernel
theorem dX3_hasPlace_7 : decode cX3_hasPlace 7 = .ok (.if_icmp .ge 19, 3) := by decide +kernel
theorem dX3_hasPlace_10 : decode cX3_hasPlace 10 = .ok (.iload_n 2, 1) := by decide +kernel
theorem dX3_hasPlace_11 : decode cX3_hasPlace 11 = .ok (.ifCond .lt 15, 3) := by decide +kernel
theorem dX3_hasPlace_14 : decode cX3_hasPlace 14 = .ok (.iload_n 2, 1) := by decide +kernel
theorem dX3_hasPlace_15 : decode cX3_hasPlace 15 = .ok (.aload_n 0, 1) := by decide +kernel
theorem dX3_hasPlace_16 : decode cX3_hasPlace 16 = .ok (.getfield 21, 3) := by decide +kernel
theorem dX3_hasPlace_19 : decode cX3_hasPlace 19 = .ok (.if_icmp .ge 7, 3) := by decide +kernel
theorem dX3_hasPlace_22 : decode cX3_hasPlace 22 = .ok (.iconst 1, 1) := by decide +kernel
theorem dX3_hasPlace_23 : decode cX3_hasPlace 23 = .ok (.goto 4, 3) := by decide +kernel
theorem dX3_hasPlace_26 : decode cX3_hasPlace 26 = .ok (.iconst 0, 1) := by decide +kernel
theorem dX3_hasPlace_27 : decode cX3_hasPlace 27 = .ok (.ireturn, 1) := by decide +kernel
set_option maxRecDepth 20000 in
theorem ggX3_run_X0_validPapers : GoodIn wsX3_run wsX0_validPapers := goodIn_r _ [11, 12, 13, 14, 15, 16, 10, 17, 18, 19, 20, 159, 160, 161, 162, 163, 164, 165, 166] (by decide +kernel) (by decide +kernel)
set_option maxRecDepth 20000 in
theorem gX3_run_X0_validPapers : GoodIn wsX3_run (wsV RX3 31 RX0 yX0_validPapers wsX0_validPapers) := goodIn_app (goodIn_of _ (by decide +kernel)) ggX3_run_X0_validPapers
set_option maxRecDepth 20000 in
theorem ggX3_run_X3_dealFirst : GoodIn wsX3_run wsX3_dealFirst := goodIn_r _ [25, 2, 26, 27, 6, 28, 15, 16, 10, 17, 18, 19, 20, 29, 30, 31, 24, 32, 33, 3, 34, 35, 36, 37, 38, 39, 40, 41, 42, 43, 44, 45, 46, 47, 48, 49, 50, 51, 52, 53, 54, 55, 167, 168, 169, 170, 171, 159, 160, 161, 162, 163, 164, 165, 166, 172, 173, 174, 175, 176, 177, 178, 179, 180, 181, 182, 183, 184, 185, 186, 187, 188, 189] (by decide +kernel) (by decide +kernel)
set_option maxRecDepth 20000 in
theorem gX3_run_X3_dealFirst : GoodIn wsX3_run (wsV RX3 46 RX3 yX3_dealFirst wsX3_dealFirst) := goodIn_app (goodIn_of _ (by decide +kernel)) ggX3_run_X3_dealFirst
set_option maxRecDepth 20000 in
theorem ggX3_run_X1_settle : GoodIn wsX3_run wsX1_settle := goodIn_r _ [59, 60, 61, 62, 63, 64, 65, 47, 66, 67, 68, 52, 53, 54, 55, 69, 70, 71, 72, 73, 49, 50, 74, 75, 76, 77, 78, 79, 80, 81, 82, 83, 84, 85, 86, 87, 88, 89, 90, 91, 92, 93, 45, 46, 48, 172, 173, 174, 175, 176, 177, 178, 179, 180, 181, 182, 183, 184, 185, 186, 187, 188, 189] (by decide +kernel) (by decide +kernel)
set_option maxRecDepth 20000 in
theorem gX3_run_X1_settle : GoodIn wsX3_run (wsV RX3 50 RX1 yX1_settle wsX1_settle) := goodIn_app (goodIn_of _ (by decide +kernel)) ggX3_run_X1_settle
set_option maxRecDepth 20000 in
theorem ggX3_run_X1_richest : GoodIn wsX3_run wsX1_richest := goodIn_r _ [97, 63, 64, 65, 47, 66, 67, 68, 52, 53, 54, 55, 75, 76, 77, 78, 73, 49, 50, 79, 80, 81, 82, 83, 84, 85, 86, 87, 88, 172, 173, 174, 175, 176, 177, 178, 179, 180, 181, 182, 183, 184, 185, 186, 187, 188, 189] (by decide +kernel) (by decide +kernel)
set_option maxRecDepth 20000 in
theorem gX3_run_X1_richest : GoodIn wsX3_run (wsV RX3 54 RX1 yX1_richest wsX1_richest) := goodIn_app (goodIn_of _ (by decide +kernel)) ggX3_run_X1_richest
set_option maxRecDepth 20000 in
theorem ggX3_run_X1_poorest : GoodIn wsX3_run wsX1_poorest := goodIn_r _ [101, 73, 93, 45, 46, 47, 48, 49, 50, 80, 81, 82, 83, 84, 79, 85, 68, 52, 53, 54, 55, 86, 87, 88, 172, 173, 174, 175, 176, 177, 178, 179, 180, 181, 182, 183, 184, 185, 186, 187, 188, 189] (by decide +kernel) (by decide +kernel)
set_option maxRecDepth 20000 in
theorem gX3_run_X1_poorest : GoodIn wsX3_run (wsV RX3 57 RX1 yX1_poorest wsX1_poorest) := goodIn_app (goodIn_of _ (by decide +kernel)) ggX3_run_X1_poorest
set_option maxRecDepth 20000 in
theorem ggX3_run_X1_turn : GoodIn wsX3_run wsX1_turn := goodIn_r _ [105, 55, 50, 106, 107, 108, 109, 67, 110, 79, 73, 111, 112, 113, 114, 49, 115, 68, 52, 53, 47, 54, 86, 87, 88, 172, 173, 174, 175, 176, 177, 178, 179, 180, 181, 182, 183, 184, 185, 186, 187, 188, 189] (by decide +kernel) (by decide +kernel)
set_option maxRecDepth 20000 in
theorem gX3_run_X1_turn : GoodIn wsX3_run (wsV RX3 60 RX1 yX1_turn wsX1_turn) := goodIn_app (goodIn_of _ (by decide +kernel)) ggX3_run_X1_turn
set_option maxRecDepth 20000 in
theorem ggX3_run_X3_copyRow : GoodIn wsX3_run wsX3_copyRow := goodIn_r _ [119, 3, 26, 2, 120, 112, 113, 114, 27, 121, 87, 122, 167, 168, 169, 170, 171] (by decide +kernel) (by decide +kernel)
set_option maxRecDepth 20000 in
theorem gX3_run_X3_copyRow : GoodIn wsX3_run (wsV RX3 64 RX3 yX3_copyRow wsX3_copyRow) := goodIn_app (goodIn_of _ (by decide +kernel)) ggX3_run_X3_copyRow
set_option maxRecDepth 20000 in
theorem ggX3_run_X3_putOut : GoodIn wsX3_run wsX3_putOut := goodIn_r _ [126, 127, 36, 2, 26, 3, 27, 35, 29, 30, 31, 24, 32, 33, 34, 37, 38, 39, 40, 41, 42, 43, 44, 45, 46, 47, 48, 49, 50, 51, 52, 53, 54, 55, 172, 173, 174, 175, 176, 177, 178, 179, 180, 181, 182, 183, 184, 185, 186, 187, 188, 189, 167, 168, 169, 170, 171, 159, 160, 161, 162, 163, 164, 165, 166] (by decide +kernel) (by decide +kernel)
set_option maxRecDepth 20000 in
theorem gX3_run_X3_putOut : GoodIn wsX3_run (wsV RX3 68 RX3 yX3_putOut wsX3_putOut) := goodIn_app (goodIn_of _ (by decide +kernel)) ggX3_run_X3_putOut
set_option maxRecDepth 20000 in
theorem ggX3_run_X3_passSurplus : GoodIn wsX3_run wsX3_passSurplus := goodIn_r _ [131, 35, 36, 132, 133, 134, 64, 65, 47, 66, 67, 68, 52, 53, 54, 55, 135, 136, 137, 24, 138, 2, 33, 27, 3, 34, 139, 140, 141, 142, 26, 37, 143, 144, 145, 146, 147, 148, 149, 150, 38, 39, 40, 41, 42, 43, 44, 45, 46, 48, 49, 50, 29, 30, 31, 32, 51, 151, 152, 153, 154, 155, 156, 157, 158, 172, 173, 174, 175, 176, 177, 178, 179, 180, 181, 182, 183, 184, 185, 186, 187, 188, 189, 167, 168, 169, 170, 171, 159, 160, 161, 162, 163, 164, 165, 166] (by decide +kernel) (by decide +kernel)
set_option maxRecDepth 20000 in
theorem gX3_run_X3_passSurplus : GoodIn wsX3_run (wsV RX3 72 RX3 yX3_passSurplus wsX3_passSurplus) := goodIn_app (goodIn_of _ (by decide +kernel)) ggX3_run_X3_passSurplus
theorem dX3_run_0 : decode cX3_run 0 = .ok (.aload_n 0, 1) := by decide +kernel
theorem dX3_run_1 : decode cX3_run 1 = .ok (.aload_n 1, 1) := by decide +kernel
theorem dX3_run_2 : decode cX3_run 2 = .ok (.getfield 25, 3) := by decide +kernel
theorem dX3_run_5 : decode cX3_run 5 = .ok (.putfield 21, 3) := by decide +kernel
theorem dX3_run_8 : decode cX3_run 8 = .ok (.aload_n 0, 1) := by decide +kernel
theorem dX3_run_9 : decode cX3_run 9 = .ok (.iconst 0, 1) := by decide +kernel
theorem dX3_run_10 : decode cX3_run 10 = .ok (.putfield 28, 3) := by decide +kernel
theorem dX3_run_13 : decode cX3_run 13 = .ok (.aload_n 1, 1) := by decide +kernel
theorem dX3_run_14 : decode cX3_run 14 = .ok (.invokevirtual 31, 3) := by decide +kernel
theorem dX3_run_17 : decode cX3_run 17 = .ok (.aload_n 2, 1) := by decide +kernel
theorem dX3_run_18 : decode cX3_run 18 = .ok (.getfield 35, 3) := by decide +kernel
theorem dX3_run_21 : decode cX3_run 21 = .ok (.iconst 1, 1) := by decide +kernel
theorem dX3_run_22 : decode cX3_run 22 = .ok (.iadd, 1) := by decide +kernel
theorem dX3_run_23 : decode cX3_run 23 = .ok (.idiv, 1) := by decide +kernel
theorem dX3_run_24 : decode cX3_run 24 = .ok (.iconst 1, 1) := by decide +kernel
theorem dX3_run_25 : decode cX3_run 25 = .ok (.iadd, 1) := by decide +kernel
theorem dX3_run_26 : decode cX3_run 26 = .ok (.i2l, 1) := by decide +kernel
theorem dX3_run_27 : decode cX3_run 27 = .ok (.lstore_n 3, 1) := by decide +kernel
theorem dX3_run_28 : decode cX3_run 28 = .ok (.aload_n 2, 1) := by decide +kernel
theorem dX3_run_29 : decode cX3_run 29 = .ok (.getfield 40, 3) := by decide +kernel
theorem dX3_run_32 : decode cX3_run 32 = .ok (.iconst 0, 1) := by decide +kernel
theorem dX3_run_33 : decode cX3_run 33 = .ok (.lload_n 3, 1) := by decide +kernel
theorem dX3_run_34 : decode cX3_run 34 = .ok (.ldc2_w 44, 3) := by decide +kernel
theorem dX3_run_37 : decode cX3_run 37 = .ok (.lmul, 1) := by decide +kernel
theorem dX3_run_38 : decode cX3_run 38 = .ok (.lastore, 1) := by decide +kernel
theorem dX3_run_39 : decode cX3_run 39 = .ok (.aload_n 0, 1) := by decide +kernel
theorem dX3_run_40 : decode cX3_run 40 = .ok (.aload_n 1, 1) := by decide +kernel
theorem dX3_run_41 : decode cX3_run 41 = .ok (.aload_n 2, 1) := by decide +kernel
theorem dX3_run_42 : decode cX3_run 42 = .ok (.invokevirtual 46, 3) := by decide +kernel
theorem dX3_run_45 : decode cX3_run 45 = .ok (.iconst 1, 1) := by decide +kernel
theorem dX3_run_46 : decode cX3_run 46 = .ok (.istore 5, 2) := by decide +kernel
theorem dX3_run_48 : decode cX3_run 48 = .ok (.aload_n 2, 1) := by decide +kernel
theorem dX3_run_49 : decode cX3_run 49 = .ok (.invokevirtual 50, 3) := by decide +kernel
theorem dX3_run_52 : decode cX3_run 52 = .ok (.ifCond .ne 105, 3) := by decide +kernel
theorem dX3_run_55 : decode cX3_run 55 = .ok (.iload 5, 2) := by decide +kernel
theorem dX3_run_57 : decode cX3_run 57 = .ok (.bipush 13, 2) := by decide +kernel
theorem dX3_run_59 : decode cX3_run 59 = .ok (.if_icmp .ge 98, 3) := by decide +kernel
theorem dX3_run_62 : decode cX3_run 62 = .ok (.aload_n 2, 1) := by decide +kernel
theorem dX3_run_63 : decode cX3_run 63 = .ok (.invokevirtual 54, 3) := by decide +kernel
theorem dX3_run_66 : decode cX3_run 66 = .ok (.istore 6, 2) := by decide +kernel
theorem dX3_run_68 : decode cX3_run 68 = .ok (.iload 6, 2) := by decide +kernel
theorem dX3_run_70 : decode cX3_run 70 = .ok (.bipush (-9), 2) := by decide +kernel
theorem dX3_run_72 : decode cX3_run 72 = .ok (.if_icmp .ne 10, 3) := by decide +kernel
theorem dX3_run_75 : decode cX3_run 75 = .ok (.aload_n 2, 1) := by decide +kernel
theorem dX3_run_76 : decode cX3_run 76 = .ok (.invokevirtual 57, 3) := by decide +kernel
theorem dX3_run_79 : decode cX3_run 79 = .ok (.goto 5, 3) := by decide +kernel
theorem dX3_run_82 : decode cX3_run 82 = .ok (.iload 6, 2) := by decide +kernel
theorem dX3_run_84 : decode cX3_run 84 = .ok (.istore 7, 2) := by decide +kernel
theorem dX3_run_86 : decode cX3_run 86 = .ok (.iload 6, 2) := by decide +kernel
theorem dX3_run_88 : decode cX3_run 88 = .ok (.bipush (-9), 2) := by decide +kernel
theorem dX3_run_90 : decode cX3_run 90 = .ok (.if_icmp .ne 7, 3) := by decide +kernel
theorem dX3_run_93 : decode cX3_run 93 = .ok (.iconst 2, 1) := by decide +kernel
theorem dX3_run_94 : decode cX3_run 94 = .ok (.goto 4, 3) := by decide +kernel
theorem dX3_run_97 : decode cX3_run 97 = .ok (.iconst 1, 1) := by decide +kernel
theorem dX3_run_98 : decode cX3_run 98 = .ok (.istore 8, 2) := by decide +kernel
theorem dX3_run_100 : decode cX3_run 100 = .ok (.iload 7, 2) := by decide +kernel
theorem dX3_run_102 : decode cX3_run 102 = .ok (.bipush (-9), 2) := by decide +kernel
theorem dX3_run_104 : decode cX3_run 104 = .ok (.if_icmp .eq 14, 3) := by decide +kernel
theorem dX3_run_107 : decode cX3_run 107 = .ok (.aload_n 2, 1) := by decide +kernel
theorem dX3_run_108 : decode cX3_run 108 = .ok (.iload 8, 2) := by decide +kernel
theorem dX3_run_110 : decode cX3_run 110 = .ok (.iload 7, 2) := by decide +kernel
theorem dX3_run_112 : decode cX3_run 112 = .ok (.invokevirtual 60, 3) := by decide +kernel
theorem dX3_run_115 : decode cX3_run 115 = .ok (.ifCond .ne 4, 3) := by decide +kernel
theorem dX3_run_118 : decode cX3_run 118 = .ok (.return_, 1) := by decide +kernel
theorem dX3_run_119 : decode cX3_run 119 = .ok (.aload_n 0, 1) := by decide +kernel
theorem dX3_run_120 : decode cX3_run 120 = .ok (.iload 5, 2) := by decide +kernel
theorem dX3_run_122 : decode cX3_run 122 = .ok (.invokevirtual 64, 3) := by decide +kernel
theorem dX3_run_125 : decode cX3_run 125 = .ok (.iload 6, 2) := by decide +kernel
theorem dX3_run_127 : decode cX3_run 127 = .ok (.bipush (-9), 2) := by decide +kernel
theorem dX3_run_129 : decode cX3_run 129 = .ok (.if_icmp .ne 14, 3) := by decide +kernel
theorem dX3_run_132 : decode cX3_run 132 = .ok (.aload_n 0, 1) := by decide +kernel
theorem dX3_run_133 : decode cX3_run 133 = .ok (.aload_n 1, 1) := by decide +kernel
theorem dX3_run_134 : decode cX3_run 134 = .ok (.aload_n 2, 1) := by decide +kernel
theorem dX3_run_135 : decode cX3_run 135 = .ok (.iload 7, 2) := by decide +kernel
theorem dX3_run_137 : decode cX3_run 137 = .ok (.invokevirtual 68, 3) := by decide +kernel
theorem dX3_run_140 : decode cX3_run 140 = .ok (.goto 11, 3) := by decide +kernel
theorem dX3_run_143 : decode cX3_run 143 = .ok (.aload_n 0, 1) := by decide +kernel
theorem dX3_run_144 : decode cX3_run 144 = .ok (.aload_n 1, 1) := by decide +kernel
theorem dX3_run_145 : decode cX3_run 145 = .ok (.aload_n 2, 1) := by decide +kernel
theorem dX3_run_146 : decode cX3_run 146 = .ok (.iload 7, 2) := by decide +kernel
theorem dX3_run_148 : decode cX3_run 148 = .ok (.invokevirtual 72, 3) := by decide +kernel
theorem dX3_run_151 : decode cX3_run 151 = .ok (.iinc 5 1, 3) := by decide +kernel
theorem dX3_run_154 : decode cX3_run 154 = .ok (.goto (-106), 3) := by decide +kernel
theorem dX3_run_157 : decode cX3_run 157 = .ok (.return_, 1) := by decide +kernel
set_option maxRecDepth 20000 in
theorem ggX3_copyRow_X4_place : GoodIn wsX3_copyRow wsX4_place := goodIn_r _ [11] (by decide +kernel) (by decide +kernel)
set_option maxRecDepth 20000 in
theorem gX3_copyRow_X4_place_n75 : GoodIn wsX3_copyRow (wsX4_place) := ggX3_copyRow_X4_place
theorem dX3_copyRow_0 : decode cX3_copyRow 0 = .ok (.aload_n 0, 1) := by decide +kernel
theorem dX3_copyRow_1 : decode cX3_copyRow 1 = .ok (.getfield 28, 3) := by decide +kernel
theorem dX3_copyRow_4 : decode cX3_copyRow 4 = .ok (.istore_n 2, 1) := by decide +kernel
theorem dX3_copyRow_5 : decode cX3_copyRow 5 = .ok (.aload_n 0, 1) := by decide +kernel
theorem dX3_copyRow_6 : decode cX3_copyRow 6 = .ok (.iload_n 1, 1) := by decide +kernel
theorem dX3_copyRow_7 : decode cX3_copyRow 7 = .ok (.iconst 0, 1) := by decide +kernel
theorem dX3_copyRow_8 : decode cX3_copyRow 8 = .ok (.invokestatic 75, 3) := by decide +kernel
theorem dX3_copyRow_11 : decode cX3_copyRow 11 = .ok (.putfield 28, 3) := by decide +kernel
theorem dX3_copyRow_14 : decode cX3_copyRow 14 = .ok (.aload_n 0, 1) := by decide +kernel
theorem dX3_copyRow_15 : decode cX3_copyRow 15 = .ok (.getfield 9, 3) := by decide +kernel
theorem dX3_copyRow_18 : decode cX3_copyRow 18 = .ok (.iload_n 2, 1) := by decide +kernel
theorem dX3_copyRow_19 : decode cX3_copyRow 19 = .ok (.aload_n 0, 1) := by decide +kernel
theorem dX3_copyRow_20 : decode cX3_copyRow 20 = .ok (.getfield 9, 3) := by decide +kernel
theorem dX3_copyRow_23 : decode cX3_copyRow 23 = .ok (.aload_n 0, 1) := by decide +kernel
theorem dX3_copyRow_24 : decode cX3_copyRow 24 = .ok (.getfield 28, 3) := by decide +kernel
theorem dX3_copyRow_27 : decode cX3_copyRow 27 = .ok (.aload_n 0, 1) := by decide +kernel
theorem dX3_copyRow_28 : decode cX3_copyRow 28 = .ok (.getfield 21, 3) := by decide +kernel
theorem dX3_copyRow_31 : decode cX3_copyRow 31 = .ok (.invokestatic 79, 3) := by decide +kernel
theorem dX3_copyRow_34 : decode cX3_copyRow 34 = .ok (.aload_n 0, 1) := by decide +kernel
theorem dX3_copyRow_35 : decode cX3_copyRow 35 = .ok (.getfield 15, 3) := by decide +kernel
theorem dX3_copyRow_38 : decode cX3_copyRow 38 = .ok (.iload_n 2, 1) := by decide +kernel
theorem dX3_copyRow_39 : decode cX3_copyRow 39 = .ok (.aload_n 0, 1) := by decide +kernel
theorem dX3_copyRow_40 : decode cX3_copyRow 40 = .ok (.getfield 15, 3) := by decide +kernel
theorem dX3_copyRow_43 : decode cX3_copyRow 43 = .ok (.aload_n 0, 1) := by decide +kernel
theorem dX3_copyRow_44 : decode cX3_copyRow 44 = .ok (.getfield 28, 3) := by decide +kernel
theorem dX3_copyRow_47 : decode cX3_copyRow 47 = .ok (.aload_n 0, 1) := by decide +kernel
theorem dX3_copyRow_48 : decode cX3_copyRow 48 = .ok (.getfield 21, 3) := by decide +kernel
theorem dX3_copyRow_51 : decode cX3_copyRow 51 = .ok (.invokestatic 79, 3) := by decide +kernel
theorem dX3_copyRow_54 : decode cX3_copyRow 54 = .ok (.return_, 1) := by decide +kernel
set_option maxRecDepth 20000 in
theorem ggX3_dealFirst_X0_isValid : GoodIn wsX3_dealFirst wsX0_isValid := goodIn_r _ [9, 10, 11, 12, 47, 48, 49, 50, 51, 52, 53, 54] (by decide +kernel) (by decide +kernel)
set_option maxRecDepth 20000 in
theorem gX3_dealFirst_X0_isValid : GoodIn wsX3_dealFirst (wsV RX3 85 RX0 yX0_isValid wsX0_isValid) := goodIn_app (goodIn_of _ (by decide +kernel)) ggX3_dealFirst_X0_isValid
set_option maxRecDepth 20000 in
theorem ggX3_dealFirst_X3_send : GoodIn wsX3_dealFirst wsX3_send := goodIn_r _ [17, 18, 2, 19, 3, 20, 21, 22, 23, 24, 25, 26, 16, 27, 28, 29, 30, 31, 32, 33, 34, 35, 36, 37, 38, 39, 40, 41, 47, 48, 49, 50, 51, 52, 53, 54, 42, 43, 44, 45, 46, 55, 56, 57, 58, 59, 60, 61, 62, 63, 64, 65, 66, 67, 68, 69, 70, 71, 72] (by decide +kernel) (by decide +kernel)
set_option maxRecDepth 20000 in
theorem gX3_dealFirst_X3_send : GoodIn wsX3_dealFirst (wsV RX3 89 RX3 yX3_send wsX3_send) := goodIn_app (goodIn_of _ (by decide +kernel)) ggX3_dealFirst_X3_send
theorem dX3_dealFirst_0 : decode cX3_dealFirst 0 = .ok (.iconst 0, 1) := by decide +kernel
theorem dX3_dealFirst_1 : decode cX3_dealFirst 1 = .ok (.istore_n 3, 1) := by decide +kernel
theorem dX3_dealFirst_2 : decode cX3_dealFirst 2 = .ok (.iload_n 3, 1) := by decide +kernel
theorem dX3_dealFirst_3 : decode cX3_dealFirst 3 = .ok (.aload_n 0, 1) := by decide +kernel
theorem dX3_dealFirst_4 : decode cX3_dealFirst 4 = .ok (.getfield 21, 3) := by decide +kernel
theorem dX3_dealFirst_7 : decode cX3_dealFirst 7 = .ok (.if_icmp .ge 43, 3) := by decide +kernel
theorem dX3_dealFirst_10 : decode cX3_dealFirst 10 = .ok (.aload_n 0, 1) := by decide +kernel
theorem dX3_dealFirst_11 : decode cX3_dealFirst 11 = .ok (.getfield 9, 3) := by decide +kernel
theorem dX3_dealFirst_14 : decode cX3_dealFirst 14 = .ok (.iload_n 3, 1) := by decide +kernel
theorem dX3_dealFirst_15 : decode cX3_dealFirst 15 = .ok (.bipush (-9), 2) := by decide +kernel
theorem dX3_dealFirst_17 : decode cX3_dealFirst 17 = .ok (.iastore, 1) := by decide +kernel
theorem dX3_dealFirst_18 : decode cX3_dealFirst 18 = .ok (.aload_n 0, 1) := by decide +kernel
theorem dX3_dealFirst_19 : decode cX3_dealFirst 19 = .ok (.getfield 15, 3) := by decide +kernel
theorem dX3_dealFirst_22 : decode cX3_dealFirst 22 = .ok (.iload_n 3, 1) := by decide +kernel
theorem dX3_dealFirst_23 : decode cX3_dealFirst 23 = .ok (.iconst 0, 1) := by decide +kernel
theorem dX3_dealFirst_24 : decode cX3_dealFirst 24 = .ok (.iastore, 1) := by decide +kernel
theorem dX3_dealFirst_25 : decode cX3_dealFirst 25 = .ok (.aload_n 1, 1) := by decide +kernel
theorem dX3_dealFirst_26 : decode cX3_dealFirst 26 = .ok (.iload_n 3, 1) := by decide +kernel
theorem dX3_dealFirst_27 : decode cX3_dealFirst 27 = .ok (.invokevirtual 85, 3) := by decide +kernel
theorem dX3_dealFirst_30 : decode cX3_dealFirst 30 = .ok (.ifCond .eq 14, 3) := by decide +kernel
theorem dX3_dealFirst_33 : decode cX3_dealFirst 33 = .ok (.aload_n 0, 1) := by decide +kernel
theorem dX3_dealFirst_34 : decode cX3_dealFirst 34 = .ok (.aload_n 1, 1) := by decide +kernel
theorem dX3_dealFirst_35 : decode cX3_dealFirst 35 = .ok (.aload_n 2, 1) := by decide +kernel
theorem dX3_dealFirst_36 : decode cX3_dealFirst 36 = .ok (.iload_n 3, 1) := by decide +kernel
theorem dX3_dealFirst_37 : decode cX3_dealFirst 37 = .ok (.ldc2_w 44, 3) := by decide +kernel
theorem dX3_dealFirst_40 : decode cX3_dealFirst 40 = .ok (.invokevirtual 89, 3) := by decide +kernel
theorem dX3_dealFirst_43 : decode cX3_dealFirst 43 = .ok (.pop2, 1) := by decide +kernel
theorem dX3_dealFirst_44 : decode cX3_dealFirst 44 = .ok (.iinc 3 1, 3) := by decide +kernel
theorem dX3_dealFirst_47 : decode cX3_dealFirst 47 = .ok (.goto (-45), 3) := by decide +kernel
theorem dX3_dealFirst_50 : decode cX3_dealFirst 50 = .ok (.return_, 1) := by decide +kernel
set_option maxRecDepth 20000 in
theorem ggX3_putOut_X3_send : GoodIn wsX3_putOut wsX3_send := goodIn_r _ [12, 13, 4, 5, 6, 14, 7, 2, 15, 16, 17, 18, 11, 19, 20, 21, 22, 23, 24, 25, 26, 27, 28, 29, 30, 31, 32, 33, 57, 58, 59, 60, 61, 62, 63, 64, 52, 53, 54, 55, 56, 34, 35, 36, 37, 38, 39, 40, 41, 42, 43, 44, 45, 46, 47, 48, 49, 50, 51] (by decide +kernel) (by decide +kernel)
set_option maxRecDepth 20000 in
theorem gX3_putOut_X3_send : GoodIn wsX3_putOut (wsV RX3 89 RX3 yX3_send wsX3_send) := goodIn_app (goodIn_of _ (by decide +kernel)) ggX3_putOut_X3_send
theorem dX3_putOut_0 : decode cX3_putOut 0 = .ok (.aload_n 2, 1) := by decide +kernel
theorem dX3_putOut_1 : decode cX3_putOut 1 = .ok (.getfield 93, 3) := by decide +kernel
theorem dX3_putOut_4 : decode cX3_putOut 4 = .ok (.aload_n 2, 1) := by decide +kernel
theorem dX3_putOut_5 : decode cX3_putOut 5 = .ok (.getfield 96, 3) := by decide +kernel
theorem dX3_putOut_8 : decode cX3_putOut 8 = .ok (.iload_n 3, 1) := by decide +kernel
theorem dX3_putOut_9 : decode cX3_putOut 9 = .ok (.iadd, 1) := by decide +kernel
theorem dX3_putOut_10 : decode cX3_putOut 10 = .ok (.iconst 2, 1) := by decide +kernel
theorem dX3_putOut_11 : decode cX3_putOut 11 = .ok (.iastore, 1) := by decide +kernel
theorem dX3_putOut_12 : decode cX3_putOut 12 = .ok (.iconst 0, 1) := by decide +kernel
theorem dX3_putOut_13 : decode cX3_putOut 13 = .ok (.istore 4, 2) := by decide +kernel
theorem dX3_putOut_15 : decode cX3_putOut 15 = .ok (.iload 4, 2) := by decide +kernel
theorem dX3_putOut_17 : decode cX3_putOut 17 = .ok (.aload_n 0, 1) := by decide +kernel
theorem dX3_putOut_18 : decode cX3_putOut 18 = .ok (.getfield 21, 3) := by decide +kernel
theorem dX3_putOut_21 : decode cX3_putOut 21 = .ok (.if_icmp .ge 47, 3) := by decide +kernel
theorem dX3_putOut_24 : decode cX3_putOut 24 = .ok (.aload_n 0, 1) := by decide +kernel
theorem dX3_putOut_25 : decode cX3_putOut 25 = .ok (.getfield 9, 3) := by decide +kernel
theorem dX3_putOut_28 : decode cX3_putOut 28 = .ok (.aload_n 0, 1) := by decide +kernel
theorem dX3_putOut_29 : decode cX3_putOut 29 = .ok (.getfield 28, 3) := by decide +kernel
theorem dX3_putOut_32 : decode cX3_putOut 32 = .ok (.iload 4, 2) := by decide +kernel
theorem dX3_putOut_34 : decode cX3_putOut 34 = .ok (.iadd, 1) := by decide +kernel
theorem dX3_putOut_35 : decode cX3_putOut 35 = .ok (.iaload, 1) := by decide +kernel
theorem dX3_putOut_36 : decode cX3_putOut 36 = .ok (.iload_n 3, 1) := by decide +kernel
theorem dX3_putOut_37 : decode cX3_putOut 37 = .ok (.if_icmp .ne 25, 3) := by decide +kernel
theorem dX3_putOut_40 : decode cX3_putOut 40 = .ok (.aload_n 0, 1) := by decide +kernel
theorem dX3_putOut_41 : decode cX3_putOut 41 = .ok (.aload_n 1, 1) := by decide +kernel
theorem dX3_putOut_42 : decode cX3_putOut 42 = .ok (.aload_n 2, 1) := by decide +kernel
theorem dX3_putOut_43 : decode cX3_putOut 43 = .ok (.iload 4, 2) := by decide +kernel
theorem dX3_putOut_45 : decode cX3_putOut 45 = .ok (.aload_n 0, 1) := by decide +kernel
theorem dX3_putOut_46 : decode cX3_putOut 46 = .ok (.getfield 15, 3) := by decide +kernel
theorem dX3_putOut_49 : decode cX3_putOut 49 = .ok (.aload_n 0, 1) := by decide +kernel
theorem dX3_putOut_50 : decode cX3_putOut 50 = .ok (.getfield 28, 3) := by decide +kernel
theorem dX3_putOut_53 : decode cX3_putOut 53 = .ok (.iload 4, 2) := by decide +kernel
theorem dX3_putOut_55 : decode cX3_putOut 55 = .ok (.iadd, 1) := by decide +kernel
theorem dX3_putOut_56 : decode cX3_putOut 56 = .ok (.iaload, 1) := by decide +kernel
theorem dX3_putOut_57 : decode cX3_putOut 57 = .ok (.i2l, 1) := by decide +kernel
theorem dX3_putOut_58 : decode cX3_putOut 58 = .ok (.invokevirtual 89, 3) := by decide +kernel
theorem dX3_putOut_61 : decode cX3_putOut 61 = .ok (.pop2, 1) := by decide +kernel
theorem dX3_putOut_62 : decode cX3_putOut 62 = .ok (.iinc 4 1, 3) := by decide +kernel
theorem dX3_putOut_65 : decode cX3_putOut 65 = .ok (.goto (-50), 3) := by decide +kernel
theorem dX3_putOut_68 : decode cX3_putOut 68 = .ok (.aload_n 2, 1) := by decide +kernel
theorem dX3_putOut_69 : decode cX3_putOut 69 = .ok (.getfield 97, 3) := by decide +kernel
theorem dX3_putOut_72 : decode cX3_putOut 72 = .ok (.aload_n 2, 1) := by decide +kernel
theorem dX3_putOut_73 : decode cX3_putOut 73 = .ok (.getfield 96, 3) := by decide +kernel
