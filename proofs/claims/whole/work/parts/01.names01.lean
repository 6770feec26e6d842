set_option maxRecDepth 20000 in
theorem ggX0_init_X0_open : GoodIn wsX0_init wsX0_open := goodIn_r _ [16, 17, 18, 5, 7, 19, 20, 21, 22, 23, 24, 25, 26] (by decide +kernel) (by decide +kernel)
set_option maxRecDepth 20000 in
theorem gX0_init_X0_open : GoodIn wsX0_init (wsV RX0 31 RX0 yX0_open wsX0_open) := goodIn_app (goodIn_of _ (by decide +kernel)) ggX0_init_X0_open
theorem dX0_init_0 : decode cX0_init 0 = .ok (.aload_n 0, 1) := by decide +kernel
theorem dX0_init_1 : decode cX0_init 1 = .ok (.invokespecial 3, 3) := by decide +kernel
theorem dX0_init_4 : decode cX0_init 4 = .ok (.aload_n 0, 1) := by decide +kernel
theorem dX0_init_5 : decode cX0_init 5 = .ok (.bipush 12, 2) := by decide +kernel
theorem dX0_init_7 : decode cX0_init 7 = .ok (.newarray .boolean, 2) := by decide +kernel
theorem dX0_init_9 : decode cX0_init 9 = .ok (.putfield 9, 3) := by decide +kernel
theorem dX0_init_12 : decode cX0_init 12 = .ok (.aload_n 0, 1) := by decide +kernel
theorem dX0_init_13 : decode cX0_init 13 = .ok (.bipush 12, 2) := by decide +kernel
theorem dX0_init_15 : decode cX0_init 15 = .ok (.newarray .int, 2) := by decide +kernel
theorem dX0_init_17 : decode cX0_init 17 = .ok (.putfield 15, 3) := by decide +kernel
theorem dX0_init_20 : decode cX0_init 20 = .ok (.aload_n 0, 1) := by decide +kernel
theorem dX0_init_21 : decode cX0_init 21 = .ok (.bipush 80, 2) := by decide +kernel
theorem dX0_init_23 : decode cX0_init 23 = .ok (.newarray .int, 2) := by decide +kernel
theorem dX0_init_25 : decode cX0_init 25 = .ok (.putfield 19, 3) := by decide +kernel
theorem dX0_init_28 : decode cX0_init 28 = .ok (.aload_n 0, 1) := by decide +kernel
theorem dX0_init_29 : decode cX0_init 29 = .ok (.bipush 80, 2) := by decide +kernel
theorem dX0_init_31 : decode cX0_init 31 = .ok (.newarray .int, 2) := by decide +kernel
theorem dX0_init_33 : decode cX0_init 33 = .ok (.putfield 22, 3) := by decide +kernel
theorem dX0_init_36 : decode cX0_init 36 = .ok (.aload_n 0, 1) := by decide +kernel
theorem dX0_init_37 : decode cX0_init 37 = .ok (.sipush 960, 3) := by decide +kernel
theorem dX0_init_40 : decode cX0_init 40 = .ok (.newarray .int, 2) := by decide +kernel
theorem dX0_init_42 : decode cX0_init 42 = .ok (.putfield 25, 3) := by decide +kernel
theorem dX0_init_45 : decode cX0_init 45 = .ok (.aload_n 0, 1) := by decide +kernel
theorem dX0_init_46 : decode cX0_init 46 = .ok (.sipush 960, 3) := by decide +kernel
theorem dX0_init_49 : decode cX0_init 49 = .ok (.newarray .int, 2) := by decide +kernel
theorem dX0_init_51 : decode cX0_init 51 = .ok (.putfield 28, 3) := by decide +kernel
theorem dX0_init_54 : decode cX0_init 54 = .ok (.aload_n 0, 1) := by decide +kernel
theorem dX0_init_55 : decode cX0_init 55 = .ok (.iconst 3, 1) := by decide +kernel
theorem dX0_init_56 : decode cX0_init 56 = .ok (.invokevirtual 31, 3) := by decide +kernel
theorem dX0_init_59 : decode cX0_init 59 = .ok (.return_, 1) := by decide +kernel
theorem dX0_open_0 : decode cX0_open 0 = .ok (.aload_n 0, 1) := by decide +kernel
theorem dX0_open_1 : decode cX0_open 1 = .ok (.iload_n 1, 1) := by decide +kernel
theorem dX0_open_2 : decode cX0_open 2 = .ok (.putfield 35, 3) := by decide +kernel
theorem dX0_open_5 : decode cX0_open 5 = .ok (.aload_n 0, 1) := by decide +kernel
theorem dX0_open_6 : decode cX0_open 6 = .ok (.iconst 0, 1) := by decide +kernel
theorem dX0_open_7 : decode cX0_open 7 = .ok (.putfield 39, 3) := by decide +kernel
theorem dX0_open_10 : decode cX0_open 10 = .ok (.iconst 0, 1) := by decide +kernel
theorem dX0_open_11 : decode cX0_open 11 = .ok (.istore_n 2, 1) := by decide +kernel
theorem dX0_open_12 : decode cX0_open 12 = .ok (.iload_n 2, 1) := by decide +kernel
theorem dX0_open_13 : decode cX0_open 13 = .ok (.bipush 12, 2) := by decide +kernel
theorem dX0_open_15 : decode cX0_open 15 = .ok (.if_icmp .ge 23, 3) := by decide +kernel
theorem dX0_open_18 : decode cX0_open 18 = .ok (.aload_n 0, 1) := by decide +kernel
theorem dX0_open_19 : decode cX0_open 19 = .ok (.getfield 9, 3) := by decide +kernel
theorem dX0_open_22 : decode cX0_open 22 = .ok (.iload_n 2, 1) := by decide +kernel
theorem dX0_open_23 : decode cX0_open 23 = .ok (.iconst 0, 1) := by decide +kernel
theorem dX0_open_24 : decode cX0_open 24 = .ok (.bastore, 1) := by decide +kernel
theorem dX0_open_25 : decode cX0_open 25 = .ok (.aload_n 0, 1) := by decide +kernel
theorem dX0_open_26 : decode cX0_open 26 = .ok (.getfield 15, 3) := by decide +kernel
theorem dX0_open_29 : decode cX0_open 29 = .ok (.iload_n 2, 1) := by decide +kernel
theorem dX0_open_30 : decode cX0_open 30 = .ok (.iload_n 2, 1) := by decide +kernel
theorem dX0_open_31 : decode cX0_open 31 = .ok (.iastore, 1) := by decide +kernel
theorem dX0_open_32 : decode cX0_open 32 = .ok (.iinc 2 1, 3) := by decide +kernel
theorem dX0_open_35 : decode cX0_open 35 = .ok (.goto (-23), 3) := by decide +kernel
theorem dX0_open_38 : decode cX0_open 38 = .ok (.return_, 1) := by decide +kernel
theorem dX0_hasCandidate_0 : decode cX0_hasCandidate 0 = .ok (.iload_n 1, 1) := by decide +kernel
theorem dX0_hasCandidate_1 : decode cX0_hasCandidate 1 = .ok (.ifCond .lt 15, 3) := by decide +kernel
theorem dX0_hasCandidate_4 : decode cX0_hasCandidate 4 = .ok (.iload_n 1, 1) := by decide +kernel
theorem dX0_hasCandidate_5 : decode cX0_hasCandidate 5 = .ok (.aload_n 0, 1) := by decide +kernel
theorem dX0_hasCandidate_6 : decode cX0_hasCandidate 6 = .ok (.getfield 35, 3) := by decide +kernel
theorem dX0_hasCandidate_9 : decode cX0_hasCandidate 9 = .ok (.if_icmp .ge 7, 3) := by decide +kernel
theorem dX0_hasCandidate_12 : decode cX0_hasCandidate 12 = .ok (.iconst 1, 1) := by decide +kernel
theorem dX0_hasCandidate_13 : decode cX0_hasCandidate 13 = .ok (.goto 4, 3) := by decide +kernel
theorem dX0_hasCandidate_16 : decode cX0_hasCandidate 16 = .ok (.iconst 0, 1) := by decide +kernel
theorem dX0_hasCandidate_17 : decode cX0_hasCandidate 17 = .ok (.ireturn, 1) := by decide +kernel
theorem dX0_hasPile_0 : decode cX0_hasPile 0 = .ok (.iload_n 1, 1) := by decide +kernel
theorem dX0_hasPile_1 : decode cX0_hasPile 1 = .ok (.ifCond .lt 15, 3) := by decide +kernel
theorem dX0_hasPile_4 : decode cX0_hasPile 4 = .ok (.iload_n 1, 1) := by decide +kernel
theorem dX0_hasPile_5 : decode cX0_hasPile 5 = .ok (.aload_n 0, 1) := by decide +kernel
theorem dX0_hasPile_6 : decode cX0_hasPile 6 = .ok (.getfield 39, 3) := by decide +kernel
theorem dX0_hasPile_9 : decode cX0_hasPile 9 = .ok (.if_icmp .ge 7, 3) := by decide +kernel
theorem dX0_hasPile_12 : decode cX0_hasPile 12 = .ok (.iconst 1, 1) := by decide +kernel
theorem dX0_hasPile_13 : decode cX0_hasPile 13 = .ok (.goto 4, 3) := by decide +kernel
theorem dX0_hasPile_16 : decode cX0_hasPile 16 = .ok (.iconst 0, 1) := by decide +kernel
theorem dX0_hasPile_17 : decode cX0_hasPile 17 = .ok (.ireturn, 1) := by decide +kernel
theorem dX0_withdrawnOnes_0 : decode cX0_withdrawnOnes 0 = .ok (.iconst 0, 1) := by decide +kernel
theorem dX0_withdrawnOnes_1 : decode cX0_withdrawnOnes 1 = .ok (.istore_n 1, 1) := by decide +kernel
theorem dX0_withdrawnOnes_2 : decode cX0_withdrawnOnes 2 = .ok (.iconst 0, 1) := by decide +kernel
theorem dX0_withdrawnOnes_3 : decode cX0_withdrawnOnes 3 = .ok (.istore_n 2, 1) := by decide +kernel
theorem dX0_withdrawnOnes_4 : decode cX0_withdrawnOnes 4 = .ok (.iload_n 2, 1) := by decide +kernel
theorem dX0_withdrawnOnes_5 : decode cX0_withdrawnOnes 5 = .ok (.aload_n 0, 1) := by decide +kernel
theorem dX0_withdrawnOnes_6 : decode cX0_withdrawnOnes 6 = .ok (.getfield 35, 3) := by decide +kernel
theorem dX0_withdrawnOnes_9 : decode cX0_withdrawnOnes 9 = .ok (.if_icmp .ge 21, 3) := by decide +kernel
theorem dX0_withdrawnOnes_12 : decode cX0_withdrawnOnes 12 = .ok (.aload_n 0, 1) := by decide +kernel
theorem dX0_withdrawnOnes_13 : decode cX0_withdrawnOnes 13 = .ok (.getfield 9, 3) := by decide +kernel
theorem dX0_withdrawnOnes_16 : decode cX0_withdrawnOnes 16 = .ok (.iload_n 2, 1) := by decide +kernel
theorem dX0_withdrawnOnes_17 : decode cX0_withdrawnOnes 17 = .ok (.baload, 1) := by decide +kernel
theorem dX0_withdrawnOnes_18 : decode cX0_withdrawnOnes 18 = .ok (.ifCond .eq 6, 3) := by decide +kernel
theorem dX0_withdrawnOnes_21 : decode cX0_withdrawnOnes 21 = .ok (.iinc 1 1, 3) := by decide +kernel
theorem dX0_withdrawnOnes_24 : decode cX0_withdrawnOnes 24 = .ok (.iinc 2 1, 3) := by decide +kernel
theorem dX0_withdrawnOnes_27 : decode cX0_withdrawnOnes 27 = .ok (.goto (-23), 3) := by decide +kernel
theorem dX0_withdrawnOnes_30 : decode cX0_withdrawnOnes 30 = .ok (.iload_n 1, 1) := by decide +kernel
theorem dX0_withdrawnOnes_31 : decode cX0_withdrawnOnes 31 = .ok (.ireturn, 1) := by decide +kernel
theorem dX0_swapLots_0 : decode cX0_swapLots 0 = .ok (.aload_n 0, 1) := by decide +kernel
theorem dX0_swapLots_1 : decode cX0_swapLots 1 = .ok (.getfield 15, 3) := by decide +kernel
theorem dX0_swapLots_4 : decode cX0_swapLots 4 = .ok (.iload_n 1, 1) := by decide +kernel
theorem dX0_swapLots_5 : decode cX0_swapLots 5 = .ok (.iaload, 1) := by decide +kernel
theorem dX0_swapLots_6 : decode cX0_swapLots 6 = .ok (.istore_n 3, 1) := by decide +kernel
theorem dX0_swapLots_7 : decode cX0_swapLots 7 = .ok (.iconst 0, 1) := by decide +kernel
theorem dX0_swapLots_8 : decode cX0_swapLots 8 = .ok (.istore 4, 2) := by decide +kernel
theorem dX0_swapLots_10 : decode cX0_swapLots 10 = .ok (.iload 4, 2) := by decide +kernel
theorem dX0_swapLots_12 : decode cX0_swapLots 12 = .ok (.aload_n 0, 1) := by decide +kernel
theorem dX0_swapLots_13 : decode cX0_swapLots 13 = .ok (.getfield 35, 3) := by decide +kernel
theorem dX0_swapLots_16 : decode cX0_swapLots 16 = .ok (.if_icmp .ge 28, 3) := by decide +kernel
theorem dX0_swapLots_19 : decode cX0_swapLots 19 = .ok (.aload_n 0, 1) := by decide +kernel
theorem dX0_swapLots_20 : decode cX0_swapLots 20 = .ok (.getfield 15, 3) := by decide +kernel
theorem dX0_swapLots_23 : decode cX0_swapLots 23 = .ok (.iload 4, 2) := by decide +kernel
theorem dX0_swapLots_25 : decode cX0_swapLots 25 = .ok (.iaload, 1) := by decide +kernel
theorem dX0_swapLots_26 : decode cX0_swapLots 26 = .ok (.iload_n 2, 1) := by decide +kernel
theorem dX0_swapLots_27 : decode cX0_swapLots 27 = .ok (.if_icmp .ne 11, 3) := by decide +kernel
theorem dX0_swapLots_30 : decode cX0_swapLots 30 = .ok (.aload_n 0, 1) := by decide +kernel
theorem dX0_swapLots_31 : decode cX0_swapLots 31 = .ok (.getfield 15, 3) := by decide +kernel
theorem dX0_swapLots_34 : decode cX0_swapLots 34 = .ok (.iload 4, 2) := by decide +kernel
theorem dX0_swapLots_36 : decode cX0_swapLots 36 = .ok (.iload_n 3, 1) := by decide +kernel
theorem dX0_swapLots_37 : decode cX0_swapLots 37 = .ok (.iastore, 1) := by decide +kernel
theorem dX0_swapLots_38 : decode cX0_swapLots 38 = .ok (.iinc 4 1, 3) := by decide +kernel
theorem dX0_swapLots_41 : decode cX0_swapLots 41 = .ok (.goto (-31), 3) := by decide +kernel
theorem dX0_swapLots_44 : decode cX0_swapLots 44 = .ok (.aload_n 0, 1) := by decide +kernel
theorem dX0_swapLots_45 : decode cX0_swapLots 45 = .ok (.getfield 15, 3) := by decide +kernel
theorem dX0_swapLots_48 : decode cX0_swapLots 48 = .ok (.iload_n 1, 1) := by decide +kernel
theorem dX0_swapLots_49 : decode cX0_swapLots 49 = .ok (.iload_n 2, 1) := by decide +kernel
theorem dX0_swapLots_50 : decode cX0_swapLots 50 = .ok (.iastore, 1) := by decide +kernel
theorem dX0_swapLots_51 : decode cX0_swapLots 51 = .ok (.iload_n 3, 1) := by decide +kernel
theorem dX0_swapLots_52 : decode cX0_swapLots 52 = .ok (.ireturn, 1) := by decide +kernel
set_option maxRecDepth 20000 in
theorem ggX0_preferencesTold_X0_digitOf : GoodIn wsX0_preferencesTold wsX0_digitOf := goodIn_r _ [5, 6] (by decide +kernel) (by decide +kernel)
set_option maxRecDepth 20000 in
theorem gX0_preferencesTold_X0_digitOf : GoodIn wsX0_preferencesTold (va_wsS RX0 42 yX0_digitOf wsX0_digitOf) := goodIn_app (goodIn_of _ (by decide +kernel)) ggX0_preferencesTold_X0_digitOf
theorem dX0_preferencesTold_0 : decode cX0_preferencesTold 0 = .ok (.iconst 0, 1) := by decide +kernel
theorem dX0_preferencesTold_1 : decode cX0_preferencesTold 1 = .ok (.istore_n 3, 1) := by decide +kernel
theorem dX0_preferencesTold_2 : decode cX0_preferencesTold 2 = .ok (.iconst 0, 1) := by decide +kernel
theorem dX0_preferencesTold_3 : decode cX0_preferencesTold 3 = .ok (.istore 4, 2) := by decide +kernel
theorem dX0_preferencesTold_5 : decode cX0_preferencesTold 5 = .ok (.iconst 0, 1) := by decide +kernel
theorem dX0_preferencesTold_6 : decode cX0_preferencesTold 6 = .ok (.istore 5, 2) := by decide +kernel
theorem dX0_preferencesTold_8 : decode cX0_preferencesTold 8 = .ok (.iload 5, 2) := by decide +kernel
theorem dX0_preferencesTold_10 : decode cX0_preferencesTold 10 = .ok (.bipush 16, 2) := by decide +kernel
theorem dX0_preferencesTold_12 : decode cX0_preferencesTold 12 = .ok (.if_icmp .ge 76, 3) := by decide +kernel
theorem dX0_preferencesTold_15 : decode cX0_preferencesTold 15 = .ok (.lload_n 1, 1) := by decide +kernel
theorem dX0_preferencesTold_16 : decode cX0_preferencesTold 16 = .ok (.iload 5, 2) := by decide +kernel
theorem dX0_preferencesTold_18 : decode cX0_preferencesTold 18 = .ok (.invokestatic 42, 3) := by decide +kernel
theorem dX0_preferencesTold_21 : decode cX0_preferencesTold 21 = .ok (.istore 6, 2) := by decide +kernel
theorem dX0_preferencesTold_23 : decode cX0_preferencesTold 23 = .ok (.iload 6, 2) := by decide +kernel
theorem dX0_preferencesTold_25 : decode cX0_preferencesTold 25 = .ok (.ifCond .ne 6, 3) := by decide +kernel
theorem dX0_preferencesTold_28 : decode cX0_preferencesTold 28 = .ok (.goto 54, 3) := by decide +kernel
theorem dX0_preferencesTold_31 : decode cX0_preferencesTold 31 = .ok (.iload_n 3, 1) := by decide +kernel
theorem dX0_preferencesTold_32 : decode cX0_preferencesTold 32 = .ok (.iload 5, 2) := by decide +kernel
theorem dX0_preferencesTold_34 : decode cX0_preferencesTold 34 = .ok (.if_icmp .ge 7, 3) := by decide +kernel
theorem dX0_preferencesTold_37 : decode cX0_preferencesTold 37 = .ok (.iconst 1, 1) := by decide +kernel
theorem dX0_preferencesTold_38 : decode cX0_preferencesTold 38 = .ok (.goto 4, 3) := by decide +kernel
theorem dX0_preferencesTold_41 : decode cX0_preferencesTold 41 = .ok (.iconst 0, 1) := by decide +kernel
theorem dX0_preferencesTold_42 : decode cX0_preferencesTold 42 = .ok (.istore 7, 2) := by decide +kernel
theorem dX0_preferencesTold_44 : decode cX0_preferencesTold 44 = .ok (.iload 7, 2) := by decide +kernel
theorem dX0_preferencesTold_46 : decode cX0_preferencesTold 46 = .ok (.ifCond .ne 22, 3) := by decide +kernel
theorem dX0_preferencesTold_49 : decode cX0_preferencesTold 49 = .ok (.iload 6, 2) := by decide +kernel
theorem dX0_preferencesTold_51 : decode cX0_preferencesTold 51 = .ok (.aload_n 0, 1) := by decide +kernel
theorem dX0_preferencesTold_52 : decode cX0_preferencesTold 52 = .ok (.getfield 35, 3) := by decide +kernel
theorem dX0_preferencesTold_55 : decode cX0_preferencesTold 55 = .ok (.if_icmp .gt 13, 3) := by decide +kernel
theorem dX0_preferencesTold_58 : decode cX0_preferencesTold 58 = .ok (.iload 4, 2) := by decide +kernel
theorem dX0_preferencesTold_60 : decode cX0_preferencesTold 60 = .ok (.iconst 1, 1) := by decide +kernel
theorem dX0_preferencesTold_61 : decode cX0_preferencesTold 61 = .ok (.iload 6, 2) := by decide +kernel
theorem dX0_preferencesTold_63 : decode cX0_preferencesTold 63 = .ok (.ishl, 1) := by decide +kernel
theorem dX0_preferencesTold_64 : decode cX0_preferencesTold 64 = .ok (.iand, 1) := by decide +kernel
theorem dX0_preferencesTold_65 : decode cX0_preferencesTold 65 = .ok (.ifCond .eq 5, 3) := by decide +kernel
theorem dX0_preferencesTold_68 : decode cX0_preferencesTold 68 = .ok (.iconst 0, 1) := by decide +kernel
theorem dX0_preferencesTold_69 : decode cX0_preferencesTold 69 = .ok (.ireturn, 1) := by decide +kernel
theorem dX0_preferencesTold_70 : decode cX0_preferencesTold 70 = .ok (.iload 4, 2) := by decide +kernel
theorem dX0_preferencesTold_72 : decode cX0_preferencesTold 72 = .ok (.iconst 1, 1) := by decide +kernel
theorem dX0_preferencesTold_73 : decode cX0_preferencesTold 73 = .ok (.iload 6, 2) := by decide +kernel
theorem dX0_preferencesTold_75 : decode cX0_preferencesTold 75 = .ok (.ishl, 1) := by decide +kernel
theorem dX0_preferencesTold_76 : decode cX0_preferencesTold 76 = .ok (.ior, 1) := by decide +kernel
theorem dX0_preferencesTold_77 : decode cX0_preferencesTold 77 = .ok (.istore 4, 2) := by decide +kernel
theorem dX0_preferencesTold_79 : decode cX0_preferencesTold 79 = .ok (.iinc 3 1, 3) := by decide +kernel
theorem dX0_preferencesTold_82 : decode cX0_preferencesTold 82 = .ok (.iinc 5 1, 3) := by decide +kernel
theorem dX0_preferencesTold_85 : decode cX0_preferencesTold 85 = .ok (.goto (-77), 3) := by decide +kernel
theorem dX0_preferencesTold_88 : decode cX0_preferencesTold 88 = .ok (.iload_n 3, 1) := by decide +kernel
theorem dX0_preferencesTold_89 : decode cX0_preferencesTold 89 = .ok (.ireturn, 1) := by decide +kernel
set_option maxRecDepth 20000 in
theorem ggX0_addPile_X0_digitOf : GoodIn wsX0_addPile wsX0_digitOf := goodIn_r _ [9, 10] (by decide +kernel) (by decide +kernel)
set_option maxRecDepth 20000 in
theorem gX0_addPile_X0_digitOf : GoodIn wsX0_addPile (va_wsS RX0 42 yX0_digitOf wsX0_digitOf) := goodIn_app (goodIn_of _ (by decide +kernel)) ggX0_addPile_X0_digitOf
theorem dX0_addPile_0 : decode cX0_addPile 0 = .ok (.aload_n 0, 1) := by decide +kernel
theorem dX0_addPile_1 : decode cX0_addPile 1 = .ok (.getfield 39, 3) := by decide +kernel
theorem dX0_addPile_4 : decode cX0_addPile 4 = .ok (.istore 5, 2) := by decide +kernel
theorem dX0_addPile_6 : decode cX0_addPile 6 = .ok (.iload 5, 2) := by decide +kernel
theorem dX0_addPile_8 : decode cX0_addPile 8 = .ok (.bipush 12, 2) := by decide +kernel
theorem dX0_addPile_10 : decode cX0_addPile 10 = .ok (.imul, 1) := by decide +kernel
theorem dX0_addPile_11 : decode cX0_addPile 11 = .ok (.istore 6, 2) := by decide +kernel
theorem dX0_addPile_13 : decode cX0_addPile 13 = .ok (.iconst 0, 1) := by decide +kernel
theorem dX0_addPile_14 : decode cX0_addPile 14 = .ok (.istore 7, 2) := by decide +kernel
theorem dX0_addPile_16 : decode cX0_addPile 16 = .ok (.iload 7, 2) := by decide +kernel
theorem dX0_addPile_18 : decode cX0_addPile 18 = .ok (.bipush 12, 2) := by decide +kernel
theorem dX0_addPile_20 : decode cX0_addPile 20 = .ok (.if_icmp .ge 21, 3) := by decide +kernel
theorem dX0_addPile_23 : decode cX0_addPile 23 = .ok (.aload_n 0, 1) := by decide +kernel
theorem dX0_addPile_24 : decode cX0_addPile 24 = .ok (.getfield 28, 3) := by decide +kernel
theorem dX0_addPile_27 : decode cX0_addPile 27 = .ok (.iload 6, 2) := by decide +kernel
theorem dX0_addPile_29 : decode cX0_addPile 29 = .ok (.iload 7, 2) := by decide +kernel
theorem dX0_addPile_31 : decode cX0_addPile 31 = .ok (.iadd, 1) := by decide +kernel
theorem dX0_addPile_32 : decode cX0_addPile 32 = .ok (.bipush 12, 2) := by decide +kernel
theorem dX0_addPile_34 : decode cX0_addPile 34 = .ok (.iastore, 1) := by decide +kernel
theorem dX0_addPile_35 : decode cX0_addPile 35 = .ok (.iinc 7 1, 3) := by decide +kernel
theorem dX0_addPile_38 : decode cX0_addPile 38 = .ok (.goto (-22), 3) := by decide +kernel
theorem dX0_addPile_41 : decode cX0_addPile 41 = .ok (.iconst 0, 1) := by decide +kernel
theorem dX0_addPile_42 : decode cX0_addPile 42 = .ok (.istore 7, 2) := by decide +kernel
theorem dX0_addPile_44 : decode cX0_addPile 44 = .ok (.iload 7, 2) := by decide +kernel
theorem dX0_addPile_46 : decode cX0_addPile 46 = .ok (.iload_n 3, 1) := by decide +kernel
theorem dX0_addPile_47 : decode cX0_addPile 47 = .ok (.if_icmp .ge 43, 3) := by decide +kernel
theorem dX0_addPile_50 : decode cX0_addPile 50 = .ok (.lload_n 1, 1) := by decide +kernel
theorem dX0_addPile_51 : decode cX0_addPile 51 = .ok (.iload 7, 2) := by decide +kernel
theorem dX0_addPile_53 : decode cX0_addPile 53 = .ok (.invokestatic 42, 3) := by decide +kernel
theorem dX0_addPile_56 : decode cX0_addPile 56 = .ok (.iconst 1, 1) := by decide +kernel
theorem dX0_addPile_57 : decode cX0_addPile 57 = .ok (.isub, 1) := by decide +kernel
theorem dX0_addPile_58 : decode cX0_addPile 58 = .ok (.istore 8, 2) := by decide +kernel
theorem dX0_addPile_60 : decode cX0_addPile 60 = .ok (.aload_n 0, 1) := by decide +kernel
theorem dX0_addPile_61 : decode cX0_addPile 61 = .ok (.getfield 25, 3) := by decide +kernel
theorem dX0_addPile_64 : decode cX0_addPile 64 = .ok (.iload 6, 2) := by decide +kernel
theorem dX0_addPile_66 : decode cX0_addPile 66 = .ok (.iload 7, 2) := by decide +kernel
theorem dX0_addPile_68 : decode cX0_addPile 68 = .ok (.iadd, 1) := by decide +kernel
theorem dX0_addPile_69 : decode cX0_addPile 69 = .ok (.iload 8, 2) := by decide +kernel
theorem dX0_addPile_71 : decode cX0_addPile 71 = .ok (.iastore, 1) := by decide +kernel
theorem dX0_addPile_72 : decode cX0_addPile 72 = .ok (.aload_n 0, 1) := by decide +kernel
theorem dX0_addPile_73 : decode cX0_addPile 73 = .ok (.getfield 28, 3) := by decide +kernel
theorem dX0_addPile_76 : decode cX0_addPile 76 = .ok (.iload 6, 2) := by decide +kernel
theorem dX0_addPile_78 : decode cX0_addPile 78 = .ok (.iload 8, 2) := by decide +kernel
theorem dX0_addPile_80 : decode cX0_addPile 80 = .ok (.iadd, 1) := by decide +kernel
theorem dX0_addPile_81 : decode cX0_addPile 81 = .ok (.iload 7, 2) := by decide +kernel
theorem dX0_addPile_83 : decode cX0_addPile 83 = .ok (.iastore, 1) := by decide +kernel
theorem dX0_addPile_84 : decode cX0_addPile 84 = .ok (.iinc 7 1, 3) := by decide +kernel
theorem dX0_addPile_87 : decode cX0_addPile 87 = .ok (.goto (-43), 3) := by decide +kernel
theorem dX0_addPile_90 : decode cX0_addPile 90 = .ok (.aload_n 0, 1) := by decide +kernel
theorem dX0_addPile_91 : decode cX0_addPile 91 = .ok (.getfield 22, 3) := by decide +kernel
theorem dX0_addPile_94 : decode cX0_addPile 94 = .ok (.iload 5, 2) := by decide +kernel
theorem dX0_addPile_96 : decode cX0_addPile 96 = .ok (.iload_n 3, 1) := by decide +kernel
theorem dX0_addPile_97 : decode cX0_addPile 97 = .ok (.iastore, 1) := by decide +kernel
theorem dX0_addPile_98 : decode cX0_addPile 98 = .ok (.aload_n 0, 1) := by decide +kernel
theorem dX0_addPile_99 : decode cX0_addPile 99 = .ok (.getfield 19, 3) := by decide +kernel
theorem dX0_addPile_102 : decode cX0_addPile 102 = .ok (.iload 5, 2) := by decide +kernel
theorem dX0_addPile_104 : decode cX0_addPile 104 = .ok (.iload 4, 2) := by decide +kernel
theorem dX0_addPile_106 : decode cX0_addPile 106 = .ok (.iastore, 1) := by decide +kernel
theorem dX0_addPile_107 : decode cX0_addPile 107 = .ok (.aload_n 0, 1) := by decide +kernel
theorem dX0_addPile_108 : decode cX0_addPile 108 = .ok (.dup, 1) := by decide +kernel
theorem dX0_addPile_109 : decode cX0_addPile 109 = .ok (.getfield 39, 3) := by decide +kernel
theorem dX0_addPile_112 : decode cX0_addPile 112 = .ok (.iconst 1, 1) := by decide +kernel
theorem dX0_addPile_113 : decode cX0_addPile 113 = .ok (.iadd, 1) := by decide +kernel
theorem dX0_addPile_114 : decode cX0_addPile 114 = .ok (.putfield 39, 3) := by decide +kernel
theorem dX0_addPile_117 : decode cX0_addPile 117 = .ok (.iload 5, 2) := by decide +kernel
theorem dX0_addPile_119 : decode cX0_addPile 119 = .ok (.ireturn, 1) := by decide +kernel
theorem dX0_preferenceAt_0 : decode cX0_preferenceAt 0 = .ok (.iload_n 2, 1) := by decide +kernel
theorem dX0_preferenceAt_1 : decode cX0_preferenceAt 1 = .ok (.aload_n 0, 1) := by decide +kernel
theorem dX0_preferenceAt_2 : decode cX0_preferenceAt 2 = .ok (.getfield 22, 3) := by decide +kernel
theorem dX0_preferenceAt_5 : decode cX0_preferenceAt 5 = .ok (.iload_n 1, 1) := by decide +kernel
theorem dX0_preferenceAt_6 : decode cX0_preferenceAt 6 = .ok (.iaload, 1) := by decide +kernel
theorem dX0_preferenceAt_7 : decode cX0_preferenceAt 7 = .ok (.if_icmp .ge 17, 3) := by decide +kernel
theorem dX0_preferenceAt_10 : decode cX0_preferenceAt 10 = .ok (.aload_n 0, 1) := by decide +kernel
theorem dX0_preferenceAt_11 : decode cX0_preferenceAt 11 = .ok (.getfield 25, 3) := by decide +kernel
theorem dX0_preferenceAt_14 : decode cX0_preferenceAt 14 = .ok (.iload_n 1, 1) := by decide +kernel
theorem dX0_preferenceAt_15 : decode cX0_preferenceAt 15 = .ok (.bipush 12, 2) := by decide +kernel
theorem dX0_preferenceAt_17 : decode cX0_preferenceAt 17 = .ok (.imul, 1) := by decide +kernel
theorem dX0_preferenceAt_18 : decode cX0_preferenceAt 18 = .ok (.iload_n 2, 1) := by decide +kernel
theorem dX0_preferenceAt_19 : decode cX0_preferenceAt 19 = .ok (.iadd, 1) := by decide +kernel
theorem dX0_preferenceAt_20 : decode cX0_preferenceAt 20 = .ok (.iaload, 1) := by decide +kernel
theorem dX0_preferenceAt_21 : decode cX0_preferenceAt 21 = .ok (.goto 5, 3) := by decide +kernel
theorem dX0_preferenceAt_24 : decode cX0_preferenceAt 24 = .ok (.bipush (-9), 2) := by decide +kernel
theorem dX0_preferenceAt_26 : decode cX0_preferenceAt 26 = .ok (.ireturn, 1) := by decide +kernel
theorem dX0_isValid_0 : decode cX0_isValid 0 = .ok (.iconst 0, 1) := by decide +kernel
theorem dX0_isValid_1 : decode cX0_isValid 1 = .ok (.istore_n 2, 1) := by decide +kernel
theorem dX0_isValid_2 : decode cX0_isValid 2 = .ok (.iload_n 2, 1) := by decide +kernel
theorem dX0_isValid_3 : decode cX0_isValid 3 = .ok (.aload_n 0, 1) := by decide +kernel
theorem dX0_isValid_4 : decode cX0_isValid 4 = .ok (.getfield 22, 3) := by decide +kernel
theorem dX0_isValid_7 : decode cX0_isValid 7 = .ok (.iload_n 1, 1) := by decide +kernel
theorem dX0_isValid_8 : decode cX0_isValid 8 = .ok (.iaload, 1) := by decide +kernel
theorem dX0_isValid_9 : decode cX0_isValid 9 = .ok (.if_icmp .ge 30, 3) := by decide +kernel
theorem dX0_isValid_12 : decode cX0_isValid 12 = .ok (.aload_n 0, 1) := by decide +kernel
theorem dX0_isValid_13 : decode cX0_isValid 13 = .ok (.getfield 9, 3) := by decide +kernel
theorem dX0_isValid_16 : decode cX0_isValid 16 = .ok (.aload_n 0, 1) := by decide +kernel
theorem dX0_isValid_17 : decode cX0_isValid 17 = .ok (.getfield 25, 3) := by decide +kernel
theorem dX0_isValid_20 : decode cX0_isValid 20 = .ok (.iload_n 1, 1) := by decide +kernel
theorem dX0_isValid_21 : decode cX0_isValid 21 = .ok (.bipush 12, 2) := by decide +kernel
theorem dX0_isValid_23 : decode cX0_isValid 23 = .ok (.imul, 1) := by decide +kernel
theorem dX0_isValid_24 : decode cX0_isValid 24 = .ok (.iload_n 2, 1) := by decide +kernel
theorem dX0_isValid_25 : decode cX0_isValid 25 = .ok (.iadd, 1) := by decide +kernel
theorem dX0_isValid_26 : decode cX0_isValid 26 = .ok (.iaload, 1) := by decide +kernel
theorem dX0_isValid_27 : decode cX0_isValid 27 = .ok (.baload, 1) := by decide +kernel
theorem dX0_isValid_28 : decode cX0_isValid 28 = .ok (.ifCond .ne 5, 3) := by decide +kernel
theorem dX0_isValid_31 : decode cX0_isValid 31 = .ok (.iconst 1, 1) := by decide +kernel
theorem dX0_isValid_32 : decode cX0_isValid 32 = .ok (.ireturn, 1) := by decide +kernel
theorem dX0_isValid_33 : decode cX0_isValid 33 = .ok (.iinc 2 1, 3) := by decide +kernel
theorem dX0_isValid_36 : decode cX0_isValid 36 = .ok (.goto (-34), 3) := by decide +kernel
theorem dX0_isValid_39 : decode cX0_isValid 39 = .ok (.iconst 0, 1) := by decide +kernel
theorem dX0_isValid_40 : decode cX0_isValid 40 = .ok (.ireturn, 1) := by decide +kernel
set_option maxRecDepth 20000 in
theorem ggX0_validPapers_X0_isValid : GoodIn wsX0_validPapers wsX0_isValid := goodIn_r _ [7, 8, 9, 10, 11, 12, 13, 14, 15, 16, 17, 18] (by decide +kernel) (by decide +kernel)
set_option maxRecDepth 20000 in
theorem gX0_validPapers_X0_isValid : GoodIn wsX0_validPapers (wsV RX0 46 RX0 yX0_isValid wsX0_isValid) := goodIn_app (goodIn_of _ (by decide +kernel)) ggX0_validPapers_X0_isValid
theorem dX0_validPapers_0 : decode cX0_validPapers 0 = .ok (.iconst 0, 1) := by decide +kernel
theorem dX0_validPapers_1 : decode cX0_validPapers 1 = .ok (.istore_n 1, 1) := by decide +kernel
theorem dX0_validPapers_2 : decode cX0_validPapers 2 = .ok (.iconst 0, 1) := by decide +kernel
theorem dX0_validPapers_3 : decode cX0_validPapers 3 = .ok (.istore_n 2, 1) := by decide +kernel
theorem dX0_validPapers_4 : decode cX0_validPapers 4 = .ok (.iload_n 2, 1) := by decide +kernel
theorem dX0_validPapers_5 : decode cX0_validPapers 5 = .ok (.aload_n 0, 1) := by decide +kernel
theorem dX0_validPapers_6 : decode cX0_validPapers 6 = .ok (.getfield 39, 3) := by decide +kernel
theorem dX0_validPapers_9 : decode cX0_validPapers 9 = .ok (.if_icmp .ge 26, 3) := by decide +kernel
theorem dX0_validPapers_12 : decode cX0_validPapers 12 = .ok (.aload_n 0, 1) := by decide +kernel
theorem dX0_validPapers_13 : decode cX0_validPapers 13 = .ok (.iload_n 2, 1) := by decide +kernel
theorem dX0_validPapers_14 : decode cX0_validPapers 14 = .ok (.invokevirtual 46, 3) := by decide +kernel
theorem dX0_validPapers_17 : decode cX0_validPapers 17 = .ok (.ifCond .eq 12, 3) := by decide +kernel
theorem dX0_validPapers_20 : decode cX0_validPapers 20 = .ok (.iload_n 1, 1) := by decide +kernel
theorem dX0_validPapers_21 : decode cX0_validPapers 21 = .ok (.aload_n 0, 1) := by decide +kernel
theorem dX0_validPapers_22 : decode cX0_validPapers 22 = .ok (.getfield 19, 3) := by decide +kernel
theorem dX0_validPapers_25 : decode cX0_validPapers 25 = .ok (.iload_n 2, 1) := by decide +kernel
theorem dX0_validPapers_26 : decode cX0_validPapers 26 = .ok (.iaload, 1) := by decide +kernel
theorem dX0_validPapers_27 : decode cX0_validPapers 27 = .ok (.iadd, 1) := by decide +kernel
theorem dX0_validPapers_28 : decode cX0_validPapers 28 = .ok (.istore_n 1, 1) := by decide +kernel
theorem dX0_validPapers_29 : decode cX0_validPapers 29 = .ok (.iinc 2 1, 3) := by decide +kernel
theorem dX0_validPapers_32 : decode cX0_validPapers 32 = .ok (.goto (-28), 3) := by decide +kernel
theorem dX0_validPapers_35 : decode cX0_validPapers 35 = .ok (.iload_n 1, 1) := by decide +kernel
theorem dX0_validPapers_36 : decode cX0_validPapers 36 = .ok (.ireturn, 1) := by decide +kernel
theorem dX0_papersFor_0 : decode cX0_papersFor 0 = .ok (.iconst 0, 1) := by decide +kernel
theorem dX0_papersFor_1 : decode cX0_papersFor 1 = .ok (.istore_n 3, 1) := by decide +kernel
theorem dX0_papersFor_2 : decode cX0_papersFor 2 = .ok (.iconst 0, 1) := by decide +kernel
theorem dX0_papersFor_3 : decode cX0_papersFor 3 = .ok (.istore 4, 2) := by decide +kernel
theorem dX0_papersFor_5 : decode cX0_papersFor 5 = .ok (.iload 4, 2) := by decide +kernel
theorem dX0_papersFor_7 : decode cX0_papersFor 7 = .ok (.aload_n 0, 1) := by decide +kernel
theorem dX0_papersFor_8 : decode cX0_papersFor 8 = .ok (.getfield 39, 3) := by decide +kernel
theorem dX0_papersFor_11 : decode cX0_papersFor 11 = .ok (.if_icmp .ge 47, 3) := by decide +kernel
theorem dX0_papersFor_14 : decode cX0_papersFor 14 = .ok (.iload 4, 2) := by decide +kernel
theorem dX0_papersFor_16 : decode cX0_papersFor 16 = .ok (.bipush 12, 2) := by decide +kernel
theorem dX0_papersFor_18 : decode cX0_papersFor 18 = .ok (.imul, 1) := by decide +kernel
theorem dX0_papersFor_19 : decode cX0_papersFor 19 = .ok (.istore 5, 2) := by decide +kernel
theorem dX0_papersFor_21 : decode cX0_papersFor 21 = .ok (.aload_n 0, 1) := by decide +kernel
theorem dX0_papersFor_22 : decode cX0_papersFor 22 = .ok (.getfield 28, 3) := by decide +kernel
theorem dX0_papersFor_25 : decode cX0_papersFor 25 = .ok (.iload 5, 2) := by decide +kernel
theorem dX0_papersFor_27 : decode cX0_papersFor 27 = .ok (.iload_n 1, 1) := by decide +kernel
theorem dX0_papersFor_28 : decode cX0_papersFor 28 = .ok (.iadd, 1) := by decide +kernel
theorem dX0_papersFor_29 : decode cX0_papersFor 29 = .ok (.iaload, 1) := by decide +kernel
theorem dX0_papersFor_30 : decode cX0_papersFor 30 = .ok (.aload_n 0, 1) := by decide +kernel
theorem dX0_papersFor_31 : decode cX0_papersFor 31 = .ok (.getfield 28, 3) := by decide +kernel
theorem dX0_papersFor_34 : decode cX0_papersFor 34 = .ok (.iload 5, 2) := by decide +kernel
theorem dX0_papersFor_36 : decode cX0_papersFor 36 = .ok (.iload_n 2, 1) := by decide +kernel
theorem dX0_papersFor_37 : decode cX0_papersFor 37 = .ok (.iadd, 1) := by decide +kernel
theorem dX0_papersFor_38 : decode cX0_papersFor 38 = .ok (.iaload, 1) := by decide +kernel
theorem dX0_papersFor_39 : decode cX0_papersFor 39 = .ok (.if_icmp .ge 13, 3) := by decide +kernel
theorem dX0_papersFor_42 : decode cX0_papersFor 42 = .ok (.iload_n 3, 1) := by decide +kernel
theorem dX0_papersFor_43 : decode cX0_papersFor 43 = .ok (.aload_n 0, 1) := by decide +kernel
theorem dX0_papersFor_44 : decode cX0_papersFor 44 = .ok (.getfield 19, 3) := by decide +kernel
theorem dX0_papersFor_47 : decode cX0_papersFor 47 = .ok (.iload 4, 2) := by decide +kernel
theorem dX0_papersFor_49 : decode cX0_papersFor 49 = .ok (.iaload, 1) := by decide +kernel
theorem dX0_papersFor_50 : decode cX0_papersFor 50 = .ok (.iadd, 1) := by decide +kernel
theorem dX0_papersFor_51 : decode cX0_papersFor 51 = .ok (.istore_n 3, 1) := by decide +kernel
theorem dX0_papersFor_52 : decode cX0_papersFor 52 = .ok (.iinc 4 1, 3) := by decide +kernel
theorem dX0_papersFor_55 : decode cX0_papersFor 55 = .ok (.goto (-50), 3) := by decide +kernel
theorem dX0_papersFor_58 : decode cX0_papersFor 58 = .ok (.iload_n 3, 1) := by decide +kernel
theorem dX0_papersFor_59 : decode cX0_papersFor 59 = .ok (.ireturn, 1) := by decide +kernel
set_option maxRecDepth 20000 in
theorem ggX0_beatenBy_X0_papersFor : GoodIn wsX0_beatenBy wsX0_papersFor := goodIn_r _ [7, 8, 9, 10, 11, 12, 13, 14, 15, 16, 17, 18] (by decide +kernel) (by decide +kernel)
set_option maxRecDepth 20000 in
theorem gX0_beatenBy_X0_papersFor : GoodIn wsX0_beatenBy (wsV RX0 50 RX0 yX0_papersFor wsX0_papersFor) := goodIn_app (goodIn_of _ (by decide +kernel)) ggX0_beatenBy_X0_papersFor
theorem dX0_beatenBy_0 : decode cX0_beatenBy 0 = .ok (.iconst 0, 1) := by decide +kernel
theorem dX0_beatenBy_1 : decode cX0_beatenBy 1 = .ok (.istore_n 2, 1) := by decide +kernel
theorem dX0_beatenBy_2 : decode cX0_beatenBy 2 = .ok (.iconst 0, 1) := by decide +kernel
theorem dX0_beatenBy_3 : decode cX0_beatenBy 3 = .ok (.istore_n 3, 1) := by decide +kernel
theorem dX0_beatenBy_4 : decode cX0_beatenBy 4 = .ok (.iload_n 3, 1) := by decide +kernel
theorem dX0_beatenBy_5 : decode cX0_beatenBy 5 = .ok (.aload_n 0, 1) := by decide +kernel
theorem dX0_beatenBy_6 : decode cX0_beatenBy 6 = .ok (.getfield 35, 3) := by decide +kernel
theorem dX0_beatenBy_9 : decode cX0_beatenBy 9 = .ok (.if_icmp .ge 44, 3) := by decide +kernel
theorem dX0_beatenBy_12 : decode cX0_beatenBy 12 = .ok (.iload_n 3, 1) := by decide +kernel
theorem dX0_beatenBy_13 : decode cX0_beatenBy 13 = .ok (.iload_n 1, 1) := by decide +kernel
theorem dX0_beatenBy_14 : decode cX0_beatenBy 14 = .ok (.if_icmp .eq 33, 3) := by decide +kernel
theorem dX0_beatenBy_17 : decode cX0_beatenBy 17 = .ok (.aload_n 0, 1) := by decide +kernel
theorem dX0_beatenBy_18 : decode cX0_beatenBy 18 = .ok (.getfield 9, 3) := by decide +kernel
theorem dX0_beatenBy_21 : decode cX0_beatenBy 21 = .ok (.iload_n 3, 1) := by decide +kernel
theorem dX0_beatenBy_22 : decode cX0_beatenBy 22 = .ok (.baload, 1) := by decide +kernel
theorem dX0_beatenBy_23 : decode cX0_beatenBy 23 = .ok (.ifCond .ne 24, 3) := by decide +kernel
theorem dX0_beatenBy_26 : decode cX0_beatenBy 26 = .ok (.aload_n 0, 1) := by decide +kernel
theorem dX0_beatenBy_27 : decode cX0_beatenBy 27 = .ok (.iload_n 1, 1) := by decide +kernel
theorem dX0_beatenBy_28 : decode cX0_beatenBy 28 = .ok (.iload_n 3, 1) := by decide +kernel
theorem dX0_beatenBy_29 : decode cX0_beatenBy 29 = .ok (.invokevirtual 50, 3) := by decide +kernel
theorem dX0_beatenBy_32 : decode cX0_beatenBy 32 = .ok (.aload_n 0, 1) := by decide +kernel
theorem dX0_beatenBy_33 : decode cX0_beatenBy 33 = .ok (.iload_n 3, 1) := by decide +kernel
theorem dX0_beatenBy_34 : decode cX0_beatenBy 34 = .ok (.iload_n 1, 1) := by decide +kernel
theorem dX0_beatenBy_35 : decode cX0_beatenBy 35 = .ok (.invokevirtual 50, 3) := by decide +kernel
theorem dX0_beatenBy_38 : decode cX0_beatenBy 38 = .ok (.if_icmp .le 9, 3) := by decide +kernel
theorem dX0_beatenBy_41 : decode cX0_beatenBy 41 = .ok (.iload_n 2, 1) := by decide +kernel
theorem dX0_beatenBy_42 : decode cX0_beatenBy 42 = .ok (.iconst 1, 1) := by decide +kernel
theorem dX0_beatenBy_43 : decode cX0_beatenBy 43 = .ok (.iload_n 3, 1) := by decide +kernel
theorem dX0_beatenBy_44 : decode cX0_beatenBy 44 = .ok (.ishl, 1) := by decide +kernel
theorem dX0_beatenBy_45 : decode cX0_beatenBy 45 = .ok (.ior, 1) := by decide +kernel
theorem dX0_beatenBy_46 : decode cX0_beatenBy 46 = .ok (.istore_n 2, 1) := by decide +kernel
theorem dX0_beatenBy_47 : decode cX0_beatenBy 47 = .ok (.iinc 3 1, 3) := by decide +kernel
theorem dX0_beatenBy_50 : decode cX0_beatenBy 50 = .ok (.goto (-46), 3) := by decide +kernel
theorem dX0_beatenBy_53 : decode cX0_beatenBy 53 = .ok (.iload_n 2, 1) := by decide +kernel
theorem dX0_beatenBy_54 : decode cX0_beatenBy 54 = .ok (.ireturn, 1) := by decide +kernel
set_option maxRecDepth 20000 in
theorem ggX0_ledBy_X0_beatenBy : GoodIn wsX0_ledBy wsX0_beatenBy := goodIn_r _ [7, 2, 1, 8, 9, 10, 6, 11, 12, 13, 14, 19, 20, 21, 22, 23, 24, 25, 26] (by decide +kernel) (by decide +kernel)
set_option maxRecDepth 20000 in
theorem gX0_ledBy_X0_beatenBy : GoodIn wsX0_ledBy (wsV RX0 54 RX0 yX0_beatenBy wsX0_beatenBy) := goodIn_app (goodIn_of _ (by decide +kernel)) ggX0_ledBy_X0_beatenBy
set_option maxRecDepth 20000 in
theorem ggX0_ledBy_X0_firstIn : GoodIn wsX0_ledBy wsX0_firstIn := goodIn_r _ [18, 2, 19, 20, 21, 22, 23, 24, 25, 26] (by decide +kernel) (by decide +kernel)
set_option maxRecDepth 20000 in
theorem gX0_ledBy_X0_firstIn : GoodIn wsX0_ledBy (wsV RX0 58 RX0 yX0_firstIn wsX0_firstIn) := goodIn_app (goodIn_of _ (by decide +kernel)) ggX0_ledBy_X0_firstIn
theorem dX0_ledBy_0 : decode cX0_ledBy 0 = .ok (.aload_n 0, 1) := by decide +kernel
theorem dX0_ledBy_1 : decode cX0_ledBy 1 = .ok (.getfield 9, 3) := by decide +kernel
theorem dX0_ledBy_4 : decode cX0_ledBy 4 = .ok (.iload_n 1, 1) := by decide +kernel
theorem dX0_ledBy_5 : decode cX0_ledBy 5 = .ok (.baload, 1) := by decide +kernel
theorem dX0_ledBy_6 : decode cX0_ledBy 6 = .ok (.ifCond .eq 5, 3) := by decide +kernel
theorem dX0_ledBy_9 : decode cX0_ledBy 9 = .ok (.iconst 0, 1) := by decide +kernel
theorem dX0_ledBy_10 : decode cX0_ledBy 10 = .ok (.ireturn, 1) := by decide +kernel
theorem dX0_ledBy_11 : decode cX0_ledBy 11 = .ok (.aload_n 0, 1) := by decide +kernel
theorem dX0_ledBy_12 : decode cX0_ledBy 12 = .ok (.iload_n 1, 1) := by decide +kernel
theorem dX0_ledBy_13 : decode cX0_ledBy 13 = .ok (.invokevirtual 54, 3) := by decide +kernel
theorem dX0_ledBy_16 : decode cX0_ledBy 16 = .ok (.istore_n 2, 1) := by decide +kernel
theorem dX0_ledBy_17 : decode cX0_ledBy 17 = .ok (.iconst 1, 1) := by decide +kernel
theorem dX0_ledBy_18 : decode cX0_ledBy 18 = .ok (.iload_n 1, 1) := by decide +kernel
theorem dX0_ledBy_19 : decode cX0_ledBy 19 = .ok (.ishl, 1) := by decide +kernel
theorem dX0_ledBy_20 : decode cX0_ledBy 20 = .ok (.istore_n 3, 1) := by decide +kernel
theorem dX0_ledBy_21 : decode cX0_ledBy 21 = .ok (.iconst 1, 1) := by decide +kernel
theorem dX0_ledBy_22 : decode cX0_ledBy 22 = .ok (.istore 4, 2) := by decide +kernel
theorem dX0_ledBy_24 : decode cX0_ledBy 24 = .ok (.iload 4, 2) := by decide +kernel
theorem dX0_ledBy_26 : decode cX0_ledBy 26 = .ok (.aload_n 0, 1) := by decide +kernel
theorem dX0_ledBy_27 : decode cX0_ledBy 27 = .ok (.getfield 35, 3) := by decide +kernel
theorem dX0_ledBy_30 : decode cX0_ledBy 30 = .ok (.if_icmp .ge 45, 3) := by decide +kernel
theorem dX0_ledBy_33 : decode cX0_ledBy 33 = .ok (.aload_n 0, 1) := by decide +kernel
theorem dX0_ledBy_34 : decode cX0_ledBy 34 = .ok (.iload_n 2, 1) := by decide +kernel
theorem dX0_ledBy_35 : decode cX0_ledBy 35 = .ok (.iload_n 3, 1) := by decide +kernel
theorem dX0_ledBy_36 : decode cX0_ledBy 36 = .ok (.iconst (-1), 1) := by decide +kernel
theorem dX0_ledBy_37 : decode cX0_ledBy 37 = .ok (.ixor, 1) := by decide +kernel
theorem dX0_ledBy_38 : decode cX0_ledBy 38 = .ok (.iand, 1) := by decide +kernel
theorem dX0_ledBy_39 : decode cX0_ledBy 39 = .ok (.invokevirtual 58, 3) := by decide +kernel
theorem dX0_ledBy_42 : decode cX0_ledBy 42 = .ok (.istore 5, 2) := by decide +kernel
theorem dX0_ledBy_44 : decode cX0_ledBy 44 = .ok (.iload 5, 2) := by decide +kernel
theorem dX0_ledBy_46 : decode cX0_ledBy 46 = .ok (.bipush (-9), 2) := by decide +kernel
theorem dX0_ledBy_48 : decode cX0_ledBy 48 = .ok (.if_icmp .ne 5, 3) := by decide +kernel
theorem dX0_ledBy_51 : decode cX0_ledBy 51 = .ok (.iload_n 2, 1) := by decide +kernel
theorem dX0_ledBy_52 : decode cX0_ledBy 52 = .ok (.ireturn, 1) := by decide +kernel
theorem dX0_ledBy_53 : decode cX0_ledBy 53 = .ok (.iload_n 2, 1) := by decide +kernel
theorem dX0_ledBy_54 : decode cX0_ledBy 54 = .ok (.aload_n 0, 1) := by decide +kernel
theorem dX0_ledBy_55 : decode cX0_ledBy 55 = .ok (.iload 5, 2) := by decide +kernel
theorem dX0_ledBy_57 : decode cX0_ledBy 57 = .ok (.invokevirtual 54, 3) := by decide +kernel
theorem dX0_ledBy_60 : decode cX0_ledBy 60 = .ok (.ior, 1) := by decide +kernel
theorem dX0_ledBy_61 : decode cX0_ledBy 61 = .ok (.istore_n 2, 1) := by decide +kernel
theorem dX0_ledBy_62 : decode cX0_ledBy 62 = .ok (.iload_n 3, 1) := by decide +kernel
theorem dX0_ledBy_63 : decode cX0_ledBy 63 = .ok (.iconst 1, 1) := by decide +kernel
theorem dX0_ledBy_64 : decode cX0_ledBy 64 = .ok (.iload 5, 2) := by decide +kernel
theorem dX0_ledBy_66 : decode cX0_ledBy 66 = .ok (.ishl, 1) := by decide +kernel
theorem dX0_ledBy_67 : decode cX0_ledBy 67 = .ok (.ior, 1) := by decide +kernel
theorem dX0_ledBy_68 : decode cX0_ledBy 68 = .ok (.istore_n 3, 1) := by decide +kernel
theorem dX0_ledBy_69 : decode cX0_ledBy 69 = .ok (.iinc 4 1, 3) := by decide +kernel
theorem dX0_ledBy_72 : decode cX0_ledBy 72 = .ok (.goto (-48), 3) := by decide +kernel
theorem dX0_ledBy_75 : decode cX0_ledBy 75 = .ok (.iload_n 2, 1) := by decide +kernel
theorem dX0_ledBy_76 : decode cX0_ledBy 76 = .ok (.ireturn, 1) := by decide +kernel
theorem dX0_firstIn_0 : decode cX0_firstIn 0 = .ok (.iconst 0, 1) := by decide +kernel
theorem dX0_firstIn_1 : decode cX0_firstIn 1 = .ok (.istore_n 2, 1) := by decide +kernel
theorem dX0_firstIn_2 : decode cX0_firstIn 2 = .ok (.iload_n 2, 1) := by decide +kernel
theorem dX0_firstIn_3 : decode cX0_firstIn 3 = .ok (.aload_n 0, 1) := by decide +kernel
theorem dX0_firstIn_4 : decode cX0_firstIn 4 = .ok (.getfield 35, 3) := by decide +kernel
theorem dX0_firstIn_7 : decode cX0_firstIn 7 = .ok (.if_icmp .ge 19, 3) := by decide +kernel
theorem dX0_firstIn_10 : decode cX0_firstIn 10 = .ok (.iload_n 1, 1) := by decide +kernel
theorem dX0_firstIn_11 : decode cX0_firstIn 11 = .ok (.iconst 1, 1) := by decide +kernel
theorem dX0_firstIn_12 : decode cX0_firstIn 12 = .ok (.iload_n 2, 1) := by decide +kernel
theorem dX0_firstIn_13 : decode cX0_firstIn 13 = .ok (.ishl, 1) := by decide +kernel
theorem dX0_firstIn_14 : decode cX0_firstIn 14 = .ok (.iand, 1) := by decide +kernel
theorem dX0_firstIn_15 : decode cX0_firstIn 15 = .ok (.ifCond .eq 5, 3) := by decide +kernel
theorem dX0_firstIn_18 : decode cX0_firstIn 18 = .ok (.iload_n 2, 1) := by decide +kernel
theorem dX0_firstIn_19 : decode cX0_firstIn 19 = .ok (.ireturn, 1) := by decide +kernel
theorem dX0_firstIn_20 : decode cX0_firstIn 20 = .ok (.iinc 2 1, 3) := by decide +kernel
theorem dX0_firstIn_23 : decode cX0_firstIn 23 = .ok (.goto (-21), 3) := by decide +kernel
theorem dX0_firstIn_26 : decode cX0_firstIn 26 = .ok (.bipush (-9), 2) := by decide +kernel
theorem dX0_firstIn_28 : decode cX0_firstIn 28 = .ok (.ireturn, 1) := by decide +kernel
set_option maxRecDepth 20000 in
theorem ggX0_pointsOf_X0_papersFor : GoodIn wsX0_pointsOf wsX0_papersFor := goodIn_r _ [7, 8, 9, 10, 11, 12, 13, 14, 15, 16, 17, 18] (by decide +kernel) (by decide +kernel)
set_option maxRecDepth 20000 in
theorem gX0_pointsOf_X0_papersFor : GoodIn wsX0_pointsOf (wsV RX0 50 RX0 yX0_papersFor wsX0_papersFor) := goodIn_app (goodIn_of _ (by decide +kernel)) ggX0_pointsOf_X0_papersFor
theorem dX0_pointsOf_0 : decode cX0_pointsOf 0 = .ok (.iconst 0, 1) := by decide +kernel
theorem dX0_pointsOf_1 : decode cX0_pointsOf 1 = .ok (.istore_n 2, 1) := by decide +kernel
theorem dX0_pointsOf_2 : decode cX0_pointsOf 2 = .ok (.iconst 0, 1) := by decide +kernel
theorem dX0_pointsOf_3 : decode cX0_pointsOf 3 = .ok (.istore_n 3, 1) := by decide +kernel
theorem dX0_pointsOf_4 : decode cX0_pointsOf 4 = .ok (.iload_n 3, 1) := by decide +kernel
theorem dX0_pointsOf_5 : decode cX0_pointsOf 5 = .ok (.aload_n 0, 1) := by decide +kernel
theorem dX0_pointsOf_6 : decode cX0_pointsOf 6 = .ok (.getfield 35, 3) := by decide +kernel
theorem dX0_pointsOf_9 : decode cX0_pointsOf 9 = .ok (.if_icmp .ge 32, 3) := by decide +kernel
theorem dX0_pointsOf_12 : decode cX0_pointsOf 12 = .ok (.iload_n 3, 1) := by decide +kernel
theorem dX0_pointsOf_13 : decode cX0_pointsOf 13 = .ok (.iload_n 1, 1) := by decide +kernel
theorem dX0_pointsOf_14 : decode cX0_pointsOf 14 = .ok (.if_icmp .eq 21, 3) := by decide +kernel
theorem dX0_pointsOf_17 : decode cX0_pointsOf 17 = .ok (.aload_n 0, 1) := by decide +kernel
theorem dX0_pointsOf_18 : decode cX0_pointsOf 18 = .ok (.getfield 9, 3) := by decide +kernel
theorem dX0_pointsOf_21 : decode cX0_pointsOf 21 = .ok (.iload_n 3, 1) := by decide +kernel
theorem dX0_pointsOf_22 : decode cX0_pointsOf 22 = .ok (.baload, 1) := by decide +kernel
theorem dX0_pointsOf_23 : decode cX0_pointsOf 23 = .ok (.ifCond .ne 12, 3) := by decide +kernel
theorem dX0_pointsOf_26 : decode cX0_pointsOf 26 = .ok (.iload_n 2, 1) := by decide +kernel
theorem dX0_pointsOf_27 : decode cX0_pointsOf 27 = .ok (.aload_n 0, 1) := by decide +kernel
theorem dX0_pointsOf_28 : decode cX0_pointsOf 28 = .ok (.iload_n 1, 1) := by decide +kernel
theorem dX0_pointsOf_29 : decode cX0_pointsOf 29 = .ok (.iload_n 3, 1) := by decide +kernel
theorem dX0_pointsOf_30 : decode cX0_pointsOf 30 = .ok (.invokevirtual 50, 3) := by decide +kernel
theorem dX0_pointsOf_33 : decode cX0_pointsOf 33 = .ok (.iadd, 1) := by decide +kernel
theorem dX0_pointsOf_34 : decode cX0_pointsOf 34 = .ok (.istore_n 2, 1) := by decide +kernel
theorem dX0_pointsOf_35 : decode cX0_pointsOf 35 = .ok (.iinc 3 1, 3) := by decide +kernel
theorem dX0_pointsOf_38 : decode cX0_pointsOf 38 = .ok (.goto (-34), 3) := by decide +kernel
theorem dX0_pointsOf_41 : decode cX0_pointsOf 41 = .ok (.iload_n 2, 1) := by decide +kernel
theorem dX0_pointsOf_42 : decode cX0_pointsOf 42 = .ok (.ireturn, 1) := by decide +kernel
theorem dX0_digitOf_0 : decode cX0_digitOf 0 = .ok (.lload_n 0, 1) := by decide +kernel
theorem dX0_digitOf_1 : decode cX0_digitOf 1 = .ok (.iconst 4, 1) := by decide +kernel
theorem dX0_digitOf_2 : decode cX0_digitOf 2 = .ok (.iload_n 2, 1) := by decide +kernel
theorem dX0_digitOf_3 : decode cX0_digitOf 3 = .ok (.imul, 1) := by decide +kernel
theorem dX0_digitOf_4 : decode cX0_digitOf 4 = .ok (.lushr, 1) := by decide +kernel
theorem dX0_digitOf_5 : decode cX0_digitOf 5 = .ok (.ldc2_w 61, 3) := by decide +kernel
theorem dX0_digitOf_8 : decode cX0_digitOf 8 = .ok (.land, 1) := by decide +kernel
theorem dX0_digitOf_9 : decode cX0_digitOf 9 = .ok (.l2i, 1) := by decide +kernel
theorem dX0_digitOf_10 : decode cX0_digitOf 10 = .ok (.ireturn, 1) := by decide +kernel
theorem dX1_init_0 : decode cX1_init 0 = .ok (.aload_n 0, 1) := by decide +kernel
theorem dX1_init_1 : decode cX1_init 1 = .ok (.invokespecial 3, 3) := by decide +kernel
theorem dX1_init_4 : decode cX1_init 4 = .ok (.aload_n 0, 1) := by decide +kernel
theorem dX1_init_5 : decode cX1_init 5 = .ok (.bipush (-9), 2) := by decide +kernel
theorem dX1_init_7 : decode cX1_init 7 = .ok (.putfield 9, 3) := by decide +kernel
theorem dX1_init_10 : decode cX1_init 10 = .ok (.aload_n 0, 1) := by decide +kernel
theorem dX1_init_11 : decode cX1_init 11 = .ok (.bipush 12, 2) := by decide +kernel
theorem dX1_init_13 : decode cX1_init 13 = .ok (.newarray .int, 2) := by decide +kernel
theorem dX1_init_15 : decode cX1_init 15 = .ok (.putfield 15, 3) := by decide +kernel
theorem dX1_init_18 : decode cX1_init 18 = .ok (.aload_n 0, 1) := by decide +kernel
theorem dX1_init_19 : decode cX1_init 19 = .ok (.bipush 12, 2) := by decide +kernel
theorem dX1_init_21 : decode cX1_init 21 = .ok (.newarray .int, 2) := by decide +kernel
theorem dX1_init_23 : decode cX1_init 23 = .ok (.putfield 19, 3) := by decide +kernel
theorem dX1_init_26 : decode cX1_init 26 = .ok (.aload_n 0, 1) := by decide +kernel
theorem dX1_init_27 : decode cX1_init 27 = .ok (.bipush 72, 2) := by decide +kernel
theorem dX1_init_29 : decode cX1_init 29 = .ok (.newarray .int, 2) := by decide +kernel
theorem dX1_init_31 : decode cX1_init 31 = .ok (.putfield 22, 3) := by decide +kernel
theorem dX1_init_34 : decode cX1_init 34 = .ok (.aload_n 0, 1) := by decide +kernel
theorem dX1_init_35 : decode cX1_init 35 = .ok (.bipush 72, 2) := by decide +kernel
theorem dX1_init_37 : decode cX1_init 37 = .ok (.newarray .int, 2) := by decide +kernel
theorem dX1_init_39 : decode cX1_init 39 = .ok (.putfield 25, 3) := by decide +kernel
theorem dX1_init_42 : decode cX1_init 42 = .ok (.aload_n 0, 1) := by decide +kernel
theorem dX1_init_43 : decode cX1_init 43 = .ok (.bipush 72, 2) := by decide +kernel
theorem dX1_init_45 : decode cX1_init 45 = .ok (.newarray .int, 2) := by decide +kernel
theorem dX1_init_47 : decode cX1_init 47 = .ok (.putfield 28, 3) := by decide +kernel
theorem dX1_init_50 : decode cX1_init 50 = .ok (.aload_n 0, 1) := by decide +kernel
theorem dX1_init_51 : decode cX1_init 51 = .ok (.bipush 72, 2) := by decide +kernel
theorem dX1_init_53 : decode cX1_init 53 = .ok (.newarray .long, 2) := by decide +kernel
theorem dX1_init_55 : decode cX1_init 55 = .ok (.putfield 31, 3) := by decide +kernel
theorem dX1_init_58 : decode cX1_init 58 = .ok (.aload_n 0, 1) := by decide +kernel
theorem dX1_init_59 : decode cX1_init 59 = .ok (.bipush 72, 2) := by decide +kernel
theorem dX1_init_61 : decode cX1_init 61 = .ok (.newarray .long, 2) := by decide +kernel
theorem dX1_init_63 : decode cX1_init 63 = .ok (.putfield 35, 3) := by decide +kernel
theorem dX1_init_66 : decode cX1_init 66 = .ok (.aload_n 0, 1) := by decide +kernel
theorem dX1_init_67 : decode cX1_init 67 = .ok (.bipush 72, 2) := by decide +kernel
theorem dX1_init_69 : decode cX1_init 69 = .ok (.newarray .long, 2) := by decide +kernel
theorem dX1_init_71 : decode cX1_init 71 = .ok (.putfield 38, 3) := by decide +kernel
theorem dX1_init_74 : decode cX1_init 74 = .ok (.aload_n 0, 1) := by decide +kernel
theorem dX1_init_75 : decode cX1_init 75 = .ok (.bipush 72, 2) := by decide +kernel
theorem dX1_init_77 : decode cX1_init 77 = .ok (.newarray .long, 2) := by decide +kernel
theorem dX1_init_79 : decode cX1_init 79 = .ok (.putfield 41, 3) := by decide +kernel
theorem dX1_init_82 : decode cX1_init 82 = .ok (.aload_n 0, 1) := by decide +kernel
theorem dX1_init_83 : decode cX1_init 83 = .ok (.sipush 864, 3) := by decide +kernel
theorem dX1_init_86 : decode cX1_init 86 = .ok (.newarray .long, 2) := by decide +kernel
theorem dX1_init_88 : decode cX1_init 88 = .ok (.putfield 44, 3) := by decide +kernel
theorem dX1_init_91 : decode cX1_init 91 = .ok (.aload_n 0, 1) := by decide +kernel
theorem dX1_init_92 : decode cX1_init 92 = .ok (.sipush 864, 3) := by decide +kernel
theorem dX1_init_95 : decode cX1_init 95 = .ok (.newarray .int, 2) := by decide +kernel
theorem dX1_init_97 : decode cX1_init 97 = .ok (.putfield 47, 3) := by decide +kernel
theorem dX1_init_100 : decode cX1_init 100 = .ok (.aload_n 0, 1) := by decide +kernel
theorem dX1_init_101 : decode cX1_init 101 = .ok (.sipush 864, 3) := by decide +kernel
theorem dX1_init_104 : decode cX1_init 104 = .ok (.newarray .int, 2) := by decide +kernel
theorem dX1_init_106 : decode cX1_init 106 = .ok (.putfield 50, 3) := by decide +kernel
theorem dX1_init_109 : decode cX1_init 109 = .ok (.return_, 1) := by decide +kernel
theorem dX1_hasStage_0 : decode cX1_hasStage 0 = .ok (.iload_n 1, 1) := by decide +kernel
theorem dX1_hasStage_1 : decode cX1_hasStage 1 = .ok (.ifCond .lt 15, 3) := by decide +kernel
theorem dX1_hasStage_4 : decode cX1_hasStage 4 = .ok (.iload_n 1, 1) := by decide +kernel
theorem dX1_hasStage_5 : decode cX1_hasStage 5 = .ok (.aload_n 0, 1) := by decide +kernel
theorem dX1_hasStage_6 : decode cX1_hasStage 6 = .ok (.getfield 53, 3) := by decide +kernel
theorem dX1_hasStage_9 : decode cX1_hasStage 9 = .ok (.if_icmp .ge 7, 3) := by decide +kernel
theorem dX1_hasStage_12 : decode cX1_hasStage 12 = .ok (.iconst 1, 1) := by decide +kernel
theorem dX1_hasStage_13 : decode cX1_hasStage 13 = .ok (.goto 4, 3) := by decide +kernel
theorem dX1_hasStage_16 : decode cX1_hasStage 16 = .ok (.iconst 0, 1) := by decide +kernel
theorem dX1_hasStage_17 : decode cX1_hasStage 17 = .ok (.ireturn, 1) := by decide +kernel
set_option maxRecDepth 20000 in
theorem ggX1_hasCell_X1_hasStage : GoodIn wsX1_hasCell wsX1_hasStage := goodIn_r _ [6, 7, 8, 9, 10, 11, 12, 13, 14, 15, 16, 17, 18, 19, 20, 21, 22, 23, 24, 25] (by decide +kernel) (by decide +kernel)
set_option maxRecDepth 20000 in
theorem gX1_hasCell_X1_hasStage : GoodIn wsX1_hasCell (wsV RX1 56 RX1 yX1_hasStage wsX1_hasStage) := goodIn_app (goodIn_of _ (by decide +kernel)) ggX1_hasCell_X1_hasStage
theorem dX1_hasCell_0 : decode cX1_hasCell 0 = .ok (.aload_n 0, 1) := by decide +kernel
theorem dX1_hasCell_1 : decode cX1_hasCell 1 = .ok (.iload_n 1, 1) := by decide +kernel
theorem dX1_hasCell_2 : decode cX1_hasCell 2 = .ok (.invokevirtual 56, 3) := by decide +kernel
theorem dX1_hasCell_5 : decode cX1_hasCell 5 = .ok (.ifCond .eq 19, 3) := by decide +kernel
theorem dX1_hasCell_8 : decode cX1_hasCell 8 = .ok (.iload_n 2, 1) := by decide +kernel
theorem dX1_hasCell_9 : decode cX1_hasCell 9 = .ok (.ifCond .lt 15, 3) := by decide +kernel
theorem dX1_hasCell_12 : decode cX1_hasCell 12 = .ok (.iload_n 2, 1) := by decide +kernel
theorem dX1_hasCell_13 : decode cX1_hasCell 13 = .ok (.aload_n 0, 1) := by decide +kernel
theorem dX1_hasCell_14 : decode cX1_hasCell 14 = .ok (.getfield 60, 3) := by decide +kernel
theorem dX1_hasCell_17 : decode cX1_hasCell 17 = .ok (.if_icmp .ge 7, 3) := by decide +kernel
theorem dX1_hasCell_20 : decode cX1_hasCell 20 = .ok (.iconst 1, 1) := by decide +kernel
theorem dX1_hasCell_21 : decode cX1_hasCell 21 = .ok (.goto 4, 3) := by decide +kernel
theorem dX1_hasCell_24 : decode cX1_hasCell 24 = .ok (.iconst 0, 1) := by decide +kernel
theorem dX1_hasCell_25 : decode cX1_hasCell 25 = .ok (.ireturn, 1) := by decide +kernel
theorem dX1_begin_0 : decode cX1_begin 0 = .ok (.aload_n 0, 1) := by decide +kernel
theorem dX1_begin_1 : decode cX1_begin 1 = .ok (.iload_n 2, 1) := by decide +kernel
theorem dX1_begin_2 : decode cX1_begin 2 = .ok (.putfield 9, 3) := by decide +kernel
theorem dX1_begin_5 : decode cX1_begin 5 = .ok (.aload_n 0, 1) := by decide +kernel
theorem dX1_begin_6 : decode cX1_begin 6 = .ok (.iload_n 3, 1) := by decide +kernel
theorem dX1_begin_7 : decode cX1_begin 7 = .ok (.putfield 63, 3) := by decide +kernel
theorem dX1_begin_10 : decode cX1_begin 10 = .ok (.aload_n 0, 1) := by decide +kernel
theorem dX1_begin_11 : decode cX1_begin 11 = .ok (.aload_n 1, 1) := by decide +kernel
theorem dX1_begin_12 : decode cX1_begin 12 = .ok (.getfield 66, 3) := by decide +kernel
theorem dX1_begin_15 : decode cX1_begin 15 = .ok (.putfield 60, 3) := by decide +kernel
theorem dX1_begin_18 : decode cX1_begin 18 = .ok (.aload_n 0, 1) := by decide +kernel
theorem dX1_begin_19 : decode cX1_begin 19 = .ok (.iconst 0, 1) := by decide +kernel
theorem dX1_begin_20 : decode cX1_begin 20 = .ok (.putfield 69, 3) := by decide +kernel
theorem dX1_begin_23 : decode cX1_begin 23 = .ok (.aload_n 0, 1) := by decide +kernel
theorem dX1_begin_24 : decode cX1_begin 24 = .ok (.iconst 1, 1) := by decide +kernel
theorem dX1_begin_25 : decode cX1_begin 25 = .ok (.putfield 53, 3) := by decide +kernel
theorem dX1_begin_28 : decode cX1_begin 28 = .ok (.aload_n 0, 1) := by decide +kernel
theorem dX1_begin_29 : decode cX1_begin 29 = .ok (.iconst 0, 1) := by decide +kernel
theorem dX1_begin_30 : decode cX1_begin 30 = .ok (.putfield 72, 3) := by decide +kernel
theorem dX1_begin_33 : decode cX1_begin 33 = .ok (.aload_n 0, 1) := by decide +kernel
theorem dX1_begin_34 : decode cX1_begin 34 = .ok (.getfield 31, 3) := by decide +kernel
theorem dX1_begin_37 : decode cX1_begin 37 = .ok (.iconst 0, 1) := by decide +kernel
theorem dX1_begin_38 : decode cX1_begin 38 = .ok (.lconst 0, 1) := by decide +kernel
theorem dX1_begin_39 : decode cX1_begin 39 = .ok (.lastore, 1) := by decide +kernel
theorem dX1_begin_40 : decode cX1_begin 40 = .ok (.aload_n 0, 1) := by decide +kernel
theorem dX1_begin_41 : decode cX1_begin 41 = .ok (.getfield 35, 3) := by decide +kernel
theorem dX1_begin_44 : decode cX1_begin 44 = .ok (.iconst 0, 1) := by decide +kernel
theorem dX1_begin_45 : decode cX1_begin 45 = .ok (.lconst 0, 1) := by decide +kernel
theorem dX1_begin_46 : decode cX1_begin 46 = .ok (.lastore, 1) := by decide +kernel
theorem dX1_begin_47 : decode cX1_begin 47 = .ok (.aload_n 0, 1) := by decide +kernel
theorem dX1_begin_48 : decode cX1_begin 48 = .ok (.getfield 41, 3) := by decide +kernel
theorem dX1_begin_51 : decode cX1_begin 51 = .ok (.iconst 0, 1) := by decide +kernel
theorem dX1_begin_52 : decode cX1_begin 52 = .ok (.lconst 0, 1) := by decide +kernel
theorem dX1_begin_53 : decode cX1_begin 53 = .ok (.lastore, 1) := by decide +kernel
theorem dX1_begin_54 : decode cX1_begin 54 = .ok (.aload_n 0, 1) := by decide +kernel
theorem dX1_begin_55 : decode cX1_begin 55 = .ok (.getfield 22, 3) := by decide +kernel
theorem dX1_begin_58 : decode cX1_begin 58 = .ok (.iconst 0, 1) := by decide +kernel
theorem dX1_begin_59 : decode cX1_begin 59 = .ok (.iload_n 2, 1) := by decide +kernel
theorem dX1_begin_60 : decode cX1_begin 60 = .ok (.iconst 3, 1) := by decide +kernel
theorem dX1_begin_61 : decode cX1_begin 61 = .ok (.if_icmp .ne 7, 3) := by decide +kernel
theorem dX1_begin_64 : decode cX1_begin 64 = .ok (.iconst 3, 1) := by decide +kernel
theorem dX1_begin_65 : decode cX1_begin 65 = .ok (.goto 4, 3) := by decide +kernel
theorem dX1_begin_68 : decode cX1_begin 68 = .ok (.iconst 0, 1) := by decide +kernel
theorem dX1_begin_69 : decode cX1_begin 69 = .ok (.iastore, 1) := by decide +kernel
theorem dX1_begin_70 : decode cX1_begin 70 = .ok (.aload_n 0, 1) := by decide +kernel
theorem dX1_begin_71 : decode cX1_begin 71 = .ok (.getfield 25, 3) := by decide +kernel
theorem dX1_begin_74 : decode cX1_begin 74 = .ok (.iconst 0, 1) := by decide +kernel
theorem dX1_begin_75 : decode cX1_begin 75 = .ok (.bipush (-9), 2) := by decide +kernel
theorem dX1_begin_77 : decode cX1_begin 77 = .ok (.iastore, 1) := by decide +kernel
theorem dX1_begin_78 : decode cX1_begin 78 = .ok (.iconst 0, 1) := by decide +kernel
theorem dX1_begin_79 : decode cX1_begin 79 = .ok (.istore 4, 2) := by decide +kernel
theorem dX1_begin_81 : decode cX1_begin 81 = .ok (.iload 4, 2) := by decide +kernel
theorem dX1_begin_83 : decode cX1_begin 83 = .ok (.aload_n 0, 1) := by decide +kernel
theorem dX1_begin_84 : decode cX1_begin 84 = .ok (.getfield 60, 3) := by decide +kernel
theorem dX1_begin_87 : decode cX1_begin 87 = .ok (.if_icmp .ge 75, 3) := by decide +kernel
theorem dX1_begin_90 : decode cX1_begin 90 = .ok (.aload_n 1, 1) := by decide +kernel
theorem dX1_begin_91 : decode cX1_begin 91 = .ok (.getfield 75, 3) := by decide +kernel
theorem dX1_begin_94 : decode cX1_begin 94 = .ok (.iload 4, 2) := by decide +kernel
theorem dX1_begin_96 : decode cX1_begin 96 = .ok (.baload, 1) := by decide +kernel
theorem dX1_begin_97 : decode cX1_begin 97 = .ok (.istore 5, 2) := by decide +kernel
theorem dX1_begin_99 : decode cX1_begin 99 = .ok (.aload_n 0, 1) := by decide +kernel
theorem dX1_begin_100 : decode cX1_begin 100 = .ok (.getfield 19, 3) := by decide +kernel
theorem dX1_begin_103 : decode cX1_begin 103 = .ok (.iload 4, 2) := by decide +kernel
theorem dX1_begin_105 : decode cX1_begin 105 = .ok (.aload_n 1, 1) := by decide +kernel
theorem dX1_begin_106 : decode cX1_begin 106 = .ok (.getfield 79, 3) := by decide +kernel
theorem dX1_begin_109 : decode cX1_begin 109 = .ok (.iload 4, 2) := by decide +kernel
theorem dX1_begin_111 : decode cX1_begin 111 = .ok (.iaload, 1) := by decide +kernel
theorem dX1_begin_112 : decode cX1_begin 112 = .ok (.iastore, 1) := by decide +kernel
theorem dX1_begin_113 : decode cX1_begin 113 = .ok (.aload_n 0, 1) := by decide +kernel
theorem dX1_begin_114 : decode cX1_begin 114 = .ok (.getfield 44, 3) := by decide +kernel
theorem dX1_begin_117 : decode cX1_begin 117 = .ok (.iload 4, 2) := by decide +kernel
theorem dX1_begin_119 : decode cX1_begin 119 = .ok (.lconst 0, 1) := by decide +kernel
theorem dX1_begin_120 : decode cX1_begin 120 = .ok (.lastore, 1) := by decide +kernel
theorem dX1_begin_121 : decode cX1_begin 121 = .ok (.aload_n 0, 1) := by decide +kernel
theorem dX1_begin_122 : decode cX1_begin 122 = .ok (.getfield 47, 3) := by decide +kernel
theorem dX1_begin_125 : decode cX1_begin 125 = .ok (.iload 4, 2) := by decide +kernel
theorem dX1_begin_127 : decode cX1_begin 127 = .ok (.iload 5, 2) := by decide +kernel
theorem dX1_begin_129 : decode cX1_begin 129 = .ok (.ifCond .eq 7, 3) := by decide +kernel
theorem dX1_begin_132 : decode cX1_begin 132 = .ok (.iconst 3, 1) := by decide +kernel
theorem dX1_begin_133 : decode cX1_begin 133 = .ok (.goto 4, 3) := by decide +kernel
theorem dX1_begin_136 : decode cX1_begin 136 = .ok (.iconst 0, 1) := by decide +kernel
theorem dX1_begin_137 : decode cX1_begin 137 = .ok (.iastore, 1) := by decide +kernel
theorem dX1_begin_138 : decode cX1_begin 138 = .ok (.aload_n 0, 1) := by decide +kernel
theorem dX1_begin_139 : decode cX1_begin 139 = .ok (.getfield 50, 3) := by decide +kernel
theorem dX1_begin_142 : decode cX1_begin 142 = .ok (.iload 4, 2) := by decide +kernel
theorem dX1_begin_144 : decode cX1_begin 144 = .ok (.iload 5, 2) := by decide +kernel
theorem dX1_begin_146 : decode cX1_begin 146 = .ok (.ifCond .eq 7, 3) := by decide +kernel
theorem dX1_begin_149 : decode cX1_begin 149 = .ok (.iconst 0, 1) := by decide +kernel
theorem dX1_begin_150 : decode cX1_begin 150 = .ok (.goto 5, 3) := by decide +kernel
theorem dX1_begin_153 : decode cX1_begin 153 = .ok (.ldc 80, 2) := by decide +kernel
theorem dX1_begin_155 : decode cX1_begin 155 = .ok (.iastore, 1) := by decide +kernel
theorem dX1_begin_156 : decode cX1_begin 156 = .ok (.iinc 4 1, 3) := by decide +kernel
theorem dX1_begin_159 : decode cX1_begin 159 = .ok (.goto (-78), 3) := by decide +kernel
theorem dX1_begin_162 : decode cX1_begin 162 = .ok (.return_, 1) := by decide +kernel
set_option maxRecDepth 20000 in
theorem ggX1_turn_X1_now : GoodIn wsX1_turn wsX1_now := goodIn_r _ [21, 1, 25, 26, 27, 28, 29, 30, 31, 32, 33, 34, 35, 36, 37, 38, 39, 40, 41, 42] (by decide +kernel) (by decide +kernel)
set_option maxRecDepth 20000 in
theorem gX1_turn_X1_now : GoodIn wsX1_turn (wsV RX1 81 RX1 yX1_now wsX1_now) := goodIn_app (goodIn_of _ (by decide +kernel)) ggX1_turn_X1_now
set_option maxRecDepth 20000 in
theorem ggX1_turn_X4_cell : GoodIn wsX1_turn wsX4_cell := goodIn_r _ [24] (by decide +kernel) (by decide +kernel)
set_option maxRecDepth 20000 in
theorem gX1_turn_X4_cell_n85 : GoodIn wsX1_turn (wsX4_cell) := ggX1_turn_X4_cell
theorem dX1_turn_0 : decode cX1_turn 0 = .ok (.aload_n 0, 1) := by decide +kernel
theorem dX1_turn_1 : decode cX1_turn 1 = .ok (.getfield 53, 3) := by decide +kernel
theorem dX1_turn_4 : decode cX1_turn 4 = .ok (.bipush 72, 2) := by decide +kernel
theorem dX1_turn_6 : decode cX1_turn 6 = .ok (.if_icmp .lt 5, 3) := by decide +kernel
theorem dX1_turn_9 : decode cX1_turn 9 = .ok (.iconst 0, 1) := by decide +kernel
theorem dX1_turn_10 : decode cX1_turn 10 = .ok (.ireturn, 1) := by decide +kernel
theorem dX1_turn_11 : decode cX1_turn 11 = .ok (.aload_n 0, 1) := by decide +kernel
theorem dX1_turn_12 : decode cX1_turn 12 = .ok (.invokevirtual 81, 3) := by decide +kernel
theorem dX1_turn_15 : decode cX1_turn 15 = .ok (.istore_n 3, 1) := by decide +kernel
theorem dX1_turn_16 : decode cX1_turn 16 = .ok (.aload_n 0, 1) := by decide +kernel
theorem dX1_turn_17 : decode cX1_turn 17 = .ok (.dup, 1) := by decide +kernel
theorem dX1_turn_18 : decode cX1_turn 18 = .ok (.getfield 53, 3) := by decide +kernel
theorem dX1_turn_21 : decode cX1_turn 21 = .ok (.iconst 1, 1) := by decide +kernel
theorem dX1_turn_22 : decode cX1_turn 22 = .ok (.iadd, 1) := by decide +kernel
theorem dX1_turn_23 : decode cX1_turn 23 = .ok (.putfield 53, 3) := by decide +kernel
theorem dX1_turn_26 : decode cX1_turn 26 = .ok (.aload_n 0, 1) := by decide +kernel
theorem dX1_turn_27 : decode cX1_turn 27 = .ok (.aload_n 0, 1) := by decide +kernel
theorem dX1_turn_28 : decode cX1_turn 28 = .ok (.invokevirtual 81, 3) := by decide +kernel
theorem dX1_turn_31 : decode cX1_turn 31 = .ok (.iconst 0, 1) := by decide +kernel
theorem dX1_turn_32 : decode cX1_turn 32 = .ok (.invokestatic 85, 3) := by decide +kernel
theorem dX1_turn_35 : decode cX1_turn 35 = .ok (.putfield 72, 3) := by decide +kernel
theorem dX1_turn_38 : decode cX1_turn 38 = .ok (.aload_n 0, 1) := by decide +kernel
theorem dX1_turn_39 : decode cX1_turn 39 = .ok (.getfield 22, 3) := by decide +kernel
theorem dX1_turn_42 : decode cX1_turn 42 = .ok (.aload_n 0, 1) := by decide +kernel
theorem dX1_turn_43 : decode cX1_turn 43 = .ok (.invokevirtual 81, 3) := by decide +kernel
theorem dX1_turn_46 : decode cX1_turn 46 = .ok (.iload_n 1, 1) := by decide +kernel
theorem dX1_turn_47 : decode cX1_turn 47 = .ok (.iastore, 1) := by decide +kernel
theorem dX1_turn_48 : decode cX1_turn 48 = .ok (.aload_n 0, 1) := by decide +kernel
theorem dX1_turn_49 : decode cX1_turn 49 = .ok (.getfield 25, 3) := by decide +kernel
theorem dX1_turn_52 : decode cX1_turn 52 = .ok (.aload_n 0, 1) := by decide +kernel
theorem dX1_turn_53 : decode cX1_turn 53 = .ok (.invokevirtual 81, 3) := by decide +kernel
theorem dX1_turn_56 : decode cX1_turn 56 = .ok (.iload_n 2, 1) := by decide +kernel
theorem dX1_turn_57 : decode cX1_turn 57 = .ok (.iastore, 1) := by decide +kernel
theorem dX1_turn_58 : decode cX1_turn 58 = .ok (.aload_n 0, 1) := by decide +kernel
theorem dX1_turn_59 : decode cX1_turn 59 = .ok (.getfield 31, 3) := by decide +kernel
theorem dX1_turn_62 : decode cX1_turn 62 = .ok (.aload_n 0, 1) := by decide +kernel
theorem dX1_turn_63 : decode cX1_turn 63 = .ok (.invokevirtual 81, 3) := by decide +kernel
theorem dX1_turn_66 : decode cX1_turn 66 = .ok (.aload_n 0, 1) := by decide +kernel
theorem dX1_turn_67 : decode cX1_turn 67 = .ok (.getfield 31, 3) := by decide +kernel
theorem dX1_turn_70 : decode cX1_turn 70 = .ok (.iload_n 3, 1) := by decide +kernel
theorem dX1_turn_71 : decode cX1_turn 71 = .ok (.laload, 1) := by decide +kernel
theorem dX1_turn_72 : decode cX1_turn 72 = .ok (.lastore, 1) := by decide +kernel
theorem dX1_turn_73 : decode cX1_turn 73 = .ok (.aload_n 0, 1) := by decide +kernel
theorem dX1_turn_74 : decode cX1_turn 74 = .ok (.getfield 35, 3) := by decide +kernel
theorem dX1_turn_77 : decode cX1_turn 77 = .ok (.aload_n 0, 1) := by decide +kernel
theorem dX1_turn_78 : decode cX1_turn 78 = .ok (.invokevirtual 81, 3) := by decide +kernel
theorem dX1_turn_81 : decode cX1_turn 81 = .ok (.aload_n 0, 1) := by decide +kernel
theorem dX1_turn_82 : decode cX1_turn 82 = .ok (.getfield 35, 3) := by decide +kernel
theorem dX1_turn_85 : decode cX1_turn 85 = .ok (.iload_n 3, 1) := by decide +kernel
theorem dX1_turn_86 : decode cX1_turn 86 = .ok (.laload, 1) := by decide +kernel
theorem dX1_turn_87 : decode cX1_turn 87 = .ok (.lastore, 1) := by decide +kernel
theorem dX1_turn_88 : decode cX1_turn 88 = .ok (.aload_n 0, 1) := by decide +kernel
theorem dX1_turn_89 : decode cX1_turn 89 = .ok (.getfield 38, 3) := by decide +kernel
theorem dX1_turn_92 : decode cX1_turn 92 = .ok (.aload_n 0, 1) := by decide +kernel
theorem dX1_turn_93 : decode cX1_turn 93 = .ok (.invokevirtual 81, 3) := by decide +kernel
theorem dX1_turn_96 : decode cX1_turn 96 = .ok (.aload_n 0, 1) := by decide +kernel
theorem dX1_turn_97 : decode cX1_turn 97 = .ok (.getfield 38, 3) := by decide +kernel
theorem dX1_turn_100 : decode cX1_turn 100 = .ok (.iload_n 3, 1) := by decide +kernel
theorem dX1_turn_101 : decode cX1_turn 101 = .ok (.laload, 1) := by decide +kernel
theorem dX1_turn_102 : decode cX1_turn 102 = .ok (.lastore, 1) := by decide +kernel
theorem dX1_turn_103 : decode cX1_turn 103 = .ok (.aload_n 0, 1) := by decide +kernel
theorem dX1_turn_104 : decode cX1_turn 104 = .ok (.getfield 41, 3) := by decide +kernel
theorem dX1_turn_107 : decode cX1_turn 107 = .ok (.aload_n 0, 1) := by decide +kernel
theorem dX1_turn_108 : decode cX1_turn 108 = .ok (.invokevirtual 81, 3) := by decide +kernel
theorem dX1_turn_111 : decode cX1_turn 111 = .ok (.lconst 0, 1) := by decide +kernel
theorem dX1_turn_112 : decode cX1_turn 112 = .ok (.lastore, 1) := by decide +kernel
theorem dX1_turn_113 : decode cX1_turn 113 = .ok (.aload_n 0, 1) := by decide +kernel
theorem dX1_turn_114 : decode cX1_turn 114 = .ok (.getfield 44, 3) := by decide +kernel
theorem dX1_turn_117 : decode cX1_turn 117 = .ok (.iload_n 3, 1) := by decide +kernel
theorem dX1_turn_118 : decode cX1_turn 118 = .ok (.iconst 0, 1) := by decide +kernel
theorem dX1_turn_119 : decode cX1_turn 119 = .ok (.invokestatic 85, 3) := by decide +kernel
theorem dX1_turn_122 : decode cX1_turn 122 = .ok (.aload_n 0, 1) := by decide +kernel
theorem dX1_turn_123 : decode cX1_turn 123 = .ok (.getfield 44, 3) := by decide +kernel
theorem dX1_turn_126 : decode cX1_turn 126 = .ok (.aload_n 0, 1) := by decide +kernel
theorem dX1_turn_127 : decode cX1_turn 127 = .ok (.getfield 72, 3) := by decide +kernel
theorem dX1_turn_130 : decode cX1_turn 130 = .ok (.aload_n 0, 1) := by decide +kernel
theorem dX1_turn_131 : decode cX1_turn 131 = .ok (.getfield 60, 3) := by decide +kernel
theorem dX1_turn_134 : decode cX1_turn 134 = .ok (.invokestatic 89, 3) := by decide +kernel
theorem dX1_turn_137 : decode cX1_turn 137 = .ok (.aload_n 0, 1) := by decide +kernel
theorem dX1_turn_138 : decode cX1_turn 138 = .ok (.getfield 47, 3) := by decide +kernel
theorem dX1_turn_141 : decode cX1_turn 141 = .ok (.iload_n 3, 1) := by decide +kernel
theorem dX1_turn_142 : decode cX1_turn 142 = .ok (.iconst 0, 1) := by decide +kernel
theorem dX1_turn_143 : decode cX1_turn 143 = .ok (.invokestatic 85, 3) := by decide +kernel
theorem dX1_turn_146 : decode cX1_turn 146 = .ok (.aload_n 0, 1) := by decide +kernel
theorem dX1_turn_147 : decode cX1_turn 147 = .ok (.getfield 47, 3) := by decide +kernel
theorem dX1_turn_150 : decode cX1_turn 150 = .ok (.aload_n 0, 1) := by decide +kernel
theorem dX1_turn_151 : decode cX1_turn 151 = .ok (.getfield 72, 3) := by decide +kernel
theorem dX1_turn_154 : decode cX1_turn 154 = .ok (.aload_n 0, 1) := by decide +kernel
theorem dX1_turn_155 : decode cX1_turn 155 = .ok (.getfield 60, 3) := by decide +kernel
theorem dX1_turn_158 : decode cX1_turn 158 = .ok (.invokestatic 89, 3) := by decide +kernel
theorem dX1_turn_161 : decode cX1_turn 161 = .ok (.aload_n 0, 1) := by decide +kernel
theorem dX1_turn_162 : decode cX1_turn 162 = .ok (.getfield 50, 3) := by decide +kernel
theorem dX1_turn_165 : decode cX1_turn 165 = .ok (.iload_n 3, 1) := by decide +kernel
theorem dX1_turn_166 : decode cX1_turn 166 = .ok (.iconst 0, 1) := by decide +kernel
theorem dX1_turn_167 : decode cX1_turn 167 = .ok (.invokestatic 85, 3) := by decide +kernel
theorem dX1_turn_170 : decode cX1_turn 170 = .ok (.aload_n 0, 1) := by decide +kernel
theorem dX1_turn_171 : decode cX1_turn 171 = .ok (.getfield 50, 3) := by decide +kernel
theorem dX1_turn_174 : decode cX1_turn 174 = .ok (.aload_n 0, 1) := by decide +kernel
theorem dX1_turn_175 : decode cX1_turn 175 = .ok (.getfield 72, 3) := by decide +kernel
theorem dX1_turn_178 : decode cX1_turn 178 = .ok (.aload_n 0, 1) := by decide +kernel
theorem dX1_turn_179 : decode cX1_turn 179 = .ok (.getfield 60, 3) := by decide +kernel
theorem dX1_turn_182 : decode cX1_turn 182 = .ok (.invokestatic 89, 3) := by decide +kernel
theorem dX1_turn_185 : decode cX1_turn 185 = .ok (.iconst 1, 1) := by decide +kernel
theorem dX1_turn_186 : decode cX1_turn 186 = .ok (.ireturn, 1) := by decide +kernel
theorem dX1_now_0 : decode cX1_now 0 = .ok (.aload_n 0, 1) := by decide +kernel
theorem dX1_now_1 : decode cX1_now 1 = .ok (.getfield 53, 3) := by decide +kernel
theorem dX1_now_4 : decode cX1_now 4 = .ok (.iconst 1, 1) := by decide +kernel
theorem dX1_now_5 : decode cX1_now 5 = .ok (.isub, 1) := by decide +kernel
theorem dX1_now_6 : decode cX1_now 6 = .ok (.ireturn, 1) := by decide +kernel
set_option maxRecDepth 20000 in
theorem ggX1_quota_X1_now : GoodIn wsX1_quota wsX1_now := goodIn_r _ [6, 7, 8, 9, 10, 11, 12, 13, 14, 15, 16, 17, 18, 19, 20, 21, 22, 23, 24, 25] (by decide +kernel) (by decide +kernel)
set_option maxRecDepth 20000 in
theorem gX1_quota_X1_now : GoodIn wsX1_quota (wsV RX1 81 RX1 yX1_now wsX1_now) := goodIn_app (goodIn_of _ (by decide +kernel)) ggX1_quota_X1_now
theorem dX1_quota_0 : decode cX1_quota 0 = .ok (.aload_n 0, 1) := by decide +kernel
theorem dX1_quota_1 : decode cX1_quota 1 = .ok (.getfield 38, 3) := by decide +kernel
theorem dX1_quota_4 : decode cX1_quota 4 = .ok (.aload_n 0, 1) := by decide +kernel
theorem dX1_quota_5 : decode cX1_quota 5 = .ok (.invokevirtual 81, 3) := by decide +kernel
theorem dX1_quota_8 : decode cX1_quota 8 = .ok (.laload, 1) := by decide +kernel
theorem dX1_quota_9 : decode cX1_quota 9 = .ok (.lreturn, 1) := by decide +kernel
theorem dX1_isHopeful_0 : decode cX1_isHopeful 0 = .ok (.aload_n 0, 1) := by decide +kernel
theorem dX1_isHopeful_1 : decode cX1_isHopeful 1 = .ok (.getfield 47, 3) := by decide +kernel
theorem dX1_isHopeful_4 : decode cX1_isHopeful 4 = .ok (.aload_n 0, 1) := by decide +kernel
theorem dX1_isHopeful_5 : decode cX1_isHopeful 5 = .ok (.getfield 72, 3) := by decide +kernel
theorem dX1_isHopeful_8 : decode cX1_isHopeful 8 = .ok (.iload_n 1, 1) := by decide +kernel
theorem dX1_isHopeful_9 : decode cX1_isHopeful 9 = .ok (.iadd, 1) := by decide +kernel
theorem dX1_isHopeful_10 : decode cX1_isHopeful 10 = .ok (.iaload, 1) := by decide +kernel
theorem dX1_isHopeful_11 : decode cX1_isHopeful 11 = .ok (.ifCond .ne 7, 3) := by decide +kernel
theorem dX1_isHopeful_14 : decode cX1_isHopeful 14 = .ok (.iconst 1, 1) := by decide +kernel
theorem dX1_isHopeful_15 : decode cX1_isHopeful 15 = .ok (.goto 4, 3) := by decide +kernel
theorem dX1_isHopeful_18 : decode cX1_isHopeful 18 = .ok (.iconst 0, 1) := by decide +kernel
theorem dX1_isHopeful_19 : decode cX1_isHopeful 19 = .ok (.ireturn, 1) := by decide +kernel
theorem dX1_isElected_0 : decode cX1_isElected 0 = .ok (.aload_n 0, 1) := by decide +kernel
theorem dX1_isElected_1 : decode cX1_isElected 1 = .ok (.getfield 47, 3) := by decide +kernel
theorem dX1_isElected_4 : decode cX1_isElected 4 = .ok (.aload_n 0, 1) := by decide +kernel
theorem dX1_isElected_5 : decode cX1_isElected 5 = .ok (.getfield 72, 3) := by decide +kernel
theorem dX1_isElected_8 : decode cX1_isElected 8 = .ok (.iload_n 1, 1) := by decide +kernel
theorem dX1_isElected_9 : decode cX1_isElected 9 = .ok (.iadd, 1) := by decide +kernel
theorem dX1_isElected_10 : decode cX1_isElected 10 = .ok (.iaload, 1) := by decide +kernel
theorem dX1_isElected_11 : decode cX1_isElected 11 = .ok (.iconst 1, 1) := by decide +kernel
theorem dX1_isElected_12 : decode cX1_isElected 12 = .ok (.if_icmp .ne 7, 3) := by decide +kernel
theorem dX1_isElected_15 : decode cX1_isElected 15 = .ok (.iconst 1, 1) := by decide +kernel
theorem dX1_isElected_16 : decode cX1_isElected 16 = .ok (.goto 4, 3) := by decide +kernel
theorem dX1_isElected_19 : decode cX1_isElected 19 = .ok (.iconst 0, 1) := by decide +kernel
theorem dX1_isElected_20 : decode cX1_isElected 20 = .ok (.ireturn, 1) := by decide +kernel
set_option maxRecDepth 20000 in
theorem ggX1_settle_X1_quota : GoodIn wsX1_settle wsX1_quota := goodIn_r _ [8, 9, 10, 11, 12, 7, 13, 14, 45, 46, 47, 48, 49, 50, 51, 52, 53, 54, 55, 56, 57, 58, 59, 60, 61, 62] (by decide +kernel) (by decide +kernel)
set_option maxRecDepth 20000 in
theorem gX1_settle_X1_quota : GoodIn wsX1_settle (wsV RX1 95 RX1 yX1_quota wsX1_quota) := goodIn_app (goodIn_of _ (by decide +kernel)) ggX1_settle_X1_quota
set_option maxRecDepth 20000 in
theorem ggX1_settle_X1_electFrom : GoodIn wsX1_settle wsX1_electFrom := goodIn_r _ [18, 1, 19, 20, 21, 22, 23, 24, 25, 7, 26, 27, 28, 29, 30, 31, 32, 33, 10, 11, 12, 13, 14, 34, 35, 36, 45, 46, 47, 48, 49, 50, 51, 52, 53, 54, 55, 56, 57, 58, 59, 60, 61, 62] (by decide +kernel) (by decide +kernel)
set_option maxRecDepth 20000 in
theorem gX1_settle_X1_electFrom : GoodIn wsX1_settle (wsV RX1 99 RX1 yX1_electFrom wsX1_electFrom) := goodIn_app (goodIn_of _ (by decide +kernel)) ggX1_settle_X1_electFrom
set_option maxRecDepth 20000 in
theorem ggX1_settle_X1_hopefulOnes : GoodIn wsX1_settle wsX1_hopefulOnes := goodIn_r _ [40, 19, 41, 42, 43, 7, 44, 20, 21, 45, 46, 47, 48, 49, 50, 51, 52, 53, 54, 55, 56, 57, 58, 59, 60, 61, 62] (by decide +kernel) (by decide +kernel)
set_option maxRecDepth 20000 in
theorem gX1_settle_X1_hopefulOnes : GoodIn wsX1_settle (wsV RX1 103 RX1 yX1_hopefulOnes wsX1_hopefulOnes) := goodIn_app (goodIn_of _ (by decide +kernel)) ggX1_settle_X1_hopefulOnes
set_option maxRecDepth 20000 in
theorem ggX1_settle_X1_now : GoodIn wsX1_settle wsX1_now := goodIn_r _ [13, 14, 45, 46, 47, 48, 49, 50, 51, 52, 53, 54, 55, 56, 57, 58, 59, 60, 61, 62] (by decide +kernel) (by decide +kernel)
set_option maxRecDepth 20000 in
theorem gX1_settle_X1_now : GoodIn wsX1_settle (wsV RX1 81 RX1 yX1_now wsX1_now) := goodIn_app (goodIn_of _ (by decide +kernel)) ggX1_settle_X1_now
theorem dX1_settle_0 : decode cX1_settle 0 = .ok (.aload_n 0, 1) := by decide +kernel
theorem dX1_settle_1 : decode cX1_settle 1 = .ok (.aload_n 0, 1) := by decide +kernel
theorem dX1_settle_2 : decode cX1_settle 2 = .ok (.invokevirtual 95, 3) := by decide +kernel
theorem dX1_settle_5 : decode cX1_settle 5 = .ok (.invokevirtual 99, 3) := by decide +kernel
theorem dX1_settle_8 : decode cX1_settle 8 = .ok (.aload_n 0, 1) := by decide +kernel
theorem dX1_settle_9 : decode cX1_settle 9 = .ok (.invokevirtual 103, 3) := by decide +kernel
theorem dX1_settle_12 : decode cX1_settle 12 = .ok (.aload_n 0, 1) := by decide +kernel
theorem dX1_settle_13 : decode cX1_settle 13 = .ok (.getfield 69, 3) := by decide +kernel
theorem dX1_settle_16 : decode cX1_settle 16 = .ok (.iadd, 1) := by decide +kernel
theorem dX1_settle_17 : decode cX1_settle 17 = .ok (.aload_n 0, 1) := by decide +kernel
theorem dX1_settle_18 : decode cX1_settle 18 = .ok (.getfield 63, 3) := by decide +kernel
theorem dX1_settle_21 : decode cX1_settle 21 = .ok (.if_icmp .gt 8, 3) := by decide +kernel
theorem dX1_settle_24 : decode cX1_settle 24 = .ok (.aload_n 0, 1) := by decide +kernel
theorem dX1_settle_25 : decode cX1_settle 25 = .ok (.lconst 0, 1) := by decide +kernel
theorem dX1_settle_26 : decode cX1_settle 26 = .ok (.invokevirtual 99, 3) := by decide +kernel
theorem dX1_settle_29 : decode cX1_settle 29 = .ok (.aload_n 0, 1) := by decide +kernel
theorem dX1_settle_30 : decode cX1_settle 30 = .ok (.getfield 28, 3) := by decide +kernel
theorem dX1_settle_33 : decode cX1_settle 33 = .ok (.aload_n 0, 1) := by decide +kernel
theorem dX1_settle_34 : decode cX1_settle 34 = .ok (.invokevirtual 81, 3) := by decide +kernel
theorem dX1_settle_37 : decode cX1_settle 37 = .ok (.aload_n 0, 1) := by decide +kernel
theorem dX1_settle_38 : decode cX1_settle 38 = .ok (.getfield 69, 3) := by decide +kernel
theorem dX1_settle_41 : decode cX1_settle 41 = .ok (.iastore, 1) := by decide +kernel
theorem dX1_settle_42 : decode cX1_settle 42 = .ok (.aload_n 0, 1) := by decide +kernel
theorem dX1_settle_43 : decode cX1_settle 43 = .ok (.invokevirtual 103, 3) := by decide +kernel
theorem dX1_settle_46 : decode cX1_settle 46 = .ok (.ifCond .eq 14, 3) := by decide +kernel
theorem dX1_settle_49 : decode cX1_settle 49 = .ok (.aload_n 0, 1) := by decide +kernel
theorem dX1_settle_50 : decode cX1_settle 50 = .ok (.getfield 69, 3) := by decide +kernel
theorem dX1_settle_53 : decode cX1_settle 53 = .ok (.aload_n 0, 1) := by decide +kernel
theorem dX1_settle_54 : decode cX1_settle 54 = .ok (.getfield 63, 3) := by decide +kernel
theorem dX1_settle_57 : decode cX1_settle 57 = .ok (.if_icmp .lt 7, 3) := by decide +kernel
theorem dX1_settle_60 : decode cX1_settle 60 = .ok (.iconst 1, 1) := by decide +kernel
theorem dX1_settle_61 : decode cX1_settle 61 = .ok (.goto 4, 3) := by decide +kernel
theorem dX1_settle_64 : decode cX1_settle 64 = .ok (.iconst 0, 1) := by decide +kernel
theorem dX1_settle_65 : decode cX1_settle 65 = .ok (.ireturn, 1) := by decide +kernel
set_option maxRecDepth 20000 in
theorem ggX1_electFrom_X1_most : GoodIn wsX1_electFrom wsX1_most := goodIn_r _ [10, 2, 3, 4, 11, 12, 13, 14, 9, 15, 16, 17, 18, 19, 20, 21, 22, 23, 24, 25, 26, 27, 28, 29, 30, 31, 32, 33, 34, 35, 36, 37, 38, 39, 40, 41, 42, 43] (by decide +kernel) (by decide +kernel)
set_option maxRecDepth 20000 in
theorem gX1_electFrom_X1_most : GoodIn wsX1_electFrom (wsV RX1 106 RX1 yX1_most wsX1_most) := goodIn_app (goodIn_of _ (by decide +kernel)) ggX1_electFrom_X1_most
theorem dX1_electFrom_0 : decode cX1_electFrom 0 = .ok (.aload_n 0, 1) := by decide +kernel
theorem dX1_electFrom_1 : decode cX1_electFrom 1 = .ok (.getfield 69, 3) := by decide +kernel
theorem dX1_electFrom_4 : decode cX1_electFrom 4 = .ok (.istore_n 3, 1) := by decide +kernel
theorem dX1_electFrom_5 : decode cX1_electFrom 5 = .ok (.iload_n 3, 1) := by decide +kernel
theorem dX1_electFrom_6 : decode cX1_electFrom 6 = .ok (.aload_n 0, 1) := by decide +kernel
theorem dX1_electFrom_7 : decode cX1_electFrom 7 = .ok (.getfield 60, 3) := by decide +kernel
theorem dX1_electFrom_10 : decode cX1_electFrom 10 = .ok (.if_icmp .ge 53, 3) := by decide +kernel
theorem dX1_electFrom_13 : decode cX1_electFrom 13 = .ok (.aload_n 0, 1) := by decide +kernel
