theorem dX5_forge_22 : decode cX5_forge 22 = .ok (.iadd, 1) := by decide +kernel
theorem dX5_forge_23 : decode cX5_forge 23 = .ok (.laload, 1) := by decide +kernel
theorem dX5_forge_24 : decode cX5_forge 24 = .ok (.lstore 5, 2) := by decide +kernel
theorem dX5_forge_26 : decode cX5_forge 26 = .ok (.aload_n 0, 1) := by decide +kernel
theorem dX5_forge_27 : decode cX5_forge 27 = .ok (.getfield 66, 3) := by decide +kernel
theorem dX5_forge_30 : decode cX5_forge 30 = .ok (.bipush 12, 2) := by decide +kernel
theorem dX5_forge_32 : decode cX5_forge 32 = .ok (.iload_n 1, 1) := by decide +kernel
theorem dX5_forge_33 : decode cX5_forge 33 = .ok (.imul, 1) := by decide +kernel
theorem dX5_forge_34 : decode cX5_forge 34 = .ok (.iload_n 2, 1) := by decide +kernel
theorem dX5_forge_35 : decode cX5_forge 35 = .ok (.iadd, 1) := by decide +kernel
theorem dX5_forge_36 : decode cX5_forge 36 = .ok (.lload_n 3, 1) := by decide +kernel
theorem dX5_forge_37 : decode cX5_forge 37 = .ok (.lastore, 1) := by decide +kernel
theorem dX5_forge_38 : decode cX5_forge 38 = .ok (.lload 5, 2) := by decide +kernel
theorem dX5_forge_40 : decode cX5_forge 40 = .ok (.lreturn, 1) := by decide +kernel
theorem dX5_check_0 : decode cX5_check 0 = .ok (.aload_n 0, 1) := by decide +kernel
theorem dX5_check_1 : decode cX5_check 1 = .ok (.getfield 97, 3) := by decide +kernel
theorem dX5_check_4 : decode cX5_check 4 = .ok (.ifCond .ge 6, 3) := by decide +kernel
theorem dX5_check_7 : decode cX5_check 7 = .ok (.bipush (-3), 2) := by decide +kernel
theorem dX5_check_9 : decode cX5_check 9 = .ok (.ireturn, 1) := by decide +kernel
theorem dX5_check_10 : decode cX5_check 10 = .ok (.iconst 0, 1) := by decide +kernel
theorem dX5_check_11 : decode cX5_check 11 = .ok (.istore_n 1, 1) := by decide +kernel
theorem dX5_check_12 : decode cX5_check 12 = .ok (.iload_n 1, 1) := by decide +kernel
theorem dX5_check_13 : decode cX5_check 13 = .ok (.aload_n 0, 1) := by decide +kernel
theorem dX5_check_14 : decode cX5_check 14 = .ok (.getfield 124, 3) := by decide +kernel
theorem dX5_check_17 : decode cX5_check 17 = .ok (.if_icmp .ge 56, 3) := by decide +kernel
theorem dX5_check_20 : decode cX5_check 20 = .ok (.iconst 0, 1) := by decide +kernel
theorem dX5_check_21 : decode cX5_check 21 = .ok (.istore_n 2, 1) := by decide +kernel
theorem dX5_check_22 : decode cX5_check 22 = .ok (.iload_n 2, 1) := by decide +kernel
theorem dX5_check_23 : decode cX5_check 23 = .ok (.aload_n 0, 1) := by decide +kernel
theorem dX5_check_24 : decode cX5_check 24 = .ok (.getfield 207, 3) := by decide +kernel
theorem dX5_check_27 : decode cX5_check 27 = .ok (.if_icmp .ge 40, 3) := by decide +kernel
theorem dX5_check_30 : decode cX5_check 30 = .ok (.aload_n 0, 1) := by decide +kernel
theorem dX5_check_31 : decode cX5_check 31 = .ok (.getfield 66, 3) := by decide +kernel
theorem dX5_check_34 : decode cX5_check 34 = .ok (.bipush 12, 2) := by decide +kernel
theorem dX5_check_36 : decode cX5_check 36 = .ok (.iload_n 1, 1) := by decide +kernel
theorem dX5_check_37 : decode cX5_check 37 = .ok (.imul, 1) := by decide +kernel
theorem dX5_check_38 : decode cX5_check 38 = .ok (.iload_n 2, 1) := by decide +kernel
theorem dX5_check_39 : decode cX5_check 39 = .ok (.iadd, 1) := by decide +kernel
theorem dX5_check_40 : decode cX5_check 40 = .ok (.laload, 1) := by decide +kernel
theorem dX5_check_41 : decode cX5_check 41 = .ok (.aload_n 0, 1) := by decide +kernel
theorem dX5_check_42 : decode cX5_check 42 = .ok (.getfield 51, 3) := by decide +kernel
theorem dX5_check_45 : decode cX5_check 45 = .ok (.bipush 12, 2) := by decide +kernel
theorem dX5_check_47 : decode cX5_check 47 = .ok (.iload_n 1, 1) := by decide +kernel
theorem dX5_check_48 : decode cX5_check 48 = .ok (.imul, 1) := by decide +kernel
theorem dX5_check_49 : decode cX5_check 49 = .ok (.iload_n 2, 1) := by decide +kernel
theorem dX5_check_50 : decode cX5_check 50 = .ok (.iadd, 1) := by decide +kernel
theorem dX5_check_51 : decode cX5_check 51 = .ok (.laload, 1) := by decide +kernel
theorem dX5_check_52 : decode cX5_check 52 = .ok (.lcmp, 1) := by decide +kernel
theorem dX5_check_53 : decode cX5_check 53 = .ok (.ifCond .eq 8, 3) := by decide +kernel
theorem dX5_check_56 : decode cX5_check 56 = .ok (.bipush (-20), 2) := by decide +kernel
theorem dX5_check_58 : decode cX5_check 58 = .ok (.iload_n 1, 1) := by decide +kernel
theorem dX5_check_59 : decode cX5_check 59 = .ok (.isub, 1) := by decide +kernel
theorem dX5_check_60 : decode cX5_check 60 = .ok (.ireturn, 1) := by decide +kernel
theorem dX5_check_61 : decode cX5_check 61 = .ok (.iinc 2 1, 3) := by decide +kernel
theorem dX5_check_64 : decode cX5_check 64 = .ok (.goto (-42), 3) := by decide +kernel
theorem dX5_check_67 : decode cX5_check 67 = .ok (.iinc 1 1, 3) := by decide +kernel
theorem dX5_check_70 : decode cX5_check 70 = .ok (.goto (-58), 3) := by decide +kernel
theorem dX5_check_73 : decode cX5_check 73 = .ok (.iconst 1, 1) := by decide +kernel
theorem dX5_check_74 : decode cX5_check 74 = .ok (.ireturn, 1) := by decide +kernel
theorem dX5_rank_0 : decode cX5_rank 0 = .ok (.bipush 12, 2) := by decide +kernel
theorem dX5_rank_2 : decode cX5_rank 2 = .ok (.istore_n 3, 1) := by decide +kernel
theorem dX5_rank_3 : decode cX5_rank 3 = .ok (.iconst 0, 1) := by decide +kernel
theorem dX5_rank_4 : decode cX5_rank 4 = .ok (.istore 4, 2) := by decide +kernel
theorem dX5_rank_6 : decode cX5_rank 6 = .ok (.iload 4, 2) := by decide +kernel
theorem dX5_rank_8 : decode cX5_rank 8 = .ok (.aload_n 0, 1) := by decide +kernel
theorem dX5_rank_9 : decode cX5_rank 9 = .ok (.getfield 20, 3) := by decide +kernel
theorem dX5_rank_12 : decode cX5_rank 12 = .ok (.iload_n 1, 1) := by decide +kernel
theorem dX5_rank_13 : decode cX5_rank 13 = .ok (.iaload, 1) := by decide +kernel
theorem dX5_rank_14 : decode cX5_rank 14 = .ok (.if_icmp .ge 32, 3) := by decide +kernel
theorem dX5_rank_17 : decode cX5_rank 17 = .ok (.aload_n 0, 1) := by decide +kernel
theorem dX5_rank_18 : decode cX5_rank 18 = .ok (.getfield 23, 3) := by decide +kernel
theorem dX5_rank_21 : decode cX5_rank 21 = .ok (.bipush 12, 2) := by decide +kernel
theorem dX5_rank_23 : decode cX5_rank 23 = .ok (.iload_n 1, 1) := by decide +kernel
theorem dX5_rank_24 : decode cX5_rank 24 = .ok (.imul, 1) := by decide +kernel
theorem dX5_rank_25 : decode cX5_rank 25 = .ok (.iload 4, 2) := by decide +kernel
theorem dX5_rank_27 : decode cX5_rank 27 = .ok (.iadd, 1) := by decide +kernel
theorem dX5_rank_28 : decode cX5_rank 28 = .ok (.iaload, 1) := by decide +kernel
theorem dX5_rank_29 : decode cX5_rank 29 = .ok (.iload_n 2, 1) := by decide +kernel
theorem dX5_rank_30 : decode cX5_rank 30 = .ok (.if_icmp .ne 8, 3) := by decide +kernel
theorem dX5_rank_33 : decode cX5_rank 33 = .ok (.iload 4, 2) := by decide +kernel
theorem dX5_rank_35 : decode cX5_rank 35 = .ok (.goto 4, 3) := by decide +kernel
theorem dX5_rank_38 : decode cX5_rank 38 = .ok (.iload_n 3, 1) := by decide +kernel
theorem dX5_rank_39 : decode cX5_rank 39 = .ok (.istore_n 3, 1) := by decide +kernel
theorem dX5_rank_40 : decode cX5_rank 40 = .ok (.iinc 4 1, 3) := by decide +kernel
theorem dX5_rank_43 : decode cX5_rank 43 = .ok (.goto (-37), 3) := by decide +kernel
theorem dX5_rank_46 : decode cX5_rank 46 = .ok (.iload_n 3, 1) := by decide +kernel
theorem dX5_rank_47 : decode cX5_rank 47 = .ok (.ireturn, 1) := by decide +kernel
set_option maxRecDepth 20000 in
theorem ggX5_preferring_X5_rank : GoodIn wsX5_preferring wsX5_rank := goodIn_r _ [7, 8, 9, 10, 11, 12, 13, 14, 15, 16, 17, 18, 19, 20, 21, 22, 23, 24, 25, 26, 27, 28, 29, 30, 31, 32, 33, 34, 35, 36, 37, 38, 39, 40, 41, 42, 43, 44, 45, 46, 47] (by decide +kernel) (by decide +kernel)
set_option maxRecDepth 20000 in
theorem gX5_preferring_X5_rank : GoodIn wsX5_preferring (wsV RX5 229 RX5 yX5_rank wsX5_rank) := goodIn_app (goodIn_of _ (by decide +kernel)) ggX5_preferring_X5_rank
theorem dX5_preferring_0 : decode cX5_preferring 0 = .ok (.iconst 0, 1) := by decide +kernel
theorem dX5_preferring_1 : decode cX5_preferring 1 = .ok (.istore_n 3, 1) := by decide +kernel
theorem dX5_preferring_2 : decode cX5_preferring 2 = .ok (.iconst 0, 1) := by decide +kernel
theorem dX5_preferring_3 : decode cX5_preferring 3 = .ok (.istore 4, 2) := by decide +kernel
theorem dX5_preferring_5 : decode cX5_preferring 5 = .ok (.iload 4, 2) := by decide +kernel
theorem dX5_preferring_7 : decode cX5_preferring 7 = .ok (.aload_n 0, 1) := by decide +kernel
theorem dX5_preferring_8 : decode cX5_preferring 8 = .ok (.getfield 104, 3) := by decide +kernel
theorem dX5_preferring_11 : decode cX5_preferring 11 = .ok (.if_icmp .ge 40, 3) := by decide +kernel
theorem dX5_preferring_14 : decode cX5_preferring 14 = .ok (.iload_n 3, 1) := by decide +kernel
theorem dX5_preferring_15 : decode cX5_preferring 15 = .ok (.aload_n 0, 1) := by decide +kernel
theorem dX5_preferring_16 : decode cX5_preferring 16 = .ok (.iload 4, 2) := by decide +kernel
theorem dX5_preferring_18 : decode cX5_preferring 18 = .ok (.iload_n 1, 1) := by decide +kernel
theorem dX5_preferring_19 : decode cX5_preferring 19 = .ok (.invokevirtual 229, 3) := by decide +kernel
theorem dX5_preferring_22 : decode cX5_preferring 22 = .ok (.aload_n 0, 1) := by decide +kernel
theorem dX5_preferring_23 : decode cX5_preferring 23 = .ok (.iload 4, 2) := by decide +kernel
theorem dX5_preferring_25 : decode cX5_preferring 25 = .ok (.iload_n 2, 1) := by decide +kernel
theorem dX5_preferring_26 : decode cX5_preferring 26 = .ok (.invokevirtual 229, 3) := by decide +kernel
theorem dX5_preferring_29 : decode cX5_preferring 29 = .ok (.if_icmp .ge 13, 3) := by decide +kernel
theorem dX5_preferring_32 : decode cX5_preferring 32 = .ok (.aload_n 0, 1) := by decide +kernel
theorem dX5_preferring_33 : decode cX5_preferring 33 = .ok (.getfield 17, 3) := by decide +kernel
theorem dX5_preferring_36 : decode cX5_preferring 36 = .ok (.iload 4, 2) := by decide +kernel
theorem dX5_preferring_38 : decode cX5_preferring 38 = .ok (.iaload, 1) := by decide +kernel
theorem dX5_preferring_39 : decode cX5_preferring 39 = .ok (.goto 4, 3) := by decide +kernel
theorem dX5_preferring_42 : decode cX5_preferring 42 = .ok (.iconst 0, 1) := by decide +kernel
theorem dX5_preferring_43 : decode cX5_preferring 43 = .ok (.iadd, 1) := by decide +kernel
theorem dX5_preferring_44 : decode cX5_preferring 44 = .ok (.istore_n 3, 1) := by decide +kernel
theorem dX5_preferring_45 : decode cX5_preferring 45 = .ok (.iinc 4 1, 3) := by decide +kernel
theorem dX5_preferring_48 : decode cX5_preferring 48 = .ok (.goto (-43), 3) := by decide +kernel
theorem dX5_preferring_51 : decode cX5_preferring 51 = .ok (.iload_n 3, 1) := by decide +kernel
theorem dX5_preferring_52 : decode cX5_preferring 52 = .ok (.ireturn, 1) := by decide +kernel
set_option maxRecDepth 20000 in
theorem ggX5_beats_X5_preferring : GoodIn wsX5_beats wsX5_preferring := goodIn_r _ [6, 7, 8, 9, 10, 11, 5, 12, 13, 14, 15, 16, 17, 18, 19, 20, 21, 22, 23, 24, 25, 26, 27, 28, 29, 30, 31, 32, 33, 34, 35, 36, 37, 38, 39, 40, 41, 42, 43, 44, 45, 46, 47, 48, 49, 50, 51, 52] (by decide +kernel) (by decide +kernel)
set_option maxRecDepth 20000 in
theorem gX5_beats_X5_preferring : GoodIn wsX5_beats (wsV RX5 233 RX5 yX5_preferring wsX5_preferring) := goodIn_app (goodIn_of _ (by decide +kernel)) ggX5_beats_X5_preferring
theorem dX5_beats_0 : decode cX5_beats 0 = .ok (.iload_n 1, 1) := by decide +kernel
theorem dX5_beats_1 : decode cX5_beats 1 = .ok (.iload_n 2, 1) := by decide +kernel
theorem dX5_beats_2 : decode cX5_beats 2 = .ok (.if_icmp .eq 40, 3) := by decide +kernel
theorem dX5_beats_5 : decode cX5_beats 5 = .ok (.aload_n 0, 1) := by decide +kernel
theorem dX5_beats_6 : decode cX5_beats 6 = .ok (.getfield 7, 3) := by decide +kernel
theorem dX5_beats_9 : decode cX5_beats 9 = .ok (.iload_n 1, 1) := by decide +kernel
theorem dX5_beats_10 : decode cX5_beats 10 = .ok (.baload, 1) := by decide +kernel
theorem dX5_beats_11 : decode cX5_beats 11 = .ok (.ifCond .ne 31, 3) := by decide +kernel
theorem dX5_beats_14 : decode cX5_beats 14 = .ok (.aload_n 0, 1) := by decide +kernel
theorem dX5_beats_15 : decode cX5_beats 15 = .ok (.getfield 7, 3) := by decide +kernel
theorem dX5_beats_18 : decode cX5_beats 18 = .ok (.iload_n 2, 1) := by decide +kernel
theorem dX5_beats_19 : decode cX5_beats 19 = .ok (.baload, 1) := by decide +kernel
theorem dX5_beats_20 : decode cX5_beats 20 = .ok (.ifCond .ne 22, 3) := by decide +kernel
theorem dX5_beats_23 : decode cX5_beats 23 = .ok (.aload_n 0, 1) := by decide +kernel
theorem dX5_beats_24 : decode cX5_beats 24 = .ok (.iload_n 1, 1) := by decide +kernel
theorem dX5_beats_25 : decode cX5_beats 25 = .ok (.iload_n 2, 1) := by decide +kernel
theorem dX5_beats_26 : decode cX5_beats 26 = .ok (.invokevirtual 233, 3) := by decide +kernel
theorem dX5_beats_29 : decode cX5_beats 29 = .ok (.aload_n 0, 1) := by decide +kernel
theorem dX5_beats_30 : decode cX5_beats 30 = .ok (.iload_n 2, 1) := by decide +kernel
theorem dX5_beats_31 : decode cX5_beats 31 = .ok (.iload_n 1, 1) := by decide +kernel
theorem dX5_beats_32 : decode cX5_beats 32 = .ok (.invokevirtual 233, 3) := by decide +kernel
theorem dX5_beats_35 : decode cX5_beats 35 = .ok (.if_icmp .le 7, 3) := by decide +kernel
theorem dX5_beats_38 : decode cX5_beats 38 = .ok (.iconst 1, 1) := by decide +kernel
theorem dX5_beats_39 : decode cX5_beats 39 = .ok (.goto 4, 3) := by decide +kernel
theorem dX5_beats_42 : decode cX5_beats 42 = .ok (.iconst 0, 1) := by decide +kernel
theorem dX5_beats_43 : decode cX5_beats 43 = .ok (.ireturn, 1) := by decide +kernel
set_option maxRecDepth 20000 in
theorem ggX5_prefer_X5_noOne : GoodIn wsX5_prefer wsX5_noOne := goodIn_r _ [5, 6, 7, 8, 4, 9, 22, 23, 24, 25, 26, 27, 28, 29, 30, 31, 32, 33, 34, 35, 36, 37, 38, 39, 40, 41, 42, 43, 44, 45, 46, 47, 48, 49, 50, 51, 52, 53, 54, 55, 56, 57, 58, 59] (by decide +kernel) (by decide +kernel)
set_option maxRecDepth 20000 in
theorem gX5_prefer_X5_noOne : GoodIn wsX5_prefer (wsV RX5 111 RX5 yX5_noOne wsX5_noOne) := goodIn_app (goodIn_of _ (by decide +kernel)) ggX5_prefer_X5_noOne
set_option maxRecDepth 20000 in
theorem ggX5_prefer_X5_preferring : GoodIn wsX5_prefer wsX5_preferring := goodIn_r _ [13, 14, 15, 16, 17, 18, 4, 19, 20, 21, 22, 23, 24, 25, 26, 27, 28, 29, 30, 31, 32, 33, 34, 35, 36, 37, 38, 39, 40, 41, 42, 43, 44, 45, 46, 47, 48, 49, 50, 51, 52, 53, 54, 55, 56, 57, 58, 59] (by decide +kernel) (by decide +kernel)
set_option maxRecDepth 20000 in
theorem gX5_prefer_X5_preferring : GoodIn wsX5_prefer (wsV RX5 233 RX5 yX5_preferring wsX5_preferring) := goodIn_app (goodIn_of _ (by decide +kernel)) ggX5_prefer_X5_preferring
theorem dX5_prefer_0 : decode cX5_prefer 0 = .ok (.aload_n 0, 1) := by decide +kernel
theorem dX5_prefer_1 : decode cX5_prefer 1 = .ok (.iload_n 1, 1) := by decide +kernel
theorem dX5_prefer_2 : decode cX5_prefer 2 = .ok (.invokevirtual 111, 3) := by decide +kernel
theorem dX5_prefer_5 : decode cX5_prefer 5 = .ok (.ifCond .ne 11, 3) := by decide +kernel
theorem dX5_prefer_8 : decode cX5_prefer 8 = .ok (.aload_n 0, 1) := by decide +kernel
theorem dX5_prefer_9 : decode cX5_prefer 9 = .ok (.iload_n 2, 1) := by decide +kernel
theorem dX5_prefer_10 : decode cX5_prefer 10 = .ok (.invokevirtual 111, 3) := by decide +kernel
theorem dX5_prefer_13 : decode cX5_prefer 13 = .ok (.ifCond .eq 5, 3) := by decide +kernel
theorem dX5_prefer_16 : decode cX5_prefer 16 = .ok (.iconst (-1), 1) := by decide +kernel
theorem dX5_prefer_17 : decode cX5_prefer 17 = .ok (.ireturn, 1) := by decide +kernel
theorem dX5_prefer_18 : decode cX5_prefer 18 = .ok (.iload_n 1, 1) := by decide +kernel
theorem dX5_prefer_19 : decode cX5_prefer 19 = .ok (.iload_n 2, 1) := by decide +kernel
theorem dX5_prefer_20 : decode cX5_prefer 20 = .ok (.if_icmp .ne 8, 3) := by decide +kernel
theorem dX5_prefer_23 : decode cX5_prefer 23 = .ok (.bipush (-3), 2) := by decide +kernel
theorem dX5_prefer_25 : decode cX5_prefer 25 = .ok (.goto 9, 3) := by decide +kernel
theorem dX5_prefer_28 : decode cX5_prefer 28 = .ok (.aload_n 0, 1) := by decide +kernel
theorem dX5_prefer_29 : decode cX5_prefer 29 = .ok (.iload_n 1, 1) := by decide +kernel
theorem dX5_prefer_30 : decode cX5_prefer 30 = .ok (.iload_n 2, 1) := by decide +kernel
theorem dX5_prefer_31 : decode cX5_prefer 31 = .ok (.invokevirtual 233, 3) := by decide +kernel
theorem dX5_prefer_34 : decode cX5_prefer 34 = .ok (.ireturn, 1) := by decide +kernel
set_option maxRecDepth 20000 in
theorem ggX5_winner_X5_beats : GoodIn wsX5_winner wsX5_beats := goodIn_r _ [7, 2, 8, 9, 10, 6, 11, 12, 13, 14, 15, 16, 17, 18, 19, 20, 21, 22, 23, 24, 25, 26, 27, 28, 29, 30, 31, 32, 33, 34, 35, 36, 37, 38, 39, 40, 41, 42, 43, 44, 45, 46, 47, 48, 49, 50, 51, 52, 53, 54, 55, 56, 57] (by decide +kernel) (by decide +kernel)
set_option maxRecDepth 20000 in
theorem gX5_winner_X5_beats : GoodIn wsX5_winner (wsV RX5 236 RX5 yX5_beats wsX5_beats) := goodIn_app (goodIn_of _ (by decide +kernel)) ggX5_winner_X5_beats
theorem dX5_winner_0 : decode cX5_winner 0 = .ok (.iconst 0, 1) := by decide +kernel
theorem dX5_winner_1 : decode cX5_winner 1 = .ok (.istore_n 1, 1) := by decide +kernel
theorem dX5_winner_2 : decode cX5_winner 2 = .ok (.iload_n 1, 1) := by decide +kernel
theorem dX5_winner_3 : decode cX5_winner 3 = .ok (.aload_n 0, 1) := by decide +kernel
theorem dX5_winner_4 : decode cX5_winner 4 = .ok (.getfield 101, 3) := by decide +kernel
theorem dX5_winner_7 : decode cX5_winner 7 = .ok (.if_icmp .ge 79, 3) := by decide +kernel
theorem dX5_winner_10 : decode cX5_winner 10 = .ok (.aload_n 0, 1) := by decide +kernel
theorem dX5_winner_11 : decode cX5_winner 11 = .ok (.getfield 7, 3) := by decide +kernel
theorem dX5_winner_14 : decode cX5_winner 14 = .ok (.iload_n 1, 1) := by decide +kernel
theorem dX5_winner_15 : decode cX5_winner 15 = .ok (.baload, 1) := by decide +kernel
theorem dX5_winner_16 : decode cX5_winner 16 = .ok (.ifCond .ne 7, 3) := by decide +kernel
theorem dX5_winner_19 : decode cX5_winner 19 = .ok (.iconst 1, 1) := by decide +kernel
theorem dX5_winner_20 : decode cX5_winner 20 = .ok (.goto 4, 3) := by decide +kernel
theorem dX5_winner_23 : decode cX5_winner 23 = .ok (.iconst 0, 1) := by decide +kernel
theorem dX5_winner_24 : decode cX5_winner 24 = .ok (.istore_n 2, 1) := by decide +kernel
theorem dX5_winner_25 : decode cX5_winner 25 = .ok (.iconst 0, 1) := by decide +kernel
theorem dX5_winner_26 : decode cX5_winner 26 = .ok (.istore_n 3, 1) := by decide +kernel
theorem dX5_winner_27 : decode cX5_winner 27 = .ok (.iload_n 3, 1) := by decide +kernel
theorem dX5_winner_28 : decode cX5_winner 28 = .ok (.aload_n 0, 1) := by decide +kernel
theorem dX5_winner_29 : decode cX5_winner 29 = .ok (.getfield 101, 3) := by decide +kernel
theorem dX5_winner_32 : decode cX5_winner 32 = .ok (.if_icmp .ge 42, 3) := by decide +kernel
theorem dX5_winner_35 : decode cX5_winner 35 = .ok (.iload_n 2, 1) := by decide +kernel
theorem dX5_winner_36 : decode cX5_winner 36 = .ok (.ifCond .eq 38, 3) := by decide +kernel
theorem dX5_winner_39 : decode cX5_winner 39 = .ok (.iload_n 1, 1) := by decide +kernel
theorem dX5_winner_40 : decode cX5_winner 40 = .ok (.iload_n 3, 1) := by decide +kernel
theorem dX5_winner_41 : decode cX5_winner 41 = .ok (.if_icmp .eq 21, 3) := by decide +kernel
theorem dX5_winner_44 : decode cX5_winner 44 = .ok (.aload_n 0, 1) := by decide +kernel
theorem dX5_winner_45 : decode cX5_winner 45 = .ok (.getfield 7, 3) := by decide +kernel
theorem dX5_winner_48 : decode cX5_winner 48 = .ok (.iload_n 3, 1) := by decide +kernel
theorem dX5_winner_49 : decode cX5_winner 49 = .ok (.baload, 1) := by decide +kernel
theorem dX5_winner_50 : decode cX5_winner 50 = .ok (.ifCond .ne 12, 3) := by decide +kernel
theorem dX5_winner_53 : decode cX5_winner 53 = .ok (.aload_n 0, 1) := by decide +kernel
theorem dX5_winner_54 : decode cX5_winner 54 = .ok (.iload_n 1, 1) := by decide +kernel
theorem dX5_winner_55 : decode cX5_winner 55 = .ok (.iload_n 3, 1) := by decide +kernel
theorem dX5_winner_56 : decode cX5_winner 56 = .ok (.invokevirtual 236, 3) := by decide +kernel
theorem dX5_winner_59 : decode cX5_winner 59 = .ok (.ifCond .eq 7, 3) := by decide +kernel
theorem dX5_winner_62 : decode cX5_winner 62 = .ok (.iconst 1, 1) := by decide +kernel
theorem dX5_winner_63 : decode cX5_winner 63 = .ok (.goto 4, 3) := by decide +kernel
theorem dX5_winner_66 : decode cX5_winner 66 = .ok (.iconst 0, 1) := by decide +kernel
theorem dX5_winner_67 : decode cX5_winner 67 = .ok (.istore_n 2, 1) := by decide +kernel
theorem dX5_winner_68 : decode cX5_winner 68 = .ok (.iinc 3 1, 3) := by decide +kernel
theorem dX5_winner_71 : decode cX5_winner 71 = .ok (.goto (-44), 3) := by decide +kernel
theorem dX5_winner_74 : decode cX5_winner 74 = .ok (.iload_n 2, 1) := by decide +kernel
theorem dX5_winner_75 : decode cX5_winner 75 = .ok (.ifCond .eq 5, 3) := by decide +kernel
theorem dX5_winner_78 : decode cX5_winner 78 = .ok (.iload_n 1, 1) := by decide +kernel
theorem dX5_winner_79 : decode cX5_winner 79 = .ok (.ireturn, 1) := by decide +kernel
theorem dX5_winner_80 : decode cX5_winner 80 = .ok (.iinc 1 1, 3) := by decide +kernel
theorem dX5_winner_83 : decode cX5_winner 83 = .ok (.goto (-81), 3) := by decide +kernel
theorem dX5_winner_86 : decode cX5_winner 86 = .ok (.bipush (-9), 2) := by decide +kernel
theorem dX5_winner_88 : decode cX5_winner 88 = .ok (.ireturn, 1) := by decide +kernel
set_option maxRecDepth 20000 in
theorem ggX5_leads_X5_noOne : GoodIn wsX5_leads wsX5_noOne := goodIn_r _ [7, 1, 8, 9, 6, 10, 28, 29, 30, 31, 32, 33, 34, 35, 36, 37, 38, 39, 40, 41, 42, 43, 44, 45, 46, 47, 48, 49, 50, 51, 52, 53, 54, 55, 56, 57, 58, 59, 60, 61, 62, 63, 64, 65] (by decide +kernel) (by decide +kernel)
set_option maxRecDepth 20000 in
theorem gX5_leads_X5_noOne : GoodIn wsX5_leads (wsV RX5 111 RX5 yX5_noOne wsX5_noOne) := goodIn_app (goodIn_of _ (by decide +kernel)) ggX5_leads_X5_noOne
set_option maxRecDepth 20000 in
theorem ggX5_leads_X5_beats : GoodIn wsX5_leads wsX5_beats := goodIn_r _ [14, 15, 16, 17, 18, 6, 19, 20, 21, 22, 23, 24, 25, 26, 27, 28, 29, 30, 31, 32, 33, 34, 35, 36, 37, 38, 39, 40, 41, 42, 43, 44, 45, 46, 47, 48, 49, 50, 51, 52, 53, 54, 55, 56, 57, 58, 59, 60, 61, 62, 63, 64, 65] (by decide +kernel) (by decide +kernel)
set_option maxRecDepth 20000 in
theorem gX5_leads_X5_beats : GoodIn wsX5_leads (wsV RX5 236 RX5 yX5_beats wsX5_beats) := goodIn_app (goodIn_of _ (by decide +kernel)) ggX5_leads_X5_beats
theorem dX5_leads_0 : decode cX5_leads 0 = .ok (.aload_n 0, 1) := by decide +kernel
theorem dX5_leads_1 : decode cX5_leads 1 = .ok (.iload_n 1, 1) := by decide +kernel
theorem dX5_leads_2 : decode cX5_leads 2 = .ok (.invokevirtual 111, 3) := by decide +kernel
theorem dX5_leads_5 : decode cX5_leads 5 = .ok (.ifCond .eq 5, 3) := by decide +kernel
theorem dX5_leads_8 : decode cX5_leads 8 = .ok (.iconst (-1), 1) := by decide +kernel
theorem dX5_leads_9 : decode cX5_leads 9 = .ok (.ireturn, 1) := by decide +kernel
theorem dX5_leads_10 : decode cX5_leads 10 = .ok (.iconst 0, 1) := by decide +kernel
theorem dX5_leads_11 : decode cX5_leads 11 = .ok (.istore_n 2, 1) := by decide +kernel
theorem dX5_leads_12 : decode cX5_leads 12 = .ok (.iload_n 2, 1) := by decide +kernel
theorem dX5_leads_13 : decode cX5_leads 13 = .ok (.aload_n 0, 1) := by decide +kernel
theorem dX5_leads_14 : decode cX5_leads 14 = .ok (.getfield 101, 3) := by decide +kernel
theorem dX5_leads_17 : decode cX5_leads 17 = .ok (.if_icmp .ge 21, 3) := by decide +kernel
theorem dX5_leads_20 : decode cX5_leads 20 = .ok (.aload_n 0, 1) := by decide +kernel
theorem dX5_leads_21 : decode cX5_leads 21 = .ok (.getfield 90, 3) := by decide +kernel
theorem dX5_leads_24 : decode cX5_leads 24 = .ok (.iload_n 2, 1) := by decide +kernel
theorem dX5_leads_25 : decode cX5_leads 25 = .ok (.aload_n 0, 1) := by decide +kernel
theorem dX5_leads_26 : decode cX5_leads 26 = .ok (.iload_n 1, 1) := by decide +kernel
theorem dX5_leads_27 : decode cX5_leads 27 = .ok (.iload_n 2, 1) := by decide +kernel
theorem dX5_leads_28 : decode cX5_leads 28 = .ok (.invokevirtual 236, 3) := by decide +kernel
theorem dX5_leads_31 : decode cX5_leads 31 = .ok (.bastore, 1) := by decide +kernel
theorem dX5_leads_32 : decode cX5_leads 32 = .ok (.iinc 2 1, 3) := by decide +kernel
theorem dX5_leads_35 : decode cX5_leads 35 = .ok (.goto (-23), 3) := by decide +kernel
theorem dX5_leads_38 : decode cX5_leads 38 = .ok (.iconst 1, 1) := by decide +kernel
theorem dX5_leads_39 : decode cX5_leads 39 = .ok (.istore_n 2, 1) := by decide +kernel
theorem dX5_leads_40 : decode cX5_leads 40 = .ok (.iload_n 2, 1) := by decide +kernel
theorem dX5_leads_41 : decode cX5_leads 41 = .ok (.ifCond .eq 81, 3) := by decide +kernel
theorem dX5_leads_44 : decode cX5_leads 44 = .ok (.iconst 0, 1) := by decide +kernel
theorem dX5_leads_45 : decode cX5_leads 45 = .ok (.istore_n 2, 1) := by decide +kernel
theorem dX5_leads_46 : decode cX5_leads 46 = .ok (.iconst 0, 1) := by decide +kernel
theorem dX5_leads_47 : decode cX5_leads 47 = .ok (.istore_n 3, 1) := by decide +kernel
theorem dX5_leads_48 : decode cX5_leads 48 = .ok (.iload_n 3, 1) := by decide +kernel
theorem dX5_leads_49 : decode cX5_leads 49 = .ok (.aload_n 0, 1) := by decide +kernel
theorem dX5_leads_50 : decode cX5_leads 50 = .ok (.getfield 101, 3) := by decide +kernel
theorem dX5_leads_53 : decode cX5_leads 53 = .ok (.if_icmp .ge 66, 3) := by decide +kernel
theorem dX5_leads_56 : decode cX5_leads 56 = .ok (.iconst 0, 1) := by decide +kernel
theorem dX5_leads_57 : decode cX5_leads 57 = .ok (.istore 4, 2) := by decide +kernel
theorem dX5_leads_59 : decode cX5_leads 59 = .ok (.iload 4, 2) := by decide +kernel
theorem dX5_leads_61 : decode cX5_leads 61 = .ok (.aload_n 0, 1) := by decide +kernel
theorem dX5_leads_62 : decode cX5_leads 62 = .ok (.getfield 101, 3) := by decide +kernel
theorem dX5_leads_65 : decode cX5_leads 65 = .ok (.if_icmp .ge 48, 3) := by decide +kernel
theorem dX5_leads_68 : decode cX5_leads 68 = .ok (.aload_n 0, 1) := by decide +kernel
theorem dX5_leads_69 : decode cX5_leads 69 = .ok (.getfield 90, 3) := by decide +kernel
theorem dX5_leads_72 : decode cX5_leads 72 = .ok (.iload_n 3, 1) := by decide +kernel
theorem dX5_leads_73 : decode cX5_leads 73 = .ok (.baload, 1) := by decide +kernel
theorem dX5_leads_74 : decode cX5_leads 74 = .ok (.ifCond .eq 33, 3) := by decide +kernel
theorem dX5_leads_77 : decode cX5_leads 77 = .ok (.aload_n 0, 1) := by decide +kernel
theorem dX5_leads_78 : decode cX5_leads 78 = .ok (.getfield 90, 3) := by decide +kernel
theorem dX5_leads_81 : decode cX5_leads 81 = .ok (.iload 4, 2) := by decide +kernel
theorem dX5_leads_83 : decode cX5_leads 83 = .ok (.baload, 1) := by decide +kernel
theorem dX5_leads_84 : decode cX5_leads 84 = .ok (.ifCond .ne 23, 3) := by decide +kernel
theorem dX5_leads_87 : decode cX5_leads 87 = .ok (.aload_n 0, 1) := by decide +kernel
theorem dX5_leads_88 : decode cX5_leads 88 = .ok (.iload_n 3, 1) := by decide +kernel
theorem dX5_leads_89 : decode cX5_leads 89 = .ok (.iload 4, 2) := by decide +kernel
theorem dX5_leads_91 : decode cX5_leads 91 = .ok (.invokevirtual 236, 3) := by decide +kernel
theorem dX5_leads_94 : decode cX5_leads 94 = .ok (.ifCond .eq 13, 3) := by decide +kernel
theorem dX5_leads_97 : decode cX5_leads 97 = .ok (.aload_n 0, 1) := by decide +kernel
theorem dX5_leads_98 : decode cX5_leads 98 = .ok (.getfield 90, 3) := by decide +kernel
theorem dX5_leads_101 : decode cX5_leads 101 = .ok (.iload 4, 2) := by decide +kernel
theorem dX5_leads_103 : decode cX5_leads 103 = .ok (.iconst 1, 1) := by decide +kernel
theorem dX5_leads_104 : decode cX5_leads 104 = .ok (.bastore, 1) := by decide +kernel
theorem dX5_leads_105 : decode cX5_leads 105 = .ok (.iconst 1, 1) := by decide +kernel
theorem dX5_leads_106 : decode cX5_leads 106 = .ok (.istore_n 2, 1) := by decide +kernel
theorem dX5_leads_107 : decode cX5_leads 107 = .ok (.iinc 4 1, 3) := by decide +kernel
theorem dX5_leads_110 : decode cX5_leads 110 = .ok (.goto (-51), 3) := by decide +kernel
theorem dX5_leads_113 : decode cX5_leads 113 = .ok (.iinc 3 1, 3) := by decide +kernel
theorem dX5_leads_116 : decode cX5_leads 116 = .ok (.goto (-68), 3) := by decide +kernel
theorem dX5_leads_119 : decode cX5_leads 119 = .ok (.goto (-79), 3) := by decide +kernel
theorem dX5_leads_122 : decode cX5_leads 122 = .ok (.iconst 0, 1) := by decide +kernel
theorem dX5_leads_123 : decode cX5_leads 123 = .ok (.istore_n 3, 1) := by decide +kernel
theorem dX5_leads_124 : decode cX5_leads 124 = .ok (.iconst 0, 1) := by decide +kernel
theorem dX5_leads_125 : decode cX5_leads 125 = .ok (.istore 4, 2) := by decide +kernel
theorem dX5_leads_127 : decode cX5_leads 127 = .ok (.iload 4, 2) := by decide +kernel
theorem dX5_leads_129 : decode cX5_leads 129 = .ok (.aload_n 0, 1) := by decide +kernel
theorem dX5_leads_130 : decode cX5_leads 130 = .ok (.getfield 101, 3) := by decide +kernel
theorem dX5_leads_133 : decode cX5_leads 133 = .ok (.if_icmp .ge 27, 3) := by decide +kernel
theorem dX5_leads_136 : decode cX5_leads 136 = .ok (.iload_n 3, 1) := by decide +kernel
theorem dX5_leads_137 : decode cX5_leads 137 = .ok (.aload_n 0, 1) := by decide +kernel
theorem dX5_leads_138 : decode cX5_leads 138 = .ok (.getfield 90, 3) := by decide +kernel
theorem dX5_leads_141 : decode cX5_leads 141 = .ok (.iload 4, 2) := by decide +kernel
theorem dX5_leads_143 : decode cX5_leads 143 = .ok (.baload, 1) := by decide +kernel
theorem dX5_leads_144 : decode cX5_leads 144 = .ok (.ifCond .eq 7, 3) := by decide +kernel
theorem dX5_leads_147 : decode cX5_leads 147 = .ok (.iconst 1, 1) := by decide +kernel
theorem dX5_leads_148 : decode cX5_leads 148 = .ok (.goto 4, 3) := by decide +kernel
theorem dX5_leads_151 : decode cX5_leads 151 = .ok (.iconst 0, 1) := by decide +kernel
theorem dX5_leads_152 : decode cX5_leads 152 = .ok (.iadd, 1) := by decide +kernel
theorem dX5_leads_153 : decode cX5_leads 153 = .ok (.istore_n 3, 1) := by decide +kernel
theorem dX5_leads_154 : decode cX5_leads 154 = .ok (.iinc 4 1, 3) := by decide +kernel
theorem dX5_leads_157 : decode cX5_leads 157 = .ok (.goto (-30), 3) := by decide +kernel
theorem dX5_leads_160 : decode cX5_leads 160 = .ok (.iload_n 3, 1) := by decide +kernel
theorem dX5_leads_161 : decode cX5_leads 161 = .ok (.ireturn, 1) := by decide +kernel
set_option maxRecDepth 20000 in
theorem ggX5_points_X5_noOne : GoodIn wsX5_points wsX5_noOne := goodIn_r _ [9, 2, 10, 11, 8, 12, 19, 20, 21, 22, 23, 24, 25, 26, 27, 28, 29, 30, 31, 32, 33, 34, 35, 36, 37, 38, 39, 40, 41, 42, 43, 44, 45, 46, 47, 48, 49, 50, 51, 52, 53, 54, 55, 56] (by decide +kernel) (by decide +kernel)
set_option maxRecDepth 20000 in
theorem gX5_points_X5_noOne : GoodIn wsX5_points (wsV RX5 111 RX5 yX5_noOne wsX5_noOne) := goodIn_app (goodIn_of _ (by decide +kernel)) ggX5_points_X5_noOne
set_option maxRecDepth 20000 in
theorem ggX5_points_X5_rank : GoodIn wsX5_points wsX5_rank := goodIn_r _ [16, 17, 18, 19, 20, 21, 22, 23, 24, 25, 26, 27, 28, 29, 30, 31, 32, 33, 34, 35, 36, 37, 38, 39, 40, 41, 42, 43, 44, 45, 46, 47, 48, 49, 50, 51, 52, 53, 54, 55, 56] (by decide +kernel) (by decide +kernel)
set_option maxRecDepth 20000 in
theorem gX5_points_X5_rank : GoodIn wsX5_points (wsV RX5 229 RX5 yX5_rank wsX5_rank) := goodIn_app (goodIn_of _ (by decide +kernel)) ggX5_points_X5_rank
theorem dX5_points_0 : decode cX5_points 0 = .ok (.aload_n 0, 1) := by decide +kernel
theorem dX5_points_1 : decode cX5_points 1 = .ok (.iload_n 1, 1) := by decide +kernel
theorem dX5_points_2 : decode cX5_points 2 = .ok (.invokevirtual 111, 3) := by decide +kernel
theorem dX5_points_5 : decode cX5_points 5 = .ok (.ifCond .eq 5, 3) := by decide +kernel
theorem dX5_points_8 : decode cX5_points 8 = .ok (.iconst (-1), 1) := by decide +kernel
theorem dX5_points_9 : decode cX5_points 9 = .ok (.ireturn, 1) := by decide +kernel
theorem dX5_points_10 : decode cX5_points 10 = .ok (.iconst 0, 1) := by decide +kernel
theorem dX5_points_11 : decode cX5_points 11 = .ok (.istore_n 2, 1) := by decide +kernel
theorem dX5_points_12 : decode cX5_points 12 = .ok (.iconst 0, 1) := by decide +kernel
theorem dX5_points_13 : decode cX5_points 13 = .ok (.istore_n 3, 1) := by decide +kernel
theorem dX5_points_14 : decode cX5_points 14 = .ok (.iload_n 3, 1) := by decide +kernel
theorem dX5_points_15 : decode cX5_points 15 = .ok (.aload_n 0, 1) := by decide +kernel
theorem dX5_points_16 : decode cX5_points 16 = .ok (.getfield 104, 3) := by decide +kernel
theorem dX5_points_19 : decode cX5_points 19 = .ok (.if_icmp .ge 66, 3) := by decide +kernel
theorem dX5_points_22 : decode cX5_points 22 = .ok (.iconst 0, 1) := by decide +kernel
theorem dX5_points_23 : decode cX5_points 23 = .ok (.istore 4, 2) := by decide +kernel
theorem dX5_points_25 : decode cX5_points 25 = .ok (.iload 4, 2) := by decide +kernel
theorem dX5_points_27 : decode cX5_points 27 = .ok (.aload_n 0, 1) := by decide +kernel
theorem dX5_points_28 : decode cX5_points 28 = .ok (.getfield 101, 3) := by decide +kernel
theorem dX5_points_31 : decode cX5_points 31 = .ok (.if_icmp .ge 48, 3) := by decide +kernel
theorem dX5_points_34 : decode cX5_points 34 = .ok (.iload_n 2, 1) := by decide +kernel
theorem dX5_points_35 : decode cX5_points 35 = .ok (.aload_n 0, 1) := by decide +kernel
theorem dX5_points_36 : decode cX5_points 36 = .ok (.getfield 7, 3) := by decide +kernel
theorem dX5_points_39 : decode cX5_points 39 = .ok (.iload 4, 2) := by decide +kernel
theorem dX5_points_41 : decode cX5_points 41 = .ok (.baload, 1) := by decide +kernel
theorem dX5_points_42 : decode cX5_points 42 = .ok (.ifCond .ne 28, 3) := by decide +kernel
theorem dX5_points_45 : decode cX5_points 45 = .ok (.aload_n 0, 1) := by decide +kernel
theorem dX5_points_46 : decode cX5_points 46 = .ok (.iload_n 3, 1) := by decide +kernel
theorem dX5_points_47 : decode cX5_points 47 = .ok (.iload_n 1, 1) := by decide +kernel
theorem dX5_points_48 : decode cX5_points 48 = .ok (.invokevirtual 229, 3) := by decide +kernel
theorem dX5_points_51 : decode cX5_points 51 = .ok (.aload_n 0, 1) := by decide +kernel
theorem dX5_points_52 : decode cX5_points 52 = .ok (.iload_n 3, 1) := by decide +kernel
theorem dX5_points_53 : decode cX5_points 53 = .ok (.iload 4, 2) := by decide +kernel
theorem dX5_points_55 : decode cX5_points 55 = .ok (.invokevirtual 229, 3) := by decide +kernel
theorem dX5_points_58 : decode cX5_points 58 = .ok (.if_icmp .ge 12, 3) := by decide +kernel
theorem dX5_points_61 : decode cX5_points 61 = .ok (.aload_n 0, 1) := by decide +kernel
theorem dX5_points_62 : decode cX5_points 62 = .ok (.getfield 17, 3) := by decide +kernel
theorem dX5_points_65 : decode cX5_points 65 = .ok (.iload_n 3, 1) := by decide +kernel
theorem dX5_points_66 : decode cX5_points 66 = .ok (.iaload, 1) := by decide +kernel
theorem dX5_points_67 : decode cX5_points 67 = .ok (.goto 4, 3) := by decide +kernel
theorem dX5_points_70 : decode cX5_points 70 = .ok (.iconst 0, 1) := by decide +kernel
theorem dX5_points_71 : decode cX5_points 71 = .ok (.iadd, 1) := by decide +kernel
theorem dX5_points_72 : decode cX5_points 72 = .ok (.istore_n 2, 1) := by decide +kernel
theorem dX5_points_73 : decode cX5_points 73 = .ok (.iinc 4 1, 3) := by decide +kernel
theorem dX5_points_76 : decode cX5_points 76 = .ok (.goto (-51), 3) := by decide +kernel
theorem dX5_points_79 : decode cX5_points 79 = .ok (.iinc 3 1, 3) := by decide +kernel
theorem dX5_points_82 : decode cX5_points 82 = .ok (.goto (-68), 3) := by decide +kernel
theorem dX5_points_85 : decode cX5_points 85 = .ok (.iload_n 2, 1) := by decide +kernel
theorem dX5_points_86 : decode cX5_points 86 = .ok (.ireturn, 1) := by decide +kernel
set_option maxRecDepth 20000 in
theorem ggX5_told_X5_validPapers : GoodIn wsX5_told wsX5_validPapers := goodIn_r _ [11, 2, 12, 13, 14, 15, 10, 16, 17, 6, 18, 19, 20, 21, 22, 23, 24, 25, 26, 27, 28, 29, 30, 31, 32, 33, 34, 35, 36, 37, 38, 39, 40, 41, 42, 43, 44, 45, 46, 47, 48, 49, 50, 51, 52, 53, 54, 55, 56] (by decide +kernel) (by decide +kernel)
set_option maxRecDepth 20000 in
theorem gX5_told_X5_validPapers : GoodIn wsX5_told (wsV RX5 173 RX5 yX5_validPapers wsX5_validPapers) := goodIn_app (goodIn_of _ (by decide +kernel)) ggX5_told_X5_validPapers
theorem dX5_told_0 : decode cX5_told 0 = .ok (.iload_n 1, 1) := by decide +kernel
theorem dX5_told_1 : decode cX5_told 1 = .ok (.tableswitch 110 0 6 #[43, 48, 53, 58, 63, 68, 73], 43) := by decide +kernel
theorem dX5_told_44 : decode cX5_told 44 = .ok (.aload_n 0, 1) := by decide +kernel
theorem dX5_told_45 : decode cX5_told 45 = .ok (.getfield 101, 3) := by decide +kernel
theorem dX5_told_48 : decode cX5_told 48 = .ok (.ireturn, 1) := by decide +kernel
theorem dX5_told_49 : decode cX5_told 49 = .ok (.aload_n 0, 1) := by decide +kernel
theorem dX5_told_50 : decode cX5_told 50 = .ok (.getfield 104, 3) := by decide +kernel
theorem dX5_told_53 : decode cX5_told 53 = .ok (.ireturn, 1) := by decide +kernel
theorem dX5_told_54 : decode cX5_told 54 = .ok (.aload_n 0, 1) := by decide +kernel
theorem dX5_told_55 : decode cX5_told 55 = .ok (.invokevirtual 173, 3) := by decide +kernel
theorem dX5_told_58 : decode cX5_told 58 = .ok (.ireturn, 1) := by decide +kernel
theorem dX5_told_59 : decode cX5_told 59 = .ok (.aload_n 0, 1) := by decide +kernel
theorem dX5_told_60 : decode cX5_told 60 = .ok (.getfield 124, 3) := by decide +kernel
theorem dX5_told_63 : decode cX5_told 63 = .ok (.ireturn, 1) := by decide +kernel
theorem dX5_told_64 : decode cX5_told 64 = .ok (.aload_n 0, 1) := by decide +kernel
theorem dX5_told_65 : decode cX5_told 65 = .ok (.getfield 135, 3) := by decide +kernel
theorem dX5_told_68 : decode cX5_told 68 = .ok (.ireturn, 1) := by decide +kernel
theorem dX5_told_69 : decode cX5_told 69 = .ok (.aload_n 0, 1) := by decide +kernel
theorem dX5_told_70 : decode cX5_told 70 = .ok (.getfield 97, 3) := by decide +kernel
theorem dX5_told_73 : decode cX5_told 73 = .ok (.ireturn, 1) := by decide +kernel
theorem dX5_told_74 : decode cX5_told 74 = .ok (.iconst 0, 1) := by decide +kernel
theorem dX5_told_75 : decode cX5_told 75 = .ok (.istore_n 2, 1) := by decide +kernel
theorem dX5_told_76 : decode cX5_told 76 = .ok (.iconst 0, 1) := by decide +kernel
theorem dX5_told_77 : decode cX5_told 77 = .ok (.istore_n 3, 1) := by decide +kernel
theorem dX5_told_78 : decode cX5_told 78 = .ok (.iload_n 3, 1) := by decide +kernel
theorem dX5_told_79 : decode cX5_told 79 = .ok (.aload_n 0, 1) := by decide +kernel
theorem dX5_told_80 : decode cX5_told 80 = .ok (.getfield 101, 3) := by decide +kernel
theorem dX5_told_83 : decode cX5_told 83 = .ok (.if_icmp .ge 26, 3) := by decide +kernel
theorem dX5_told_86 : decode cX5_told 86 = .ok (.iload_n 2, 1) := by decide +kernel
theorem dX5_told_87 : decode cX5_told 87 = .ok (.aload_n 0, 1) := by decide +kernel
theorem dX5_told_88 : decode cX5_told 88 = .ok (.getfield 7, 3) := by decide +kernel
theorem dX5_told_91 : decode cX5_told 91 = .ok (.iload_n 3, 1) := by decide +kernel
theorem dX5_told_92 : decode cX5_told 92 = .ok (.baload, 1) := by decide +kernel
theorem dX5_told_93 : decode cX5_told 93 = .ok (.ifCond .eq 7, 3) := by decide +kernel
theorem dX5_told_96 : decode cX5_told 96 = .ok (.iconst 1, 1) := by decide +kernel
theorem dX5_told_97 : decode cX5_told 97 = .ok (.goto 4, 3) := by decide +kernel
theorem dX5_told_100 : decode cX5_told 100 = .ok (.iconst 0, 1) := by decide +kernel
theorem dX5_told_101 : decode cX5_told 101 = .ok (.iadd, 1) := by decide +kernel
theorem dX5_told_102 : decode cX5_told 102 = .ok (.istore_n 2, 1) := by decide +kernel
theorem dX5_told_103 : decode cX5_told 103 = .ok (.iinc 3 1, 3) := by decide +kernel
theorem dX5_told_106 : decode cX5_told 106 = .ok (.goto (-28), 3) := by decide +kernel
theorem dX5_told_109 : decode cX5_told 109 = .ok (.iload_n 2, 1) := by decide +kernel
theorem dX5_told_110 : decode cX5_told 110 = .ok (.ireturn, 1) := by decide +kernel
theorem dX5_told_111 : decode cX5_told 111 = .ok (.bipush (-2), 2) := by decide +kernel
theorem dX5_told_113 : decode cX5_told 113 = .ok (.ireturn, 1) := by decide +kernel
theorem dJ6_bitCount_0f7a4_0 : decode cJ6_bitCount_0f7a4 0 = .ok (.iload_n 0, 1) := by decide +kernel
theorem dJ6_bitCount_0f7a4_1 : decode cJ6_bitCount_0f7a4 1 = .ok (.iload_n 0, 1) := by decide +kernel
theorem dJ6_bitCount_0f7a4_2 : decode cJ6_bitCount_0f7a4 2 = .ok (.iconst 1, 1) := by decide +kernel
theorem dJ6_bitCount_0f7a4_3 : decode cJ6_bitCount_0f7a4 3 = .ok (.iushr, 1) := by decide +kernel
theorem dJ6_bitCount_0f7a4_4 : decode cJ6_bitCount_0f7a4 4 = .ok (.ldc_w 265, 3) := by decide +kernel
theorem dJ6_bitCount_0f7a4_7 : decode cJ6_bitCount_0f7a4 7 = .ok (.iand, 1) := by decide +kernel
theorem dJ6_bitCount_0f7a4_8 : decode cJ6_bitCount_0f7a4 8 = .ok (.isub, 1) := by decide +kernel
theorem dJ6_bitCount_0f7a4_9 : decode cJ6_bitCount_0f7a4 9 = .ok (.istore_n 0, 1) := by decide +kernel
theorem dJ6_bitCount_0f7a4_10 : decode cJ6_bitCount_0f7a4 10 = .ok (.iload_n 0, 1) := by decide +kernel
theorem dJ6_bitCount_0f7a4_11 : decode cJ6_bitCount_0f7a4 11 = .ok (.ldc_w 266, 3) := by decide +kernel
theorem dJ6_bitCount_0f7a4_14 : decode cJ6_bitCount_0f7a4 14 = .ok (.iand, 1) := by decide +kernel
theorem dJ6_bitCount_0f7a4_15 : decode cJ6_bitCount_0f7a4 15 = .ok (.iload_n 0, 1) := by decide +kernel
theorem dJ6_bitCount_0f7a4_16 : decode cJ6_bitCount_0f7a4 16 = .ok (.iconst 2, 1) := by decide +kernel
theorem dJ6_bitCount_0f7a4_17 : decode cJ6_bitCount_0f7a4 17 = .ok (.iushr, 1) := by decide +kernel
theorem dJ6_bitCount_0f7a4_18 : decode cJ6_bitCount_0f7a4 18 = .ok (.ldc_w 266, 3) := by decide +kernel
theorem dJ6_bitCount_0f7a4_21 : decode cJ6_bitCount_0f7a4 21 = .ok (.iand, 1) := by decide +kernel
theorem dJ6_bitCount_0f7a4_22 : decode cJ6_bitCount_0f7a4 22 = .ok (.iadd, 1) := by decide +kernel
theorem dJ6_bitCount_0f7a4_23 : decode cJ6_bitCount_0f7a4 23 = .ok (.istore_n 0, 1) := by decide +kernel
theorem dJ6_bitCount_0f7a4_24 : decode cJ6_bitCount_0f7a4 24 = .ok (.iload_n 0, 1) := by decide +kernel
theorem dJ6_bitCount_0f7a4_25 : decode cJ6_bitCount_0f7a4 25 = .ok (.iload_n 0, 1) := by decide +kernel
theorem dJ6_bitCount_0f7a4_26 : decode cJ6_bitCount_0f7a4 26 = .ok (.iconst 4, 1) := by decide +kernel
theorem dJ6_bitCount_0f7a4_27 : decode cJ6_bitCount_0f7a4 27 = .ok (.iushr, 1) := by decide +kernel
theorem dJ6_bitCount_0f7a4_28 : decode cJ6_bitCount_0f7a4 28 = .ok (.iadd, 1) := by decide +kernel
theorem dJ6_bitCount_0f7a4_29 : decode cJ6_bitCount_0f7a4 29 = .ok (.ldc_w 267, 3) := by decide +kernel
theorem dJ6_bitCount_0f7a4_32 : decode cJ6_bitCount_0f7a4 32 = .ok (.iand, 1) := by decide +kernel
theorem dJ6_bitCount_0f7a4_33 : decode cJ6_bitCount_0f7a4 33 = .ok (.istore_n 0, 1) := by decide +kernel
theorem dJ6_bitCount_0f7a4_34 : decode cJ6_bitCount_0f7a4 34 = .ok (.iload_n 0, 1) := by decide +kernel
theorem dJ6_bitCount_0f7a4_35 : decode cJ6_bitCount_0f7a4 35 = .ok (.iload_n 0, 1) := by decide +kernel
theorem dJ6_bitCount_0f7a4_36 : decode cJ6_bitCount_0f7a4 36 = .ok (.bipush 8, 2) := by decide +kernel
theorem dJ6_bitCount_0f7a4_38 : decode cJ6_bitCount_0f7a4 38 = .ok (.iushr, 1) := by decide +kernel
theorem dJ6_bitCount_0f7a4_39 : decode cJ6_bitCount_0f7a4 39 = .ok (.iadd, 1) := by decide +kernel
theorem dJ6_bitCount_0f7a4_40 : decode cJ6_bitCount_0f7a4 40 = .ok (.istore_n 0, 1) := by decide +kernel
theorem dJ6_bitCount_0f7a4_41 : decode cJ6_bitCount_0f7a4 41 = .ok (.iload_n 0, 1) := by decide +kernel
theorem dJ6_bitCount_0f7a4_42 : decode cJ6_bitCount_0f7a4 42 = .ok (.iload_n 0, 1) := by decide +kernel
theorem dJ6_bitCount_0f7a4_43 : decode cJ6_bitCount_0f7a4 43 = .ok (.bipush 16, 2) := by decide +kernel
theorem dJ6_bitCount_0f7a4_45 : decode cJ6_bitCount_0f7a4 45 = .ok (.iushr, 1) := by decide +kernel
theorem dJ6_bitCount_0f7a4_46 : decode cJ6_bitCount_0f7a4 46 = .ok (.iadd, 1) := by decide +kernel
theorem dJ6_bitCount_0f7a4_47 : decode cJ6_bitCount_0f7a4 47 = .ok (.istore_n 0, 1) := by decide +kernel
theorem dJ6_bitCount_0f7a4_48 : decode cJ6_bitCount_0f7a4 48 = .ok (.iload_n 0, 1) := by decide +kernel
theorem dJ6_bitCount_0f7a4_49 : decode cJ6_bitCount_0f7a4 49 = .ok (.bipush 63, 2) := by decide +kernel
theorem dJ6_bitCount_0f7a4_51 : decode cJ6_bitCount_0f7a4 51 = .ok (.iand, 1) := by decide +kernel
theorem dJ6_bitCount_0f7a4_52 : decode cJ6_bitCount_0f7a4 52 = .ok (.ireturn, 1) := by decide +kernel
theorem dJ9_max_7cf53_0 : decode cJ9_max_7cf53 0 = .ok (.iload_n 0, 1) := by decide +kernel
theorem dJ9_max_7cf53_1 : decode cJ9_max_7cf53 1 = .ok (.iload_n 1, 1) := by decide +kernel
theorem dJ9_max_7cf53_2 : decode cJ9_max_7cf53 2 = .ok (.if_icmp .lt 7, 3) := by decide +kernel
theorem dJ9_max_7cf53_5 : decode cJ9_max_7cf53 5 = .ok (.iload_n 0, 1) := by decide +kernel
theorem dJ9_max_7cf53_6 : decode cJ9_max_7cf53 6 = .ok (.goto 4, 3) := by decide +kernel
theorem dJ9_max_7cf53_9 : decode cJ9_max_7cf53 9 = .ok (.iload_n 1, 1) := by decide +kernel
theorem dJ9_max_7cf53_10 : decode cJ9_max_7cf53 10 = .ok (.ireturn, 1) := by decide +kernel
theorem dJ9_max_f86c9_0 : decode cJ9_max_f86c9 0 = .ok (.lload_n 0, 1) := by decide +kernel
theorem dJ9_max_f86c9_1 : decode cJ9_max_f86c9 1 = .ok (.lload_n 2, 1) := by decide +kernel
theorem dJ9_max_f86c9_2 : decode cJ9_max_f86c9 2 = .ok (.lcmp, 1) := by decide +kernel
theorem dJ9_max_f86c9_3 : decode cJ9_max_f86c9 3 = .ok (.ifCond .lt 7, 3) := by decide +kernel
theorem dJ9_max_f86c9_6 : decode cJ9_max_f86c9 6 = .ok (.lload_n 0, 1) := by decide +kernel
theorem dJ9_max_f86c9_7 : decode cJ9_max_f86c9 7 = .ok (.goto 4, 3) := by decide +kernel
theorem dJ9_max_f86c9_10 : decode cJ9_max_f86c9 10 = .ok (.lload_n 2, 1) := by decide +kernel
theorem dJ9_max_f86c9_11 : decode cJ9_max_f86c9 11 = .ok (.lreturn, 1) := by decide +kernel
theorem dJ9_min_f86c9_0 : decode cJ9_min_f86c9 0 = .ok (.lload_n 0, 1) := by decide +kernel
theorem dJ9_min_f86c9_1 : decode cJ9_min_f86c9 1 = .ok (.lload_n 2, 1) := by decide +kernel
theorem dJ9_min_f86c9_2 : decode cJ9_min_f86c9 2 = .ok (.lcmp, 1) := by decide +kernel
theorem dJ9_min_f86c9_3 : decode cJ9_min_f86c9 3 = .ok (.ifCond .gt 7, 3) := by decide +kernel
theorem dJ9_min_f86c9_6 : decode cJ9_min_f86c9 6 = .ok (.lload_n 0, 1) := by decide +kernel
theorem dJ9_min_f86c9_7 : decode cJ9_min_f86c9 7 = .ok (.goto 4, 3) := by decide +kernel
theorem dJ9_min_f86c9_10 : decode cJ9_min_f86c9 10 = .ok (.lload_n 2, 1) := by decide +kernel
theorem dJ9_min_f86c9_11 : decode cJ9_min_f86c9 11 = .ok (.lreturn, 1) := by decide +kernel
set_option maxRecDepth 20000 in
theorem ggL_law_X4_init : GoodIn wsL_law wsX4_init := goodIn_r _ [9, 10, 11, 12, 13, 14, 15, 16, 17, 18, 19, 20, 21, 22, 23, 24, 25, 26, 27, 28, 29, 30, 31, 32, 33, 34, 35, 36, 37, 38, 39, 40, 41, 42, 43, 44, 45, 46, 47, 48, 49, 50, 51, 52, 53, 54, 55, 56, 57, 58, 59, 60, 61, 62, 63, 64, 65, 66, 745, 746, 747, 748, 749, 750, 751, 752, 703, 704, 705, 706, 753, 754, 755, 756, 757, 758, 759, 760, 761, 762, 763, 764, 765, 766, 767, 768, 769, 770, 771, 772, 773, 774, 775] (by decide +kernel) (by decide +kernel)
set_option maxRecDepth 20000 in
theorem gL_law_X4_init : GoodIn wsL_law (wsX4_init) := ggL_law_X4_init
set_option maxRecDepth 20000 in
theorem ggL_law_X5_init : GoodIn wsL_law wsX5_init := goodIn_r _ [69, 70, 11, 12, 31, 71, 33, 72, 73, 74, 75, 76, 77, 78, 25, 79, 80, 81, 82, 83, 84, 85, 86, 87, 88, 89, 90, 91, 92, 93, 94, 95, 96, 97, 98, 99, 100, 101, 5, 102, 103, 104, 707, 708, 709, 710, 711, 712, 713, 714, 715, 716, 717, 718, 719, 720, 721, 722, 723, 724, 725, 726, 727, 728, 729, 730, 731, 732, 733, 734, 735, 736, 737, 738, 739, 740, 741, 742, 743, 744] (by decide +kernel) (by decide +kernel)
set_option maxRecDepth 20000 in
theorem gL_law_X5_init : GoodIn wsL_law (wsX5_init) := ggL_law_X5_init
set_option maxRecDepth 20000 in
theorem ggL_law_X4_candidates : GoodIn wsL_law wsX4_candidates := goodIn_r _ [108, 16, 109, 110, 40, 41, 15, 42, 43, 44, 32, 34, 703, 704, 705, 706, 745, 746, 747, 748, 749, 750, 751, 752] (by decide +kernel) (by decide +kernel)
set_option maxRecDepth 20000 in
theorem gL_law_X4_candidates : GoodIn wsL_law (wsV RL 13 RX4 yX4_candidates wsX4_candidates) := goodIn_app (goodIn_of _ (by decide +kernel)) ggL_law_X4_candidates
set_option maxRecDepth 20000 in
theorem ggL_law_X5_candidates : GoodIn wsL_law wsX5_candidates := goodIn_r _ [114, 103, 115, 116, 5, 117, 99, 100, 101, 102, 104, 71, 72, 707, 708, 709, 710, 711, 712, 713, 714, 715, 716, 717, 718, 719, 720, 721, 722, 723, 724, 725, 726, 727, 728, 729, 730, 731, 732, 733, 734, 735, 736, 737, 738, 739, 740, 741, 742, 743, 744] (by decide +kernel) (by decide +kernel)
set_option maxRecDepth 20000 in
theorem gL_law_X5_candidates : GoodIn wsL_law (wsV RL 17 RX5 yX5_candidates wsX5_candidates) := goodIn_app (goodIn_of _ (by decide +kernel)) ggL_law_X5_candidates
set_option maxRecDepth 20000 in
theorem ggL_law_X4_withdraw : GoodIn wsL_law wsX4_withdraw := goodIn_r _ [121, 16, 122, 123, 124, 125, 15, 126, 43, 703, 704, 705, 706, 745, 746, 747, 748, 749, 750, 751, 752] (by decide +kernel) (by decide +kernel)
set_option maxRecDepth 20000 in
theorem gL_law_X4_withdraw : GoodIn wsL_law (wsV RL 18 RX4 yX4_withdraw wsX4_withdraw) := goodIn_app (goodIn_of _ (by decide +kernel)) ggL_law_X4_withdraw
set_option maxRecDepth 20000 in
theorem ggL_law_X5_withdraw : GoodIn wsL_law wsX5_withdraw := goodIn_r _ [130, 71, 131, 132, 133, 5, 134, 103, 115, 116, 117, 707, 708, 709, 710, 711, 712, 713, 714, 715, 716, 717, 718, 719, 720, 721, 722, 723, 724, 725, 726, 727, 728, 729, 730, 731, 732, 733, 734, 735, 736, 737, 738, 739, 740, 741, 742, 743, 744] (by decide +kernel) (by decide +kernel)
set_option maxRecDepth 20000 in
theorem gL_law_X5_withdraw : GoodIn wsL_law (wsV RL 22 RX5 yX5_withdraw wsX5_withdraw) := goodIn_app (goodIn_of _ (by decide +kernel)) ggL_law_X5_withdraw
set_option maxRecDepth 20000 in
theorem ggL_law_X4_lot : GoodIn wsL_law wsX4_lot := goodIn_r _ [138, 16, 109, 123, 124, 125, 15, 126, 43, 139, 140, 141, 142, 34, 703, 704, 705, 706, 745, 746, 747, 748, 749, 750, 751, 752] (by decide +kernel) (by decide +kernel)
set_option maxRecDepth 20000 in
theorem gL_law_X4_lot : GoodIn wsL_law (wsV RL 23 RX4 yX4_lot wsX4_lot) := goodIn_app (goodIn_of _ (by decide +kernel)) ggL_law_X4_lot
set_option maxRecDepth 20000 in
theorem ggL_law_X5_lot : GoodIn wsL_law wsX5_lot := goodIn_r _ [146, 103, 72, 131, 132, 133, 5, 134, 115, 116, 117, 707, 708, 709, 710, 711, 712, 713, 714, 715, 716, 717, 718, 719, 720, 721, 722, 723, 724, 725, 726, 727, 728, 729, 730, 731, 732, 733, 734, 735, 736, 737, 738, 739, 740, 741, 742, 743, 744] (by decide +kernel) (by decide +kernel)
set_option maxRecDepth 20000 in
theorem gL_law_X5_lot : GoodIn wsL_law (wsV RL 27 RX5 yX5_lot wsX5_lot) := goodIn_app (goodIn_of _ (by decide +kernel)) ggL_law_X5_lot
set_option maxRecDepth 20000 in
theorem ggL_law_X4_pile : GoodIn wsL_law wsX4_pile := goodIn_r _ [150, 16, 151, 152, 153, 154, 15, 155, 43, 156, 157, 158, 159, 160, 161, 2, 162, 163, 164, 165, 166, 44, 38, 37, 36, 35, 703, 704, 705, 706, 745, 746, 747, 748, 749, 750, 751, 752] (by decide +kernel) (by decide +kernel)
set_option maxRecDepth 20000 in
theorem gL_law_X4_pile : GoodIn wsL_law (wsV RL 30 RX4 yX4_pile wsX4_pile) := goodIn_app (goodIn_of _ (by decide +kernel)) ggL_law_X4_pile
set_option maxRecDepth 20000 in
theorem ggL_law_X5_pile : GoodIn wsL_law wsX5_pile := goodIn_r _ [170, 104, 73, 74, 75, 76, 171, 172, 173, 5, 174, 175, 103, 115, 116, 117, 707, 708, 709, 710, 711, 712, 713, 714, 715, 716, 717, 718, 719, 720, 721, 722, 723, 724, 725, 726, 727, 728, 729, 730, 731, 732, 733, 734, 735, 736, 737, 738, 739, 740, 741, 742, 743, 744] (by decide +kernel) (by decide +kernel)
set_option maxRecDepth 20000 in
theorem gL_law_X5_pile : GoodIn wsL_law (wsV RL 34 RX5 yX5_pile wsX5_pile) := goodIn_app (goodIn_of _ (by decide +kernel)) ggL_law_X5_pile
set_option maxRecDepth 20000 in
theorem ggL_law_X4_change : GoodIn wsL_law wsX4_change := goodIn_r _ [179, 16, 180, 181, 182, 183, 15, 184, 44, 160, 161, 2, 162, 703, 704, 705, 706, 745, 746, 747, 748, 749, 750, 751, 752] (by decide +kernel) (by decide +kernel)
set_option maxRecDepth 20000 in
theorem gL_law_X4_change : GoodIn wsL_law (wsV RL 35 RX4 yX4_change wsX4_change) := goodIn_app (goodIn_of _ (by decide +kernel)) ggL_law_X4_change
set_option maxRecDepth 20000 in
theorem ggL_law_X5_change : GoodIn wsL_law wsX5_change := goodIn_r _ [188, 104, 73, 115, 116, 5, 117, 707, 708, 709, 710, 711, 712, 713, 714, 715, 716, 717, 718, 719, 720, 721, 722, 723, 724, 725, 726, 727, 728, 729, 730, 731, 732, 733, 734, 735, 736, 737, 738, 739, 740, 741, 742, 743, 744] (by decide +kernel) (by decide +kernel)
set_option maxRecDepth 20000 in
theorem gL_law_X5_change : GoodIn wsL_law (wsV RL 38 RX5 yX5_change wsX5_change) := goodIn_app (goodIn_of _ (by decide +kernel)) ggL_law_X5_change
set_option maxRecDepth 20000 in
theorem ggL_law_X4_about : GoodIn wsL_law wsX4_about := goodIn_r _ [192, 16, 180, 193, 181, 182, 183, 15, 184, 44, 194, 195, 196, 197, 36, 37, 198, 199, 200, 201, 32, 703, 704, 705, 706, 745, 746, 747, 748, 749, 750, 751, 752] (by decide +kernel) (by decide +kernel)
set_option maxRecDepth 20000 in
theorem gL_law_X4_about : GoodIn wsL_law (wsV RL 39 RX4 yX4_about wsX4_about) := goodIn_app (goodIn_of _ (by decide +kernel)) ggL_law_X4_about
set_option maxRecDepth 20000 in
theorem ggL_law_X5_about : GoodIn wsL_law wsX5_about := goodIn_r _ [205, 104, 74, 75, 73, 115, 116, 5, 117, 206, 207, 208, 209, 71, 707, 708, 709, 710, 711, 712, 713, 714, 715, 716, 717, 718, 719, 720, 721, 722, 723, 724, 725, 726, 727, 728, 729, 730, 731, 732, 733, 734, 735, 736, 737, 738, 739, 740, 741, 742, 743, 744] (by decide +kernel) (by decide +kernel)
set_option maxRecDepth 20000 in
theorem gL_law_X5_about : GoodIn wsL_law (wsV RL 42 RX5 yX5_about wsX5_about) := goodIn_app (goodIn_of _ (by decide +kernel)) ggL_law_X5_about
set_option maxRecDepth 20000 in
theorem ggL_law_X4_count : GoodIn wsL_law wsX4_count := goodIn_r _ [213, 16, 109, 20, 24, 214, 26, 215, 216, 217, 218, 219, 220, 221, 222, 15, 223, 43, 32, 224, 225, 226, 19, 227, 48, 228, 229, 230, 231, 232, 233, 54, 55, 57, 51, 52, 234, 50, 235, 58, 59, 60, 236, 237, 238, 239, 240, 241, 242, 243, 244, 245, 246, 247, 248, 249, 250, 251, 252, 253, 254, 255, 256, 257, 199, 200, 201, 36, 37, 258, 259, 260, 261, 262, 263, 264, 265, 266, 267, 268, 269, 270, 271, 272, 53, 273, 274, 275, 276, 56, 277, 278, 279, 280, 281, 49, 282, 283, 284, 285, 286, 287, 288, 289, 290, 2, 291, 292, 293, 294, 295, 296, 297, 298, 299, 300, 301, 302, 303, 304, 305, 306, 307, 308, 309, 310, 311, 312, 313, 314, 315, 316, 317, 318, 319, 320, 321, 322, 323, 324, 325, 326, 327, 328, 329, 330, 331, 332, 333, 334, 335, 336, 337, 23, 338, 339, 340, 341, 342, 343, 344, 345, 346, 347, 348, 44, 35, 349, 350, 351, 352, 353, 64, 65, 354, 355, 356, 357, 358, 359, 360, 361, 362, 66, 363, 364, 365, 366, 367, 368, 369, 370, 371, 372, 373, 374, 375, 376, 377, 378, 379, 380, 381, 382, 383, 384, 385, 386, 387, 388, 389, 390, 391, 392, 393, 394, 395, 396, 397, 398, 399, 400, 401, 402, 403, 404, 405, 406, 407, 408, 409, 410, 411, 412, 413, 414, 415, 416, 417, 418, 419, 703, 704, 705, 706, 745, 746, 747, 748, 749, 750, 751, 752, 753, 754, 755, 756, 757, 758, 759, 760, 761, 762, 763, 764, 765, 766, 767, 768, 769, 770, 771, 772, 773, 774, 775] (by decide +kernel) (by decide +kernel)
set_option maxRecDepth 20000 in
theorem gL_law_X4_count : GoodIn wsL_law (wsV RL 43 RX4 yX4_count wsX4_count) := goodIn_app (goodIn_of _ (by decide +kernel)) ggL_law_X4_count
set_option maxRecDepth 20000 in
theorem ggL_law_X5_count : GoodIn wsL_law wsX5_count := goodIn_r _ [423, 103, 71, 98, 424, 425, 104, 426, 427, 428, 429, 430, 91, 92, 93, 431, 115, 116, 5, 117, 432, 433, 434, 435, 436, 437, 94, 95, 438, 439, 440, 441, 73, 206, 207, 208, 209, 74, 75, 442, 443, 444, 445, 96, 446, 447, 448, 449, 450, 451, 452, 453, 454, 455, 456, 457, 90, 458, 459, 460, 461, 462, 463, 464, 465, 84, 72, 466, 467, 468, 469, 470, 471, 472, 473, 77, 78, 79, 80, 81, 82, 83, 85, 89, 87, 88, 474, 475, 476, 477, 478, 479, 480, 481, 482, 483, 484, 485, 486, 487, 488, 489, 490, 491, 492, 493, 494, 495, 496, 497, 86, 498, 499, 500, 501, 502, 503, 504, 505, 506, 707, 708, 709, 710, 711, 712, 713, 714, 715, 716, 717, 718, 719, 720, 721, 722, 723, 724, 725, 726, 727, 728, 729, 730, 731, 732, 733, 734, 735, 736, 737, 738, 739, 740, 741, 742, 743, 744] (by decide +kernel) (by decide +kernel)
set_option maxRecDepth 20000 in
theorem gL_law_X5_count : GoodIn wsL_law (wsV RL 46 RX5 yX5_count wsX5_count) := goodIn_app (goodIn_of _ (by decide +kernel)) ggL_law_X5_count
set_option maxRecDepth 20000 in
theorem ggL_law_X4_stage : GoodIn wsL_law wsX4_stage := goodIn_r _ [510, 20, 511, 512, 513, 514, 515, 516, 517, 518, 519, 520, 521, 522, 19, 523, 232, 703, 704, 705, 706, 753, 754, 755, 756, 757, 758, 759, 760, 761, 762, 763, 764, 765, 766, 767, 768, 769, 770] (by decide +kernel) (by decide +kernel)
set_option maxRecDepth 20000 in
theorem gL_law_X4_stage : GoodIn wsL_law (wsV RL 47 RX4 yX4_stage wsX4_stage) := goodIn_app (goodIn_of _ (by decide +kernel)) ggL_law_X4_stage
set_option maxRecDepth 20000 in
theorem ggL_law_X5_stage : GoodIn wsL_law wsX5_stage := goodIn_r _ [527, 528, 77, 78, 79, 80, 81, 82, 83, 529, 530, 531, 532, 5, 533, 427, 115, 116, 117, 707, 708, 709, 710, 711, 712, 713, 714, 715, 716, 717, 718, 719, 720, 721, 722, 723, 724, 725, 726, 727, 728, 729, 730, 731, 732, 733, 734, 735, 736, 737, 738, 739, 740, 741, 742, 743, 744] (by decide +kernel) (by decide +kernel)
set_option maxRecDepth 20000 in
theorem gL_law_X5_stage : GoodIn wsL_law (wsV RL 51 RX5 yX5_stage wsX5_stage) := goodIn_app (goodIn_of _ (by decide +kernel)) ggL_law_X5_stage
set_option maxRecDepth 20000 in
theorem ggL_law_X4_votes : GoodIn wsL_law wsX4_votes := goodIn_r _ [537, 20, 214, 511, 538, 539, 540, 19, 541, 230, 542, 521, 522, 523, 232, 543, 290, 2, 291, 703, 704, 705, 706, 753, 754, 755, 756, 757, 758, 759, 760, 761, 762, 763, 764, 765, 766, 767, 768, 769, 770] (by decide +kernel) (by decide +kernel)
set_option maxRecDepth 20000 in
theorem gL_law_X4_votes : GoodIn wsL_law (wsV RL 52 RX4 yX4_votes wsX4_votes) := goodIn_app (goodIn_of _ (by decide +kernel)) ggL_law_X4_votes
set_option maxRecDepth 20000 in
theorem ggL_law_X5_votes : GoodIn wsL_law wsX5_votes := goodIn_r _ [547, 528, 84, 548, 549, 550, 5, 551, 425, 530, 531, 532, 533, 427, 115, 116, 117, 707, 708, 709, 710, 711, 712, 713, 714, 715, 716, 717, 718, 719, 720, 721, 722, 723, 724, 725, 726, 727, 728, 729, 730, 731, 732, 733, 734, 735, 736, 737, 738, 739, 740, 741, 742, 743, 744] (by decide +kernel) (by decide +kernel)
set_option maxRecDepth 20000 in
theorem gL_law_X5_votes : GoodIn wsL_law (wsV RL 55 RX5 yX5_votes wsX5_votes) := goodIn_app (goodIn_of _ (by decide +kernel)) ggL_law_X5_votes
set_option maxRecDepth 20000 in
theorem ggL_law_X4_status : GoodIn wsL_law wsX4_status := goodIn_r _ [555, 20, 556, 538, 539, 540, 19, 541, 230, 542, 521, 522, 523, 232, 543, 290, 2, 291, 703, 704, 705, 706, 753, 754, 755, 756, 757, 758, 759, 760, 761, 762, 763, 764, 765, 766, 767, 768, 769, 770] (by decide +kernel) (by decide +kernel)
set_option maxRecDepth 20000 in
theorem gL_law_X4_status : GoodIn wsL_law (wsV RL 56 RX4 yX4_status wsX4_status) := goodIn_app (goodIn_of _ (by decide +kernel)) ggL_law_X4_status
set_option maxRecDepth 20000 in
theorem ggL_law_X5_status : GoodIn wsL_law wsX5_status := goodIn_r _ [560, 85, 548, 549, 550, 5, 551, 425, 530, 531, 532, 533, 427, 115, 116, 117, 707, 708, 709, 710, 711, 712, 713, 714, 715, 716, 717, 718, 719, 720, 721, 722, 723, 724, 725, 726, 727, 728, 729, 730, 731, 732, 733, 734, 735, 736, 737, 738, 739, 740, 741, 742, 743, 744] (by decide +kernel) (by decide +kernel)
set_option maxRecDepth 20000 in
theorem gL_law_X5_status : GoodIn wsL_law (wsV RL 59 RX5 yX5_status wsX5_status) := goodIn_app (goodIn_of _ (by decide +kernel)) ggL_law_X5_status
set_option maxRecDepth 20000 in
theorem ggL_law_X4_elected : GoodIn wsL_law wsX4_elected := goodIn_r _ [564, 20, 565, 566, 703, 704, 705, 706, 753, 754, 755, 756, 757, 758, 759, 760, 761, 762, 763, 764, 765, 766, 767, 768, 769, 770] (by decide +kernel) (by decide +kernel)
set_option maxRecDepth 20000 in
theorem gL_law_X4_elected : GoodIn wsL_law (wsV RL 60 RX4 yX4_elected wsX4_elected) := goodIn_app (goodIn_of _ (by decide +kernel)) ggL_law_X4_elected
set_option maxRecDepth 20000 in
theorem ggL_law_X5_elected : GoodIn wsL_law wsX5_elected := goodIn_r _ [570, 428, 90, 115, 116, 5, 117, 707, 708, 709, 710, 711, 712, 713, 714, 715, 716, 717, 718, 719, 720, 721, 722, 723, 724, 725, 726, 727, 728, 729, 730, 731, 732, 733, 734, 735, 736, 737, 738, 739, 740, 741, 742, 743, 744] (by decide +kernel) (by decide +kernel)
set_option maxRecDepth 20000 in
theorem gL_law_X5_elected : GoodIn wsL_law (wsV RL 63 RX5 yX5_elected wsX5_elected) := goodIn_app (goodIn_of _ (by decide +kernel)) ggL_law_X5_elected
set_option maxRecDepth 20000 in
theorem ggL_law_X4_keep : GoodIn wsL_law wsX4_keep := goodIn_r _ [574, 20, 575, 556, 576, 538, 539, 540, 19, 541, 230, 542, 521, 522, 523, 232, 543, 290, 2, 291, 703, 704, 705, 706, 753, 754, 755, 756, 757, 758, 759, 760, 761, 762, 763, 764, 765, 766, 767, 768, 769, 770] (by decide +kernel) (by decide +kernel)
set_option maxRecDepth 20000 in
theorem gL_law_X4_keep : GoodIn wsL_law (wsV RL 64 RX4 yX4_keep wsX4_keep) := goodIn_app (goodIn_of _ (by decide +kernel)) ggL_law_X4_keep
set_option maxRecDepth 20000 in
theorem ggL_law_X5_keep : GoodIn wsL_law wsX5_keep := goodIn_r _ [580, 98, 85, 86, 548, 549, 550, 5, 551, 425, 530, 531, 532, 533, 427, 115, 116, 117, 707, 708, 709, 710, 711, 712, 713, 714, 715, 716, 717, 718, 719, 720, 721, 722, 723, 724, 725, 726, 727, 728, 729, 730, 731, 732, 733, 734, 735, 736, 737, 738, 739, 740, 741, 742, 743, 744] (by decide +kernel) (by decide +kernel)
set_option maxRecDepth 20000 in
theorem gL_law_X5_keep : GoodIn wsL_law (wsV RL 67 RX5 yX5_keep wsX5_keep) := goodIn_app (goodIn_of _ (by decide +kernel)) ggL_law_X5_keep
set_option maxRecDepth 20000 in
theorem ggL_law_X4_lies : GoodIn wsL_law wsX4_lies := goodIn_r _ [584, 20, 575, 24, 585, 586, 520, 521, 522, 19, 523, 232, 587, 588, 589, 23, 590, 340, 591, 383, 2, 384, 703, 704, 705, 706, 753, 754, 755, 756, 757, 758, 759, 760, 761, 762, 763, 764, 765, 766, 767, 768, 769, 770, 771, 772, 773, 774, 775] (by decide +kernel) (by decide +kernel)
set_option maxRecDepth 20000 in
theorem gL_law_X4_lies : GoodIn wsL_law (wsV RL 68 RX4 yX4_lies wsX4_lies) := goodIn_app (goodIn_of _ (by decide +kernel)) ggL_law_X4_lies
set_option maxRecDepth 20000 in
theorem ggL_law_X5_lies : GoodIn wsL_law wsX5_lies := goodIn_r _ [595, 98, 426, 87, 88, 530, 531, 532, 5, 533, 427, 115, 116, 117, 707, 708, 709, 710, 711, 712, 713, 714, 715, 716, 717, 718, 719, 720, 721, 722, 723, 724, 725, 726, 727, 728, 729, 730, 731, 732, 733, 734, 735, 736, 737, 738, 739, 740, 741, 742, 743, 744] (by decide +kernel) (by decide +kernel)
set_option maxRecDepth 20000 in
theorem gL_law_X5_lies : GoodIn wsL_law (wsV RL 72 RX5 yX5_lies wsX5_lies) := goodIn_app (goodIn_of _ (by decide +kernel)) ggL_law_X5_lies
set_option maxRecDepth 20000 in
theorem ggL_law_X4_sheet : GoodIn wsL_law wsX4_sheet := goodIn_r _ [599, 20, 26, 511, 538, 539, 540, 19, 541, 230, 542, 521, 522, 523, 232, 543, 290, 2, 291, 703, 704, 705, 706, 753, 754, 755, 756, 757, 758, 759, 760, 761, 762, 763, 764, 765, 766, 767, 768, 769, 770] (by decide +kernel) (by decide +kernel)
set_option maxRecDepth 20000 in
theorem gL_law_X4_sheet : GoodIn wsL_law (wsV RL 73 RX4 yX4_sheet wsX4_sheet) := goodIn_app (goodIn_of _ (by decide +kernel)) ggL_law_X4_sheet
set_option maxRecDepth 20000 in
theorem ggL_law_X5_sheet : GoodIn wsL_law wsX5_sheet := goodIn_r _ [603, 528, 89, 548, 549, 550, 5, 551, 425, 530, 531, 532, 533, 427, 115, 116, 117, 707, 708, 709, 710, 711, 712, 713, 714, 715, 716, 717, 718, 719, 720, 721, 722, 723, 724, 725, 726, 727, 728, 729, 730, 731, 732, 733, 734, 735, 736, 737, 738, 739, 740, 741, 742, 743, 744] (by decide +kernel) (by decide +kernel)
set_option maxRecDepth 20000 in
theorem gL_law_X5_sheet : GoodIn wsL_law (wsV RL 76 RX5 yX5_sheet wsX5_sheet) := goodIn_app (goodIn_of _ (by decide +kernel)) ggL_law_X5_sheet
set_option maxRecDepth 20000 in
theorem ggL_law_X4_forge : GoodIn wsL_law wsX4_forge := goodIn_r _ [607, 20, 511, 26, 538, 539, 540, 19, 541, 230, 542, 521, 522, 523, 232, 543, 290, 2, 291, 703, 704, 705, 706, 753, 754, 755, 756, 757, 758, 759, 760, 761, 762, 763, 764, 765, 766, 767, 768, 769, 770] (by decide +kernel) (by decide +kernel)
set_option maxRecDepth 20000 in
theorem gL_law_X4_forge : GoodIn wsL_law (wsV RL 77 RX4 yX4_forge wsX4_forge) := goodIn_app (goodIn_of _ (by decide +kernel)) ggL_law_X4_forge
set_option maxRecDepth 20000 in
theorem ggL_law_X5_forge : GoodIn wsL_law wsX5_forge := goodIn_r _ [611, 528, 89, 548, 549, 550, 5, 551, 425, 530, 531, 532, 533, 427, 115, 116, 117, 707, 708, 709, 710, 711, 712, 713, 714, 715, 716, 717, 718, 719, 720, 721, 722, 723, 724, 725, 726, 727, 728, 729, 730, 731, 732, 733, 734, 735, 736, 737, 738, 739, 740, 741, 742, 743, 744] (by decide +kernel) (by decide +kernel)
set_option maxRecDepth 20000 in
theorem gL_law_X5_forge : GoodIn wsL_law (wsV RL 81 RX5 yX5_forge wsX5_forge) := goodIn_app (goodIn_of _ (by decide +kernel)) ggL_law_X5_forge
set_option maxRecDepth 20000 in
theorem ggL_law_X4_check : GoodIn wsL_law wsX4_check := goodIn_r _ [615, 20, 219, 616, 26, 214, 543, 290, 2, 291, 703, 704, 705, 706, 753, 754, 755, 756, 757, 758, 759, 760, 761, 762, 763, 764, 765, 766, 767, 768, 769, 770] (by decide +kernel) (by decide +kernel)
set_option maxRecDepth 20000 in
theorem gL_law_X4_check : GoodIn wsL_law (wsV RL 82 RX4 yX4_check wsX4_check) := goodIn_app (goodIn_of _ (by decide +kernel)) ggL_law_X4_check
set_option maxRecDepth 20000 in
theorem ggL_law_X5_check : GoodIn wsL_law wsX5_check := goodIn_r _ [620, 98, 427, 425, 89, 84, 707, 708, 709, 710, 711, 712, 713, 714, 715, 716, 717, 718, 719, 720, 721, 722, 723, 724, 725, 726, 727, 728, 729, 730, 731, 732, 733, 734, 735, 736, 737, 738, 739, 740, 741, 742, 743, 744] (by decide +kernel) (by decide +kernel)
set_option maxRecDepth 20000 in
theorem gL_law_X5_check : GoodIn wsL_law (wsV RL 86 RX5 yX5_check wsX5_check) := goodIn_app (goodIn_of _ (by decide +kernel)) ggL_law_X5_check
set_option maxRecDepth 20000 in
theorem ggL_law_X4_prefer : GoodIn wsL_law wsX4_prefer := goodIn_r _ [624, 16, 123, 124, 125, 15, 126, 43, 625, 626, 627, 628, 44, 38, 35, 703, 704, 705, 706, 745, 746, 747, 748, 749, 750, 751, 752] (by decide +kernel) (by decide +kernel)
set_option maxRecDepth 20000 in
theorem gL_law_X4_prefer : GoodIn wsL_law (wsV RL 87 RX4 yX4_prefer wsX4_prefer) := goodIn_app (goodIn_of _ (by decide +kernel)) ggL_law_X4_prefer
set_option maxRecDepth 20000 in
theorem ggL_law_X5_prefer : GoodIn wsL_law wsX5_prefer := goodIn_r _ [632, 131, 132, 133, 5, 134, 103, 115, 116, 117, 633, 634, 635, 636, 104, 73, 637, 638, 639, 640, 74, 75, 707, 708, 709, 710, 711, 712, 713, 714, 715, 716, 717, 718, 719, 720, 721, 722, 723, 724, 725, 726, 727, 728, 729, 730, 731, 732, 733, 734, 735, 736, 737, 738, 739, 740, 741, 742, 743, 744] (by decide +kernel) (by decide +kernel)
set_option maxRecDepth 20000 in
theorem gL_law_X5_prefer : GoodIn wsL_law (wsV RL 90 RX5 yX5_prefer wsX5_prefer) := goodIn_app (goodIn_of _ (by decide +kernel)) ggL_law_X5_prefer
set_option maxRecDepth 20000 in
theorem ggL_law_X4_winner : GoodIn wsL_law wsX4_winner := goodIn_r _ [644, 16, 109, 122, 220, 221, 222, 15, 223, 43, 32, 645, 646, 647, 648, 649, 626, 627, 628, 44, 38, 35, 650, 651, 652, 653, 654, 655, 656, 703, 704, 705, 706, 745, 746, 747, 748, 749, 750, 751, 752] (by decide +kernel) (by decide +kernel)
set_option maxRecDepth 20000 in
theorem gL_law_X4_winner : GoodIn wsL_law (wsV RL 91 RX4 yX4_winner wsX4_winner) := goodIn_app (goodIn_of _ (by decide +kernel)) ggL_law_X4_winner
set_option maxRecDepth 20000 in
theorem ggL_law_X5_winner : GoodIn wsL_law wsX5_winner := goodIn_r _ [660, 103, 71, 661, 662, 663, 5, 664, 633, 634, 635, 636, 104, 73, 637, 638, 639, 640, 74, 75, 707, 708, 709, 710, 711, 712, 713, 714, 715, 716, 717, 718, 719, 720, 721, 722, 723, 724, 725, 726, 727, 728, 729, 730, 731, 732, 733, 734, 735, 736, 737, 738, 739, 740, 741, 742, 743, 744] (by decide +kernel) (by decide +kernel)
set_option maxRecDepth 20000 in
theorem gL_law_X5_winner : GoodIn wsL_law (wsV RL 94 RX5 yX5_winner wsX5_winner) := goodIn_app (goodIn_of _ (by decide +kernel)) ggL_law_X5_winner
set_option maxRecDepth 20000 in
theorem ggL_law_X4_leads : GoodIn wsL_law wsX4_leads := goodIn_r _ [668, 16, 123, 124, 125, 15, 126, 43, 669, 670, 671, 672, 32, 673, 646, 647, 648, 649, 626, 627, 628, 44, 38, 35, 674, 675, 676, 677, 650, 651, 652, 653, 654, 655, 656, 703, 704, 705, 706, 745, 746, 747, 748, 749, 750, 751, 752] (by decide +kernel) (by decide +kernel)
set_option maxRecDepth 20000 in
theorem gL_law_X4_leads : GoodIn wsL_law (wsV RL 95 RX4 yX4_leads wsX4_leads) := goodIn_app (goodIn_of _ (by decide +kernel)) ggL_law_X4_leads
set_option maxRecDepth 20000 in
theorem ggL_law_X5_leads : GoodIn wsL_law wsX5_leads := goodIn_r _ [681, 103, 97, 131, 132, 133, 5, 134, 115, 116, 117, 661, 662, 663, 664, 71, 633, 634, 635, 636, 104, 73, 637, 638, 639, 640, 74, 75, 707, 708, 709, 710, 711, 712, 713, 714, 715, 716, 717, 718, 719, 720, 721, 722, 723, 724, 725, 726, 727, 728, 729, 730, 731, 732, 733, 734, 735, 736, 737, 738, 739, 740, 741, 742, 743, 744] (by decide +kernel) (by decide +kernel)
set_option maxRecDepth 20000 in
theorem gL_law_X5_leads : GoodIn wsL_law (wsV RL 98 RX5 yX5_leads wsX5_leads) := goodIn_app (goodIn_of _ (by decide +kernel)) ggL_law_X5_leads
set_option maxRecDepth 20000 in
theorem ggL_law_X4_points : GoodIn wsL_law wsX4_points := goodIn_r _ [685, 16, 123, 124, 125, 15, 126, 43, 686, 687, 688, 689, 32, 649, 626, 627, 628, 44, 38, 35, 703, 704, 705, 706, 745, 746, 747, 748, 749, 750, 751, 752] (by decide +kernel) (by decide +kernel)
set_option maxRecDepth 20000 in
theorem gL_law_X4_points : GoodIn wsL_law (wsV RL 99 RX4 yX4_points wsX4_points) := goodIn_app (goodIn_of _ (by decide +kernel)) ggL_law_X4_points
set_option maxRecDepth 20000 in
theorem ggL_law_X5_points : GoodIn wsL_law wsX5_points := goodIn_r _ [693, 104, 103, 71, 73, 131, 132, 133, 5, 134, 115, 116, 117, 637, 638, 639, 640, 74, 75, 707, 708, 709, 710, 711, 712, 713, 714, 715, 716, 717, 718, 719, 720, 721, 722, 723, 724, 725, 726, 727, 728, 729, 730, 731, 732, 733, 734, 735, 736, 737, 738, 739, 740, 741, 742, 743, 744] (by decide +kernel) (by decide +kernel)
set_option maxRecDepth 20000 in
theorem gL_law_X5_points : GoodIn wsL_law (wsV RL 102 RX5 yX5_points wsX5_points) := goodIn_app (goodIn_of _ (by decide +kernel)) ggL_law_X5_points
set_option maxRecDepth 20000 in
theorem ggL_law_X4_told : GoodIn wsL_law wsX4_told := goodIn_r _ [697, 16, 109, 151, 20, 219, 565, 575, 698, 346, 347, 15, 348, 44, 35, 349, 199, 200, 201, 36, 32, 37, 220, 221, 222, 223, 43, 703, 704, 705, 706, 745, 746, 747, 748, 749, 750, 751, 752, 753, 754, 755, 756, 757, 758, 759, 760, 761, 762, 763, 764, 765, 766, 767, 768, 769, 770] (by decide +kernel) (by decide +kernel)
set_option maxRecDepth 20000 in
theorem gL_law_X4_told : GoodIn wsL_law (wsV RL 103 RX4 yX4_told wsX4_told) := goodIn_app (goodIn_of _ (by decide +kernel)) ggL_law_X4_told
set_option maxRecDepth 20000 in
theorem ggL_law_X5_told : GoodIn wsL_law wsX5_told := goodIn_r _ [702, 103, 104, 427, 428, 98, 71, 438, 439, 440, 5, 441, 73, 206, 207, 208, 209, 74, 75, 707, 708, 709, 710, 711, 712, 713, 714, 715, 716, 717, 718, 719, 720, 721, 722, 723, 724, 725, 726, 727, 728, 729, 730, 731, 732, 733, 734, 735, 736, 737, 738, 739, 740, 741, 742, 743, 744] (by decide +kernel) (by decide +kernel)
set_option maxRecDepth 20000 in
theorem gL_law_X5_told : GoodIn wsL_law (wsV RL 106 RX5 yX5_told wsX5_told) := goodIn_app (goodIn_of _ (by decide +kernel)) ggL_law_X5_told
theorem dL_law_0 : decode cL_law 0 = .ok (.new 7, 3) := by decide +kernel
theorem dL_law_3 : decode cL_law 3 = .ok (.dup, 1) := by decide +kernel
theorem dL_law_4 : decode cL_law 4 = .ok (.invokespecial 9, 3) := by decide +kernel
theorem dL_law_7 : decode cL_law 7 = .ok (.astore_n 1, 1) := by decide +kernel
theorem dL_law_8 : decode cL_law 8 = .ok (.new 10, 3) := by decide +kernel
theorem dL_law_11 : decode cL_law 11 = .ok (.dup, 1) := by decide +kernel
theorem dL_law_12 : decode cL_law 12 = .ok (.invokespecial 12, 3) := by decide +kernel
theorem dL_law_15 : decode cL_law 15 = .ok (.astore_n 2, 1) := by decide +kernel
theorem dL_law_16 : decode cL_law 16 = .ok (.iconst 0, 1) := by decide +kernel
theorem dL_law_17 : decode cL_law 17 = .ok (.istore_n 3, 1) := by decide +kernel
theorem dL_law_18 : decode cL_law 18 = .ok (.iload_n 3, 1) := by decide +kernel
theorem dL_law_19 : decode cL_law 19 = .ok (.aload_n 0, 1) := by decide +kernel
theorem dL_law_20 : decode cL_law 20 = .ok (.arraylength, 1) := by decide +kernel
theorem dL_law_21 : decode cL_law 21 = .ok (.iconst 5, 1) := by decide +kernel
theorem dL_law_22 : decode cL_law 22 = .ok (.isub, 1) := by decide +kernel
theorem dL_law_23 : decode cL_law 23 = .ok (.if_icmp .gt 818, 3) := by decide +kernel
theorem dL_law_26 : decode cL_law 26 = .ok (.aload_n 0, 1) := by decide +kernel
theorem dL_law_27 : decode cL_law 27 = .ok (.iload_n 3, 1) := by decide +kernel
theorem dL_law_28 : decode cL_law 28 = .ok (.iaload, 1) := by decide +kernel
theorem dL_law_29 : decode cL_law 29 = .ok (.bipush 31, 2) := by decide +kernel
theorem dL_law_31 : decode cL_law 31 = .ok (.iand, 1) := by decide +kernel
theorem dL_law_32 : decode cL_law 32 = .ok (.tableswitch 803 0 20 #[100, 123, 172, 205, 268, 301, 334, 367, 401, 435, 468, 491, 524, 567, 601, 675, 688, 721, 734, 757, 780], 100) := by decide +kernel
theorem dL_law_132 : decode cL_law 132 = .ok (.aload_n 1, 1) := by decide +kernel
theorem dL_law_133 : decode cL_law 133 = .ok (.aload_n 0, 1) := by decide +kernel
theorem dL_law_134 : decode cL_law 134 = .ok (.iload_n 3, 1) := by decide +kernel
theorem dL_law_135 : decode cL_law 135 = .ok (.iconst 1, 1) := by decide +kernel
theorem dL_law_136 : decode cL_law 136 = .ok (.iadd, 1) := by decide +kernel
theorem dL_law_137 : decode cL_law 137 = .ok (.iaload, 1) := by decide +kernel
theorem dL_law_138 : decode cL_law 138 = .ok (.invokevirtual 13, 3) := by decide +kernel
theorem dL_law_141 : decode cL_law 141 = .ok (.aload_n 2, 1) := by decide +kernel
theorem dL_law_142 : decode cL_law 142 = .ok (.aload_n 0, 1) := by decide +kernel
theorem dL_law_143 : decode cL_law 143 = .ok (.iload_n 3, 1) := by decide +kernel
theorem dL_law_144 : decode cL_law 144 = .ok (.iconst 1, 1) := by decide +kernel
theorem dL_law_145 : decode cL_law 145 = .ok (.iadd, 1) := by decide +kernel
theorem dL_law_146 : decode cL_law 146 = .ok (.iaload, 1) := by decide +kernel
theorem dL_law_147 : decode cL_law 147 = .ok (.invokevirtual 17, 3) := by decide +kernel
theorem dL_law_150 : decode cL_law 150 = .ok (.if_icmp .eq 685, 3) := by decide +kernel
theorem dL_law_153 : decode cL_law 153 = .ok (.iconst 0, 1) := by decide +kernel
theorem dL_law_154 : decode cL_law 154 = .ok (.ireturn, 1) := by decide +kernel
theorem dL_law_155 : decode cL_law 155 = .ok (.aload_n 1, 1) := by decide +kernel
theorem dL_law_156 : decode cL_law 156 = .ok (.aload_n 0, 1) := by decide +kernel
theorem dL_law_157 : decode cL_law 157 = .ok (.iload_n 3, 1) := by decide +kernel
theorem dL_law_158 : decode cL_law 158 = .ok (.iconst 1, 1) := by decide +kernel
theorem dL_law_159 : decode cL_law 159 = .ok (.iadd, 1) := by decide +kernel
theorem dL_law_160 : decode cL_law 160 = .ok (.iaload, 1) := by decide +kernel
theorem dL_law_161 : decode cL_law 161 = .ok (.aload_n 0, 1) := by decide +kernel
theorem dL_law_162 : decode cL_law 162 = .ok (.iload_n 3, 1) := by decide +kernel
theorem dL_law_163 : decode cL_law 163 = .ok (.iconst 2, 1) := by decide +kernel
theorem dL_law_164 : decode cL_law 164 = .ok (.iadd, 1) := by decide +kernel
theorem dL_law_165 : decode cL_law 165 = .ok (.iaload, 1) := by decide +kernel
theorem dL_law_166 : decode cL_law 166 = .ok (.ifCond .eq 7, 3) := by decide +kernel
theorem dL_law_169 : decode cL_law 169 = .ok (.iconst 1, 1) := by decide +kernel
theorem dL_law_170 : decode cL_law 170 = .ok (.goto 4, 3) := by decide +kernel
theorem dL_law_173 : decode cL_law 173 = .ok (.iconst 0, 1) := by decide +kernel
theorem dL_law_174 : decode cL_law 174 = .ok (.invokevirtual 18, 3) := by decide +kernel
theorem dL_law_177 : decode cL_law 177 = .ok (.aload_n 2, 1) := by decide +kernel
theorem dL_law_178 : decode cL_law 178 = .ok (.aload_n 0, 1) := by decide +kernel
theorem dL_law_179 : decode cL_law 179 = .ok (.iload_n 3, 1) := by decide +kernel
theorem dL_law_180 : decode cL_law 180 = .ok (.iconst 1, 1) := by decide +kernel
theorem dL_law_181 : decode cL_law 181 = .ok (.iadd, 1) := by decide +kernel
theorem dL_law_182 : decode cL_law 182 = .ok (.iaload, 1) := by decide +kernel
theorem dL_law_183 : decode cL_law 183 = .ok (.aload_n 0, 1) := by decide +kernel
theorem dL_law_184 : decode cL_law 184 = .ok (.iload_n 3, 1) := by decide +kernel
theorem dL_law_185 : decode cL_law 185 = .ok (.iconst 2, 1) := by decide +kernel
theorem dL_law_186 : decode cL_law 186 = .ok (.iadd, 1) := by decide +kernel
theorem dL_law_187 : decode cL_law 187 = .ok (.iaload, 1) := by decide +kernel
theorem dL_law_188 : decode cL_law 188 = .ok (.ifCond .eq 7, 3) := by decide +kernel
theorem dL_law_191 : decode cL_law 191 = .ok (.iconst 1, 1) := by decide +kernel
theorem dL_law_192 : decode cL_law 192 = .ok (.goto 4, 3) := by decide +kernel
theorem dL_law_195 : decode cL_law 195 = .ok (.iconst 0, 1) := by decide +kernel
theorem dL_law_196 : decode cL_law 196 = .ok (.invokevirtual 22, 3) := by decide +kernel
theorem dL_law_199 : decode cL_law 199 = .ok (.if_icmp .eq 636, 3) := by decide +kernel
theorem dL_law_202 : decode cL_law 202 = .ok (.iconst 0, 1) := by decide +kernel
theorem dL_law_203 : decode cL_law 203 = .ok (.ireturn, 1) := by decide +kernel
theorem dL_law_204 : decode cL_law 204 = .ok (.aload_n 1, 1) := by decide +kernel
theorem dL_law_205 : decode cL_law 205 = .ok (.aload_n 0, 1) := by decide +kernel
theorem dL_law_206 : decode cL_law 206 = .ok (.iload_n 3, 1) := by decide +kernel
theorem dL_law_207 : decode cL_law 207 = .ok (.iconst 1, 1) := by decide +kernel
theorem dL_law_208 : decode cL_law 208 = .ok (.iadd, 1) := by decide +kernel
theorem dL_law_209 : decode cL_law 209 = .ok (.iaload, 1) := by decide +kernel
theorem dL_law_210 : decode cL_law 210 = .ok (.aload_n 0, 1) := by decide +kernel
theorem dL_law_211 : decode cL_law 211 = .ok (.iload_n 3, 1) := by decide +kernel
theorem dL_law_212 : decode cL_law 212 = .ok (.iconst 2, 1) := by decide +kernel
theorem dL_law_213 : decode cL_law 213 = .ok (.iadd, 1) := by decide +kernel
theorem dL_law_214 : decode cL_law 214 = .ok (.iaload, 1) := by decide +kernel
theorem dL_law_215 : decode cL_law 215 = .ok (.invokevirtual 23, 3) := by decide +kernel
theorem dL_law_218 : decode cL_law 218 = .ok (.aload_n 2, 1) := by decide +kernel
theorem dL_law_219 : decode cL_law 219 = .ok (.aload_n 0, 1) := by decide +kernel
theorem dL_law_220 : decode cL_law 220 = .ok (.iload_n 3, 1) := by decide +kernel
theorem dL_law_221 : decode cL_law 221 = .ok (.iconst 1, 1) := by decide +kernel
theorem dL_law_222 : decode cL_law 222 = .ok (.iadd, 1) := by decide +kernel
theorem dL_law_223 : decode cL_law 223 = .ok (.iaload, 1) := by decide +kernel
theorem dL_law_224 : decode cL_law 224 = .ok (.aload_n 0, 1) := by decide +kernel
theorem dL_law_225 : decode cL_law 225 = .ok (.iload_n 3, 1) := by decide +kernel
theorem dL_law_226 : decode cL_law 226 = .ok (.iconst 2, 1) := by decide +kernel
theorem dL_law_227 : decode cL_law 227 = .ok (.iadd, 1) := by decide +kernel
theorem dL_law_228 : decode cL_law 228 = .ok (.iaload, 1) := by decide +kernel
theorem dL_law_229 : decode cL_law 229 = .ok (.invokevirtual 27, 3) := by decide +kernel
theorem dL_law_232 : decode cL_law 232 = .ok (.if_icmp .eq 603, 3) := by decide +kernel
theorem dL_law_235 : decode cL_law 235 = .ok (.iconst 0, 1) := by decide +kernel
theorem dL_law_236 : decode cL_law 236 = .ok (.ireturn, 1) := by decide +kernel
theorem dL_law_237 : decode cL_law 237 = .ok (.aload_n 1, 1) := by decide +kernel
theorem dL_law_238 : decode cL_law 238 = .ok (.aload_n 0, 1) := by decide +kernel
theorem dL_law_239 : decode cL_law 239 = .ok (.iload_n 3, 1) := by decide +kernel
theorem dL_law_240 : decode cL_law 240 = .ok (.iconst 1, 1) := by decide +kernel
theorem dL_law_241 : decode cL_law 241 = .ok (.iadd, 1) := by decide +kernel
theorem dL_law_242 : decode cL_law 242 = .ok (.iaload, 1) := by decide +kernel
theorem dL_law_243 : decode cL_law 243 = .ok (.i2l, 1) := by decide +kernel
theorem dL_law_244 : decode cL_law 244 = .ok (.bipush 32, 2) := by decide +kernel
theorem dL_law_246 : decode cL_law 246 = .ok (.lshl, 1) := by decide +kernel
theorem dL_law_247 : decode cL_law 247 = .ok (.aload_n 0, 1) := by decide +kernel
theorem dL_law_248 : decode cL_law 248 = .ok (.iload_n 3, 1) := by decide +kernel
theorem dL_law_249 : decode cL_law 249 = .ok (.iconst 2, 1) := by decide +kernel
theorem dL_law_250 : decode cL_law 250 = .ok (.iadd, 1) := by decide +kernel
theorem dL_law_251 : decode cL_law 251 = .ok (.iaload, 1) := by decide +kernel
theorem dL_law_252 : decode cL_law 252 = .ok (.i2l, 1) := by decide +kernel
theorem dL_law_253 : decode cL_law 253 = .ok (.ldc2_w 28, 3) := by decide +kernel
theorem dL_law_256 : decode cL_law 256 = .ok (.land, 1) := by decide +kernel
theorem dL_law_257 : decode cL_law 257 = .ok (.lor, 1) := by decide +kernel
theorem dL_law_258 : decode cL_law 258 = .ok (.aload_n 0, 1) := by decide +kernel
theorem dL_law_259 : decode cL_law 259 = .ok (.iload_n 3, 1) := by decide +kernel
theorem dL_law_260 : decode cL_law 260 = .ok (.iconst 3, 1) := by decide +kernel
theorem dL_law_261 : decode cL_law 261 = .ok (.iadd, 1) := by decide +kernel
theorem dL_law_262 : decode cL_law 262 = .ok (.iaload, 1) := by decide +kernel
theorem dL_law_263 : decode cL_law 263 = .ok (.invokevirtual 30, 3) := by decide +kernel
theorem dL_law_266 : decode cL_law 266 = .ok (.aload_n 2, 1) := by decide +kernel
theorem dL_law_267 : decode cL_law 267 = .ok (.aload_n 0, 1) := by decide +kernel
theorem dL_law_268 : decode cL_law 268 = .ok (.iload_n 3, 1) := by decide +kernel
theorem dL_law_269 : decode cL_law 269 = .ok (.iconst 1, 1) := by decide +kernel
theorem dL_law_270 : decode cL_law 270 = .ok (.iadd, 1) := by decide +kernel
theorem dL_law_271 : decode cL_law 271 = .ok (.iaload, 1) := by decide +kernel
theorem dL_law_272 : decode cL_law 272 = .ok (.i2l, 1) := by decide +kernel
theorem dL_law_273 : decode cL_law 273 = .ok (.bipush 32, 2) := by decide +kernel
theorem dL_law_275 : decode cL_law 275 = .ok (.lshl, 1) := by decide +kernel
theorem dL_law_276 : decode cL_law 276 = .ok (.aload_n 0, 1) := by decide +kernel
theorem dL_law_277 : decode cL_law 277 = .ok (.iload_n 3, 1) := by decide +kernel
theorem dL_law_278 : decode cL_law 278 = .ok (.iconst 2, 1) := by decide +kernel
theorem dL_law_279 : decode cL_law 279 = .ok (.iadd, 1) := by decide +kernel
theorem dL_law_280 : decode cL_law 280 = .ok (.iaload, 1) := by decide +kernel
theorem dL_law_281 : decode cL_law 281 = .ok (.i2l, 1) := by decide +kernel
theorem dL_law_282 : decode cL_law 282 = .ok (.ldc2_w 28, 3) := by decide +kernel
theorem dL_law_285 : decode cL_law 285 = .ok (.land, 1) := by decide +kernel
theorem dL_law_286 : decode cL_law 286 = .ok (.lor, 1) := by decide +kernel
theorem dL_law_287 : decode cL_law 287 = .ok (.aload_n 0, 1) := by decide +kernel
theorem dL_law_288 : decode cL_law 288 = .ok (.iload_n 3, 1) := by decide +kernel
theorem dL_law_289 : decode cL_law 289 = .ok (.iconst 3, 1) := by decide +kernel
theorem dL_law_290 : decode cL_law 290 = .ok (.iadd, 1) := by decide +kernel
theorem dL_law_291 : decode cL_law 291 = .ok (.iaload, 1) := by decide +kernel
theorem dL_law_292 : decode cL_law 292 = .ok (.invokevirtual 34, 3) := by decide +kernel
theorem dL_law_295 : decode cL_law 295 = .ok (.if_icmp .eq 540, 3) := by decide +kernel
theorem dL_law_298 : decode cL_law 298 = .ok (.iconst 0, 1) := by decide +kernel
theorem dL_law_299 : decode cL_law 299 = .ok (.ireturn, 1) := by decide +kernel
theorem dL_law_300 : decode cL_law 300 = .ok (.aload_n 1, 1) := by decide +kernel
theorem dL_law_301 : decode cL_law 301 = .ok (.aload_n 0, 1) := by decide +kernel
theorem dL_law_302 : decode cL_law 302 = .ok (.iload_n 3, 1) := by decide +kernel
theorem dL_law_303 : decode cL_law 303 = .ok (.iconst 1, 1) := by decide +kernel
theorem dL_law_304 : decode cL_law 304 = .ok (.iadd, 1) := by decide +kernel
theorem dL_law_305 : decode cL_law 305 = .ok (.iaload, 1) := by decide +kernel
theorem dL_law_306 : decode cL_law 306 = .ok (.aload_n 0, 1) := by decide +kernel
theorem dL_law_307 : decode cL_law 307 = .ok (.iload_n 3, 1) := by decide +kernel
theorem dL_law_308 : decode cL_law 308 = .ok (.iconst 2, 1) := by decide +kernel
theorem dL_law_309 : decode cL_law 309 = .ok (.iadd, 1) := by decide +kernel
theorem dL_law_310 : decode cL_law 310 = .ok (.iaload, 1) := by decide +kernel
theorem dL_law_311 : decode cL_law 311 = .ok (.invokevirtual 35, 3) := by decide +kernel
theorem dL_law_314 : decode cL_law 314 = .ok (.aload_n 2, 1) := by decide +kernel
theorem dL_law_315 : decode cL_law 315 = .ok (.aload_n 0, 1) := by decide +kernel
theorem dL_law_316 : decode cL_law 316 = .ok (.iload_n 3, 1) := by decide +kernel
theorem dL_law_317 : decode cL_law 317 = .ok (.iconst 1, 1) := by decide +kernel
theorem dL_law_318 : decode cL_law 318 = .ok (.iadd, 1) := by decide +kernel
theorem dL_law_319 : decode cL_law 319 = .ok (.iaload, 1) := by decide +kernel
theorem dL_law_320 : decode cL_law 320 = .ok (.aload_n 0, 1) := by decide +kernel
theorem dL_law_321 : decode cL_law 321 = .ok (.iload_n 3, 1) := by decide +kernel
theorem dL_law_322 : decode cL_law 322 = .ok (.iconst 2, 1) := by decide +kernel
theorem dL_law_323 : decode cL_law 323 = .ok (.iadd, 1) := by decide +kernel
theorem dL_law_324 : decode cL_law 324 = .ok (.iaload, 1) := by decide +kernel
theorem dL_law_325 : decode cL_law 325 = .ok (.invokevirtual 38, 3) := by decide +kernel
theorem dL_law_328 : decode cL_law 328 = .ok (.if_icmp .eq 507, 3) := by decide +kernel
theorem dL_law_331 : decode cL_law 331 = .ok (.iconst 0, 1) := by decide +kernel
theorem dL_law_332 : decode cL_law 332 = .ok (.ireturn, 1) := by decide +kernel
theorem dL_law_333 : decode cL_law 333 = .ok (.aload_n 1, 1) := by decide +kernel
theorem dL_law_334 : decode cL_law 334 = .ok (.aload_n 0, 1) := by decide +kernel
theorem dL_law_335 : decode cL_law 335 = .ok (.iload_n 3, 1) := by decide +kernel
theorem dL_law_336 : decode cL_law 336 = .ok (.iconst 1, 1) := by decide +kernel
theorem dL_law_337 : decode cL_law 337 = .ok (.iadd, 1) := by decide +kernel
theorem dL_law_338 : decode cL_law 338 = .ok (.iaload, 1) := by decide +kernel
theorem dL_law_339 : decode cL_law 339 = .ok (.aload_n 0, 1) := by decide +kernel
theorem dL_law_340 : decode cL_law 340 = .ok (.iload_n 3, 1) := by decide +kernel
theorem dL_law_341 : decode cL_law 341 = .ok (.iconst 2, 1) := by decide +kernel
theorem dL_law_342 : decode cL_law 342 = .ok (.iadd, 1) := by decide +kernel
theorem dL_law_343 : decode cL_law 343 = .ok (.iaload, 1) := by decide +kernel
theorem dL_law_344 : decode cL_law 344 = .ok (.invokevirtual 39, 3) := by decide +kernel
theorem dL_law_347 : decode cL_law 347 = .ok (.aload_n 2, 1) := by decide +kernel
theorem dL_law_348 : decode cL_law 348 = .ok (.aload_n 0, 1) := by decide +kernel
theorem dL_law_349 : decode cL_law 349 = .ok (.iload_n 3, 1) := by decide +kernel
theorem dL_law_350 : decode cL_law 350 = .ok (.iconst 1, 1) := by decide +kernel
theorem dL_law_351 : decode cL_law 351 = .ok (.iadd, 1) := by decide +kernel
theorem dL_law_352 : decode cL_law 352 = .ok (.iaload, 1) := by decide +kernel
theorem dL_law_353 : decode cL_law 353 = .ok (.aload_n 0, 1) := by decide +kernel
theorem dL_law_354 : decode cL_law 354 = .ok (.iload_n 3, 1) := by decide +kernel
theorem dL_law_355 : decode cL_law 355 = .ok (.iconst 2, 1) := by decide +kernel
theorem dL_law_356 : decode cL_law 356 = .ok (.iadd, 1) := by decide +kernel
theorem dL_law_357 : decode cL_law 357 = .ok (.iaload, 1) := by decide +kernel
theorem dL_law_358 : decode cL_law 358 = .ok (.invokevirtual 42, 3) := by decide +kernel
theorem dL_law_361 : decode cL_law 361 = .ok (.if_icmp .eq 474, 3) := by decide +kernel
theorem dL_law_364 : decode cL_law 364 = .ok (.iconst 0, 1) := by decide +kernel
theorem dL_law_365 : decode cL_law 365 = .ok (.ireturn, 1) := by decide +kernel
theorem dL_law_366 : decode cL_law 366 = .ok (.aload_n 1, 1) := by decide +kernel
theorem dL_law_367 : decode cL_law 367 = .ok (.aload_n 0, 1) := by decide +kernel
theorem dL_law_368 : decode cL_law 368 = .ok (.iload_n 3, 1) := by decide +kernel
theorem dL_law_369 : decode cL_law 369 = .ok (.iconst 1, 1) := by decide +kernel
theorem dL_law_370 : decode cL_law 370 = .ok (.iadd, 1) := by decide +kernel
theorem dL_law_371 : decode cL_law 371 = .ok (.iaload, 1) := by decide +kernel
theorem dL_law_372 : decode cL_law 372 = .ok (.aload_n 0, 1) := by decide +kernel
theorem dL_law_373 : decode cL_law 373 = .ok (.iload_n 3, 1) := by decide +kernel
theorem dL_law_374 : decode cL_law 374 = .ok (.iconst 2, 1) := by decide +kernel
theorem dL_law_375 : decode cL_law 375 = .ok (.iadd, 1) := by decide +kernel
theorem dL_law_376 : decode cL_law 376 = .ok (.iaload, 1) := by decide +kernel
theorem dL_law_377 : decode cL_law 377 = .ok (.invokevirtual 43, 3) := by decide +kernel
theorem dL_law_380 : decode cL_law 380 = .ok (.aload_n 2, 1) := by decide +kernel
theorem dL_law_381 : decode cL_law 381 = .ok (.aload_n 0, 1) := by decide +kernel
theorem dL_law_382 : decode cL_law 382 = .ok (.iload_n 3, 1) := by decide +kernel
theorem dL_law_383 : decode cL_law 383 = .ok (.iconst 1, 1) := by decide +kernel
