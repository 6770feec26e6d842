theorem dX5_forge_22 : decode cX5_forge 22 = .ok (.iadd, 1) := by decide +kernel
theorem dX5_forge_23 : decode cX5_forge 23 = .ok (.laload, 1) := by decide +kernel
theorem dX5_forge_24 : decode cX5_forge 24 = .ok (.lstore 5, 2) := by decide +kernel
theorem dX5_forge_26 : decode cX5_forge 26 = .ok (.aload_n 0, 1) := by decide +kernel
theorem dX5_forge_27 : decode cX5_forge 27 = .ok (.getfield 66, 3) := by decide +kernel
theorem dX5_forge_30 : decode cX5_forge 30 = .ok (.bipush 12, 2) := by decide +kernel
theorem dX5_forge_32 : decode cX5_forge 32 = .ok (.iload_n 1, 1) := by decide +kernel
theorem dX5_forge_33 : decode cX5_forge 33 = .ok (.imul, 1) := by decide +kernel
theorem dX5_forge_34 : decode cX5_forge 34 = .ok (.iload_n 2, 1) := by decide +kernel
theorem dX5_forge_35 : decode cX5_forge 35 = .ok (.iadd, 1) := by decide +kernel
theorem dX5_forge_36 : decode cX5_forge 36 = .ok (.lload_n 3, 1) := by decide +kernel
theorem dX5_forge_37 : decode cX5_forge 37 = .ok (.lastore, 1) := by decide +kernel
theorem dX5_forge_38 : decode cX5_forge 38 = .ok (.lload 5, 2) := by decide +kernel
theorem dX5_forge_40 : decode cX5_forge 40 = .ok (.lreturn, 1) := by decide +kernel
theorem dX5_check_0 : decode cX5_check 0 = .ok (.aload_n 0, 1) := by decide +kernel
theorem dX5_check_1 : decode cX5_check 1 = .ok (.getfield 97, 3) := by decide +kernel
theorem dX5_check_4 : decode cX5_check 4 = .ok (.ifCond .ge 6, 3) := by decide +kernel
theorem dX5_check_7 : decode cX5_check 7 = .ok (.bipush (-3), 2) := by decide +kernel
theorem dX5_check_9 : decode cX5_check 9 = .ok (.ireturn, 1) := by decide +kernel
theorem dX5_check_10 : decode cX5_check 10 = .ok (.iconst 0, 1) := by decide +kernel
theorem dX5_check_11 : decode cX5_check 11 = .ok (.istore_n 1, 1) := by decide +kernel
theorem dX5_check_12 : decode cX5_check 12 = .ok (.iload_n 1, 1) := by decide +kernel
theorem dX5_check_13 : decode cX5_check 13 = .ok (.aload_n 0, 1) := by decide +kernel
theorem dX5_check_14 : decode cX5_check 14 = .ok (.getfield 124, 3) := by decide +kernel
theorem dX5_check_17 : decode cX5_check 17 = .ok (.if_icmp .ge 56, 3) := by decide +kernel
theorem dX5_check_20 : decode cX5_check 20 = .ok (.iconst 0, 1) := by decide +kernel
theorem dX5_check_21 : decode cX5_check 21 = .ok (.istore_n 2, 1) := by decide +kernel
theorem dX5_check_22 : decode cX5_check 22 = .ok (.iload_n 2, 1) := by decide +kernel
theorem dX5_check_23 : decode cX5_check 23 = .ok (.aload_n 0, 1) := by decide +kernel
theorem dX5_check_24 : decode cX5_check 24 = .ok (.getfield 207, 3) := by decide +kernel
theorem dX5_check_27 : decode cX5_check 27 = .ok (.if_icmp .ge 40, 3) := by decide +kernel
theorem dX5_check_30 : decode cX5_check 30 = .ok (.aload_n 0, 1) := by decide +kernel
theorem dX5_check_31 : decode cX5_check 31 = .ok (.getfield 66, 3) := by decide +kernel
theorem dX5_check_34 : decode cX5_check 34 = .ok (.bipush 12, 2) := by decide +kernel
theorem dX5_check_36 : decode cX5_check 36 = .ok (.iload_n 1, 1) := by decide +kernel
theorem dX5_check_37 : decode cX5_check 37 = .ok (.imul, 1) := by decide +kernel
theorem dX5_check_38 : decode cX5_check 38 = .ok (.iload_n 2, 1) := by decide +kernel
theorem dX5_check_39 : decode cX5_check 39 = .ok (.iadd, 1) := by decide +kernel
theorem dX5_check_40 : decode cX5_check 40 = .ok (.laload, 1) := by decide +kernel
theorem dX5_check_41 : decode cX5_check 41 = .ok (.aload_n 0, 1) := by decide +kernel
theorem dX5_check_42 : decode cX5_check 42 = .ok (.getfield 51, 3) := by decide +kernel
theorem dX5_check_45 : decode cX5_check 45 = .ok (.bipush 12, 2) := by decide +kernel
theorem dX5_check_47 : decode cX5_check 47 = .ok (.iload_n 1, 1) := by decide +kernel
theorem dX5_check_48 : decode cX5_check 48 = .ok (.imul, 1) := by decide +kernel
theorem dX5_check_49 : decode cX5_check 49 = .ok (.iload_n 2, 1) := by decide +kernel
theorem dX5_check_50 : decode cX5_check 50 = .ok (.iadd, 1) := by decide +kernel
theorem dX5_check_51 : decode cX5_check 51 = .ok (.laload, 1) := by decide +kernel
theorem dX5_check_52 : decode cX5_check 52 = .ok (.lcmp, 1) := by decide +kernel
theorem dX5_check_53 : decode cX5_check 53 = .ok (.ifCond .eq 8, 3) := by decide +kernel
theorem dX5_check_56 : decode cX5_check 56 = .ok (.bipush (-20), 2) := by decide +kernel
theorem dX5_check_58 : decode cX5_check 58 = .ok (.iload_n 1, 1) := by decide +kernel
theorem dX5_check_59 : decode cX5_check 59 = .ok (.isub, 1) := by decide +kernel
theorem dX5_check_60 : decode cX5_check 60 = .ok (.ireturn, 1) := by decide +kernel
theorem dX5_check_61 : decode cX5_check 61 = .ok (.iinc 2 1, 3) := by decide +kernel
theorem dX5_check_64 : decode cX5_check 64 = .ok (.goto (-42), 3) := by decide +kernel
theorem dX5_check_67 : decode cX5_check 67 = .ok (.iinc 1 1, 3) := by decide +kernel
theorem dX5_check_70 : decode cX5_check 70 = .ok (.goto (-58), 3) := by decide +kernel
theorem dX5_check_73 : decode cX5_check 73 = .ok (.iconst 1, 1) := by decide +kernel
theorem dX5_check_74 : decode cX5_check 74 = .ok (.ireturn, 1) := by decide +kernel
theorem dX5_rank_0 : decode cX5_rank 0 = .ok (.bipush 12, 2) := by decide +kernel
theorem dX5_rank_2 : decode cX5_rank 2 = .ok (.istore_n 3, 1) := by decide +kernel
theorem dX5_rank_3 : decode cX5_rank 3 = .ok (.iconst 0, 1) := by decide +kernel
theorem dX5_rank_4 : decode cX5_rank 4 = .ok (.istore 4, 2) := by decide +kernel
theorem dX5_rank_6 : decode cX5_rank 6 = .ok (.iload 4, 2) := by decide +kernel
theorem dX5_rank_8 : decode cX5_rank 8 = .ok (.aload_n 0, 1) := by decide +kernel
theorem dX5_rank_9 : decode cX5_rank 9 = .ok (.getfield 20, 3) := by decide +kernel
theorem dX5_rank_12 : decode cX5_rank 12 = .ok (.iload_n 1, 1) := by decide +kernel
theorem dX5_rank_13 : decode cX5_rank 13 = .ok (.iaload, 1) := by decide +kernel
theorem dX5_rank_14 : decode cX5_rank 14 = .ok (.if_icmp .ge 32, 3) := by decide +kernel
theorem dX5_rank_17 : decode cX5_rank 17 = .ok (.aload_n 0, 1) := by decide +kernel
theorem dX5_rank_18 : decode cX5_rank 18 = .ok (.getfield 23, 3) := by decide +kernel
theorem dX5_rank_21 : decode cX5_rank 21 = .ok (.bipush 12, 2) := by decide +kernel
theorem dX5_rank_23 : decode cX5_rank 23 = .ok (.iload_n 1, 1) := by decide +kernel
theorem dX5_rank_24 : decode cX5_rank 24 = .ok (.imul, 1) := by decide +kernel
theorem dX5_rank_25 : decode cX5_rank 25 = .ok (.iload 4, 2) := by decide +kernel
theorem dX5_rank_27 : decode cX5_rank 27 = .ok (.iadd, 1) := by decide +kernel
theorem dX5_rank_28 : decode cX5_rank 28 = .ok (.iaload, 1) := by decide +kernel
theorem dX5_rank_29 : decode cX5_rank 29 = .ok (.iload_n 2, 1) := by decide +kernel
theorem dX5_rank_30 : decode cX5_rank 30 = .ok (.if_icmp .ne 8, 3) := by decide +kernel
theorem dX5_rank_33 : decode cX5_rank 33 = .ok (.iload 4, 2) := by decide +kernel
theorem dX5_rank_35 : decode cX5_rank 35 = .ok (.goto 4, 3) := by decide +kernel
theorem dX5_rank_38 : decode cX5_rank 38 = .ok (.iload_n 3, 1) := by decide +kernel
theorem dX5_rank_39 : decode cX5_rank 39 = .ok (.istore_n 3, 1) := by decide +kernel
theorem dX5_rank_40 : decode cX5_rank 40 = .ok (.iinc 4 1, 3) := by decide +kernel
theorem dX5_rank_43 : decode cX5_rank 43 = .ok (.goto (-37), 3) := by decide +kernel
theorem dX5_rank_46 : decode cX5_rank 46 = .ok (.iload_n 3, 1) := by decide +kernel
theorem dX5_rank_47 : decode cX5_rank 47 = .ok (.ireturn, 1) := by decide +kernel
set_option maxRecDepth 20000 in
theorem ggX5_preferring_X5_rank : GoodIn wsX5_preferring wsX5_rank := goodIn_r _ [7, 8, 9, 10, 11, 12, 13, 14, 15, 16, 17, 18, 19, 20, 21, 22, 23, 24, 25, 26, 27, 28, 29, 30, 31, 32, 33, 34, 35, 36, 37, 38, 39, 40, 41, 42, 43, 44, 45, 46, 47] (by decide +kernel) (by decide +kernel)
set_option maxRecDepth 20000 in
theorem gX5_preferring_X5_rank : GoodIn wsX5_preferring (wsV RX5 229 RX5 yX5_rank wsX5_rank) := goodIn_app (goodIn_of _ (by decide +kernel)) ggX5_preferring_X5_rank
theorem dX5_preferring_0 : decode cX5_preferring 0 = .ok (.iconst 0, 1) := by decide +kernel
theorem dX5_preferring_1 : decode cX5_preferring 1 = .ok (.istore_n 3, 1) := by decide +kernel
theorem dX5_preferring_2 : decode cX5_preferring 2 = .ok (.iconst 0, 1) := by decide +kernel
theorem dX5_preferring_3 : decode cX5_preferring 3 = .ok (.istore 4, 2) := by decide +kernel
theorem dX5_preferring_5 : decode cX5_preferring 5 = .ok (.iload 4, 2) := by decide +kernel
theorem dX5_preferring_7 : decode cX5_preferring 7 = .ok (.aload_n 0, 1) := by decide +kernel
theorem dX5_preferring_8 : decode cX5_preferring 8 = .ok (.getfield 104, 3) := by decide +kernel
theorem dX5_preferring_11 : decode cX5_preferring 11 = .ok (.if_icmp .ge 40, 3) := by decide +kernel
theorem dX5_preferring_14 : decode cX5_preferring 14 = .ok (.iload_n 3, 1) := by decide +kernel
theorem dX5_preferring_15 : decode cX5_preferring 15 = .ok (.aload_n 0, 1) := by decide +kernel
theorem dX5_preferring_16 : decode cX5_preferring 16 = .ok (.iload 4, 2) := by decide +kernel
theorem dX5_preferring_18 : decode cX5_preferring 18 = .ok (.iload_n 1, 1) := by decide +kernel
theorem dX5_preferring_19 : decode cX5_preferring 19 = .ok (.invokevirtual 229, 3) := by decide +kernel
theorem dX5_preferring_22 : decode cX5_preferring 22 = .ok (.aload_n 0, 1) := by decide +kernel
theorem dX5_preferring_23 : decode cX5_preferring 23 = .ok (.iload 4, 2) := by decide +kernel
theorem dX5_preferring_25 : decode cX5_preferring 25 = .ok (.iload_n 2, 1) := by decide +kernel
theorem dX5_preferring_26 : decode cX5_preferring 26 = .ok (.invokevirtual 229, 3) := by decide +kernel
theorem dX5_preferring_29 : decode cX5_preferring 29 = .ok (.if_icmp .ge 13, 3) := by decide +kernel
theorem dX5_preferring_32 : decode cX5_preferring 32 = .ok (.aload_n 0, 1) := by decide +kernel
theorem dX5_preferring_33 : decode cX5_preferring 33 = .ok (.getfield 17, 3) := by decide +kernel
theorem dX5_preferring_36 : decode cX5_preferring 36 = .ok (.iload 4, 2) := by decide +kernel
theorem dX5_preferring_38 : decode cX5_preferring 38 = .ok (.iaload, 1) := by decide +kernel
theorem dX5_preferring_39 : decode cX5_preferring 39 = .ok (.goto 4, 3) := by decide +kernel
theorem dX5_preferring_42 : decode cX5_preferring 42 = .ok (.iconst 0, 1) := by decide +kernel
theorem dX5_preferring_43 : decode cX5_preferring 43 = .ok (.iadd, 1) := by decide +kernel
theorem dX5_preferring_44 : decode cX5_preferring 44 = .ok (.istore_n 3, 1) := by decide +kernel
theorem dX5_preferring_45 : decode cX5_preferring 45 = .ok (.iinc 4 1, 3) := by decide +kernel
theorem dX5_preferring_48 : decode cX5_preferring 48 = .ok (.goto (-43), 3) := by decide +kernel
theorem dX5_preferring_51 : decode cX5_preferring 51 = .ok (.iload_n 3, 1) := by decide +kernel
theorem dX5_preferring_52 : decode cX5_preferring 52 = .ok (.ireturn, 1) := by decide +kernel
set_option maxRecDepth 20000 in
theorem ggX5_beats_X5_preferring : GoodIn wsX5_beats wsX5_preferring := goodIn_r _ [6, 7, 8, 9, 10, 11, 5, 12, 13, 14, 15, 16, 17, 18, 19, 20, 21, 22, 23, 24, 25, 26, 27, 28, 29, 30, 31, 32, 33, 34, 35, 36, 37, 38, 39, 40, 41, 42, 43, 44, 45, 46, 47, 48, 49, 50, 51, 52] (by decide +kernel) (by decide +kernel)
set_option maxRecDepth 20000 in
theorem gX5_beats_X5_preferring : GoodIn wsX5_beats (wsV RX5 233 RX5 yX5_preferring wsX5_preferring) := goodIn_app (goodIn_of _ (by decide +kernel)) ggX5_beats_X5_preferring
theorem dX5_beats_0 : decode cX5_beats 0 = .ok (.iload_n 1, 1) := by decide +kernel
theorem dX5_beats_1 : decode cX5_beats 1 = .ok (.iload_n 2, 1) := by decide +kernel
theorem dX5_beats_2 : decode cX5_beats 2 = .ok (.if_icmp .eq 40, 3) := by decide +kernel
theorem dX5_beats_5 : decode cX5_beats 5 = .ok (.aload_n 0, 1) := by decide +kernel
theorem dX5_beats_6 : decode cX5_beats 6 = .ok (.getfield 7, 3) := by decide +kernel
theorem dX5_beats_9 : decode cX5_beats 9 = .ok (.iload_n 1, 1) := by decide +kernel
theorem dX5_beats_10 : decode cX5_beats 10 = .ok (.baload, 1) := by decide +kernel
theorem dX5_beats_11 : decode cX5_beats 11 = .ok (.ifCond .ne 31, 3) := by decide +kernel
theorem dX5_beats_14 : decode cX5_beats 14 = .ok (.aload_n 0, 1) := by decide +kernel
theorem dX5_beats_15 : decode cX5_beats 15 = .ok (.getfield 7, 3) := by decide +kernel
theorem dX5_beats_18 : decode cX5_beats 18 = .ok (.iload_n 2, 1) := by decide +kernel
theorem dX5_beats_19 : decode cX5_beats 19 = .ok (.baload, 1) := by decide +kernel
theorem dX5_beats_20 : decode cX5_beats 20 = .ok (.ifCond .ne 22, 3) := by decide +kernel
theorem dX5_beats_23 : decode cX5_beats 23 = .ok (.aload_n 0, 1) := by decide +kernel
theorem dX5_beats_24 : decode cX5_beats 24 = .ok (.iload_n 1, 1) := by decide +kernel
theorem dX5_beats_25 : decode cX5_beats 25 = .ok (.iload_n 2, 1) := by decide +kernel
theorem dX5_beats_26 : decode cX5_beats 26 = .ok (.invokevirtual 233, 3) := by decide +kernel
theorem dX5_beats_29 : decode cX5_beats 29 = .ok (.aload_n 0, 1) := by decide +kernel
theorem dX5_beats_30 : decode cX5_beats 30 = .ok (.iload_n 2, 1) := by decide +kernel
theorem dX5_beats_31 : decode cX5_beats 31 = .ok (.iload_n 1, 1) := by decide +kernel
theorem dX5_beats_32 : decode cX5_beats 32 = .ok (.invokevirtual 233, 3) := by decide +kernel
theorem dX5_beats_35 : decode cX5_beats 35 = .ok (.if_icmp .le 7, 3) := by decide +kernel
theorem dX5_beats_38 : decode cX5_beats 38 = .ok (.iconst 1, 1) := by decide +kernel
theorem dX5_beats_39 : decode cX5_beats 39 = .ok (.goto 4, 3) := by decide +kernel
theorem dX5_beats_42 : decode cX5_beats 42 = .ok (.iconst 0, 1) := by decide +kernel
theorem dX5_beats_43 : decode cX5_beats 43 = .ok (.ireturn, 1) := by decide +kernel
set_option maxRecDepth 20000 in
theorem ggX5_prefer_X5_noOne : GoodIn wsX5_prefer wsX5_noOne := goodIn_r _ [5, 6, 7, 8, 4, 9, 22, 23, 24, 25, 26, 27, 28, 29, 30, 31, 32, 33, 34, 35, 36, 37, 38, 39, 40, 41, 42, 43, 44, 45, 46, 47, 48, 49, 50, 51, 52, 53, 54, 55, 56, 57, 58, 59] (by decide +kernel) (by decide +kernel)
set_option maxRecDepth 20000 in
theorem gX5_prefer_X5_noOne : GoodIn wsX5_prefer (wsV RX5 111 RX5 yX5_noOne wsX5_noOne) := goodIn_app (goodIn_of _ (by decide +kernel)) ggX5_prefer_X5_noOne
set_option maxRecDepth 20000 in
theorem ggX5_prefer_X5_preferring : GoodIn wsX5_prefer wsX5_preferring := goodIn_r _ [13, 14, 15, 16, 17, 18, 4, 19, 20, 21, 22, 23, 24, 25, 26, 27, 28, 29, 30, 31, 32, 33, 34, 35, 36, 37, 38, 39, 40, 41, 42, 43, 44, 45, 46, 47, 48, 49, 50, 51, 52, 53, 54, 55, 56, 57, 58, 59] (by decide +kernel) (by decide +kernel)
set_option maxRecDepth 20000 in
theorem gX5_prefer_X5_preferring : GoodIn wsX5_prefer (wsV RX5 233 RX5 yX5_preferring wsX5_preferring) := goodIn_app (goodIn_of _ (by decide +kernel)) ggX5_prefer_X5_preferring
theorem dX5_prefer_0 : decode cX5_prefer 0 = .ok (.aload_n 0, 1) := by decide +kernel
theorem dX5_prefer_1 : decode cX5_prefer 1 = .ok (.iload_n 1, 1) := by decide +kernel
theorem dX5_prefer_2 : decode cX5_prefer 2 = .ok (.invokevirtual 111, 3) := by decide +kernel
theorem dX5_prefer_5 : decode cX5_prefer 5 = .ok (.ifCond .ne 11, 3) := by decide +kernel
theorem dX5_prefer_8 : decode cX5_prefer 8 = .ok (.aload_n 0, 1) := by decide +kernel
theorem dX5_prefer_9 : decode cX5_prefer 9 = .ok (.iload_n 2, 1) := by decide +kernel
theorem dX5_prefer_10 : decode cX5_prefer 10 = .ok (.invokevirtual 111, 3) := by decide +kernel
theorem dX5_prefer_13 : decode cX5_prefer 13 = .ok (.ifCond .eq 5, 3) := by decide +kernel
theorem dX5_prefer_16 : decode cX5_prefer 16 = .ok (.iconst (-1), 1) := by decide +kernel
theorem dX5_prefer_17 : decode cX5_prefer 17 = .ok (.ireturn, 1) := by decide +kernel
theorem dX5_prefer_18 : decode cX5_prefer 18 = .ok (.iload_n 1, 1) := by decide +kernel
theorem dX5_prefer_19 : decode cX5_prefer 19 = .ok (.iload_n 2, 1) := by decide +kernel
theorem dX5_prefer_20 : decode cX5_prefer 20 = .ok (.if_icmp .ne 8, 3) := by decide +kernel
theorem dX5_prefer_23 : decode cX5_prefer 23 = .ok (.bipush (-3), 2) := by decide +kernel
theorem dX5_prefer_25 : decode cX5_prefer 25 = .ok (.goto 9, 3) := by decide +kernel
theorem dX5_prefer_28 : decode cX5_prefer 28 = .ok (.aload_n 0, 1) := by decide +kernel
theorem dX5_prefer_29 : decode cX5_prefer 29 = .ok (.iload_n 1, 1) := by decide +kernel
theorem dX5_prefer_30 : decode cX5_prefer 30 = .ok (.iload_n 2, 1) := by decide +kernel
theorem dX5_prefer_31 : decode cX5_prefer 31 = .ok (.invokevirtual 233, 3) := by decide +kernel
theorem dX5_prefer_34 : decode cX5_prefer 34 = .ok (.ireturn, 1) := by decide +kernel
set_option maxRecDepth 20000 in
theorem ggX5_winner_X5_beats : GoodIn wsX5_winner wsX5_beats := goodIn_r _ [7, 2, 8, 9, 10, 6, 11, 12, 13, 14, 15, 16, 17, 18, 19, 20, 21, 22, 23, 24, 25, 26, 27, 28, 29, 30, 31, 32, 33, 34, 35, 36, 37, 38, 39, 40, 41, 42, 43, 44, 45, 46, 47, 48, 49, 50, 51, 52, 53, 54, 55, 56, 57] (by decide +kernel) (by decide +kernel)
set_option maxRecDepth 20000 in
theorem gX5_winner_X5_beats : GoodIn wsX5_winner (wsV RX5 236 RX5 yX5_beats wsX5_beats) := goodIn_app (goodIn_of _ (by decide +kernel)) ggX5_winner_X5_beats
theorem dX5_winner_0 : decode cX5_winner 0 = .ok (.iconst 0, 1) := by decide +kernel
theorem dX5_winner_1 : decode cX5_winner 1 = .ok (.istore_n 1, 1) := by decide +kernel
theorem dX5_winner_2 : decode cX5_winner 2 = .ok (.iload_n 1, 1) := by decide +kernel
theorem dX5_winner_3 : decode cX5_winner 3 = .ok (.aload_n 0, 1) := by decide +kernel
theorem dX5_winner_4 : decode cX5_winner 4 = .ok (.getfield 101, 3) := by decide +kernel
theorem dX5_winner_7 : decode cX5_winner 7 = .ok (.if_icmp .ge 79, 3) := by decide +kernel
theorem dX5_winner_10 : decode cX5_winner 10 = .ok (.aload_n 0, 1) := by decide +kernel
theorem dX5_winner_11 : decode cX5_winner 11 = .ok (.getfield 7, 3) := by decide +kernel
theorem dX5_winner_14 : decode cX5_winner 14 = .ok (.iload_n 1, 1) := by decide +kernel
theorem dX5_winner_15 : decode cX5_winner 15 = .ok (.baload, 1) := by decide +kernel
theorem dX5_winner_16 : decode cX5_winner 16 = .ok (.ifCond .ne 7, 3) := by decide +kernel
theorem dX5_winner_19 : decode cX5_winner 19 = .ok (.iconst 1, 1) := by decide +kernel
theorem dX5_winner_20 : decode cX5_winner 20 = .ok (.goto 4, 3) := by decide +kernel
theorem dX5_winner_23 : decode cX5_winner 23 = .ok (.iconst 0, 1) := by decide +kernel
theorem dX5_winner_24 : decode cX5_winner 24 = .ok (.istore_n 2, 1) := by decide +kernel
theorem dX5_winner_25 : decode cX5_winner 25 = .ok (.iconst 0, 1) := by decide +kernel
theorem dX5_winner_26 : decode cX5_winner 26 = .ok (.istore_n 3, 1) := by decide +kernel
theorem dX5_winner_27 : decode cX5_winner 27 = .ok (.iload_n 3, 1) := by decide +kernel
theorem dX5_winner_28 : decode cX5_winner 28 = .ok (.aload_n 0, 1) := by decide +kernel
theorem dX5_winner_29 : decode cX5_winner 29 = .ok (.getfield 101, 3) := by decide +kernel
theorem dX5_winner_32 : decode cX5_winner 32 = .ok (.if_icmp .ge 42, 3) := by decide +kernel
theorem dX5_winner_35 : decode cX5_winner 35 = .ok (.iload_n 2, 1) := by decide +kernel
theorem dX5_winner_36 : decode cX5_winner 36 = .ok (.ifCond .eq 38, 3) := by decide +kernel
theorem dX5_winner_39 : decode cX5_winner 39 = .ok (.iload_n 1, 1) := by decide +kernel
theorem dX5_winner_40 : decode cX5_winner 40 = .ok (.iload_n 3, 1) := by decide +kernel
theorem dX5_winner_41 : decode cX5_winner 41 = .ok (.if_icmp .eq 21, 3) := by decide +kernel
theorem dX5_winner_44 : decode cX5_winner 44 = .ok (.aload_n 0, 1) := by decide +kernel
theorem dX5_winner_45 : decode cX5_winner 45 = .ok (.getfield 7, 3) := by decide +kernel
theorem dX5_winner_48 : decode cX5_winner 48 = .ok (.iload_n 3, 1) := by decide +kernel
theorem dX5_winner_49 : decode cX5_winner 49 = .ok (.baload, 1) := by decide +kernel
theorem dX5_winner_50 : decode cX5_winner 50 = .ok (.ifCond .ne 12, 3) := by decide +kernel
theorem dX5_winner_53 : decode cX5_winner 53 = .ok (.aload_n 0, 1) := by decide +kernel
theorem dX5_winner_54 : decode cX5_winner 54 = .ok (.iload_n 1, 1) := by decide +kernel
theorem dX5_winner_55 : decode cX5_winner 55 = .ok (.iload_n 3, 1) := by decide +kernel
theorem dX5_winner_56 : decode cX5_winner 56 = .ok (.invokevirtual 236, 3) := by decide +kernel
theorem dX5_winner_59 : decode cX5_winner 59 = .ok (.ifCond .eq 7, 3) := by decide +kernel
theorem dX5_winner_62 : decode cX5_winner 62 = .ok (.iconst 1, 1) := by decide +kernel
theorem dX5_winner_63 : decode cX5_winner 63 = .ok (.goto 4, 3) := by decide +kernel
theorem dX5_winner_66 : decode cX5_winner 66 = .ok (.iconst 0, 1) := by decide +kernel
theorem dX5_winner_67 : decode cX5_winner 67 = .ok (.istore_n 2, 1) := by decide +kernel
theorem dX5_winner_68 : decode cX5_winner 68 = .ok (.iinc 3 1, 3) := by decide +kernel
theorem dX5_winner_71 : decode cX5_winner 71 = .ok (.goto (-44), 3) := by decide +kernel
theorem dX5_winner_74 : decode cX5_winner 74 = .ok (.iload_n 2, 1) := by decide +kernel
theorem dX5_winner_75 : decode cX5_winner 75 = .ok (.ifCond .eq 5, 3) := by decide +kernel
theorem dX5_winner_78 : decode cX5_winner 78 = .ok (.iload_n 1, 1) := by decide +kernel
theorem dX5_winner_79 : decode cX5_winner 79 = .ok (.ireturn, 1) := by decide +kernel
theorem dX5_winner_80 : decode cX5_winner 80 = .ok (.iinc 1 1, 3) := by decide +kernel
theorem dX5_winner_83 : decode cX5_winner 83 = .ok (.goto (-81), 3) := by decide +kernel
theorem dX5_winner_86 : decode cX5_winner 86 = .ok (.bipush (-9), 2) := by decide +kernel
theorem dX5_winner_88 : decode cX5_winner 88 = .ok (.ireturn, 1) := by decide +kernel
set_option maxRecDepth 20000 in
theorem ggX5_leads_X5_noOne : GoodIn wsX5_leads wsX5_noOne := goodIn_r _ [7, 1, 8, 9, 6, 10, 28, 29, 30, 31, 32, 33, 34, 35, 36, 37, 38, 39, 40, 41, 42, 43, 44, 45, 46, 47, 48, 49, 50, 51, 52, 53, 54, 55, 56, 57, 58, 59, 60, 61, 62, 63, 64, 65] (by decide +kernel) (by decide +kernel)
set_option maxRecDepth 20000 in
theorem gX5_leads_X5_noOne : GoodIn wsX5_leads (wsV RX5 111 RX5 yX5_noOne wsX5_noOne) := goodIn_app (goodIn_of _ (by decide +kernel)) ggX5_leads_X5_noOne
set_option maxRecDepth 20000 in
theorem ggX5_leads_X5_beats : GoodIn wsX5_leads wsX5_beats := goodIn_r _ [14, 15, 16, 17, 18, 6, 19, 20, 21, 22, 23, 24, 25, 26, 27, 28, 29, 30, 31, 32, 33, 34, 35, 36, 37, 38, 39, 40, 41, 42, 43, 44, 45, 46, 47, 48, 49, 50, 51, 52, 53, 54, 55, 56, 57, 58, 59, 60, 61, 62, 63, 64, 65] (by decide +kernel) (by decide +kernel)
set_option maxRecDepth 20000 in
theorem gX5_leads_X5_beats : GoodIn wsX5_leads (wsV RX5 236 RX5 yX5_beats wsX5_beats) := goodIn_app (goodIn_of _ (by decide +kernel)) ggX5_leads_X5_beats
theorem dX5_leads_0 : decode cX5_leads 0 = .ok (.aload_n 0, 1) := by decide +kernel
theorem dX5_leads_1 : decode cX5_leads 1 = .ok (.iload_n 1, 1) := by decide +kernel
theorem dX5_leads_2 : decode cX5_leads 2 = .ok (.invokevirtual 111, 3) := by decide +kernel
theorem dX5_leads_5 : decode cX5_leads 5 = .ok (.ifCond .eq 5, 3) := by decide +kernel
theorem dX5_leads_8 : decode cX5_leads 8 = .ok (.iconst (-1), 1) := by decide +kernel
theorem dX5_leads_9 : decode cX5_leads 9 = .ok (.ireturn, 1) := by decide +kernel
theorem dX5_leads_10 : decode cX5_leads 10 = .ok (.iconst 0, 1) := by decide +kernel
theorem dX5_leads_11 : decode cX5_leads 11 = .ok (.istore_n 2, 1) := by decide +kernel
theorem dX5_leads_12 : decode cX5_leads 12 = .ok (.iload_n 2, 1) := by decide +kernel
theorem dX5_leads_13 : decode cX5_leads 13 = .ok (.aload_n 0, 1) := by decide +kernel
theorem dX5_leads_14 : decode cX5_leads 14 = .ok (.getfield 101, 3) := by decide +kernel
theorem dX5_leads_17 : decode cX5_leads 17 = .ok (.if_icmp .ge 21, 3) := by decide +kernel
theorem dX5_leads_20 : decode cX5_leads 20 = .ok (.aload_n 0, 1) := by decide +kernel
theorem dX5_leads_21 : decode cX5_leads 21 = .ok (.getfield 90, 3) := by decide +kernel
theorem dX5_leads_24 : decode cX5_leads 24 = .ok (.iload_n 2, 1) := by decide +kernel
theorem dX5_leads_25 : decode cX5_leads 25 = .ok (.aload_n 0, 1) := by decide +kernel
theorem dX5_leads_26 : decode cX5_leads 26 = .ok (.iload_n 1, 1) := by decide +kernel
theorem dX5_leads_27 : decode cX5_leads 27 = .ok (.iload_n 2, 1) := by decide +kernel
theorem dX5_leads_28 : decode cX5_leads 28 = .ok (.invokevirtual 236, 3) := by decide +kernel
theorem dX5_leads_31 : decode cX5_leads 31 = .ok (.bastore, 1) := by decide +kernel
theorem dX5_leads_32 : decode cX5_leads 32 = .ok (.iinc 2 1, 3) := by decide +kernel
theorem dX5_leads_35 : decode cX5_leads 35 = .ok (.goto (-23), 3) := by decide +kernel
theorem dX5_leads_38 : decode cX5_leads 38 = .ok (.iconst 1, 1) := by decide +kernel
theorem dX5_leads_39 : decode cX5_leads 39 = .ok (.istore_n 2, 1) := by decide +kernel
theorem dX5_leads_40 : decode cX5_leads 40 = .ok (.iload_n 2, 1) := by decide +kernel
theorem dX5_leads_41 : decode cX5_leads 41 = .ok (.ifCond .eq 81, 3) := by decide +kernel
theorem dX5_leads_44 : decode cX5_leads 44 = .ok (.iconst 0, 1) := by decide +kernel
theorem dX5_leads_45 : decode cX5_leads 45 = .ok (.istore_n 2, 1) := by decide +kernel
theorem dX5_leads_46 : decode cX5_leads 46 = .ok (.iconst 0, 1) := by decide +kernel
theorem dX5_leads_47 : decode cX5_leads 47 = .ok (.istore_n 3, 1) := by decide +kernel
theorem dX5_leads_48 : decode cX5_leads 48 = .ok (.iload_n 3, 1) := by decide +kernel
theorem dX5_leads_49 : decode cX5_leads 49 = .ok (.aload_n 0, 1) := by decide +kernel
theorem dX5_leads_50 : decode cX5_leads 50 = .ok (.getfield 101, 3) := by decide +kernel
theorem dX5_leads_53 : decode cX5_leads 53 = .ok (.if_icmp .ge 66, 3) := by decide +kernel
theorem dX5_leads_56 : decode cX5_leads 56 = .ok (.iconst 0, 1) := by decide +kernel
theorem dX5_leads_57 : decode cX5_leads 57 = .ok (.istore 4, 2) := by decide +kernel
theorem dX5_leads_59 : decode cX5_leads 59 = .ok (.iload 4, 2) := by decide +kernel
theorem dX5_leads_61 : decode cX5_leads 61 = .ok (.aload_n 0, 1) := by decide +kernel
theorem dX5_leads_62 : decode cX5_leads 62 = .ok (.getfield 101, 3) := by decide +kernel
theorem dX5_leads_65 : decode cX5_leads 65 = .ok (.if_icmp .ge 48, 3) := by decide +kernel
theorem dX5_leads_68 : decode cX5_leads 68 = .ok (.aload_n 0, 1) := by decide +kernel
theorem dX5_leads_69 : decode cX5_leads 69 = .ok (.getfield 90, 3) := by decide +kernel
theorem dX5_leads_72 : decode cX5_leads 72 = .ok (.iload_n 3, 1) := by decide +kernel
theorem dX5_leads_73 : decode cX5_leads 73 = .ok (.baload, 1) := by decide +kernel
theorem dX5_leads_74 : decode cX5_leads 74 = .ok (.ifCond .eq 33, 3) := by decide +kernel
theorem dX5_leads_77 : decode cX5_leads 77 = .ok (.aload_n 0, 1) := by decide +kernel
theorem dX5_leads_78 : decode cX5_leads 78 = .ok (.getfield 90, 3) := by decide +kernel
theorem dX5_leads_81 : decode cX5_leads 81 = .ok (.iload 4, 2) := by decide +kernel
theorem dX5_leads_83 : decode cX5_leads 83 = .ok (.baload, 1) := by decide +kernel
theorem dX5_leads_84 : decode cX5_leads 84 = .ok (.ifCond .ne 23, 3) := by decide +kernel
theorem dX5_leads_87 : decode cX5_leads 87 = .ok (.aload_n 0, 1) := by decide +kernel
theorem dX5_leads_88 : decode cX5_leads 88 = .ok (.iload_n 3, 1) := by decide +kernel
theorem dX5_leads_89 : decode cX5_leads 89 = .ok (.iload 4, 2) := by decide +kernel
theorem dX5_leads_91 : decode cX5_leads 91 = .ok (.invokevirtual 236, 3) := by decide +kernel
theorem dX5_leads_94 : decode cX5_leads 94 = .ok (.ifCond .eq 13, 3) := by decide +kernel
theorem dX5_leads_97 : decode cX5_leads 97 = .ok (.aload_n 0, 1) := by decide +kernel
theorem dX5_leads_98 : decode cX5_leads 98 = .ok (.getfield 90, 3) := by decide +kernel
theorem dX5_leads_101 : decode cX5_leads 101 = .ok (.iload 4, 2) := by decide +kernel
theorem dX5_leads_103 : decode cX5_leads 103 = .ok (.iconst 1, 1) := by decide +kernel
theorem dX5_leads_104 : decode cX5_leads 104 = .ok (.bastore, 1) := by decide +kernel
theorem dX5_leads_105 : decode cX5_leads 105 = .ok (.iconst 1, 1) := by decide +kernel
theorem dX5_leads_106 : decode cX5_leads 106 = .ok (.istore_n 2, 1) := by decide +kernel
theorem dX5_leads_107 : decode cX5_leads 107 = .ok (.iinc 4 1, 3) := by decide +kernel
theorem dX5_leads_110 : decode cX5_leads 110 = .ok (.goto (-51), 3) := by decide +kernel
theorem dX5_leads_113 : decode cX5_leads 113 = .ok (.iinc 3 1, 3) := by decide +kernel
theorem dX5_leads_116 : decode cX5_leads 116 = .ok (.goto (-68), 3) := by decide +kernel
theorem dX5_leads_119 : decode cX5_leads 119 = .ok (.goto (-79), 3) := by decide +kernel
theorem dX5_leads_122 : decode cX5_leads 122 = .ok (.iconst 0, 1) := by decide +kernel
theorem dX5_leads_123 : decode cX5_leads 123 = .ok (.istore_n 3, 1) := by decide +kernel
theorem dX5_leads_124 : decode cX5_leads 124 = .ok (.iconst 0, 1) := by decide +kernel
theorem dX5_leads_125 : decode cX5_leads 125 = .ok (.istore 4, 2) := by decide +kernel
theorem dX5_leads_127 : decode cX5_leads 127 = .ok (.iload 4, 2) := by decide +kernel
theorem dX5_leads_129 : decode cX5_leads 129 = .ok (.aload_n 0, 1) := by decide +kernel
theorem dX5_leads_130 : decode cX5_leads 130 = .ok (.getfield 101, 3) := by decide +kernel
theorem dX5_leads_133 : decode cX5_leads 133 = .ok (.if_icmp .ge 27, 3) := by decide +kernel
theorem dX5_leads_136 : decode cX5_leads 136 = .ok (.iload_n 3, 1) := by decide +kernel
theorem dX5_leads_137 : decode cX5_leads 137 = .ok (.aload_n 0, 1) := by decide +kernel
theorem dX5_leads_138 : decode cX5_leads 138 = .ok (.getfield 90, 3) := by decide +kernel
theorem dX5_leads_141 : decode cX5_leads 141 = .ok (.iload 4, 2) := by decide +kernel
theorem dX5_leads_143 : decode cX5_leads 143 = .ok (.baload, 1) := by decide +kernel
theorem dX5_leads_144 : decode cX5_leads 144 = .ok (.ifCond .eq 7, 3) := by decide +kernel
theorem dX5_leads_147 : decode cX5_leads 147 = .ok (.iconst 1, 1) := by decide +kernel
theorem dX5_leads_148 : decode cX5_leads 148 = .ok (.goto 4, 3) := by decide +kernel
theorem dX5_leads_151 : decode cX5_leads 151 = .ok (.iconst 0, 1) := by decide +kernel
theorem dX5_leads_152 : decode cX5_leads 152 = .ok (.iadd, 1) := by decide +kernel
theorem dX5_leads_153 : decode cX5_leads 153 = .ok (.istore_n 3, 1) := by decide +kernel
theorem dX5_leads_154 : decode cX5_leads 154 = .ok (.iinc 4 1, 3) := by decide +kernel
theorem dX5_leads_157 : decode cX5_leads 157 = .ok (.goto (-30), 3) := by decide +kernel
theorem dX5_leads_160 : decode cX5_leads 160 = .ok (.iload_n 3, 1) := by decide +kernel
theorem dX5_leads_161 : decode cX5_leads 161 = .ok (.ireturn, 1) := by decide +kernel
set_option maxRecDepth 20000 in
theorem ggX5_points_X5_noOne : GoodIn wsX5_points wsX5_noOne := goodIn_r _ [9, 2, 10, 11, 8, 12, 19, 20, 21, 22, 23, 24, 25, 26, 27, 28, 29, 30, 31, 32, 33, 34, 35, 36, 37, 38, 39, 40, 41, 42, 43, 44, 45, 46, 47, 48, 49, 50, 51, 52, 53, 54, 55, 56] (by decide +kernel) (by decide +kernel)
set_option maxRecDepth 20000 in
theorem gX5_points_X5_noOne : GoodIn wsX5_points (wsV RX5 111 RX5 yX5_noOne wsX5_noOne) := goodIn_app (goodIn_of _ (by decide +kernel)) ggX5_points_X5_noOne
set_option maxRecDepth 20000 in
theorem ggX5_points_X5_rank : GoodIn wsX5_points wsX5_rank := goodIn_r _ [16, 17, 18, 19, 20, 21, 22, 23, 24, 25, 26, 27, 28, 29, 30, 31, 32, 33, 34, 35, 36, 37, 38, 39, 40, 41, 42, 43, 44, 45, 46, 47, 48, 49, 50, 51, 52, 53, 54, 55, 56] (by decide +kernel) (by decide +kernel)
set_option maxRecDepth 20000 in
theorem gX5_points_X5_rank : GoodIn wsX5_points (wsV RX5 229 RX5 yX5_rank wsX5_rank) := goodIn_app (goodIn_of _ (by decide +kernel)) ggX5_points_X5_rank
theorem dX5_points_0 : decode cX5_points 0 = .ok (.aload_n 0, 1) := by decide +kernel
theorem dX5_points_1 : decode cX5_points 1 = .ok (.iload_n 1, 1) := by decide +kernel
theorem dX5_points_2 : decode cX5_points 2 = .ok (.invokevirtual 111, 3) := by decide +kernel
theorem dX5_points_5 : decode cX5_points 5 = .ok (.ifCond .eq 5, 3) := by decide +kernel
theorem dX5_points_8 : decode cX5_points 8 = .ok (.iconst (-1), 1) := by decide +kernel
theorem dX5_points_9 : decode cX5_points 9 = .ok (.ireturn, 1) := by decide +kernel
theorem dX5_points_10 : decode cX5_points 10 = .ok (.iconst 0, 1) := by decide +kernel
theorem dX5_points_11 : decode cX5_points 11 = .ok (.istore_n 2, 1) := by decide +kernel
theorem dX5_points_12 : decode cX5_points 12 = .ok (.iconst 0, 1) := by decide +kernel
theorem dX5_points_13 : decode cX5_points 13 = .ok (.istore_n 3, 1) := by decide +kernel
theorem dX5_points_14 : decode cX5_points 14 = .ok (.iload_n 3, 1) := by decide +kernel
theorem dX5_points_15 : decode cX5_points 15 = .ok (.aload_n 0, 1) := by decide +kernel
theorem dX5_points_16 : decode cX5_points 16 = .ok (.getfield 104, 3) := by decide +kernel
theorem dX5_points_19 : decode cX5_points 19 = .ok (.if_icmp .ge 66, 3) := by decide +kernel
theorem dX5_points_22 : decode cX5_points 22 = .ok (.iconst 0, 1) := by decide +kernel
theorem dX5_points_23 : decode cX5_points 23 = .ok (.istore 4, 2) := by decide +kernel
theorem dX5_points_25 : decode cX5_points 25 = .ok (.iload 4, 2) := by decide +kernel
theorem dX5_points_27 : decode cX5_points 27 = .ok (.aload_n 0, 1) := by decide +kernel
theorem dX5_points_28 : decode cX5_points 28 = .ok (.getfield 101, 3) := by decide +kernel
theorem dX5_points_31 : decode cX5_points 31 = .ok (.if_icmp .ge 48, 3) := by decide +kernel
theorem dX5_points_34 : decode cX5_points 34 = .ok (.iload_n 2, 1) := by decide +kernel
theorem dX5_points_35 : decode cX5_points 35 = .ok (.aload_n 0, 1) := by decide +kernel
theorem dX5_points_36 : decode cX5_points 36 = .ok (.getfield 7, 3) := by decide +kernel
theorem dX5_points_39 : decode cX5_points 39 = .ok (.iload 4, 2) := by decide +kernel
theorem dX5_points_41 : decode cX5_points 41 = .ok (.baload, 1) := by decide +kernel
theorem dX5_points_42 : decode cX5_points 42 = .ok (.ifCond .ne 28, 3) := by decide +kernel
theorem dX5_points_45 : decode cX5_points 45 = .ok (.aload_n 0, 1) := by decide +kernel
theorem dX5_points_46 : decode cX5_points 46 = .ok (.iload_n 3, 1) := by decide +kernel
theorem dX5_points_47 : decode cX5_points 47 = .ok (.iload_n 1, 1) := by decide +kernel
theorem dX5_points_48 : decode cX5_points 48 = .ok (.invokevirtual 229, 3) := by decide +kernel
theorem dX5_points_51 : decode cX5_points 51 = .ok (.aload_n 0, 1) := by decide +kernel
theorem dX5_points_52 : decode cX5_points 52 = .ok (.iload_n 3, 1) := by decide +kernel
theorem dX5_points_53 : decode cX5_points 53 = .ok (.iload 4, 2) := by decide +kernel
theorem dX5_points_55 : decode cX5_points 55 = .ok (.invokevirtual 229, 3) := by decide +kernel
theorem dX5_points_58 : decode cX5_points 58 = .ok (.if_icmp .ge 12, 3) := by decide +kernel
theorem dX5_points_61 : decode cX5_points 61 = .ok (.aload_n 0, 1) := by decide +kernel
theorem dX5_points_62 : decode cX5_points 62 = .ok (.getfield 17, 3) := by decide +kernel
theorem dX5_points_65 : decode cX5_points 65 = .ok (.iload_n 3, 1) := by decide +kernel
theorem dX5_points_66 : decode cX5_points 66 = .ok (.iaload, 1) := by decide +kernel
theorem dX5_points_67 : decode cX5_points 67 = .ok (.goto 4, 3) := by decide +kernel
theorem dX5_points_70 : decode cX5_points 70 = .ok (.iconst 0, 1) := by decide +kernel
theorem dX5_points_71 : decode cX5_points 71 = .ok (.iadd, 1) := by decide +kernel
theorem dX5_points_72 : decode cX5_points 72 = .ok (.istore_n 2, 1) := by decide +kernel
theorem dX5_points_73 : decode cX5_points 73 = .ok (.iinc 4 1, 3) := by decide +kernel
theorem dX5_points_76 : decode cX5_points 76 = .ok (.goto (-51), 3) := by decide +kernel
theorem dX5_points_79 : decode cX5_points 79 = .ok (.iinc 3 1, 3) := by decide +kernel
theorem dX5_points_82 : decode cX5_points 82 = .ok (.goto (-68), 3) := by decide +kernel
theorem dX5_points_85 : decode cX5_points 85 = .ok (.iload_n 2, 1) := by decide +kernel
theorem dX5_points_86 : decode cX5_points 86 = .ok (.ireturn, 1) := by decide +kernel
set_option maxRecDepth 20000 in
theorem ggX5_told_X5_validPapers : GoodIn wsX5_told wsX5_validPapers := goodIn_r _ [11, 2, 12, 13, 14, 15, 10, 16, 17, 6, 18, 19, 20, 21, 22, 23, 24, 25, 26, 27, 28, 29, 30, 31, 32, 33, 34, 35, 36, 37, 38, 39, 40, 41, 42, 43, 44, 45, 46, 47, 48, 49, 50, 51, 52, 53, 54, 55, 56] (by decide +kernel) (by decide +kernel)
set_option maxRecDepth 20000 in
theorem gX5_told_X5_validPapers : GoodIn wsX5_told (wsV RX5 173 RX5 yX5_validPapers wsX5_validPapers) := goodIn_app (goodIn_of _ (by decide +kernel)) ggX5_told_X5_validPapers
theorem dX5_told_0 : decode cX5_told 0 = .ok (.iload_n 1, 1) := by decide +kernel
theorem dX5_told_1 : decode cX5_told 1 = .ok (.tableswitch 110 0 6 #[43, 48, 53, 58, 63, 68, 73], 43) := by decide +kernel
theorem dX5_told_44 : decode cX5_told 44 = .ok (.aload_n 0, 1) := by decide +kernel
theorem dX5_told_45 : decode cX5_told 45 = .ok (.getfield 101, 3) := by decide +kernel
theorem dX5_told_48 : decode cX5_told 48 = .ok (.ireturn, 1) := by decide +kernel
theorem dX5_told_49 : decode cX5_told 49 = .ok (.aload_n 0, 1) := by decide +kernel
theorem dX5_told_50 : decode cX5_told 50 = .ok (.getfield 104, 3) := by decide +kernel
theorem dX5_told_53 : decode cX5_told 53 = .ok (.ireturn, 1) := by decide +kernel
theorem dX5_told_54 : decode cX5_told 54 = .ok (.aload_n 0, 1) := by decide +kernel
theorem dX5_told_55 : decode cX5_told 55 = .ok (.invokevirtual 173, 3) := by decide +kernel
theorem dX5_told_58 : decode cX5_told 58 = .ok (.ireturn, 1) := by decide +kernel
theorem dX5_told_59 : decode cX5_told 59 = .ok (.aload_n 0, 1) := by decide +kernel
theorem dX5_told_60 : decode cX5_told 60 = .ok (.getfield 124, 3) := by decide +kernel
theorem dX5_told_63 : decode cX5_told 63 = .ok (.ireturn, 1) := by decide +kernel
theorem dX5_told_64 : decode cX5_told 64 = .ok (.aload_n 0, 1) := by decide +kernel
theorem dX5_told_65 : decode cX5_told 65 = .ok (.getfield 135, 3) := by decide +kernel
theorem dX5_told_68 : decode cX5_told 68 = .ok (.ireturn, 1) := by decide +kernel
theorem dX5_told_69 : decode cX5_told 69 = .ok (.aload_n 0, 1) := by decide +kernel
theorem dX5_told_70 : decode cX5_told 70 = .ok (.getfield 97, 3) := by decide +kernel
theorem dX5_told_73 : decode cX5_told 73 = .ok (.ireturn, 1) := by decide +kernel
theorem dX5_told_74 : decode cX5_told 74 = .ok (.iconst 0, 1) := by decide +kernel
theorem dX5_told_75 : decode cX5_told 75 = .ok (.istore_n 2, 1) := by decide +kernel
theorem dX5_told_76 : decode cX5_told 76 = .ok (.iconst 0, 1) := by decide +kernel
theorem dX5_told_77 : decode cX5_told 77 = .ok (.istore_n 3, 1) := by decide +kernel
theorem dX5_told_78 : decode cX5_told 78 = .ok (.iload_n 3, 1) := by decide +kernel
theorem dX5_told_79 : decode cX5_told 79 = .ok (.aload_n 0, 1) := by decide +kernel
theorem dX5_told_80 : decode cX5_told 80 = .ok (.getfield 101, 3) := by decide +kernel
theorem dX5_told_83 : decode cX5_told 83 = .ok (.if_icmp .ge 26, 3) := by decide +kernel
theorem dX5_told_86 : decode cX5_told 86 = .ok (.iload_n 2, 1) := by decide +kernel
theorem dX5_told_87 : decode cX5_told 87 = .ok (.aload_n 0, 1) := by decide +kernel
theorem dX5_told_88 : decode cX5_told 88 = .ok (.getfield 7, 3) := by decide +kernel
theorem dX5_told_91 : decode cX5_told 91 = .ok (.iload_n 3, 1) := by decide +kernel
theorem dX5_told_92 : decode cX5_told 92 = .ok (.baload, 1) := by decide +kernel
theorem dX5_told_93 : decode cX5_told 93 = .ok (.ifCond .eq 7, 3) := by decide +kernel
theorem dX5_told_96 : decode cX5_told 96 = .ok (.iconst 1, 1) := by decide +kernel
theorem dX5_told_97 : decode cX5_told 97 = .ok (.goto 4, 3) := by decide +kernel
theorem dX5_told_100 : decode cX5_told 100 = .ok (.iconst 0, 1) := by decide +kernel
theorem dX5_told_101 : decode cX5_told 101 = .ok (.iadd, 1) := by decide +kernel
theorem dX5_told_102 : decode cX5_told 102 = .ok (.istore_n 2, 1) := by decide +kernel
theorem dX5_told_103 : decode cX5_told 103 = .ok (.iinc 3 1, 3) := by decide +kernel
theorem dX5_told_106 : decode cX5_told 106 = .ok (.goto (-28), 3) := by decide +kernel
theorem dX5_told_109 : decode cX5_told 109 = .ok (.iload_n 2, 1) := by decide +kernel
theorem dX5_told_110 : decode cX5_told 110 = .ok (.ireturn, 1) := by decide +kernel
theorem dX5_told_111 : decode cX5_told 111 = .ok (.bipush (-2), 2) := by decide +kernel
theorem dX5_told_113 : decode cX5_told 113 = .ok (.ireturn, 1) := by decide +kernel
theorem dJ6_bitCount_0f7a4_0 : decode cJ6_bitCount_0f7a4 0 = .ok (.iload_n 0, 1) := by decide +kernel
theorem dJ6_bitCount_0f7a4_1 : decode cJ6_bitCount_0f7a4 1 = .ok (.iload_n 0, 1) := by decide +kernel
theorem dJ6_bitCount_0f7a4_2 : decode cJ6_bitCount_0f7a4 2 = .ok (.iconst 1, 1) := by decide +kernel
theorem dJ6_bitCount_0f7a4_3 : decode cJ6_bitCount_0f7a4 3 = .ok (.iushr, 1) := by decide +kernel
theorem dJ6_bitCount_0f7a4_4 : decode cJ6_bitCount_0f7a4 4 = .ok (.ldc_w 265, 3) := by decide +kernel
theorem dJ6_bitCount_0f7a4_7 : decode cJ6_bitCount_0f7a4 7 = .ok (.iand, 1) := by decide +kernel
theorem dJ6_bitCount_0f7a4_8 : decode cJ6_bitCount_0f7a4 8 = .ok (.isub, 1) := by decide +kernel
theorem dJ6_bitCount_0f7a4_9 : decode cJ6_bitCount_0f7a4 9 = .ok (.istore_n 0, 1) := by decide +kernel
theorem dJ6_bitCount_0f7a4_10 : decode cJ6_bitCount_0f7a4 10 = .ok (.iload_n 0, 1) := by decide +kernel
theorem dJ6_bitCount_0f7a4_11 : decode cJ6_bitCount_0f7a4 11 = .ok (.ldc_w 266, 3) := by decide +kernel
theorem dJ6_bitCount_0f7a4_14 : decode cJ6_bitCount_0f7a4 14 = .ok (.iand, 1) := by decide +kernel
theorem dJ6_bitCount_0f7a4_15 : decode cJ6_bitCount_0f7a4 15 = .ok (.iload_n 0, 1) := by decide +kernel
theorem dJ6_bitCount_0f7a4_16 : decode cJ6_bitCount_0f7a4 16 = .ok (.iconst 2, 1) := by decide +kernel
theorem dJ6_bitCount_0f7a4_17 : decode cJ6_bitCount_0f7a4 17 = .ok (.iushr, 1) := by decide +kernel
theorem dJ6_bitCount_0f7a4_18 : decode cJ6_bitCount_0f7a4 18 = .ok (.ldc_w 266, 3) := by decide +kernel
theorem dJ6_bitCount_0f7a4_21 : decode cJ6_bitCount_0f7a4 21 = .ok (.iand, 1) := by decide +kernel
theorem dJ6_bitCount_0f7a4_22 : decode cJ6_bitCount_0f7a4 22 = .ok (.iadd, 1) := by decide +kernel
theorem dJ6_bitCount_0f7a4_23 : decode cJ6_bitCount_0f7a4 23 = .ok (.istore_n 0, 1) := by decide +kernel
theorem dJ6_bitCount_0f7a4_24 : decode cJ6_bitCount_0f7a4 24 = .ok (.iload_n 0, 1) := by decide +kernel
theorem dJ6_bitCount_0f7a4_25 : decode cJ6_bitCount_0f7a4 25 = .ok (.iload_n 0, 1) := by decide +kernel
theorem dJ6_bitCount_0f7a4_26 : decode cJ6_bitCount_0f7a4 26 = .ok (.iconst 4, 1) := by decide +kernel
theorem dJ6_bitCount_0f7a4_27 : decode cJ6_bitCount_0f7a4 27 = .ok (.iushr, 1) := by decide +kernel
theorem dJ6_bitCount_0f7a4_28 : decode cJ6_bitCount_0f7a4 28 = .ok (.iadd, 1) := by decide +kernel
theorem dJ6_bitCount_0f7a4_29 : decode cJ6_bitCount_0f7a4 29 = .ok (.ldc_w 267, 3) := by decide +kernel
theorem dJ6_bitCount_0f7a4_32 : decode cJ6_bitCount_0f7a4 32 = .ok (.iand, 1) := by decide +kernel
theorem dJ6_bitCount_0f7a4_33 : decode cJ6_bitCount_0f7a4 33 = .ok (.istore_n 0, 1) := by decide +kernel
theorem dJ6_bitCount_0f7a4_34 : decode cJ6_bitCount_0f7a4 34 = .ok (.iload_n 0, 1) := by decide +kernel
theorem dJ6_bitCount_0f7a4_35 : decode cJ6_bitCount_0f7a4 35 = .ok (.iload_n 0, 1) := by decide +kernel
theorem dJ6_bitCount_0f7a4_36 : decode cJ6_bitCount_0f7a4 36 = .ok (.bipush 8, 2) := by decide +kernel
theorem dJ6_bitCount_0f7a4_38 : decode cJ6_bitCount_0f7a4 38 = .ok (.iushr, 1) := by decide +kernel
theorem dJ6_bitCount_0f7a4_39 : decode cJ6_bitCount_0f7a4 39 = .ok (.iadd, 1) := by decide +kernel
theorem dJ6_bitCount_0f7a4_40 : decode cJ6_bitCount_0f7a4 40 = .ok (.istore_n 0, 1) := by decide +kernel
theorem dJ6_bitCount_0f7a4_41 : decode cJ6_bitCount_0f7a4 41 = .ok (.iload_n 0, 1) := by decide +kernel
theorem dJ6_bitCount_0f7a4_42 : decode cJ6_bitCount_0f7a4 42 = .ok (.iload_n 0, 1) := by decide +kernel
theorem dJ6_bitCount_0f7a4_43 : decode cJ6_bitCount_0f7a4 43 = .ok (.bipush 16, 2) := by decide +kernel
theorem dJ6_bitCount_0f7a4_45 : decode cJ6_bitCount_0f7a4 45 = .ok (.iushr, 1) := by decide +kernel
theorem dJ6_bitCount_0f7a4_46 : decode cJ6_bitCount_0f7a4 46 = .ok (.iadd, 1) := by decide +kernel
theorem dJ6_bitCount_0f7a4_47 : decode cJ6_bitCount_0f7a4 47 = .ok (.istore_n 0, 1) := by decide +kernel
theorem dJ6_bitCount_0f7a4_48 : decode cJ6_bitCount_0f7a4 48 = .ok (.iload_n 0, 1) := by decide +kernel
theorem dJ6_bitCount_0f7a4_49 : decode cJ6_bitCount_0f7a4 49 = .ok (.bipush 63, 2) := by decide +kernel
theorem dJ6_bitCount_0f7a4_51 : decode cJ6_bitCount_0f7a4 51 = .ok (.iand, 1) := by decide +kernel
theorem dJ6_bitCount_0f7a4_52 : decode cJ6_bitCount_0f7a4 52 = .ok (.ireturn, 1) := by decide +kernel
theorem dJ9_max_7cf53_0 : decode cJ9_max_7cf53 0 = .ok (.iload_n 0, 1) := by decide +kernel
theorem dJ9_max_7cf53_1 : decode cJ9_max_7cf53 1 = .ok (.iload_n 1, 1) := by decide +kernel
theorem dJ9_max_7cf53_2 : decode cJ9_max_7cf53 2 = .ok (.if_icmp .lt 7, 3) := by decide +kernel
theorem dJ9_max_7cf53_5 : decode cJ9_max_7cf53 5 = .ok (.iload_n 0, 1) := by decide +kernel
theorem dJ9_max_7cf53_6 : decode cJ9_max_7cf53 6 = .ok (.goto 4, 3) := by decide +kernel
theorem dJ9_max_7cf53_9 : decode cJ9_max_7cf53 9 = .ok (.iload_n 1, 1) := by decide +kernel
theorem dJ9_max_7cf53_10 : decode cJ9_max_7cf53 10 = .ok (.ireturn, 1) := by decide +kernel
theorem dJ9_max_f86c9_0 : decode cJ9_max_f86c9 0 = .ok (.lload_n 0, 1) := by decide +kernel
theorem dJ9_max_f86c9_1 : decode cJ9_max_f86c9 1 = .ok (.lload_n 2, 1) := by decide +kernel
theorem dJ9_max_f86c9_2 : decode cJ9_max_f86c9 2 = .ok (.lcmp, 1) := by decide +kernel
theorem dJ9_max_f86c9_3 : decode cJ9_max_f86c9 3 = .ok (.ifCond .lt 7, 3) := by decide +kernel
theorem dJ9_max_f86c9_6 : decode cJ9_max_f86c9 6 = .ok (.lload_n 0, 1) := by decide +kernel
theorem dJ9_max_f86c9_7 : decode cJ9_max_f86c9 7 = .ok (.goto 4, 3) := by decide +kernel
theorem dJ9_max_f86c9_10 : decode cJ9_max_f86c9 10 = .ok (.lload_n 2, 1) := by decide +kernel
theorem dJ9_max_f86c9_11 : decode cJ9_max_f86c9 11 = .ok (.lreturn, 1) := by decide +kernel
theorem dJ9_min_f86c9_0 : decode cJ9_min_f86c9 0 = .ok (.lload_n 0, 1) := by decide +kernel
theorem dJ9_min_f86c9_1 : decode cJ9_min_f86c9 1 = .ok (.lload_n 2, 1) := by decide +kernel
theorem dJ9_min_f86c9_2 : decode cJ9_min_f86c9 2 = .ok (.lcmp, 1) := by decide +kernel
theorem dJ9_min_f86c9_3 : decode cJ9_min_f86c9 3 = .ok (.ifCond .gt 7, 3) := by decide +kernel
theorem dJ9_min_f86c9_6 : decode cJ9_min_f86c9 6 = .ok (.lload_n 0, 1) := by decide +kernel
theorem dJ9_min_f86c9_7 : decode cJ9_min_f86c9 7 = .ok (.goto 4, 3) := by decide +kernel
theorem dJ9_min_f86c9_10 : decode cJ9_min_f86c9 10 = .ok (.lload_n 2, 1) := by decide +kernel
theorem dJ9_min_f86c9_11 : decode cJ9_min_f86c9 11 = .ok (.lreturn, 1) := by decide +kernel
abbrev vwCl : List vw_C := [(RX0, TX0, 8), (RX1, TX1, 18), (RX3, TX3, 5), (RX4, TX4, 4), (RX5, TX5, 38)]
