theorem dX5_needs_119 : decode cX5_needs 119 = .ok (.ireturn, 1) := by decide +kernel
theorem dX5_mean_0 : decode cX5_mean 0 = .ok (.iconst 0, 1) := by decide +kernel
theorem dX5_mean_1 : decode cX5_mean 1 = .ok (.istore_n 1, 1) := by decide +kernel
theorem dX5_mean_2 : decode cX5_mean 2 = .ok (.iconst 0, 1) := by decide +kernel
theorem dX5_mean_3 : decode cX5_mean 3 = .ok (.istore_n 2, 1) := by decide +kernel
theorem dX5_mean_4 : decode cX5_mean 4 = .ok (.aload_n 0, 1) := by decide +kernel
theorem dX5_mean_5 : decode cX5_mean 5 = .ok (.getfield 10, 3) := by decide +kernel
theorem dX5_mean_8 : decode cX5_mean 8 = .ok (.getfield 171, 3) := by decide +kernel
theorem dX5_mean_11 : decode cX5_mean 11 = .ok (.astore_n 3, 1) := by decide +kernel
theorem dX5_mean_12 : decode cX5_mean 12 = .ok (.aload_n 3, 1) := by decide +kernel
theorem dX5_mean_13 : decode cX5_mean 13 = .ok (.arraylength, 1) := by decide +kernel
theorem dX5_mean_14 : decode cX5_mean 14 = .ok (.istore 4, 2) := by decide +kernel
theorem dX5_mean_16 : decode cX5_mean 16 = .ok (.iconst 0, 1) := by decide +kernel
theorem dX5_mean_17 : decode cX5_mean 17 = .ok (.istore 5, 2) := by decide +kernel
theorem dX5_mean_19 : decode cX5_mean 19 = .ok (.iload 5, 2) := by decide +kernel
theorem dX5_mean_21 : decode cX5_mean 21 = .ok (.iload 4, 2) := by decide +kernel
theorem dX5_mean_23 : decode cX5_mean 23 = .ok (.if_icmp .ge 46, 3) := by decide +kernel
theorem dX5_mean_26 : decode cX5_mean 26 = .ok (.aload_n 3, 1) := by decide +kernel
theorem dX5_mean_27 : decode cX5_mean 27 = .ok (.iload 5, 2) := by decide +kernel
theorem dX5_mean_29 : decode cX5_mean 29 = .ok (.aaload, 1) := by decide +kernel
theorem dX5_mean_30 : decode cX5_mean 30 = .ok (.astore 6, 2) := by decide +kernel
theorem dX5_mean_32 : decode cX5_mean 32 = .ok (.aload 6, 2) := by decide +kernel
theorem dX5_mean_34 : decode cX5_mean 34 = .ok (.invokevirtual 190, 3) := by decide +kernel
theorem dX5_mean_37 : decode cX5_mean 37 = .ok (.ifCond .eq 26, 3) := by decide +kernel
theorem dX5_mean_40 : decode cX5_mean 40 = .ok (.iinc 1 2, 3) := by decide +kernel
theorem dX5_mean_43 : decode cX5_mean 43 = .ok (.iload_n 2, 1) := by decide +kernel
theorem dX5_mean_44 : decode cX5_mean 44 = .ok (.aload 6, 2) := by decide +kernel
theorem dX5_mean_46 : decode cX5_mean 46 = .ok (.getfield 240, 3) := by decide +kernel
theorem dX5_mean_49 : decode cX5_mean 49 = .ok (.getfield 213, 3) := by decide +kernel
theorem dX5_mean_52 : decode cX5_mean 52 = .ok (.aload 6, 2) := by decide +kernel
theorem dX5_mean_54 : decode cX5_mean 54 = .ok (.getfield 244, 3) := by decide +kernel
theorem dX5_mean_57 : decode cX5_mean 57 = .ok (.getfield 213, 3) := by decide +kernel
theorem dX5_mean_60 : decode cX5_mean 60 = .ok (.iadd, 1) := by decide +kernel
theorem dX5_mean_61 : decode cX5_mean 61 = .ok (.iadd, 1) := by decide +kernel
theorem dX5_mean_62 : decode cX5_mean 62 = .ok (.istore_n 2, 1) := by decide +kernel
theorem dX5_mean_63 : decode cX5_mean 63 = .ok (.iinc 5 1, 3) := by decide +kernel
theorem dX5_mean_66 : decode cX5_mean 66 = .ok (.goto (-47), 3) := by decide +kernel
theorem dX5_mean_69 : decode cX5_mean 69 = .ok (.iload_n 1, 1) := by decide +kernel
theorem dX5_mean_70 : decode cX5_mean 70 = .ok (.ifCond .ne 7, 3) := by decide +kernel
theorem dX5_mean_73 : decode cX5_mean 73 = .ok (.dconst 0, 1) := by decide +kernel
theorem dX5_mean_74 : decode cX5_mean 74 = .ok (.goto 8, 3) := by decide +kernel
theorem dX5_mean_77 : decode cX5_mean 77 = .ok (.iload_n 2, 1) := by decide +kernel
theorem dX5_mean_78 : decode cX5_mean 78 = .ok (.i2d, 1) := by decide +kernel
theorem dX5_mean_79 : decode cX5_mean 79 = .ok (.iload_n 1, 1) := by decide +kernel
theorem dX5_mean_80 : decode cX5_mean 80 = .ok (.i2d, 1) := by decide +kernel
theorem dX5_mean_81 : decode cX5_mean 81 = .ok (.ddiv, 1) := by decide +kernel
theorem dX5_mean_82 : decode cX5_mean 82 = .ok (.dreturn, 1) := by decide +kernel
theorem dX5_digest_0 : decode cX5_digest 0 = .ok (.ldc2_w 310, 3) := by decide +kernel
theorem dX5_digest_3 : decode cX5_digest 3 = .ok (.lstore_n 1, 1) := by decide +kernel
theorem dX5_digest_4 : decode cX5_digest 4 = .ok (.iconst 0, 1) := by decide +kernel
theorem dX5_digest_5 : decode cX5_digest 5 = .ok (.istore_n 3, 1) := by decide +kernel
theorem dX5_digest_6 : decode cX5_digest 6 = .ok (.iload_n 3, 1) := by decide +kernel
theorem dX5_digest_7 : decode cX5_digest 7 = .ok (.bipush 11, 2) := by decide +kernel
theorem dX5_digest_9 : decode cX5_digest 9 = .ok (.if_icmp .ge 22, 3) := by decide +kernel
theorem dX5_digest_12 : decode cX5_digest 12 = .ok (.lload_n 1, 1) := by decide +kernel
theorem dX5_digest_13 : decode cX5_digest 13 = .ok (.ldc2_w 312, 3) := by decide +kernel
theorem dX5_digest_16 : decode cX5_digest 16 = .ok (.lmul, 1) := by decide +kernel
theorem dX5_digest_17 : decode cX5_digest 17 = .ok (.aload_n 0, 1) := by decide +kernel
theorem dX5_digest_18 : decode cX5_digest 18 = .ok (.iload_n 3, 1) := by decide +kernel
theorem dX5_digest_19 : decode cX5_digest 19 = .ok (.invokevirtual 314, 3) := by decide +kernel
theorem dX5_digest_22 : decode cX5_digest 22 = .ok (.i2l, 1) := by decide +kernel
theorem dX5_digest_23 : decode cX5_digest 23 = .ok (.ladd, 1) := by decide +kernel
theorem dX5_digest_24 : decode cX5_digest 24 = .ok (.lstore_n 1, 1) := by decide +kernel
theorem dX5_digest_25 : decode cX5_digest 25 = .ok (.iinc 3 1, 3) := by decide +kernel
theorem dX5_digest_28 : decode cX5_digest 28 = .ok (.goto (-22), 3) := by decide +kernel
theorem dX5_digest_31 : decode cX5_digest 31 = .ok (.aload_n 0, 1) := by decide +kernel
theorem dX5_digest_32 : decode cX5_digest 32 = .ok (.lload_n 1, 1) := by decide +kernel
theorem dX5_digest_33 : decode cX5_digest 33 = .ok (.invokevirtual 317, 3) := by decide +kernel
theorem dX5_digest_36 : decode cX5_digest 36 = .ok (.lstore_n 1, 1) := by decide +kernel
theorem dX5_digest_37 : decode cX5_digest 37 = .ok (.aload_n 0, 1) := by decide +kernel
theorem dX5_digest_38 : decode cX5_digest 38 = .ok (.lload_n 1, 1) := by decide +kernel
theorem dX5_digest_39 : decode cX5_digest 39 = .ok (.invokevirtual 321, 3) := by decide +kernel
theorem dX5_digest_42 : decode cX5_digest 42 = .ok (.lstore_n 1, 1) := by decide +kernel
theorem dX5_digest_43 : decode cX5_digest 43 = .ok (.aload_n 0, 1) := by decide +kernel
theorem dX5_digest_44 : decode cX5_digest 44 = .ok (.lload_n 1, 1) := by decide +kernel
theorem dX5_digest_45 : decode cX5_digest 45 = .ok (.invokevirtual 324, 3) := by decide +kernel
theorem dX5_digest_48 : decode cX5_digest 48 = .ok (.lreturn, 1) := by decide +kernel
theorem dX5_digestPlayers_0 : decode cX5_digestPlayers 0 = .ok (.lload_n 1, 1) := by decide +kernel
theorem dX5_digestPlayers_1 : decode cX5_digestPlayers 1 = .ok (.lstore_n 3, 1) := by decide +kernel
theorem dX5_digestPlayers_2 : decode cX5_digestPlayers 2 = .ok (.iconst 0, 1) := by decide +kernel
theorem dX5_digestPlayers_3 : decode cX5_digestPlayers 3 = .ok (.istore 5, 2) := by decide +kernel
theorem dX5_digestPlayers_5 : decode cX5_digestPlayers 5 = .ok (.iload 5, 2) := by decide +kernel
theorem dX5_digestPlayers_7 : decode cX5_digestPlayers 7 = .ok (.aload_n 0, 1) := by decide +kernel
theorem dX5_digestPlayers_8 : decode cX5_digestPlayers 8 = .ok (.getfield 10, 3) := by decide +kernel
theorem dX5_digestPlayers_11 : decode cX5_digestPlayers 11 = .ok (.getfield 31, 3) := by decide +kernel
theorem dX5_digestPlayers_14 : decode cX5_digestPlayers 14 = .ok (.if_icmp .ge 41, 3) := by decide +kernel
theorem dX5_digestPlayers_17 : decode cX5_digestPlayers 17 = .ok (.iconst 0, 1) := by decide +kernel
theorem dX5_digestPlayers_18 : decode cX5_digestPlayers 18 = .ok (.istore 6, 2) := by decide +kernel
theorem dX5_digestPlayers_20 : decode cX5_digestPlayers 20 = .ok (.iload 6, 2) := by decide +kernel
theorem dX5_digestPlayers_22 : decode cX5_digestPlayers 22 = .ok (.bipush 8, 2) := by decide +kernel
theorem dX5_digestPlayers_24 : decode cX5_digestPlayers 24 = .ok (.if_icmp .ge 25, 3) := by decide +kernel
theorem dX5_digestPlayers_27 : decode cX5_digestPlayers 27 = .ok (.lload_n 3, 1) := by decide +kernel
theorem dX5_digestPlayers_28 : decode cX5_digestPlayers 28 = .ok (.ldc2_w 312, 3) := by decide +kernel
theorem dX5_digestPlayers_31 : decode cX5_digestPlayers 31 = .ok (.lmul, 1) := by decide +kernel
theorem dX5_digestPlayers_32 : decode cX5_digestPlayers 32 = .ok (.aload_n 0, 1) := by decide +kernel
theorem dX5_digestPlayers_33 : decode cX5_digestPlayers 33 = .ok (.iload 5, 2) := by decide +kernel
theorem dX5_digestPlayers_35 : decode cX5_digestPlayers 35 = .ok (.iload 6, 2) := by decide +kernel
theorem dX5_digestPlayers_37 : decode cX5_digestPlayers 37 = .ok (.invokevirtual 327, 3) := by decide +kernel
theorem dX5_digestPlayers_40 : decode cX5_digestPlayers 40 = .ok (.i2l, 1) := by decide +kernel
theorem dX5_digestPlayers_41 : decode cX5_digestPlayers 41 = .ok (.ladd, 1) := by decide +kernel
theorem dX5_digestPlayers_42 : decode cX5_digestPlayers 42 = .ok (.lstore_n 3, 1) := by decide +kernel
theorem dX5_digestPlayers_43 : decode cX5_digestPlayers 43 = .ok (.iinc 6 1, 3) := by decide +kernel
theorem dX5_digestPlayers_46 : decode cX5_digestPlayers 46 = .ok (.goto (-26), 3) := by decide +kernel
theorem dX5_digestPlayers_49 : decode cX5_digestPlayers 49 = .ok (.iinc 5 1, 3) := by decide +kernel
theorem dX5_digestPlayers_52 : decode cX5_digestPlayers 52 = .ok (.goto (-47), 3) := by decide +kernel
theorem dX5_digestPlayers_55 : decode cX5_digestPlayers 55 = .ok (.lload_n 3, 1) := by decide +kernel
theorem dX5_digestPlayers_56 : decode cX5_digestPlayers 56 = .ok (.lreturn, 1) := by decide +kernel
theorem dX5_digestLoans_0 : decode cX5_digestLoans 0 = .ok (.lload_n 1, 1) := by decide +kernel
theorem dX5_digestLoans_1 : decode cX5_digestLoans 1 = .ok (.lstore_n 3, 1) := by decide +kernel
theorem dX5_digestLoans_2 : decode cX5_digestLoans 2 = .ok (.iconst 0, 1) := by decide +kernel
theorem dX5_digestLoans_3 : decode cX5_digestLoans 3 = .ok (.istore 5, 2) := by decide +kernel
theorem dX5_digestLoans_5 : decode cX5_digestLoans 5 = .ok (.iload 5, 2) := by decide +kernel
theorem dX5_digestLoans_7 : decode cX5_digestLoans 7 = .ok (.aload_n 0, 1) := by decide +kernel
theorem dX5_digestLoans_8 : decode cX5_digestLoans 8 = .ok (.getfield 10, 3) := by decide +kernel
theorem dX5_digestLoans_11 : decode cX5_digestLoans 11 = .ok (.getfield 113, 3) := by decide +kernel
theorem dX5_digestLoans_14 : decode cX5_digestLoans 14 = .ok (.if_icmp .ge 40, 3) := by decide +kernel
theorem dX5_digestLoans_17 : decode cX5_digestLoans 17 = .ok (.iconst 0, 1) := by decide +kernel
theorem dX5_digestLoans_18 : decode cX5_digestLoans 18 = .ok (.istore 6, 2) := by decide +kernel
theorem dX5_digestLoans_20 : decode cX5_digestLoans 20 = .ok (.iload 6, 2) := by decide +kernel
theorem dX5_digestLoans_22 : decode cX5_digestLoans 22 = .ok (.iconst 5, 1) := by decide +kernel
theorem dX5_digestLoans_23 : decode cX5_digestLoans 23 = .ok (.if_icmp .ge 25, 3) := by decide +kernel
theorem dX5_digestLoans_26 : decode cX5_digestLoans 26 = .ok (.lload_n 3, 1) := by decide +kernel
theorem dX5_digestLoans_27 : decode cX5_digestLoans 27 = .ok (.ldc2_w 312, 3) := by decide +kernel
theorem dX5_digestLoans_30 : decode cX5_digestLoans 30 = .ok (.lmul, 1) := by decide +kernel
theorem dX5_digestLoans_31 : decode cX5_digestLoans 31 = .ok (.aload_n 0, 1) := by decide +kernel
theorem dX5_digestLoans_32 : decode cX5_digestLoans 32 = .ok (.iload 5, 2) := by decide +kernel
theorem dX5_digestLoans_34 : decode cX5_digestLoans 34 = .ok (.iload 6, 2) := by decide +kernel
theorem dX5_digestLoans_36 : decode cX5_digestLoans 36 = .ok (.invokevirtual 329, 3) := by decide +kernel
theorem dX5_digestLoans_39 : decode cX5_digestLoans 39 = .ok (.i2l, 1) := by decide +kernel
theorem dX5_digestLoans_40 : decode cX5_digestLoans 40 = .ok (.ladd, 1) := by decide +kernel
theorem dX5_digestLoans_41 : decode cX5_digestLoans 41 = .ok (.lstore_n 3, 1) := by decide +kernel
theorem dX5_digestLoans_42 : decode cX5_digestLoans 42 = .ok (.iinc 6 1, 3) := by decide +kernel
theorem dX5_digestLoans_45 : decode cX5_digestLoans 45 = .ok (.goto (-25), 3) := by decide +kernel
theorem dX5_digestLoans_48 : decode cX5_digestLoans 48 = .ok (.iinc 5 1, 3) := by decide +kernel
theorem dX5_digestLoans_51 : decode cX5_digestLoans 51 = .ok (.goto (-46), 3) := by decide +kernel
theorem dX5_digestLoans_54 : decode cX5_digestLoans 54 = .ok (.lload_n 3, 1) := by decide +kernel
theorem dX5_digestLoans_55 : decode cX5_digestLoans 55 = .ok (.lreturn, 1) := by decide +kernel
theorem dX5_digestGames_0 : decode cX5_digestGames 0 = .ok (.lload_n 1, 1) := by decide +kernel
theorem dX5_digestGames_1 : decode cX5_digestGames 1 = .ok (.lstore_n 3, 1) := by decide +kernel
theorem dX5_digestGames_2 : decode cX5_digestGames 2 = .ok (.iconst 0, 1) := by decide +kernel
theorem dX5_digestGames_3 : decode cX5_digestGames 3 = .ok (.istore 5, 2) := by decide +kernel
theorem dX5_digestGames_5 : decode cX5_digestGames 5 = .ok (.iload 5, 2) := by decide +kernel
theorem dX5_digestGames_7 : decode cX5_digestGames 7 = .ok (.aload_n 0, 1) := by decide +kernel
theorem dX5_digestGames_8 : decode cX5_digestGames 8 = .ok (.getfield 10, 3) := by decide +kernel
theorem dX5_digestGames_11 : decode cX5_digestGames 11 = .ok (.getfield 168, 3) := by decide +kernel
theorem dX5_digestGames_14 : decode cX5_digestGames 14 = .ok (.if_icmp .ge 41, 3) := by decide +kernel
theorem dX5_digestGames_17 : decode cX5_digestGames 17 = .ok (.iconst 0, 1) := by decide +kernel
theorem dX5_digestGames_18 : decode cX5_digestGames 18 = .ok (.istore 6, 2) := by decide +kernel
theorem dX5_digestGames_20 : decode cX5_digestGames 20 = .ok (.iload 6, 2) := by decide +kernel
theorem dX5_digestGames_22 : decode cX5_digestGames 22 = .ok (.bipush 11, 2) := by decide +kernel
theorem dX5_digestGames_24 : decode cX5_digestGames 24 = .ok (.if_icmp .ge 25, 3) := by decide +kernel
theorem dX5_digestGames_27 : decode cX5_digestGames 27 = .ok (.lload_n 3, 1) := by decide +kernel
theorem dX5_digestGames_28 : decode cX5_digestGames 28 = .ok (.ldc2_w 312, 3) := by decide +kernel
theorem dX5_digestGames_31 : decode cX5_digestGames 31 = .ok (.lmul, 1) := by decide +kernel
theorem dX5_digestGames_32 : decode cX5_digestGames 32 = .ok (.aload_n 0, 1) := by decide +kernel
theorem dX5_digestGames_33 : decode cX5_digestGames 33 = .ok (.iload 5, 2) := by decide +kernel
theorem dX5_digestGames_35 : decode cX5_digestGames 35 = .ok (.iload 6, 2) := by decide +kernel
theorem dX5_digestGames_37 : decode cX5_digestGames 37 = .ok (.invokevirtual 332, 3) := by decide +kernel
theorem dX5_digestGames_40 : decode cX5_digestGames 40 = .ok (.i2l, 1) := by decide +kernel
theorem dX5_digestGames_41 : decode cX5_digestGames 41 = .ok (.ladd, 1) := by decide +kernel
theorem dX5_digestGames_42 : decode cX5_digestGames 42 = .ok (.lstore_n 3, 1) := by decide +kernel
theorem dX5_digestGames_43 : decode cX5_digestGames 43 = .ok (.iinc 6 1, 3) := by decide +kernel
theorem dX5_digestGames_46 : decode cX5_digestGames 46 = .ok (.goto (-26), 3) := by decide +kernel
theorem dX5_digestGames_49 : decode cX5_digestGames 49 = .ok (.iinc 5 1, 3) := by decide +kernel
theorem dX5_digestGames_52 : decode cX5_digestGames 52 = .ok (.goto (-47), 3) := by decide +kernel
theorem dX5_digestGames_55 : decode cX5_digestGames 55 = .ok (.lload_n 3, 1) := by decide +kernel
theorem dX5_digestGames_56 : decode cX5_digestGames 56 = .ok (.lreturn, 1) := by decide +kernel
theorem dX5_isOutside_0 : decode cX5_isOutside 0 = .ok (.iload_n 0, 1) := by decide +kernel
theorem dX5_isOutside_1 : decode cX5_isOutside 1 = .ok (.iload_n 1, 1) := by decide +kernel
theorem dX5_isOutside_2 : decode cX5_isOutside 2 = .ok (.if_icmp .lt 8, 3) := by decide +kernel
theorem dX5_isOutside_5 : decode cX5_isOutside 5 = .ok (.iload_n 0, 1) := by decide +kernel
theorem dX5_isOutside_6 : decode cX5_isOutside 6 = .ok (.iload_n 2, 1) := by decide +kernel
theorem dX5_isOutside_7 : decode cX5_isOutside 7 = .ok (.if_icmp .le 7, 3) := by decide +kernel
theorem dX5_isOutside_10 : decode cX5_isOutside 10 = .ok (.iconst 1, 1) := by decide +kernel
theorem dX5_isOutside_11 : decode cX5_isOutside 11 = .ok (.goto 4, 3) := by decide +kernel
theorem dX5_isOutside_14 : decode cX5_isOutside 14 = .ok (.iconst 0, 1) := by decide +kernel
theorem dX5_isOutside_15 : decode cX5_isOutside 15 = .ok (.ireturn, 1) := by decide +kernel
theorem dX6_init_0 : decode cX6_init 0 = .ok (.aload_n 0, 1) := by decide +kernel
theorem dX6_init_1 : decode cX6_init 1 = .ok (.invokespecial 3, 3) := by decide +kernel
theorem dX6_init_4 : decode cX6_init 4 = .ok (.aload_n 0, 1) := by decide +kernel
theorem dX6_init_5 : decode cX6_init 5 = .ok (.bipush 8, 2) := by decide +kernel
theorem dX6_init_7 : decode cX6_init 7 = .ok (.newarray .int, 2) := by decide +kernel
theorem dX6_init_9 : decode cX6_init 9 = .ok (.putfield 9, 3) := by decide +kernel
theorem dX6_init_12 : decode cX6_init 12 = .ok (.aload_n 0, 1) := by decide +kernel
theorem dX6_init_13 : decode cX6_init 13 = .ok (.bipush 8, 2) := by decide +kernel
theorem dX6_init_15 : decode cX6_init 15 = .ok (.newarray .int, 2) := by decide +kernel
theorem dX6_init_17 : decode cX6_init 17 = .ok (.putfield 15, 3) := by decide +kernel
theorem dX6_init_20 : decode cX6_init 20 = .ok (.aload_n 0, 1) := by decide +kernel
theorem dX6_init_21 : decode cX6_init 21 = .ok (.bipush 8, 2) := by decide +kernel
theorem dX6_init_23 : decode cX6_init 23 = .ok (.newarray .int, 2) := by decide +kernel
theorem dX6_init_25 : decode cX6_init 25 = .ok (.putfield 18, 3) := by decide +kernel
theorem dX6_init_28 : decode cX6_init 28 = .ok (.aload_n 0, 1) := by decide +kernel
theorem dX6_init_29 : decode cX6_init 29 = .ok (.bipush 8, 2) := by decide +kernel
theorem dX6_init_31 : decode cX6_init 31 = .ok (.newarray .int, 2) := by decide +kernel
theorem dX6_init_33 : decode cX6_init 33 = .ok (.putfield 21, 3) := by decide +kernel
theorem dX6_init_36 : decode cX6_init 36 = .ok (.aload_n 0, 1) := by decide +kernel
theorem dX6_init_37 : decode cX6_init 37 = .ok (.bipush 8, 2) := by decide +kernel
theorem dX6_init_39 : decode cX6_init 39 = .ok (.newarray .int, 2) := by decide +kernel
theorem dX6_init_41 : decode cX6_init 41 = .ok (.putfield 24, 3) := by decide +kernel
theorem dX6_init_44 : decode cX6_init 44 = .ok (.aload_n 0, 1) := by decide +kernel
theorem dX6_init_45 : decode cX6_init 45 = .ok (.bipush 32, 2) := by decide +kernel
theorem dX6_init_47 : decode cX6_init 47 = .ok (.newarray .int, 2) := by decide +kernel
theorem dX6_init_49 : decode cX6_init 49 = .ok (.putfield 27, 3) := by decide +kernel
theorem dX6_init_52 : decode cX6_init 52 = .ok (.aload_n 0, 1) := by decide +kernel
theorem dX6_init_53 : decode cX6_init 53 = .ok (.bipush 32, 2) := by decide +kernel
theorem dX6_init_55 : decode cX6_init 55 = .ok (.newarray .int, 2) := by decide +kernel
theorem dX6_init_57 : decode cX6_init 57 = .ok (.putfield 30, 3) := by decide +kernel
theorem dX6_init_60 : decode cX6_init 60 = .ok (.aload_n 0, 1) := by decide +kernel
theorem dX6_init_61 : decode cX6_init 61 = .ok (.bipush 32, 2) := by decide +kernel
theorem dX6_init_63 : decode cX6_init 63 = .ok (.newarray .int, 2) := by decide +kernel
theorem dX6_init_65 : decode cX6_init 65 = .ok (.putfield 33, 3) := by decide +kernel
theorem dX6_init_68 : decode cX6_init 68 = .ok (.aload_n 0, 1) := by decide +kernel
theorem dX6_init_69 : decode cX6_init 69 = .ok (.bipush 16, 2) := by decide +kernel
theorem dX6_init_71 : decode cX6_init 71 = .ok (.newarray .int, 2) := by decide +kernel
theorem dX6_init_73 : decode cX6_init 73 = .ok (.putfield 36, 3) := by decide +kernel
theorem dX6_init_76 : decode cX6_init 76 = .ok (.aload_n 0, 1) := by decide +kernel
theorem dX6_init_77 : decode cX6_init 77 = .ok (.bipush 16, 2) := by decide +kernel
theorem dX6_init_79 : decode cX6_init 79 = .ok (.newarray .int, 2) := by decide +kernel
theorem dX6_init_81 : decode cX6_init 81 = .ok (.putfield 39, 3) := by decide +kernel
theorem dX6_init_84 : decode cX6_init 84 = .ok (.aload_n 0, 1) := by decide +kernel
theorem dX6_init_85 : decode cX6_init 85 = .ok (.bipush 16, 2) := by decide +kernel
theorem dX6_init_87 : decode cX6_init 87 = .ok (.newarray .int, 2) := by decide +kernel
theorem dX6_init_89 : decode cX6_init 89 = .ok (.putfield 42, 3) := by decide +kernel
theorem dX6_init_92 : decode cX6_init 92 = .ok (.aload_n 0, 1) := by decide +kernel
theorem dX6_init_93 : decode cX6_init 93 = .ok (.bipush 16, 2) := by decide +kernel
theorem dX6_init_95 : decode cX6_init 95 = .ok (.newarray .int, 2) := by decide +kernel
theorem dX6_init_97 : decode cX6_init 97 = .ok (.putfield 45, 3) := by decide +kernel
theorem dX6_init_100 : decode cX6_init 100 = .ok (.aload_n 0, 1) := by decide +kernel
theorem dX6_init_101 : decode cX6_init 101 = .ok (.bipush 16, 2) := by decide +kernel
theorem dX6_init_103 : decode cX6_init 103 = .ok (.newarray .int, 2) := by decide +kernel
theorem dX6_init_105 : decode cX6_init 105 = .ok (.putfield 48, 3) := by decide +kernel
theorem dX6_init_108 : decode cX6_init 108 = .ok (.aload_n 0, 1) := by decide +kernel
theorem dX6_init_109 : decode cX6_init 109 = .ok (.bipush 16, 2) := by decide +kernel
theorem dX6_init_111 : decode cX6_init 111 = .ok (.newarray .int, 2) := by decide +kernel
theorem dX6_init_113 : decode cX6_init 113 = .ok (.putfield 51, 3) := by decide +kernel
theorem dX6_init_116 : decode cX6_init 116 = .ok (.aload_n 0, 1) := by decide +kernel
theorem dX6_init_117 : decode cX6_init 117 = .ok (.bipush 16, 2) := by decide +kernel
theorem dX6_init_119 : decode cX6_init 119 = .ok (.newarray .int, 2) := by decide +kernel
theorem dX6_init_121 : decode cX6_init 121 = .ok (.putfield 54, 3) := by decide +kernel
theorem dX6_init_124 : decode cX6_init 124 = .ok (.aload_n 0, 1) := by decide +kernel
theorem dX6_init_125 : decode cX6_init 125 = .ok (.bipush 20, 2) := by decide +kernel
theorem dX6_init_127 : decode cX6_init 127 = .ok (.newarray .int, 2) := by decide +kernel
theorem dX6_init_129 : decode cX6_init 129 = .ok (.putfield 57, 3) := by decide +kernel
theorem dX6_init_132 : decode cX6_init 132 = .ok (.aload_n 0, 1) := by decide +kernel
theorem dX6_init_133 : decode cX6_init 133 = .ok (.bipush 20, 2) := by decide +kernel
theorem dX6_init_135 : decode cX6_init 135 = .ok (.newarray .int, 2) := by decide +kernel
theorem dX6_init_137 : decode cX6_init 137 = .ok (.putfield 60, 3) := by decide +kernel
theorem dX6_init_140 : decode cX6_init 140 = .ok (.aload_n 0, 1) := by decide +kernel
theorem dX6_init_141 : decode cX6_init 141 = .ok (.bipush 20, 2) := by decide +kernel
theorem dX6_init_143 : decode cX6_init 143 = .ok (.newarray .int, 2) := by decide +kernel
theorem dX6_init_145 : decode cX6_init 145 = .ok (.putfield 63, 3) := by decide +kernel
theorem dX6_init_148 : decode cX6_init 148 = .ok (.aload_n 0, 1) := by decide +kernel
theorem dX6_init_149 : decode cX6_init 149 = .ok (.bipush 20, 2) := by decide +kernel
theorem dX6_init_151 : decode cX6_init 151 = .ok (.newarray .int, 2) := by decide +kernel
theorem dX6_init_153 : decode cX6_init 153 = .ok (.putfield 66, 3) := by decide +kernel
theorem dX6_init_156 : decode cX6_init 156 = .ok (.aload_n 0, 1) := by decide +kernel
theorem dX6_init_157 : decode cX6_init 157 = .ok (.bipush 20, 2) := by decide +kernel
theorem dX6_init_159 : decode cX6_init 159 = .ok (.newarray .int, 2) := by decide +kernel
theorem dX6_init_161 : decode cX6_init 161 = .ok (.putfield 69, 3) := by decide +kernel
theorem dX6_init_164 : decode cX6_init 164 = .ok (.aload_n 0, 1) := by decide +kernel
theorem dX6_init_165 : decode cX6_init 165 = .ok (.ldc 72, 2) := by decide +kernel
theorem dX6_init_167 : decode cX6_init 167 = .ok (.putfield 73, 3) := by decide +kernel
theorem dX6_init_170 : decode cX6_init 170 = .ok (.return_, 1) := by decide +kernel
theorem dX6_copy_0 : decode cX6_copy 0 = .ok (.aload_n 0, 1) := by decide +kernel
theorem dX6_copy_1 : decode cX6_copy 1 = .ok (.iconst 0, 1) := by decide +kernel
theorem dX6_copy_2 : decode cX6_copy 2 = .ok (.aload_n 1, 1) := by decide +kernel
theorem dX6_copy_3 : decode cX6_copy 3 = .ok (.iconst 0, 1) := by decide +kernel
theorem dX6_copy_4 : decode cX6_copy 4 = .ok (.aload_n 0, 1) := by decide +kernel
theorem dX6_copy_5 : decode cX6_copy 5 = .ok (.arraylength, 1) := by decide +kernel
theorem dX6_copy_6 : decode cX6_copy 6 = .ok (.invokestatic 77, 3) := by decide +kernel
theorem dX6_copy_9 : decode cX6_copy 9 = .ok (.return_, 1) := by decide +kernel
theorem dX6_become_0 : decode cX6_become 0 = .ok (.aload_n 0, 1) := by decide +kernel
theorem dX6_become_1 : decode cX6_become 1 = .ok (.aload_n 1, 1) := by decide +kernel
theorem dX6_become_2 : decode cX6_become 2 = .ok (.getfield 83, 3) := by decide +kernel
theorem dX6_become_5 : decode cX6_become 5 = .ok (.putfield 83, 3) := by decide +kernel
theorem dX6_become_8 : decode cX6_become 8 = .ok (.aload_n 0, 1) := by decide +kernel
theorem dX6_become_9 : decode cX6_become 9 = .ok (.aload_n 1, 1) := by decide +kernel
theorem dX6_become_10 : decode cX6_become 10 = .ok (.getfield 86, 3) := by decide +kernel
theorem dX6_become_13 : decode cX6_become 13 = .ok (.putfield 86, 3) := by decide +kernel
theorem dX6_become_16 : decode cX6_become 16 = .ok (.aload_n 0, 1) := by decide +kernel
theorem dX6_become_17 : decode cX6_become 17 = .ok (.aload_n 1, 1) := by decide +kernel
theorem dX6_become_18 : decode cX6_become 18 = .ok (.getfield 89, 3) := by decide +kernel
theorem dX6_become_21 : decode cX6_become 21 = .ok (.putfield 89, 3) := by decide +kernel
theorem dX6_become_24 : decode cX6_become 24 = .ok (.aload_n 0, 1) := by decide +kernel
theorem dX6_become_25 : decode cX6_become 25 = .ok (.aload_n 1, 1) := by decide +kernel
theorem dX6_become_26 : decode cX6_become 26 = .ok (.getfield 92, 3) := by decide +kernel
theorem dX6_become_29 : decode cX6_become 29 = .ok (.putfield 92, 3) := by decide +kernel
theorem dX6_become_32 : decode cX6_become 32 = .ok (.aload_n 0, 1) := by decide +kernel
theorem dX6_become_33 : decode cX6_become 33 = .ok (.aload_n 1, 1) := by decide +kernel
theorem dX6_become_34 : decode cX6_become 34 = .ok (.getfield 73, 3) := by decide +kernel
theorem dX6_become_37 : decode cX6_become 37 = .ok (.putfield 73, 3) := by decide +kernel
theorem dX6_become_40 : decode cX6_become 40 = .ok (.aload_n 0, 1) := by decide +kernel
theorem dX6_become_41 : decode cX6_become 41 = .ok (.aload_n 1, 1) := by decide +kernel
theorem dX6_become_42 : decode cX6_become 42 = .ok (.getfield 95, 3) := by decide +kernel
theorem dX6_become_45 : decode cX6_become 45 = .ok (.putfield 95, 3) := by decide +kernel
theorem dX6_become_48 : decode cX6_become 48 = .ok (.aload_n 0, 1) := by decide +kernel
theorem dX6_become_49 : decode cX6_become 49 = .ok (.aload_n 1, 1) := by decide +kernel
theorem dX6_become_50 : decode cX6_become 50 = .ok (.getfield 98, 3) := by decide +kernel
theorem dX6_become_53 : decode cX6_become 53 = .ok (.putfield 98, 3) := by decide +kernel
theorem dX6_become_56 : decode cX6_become 56 = .ok (.aload_n 1, 1) := by decide +kernel
theorem dX6_become_57 : decode cX6_become 57 = .ok (.getfield 9, 3) := by decide +kernel
theorem dX6_become_60 : decode cX6_become 60 = .ok (.aload_n 0, 1) := by decide +kernel
theorem dX6_become_61 : decode cX6_become 61 = .ok (.getfield 9, 3) := by decide +kernel
theorem dX6_become_64 : decode cX6_become 64 = .ok (.invokestatic 101, 3) := by decide +kernel
theorem dX6_become_67 : decode cX6_become 67 = .ok (.aload_n 1, 1) := by decide +kernel
theorem dX6_become_68 : decode cX6_become 68 = .ok (.getfield 15, 3) := by decide +kernel
theorem dX6_become_71 : decode cX6_become 71 = .ok (.aload_n 0, 1) := by decide +kernel
theorem dX6_become_72 : decode cX6_become 72 = .ok (.getfield 15, 3) := by decide +kernel
theorem dX6_become_75 : decode cX6_become 75 = .ok (.invokestatic 101, 3) := by decide +kernel
theorem dX6_become_78 : decode cX6_become 78 = .ok (.aload_n 1, 1) := by decide +kernel
theorem dX6_become_79 : decode cX6_become 79 = .ok (.getfield 18, 3) := by decide +kernel
theorem dX6_become_82 : decode cX6_become 82 = .ok (.aload_n 0, 1) := by decide +kernel
theorem dX6_become_83 : decode cX6_become 83 = .ok (.getfield 18, 3) := by decide +kernel
theorem dX6_become_86 : decode cX6_become 86 = .ok (.invokestatic 101, 3) := by decide +kernel
theorem dX6_become_89 : decode cX6_become 89 = .ok (.aload_n 1, 1) := by decide +kernel
theorem dX6_become_90 : decode cX6_become 90 = .ok (.getfield 21, 3) := by decide +kernel
theorem dX6_become_93 : decode cX6_become 93 = .ok (.aload_n 0, 1) := by decide +kernel
theorem dX6_become_94 : decode cX6_become 94 = .ok (.getfield 21, 3) := by decide +kernel
theorem dX6_become_97 : decode cX6_become 97 = .ok (.invokestatic 101, 3) := by decide +kernel
theorem dX6_become_100 : decode cX6_become 100 = .ok (.aload_n 1, 1) := by decide +kernel
theorem dX6_become_101 : decode cX6_become 101 = .ok (.getfield 24, 3) := by decide +kernel
theorem dX6_become_104 : decode cX6_become 104 = .ok (.aload_n 0, 1) := by decide +kernel
theorem dX6_become_105 : decode cX6_become 105 = .ok (.getfield 24, 3) := by decide +kernel
theorem dX6_become_108 : decode cX6_become 108 = .ok (.invokestatic 101, 3) := by decide +kernel
theorem dX6_become_111 : decode cX6_become 111 = .ok (.aload_n 1, 1) := by decide +kernel
theorem dX6_become_112 : decode cX6_become 112 = .ok (.getfield 27, 3) := by decide +kernel
theorem dX6_become_115 : decode cX6_become 115 = .ok (.aload_n 0, 1) := by decide +kernel
theorem dX6_become_116 : decode cX6_become 116 = .ok (.getfield 27, 3) := by decide +kernel
theorem dX6_become_119 : decode cX6_become 119 = .ok (.invokestatic 101, 3) := by decide +kernel
theorem dX6_become_122 : decode cX6_become 122 = .ok (.aload_n 1, 1) := by decide +kernel
theorem dX6_become_123 : decode cX6_become 123 = .ok (.getfield 30, 3) := by decide +kernel
theorem dX6_become_126 : decode cX6_become 126 = .ok (.aload_n 0, 1) := by decide +kernel
theorem dX6_become_127 : decode cX6_become 127 = .ok (.getfield 30, 3) := by decide +kernel
theorem dX6_become_130 : decode cX6_become 130 = .ok (.invokestatic 101, 3) := by decide +kernel
theorem dX6_become_133 : decode cX6_become 133 = .ok (.aload_n 1, 1) := by decide +kernel
theorem dX6_become_134 : decode cX6_become 134 = .ok (.getfield 33, 3) := by decide +kernel
theorem dX6_become_137 : decode cX6_become 137 = .ok (.aload_n 0, 1) := by decide +kernel
theorem dX6_become_138 : decode cX6_become 138 = .ok (.getfield 33, 3) := by decide +kernel
theorem dX6_become_141 : decode cX6_become 141 = .ok (.invokestatic 101, 3) := by decide +kernel
theorem dX6_become_144 : decode cX6_become 144 = .ok (.aload_n 1, 1) := by decide +kernel
theorem dX6_become_145 : decode cX6_become 145 = .ok (.getfield 36, 3) := by decide +kernel
theorem dX6_become_148 : decode cX6_become 148 = .ok (.aload_n 0, 1) := by decide +kernel
theorem dX6_become_149 : decode cX6_become 149 = .ok (.getfield 36, 3) := by decide +kernel
theorem dX6_become_152 : decode cX6_become 152 = .ok (.invokestatic 101, 3) := by decide +kernel
theorem dX6_become_155 : decode cX6_become 155 = .ok (.aload_n 1, 1) := by decide +kernel
theorem dX6_become_156 : decode cX6_become 156 = .ok (.getfield 39, 3) := by decide +kernel
theorem dX6_become_159 : decode cX6_become 159 = .ok (.aload_n 0, 1) := by decide +kernel
theorem dX6_become_160 : decode cX6_become 160 = .ok (.getfield 39, 3) := by decide +kernel
theorem dX6_become_163 : decode cX6_become 163 = .ok (.invokestatic 101, 3) := by decide +kernel
theorem dX6_become_166 : decode cX6_become 166 = .ok (.aload_n 1, 1) := by decide +kernel
theorem dX6_become_167 : decode cX6_become 167 = .ok (.getfield 42, 3) := by decide +kernel
theorem dX6_become_170 : decode cX6_become 170 = .ok (.aload_n 0, 1) := by decide +kernel
theorem dX6_become_171 : decode cX6_become 171 = .ok (.getfield 42, 3) := by decide +kernel
theorem dX6_become_174 : decode cX6_become 174 = .ok (.invokestatic 101, 3) := by decide +kernel
theorem dX6_become_177 : decode cX6_become 177 = .ok (.aload_n 1, 1) := by decide +kernel
theorem dX6_become_178 : decode cX6_become 178 = .ok (.getfield 45, 3) := by decide +kernel
theorem dX6_become_181 : decode cX6_become 181 = .ok (.aload_n 0, 1) := by decide +kernel
theorem dX6_become_182 : decode cX6_become 182 = .ok (.getfield 45, 3) := by decide +kernel
theorem dX6_become_185 : decode cX6_become 185 = .ok (.invokestatic 101, 3) := by decide +kernel
theorem dX6_become_188 : decode cX6_become 188 = .ok (.aload_n 1, 1) := by decide +kernel
theorem dX6_become_189 : decode cX6_become 189 = .ok (.getfield 48, 3) := by decide +kernel
theorem dX6_become_192 : decode cX6_become 192 = .ok (.aload_n 0, 1) := by decide +kernel
theorem dX6_become_193 : decode cX6_become 193 = .ok (.getfield 48, 3) := by decide +kernel
theorem dX6_become_196 : decode cX6_become 196 = .ok (.invokestatic 101, 3) := by decide +kernel
theorem dX6_become_199 : decode cX6_become 199 = .ok (.aload_n 1, 1) := by decide +kernel
theorem dX6_become_200 : decode cX6_become 200 = .ok (.getfield 51, 3) := by decide +kernel
theorem dX6_become_203 : decode cX6_become 203 = .ok (.aload_n 0, 1) := by decide +kernel
theorem dX6_become_204 : decode cX6_become 204 = .ok (.getfield 51, 3) := by decide +kernel
theorem dX6_become_207 : decode cX6_become 207 = .ok (.invokestatic 101, 3) := by decide +kernel
theorem dX6_become_210 : decode cX6_become 210 = .ok (.aload_n 1, 1) := by decide +kernel
theorem dX6_become_211 : decode cX6_become 211 = .ok (.getfield 54, 3) := by decide +kernel
theorem dX6_become_214 : decode cX6_become 214 = .ok (.aload_n 0, 1) := by decide +kernel
theorem dX6_become_215 : decode cX6_become 215 = .ok (.getfield 54, 3) := by decide +kernel
theorem dX6_become_218 : decode cX6_become 218 = .ok (.invokestatic 101, 3) := by decide +kernel
theorem dX6_become_221 : decode cX6_become 221 = .ok (.aload_n 1, 1) := by decide +kernel
theorem dX6_become_222 : decode cX6_become 222 = .ok (.getfield 57, 3) := by decide +kernel
theorem dX6_become_225 : decode cX6_become 225 = .ok (.aload_n 0, 1) := by decide +kernel
theorem dX6_become_226 : decode cX6_become 226 = .ok (.getfield 57, 3) := by decide +kernel
theorem dX6_become_229 : decode cX6_become 229 = .ok (.invokestatic 101, 3) := by decide +kernel
theorem dX6_become_232 : decode cX6_become 232 = .ok (.aload_n 1, 1) := by decide +kernel
theorem dX6_become_233 : decode cX6_become 233 = .ok (.getfield 60, 3) := by decide +kernel
theorem dX6_become_236 : decode cX6_become 236 = .ok (.aload_n 0, 1) := by decide +kernel
theorem dX6_become_237 : decode cX6_become 237 = .ok (.getfield 60, 3) := by decide +kernel
theorem dX6_become_240 : decode cX6_become 240 = .ok (.invokestatic 101, 3) := by decide +kernel
theorem dX6_become_243 : decode cX6_become 243 = .ok (.aload_n 1, 1) := by decide +kernel
theorem dX6_become_244 : decode cX6_become 244 = .ok (.getfield 63, 3) := by decide +kernel
theorem dX6_become_247 : decode cX6_become 247 = .ok (.aload_n 0, 1) := by decide +kernel
theorem dX6_become_248 : decode cX6_become 248 = .ok (.getfield 63, 3) := by decide +kernel
theorem dX6_become_251 : decode cX6_become 251 = .ok (.invokestatic 101, 3) := by decide +kernel
theorem dX6_become_254 : decode cX6_become 254 = .ok (.aload_n 1, 1) := by decide +kernel
theorem dX6_become_255 : decode cX6_become 255 = .ok (.getfield 66, 3) := by decide +kernel
theorem dX6_become_258 : decode cX6_become 258 = .ok (.aload_n 0, 1) := by decide +kernel
theorem dX6_become_259 : decode cX6_become 259 = .ok (.getfield 66, 3) := by decide +kernel
theorem dX6_become_262 : decode cX6_become 262 = .ok (.invokestatic 101, 3) := by decide +kernel
theorem dX6_become_265 : decode cX6_become 265 = .ok (.aload_n 1, 1) := by decide +kernel
theorem dX6_become_266 : decode cX6_become 266 = .ok (.getfield 69, 3) := by decide +kernel
theorem dX6_become_269 : decode cX6_become 269 = .ok (.aload_n 0, 1) := by decide +kernel
theorem dX6_become_270 : decode cX6_become 270 = .ok (.getfield 69, 3) := by decide +kernel
theorem dX6_become_273 : decode cX6_become 273 = .ok (.invokestatic 101, 3) := by decide +kernel
theorem dX6_become_276 : decode cX6_become 276 = .ok (.return_, 1) := by decide +kernel
theorem dX6_runs_0 : decode cX6_runs 0 = .ok (.aload_n 0, 1) := by decide +kernel
theorem dX6_runs_1 : decode cX6_runs 1 = .ok (.getfield 54, 3) := by decide +kernel
theorem dX6_runs_4 : decode cX6_runs 4 = .ok (.iload_n 1, 1) := by decide +kernel
theorem dX6_runs_5 : decode cX6_runs 5 = .ok (.iaload, 1) := by decide +kernel
theorem dX6_runs_6 : decode cX6_runs 6 = .ok (.ifCond .ne 7, 3) := by decide +kernel
theorem dX6_runs_9 : decode cX6_runs 9 = .ok (.iconst 1, 1) := by decide +kernel
theorem dX6_runs_10 : decode cX6_runs 10 = .ok (.goto 4, 3) := by decide +kernel
theorem dX6_runs_13 : decode cX6_runs 13 = .ok (.iconst 0, 1) := by decide +kernel
theorem dX6_runs_14 : decode cX6_runs 14 = .ok (.ireturn, 1) := by decide +kernel
theorem dX6_win_0 : decode cX6_win 0 = .ok (.aload_n 0, 1) := by decide +kernel
theorem dX6_win_1 : decode cX6_win 1 = .ok (.getfield 54, 3) := by decide +kernel
theorem dX6_win_4 : decode cX6_win 4 = .ok (.iload_n 1, 1) := by decide +kernel
theorem dX6_win_5 : decode cX6_win 5 = .ok (.iconst 1, 1) := by decide +kernel
theorem dX6_win_6 : decode cX6_win 6 = .ok (.iload_n 2, 1) := by decide +kernel
theorem dX6_win_7 : decode cX6_win 7 = .ok (.iadd, 1) := by decide +kernel
theorem dX6_win_8 : decode cX6_win 8 = .ok (.iastore, 1) := by decide +kernel
theorem dX6_win_9 : decode cX6_win 9 = .ok (.iconst 2, 1) := by decide +kernel
theorem dX6_win_10 : decode cX6_win 10 = .ok (.aload_n 0, 1) := by decide +kernel
theorem dX6_win_11 : decode cX6_win 11 = .ok (.getfield 42, 3) := by decide +kernel
theorem dX6_win_14 : decode cX6_win 14 = .ok (.iload_n 1, 1) := by decide +kernel
theorem dX6_win_15 : decode cX6_win 15 = .ok (.iaload, 1) := by decide +kernel
theorem dX6_win_16 : decode cX6_win 16 = .ok (.imul, 1) := by decide +kernel
theorem dX6_win_17 : decode cX6_win 17 = .ok (.istore_n 3, 1) := by decide +kernel
theorem dX6_win_18 : decode cX6_win 18 = .ok (.aload_n 0, 1) := by decide +kernel
theorem dX6_win_19 : decode cX6_win 19 = .ok (.dup, 1) := by decide +kernel
theorem dX6_win_20 : decode cX6_win 20 = .ok (.getfield 95, 3) := by decide +kernel
theorem dX6_win_23 : decode cX6_win 23 = .ok (.iload_n 3, 1) := by decide +kernel
theorem dX6_win_24 : decode cX6_win 24 = .ok (.bipush 10, 2) := by decide +kernel
theorem dX6_win_26 : decode cX6_win 26 = .ok (.idiv, 1) := by decide +kernel
theorem dX6_win_27 : decode cX6_win 27 = .ok (.iadd, 1) := by decide +kernel
theorem dX6_win_28 : decode cX6_win 28 = .ok (.putfield 95, 3) := by decide +kernel
theorem dX6_win_31 : decode cX6_win 31 = .ok (.aload_n 0, 1) := by decide +kernel
theorem dX6_win_32 : decode cX6_win 32 = .ok (.getfield 9, 3) := by decide +kernel
theorem dX6_win_35 : decode cX6_win 35 = .ok (.aload_n 0, 1) := by decide +kernel
theorem dX6_win_36 : decode cX6_win 36 = .ok (.getfield 27, 3) := by decide +kernel
theorem dX6_win_39 : decode cX6_win 39 = .ok (.iconst 2, 1) := by decide +kernel
theorem dX6_win_40 : decode cX6_win 40 = .ok (.iload_n 1, 1) := by decide +kernel
theorem dX6_win_41 : decode cX6_win 41 = .ok (.imul, 1) := by decide +kernel
theorem dX6_win_42 : decode cX6_win 42 = .ok (.iload_n 2, 1) := by decide +kernel
theorem dX6_win_43 : decode cX6_win 43 = .ok (.iadd, 1) := by decide +kernel
theorem dX6_win_44 : decode cX6_win 44 = .ok (.iaload, 1) := by decide +kernel
theorem dX6_win_45 : decode cX6_win 45 = .ok (.dup2, 1) := by decide +kernel
theorem dX6_win_46 : decode cX6_win 46 = .ok (.iaload, 1) := by decide +kernel
theorem dX6_win_47 : decode cX6_win 47 = .ok (.iload_n 3, 1) := by decide +kernel
theorem dX6_win_48 : decode cX6_win 48 = .ok (.iload_n 3, 1) := by decide +kernel
theorem dX6_win_49 : decode cX6_win 49 = .ok (.bipush 10, 2) := by decide +kernel
theorem dX6_win_51 : decode cX6_win 51 = .ok (.idiv, 1) := by decide +kernel
theorem dX6_win_52 : decode cX6_win 52 = .ok (.isub, 1) := by decide +kernel
theorem dX6_win_53 : decode cX6_win 53 = .ok (.iadd, 1) := by decide +kernel
theorem dX6_win_54 : decode cX6_win 54 = .ok (.iastore, 1) := by decide +kernel
theorem dX6_win_55 : decode cX6_win 55 = .ok (.aload_n 0, 1) := by decide +kernel
theorem dX6_win_56 : decode cX6_win 56 = .ok (.getfield 18, 3) := by decide +kernel
theorem dX6_win_59 : decode cX6_win 59 = .ok (.aload_n 0, 1) := by decide +kernel
theorem dX6_win_60 : decode cX6_win 60 = .ok (.getfield 27, 3) := by decide +kernel
theorem dX6_win_63 : decode cX6_win 63 = .ok (.iconst 2, 1) := by decide +kernel
theorem dX6_win_64 : decode cX6_win 64 = .ok (.iload_n 1, 1) := by decide +kernel
theorem dX6_win_65 : decode cX6_win 65 = .ok (.imul, 1) := by decide +kernel
theorem dX6_win_66 : decode cX6_win 66 = .ok (.iload_n 2, 1) := by decide +kernel
theorem dX6_win_67 : decode cX6_win 67 = .ok (.iadd, 1) := by decide +kernel
theorem dX6_win_68 : decode cX6_win 68 = .ok (.iaload, 1) := by decide +kernel
theorem dX6_win_69 : decode cX6_win 69 = .ok (.dup2, 1) := by decide +kernel
theorem dX6_win_70 : decode cX6_win 70 = .ok (.iaload, 1) := by decide +kernel
theorem dX6_win_71 : decode cX6_win 71 = .ok (.iconst 1, 1) := by decide +kernel
theorem dX6_win_72 : decode cX6_win 72 = .ok (.iadd, 1) := by decide +kernel
theorem dX6_win_73 : decode cX6_win 73 = .ok (.iastore, 1) := by decide +kernel
theorem dX6_win_74 : decode cX6_win 74 = .ok (.aload_n 0, 1) := by decide +kernel
theorem dX6_win_75 : decode cX6_win 75 = .ok (.getfield 21, 3) := by decide +kernel
theorem dX6_win_78 : decode cX6_win 78 = .ok (.aload_n 0, 1) := by decide +kernel
theorem dX6_win_79 : decode cX6_win 79 = .ok (.getfield 27, 3) := by decide +kernel
theorem dX6_win_82 : decode cX6_win 82 = .ok (.iconst 2, 1) := by decide +kernel
theorem dX6_win_83 : decode cX6_win 83 = .ok (.iload_n 1, 1) := by decide +kernel
theorem dX6_win_84 : decode cX6_win 84 = .ok (.imul, 1) := by decide +kernel
theorem dX6_win_85 : decode cX6_win 85 = .ok (.iconst 1, 1) := by decide +kernel
theorem dX6_win_86 : decode cX6_win 86 = .ok (.iadd, 1) := by decide +kernel
theorem dX6_win_87 : decode cX6_win 87 = .ok (.iload_n 2, 1) := by decide +kernel
theorem dX6_win_88 : decode cX6_win 88 = .ok (.isub, 1) := by decide +kernel
theorem dX6_win_89 : decode cX6_win 89 = .ok (.iaload, 1) := by decide +kernel
theorem dX6_win_90 : decode cX6_win 90 = .ok (.dup2, 1) := by decide +kernel
theorem dX6_win_91 : decode cX6_win 91 = .ok (.iaload, 1) := by decide +kernel
theorem dX6_win_92 : decode cX6_win 92 = .ok (.iconst 1, 1) := by decide +kernel
theorem dX6_win_93 : decode cX6_win 93 = .ok (.iadd, 1) := by decide +kernel
theorem dX6_win_94 : decode cX6_win 94 = .ok (.iastore, 1) := by decide +kernel
theorem dX6_win_95 : decode cX6_win 95 = .ok (.iload_n 3, 1) := by decide +kernel
theorem dX6_win_96 : decode cX6_win 96 = .ok (.iload_n 3, 1) := by decide +kernel
theorem dX6_win_97 : decode cX6_win 97 = .ok (.bipush 10, 2) := by decide +kernel
theorem dX6_win_99 : decode cX6_win 99 = .ok (.idiv, 1) := by decide +kernel
theorem dX6_win_100 : decode cX6_win 100 = .ok (.isub, 1) := by decide +kernel
theorem dX6_win_101 : decode cX6_win 101 = .ok (.ireturn, 1) := by decide +kernel
theorem dX6_stop_0 : decode cX6_stop 0 = .ok (.aload_n 0, 1) := by decide +kernel
theorem dX6_stop_1 : decode cX6_stop 1 = .ok (.getfield 54, 3) := by decide +kernel
theorem dX6_stop_4 : decode cX6_stop 4 = .ok (.iload_n 1, 1) := by decide +kernel
theorem dX6_stop_5 : decode cX6_stop 5 = .ok (.iconst 3, 1) := by decide +kernel
theorem dX6_stop_6 : decode cX6_stop 6 = .ok (.iastore, 1) := by decide +kernel
theorem dX6_stop_7 : decode cX6_stop 7 = .ok (.iconst 0, 1) := by decide +kernel
theorem dX6_stop_8 : decode cX6_stop 8 = .ok (.istore_n 2, 1) := by decide +kernel
theorem dX6_stop_9 : decode cX6_stop 9 = .ok (.iload_n 2, 1) := by decide +kernel
theorem dX6_stop_10 : decode cX6_stop 10 = .ok (.iconst 2, 1) := by decide +kernel
theorem dX6_stop_11 : decode cX6_stop 11 = .ok (.if_icmp .ge 33, 3) := by decide +kernel
theorem dX6_stop_14 : decode cX6_stop 14 = .ok (.aload_n 0, 1) := by decide +kernel
theorem dX6_stop_15 : decode cX6_stop 15 = .ok (.getfield 9, 3) := by decide +kernel
theorem dX6_stop_18 : decode cX6_stop 18 = .ok (.aload_n 0, 1) := by decide +kernel
theorem dX6_stop_19 : decode cX6_stop 19 = .ok (.getfield 27, 3) := by decide +kernel
theorem dX6_stop_22 : decode cX6_stop 22 = .ok (.iconst 2, 1) := by decide +kernel
theorem dX6_stop_23 : decode cX6_stop 23 = .ok (.iload_n 1, 1) := by decide +kernel
theorem dX6_stop_24 : decode cX6_stop 24 = .ok (.imul, 1) := by decide +kernel
theorem dX6_stop_25 : decode cX6_stop 25 = .ok (.iload_n 2, 1) := by decide +kernel
theorem dX6_stop_26 : decode cX6_stop 26 = .ok (.iadd, 1) := by decide +kernel
theorem dX6_stop_27 : decode cX6_stop 27 = .ok (.iaload, 1) := by decide +kernel
theorem dX6_stop_28 : decode cX6_stop 28 = .ok (.dup2, 1) := by decide +kernel
theorem dX6_stop_29 : decode cX6_stop 29 = .ok (.iaload, 1) := by decide +kernel
theorem dX6_stop_30 : decode cX6_stop 30 = .ok (.aload_n 0, 1) := by decide +kernel
theorem dX6_stop_31 : decode cX6_stop 31 = .ok (.getfield 42, 3) := by decide +kernel
theorem dX6_stop_34 : decode cX6_stop 34 = .ok (.iload_n 1, 1) := by decide +kernel
theorem dX6_stop_35 : decode cX6_stop 35 = .ok (.iaload, 1) := by decide +kernel
theorem dX6_stop_36 : decode cX6_stop 36 = .ok (.iadd, 1) := by decide +kernel
theorem dX6_stop_37 : decode cX6_stop 37 = .ok (.iastore, 1) := by decide +kernel
theorem dX6_stop_38 : decode cX6_stop 38 = .ok (.iinc 2 1, 3) := by decide +kernel
theorem dX6_stop_41 : decode cX6_stop 41 = .ok (.goto (-32), 3) := by decide +kernel
theorem dX6_stop_44 : decode cX6_stop 44 = .ok (.return_, 1) := by decide +kernel
theorem dX6_goBack_0 : decode cX6_goBack 0 = .ok (.aload_n 0, 1) := by decide +kernel
theorem dX6_goBack_1 : decode cX6_goBack 1 = .ok (.dup, 1) := by decide +kernel
theorem dX6_goBack_2 : decode cX6_goBack 2 = .ok (.getfield 73, 3) := by decide +kernel
theorem dX6_goBack_5 : decode cX6_goBack 5 = .ok (.iload_n 1, 1) := by decide +kernel
theorem dX6_goBack_6 : decode cX6_goBack 6 = .ok (.iadd, 1) := by decide +kernel
theorem dX6_goBack_7 : decode cX6_goBack 7 = .ok (.putfield 73, 3) := by decide +kernel
theorem dX6_goBack_10 : decode cX6_goBack 10 = .ok (.aload_n 0, 1) := by decide +kernel
theorem dX6_goBack_11 : decode cX6_goBack 11 = .ok (.dup, 1) := by decide +kernel
theorem dX6_goBack_12 : decode cX6_goBack 12 = .ok (.getfield 98, 3) := by decide +kernel
theorem dX6_goBack_15 : decode cX6_goBack 15 = .ok (.iload_n 1, 1) := by decide +kernel
theorem dX6_goBack_16 : decode cX6_goBack 16 = .ok (.isub, 1) := by decide +kernel
theorem dX6_goBack_17 : decode cX6_goBack 17 = .ok (.putfield 98, 3) := by decide +kernel
theorem dX6_goBack_20 : decode cX6_goBack 20 = .ok (.return_, 1) := by decide +kernel
theorem dX6_pass_0 : decode cX6_pass 0 = .ok (.aload_n 0, 1) := by decide +kernel
theorem dX6_pass_1 : decode cX6_pass 1 = .ok (.dup, 1) := by decide +kernel
theorem dX6_pass_2 : decode cX6_pass 2 = .ok (.getfield 83, 3) := by decide +kernel
theorem dX6_pass_5 : decode cX6_pass 5 = .ok (.iconst 1, 1) := by decide +kernel
theorem dX6_pass_6 : decode cX6_pass 6 = .ok (.iadd, 1) := by decide +kernel
theorem dX6_pass_7 : decode cX6_pass 7 = .ok (.putfield 83, 3) := by decide +kernel
theorem dX6_pass_10 : decode cX6_pass 10 = .ok (.iconst 0, 1) := by decide +kernel
theorem dX6_pass_11 : decode cX6_pass 11 = .ok (.istore_n 1, 1) := by decide +kernel
theorem dX6_pass_12 : decode cX6_pass 12 = .ok (.iconst 0, 1) := by decide +kernel
theorem dX6_pass_13 : decode cX6_pass 13 = .ok (.istore_n 2, 1) := by decide +kernel
theorem dX6_pass_14 : decode cX6_pass 14 = .ok (.iload_n 2, 1) := by decide +kernel
theorem dX6_pass_15 : decode cX6_pass 15 = .ok (.aload_n 0, 1) := by decide +kernel
theorem dX6_pass_16 : decode cX6_pass 16 = .ok (.getfield 89, 3) := by decide +kernel
theorem dX6_pass_19 : decode cX6_pass 19 = .ok (.if_icmp .ge 105, 3) := by decide +kernel
theorem dX6_pass_22 : decode cX6_pass 22 = .ok (.aload_n 0, 1) := by decide +kernel
theorem dX6_pass_23 : decode cX6_pass 23 = .ok (.iload_n 2, 1) := by decide +kernel
theorem dX6_pass_24 : decode cX6_pass 24 = .ok (.invokevirtual 105, 3) := by decide +kernel
theorem dX6_pass_27 : decode cX6_pass 27 = .ok (.ifCond .ne 6, 3) := by decide +kernel
theorem dX6_pass_30 : decode cX6_pass 30 = .ok (.goto 88, 3) := by decide +kernel
theorem dX6_pass_33 : decode cX6_pass 33 = .ok (.aload_n 0, 1) := by decide +kernel
theorem dX6_pass_34 : decode cX6_pass 34 = .ok (.getfield 51, 3) := by decide +kernel
theorem dX6_pass_37 : decode cX6_pass 37 = .ok (.iload_n 2, 1) := by decide +kernel
theorem dX6_pass_38 : decode cX6_pass 38 = .ok (.dup2, 1) := by decide +kernel
theorem dX6_pass_39 : decode cX6_pass 39 = .ok (.iaload, 1) := by decide +kernel
theorem dX6_pass_40 : decode cX6_pass 40 = .ok (.iconst 1, 1) := by decide +kernel
theorem dX6_pass_41 : decode cX6_pass 41 = .ok (.iadd, 1) := by decide +kernel
theorem dX6_pass_42 : decode cX6_pass 42 = .ok (.iastore, 1) := by decide +kernel
theorem dX6_pass_43 : decode cX6_pass 43 = .ok (.aload_n 0, 1) := by decide +kernel
theorem dX6_pass_44 : decode cX6_pass 44 = .ok (.getfield 51, 3) := by decide +kernel
theorem dX6_pass_47 : decode cX6_pass 47 = .ok (.iload_n 2, 1) := by decide +kernel
theorem dX6_pass_48 : decode cX6_pass 48 = .ok (.iaload, 1) := by decide +kernel
theorem dX6_pass_49 : decode cX6_pass 49 = .ok (.aload_n 0, 1) := by decide +kernel
theorem dX6_pass_50 : decode cX6_pass 50 = .ok (.getfield 39, 3) := by decide +kernel
theorem dX6_pass_53 : decode cX6_pass 53 = .ok (.iload_n 2, 1) := by decide +kernel
theorem dX6_pass_54 : decode cX6_pass 54 = .ok (.iaload, 1) := by decide +kernel
theorem dX6_pass_55 : decode cX6_pass 55 = .ok (.if_icmp .gt 6, 3) := by decide +kernel
theorem dX6_pass_58 : decode cX6_pass 58 = .ok (.goto 60, 3) := by decide +kernel
theorem dX6_pass_61 : decode cX6_pass 61 = .ok (.aload_n 0, 1) := by decide +kernel
theorem dX6_pass_62 : decode cX6_pass 62 = .ok (.getfield 30, 3) := by decide +kernel
theorem dX6_pass_65 : decode cX6_pass 65 = .ok (.iconst 2, 1) := by decide +kernel
theorem dX6_pass_66 : decode cX6_pass 66 = .ok (.iload_n 2, 1) := by decide +kernel
theorem dX6_pass_67 : decode cX6_pass 67 = .ok (.imul, 1) := by decide +kernel
theorem dX6_pass_68 : decode cX6_pass 68 = .ok (.aload_n 0, 1) := by decide +kernel
theorem dX6_pass_69 : decode cX6_pass 69 = .ok (.getfield 45, 3) := by decide +kernel
theorem dX6_pass_72 : decode cX6_pass 72 = .ok (.iload_n 2, 1) := by decide +kernel
theorem dX6_pass_73 : decode cX6_pass 73 = .ok (.iaload, 1) := by decide +kernel
theorem dX6_pass_74 : decode cX6_pass 74 = .ok (.iadd, 1) := by decide +kernel
theorem dX6_pass_75 : decode cX6_pass 75 = .ok (.dup2, 1) := by decide +kernel
theorem dX6_pass_76 : decode cX6_pass 76 = .ok (.iaload, 1) := by decide +kernel
theorem dX6_pass_77 : decode cX6_pass 77 = .ok (.iconst 1, 1) := by decide +kernel
theorem dX6_pass_78 : decode cX6_pass 78 = .ok (.isub, 1) := by decide +kernel
theorem dX6_pass_79 : decode cX6_pass 79 = .ok (.iastore, 1) := by decide +kernel
theorem dX6_pass_80 : decode cX6_pass 80 = .ok (.aload_n 0, 1) := by decide +kernel
theorem dX6_pass_81 : decode cX6_pass 81 = .ok (.getfield 30, 3) := by decide +kernel
theorem dX6_pass_84 : decode cX6_pass 84 = .ok (.iconst 2, 1) := by decide +kernel
theorem dX6_pass_85 : decode cX6_pass 85 = .ok (.iload_n 2, 1) := by decide +kernel
theorem dX6_pass_86 : decode cX6_pass 86 = .ok (.imul, 1) := by decide +kernel
theorem dX6_pass_87 : decode cX6_pass 87 = .ok (.aload_n 0, 1) := by decide +kernel
theorem dX6_pass_88 : decode cX6_pass 88 = .ok (.getfield 45, 3) := by decide +kernel
theorem dX6_pass_91 : decode cX6_pass 91 = .ok (.iload_n 2, 1) := by decide +kernel
theorem dX6_pass_92 : decode cX6_pass 92 = .ok (.iaload, 1) := by decide +kernel
theorem dX6_pass_93 : decode cX6_pass 93 = .ok (.iadd, 1) := by decide +kernel
theorem dX6_pass_94 : decode cX6_pass 94 = .ok (.iaload, 1) := by decide +kernel
theorem dX6_pass_95 : decode cX6_pass 95 = .ok (.ifCond .le 6, 3) := by decide +kernel
theorem dX6_pass_98 : decode cX6_pass 98 = .ok (.goto 20, 3) := by decide +kernel
theorem dX6_pass_101 : decode cX6_pass 101 = .ok (.aload_n 0, 1) := by decide +kernel
theorem dX6_pass_102 : decode cX6_pass 102 = .ok (.iload_n 2, 1) := by decide +kernel
theorem dX6_pass_103 : decode cX6_pass 103 = .ok (.iconst 1, 1) := by decide +kernel
theorem dX6_pass_104 : decode cX6_pass 104 = .ok (.aload_n 0, 1) := by decide +kernel
theorem dX6_pass_105 : decode cX6_pass 105 = .ok (.getfield 45, 3) := by decide +kernel
theorem dX6_pass_108 : decode cX6_pass 108 = .ok (.iload_n 2, 1) := by decide +kernel
theorem dX6_pass_109 : decode cX6_pass 109 = .ok (.iaload, 1) := by decide +kernel
theorem dX6_pass_110 : decode cX6_pass 110 = .ok (.isub, 1) := by decide +kernel
theorem dX6_pass_111 : decode cX6_pass 111 = .ok (.invokevirtual 109, 3) := by decide +kernel
theorem dX6_pass_114 : decode cX6_pass 114 = .ok (.pop, 1) := by decide +kernel
theorem dX6_pass_115 : decode cX6_pass 115 = .ok (.iinc 1 1, 3) := by decide +kernel
theorem dX6_pass_118 : decode cX6_pass 118 = .ok (.iinc 2 1, 3) := by decide +kernel
theorem dX6_pass_121 : decode cX6_pass 121 = .ok (.goto (-107), 3) := by decide +kernel
theorem dX6_pass_124 : decode cX6_pass 124 = .ok (.iconst 0, 1) := by decide +kernel
theorem dX6_pass_125 : decode cX6_pass 125 = .ok (.istore_n 2, 1) := by decide +kernel
theorem dX6_pass_126 : decode cX6_pass 126 = .ok (.iload_n 2, 1) := by decide +kernel
theorem dX6_pass_127 : decode cX6_pass 127 = .ok (.aload_n 0, 1) := by decide +kernel
theorem dX6_pass_128 : decode cX6_pass 128 = .ok (.getfield 92, 3) := by decide +kernel
theorem dX6_pass_131 : decode cX6_pass 131 = .ok (.if_icmp .ge 65, 3) := by decide +kernel
theorem dX6_pass_134 : decode cX6_pass 134 = .ok (.aload_n 0, 1) := by decide +kernel
theorem dX6_pass_135 : decode cX6_pass 135 = .ok (.getfield 83, 3) := by decide +kernel
theorem dX6_pass_138 : decode cX6_pass 138 = .ok (.bipush 60, 2) := by decide +kernel
theorem dX6_pass_140 : decode cX6_pass 140 = .ok (.irem, 1) := by decide +kernel
theorem dX6_pass_141 : decode cX6_pass 141 = .ok (.ifCond .ne 55, 3) := by decide +kernel
theorem dX6_pass_144 : decode cX6_pass 144 = .ok (.aload_n 0, 1) := by decide +kernel
theorem dX6_pass_145 : decode cX6_pass 145 = .ok (.getfield 69, 3) := by decide +kernel
theorem dX6_pass_148 : decode cX6_pass 148 = .ok (.iload_n 2, 1) := by decide +kernel
theorem dX6_pass_149 : decode cX6_pass 149 = .ok (.iaload, 1) := by decide +kernel
theorem dX6_pass_150 : decode cX6_pass 150 = .ok (.ifCond .ne 40, 3) := by decide +kernel
theorem dX6_pass_153 : decode cX6_pass 153 = .ok (.aload_n 0, 1) := by decide +kernel
theorem dX6_pass_154 : decode cX6_pass 154 = .ok (.getfield 60, 3) := by decide +kernel
theorem dX6_pass_157 : decode cX6_pass 157 = .ok (.iload_n 2, 1) := by decide +kernel
theorem dX6_pass_158 : decode cX6_pass 158 = .ok (.ldc 113, 2) := by decide +kernel
theorem dX6_pass_160 : decode cX6_pass 160 = .ok (.aload_n 0, 1) := by decide +kernel
theorem dX6_pass_161 : decode cX6_pass 161 = .ok (.getfield 60, 3) := by decide +kernel
theorem dX6_pass_164 : decode cX6_pass 164 = .ok (.iload_n 2, 1) := by decide +kernel
theorem dX6_pass_165 : decode cX6_pass 165 = .ok (.iaload, 1) := by decide +kernel
theorem dX6_pass_166 : decode cX6_pass 166 = .ok (.aload_n 0, 1) := by decide +kernel
theorem dX6_pass_167 : decode cX6_pass 167 = .ok (.getfield 60, 3) := by decide +kernel
theorem dX6_pass_170 : decode cX6_pass 170 = .ok (.iload_n 2, 1) := by decide +kernel
theorem dX6_pass_171 : decode cX6_pass 171 = .ok (.iaload, 1) := by decide +kernel
theorem dX6_pass_172 : decode cX6_pass 172 = .ok (.aload_n 0, 1) := by decide +kernel
theorem dX6_pass_173 : decode cX6_pass 173 = .ok (.getfield 63, 3) := by decide +kernel
theorem dX6_pass_176 : decode cX6_pass 176 = .ok (.iload_n 2, 1) := by decide +kernel
theorem dX6_pass_177 : decode cX6_pass 177 = .ok (.iaload, 1) := by decide +kernel
theorem dX6_pass_178 : decode cX6_pass 178 = .ok (.imul, 1) := by decide +kernel
theorem dX6_pass_179 : decode cX6_pass 179 = .ok (.sipush 1000, 3) := by decide +kernel
theorem dX6_pass_182 : decode cX6_pass 182 = .ok (.idiv, 1) := by decide +kernel
theorem dX6_pass_183 : decode cX6_pass 183 = .ok (.iadd, 1) := by decide +kernel
theorem dX6_pass_184 : decode cX6_pass 184 = .ok (.iconst 1, 1) := by decide +kernel
theorem dX6_pass_185 : decode cX6_pass 185 = .ok (.iadd, 1) := by decide +kernel
theorem dX6_pass_186 : decode cX6_pass 186 = .ok (.invokestatic 114, 3) := by decide +kernel
theorem dX6_pass_189 : decode cX6_pass 189 = .ok (.iastore, 1) := by decide +kernel
theorem dX6_pass_190 : decode cX6_pass 190 = .ok (.iinc 2 1, 3) := by decide +kernel
theorem dX6_pass_193 : decode cX6_pass 193 = .ok (.goto (-67), 3) := by decide +kernel
theorem dX6_pass_196 : decode cX6_pass 196 = .ok (.iconst 0, 1) := by decide +kernel
theorem dX6_pass_197 : decode cX6_pass 197 = .ok (.istore_n 2, 1) := by decide +kernel
theorem dX6_pass_198 : decode cX6_pass 198 = .ok (.iload_n 2, 1) := by decide +kernel
theorem dX6_pass_199 : decode cX6_pass 199 = .ok (.aload_n 0, 1) := by decide +kernel
theorem dX6_pass_200 : decode cX6_pass 200 = .ok (.getfield 92, 3) := by decide +kernel
theorem dX6_pass_203 : decode cX6_pass 203 = .ok (.if_icmp .ge 36, 3) := by decide +kernel
theorem dX6_pass_206 : decode cX6_pass 206 = .ok (.aload_n 0, 1) := by decide +kernel
theorem dX6_pass_207 : decode cX6_pass 207 = .ok (.getfield 69, 3) := by decide +kernel
theorem dX6_pass_210 : decode cX6_pass 210 = .ok (.iload_n 2, 1) := by decide +kernel
theorem dX6_pass_211 : decode cX6_pass 211 = .ok (.iaload, 1) := by decide +kernel
theorem dX6_pass_212 : decode cX6_pass 212 = .ok (.ifCond .ne 21, 3) := by decide +kernel
theorem dX6_pass_215 : decode cX6_pass 215 = .ok (.aload_n 0, 1) := by decide +kernel
theorem dX6_pass_216 : decode cX6_pass 216 = .ok (.getfield 66, 3) := by decide +kernel
theorem dX6_pass_219 : decode cX6_pass 219 = .ok (.iload_n 2, 1) := by decide +kernel
theorem dX6_pass_220 : decode cX6_pass 220 = .ok (.iaload, 1) := by decide +kernel
theorem dX6_pass_221 : decode cX6_pass 221 = .ok (.aload_n 0, 1) := by decide +kernel
theorem dX6_pass_222 : decode cX6_pass 222 = .ok (.getfield 83, 3) := by decide +kernel
theorem dX6_pass_225 : decode cX6_pass 225 = .ok (.if_icmp .ne 8, 3) := by decide +kernel
theorem dX6_pass_228 : decode cX6_pass 228 = .ok (.aload_n 0, 1) := by decide +kernel
theorem dX6_pass_229 : decode cX6_pass 229 = .ok (.iload_n 2, 1) := by decide +kernel
theorem dX6_pass_230 : decode cX6_pass 230 = .ok (.invokevirtual 119, 3) := by decide +kernel
theorem dX6_pass_233 : decode cX6_pass 233 = .ok (.iinc 2 1, 3) := by decide +kernel
theorem dX6_pass_236 : decode cX6_pass 236 = .ok (.goto (-38), 3) := by decide +kernel
theorem dX6_pass_239 : decode cX6_pass 239 = .ok (.iconst 0, 1) := by decide +kernel
theorem dX6_pass_240 : decode cX6_pass 240 = .ok (.istore_n 2, 1) := by decide +kernel
theorem dX6_pass_241 : decode cX6_pass 241 = .ok (.iload_n 2, 1) := by decide +kernel
theorem dX6_pass_242 : decode cX6_pass 242 = .ok (.aload_n 0, 1) := by decide +kernel
theorem dX6_pass_243 : decode cX6_pass 243 = .ok (.getfield 89, 3) := by decide +kernel
theorem dX6_pass_246 : decode cX6_pass 246 = .ok (.if_icmp .ge 32, 3) := by decide +kernel
theorem dX6_pass_249 : decode cX6_pass 249 = .ok (.aload_n 0, 1) := by decide +kernel
theorem dX6_pass_250 : decode cX6_pass 250 = .ok (.getfield 83, 3) := by decide +kernel
theorem dX6_pass_253 : decode cX6_pass 253 = .ok (.bipush 30, 2) := by decide +kernel
theorem dX6_pass_255 : decode cX6_pass 255 = .ok (.irem, 1) := by decide +kernel
theorem dX6_pass_256 : decode cX6_pass 256 = .ok (.ifCond .ne 22, 3) := by decide +kernel
theorem dX6_pass_259 : decode cX6_pass 259 = .ok (.aload_n 0, 1) := by decide +kernel
theorem dX6_pass_260 : decode cX6_pass 260 = .ok (.iload_n 2, 1) := by decide +kernel
theorem dX6_pass_261 : decode cX6_pass 261 = .ok (.invokevirtual 105, 3) := by decide +kernel
theorem dX6_pass_264 : decode cX6_pass 264 = .ok (.ifCond .eq 8, 3) := by decide +kernel
theorem dX6_pass_267 : decode cX6_pass 267 = .ok (.aload_n 0, 1) := by decide +kernel
theorem dX6_pass_268 : decode cX6_pass 268 = .ok (.iload_n 2, 1) := by decide +kernel
theorem dX6_pass_269 : decode cX6_pass 269 = .ok (.invokevirtual 123, 3) := by decide +kernel
theorem dX6_pass_272 : decode cX6_pass 272 = .ok (.iinc 2 1, 3) := by decide +kernel
theorem dX6_pass_275 : decode cX6_pass 275 = .ok (.goto (-34), 3) := by decide +kernel
theorem dX6_pass_278 : decode cX6_pass 278 = .ok (.iload_n 1, 1) := by decide +kernel
theorem dX6_pass_279 : decode cX6_pass 279 = .ok (.ireturn, 1) := by decide +kernel
theorem dX6_collect_0 : decode cX6_collect 0 = .ok (.aload_n 0, 1) := by decide +kernel
theorem dX6_collect_1 : decode cX6_collect 1 = .ok (.getfield 57, 3) := by decide +kernel
theorem dX6_collect_4 : decode cX6_collect 4 = .ok (.iload_n 1, 1) := by decide +kernel
theorem dX6_collect_5 : decode cX6_collect 5 = .ok (.iaload, 1) := by decide +kernel
theorem dX6_collect_6 : decode cX6_collect 6 = .ok (.istore_n 2, 1) := by decide +kernel
theorem dX6_collect_7 : decode cX6_collect 7 = .ok (.aload_n 0, 1) := by decide +kernel
theorem dX6_collect_8 : decode cX6_collect 8 = .ok (.getfield 60, 3) := by decide +kernel
theorem dX6_collect_11 : decode cX6_collect 11 = .ok (.iload_n 1, 1) := by decide +kernel
theorem dX6_collect_12 : decode cX6_collect 12 = .ok (.iaload, 1) := by decide +kernel
theorem dX6_collect_13 : decode cX6_collect 13 = .ok (.aload_n 0, 1) := by decide +kernel
theorem dX6_collect_14 : decode cX6_collect 14 = .ok (.getfield 15, 3) := by decide +kernel
theorem dX6_collect_17 : decode cX6_collect 17 = .ok (.iload_n 2, 1) := by decide +kernel
theorem dX6_collect_18 : decode cX6_collect 18 = .ok (.iaload, 1) := by decide +kernel
theorem dX6_collect_19 : decode cX6_collect 19 = .ok (.invokestatic 114, 3) := by decide +kernel
theorem dX6_collect_22 : decode cX6_collect 22 = .ok (.istore_n 3, 1) := by decide +kernel
theorem dX6_collect_23 : decode cX6_collect 23 = .ok (.aload_n 0, 1) := by decide +kernel
theorem dX6_collect_24 : decode cX6_collect 24 = .ok (.getfield 15, 3) := by decide +kernel
theorem dX6_collect_27 : decode cX6_collect 27 = .ok (.iload_n 2, 1) := by decide +kernel
theorem dX6_collect_28 : decode cX6_collect 28 = .ok (.dup2, 1) := by decide +kernel
theorem dX6_collect_29 : decode cX6_collect 29 = .ok (.iaload, 1) := by decide +kernel
theorem dX6_collect_30 : decode cX6_collect 30 = .ok (.iload_n 3, 1) := by decide +kernel
theorem dX6_collect_31 : decode cX6_collect 31 = .ok (.isub, 1) := by decide +kernel
theorem dX6_collect_32 : decode cX6_collect 32 = .ok (.iastore, 1) := by decide +kernel
theorem dX6_collect_33 : decode cX6_collect 33 = .ok (.iconst 0, 1) := by decide +kernel
theorem dX6_collect_34 : decode cX6_collect 34 = .ok (.istore 4, 2) := by decide +kernel
theorem dX6_collect_36 : decode cX6_collect 36 = .ok (.iload 4, 2) := by decide +kernel
theorem dX6_collect_38 : decode cX6_collect 38 = .ok (.iconst 2, 1) := by decide +kernel
theorem dX6_collect_39 : decode cX6_collect 39 = .ok (.aload_n 0, 1) := by decide +kernel
theorem dX6_collect_40 : decode cX6_collect 40 = .ok (.getfield 89, 3) := by decide +kernel
theorem dX6_collect_43 : decode cX6_collect 43 = .ok (.imul, 1) := by decide +kernel
theorem dX6_collect_44 : decode cX6_collect 44 = .ok (.if_icmp .ge 73, 3) := by decide +kernel
theorem dX6_collect_47 : decode cX6_collect 47 = .ok (.aload_n 0, 1) := by decide +kernel
theorem dX6_collect_48 : decode cX6_collect 48 = .ok (.iload 4, 2) := by decide +kernel
theorem dX6_collect_50 : decode cX6_collect 50 = .ok (.iconst 2, 1) := by decide +kernel
theorem dX6_collect_51 : decode cX6_collect 51 = .ok (.idiv, 1) := by decide +kernel
theorem dX6_collect_52 : decode cX6_collect 52 = .ok (.invokevirtual 105, 3) := by decide +kernel
theorem dX6_collect_55 : decode cX6_collect 55 = .ok (.ifCond .eq 56, 3) := by decide +kernel
theorem dX6_collect_58 : decode cX6_collect 58 = .ok (.aload_n 0, 1) := by decide +kernel
theorem dX6_collect_59 : decode cX6_collect 59 = .ok (.getfield 27, 3) := by decide +kernel
theorem dX6_collect_62 : decode cX6_collect 62 = .ok (.iload 4, 2) := by decide +kernel
theorem dX6_collect_64 : decode cX6_collect 64 = .ok (.iaload, 1) := by decide +kernel
theorem dX6_collect_65 : decode cX6_collect 65 = .ok (.iload_n 2, 1) := by decide +kernel
theorem dX6_collect_66 : decode cX6_collect 66 = .ok (.if_icmp .eq 6, 3) := by decide +kernel
theorem dX6_collect_69 : decode cX6_collect 69 = .ok (.goto 42, 3) := by decide +kernel
theorem dX6_collect_72 : decode cX6_collect 72 = .ok (.aload_n 0, 1) := by decide +kernel
theorem dX6_collect_73 : decode cX6_collect 73 = .ok (.getfield 60, 3) := by decide +kernel
theorem dX6_collect_76 : decode cX6_collect 76 = .ok (.iload_n 1, 1) := by decide +kernel
theorem dX6_collect_77 : decode cX6_collect 77 = .ok (.iaload, 1) := by decide +kernel
theorem dX6_collect_78 : decode cX6_collect 78 = .ok (.iload_n 3, 1) := by decide +kernel
theorem dX6_collect_79 : decode cX6_collect 79 = .ok (.isub, 1) := by decide +kernel
theorem dX6_collect_80 : decode cX6_collect 80 = .ok (.aload_n 0, 1) := by decide +kernel
theorem dX6_collect_81 : decode cX6_collect 81 = .ok (.getfield 30, 3) := by decide +kernel
theorem dX6_collect_84 : decode cX6_collect 84 = .ok (.iload 4, 2) := by decide +kernel
theorem dX6_collect_86 : decode cX6_collect 86 = .ok (.iaload, 1) := by decide +kernel
theorem dX6_collect_87 : decode cX6_collect 87 = .ok (.iconst 1, 1) := by decide +kernel
theorem dX6_collect_88 : decode cX6_collect 88 = .ok (.isub, 1) := by decide +kernel
theorem dX6_collect_89 : decode cX6_collect 89 = .ok (.invokestatic 114, 3) := by decide +kernel
theorem dX6_collect_92 : decode cX6_collect 92 = .ok (.istore 5, 2) := by decide +kernel
theorem dX6_collect_94 : decode cX6_collect 94 = .ok (.aload_n 0, 1) := by decide +kernel
theorem dX6_collect_95 : decode cX6_collect 95 = .ok (.getfield 30, 3) := by decide +kernel
theorem dX6_collect_98 : decode cX6_collect 98 = .ok (.iload 4, 2) := by decide +kernel
theorem dX6_collect_100 : decode cX6_collect 100 = .ok (.dup2, 1) := by decide +kernel
theorem dX6_collect_101 : decode cX6_collect 101 = .ok (.iaload, 1) := by decide +kernel
theorem dX6_collect_102 : decode cX6_collect 102 = .ok (.iload 5, 2) := by decide +kernel
theorem dX6_collect_104 : decode cX6_collect 104 = .ok (.isub, 1) := by decide +kernel
theorem dX6_collect_105 : decode cX6_collect 105 = .ok (.iastore, 1) := by decide +kernel
theorem dX6_collect_106 : decode cX6_collect 106 = .ok (.iload_n 3, 1) := by decide +kernel
theorem dX6_collect_107 : decode cX6_collect 107 = .ok (.iload 5, 2) := by decide +kernel
theorem dX6_collect_109 : decode cX6_collect 109 = .ok (.iadd, 1) := by decide +kernel
theorem dX6_collect_110 : decode cX6_collect 110 = .ok (.istore_n 3, 1) := by decide +kernel
theorem dX6_collect_111 : decode cX6_collect 111 = .ok (.iinc 4 1, 3) := by decide +kernel
theorem dX6_collect_114 : decode cX6_collect 114 = .ok (.goto (-78), 3) := by decide +kernel
theorem dX6_collect_117 : decode cX6_collect 117 = .ok (.aload_n 0, 1) := by decide +kernel
theorem dX6_collect_118 : decode cX6_collect 118 = .ok (.getfield 60, 3) := by decide +kernel
theorem dX6_collect_121 : decode cX6_collect 121 = .ok (.iload_n 1, 1) := by decide +kernel
theorem dX6_collect_122 : decode cX6_collect 122 = .ok (.dup2, 1) := by decide +kernel
theorem dX6_collect_123 : decode cX6_collect 123 = .ok (.iaload, 1) := by decide +kernel
theorem dX6_collect_124 : decode cX6_collect 124 = .ok (.iload_n 3, 1) := by decide +kernel
theorem dX6_collect_125 : decode cX6_collect 125 = .ok (.isub, 1) := by decide +kernel
theorem dX6_collect_126 : decode cX6_collect 126 = .ok (.iastore, 1) := by decide +kernel
theorem dX6_collect_127 : decode cX6_collect 127 = .ok (.aload_n 0, 1) := by decide +kernel
theorem dX6_collect_128 : decode cX6_collect 128 = .ok (.iload_n 3, 1) := by decide +kernel
theorem dX6_collect_129 : decode cX6_collect 129 = .ok (.invokevirtual 126, 3) := by decide +kernel
theorem dX6_collect_132 : decode cX6_collect 132 = .ok (.aload_n 0, 1) := by decide +kernel
theorem dX6_collect_133 : decode cX6_collect 133 = .ok (.getfield 69, 3) := by decide +kernel
theorem dX6_collect_136 : decode cX6_collect 136 = .ok (.iload_n 1, 1) := by decide +kernel
theorem dX6_collect_137 : decode cX6_collect 137 = .ok (.aload_n 0, 1) := by decide +kernel
theorem dX6_collect_138 : decode cX6_collect 138 = .ok (.getfield 60, 3) := by decide +kernel
theorem dX6_collect_141 : decode cX6_collect 141 = .ok (.iload_n 1, 1) := by decide +kernel
theorem dX6_collect_142 : decode cX6_collect 142 = .ok (.iaload, 1) := by decide +kernel
theorem dX6_collect_143 : decode cX6_collect 143 = .ok (.ifCond .ne 7, 3) := by decide +kernel
theorem dX6_collect_146 : decode cX6_collect 146 = .ok (.iconst 1, 1) := by decide +kernel
theorem dX6_collect_147 : decode cX6_collect 147 = .ok (.goto 4, 3) := by decide +kernel
theorem dX6_collect_150 : decode cX6_collect 150 = .ok (.iconst 2, 1) := by decide +kernel
theorem dX6_collect_151 : decode cX6_collect 151 = .ok (.iastore, 1) := by decide +kernel
theorem dX6_collect_152 : decode cX6_collect 152 = .ok (.return_, 1) := by decide +kernel
theorem dX6_look_0 : decode cX6_look 0 = .ok (.iconst 0, 1) := by decide +kernel
theorem dX6_look_1 : decode cX6_look 1 = .ok (.istore_n 2, 1) := by decide +kernel
theorem dX6_look_2 : decode cX6_look 2 = .ok (.iload_n 2, 1) := by decide +kernel
theorem dX6_look_3 : decode cX6_look 3 = .ok (.iconst 2, 1) := by decide +kernel
theorem dX6_look_4 : decode cX6_look 4 = .ok (.if_icmp .ge 110, 3) := by decide +kernel
theorem dX6_look_7 : decode cX6_look 7 = .ok (.iconst 2, 1) := by decide +kernel
theorem dX6_look_8 : decode cX6_look 8 = .ok (.iload_n 1, 1) := by decide +kernel
theorem dX6_look_9 : decode cX6_look 9 = .ok (.imul, 1) := by decide +kernel
theorem dX6_look_10 : decode cX6_look 10 = .ok (.iload_n 2, 1) := by decide +kernel
theorem dX6_look_11 : decode cX6_look 11 = .ok (.iadd, 1) := by decide +kernel
theorem dX6_look_12 : decode cX6_look 12 = .ok (.istore_n 3, 1) := by decide +kernel
theorem dX6_look_13 : decode cX6_look 13 = .ok (.aload_n 0, 1) := by decide +kernel
theorem dX6_look_14 : decode cX6_look 14 = .ok (.getfield 33, 3) := by decide +kernel
theorem dX6_look_17 : decode cX6_look 17 = .ok (.iload_n 3, 1) := by decide +kernel
theorem dX6_look_18 : decode cX6_look 18 = .ok (.iaload, 1) := by decide +kernel
theorem dX6_look_19 : decode cX6_look 19 = .ok (.bipush 15, 2) := by decide +kernel
theorem dX6_look_21 : decode cX6_look 21 = .ok (.if_icmp .ge 16, 3) := by decide +kernel
theorem dX6_look_24 : decode cX6_look 24 = .ok (.aload_n 0, 1) := by decide +kernel
theorem dX6_look_25 : decode cX6_look 25 = .ok (.getfield 33, 3) := by decide +kernel
theorem dX6_look_28 : decode cX6_look 28 = .ok (.iload_n 3, 1) := by decide +kernel
theorem dX6_look_29 : decode cX6_look 29 = .ok (.dup2, 1) := by decide +kernel
theorem dX6_look_30 : decode cX6_look 30 = .ok (.iaload, 1) := by decide +kernel
theorem dX6_look_31 : decode cX6_look 31 = .ok (.iconst 2, 1) := by decide +kernel
theorem dX6_look_32 : decode cX6_look 32 = .ok (.idiv, 1) := by decide +kernel
theorem dX6_look_33 : decode cX6_look 33 = .ok (.iastore, 1) := by decide +kernel
theorem dX6_look_34 : decode cX6_look 34 = .ok (.goto 74, 3) := by decide +kernel
theorem dX6_look_37 : decode cX6_look 37 = .ok (.iconst 2, 1) := by decide +kernel
theorem dX6_look_38 : decode cX6_look 38 = .ok (.aload_n 0, 1) := by decide +kernel
theorem dX6_look_39 : decode cX6_look 39 = .ok (.getfield 33, 3) := by decide +kernel
theorem dX6_look_42 : decode cX6_look 42 = .ok (.iload_n 3, 1) := by decide +kernel
theorem dX6_look_43 : decode cX6_look 43 = .ok (.iaload, 1) := by decide +kernel
theorem dX6_look_44 : decode cX6_look 44 = .ok (.imul, 1) := by decide +kernel
theorem dX6_look_45 : decode cX6_look 45 = .ok (.aload_n 0, 1) := by decide +kernel
theorem dX6_look_46 : decode cX6_look 46 = .ok (.getfield 30, 3) := by decide +kernel
theorem dX6_look_49 : decode cX6_look 49 = .ok (.iload_n 3, 1) := by decide +kernel
theorem dX6_look_50 : decode cX6_look 50 = .ok (.iaload, 1) := by decide +kernel
theorem dX6_look_51 : decode cX6_look 51 = .ok (.iconst 1, 1) := by decide +kernel
theorem dX6_look_52 : decode cX6_look 52 = .ok (.isub, 1) := by decide +kernel
theorem dX6_look_53 : decode cX6_look 53 = .ok (.invokestatic 114, 3) := by decide +kernel
theorem dX6_look_56 : decode cX6_look 56 = .ok (.istore 4, 2) := by decide +kernel
theorem dX6_look_58 : decode cX6_look 58 = .ok (.aload_n 0, 1) := by decide +kernel
theorem dX6_look_59 : decode cX6_look 59 = .ok (.getfield 30, 3) := by decide +kernel
theorem dX6_look_62 : decode cX6_look 62 = .ok (.iload_n 3, 1) := by decide +kernel
theorem dX6_look_63 : decode cX6_look 63 = .ok (.dup2, 1) := by decide +kernel
theorem dX6_look_64 : decode cX6_look 64 = .ok (.iaload, 1) := by decide +kernel
theorem dX6_look_65 : decode cX6_look 65 = .ok (.iload 4, 2) := by decide +kernel
theorem dX6_look_67 : decode cX6_look 67 = .ok (.isub, 1) := by decide +kernel
theorem dX6_look_68 : decode cX6_look 68 = .ok (.iastore, 1) := by decide +kernel
theorem dX6_look_69 : decode cX6_look 69 = .ok (.aload_n 0, 1) := by decide +kernel
theorem dX6_look_70 : decode cX6_look 70 = .ok (.getfield 30, 3) := by decide +kernel
theorem dX6_look_73 : decode cX6_look 73 = .ok (.iconst 2, 1) := by decide +kernel
theorem dX6_look_74 : decode cX6_look 74 = .ok (.iload_n 1, 1) := by decide +kernel
theorem dX6_look_75 : decode cX6_look 75 = .ok (.imul, 1) := by decide +kernel
theorem dX6_look_76 : decode cX6_look 76 = .ok (.iconst 1, 1) := by decide +kernel
theorem dX6_look_77 : decode cX6_look 77 = .ok (.iadd, 1) := by decide +kernel
theorem dX6_look_78 : decode cX6_look 78 = .ok (.iload_n 2, 1) := by decide +kernel
theorem dX6_look_79 : decode cX6_look 79 = .ok (.isub, 1) := by decide +kernel
theorem dX6_look_80 : decode cX6_look 80 = .ok (.dup2, 1) := by decide +kernel
theorem dX6_look_81 : decode cX6_look 81 = .ok (.iaload, 1) := by decide +kernel
theorem dX6_look_82 : decode cX6_look 82 = .ok (.iload 4, 2) := by decide +kernel
theorem dX6_look_84 : decode cX6_look 84 = .ok (.iadd, 1) := by decide +kernel
theorem dX6_look_85 : decode cX6_look 85 = .ok (.iastore, 1) := by decide +kernel
theorem dX6_look_86 : decode cX6_look 86 = .ok (.aload_n 0, 1) := by decide +kernel
theorem dX6_look_87 : decode cX6_look 87 = .ok (.getfield 33, 3) := by decide +kernel
theorem dX6_look_90 : decode cX6_look 90 = .ok (.iload_n 3, 1) := by decide +kernel
theorem dX6_look_91 : decode cX6_look 91 = .ok (.iconst 0, 1) := by decide +kernel
theorem dX6_look_92 : decode cX6_look 92 = .ok (.iastore, 1) := by decide +kernel
theorem dX6_look_93 : decode cX6_look 93 = .ok (.aload_n 0, 1) := by decide +kernel
theorem dX6_look_94 : decode cX6_look 94 = .ok (.getfield 24, 3) := by decide +kernel
theorem dX6_look_97 : decode cX6_look 97 = .ok (.aload_n 0, 1) := by decide +kernel
theorem dX6_look_98 : decode cX6_look 98 = .ok (.getfield 27, 3) := by decide +kernel
theorem dX6_look_101 : decode cX6_look 101 = .ok (.iload_n 3, 1) := by decide +kernel
theorem dX6_look_102 : decode cX6_look 102 = .ok (.iaload, 1) := by decide +kernel
theorem dX6_look_103 : decode cX6_look 103 = .ok (.dup2, 1) := by decide +kernel
theorem dX6_look_104 : decode cX6_look 104 = .ok (.iaload, 1) := by decide +kernel
theorem dX6_look_105 : decode cX6_look 105 = .ok (.iconst 1, 1) := by decide +kernel
theorem dX6_look_106 : decode cX6_look 106 = .ok (.iadd, 1) := by decide +kernel
theorem dX6_look_107 : decode cX6_look 107 = .ok (.iastore, 1) := by decide +kernel
theorem dX6_look_108 : decode cX6_look 108 = .ok (.iinc 2 1, 3) := by decide +kernel
theorem dX6_look_111 : decode cX6_look 111 = .ok (.goto (-109), 3) := by decide +kernel
theorem dX6_look_114 : decode cX6_look 114 = .ok (.return_, 1) := by decide +kernel
theorem dX6_price_0 : decode cX6_price 0 = .ok (.iconst 3, 1) := by decide +kernel
theorem dX6_price_1 : decode cX6_price 1 = .ok (.iconst 0, 1) := by decide +kernel
theorem dX6_price_2 : decode cX6_price 2 = .ok (.aload_n 0, 1) := by decide +kernel
theorem dX6_price_3 : decode cX6_price 3 = .ok (.getfield 98, 3) := by decide +kernel
theorem dX6_price_6 : decode cX6_price 6 = .ok (.invokestatic 129, 3) := by decide +kernel
theorem dX6_price_9 : decode cX6_price 9 = .ok (.sipush 1000, 3) := by decide +kernel
theorem dX6_price_12 : decode cX6_price 12 = .ok (.idiv, 1) := by decide +kernel
theorem dX6_price_13 : decode cX6_price 13 = .ok (.iadd, 1) := by decide +kernel
theorem dX6_price_14 : decode cX6_price 14 = .ok (.ireturn, 1) := by decide +kernel
theorem dX6_bad_0 : decode cX6_bad 0 = .ok (.iconst 0, 1) := by decide +kernel
theorem dX6_bad_1 : decode cX6_bad 1 = .ok (.istore_n 1, 1) := by decide +kernel
theorem dX6_bad_2 : decode cX6_bad 2 = .ok (.iconst 0, 1) := by decide +kernel
theorem dX6_bad_3 : decode cX6_bad 3 = .ok (.istore_n 2, 1) := by decide +kernel
theorem dX6_bad_4 : decode cX6_bad 4 = .ok (.iload_n 2, 1) := by decide +kernel
theorem dX6_bad_5 : decode cX6_bad 5 = .ok (.aload_n 0, 1) := by decide +kernel
theorem dX6_bad_6 : decode cX6_bad 6 = .ok (.getfield 92, 3) := by decide +kernel
theorem dX6_bad_9 : decode cX6_bad 9 = .ok (.if_icmp .ge 27, 3) := by decide +kernel
theorem dX6_bad_12 : decode cX6_bad 12 = .ok (.iload_n 1, 1) := by decide +kernel
theorem dX6_bad_13 : decode cX6_bad 13 = .ok (.aload_n 0, 1) := by decide +kernel
theorem dX6_bad_14 : decode cX6_bad 14 = .ok (.getfield 69, 3) := by decide +kernel
theorem dX6_bad_17 : decode cX6_bad 17 = .ok (.iload_n 2, 1) := by decide +kernel
theorem dX6_bad_18 : decode cX6_bad 18 = .ok (.iaload, 1) := by decide +kernel
theorem dX6_bad_19 : decode cX6_bad 19 = .ok (.iconst 2, 1) := by decide +kernel
theorem dX6_bad_20 : decode cX6_bad 20 = .ok (.if_icmp .ne 7, 3) := by decide +kernel
theorem dX6_bad_23 : decode cX6_bad 23 = .ok (.iconst 1, 1) := by decide +kernel
theorem dX6_bad_24 : decode cX6_bad 24 = .ok (.goto 4, 3) := by decide +kernel
theorem dX6_bad_27 : decode cX6_bad 27 = .ok (.iconst 0, 1) := by decide +kernel
theorem dX6_bad_28 : decode cX6_bad 28 = .ok (.iadd, 1) := by decide +kernel
theorem dX6_bad_29 : decode cX6_bad 29 = .ok (.istore_n 1, 1) := by decide +kernel
theorem dX6_bad_30 : decode cX6_bad 30 = .ok (.iinc 2 1, 3) := by decide +kernel
theorem dX6_bad_33 : decode cX6_bad 33 = .ok (.goto (-29), 3) := by decide +kernel
theorem dX6_bad_36 : decode cX6_bad 36 = .ok (.iload_n 1, 1) := by decide +kernel
theorem dX6_bad_37 : decode cX6_bad 37 = .ok (.ireturn, 1) := by decide +kernel
theorem dX7_init_0 : decode cX7_init 0 = .ok (.aload_n 0, 1) := by decide +kernel
theorem dX7_init_1 : decode cX7_init 1 = .ok (.invokespecial 1, 3) := by decide +kernel
theorem dX7_init_4 : decode cX7_init 4 = .ok (.aload_n 0, 1) := by decide +kernel
theorem dX7_init_5 : decode cX7_init 5 = .ok (.new 7, 3) := by decide +kernel
theorem dX7_init_8 : decode cX7_init 8 = .ok (.dup, 1) := by decide +kernel
theorem dX7_init_9 : decode cX7_init 9 = .ok (.invokespecial 9, 3) := by decide +kernel
theorem dX7_init_12 : decode cX7_init 12 = .ok (.putfield 10, 3) := by decide +kernel
theorem dX7_init_15 : decode cX7_init 15 = .ok (.aload_n 0, 1) := by decide +kernel
theorem dX7_init_16 : decode cX7_init 16 = .ok (.new 7, 3) := by decide +kernel
theorem dX7_init_19 : decode cX7_init 19 = .ok (.dup, 1) := by decide +kernel
theorem dX7_init_20 : decode cX7_init 20 = .ok (.invokespecial 9, 3) := by decide +kernel
theorem dX7_init_23 : decode cX7_init 23 = .ok (.putfield 16, 3) := by decide +kernel
theorem dX7_init_26 : decode cX7_init 26 = .ok (.return_, 1) := by decide +kernel
theorem dX7_thrown_0 : decode cX7_thrown 0 = .ok (.aload_n 0, 1) := by decide +kernel
theorem dX7_thrown_1 : decode cX7_thrown 1 = .ok (.getfield 19, 3) := by decide +kernel
theorem dX7_thrown_4 : decode cX7_thrown 4 = .ok (.ireturn, 1) := by decide +kernel
theorem dX7_no_0 : decode cX7_no 0 = .ok (.aload_n 0, 1) := by decide +kernel
theorem dX7_no_1 : decode cX7_no 1 = .ok (.iload_n 1, 1) := by decide +kernel
theorem dX7_no_2 : decode cX7_no 2 = .ok (.putfield 19, 3) := by decide +kernel
theorem dX7_no_5 : decode cX7_no 5 = .ok (.iconst 0, 1) := by decide +kernel
theorem dX7_no_6 : decode cX7_no 6 = .ok (.ireturn, 1) := by decide +kernel
theorem dX7_isIn_0 : decode cX7_isIn 0 = .ok (.iload_n 0, 1) := by decide +kernel
theorem dX7_isIn_1 : decode cX7_isIn 1 = .ok (.iload_n 1, 1) := by decide +kernel
theorem dX7_isIn_2 : decode cX7_isIn 2 = .ok (.if_icmp .lt 12, 3) := by decide +kernel
theorem dX7_isIn_5 : decode cX7_isIn 5 = .ok (.iload_n 0, 1) := by decide +kernel
theorem dX7_isIn_6 : decode cX7_isIn 6 = .ok (.iload_n 2, 1) := by decide +kernel
theorem dX7_isIn_7 : decode cX7_isIn 7 = .ok (.if_icmp .gt 7, 3) := by decide +kernel
theorem dX7_isIn_10 : decode cX7_isIn 10 = .ok (.iconst 1, 1) := by decide +kernel
theorem dX7_isIn_11 : decode cX7_isIn 11 = .ok (.goto 4, 3) := by decide +kernel
theorem dX7_isIn_14 : decode cX7_isIn 14 = .ok (.iconst 0, 1) := by decide +kernel
theorem dX7_isIn_15 : decode cX7_isIn 15 = .ok (.ireturn, 1) := by decide +kernel
theorem dX7_addPlayer_0 : decode cX7_addPlayer 0 = .ok (.aload_n 0, 1) := by decide +kernel
theorem dX7_addPlayer_1 : decode cX7_addPlayer 1 = .ok (.iconst 0, 1) := by decide +kernel
theorem dX7_addPlayer_2 : decode cX7_addPlayer 2 = .ok (.putfield 19, 3) := by decide +kernel
theorem dX7_addPlayer_5 : decode cX7_addPlayer 5 = .ok (.iload_n 1, 1) := by decide +kernel
theorem dX7_addPlayer_6 : decode cX7_addPlayer 6 = .ok (.iconst 0, 1) := by decide +kernel
theorem dX7_addPlayer_7 : decode cX7_addPlayer 7 = .ok (.ldc 23, 2) := by decide +kernel
theorem dX7_addPlayer_9 : decode cX7_addPlayer 9 = .ok (.invokestatic 24, 3) := by decide +kernel
theorem dX7_addPlayer_12 : decode cX7_addPlayer 12 = .ok (.ifCond .ne 9, 3) := by decide +kernel
theorem dX7_addPlayer_15 : decode cX7_addPlayer 15 = .ok (.aload_n 0, 1) := by decide +kernel
theorem dX7_addPlayer_16 : decode cX7_addPlayer 16 = .ok (.iconst 1, 1) := by decide +kernel
theorem dX7_addPlayer_17 : decode cX7_addPlayer 17 = .ok (.invokevirtual 28, 3) := by decide +kernel
theorem dX7_addPlayer_20 : decode cX7_addPlayer 20 = .ok (.ireturn, 1) := by decide +kernel
theorem dX7_addPlayer_21 : decode cX7_addPlayer 21 = .ok (.aload_n 0, 1) := by decide +kernel
theorem dX7_addPlayer_22 : decode cX7_addPlayer 22 = .ok (.getfield 10, 3) := by decide +kernel
theorem dX7_addPlayer_25 : decode cX7_addPlayer 25 = .ok (.getfield 32, 3) := by decide +kernel
theorem dX7_addPlayer_28 : decode cX7_addPlayer 28 = .ok (.bipush 8, 2) := by decide +kernel
theorem dX7_addPlayer_30 : decode cX7_addPlayer 30 = .ok (.if_icmp .ne 9, 3) := by decide +kernel
theorem dX7_addPlayer_33 : decode cX7_addPlayer 33 = .ok (.aload_n 0, 1) := by decide +kernel
theorem dX7_addPlayer_34 : decode cX7_addPlayer 34 = .ok (.iconst 2, 1) := by decide +kernel
theorem dX7_addPlayer_35 : decode cX7_addPlayer 35 = .ok (.invokevirtual 28, 3) := by decide +kernel
theorem dX7_addPlayer_38 : decode cX7_addPlayer 38 = .ok (.ireturn, 1) := by decide +kernel
theorem dX7_addPlayer_39 : decode cX7_addPlayer 39 = .ok (.aload_n 0, 1) := by decide +kernel
theorem dX7_addPlayer_40 : decode cX7_addPlayer 40 = .ok (.getfield 10, 3) := by decide +kernel
theorem dX7_addPlayer_43 : decode cX7_addPlayer 43 = .ok (.getfield 35, 3) := by decide +kernel
theorem dX7_addPlayer_46 : decode cX7_addPlayer 46 = .ok (.aload_n 0, 1) := by decide +kernel
theorem dX7_addPlayer_47 : decode cX7_addPlayer 47 = .ok (.getfield 10, 3) := by decide +kernel
theorem dX7_addPlayer_50 : decode cX7_addPlayer 50 = .ok (.getfield 32, 3) := by decide +kernel
theorem dX7_addPlayer_53 : decode cX7_addPlayer 53 = .ok (.iload_n 1, 1) := by decide +kernel
theorem dX7_addPlayer_54 : decode cX7_addPlayer 54 = .ok (.iastore, 1) := by decide +kernel
theorem dX7_addPlayer_55 : decode cX7_addPlayer 55 = .ok (.aload_n 0, 1) := by decide +kernel
theorem dX7_addPlayer_56 : decode cX7_addPlayer 56 = .ok (.getfield 10, 3) := by decide +kernel
theorem dX7_addPlayer_59 : decode cX7_addPlayer 59 = .ok (.dup, 1) := by decide +kernel
theorem dX7_addPlayer_60 : decode cX7_addPlayer 60 = .ok (.getfield 32, 3) := by decide +kernel
theorem dX7_addPlayer_63 : decode cX7_addPlayer 63 = .ok (.iconst 1, 1) := by decide +kernel
theorem dX7_addPlayer_64 : decode cX7_addPlayer 64 = .ok (.iadd, 1) := by decide +kernel
theorem dX7_addPlayer_65 : decode cX7_addPlayer 65 = .ok (.putfield 32, 3) := by decide +kernel
theorem dX7_addPlayer_68 : decode cX7_addPlayer 68 = .ok (.aload_n 0, 1) := by decide +kernel
theorem dX7_addPlayer_69 : decode cX7_addPlayer 69 = .ok (.getfield 10, 3) := by decide +kernel
theorem dX7_addPlayer_72 : decode cX7_addPlayer 72 = .ok (.getfield 32, 3) := by decide +kernel
theorem dX7_addPlayer_75 : decode cX7_addPlayer 75 = .ok (.iconst 1, 1) := by decide +kernel
theorem dX7_addPlayer_76 : decode cX7_addPlayer 76 = .ok (.isub, 1) := by decide +kernel
theorem dX7_addPlayer_77 : decode cX7_addPlayer 77 = .ok (.ireturn, 1) := by decide +kernel
theorem dX7_isPlayer_0 : decode cX7_isPlayer 0 = .ok (.iload_n 1, 1) := by decide +kernel
theorem dX7_isPlayer_1 : decode cX7_isPlayer 1 = .ok (.iconst 0, 1) := by decide +kernel
theorem dX7_isPlayer_2 : decode cX7_isPlayer 2 = .ok (.aload_n 0, 1) := by decide +kernel
theorem dX7_isPlayer_3 : decode cX7_isPlayer 3 = .ok (.getfield 10, 3) := by decide +kernel
theorem dX7_isPlayer_6 : decode cX7_isPlayer 6 = .ok (.getfield 32, 3) := by decide +kernel
theorem dX7_isPlayer_9 : decode cX7_isPlayer 9 = .ok (.iconst 1, 1) := by decide +kernel
theorem dX7_isPlayer_10 : decode cX7_isPlayer 10 = .ok (.isub, 1) := by decide +kernel
theorem dX7_isPlayer_11 : decode cX7_isPlayer 11 = .ok (.invokestatic 24, 3) := by decide +kernel
theorem dX7_isPlayer_14 : decode cX7_isPlayer 14 = .ok (.ireturn, 1) := by decide +kernel
theorem dX7_loansOf_0 : decode cX7_loansOf 0 = .ok (.iconst 0, 1) := by decide +kernel
theorem dX7_loansOf_1 : decode cX7_loansOf 1 = .ok (.istore_n 3, 1) := by decide +kernel
theorem dX7_loansOf_2 : decode cX7_loansOf 2 = .ok (.iconst 0, 1) := by decide +kernel
theorem dX7_loansOf_3 : decode cX7_loansOf 3 = .ok (.istore 4, 2) := by decide +kernel
theorem dX7_loansOf_5 : decode cX7_loansOf 5 = .ok (.iload 4, 2) := by decide +kernel
theorem dX7_loansOf_7 : decode cX7_loansOf 7 = .ok (.aload_n 0, 1) := by decide +kernel
theorem dX7_loansOf_8 : decode cX7_loansOf 8 = .ok (.getfield 10, 3) := by decide +kernel
theorem dX7_loansOf_11 : decode cX7_loansOf 11 = .ok (.getfield 39, 3) := by decide +kernel
theorem dX7_loansOf_14 : decode cX7_loansOf 14 = .ok (.if_icmp .ge 45, 3) := by decide +kernel
theorem dX7_loansOf_17 : decode cX7_loansOf 17 = .ok (.iload_n 3, 1) := by decide +kernel
theorem dX7_loansOf_18 : decode cX7_loansOf 18 = .ok (.aload_n 0, 1) := by decide +kernel
theorem dX7_loansOf_19 : decode cX7_loansOf 19 = .ok (.getfield 10, 3) := by decide +kernel
theorem dX7_loansOf_22 : decode cX7_loansOf 22 = .ok (.getfield 42, 3) := by decide +kernel
theorem dX7_loansOf_25 : decode cX7_loansOf 25 = .ok (.iload 4, 2) := by decide +kernel
theorem dX7_loansOf_27 : decode cX7_loansOf 27 = .ok (.iaload, 1) := by decide +kernel
theorem dX7_loansOf_28 : decode cX7_loansOf 28 = .ok (.iload_n 1, 1) := by decide +kernel
theorem dX7_loansOf_29 : decode cX7_loansOf 29 = .ok (.if_icmp .ne 21, 3) := by decide +kernel
theorem dX7_loansOf_32 : decode cX7_loansOf 32 = .ok (.aload_n 0, 1) := by decide +kernel
theorem dX7_loansOf_33 : decode cX7_loansOf 33 = .ok (.getfield 10, 3) := by decide +kernel
theorem dX7_loansOf_36 : decode cX7_loansOf 36 = .ok (.getfield 45, 3) := by decide +kernel
theorem dX7_loansOf_39 : decode cX7_loansOf 39 = .ok (.iload 4, 2) := by decide +kernel
theorem dX7_loansOf_41 : decode cX7_loansOf 41 = .ok (.iaload, 1) := by decide +kernel
theorem dX7_loansOf_42 : decode cX7_loansOf 42 = .ok (.iload_n 2, 1) := by decide +kernel
theorem dX7_loansOf_43 : decode cX7_loansOf 43 = .ok (.if_icmp .ne 7, 3) := by decide +kernel
theorem dX7_loansOf_46 : decode cX7_loansOf 46 = .ok (.iconst 1, 1) := by decide +kernel
theorem dX7_loansOf_47 : decode cX7_loansOf 47 = .ok (.goto 4, 3) := by decide +kernel
theorem dX7_loansOf_50 : decode cX7_loansOf 50 = .ok (.iconst 0, 1) := by decide +kernel
theorem dX7_loansOf_51 : decode cX7_loansOf 51 = .ok (.iadd, 1) := by decide +kernel
theorem dX7_loansOf_52 : decode cX7_loansOf 52 = .ok (.istore_n 3, 1) := by decide +kernel
theorem dX7_loansOf_53 : decode cX7_loansOf 53 = .ok (.iinc 4 1, 3) := by decide +kernel
theorem dX7_loansOf_56 : decode cX7_loansOf 56 = .ok (.goto (-51), 3) := by decide +kernel
theorem dX7_loansOf_59 : decode cX7_loansOf 59 = .ok (.iload_n 3, 1) := by decide +kernel
theorem dX7_loansOf_60 : decode cX7_loansOf 60 = .ok (.ireturn, 1) := by decide +kernel
theorem dX7_owedBy_0 : decode cX7_owedBy 0 = .ok (.iconst 0, 1) := by decide +kernel
theorem dX7_owedBy_1 : decode cX7_owedBy 1 = .ok (.istore_n 2, 1) := by decide +kernel
theorem dX7_owedBy_2 : decode cX7_owedBy 2 = .ok (.iconst 0, 1) := by decide +kernel
theorem dX7_owedBy_3 : decode cX7_owedBy 3 = .ok (.istore_n 3, 1) := by decide +kernel
theorem dX7_owedBy_4 : decode cX7_owedBy 4 = .ok (.iload_n 3, 1) := by decide +kernel
theorem dX7_owedBy_5 : decode cX7_owedBy 5 = .ok (.aload_n 0, 1) := by decide +kernel
theorem dX7_owedBy_6 : decode cX7_owedBy 6 = .ok (.getfield 10, 3) := by decide +kernel
theorem dX7_owedBy_9 : decode cX7_owedBy 9 = .ok (.getfield 39, 3) := by decide +kernel
theorem dX7_owedBy_12 : decode cX7_owedBy 12 = .ok (.if_icmp .ge 51, 3) := by decide +kernel
theorem dX7_owedBy_15 : decode cX7_owedBy 15 = .ok (.iload_n 2, 1) := by decide +kernel
theorem dX7_owedBy_16 : decode cX7_owedBy 16 = .ok (.aload_n 0, 1) := by decide +kernel
theorem dX7_owedBy_17 : decode cX7_owedBy 17 = .ok (.getfield 10, 3) := by decide +kernel
theorem dX7_owedBy_20 : decode cX7_owedBy 20 = .ok (.getfield 42, 3) := by decide +kernel
theorem dX7_owedBy_23 : decode cX7_owedBy 23 = .ok (.iload_n 3, 1) := by decide +kernel
theorem dX7_owedBy_24 : decode cX7_owedBy 24 = .ok (.iaload, 1) := by decide +kernel
theorem dX7_owedBy_25 : decode cX7_owedBy 25 = .ok (.iload_n 1, 1) := by decide +kernel
theorem dX7_owedBy_26 : decode cX7_owedBy 26 = .ok (.if_icmp .ne 28, 3) := by decide +kernel
theorem dX7_owedBy_29 : decode cX7_owedBy 29 = .ok (.aload_n 0, 1) := by decide +kernel
theorem dX7_owedBy_30 : decode cX7_owedBy 30 = .ok (.getfield 10, 3) := by decide +kernel
theorem dX7_owedBy_33 : decode cX7_owedBy 33 = .ok (.getfield 45, 3) := by decide +kernel
theorem dX7_owedBy_36 : decode cX7_owedBy 36 = .ok (.iload_n 3, 1) := by decide +kernel
theorem dX7_owedBy_37 : decode cX7_owedBy 37 = .ok (.iaload, 1) := by decide +kernel
theorem dX7_owedBy_38 : decode cX7_owedBy 38 = .ok (.iconst 1, 1) := by decide +kernel
theorem dX7_owedBy_39 : decode cX7_owedBy 39 = .ok (.if_icmp .eq 15, 3) := by decide +kernel
theorem dX7_owedBy_42 : decode cX7_owedBy 42 = .ok (.aload_n 0, 1) := by decide +kernel
theorem dX7_owedBy_43 : decode cX7_owedBy 43 = .ok (.getfield 10, 3) := by decide +kernel
theorem dX7_owedBy_46 : decode cX7_owedBy 46 = .ok (.getfield 48, 3) := by decide +kernel
theorem dX7_owedBy_49 : decode cX7_owedBy 49 = .ok (.iload_n 3, 1) := by decide +kernel
theorem dX7_owedBy_50 : decode cX7_owedBy 50 = .ok (.iaload, 1) := by decide +kernel
theorem dX7_owedBy_51 : decode cX7_owedBy 51 = .ok (.goto 4, 3) := by decide +kernel
theorem dX7_owedBy_54 : decode cX7_owedBy 54 = .ok (.iconst 0, 1) := by decide +kernel
theorem dX7_owedBy_55 : decode cX7_owedBy 55 = .ok (.iadd, 1) := by decide +kernel
theorem dX7_owedBy_56 : decode cX7_owedBy 56 = .ok (.istore_n 2, 1) := by decide +kernel
theorem dX7_owedBy_57 : decode cX7_owedBy 57 = .ok (.iinc 3 1, 3) := by decide +kernel
theorem dX7_owedBy_60 : decode cX7_owedBy 60 = .ok (.goto (-56), 3) := by decide +kernel
theorem dX7_owedBy_63 : decode cX7_owedBy 63 = .ok (.iload_n 2, 1) := by decide +kernel
theorem dX7_owedBy_64 : decode cX7_owedBy 64 = .ok (.ireturn, 1) := by decide +kernel
theorem dX7_running_0 : decode cX7_running 0 = .ok (.iconst 0, 1) := by decide +kernel
theorem dX7_running_1 : decode cX7_running 1 = .ok (.istore_n 2, 1) := by decide +kernel
theorem dX7_running_2 : decode cX7_running 2 = .ok (.iconst 0, 1) := by decide +kernel
theorem dX7_running_3 : decode cX7_running 3 = .ok (.istore_n 3, 1) := by decide +kernel
theorem dX7_running_4 : decode cX7_running 4 = .ok (.iload_n 3, 1) := by decide +kernel
theorem dX7_running_5 : decode cX7_running 5 = .ok (.iconst 2, 1) := by decide +kernel
theorem dX7_running_6 : decode cX7_running 6 = .ok (.aload_n 0, 1) := by decide +kernel
theorem dX7_running_7 : decode cX7_running 7 = .ok (.getfield 10, 3) := by decide +kernel
theorem dX7_running_10 : decode cX7_running 10 = .ok (.getfield 51, 3) := by decide +kernel
theorem dX7_running_13 : decode cX7_running 13 = .ok (.imul, 1) := by decide +kernel
theorem dX7_running_14 : decode cX7_running 14 = .ok (.if_icmp .ge 57, 3) := by decide +kernel
theorem dX7_running_17 : decode cX7_running 17 = .ok (.iload_n 2, 1) := by decide +kernel
theorem dX7_running_18 : decode cX7_running 18 = .ok (.aload_n 0, 1) := by decide +kernel
theorem dX7_running_19 : decode cX7_running 19 = .ok (.getfield 10, 3) := by decide +kernel
theorem dX7_running_22 : decode cX7_running 22 = .ok (.iload_n 3, 1) := by decide +kernel
theorem dX7_running_23 : decode cX7_running 23 = .ok (.iconst 2, 1) := by decide +kernel
theorem dX7_running_24 : decode cX7_running 24 = .ok (.idiv, 1) := by decide +kernel
theorem dX7_running_25 : decode cX7_running 25 = .ok (.invokevirtual 54, 3) := by decide +kernel
theorem dX7_running_28 : decode cX7_running 28 = .ok (.ifCond .eq 34, 3) := by decide +kernel
theorem dX7_running_31 : decode cX7_running 31 = .ok (.iload_n 1, 1) := by decide +kernel
theorem dX7_running_32 : decode cX7_running 32 = .ok (.iconst (-1), 1) := by decide +kernel
theorem dX7_running_33 : decode cX7_running 33 = .ok (.if_icmp .ne 12, 3) := by decide +kernel
theorem dX7_running_36 : decode cX7_running 36 = .ok (.iload_n 3, 1) := by decide +kernel
theorem dX7_running_37 : decode cX7_running 37 = .ok (.iconst 2, 1) := by decide +kernel
theorem dX7_running_38 : decode cX7_running 38 = .ok (.irem, 1) := by decide +kernel
theorem dX7_running_39 : decode cX7_running 39 = .ok (.ifCond .ne 23, 3) := by decide +kernel
theorem dX7_running_42 : decode cX7_running 42 = .ok (.goto 16, 3) := by decide +kernel
theorem dX7_running_45 : decode cX7_running 45 = .ok (.aload_n 0, 1) := by decide +kernel
theorem dX7_running_46 : decode cX7_running 46 = .ok (.getfield 10, 3) := by decide +kernel
theorem dX7_running_49 : decode cX7_running 49 = .ok (.getfield 58, 3) := by decide +kernel
theorem dX7_running_52 : decode cX7_running 52 = .ok (.iload_n 3, 1) := by decide +kernel
theorem dX7_running_53 : decode cX7_running 53 = .ok (.iaload, 1) := by decide +kernel
theorem dX7_running_54 : decode cX7_running 54 = .ok (.iload_n 1, 1) := by decide +kernel
theorem dX7_running_55 : decode cX7_running 55 = .ok (.if_icmp .ne 7, 3) := by decide +kernel
theorem dX7_running_58 : decode cX7_running 58 = .ok (.iconst 1, 1) := by decide +kernel
theorem dX7_running_59 : decode cX7_running 59 = .ok (.goto 4, 3) := by decide +kernel
theorem dX7_running_62 : decode cX7_running 62 = .ok (.iconst 0, 1) := by decide +kernel
theorem dX7_running_63 : decode cX7_running 63 = .ok (.iadd, 1) := by decide +kernel
theorem dX7_running_64 : decode cX7_running 64 = .ok (.istore_n 2, 1) := by decide +kernel
theorem dX7_running_65 : decode cX7_running 65 = .ok (.iinc 3 1, 3) := by decide +kernel
theorem dX7_running_68 : decode cX7_running 68 = .ok (.goto (-64), 3) := by decide +kernel
theorem dX7_running_71 : decode cX7_running 71 = .ok (.iload_n 2, 1) := by decide +kernel
theorem dX7_running_72 : decode cX7_running 72 = .ok (.ireturn, 1) := by decide +kernel
theorem dX7_playerTold_0 : decode cX7_playerTold 0 = .ok (.iload_n 2, 1) := by decide +kernel
theorem dX7_playerTold_1 : decode cX7_playerTold 1 = .ok (.iconst 2, 1) := by decide +kernel
theorem dX7_playerTold_2 : decode cX7_playerTold 2 = .ok (.if_icmp .ge 29, 3) := by decide +kernel
theorem dX7_playerTold_5 : decode cX7_playerTold 5 = .ok (.iload_n 2, 1) := by decide +kernel
theorem dX7_playerTold_6 : decode cX7_playerTold 6 = .ok (.ifCond .ne 15, 3) := by decide +kernel
theorem dX7_playerTold_9 : decode cX7_playerTold 9 = .ok (.aload_n 0, 1) := by decide +kernel
theorem dX7_playerTold_10 : decode cX7_playerTold 10 = .ok (.getfield 10, 3) := by decide +kernel
theorem dX7_playerTold_13 : decode cX7_playerTold 13 = .ok (.getfield 35, 3) := by decide +kernel
theorem dX7_playerTold_16 : decode cX7_playerTold 16 = .ok (.iload_n 1, 1) := by decide +kernel
theorem dX7_playerTold_17 : decode cX7_playerTold 17 = .ok (.iaload, 1) := by decide +kernel
theorem dX7_playerTold_18 : decode cX7_playerTold 18 = .ok (.goto 12, 3) := by decide +kernel
theorem dX7_playerTold_21 : decode cX7_playerTold 21 = .ok (.aload_n 0, 1) := by decide +kernel
theorem dX7_playerTold_22 : decode cX7_playerTold 22 = .ok (.getfield 10, 3) := by decide +kernel
theorem dX7_playerTold_25 : decode cX7_playerTold 25 = .ok (.getfield 61, 3) := by decide +kernel
theorem dX7_playerTold_28 : decode cX7_playerTold 28 = .ok (.iload_n 1, 1) := by decide +kernel
theorem dX7_playerTold_29 : decode cX7_playerTold 29 = .ok (.iaload, 1) := by decide +kernel
theorem dX7_playerTold_30 : decode cX7_playerTold 30 = .ok (.ireturn, 1) := by decide +kernel
theorem dX7_playerTold_31 : decode cX7_playerTold 31 = .ok (.iload_n 2, 1) := by decide +kernel
theorem dX7_playerTold_32 : decode cX7_playerTold 32 = .ok (.iconst 5, 1) := by decide +kernel
theorem dX7_playerTold_33 : decode cX7_playerTold 33 = .ok (.if_icmp .ge 43, 3) := by decide +kernel
theorem dX7_playerTold_36 : decode cX7_playerTold 36 = .ok (.iload_n 2, 1) := by decide +kernel
theorem dX7_playerTold_37 : decode cX7_playerTold 37 = .ok (.iconst 2, 1) := by decide +kernel
theorem dX7_playerTold_38 : decode cX7_playerTold 38 = .ok (.if_icmp .ne 11, 3) := by decide +kernel
theorem dX7_playerTold_41 : decode cX7_playerTold 41 = .ok (.aload_n 0, 1) := by decide +kernel
theorem dX7_playerTold_42 : decode cX7_playerTold 42 = .ok (.iload_n 1, 1) := by decide +kernel
theorem dX7_playerTold_43 : decode cX7_playerTold 43 = .ok (.invokevirtual 64, 3) := by decide +kernel
theorem dX7_playerTold_46 : decode cX7_playerTold 46 = .ok (.goto 29, 3) := by decide +kernel
theorem dX7_playerTold_49 : decode cX7_playerTold 49 = .ok (.iload_n 2, 1) := by decide +kernel
theorem dX7_playerTold_50 : decode cX7_playerTold 50 = .ok (.iconst 3, 1) := by decide +kernel
theorem dX7_playerTold_51 : decode cX7_playerTold 51 = .ok (.if_icmp .ne 15, 3) := by decide +kernel
theorem dX7_playerTold_54 : decode cX7_playerTold 54 = .ok (.aload_n 0, 1) := by decide +kernel
theorem dX7_playerTold_55 : decode cX7_playerTold 55 = .ok (.getfield 10, 3) := by decide +kernel
theorem dX7_playerTold_58 : decode cX7_playerTold 58 = .ok (.getfield 67, 3) := by decide +kernel
theorem dX7_playerTold_61 : decode cX7_playerTold 61 = .ok (.iload_n 1, 1) := by decide +kernel
theorem dX7_playerTold_62 : decode cX7_playerTold 62 = .ok (.iaload, 1) := by decide +kernel
theorem dX7_playerTold_63 : decode cX7_playerTold 63 = .ok (.goto 12, 3) := by decide +kernel
theorem dX7_playerTold_66 : decode cX7_playerTold 66 = .ok (.aload_n 0, 1) := by decide +kernel
theorem dX7_playerTold_67 : decode cX7_playerTold 67 = .ok (.getfield 10, 3) := by decide +kernel
theorem dX7_playerTold_70 : decode cX7_playerTold 70 = .ok (.getfield 70, 3) := by decide +kernel
theorem dX7_playerTold_73 : decode cX7_playerTold 73 = .ok (.iload_n 1, 1) := by decide +kernel
theorem dX7_playerTold_74 : decode cX7_playerTold 74 = .ok (.iaload, 1) := by decide +kernel
theorem dX7_playerTold_75 : decode cX7_playerTold 75 = .ok (.ireturn, 1) := by decide +kernel
theorem dX7_playerTold_76 : decode cX7_playerTold 76 = .ok (.iload_n 2, 1) := by decide +kernel
theorem dX7_playerTold_77 : decode cX7_playerTold 77 = .ok (.iconst 5, 1) := by decide +kernel
theorem dX7_playerTold_78 : decode cX7_playerTold 78 = .ok (.if_icmp .ne 11, 3) := by decide +kernel
theorem dX7_playerTold_81 : decode cX7_playerTold 81 = .ok (.aload_n 0, 1) := by decide +kernel
theorem dX7_playerTold_82 : decode cX7_playerTold 82 = .ok (.iload_n 1, 1) := by decide +kernel
theorem dX7_playerTold_83 : decode cX7_playerTold 83 = .ok (.invokevirtual 73, 3) := by decide +kernel
theorem dX7_playerTold_86 : decode cX7_playerTold 86 = .ok (.goto 27, 3) := by decide +kernel
theorem dX7_playerTold_89 : decode cX7_playerTold 89 = .ok (.iload_n 2, 1) := by decide +kernel
theorem dX7_playerTold_90 : decode cX7_playerTold 90 = .ok (.bipush 6, 2) := by decide +kernel
theorem dX7_playerTold_92 : decode cX7_playerTold 92 = .ok (.if_icmp .ne 12, 3) := by decide +kernel
theorem dX7_playerTold_95 : decode cX7_playerTold 95 = .ok (.aload_n 0, 1) := by decide +kernel
theorem dX7_playerTold_96 : decode cX7_playerTold 96 = .ok (.iload_n 1, 1) := by decide +kernel
theorem dX7_playerTold_97 : decode cX7_playerTold 97 = .ok (.iconst 2, 1) := by decide +kernel
theorem dX7_playerTold_98 : decode cX7_playerTold 98 = .ok (.invokevirtual 76, 3) := by decide +kernel
theorem dX7_playerTold_101 : decode cX7_playerTold 101 = .ok (.goto 12, 3) := by decide +kernel
theorem dX7_playerTold_104 : decode cX7_playerTold 104 = .ok (.aload_n 0, 1) := by decide +kernel
theorem dX7_playerTold_105 : decode cX7_playerTold 105 = .ok (.getfield 10, 3) := by decide +kernel
theorem dX7_playerTold_108 : decode cX7_playerTold 108 = .ok (.getfield 80, 3) := by decide +kernel
theorem dX7_playerTold_111 : decode cX7_playerTold 111 = .ok (.iload_n 1, 1) := by decide +kernel
theorem dX7_playerTold_112 : decode cX7_playerTold 112 = .ok (.iaload, 1) := by decide +kernel
theorem dX7_playerTold_113 : decode cX7_playerTold 113 = .ok (.ireturn, 1) := by decide +kernel
theorem dX7_player_0 : decode cX7_player 0 = .ok (.aload_n 0, 1) := by decide +kernel
theorem dX7_player_1 : decode cX7_player 1 = .ok (.iconst 0, 1) := by decide +kernel
theorem dX7_player_2 : decode cX7_player 2 = .ok (.putfield 19, 3) := by decide +kernel
theorem dX7_player_5 : decode cX7_player 5 = .ok (.aload_n 0, 1) := by decide +kernel
theorem dX7_player_6 : decode cX7_player 6 = .ok (.iload_n 1, 1) := by decide +kernel
theorem dX7_player_7 : decode cX7_player 7 = .ok (.invokevirtual 83, 3) := by decide +kernel
theorem dX7_player_10 : decode cX7_player 10 = .ok (.ifCond .eq 22, 3) := by decide +kernel
theorem dX7_player_13 : decode cX7_player 13 = .ok (.iload_n 2, 1) := by decide +kernel
theorem dX7_player_14 : decode cX7_player 14 = .ok (.iconst 0, 1) := by decide +kernel
theorem dX7_player_15 : decode cX7_player 15 = .ok (.bipush 7, 2) := by decide +kernel
theorem dX7_player_17 : decode cX7_player 17 = .ok (.invokestatic 24, 3) := by decide +kernel
theorem dX7_player_20 : decode cX7_player 20 = .ok (.ifCond .eq 12, 3) := by decide +kernel
theorem dX7_player_23 : decode cX7_player 23 = .ok (.aload_n 0, 1) := by decide +kernel
theorem dX7_player_24 : decode cX7_player 24 = .ok (.iload_n 1, 1) := by decide +kernel
theorem dX7_player_25 : decode cX7_player 25 = .ok (.iload_n 2, 1) := by decide +kernel
theorem dX7_player_26 : decode cX7_player 26 = .ok (.invokevirtual 86, 3) := by decide +kernel
theorem dX7_player_29 : decode cX7_player 29 = .ok (.goto 8, 3) := by decide +kernel
theorem dX7_player_32 : decode cX7_player 32 = .ok (.aload_n 0, 1) := by decide +kernel
theorem dX7_player_33 : decode cX7_player 33 = .ok (.iconst 1, 1) := by decide +kernel
theorem dX7_player_34 : decode cX7_player 34 = .ok (.invokevirtual 28, 3) := by decide +kernel
theorem dX7_player_37 : decode cX7_player 37 = .ok (.ireturn, 1) := by decide +kernel
theorem dX7_buy_0 : decode cX7_buy 0 = .ok (.aload_n 0, 1) := by decide +kernel
theorem dX7_buy_1 : decode cX7_buy 1 = .ok (.iconst 0, 1) := by decide +kernel
theorem dX7_buy_2 : decode cX7_buy 2 = .ok (.putfield 19, 3) := by decide +kernel
theorem dX7_buy_5 : decode cX7_buy 5 = .ok (.aload_n 0, 1) := by decide +kernel
theorem dX7_buy_6 : decode cX7_buy 6 = .ok (.iload_n 1, 1) := by decide +kernel
theorem dX7_buy_7 : decode cX7_buy 7 = .ok (.invokevirtual 83, 3) := by decide +kernel
theorem dX7_buy_10 : decode cX7_buy 10 = .ok (.ifCond .ne 9, 3) := by decide +kernel
theorem dX7_buy_13 : decode cX7_buy 13 = .ok (.aload_n 0, 1) := by decide +kernel
theorem dX7_buy_14 : decode cX7_buy 14 = .ok (.iconst 1, 1) := by decide +kernel
theorem dX7_buy_15 : decode cX7_buy 15 = .ok (.invokevirtual 28, 3) := by decide +kernel
theorem dX7_buy_18 : decode cX7_buy 18 = .ok (.ireturn, 1) := by decide +kernel
theorem dX7_buy_19 : decode cX7_buy 19 = .ok (.iload_n 2, 1) := by decide +kernel
theorem dX7_buy_20 : decode cX7_buy 20 = .ok (.iconst 1, 1) := by decide +kernel
theorem dX7_buy_21 : decode cX7_buy 21 = .ok (.sipush 10000, 3) := by decide +kernel
theorem dX7_buy_24 : decode cX7_buy 24 = .ok (.invokestatic 24, 3) := by decide +kernel
theorem dX7_buy_27 : decode cX7_buy 27 = .ok (.ifCond .ne 9, 3) := by decide +kernel
theorem dX7_buy_30 : decode cX7_buy 30 = .ok (.aload_n 0, 1) := by decide +kernel
theorem dX7_buy_31 : decode cX7_buy 31 = .ok (.iconst 2, 1) := by decide +kernel
theorem dX7_buy_32 : decode cX7_buy 32 = .ok (.invokevirtual 28, 3) := by decide +kernel
theorem dX7_buy_35 : decode cX7_buy 35 = .ok (.ireturn, 1) := by decide +kernel
theorem dX7_buy_36 : decode cX7_buy 36 = .ok (.iload_n 2, 1) := by decide +kernel
theorem dX7_buy_37 : decode cX7_buy 37 = .ok (.aload_n 0, 1) := by decide +kernel
theorem dX7_buy_38 : decode cX7_buy 38 = .ok (.getfield 10, 3) := by decide +kernel
theorem dX7_buy_41 : decode cX7_buy 41 = .ok (.invokevirtual 89, 3) := by decide +kernel
theorem dX7_buy_44 : decode cX7_buy 44 = .ok (.imul, 1) := by decide +kernel
theorem dX7_buy_45 : decode cX7_buy 45 = .ok (.bipush 10, 2) := by decide +kernel
theorem dX7_buy_47 : decode cX7_buy 47 = .ok (.idiv, 1) := by decide +kernel
theorem dX7_buy_48 : decode cX7_buy 48 = .ok (.iconst 1, 1) := by decide +kernel
theorem dX7_buy_49 : decode cX7_buy 49 = .ok (.iadd, 1) := by decide +kernel
theorem dX7_buy_50 : decode cX7_buy 50 = .ok (.istore_n 3, 1) := by decide +kernel
theorem dX7_buy_51 : decode cX7_buy 51 = .ok (.iload_n 2, 1) := by decide +kernel
theorem dX7_buy_52 : decode cX7_buy 52 = .ok (.aload_n 0, 1) := by decide +kernel
theorem dX7_buy_53 : decode cX7_buy 53 = .ok (.getfield 10, 3) := by decide +kernel
theorem dX7_buy_56 : decode cX7_buy 56 = .ok (.getfield 93, 3) := by decide +kernel
theorem dX7_buy_59 : decode cX7_buy 59 = .ok (.if_icmp .gt 16, 3) := by decide +kernel
theorem dX7_buy_62 : decode cX7_buy 62 = .ok (.iload_n 3, 1) := by decide +kernel
theorem dX7_buy_63 : decode cX7_buy 63 = .ok (.aload_n 0, 1) := by decide +kernel
theorem dX7_buy_64 : decode cX7_buy 64 = .ok (.getfield 10, 3) := by decide +kernel
theorem dX7_buy_67 : decode cX7_buy 67 = .ok (.getfield 35, 3) := by decide +kernel
theorem dX7_buy_70 : decode cX7_buy 70 = .ok (.iload_n 1, 1) := by decide +kernel
theorem dX7_buy_71 : decode cX7_buy 71 = .ok (.iaload, 1) := by decide +kernel
theorem dX7_buy_72 : decode cX7_buy 72 = .ok (.if_icmp .le 9, 3) := by decide +kernel
theorem dX7_buy_75 : decode cX7_buy 75 = .ok (.aload_n 0, 1) := by decide +kernel
theorem dX7_buy_76 : decode cX7_buy 76 = .ok (.iconst 3, 1) := by decide +kernel
theorem dX7_buy_77 : decode cX7_buy 77 = .ok (.invokevirtual 28, 3) := by decide +kernel
theorem dX7_buy_80 : decode cX7_buy 80 = .ok (.ireturn, 1) := by decide +kernel
theorem dX7_buy_81 : decode cX7_buy 81 = .ok (.aload_n 0, 1) := by decide +kernel
theorem dX7_buy_82 : decode cX7_buy 82 = .ok (.getfield 10, 3) := by decide +kernel
theorem dX7_buy_85 : decode cX7_buy 85 = .ok (.getfield 35, 3) := by decide +kernel
theorem dX7_buy_88 : decode cX7_buy 88 = .ok (.iload_n 1, 1) := by decide +kernel
theorem dX7_buy_89 : decode cX7_buy 89 = .ok (.dup2, 1) := by decide +kernel
theorem dX7_buy_90 : decode cX7_buy 90 = .ok (.iaload, 1) := by decide +kernel
theorem dX7_buy_91 : decode cX7_buy 91 = .ok (.iload_n 3, 1) := by decide +kernel
theorem dX7_buy_92 : decode cX7_buy 92 = .ok (.isub, 1) := by decide +kernel
theorem dX7_buy_93 : decode cX7_buy 93 = .ok (.iastore, 1) := by decide +kernel
theorem dX7_buy_94 : decode cX7_buy 94 = .ok (.aload_n 0, 1) := by decide +kernel
theorem dX7_buy_95 : decode cX7_buy 95 = .ok (.getfield 10, 3) := by decide +kernel
theorem dX7_buy_98 : decode cX7_buy 98 = .ok (.dup, 1) := by decide +kernel
theorem dX7_buy_99 : decode cX7_buy 99 = .ok (.getfield 96, 3) := by decide +kernel
theorem dX7_buy_102 : decode cX7_buy 102 = .ok (.iload_n 3, 1) := by decide +kernel
theorem dX7_buy_103 : decode cX7_buy 103 = .ok (.iadd, 1) := by decide +kernel
theorem dX7_buy_104 : decode cX7_buy 104 = .ok (.putfield 96, 3) := by decide +kernel
theorem dX7_buy_107 : decode cX7_buy 107 = .ok (.aload_n 0, 1) := by decide +kernel
theorem dX7_buy_108 : decode cX7_buy 108 = .ok (.getfield 10, 3) := by decide +kernel
theorem dX7_buy_111 : decode cX7_buy 111 = .ok (.getfield 61, 3) := by decide +kernel
theorem dX7_buy_114 : decode cX7_buy 114 = .ok (.iload_n 1, 1) := by decide +kernel
theorem dX7_buy_115 : decode cX7_buy 115 = .ok (.dup2, 1) := by decide +kernel
theorem dX7_buy_116 : decode cX7_buy 116 = .ok (.iaload, 1) := by decide +kernel
theorem dX7_buy_117 : decode cX7_buy 117 = .ok (.iload_n 2, 1) := by decide +kernel
theorem dX7_buy_118 : decode cX7_buy 118 = .ok (.iadd, 1) := by decide +kernel
theorem dX7_buy_119 : decode cX7_buy 119 = .ok (.iastore, 1) := by decide +kernel
theorem dX7_buy_120 : decode cX7_buy 120 = .ok (.aload_n 0, 1) := by decide +kernel
theorem dX7_buy_121 : decode cX7_buy 121 = .ok (.getfield 10, 3) := by decide +kernel
theorem dX7_buy_124 : decode cX7_buy 124 = .ok (.iload_n 2, 1) := by decide +kernel
theorem dX7_buy_125 : decode cX7_buy 125 = .ok (.ineg, 1) := by decide +kernel
theorem dX7_buy_126 : decode cX7_buy 126 = .ok (.invokevirtual 99, 3) := by decide +kernel
theorem dX7_buy_129 : decode cX7_buy 129 = .ok (.iload_n 3, 1) := by decide +kernel
theorem dX7_buy_130 : decode cX7_buy 130 = .ok (.ireturn, 1) := by decide +kernel
theorem dX7_sell_0 : decode cX7_sell 0 = .ok (.aload_n 0, 1) := by decide +kernel
theorem dX7_sell_1 : decode cX7_sell 1 = .ok (.iconst 0, 1) := by decide +kernel
theorem dX7_sell_2 : decode cX7_sell 2 = .ok (.putfield 19, 3) := by decide +kernel
theorem dX7_sell_5 : decode cX7_sell 5 = .ok (.aload_n 0, 1) := by decide +kernel
theorem dX7_sell_6 : decode cX7_sell 6 = .ok (.iload_n 1, 1) := by decide +kernel
theorem dX7_sell_7 : decode cX7_sell 7 = .ok (.invokevirtual 83, 3) := by decide +kernel
theorem dX7_sell_10 : decode cX7_sell 10 = .ok (.ifCond .ne 9, 3) := by decide +kernel
theorem dX7_sell_13 : decode cX7_sell 13 = .ok (.aload_n 0, 1) := by decide +kernel
theorem dX7_sell_14 : decode cX7_sell 14 = .ok (.iconst 1, 1) := by decide +kernel
theorem dX7_sell_15 : decode cX7_sell 15 = .ok (.invokevirtual 28, 3) := by decide +kernel
theorem dX7_sell_18 : decode cX7_sell 18 = .ok (.ireturn, 1) := by decide +kernel
theorem dX7_sell_19 : decode cX7_sell 19 = .ok (.iload_n 2, 1) := by decide +kernel
theorem dX7_sell_20 : decode cX7_sell 20 = .ok (.iconst 1, 1) := by decide +kernel
theorem dX7_sell_21 : decode cX7_sell 21 = .ok (.sipush 10000, 3) := by decide +kernel
theorem dX7_sell_24 : decode cX7_sell 24 = .ok (.invokestatic 24, 3) := by decide +kernel
theorem dX7_sell_27 : decode cX7_sell 27 = .ok (.ifCond .ne 9, 3) := by decide +kernel
theorem dX7_sell_30 : decode cX7_sell 30 = .ok (.aload_n 0, 1) := by decide +kernel
theorem dX7_sell_31 : decode cX7_sell 31 = .ok (.iconst 2, 1) := by decide +kernel
theorem dX7_sell_32 : decode cX7_sell 32 = .ok (.invokevirtual 28, 3) := by decide +kernel
theorem dX7_sell_35 : decode cX7_sell 35 = .ok (.ireturn, 1) := by decide +kernel
theorem dX7_sell_36 : decode cX7_sell 36 = .ok (.iload_n 2, 1) := by decide +kernel
theorem dX7_sell_37 : decode cX7_sell 37 = .ok (.aload_n 0, 1) := by decide +kernel
theorem dX7_sell_38 : decode cX7_sell 38 = .ok (.getfield 10, 3) := by decide +kernel
theorem dX7_sell_41 : decode cX7_sell 41 = .ok (.invokevirtual 89, 3) := by decide +kernel
theorem dX7_sell_44 : decode cX7_sell 44 = .ok (.imul, 1) := by decide +kernel
theorem dX7_sell_45 : decode cX7_sell 45 = .ok (.bipush 20, 2) := by decide +kernel
theorem dX7_sell_47 : decode cX7_sell 47 = .ok (.idiv, 1) := by decide +kernel
theorem dX7_sell_48 : decode cX7_sell 48 = .ok (.istore_n 3, 1) := by decide +kernel
theorem dX7_sell_49 : decode cX7_sell 49 = .ok (.iload_n 2, 1) := by decide +kernel
theorem dX7_sell_50 : decode cX7_sell 50 = .ok (.aload_n 0, 1) := by decide +kernel
theorem dX7_sell_51 : decode cX7_sell 51 = .ok (.getfield 10, 3) := by decide +kernel
theorem dX7_sell_54 : decode cX7_sell 54 = .ok (.getfield 61, 3) := by decide +kernel
theorem dX7_sell_57 : decode cX7_sell 57 = .ok (.iload_n 1, 1) := by decide +kernel
theorem dX7_sell_58 : decode cX7_sell 58 = .ok (.iaload, 1) := by decide +kernel
theorem dX7_sell_59 : decode cX7_sell 59 = .ok (.if_icmp .gt 14, 3) := by decide +kernel
theorem dX7_sell_62 : decode cX7_sell 62 = .ok (.iload_n 3, 1) := by decide +kernel
theorem dX7_sell_63 : decode cX7_sell 63 = .ok (.aload_n 0, 1) := by decide +kernel
theorem dX7_sell_64 : decode cX7_sell 64 = .ok (.getfield 10, 3) := by decide +kernel
theorem dX7_sell_67 : decode cX7_sell 67 = .ok (.getfield 96, 3) := by decide +kernel
theorem dX7_sell_70 : decode cX7_sell 70 = .ok (.if_icmp .le 9, 3) := by decide +kernel
theorem dX7_sell_73 : decode cX7_sell 73 = .ok (.aload_n 0, 1) := by decide +kernel
theorem dX7_sell_74 : decode cX7_sell 74 = .ok (.iconst 3, 1) := by decide +kernel
theorem dX7_sell_75 : decode cX7_sell 75 = .ok (.invokevirtual 28, 3) := by decide +kernel
theorem dX7_sell_78 : decode cX7_sell 78 = .ok (.ireturn, 1) := by decide +kernel
theorem dX7_sell_79 : decode cX7_sell 79 = .ok (.aload_n 0, 1) := by decide +kernel
theorem dX7_sell_80 : decode cX7_sell 80 = .ok (.getfield 10, 3) := by decide +kernel
theorem dX7_sell_83 : decode cX7_sell 83 = .ok (.getfield 35, 3) := by decide +kernel
theorem dX7_sell_86 : decode cX7_sell 86 = .ok (.iload_n 1, 1) := by decide +kernel
theorem dX7_sell_87 : decode cX7_sell 87 = .ok (.dup2, 1) := by decide +kernel
theorem dX7_sell_88 : decode cX7_sell 88 = .ok (.iaload, 1) := by decide +kernel
theorem dX7_sell_89 : decode cX7_sell 89 = .ok (.iload_n 3, 1) := by decide +kernel
theorem dX7_sell_90 : decode cX7_sell 90 = .ok (.iadd, 1) := by decide +kernel
theorem dX7_sell_91 : decode cX7_sell 91 = .ok (.iastore, 1) := by decide +kernel
theorem dX7_sell_92 : decode cX7_sell 92 = .ok (.aload_n 0, 1) := by decide +kernel
theorem dX7_sell_93 : decode cX7_sell 93 = .ok (.getfield 10, 3) := by decide +kernel
theorem dX7_sell_96 : decode cX7_sell 96 = .ok (.dup, 1) := by decide +kernel
theorem dX7_sell_97 : decode cX7_sell 97 = .ok (.getfield 96, 3) := by decide +kernel
theorem dX7_sell_100 : decode cX7_sell 100 = .ok (.iload_n 3, 1) := by decide +kernel
theorem dX7_sell_101 : decode cX7_sell 101 = .ok (.isub, 1) := by decide +kernel
theorem dX7_sell_102 : decode cX7_sell 102 = .ok (.putfield 96, 3) := by decide +kernel
theorem dX7_sell_105 : decode cX7_sell 105 = .ok (.aload_n 0, 1) := by decide +kernel
theorem dX7_sell_106 : decode cX7_sell 106 = .ok (.getfield 10, 3) := by decide +kernel
theorem dX7_sell_109 : decode cX7_sell 109 = .ok (.getfield 61, 3) := by decide +kernel
theorem dX7_sell_112 : decode cX7_sell 112 = .ok (.iload_n 1, 1) := by decide +kernel
theorem dX7_sell_113 : decode cX7_sell 113 = .ok (.dup2, 1) := by decide +kernel
theorem dX7_sell_114 : decode cX7_sell 114 = .ok (.iaload, 1) := by decide +kernel
theorem dX7_sell_115 : decode cX7_sell 115 = .ok (.iload_n 2, 1) := by decide +kernel
theorem dX7_sell_116 : decode cX7_sell 116 = .ok (.isub, 1) := by decide +kernel
theorem dX7_sell_117 : decode cX7_sell 117 = .ok (.iastore, 1) := by decide +kernel
theorem dX7_sell_118 : decode cX7_sell 118 = .ok (.aload_n 0, 1) := by decide +kernel
theorem dX7_sell_119 : decode cX7_sell 119 = .ok (.getfield 10, 3) := by decide +kernel
theorem dX7_sell_122 : decode cX7_sell 122 = .ok (.iload_n 2, 1) := by decide +kernel
theorem dX7_sell_123 : decode cX7_sell 123 = .ok (.invokevirtual 99, 3) := by decide +kernel
theorem dX7_sell_126 : decode cX7_sell 126 = .ok (.iload_n 3, 1) := by decide +kernel
theorem dX7_sell_127 : decode cX7_sell 127 = .ok (.ireturn, 1) := by decide +kernel
theorem dX7_borrow_0 : decode cX7_borrow 0 = .ok (.aload_n 0, 1) := by decide +kernel
theorem dX7_borrow_1 : decode cX7_borrow 1 = .ok (.iconst 0, 1) := by decide +kernel
theorem dX7_borrow_2 : decode cX7_borrow 2 = .ok (.putfield 19, 3) := by decide +kernel
theorem dX7_borrow_5 : decode cX7_borrow 5 = .ok (.aload_n 0, 1) := by decide +kernel
theorem dX7_borrow_6 : decode cX7_borrow 6 = .ok (.iload_n 1, 1) := by decide +kernel
theorem dX7_borrow_7 : decode cX7_borrow 7 = .ok (.invokevirtual 83, 3) := by decide +kernel
theorem dX7_borrow_10 : decode cX7_borrow 10 = .ok (.ifCond .ne 9, 3) := by decide +kernel
theorem dX7_borrow_13 : decode cX7_borrow 13 = .ok (.aload_n 0, 1) := by decide +kernel
theorem dX7_borrow_14 : decode cX7_borrow 14 = .ok (.iconst 1, 1) := by decide +kernel
theorem dX7_borrow_15 : decode cX7_borrow 15 = .ok (.invokevirtual 28, 3) := by decide +kernel
theorem dX7_borrow_18 : decode cX7_borrow 18 = .ok (.ireturn, 1) := by decide +kernel
theorem dX7_borrow_19 : decode cX7_borrow 19 = .ok (.iload_n 2, 1) := by decide +kernel
theorem dX7_borrow_20 : decode cX7_borrow 20 = .ok (.iconst 1, 1) := by decide +kernel
theorem dX7_borrow_21 : decode cX7_borrow 21 = .ok (.sipush 5000, 3) := by decide +kernel
theorem dX7_borrow_24 : decode cX7_borrow 24 = .ok (.invokestatic 24, 3) := by decide +kernel
theorem dX7_borrow_27 : decode cX7_borrow 27 = .ok (.ifCond .eq 25, 3) := by decide +kernel
theorem dX7_borrow_30 : decode cX7_borrow 30 = .ok (.iload_n 3, 1) := by decide +kernel
theorem dX7_borrow_31 : decode cX7_borrow 31 = .ok (.iconst 0, 1) := by decide +kernel
theorem dX7_borrow_32 : decode cX7_borrow 32 = .ok (.bipush 100, 2) := by decide +kernel
theorem dX7_borrow_34 : decode cX7_borrow 34 = .ok (.invokestatic 24, 3) := by decide +kernel
theorem dX7_borrow_37 : decode cX7_borrow 37 = .ok (.ifCond .eq 15, 3) := by decide +kernel
theorem dX7_borrow_40 : decode cX7_borrow 40 = .ok (.iload 4, 2) := by decide +kernel
theorem dX7_borrow_42 : decode cX7_borrow 42 = .ok (.iconst 1, 1) := by decide +kernel
theorem dX7_borrow_43 : decode cX7_borrow 43 = .ok (.sipush 3600, 3) := by decide +kernel
theorem dX7_borrow_46 : decode cX7_borrow 46 = .ok (.invokestatic 24, 3) := by decide +kernel
theorem dX7_borrow_49 : decode cX7_borrow 49 = .ok (.ifCond .ne 9, 3) := by decide +kernel
theorem dX7_borrow_52 : decode cX7_borrow 52 = .ok (.aload_n 0, 1) := by decide +kernel
theorem dX7_borrow_53 : decode cX7_borrow 53 = .ok (.iconst 2, 1) := by decide +kernel
theorem dX7_borrow_54 : decode cX7_borrow 54 = .ok (.invokevirtual 28, 3) := by decide +kernel
theorem dX7_borrow_57 : decode cX7_borrow 57 = .ok (.ireturn, 1) := by decide +kernel
theorem dX7_borrow_58 : decode cX7_borrow 58 = .ok (.iload_n 2, 1) := by decide +kernel
theorem dX7_borrow_59 : decode cX7_borrow 59 = .ok (.aload_n 0, 1) := by decide +kernel
theorem dX7_borrow_60 : decode cX7_borrow 60 = .ok (.getfield 10, 3) := by decide +kernel
theorem dX7_borrow_63 : decode cX7_borrow 63 = .ok (.getfield 93, 3) := by decide +kernel
theorem dX7_borrow_66 : decode cX7_borrow 66 = .ok (.if_icmp .gt 34, 3) := by decide +kernel
theorem dX7_borrow_69 : decode cX7_borrow 69 = .ok (.aload_n 0, 1) := by decide +kernel
theorem dX7_borrow_70 : decode cX7_borrow 70 = .ok (.iload_n 1, 1) := by decide +kernel
theorem dX7_borrow_71 : decode cX7_borrow 71 = .ok (.iconst 2, 1) := by decide +kernel
theorem dX7_borrow_72 : decode cX7_borrow 72 = .ok (.invokevirtual 76, 3) := by decide +kernel
theorem dX7_borrow_75 : decode cX7_borrow 75 = .ok (.ifCond .gt 25, 3) := by decide +kernel
theorem dX7_borrow_78 : decode cX7_borrow 78 = .ok (.aload_n 0, 1) := by decide +kernel
theorem dX7_borrow_79 : decode cX7_borrow 79 = .ok (.iload_n 1, 1) := by decide +kernel
theorem dX7_borrow_80 : decode cX7_borrow 80 = .ok (.iconst 0, 1) := by decide +kernel
theorem dX7_borrow_81 : decode cX7_borrow 81 = .ok (.invokevirtual 76, 3) := by decide +kernel
theorem dX7_borrow_84 : decode cX7_borrow 84 = .ok (.iconst 2, 1) := by decide +kernel
theorem dX7_borrow_85 : decode cX7_borrow 85 = .ok (.if_icmp .gt 15, 3) := by decide +kernel
theorem dX7_borrow_88 : decode cX7_borrow 88 = .ok (.aload_n 0, 1) := by decide +kernel
theorem dX7_borrow_89 : decode cX7_borrow 89 = .ok (.getfield 10, 3) := by decide +kernel
theorem dX7_borrow_92 : decode cX7_borrow 92 = .ok (.getfield 39, 3) := by decide +kernel
theorem dX7_borrow_95 : decode cX7_borrow 95 = .ok (.bipush 20, 2) := by decide +kernel
theorem dX7_borrow_97 : decode cX7_borrow 97 = .ok (.if_icmp .ne 9, 3) := by decide +kernel
theorem dX7_borrow_100 : decode cX7_borrow 100 = .ok (.aload_n 0, 1) := by decide +kernel
theorem dX7_borrow_101 : decode cX7_borrow 101 = .ok (.iconst 3, 1) := by decide +kernel
theorem dX7_borrow_102 : decode cX7_borrow 102 = .ok (.invokevirtual 28, 3) := by decide +kernel
theorem dX7_borrow_105 : decode cX7_borrow 105 = .ok (.ireturn, 1) := by decide +kernel
theorem dX7_borrow_106 : decode cX7_borrow 106 = .ok (.aload_n 0, 1) := by decide +kernel
theorem dX7_borrow_107 : decode cX7_borrow 107 = .ok (.getfield 10, 3) := by decide +kernel
theorem dX7_borrow_110 : decode cX7_borrow 110 = .ok (.getfield 39, 3) := by decide +kernel
theorem dX7_borrow_113 : decode cX7_borrow 113 = .ok (.istore 5, 2) := by decide +kernel
theorem dX7_borrow_115 : decode cX7_borrow 115 = .ok (.aload_n 0, 1) := by decide +kernel
theorem dX7_borrow_116 : decode cX7_borrow 116 = .ok (.getfield 10, 3) := by decide +kernel
theorem dX7_borrow_119 : decode cX7_borrow 119 = .ok (.getfield 42, 3) := by decide +kernel
theorem dX7_borrow_122 : decode cX7_borrow 122 = .ok (.iload 5, 2) := by decide +kernel
theorem dX7_borrow_124 : decode cX7_borrow 124 = .ok (.iload_n 1, 1) := by decide +kernel
theorem dX7_borrow_125 : decode cX7_borrow 125 = .ok (.iastore, 1) := by decide +kernel
theorem dX7_borrow_126 : decode cX7_borrow 126 = .ok (.aload_n 0, 1) := by decide +kernel
theorem dX7_borrow_127 : decode cX7_borrow 127 = .ok (.getfield 10, 3) := by decide +kernel
theorem dX7_borrow_130 : decode cX7_borrow 130 = .ok (.getfield 48, 3) := by decide +kernel
theorem dX7_borrow_133 : decode cX7_borrow 133 = .ok (.iload 5, 2) := by decide +kernel
theorem dX7_borrow_135 : decode cX7_borrow 135 = .ok (.iload_n 2, 1) := by decide +kernel
theorem dX7_borrow_136 : decode cX7_borrow 136 = .ok (.iastore, 1) := by decide +kernel
theorem dX7_borrow_137 : decode cX7_borrow 137 = .ok (.aload_n 0, 1) := by decide +kernel
theorem dX7_borrow_138 : decode cX7_borrow 138 = .ok (.getfield 10, 3) := by decide +kernel
theorem dX7_borrow_141 : decode cX7_borrow 141 = .ok (.getfield 103, 3) := by decide +kernel
theorem dX7_borrow_144 : decode cX7_borrow 144 = .ok (.iload 5, 2) := by decide +kernel
theorem dX7_borrow_146 : decode cX7_borrow 146 = .ok (.iload_n 3, 1) := by decide +kernel
theorem dX7_borrow_147 : decode cX7_borrow 147 = .ok (.iastore, 1) := by decide +kernel
theorem dX7_borrow_148 : decode cX7_borrow 148 = .ok (.aload_n 0, 1) := by decide +kernel
theorem dX7_borrow_149 : decode cX7_borrow 149 = .ok (.getfield 10, 3) := by decide +kernel
theorem dX7_borrow_152 : decode cX7_borrow 152 = .ok (.getfield 106, 3) := by decide +kernel
theorem dX7_borrow_155 : decode cX7_borrow 155 = .ok (.iload 5, 2) := by decide +kernel
theorem dX7_borrow_157 : decode cX7_borrow 157 = .ok (.aload_n 0, 1) := by decide +kernel
theorem dX7_borrow_158 : decode cX7_borrow 158 = .ok (.getfield 10, 3) := by decide +kernel
theorem dX7_borrow_161 : decode cX7_borrow 161 = .ok (.getfield 109, 3) := by decide +kernel
theorem dX7_borrow_164 : decode cX7_borrow 164 = .ok (.iload 4, 2) := by decide +kernel
theorem dX7_borrow_166 : decode cX7_borrow 166 = .ok (.iadd, 1) := by decide +kernel
theorem dX7_borrow_167 : decode cX7_borrow 167 = .ok (.iastore, 1) := by decide +kernel
theorem dX7_borrow_168 : decode cX7_borrow 168 = .ok (.aload_n 0, 1) := by decide +kernel
theorem dX7_borrow_169 : decode cX7_borrow 169 = .ok (.getfield 10, 3) := by decide +kernel
theorem dX7_borrow_172 : decode cX7_borrow 172 = .ok (.getfield 45, 3) := by decide +kernel
theorem dX7_borrow_175 : decode cX7_borrow 175 = .ok (.iload 5, 2) := by decide +kernel
theorem dX7_borrow_177 : decode cX7_borrow 177 = .ok (.iconst 0, 1) := by decide +kernel
theorem dX7_borrow_178 : decode cX7_borrow 178 = .ok (.iastore, 1) := by decide +kernel
theorem dX7_borrow_179 : decode cX7_borrow 179 = .ok (.aload_n 0, 1) := by decide +kernel
theorem dX7_borrow_180 : decode cX7_borrow 180 = .ok (.getfield 10, 3) := by decide +kernel
theorem dX7_borrow_183 : decode cX7_borrow 183 = .ok (.dup, 1) := by decide +kernel
theorem dX7_borrow_184 : decode cX7_borrow 184 = .ok (.getfield 39, 3) := by decide +kernel
theorem dX7_borrow_187 : decode cX7_borrow 187 = .ok (.iconst 1, 1) := by decide +kernel
theorem dX7_borrow_188 : decode cX7_borrow 188 = .ok (.iadd, 1) := by decide +kernel
theorem dX7_borrow_189 : decode cX7_borrow 189 = .ok (.putfield 39, 3) := by decide +kernel
theorem dX7_borrow_192 : decode cX7_borrow 192 = .ok (.aload_n 0, 1) := by decide +kernel
theorem dX7_borrow_193 : decode cX7_borrow 193 = .ok (.getfield 10, 3) := by decide +kernel
theorem dX7_borrow_196 : decode cX7_borrow 196 = .ok (.getfield 61, 3) := by decide +kernel
theorem dX7_borrow_199 : decode cX7_borrow 199 = .ok (.iload_n 1, 1) := by decide +kernel
theorem dX7_borrow_200 : decode cX7_borrow 200 = .ok (.dup2, 1) := by decide +kernel
theorem dX7_borrow_201 : decode cX7_borrow 201 = .ok (.iaload, 1) := by decide +kernel
theorem dX7_borrow_202 : decode cX7_borrow 202 = .ok (.iload_n 2, 1) := by decide +kernel
theorem dX7_borrow_203 : decode cX7_borrow 203 = .ok (.iadd, 1) := by decide +kernel
theorem dX7_borrow_204 : decode cX7_borrow 204 = .ok (.iastore, 1) := by decide +kernel
theorem dX7_borrow_205 : decode cX7_borrow 205 = .ok (.aload_n 0, 1) := by decide +kernel
theorem dX7_borrow_206 : decode cX7_borrow 206 = .ok (.getfield 10, 3) := by decide +kernel
theorem dX7_borrow_209 : decode cX7_borrow 209 = .ok (.iload_n 2, 1) := by decide +kernel
theorem dX7_borrow_210 : decode cX7_borrow 210 = .ok (.ineg, 1) := by decide +kernel
theorem dX7_borrow_211 : decode cX7_borrow 211 = .ok (.invokevirtual 99, 3) := by decide +kernel
theorem dX7_borrow_214 : decode cX7_borrow 214 = .ok (.iload 5, 2) := by decide +kernel
theorem dX7_borrow_216 : decode cX7_borrow 216 = .ok (.ireturn, 1) := by decide +kernel
theorem dX7_isLoan_0 : decode cX7_isLoan 0 = .ok (.iload_n 1, 1) := by decide +kernel
theorem dX7_isLoan_1 : decode cX7_isLoan 1 = .ok (.iconst 0, 1) := by decide +kernel
theorem dX7_isLoan_2 : decode cX7_isLoan 2 = .ok (.aload_n 0, 1) := by decide +kernel
theorem dX7_isLoan_3 : decode cX7_isLoan 3 = .ok (.getfield 10, 3) := by decide +kernel
theorem dX7_isLoan_6 : decode cX7_isLoan 6 = .ok (.getfield 39, 3) := by decide +kernel
theorem dX7_isLoan_9 : decode cX7_isLoan 9 = .ok (.iconst 1, 1) := by decide +kernel
theorem dX7_isLoan_10 : decode cX7_isLoan 10 = .ok (.isub, 1) := by decide +kernel
theorem dX7_isLoan_11 : decode cX7_isLoan 11 = .ok (.invokestatic 24, 3) := by decide +kernel
theorem dX7_isLoan_14 : decode cX7_isLoan 14 = .ok (.ireturn, 1) := by decide +kernel
theorem dX7_repay_0 : decode cX7_repay 0 = .ok (.aload_n 0, 1) := by decide +kernel
theorem dX7_repay_1 : decode cX7_repay 1 = .ok (.iconst 0, 1) := by decide +kernel
theorem dX7_repay_2 : decode cX7_repay 2 = .ok (.putfield 19, 3) := by decide +kernel
theorem dX7_repay_5 : decode cX7_repay 5 = .ok (.aload_n 0, 1) := by decide +kernel
theorem dX7_repay_6 : decode cX7_repay 6 = .ok (.iload_n 1, 1) := by decide +kernel
theorem dX7_repay_7 : decode cX7_repay 7 = .ok (.invokevirtual 112, 3) := by decide +kernel
theorem dX7_repay_10 : decode cX7_repay 10 = .ok (.ifCond .ne 9, 3) := by decide +kernel
theorem dX7_repay_13 : decode cX7_repay 13 = .ok (.aload_n 0, 1) := by decide +kernel
theorem dX7_repay_14 : decode cX7_repay 14 = .ok (.iconst 1, 1) := by decide +kernel
theorem dX7_repay_15 : decode cX7_repay 15 = .ok (.invokevirtual 28, 3) := by decide +kernel
theorem dX7_repay_18 : decode cX7_repay 18 = .ok (.ireturn, 1) := by decide +kernel
theorem dX7_repay_19 : decode cX7_repay 19 = .ok (.iload_n 2, 1) := by decide +kernel
theorem dX7_repay_20 : decode cX7_repay 20 = .ok (.iconst 1, 1) := by decide +kernel
theorem dX7_repay_21 : decode cX7_repay 21 = .ok (.ldc 23, 2) := by decide +kernel
theorem dX7_repay_23 : decode cX7_repay 23 = .ok (.invokestatic 24, 3) := by decide +kernel
theorem dX7_repay_26 : decode cX7_repay 26 = .ok (.ifCond .ne 9, 3) := by decide +kernel
theorem dX7_repay_29 : decode cX7_repay 29 = .ok (.aload_n 0, 1) := by decide +kernel
theorem dX7_repay_30 : decode cX7_repay 30 = .ok (.iconst 2, 1) := by decide +kernel
theorem dX7_repay_31 : decode cX7_repay 31 = .ok (.invokevirtual 28, 3) := by decide +kernel
theorem dX7_repay_34 : decode cX7_repay 34 = .ok (.ireturn, 1) := by decide +kernel
theorem dX7_repay_35 : decode cX7_repay 35 = .ok (.aload_n 0, 1) := by decide +kernel
theorem dX7_repay_36 : decode cX7_repay 36 = .ok (.getfield 10, 3) := by decide +kernel
theorem dX7_repay_39 : decode cX7_repay 39 = .ok (.getfield 45, 3) := by decide +kernel
theorem dX7_repay_42 : decode cX7_repay 42 = .ok (.iload_n 1, 1) := by decide +kernel
theorem dX7_repay_43 : decode cX7_repay 43 = .ok (.iaload, 1) := by decide +kernel
theorem dX7_repay_44 : decode cX7_repay 44 = .ok (.iconst 1, 1) := by decide +kernel
theorem dX7_repay_45 : decode cX7_repay 45 = .ok (.if_icmp .ne 9, 3) := by decide +kernel
theorem dX7_repay_48 : decode cX7_repay 48 = .ok (.aload_n 0, 1) := by decide +kernel
theorem dX7_repay_49 : decode cX7_repay 49 = .ok (.iconst 3, 1) := by decide +kernel
theorem dX7_repay_50 : decode cX7_repay 50 = .ok (.invokevirtual 28, 3) := by decide +kernel
theorem dX7_repay_53 : decode cX7_repay 53 = .ok (.ireturn, 1) := by decide +kernel
theorem dX7_repay_54 : decode cX7_repay 54 = .ok (.iload_n 2, 1) := by decide +kernel
theorem dX7_repay_55 : decode cX7_repay 55 = .ok (.aload_n 0, 1) := by decide +kernel
theorem dX7_repay_56 : decode cX7_repay 56 = .ok (.getfield 10, 3) := by decide +kernel
theorem dX7_repay_59 : decode cX7_repay 59 = .ok (.getfield 48, 3) := by decide +kernel
theorem dX7_repay_62 : decode cX7_repay 62 = .ok (.iload_n 1, 1) := by decide +kernel
theorem dX7_repay_63 : decode cX7_repay 63 = .ok (.iaload, 1) := by decide +kernel
theorem dX7_repay_64 : decode cX7_repay 64 = .ok (.aload_n 0, 1) := by decide +kernel
theorem dX7_repay_65 : decode cX7_repay 65 = .ok (.getfield 10, 3) := by decide +kernel
theorem dX7_repay_68 : decode cX7_repay 68 = .ok (.getfield 61, 3) := by decide +kernel
theorem dX7_repay_71 : decode cX7_repay 71 = .ok (.aload_n 0, 1) := by decide +kernel
theorem dX7_repay_72 : decode cX7_repay 72 = .ok (.getfield 10, 3) := by decide +kernel
theorem dX7_repay_75 : decode cX7_repay 75 = .ok (.getfield 42, 3) := by decide +kernel
theorem dX7_repay_78 : decode cX7_repay 78 = .ok (.iload_n 1, 1) := by decide +kernel
theorem dX7_repay_79 : decode cX7_repay 79 = .ok (.iaload, 1) := by decide +kernel
theorem dX7_repay_80 : decode cX7_repay 80 = .ok (.iaload, 1) := by decide +kernel
theorem dX7_repay_81 : decode cX7_repay 81 = .ok (.invokestatic 115, 3) := by decide +kernel
theorem dX7_repay_84 : decode cX7_repay 84 = .ok (.invokestatic 115, 3) := by decide +kernel
theorem dX7_repay_87 : decode cX7_repay 87 = .ok (.istore_n 3, 1) := by decide +kernel
theorem dX7_repay_88 : decode cX7_repay 88 = .ok (.aload_n 0, 1) := by decide +kernel
theorem dX7_repay_89 : decode cX7_repay 89 = .ok (.getfield 10, 3) := by decide +kernel
theorem dX7_repay_92 : decode cX7_repay 92 = .ok (.getfield 61, 3) := by decide +kernel
theorem dX7_repay_95 : decode cX7_repay 95 = .ok (.aload_n 0, 1) := by decide +kernel
theorem dX7_repay_96 : decode cX7_repay 96 = .ok (.getfield 10, 3) := by decide +kernel
theorem dX7_repay_99 : decode cX7_repay 99 = .ok (.getfield 42, 3) := by decide +kernel
theorem dX7_repay_102 : decode cX7_repay 102 = .ok (.iload_n 1, 1) := by decide +kernel
theorem dX7_repay_103 : decode cX7_repay 103 = .ok (.iaload, 1) := by decide +kernel
theorem dX7_repay_104 : decode cX7_repay 104 = .ok (.dup2, 1) := by decide +kernel
theorem dX7_repay_105 : decode cX7_repay 105 = .ok (.iaload, 1) := by decide +kernel
theorem dX7_repay_106 : decode cX7_repay 106 = .ok (.iload_n 3, 1) := by decide +kernel
theorem dX7_repay_107 : decode cX7_repay 107 = .ok (.isub, 1) := by decide +kernel
theorem dX7_repay_108 : decode cX7_repay 108 = .ok (.iastore, 1) := by decide +kernel
theorem dX7_repay_109 : decode cX7_repay 109 = .ok (.aload_n 0, 1) := by decide +kernel
theorem dX7_repay_110 : decode cX7_repay 110 = .ok (.getfield 10, 3) := by decide +kernel
theorem dX7_repay_113 : decode cX7_repay 113 = .ok (.getfield 48, 3) := by decide +kernel
theorem dX7_repay_116 : decode cX7_repay 116 = .ok (.iload_n 1, 1) := by decide +kernel
theorem dX7_repay_117 : decode cX7_repay 117 = .ok (.dup2, 1) := by decide +kernel
theorem dX7_repay_118 : decode cX7_repay 118 = .ok (.iaload, 1) := by decide +kernel
theorem dX7_repay_119 : decode cX7_repay 119 = .ok (.iload_n 3, 1) := by decide +kernel
theorem dX7_repay_120 : decode cX7_repay 120 = .ok (.isub, 1) := by decide +kernel
theorem dX7_repay_121 : decode cX7_repay 121 = .ok (.iastore, 1) := by decide +kernel
theorem dX7_repay_122 : decode cX7_repay 122 = .ok (.aload_n 0, 1) := by decide +kernel
theorem dX7_repay_123 : decode cX7_repay 123 = .ok (.getfield 10, 3) := by decide +kernel
theorem dX7_repay_126 : decode cX7_repay 126 = .ok (.iload_n 3, 1) := by decide +kernel
theorem dX7_repay_127 : decode cX7_repay 127 = .ok (.invokevirtual 99, 3) := by decide +kernel
theorem dX7_repay_130 : decode cX7_repay 130 = .ok (.aload_n 0, 1) := by decide +kernel
theorem dX7_repay_131 : decode cX7_repay 131 = .ok (.getfield 10, 3) := by decide +kernel
theorem dX7_repay_134 : decode cX7_repay 134 = .ok (.getfield 48, 3) := by decide +kernel
theorem dX7_repay_137 : decode cX7_repay 137 = .ok (.iload_n 1, 1) := by decide +kernel
theorem dX7_repay_138 : decode cX7_repay 138 = .ok (.iaload, 1) := by decide +kernel
theorem dX7_repay_139 : decode cX7_repay 139 = .ok (.ifCond .ne 13, 3) := by decide +kernel
theorem dX7_repay_142 : decode cX7_repay 142 = .ok (.aload_n 0, 1) := by decide +kernel
theorem dX7_repay_143 : decode cX7_repay 143 = .ok (.getfield 10, 3) := by decide +kernel
theorem dX7_repay_146 : decode cX7_repay 146 = .ok (.getfield 45, 3) := by decide +kernel
theorem dX7_repay_149 : decode cX7_repay 149 = .ok (.iload_n 1, 1) := by decide +kernel
theorem dX7_repay_150 : decode cX7_repay 150 = .ok (.iconst 1, 1) := by decide +kernel
theorem dX7_repay_151 : decode cX7_repay 151 = .ok (.iastore, 1) := by decide +kernel
theorem dX7_repay_152 : decode cX7_repay 152 = .ok (.iload_n 3, 1) := by decide +kernel
theorem dX7_repay_153 : decode cX7_repay 153 = .ok (.ireturn, 1) := by decide +kernel
theorem dX7_loanTold_0 : decode cX7_loanTold 0 = .ok (.iconst 5, 1) := by decide +kernel
theorem dX7_loanTold_1 : decode cX7_loanTold 1 = .ok (.newarray .int, 2) := by decide +kernel
theorem dX7_loanTold_3 : decode cX7_loanTold 3 = .ok (.dup, 1) := by decide +kernel
theorem dX7_loanTold_4 : decode cX7_loanTold 4 = .ok (.iconst 0, 1) := by decide +kernel
theorem dX7_loanTold_5 : decode cX7_loanTold 5 = .ok (.aload_n 0, 1) := by decide +kernel
theorem dX7_loanTold_6 : decode cX7_loanTold 6 = .ok (.getfield 10, 3) := by decide +kernel
theorem dX7_loanTold_9 : decode cX7_loanTold 9 = .ok (.getfield 42, 3) := by decide +kernel
theorem dX7_loanTold_12 : decode cX7_loanTold 12 = .ok (.iload_n 1, 1) := by decide +kernel
theorem dX7_loanTold_13 : decode cX7_loanTold 13 = .ok (.iaload, 1) := by decide +kernel
theorem dX7_loanTold_14 : decode cX7_loanTold 14 = .ok (.iastore, 1) := by decide +kernel
theorem dX7_loanTold_15 : decode cX7_loanTold 15 = .ok (.dup, 1) := by decide +kernel
theorem dX7_loanTold_16 : decode cX7_loanTold 16 = .ok (.iconst 1, 1) := by decide +kernel
theorem dX7_loanTold_17 : decode cX7_loanTold 17 = .ok (.aload_n 0, 1) := by decide +kernel
theorem dX7_loanTold_18 : decode cX7_loanTold 18 = .ok (.getfield 10, 3) := by decide +kernel
theorem dX7_loanTold_21 : decode cX7_loanTold 21 = .ok (.getfield 48, 3) := by decide +kernel
theorem dX7_loanTold_24 : decode cX7_loanTold 24 = .ok (.iload_n 1, 1) := by decide +kernel
theorem dX7_loanTold_25 : decode cX7_loanTold 25 = .ok (.iaload, 1) := by decide +kernel
theorem dX7_loanTold_26 : decode cX7_loanTold 26 = .ok (.iastore, 1) := by decide +kernel
theorem dX7_loanTold_27 : decode cX7_loanTold 27 = .ok (.dup, 1) := by decide +kernel
theorem dX7_loanTold_28 : decode cX7_loanTold 28 = .ok (.iconst 2, 1) := by decide +kernel
theorem dX7_loanTold_29 : decode cX7_loanTold 29 = .ok (.aload_n 0, 1) := by decide +kernel
theorem dX7_loanTold_30 : decode cX7_loanTold 30 = .ok (.getfield 10, 3) := by decide +kernel
theorem dX7_loanTold_33 : decode cX7_loanTold 33 = .ok (.getfield 103, 3) := by decide +kernel
theorem dX7_loanTold_36 : decode cX7_loanTold 36 = .ok (.iload_n 1, 1) := by decide +kernel
theorem dX7_loanTold_37 : decode cX7_loanTold 37 = .ok (.iaload, 1) := by decide +kernel
theorem dX7_loanTold_38 : decode cX7_loanTold 38 = .ok (.iastore, 1) := by decide +kernel
theorem dX7_loanTold_39 : decode cX7_loanTold 39 = .ok (.dup, 1) := by decide +kernel
theorem dX7_loanTold_40 : decode cX7_loanTold 40 = .ok (.iconst 3, 1) := by decide +kernel
theorem dX7_loanTold_41 : decode cX7_loanTold 41 = .ok (.aload_n 0, 1) := by decide +kernel
theorem dX7_loanTold_42 : decode cX7_loanTold 42 = .ok (.getfield 10, 3) := by decide +kernel
theorem dX7_loanTold_45 : decode cX7_loanTold 45 = .ok (.getfield 106, 3) := by decide +kernel
theorem dX7_loanTold_48 : decode cX7_loanTold 48 = .ok (.iload_n 1, 1) := by decide +kernel
theorem dX7_loanTold_49 : decode cX7_loanTold 49 = .ok (.iaload, 1) := by decide +kernel
theorem dX7_loanTold_50 : decode cX7_loanTold 50 = .ok (.iastore, 1) := by decide +kernel
theorem dX7_loanTold_51 : decode cX7_loanTold 51 = .ok (.dup, 1) := by decide +kernel
theorem dX7_loanTold_52 : decode cX7_loanTold 52 = .ok (.iconst 4, 1) := by decide +kernel
theorem dX7_loanTold_53 : decode cX7_loanTold 53 = .ok (.aload_n 0, 1) := by decide +kernel
theorem dX7_loanTold_54 : decode cX7_loanTold 54 = .ok (.getfield 10, 3) := by decide +kernel
theorem dX7_loanTold_57 : decode cX7_loanTold 57 = .ok (.getfield 45, 3) := by decide +kernel
theorem dX7_loanTold_60 : decode cX7_loanTold 60 = .ok (.iload_n 1, 1) := by decide +kernel
theorem dX7_loanTold_61 : decode cX7_loanTold 61 = .ok (.iaload, 1) := by decide +kernel
theorem dX7_loanTold_62 : decode cX7_loanTold 62 = .ok (.iastore, 1) := by decide +kernel
theorem dX7_loanTold_63 : decode cX7_loanTold 63 = .ok (.astore_n 3, 1) := by decide +kernel
theorem dX7_loanTold_64 : decode cX7_loanTold 64 = .ok (.aload_n 3, 1) := by decide +kernel
theorem dX7_loanTold_65 : decode cX7_loanTold 65 = .ok (.iload_n 2, 1) := by decide +kernel
theorem dX7_loanTold_66 : decode cX7_loanTold 66 = .ok (.iaload, 1) := by decide +kernel
theorem dX7_loanTold_67 : decode cX7_loanTold 67 = .ok (.ireturn, 1) := by decide +kernel
theorem dX7_loan_0 : decode cX7_loan 0 = .ok (.aload_n 0, 1) := by decide +kernel
theorem dX7_loan_1 : decode cX7_loan 1 = .ok (.iconst 0, 1) := by decide +kernel
theorem dX7_loan_2 : decode cX7_loan 2 = .ok (.putfield 19, 3) := by decide +kernel
theorem dX7_loan_5 : decode cX7_loan 5 = .ok (.aload_n 0, 1) := by decide +kernel
theorem dX7_loan_6 : decode cX7_loan 6 = .ok (.iload_n 1, 1) := by decide +kernel
theorem dX7_loan_7 : decode cX7_loan 7 = .ok (.invokevirtual 112, 3) := by decide +kernel
theorem dX7_loan_10 : decode cX7_loan 10 = .ok (.ifCond .eq 21, 3) := by decide +kernel
theorem dX7_loan_13 : decode cX7_loan 13 = .ok (.iload_n 2, 1) := by decide +kernel
theorem dX7_loan_14 : decode cX7_loan 14 = .ok (.iconst 0, 1) := by decide +kernel
theorem dX7_loan_15 : decode cX7_loan 15 = .ok (.iconst 4, 1) := by decide +kernel
theorem dX7_loan_16 : decode cX7_loan 16 = .ok (.invokestatic 24, 3) := by decide +kernel
theorem dX7_loan_19 : decode cX7_loan 19 = .ok (.ifCond .eq 12, 3) := by decide +kernel
theorem dX7_loan_22 : decode cX7_loan 22 = .ok (.aload_n 0, 1) := by decide +kernel
theorem dX7_loan_23 : decode cX7_loan 23 = .ok (.iload_n 1, 1) := by decide +kernel
theorem dX7_loan_24 : decode cX7_loan 24 = .ok (.iload_n 2, 1) := by decide +kernel
theorem dX7_loan_25 : decode cX7_loan 25 = .ok (.invokevirtual 120, 3) := by decide +kernel
theorem dX7_loan_28 : decode cX7_loan 28 = .ok (.goto 8, 3) := by decide +kernel
theorem dX7_loan_31 : decode cX7_loan 31 = .ok (.aload_n 0, 1) := by decide +kernel
theorem dX7_loan_32 : decode cX7_loan 32 = .ok (.iconst 1, 1) := by decide +kernel
theorem dX7_loan_33 : decode cX7_loan 33 = .ok (.invokevirtual 28, 3) := by decide +kernel
theorem dX7_loan_36 : decode cX7_loan 36 = .ok (.ireturn, 1) := by decide +kernel
theorem dX7_begin_0 : decode cX7_begin 0 = .ok (.aload_n 0, 1) := by decide +kernel
theorem dX7_begin_1 : decode cX7_begin 1 = .ok (.iconst 0, 1) := by decide +kernel
theorem dX7_begin_2 : decode cX7_begin 2 = .ok (.putfield 19, 3) := by decide +kernel
theorem dX7_begin_5 : decode cX7_begin 5 = .ok (.aload_n 0, 1) := by decide +kernel
theorem dX7_begin_6 : decode cX7_begin 6 = .ok (.iload_n 1, 1) := by decide +kernel
theorem dX7_begin_7 : decode cX7_begin 7 = .ok (.invokevirtual 83, 3) := by decide +kernel
theorem dX7_begin_10 : decode cX7_begin 10 = .ok (.ifCond .eq 11, 3) := by decide +kernel
theorem dX7_begin_13 : decode cX7_begin 13 = .ok (.aload_n 0, 1) := by decide +kernel
theorem dX7_begin_14 : decode cX7_begin 14 = .ok (.iload_n 2, 1) := by decide +kernel
theorem dX7_begin_15 : decode cX7_begin 15 = .ok (.invokevirtual 83, 3) := by decide +kernel
theorem dX7_begin_18 : decode cX7_begin 18 = .ok (.ifCond .ne 9, 3) := by decide +kernel
theorem dX7_begin_21 : decode cX7_begin 21 = .ok (.aload_n 0, 1) := by decide +kernel
theorem dX7_begin_22 : decode cX7_begin 22 = .ok (.iconst 1, 1) := by decide +kernel
theorem dX7_begin_23 : decode cX7_begin 23 = .ok (.invokevirtual 28, 3) := by decide +kernel
theorem dX7_begin_26 : decode cX7_begin 26 = .ok (.ireturn, 1) := by decide +kernel
theorem dX7_begin_27 : decode cX7_begin 27 = .ok (.iload_n 1, 1) := by decide +kernel
theorem dX7_begin_28 : decode cX7_begin 28 = .ok (.iload_n 2, 1) := by decide +kernel
theorem dX7_begin_29 : decode cX7_begin 29 = .ok (.if_icmp .eq 48, 3) := by decide +kernel
theorem dX7_begin_32 : decode cX7_begin 32 = .ok (.iload_n 3, 1) := by decide +kernel
theorem dX7_begin_33 : decode cX7_begin 33 = .ok (.iconst 1, 1) := by decide +kernel
theorem dX7_begin_34 : decode cX7_begin 34 = .ok (.sipush 7200, 3) := by decide +kernel
theorem dX7_begin_37 : decode cX7_begin 37 = .ok (.invokestatic 24, 3) := by decide +kernel
theorem dX7_begin_40 : decode cX7_begin 40 = .ok (.ifCond .eq 37, 3) := by decide +kernel
theorem dX7_begin_43 : decode cX7_begin 43 = .ok (.iload 4, 2) := by decide +kernel
theorem dX7_begin_45 : decode cX7_begin 45 = .ok (.iconst 0, 1) := by decide +kernel
theorem dX7_begin_46 : decode cX7_begin 46 = .ok (.bipush 30, 2) := by decide +kernel
theorem dX7_begin_48 : decode cX7_begin 48 = .ok (.invokestatic 24, 3) := by decide +kernel
theorem dX7_begin_51 : decode cX7_begin 51 = .ok (.ifCond .eq 26, 3) := by decide +kernel
theorem dX7_begin_54 : decode cX7_begin 54 = .ok (.iload 5, 2) := by decide +kernel
theorem dX7_begin_56 : decode cX7_begin 56 = .ok (.iconst 0, 1) := by decide +kernel
theorem dX7_begin_57 : decode cX7_begin 57 = .ok (.bipush 30, 2) := by decide +kernel
theorem dX7_begin_59 : decode cX7_begin 59 = .ok (.invokestatic 24, 3) := by decide +kernel
theorem dX7_begin_62 : decode cX7_begin 62 = .ok (.ifCond .eq 15, 3) := by decide +kernel
theorem dX7_begin_65 : decode cX7_begin 65 = .ok (.iload 6, 2) := by decide +kernel
theorem dX7_begin_67 : decode cX7_begin 67 = .ok (.iconst 0, 1) := by decide +kernel
theorem dX7_begin_68 : decode cX7_begin 68 = .ok (.sipush 10000, 3) := by decide +kernel
theorem dX7_begin_71 : decode cX7_begin 71 = .ok (.invokestatic 24, 3) := by decide +kernel
theorem dX7_begin_74 : decode cX7_begin 74 = .ok (.ifCond .ne 9, 3) := by decide +kernel
theorem dX7_begin_77 : decode cX7_begin 77 = .ok (.aload_n 0, 1) := by decide +kernel
theorem dX7_begin_78 : decode cX7_begin 78 = .ok (.iconst 2, 1) := by decide +kernel
theorem dX7_begin_79 : decode cX7_begin 79 = .ok (.invokevirtual 28, 3) := by decide +kernel
theorem dX7_begin_82 : decode cX7_begin 82 = .ok (.ireturn, 1) := by decide +kernel
theorem dX7_begin_83 : decode cX7_begin 83 = .ok (.aload_n 0, 1) := by decide +kernel
theorem dX7_begin_84 : decode cX7_begin 84 = .ok (.getfield 10, 3) := by decide +kernel
theorem dX7_begin_87 : decode cX7_begin 87 = .ok (.getfield 35, 3) := by decide +kernel
theorem dX7_begin_90 : decode cX7_begin 90 = .ok (.iload_n 1, 1) := by decide +kernel
theorem dX7_begin_91 : decode cX7_begin 91 = .ok (.iaload, 1) := by decide +kernel
theorem dX7_begin_92 : decode cX7_begin 92 = .ok (.iload 6, 2) := by decide +kernel
theorem dX7_begin_94 : decode cX7_begin 94 = .ok (.if_icmp .lt 29, 3) := by decide +kernel
theorem dX7_begin_97 : decode cX7_begin 97 = .ok (.aload_n 0, 1) := by decide +kernel
theorem dX7_begin_98 : decode cX7_begin 98 = .ok (.getfield 10, 3) := by decide +kernel
theorem dX7_begin_101 : decode cX7_begin 101 = .ok (.getfield 35, 3) := by decide +kernel
theorem dX7_begin_104 : decode cX7_begin 104 = .ok (.iload_n 2, 1) := by decide +kernel
theorem dX7_begin_105 : decode cX7_begin 105 = .ok (.iaload, 1) := by decide +kernel
theorem dX7_begin_106 : decode cX7_begin 106 = .ok (.iload 6, 2) := by decide +kernel
theorem dX7_begin_108 : decode cX7_begin 108 = .ok (.if_icmp .lt 15, 3) := by decide +kernel
theorem dX7_begin_111 : decode cX7_begin 111 = .ok (.aload_n 0, 1) := by decide +kernel
theorem dX7_begin_112 : decode cX7_begin 112 = .ok (.getfield 10, 3) := by decide +kernel
theorem dX7_begin_115 : decode cX7_begin 115 = .ok (.getfield 51, 3) := by decide +kernel
theorem dX7_begin_118 : decode cX7_begin 118 = .ok (.bipush 16, 2) := by decide +kernel
theorem dX7_begin_120 : decode cX7_begin 120 = .ok (.if_icmp .ne 9, 3) := by decide +kernel
theorem dX7_begin_123 : decode cX7_begin 123 = .ok (.aload_n 0, 1) := by decide +kernel
theorem dX7_begin_124 : decode cX7_begin 124 = .ok (.iconst 3, 1) := by decide +kernel
theorem dX7_begin_125 : decode cX7_begin 125 = .ok (.invokevirtual 28, 3) := by decide +kernel
theorem dX7_begin_128 : decode cX7_begin 128 = .ok (.ireturn, 1) := by decide +kernel
theorem dX7_begin_129 : decode cX7_begin 129 = .ok (.aload_n 0, 1) := by decide +kernel
theorem dX7_begin_130 : decode cX7_begin 130 = .ok (.getfield 10, 3) := by decide +kernel
theorem dX7_begin_133 : decode cX7_begin 133 = .ok (.getfield 51, 3) := by decide +kernel
theorem dX7_begin_136 : decode cX7_begin 136 = .ok (.istore 7, 2) := by decide +kernel
theorem dX7_begin_138 : decode cX7_begin 138 = .ok (.aload_n 0, 1) := by decide +kernel
theorem dX7_begin_139 : decode cX7_begin 139 = .ok (.getfield 10, 3) := by decide +kernel
theorem dX7_begin_142 : decode cX7_begin 142 = .ok (.getfield 35, 3) := by decide +kernel
theorem dX7_begin_145 : decode cX7_begin 145 = .ok (.iload_n 1, 1) := by decide +kernel
theorem dX7_begin_146 : decode cX7_begin 146 = .ok (.dup2, 1) := by decide +kernel
theorem dX7_begin_147 : decode cX7_begin 147 = .ok (.iaload, 1) := by decide +kernel
theorem dX7_begin_148 : decode cX7_begin 148 = .ok (.iload 6, 2) := by decide +kernel
theorem dX7_begin_150 : decode cX7_begin 150 = .ok (.isub, 1) := by decide +kernel
theorem dX7_begin_151 : decode cX7_begin 151 = .ok (.iastore, 1) := by decide +kernel
theorem dX7_begin_152 : decode cX7_begin 152 = .ok (.aload_n 0, 1) := by decide +kernel
theorem dX7_begin_153 : decode cX7_begin 153 = .ok (.getfield 10, 3) := by decide +kernel
theorem dX7_begin_156 : decode cX7_begin 156 = .ok (.getfield 35, 3) := by decide +kernel
theorem dX7_begin_159 : decode cX7_begin 159 = .ok (.iload_n 2, 1) := by decide +kernel
theorem dX7_begin_160 : decode cX7_begin 160 = .ok (.dup2, 1) := by decide +kernel
theorem dX7_begin_161 : decode cX7_begin 161 = .ok (.iaload, 1) := by decide +kernel
theorem dX7_begin_162 : decode cX7_begin 162 = .ok (.iload 6, 2) := by decide +kernel
theorem dX7_begin_164 : decode cX7_begin 164 = .ok (.isub, 1) := by decide +kernel
theorem dX7_begin_165 : decode cX7_begin 165 = .ok (.iastore, 1) := by decide +kernel
theorem dX7_begin_166 : decode cX7_begin 166 = .ok (.aload_n 0, 1) := by decide +kernel
theorem dX7_begin_167 : decode cX7_begin 167 = .ok (.getfield 10, 3) := by decide +kernel
theorem dX7_begin_170 : decode cX7_begin 170 = .ok (.getfield 58, 3) := by decide +kernel
theorem dX7_begin_173 : decode cX7_begin 173 = .ok (.iconst 2, 1) := by decide +kernel
theorem dX7_begin_174 : decode cX7_begin 174 = .ok (.iload 7, 2) := by decide +kernel
theorem dX7_begin_176 : decode cX7_begin 176 = .ok (.imul, 1) := by decide +kernel
theorem dX7_begin_177 : decode cX7_begin 177 = .ok (.iload_n 1, 1) := by decide +kernel
theorem dX7_begin_178 : decode cX7_begin 178 = .ok (.iastore, 1) := by decide +kernel
theorem dX7_begin_179 : decode cX7_begin 179 = .ok (.aload_n 0, 1) := by decide +kernel
theorem dX7_begin_180 : decode cX7_begin 180 = .ok (.getfield 10, 3) := by decide +kernel
theorem dX7_begin_183 : decode cX7_begin 183 = .ok (.getfield 58, 3) := by decide +kernel
theorem dX7_begin_186 : decode cX7_begin 186 = .ok (.iconst 2, 1) := by decide +kernel
theorem dX7_begin_187 : decode cX7_begin 187 = .ok (.iload 7, 2) := by decide +kernel
theorem dX7_begin_189 : decode cX7_begin 189 = .ok (.imul, 1) := by decide +kernel
theorem dX7_begin_190 : decode cX7_begin 190 = .ok (.iconst 1, 1) := by decide +kernel
theorem dX7_begin_191 : decode cX7_begin 191 = .ok (.iadd, 1) := by decide +kernel
theorem dX7_begin_192 : decode cX7_begin 192 = .ok (.iload_n 2, 1) := by decide +kernel
theorem dX7_begin_193 : decode cX7_begin 193 = .ok (.iastore, 1) := by decide +kernel
theorem dX7_begin_194 : decode cX7_begin 194 = .ok (.aload_n 0, 1) := by decide +kernel
theorem dX7_begin_195 : decode cX7_begin 195 = .ok (.getfield 10, 3) := by decide +kernel
theorem dX7_begin_198 : decode cX7_begin 198 = .ok (.getfield 123, 3) := by decide +kernel
theorem dX7_begin_201 : decode cX7_begin 201 = .ok (.iconst 2, 1) := by decide +kernel
theorem dX7_begin_202 : decode cX7_begin 202 = .ok (.iload 7, 2) := by decide +kernel
theorem dX7_begin_204 : decode cX7_begin 204 = .ok (.imul, 1) := by decide +kernel
theorem dX7_begin_205 : decode cX7_begin 205 = .ok (.iload_n 3, 1) := by decide +kernel
theorem dX7_begin_206 : decode cX7_begin 206 = .ok (.iastore, 1) := by decide +kernel
theorem dX7_begin_207 : decode cX7_begin 207 = .ok (.aload_n 0, 1) := by decide +kernel
theorem dX7_begin_208 : decode cX7_begin 208 = .ok (.getfield 10, 3) := by decide +kernel
theorem dX7_begin_211 : decode cX7_begin 211 = .ok (.getfield 123, 3) := by decide +kernel
theorem dX7_begin_214 : decode cX7_begin 214 = .ok (.iconst 2, 1) := by decide +kernel
theorem dX7_begin_215 : decode cX7_begin 215 = .ok (.iload 7, 2) := by decide +kernel
theorem dX7_begin_217 : decode cX7_begin 217 = .ok (.imul, 1) := by decide +kernel
theorem dX7_begin_218 : decode cX7_begin 218 = .ok (.iconst 1, 1) := by decide +kernel
theorem dX7_begin_219 : decode cX7_begin 219 = .ok (.iadd, 1) := by decide +kernel
theorem dX7_begin_220 : decode cX7_begin 220 = .ok (.iload_n 3, 1) := by decide +kernel
theorem dX7_begin_221 : decode cX7_begin 221 = .ok (.iastore, 1) := by decide +kernel
theorem dX7_begin_222 : decode cX7_begin 222 = .ok (.aload_n 0, 1) := by decide +kernel
theorem dX7_begin_223 : decode cX7_begin 223 = .ok (.getfield 10, 3) := by decide +kernel
theorem dX7_begin_226 : decode cX7_begin 226 = .ok (.getfield 126, 3) := by decide +kernel
theorem dX7_begin_229 : decode cX7_begin 229 = .ok (.iload 7, 2) := by decide +kernel
theorem dX7_begin_231 : decode cX7_begin 231 = .ok (.iload 4, 2) := by decide +kernel
theorem dX7_begin_233 : decode cX7_begin 233 = .ok (.iastore, 1) := by decide +kernel
theorem dX7_begin_234 : decode cX7_begin 234 = .ok (.aload_n 0, 1) := by decide +kernel
theorem dX7_begin_235 : decode cX7_begin 235 = .ok (.getfield 10, 3) := by decide +kernel
theorem dX7_begin_238 : decode cX7_begin 238 = .ok (.getfield 129, 3) := by decide +kernel
theorem dX7_begin_241 : decode cX7_begin 241 = .ok (.iload 7, 2) := by decide +kernel
theorem dX7_begin_243 : decode cX7_begin 243 = .ok (.iload 5, 2) := by decide +kernel
theorem dX7_begin_245 : decode cX7_begin 245 = .ok (.iastore, 1) := by decide +kernel
theorem dX7_begin_246 : decode cX7_begin 246 = .ok (.aload_n 0, 1) := by decide +kernel
theorem dX7_begin_247 : decode cX7_begin 247 = .ok (.getfield 10, 3) := by decide +kernel
theorem dX7_begin_250 : decode cX7_begin 250 = .ok (.getfield 132, 3) := by decide +kernel
theorem dX7_begin_253 : decode cX7_begin 253 = .ok (.iload 7, 2) := by decide +kernel
theorem dX7_begin_255 : decode cX7_begin 255 = .ok (.iload 6, 2) := by decide +kernel
theorem dX7_begin_257 : decode cX7_begin 257 = .ok (.iastore, 1) := by decide +kernel
theorem dX7_begin_258 : decode cX7_begin 258 = .ok (.aload_n 0, 1) := by decide +kernel
theorem dX7_begin_259 : decode cX7_begin 259 = .ok (.getfield 10, 3) := by decide +kernel
theorem dX7_begin_262 : decode cX7_begin 262 = .ok (.dup, 1) := by decide +kernel
theorem dX7_begin_263 : decode cX7_begin 263 = .ok (.getfield 51, 3) := by decide +kernel
theorem dX7_begin_266 : decode cX7_begin 266 = .ok (.iconst 1, 1) := by decide +kernel
theorem dX7_begin_267 : decode cX7_begin 267 = .ok (.iadd, 1) := by decide +kernel
theorem dX7_begin_268 : decode cX7_begin 268 = .ok (.putfield 51, 3) := by decide +kernel
theorem dX7_begin_271 : decode cX7_begin 271 = .ok (.iload 7, 2) := by decide +kernel
theorem dX7_begin_273 : decode cX7_begin 273 = .ok (.ireturn, 1) := by decide +kernel
theorem dX7_isGame_0 : decode cX7_isGame 0 = .ok (.iload_n 1, 1) := by decide +kernel
theorem dX7_isGame_1 : decode cX7_isGame 1 = .ok (.iconst 0, 1) := by decide +kernel
theorem dX7_isGame_2 : decode cX7_isGame 2 = .ok (.aload_n 0, 1) := by decide +kernel
theorem dX7_isGame_3 : decode cX7_isGame 3 = .ok (.getfield 10, 3) := by decide +kernel
theorem dX7_isGame_6 : decode cX7_isGame 6 = .ok (.getfield 51, 3) := by decide +kernel
theorem dX7_isGame_9 : decode cX7_isGame 9 = .ok (.iconst 1, 1) := by decide +kernel
theorem dX7_isGame_10 : decode cX7_isGame 10 = .ok (.isub, 1) := by decide +kernel
theorem dX7_isGame_11 : decode cX7_isGame 11 = .ok (.invokestatic 24, 3) := by decide +kernel
theorem dX7_isGame_14 : decode cX7_isGame 14 = .ok (.ireturn, 1) := by decide +kernel
theorem dX7_press_0 : decode cX7_press 0 = .ok (.aload_n 0, 1) := by decide +kernel
theorem dX7_press_1 : decode cX7_press 1 = .ok (.iconst 0, 1) := by decide +kernel
theorem dX7_press_2 : decode cX7_press 2 = .ok (.putfield 19, 3) := by decide +kernel
theorem dX7_press_5 : decode cX7_press 5 = .ok (.aload_n 0, 1) := by decide +kernel
theorem dX7_press_6 : decode cX7_press 6 = .ok (.iload_n 1, 1) := by decide +kernel
theorem dX7_press_7 : decode cX7_press 7 = .ok (.invokevirtual 135, 3) := by decide +kernel
theorem dX7_press_10 : decode cX7_press 10 = .ok (.ifCond .ne 9, 3) := by decide +kernel
theorem dX7_press_13 : decode cX7_press 13 = .ok (.aload_n 0, 1) := by decide +kernel
theorem dX7_press_14 : decode cX7_press 14 = .ok (.iconst 1, 1) := by decide +kernel
theorem dX7_press_15 : decode cX7_press 15 = .ok (.invokevirtual 28, 3) := by decide +kernel
theorem dX7_press_18 : decode cX7_press 18 = .ok (.ireturn, 1) := by decide +kernel
theorem dX7_press_19 : decode cX7_press 19 = .ok (.aload_n 0, 1) := by decide +kernel
theorem dX7_press_20 : decode cX7_press 20 = .ok (.getfield 10, 3) := by decide +kernel
theorem dX7_press_23 : decode cX7_press 23 = .ok (.iload_n 1, 1) := by decide +kernel
theorem dX7_press_24 : decode cX7_press 24 = .ok (.invokevirtual 54, 3) := by decide +kernel
theorem dX7_press_27 : decode cX7_press 27 = .ok (.ifCond .ne 9, 3) := by decide +kernel
theorem dX7_press_30 : decode cX7_press 30 = .ok (.aload_n 0, 1) := by decide +kernel
theorem dX7_press_31 : decode cX7_press 31 = .ok (.iconst 2, 1) := by decide +kernel
theorem dX7_press_32 : decode cX7_press 32 = .ok (.invokevirtual 28, 3) := by decide +kernel
theorem dX7_press_35 : decode cX7_press 35 = .ok (.ireturn, 1) := by decide +kernel
theorem dX7_press_36 : decode cX7_press 36 = .ok (.aload_n 0, 1) := by decide +kernel
theorem dX7_press_37 : decode cX7_press 37 = .ok (.getfield 10, 3) := by decide +kernel
theorem dX7_press_40 : decode cX7_press 40 = .ok (.getfield 123, 3) := by decide +kernel
theorem dX7_press_43 : decode cX7_press 43 = .ok (.iconst 2, 1) := by decide +kernel
theorem dX7_press_44 : decode cX7_press 44 = .ok (.iload_n 1, 1) := by decide +kernel
theorem dX7_press_45 : decode cX7_press 45 = .ok (.imul, 1) := by decide +kernel
theorem dX7_press_46 : decode cX7_press 46 = .ok (.aload_n 0, 1) := by decide +kernel
theorem dX7_press_47 : decode cX7_press 47 = .ok (.getfield 10, 3) := by decide +kernel
theorem dX7_press_50 : decode cX7_press 50 = .ok (.getfield 138, 3) := by decide +kernel
theorem dX7_press_53 : decode cX7_press 53 = .ok (.iload_n 1, 1) := by decide +kernel
theorem dX7_press_54 : decode cX7_press 54 = .ok (.iaload, 1) := by decide +kernel
theorem dX7_press_55 : decode cX7_press 55 = .ok (.iadd, 1) := by decide +kernel
theorem dX7_press_56 : decode cX7_press 56 = .ok (.dup2, 1) := by decide +kernel
theorem dX7_press_57 : decode cX7_press 57 = .ok (.iaload, 1) := by decide +kernel
theorem dX7_press_58 : decode cX7_press 58 = .ok (.aload_n 0, 1) := by decide +kernel
theorem dX7_press_59 : decode cX7_press 59 = .ok (.getfield 10, 3) := by decide +kernel
theorem dX7_press_62 : decode cX7_press 62 = .ok (.getfield 126, 3) := by decide +kernel
theorem dX7_press_65 : decode cX7_press 65 = .ok (.iload_n 1, 1) := by decide +kernel
theorem dX7_press_66 : decode cX7_press 66 = .ok (.iaload, 1) := by decide +kernel
theorem dX7_press_67 : decode cX7_press 67 = .ok (.iadd, 1) := by decide +kernel
theorem dX7_press_68 : decode cX7_press 68 = .ok (.iastore, 1) := by decide +kernel
theorem dX7_press_69 : decode cX7_press 69 = .ok (.aload_n 0, 1) := by decide +kernel
theorem dX7_press_70 : decode cX7_press 70 = .ok (.getfield 10, 3) := by decide +kernel
theorem dX7_press_73 : decode cX7_press 73 = .ok (.getfield 138, 3) := by decide +kernel
theorem dX7_press_76 : decode cX7_press 76 = .ok (.iload_n 1, 1) := by decide +kernel
theorem dX7_press_77 : decode cX7_press 77 = .ok (.iconst 1, 1) := by decide +kernel
theorem dX7_press_78 : decode cX7_press 78 = .ok (.aload_n 0, 1) := by decide +kernel
theorem dX7_press_79 : decode cX7_press 79 = .ok (.getfield 10, 3) := by decide +kernel
theorem dX7_press_82 : decode cX7_press 82 = .ok (.getfield 138, 3) := by decide +kernel
theorem dX7_press_85 : decode cX7_press 85 = .ok (.iload_n 1, 1) := by decide +kernel
theorem dX7_press_86 : decode cX7_press 86 = .ok (.iaload, 1) := by decide +kernel
theorem dX7_press_87 : decode cX7_press 87 = .ok (.isub, 1) := by decide +kernel
theorem dX7_press_88 : decode cX7_press 88 = .ok (.iastore, 1) := by decide +kernel
theorem dX7_press_89 : decode cX7_press 89 = .ok (.aload_n 0, 1) := by decide +kernel
theorem dX7_press_90 : decode cX7_press 90 = .ok (.getfield 10, 3) := by decide +kernel
theorem dX7_press_93 : decode cX7_press 93 = .ok (.getfield 141, 3) := by decide +kernel
theorem dX7_press_96 : decode cX7_press 96 = .ok (.iload_n 1, 1) := by decide +kernel
theorem dX7_press_97 : decode cX7_press 97 = .ok (.iconst 0, 1) := by decide +kernel
theorem dX7_press_98 : decode cX7_press 98 = .ok (.iastore, 1) := by decide +kernel
theorem dX7_press_99 : decode cX7_press 99 = .ok (.aload_n 0, 1) := by decide +kernel
theorem dX7_press_100 : decode cX7_press 100 = .ok (.getfield 10, 3) := by decide +kernel
theorem dX7_press_103 : decode cX7_press 103 = .ok (.getfield 144, 3) := by decide +kernel
theorem dX7_press_106 : decode cX7_press 106 = .ok (.iload_n 1, 1) := by decide +kernel
theorem dX7_press_107 : decode cX7_press 107 = .ok (.dup2, 1) := by decide +kernel
theorem dX7_press_108 : decode cX7_press 108 = .ok (.iaload, 1) := by decide +kernel
theorem dX7_press_109 : decode cX7_press 109 = .ok (.iconst 1, 1) := by decide +kernel
theorem dX7_press_110 : decode cX7_press 110 = .ok (.iadd, 1) := by decide +kernel
theorem dX7_press_111 : decode cX7_press 111 = .ok (.iastore, 1) := by decide +kernel
theorem dX7_press_112 : decode cX7_press 112 = .ok (.aload_n 0, 1) := by decide +kernel
theorem dX7_press_113 : decode cX7_press 113 = .ok (.getfield 10, 3) := by decide +kernel
theorem dX7_press_116 : decode cX7_press 116 = .ok (.getfield 144, 3) := by decide +kernel
theorem dX7_press_119 : decode cX7_press 119 = .ok (.iload_n 1, 1) := by decide +kernel
theorem dX7_press_120 : decode cX7_press 120 = .ok (.iaload, 1) := by decide +kernel
theorem dX7_press_121 : decode cX7_press 121 = .ok (.ireturn, 1) := by decide +kernel
theorem dX7_put_0 : decode cX7_put 0 = .ok (.aload_n 0, 1) := by decide +kernel
theorem dX7_put_1 : decode cX7_put 1 = .ok (.iconst 0, 1) := by decide +kernel
theorem dX7_put_2 : decode cX7_put 2 = .ok (.putfield 19, 3) := by decide +kernel
theorem dX7_put_5 : decode cX7_put 5 = .ok (.aload_n 0, 1) := by decide +kernel
theorem dX7_put_6 : decode cX7_put 6 = .ok (.iload_n 1, 1) := by decide +kernel
theorem dX7_put_7 : decode cX7_put 7 = .ok (.invokevirtual 135, 3) := by decide +kernel
theorem dX7_put_10 : decode cX7_put 10 = .ok (.ifCond .ne 9, 3) := by decide +kernel
theorem dX7_put_13 : decode cX7_put 13 = .ok (.aload_n 0, 1) := by decide +kernel
theorem dX7_put_14 : decode cX7_put 14 = .ok (.iconst 1, 1) := by decide +kernel
theorem dX7_put_15 : decode cX7_put 15 = .ok (.invokevirtual 28, 3) := by decide +kernel
theorem dX7_put_18 : decode cX7_put 18 = .ok (.ireturn, 1) := by decide +kernel
theorem dX7_put_19 : decode cX7_put 19 = .ok (.iload_n 2, 1) := by decide +kernel
theorem dX7_put_20 : decode cX7_put 20 = .ok (.iconst 0, 1) := by decide +kernel
theorem dX7_put_21 : decode cX7_put 21 = .ok (.iconst 1, 1) := by decide +kernel
theorem dX7_put_22 : decode cX7_put 22 = .ok (.invokestatic 24, 3) := by decide +kernel
theorem dX7_put_25 : decode cX7_put 25 = .ok (.ifCond .eq 14, 3) := by decide +kernel
theorem dX7_put_28 : decode cX7_put 28 = .ok (.iload_n 3, 1) := by decide +kernel
theorem dX7_put_29 : decode cX7_put 29 = .ok (.iconst 1, 1) := by decide +kernel
theorem dX7_put_30 : decode cX7_put 30 = .ok (.sipush 3600, 3) := by decide +kernel
theorem dX7_put_33 : decode cX7_put 33 = .ok (.invokestatic 24, 3) := by decide +kernel
theorem dX7_put_36 : decode cX7_put 36 = .ok (.ifCond .ne 9, 3) := by decide +kernel
theorem dX7_put_39 : decode cX7_put 39 = .ok (.aload_n 0, 1) := by decide +kernel
theorem dX7_put_40 : decode cX7_put 40 = .ok (.iconst 2, 1) := by decide +kernel
theorem dX7_put_41 : decode cX7_put 41 = .ok (.invokevirtual 28, 3) := by decide +kernel
theorem dX7_put_44 : decode cX7_put 44 = .ok (.ireturn, 1) := by decide +kernel
theorem dX7_put_45 : decode cX7_put 45 = .ok (.iconst 2, 1) := by decide +kernel
theorem dX7_put_46 : decode cX7_put 46 = .ok (.iload_n 1, 1) := by decide +kernel
theorem dX7_put_47 : decode cX7_put 47 = .ok (.imul, 1) := by decide +kernel
theorem dX7_put_48 : decode cX7_put 48 = .ok (.iload_n 2, 1) := by decide +kernel
theorem dX7_put_49 : decode cX7_put 49 = .ok (.iadd, 1) := by decide +kernel
theorem dX7_put_50 : decode cX7_put 50 = .ok (.istore 4, 2) := by decide +kernel
theorem dX7_put_52 : decode cX7_put 52 = .ok (.aload_n 0, 1) := by decide +kernel
theorem dX7_put_53 : decode cX7_put 53 = .ok (.getfield 10, 3) := by decide +kernel
theorem dX7_put_56 : decode cX7_put 56 = .ok (.iload_n 1, 1) := by decide +kernel
theorem dX7_put_57 : decode cX7_put 57 = .ok (.invokevirtual 54, 3) := by decide +kernel
theorem dX7_put_60 : decode cX7_put 60 = .ok (.ifCond .eq 25, 3) := by decide +kernel
theorem dX7_put_63 : decode cX7_put 63 = .ok (.aload_n 0, 1) := by decide +kernel
theorem dX7_put_64 : decode cX7_put 64 = .ok (.getfield 10, 3) := by decide +kernel
theorem dX7_put_67 : decode cX7_put 67 = .ok (.getfield 61, 3) := by decide +kernel
theorem dX7_put_70 : decode cX7_put 70 = .ok (.aload_n 0, 1) := by decide +kernel
theorem dX7_put_71 : decode cX7_put 71 = .ok (.getfield 10, 3) := by decide +kernel
theorem dX7_put_74 : decode cX7_put 74 = .ok (.getfield 58, 3) := by decide +kernel
theorem dX7_put_77 : decode cX7_put 77 = .ok (.iload 4, 2) := by decide +kernel
theorem dX7_put_79 : decode cX7_put 79 = .ok (.iaload, 1) := by decide +kernel
theorem dX7_put_80 : decode cX7_put 80 = .ok (.iaload, 1) := by decide +kernel
theorem dX7_put_81 : decode cX7_put 81 = .ok (.iload_n 3, 1) := by decide +kernel
theorem dX7_put_82 : decode cX7_put 82 = .ok (.if_icmp .ge 9, 3) := by decide +kernel
theorem dX7_put_85 : decode cX7_put 85 = .ok (.aload_n 0, 1) := by decide +kernel
theorem dX7_put_86 : decode cX7_put 86 = .ok (.iconst 3, 1) := by decide +kernel
theorem dX7_put_87 : decode cX7_put 87 = .ok (.invokevirtual 28, 3) := by decide +kernel
theorem dX7_put_90 : decode cX7_put 90 = .ok (.ireturn, 1) := by decide +kernel
theorem dX7_put_91 : decode cX7_put 91 = .ok (.aload_n 0, 1) := by decide +kernel
theorem dX7_put_92 : decode cX7_put 92 = .ok (.getfield 10, 3) := by decide +kernel
theorem dX7_put_95 : decode cX7_put 95 = .ok (.getfield 61, 3) := by decide +kernel
theorem dX7_put_98 : decode cX7_put 98 = .ok (.aload_n 0, 1) := by decide +kernel
theorem dX7_put_99 : decode cX7_put 99 = .ok (.getfield 10, 3) := by decide +kernel
theorem dX7_put_102 : decode cX7_put 102 = .ok (.getfield 58, 3) := by decide +kernel
theorem dX7_put_105 : decode cX7_put 105 = .ok (.iload 4, 2) := by decide +kernel
theorem dX7_put_107 : decode cX7_put 107 = .ok (.iaload, 1) := by decide +kernel
theorem dX7_put_108 : decode cX7_put 108 = .ok (.dup2, 1) := by decide +kernel
theorem dX7_put_109 : decode cX7_put 109 = .ok (.iaload, 1) := by decide +kernel
theorem dX7_put_110 : decode cX7_put 110 = .ok (.iload_n 3, 1) := by decide +kernel
theorem dX7_put_111 : decode cX7_put 111 = .ok (.isub, 1) := by decide +kernel
theorem dX7_put_112 : decode cX7_put 112 = .ok (.iastore, 1) := by decide +kernel
theorem dX7_put_113 : decode cX7_put 113 = .ok (.aload_n 0, 1) := by decide +kernel
theorem dX7_put_114 : decode cX7_put 114 = .ok (.getfield 10, 3) := by decide +kernel
theorem dX7_put_117 : decode cX7_put 117 = .ok (.getfield 123, 3) := by decide +kernel
theorem dX7_put_120 : decode cX7_put 120 = .ok (.iload 4, 2) := by decide +kernel
theorem dX7_put_122 : decode cX7_put 122 = .ok (.dup2, 1) := by decide +kernel
theorem dX7_put_123 : decode cX7_put 123 = .ok (.iaload, 1) := by decide +kernel
theorem dX7_put_124 : decode cX7_put 124 = .ok (.iload_n 3, 1) := by decide +kernel
theorem dX7_put_125 : decode cX7_put 125 = .ok (.iadd, 1) := by decide +kernel
theorem dX7_put_126 : decode cX7_put 126 = .ok (.iastore, 1) := by decide +kernel
theorem dX7_put_127 : decode cX7_put 127 = .ok (.aload_n 0, 1) := by decide +kernel
theorem dX7_put_128 : decode cX7_put 128 = .ok (.getfield 10, 3) := by decide +kernel
theorem dX7_put_131 : decode cX7_put 131 = .ok (.getfield 123, 3) := by decide +kernel
theorem dX7_put_134 : decode cX7_put 134 = .ok (.iload 4, 2) := by decide +kernel
theorem dX7_put_136 : decode cX7_put 136 = .ok (.iaload, 1) := by decide +kernel
theorem dX7_put_137 : decode cX7_put 137 = .ok (.ireturn, 1) := by decide +kernel
theorem dX7_steal_0 : decode cX7_steal 0 = .ok (.aload_n 0, 1) := by decide +kernel
theorem dX7_steal_1 : decode cX7_steal 1 = .ok (.iconst 0, 1) := by decide +kernel
theorem dX7_steal_2 : decode cX7_steal 2 = .ok (.putfield 19, 3) := by decide +kernel
theorem dX7_steal_5 : decode cX7_steal 5 = .ok (.aload_n 0, 1) := by decide +kernel
theorem dX7_steal_6 : decode cX7_steal 6 = .ok (.iload_n 1, 1) := by decide +kernel
theorem dX7_steal_7 : decode cX7_steal 7 = .ok (.invokevirtual 135, 3) := by decide +kernel
theorem dX7_steal_10 : decode cX7_steal 10 = .ok (.ifCond .ne 9, 3) := by decide +kernel
theorem dX7_steal_13 : decode cX7_steal 13 = .ok (.aload_n 0, 1) := by decide +kernel
theorem dX7_steal_14 : decode cX7_steal 14 = .ok (.iconst 1, 1) := by decide +kernel
theorem dX7_steal_15 : decode cX7_steal 15 = .ok (.invokevirtual 28, 3) := by decide +kernel
theorem dX7_steal_18 : decode cX7_steal 18 = .ok (.ireturn, 1) := by decide +kernel
theorem dX7_steal_19 : decode cX7_steal 19 = .ok (.iload_n 2, 1) := by decide +kernel
theorem dX7_steal_20 : decode cX7_steal 20 = .ok (.iconst 0, 1) := by decide +kernel
theorem dX7_steal_21 : decode cX7_steal 21 = .ok (.iconst 1, 1) := by decide +kernel
theorem dX7_steal_22 : decode cX7_steal 22 = .ok (.invokestatic 24, 3) := by decide +kernel
theorem dX7_steal_25 : decode cX7_steal 25 = .ok (.ifCond .eq 13, 3) := by decide +kernel
theorem dX7_steal_28 : decode cX7_steal 28 = .ok (.iload_n 3, 1) := by decide +kernel
theorem dX7_steal_29 : decode cX7_steal 29 = .ok (.iconst 1, 1) := by decide +kernel
theorem dX7_steal_30 : decode cX7_steal 30 = .ok (.bipush 20, 2) := by decide +kernel
theorem dX7_steal_32 : decode cX7_steal 32 = .ok (.invokestatic 24, 3) := by decide +kernel
theorem dX7_steal_35 : decode cX7_steal 35 = .ok (.ifCond .ne 9, 3) := by decide +kernel
theorem dX7_steal_38 : decode cX7_steal 38 = .ok (.aload_n 0, 1) := by decide +kernel
theorem dX7_steal_39 : decode cX7_steal 39 = .ok (.iconst 2, 1) := by decide +kernel
theorem dX7_steal_40 : decode cX7_steal 40 = .ok (.invokevirtual 28, 3) := by decide +kernel
theorem dX7_steal_43 : decode cX7_steal 43 = .ok (.ireturn, 1) := by decide +kernel
theorem dX7_steal_44 : decode cX7_steal 44 = .ok (.aload_n 0, 1) := by decide +kernel
theorem dX7_steal_45 : decode cX7_steal 45 = .ok (.getfield 10, 3) := by decide +kernel
theorem dX7_steal_48 : decode cX7_steal 48 = .ok (.iload_n 1, 1) := by decide +kernel
theorem dX7_steal_49 : decode cX7_steal 49 = .ok (.invokevirtual 54, 3) := by decide +kernel
theorem dX7_steal_52 : decode cX7_steal 52 = .ok (.ifCond .eq 16, 3) := by decide +kernel
theorem dX7_steal_55 : decode cX7_steal 55 = .ok (.aload_n 0, 1) := by decide +kernel
theorem dX7_steal_56 : decode cX7_steal 56 = .ok (.getfield 10, 3) := by decide +kernel
theorem dX7_steal_59 : decode cX7_steal 59 = .ok (.getfield 138, 3) := by decide +kernel
theorem dX7_steal_62 : decode cX7_steal 62 = .ok (.iload_n 1, 1) := by decide +kernel
theorem dX7_steal_63 : decode cX7_steal 63 = .ok (.iaload, 1) := by decide +kernel
theorem dX7_steal_64 : decode cX7_steal 64 = .ok (.iload_n 2, 1) := by decide +kernel
theorem dX7_steal_65 : decode cX7_steal 65 = .ok (.if_icmp .ne 9, 3) := by decide +kernel
theorem dX7_steal_68 : decode cX7_steal 68 = .ok (.aload_n 0, 1) := by decide +kernel
theorem dX7_steal_69 : decode cX7_steal 69 = .ok (.iconst 3, 1) := by decide +kernel
theorem dX7_steal_70 : decode cX7_steal 70 = .ok (.invokevirtual 28, 3) := by decide +kernel
theorem dX7_steal_73 : decode cX7_steal 73 = .ok (.ireturn, 1) := by decide +kernel
theorem dX7_steal_74 : decode cX7_steal 74 = .ok (.iconst 2, 1) := by decide +kernel
theorem dX7_steal_75 : decode cX7_steal 75 = .ok (.iload_n 1, 1) := by decide +kernel
theorem dX7_steal_76 : decode cX7_steal 76 = .ok (.imul, 1) := by decide +kernel
theorem dX7_steal_77 : decode cX7_steal 77 = .ok (.iload_n 2, 1) := by decide +kernel
theorem dX7_steal_78 : decode cX7_steal 78 = .ok (.iadd, 1) := by decide +kernel
theorem dX7_steal_79 : decode cX7_steal 79 = .ok (.istore 4, 2) := by decide +kernel
theorem dX7_steal_81 : decode cX7_steal 81 = .ok (.iload_n 3, 1) := by decide +kernel
theorem dX7_steal_82 : decode cX7_steal 82 = .ok (.aload_n 0, 1) := by decide +kernel
theorem dX7_steal_83 : decode cX7_steal 83 = .ok (.getfield 10, 3) := by decide +kernel
theorem dX7_steal_86 : decode cX7_steal 86 = .ok (.getfield 123, 3) := by decide +kernel
theorem dX7_steal_89 : decode cX7_steal 89 = .ok (.iconst 2, 1) := by decide +kernel
theorem dX7_steal_90 : decode cX7_steal 90 = .ok (.iload_n 1, 1) := by decide +kernel
theorem dX7_steal_91 : decode cX7_steal 91 = .ok (.imul, 1) := by decide +kernel
theorem dX7_steal_92 : decode cX7_steal 92 = .ok (.iconst 1, 1) := by decide +kernel
theorem dX7_steal_93 : decode cX7_steal 93 = .ok (.iadd, 1) := by decide +kernel
theorem dX7_steal_94 : decode cX7_steal 94 = .ok (.iload_n 2, 1) := by decide +kernel
theorem dX7_steal_95 : decode cX7_steal 95 = .ok (.isub, 1) := by decide +kernel
theorem dX7_steal_96 : decode cX7_steal 96 = .ok (.iaload, 1) := by decide +kernel
theorem dX7_steal_97 : decode cX7_steal 97 = .ok (.iconst 1, 1) := by decide +kernel
theorem dX7_steal_98 : decode cX7_steal 98 = .ok (.isub, 1) := by decide +kernel
theorem dX7_steal_99 : decode cX7_steal 99 = .ok (.invokestatic 115, 3) := by decide +kernel
theorem dX7_steal_102 : decode cX7_steal 102 = .ok (.istore 5, 2) := by decide +kernel
theorem dX7_steal_104 : decode cX7_steal 104 = .ok (.aload_n 0, 1) := by decide +kernel
theorem dX7_steal_105 : decode cX7_steal 105 = .ok (.getfield 10, 3) := by decide +kernel
theorem dX7_steal_108 : decode cX7_steal 108 = .ok (.getfield 123, 3) := by decide +kernel
theorem dX7_steal_111 : decode cX7_steal 111 = .ok (.iconst 2, 1) := by decide +kernel
theorem dX7_steal_112 : decode cX7_steal 112 = .ok (.iload_n 1, 1) := by decide +kernel
theorem dX7_steal_113 : decode cX7_steal 113 = .ok (.imul, 1) := by decide +kernel
theorem dX7_steal_114 : decode cX7_steal 114 = .ok (.iconst 1, 1) := by decide +kernel
theorem dX7_steal_115 : decode cX7_steal 115 = .ok (.iadd, 1) := by decide +kernel
theorem dX7_steal_116 : decode cX7_steal 116 = .ok (.iload_n 2, 1) := by decide +kernel
theorem dX7_steal_117 : decode cX7_steal 117 = .ok (.isub, 1) := by decide +kernel
theorem dX7_steal_118 : decode cX7_steal 118 = .ok (.dup2, 1) := by decide +kernel
theorem dX7_steal_119 : decode cX7_steal 119 = .ok (.iaload, 1) := by decide +kernel
theorem dX7_steal_120 : decode cX7_steal 120 = .ok (.iload 5, 2) := by decide +kernel
theorem dX7_steal_122 : decode cX7_steal 122 = .ok (.isub, 1) := by decide +kernel
theorem dX7_steal_123 : decode cX7_steal 123 = .ok (.iastore, 1) := by decide +kernel
theorem dX7_steal_124 : decode cX7_steal 124 = .ok (.aload_n 0, 1) := by decide +kernel
theorem dX7_steal_125 : decode cX7_steal 125 = .ok (.getfield 10, 3) := by decide +kernel
theorem dX7_steal_128 : decode cX7_steal 128 = .ok (.getfield 123, 3) := by decide +kernel
theorem dX7_steal_131 : decode cX7_steal 131 = .ok (.iload 4, 2) := by decide +kernel
theorem dX7_steal_133 : decode cX7_steal 133 = .ok (.dup2, 1) := by decide +kernel
theorem dX7_steal_134 : decode cX7_steal 134 = .ok (.iaload, 1) := by decide +kernel
theorem dX7_steal_135 : decode cX7_steal 135 = .ok (.iload 5, 2) := by decide +kernel
theorem dX7_steal_137 : decode cX7_steal 137 = .ok (.iadd, 1) := by decide +kernel
theorem dX7_steal_138 : decode cX7_steal 138 = .ok (.iastore, 1) := by decide +kernel
theorem dX7_steal_139 : decode cX7_steal 139 = .ok (.aload_n 0, 1) := by decide +kernel
theorem dX7_steal_140 : decode cX7_steal 140 = .ok (.getfield 10, 3) := by decide +kernel
theorem dX7_steal_143 : decode cX7_steal 143 = .ok (.getfield 147, 3) := by decide +kernel
theorem dX7_steal_146 : decode cX7_steal 146 = .ok (.iload 4, 2) := by decide +kernel
theorem dX7_steal_148 : decode cX7_steal 148 = .ok (.dup2, 1) := by decide +kernel
theorem dX7_steal_149 : decode cX7_steal 149 = .ok (.iaload, 1) := by decide +kernel
theorem dX7_steal_150 : decode cX7_steal 150 = .ok (.iload 5, 2) := by decide +kernel
theorem dX7_steal_152 : decode cX7_steal 152 = .ok (.iadd, 1) := by decide +kernel
theorem dX7_steal_153 : decode cX7_steal 153 = .ok (.iastore, 1) := by decide +kernel
theorem dX7_steal_154 : decode cX7_steal 154 = .ok (.iload 5, 2) := by decide +kernel
theorem dX7_steal_156 : decode cX7_steal 156 = .ok (.ireturn, 1) := by decide +kernel
theorem dX7_end_0 : decode cX7_end 0 = .ok (.aload_n 0, 1) := by decide +kernel
theorem dX7_end_1 : decode cX7_end 1 = .ok (.iconst 0, 1) := by decide +kernel
theorem dX7_end_2 : decode cX7_end 2 = .ok (.putfield 19, 3) := by decide +kernel
theorem dX7_end_5 : decode cX7_end 5 = .ok (.aload_n 0, 1) := by decide +kernel
theorem dX7_end_6 : decode cX7_end 6 = .ok (.iload_n 1, 1) := by decide +kernel
theorem dX7_end_7 : decode cX7_end 7 = .ok (.invokevirtual 135, 3) := by decide +kernel
theorem dX7_end_10 : decode cX7_end 10 = .ok (.ifCond .ne 9, 3) := by decide +kernel
theorem dX7_end_13 : decode cX7_end 13 = .ok (.aload_n 0, 1) := by decide +kernel
theorem dX7_end_14 : decode cX7_end 14 = .ok (.iconst 1, 1) := by decide +kernel
theorem dX7_end_15 : decode cX7_end 15 = .ok (.invokevirtual 28, 3) := by decide +kernel
theorem dX7_end_18 : decode cX7_end 18 = .ok (.ireturn, 1) := by decide +kernel
theorem dX7_end_19 : decode cX7_end 19 = .ok (.iload_n 2, 1) := by decide +kernel
theorem dX7_end_20 : decode cX7_end 20 = .ok (.iconst (-1), 1) := by decide +kernel
theorem dX7_end_21 : decode cX7_end 21 = .ok (.iconst 1, 1) := by decide +kernel
theorem dX7_end_22 : decode cX7_end 22 = .ok (.invokestatic 24, 3) := by decide +kernel
theorem dX7_end_25 : decode cX7_end 25 = .ok (.ifCond .ne 9, 3) := by decide +kernel
theorem dX7_end_28 : decode cX7_end 28 = .ok (.aload_n 0, 1) := by decide +kernel
theorem dX7_end_29 : decode cX7_end 29 = .ok (.iconst 2, 1) := by decide +kernel
theorem dX7_end_30 : decode cX7_end 30 = .ok (.invokevirtual 28, 3) := by decide +kernel
theorem dX7_end_33 : decode cX7_end 33 = .ok (.ireturn, 1) := by decide +kernel
theorem dX7_end_34 : decode cX7_end 34 = .ok (.aload_n 0, 1) := by decide +kernel
theorem dX7_end_35 : decode cX7_end 35 = .ok (.getfield 10, 3) := by decide +kernel
theorem dX7_end_38 : decode cX7_end 38 = .ok (.iload_n 1, 1) := by decide +kernel
theorem dX7_end_39 : decode cX7_end 39 = .ok (.invokevirtual 54, 3) := by decide +kernel
theorem dX7_end_42 : decode cX7_end 42 = .ok (.ifCond .ne 9, 3) := by decide +kernel
theorem dX7_end_45 : decode cX7_end 45 = .ok (.aload_n 0, 1) := by decide +kernel
theorem dX7_end_46 : decode cX7_end 46 = .ok (.iconst 3, 1) := by decide +kernel
theorem dX7_end_47 : decode cX7_end 47 = .ok (.invokevirtual 28, 3) := by decide +kernel
theorem dX7_end_50 : decode cX7_end 50 = .ok (.ireturn, 1) := by decide +kernel
theorem dX7_end_51 : decode cX7_end 51 = .ok (.iload_n 2, 1) := by decide +kernel
theorem dX7_end_52 : decode cX7_end 52 = .ok (.ifCond .lt 15, 3) := by decide +kernel
theorem dX7_end_55 : decode cX7_end 55 = .ok (.aload_n 0, 1) := by decide +kernel
theorem dX7_end_56 : decode cX7_end 56 = .ok (.getfield 10, 3) := by decide +kernel
theorem dX7_end_59 : decode cX7_end 59 = .ok (.iload_n 1, 1) := by decide +kernel
theorem dX7_end_60 : decode cX7_end 60 = .ok (.iconst 1, 1) := by decide +kernel
theorem dX7_end_61 : decode cX7_end 61 = .ok (.iload_n 2, 1) := by decide +kernel
theorem dX7_end_62 : decode cX7_end 62 = .ok (.isub, 1) := by decide +kernel
theorem dX7_end_63 : decode cX7_end 63 = .ok (.invokevirtual 150, 3) := by decide +kernel
theorem dX7_end_66 : decode cX7_end 66 = .ok (.ireturn, 1) := by decide +kernel
theorem dX7_end_67 : decode cX7_end 67 = .ok (.aload_n 0, 1) := by decide +kernel
theorem dX7_end_68 : decode cX7_end 68 = .ok (.getfield 10, 3) := by decide +kernel
theorem dX7_end_71 : decode cX7_end 71 = .ok (.iload_n 1, 1) := by decide +kernel
theorem dX7_end_72 : decode cX7_end 72 = .ok (.invokevirtual 153, 3) := by decide +kernel
theorem dX7_end_75 : decode cX7_end 75 = .ok (.iconst 0, 1) := by decide +kernel
theorem dX7_end_76 : decode cX7_end 76 = .ok (.ireturn, 1) := by decide +kernel
theorem dX7_gameTold_0 : decode cX7_gameTold 0 = .ok (.iload_n 2, 1) := by decide +kernel
theorem dX7_gameTold_1 : decode cX7_gameTold 1 = .ok (.iconst 2, 1) := by decide +kernel
theorem dX7_gameTold_2 : decode cX7_gameTold 2 = .ok (.if_icmp .ge 17, 3) := by decide +kernel
theorem dX7_gameTold_5 : decode cX7_gameTold 5 = .ok (.aload_n 0, 1) := by decide +kernel
theorem dX7_gameTold_6 : decode cX7_gameTold 6 = .ok (.getfield 10, 3) := by decide +kernel
theorem dX7_gameTold_9 : decode cX7_gameTold 9 = .ok (.getfield 58, 3) := by decide +kernel
theorem dX7_gameTold_12 : decode cX7_gameTold 12 = .ok (.iconst 2, 1) := by decide +kernel
theorem dX7_gameTold_13 : decode cX7_gameTold 13 = .ok (.iload_n 1, 1) := by decide +kernel
theorem dX7_gameTold_14 : decode cX7_gameTold 14 = .ok (.imul, 1) := by decide +kernel
theorem dX7_gameTold_15 : decode cX7_gameTold 15 = .ok (.iload_n 2, 1) := by decide +kernel
theorem dX7_gameTold_16 : decode cX7_gameTold 16 = .ok (.iadd, 1) := by decide +kernel
theorem dX7_gameTold_17 : decode cX7_gameTold 17 = .ok (.iaload, 1) := by decide +kernel
theorem dX7_gameTold_18 : decode cX7_gameTold 18 = .ok (.ireturn, 1) := by decide +kernel
theorem dX7_gameTold_19 : decode cX7_gameTold 19 = .ok (.iload_n 2, 1) := by decide +kernel
theorem dX7_gameTold_20 : decode cX7_gameTold 20 = .ok (.iconst 4, 1) := by decide +kernel
theorem dX7_gameTold_21 : decode cX7_gameTold 21 = .ok (.if_icmp .ge 19, 3) := by decide +kernel
theorem dX7_gameTold_24 : decode cX7_gameTold 24 = .ok (.aload_n 0, 1) := by decide +kernel
theorem dX7_gameTold_25 : decode cX7_gameTold 25 = .ok (.getfield 10, 3) := by decide +kernel
theorem dX7_gameTold_28 : decode cX7_gameTold 28 = .ok (.getfield 123, 3) := by decide +kernel
theorem dX7_gameTold_31 : decode cX7_gameTold 31 = .ok (.iconst 2, 1) := by decide +kernel
theorem dX7_gameTold_32 : decode cX7_gameTold 32 = .ok (.iload_n 1, 1) := by decide +kernel
theorem dX7_gameTold_33 : decode cX7_gameTold 33 = .ok (.imul, 1) := by decide +kernel
theorem dX7_gameTold_34 : decode cX7_gameTold 34 = .ok (.iload_n 2, 1) := by decide +kernel
theorem dX7_gameTold_35 : decode cX7_gameTold 35 = .ok (.iadd, 1) := by decide +kernel
theorem dX7_gameTold_36 : decode cX7_gameTold 36 = .ok (.iconst 2, 1) := by decide +kernel
theorem dX7_gameTold_37 : decode cX7_gameTold 37 = .ok (.isub, 1) := by decide +kernel
theorem dX7_gameTold_38 : decode cX7_gameTold 38 = .ok (.iaload, 1) := by decide +kernel
theorem dX7_gameTold_39 : decode cX7_gameTold 39 = .ok (.ireturn, 1) := by decide +kernel
theorem dX7_gameTold_40 : decode cX7_gameTold 40 = .ok (.iload_n 2, 1) := by decide +kernel
theorem dX7_gameTold_41 : decode cX7_gameTold 41 = .ok (.bipush 8, 2) := by decide +kernel
theorem dX7_gameTold_43 : decode cX7_gameTold 43 = .ok (.if_icmp .eq 9, 3) := by decide +kernel
theorem dX7_gameTold_46 : decode cX7_gameTold 46 = .ok (.iload_n 2, 1) := by decide +kernel
theorem dX7_gameTold_47 : decode cX7_gameTold 47 = .ok (.bipush 9, 2) := by decide +kernel
theorem dX7_gameTold_49 : decode cX7_gameTold 49 = .ok (.if_icmp .ne 20, 3) := by decide +kernel
theorem dX7_gameTold_52 : decode cX7_gameTold 52 = .ok (.aload_n 0, 1) := by decide +kernel
theorem dX7_gameTold_53 : decode cX7_gameTold 53 = .ok (.getfield 10, 3) := by decide +kernel
theorem dX7_gameTold_56 : decode cX7_gameTold 56 = .ok (.getfield 147, 3) := by decide +kernel
theorem dX7_gameTold_59 : decode cX7_gameTold 59 = .ok (.iconst 2, 1) := by decide +kernel
theorem dX7_gameTold_60 : decode cX7_gameTold 60 = .ok (.iload_n 1, 1) := by decide +kernel
theorem dX7_gameTold_61 : decode cX7_gameTold 61 = .ok (.imul, 1) := by decide +kernel
theorem dX7_gameTold_62 : decode cX7_gameTold 62 = .ok (.iload_n 2, 1) := by decide +kernel
theorem dX7_gameTold_63 : decode cX7_gameTold 63 = .ok (.iadd, 1) := by decide +kernel
theorem dX7_gameTold_64 : decode cX7_gameTold 64 = .ok (.bipush 8, 2) := by decide +kernel
theorem dX7_gameTold_66 : decode cX7_gameTold 66 = .ok (.isub, 1) := by decide +kernel
theorem dX7_gameTold_67 : decode cX7_gameTold 67 = .ok (.iaload, 1) := by decide +kernel
theorem dX7_gameTold_68 : decode cX7_gameTold 68 = .ok (.ireturn, 1) := by decide +kernel
theorem dX7_gameTold_69 : decode cX7_gameTold 69 = .ok (.iload_n 2, 1) := by decide +kernel
theorem dX7_gameTold_70 : decode cX7_gameTold 70 = .ok (.iconst 4, 1) := by decide +kernel
theorem dX7_gameTold_71 : decode cX7_gameTold 71 = .ok (.if_icmp .ne 15, 3) := by decide +kernel
theorem dX7_gameTold_74 : decode cX7_gameTold 74 = .ok (.aload_n 0, 1) := by decide +kernel
theorem dX7_gameTold_75 : decode cX7_gameTold 75 = .ok (.getfield 10, 3) := by decide +kernel
theorem dX7_gameTold_78 : decode cX7_gameTold 78 = .ok (.getfield 138, 3) := by decide +kernel
theorem dX7_gameTold_81 : decode cX7_gameTold 81 = .ok (.iload_n 1, 1) := by decide +kernel
theorem dX7_gameTold_82 : decode cX7_gameTold 82 = .ok (.iaload, 1) := by decide +kernel
theorem dX7_gameTold_83 : decode cX7_gameTold 83 = .ok (.goto 65, 3) := by decide +kernel
theorem dX7_gameTold_86 : decode cX7_gameTold 86 = .ok (.iload_n 2, 1) := by decide +kernel
theorem dX7_gameTold_87 : decode cX7_gameTold 87 = .ok (.iconst 5, 1) := by decide +kernel
theorem dX7_gameTold_88 : decode cX7_gameTold 88 = .ok (.if_icmp .ne 15, 3) := by decide +kernel
theorem dX7_gameTold_91 : decode cX7_gameTold 91 = .ok (.aload_n 0, 1) := by decide +kernel
theorem dX7_gameTold_92 : decode cX7_gameTold 92 = .ok (.getfield 10, 3) := by decide +kernel
theorem dX7_gameTold_95 : decode cX7_gameTold 95 = .ok (.getfield 144, 3) := by decide +kernel
theorem dX7_gameTold_98 : decode cX7_gameTold 98 = .ok (.iload_n 1, 1) := by decide +kernel
theorem dX7_gameTold_99 : decode cX7_gameTold 99 = .ok (.iaload, 1) := by decide +kernel
theorem dX7_gameTold_100 : decode cX7_gameTold 100 = .ok (.goto 48, 3) := by decide +kernel
theorem dX7_gameTold_103 : decode cX7_gameTold 103 = .ok (.iload_n 2, 1) := by decide +kernel
theorem dX7_gameTold_104 : decode cX7_gameTold 104 = .ok (.bipush 6, 2) := by decide +kernel
theorem dX7_gameTold_106 : decode cX7_gameTold 106 = .ok (.if_icmp .ne 15, 3) := by decide +kernel
theorem dX7_gameTold_109 : decode cX7_gameTold 109 = .ok (.aload_n 0, 1) := by decide +kernel
theorem dX7_gameTold_110 : decode cX7_gameTold 110 = .ok (.getfield 10, 3) := by decide +kernel
theorem dX7_gameTold_113 : decode cX7_gameTold 113 = .ok (.getfield 141, 3) := by decide +kernel
theorem dX7_gameTold_116 : decode cX7_gameTold 116 = .ok (.iload_n 1, 1) := by decide +kernel
theorem dX7_gameTold_117 : decode cX7_gameTold 117 = .ok (.iaload, 1) := by decide +kernel
theorem dX7_gameTold_118 : decode cX7_gameTold 118 = .ok (.goto 30, 3) := by decide +kernel
theorem dX7_gameTold_121 : decode cX7_gameTold 121 = .ok (.iload_n 2, 1) := by decide +kernel
theorem dX7_gameTold_122 : decode cX7_gameTold 122 = .ok (.bipush 7, 2) := by decide +kernel
theorem dX7_gameTold_124 : decode cX7_gameTold 124 = .ok (.if_icmp .ne 15, 3) := by decide +kernel
theorem dX7_gameTold_127 : decode cX7_gameTold 127 = .ok (.aload_n 0, 1) := by decide +kernel
theorem dX7_gameTold_128 : decode cX7_gameTold 128 = .ok (.getfield 10, 3) := by decide +kernel
theorem dX7_gameTold_131 : decode cX7_gameTold 131 = .ok (.getfield 156, 3) := by decide +kernel
theorem dX7_gameTold_134 : decode cX7_gameTold 134 = .ok (.iload_n 1, 1) := by decide +kernel
theorem dX7_gameTold_135 : decode cX7_gameTold 135 = .ok (.iaload, 1) := by decide +kernel
theorem dX7_gameTold_136 : decode cX7_gameTold 136 = .ok (.goto 12, 3) := by decide +kernel
theorem dX7_gameTold_139 : decode cX7_gameTold 139 = .ok (.aload_n 0, 1) := by decide +kernel
theorem dX7_gameTold_140 : decode cX7_gameTold 140 = .ok (.getfield 10, 3) := by decide +kernel
theorem dX7_gameTold_143 : decode cX7_gameTold 143 = .ok (.getfield 132, 3) := by decide +kernel
theorem dX7_gameTold_146 : decode cX7_gameTold 146 = .ok (.iload_n 1, 1) := by decide +kernel
theorem dX7_gameTold_147 : decode cX7_gameTold 147 = .ok (.iaload, 1) := by decide +kernel
theorem dX7_gameTold_148 : decode cX7_gameTold 148 = .ok (.ireturn, 1) := by decide +kernel
theorem dX7_game_0 : decode cX7_game 0 = .ok (.aload_n 0, 1) := by decide +kernel
theorem dX7_game_1 : decode cX7_game 1 = .ok (.iconst 0, 1) := by decide +kernel
theorem dX7_game_2 : decode cX7_game 2 = .ok (.putfield 19, 3) := by decide +kernel
theorem dX7_game_5 : decode cX7_game 5 = .ok (.aload_n 0, 1) := by decide +kernel
theorem dX7_game_6 : decode cX7_game 6 = .ok (.iload_n 1, 1) := by decide +kernel
theorem dX7_game_7 : decode cX7_game 7 = .ok (.invokevirtual 135, 3) := by decide +kernel
theorem dX7_game_10 : decode cX7_game 10 = .ok (.ifCond .eq 22, 3) := by decide +kernel
theorem dX7_game_13 : decode cX7_game 13 = .ok (.iload_n 2, 1) := by decide +kernel
theorem dX7_game_14 : decode cX7_game 14 = .ok (.iconst 0, 1) := by decide +kernel
theorem dX7_game_15 : decode cX7_game 15 = .ok (.bipush 10, 2) := by decide +kernel
theorem dX7_game_17 : decode cX7_game 17 = .ok (.invokestatic 24, 3) := by decide +kernel
theorem dX7_game_20 : decode cX7_game 20 = .ok (.ifCond .eq 12, 3) := by decide +kernel
theorem dX7_game_23 : decode cX7_game 23 = .ok (.aload_n 0, 1) := by decide +kernel
theorem dX7_game_24 : decode cX7_game 24 = .ok (.iload_n 1, 1) := by decide +kernel
theorem dX7_game_25 : decode cX7_game 25 = .ok (.iload_n 2, 1) := by decide +kernel
theorem dX7_game_26 : decode cX7_game 26 = .ok (.invokevirtual 159, 3) := by decide +kernel
theorem dX7_game_29 : decode cX7_game 29 = .ok (.goto 8, 3) := by decide +kernel
theorem dX7_game_32 : decode cX7_game 32 = .ok (.aload_n 0, 1) := by decide +kernel
theorem dX7_game_33 : decode cX7_game 33 = .ok (.iconst 1, 1) := by decide +kernel
theorem dX7_game_34 : decode cX7_game 34 = .ok (.invokevirtual 28, 3) := by decide +kernel
theorem dX7_game_37 : decode cX7_game 37 = .ok (.ireturn, 1) := by decide +kernel
theorem dX7_pass_0 : decode cX7_pass 0 = .ok (.aload_n 0, 1) := by decide +kernel
theorem dX7_pass_1 : decode cX7_pass 1 = .ok (.iconst 0, 1) := by decide +kernel
theorem dX7_pass_2 : decode cX7_pass 2 = .ok (.putfield 19, 3) := by decide +kernel
theorem dX7_pass_5 : decode cX7_pass 5 = .ok (.iload_n 1, 1) := by decide +kernel
theorem dX7_pass_6 : decode cX7_pass 6 = .ok (.iconst 1, 1) := by decide +kernel
theorem dX7_pass_7 : decode cX7_pass 7 = .ok (.sipush 1200, 3) := by decide +kernel
theorem dX7_pass_10 : decode cX7_pass 10 = .ok (.invokestatic 24, 3) := by decide +kernel
theorem dX7_pass_13 : decode cX7_pass 13 = .ok (.ifCond .ne 9, 3) := by decide +kernel
theorem dX7_pass_16 : decode cX7_pass 16 = .ok (.aload_n 0, 1) := by decide +kernel
theorem dX7_pass_17 : decode cX7_pass 17 = .ok (.iconst 1, 1) := by decide +kernel
theorem dX7_pass_18 : decode cX7_pass 18 = .ok (.invokevirtual 28, 3) := by decide +kernel
theorem dX7_pass_21 : decode cX7_pass 21 = .ok (.ireturn, 1) := by decide +kernel
theorem dX7_pass_22 : decode cX7_pass 22 = .ok (.aload_n 0, 1) := by decide +kernel
theorem dX7_pass_23 : decode cX7_pass 23 = .ok (.getfield 10, 3) := by decide +kernel
theorem dX7_pass_26 : decode cX7_pass 26 = .ok (.getfield 109, 3) := by decide +kernel
