theorem dX5_search_88 : decode cX5_search 88 = .ok (.putfield 159, 3) := by decide +kernel
theorem dX5_search_91 : decode cX5_search 91 = .ok (.aload_n 0, 1) := by decide +kernel
theorem dX5_search_92 : decode cX5_search 92 = .ok (.iload 6, 2) := by decide +kernel
theorem dX5_search_94 : decode cX5_search 94 = .ok (.putfield 171, 3) := by decide +kernel
theorem dX5_search_97 : decode cX5_search 97 = .ok (.aload_n 0, 1) := by decide +kernel
theorem dX5_search_98 : decode cX5_search 98 = .ok (.invokevirtual 147, 3) := by decide +kernel
theorem dX5_search_101 : decode cX5_search 101 = .ok (.iinc 6 1, 3) := by decide +kernel
theorem dX5_search_104 : decode cX5_search 104 = .ok (.goto (-74), 3) := by decide +kernel
theorem dX5_search_107 : decode cX5_search 107 = .ok (.iinc 5 1, 3) := by decide +kernel
theorem dX5_search_110 : decode cX5_search 110 = .ok (.goto (-97), 3) := by decide +kernel
theorem dX5_search_113 : decode cX5_search 113 = .ok (.return_, 1) := by decide +kernel
theorem dX5_tells_0 : decode cX5_tells 0 = .ok (.aload_n 0, 1) := by decide +kernel
theorem dX5_tells_1 : decode cX5_tells 1 = .ok (.getfield 159, 3) := by decide +kernel
theorem dX5_tells_4 : decode cX5_tells 4 = .ok (.ifCond .lt 11, 3) := by decide +kernel
theorem dX5_tells_7 : decode cX5_tells 7 = .ok (.iload_n 1, 1) := by decide +kernel
theorem dX5_tells_8 : decode cX5_tells 8 = .ok (.aload_n 0, 1) := by decide +kernel
theorem dX5_tells_9 : decode cX5_tells 9 = .ok (.getfield 159, 3) := by decide +kernel
theorem dX5_tells_12 : decode cX5_tells 12 = .ok (.if_icmp .lt 6, 3) := by decide +kernel
theorem dX5_tells_15 : decode cX5_tells 15 = .ok (.bipush (-4), 2) := by decide +kernel
theorem dX5_tells_17 : decode cX5_tells 17 = .ok (.ireturn, 1) := by decide +kernel
theorem dX5_tells_18 : decode cX5_tells 18 = .ok (.iload_n 1, 1) := by decide +kernel
theorem dX5_tells_19 : decode cX5_tells 19 = .ok (.ifCond .ge 10, 3) := by decide +kernel
theorem dX5_tells_22 : decode cX5_tells 22 = .ok (.aload_n 0, 1) := by decide +kernel
theorem dX5_tells_23 : decode cX5_tells 23 = .ok (.getfield 159, 3) := by decide +kernel
theorem dX5_tells_26 : decode cX5_tells 26 = .ok (.goto 22, 3) := by decide +kernel
theorem dX5_tells_29 : decode cX5_tells 29 = .ok (.aload_n 0, 1) := by decide +kernel
theorem dX5_tells_30 : decode cX5_tells 30 = .ok (.getfield 171, 3) := by decide +kernel
theorem dX5_tells_33 : decode cX5_tells 33 = .ok (.iconst 3, 1) := by decide +kernel
theorem dX5_tells_34 : decode cX5_tells 34 = .ok (.aload_n 0, 1) := by decide +kernel
theorem dX5_tells_35 : decode cX5_tells 35 = .ok (.getfield 159, 3) := by decide +kernel
theorem dX5_tells_38 : decode cX5_tells 38 = .ok (.iconst 1, 1) := by decide +kernel
theorem dX5_tells_39 : decode cX5_tells 39 = .ok (.isub, 1) := by decide +kernel
theorem dX5_tells_40 : decode cX5_tells 40 = .ok (.iload_n 1, 1) := by decide +kernel
theorem dX5_tells_41 : decode cX5_tells 41 = .ok (.isub, 1) := by decide +kernel
theorem dX5_tells_42 : decode cX5_tells 42 = .ok (.invokestatic 156, 3) := by decide +kernel
theorem dX5_tells_45 : decode cX5_tells 45 = .ok (.idiv, 1) := by decide +kernel
theorem dX5_tells_46 : decode cX5_tells 46 = .ok (.iconst 3, 1) := by decide +kernel
theorem dX5_tells_47 : decode cX5_tells 47 = .ok (.irem, 1) := by decide +kernel
theorem dX5_tells_48 : decode cX5_tells 48 = .ok (.ireturn, 1) := by decide +kernel
theorem dX5_isPlaceOfRow_0 : decode cX5_isPlaceOfRow 0 = .ok (.iload_n 0, 1) := by decide +kernel
theorem dX5_isPlaceOfRow_1 : decode cX5_isPlaceOfRow 1 = .ok (.i2l, 1) := by decide +kernel
theorem dX5_isPlaceOfRow_2 : decode cX5_isPlaceOfRow 2 = .ok (.ldc2_w 174, 3) := by decide +kernel
theorem dX5_isPlaceOfRow_5 : decode cX5_isPlaceOfRow 5 = .ok (.ldc2_w 176, 3) := by decide +kernel
theorem dX5_isPlaceOfRow_8 : decode cX5_isPlaceOfRow 8 = .ok (.invokestatic 62, 3) := by decide +kernel
theorem dX5_isPlaceOfRow_11 : decode cX5_isPlaceOfRow 11 = .ok (.ireturn, 1) := by decide +kernel
theorem dX5_free_0 : decode cX5_free 0 = .ok (.iload_n 1, 1) := by decide +kernel
theorem dX5_free_1 : decode cX5_free 1 = .ok (.invokestatic 178, 3) := by decide +kernel
theorem dX5_free_4 : decode cX5_free 4 = .ok (.ifCond .ne 5, 3) := by decide +kernel
theorem dX5_free_7 : decode cX5_free 7 = .ok (.iconst (-1), 1) := by decide +kernel
theorem dX5_free_8 : decode cX5_free 8 = .ok (.ireturn, 1) := by decide +kernel
theorem dX5_free_9 : decode cX5_free 9 = .ok (.aload_n 0, 1) := by decide +kernel
theorem dX5_free_10 : decode cX5_free 10 = .ok (.iconst 0, 1) := by decide +kernel
theorem dX5_free_11 : decode cX5_free 11 = .ok (.iconst 1, 1) := by decide +kernel
theorem dX5_free_12 : decode cX5_free 12 = .ok (.iconst (-1), 1) := by decide +kernel
theorem dX5_free_13 : decode cX5_free 13 = .ok (.iconst (-1), 1) := by decide +kernel
theorem dX5_free_14 : decode cX5_free 14 = .ok (.invokevirtual 181, 3) := by decide +kernel
theorem dX5_free_17 : decode cX5_free 17 = .ok (.aload_n 0, 1) := by decide +kernel
theorem dX5_free_18 : decode cX5_free 18 = .ok (.iload_n 1, 1) := by decide +kernel
theorem dX5_free_19 : decode cX5_free 19 = .ok (.invokevirtual 185, 3) := by decide +kernel
theorem dX5_free_22 : decode cX5_free 22 = .ok (.ireturn, 1) := by decide +kernel
theorem dX5_isFraction_0 : decode cX5_isFraction 0 = .ok (.iload_n 0, 1) := by decide +kernel
theorem dX5_isFraction_1 : decode cX5_isFraction 1 = .ok (.i2l, 1) := by decide +kernel
theorem dX5_isFraction_2 : decode cX5_isFraction 2 = .ok (.ldc2_w 188, 3) := by decide +kernel
theorem dX5_isFraction_5 : decode cX5_isFraction 5 = .ok (.ldc2_w 190, 3) := by decide +kernel
theorem dX5_isFraction_8 : decode cX5_isFraction 8 = .ok (.invokestatic 62, 3) := by decide +kernel
theorem dX5_isFraction_11 : decode cX5_isFraction 11 = .ok (.ifCond .eq 40, 3) := by decide +kernel
theorem dX5_isFraction_14 : decode cX5_isFraction 14 = .ok (.iload_n 1, 1) := by decide +kernel
theorem dX5_isFraction_15 : decode cX5_isFraction 15 = .ok (.i2l, 1) := by decide +kernel
theorem dX5_isFraction_16 : decode cX5_isFraction 16 = .ok (.lconst 0, 1) := by decide +kernel
theorem dX5_isFraction_17 : decode cX5_isFraction 17 = .ok (.ldc2_w 190, 3) := by decide +kernel
theorem dX5_isFraction_20 : decode cX5_isFraction 20 = .ok (.invokestatic 62, 3) := by decide +kernel
theorem dX5_isFraction_23 : decode cX5_isFraction 23 = .ok (.ifCond .eq 28, 3) := by decide +kernel
theorem dX5_isFraction_26 : decode cX5_isFraction 26 = .ok (.iload_n 1, 1) := by decide +kernel
theorem dX5_isFraction_27 : decode cX5_isFraction 27 = .ok (.ifCond .le 15, 3) := by decide +kernel
theorem dX5_isFraction_30 : decode cX5_isFraction 30 = .ok (.iload_n 0, 1) := by decide +kernel
theorem dX5_isFraction_31 : decode cX5_isFraction 31 = .ok (.iload_n 1, 1) := by decide +kernel
theorem dX5_isFraction_32 : decode cX5_isFraction 32 = .ok (.invokestatic 192, 3) := by decide +kernel
theorem dX5_isFraction_35 : decode cX5_isFraction 35 = .ok (.iconst 1, 1) := by decide +kernel
theorem dX5_isFraction_36 : decode cX5_isFraction 36 = .ok (.if_icmp .ne 15, 3) := by decide +kernel
theorem dX5_isFraction_39 : decode cX5_isFraction 39 = .ok (.goto 8, 3) := by decide +kernel
theorem dX5_isFraction_42 : decode cX5_isFraction 42 = .ok (.iload_n 0, 1) := by decide +kernel
theorem dX5_isFraction_43 : decode cX5_isFraction 43 = .ok (.iconst 1, 1) := by decide +kernel
theorem dX5_isFraction_44 : decode cX5_isFraction 44 = .ok (.if_icmp .ne 7, 3) := by decide +kernel
theorem dX5_isFraction_47 : decode cX5_isFraction 47 = .ok (.iconst 1, 1) := by decide +kernel
theorem dX5_isFraction_48 : decode cX5_isFraction 48 = .ok (.goto 4, 3) := by decide +kernel
theorem dX5_isFraction_51 : decode cX5_isFraction 51 = .ok (.iconst 0, 1) := by decide +kernel
theorem dX5_isFraction_52 : decode cX5_isFraction 52 = .ok (.ireturn, 1) := by decide +kernel
theorem dX5_reach_0 : decode cX5_reach 0 = .ok (.iload_n 1, 1) := by decide +kernel
theorem dX5_reach_1 : decode cX5_reach 1 = .ok (.iload_n 2, 1) := by decide +kernel
theorem dX5_reach_2 : decode cX5_reach 2 = .ok (.invokestatic 195, 3) := by decide +kernel
theorem dX5_reach_5 : decode cX5_reach 5 = .ok (.ifCond .eq 10, 3) := by decide +kernel
theorem dX5_reach_8 : decode cX5_reach 8 = .ok (.iload_n 3, 1) := by decide +kernel
theorem dX5_reach_9 : decode cX5_reach 9 = .ok (.invokestatic 178, 3) := by decide +kernel
theorem dX5_reach_12 : decode cX5_reach 12 = .ok (.ifCond .ne 5, 3) := by decide +kernel
theorem dX5_reach_15 : decode cX5_reach 15 = .ok (.iconst (-1), 1) := by decide +kernel
theorem dX5_reach_16 : decode cX5_reach 16 = .ok (.ireturn, 1) := by decide +kernel
theorem dX5_reach_17 : decode cX5_reach 17 = .ok (.aload_n 0, 1) := by decide +kernel
theorem dX5_reach_18 : decode cX5_reach 18 = .ok (.iload_n 1, 1) := by decide +kernel
theorem dX5_reach_19 : decode cX5_reach 19 = .ok (.iload_n 2, 1) := by decide +kernel
theorem dX5_reach_20 : decode cX5_reach 20 = .ok (.iconst (-1), 1) := by decide +kernel
theorem dX5_reach_21 : decode cX5_reach 21 = .ok (.iconst (-1), 1) := by decide +kernel
theorem dX5_reach_22 : decode cX5_reach 22 = .ok (.invokevirtual 181, 3) := by decide +kernel
theorem dX5_reach_25 : decode cX5_reach 25 = .ok (.aload_n 0, 1) := by decide +kernel
theorem dX5_reach_26 : decode cX5_reach 26 = .ok (.iload_n 3, 1) := by decide +kernel
theorem dX5_reach_27 : decode cX5_reach 27 = .ok (.invokevirtual 185, 3) := by decide +kernel
theorem dX5_reach_30 : decode cX5_reach 30 = .ok (.ireturn, 1) := by decide +kernel
theorem dX5_meet_0 : decode cX5_meet 0 = .ok (.iload_n 1, 1) := by decide +kernel
theorem dX5_meet_1 : decode cX5_meet 1 = .ok (.invokestatic 105, 3) := by decide +kernel
theorem dX5_meet_4 : decode cX5_meet 4 = .ok (.ifCond .eq 22, 3) := by decide +kernel
theorem dX5_meet_7 : decode cX5_meet 7 = .ok (.iload_n 2, 1) := by decide +kernel
theorem dX5_meet_8 : decode cX5_meet 8 = .ok (.invokestatic 105, 3) := by decide +kernel
theorem dX5_meet_11 : decode cX5_meet 11 = .ok (.ifCond .eq 15, 3) := by decide +kernel
theorem dX5_meet_14 : decode cX5_meet 14 = .ok (.iload_n 1, 1) := by decide +kernel
theorem dX5_meet_15 : decode cX5_meet 15 = .ok (.iload_n 2, 1) := by decide +kernel
theorem dX5_meet_16 : decode cX5_meet 16 = .ok (.if_icmp .eq 10, 3) := by decide +kernel
theorem dX5_meet_19 : decode cX5_meet 19 = .ok (.iload_n 3, 1) := by decide +kernel
theorem dX5_meet_20 : decode cX5_meet 20 = .ok (.invokestatic 178, 3) := by decide +kernel
theorem dX5_meet_23 : decode cX5_meet 23 = .ok (.ifCond .ne 5, 3) := by decide +kernel
theorem dX5_meet_26 : decode cX5_meet 26 = .ok (.iconst (-1), 1) := by decide +kernel
theorem dX5_meet_27 : decode cX5_meet 27 = .ok (.ireturn, 1) := by decide +kernel
theorem dX5_meet_28 : decode cX5_meet 28 = .ok (.aload_n 0, 1) := by decide +kernel
theorem dX5_meet_29 : decode cX5_meet 29 = .ok (.iconst 0, 1) := by decide +kernel
theorem dX5_meet_30 : decode cX5_meet 30 = .ok (.iconst 1, 1) := by decide +kernel
theorem dX5_meet_31 : decode cX5_meet 31 = .ok (.iload_n 1, 1) := by decide +kernel
theorem dX5_meet_32 : decode cX5_meet 32 = .ok (.iload_n 2, 1) := by decide +kernel
theorem dX5_meet_33 : decode cX5_meet 33 = .ok (.invokevirtual 181, 3) := by decide +kernel
theorem dX5_meet_36 : decode cX5_meet 36 = .ok (.aload_n 0, 1) := by decide +kernel
theorem dX5_meet_37 : decode cX5_meet 37 = .ok (.iload_n 3, 1) := by decide +kernel
theorem dX5_meet_38 : decode cX5_meet 38 = .ok (.invokevirtual 185, 3) := by decide +kernel
theorem dX5_meet_41 : decode cX5_meet 41 = .ok (.ireturn, 1) := by decide +kernel
theorem dX5_ways_0 : decode cX5_ways 0 = .ok (.iload_n 1, 1) := by decide +kernel
theorem dX5_ways_1 : decode cX5_ways 1 = .ok (.i2l, 1) := by decide +kernel
theorem dX5_ways_2 : decode cX5_ways 2 = .ok (.lconst 0, 1) := by decide +kernel
theorem dX5_ways_3 : decode cX5_ways 3 = .ok (.ldc2_w 198, 3) := by decide +kernel
theorem dX5_ways_6 : decode cX5_ways 6 = .ok (.invokestatic 62, 3) := by decide +kernel
theorem dX5_ways_9 : decode cX5_ways 9 = .ok (.ifCond .ne 5, 3) := by decide +kernel
theorem dX5_ways_12 : decode cX5_ways 12 = .ok (.iconst (-1), 1) := by decide +kernel
theorem dX5_ways_13 : decode cX5_ways 13 = .ok (.ireturn, 1) := by decide +kernel
theorem dX5_ways_14 : decode cX5_ways 14 = .ok (.aload_n 0, 1) := by decide +kernel
theorem dX5_ways_15 : decode cX5_ways 15 = .ok (.invokevirtual 141, 3) := by decide +kernel
theorem dX5_ways_18 : decode cX5_ways 18 = .ok (.iconst 0, 1) := by decide +kernel
theorem dX5_ways_19 : decode cX5_ways 19 = .ok (.istore_n 2, 1) := by decide +kernel
theorem dX5_ways_20 : decode cX5_ways 20 = .ok (.iconst 0, 1) := by decide +kernel
theorem dX5_ways_21 : decode cX5_ways 21 = .ok (.istore_n 3, 1) := by decide +kernel
theorem dX5_ways_22 : decode cX5_ways 22 = .ok (.iload_n 3, 1) := by decide +kernel
theorem dX5_ways_23 : decode cX5_ways 23 = .ok (.iconst 3, 1) := by decide +kernel
theorem dX5_ways_24 : decode cX5_ways 24 = .ok (.iload_n 1, 1) := by decide +kernel
theorem dX5_ways_25 : decode cX5_ways 25 = .ok (.invokestatic 156, 3) := by decide +kernel
theorem dX5_ways_28 : decode cX5_ways 28 = .ok (.if_icmp .ge 40, 3) := by decide +kernel
theorem dX5_ways_31 : decode cX5_ways 31 = .ok (.iload_n 2, 1) := by decide +kernel
theorem dX5_ways_32 : decode cX5_ways 32 = .ok (.aload_n 0, 1) := by decide +kernel
theorem dX5_ways_33 : decode cX5_ways 33 = .ok (.iload_n 3, 1) := by decide +kernel
theorem dX5_ways_34 : decode cX5_ways 34 = .ok (.iload_n 1, 1) := by decide +kernel
theorem dX5_ways_35 : decode cX5_ways 35 = .ok (.invokevirtual 162, 3) := by decide +kernel
theorem dX5_ways_38 : decode cX5_ways 38 = .ok (.ifCond .eq 17, 3) := by decide +kernel
theorem dX5_ways_41 : decode cX5_ways 41 = .ok (.aload_n 0, 1) := by decide +kernel
theorem dX5_ways_42 : decode cX5_ways 42 = .ok (.getfield 19, 3) := by decide +kernel
theorem dX5_ways_45 : decode cX5_ways 45 = .ok (.bipush 8, 2) := by decide +kernel
theorem dX5_ways_47 : decode cX5_ways 47 = .ok (.iaload, 1) := by decide +kernel
theorem dX5_ways_48 : decode cX5_ways 48 = .ok (.ifCond .ne 7, 3) := by decide +kernel
theorem dX5_ways_51 : decode cX5_ways 51 = .ok (.iconst 1, 1) := by decide +kernel
theorem dX5_ways_52 : decode cX5_ways 52 = .ok (.goto 4, 3) := by decide +kernel
theorem dX5_ways_55 : decode cX5_ways 55 = .ok (.iconst 0, 1) := by decide +kernel
theorem dX5_ways_56 : decode cX5_ways 56 = .ok (.iadd, 1) := by decide +kernel
theorem dX5_ways_57 : decode cX5_ways 57 = .ok (.istore_n 2, 1) := by decide +kernel
theorem dX5_ways_58 : decode cX5_ways 58 = .ok (.aload_n 0, 1) := by decide +kernel
theorem dX5_ways_59 : decode cX5_ways 59 = .ok (.invokevirtual 147, 3) := by decide +kernel
theorem dX5_ways_62 : decode cX5_ways 62 = .ok (.iinc 3 1, 3) := by decide +kernel
theorem dX5_ways_65 : decode cX5_ways 65 = .ok (.goto (-43), 3) := by decide +kernel
theorem dX5_ways_68 : decode cX5_ways 68 = .ok (.iload_n 2, 1) := by decide +kernel
theorem dX5_ways_69 : decode cX5_ways 69 = .ok (.ireturn, 1) := by decide +kernel
theorem dX5_plain_0 : decode cX5_plain 0 = .ok (.aload_n 0, 1) := by decide +kernel
theorem dX5_plain_1 : decode cX5_plain 1 = .ok (.invokevirtual 141, 3) := by decide +kernel
theorem dX5_plain_4 : decode cX5_plain 4 = .ok (.iconst 0, 1) := by decide +kernel
theorem dX5_plain_5 : decode cX5_plain 5 = .ok (.istore_n 1, 1) := by decide +kernel
theorem dX5_plain_6 : decode cX5_plain 6 = .ok (.iconst 1, 1) := by decide +kernel
theorem dX5_plain_7 : decode cX5_plain 7 = .ok (.istore_n 2, 1) := by decide +kernel
theorem dX5_plain_8 : decode cX5_plain 8 = .ok (.iload_n 2, 1) := by decide +kernel
theorem dX5_plain_9 : decode cX5_plain 9 = .ok (.ifCond .eq 45, 3) := by decide +kernel
theorem dX5_plain_12 : decode cX5_plain 12 = .ok (.aload_n 0, 1) := by decide +kernel
theorem dX5_plain_13 : decode cX5_plain 13 = .ok (.getfield 19, 3) := by decide +kernel
theorem dX5_plain_16 : decode cX5_plain 16 = .ok (.bipush 8, 2) := by decide +kernel
theorem dX5_plain_18 : decode cX5_plain 18 = .ok (.iaload, 1) := by decide +kernel
theorem dX5_plain_19 : decode cX5_plain 19 = .ok (.ifCond .eq 35, 3) := by decide +kernel
theorem dX5_plain_22 : decode cX5_plain 22 = .ok (.iload_n 1, 1) := by decide +kernel
theorem dX5_plain_23 : decode cX5_plain 23 = .ok (.bipush 60, 2) := by decide +kernel
theorem dX5_plain_25 : decode cX5_plain 25 = .ok (.if_icmp .ge 29, 3) := by decide +kernel
theorem dX5_plain_28 : decode cX5_plain 28 = .ok (.aload_n 0, 1) := by decide +kernel
theorem dX5_plain_29 : decode cX5_plain 29 = .ok (.aload_n 0, 1) := by decide +kernel
theorem dX5_plain_30 : decode cX5_plain 30 = .ok (.getfield 19, 3) := by decide +kernel
theorem dX5_plain_33 : decode cX5_plain 33 = .ok (.bipush 8, 2) := by decide +kernel
theorem dX5_plain_35 : decode cX5_plain 35 = .ok (.iaload, 1) := by decide +kernel
theorem dX5_plain_36 : decode cX5_plain 36 = .ok (.ifCond .ge 7, 3) := by decide +kernel
theorem dX5_plain_39 : decode cX5_plain 39 = .ok (.iconst 0, 1) := by decide +kernel
theorem dX5_plain_40 : decode cX5_plain 40 = .ok (.goto 4, 3) := by decide +kernel
theorem dX5_plain_43 : decode cX5_plain 43 = .ok (.iconst 2, 1) := by decide +kernel
theorem dX5_plain_44 : decode cX5_plain 44 = .ok (.invokevirtual 144, 3) := by decide +kernel
theorem dX5_plain_47 : decode cX5_plain 47 = .ok (.istore_n 2, 1) := by decide +kernel
theorem dX5_plain_48 : decode cX5_plain 48 = .ok (.iinc 1 1, 3) := by decide +kernel
theorem dX5_plain_51 : decode cX5_plain 51 = .ok (.goto (-43), 3) := by decide +kernel
theorem dX5_plain_54 : decode cX5_plain 54 = .ok (.iload_n 2, 1) := by decide +kernel
theorem dX5_plain_55 : decode cX5_plain 55 = .ok (.ifCond .eq 17, 3) := by decide +kernel
theorem dX5_plain_58 : decode cX5_plain 58 = .ok (.aload_n 0, 1) := by decide +kernel
theorem dX5_plain_59 : decode cX5_plain 59 = .ok (.getfield 19, 3) := by decide +kernel
theorem dX5_plain_62 : decode cX5_plain 62 = .ok (.bipush 8, 2) := by decide +kernel
theorem dX5_plain_64 : decode cX5_plain 64 = .ok (.iaload, 1) := by decide +kernel
theorem dX5_plain_65 : decode cX5_plain 65 = .ok (.ifCond .ne 7, 3) := by decide +kernel
theorem dX5_plain_68 : decode cX5_plain 68 = .ok (.iconst 1, 1) := by decide +kernel
theorem dX5_plain_69 : decode cX5_plain 69 = .ok (.goto 4, 3) := by decide +kernel
theorem dX5_plain_72 : decode cX5_plain 72 = .ok (.iconst 0, 1) := by decide +kernel
theorem dX5_plain_73 : decode cX5_plain 73 = .ok (.istore_n 3, 1) := by decide +kernel
theorem dX5_plain_74 : decode cX5_plain 74 = .ok (.aload_n 0, 1) := by decide +kernel
theorem dX5_plain_75 : decode cX5_plain 75 = .ok (.invokevirtual 147, 3) := by decide +kernel
theorem dX5_plain_78 : decode cX5_plain 78 = .ok (.iload_n 3, 1) := by decide +kernel
theorem dX5_plain_79 : decode cX5_plain 79 = .ok (.ifCond .eq 7, 3) := by decide +kernel
theorem dX5_plain_82 : decode cX5_plain 82 = .ok (.iload_n 1, 1) := by decide +kernel
theorem dX5_plain_83 : decode cX5_plain 83 = .ok (.goto 5, 3) := by decide +kernel
theorem dX5_plain_86 : decode cX5_plain 86 = .ok (.bipush (-4), 2) := by decide +kernel
theorem dX5_plain_88 : decode cX5_plain 88 = .ok (.ireturn, 1) := by decide +kernel
theorem dX5_dancesOn_0 : decode cX5_dancesOn 0 = .ok (.iload_n 1, 1) := by decide +kernel
theorem dX5_dancesOn_1 : decode cX5_dancesOn 1 = .ok (.aload_n 0, 1) := by decide +kernel
theorem dX5_dancesOn_2 : decode cX5_dancesOn 2 = .ok (.getfield 55, 3) := by decide +kernel
theorem dX5_dancesOn_5 : decode cX5_dancesOn 5 = .ok (.if_icmp .ge 7, 3) := by decide +kernel
theorem dX5_dancesOn_8 : decode cX5_dancesOn 8 = .ok (.iload_n 1, 1) := by decide +kernel
theorem dX5_dancesOn_9 : decode cX5_dancesOn 9 = .ok (.goto 7, 3) := by decide +kernel
theorem dX5_dancesOn_12 : decode cX5_dancesOn 12 = .ok (.aload_n 0, 1) := by decide +kernel
theorem dX5_dancesOn_13 : decode cX5_dancesOn 13 = .ok (.getfield 55, 3) := by decide +kernel
theorem dX5_dancesOn_16 : decode cX5_dancesOn 16 = .ok (.istore_n 2, 1) := by decide +kernel
theorem dX5_dancesOn_17 : decode cX5_dancesOn 17 = .ok (.iconst 0, 1) := by decide +kernel
theorem dX5_dancesOn_18 : decode cX5_dancesOn 18 = .ok (.istore_n 3, 1) := by decide +kernel
theorem dX5_dancesOn_19 : decode cX5_dancesOn 19 = .ok (.iload_n 3, 1) := by decide +kernel
theorem dX5_dancesOn_20 : decode cX5_dancesOn 20 = .ok (.iload_n 2, 1) := by decide +kernel
theorem dX5_dancesOn_21 : decode cX5_dancesOn 21 = .ok (.if_icmp .ge 22, 3) := by decide +kernel
theorem dX5_dancesOn_24 : decode cX5_dancesOn 24 = .ok (.aload_n 0, 1) := by decide +kernel
theorem dX5_dancesOn_25 : decode cX5_dancesOn 25 = .ok (.aload_n 0, 1) := by decide +kernel
theorem dX5_dancesOn_26 : decode cX5_dancesOn 26 = .ok (.getfield 16, 3) := by decide +kernel
theorem dX5_dancesOn_29 : decode cX5_dancesOn 29 = .ok (.iload_n 3, 1) := by decide +kernel
theorem dX5_dancesOn_30 : decode cX5_dancesOn 30 = .ok (.iaload, 1) := by decide +kernel
theorem dX5_dancesOn_31 : decode cX5_dancesOn 31 = .ok (.invokevirtual 144, 3) := by decide +kernel
theorem dX5_dancesOn_34 : decode cX5_dancesOn 34 = .ok (.ifCond .eq 9, 3) := by decide +kernel
theorem dX5_dancesOn_37 : decode cX5_dancesOn 37 = .ok (.iinc 3 1, 3) := by decide +kernel
theorem dX5_dancesOn_40 : decode cX5_dancesOn 40 = .ok (.goto (-21), 3) := by decide +kernel
theorem dX5_dancesOn_43 : decode cX5_dancesOn 43 = .ok (.iload_n 3, 1) := by decide +kernel
theorem dX5_dancesOn_44 : decode cX5_dancesOn 44 = .ok (.ireturn, 1) := by decide +kernel
theorem dX5_dancesFirst_0 : decode cX5_dancesFirst 0 = .ok (.aload_n 0, 1) := by decide +kernel
theorem dX5_dancesFirst_1 : decode cX5_dancesFirst 1 = .ok (.iload_n 1, 1) := by decide +kernel
theorem dX5_dancesFirst_2 : decode cX5_dancesFirst 2 = .ok (.invokevirtual 200, 3) := by decide +kernel
theorem dX5_dancesFirst_5 : decode cX5_dancesFirst 5 = .ok (.iload_n 1, 1) := by decide +kernel
theorem dX5_dancesFirst_6 : decode cX5_dancesFirst 6 = .ok (.aload_n 0, 1) := by decide +kernel
theorem dX5_dancesFirst_7 : decode cX5_dancesFirst 7 = .ok (.getfield 55, 3) := by decide +kernel
theorem dX5_dancesFirst_10 : decode cX5_dancesFirst 10 = .ok (.if_icmp .ge 7, 3) := by decide +kernel
theorem dX5_dancesFirst_13 : decode cX5_dancesFirst 13 = .ok (.iload_n 1, 1) := by decide +kernel
theorem dX5_dancesFirst_14 : decode cX5_dancesFirst 14 = .ok (.goto 7, 3) := by decide +kernel
theorem dX5_dancesFirst_17 : decode cX5_dancesFirst 17 = .ok (.aload_n 0, 1) := by decide +kernel
theorem dX5_dancesFirst_18 : decode cX5_dancesFirst 18 = .ok (.getfield 55, 3) := by decide +kernel
theorem dX5_dancesFirst_21 : decode cX5_dancesFirst 21 = .ok (.if_icmp .ne 7, 3) := by decide +kernel
theorem dX5_dancesFirst_24 : decode cX5_dancesFirst 24 = .ok (.iconst 1, 1) := by decide +kernel
theorem dX5_dancesFirst_25 : decode cX5_dancesFirst 25 = .ok (.goto 4, 3) := by decide +kernel
theorem dX5_dancesFirst_28 : decode cX5_dancesFirst 28 = .ok (.iconst 0, 1) := by decide +kernel
theorem dX5_dancesFirst_29 : decode cX5_dancesFirst 29 = .ok (.ireturn, 1) := by decide +kernel
theorem dX5_comes_0 : decode cX5_comes 0 = .ok (.iload_n 1, 1) := by decide +kernel
theorem dX5_comes_1 : decode cX5_comes 1 = .ok (.invokestatic 114, 3) := by decide +kernel
theorem dX5_comes_4 : decode cX5_comes 4 = .ok (.ifCond .ne 5, 3) := by decide +kernel
theorem dX5_comes_7 : decode cX5_comes 7 = .ok (.iconst (-1), 1) := by decide +kernel
theorem dX5_comes_8 : decode cX5_comes 8 = .ok (.ireturn, 1) := by decide +kernel
theorem dX5_comes_9 : decode cX5_comes 9 = .ok (.aload_n 0, 1) := by decide +kernel
theorem dX5_comes_10 : decode cX5_comes 10 = .ok (.invokevirtual 141, 3) := by decide +kernel
theorem dX5_comes_13 : decode cX5_comes 13 = .ok (.aload_n 0, 1) := by decide +kernel
theorem dX5_comes_14 : decode cX5_comes 14 = .ok (.bipush 12, 2) := by decide +kernel
theorem dX5_comes_16 : decode cX5_comes 16 = .ok (.invokevirtual 200, 3) := by decide +kernel
theorem dX5_comes_19 : decode cX5_comes 19 = .ok (.istore_n 2, 1) := by decide +kernel
theorem dX5_comes_20 : decode cX5_comes 20 = .ok (.aload_n 0, 1) := by decide +kernel
theorem dX5_comes_21 : decode cX5_comes 21 = .ok (.getfield 19, 3) := by decide +kernel
theorem dX5_comes_24 : decode cX5_comes 24 = .ok (.iconst 0, 1) := by decide +kernel
theorem dX5_comes_25 : decode cX5_comes 25 = .ok (.iaload, 1) := by decide +kernel
theorem dX5_comes_26 : decode cX5_comes 26 = .ok (.istore_n 3, 1) := by decide +kernel
theorem dX5_comes_27 : decode cX5_comes 27 = .ok (.aload_n 0, 1) := by decide +kernel
theorem dX5_comes_28 : decode cX5_comes 28 = .ok (.invokevirtual 147, 3) := by decide +kernel
theorem dX5_comes_31 : decode cX5_comes 31 = .ok (.iload_n 1, 1) := by decide +kernel
theorem dX5_comes_32 : decode cX5_comes 32 = .ok (.ifCond .ne 7, 3) := by decide +kernel
theorem dX5_comes_35 : decode cX5_comes 35 = .ok (.iload_n 2, 1) := by decide +kernel
theorem dX5_comes_36 : decode cX5_comes 36 = .ok (.goto 4, 3) := by decide +kernel
theorem dX5_comes_39 : decode cX5_comes 39 = .ok (.iload_n 3, 1) := by decide +kernel
theorem dX5_comes_40 : decode cX5_comes 40 = .ok (.ireturn, 1) := by decide +kernel
theorem dX5_behind_0 : decode cX5_behind 0 = .ok (.iload_n 1, 1) := by decide +kernel
theorem dX5_behind_1 : decode cX5_behind 1 = .ok (.i2l, 1) := by decide +kernel
theorem dX5_behind_2 : decode cX5_behind 2 = .ok (.lconst 0, 1) := by decide +kernel
theorem dX5_behind_3 : decode cX5_behind 3 = .ok (.ldc2_w 203, 3) := by decide +kernel
theorem dX5_behind_6 : decode cX5_behind 6 = .ok (.invokestatic 62, 3) := by decide +kernel
theorem dX5_behind_9 : decode cX5_behind 9 = .ok (.ifCond .eq 10, 3) := by decide +kernel
theorem dX5_behind_12 : decode cX5_behind 12 = .ok (.iload_n 2, 1) := by decide +kernel
theorem dX5_behind_13 : decode cX5_behind 13 = .ok (.invokestatic 114, 3) := by decide +kernel
theorem dX5_behind_16 : decode cX5_behind 16 = .ok (.ifCond .ne 6, 3) := by decide +kernel
theorem dX5_behind_19 : decode cX5_behind 19 = .ok (.ldc 117, 2) := by decide +kernel
theorem dX5_behind_21 : decode cX5_behind 21 = .ok (.ireturn, 1) := by decide +kernel
theorem dX5_behind_22 : decode cX5_behind 22 = .ok (.aload_n 0, 1) := by decide +kernel
theorem dX5_behind_23 : decode cX5_behind 23 = .ok (.invokevirtual 141, 3) := by decide +kernel
theorem dX5_behind_26 : decode cX5_behind 26 = .ok (.aload_n 0, 1) := by decide +kernel
theorem dX5_behind_27 : decode cX5_behind 27 = .ok (.iload_n 1, 1) := by decide +kernel
theorem dX5_behind_28 : decode cX5_behind 28 = .ok (.invokevirtual 205, 3) := by decide +kernel
theorem dX5_behind_31 : decode cX5_behind 31 = .ok (.ifCond .eq 15, 3) := by decide +kernel
theorem dX5_behind_34 : decode cX5_behind 34 = .ok (.aload_n 0, 1) := by decide +kernel
theorem dX5_behind_35 : decode cX5_behind 35 = .ok (.getfield 19, 3) := by decide +kernel
theorem dX5_behind_38 : decode cX5_behind 38 = .ok (.bipush 8, 2) := by decide +kernel
theorem dX5_behind_40 : decode cX5_behind 40 = .ok (.iload_n 2, 1) := by decide +kernel
theorem dX5_behind_41 : decode cX5_behind 41 = .ok (.iadd, 1) := by decide +kernel
theorem dX5_behind_42 : decode cX5_behind 42 = .ok (.iaload, 1) := by decide +kernel
theorem dX5_behind_43 : decode cX5_behind 43 = .ok (.goto 5, 3) := by decide +kernel
theorem dX5_behind_46 : decode cX5_behind 46 = .ok (.ldc 208, 2) := by decide +kernel
theorem dX5_behind_48 : decode cX5_behind 48 = .ok (.istore_n 3, 1) := by decide +kernel
theorem dX5_behind_49 : decode cX5_behind 49 = .ok (.aload_n 0, 1) := by decide +kernel
theorem dX5_behind_50 : decode cX5_behind 50 = .ok (.invokevirtual 147, 3) := by decide +kernel
theorem dX5_behind_53 : decode cX5_behind 53 = .ok (.iload_n 3, 1) := by decide +kernel
theorem dX5_behind_54 : decode cX5_behind 54 = .ok (.ireturn, 1) := by decide +kernel
theorem dX5_see_0 : decode cX5_see 0 = .ok (.iload_n 1, 1) := by decide +kernel
theorem dX5_see_1 : decode cX5_see 1 = .ok (.i2l, 1) := by decide +kernel
theorem dX5_see_2 : decode cX5_see 2 = .ok (.lconst 0, 1) := by decide +kernel
theorem dX5_see_3 : decode cX5_see 3 = .ok (.ldc2_w 203, 3) := by decide +kernel
theorem dX5_see_6 : decode cX5_see 6 = .ok (.invokestatic 62, 3) := by decide +kernel
theorem dX5_see_9 : decode cX5_see 9 = .ok (.ifCond .eq 11, 3) := by decide +kernel
theorem dX5_see_12 : decode cX5_see 12 = .ok (.iload_n 2, 1) := by decide +kernel
theorem dX5_see_13 : decode cX5_see 13 = .ok (.iload_n 3, 1) := by decide +kernel
theorem dX5_see_14 : decode cX5_see 14 = .ok (.invokestatic 195, 3) := by decide +kernel
theorem dX5_see_17 : decode cX5_see 17 = .ok (.ifCond .ne 5, 3) := by decide +kernel
theorem dX5_see_20 : decode cX5_see 20 = .ok (.iconst (-1), 1) := by decide +kernel
theorem dX5_see_21 : decode cX5_see 21 = .ok (.ireturn, 1) := by decide +kernel
theorem dX5_see_22 : decode cX5_see 22 = .ok (.aload_n 0, 1) := by decide +kernel
theorem dX5_see_23 : decode cX5_see 23 = .ok (.getfield 74, 3) := by decide +kernel
theorem dX5_see_26 : decode cX5_see 26 = .ok (.bipush 6, 2) := by decide +kernel
theorem dX5_see_28 : decode cX5_see 28 = .ok (.if_icmp .ne 6, 3) := by decide +kernel
theorem dX5_see_31 : decode cX5_see 31 = .ok (.bipush (-3), 2) := by decide +kernel
theorem dX5_see_33 : decode cX5_see 33 = .ok (.ireturn, 1) := by decide +kernel
theorem dX5_see_34 : decode cX5_see 34 = .ok (.aload_n 0, 1) := by decide +kernel
theorem dX5_see_35 : decode cX5_see 35 = .ok (.getfield 28, 3) := by decide +kernel
theorem dX5_see_38 : decode cX5_see 38 = .ok (.iconst 3, 1) := by decide +kernel
theorem dX5_see_39 : decode cX5_see 39 = .ok (.aload_n 0, 1) := by decide +kernel
theorem dX5_see_40 : decode cX5_see 40 = .ok (.getfield 74, 3) := by decide +kernel
theorem dX5_see_43 : decode cX5_see 43 = .ok (.imul, 1) := by decide +kernel
theorem dX5_see_44 : decode cX5_see 44 = .ok (.iload_n 1, 1) := by decide +kernel
theorem dX5_see_45 : decode cX5_see 45 = .ok (.iastore, 1) := by decide +kernel
theorem dX5_see_46 : decode cX5_see 46 = .ok (.aload_n 0, 1) := by decide +kernel
theorem dX5_see_47 : decode cX5_see 47 = .ok (.getfield 28, 3) := by decide +kernel
theorem dX5_see_50 : decode cX5_see 50 = .ok (.iconst 3, 1) := by decide +kernel
theorem dX5_see_51 : decode cX5_see 51 = .ok (.aload_n 0, 1) := by decide +kernel
theorem dX5_see_52 : decode cX5_see 52 = .ok (.getfield 74, 3) := by decide +kernel
theorem dX5_see_55 : decode cX5_see 55 = .ok (.imul, 1) := by decide +kernel
theorem dX5_see_56 : decode cX5_see 56 = .ok (.iconst 1, 1) := by decide +kernel
theorem dX5_see_57 : decode cX5_see 57 = .ok (.iadd, 1) := by decide +kernel
theorem dX5_see_58 : decode cX5_see 58 = .ok (.iload_n 2, 1) := by decide +kernel
theorem dX5_see_59 : decode cX5_see 59 = .ok (.iastore, 1) := by decide +kernel
theorem dX5_see_60 : decode cX5_see 60 = .ok (.aload_n 0, 1) := by decide +kernel
theorem dX5_see_61 : decode cX5_see 61 = .ok (.getfield 28, 3) := by decide +kernel
theorem dX5_see_64 : decode cX5_see 64 = .ok (.iconst 3, 1) := by decide +kernel
theorem dX5_see_65 : decode cX5_see 65 = .ok (.aload_n 0, 1) := by decide +kernel
theorem dX5_see_66 : decode cX5_see 66 = .ok (.getfield 74, 3) := by decide +kernel
theorem dX5_see_69 : decode cX5_see 69 = .ok (.imul, 1) := by decide +kernel
theorem dX5_see_70 : decode cX5_see 70 = .ok (.iconst 2, 1) := by decide +kernel
theorem dX5_see_71 : decode cX5_see 71 = .ok (.iadd, 1) := by decide +kernel
theorem dX5_see_72 : decode cX5_see 72 = .ok (.iload_n 3, 1) := by decide +kernel
theorem dX5_see_73 : decode cX5_see 73 = .ok (.iastore, 1) := by decide +kernel
theorem dX5_see_74 : decode cX5_see 74 = .ok (.aload_n 0, 1) := by decide +kernel
theorem dX5_see_75 : decode cX5_see 75 = .ok (.dup, 1) := by decide +kernel
theorem dX5_see_76 : decode cX5_see 76 = .ok (.getfield 74, 3) := by decide +kernel
theorem dX5_see_79 : decode cX5_see 79 = .ok (.iconst 1, 1) := by decide +kernel
theorem dX5_see_80 : decode cX5_see 80 = .ok (.iadd, 1) := by decide +kernel
theorem dX5_see_81 : decode cX5_see 81 = .ok (.putfield 74, 3) := by decide +kernel
theorem dX5_see_84 : decode cX5_see 84 = .ok (.aload_n 0, 1) := by decide +kernel
theorem dX5_see_85 : decode cX5_see 85 = .ok (.getfield 74, 3) := by decide +kernel
theorem dX5_see_88 : decode cX5_see 88 = .ok (.ireturn, 1) := by decide +kernel
theorem dX5_forget_0 : decode cX5_forget 0 = .ok (.aload_n 0, 1) := by decide +kernel
theorem dX5_forget_1 : decode cX5_forget 1 = .ok (.getfield 74, 3) := by decide +kernel
theorem dX5_forget_4 : decode cX5_forget 4 = .ok (.istore_n 1, 1) := by decide +kernel
theorem dX5_forget_5 : decode cX5_forget 5 = .ok (.aload_n 0, 1) := by decide +kernel
theorem dX5_forget_6 : decode cX5_forget 6 = .ok (.iconst 0, 1) := by decide +kernel
theorem dX5_forget_7 : decode cX5_forget 7 = .ok (.putfield 74, 3) := by decide +kernel
theorem dX5_forget_10 : decode cX5_forget 10 = .ok (.iload_n 1, 1) := by decide +kernel
theorem dX5_forget_11 : decode cX5_forget 11 = .ok (.ireturn, 1) := by decide +kernel
theorem dX5_isAsSeen_0 : decode cX5_isAsSeen 0 = .ok (.iconst 1, 1) := by decide +kernel
theorem dX5_isAsSeen_1 : decode cX5_isAsSeen 1 = .ok (.istore_n 1, 1) := by decide +kernel
theorem dX5_isAsSeen_2 : decode cX5_isAsSeen 2 = .ok (.iconst 0, 1) := by decide +kernel
theorem dX5_isAsSeen_3 : decode cX5_isAsSeen 3 = .ok (.istore_n 2, 1) := by decide +kernel
theorem dX5_isAsSeen_4 : decode cX5_isAsSeen 4 = .ok (.iload_n 2, 1) := by decide +kernel
theorem dX5_isAsSeen_5 : decode cX5_isAsSeen 5 = .ok (.aload_n 0, 1) := by decide +kernel
theorem dX5_isAsSeen_6 : decode cX5_isAsSeen 6 = .ok (.getfield 74, 3) := by decide +kernel
theorem dX5_isAsSeen_9 : decode cX5_isAsSeen 9 = .ok (.if_icmp .ge 65, 3) := by decide +kernel
theorem dX5_isAsSeen_12 : decode cX5_isAsSeen 12 = .ok (.iload_n 1, 1) := by decide +kernel
theorem dX5_isAsSeen_13 : decode cX5_isAsSeen 13 = .ok (.ifCond .eq 61, 3) := by decide +kernel
theorem dX5_isAsSeen_16 : decode cX5_isAsSeen 16 = .ok (.aload_n 0, 1) := by decide +kernel
theorem dX5_isAsSeen_17 : decode cX5_isAsSeen 17 = .ok (.aload_n 0, 1) := by decide +kernel
theorem dX5_isAsSeen_18 : decode cX5_isAsSeen 18 = .ok (.getfield 28, 3) := by decide +kernel
theorem dX5_isAsSeen_21 : decode cX5_isAsSeen 21 = .ok (.iconst 3, 1) := by decide +kernel
theorem dX5_isAsSeen_22 : decode cX5_isAsSeen 22 = .ok (.iload_n 2, 1) := by decide +kernel
theorem dX5_isAsSeen_23 : decode cX5_isAsSeen 23 = .ok (.imul, 1) := by decide +kernel
theorem dX5_isAsSeen_24 : decode cX5_isAsSeen 24 = .ok (.iaload, 1) := by decide +kernel
theorem dX5_isAsSeen_25 : decode cX5_isAsSeen 25 = .ok (.invokevirtual 205, 3) := by decide +kernel
theorem dX5_isAsSeen_28 : decode cX5_isAsSeen 28 = .ok (.ifCond .eq 34, 3) := by decide +kernel
theorem dX5_isAsSeen_31 : decode cX5_isAsSeen 31 = .ok (.aload_n 0, 1) := by decide +kernel
theorem dX5_isAsSeen_32 : decode cX5_isAsSeen 32 = .ok (.aload_n 0, 1) := by decide +kernel
theorem dX5_isAsSeen_33 : decode cX5_isAsSeen 33 = .ok (.getfield 28, 3) := by decide +kernel
theorem dX5_isAsSeen_36 : decode cX5_isAsSeen 36 = .ok (.iconst 3, 1) := by decide +kernel
theorem dX5_isAsSeen_37 : decode cX5_isAsSeen 37 = .ok (.iload_n 2, 1) := by decide +kernel
theorem dX5_isAsSeen_38 : decode cX5_isAsSeen 38 = .ok (.imul, 1) := by decide +kernel
theorem dX5_isAsSeen_39 : decode cX5_isAsSeen 39 = .ok (.iconst 1, 1) := by decide +kernel
theorem dX5_isAsSeen_40 : decode cX5_isAsSeen 40 = .ok (.iadd, 1) := by decide +kernel
theorem dX5_isAsSeen_41 : decode cX5_isAsSeen 41 = .ok (.iaload, 1) := by decide +kernel
theorem dX5_isAsSeen_42 : decode cX5_isAsSeen 42 = .ok (.aload_n 0, 1) := by decide +kernel
theorem dX5_isAsSeen_43 : decode cX5_isAsSeen 43 = .ok (.getfield 28, 3) := by decide +kernel
theorem dX5_isAsSeen_46 : decode cX5_isAsSeen 46 = .ok (.iconst 3, 1) := by decide +kernel
theorem dX5_isAsSeen_47 : decode cX5_isAsSeen 47 = .ok (.iload_n 2, 1) := by decide +kernel
theorem dX5_isAsSeen_48 : decode cX5_isAsSeen 48 = .ok (.imul, 1) := by decide +kernel
theorem dX5_isAsSeen_49 : decode cX5_isAsSeen 49 = .ok (.iconst 2, 1) := by decide +kernel
theorem dX5_isAsSeen_50 : decode cX5_isAsSeen 50 = .ok (.iadd, 1) := by decide +kernel
theorem dX5_isAsSeen_51 : decode cX5_isAsSeen 51 = .ok (.iaload, 1) := by decide +kernel
theorem dX5_isAsSeen_52 : decode cX5_isAsSeen 52 = .ok (.invokevirtual 165, 3) := by decide +kernel
theorem dX5_isAsSeen_55 : decode cX5_isAsSeen 55 = .ok (.ifCond .eq 7, 3) := by decide +kernel
theorem dX5_isAsSeen_58 : decode cX5_isAsSeen 58 = .ok (.iconst 1, 1) := by decide +kernel
theorem dX5_isAsSeen_59 : decode cX5_isAsSeen 59 = .ok (.goto 4, 3) := by decide +kernel
theorem dX5_isAsSeen_62 : decode cX5_isAsSeen 62 = .ok (.iconst 0, 1) := by decide +kernel
theorem dX5_isAsSeen_63 : decode cX5_isAsSeen 63 = .ok (.istore_n 1, 1) := by decide +kernel
theorem dX5_isAsSeen_64 : decode cX5_isAsSeen 64 = .ok (.aload_n 0, 1) := by decide +kernel
theorem dX5_isAsSeen_65 : decode cX5_isAsSeen 65 = .ok (.invokevirtual 147, 3) := by decide +kernel
theorem dX5_isAsSeen_68 : decode cX5_isAsSeen 68 = .ok (.iinc 2 1, 3) := by decide +kernel
theorem dX5_isAsSeen_71 : decode cX5_isAsSeen 71 = .ok (.goto (-67), 3) := by decide +kernel
theorem dX5_isAsSeen_74 : decode cX5_isAsSeen 74 = .ok (.iload_n 1, 1) := by decide +kernel
theorem dX5_isAsSeen_75 : decode cX5_isAsSeen 75 = .ok (.ireturn, 1) := by decide +kernel
theorem dX5_kindSet_0 : decode cX5_kindSet 0 = .ok (.aload_n 0, 1) := by decide +kernel
theorem dX5_kindSet_1 : decode cX5_kindSet 1 = .ok (.invokevirtual 141, 3) := by decide +kernel
theorem dX5_kindSet_4 : decode cX5_kindSet 4 = .ok (.aload_n 0, 1) := by decide +kernel
theorem dX5_kindSet_5 : decode cX5_kindSet 5 = .ok (.getfield 7, 3) := by decide +kernel
theorem dX5_kindSet_8 : decode cX5_kindSet 8 = .ok (.iload_n 1, 1) := by decide +kernel
theorem dX5_kindSet_9 : decode cX5_kindSet 9 = .ok (.iaload, 1) := by decide +kernel
theorem dX5_kindSet_10 : decode cX5_kindSet 10 = .ok (.istore_n 2, 1) := by decide +kernel
theorem dX5_kindSet_11 : decode cX5_kindSet 11 = .ok (.iconst 0, 1) := by decide +kernel
theorem dX5_kindSet_12 : decode cX5_kindSet 12 = .ok (.istore_n 3, 1) := by decide +kernel
theorem dX5_kindSet_13 : decode cX5_kindSet 13 = .ok (.iconst 0, 1) := by decide +kernel
theorem dX5_kindSet_14 : decode cX5_kindSet 14 = .ok (.istore 4, 2) := by decide +kernel
theorem dX5_kindSet_16 : decode cX5_kindSet 16 = .ok (.iload 4, 2) := by decide +kernel
theorem dX5_kindSet_18 : decode cX5_kindSet 18 = .ok (.iconst 5, 1) := by decide +kernel
theorem dX5_kindSet_19 : decode cX5_kindSet 19 = .ok (.if_icmp .gt 35, 3) := by decide +kernel
theorem dX5_kindSet_22 : decode cX5_kindSet 22 = .ok (.aload_n 0, 1) := by decide +kernel
theorem dX5_kindSet_23 : decode cX5_kindSet 23 = .ok (.getfield 7, 3) := by decide +kernel
theorem dX5_kindSet_26 : decode cX5_kindSet 26 = .ok (.iload_n 1, 1) := by decide +kernel
theorem dX5_kindSet_27 : decode cX5_kindSet 27 = .ok (.iload 4, 2) := by decide +kernel
theorem dX5_kindSet_29 : decode cX5_kindSet 29 = .ok (.iastore, 1) := by decide +kernel
theorem dX5_kindSet_30 : decode cX5_kindSet 30 = .ok (.iload_n 3, 1) := by decide +kernel
theorem dX5_kindSet_31 : decode cX5_kindSet 31 = .ok (.aload_n 0, 1) := by decide +kernel
theorem dX5_kindSet_32 : decode cX5_kindSet 32 = .ok (.invokevirtual 209, 3) := by decide +kernel
theorem dX5_kindSet_35 : decode cX5_kindSet 35 = .ok (.ifCond .eq 10, 3) := by decide +kernel
theorem dX5_kindSet_38 : decode cX5_kindSet 38 = .ok (.iconst 1, 1) := by decide +kernel
theorem dX5_kindSet_39 : decode cX5_kindSet 39 = .ok (.iload 4, 2) := by decide +kernel
theorem dX5_kindSet_41 : decode cX5_kindSet 41 = .ok (.ishl, 1) := by decide +kernel
theorem dX5_kindSet_42 : decode cX5_kindSet 42 = .ok (.goto 4, 3) := by decide +kernel
theorem dX5_kindSet_45 : decode cX5_kindSet 45 = .ok (.iconst 0, 1) := by decide +kernel
theorem dX5_kindSet_46 : decode cX5_kindSet 46 = .ok (.ior, 1) := by decide +kernel
theorem dX5_kindSet_47 : decode cX5_kindSet 47 = .ok (.istore_n 3, 1) := by decide +kernel
theorem dX5_kindSet_48 : decode cX5_kindSet 48 = .ok (.iinc 4 1, 3) := by decide +kernel
theorem dX5_kindSet_51 : decode cX5_kindSet 51 = .ok (.goto (-35), 3) := by decide +kernel
theorem dX5_kindSet_54 : decode cX5_kindSet 54 = .ok (.aload_n 0, 1) := by decide +kernel
theorem dX5_kindSet_55 : decode cX5_kindSet 55 = .ok (.getfield 7, 3) := by decide +kernel
theorem dX5_kindSet_58 : decode cX5_kindSet 58 = .ok (.iload_n 1, 1) := by decide +kernel
theorem dX5_kindSet_59 : decode cX5_kindSet 59 = .ok (.iload_n 2, 1) := by decide +kernel
theorem dX5_kindSet_60 : decode cX5_kindSet 60 = .ok (.iastore, 1) := by decide +kernel
theorem dX5_kindSet_61 : decode cX5_kindSet 61 = .ok (.iload_n 3, 1) := by decide +kernel
theorem dX5_kindSet_62 : decode cX5_kindSet 62 = .ok (.ireturn, 1) := by decide +kernel
theorem dX5_kinds_0 : decode cX5_kinds 0 = .ok (.iload_n 1, 1) := by decide +kernel
theorem dX5_kinds_1 : decode cX5_kinds 1 = .ok (.invokestatic 105, 3) := by decide +kernel
theorem dX5_kinds_4 : decode cX5_kinds 4 = .ok (.ifCond .eq 11, 3) := by decide +kernel
theorem dX5_kinds_7 : decode cX5_kinds 7 = .ok (.aload_n 0, 1) := by decide +kernel
theorem dX5_kinds_8 : decode cX5_kinds 8 = .ok (.iload_n 1, 1) := by decide +kernel
theorem dX5_kinds_9 : decode cX5_kinds 9 = .ok (.invokevirtual 212, 3) := by decide +kernel
theorem dX5_kinds_12 : decode cX5_kinds 12 = .ok (.goto 4, 3) := by decide +kernel
theorem dX5_kinds_15 : decode cX5_kinds 15 = .ok (.iconst (-1), 1) := by decide +kernel
theorem dX5_kinds_16 : decode cX5_kinds 16 = .ok (.ireturn, 1) := by decide +kernel
theorem dX5_partBy_0 : decode cX5_partBy 0 = .ok (.aload_n 0, 1) := by decide +kernel
theorem dX5_partBy_1 : decode cX5_partBy 1 = .ok (.getfield 7, 3) := by decide +kernel
theorem dX5_partBy_4 : decode cX5_partBy 4 = .ok (.iload_n 1, 1) := by decide +kernel
theorem dX5_partBy_5 : decode cX5_partBy 5 = .ok (.iaload, 1) := by decide +kernel
theorem dX5_partBy_6 : decode cX5_partBy 6 = .ok (.istore 4, 2) := by decide +kernel
theorem dX5_partBy_8 : decode cX5_partBy 8 = .ok (.iconst 0, 1) := by decide +kernel
theorem dX5_partBy_9 : decode cX5_partBy 9 = .ok (.istore 5, 2) := by decide +kernel
theorem dX5_partBy_11 : decode cX5_partBy 11 = .ok (.iload 5, 2) := by decide +kernel
theorem dX5_partBy_13 : decode cX5_partBy 13 = .ok (.iconst 5, 1) := by decide +kernel
theorem dX5_partBy_14 : decode cX5_partBy 14 = .ok (.if_icmp .gt 64, 3) := by decide +kernel
theorem dX5_partBy_17 : decode cX5_partBy 17 = .ok (.aload_n 0, 1) := by decide +kernel
theorem dX5_partBy_18 : decode cX5_partBy 18 = .ok (.getfield 7, 3) := by decide +kernel
theorem dX5_partBy_21 : decode cX5_partBy 21 = .ok (.iload_n 1, 1) := by decide +kernel
theorem dX5_partBy_22 : decode cX5_partBy 22 = .ok (.iload 5, 2) := by decide +kernel
theorem dX5_partBy_24 : decode cX5_partBy 24 = .ok (.iastore, 1) := by decide +kernel
theorem dX5_partBy_25 : decode cX5_partBy 25 = .ok (.aload_n 0, 1) := by decide +kernel
theorem dX5_partBy_26 : decode cX5_partBy 26 = .ok (.getfield 46, 3) := by decide +kernel
theorem dX5_partBy_29 : decode cX5_partBy 29 = .ok (.iload 5, 2) := by decide +kernel
theorem dX5_partBy_31 : decode cX5_partBy 31 = .ok (.aload_n 0, 1) := by decide +kernel
theorem dX5_partBy_32 : decode cX5_partBy 32 = .ok (.iload_n 2, 1) := by decide +kernel
theorem dX5_partBy_33 : decode cX5_partBy 33 = .ok (.invokevirtual 205, 3) := by decide +kernel
theorem dX5_partBy_36 : decode cX5_partBy 36 = .ok (.ifCond .eq 29, 3) := by decide +kernel
theorem dX5_partBy_39 : decode cX5_partBy 39 = .ok (.sipush 10000, 3) := by decide +kernel
theorem dX5_partBy_42 : decode cX5_partBy 42 = .ok (.aload_n 0, 1) := by decide +kernel
theorem dX5_partBy_43 : decode cX5_partBy 43 = .ok (.getfield 19, 3) := by decide +kernel
theorem dX5_partBy_46 : decode cX5_partBy 46 = .ok (.bipush 8, 2) := by decide +kernel
theorem dX5_partBy_48 : decode cX5_partBy 48 = .ok (.iaload, 1) := by decide +kernel
theorem dX5_partBy_49 : decode cX5_partBy 49 = .ok (.sipush 9999, 3) := by decide +kernel
theorem dX5_partBy_52 : decode cX5_partBy 52 = .ok (.iadd, 1) := by decide +kernel
theorem dX5_partBy_53 : decode cX5_partBy 53 = .ok (.imul, 1) := by decide +kernel
theorem dX5_partBy_54 : decode cX5_partBy 54 = .ok (.aload_n 0, 1) := by decide +kernel
theorem dX5_partBy_55 : decode cX5_partBy 55 = .ok (.getfield 19, 3) := by decide +kernel
theorem dX5_partBy_58 : decode cX5_partBy 58 = .ok (.bipush 9, 2) := by decide +kernel
theorem dX5_partBy_60 : decode cX5_partBy 60 = .ok (.iaload, 1) := by decide +kernel
theorem dX5_partBy_61 : decode cX5_partBy 61 = .ok (.iadd, 1) := by decide +kernel
theorem dX5_partBy_62 : decode cX5_partBy 62 = .ok (.goto 5, 3) := by decide +kernel
theorem dX5_partBy_65 : decode cX5_partBy 65 = .ok (.bipush (-4), 2) := by decide +kernel
theorem dX5_partBy_67 : decode cX5_partBy 67 = .ok (.iastore, 1) := by decide +kernel
theorem dX5_partBy_68 : decode cX5_partBy 68 = .ok (.aload_n 0, 1) := by decide +kernel
theorem dX5_partBy_69 : decode cX5_partBy 69 = .ok (.invokevirtual 147, 3) := by decide +kernel
theorem dX5_partBy_72 : decode cX5_partBy 72 = .ok (.iinc 5 1, 3) := by decide +kernel
theorem dX5_partBy_75 : decode cX5_partBy 75 = .ok (.goto (-64), 3) := by decide +kernel
theorem dX5_partBy_78 : decode cX5_partBy 78 = .ok (.aload_n 0, 1) := by decide +kernel
theorem dX5_partBy_79 : decode cX5_partBy 79 = .ok (.getfield 7, 3) := by decide +kernel
theorem dX5_partBy_82 : decode cX5_partBy 82 = .ok (.iload_n 1, 1) := by decide +kernel
theorem dX5_partBy_83 : decode cX5_partBy 83 = .ok (.iload 4, 2) := by decide +kernel
theorem dX5_partBy_85 : decode cX5_partBy 85 = .ok (.iastore, 1) := by decide +kernel
theorem dX5_partBy_86 : decode cX5_partBy 86 = .ok (.iconst 0, 1) := by decide +kernel
theorem dX5_partBy_87 : decode cX5_partBy 87 = .ok (.istore 5, 2) := by decide +kernel
theorem dX5_partBy_89 : decode cX5_partBy 89 = .ok (.iconst 0, 1) := by decide +kernel
theorem dX5_partBy_90 : decode cX5_partBy 90 = .ok (.istore 6, 2) := by decide +kernel
theorem dX5_partBy_92 : decode cX5_partBy 92 = .ok (.iload 6, 2) := by decide +kernel
theorem dX5_partBy_94 : decode cX5_partBy 94 = .ok (.iconst 5, 1) := by decide +kernel
theorem dX5_partBy_95 : decode cX5_partBy 95 = .ok (.if_icmp .gt 85, 3) := by decide +kernel
theorem dX5_partBy_98 : decode cX5_partBy 98 = .ok (.iconst 0, 1) := by decide +kernel
theorem dX5_partBy_99 : decode cX5_partBy 99 = .ok (.istore 7, 2) := by decide +kernel
theorem dX5_partBy_101 : decode cX5_partBy 101 = .ok (.iconst 0, 1) := by decide +kernel
theorem dX5_partBy_102 : decode cX5_partBy 102 = .ok (.istore 8, 2) := by decide +kernel
theorem dX5_partBy_104 : decode cX5_partBy 104 = .ok (.iload 8, 2) := by decide +kernel
theorem dX5_partBy_106 : decode cX5_partBy 106 = .ok (.iconst 5, 1) := by decide +kernel
theorem dX5_partBy_107 : decode cX5_partBy 107 = .ok (.if_icmp .gt 51, 3) := by decide +kernel
theorem dX5_partBy_110 : decode cX5_partBy 110 = .ok (.iload 7, 2) := by decide +kernel
theorem dX5_partBy_112 : decode cX5_partBy 112 = .ok (.iload_n 3, 1) := by decide +kernel
theorem dX5_partBy_113 : decode cX5_partBy 113 = .ok (.iload 6, 2) := by decide +kernel
theorem dX5_partBy_115 : decode cX5_partBy 115 = .ok (.ishr, 1) := by decide +kernel
theorem dX5_partBy_116 : decode cX5_partBy 116 = .ok (.iload_n 3, 1) := by decide +kernel
theorem dX5_partBy_117 : decode cX5_partBy 117 = .ok (.iload 8, 2) := by decide +kernel
theorem dX5_partBy_119 : decode cX5_partBy 119 = .ok (.ishr, 1) := by decide +kernel
theorem dX5_partBy_120 : decode cX5_partBy 120 = .ok (.iand, 1) := by decide +kernel
theorem dX5_partBy_121 : decode cX5_partBy 121 = .ok (.iconst 1, 1) := by decide +kernel
theorem dX5_partBy_122 : decode cX5_partBy 122 = .ok (.iand, 1) := by decide +kernel
theorem dX5_partBy_123 : decode cX5_partBy 123 = .ok (.iconst 1, 1) := by decide +kernel
theorem dX5_partBy_124 : decode cX5_partBy 124 = .ok (.if_icmp .ne 24, 3) := by decide +kernel
theorem dX5_partBy_127 : decode cX5_partBy 127 = .ok (.aload_n 0, 1) := by decide +kernel
theorem dX5_partBy_128 : decode cX5_partBy 128 = .ok (.getfield 46, 3) := by decide +kernel
theorem dX5_partBy_131 : decode cX5_partBy 131 = .ok (.iload 6, 2) := by decide +kernel
theorem dX5_partBy_133 : decode cX5_partBy 133 = .ok (.iaload, 1) := by decide +kernel
theorem dX5_partBy_134 : decode cX5_partBy 134 = .ok (.aload_n 0, 1) := by decide +kernel
theorem dX5_partBy_135 : decode cX5_partBy 135 = .ok (.getfield 46, 3) := by decide +kernel
theorem dX5_partBy_138 : decode cX5_partBy 138 = .ok (.iload 8, 2) := by decide +kernel
theorem dX5_partBy_140 : decode cX5_partBy 140 = .ok (.iaload, 1) := by decide +kernel
theorem dX5_partBy_141 : decode cX5_partBy 141 = .ok (.if_icmp .ne 7, 3) := by decide +kernel
theorem dX5_partBy_144 : decode cX5_partBy 144 = .ok (.iconst 1, 1) := by decide +kernel
theorem dX5_partBy_145 : decode cX5_partBy 145 = .ok (.goto 4, 3) := by decide +kernel
theorem dX5_partBy_148 : decode cX5_partBy 148 = .ok (.iconst 0, 1) := by decide +kernel
theorem dX5_partBy_149 : decode cX5_partBy 149 = .ok (.iadd, 1) := by decide +kernel
theorem dX5_partBy_150 : decode cX5_partBy 150 = .ok (.istore 7, 2) := by decide +kernel
theorem dX5_partBy_152 : decode cX5_partBy 152 = .ok (.iinc 8 1, 3) := by decide +kernel
theorem dX5_partBy_155 : decode cX5_partBy 155 = .ok (.goto (-51), 3) := by decide +kernel
theorem dX5_partBy_158 : decode cX5_partBy 158 = .ok (.iload 7, 2) := by decide +kernel
theorem dX5_partBy_160 : decode cX5_partBy 160 = .ok (.iload 5, 2) := by decide +kernel
theorem dX5_partBy_162 : decode cX5_partBy 162 = .ok (.if_icmp .le 8, 3) := by decide +kernel
theorem dX5_partBy_165 : decode cX5_partBy 165 = .ok (.iload 7, 2) := by decide +kernel
theorem dX5_partBy_167 : decode cX5_partBy 167 = .ok (.goto 5, 3) := by decide +kernel
theorem dX5_partBy_170 : decode cX5_partBy 170 = .ok (.iload 5, 2) := by decide +kernel
theorem dX5_partBy_172 : decode cX5_partBy 172 = .ok (.istore 5, 2) := by decide +kernel
theorem dX5_partBy_174 : decode cX5_partBy 174 = .ok (.iinc 6 1, 3) := by decide +kernel
theorem dX5_partBy_177 : decode cX5_partBy 177 = .ok (.goto (-85), 3) := by decide +kernel
theorem dX5_partBy_180 : decode cX5_partBy 180 = .ok (.iload 5, 2) := by decide +kernel
theorem dX5_partBy_182 : decode cX5_partBy 182 = .ok (.ireturn, 1) := by decide +kernel
theorem dX5_look_0 : decode cX5_look 0 = .ok (.iload_n 1, 1) := by decide +kernel
theorem dX5_look_1 : decode cX5_look 1 = .ok (.invokestatic 105, 3) := by decide +kernel
theorem dX5_look_4 : decode cX5_look 4 = .ok (.ifCond .eq 10, 3) := by decide +kernel
theorem dX5_look_7 : decode cX5_look 7 = .ok (.iload_n 2, 1) := by decide +kernel
theorem dX5_look_8 : decode cX5_look 8 = .ok (.invokestatic 114, 3) := by decide +kernel
theorem dX5_look_11 : decode cX5_look 11 = .ok (.ifCond .ne 5, 3) := by decide +kernel
theorem dX5_look_14 : decode cX5_look 14 = .ok (.iconst (-1), 1) := by decide +kernel
theorem dX5_look_15 : decode cX5_look 15 = .ok (.ireturn, 1) := by decide +kernel
theorem dX5_look_16 : decode cX5_look 16 = .ok (.aload_n 0, 1) := by decide +kernel
theorem dX5_look_17 : decode cX5_look 17 = .ok (.iload_n 1, 1) := by decide +kernel
theorem dX5_look_18 : decode cX5_look 18 = .ok (.invokevirtual 212, 3) := by decide +kernel
theorem dX5_look_21 : decode cX5_look 21 = .ok (.istore_n 3, 1) := by decide +kernel
theorem dX5_look_22 : decode cX5_look 22 = .ok (.iload_n 3, 1) := by decide +kernel
theorem dX5_look_23 : decode cX5_look 23 = .ok (.iload_n 3, 1) := by decide +kernel
theorem dX5_look_24 : decode cX5_look 24 = .ok (.iconst 1, 1) := by decide +kernel
theorem dX5_look_25 : decode cX5_look 25 = .ok (.isub, 1) := by decide +kernel
theorem dX5_look_26 : decode cX5_look 26 = .ok (.iand, 1) := by decide +kernel
theorem dX5_look_27 : decode cX5_look 27 = .ok (.ifCond .ne 6, 3) := by decide +kernel
theorem dX5_look_30 : decode cX5_look 30 = .ok (.bipush (-4), 2) := by decide +kernel
theorem dX5_look_32 : decode cX5_look 32 = .ok (.ireturn, 1) := by decide +kernel
theorem dX5_look_33 : decode cX5_look 33 = .ok (.iconst 0, 1) := by decide +kernel
theorem dX5_look_34 : decode cX5_look 34 = .ok (.istore 4, 2) := by decide +kernel
theorem dX5_look_36 : decode cX5_look 36 = .ok (.bipush 10, 2) := by decide +kernel
theorem dX5_look_38 : decode cX5_look 38 = .ok (.istore 5, 2) := by decide +kernel
theorem dX5_look_40 : decode cX5_look 40 = .ok (.iconst 1, 1) := by decide +kernel
theorem dX5_look_41 : decode cX5_look 41 = .ok (.istore 6, 2) := by decide +kernel
theorem dX5_look_43 : decode cX5_look 43 = .ok (.iload 6, 2) := by decide +kernel
theorem dX5_look_45 : decode cX5_look 45 = .ok (.bipush 12, 2) := by decide +kernel
theorem dX5_look_47 : decode cX5_look 47 = .ok (.if_icmp .gt 51, 3) := by decide +kernel
theorem dX5_look_50 : decode cX5_look 50 = .ok (.aload_n 0, 1) := by decide +kernel
theorem dX5_look_51 : decode cX5_look 51 = .ok (.iload_n 1, 1) := by decide +kernel
theorem dX5_look_52 : decode cX5_look 52 = .ok (.iload 6, 2) := by decide +kernel
theorem dX5_look_54 : decode cX5_look 54 = .ok (.iload_n 3, 1) := by decide +kernel
theorem dX5_look_55 : decode cX5_look 55 = .ok (.invokevirtual 215, 3) := by decide +kernel
theorem dX5_look_58 : decode cX5_look 58 = .ok (.istore 7, 2) := by decide +kernel
theorem dX5_look_60 : decode cX5_look 60 = .ok (.iload 7, 2) := by decide +kernel
theorem dX5_look_62 : decode cX5_look 62 = .ok (.iload 5, 2) := by decide +kernel
theorem dX5_look_64 : decode cX5_look 64 = .ok (.if_icmp .ge 8, 3) := by decide +kernel
theorem dX5_look_67 : decode cX5_look 67 = .ok (.iload 6, 2) := by decide +kernel
theorem dX5_look_69 : decode cX5_look 69 = .ok (.goto 5, 3) := by decide +kernel
theorem dX5_look_72 : decode cX5_look 72 = .ok (.iload 4, 2) := by decide +kernel
theorem dX5_look_74 : decode cX5_look 74 = .ok (.istore 4, 2) := by decide +kernel
theorem dX5_look_76 : decode cX5_look 76 = .ok (.iload 7, 2) := by decide +kernel
theorem dX5_look_78 : decode cX5_look 78 = .ok (.iload 5, 2) := by decide +kernel
theorem dX5_look_80 : decode cX5_look 80 = .ok (.if_icmp .ge 8, 3) := by decide +kernel
theorem dX5_look_83 : decode cX5_look 83 = .ok (.iload 7, 2) := by decide +kernel
theorem dX5_look_85 : decode cX5_look 85 = .ok (.goto 5, 3) := by decide +kernel
theorem dX5_look_88 : decode cX5_look 88 = .ok (.iload 5, 2) := by decide +kernel
theorem dX5_look_90 : decode cX5_look 90 = .ok (.istore 5, 2) := by decide +kernel
theorem dX5_look_92 : decode cX5_look 92 = .ok (.iinc 6 1, 3) := by decide +kernel
theorem dX5_look_95 : decode cX5_look 95 = .ok (.goto (-52), 3) := by decide +kernel
theorem dX5_look_98 : decode cX5_look 98 = .ok (.iload_n 2, 1) := by decide +kernel
theorem dX5_look_99 : decode cX5_look 99 = .ok (.ifCond .ne 8, 3) := by decide +kernel
theorem dX5_look_102 : decode cX5_look 102 = .ok (.iload 4, 2) := by decide +kernel
theorem dX5_look_104 : decode cX5_look 104 = .ok (.goto 5, 3) := by decide +kernel
theorem dX5_look_107 : decode cX5_look 107 = .ok (.iload 5, 2) := by decide +kernel
theorem dX5_look_109 : decode cX5_look 109 = .ok (.ireturn, 1) := by decide +kernel
theorem dX5_danced_0 : decode cX5_danced 0 = .ok (.iload_n 1, 1) := by decide +kernel
theorem dX5_danced_1 : decode cX5_danced 1 = .ok (.i2l, 1) := by decide +kernel
theorem dX5_danced_2 : decode cX5_danced 2 = .ok (.lconst 0, 1) := by decide +kernel
theorem dX5_danced_3 : decode cX5_danced 3 = .ok (.ldc2_w 198, 3) := by decide +kernel
theorem dX5_danced_6 : decode cX5_danced 6 = .ok (.invokestatic 62, 3) := by decide +kernel
theorem dX5_danced_9 : decode cX5_danced 9 = .ok (.ifCond .ne 5, 3) := by decide +kernel
theorem dX5_danced_12 : decode cX5_danced 12 = .ok (.iconst (-1), 1) := by decide +kernel
theorem dX5_danced_13 : decode cX5_danced 13 = .ok (.ireturn, 1) := by decide +kernel
theorem dX5_danced_14 : decode cX5_danced 14 = .ok (.aload_n 0, 1) := by decide +kernel
theorem dX5_danced_15 : decode cX5_danced 15 = .ok (.getfield 19, 3) := by decide +kernel
theorem dX5_danced_18 : decode cX5_danced 18 = .ok (.bipush 8, 2) := by decide +kernel
theorem dX5_danced_20 : decode cX5_danced 20 = .ok (.iaload, 1) := by decide +kernel
theorem dX5_danced_21 : decode cX5_danced 21 = .ok (.istore_n 2, 1) := by decide +kernel
theorem dX5_danced_22 : decode cX5_danced 22 = .ok (.aload_n 0, 1) := by decide +kernel
theorem dX5_danced_23 : decode cX5_danced 23 = .ok (.getfield 19, 3) := by decide +kernel
theorem dX5_danced_26 : decode cX5_danced 26 = .ok (.bipush 9, 2) := by decide +kernel
theorem dX5_danced_28 : decode cX5_danced 28 = .ok (.iaload, 1) := by decide +kernel
theorem dX5_danced_29 : decode cX5_danced 29 = .ok (.istore_n 3, 1) := by decide +kernel
theorem dX5_danced_30 : decode cX5_danced 30 = .ok (.aload_n 0, 1) := by decide +kernel
theorem dX5_danced_31 : decode cX5_danced 31 = .ok (.invokevirtual 141, 3) := by decide +kernel
theorem dX5_danced_34 : decode cX5_danced 34 = .ok (.iconst 0, 1) := by decide +kernel
theorem dX5_danced_35 : decode cX5_danced 35 = .ok (.istore 4, 2) := by decide +kernel
theorem dX5_danced_37 : decode cX5_danced 37 = .ok (.iload 4, 2) := by decide +kernel
theorem dX5_danced_39 : decode cX5_danced 39 = .ok (.iconst 4, 1) := by decide +kernel
theorem dX5_danced_40 : decode cX5_danced 40 = .ok (.if_icmp .ge 31, 3) := by decide +kernel
theorem dX5_danced_43 : decode cX5_danced 43 = .ok (.aload_n 0, 1) := by decide +kernel
theorem dX5_danced_44 : decode cX5_danced 44 = .ok (.getfield 49, 3) := by decide +kernel
theorem dX5_danced_47 : decode cX5_danced 47 = .ok (.iload 4, 2) := by decide +kernel
theorem dX5_danced_49 : decode cX5_danced 49 = .ok (.aload_n 0, 1) := by decide +kernel
theorem dX5_danced_50 : decode cX5_danced 50 = .ok (.getfield 7, 3) := by decide +kernel
theorem dX5_danced_53 : decode cX5_danced 53 = .ok (.iload 4, 2) := by decide +kernel
theorem dX5_danced_55 : decode cX5_danced 55 = .ok (.iaload, 1) := by decide +kernel
theorem dX5_danced_56 : decode cX5_danced 56 = .ok (.iastore, 1) := by decide +kernel
theorem dX5_danced_57 : decode cX5_danced 57 = .ok (.aload_n 0, 1) := by decide +kernel
theorem dX5_danced_58 : decode cX5_danced 58 = .ok (.getfield 7, 3) := by decide +kernel
theorem dX5_danced_61 : decode cX5_danced 61 = .ok (.iload 4, 2) := by decide +kernel
theorem dX5_danced_63 : decode cX5_danced 63 = .ok (.iconst 0, 1) := by decide +kernel
theorem dX5_danced_64 : decode cX5_danced 64 = .ok (.iastore, 1) := by decide +kernel
theorem dX5_danced_65 : decode cX5_danced 65 = .ok (.iinc 4 1, 3) := by decide +kernel
theorem dX5_danced_68 : decode cX5_danced 68 = .ok (.goto (-31), 3) := by decide +kernel
theorem dX5_danced_71 : decode cX5_danced 71 = .ok (.iconst 0, 1) := by decide +kernel
theorem dX5_danced_72 : decode cX5_danced 72 = .ok (.istore 4, 2) := by decide +kernel
theorem dX5_danced_74 : decode cX5_danced 74 = .ok (.iconst 0, 1) := by decide +kernel
theorem dX5_danced_75 : decode cX5_danced 75 = .ok (.istore 5, 2) := by decide +kernel
theorem dX5_danced_77 : decode cX5_danced 77 = .ok (.iload 5, 2) := by decide +kernel
theorem dX5_danced_79 : decode cX5_danced 79 = .ok (.iconst 3, 1) := by decide +kernel
theorem dX5_danced_80 : decode cX5_danced 80 = .ok (.iload_n 1, 1) := by decide +kernel
theorem dX5_danced_81 : decode cX5_danced 81 = .ok (.invokestatic 156, 3) := by decide +kernel
theorem dX5_danced_84 : decode cX5_danced 84 = .ok (.if_icmp .ge 54, 3) := by decide +kernel
theorem dX5_danced_87 : decode cX5_danced 87 = .ok (.aload_n 0, 1) := by decide +kernel
theorem dX5_danced_88 : decode cX5_danced 88 = .ok (.getfield 19, 3) := by decide +kernel
theorem dX5_danced_91 : decode cX5_danced 91 = .ok (.bipush 8, 2) := by decide +kernel
theorem dX5_danced_93 : decode cX5_danced 93 = .ok (.iconst 0, 1) := by decide +kernel
theorem dX5_danced_94 : decode cX5_danced 94 = .ok (.iastore, 1) := by decide +kernel
theorem dX5_danced_95 : decode cX5_danced 95 = .ok (.aload_n 0, 1) := by decide +kernel
theorem dX5_danced_96 : decode cX5_danced 96 = .ok (.getfield 19, 3) := by decide +kernel
theorem dX5_danced_99 : decode cX5_danced 99 = .ok (.bipush 9, 2) := by decide +kernel
theorem dX5_danced_101 : decode cX5_danced 101 = .ok (.iconst 1, 1) := by decide +kernel
theorem dX5_danced_102 : decode cX5_danced 102 = .ok (.iastore, 1) := by decide +kernel
theorem dX5_danced_103 : decode cX5_danced 103 = .ok (.iload 4, 2) := by decide +kernel
theorem dX5_danced_105 : decode cX5_danced 105 = .ok (.aload_n 0, 1) := by decide +kernel
theorem dX5_danced_106 : decode cX5_danced 106 = .ok (.iload 5, 2) := by decide +kernel
theorem dX5_danced_108 : decode cX5_danced 108 = .ok (.iload_n 1, 1) := by decide +kernel
theorem dX5_danced_109 : decode cX5_danced 109 = .ok (.invokevirtual 162, 3) := by decide +kernel
theorem dX5_danced_112 : decode cX5_danced 112 = .ok (.ifCond .eq 16, 3) := by decide +kernel
theorem dX5_danced_115 : decode cX5_danced 115 = .ok (.aload_n 0, 1) := by decide +kernel
theorem dX5_danced_116 : decode cX5_danced 116 = .ok (.iload_n 2, 1) := by decide +kernel
theorem dX5_danced_117 : decode cX5_danced 117 = .ok (.iload_n 3, 1) := by decide +kernel
theorem dX5_danced_118 : decode cX5_danced 118 = .ok (.invokevirtual 165, 3) := by decide +kernel
theorem dX5_danced_121 : decode cX5_danced 121 = .ok (.ifCond .eq 7, 3) := by decide +kernel
theorem dX5_danced_124 : decode cX5_danced 124 = .ok (.iconst 1, 1) := by decide +kernel
theorem dX5_danced_125 : decode cX5_danced 125 = .ok (.goto 4, 3) := by decide +kernel
theorem dX5_danced_128 : decode cX5_danced 128 = .ok (.iconst 0, 1) := by decide +kernel
theorem dX5_danced_129 : decode cX5_danced 129 = .ok (.iadd, 1) := by decide +kernel
theorem dX5_danced_130 : decode cX5_danced 130 = .ok (.istore 4, 2) := by decide +kernel
theorem dX5_danced_132 : decode cX5_danced 132 = .ok (.iinc 5 1, 3) := by decide +kernel
theorem dX5_danced_135 : decode cX5_danced 135 = .ok (.goto (-58), 3) := by decide +kernel
theorem dX5_danced_138 : decode cX5_danced 138 = .ok (.iconst 0, 1) := by decide +kernel
theorem dX5_danced_139 : decode cX5_danced 139 = .ok (.istore 5, 2) := by decide +kernel
theorem dX5_danced_141 : decode cX5_danced 141 = .ok (.iload 5, 2) := by decide +kernel
theorem dX5_danced_143 : decode cX5_danced 143 = .ok (.iconst 4, 1) := by decide +kernel
theorem dX5_danced_144 : decode cX5_danced 144 = .ok (.if_icmp .ge 23, 3) := by decide +kernel
theorem dX5_danced_147 : decode cX5_danced 147 = .ok (.aload_n 0, 1) := by decide +kernel
theorem dX5_danced_148 : decode cX5_danced 148 = .ok (.getfield 7, 3) := by decide +kernel
theorem dX5_danced_151 : decode cX5_danced 151 = .ok (.iload 5, 2) := by decide +kernel
theorem dX5_danced_153 : decode cX5_danced 153 = .ok (.aload_n 0, 1) := by decide +kernel
theorem dX5_danced_154 : decode cX5_danced 154 = .ok (.getfield 49, 3) := by decide +kernel
theorem dX5_danced_157 : decode cX5_danced 157 = .ok (.iload 5, 2) := by decide +kernel
theorem dX5_danced_159 : decode cX5_danced 159 = .ok (.iaload, 1) := by decide +kernel
theorem dX5_danced_160 : decode cX5_danced 160 = .ok (.iastore, 1) := by decide +kernel
theorem dX5_danced_161 : decode cX5_danced 161 = .ok (.iinc 5 1, 3) := by decide +kernel
theorem dX5_danced_164 : decode cX5_danced 164 = .ok (.goto (-23), 3) := by decide +kernel
theorem dX5_danced_167 : decode cX5_danced 167 = .ok (.aload_n 0, 1) := by decide +kernel
theorem dX5_danced_168 : decode cX5_danced 168 = .ok (.invokevirtual 147, 3) := by decide +kernel
theorem dX5_danced_171 : decode cX5_danced 171 = .ok (.iload 4, 2) := by decide +kernel
theorem dX5_danced_173 : decode cX5_danced 173 = .ok (.ireturn, 1) := by decide +kernel
theorem dX5_greater_0 : decode cX5_greater 0 = .ok (.aload_n 0, 1) := by decide +kernel
theorem dX5_greater_1 : decode cX5_greater 1 = .ok (.getfield 19, 3) := by decide +kernel
theorem dX5_greater_4 : decode cX5_greater 4 = .ok (.bipush 8, 2) := by decide +kernel
theorem dX5_greater_6 : decode cX5_greater 6 = .ok (.iaload, 1) := by decide +kernel
theorem dX5_greater_7 : decode cX5_greater 7 = .ok (.ifCond .ge 14, 3) := by decide +kernel
theorem dX5_greater_10 : decode cX5_greater 10 = .ok (.aload_n 0, 1) := by decide +kernel
theorem dX5_greater_11 : decode cX5_greater 11 = .ok (.getfield 19, 3) := by decide +kernel
theorem dX5_greater_14 : decode cX5_greater 14 = .ok (.bipush 8, 2) := by decide +kernel
theorem dX5_greater_16 : decode cX5_greater 16 = .ok (.iaload, 1) := by decide +kernel
theorem dX5_greater_17 : decode cX5_greater 17 = .ok (.ineg, 1) := by decide +kernel
theorem dX5_greater_18 : decode cX5_greater 18 = .ok (.goto 10, 3) := by decide +kernel
theorem dX5_greater_21 : decode cX5_greater 21 = .ok (.aload_n 0, 1) := by decide +kernel
theorem dX5_greater_22 : decode cX5_greater 22 = .ok (.getfield 19, 3) := by decide +kernel
theorem dX5_greater_25 : decode cX5_greater 25 = .ok (.bipush 8, 2) := by decide +kernel
theorem dX5_greater_27 : decode cX5_greater 27 = .ok (.iaload, 1) := by decide +kernel
theorem dX5_greater_28 : decode cX5_greater 28 = .ok (.istore_n 1, 1) := by decide +kernel
theorem dX5_greater_29 : decode cX5_greater 29 = .ok (.iload_n 1, 1) := by decide +kernel
theorem dX5_greater_30 : decode cX5_greater 30 = .ok (.aload_n 0, 1) := by decide +kernel
theorem dX5_greater_31 : decode cX5_greater 31 = .ok (.getfield 19, 3) := by decide +kernel
theorem dX5_greater_34 : decode cX5_greater 34 = .ok (.bipush 9, 2) := by decide +kernel
theorem dX5_greater_36 : decode cX5_greater 36 = .ok (.iaload, 1) := by decide +kernel
theorem dX5_greater_37 : decode cX5_greater 37 = .ok (.if_icmp .le 7, 3) := by decide +kernel
theorem dX5_greater_40 : decode cX5_greater 40 = .ok (.iload_n 1, 1) := by decide +kernel
theorem dX5_greater_41 : decode cX5_greater 41 = .ok (.goto 10, 3) := by decide +kernel
theorem dX5_greater_44 : decode cX5_greater 44 = .ok (.aload_n 0, 1) := by decide +kernel
theorem dX5_greater_45 : decode cX5_greater 45 = .ok (.getfield 19, 3) := by decide +kernel
theorem dX5_greater_48 : decode cX5_greater 48 = .ok (.bipush 9, 2) := by decide +kernel
theorem dX5_greater_50 : decode cX5_greater 50 = .ok (.iaload, 1) := by decide +kernel
theorem dX5_greater_51 : decode cX5_greater 51 = .ok (.ireturn, 1) := by decide +kernel
theorem dX5_better_0 : decode cX5_better 0 = .ok (.iload_n 1, 1) := by decide +kernel
theorem dX5_better_1 : decode cX5_better 1 = .ok (.ifCond .ge 7, 3) := by decide +kernel
theorem dX5_better_4 : decode cX5_better 4 = .ok (.iload_n 2, 1) := by decide +kernel
theorem dX5_better_5 : decode cX5_better 5 = .ok (.goto 30, 3) := by decide +kernel
theorem dX5_better_8 : decode cX5_better 8 = .ok (.iload_n 2, 1) := by decide +kernel
theorem dX5_better_9 : decode cX5_better 9 = .ok (.ifCond .ge 7, 3) := by decide +kernel
theorem dX5_better_12 : decode cX5_better 12 = .ok (.iload_n 1, 1) := by decide +kernel
theorem dX5_better_13 : decode cX5_better 13 = .ok (.goto 22, 3) := by decide +kernel
theorem dX5_better_16 : decode cX5_better 16 = .ok (.iload_n 2, 1) := by decide +kernel
theorem dX5_better_17 : decode cX5_better 17 = .ok (.iload_n 1, 1) := by decide +kernel
theorem dX5_better_18 : decode cX5_better 18 = .ok (.if_icmp .le 7, 3) := by decide +kernel
theorem dX5_better_21 : decode cX5_better 21 = .ok (.iconst 1, 1) := by decide +kernel
theorem dX5_better_22 : decode cX5_better 22 = .ok (.goto 4, 3) := by decide +kernel
theorem dX5_better_25 : decode cX5_better 25 = .ok (.iconst 0, 1) := by decide +kernel
theorem dX5_better_26 : decode cX5_better 26 = .ok (.iload_n 3, 1) := by decide +kernel
theorem dX5_better_27 : decode cX5_better 27 = .ok (.if_icmp .ne 7, 3) := by decide +kernel
theorem dX5_better_30 : decode cX5_better 30 = .ok (.iload_n 2, 1) := by decide +kernel
theorem dX5_better_31 : decode cX5_better 31 = .ok (.goto 4, 3) := by decide +kernel
theorem dX5_better_34 : decode cX5_better 34 = .ok (.iload_n 1, 1) := by decide +kernel
theorem dX5_better_35 : decode cX5_better 35 = .ok (.ireturn, 1) := by decide +kernel
theorem dX5_duel_0 : decode cX5_duel 0 = .ok (.iload_n 1, 1) := by decide +kernel
theorem dX5_duel_1 : decode cX5_duel 1 = .ok (.i2l, 1) := by decide +kernel
theorem dX5_duel_2 : decode cX5_duel 2 = .ok (.lconst 0, 1) := by decide +kernel
theorem dX5_duel_3 : decode cX5_duel 3 = .ok (.ldc2_w 219, 3) := by decide +kernel
theorem dX5_duel_6 : decode cX5_duel 6 = .ok (.invokestatic 62, 3) := by decide +kernel
theorem dX5_duel_9 : decode cX5_duel 9 = .ok (.ifCond .ne 5, 3) := by decide +kernel
theorem dX5_duel_12 : decode cX5_duel 12 = .ok (.iconst (-1), 1) := by decide +kernel
theorem dX5_duel_13 : decode cX5_duel 13 = .ok (.ireturn, 1) := by decide +kernel
theorem dX5_duel_14 : decode cX5_duel 14 = .ok (.aload_n 0, 1) := by decide +kernel
theorem dX5_duel_15 : decode cX5_duel 15 = .ok (.invokevirtual 141, 3) := by decide +kernel
theorem dX5_duel_18 : decode cX5_duel 18 = .ok (.iconst 3, 1) := by decide +kernel
theorem dX5_duel_19 : decode cX5_duel 19 = .ok (.iload_n 1, 1) := by decide +kernel
theorem dX5_duel_20 : decode cX5_duel 20 = .ok (.invokestatic 156, 3) := by decide +kernel
theorem dX5_duel_23 : decode cX5_duel 23 = .ok (.istore_n 2, 1) := by decide +kernel
theorem dX5_duel_24 : decode cX5_duel 24 = .ok (.iconst 0, 1) := by decide +kernel
theorem dX5_duel_25 : decode cX5_duel 25 = .ok (.istore_n 3, 1) := by decide +kernel
theorem dX5_duel_26 : decode cX5_duel 26 = .ok (.iload_n 3, 1) := by decide +kernel
theorem dX5_duel_27 : decode cX5_duel 27 = .ok (.iload_n 2, 1) := by decide +kernel
theorem dX5_duel_28 : decode cX5_duel 28 = .ok (.if_icmp .ge 96, 3) := by decide +kernel
theorem dX5_duel_31 : decode cX5_duel 31 = .ok (.iconst 1, 1) := by decide +kernel
theorem dX5_duel_32 : decode cX5_duel 32 = .ok (.istore 4, 2) := by decide +kernel
theorem dX5_duel_34 : decode cX5_duel 34 = .ok (.iconst 0, 1) := by decide +kernel
theorem dX5_duel_35 : decode cX5_duel 35 = .ok (.istore 5, 2) := by decide +kernel
theorem dX5_duel_37 : decode cX5_duel 37 = .ok (.iload_n 2, 1) := by decide +kernel
theorem dX5_duel_38 : decode cX5_duel 38 = .ok (.iconst 3, 1) := by decide +kernel
theorem dX5_duel_39 : decode cX5_duel 39 = .ok (.idiv, 1) := by decide +kernel
theorem dX5_duel_40 : decode cX5_duel 40 = .ok (.istore 6, 2) := by decide +kernel
theorem dX5_duel_42 : decode cX5_duel 42 = .ok (.iload 6, 2) := by decide +kernel
theorem dX5_duel_44 : decode cX5_duel 44 = .ok (.ifCond .le 50, 3) := by decide +kernel
theorem dX5_duel_47 : decode cX5_duel 47 = .ok (.iload 4, 2) := by decide +kernel
theorem dX5_duel_49 : decode cX5_duel 49 = .ok (.ifCond .eq 45, 3) := by decide +kernel
theorem dX5_duel_52 : decode cX5_duel 52 = .ok (.iload_n 3, 1) := by decide +kernel
theorem dX5_duel_53 : decode cX5_duel 53 = .ok (.iload 6, 2) := by decide +kernel
theorem dX5_duel_55 : decode cX5_duel 55 = .ok (.idiv, 1) := by decide +kernel
theorem dX5_duel_56 : decode cX5_duel 56 = .ok (.iconst 3, 1) := by decide +kernel
theorem dX5_duel_57 : decode cX5_duel 57 = .ok (.irem, 1) := by decide +kernel
theorem dX5_duel_58 : decode cX5_duel 58 = .ok (.istore 7, 2) := by decide +kernel
theorem dX5_duel_60 : decode cX5_duel 60 = .ok (.aload_n 0, 1) := by decide +kernel
theorem dX5_duel_61 : decode cX5_duel 61 = .ok (.iload 7, 2) := by decide +kernel
theorem dX5_duel_63 : decode cX5_duel 63 = .ok (.ifCond .ne 10, 3) := by decide +kernel
theorem dX5_duel_66 : decode cX5_duel 66 = .ok (.iload 5, 2) := by decide +kernel
theorem dX5_duel_68 : decode cX5_duel 68 = .ok (.iconst 2, 1) := by decide +kernel
theorem dX5_duel_69 : decode cX5_duel 69 = .ok (.irem, 1) := by decide +kernel
theorem dX5_duel_70 : decode cX5_duel 70 = .ok (.goto 7, 3) := by decide +kernel
theorem dX5_duel_73 : decode cX5_duel 73 = .ok (.iload 7, 2) := by decide +kernel
theorem dX5_duel_75 : decode cX5_duel 75 = .ok (.iconst 1, 1) := by decide +kernel
theorem dX5_duel_76 : decode cX5_duel 76 = .ok (.iadd, 1) := by decide +kernel
theorem dX5_duel_77 : decode cX5_duel 77 = .ok (.invokevirtual 144, 3) := by decide +kernel
theorem dX5_duel_80 : decode cX5_duel 80 = .ok (.istore 4, 2) := by decide +kernel
theorem dX5_duel_82 : decode cX5_duel 82 = .ok (.iinc 5 1, 3) := by decide +kernel
theorem dX5_duel_85 : decode cX5_duel 85 = .ok (.iload 6, 2) := by decide +kernel
theorem dX5_duel_87 : decode cX5_duel 87 = .ok (.iconst 3, 1) := by decide +kernel
theorem dX5_duel_88 : decode cX5_duel 88 = .ok (.idiv, 1) := by decide +kernel
theorem dX5_duel_89 : decode cX5_duel 89 = .ok (.istore 6, 2) := by decide +kernel
theorem dX5_duel_91 : decode cX5_duel 91 = .ok (.goto (-49), 3) := by decide +kernel
theorem dX5_duel_94 : decode cX5_duel 94 = .ok (.aload_n 0, 1) := by decide +kernel
theorem dX5_duel_95 : decode cX5_duel 95 = .ok (.getfield 52, 3) := by decide +kernel
theorem dX5_duel_98 : decode cX5_duel 98 = .ok (.iload_n 3, 1) := by decide +kernel
theorem dX5_duel_99 : decode cX5_duel 99 = .ok (.iload 4, 2) := by decide +kernel
theorem dX5_duel_101 : decode cX5_duel 101 = .ok (.ifCond .eq 10, 3) := by decide +kernel
theorem dX5_duel_104 : decode cX5_duel 104 = .ok (.aload_n 0, 1) := by decide +kernel
theorem dX5_duel_105 : decode cX5_duel 105 = .ok (.invokevirtual 221, 3) := by decide +kernel
theorem dX5_duel_108 : decode cX5_duel 108 = .ok (.goto 5, 3) := by decide +kernel
theorem dX5_duel_111 : decode cX5_duel 111 = .ok (.bipush (-4), 2) := by decide +kernel
theorem dX5_duel_113 : decode cX5_duel 113 = .ok (.iastore, 1) := by decide +kernel
theorem dX5_duel_114 : decode cX5_duel 114 = .ok (.aload_n 0, 1) := by decide +kernel
theorem dX5_duel_115 : decode cX5_duel 115 = .ok (.invokevirtual 147, 3) := by decide +kernel
theorem dX5_duel_118 : decode cX5_duel 118 = .ok (.iinc 3 1, 3) := by decide +kernel
theorem dX5_duel_121 : decode cX5_duel 121 = .ok (.goto (-95), 3) := by decide +kernel
theorem dX5_duel_124 : decode cX5_duel 124 = .ok (.iload_n 1, 1) := by decide +kernel
theorem dX5_duel_125 : decode cX5_duel 125 = .ok (.iconst 1, 1) := by decide +kernel
theorem dX5_duel_126 : decode cX5_duel 126 = .ok (.isub, 1) := by decide +kernel
theorem dX5_duel_127 : decode cX5_duel 127 = .ok (.istore_n 3, 1) := by decide +kernel
theorem dX5_duel_128 : decode cX5_duel 128 = .ok (.iload_n 3, 1) := by decide +kernel
theorem dX5_duel_129 : decode cX5_duel 129 = .ok (.ifCond .lt 91, 3) := by decide +kernel
theorem dX5_duel_132 : decode cX5_duel 132 = .ok (.iload_n 2, 1) := by decide +kernel
theorem dX5_duel_133 : decode cX5_duel 133 = .ok (.iconst 3, 1) := by decide +kernel
theorem dX5_duel_134 : decode cX5_duel 134 = .ok (.idiv, 1) := by decide +kernel
theorem dX5_duel_135 : decode cX5_duel 135 = .ok (.istore_n 2, 1) := by decide +kernel
theorem dX5_duel_136 : decode cX5_duel 136 = .ok (.iconst 0, 1) := by decide +kernel
theorem dX5_duel_137 : decode cX5_duel 137 = .ok (.istore 4, 2) := by decide +kernel
theorem dX5_duel_139 : decode cX5_duel 139 = .ok (.iload 4, 2) := by decide +kernel
theorem dX5_duel_141 : decode cX5_duel 141 = .ok (.iload_n 2, 1) := by decide +kernel
theorem dX5_duel_142 : decode cX5_duel 142 = .ok (.if_icmp .ge 72, 3) := by decide +kernel
theorem dX5_duel_145 : decode cX5_duel 145 = .ok (.iload_n 3, 1) := by decide +kernel
theorem dX5_duel_146 : decode cX5_duel 146 = .ok (.iconst 2, 1) := by decide +kernel
theorem dX5_duel_147 : decode cX5_duel 147 = .ok (.irem, 1) := by decide +kernel
theorem dX5_duel_148 : decode cX5_duel 148 = .ok (.ifCond .ne 7, 3) := by decide +kernel
theorem dX5_duel_151 : decode cX5_duel 151 = .ok (.iconst 1, 1) := by decide +kernel
theorem dX5_duel_152 : decode cX5_duel 152 = .ok (.goto 4, 3) := by decide +kernel
theorem dX5_duel_155 : decode cX5_duel 155 = .ok (.iconst 0, 1) := by decide +kernel
theorem dX5_duel_156 : decode cX5_duel 156 = .ok (.istore 5, 2) := by decide +kernel
theorem dX5_duel_158 : decode cX5_duel 158 = .ok (.aload_n 0, 1) := by decide +kernel
theorem dX5_duel_159 : decode cX5_duel 159 = .ok (.getfield 52, 3) := by decide +kernel
theorem dX5_duel_162 : decode cX5_duel 162 = .ok (.iload 4, 2) := by decide +kernel
theorem dX5_duel_164 : decode cX5_duel 164 = .ok (.aload_n 0, 1) := by decide +kernel
theorem dX5_duel_165 : decode cX5_duel 165 = .ok (.aload_n 0, 1) := by decide +kernel
theorem dX5_duel_166 : decode cX5_duel 166 = .ok (.aload_n 0, 1) := by decide +kernel
theorem dX5_duel_167 : decode cX5_duel 167 = .ok (.getfield 52, 3) := by decide +kernel
theorem dX5_duel_170 : decode cX5_duel 170 = .ok (.iconst 3, 1) := by decide +kernel
theorem dX5_duel_171 : decode cX5_duel 171 = .ok (.iload 4, 2) := by decide +kernel
theorem dX5_duel_173 : decode cX5_duel 173 = .ok (.imul, 1) := by decide +kernel
theorem dX5_duel_174 : decode cX5_duel 174 = .ok (.iaload, 1) := by decide +kernel
theorem dX5_duel_175 : decode cX5_duel 175 = .ok (.aload_n 0, 1) := by decide +kernel
theorem dX5_duel_176 : decode cX5_duel 176 = .ok (.getfield 52, 3) := by decide +kernel
theorem dX5_duel_179 : decode cX5_duel 179 = .ok (.iconst 3, 1) := by decide +kernel
theorem dX5_duel_180 : decode cX5_duel 180 = .ok (.iload 4, 2) := by decide +kernel
theorem dX5_duel_182 : decode cX5_duel 182 = .ok (.imul, 1) := by decide +kernel
theorem dX5_duel_183 : decode cX5_duel 183 = .ok (.iconst 1, 1) := by decide +kernel
theorem dX5_duel_184 : decode cX5_duel 184 = .ok (.iadd, 1) := by decide +kernel
theorem dX5_duel_185 : decode cX5_duel 185 = .ok (.iaload, 1) := by decide +kernel
theorem dX5_duel_186 : decode cX5_duel 186 = .ok (.iload 5, 2) := by decide +kernel
theorem dX5_duel_188 : decode cX5_duel 188 = .ok (.invokevirtual 224, 3) := by decide +kernel
theorem dX5_duel_191 : decode cX5_duel 191 = .ok (.aload_n 0, 1) := by decide +kernel
theorem dX5_duel_192 : decode cX5_duel 192 = .ok (.getfield 52, 3) := by decide +kernel
theorem dX5_duel_195 : decode cX5_duel 195 = .ok (.iconst 3, 1) := by decide +kernel
theorem dX5_duel_196 : decode cX5_duel 196 = .ok (.iload 4, 2) := by decide +kernel
theorem dX5_duel_198 : decode cX5_duel 198 = .ok (.imul, 1) := by decide +kernel
theorem dX5_duel_199 : decode cX5_duel 199 = .ok (.iconst 2, 1) := by decide +kernel
theorem dX5_duel_200 : decode cX5_duel 200 = .ok (.iadd, 1) := by decide +kernel
theorem dX5_duel_201 : decode cX5_duel 201 = .ok (.iaload, 1) := by decide +kernel
theorem dX5_duel_202 : decode cX5_duel 202 = .ok (.iload 5, 2) := by decide +kernel
theorem dX5_duel_204 : decode cX5_duel 204 = .ok (.invokevirtual 224, 3) := by decide +kernel
theorem dX5_duel_207 : decode cX5_duel 207 = .ok (.iastore, 1) := by decide +kernel
theorem dX5_duel_208 : decode cX5_duel 208 = .ok (.iinc 4 1, 3) := by decide +kernel
theorem dX5_duel_211 : decode cX5_duel 211 = .ok (.goto (-72), 3) := by decide +kernel
theorem dX5_duel_214 : decode cX5_duel 214 = .ok (.iinc 3 (-1), 3) := by decide +kernel
theorem dX5_duel_217 : decode cX5_duel 217 = .ok (.goto (-89), 3) := by decide +kernel
theorem dX5_duel_220 : decode cX5_duel 220 = .ok (.aload_n 0, 1) := by decide +kernel
theorem dX5_duel_221 : decode cX5_duel 221 = .ok (.getfield 52, 3) := by decide +kernel
theorem dX5_duel_224 : decode cX5_duel 224 = .ok (.iconst 0, 1) := by decide +kernel
theorem dX5_duel_225 : decode cX5_duel 225 = .ok (.iaload, 1) := by decide +kernel
theorem dX5_duel_226 : decode cX5_duel 226 = .ok (.ireturn, 1) := by decide +kernel
theorem dX5_odds_0 : decode cX5_odds 0 = .ok (.iload_n 1, 1) := by decide +kernel
theorem dX5_odds_1 : decode cX5_odds 1 = .ok (.i2l, 1) := by decide +kernel
theorem dX5_odds_2 : decode cX5_odds 2 = .ok (.lconst 0, 1) := by decide +kernel
theorem dX5_odds_3 : decode cX5_odds 3 = .ok (.ldc2_w 198, 3) := by decide +kernel
theorem dX5_odds_6 : decode cX5_odds 6 = .ok (.invokestatic 62, 3) := by decide +kernel
theorem dX5_odds_9 : decode cX5_odds 9 = .ok (.ifCond .eq 22, 3) := by decide +kernel
theorem dX5_odds_12 : decode cX5_odds 12 = .ok (.iload_n 2, 1) := by decide +kernel
theorem dX5_odds_13 : decode cX5_odds 13 = .ok (.i2l, 1) := by decide +kernel
theorem dX5_odds_14 : decode cX5_odds 14 = .ok (.lconst 0, 1) := by decide +kernel
theorem dX5_odds_15 : decode cX5_odds 15 = .ok (.ldc2_w 228, 3) := by decide +kernel
theorem dX5_odds_18 : decode cX5_odds 18 = .ok (.invokestatic 62, 3) := by decide +kernel
theorem dX5_odds_21 : decode cX5_odds 21 = .ok (.ifCond .eq 10, 3) := by decide +kernel
theorem dX5_odds_24 : decode cX5_odds 24 = .ok (.iload_n 3, 1) := by decide +kernel
theorem dX5_odds_25 : decode cX5_odds 25 = .ok (.invokestatic 114, 3) := by decide +kernel
theorem dX5_odds_28 : decode cX5_odds 28 = .ok (.ifCond .ne 5, 3) := by decide +kernel
theorem dX5_odds_31 : decode cX5_odds 31 = .ok (.iconst (-1), 1) := by decide +kernel
theorem dX5_odds_32 : decode cX5_odds 32 = .ok (.ireturn, 1) := by decide +kernel
theorem dX5_odds_33 : decode cX5_odds 33 = .ok (.iload_n 1, 1) := by decide +kernel
theorem dX5_odds_34 : decode cX5_odds 34 = .ok (.aload_n 0, 1) := by decide +kernel
theorem dX5_odds_35 : decode cX5_odds 35 = .ok (.getfield 55, 3) := by decide +kernel
theorem dX5_odds_38 : decode cX5_odds 38 = .ok (.if_icmp .ge 7, 3) := by decide +kernel
theorem dX5_odds_41 : decode cX5_odds 41 = .ok (.iload_n 1, 1) := by decide +kernel
theorem dX5_odds_42 : decode cX5_odds 42 = .ok (.goto 7, 3) := by decide +kernel
theorem dX5_odds_45 : decode cX5_odds 45 = .ok (.aload_n 0, 1) := by decide +kernel
theorem dX5_odds_46 : decode cX5_odds 46 = .ok (.getfield 55, 3) := by decide +kernel
theorem dX5_odds_49 : decode cX5_odds 49 = .ok (.istore 4, 2) := by decide +kernel
theorem dX5_odds_51 : decode cX5_odds 51 = .ok (.aload_n 0, 1) := by decide +kernel
theorem dX5_odds_52 : decode cX5_odds 52 = .ok (.invokevirtual 141, 3) := by decide +kernel
theorem dX5_odds_55 : decode cX5_odds 55 = .ok (.iconst 0, 1) := by decide +kernel
theorem dX5_odds_56 : decode cX5_odds 56 = .ok (.istore 5, 2) := by decide +kernel
theorem dX5_odds_58 : decode cX5_odds 58 = .ok (.iconst 0, 1) := by decide +kernel
theorem dX5_odds_59 : decode cX5_odds 59 = .ok (.istore 6, 2) := by decide +kernel
theorem dX5_odds_61 : decode cX5_odds 61 = .ok (.iload 6, 2) := by decide +kernel
theorem dX5_odds_63 : decode cX5_odds 63 = .ok (.iconst 1, 1) := by decide +kernel
theorem dX5_odds_64 : decode cX5_odds 64 = .ok (.iload 4, 2) := by decide +kernel
theorem dX5_odds_66 : decode cX5_odds 66 = .ok (.ishl, 1) := by decide +kernel
theorem dX5_odds_67 : decode cX5_odds 67 = .ok (.if_icmp .ge 114, 3) := by decide +kernel
theorem dX5_odds_70 : decode cX5_odds 70 = .ok (.iconst 1, 1) := by decide +kernel
theorem dX5_odds_71 : decode cX5_odds 71 = .ok (.istore 7, 2) := by decide +kernel
theorem dX5_odds_73 : decode cX5_odds 73 = .ok (.iconst 0, 1) := by decide +kernel
theorem dX5_odds_74 : decode cX5_odds 74 = .ok (.istore 8, 2) := by decide +kernel
theorem dX5_odds_76 : decode cX5_odds 76 = .ok (.iload 8, 2) := by decide +kernel
theorem dX5_odds_78 : decode cX5_odds 78 = .ok (.iload 4, 2) := by decide +kernel
theorem dX5_odds_80 : decode cX5_odds 80 = .ok (.if_icmp .ge 70, 3) := by decide +kernel
theorem dX5_odds_83 : decode cX5_odds 83 = .ok (.iload 6, 2) := by decide +kernel
theorem dX5_odds_85 : decode cX5_odds 85 = .ok (.iload 8, 2) := by decide +kernel
theorem dX5_odds_87 : decode cX5_odds 87 = .ok (.ishr, 1) := by decide +kernel
theorem dX5_odds_88 : decode cX5_odds 88 = .ok (.iconst 1, 1) := by decide +kernel
theorem dX5_odds_89 : decode cX5_odds 89 = .ok (.iand, 1) := by decide +kernel
theorem dX5_odds_90 : decode cX5_odds 90 = .ok (.iconst 1, 1) := by decide +kernel
theorem dX5_odds_91 : decode cX5_odds 91 = .ok (.if_icmp .ne 7, 3) := by decide +kernel
theorem dX5_odds_94 : decode cX5_odds 94 = .ok (.iconst 1, 1) := by decide +kernel
theorem dX5_odds_95 : decode cX5_odds 95 = .ok (.goto 4, 3) := by decide +kernel
theorem dX5_odds_98 : decode cX5_odds 98 = .ok (.iconst 0, 1) := by decide +kernel
theorem dX5_odds_99 : decode cX5_odds 99 = .ok (.istore 9, 2) := by decide +kernel
theorem dX5_odds_101 : decode cX5_odds 101 = .ok (.iload 7, 2) := by decide +kernel
theorem dX5_odds_103 : decode cX5_odds 103 = .ok (.iload 9, 2) := by decide +kernel
theorem dX5_odds_105 : decode cX5_odds 105 = .ok (.ifCond .eq 7, 3) := by decide +kernel
theorem dX5_odds_108 : decode cX5_odds 108 = .ok (.iload_n 2, 1) := by decide +kernel
theorem dX5_odds_109 : decode cX5_odds 109 = .ok (.goto 7, 3) := by decide +kernel
theorem dX5_odds_112 : decode cX5_odds 112 = .ok (.bipush 10, 2) := by decide +kernel
theorem dX5_odds_114 : decode cX5_odds 114 = .ok (.iload_n 2, 1) := by decide +kernel
theorem dX5_odds_115 : decode cX5_odds 115 = .ok (.isub, 1) := by decide +kernel
theorem dX5_odds_116 : decode cX5_odds 116 = .ok (.imul, 1) := by decide +kernel
theorem dX5_odds_117 : decode cX5_odds 117 = .ok (.istore 7, 2) := by decide +kernel
theorem dX5_odds_119 : decode cX5_odds 119 = .ok (.iload 9, 2) := by decide +kernel
theorem dX5_odds_121 : decode cX5_odds 121 = .ok (.ifCond .ne 17, 3) := by decide +kernel
theorem dX5_odds_124 : decode cX5_odds 124 = .ok (.aload_n 0, 1) := by decide +kernel
theorem dX5_odds_125 : decode cX5_odds 125 = .ok (.aload_n 0, 1) := by decide +kernel
theorem dX5_odds_126 : decode cX5_odds 126 = .ok (.getfield 16, 3) := by decide +kernel
theorem dX5_odds_129 : decode cX5_odds 129 = .ok (.iload 8, 2) := by decide +kernel
theorem dX5_odds_131 : decode cX5_odds 131 = .ok (.iaload, 1) := by decide +kernel
theorem dX5_odds_132 : decode cX5_odds 132 = .ok (.invokevirtual 144, 3) := by decide +kernel
theorem dX5_odds_135 : decode cX5_odds 135 = .ok (.ifCond .ne 9, 3) := by decide +kernel
theorem dX5_odds_138 : decode cX5_odds 138 = .ok (.aload_n 0, 1) := by decide +kernel
theorem dX5_odds_139 : decode cX5_odds 139 = .ok (.iconst 3, 1) := by decide +kernel
theorem dX5_odds_140 : decode cX5_odds 140 = .ok (.invokevirtual 144, 3) := by decide +kernel
theorem dX5_odds_143 : decode cX5_odds 143 = .ok (.pop, 1) := by decide +kernel
theorem dX5_odds_144 : decode cX5_odds 144 = .ok (.iinc 8 1, 3) := by decide +kernel
theorem dX5_odds_147 : decode cX5_odds 147 = .ok (.goto (-71), 3) := by decide +kernel
theorem dX5_odds_150 : decode cX5_odds 150 = .ok (.iload 5, 2) := by decide +kernel
theorem dX5_odds_152 : decode cX5_odds 152 = .ok (.aload_n 0, 1) := by decide +kernel
theorem dX5_odds_153 : decode cX5_odds 153 = .ok (.getfield 19, 3) := by decide +kernel
theorem dX5_odds_156 : decode cX5_odds 156 = .ok (.bipush 8, 2) := by decide +kernel
theorem dX5_odds_158 : decode cX5_odds 158 = .ok (.iaload, 1) := by decide +kernel
theorem dX5_odds_159 : decode cX5_odds 159 = .ok (.ifCond .ne 8, 3) := by decide +kernel
theorem dX5_odds_162 : decode cX5_odds 162 = .ok (.iload 7, 2) := by decide +kernel
theorem dX5_odds_164 : decode cX5_odds 164 = .ok (.goto 4, 3) := by decide +kernel
theorem dX5_odds_167 : decode cX5_odds 167 = .ok (.iconst 0, 1) := by decide +kernel
theorem dX5_odds_168 : decode cX5_odds 168 = .ok (.iadd, 1) := by decide +kernel
theorem dX5_odds_169 : decode cX5_odds 169 = .ok (.istore 5, 2) := by decide +kernel
theorem dX5_odds_171 : decode cX5_odds 171 = .ok (.aload_n 0, 1) := by decide +kernel
theorem dX5_odds_172 : decode cX5_odds 172 = .ok (.invokevirtual 147, 3) := by decide +kernel
theorem dX5_odds_175 : decode cX5_odds 175 = .ok (.iinc 6 1, 3) := by decide +kernel
theorem dX5_odds_178 : decode cX5_odds 178 = .ok (.goto (-117), 3) := by decide +kernel
theorem dX5_odds_181 : decode cX5_odds 181 = .ok (.bipush 10, 2) := by decide +kernel
theorem dX5_odds_183 : decode cX5_odds 183 = .ok (.iload 4, 2) := by decide +kernel
theorem dX5_odds_185 : decode cX5_odds 185 = .ok (.invokestatic 156, 3) := by decide +kernel
theorem dX5_odds_188 : decode cX5_odds 188 = .ok (.istore 6, 2) := by decide +kernel
theorem dX5_odds_190 : decode cX5_odds 190 = .ok (.iload 5, 2) := by decide +kernel
theorem dX5_odds_192 : decode cX5_odds 192 = .ok (.iload 6, 2) := by decide +kernel
theorem dX5_odds_194 : decode cX5_odds 194 = .ok (.invokestatic 192, 3) := by decide +kernel
theorem dX5_odds_197 : decode cX5_odds 197 = .ok (.istore 7, 2) := by decide +kernel
theorem dX5_odds_199 : decode cX5_odds 199 = .ok (.iload_n 3, 1) := by decide +kernel
theorem dX5_odds_200 : decode cX5_odds 200 = .ok (.ifCond .ne 11, 3) := by decide +kernel
theorem dX5_odds_203 : decode cX5_odds 203 = .ok (.iload 5, 2) := by decide +kernel
theorem dX5_odds_205 : decode cX5_odds 205 = .ok (.iload 7, 2) := by decide +kernel
theorem dX5_odds_207 : decode cX5_odds 207 = .ok (.idiv, 1) := by decide +kernel
theorem dX5_odds_208 : decode cX5_odds 208 = .ok (.goto 8, 3) := by decide +kernel
theorem dX5_odds_211 : decode cX5_odds 211 = .ok (.iload 6, 2) := by decide +kernel
theorem dX5_odds_213 : decode cX5_odds 213 = .ok (.iload 7, 2) := by decide +kernel
theorem dX5_odds_215 : decode cX5_odds 215 = .ok (.idiv, 1) := by decide +kernel
theorem dX5_odds_216 : decode cX5_odds 216 = .ok (.ireturn, 1) := by decide +kernel
theorem dX5_evening_0 : decode cX5_evening 0 = .ok (.iload_n 1, 1) := by decide +kernel
theorem dX5_evening_1 : decode cX5_evening 1 = .ok (.i2l, 1) := by decide +kernel
theorem dX5_evening_2 : decode cX5_evening 2 = .ok (.lconst 0, 1) := by decide +kernel
theorem dX5_evening_3 : decode cX5_evening 3 = .ok (.ldc2_w 230, 3) := by decide +kernel
theorem dX5_evening_6 : decode cX5_evening 6 = .ok (.invokestatic 62, 3) := by decide +kernel
theorem dX5_evening_9 : decode cX5_evening 9 = .ok (.ifCond .eq 27, 3) := by decide +kernel
theorem dX5_evening_12 : decode cX5_evening 12 = .ok (.iload_n 2, 1) := by decide +kernel
theorem dX5_evening_13 : decode cX5_evening 13 = .ok (.i2l, 1) := by decide +kernel
theorem dX5_evening_14 : decode cX5_evening 14 = .ok (.lconst 1, 1) := by decide +kernel
theorem dX5_evening_15 : decode cX5_evening 15 = .ok (.ldc2_w 232, 3) := by decide +kernel
theorem dX5_evening_18 : decode cX5_evening 18 = .ok (.invokestatic 62, 3) := by decide +kernel
theorem dX5_evening_21 : decode cX5_evening 21 = .ok (.ifCond .eq 15, 3) := by decide +kernel
theorem dX5_evening_24 : decode cX5_evening 24 = .ok (.iload_n 3, 1) := by decide +kernel
theorem dX5_evening_25 : decode cX5_evening 25 = .ok (.i2l, 1) := by decide +kernel
theorem dX5_evening_26 : decode cX5_evening 26 = .ok (.lconst 0, 1) := by decide +kernel
theorem dX5_evening_27 : decode cX5_evening 27 = .ok (.ldc2_w 109, 3) := by decide +kernel
theorem dX5_evening_30 : decode cX5_evening 30 = .ok (.invokestatic 62, 3) := by decide +kernel
theorem dX5_evening_33 : decode cX5_evening 33 = .ok (.ifCond .ne 5, 3) := by decide +kernel
theorem dX5_evening_36 : decode cX5_evening 36 = .ok (.iconst (-1), 1) := by decide +kernel
theorem dX5_evening_37 : decode cX5_evening 37 = .ok (.ireturn, 1) := by decide +kernel
theorem dX5_evening_38 : decode cX5_evening 38 = .ok (.aload_n 0, 1) := by decide +kernel
theorem dX5_evening_39 : decode cX5_evening 39 = .ok (.invokevirtual 141, 3) := by decide +kernel
theorem dX5_evening_42 : decode cX5_evening 42 = .ok (.iconst 0, 1) := by decide +kernel
theorem dX5_evening_43 : decode cX5_evening 43 = .ok (.istore 4, 2) := by decide +kernel
theorem dX5_evening_45 : decode cX5_evening 45 = .ok (.iconst 0, 1) := by decide +kernel
theorem dX5_evening_46 : decode cX5_evening 46 = .ok (.istore 5, 2) := by decide +kernel
theorem dX5_evening_48 : decode cX5_evening 48 = .ok (.iconst 0, 1) := by decide +kernel
theorem dX5_evening_49 : decode cX5_evening 49 = .ok (.istore 6, 2) := by decide +kernel
theorem dX5_evening_51 : decode cX5_evening 51 = .ok (.iload 6, 2) := by decide +kernel
theorem dX5_evening_53 : decode cX5_evening 53 = .ok (.iload_n 2, 1) := by decide +kernel
theorem dX5_evening_54 : decode cX5_evening 54 = .ok (.if_icmp .ge 105, 3) := by decide +kernel
theorem dX5_evening_57 : decode cX5_evening 57 = .ok (.ldc2_w 234, 3) := by decide +kernel
theorem dX5_evening_60 : decode cX5_evening 60 = .ok (.iload_n 1, 1) := by decide +kernel
theorem dX5_evening_61 : decode cX5_evening 61 = .ok (.i2l, 1) := by decide +kernel
theorem dX5_evening_62 : decode cX5_evening 62 = .ok (.lmul, 1) := by decide +kernel
theorem dX5_evening_63 : decode cX5_evening 63 = .ok (.ldc2_w 236, 3) := by decide +kernel
theorem dX5_evening_66 : decode cX5_evening 66 = .ok (.iload 6, 2) := by decide +kernel
theorem dX5_evening_68 : decode cX5_evening 68 = .ok (.i2l, 1) := by decide +kernel
theorem dX5_evening_69 : decode cX5_evening 69 = .ok (.lmul, 1) := by decide +kernel
theorem dX5_evening_70 : decode cX5_evening 70 = .ok (.ladd, 1) := by decide +kernel
theorem dX5_evening_71 : decode cX5_evening 71 = .ok (.lconst 1, 1) := by decide +kernel
theorem dX5_evening_72 : decode cX5_evening 72 = .ok (.ladd, 1) := by decide +kernel
theorem dX5_evening_73 : decode cX5_evening 73 = .ok (.lstore 7, 2) := by decide +kernel
theorem dX5_evening_75 : decode cX5_evening 75 = .ok (.lload 7, 2) := by decide +kernel
theorem dX5_evening_77 : decode cX5_evening 77 = .ok (.lload 7, 2) := by decide +kernel
theorem dX5_evening_79 : decode cX5_evening 79 = .ok (.lmul, 1) := by decide +kernel
theorem dX5_evening_80 : decode cX5_evening 80 = .ok (.ldc2_w 238, 3) := by decide +kernel
theorem dX5_evening_83 : decode cX5_evening 83 = .ok (.lrem, 1) := by decide +kernel
theorem dX5_evening_84 : decode cX5_evening 84 = .ok (.l2i, 1) := by decide +kernel
theorem dX5_evening_85 : decode cX5_evening 85 = .ok (.istore 9, 2) := by decide +kernel
theorem dX5_evening_87 : decode cX5_evening 87 = .ok (.aload_n 0, 1) := by decide +kernel
theorem dX5_evening_88 : decode cX5_evening 88 = .ok (.iload 9, 2) := by decide +kernel
theorem dX5_evening_90 : decode cX5_evening 90 = .ok (.iconst 4, 1) := by decide +kernel
theorem dX5_evening_91 : decode cX5_evening 91 = .ok (.irem, 1) := by decide +kernel
theorem dX5_evening_92 : decode cX5_evening 92 = .ok (.invokevirtual 144, 3) := by decide +kernel
theorem dX5_evening_95 : decode cX5_evening 95 = .ok (.ifCond .ne 12, 3) := by decide +kernel
theorem dX5_evening_98 : decode cX5_evening 98 = .ok (.aload_n 0, 1) := by decide +kernel
theorem dX5_evening_99 : decode cX5_evening 99 = .ok (.iconst 3, 1) := by decide +kernel
theorem dX5_evening_100 : decode cX5_evening 100 = .ok (.invokevirtual 144, 3) := by decide +kernel
theorem dX5_evening_103 : decode cX5_evening 103 = .ok (.pop, 1) := by decide +kernel
theorem dX5_evening_104 : decode cX5_evening 104 = .ok (.iinc 5 1, 3) := by decide +kernel
theorem dX5_evening_107 : decode cX5_evening 107 = .ok (.iload 9, 2) := by decide +kernel
theorem dX5_evening_109 : decode cX5_evening 109 = .ok (.iconst 4, 1) := by decide +kernel
theorem dX5_evening_110 : decode cX5_evening 110 = .ok (.idiv, 1) := by decide +kernel
theorem dX5_evening_111 : decode cX5_evening 111 = .ok (.bipush 8, 2) := by decide +kernel
theorem dX5_evening_113 : decode cX5_evening 113 = .ok (.irem, 1) := by decide +kernel
theorem dX5_evening_114 : decode cX5_evening 114 = .ok (.ifCond .ne 19, 3) := by decide +kernel
theorem dX5_evening_117 : decode cX5_evening 117 = .ok (.aload_n 0, 1) := by decide +kernel
theorem dX5_evening_118 : decode cX5_evening 118 = .ok (.aload_n 0, 1) := by decide +kernel
theorem dX5_evening_119 : decode cX5_evening 119 = .ok (.getfield 19, 3) := by decide +kernel
theorem dX5_evening_122 : decode cX5_evening 122 = .ok (.iconst 0, 1) := by decide +kernel
theorem dX5_evening_123 : decode cX5_evening 123 = .ok (.iaload, 1) := by decide +kernel
theorem dX5_evening_124 : decode cX5_evening 124 = .ok (.aload_n 0, 1) := by decide +kernel
theorem dX5_evening_125 : decode cX5_evening 125 = .ok (.getfield 19, 3) := by decide +kernel
theorem dX5_evening_128 : decode cX5_evening 128 = .ok (.iconst 2, 1) := by decide +kernel
theorem dX5_evening_129 : decode cX5_evening 129 = .ok (.iaload, 1) := by decide +kernel
theorem dX5_evening_130 : decode cX5_evening 130 = .ok (.invokevirtual 153, 3) := by decide +kernel
theorem dX5_evening_133 : decode cX5_evening 133 = .ok (.iload 4, 2) := by decide +kernel
theorem dX5_evening_135 : decode cX5_evening 135 = .ok (.aload_n 0, 1) := by decide +kernel
theorem dX5_evening_136 : decode cX5_evening 136 = .ok (.getfield 19, 3) := by decide +kernel
theorem dX5_evening_139 : decode cX5_evening 139 = .ok (.bipush 8, 2) := by decide +kernel
theorem dX5_evening_141 : decode cX5_evening 141 = .ok (.iaload, 1) := by decide +kernel
theorem dX5_evening_142 : decode cX5_evening 142 = .ok (.ifCond .ne 7, 3) := by decide +kernel
theorem dX5_evening_145 : decode cX5_evening 145 = .ok (.iconst 1, 1) := by decide +kernel
theorem dX5_evening_146 : decode cX5_evening 146 = .ok (.goto 4, 3) := by decide +kernel
theorem dX5_evening_149 : decode cX5_evening 149 = .ok (.iconst 0, 1) := by decide +kernel
theorem dX5_evening_150 : decode cX5_evening 150 = .ok (.iadd, 1) := by decide +kernel
theorem dX5_evening_151 : decode cX5_evening 151 = .ok (.istore 4, 2) := by decide +kernel
theorem dX5_evening_153 : decode cX5_evening 153 = .ok (.iinc 6 1, 3) := by decide +kernel
theorem dX5_evening_156 : decode cX5_evening 156 = .ok (.goto (-105), 3) := by decide +kernel
theorem dX5_evening_159 : decode cX5_evening 159 = .ok (.aload_n 0, 1) := by decide +kernel
theorem dX5_evening_160 : decode cX5_evening 160 = .ok (.getfield 19, 3) := by decide +kernel
theorem dX5_evening_163 : decode cX5_evening 163 = .ok (.iconst 0, 1) := by decide +kernel
theorem dX5_evening_164 : decode cX5_evening 164 = .ok (.iaload, 1) := by decide +kernel
theorem dX5_evening_165 : decode cX5_evening 165 = .ok (.istore 6, 2) := by decide +kernel
theorem dX5_evening_167 : decode cX5_evening 167 = .ok (.aload_n 0, 1) := by decide +kernel
theorem dX5_evening_168 : decode cX5_evening 168 = .ok (.invokevirtual 147, 3) := by decide +kernel
theorem dX5_evening_171 : decode cX5_evening 171 = .ok (.iload_n 3, 1) := by decide +kernel
theorem dX5_evening_172 : decode cX5_evening 172 = .ok (.ifCond .ne 8, 3) := by decide +kernel
theorem dX5_evening_175 : decode cX5_evening 175 = .ok (.iload 4, 2) := by decide +kernel
theorem dX5_evening_177 : decode cX5_evening 177 = .ok (.goto 15, 3) := by decide +kernel
theorem dX5_evening_180 : decode cX5_evening 180 = .ok (.iload_n 3, 1) := by decide +kernel
theorem dX5_evening_181 : decode cX5_evening 181 = .ok (.iconst 1, 1) := by decide +kernel
theorem dX5_evening_182 : decode cX5_evening 182 = .ok (.if_icmp .ne 8, 3) := by decide +kernel
theorem dX5_evening_185 : decode cX5_evening 185 = .ok (.iload 5, 2) := by decide +kernel
theorem dX5_evening_187 : decode cX5_evening 187 = .ok (.goto 5, 3) := by decide +kernel
theorem dX5_evening_190 : decode cX5_evening 190 = .ok (.iload 6, 2) := by decide +kernel
theorem dX5_evening_192 : decode cX5_evening 192 = .ok (.ireturn, 1) := by decide +kernel
theorem dX5_keep_0 : decode cX5_keep 0 = .ok (.aload_n 0, 1) := by decide +kernel
theorem dX5_keep_1 : decode cX5_keep 1 = .ok (.getfield 71, 3) := by decide +kernel
theorem dX5_keep_4 : decode cX5_keep 4 = .ok (.iconst 2, 1) := by decide +kernel
theorem dX5_keep_5 : decode cX5_keep 5 = .ok (.if_icmp .ne 6, 3) := by decide +kernel
theorem dX5_keep_8 : decode cX5_keep 8 = .ok (.bipush (-3), 2) := by decide +kernel
theorem dX5_keep_10 : decode cX5_keep 10 = .ok (.ireturn, 1) := by decide +kernel
theorem dX5_keep_11 : decode cX5_keep 11 = .ok (.iconst 0, 1) := by decide +kernel
theorem dX5_keep_12 : decode cX5_keep 12 = .ok (.istore_n 1, 1) := by decide +kernel
theorem dX5_keep_13 : decode cX5_keep 13 = .ok (.iload_n 1, 1) := by decide +kernel
theorem dX5_keep_14 : decode cX5_keep 14 = .ok (.bipush 12, 2) := by decide +kernel
theorem dX5_keep_16 : decode cX5_keep 16 = .ok (.if_icmp .ge 29, 3) := by decide +kernel
theorem dX5_keep_19 : decode cX5_keep 19 = .ok (.aload_n 0, 1) := by decide +kernel
theorem dX5_keep_20 : decode cX5_keep 20 = .ok (.getfield 25, 3) := by decide +kernel
theorem dX5_keep_23 : decode cX5_keep 23 = .ok (.bipush 12, 2) := by decide +kernel
theorem dX5_keep_25 : decode cX5_keep 25 = .ok (.aload_n 0, 1) := by decide +kernel
theorem dX5_keep_26 : decode cX5_keep 26 = .ok (.getfield 71, 3) := by decide +kernel
theorem dX5_keep_29 : decode cX5_keep 29 = .ok (.imul, 1) := by decide +kernel
theorem dX5_keep_30 : decode cX5_keep 30 = .ok (.iload_n 1, 1) := by decide +kernel
theorem dX5_keep_31 : decode cX5_keep 31 = .ok (.iadd, 1) := by decide +kernel
theorem dX5_keep_32 : decode cX5_keep 32 = .ok (.aload_n 0, 1) := by decide +kernel
theorem dX5_keep_33 : decode cX5_keep 33 = .ok (.getfield 19, 3) := by decide +kernel
theorem dX5_keep_36 : decode cX5_keep 36 = .ok (.iload_n 1, 1) := by decide +kernel
theorem dX5_keep_37 : decode cX5_keep 37 = .ok (.iaload, 1) := by decide +kernel
theorem dX5_keep_38 : decode cX5_keep 38 = .ok (.iastore, 1) := by decide +kernel
theorem dX5_keep_39 : decode cX5_keep 39 = .ok (.iinc 1 1, 3) := by decide +kernel
theorem dX5_keep_42 : decode cX5_keep 42 = .ok (.goto (-29), 3) := by decide +kernel
theorem dX5_keep_45 : decode cX5_keep 45 = .ok (.aload_n 0, 1) := by decide +kernel
theorem dX5_keep_46 : decode cX5_keep 46 = .ok (.dup, 1) := by decide +kernel
theorem dX5_keep_47 : decode cX5_keep 47 = .ok (.getfield 71, 3) := by decide +kernel
theorem dX5_keep_50 : decode cX5_keep 50 = .ok (.iconst 1, 1) := by decide +kernel
theorem dX5_keep_51 : decode cX5_keep 51 = .ok (.iadd, 1) := by decide +kernel
theorem dX5_keep_52 : decode cX5_keep 52 = .ok (.putfield 71, 3) := by decide +kernel
theorem dX5_keep_55 : decode cX5_keep 55 = .ok (.aload_n 0, 1) := by decide +kernel
theorem dX5_keep_56 : decode cX5_keep 56 = .ok (.getfield 71, 3) := by decide +kernel
theorem dX5_keep_59 : decode cX5_keep 59 = .ok (.ireturn, 1) := by decide +kernel
theorem dX5_back_0 : decode cX5_back 0 = .ok (.aload_n 0, 1) := by decide +kernel
theorem dX5_back_1 : decode cX5_back 1 = .ok (.getfield 71, 3) := by decide +kernel
theorem dX5_back_4 : decode cX5_back 4 = .ok (.ifCond .ne 6, 3) := by decide +kernel
theorem dX5_back_7 : decode cX5_back 7 = .ok (.bipush (-2), 2) := by decide +kernel
theorem dX5_back_9 : decode cX5_back 9 = .ok (.ireturn, 1) := by decide +kernel
theorem dX5_back_10 : decode cX5_back 10 = .ok (.aload_n 0, 1) := by decide +kernel
theorem dX5_back_11 : decode cX5_back 11 = .ok (.dup, 1) := by decide +kernel
theorem dX5_back_12 : decode cX5_back 12 = .ok (.getfield 71, 3) := by decide +kernel
theorem dX5_back_15 : decode cX5_back 15 = .ok (.iconst 1, 1) := by decide +kernel
theorem dX5_back_16 : decode cX5_back 16 = .ok (.isub, 1) := by decide +kernel
theorem dX5_back_17 : decode cX5_back 17 = .ok (.putfield 71, 3) := by decide +kernel
theorem dX5_back_20 : decode cX5_back 20 = .ok (.iconst 0, 1) := by decide +kernel
theorem dX5_back_21 : decode cX5_back 21 = .ok (.istore_n 1, 1) := by decide +kernel
theorem dX5_back_22 : decode cX5_back 22 = .ok (.iload_n 1, 1) := by decide +kernel
theorem dX5_back_23 : decode cX5_back 23 = .ok (.bipush 12, 2) := by decide +kernel
theorem dX5_back_25 : decode cX5_back 25 = .ok (.if_icmp .ge 29, 3) := by decide +kernel
theorem dX5_back_28 : decode cX5_back 28 = .ok (.aload_n 0, 1) := by decide +kernel
theorem dX5_back_29 : decode cX5_back 29 = .ok (.getfield 19, 3) := by decide +kernel
theorem dX5_back_32 : decode cX5_back 32 = .ok (.iload_n 1, 1) := by decide +kernel
theorem dX5_back_33 : decode cX5_back 33 = .ok (.aload_n 0, 1) := by decide +kernel
theorem dX5_back_34 : decode cX5_back 34 = .ok (.getfield 25, 3) := by decide +kernel
theorem dX5_back_37 : decode cX5_back 37 = .ok (.bipush 12, 2) := by decide +kernel
theorem dX5_back_39 : decode cX5_back 39 = .ok (.aload_n 0, 1) := by decide +kernel
theorem dX5_back_40 : decode cX5_back 40 = .ok (.getfield 71, 3) := by decide +kernel
theorem dX5_back_43 : decode cX5_back 43 = .ok (.imul, 1) := by decide +kernel
theorem dX5_back_44 : decode cX5_back 44 = .ok (.iload_n 1, 1) := by decide +kernel
theorem dX5_back_45 : decode cX5_back 45 = .ok (.iadd, 1) := by decide +kernel
theorem dX5_back_46 : decode cX5_back 46 = .ok (.iaload, 1) := by decide +kernel
theorem dX5_back_47 : decode cX5_back 47 = .ok (.iastore, 1) := by decide +kernel
theorem dX5_back_48 : decode cX5_back 48 = .ok (.iinc 1 1, 3) := by decide +kernel
theorem dX5_back_51 : decode cX5_back 51 = .ok (.goto (-29), 3) := by decide +kernel
theorem dX5_back_54 : decode cX5_back 54 = .ok (.aload_n 0, 1) := by decide +kernel
theorem dX5_back_55 : decode cX5_back 55 = .ok (.iconst 0, 1) := by decide +kernel
theorem dX5_back_56 : decode cX5_back 56 = .ok (.putfield 68, 3) := by decide +kernel
theorem dX5_back_59 : decode cX5_back 59 = .ok (.aload_n 0, 1) := by decide +kernel
theorem dX5_back_60 : decode cX5_back 60 = .ok (.getfield 71, 3) := by decide +kernel
theorem dX5_back_63 : decode cX5_back 63 = .ok (.ireturn, 1) := by decide +kernel
theorem dX5_count_0 : decode cX5_count 0 = .ok (.iload_n 1, 1) := by decide +kernel
theorem dX5_count_1 : decode cX5_count 1 = .ok (.tableswitch 84 0 6 #[43, 48, 56, 64, 69, 74, 79], 43) := by decide +kernel
theorem dX5_count_44 : decode cX5_count 44 = .ok (.aload_n 0, 1) := by decide +kernel
theorem dX5_count_45 : decode cX5_count 45 = .ok (.getfield 55, 3) := by decide +kernel
theorem dX5_count_48 : decode cX5_count 48 = .ok (.ireturn, 1) := by decide +kernel
theorem dX5_count_49 : decode cX5_count 49 = .ok (.aload_n 0, 1) := by decide +kernel
theorem dX5_count_50 : decode cX5_count 50 = .ok (.getfield 19, 3) := by decide +kernel
theorem dX5_count_53 : decode cX5_count 53 = .ok (.bipush 10, 2) := by decide +kernel
theorem dX5_count_55 : decode cX5_count 55 = .ok (.iaload, 1) := by decide +kernel
theorem dX5_count_56 : decode cX5_count 56 = .ok (.ireturn, 1) := by decide +kernel
theorem dX5_count_57 : decode cX5_count 57 = .ok (.aload_n 0, 1) := by decide +kernel
theorem dX5_count_58 : decode cX5_count 58 = .ok (.getfield 19, 3) := by decide +kernel
theorem dX5_count_61 : decode cX5_count 61 = .ok (.bipush 11, 2) := by decide +kernel
theorem dX5_count_63 : decode cX5_count 63 = .ok (.iaload, 1) := by decide +kernel
theorem dX5_count_64 : decode cX5_count 64 = .ok (.ireturn, 1) := by decide +kernel
theorem dX5_count_65 : decode cX5_count 65 = .ok (.aload_n 0, 1) := by decide +kernel
theorem dX5_count_66 : decode cX5_count 66 = .ok (.getfield 68, 3) := by decide +kernel
theorem dX5_count_69 : decode cX5_count 69 = .ok (.ireturn, 1) := by decide +kernel
theorem dX5_count_70 : decode cX5_count 70 = .ok (.aload_n 0, 1) := by decide +kernel
theorem dX5_count_71 : decode cX5_count 71 = .ok (.getfield 71, 3) := by decide +kernel
theorem dX5_count_74 : decode cX5_count 74 = .ok (.ireturn, 1) := by decide +kernel
theorem dX5_count_75 : decode cX5_count 75 = .ok (.aload_n 0, 1) := by decide +kernel
theorem dX5_count_76 : decode cX5_count 76 = .ok (.getfield 74, 3) := by decide +kernel
theorem dX5_count_79 : decode cX5_count 79 = .ok (.ireturn, 1) := by decide +kernel
theorem dX5_count_80 : decode cX5_count 80 = .ok (.aload_n 0, 1) := by decide +kernel
theorem dX5_count_81 : decode cX5_count 81 = .ok (.getfield 81, 3) := by decide +kernel
theorem dX5_count_84 : decode cX5_count 84 = .ok (.ireturn, 1) := by decide +kernel
theorem dX5_count_85 : decode cX5_count 85 = .ok (.iconst (-1), 1) := by decide +kernel
theorem dX5_count_86 : decode cX5_count 86 = .ok (.ireturn, 1) := by decide +kernel
