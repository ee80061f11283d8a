theorem dX4_init_0 : decode cX4_init 0 = .ok (.aload_n 0, 1) := by decide +kernel
theorem dX4_init_1 : decode cX4_init 1 = .ok (.invokespecial 1, 3) := by decide +kernel
theorem dX4_init_4 : decode cX4_init 4 = .ok (.aload_n 0, 1) := by decide +kernel
theorem dX4_init_5 : decode cX4_init 5 = .ok (.new 7, 3) := by decide +kernel
theorem dX4_init_8 : decode cX4_init 8 = .ok (.dup, 1) := by decide +kernel
theorem dX4_init_9 : decode cX4_init 9 = .ok (.invokespecial 9, 3) := by decide +kernel
theorem dX4_init_12 : decode cX4_init 12 = .ok (.putfield 10, 3) := by decide +kernel
theorem dX4_init_15 : decode cX4_init 15 = .ok (.aload_n 0, 1) := by decide +kernel
theorem dX4_init_16 : decode cX4_init 16 = .ok (.new 16, 3) := by decide +kernel
theorem dX4_init_19 : decode cX4_init 19 = .ok (.dup, 1) := by decide +kernel
theorem dX4_init_20 : decode cX4_init 20 = .ok (.invokespecial 18, 3) := by decide +kernel
theorem dX4_init_23 : decode cX4_init 23 = .ok (.putfield 19, 3) := by decide +kernel
theorem dX4_init_26 : decode cX4_init 26 = .ok (.aload_n 0, 1) := by decide +kernel
theorem dX4_init_27 : decode cX4_init 27 = .ok (.new 16, 3) := by decide +kernel
theorem dX4_init_30 : decode cX4_init 30 = .ok (.dup, 1) := by decide +kernel
theorem dX4_init_31 : decode cX4_init 31 = .ok (.invokespecial 18, 3) := by decide +kernel
theorem dX4_init_34 : decode cX4_init 34 = .ok (.putfield 23, 3) := by decide +kernel
theorem dX4_init_37 : decode cX4_init 37 = .ok (.aload_n 0, 1) := by decide +kernel
theorem dX4_init_38 : decode cX4_init 38 = .ok (.new 26, 3) := by decide +kernel
theorem dX4_init_41 : decode cX4_init 41 = .ok (.dup, 1) := by decide +kernel
theorem dX4_init_42 : decode cX4_init 42 = .ok (.bipush 8, 2) := by decide +kernel
theorem dX4_init_44 : decode cX4_init 44 = .ok (.invokespecial 28, 3) := by decide +kernel
theorem dX4_init_47 : decode cX4_init 47 = .ok (.putfield 31, 3) := by decide +kernel
theorem dX4_init_50 : decode cX4_init 50 = .ok (.aload_n 0, 1) := by decide +kernel
theorem dX4_init_51 : decode cX4_init 51 = .ok (.new 26, 3) := by decide +kernel
theorem dX4_init_54 : decode cX4_init 54 = .ok (.dup, 1) := by decide +kernel
theorem dX4_init_55 : decode cX4_init 55 = .ok (.iconst 2, 1) := by decide +kernel
theorem dX4_init_56 : decode cX4_init 56 = .ok (.invokespecial 28, 3) := by decide +kernel
theorem dX4_init_59 : decode cX4_init 59 = .ok (.putfield 35, 3) := by decide +kernel
theorem dX4_init_62 : decode cX4_init 62 = .ok (.aload_n 0, 1) := by decide +kernel
theorem dX4_init_63 : decode cX4_init 63 = .ok (.new 38, 3) := by decide +kernel
theorem dX4_init_66 : decode cX4_init 66 = .ok (.dup, 1) := by decide +kernel
theorem dX4_init_67 : decode cX4_init 67 = .ok (.invokespecial 40, 3) := by decide +kernel
theorem dX4_init_70 : decode cX4_init 70 = .ok (.putfield 41, 3) := by decide +kernel
theorem dX4_init_73 : decode cX4_init 73 = .ok (.aload_n 0, 1) := by decide +kernel
theorem dX4_init_74 : decode cX4_init 74 = .ok (.bipush 6, 2) := by decide +kernel
theorem dX4_init_76 : decode cX4_init 76 = .ok (.newarray .int, 2) := by decide +kernel
theorem dX4_init_78 : decode cX4_init 78 = .ok (.putfield 45, 3) := by decide +kernel
theorem dX4_init_81 : decode cX4_init 81 = .ok (.aload_n 0, 1) := by decide +kernel
theorem dX4_init_82 : decode cX4_init 82 = .ok (.bipush 6, 2) := by decide +kernel
theorem dX4_init_84 : decode cX4_init 84 = .ok (.newarray .int, 2) := by decide +kernel
theorem dX4_init_86 : decode cX4_init 86 = .ok (.putfield 49, 3) := by decide +kernel
theorem dX4_init_89 : decode cX4_init 89 = .ok (.aload_n 0, 1) := by decide +kernel
theorem dX4_init_90 : decode cX4_init 90 = .ok (.bipush 6, 2) := by decide +kernel
theorem dX4_init_92 : decode cX4_init 92 = .ok (.newarray .int, 2) := by decide +kernel
theorem dX4_init_94 : decode cX4_init 94 = .ok (.putfield 52, 3) := by decide +kernel
theorem dX4_init_97 : decode cX4_init 97 = .ok (.aload_n 0, 1) := by decide +kernel
theorem dX4_init_98 : decode cX4_init 98 = .ok (.bipush 6, 2) := by decide +kernel
theorem dX4_init_100 : decode cX4_init 100 = .ok (.newarray .int, 2) := by decide +kernel
theorem dX4_init_102 : decode cX4_init 102 = .ok (.putfield 55, 3) := by decide +kernel
theorem dX4_init_105 : decode cX4_init 105 = .ok (.iconst 0, 1) := by decide +kernel
theorem dX4_init_106 : decode cX4_init 106 = .ok (.istore_n 1, 1) := by decide +kernel
theorem dX4_init_107 : decode cX4_init 107 = .ok (.iload_n 1, 1) := by decide +kernel
theorem dX4_init_108 : decode cX4_init 108 = .ok (.ldc 58, 2) := by decide +kernel
theorem dX4_init_110 : decode cX4_init 110 = .ok (.invokevirtual 60, 3) := by decide +kernel
theorem dX4_init_113 : decode cX4_init 113 = .ok (.if_icmp .ge 23, 3) := by decide +kernel
theorem dX4_init_116 : decode cX4_init 116 = .ok (.aload_n 0, 1) := by decide +kernel
theorem dX4_init_117 : decode cX4_init 117 = .ok (.getfield 10, 3) := by decide +kernel
theorem dX4_init_120 : decode cX4_init 120 = .ok (.ldc 58, 2) := by decide +kernel
theorem dX4_init_122 : decode cX4_init 122 = .ok (.iload_n 1, 1) := by decide +kernel
theorem dX4_init_123 : decode cX4_init 123 = .ok (.invokevirtual 66, 3) := by decide +kernel
theorem dX4_init_126 : decode cX4_init 126 = .ok (.invokevirtual 70, 3) := by decide +kernel
theorem dX4_init_129 : decode cX4_init 129 = .ok (.pop, 1) := by decide +kernel
theorem dX4_init_130 : decode cX4_init 130 = .ok (.iinc 1 1, 3) := by decide +kernel
theorem dX4_init_133 : decode cX4_init 133 = .ok (.goto (-26), 3) := by decide +kernel
theorem dX4_init_136 : decode cX4_init 136 = .ok (.aload_n 0, 1) := by decide +kernel
theorem dX4_init_137 : decode cX4_init 137 = .ok (.getfield 10, 3) := by decide +kernel
theorem dX4_init_140 : decode cX4_init 140 = .ok (.invokevirtual 74, 3) := by decide +kernel
theorem dX4_init_143 : decode cX4_init 143 = .ok (.ifCond .eq 7, 3) := by decide +kernel
theorem dX4_init_146 : decode cX4_init 146 = .ok (.aload_n 0, 1) := by decide +kernel
theorem dX4_init_147 : decode cX4_init 147 = .ok (.invokevirtual 78, 3) := by decide +kernel
theorem dX4_init_150 : decode cX4_init 150 = .ok (.aload_n 0, 1) := by decide +kernel
theorem dX4_init_151 : decode cX4_init 151 = .ok (.getfield 10, 3) := by decide +kernel
theorem dX4_init_154 : decode cX4_init 154 = .ok (.invokevirtual 81, 3) := by decide +kernel
theorem dX4_init_157 : decode cX4_init 157 = .ok (.return_, 1) := by decide +kernel
theorem dX4_write_0 : decode cX4_write 0 = .ok (.iload_n 1, 1) := by decide +kernel
theorem dX4_write_1 : decode cX4_write 1 = .ok (.bipush 32, 2) := by decide +kernel
theorem dX4_write_3 : decode cX4_write 3 = .ok (.if_icmp .lt 9, 3) := by decide +kernel
theorem dX4_write_6 : decode cX4_write 6 = .ok (.iload_n 1, 1) := by decide +kernel
theorem dX4_write_7 : decode cX4_write 7 = .ok (.bipush 126, 2) := by decide +kernel
theorem dX4_write_9 : decode cX4_write 9 = .ok (.if_icmp .le 5, 3) := by decide +kernel
theorem dX4_write_12 : decode cX4_write 12 = .ok (.iconst (-1), 1) := by decide +kernel
theorem dX4_write_13 : decode cX4_write 13 = .ok (.ireturn, 1) := by decide +kernel
theorem dX4_write_14 : decode cX4_write 14 = .ok (.aload_n 0, 1) := by decide +kernel
theorem dX4_write_15 : decode cX4_write 15 = .ok (.getfield 10, 3) := by decide +kernel
theorem dX4_write_18 : decode cX4_write 18 = .ok (.iload_n 1, 1) := by decide +kernel
theorem dX4_write_19 : decode cX4_write 19 = .ok (.invokevirtual 70, 3) := by decide +kernel
theorem dX4_write_22 : decode cX4_write 22 = .ok (.ifCond .eq 13, 3) := by decide +kernel
theorem dX4_write_25 : decode cX4_write 25 = .ok (.aload_n 0, 1) := by decide +kernel
theorem dX4_write_26 : decode cX4_write 26 = .ok (.getfield 10, 3) := by decide +kernel
theorem dX4_write_29 : decode cX4_write 29 = .ok (.getfield 84, 3) := by decide +kernel
theorem dX4_write_32 : decode cX4_write 32 = .ok (.goto 5, 3) := by decide +kernel
theorem dX4_write_35 : decode cX4_write 35 = .ok (.bipush (-3), 2) := by decide +kernel
theorem dX4_write_37 : decode cX4_write 37 = .ok (.ireturn, 1) := by decide +kernel
theorem dX4_wipe_0 : decode cX4_wipe 0 = .ok (.aload_n 0, 1) := by decide +kernel
theorem dX4_wipe_1 : decode cX4_wipe 1 = .ok (.getfield 10, 3) := by decide +kernel
theorem dX4_wipe_4 : decode cX4_wipe 4 = .ok (.getfield 84, 3) := by decide +kernel
theorem dX4_wipe_7 : decode cX4_wipe 7 = .ok (.istore_n 1, 1) := by decide +kernel
theorem dX4_wipe_8 : decode cX4_wipe 8 = .ok (.aload_n 0, 1) := by decide +kernel
theorem dX4_wipe_9 : decode cX4_wipe 9 = .ok (.getfield 10, 3) := by decide +kernel
theorem dX4_wipe_12 : decode cX4_wipe 12 = .ok (.invokevirtual 81, 3) := by decide +kernel
theorem dX4_wipe_15 : decode cX4_wipe 15 = .ok (.iload_n 1, 1) := by decide +kernel
theorem dX4_wipe_16 : decode cX4_wipe 16 = .ok (.ireturn, 1) := by decide +kernel
theorem dX4_fault_0 : decode cX4_fault 0 = .ok (.aload_n 0, 1) := by decide +kernel
theorem dX4_fault_1 : decode cX4_fault 1 = .ok (.getfield 10, 3) := by decide +kernel
theorem dX4_fault_4 : decode cX4_fault 4 = .ok (.invokevirtual 87, 3) := by decide +kernel
theorem dX4_fault_7 : decode cX4_fault 7 = .ok (.ireturn, 1) := by decide +kernel
theorem dX4_lay_0 : decode cX4_lay 0 = .ok (.aload_n 0, 1) := by decide +kernel
theorem dX4_lay_1 : decode cX4_lay 1 = .ok (.getfield 10, 3) := by decide +kernel
theorem dX4_lay_4 : decode cX4_lay 4 = .ok (.invokevirtual 74, 3) := by decide +kernel
theorem dX4_lay_7 : decode cX4_lay 7 = .ok (.ifCond .ne 6, 3) := by decide +kernel
theorem dX4_lay_10 : decode cX4_lay 10 = .ok (.bipush (-2), 2) := by decide +kernel
theorem dX4_lay_12 : decode cX4_lay 12 = .ok (.ireturn, 1) := by decide +kernel
theorem dX4_lay_13 : decode cX4_lay 13 = .ok (.aload_n 0, 1) := by decide +kernel
theorem dX4_lay_14 : decode cX4_lay 14 = .ok (.invokevirtual 78, 3) := by decide +kernel
theorem dX4_lay_17 : decode cX4_lay 17 = .ok (.aload_n 0, 1) := by decide +kernel
theorem dX4_lay_18 : decode cX4_lay 18 = .ok (.getfield 90, 3) := by decide +kernel
theorem dX4_lay_21 : decode cX4_lay 21 = .ok (.ireturn, 1) := by decide +kernel
theorem dX4_dancer_0 : decode cX4_dancer 0 = .ok (.iload_n 1, 1) := by decide +kernel
theorem dX4_dancer_1 : decode cX4_dancer 1 = .ok (.invokestatic 93, 3) := by decide +kernel
theorem dX4_dancer_4 : decode cX4_dancer 4 = .ok (.ifCond .eq 12, 3) := by decide +kernel
theorem dX4_dancer_7 : decode cX4_dancer 7 = .ok (.iload_n 2, 1) := by decide +kernel
theorem dX4_dancer_8 : decode cX4_dancer 8 = .ok (.ifCond .lt 8, 3) := by decide +kernel
theorem dX4_dancer_11 : decode cX4_dancer 11 = .ok (.iload_n 2, 1) := by decide +kernel
theorem dX4_dancer_12 : decode cX4_dancer 12 = .ok (.iconst 2, 1) := by decide +kernel
theorem dX4_dancer_13 : decode cX4_dancer 13 = .ok (.if_icmp .le 5, 3) := by decide +kernel
theorem dX4_dancer_16 : decode cX4_dancer 16 = .ok (.iconst (-1), 1) := by decide +kernel
theorem dX4_dancer_17 : decode cX4_dancer 17 = .ok (.ireturn, 1) := by decide +kernel
theorem dX4_dancer_18 : decode cX4_dancer 18 = .ok (.iload_n 2, 1) := by decide +kernel
theorem dX4_dancer_19 : decode cX4_dancer 19 = .ok (.ifCond .ne 12, 3) := by decide +kernel
theorem dX4_dancer_22 : decode cX4_dancer 22 = .ok (.aload_n 0, 1) := by decide +kernel
theorem dX4_dancer_23 : decode cX4_dancer 23 = .ok (.getfield 96, 3) := by decide +kernel
theorem dX4_dancer_26 : decode cX4_dancer 26 = .ok (.iload_n 1, 1) := by decide +kernel
theorem dX4_dancer_27 : decode cX4_dancer 27 = .ok (.invokestatic 99, 3) := by decide +kernel
theorem dX4_dancer_30 : decode cX4_dancer 30 = .ok (.ireturn, 1) := by decide +kernel
theorem dX4_dancer_31 : decode cX4_dancer 31 = .ok (.iload_n 2, 1) := by decide +kernel
theorem dX4_dancer_32 : decode cX4_dancer 32 = .ok (.iconst 1, 1) := by decide +kernel
theorem dX4_dancer_33 : decode cX4_dancer 33 = .ok (.if_icmp .ne 14, 3) := by decide +kernel
theorem dX4_dancer_36 : decode cX4_dancer 36 = .ok (.aload_n 0, 1) := by decide +kernel
theorem dX4_dancer_37 : decode cX4_dancer 37 = .ok (.getfield 19, 3) := by decide +kernel
theorem dX4_dancer_40 : decode cX4_dancer 40 = .ok (.iload_n 1, 1) := by decide +kernel
theorem dX4_dancer_41 : decode cX4_dancer 41 = .ok (.invokevirtual 103, 3) := by decide +kernel
theorem dX4_dancer_44 : decode cX4_dancer 44 = .ok (.goto 11, 3) := by decide +kernel
theorem dX4_dancer_47 : decode cX4_dancer 47 = .ok (.aload_n 0, 1) := by decide +kernel
theorem dX4_dancer_48 : decode cX4_dancer 48 = .ok (.getfield 19, 3) := by decide +kernel
theorem dX4_dancer_51 : decode cX4_dancer 51 = .ok (.iload_n 1, 1) := by decide +kernel
theorem dX4_dancer_52 : decode cX4_dancer 52 = .ok (.invokevirtual 107, 3) := by decide +kernel
theorem dX4_dancer_55 : decode cX4_dancer 55 = .ok (.ireturn, 1) := by decide +kernel
theorem dX4_place_0 : decode cX4_place 0 = .ok (.iload_n 1, 1) := by decide +kernel
theorem dX4_place_1 : decode cX4_place 1 = .ok (.ifCond .lt 17, 3) := by decide +kernel
theorem dX4_place_4 : decode cX4_place 4 = .ok (.iload_n 1, 1) := by decide +kernel
theorem dX4_place_5 : decode cX4_place 5 = .ok (.iconst 4, 1) := by decide +kernel
theorem dX4_place_6 : decode cX4_place 6 = .ok (.if_icmp .ge 12, 3) := by decide +kernel
theorem dX4_place_9 : decode cX4_place 9 = .ok (.iload_n 2, 1) := by decide +kernel
theorem dX4_place_10 : decode cX4_place 10 = .ok (.ifCond .lt 8, 3) := by decide +kernel
theorem dX4_place_13 : decode cX4_place 13 = .ok (.iload_n 2, 1) := by decide +kernel
theorem dX4_place_14 : decode cX4_place 14 = .ok (.iconst 1, 1) := by decide +kernel
theorem dX4_place_15 : decode cX4_place 15 = .ok (.if_icmp .le 5, 3) := by decide +kernel
theorem dX4_place_18 : decode cX4_place 18 = .ok (.iconst (-1), 1) := by decide +kernel
theorem dX4_place_19 : decode cX4_place 19 = .ok (.ireturn, 1) := by decide +kernel
theorem dX4_place_20 : decode cX4_place 20 = .ok (.aload_n 0, 1) := by decide +kernel
theorem dX4_place_21 : decode cX4_place 21 = .ok (.getfield 19, 3) := by decide +kernel
theorem dX4_place_24 : decode cX4_place 24 = .ok (.iload_n 1, 1) := by decide +kernel
theorem dX4_place_25 : decode cX4_place 25 = .ok (.invokevirtual 110, 3) := by decide +kernel
theorem dX4_place_28 : decode cX4_place 28 = .ok (.istore_n 3, 1) := by decide +kernel
theorem dX4_place_29 : decode cX4_place 29 = .ok (.iload_n 2, 1) := by decide +kernel
theorem dX4_place_30 : decode cX4_place 30 = .ok (.ifCond .ne 7, 3) := by decide +kernel
theorem dX4_place_33 : decode cX4_place 33 = .ok (.iload_n 3, 1) := by decide +kernel
theorem dX4_place_34 : decode cX4_place 34 = .ok (.goto 11, 3) := by decide +kernel
theorem dX4_place_37 : decode cX4_place 37 = .ok (.aload_n 0, 1) := by decide +kernel
theorem dX4_place_38 : decode cX4_place 38 = .ok (.getfield 19, 3) := by decide +kernel
theorem dX4_place_41 : decode cX4_place 41 = .ok (.iload_n 3, 1) := by decide +kernel
theorem dX4_place_42 : decode cX4_place 42 = .ok (.invokevirtual 107, 3) := by decide +kernel
theorem dX4_place_45 : decode cX4_place 45 = .ok (.ireturn, 1) := by decide +kernel
theorem dX4_wound_0 : decode cX4_wound 0 = .ok (.iload_n 1, 1) := by decide +kernel
theorem dX4_wound_1 : decode cX4_wound 1 = .ok (.ifCond .lt 8, 3) := by decide +kernel
theorem dX4_wound_4 : decode cX4_wound 4 = .ok (.iload_n 1, 1) := by decide +kernel
theorem dX4_wound_5 : decode cX4_wound 5 = .ok (.iconst 1, 1) := by decide +kernel
theorem dX4_wound_6 : decode cX4_wound 6 = .ok (.if_icmp .le 6, 3) := by decide +kernel
theorem dX4_wound_9 : decode cX4_wound 9 = .ok (.ldc 113, 2) := by decide +kernel
theorem dX4_wound_11 : decode cX4_wound 11 = .ok (.ireturn, 1) := by decide +kernel
theorem dX4_wound_12 : decode cX4_wound 12 = .ok (.iload_n 1, 1) := by decide +kernel
theorem dX4_wound_13 : decode cX4_wound 13 = .ok (.ifCond .ne 13, 3) := by decide +kernel
theorem dX4_wound_16 : decode cX4_wound 16 = .ok (.aload_n 0, 1) := by decide +kernel
theorem dX4_wound_17 : decode cX4_wound 17 = .ok (.getfield 19, 3) := by decide +kernel
theorem dX4_wound_20 : decode cX4_wound 20 = .ok (.getfield 114, 3) := by decide +kernel
theorem dX4_wound_23 : decode cX4_wound 23 = .ok (.goto 10, 3) := by decide +kernel
theorem dX4_wound_26 : decode cX4_wound 26 = .ok (.aload_n 0, 1) := by decide +kernel
theorem dX4_wound_27 : decode cX4_wound 27 = .ok (.getfield 19, 3) := by decide +kernel
theorem dX4_wound_30 : decode cX4_wound 30 = .ok (.getfield 117, 3) := by decide +kernel
theorem dX4_wound_33 : decode cX4_wound 33 = .ok (.ireturn, 1) := by decide +kernel
theorem dX4_row_0 : decode cX4_row 0 = .ok (.iload_n 1, 1) := by decide +kernel
theorem dX4_row_1 : decode cX4_row 1 = .ok (.ifCond .lt 9, 3) := by decide +kernel
theorem dX4_row_4 : decode cX4_row 4 = .ok (.iload_n 1, 1) := by decide +kernel
theorem dX4_row_5 : decode cX4_row 5 = .ok (.bipush 12, 2) := by decide +kernel
theorem dX4_row_7 : decode cX4_row 7 = .ok (.if_icmp .lt 5, 3) := by decide +kernel
theorem dX4_row_10 : decode cX4_row 10 = .ok (.iconst (-1), 1) := by decide +kernel
theorem dX4_row_11 : decode cX4_row 11 = .ok (.ireturn, 1) := by decide +kernel
theorem dX4_row_12 : decode cX4_row 12 = .ok (.iload_n 1, 1) := by decide +kernel
theorem dX4_row_13 : decode cX4_row 13 = .ok (.aload_n 0, 1) := by decide +kernel
theorem dX4_row_14 : decode cX4_row 14 = .ok (.getfield 90, 3) := by decide +kernel
theorem dX4_row_17 : decode cX4_row 17 = .ok (.if_icmp .ge 14, 3) := by decide +kernel
theorem dX4_row_20 : decode cX4_row 20 = .ok (.aload_n 0, 1) := by decide +kernel
theorem dX4_row_21 : decode cX4_row 21 = .ok (.getfield 120, 3) := by decide +kernel
theorem dX4_row_24 : decode cX4_row 24 = .ok (.iload_n 1, 1) := by decide +kernel
theorem dX4_row_25 : decode cX4_row 25 = .ok (.invokestatic 123, 3) := by decide +kernel
theorem dX4_row_28 : decode cX4_row 28 = .ok (.goto 5, 3) := by decide +kernel
theorem dX4_row_31 : decode cX4_row 31 = .ok (.bipush (-4), 2) := by decide +kernel
theorem dX4_row_33 : decode cX4_row 33 = .ok (.ireturn, 1) := by decide +kernel
theorem dX4_dance_0 : decode cX4_dance 0 = .ok (.iload_n 1, 1) := by decide +kernel
theorem dX4_dance_1 : decode cX4_dance 1 = .ok (.ifCond .lt 8, 3) := by decide +kernel
theorem dX4_dance_4 : decode cX4_dance 4 = .ok (.iload_n 1, 1) := by decide +kernel
theorem dX4_dance_5 : decode cX4_dance 5 = .ok (.iconst 3, 1) := by decide +kernel
theorem dX4_dance_6 : decode cX4_dance 6 = .ok (.if_icmp .le 5, 3) := by decide +kernel
theorem dX4_dance_9 : decode cX4_dance 9 = .ok (.iconst (-1), 1) := by decide +kernel
theorem dX4_dance_10 : decode cX4_dance 10 = .ok (.ireturn, 1) := by decide +kernel
theorem dX4_dance_11 : decode cX4_dance 11 = .ok (.aload_n 0, 1) := by decide +kernel
theorem dX4_dance_12 : decode cX4_dance 12 = .ok (.getfield 19, 3) := by decide +kernel
theorem dX4_dance_15 : decode cX4_dance 15 = .ok (.iload_n 1, 1) := by decide +kernel
theorem dX4_dance_16 : decode cX4_dance 16 = .ok (.aload_n 0, 1) := by decide +kernel
theorem dX4_dance_17 : decode cX4_dance 17 = .ok (.getfield 96, 3) := by decide +kernel
theorem dX4_dance_20 : decode cX4_dance 20 = .ok (.invokevirtual 126, 3) := by decide +kernel
theorem dX4_dance_23 : decode cX4_dance 23 = .ok (.istore_n 2, 1) := by decide +kernel
theorem dX4_dance_24 : decode cX4_dance 24 = .ok (.aload_n 0, 1) := by decide +kernel
theorem dX4_dance_25 : decode cX4_dance 25 = .ok (.getfield 19, 3) := by decide +kernel
theorem dX4_dance_28 : decode cX4_dance 28 = .ok (.iload_n 2, 1) := by decide +kernel
theorem dX4_dance_29 : decode cX4_dance 29 = .ok (.invokevirtual 129, 3) := by decide +kernel
theorem dX4_dance_32 : decode cX4_dance 32 = .ok (.ifCond .eq 6, 3) := by decide +kernel
theorem dX4_dance_35 : decode cX4_dance 35 = .ok (.bipush (-2), 2) := by decide +kernel
theorem dX4_dance_37 : decode cX4_dance 37 = .ok (.ireturn, 1) := by decide +kernel
theorem dX4_dance_38 : decode cX4_dance 38 = .ok (.aload_n 0, 1) := by decide +kernel
theorem dX4_dance_39 : decode cX4_dance 39 = .ok (.getfield 31, 3) := by decide +kernel
theorem dX4_dance_42 : decode cX4_dance 42 = .ok (.aload_n 0, 1) := by decide +kernel
theorem dX4_dance_43 : decode cX4_dance 43 = .ok (.getfield 19, 3) := by decide +kernel
theorem dX4_dance_46 : decode cX4_dance 46 = .ok (.invokevirtual 132, 3) := by decide +kernel
theorem dX4_dance_49 : decode cX4_dance 49 = .ok (.aload_n 0, 1) := by decide +kernel
theorem dX4_dance_50 : decode cX4_dance 50 = .ok (.getfield 19, 3) := by decide +kernel
theorem dX4_dance_53 : decode cX4_dance 53 = .ok (.iload_n 1, 1) := by decide +kernel
theorem dX4_dance_54 : decode cX4_dance 54 = .ok (.aload_n 0, 1) := by decide +kernel
theorem dX4_dance_55 : decode cX4_dance 55 = .ok (.getfield 96, 3) := by decide +kernel
theorem dX4_dance_58 : decode cX4_dance 58 = .ok (.invokevirtual 136, 3) := by decide +kernel
theorem dX4_dance_61 : decode cX4_dance 61 = .ok (.pop, 1) := by decide +kernel
theorem dX4_dance_62 : decode cX4_dance 62 = .ok (.bipush 10, 2) := by decide +kernel
theorem dX4_dance_64 : decode cX4_dance 64 = .ok (.iload_n 2, 1) := by decide +kernel
theorem dX4_dance_65 : decode cX4_dance 65 = .ok (.iadd, 1) := by decide +kernel
theorem dX4_dance_66 : decode cX4_dance 66 = .ok (.ireturn, 1) := by decide +kernel
theorem dX4_put_0 : decode cX4_put 0 = .ok (.iload_n 1, 1) := by decide +kernel
theorem dX4_put_1 : decode cX4_put 1 = .ok (.iload_n 2, 1) := by decide +kernel
theorem dX4_put_2 : decode cX4_put 2 = .ok (.invokestatic 140, 3) := by decide +kernel
theorem dX4_put_5 : decode cX4_put 5 = .ok (.ifCond .ne 5, 3) := by decide +kernel
theorem dX4_put_8 : decode cX4_put 8 = .ok (.iconst (-1), 1) := by decide +kernel
theorem dX4_put_9 : decode cX4_put 9 = .ok (.ireturn, 1) := by decide +kernel
theorem dX4_put_10 : decode cX4_put 10 = .ok (.aload_n 0, 1) := by decide +kernel
theorem dX4_put_11 : decode cX4_put 11 = .ok (.getfield 31, 3) := by decide +kernel
theorem dX4_put_14 : decode cX4_put 14 = .ok (.aload_n 0, 1) := by decide +kernel
theorem dX4_put_15 : decode cX4_put 15 = .ok (.getfield 19, 3) := by decide +kernel
theorem dX4_put_18 : decode cX4_put 18 = .ok (.invokevirtual 132, 3) := by decide +kernel
theorem dX4_put_21 : decode cX4_put 21 = .ok (.aload_n 0, 1) := by decide +kernel
theorem dX4_put_22 : decode cX4_put 22 = .ok (.getfield 19, 3) := by decide +kernel
theorem dX4_put_25 : decode cX4_put 25 = .ok (.iload_n 1, 1) := by decide +kernel
theorem dX4_put_26 : decode cX4_put 26 = .ok (.iload_n 2, 1) := by decide +kernel
theorem dX4_put_27 : decode cX4_put 27 = .ok (.invokevirtual 143, 3) := by decide +kernel
theorem dX4_put_30 : decode cX4_put 30 = .ok (.aload_n 0, 1) := by decide +kernel
theorem dX4_put_31 : decode cX4_put 31 = .ok (.getfield 19, 3) := by decide +kernel
theorem dX4_put_34 : decode cX4_put 34 = .ok (.iload_n 1, 1) := by decide +kernel
theorem dX4_put_35 : decode cX4_put 35 = .ok (.invokevirtual 103, 3) := by decide +kernel
theorem dX4_put_38 : decode cX4_put 38 = .ok (.ireturn, 1) := by decide +kernel
theorem dX4_undo_0 : decode cX4_undo 0 = .ok (.aload_n 0, 1) := by decide +kernel
theorem dX4_undo_1 : decode cX4_undo 1 = .ok (.getfield 31, 3) := by decide +kernel
theorem dX4_undo_4 : decode cX4_undo 4 = .ok (.aload_n 0, 1) := by decide +kernel
theorem dX4_undo_5 : decode cX4_undo 5 = .ok (.getfield 19, 3) := by decide +kernel
theorem dX4_undo_8 : decode cX4_undo 8 = .ok (.invokevirtual 147, 3) := by decide +kernel
theorem dX4_undo_11 : decode cX4_undo 11 = .ok (.ifCond .eq 13, 3) := by decide +kernel
theorem dX4_undo_14 : decode cX4_undo 14 = .ok (.aload_n 0, 1) := by decide +kernel
theorem dX4_undo_15 : decode cX4_undo 15 = .ok (.getfield 31, 3) := by decide +kernel
theorem dX4_undo_18 : decode cX4_undo 18 = .ok (.getfield 151, 3) := by decide +kernel
theorem dX4_undo_21 : decode cX4_undo 21 = .ok (.goto 5, 3) := by decide +kernel
theorem dX4_undo_24 : decode cX4_undo 24 = .ok (.bipush (-2), 2) := by decide +kernel
theorem dX4_undo_26 : decode cX4_undo 26 = .ok (.ireturn, 1) := by decide +kernel
theorem dX4_free_0 : decode cX4_free 0 = .ok (.iload_n 1, 1) := by decide +kernel
theorem dX4_free_1 : decode cX4_free 1 = .ok (.invokestatic 154, 3) := by decide +kernel
theorem dX4_free_4 : decode cX4_free 4 = .ok (.ifCond .ne 5, 3) := by decide +kernel
theorem dX4_free_7 : decode cX4_free 7 = .ok (.iconst (-1), 1) := by decide +kernel
theorem dX4_free_8 : decode cX4_free 8 = .ok (.ireturn, 1) := by decide +kernel
theorem dX4_free_9 : decode cX4_free 9 = .ok (.aload_n 0, 1) := by decide +kernel
theorem dX4_free_10 : decode cX4_free 10 = .ok (.getfield 41, 3) := by decide +kernel
theorem dX4_free_13 : decode cX4_free 13 = .ok (.iconst 0, 1) := by decide +kernel
theorem dX4_free_14 : decode cX4_free 14 = .ok (.iconst 1, 1) := by decide +kernel
theorem dX4_free_15 : decode cX4_free 15 = .ok (.invokevirtual 157, 3) := by decide +kernel
theorem dX4_free_18 : decode cX4_free 18 = .ok (.aload_n 0, 1) := by decide +kernel
theorem dX4_free_19 : decode cX4_free 19 = .ok (.iload_n 1, 1) := by decide +kernel
theorem dX4_free_20 : decode cX4_free 20 = .ok (.invokevirtual 160, 3) := by decide +kernel
theorem dX4_free_23 : decode cX4_free 23 = .ok (.ireturn, 1) := by decide +kernel
theorem dX4_reach_0 : decode cX4_reach 0 = .ok (.iload_n 1, 1) := by decide +kernel
theorem dX4_reach_1 : decode cX4_reach 1 = .ok (.iload_n 2, 1) := by decide +kernel
theorem dX4_reach_2 : decode cX4_reach 2 = .ok (.invokestatic 163, 3) := by decide +kernel
theorem dX4_reach_5 : decode cX4_reach 5 = .ok (.ifCond .eq 10, 3) := by decide +kernel
theorem dX4_reach_8 : decode cX4_reach 8 = .ok (.iload_n 3, 1) := by decide +kernel
theorem dX4_reach_9 : decode cX4_reach 9 = .ok (.invokestatic 154, 3) := by decide +kernel
theorem dX4_reach_12 : decode cX4_reach 12 = .ok (.ifCond .ne 5, 3) := by decide +kernel
theorem dX4_reach_15 : decode cX4_reach 15 = .ok (.iconst (-1), 1) := by decide +kernel
theorem dX4_reach_16 : decode cX4_reach 16 = .ok (.ireturn, 1) := by decide +kernel
theorem dX4_reach_17 : decode cX4_reach 17 = .ok (.aload_n 0, 1) := by decide +kernel
theorem dX4_reach_18 : decode cX4_reach 18 = .ok (.getfield 41, 3) := by decide +kernel
theorem dX4_reach_21 : decode cX4_reach 21 = .ok (.iload_n 1, 1) := by decide +kernel
theorem dX4_reach_22 : decode cX4_reach 22 = .ok (.iload_n 2, 1) := by decide +kernel
theorem dX4_reach_23 : decode cX4_reach 23 = .ok (.invokevirtual 157, 3) := by decide +kernel
theorem dX4_reach_26 : decode cX4_reach 26 = .ok (.aload_n 0, 1) := by decide +kernel
theorem dX4_reach_27 : decode cX4_reach 27 = .ok (.iload_n 3, 1) := by decide +kernel
theorem dX4_reach_28 : decode cX4_reach 28 = .ok (.invokevirtual 160, 3) := by decide +kernel
theorem dX4_reach_31 : decode cX4_reach 31 = .ok (.ireturn, 1) := by decide +kernel
theorem dX4_meet_0 : decode cX4_meet 0 = .ok (.iload_n 1, 1) := by decide +kernel
theorem dX4_meet_1 : decode cX4_meet 1 = .ok (.iload_n 2, 1) := by decide +kernel
theorem dX4_meet_2 : decode cX4_meet 2 = .ok (.invokestatic 140, 3) := by decide +kernel
theorem dX4_meet_5 : decode cX4_meet 5 = .ok (.ifCond .eq 10, 3) := by decide +kernel
theorem dX4_meet_8 : decode cX4_meet 8 = .ok (.iload_n 3, 1) := by decide +kernel
theorem dX4_meet_9 : decode cX4_meet 9 = .ok (.invokestatic 154, 3) := by decide +kernel
theorem dX4_meet_12 : decode cX4_meet 12 = .ok (.ifCond .ne 5, 3) := by decide +kernel
theorem dX4_meet_15 : decode cX4_meet 15 = .ok (.iconst (-1), 1) := by decide +kernel
theorem dX4_meet_16 : decode cX4_meet 16 = .ok (.ireturn, 1) := by decide +kernel
theorem dX4_meet_17 : decode cX4_meet 17 = .ok (.aload_n 0, 1) := by decide +kernel
theorem dX4_meet_18 : decode cX4_meet 18 = .ok (.getfield 41, 3) := by decide +kernel
theorem dX4_meet_21 : decode cX4_meet 21 = .ok (.iload_n 1, 1) := by decide +kernel
theorem dX4_meet_22 : decode cX4_meet 22 = .ok (.iload_n 2, 1) := by decide +kernel
theorem dX4_meet_23 : decode cX4_meet 23 = .ok (.invokevirtual 166, 3) := by decide +kernel
theorem dX4_meet_26 : decode cX4_meet 26 = .ok (.aload_n 0, 1) := by decide +kernel
theorem dX4_meet_27 : decode cX4_meet 27 = .ok (.iload_n 3, 1) := by decide +kernel
theorem dX4_meet_28 : decode cX4_meet 28 = .ok (.invokevirtual 160, 3) := by decide +kernel
theorem dX4_meet_31 : decode cX4_meet 31 = .ok (.ireturn, 1) := by decide +kernel
theorem dX4_ways_0 : decode cX4_ways 0 = .ok (.iload_n 1, 1) := by decide +kernel
theorem dX4_ways_1 : decode cX4_ways 1 = .ok (.ifCond .lt 9, 3) := by decide +kernel
theorem dX4_ways_4 : decode cX4_ways 4 = .ok (.iload_n 1, 1) := by decide +kernel
theorem dX4_ways_5 : decode cX4_ways 5 = .ok (.bipush 7, 2) := by decide +kernel
theorem dX4_ways_7 : decode cX4_ways 7 = .ok (.if_icmp .le 5, 3) := by decide +kernel
theorem dX4_ways_10 : decode cX4_ways 10 = .ok (.iconst (-1), 1) := by decide +kernel
theorem dX4_ways_11 : decode cX4_ways 11 = .ok (.ireturn, 1) := by decide +kernel
theorem dX4_ways_12 : decode cX4_ways 12 = .ok (.aload_n 0, 1) := by decide +kernel
theorem dX4_ways_13 : decode cX4_ways 13 = .ok (.getfield 41, 3) := by decide +kernel
theorem dX4_ways_16 : decode cX4_ways 16 = .ok (.iconst 0, 1) := by decide +kernel
theorem dX4_ways_17 : decode cX4_ways 17 = .ok (.iconst 1, 1) := by decide +kernel
theorem dX4_ways_18 : decode cX4_ways 18 = .ok (.invokevirtual 157, 3) := by decide +kernel
theorem dX4_ways_21 : decode cX4_ways 21 = .ok (.aload_n 0, 1) := by decide +kernel
theorem dX4_ways_22 : decode cX4_ways 22 = .ok (.getfield 41, 3) := by decide +kernel
theorem dX4_ways_25 : decode cX4_ways 25 = .ok (.aload_n 0, 1) := by decide +kernel
theorem dX4_ways_26 : decode cX4_ways 26 = .ok (.getfield 19, 3) := by decide +kernel
theorem dX4_ways_29 : decode cX4_ways 29 = .ok (.aload_n 0, 1) := by decide +kernel
theorem dX4_ways_30 : decode cX4_ways 30 = .ok (.getfield 96, 3) := by decide +kernel
theorem dX4_ways_33 : decode cX4_ways 33 = .ok (.invokevirtual 169, 3) := by decide +kernel
theorem dX4_ways_36 : decode cX4_ways 36 = .ok (.aload_n 0, 1) := by decide +kernel
theorem dX4_ways_37 : decode cX4_ways 37 = .ok (.getfield 41, 3) := by decide +kernel
theorem dX4_ways_40 : decode cX4_ways 40 = .ok (.iconst 0, 1) := by decide +kernel
theorem dX4_ways_41 : decode cX4_ways 41 = .ok (.iload_n 1, 1) := by decide +kernel
theorem dX4_ways_42 : decode cX4_ways 42 = .ok (.invokestatic 173, 3) := by decide +kernel
theorem dX4_ways_45 : decode cX4_ways 45 = .ok (.ireturn, 1) := by decide +kernel
theorem dX4_plain_0 : decode cX4_plain 0 = .ok (.aload_n 0, 1) := by decide +kernel
theorem dX4_plain_1 : decode cX4_plain 1 = .ok (.getfield 23, 3) := by decide +kernel
theorem dX4_plain_4 : decode cX4_plain 4 = .ok (.aload_n 0, 1) := by decide +kernel
theorem dX4_plain_5 : decode cX4_plain 5 = .ok (.getfield 19, 3) := by decide +kernel
theorem dX4_plain_8 : decode cX4_plain 8 = .ok (.invokevirtual 177, 3) := by decide +kernel
theorem dX4_plain_11 : decode cX4_plain 11 = .ok (.iconst 0, 1) := by decide +kernel
theorem dX4_plain_12 : decode cX4_plain 12 = .ok (.istore_n 1, 1) := by decide +kernel
theorem dX4_plain_13 : decode cX4_plain 13 = .ok (.iload_n 1, 1) := by decide +kernel
theorem dX4_plain_14 : decode cX4_plain 14 = .ok (.bipush 60, 2) := by decide +kernel
theorem dX4_plain_16 : decode cX4_plain 16 = .ok (.if_icmp .gt 53, 3) := by decide +kernel
theorem dX4_plain_19 : decode cX4_plain 19 = .ok (.aload_n 0, 1) := by decide +kernel
theorem dX4_plain_20 : decode cX4_plain 20 = .ok (.getfield 23, 3) := by decide +kernel
theorem dX4_plain_23 : decode cX4_plain 23 = .ok (.getfield 114, 3) := by decide +kernel
theorem dX4_plain_26 : decode cX4_plain 26 = .ok (.ifCond .ne 5, 3) := by decide +kernel
theorem dX4_plain_29 : decode cX4_plain 29 = .ok (.iload_n 1, 1) := by decide +kernel
theorem dX4_plain_30 : decode cX4_plain 30 = .ok (.ireturn, 1) := by decide +kernel
theorem dX4_plain_31 : decode cX4_plain 31 = .ok (.aload_n 0, 1) := by decide +kernel
theorem dX4_plain_32 : decode cX4_plain 32 = .ok (.getfield 23, 3) := by decide +kernel
theorem dX4_plain_35 : decode cX4_plain 35 = .ok (.aload_n 0, 1) := by decide +kernel
theorem dX4_plain_36 : decode cX4_plain 36 = .ok (.getfield 23, 3) := by decide +kernel
theorem dX4_plain_39 : decode cX4_plain 39 = .ok (.getfield 114, 3) := by decide +kernel
theorem dX4_plain_42 : decode cX4_plain 42 = .ok (.ifCond .ge 7, 3) := by decide +kernel
theorem dX4_plain_45 : decode cX4_plain 45 = .ok (.iconst 0, 1) := by decide +kernel
theorem dX4_plain_46 : decode cX4_plain 46 = .ok (.goto 4, 3) := by decide +kernel
theorem dX4_plain_49 : decode cX4_plain 49 = .ok (.iconst 2, 1) := by decide +kernel
theorem dX4_plain_50 : decode cX4_plain 50 = .ok (.aload_n 0, 1) := by decide +kernel
theorem dX4_plain_51 : decode cX4_plain 51 = .ok (.getfield 96, 3) := by decide +kernel
theorem dX4_plain_54 : decode cX4_plain 54 = .ok (.invokevirtual 136, 3) := by decide +kernel
theorem dX4_plain_57 : decode cX4_plain 57 = .ok (.ifCond .ne 6, 3) := by decide +kernel
theorem dX4_plain_60 : decode cX4_plain 60 = .ok (.bipush (-4), 2) := by decide +kernel
theorem dX4_plain_62 : decode cX4_plain 62 = .ok (.ireturn, 1) := by decide +kernel
theorem dX4_plain_63 : decode cX4_plain 63 = .ok (.iinc 1 1, 3) := by decide +kernel
theorem dX4_plain_66 : decode cX4_plain 66 = .ok (.goto (-53), 3) := by decide +kernel
theorem dX4_plain_69 : decode cX4_plain 69 = .ok (.bipush (-4), 2) := by decide +kernel
theorem dX4_plain_71 : decode cX4_plain 71 = .ok (.ireturn, 1) := by decide +kernel
theorem dX4_comes_0 : decode cX4_comes 0 = .ok (.iload_n 1, 1) := by decide +kernel
theorem dX4_comes_1 : decode cX4_comes 1 = .ok (.ifCond .lt 8, 3) := by decide +kernel
theorem dX4_comes_4 : decode cX4_comes 4 = .ok (.iload_n 1, 1) := by decide +kernel
theorem dX4_comes_5 : decode cX4_comes 5 = .ok (.iconst 1, 1) := by decide +kernel
theorem dX4_comes_6 : decode cX4_comes 6 = .ok (.if_icmp .le 5, 3) := by decide +kernel
theorem dX4_comes_9 : decode cX4_comes 9 = .ok (.iconst (-1), 1) := by decide +kernel
theorem dX4_comes_10 : decode cX4_comes 10 = .ok (.ireturn, 1) := by decide +kernel
theorem dX4_comes_11 : decode cX4_comes 11 = .ok (.aload_n 0, 1) := by decide +kernel
theorem dX4_comes_12 : decode cX4_comes 12 = .ok (.bipush 12, 2) := by decide +kernel
theorem dX4_comes_14 : decode cX4_comes 14 = .ok (.aload_n 0, 1) := by decide +kernel
theorem dX4_comes_15 : decode cX4_comes 15 = .ok (.getfield 96, 3) := by decide +kernel
theorem dX4_comes_18 : decode cX4_comes 18 = .ok (.invokevirtual 180, 3) := by decide +kernel
theorem dX4_comes_21 : decode cX4_comes 21 = .ok (.pop, 1) := by decide +kernel
theorem dX4_comes_22 : decode cX4_comes 22 = .ok (.iload_n 1, 1) := by decide +kernel
theorem dX4_comes_23 : decode cX4_comes 23 = .ok (.ifCond .ne 21, 3) := by decide +kernel
theorem dX4_comes_26 : decode cX4_comes 26 = .ok (.aload_n 0, 1) := by decide +kernel
theorem dX4_comes_27 : decode cX4_comes 27 = .ok (.getfield 23, 3) := by decide +kernel
theorem dX4_comes_30 : decode cX4_comes 30 = .ok (.getfield 183, 3) := by decide +kernel
theorem dX4_comes_33 : decode cX4_comes 33 = .ok (.aload_n 0, 1) := by decide +kernel
theorem dX4_comes_34 : decode cX4_comes 34 = .ok (.getfield 19, 3) := by decide +kernel
theorem dX4_comes_37 : decode cX4_comes 37 = .ok (.getfield 183, 3) := by decide +kernel
theorem dX4_comes_40 : decode cX4_comes 40 = .ok (.isub, 1) := by decide +kernel
theorem dX4_comes_41 : decode cX4_comes 41 = .ok (.goto 11, 3) := by decide +kernel
theorem dX4_comes_44 : decode cX4_comes 44 = .ok (.aload_n 0, 1) := by decide +kernel
theorem dX4_comes_45 : decode cX4_comes 45 = .ok (.getfield 23, 3) := by decide +kernel
theorem dX4_comes_48 : decode cX4_comes 48 = .ok (.iconst 0, 1) := by decide +kernel
theorem dX4_comes_49 : decode cX4_comes 49 = .ok (.invokevirtual 110, 3) := by decide +kernel
theorem dX4_comes_52 : decode cX4_comes 52 = .ok (.ireturn, 1) := by decide +kernel
theorem dX4_behind_0 : decode cX4_behind 0 = .ok (.iload_n 1, 1) := by decide +kernel
theorem dX4_behind_1 : decode cX4_behind 1 = .ok (.invokestatic 186, 3) := by decide +kernel
theorem dX4_behind_4 : decode cX4_behind 4 = .ok (.ifCond .eq 12, 3) := by decide +kernel
theorem dX4_behind_7 : decode cX4_behind 7 = .ok (.iload_n 2, 1) := by decide +kernel
theorem dX4_behind_8 : decode cX4_behind 8 = .ok (.ifCond .lt 8, 3) := by decide +kernel
theorem dX4_behind_11 : decode cX4_behind 11 = .ok (.iload_n 2, 1) := by decide +kernel
theorem dX4_behind_12 : decode cX4_behind 12 = .ok (.iconst 1, 1) := by decide +kernel
theorem dX4_behind_13 : decode cX4_behind 13 = .ok (.if_icmp .le 6, 3) := by decide +kernel
theorem dX4_behind_16 : decode cX4_behind 16 = .ok (.ldc 113, 2) := by decide +kernel
theorem dX4_behind_18 : decode cX4_behind 18 = .ok (.ireturn, 1) := by decide +kernel
theorem dX4_behind_19 : decode cX4_behind 19 = .ok (.aload_n 0, 1) := by decide +kernel
theorem dX4_behind_20 : decode cX4_behind 20 = .ok (.iload_n 1, 1) := by decide +kernel
theorem dX4_behind_21 : decode cX4_behind 21 = .ok (.aload_n 0, 1) := by decide +kernel
theorem dX4_behind_22 : decode cX4_behind 22 = .ok (.getfield 96, 3) := by decide +kernel
theorem dX4_behind_25 : decode cX4_behind 25 = .ok (.invokevirtual 180, 3) := by decide +kernel
theorem dX4_behind_28 : decode cX4_behind 28 = .ok (.ifCond .ne 6, 3) := by decide +kernel
theorem dX4_behind_31 : decode cX4_behind 31 = .ok (.ldc 189, 2) := by decide +kernel
theorem dX4_behind_33 : decode cX4_behind 33 = .ok (.ireturn, 1) := by decide +kernel
theorem dX4_behind_34 : decode cX4_behind 34 = .ok (.iload_n 2, 1) := by decide +kernel
theorem dX4_behind_35 : decode cX4_behind 35 = .ok (.ifCond .ne 13, 3) := by decide +kernel
theorem dX4_behind_38 : decode cX4_behind 38 = .ok (.aload_n 0, 1) := by decide +kernel
theorem dX4_behind_39 : decode cX4_behind 39 = .ok (.getfield 23, 3) := by decide +kernel
theorem dX4_behind_42 : decode cX4_behind 42 = .ok (.getfield 114, 3) := by decide +kernel
theorem dX4_behind_45 : decode cX4_behind 45 = .ok (.goto 10, 3) := by decide +kernel
theorem dX4_behind_48 : decode cX4_behind 48 = .ok (.aload_n 0, 1) := by decide +kernel
theorem dX4_behind_49 : decode cX4_behind 49 = .ok (.getfield 23, 3) := by decide +kernel
theorem dX4_behind_52 : decode cX4_behind 52 = .ok (.getfield 117, 3) := by decide +kernel
theorem dX4_behind_55 : decode cX4_behind 55 = .ok (.ireturn, 1) := by decide +kernel
theorem dX4_see_0 : decode cX4_see 0 = .ok (.iload_n 1, 1) := by decide +kernel
theorem dX4_see_1 : decode cX4_see 1 = .ok (.invokestatic 186, 3) := by decide +kernel
theorem dX4_see_4 : decode cX4_see 4 = .ok (.ifCond .eq 11, 3) := by decide +kernel
theorem dX4_see_7 : decode cX4_see 7 = .ok (.iload_n 2, 1) := by decide +kernel
theorem dX4_see_8 : decode cX4_see 8 = .ok (.iload_n 3, 1) := by decide +kernel
theorem dX4_see_9 : decode cX4_see 9 = .ok (.invokestatic 163, 3) := by decide +kernel
theorem dX4_see_12 : decode cX4_see 12 = .ok (.ifCond .ne 5, 3) := by decide +kernel
theorem dX4_see_15 : decode cX4_see 15 = .ok (.iconst (-1), 1) := by decide +kernel
theorem dX4_see_16 : decode cX4_see 16 = .ok (.ireturn, 1) := by decide +kernel
theorem dX4_see_17 : decode cX4_see 17 = .ok (.aload_n 0, 1) := by decide +kernel
theorem dX4_see_18 : decode cX4_see 18 = .ok (.getfield 190, 3) := by decide +kernel
theorem dX4_see_21 : decode cX4_see 21 = .ok (.bipush 6, 2) := by decide +kernel
theorem dX4_see_23 : decode cX4_see 23 = .ok (.if_icmp .lt 6, 3) := by decide +kernel
theorem dX4_see_26 : decode cX4_see 26 = .ok (.bipush (-3), 2) := by decide +kernel
theorem dX4_see_28 : decode cX4_see 28 = .ok (.ireturn, 1) := by decide +kernel
theorem dX4_see_29 : decode cX4_see 29 = .ok (.aload_n 0, 1) := by decide +kernel
theorem dX4_see_30 : decode cX4_see 30 = .ok (.getfield 45, 3) := by decide +kernel
theorem dX4_see_33 : decode cX4_see 33 = .ok (.aload_n 0, 1) := by decide +kernel
theorem dX4_see_34 : decode cX4_see 34 = .ok (.getfield 190, 3) := by decide +kernel
theorem dX4_see_37 : decode cX4_see 37 = .ok (.iload_n 1, 1) := by decide +kernel
theorem dX4_see_38 : decode cX4_see 38 = .ok (.iastore, 1) := by decide +kernel
theorem dX4_see_39 : decode cX4_see 39 = .ok (.aload_n 0, 1) := by decide +kernel
theorem dX4_see_40 : decode cX4_see 40 = .ok (.getfield 49, 3) := by decide +kernel
theorem dX4_see_43 : decode cX4_see 43 = .ok (.aload_n 0, 1) := by decide +kernel
theorem dX4_see_44 : decode cX4_see 44 = .ok (.getfield 190, 3) := by decide +kernel
theorem dX4_see_47 : decode cX4_see 47 = .ok (.iload_n 2, 1) := by decide +kernel
theorem dX4_see_48 : decode cX4_see 48 = .ok (.iastore, 1) := by decide +kernel
theorem dX4_see_49 : decode cX4_see 49 = .ok (.aload_n 0, 1) := by decide +kernel
theorem dX4_see_50 : decode cX4_see 50 = .ok (.getfield 52, 3) := by decide +kernel
theorem dX4_see_53 : decode cX4_see 53 = .ok (.aload_n 0, 1) := by decide +kernel
theorem dX4_see_54 : decode cX4_see 54 = .ok (.getfield 190, 3) := by decide +kernel
theorem dX4_see_57 : decode cX4_see 57 = .ok (.iload_n 3, 1) := by decide +kernel
theorem dX4_see_58 : decode cX4_see 58 = .ok (.iastore, 1) := by decide +kernel
theorem dX4_see_59 : decode cX4_see 59 = .ok (.aload_n 0, 1) := by decide +kernel
theorem dX4_see_60 : decode cX4_see 60 = .ok (.dup, 1) := by decide +kernel
theorem dX4_see_61 : decode cX4_see 61 = .ok (.getfield 190, 3) := by decide +kernel
theorem dX4_see_64 : decode cX4_see 64 = .ok (.iconst 1, 1) := by decide +kernel
theorem dX4_see_65 : decode cX4_see 65 = .ok (.iadd, 1) := by decide +kernel
theorem dX4_see_66 : decode cX4_see 66 = .ok (.putfield 190, 3) := by decide +kernel
theorem dX4_see_69 : decode cX4_see 69 = .ok (.aload_n 0, 1) := by decide +kernel
theorem dX4_see_70 : decode cX4_see 70 = .ok (.getfield 190, 3) := by decide +kernel
theorem dX4_see_73 : decode cX4_see 73 = .ok (.ireturn, 1) := by decide +kernel
theorem dX4_forget_0 : decode cX4_forget 0 = .ok (.aload_n 0, 1) := by decide +kernel
theorem dX4_forget_1 : decode cX4_forget 1 = .ok (.getfield 190, 3) := by decide +kernel
theorem dX4_forget_4 : decode cX4_forget 4 = .ok (.istore_n 1, 1) := by decide +kernel
theorem dX4_forget_5 : decode cX4_forget 5 = .ok (.aload_n 0, 1) := by decide +kernel
theorem dX4_forget_6 : decode cX4_forget 6 = .ok (.iconst 0, 1) := by decide +kernel
theorem dX4_forget_7 : decode cX4_forget 7 = .ok (.putfield 190, 3) := by decide +kernel
theorem dX4_forget_10 : decode cX4_forget 10 = .ok (.iload_n 1, 1) := by decide +kernel
theorem dX4_forget_11 : decode cX4_forget 11 = .ok (.ireturn, 1) := by decide +kernel
theorem dX4_kinds_0 : decode cX4_kinds 0 = .ok (.iload_n 1, 1) := by decide +kernel
theorem dX4_kinds_1 : decode cX4_kinds 1 = .ok (.invokestatic 93, 3) := by decide +kernel
theorem dX4_kinds_4 : decode cX4_kinds 4 = .ok (.ifCond .eq 11, 3) := by decide +kernel
theorem dX4_kinds_7 : decode cX4_kinds 7 = .ok (.aload_n 0, 1) := by decide +kernel
theorem dX4_kinds_8 : decode cX4_kinds 8 = .ok (.iload_n 1, 1) := by decide +kernel
theorem dX4_kinds_9 : decode cX4_kinds 9 = .ok (.invokevirtual 193, 3) := by decide +kernel
theorem dX4_kinds_12 : decode cX4_kinds 12 = .ok (.goto 4, 3) := by decide +kernel
theorem dX4_kinds_15 : decode cX4_kinds 15 = .ok (.iconst (-1), 1) := by decide +kernel
theorem dX4_kinds_16 : decode cX4_kinds 16 = .ok (.ireturn, 1) := by decide +kernel
theorem dX4_look_0 : decode cX4_look 0 = .ok (.iload_n 1, 1) := by decide +kernel
theorem dX4_look_1 : decode cX4_look 1 = .ok (.invokestatic 93, 3) := by decide +kernel
theorem dX4_look_4 : decode cX4_look 4 = .ok (.ifCond .eq 12, 3) := by decide +kernel
theorem dX4_look_7 : decode cX4_look 7 = .ok (.iload_n 2, 1) := by decide +kernel
theorem dX4_look_8 : decode cX4_look 8 = .ok (.ifCond .lt 8, 3) := by decide +kernel
theorem dX4_look_11 : decode cX4_look 11 = .ok (.iload_n 2, 1) := by decide +kernel
theorem dX4_look_12 : decode cX4_look 12 = .ok (.iconst 1, 1) := by decide +kernel
theorem dX4_look_13 : decode cX4_look 13 = .ok (.if_icmp .le 5, 3) := by decide +kernel
theorem dX4_look_16 : decode cX4_look 16 = .ok (.iconst (-1), 1) := by decide +kernel
theorem dX4_look_17 : decode cX4_look 17 = .ok (.ireturn, 1) := by decide +kernel
theorem dX4_look_18 : decode cX4_look 18 = .ok (.aload_n 0, 1) := by decide +kernel
theorem dX4_look_19 : decode cX4_look 19 = .ok (.iload_n 1, 1) := by decide +kernel
theorem dX4_look_20 : decode cX4_look 20 = .ok (.invokevirtual 193, 3) := by decide +kernel
theorem dX4_look_23 : decode cX4_look 23 = .ok (.istore_n 3, 1) := by decide +kernel
theorem dX4_look_24 : decode cX4_look 24 = .ok (.iload_n 3, 1) := by decide +kernel
theorem dX4_look_25 : decode cX4_look 25 = .ok (.invokestatic 196, 3) := by decide +kernel
theorem dX4_look_28 : decode cX4_look 28 = .ok (.iconst 1, 1) := by decide +kernel
theorem dX4_look_29 : decode cX4_look 29 = .ok (.if_icmp .gt 6, 3) := by decide +kernel
theorem dX4_look_32 : decode cX4_look 32 = .ok (.bipush (-4), 2) := by decide +kernel
theorem dX4_look_34 : decode cX4_look 34 = .ok (.ireturn, 1) := by decide +kernel
theorem dX4_look_35 : decode cX4_look 35 = .ok (.iconst 0, 1) := by decide +kernel
theorem dX4_look_36 : decode cX4_look 36 = .ok (.istore 4, 2) := by decide +kernel
theorem dX4_look_38 : decode cX4_look 38 = .ok (.bipush 7, 2) := by decide +kernel
theorem dX4_look_40 : decode cX4_look 40 = .ok (.istore 5, 2) := by decide +kernel
theorem dX4_look_42 : decode cX4_look 42 = .ok (.iconst 1, 1) := by decide +kernel
theorem dX4_look_43 : decode cX4_look 43 = .ok (.istore 6, 2) := by decide +kernel
theorem dX4_look_45 : decode cX4_look 45 = .ok (.iload 6, 2) := by decide +kernel
theorem dX4_look_47 : decode cX4_look 47 = .ok (.bipush 12, 2) := by decide +kernel
theorem dX4_look_49 : decode cX4_look 49 = .ok (.if_icmp .gt 34, 3) := by decide +kernel
theorem dX4_look_52 : decode cX4_look 52 = .ok (.aload_n 0, 1) := by decide +kernel
theorem dX4_look_53 : decode cX4_look 53 = .ok (.iload_n 1, 1) := by decide +kernel
theorem dX4_look_54 : decode cX4_look 54 = .ok (.iload_n 3, 1) := by decide +kernel
theorem dX4_look_55 : decode cX4_look 55 = .ok (.iload 6, 2) := by decide +kernel
theorem dX4_look_57 : decode cX4_look 57 = .ok (.invokevirtual 201, 3) := by decide +kernel
theorem dX4_look_60 : decode cX4_look 60 = .ok (.istore 7, 2) := by decide +kernel
theorem dX4_look_62 : decode cX4_look 62 = .ok (.iload 7, 2) := by decide +kernel
theorem dX4_look_64 : decode cX4_look 64 = .ok (.iload 5, 2) := by decide +kernel
theorem dX4_look_66 : decode cX4_look 66 = .ok (.if_icmp .ge 11, 3) := by decide +kernel
theorem dX4_look_69 : decode cX4_look 69 = .ok (.iload 7, 2) := by decide +kernel
theorem dX4_look_71 : decode cX4_look 71 = .ok (.istore 5, 2) := by decide +kernel
theorem dX4_look_73 : decode cX4_look 73 = .ok (.iload 6, 2) := by decide +kernel
theorem dX4_look_75 : decode cX4_look 75 = .ok (.istore 4, 2) := by decide +kernel
theorem dX4_look_77 : decode cX4_look 77 = .ok (.iinc 6 1, 3) := by decide +kernel
theorem dX4_look_80 : decode cX4_look 80 = .ok (.goto (-35), 3) := by decide +kernel
theorem dX4_look_83 : decode cX4_look 83 = .ok (.iload_n 2, 1) := by decide +kernel
theorem dX4_look_84 : decode cX4_look 84 = .ok (.ifCond .ne 8, 3) := by decide +kernel
theorem dX4_look_87 : decode cX4_look 87 = .ok (.iload 4, 2) := by decide +kernel
theorem dX4_look_89 : decode cX4_look 89 = .ok (.goto 5, 3) := by decide +kernel
theorem dX4_look_92 : decode cX4_look 92 = .ok (.iload 5, 2) := by decide +kernel
theorem dX4_look_94 : decode cX4_look 94 = .ok (.ireturn, 1) := by decide +kernel
theorem dX4_danced_0 : decode cX4_danced 0 = .ok (.iload_n 1, 1) := by decide +kernel
theorem dX4_danced_1 : decode cX4_danced 1 = .ok (.ifCond .lt 9, 3) := by decide +kernel
theorem dX4_danced_4 : decode cX4_danced 4 = .ok (.iload_n 1, 1) := by decide +kernel
theorem dX4_danced_5 : decode cX4_danced 5 = .ok (.bipush 7, 2) := by decide +kernel
theorem dX4_danced_7 : decode cX4_danced 7 = .ok (.if_icmp .le 5, 3) := by decide +kernel
theorem dX4_danced_10 : decode cX4_danced 10 = .ok (.iconst (-1), 1) := by decide +kernel
theorem dX4_danced_11 : decode cX4_danced 11 = .ok (.ireturn, 1) := by decide +kernel
theorem dX4_danced_12 : decode cX4_danced 12 = .ok (.aload_n 0, 1) := by decide +kernel
theorem dX4_danced_13 : decode cX4_danced 13 = .ok (.getfield 23, 3) := by decide +kernel
theorem dX4_danced_16 : decode cX4_danced 16 = .ok (.aload_n 0, 1) := by decide +kernel
theorem dX4_danced_17 : decode cX4_danced 17 = .ok (.getfield 19, 3) := by decide +kernel
theorem dX4_danced_20 : decode cX4_danced 20 = .ok (.getfield 205, 3) := by decide +kernel
theorem dX4_danced_23 : decode cX4_danced 23 = .ok (.invokevirtual 208, 3) := by decide +kernel
theorem dX4_danced_26 : decode cX4_danced 26 = .ok (.aload_n 0, 1) := by decide +kernel
theorem dX4_danced_27 : decode cX4_danced 27 = .ok (.getfield 41, 3) := by decide +kernel
theorem dX4_danced_30 : decode cX4_danced 30 = .ok (.aload_n 0, 1) := by decide +kernel
theorem dX4_danced_31 : decode cX4_danced 31 = .ok (.getfield 19, 3) := by decide +kernel
theorem dX4_danced_34 : decode cX4_danced 34 = .ok (.getfield 114, 3) := by decide +kernel
theorem dX4_danced_37 : decode cX4_danced 37 = .ok (.aload_n 0, 1) := by decide +kernel
theorem dX4_danced_38 : decode cX4_danced 38 = .ok (.getfield 19, 3) := by decide +kernel
theorem dX4_danced_41 : decode cX4_danced 41 = .ok (.getfield 117, 3) := by decide +kernel
theorem dX4_danced_44 : decode cX4_danced 44 = .ok (.invokevirtual 157, 3) := by decide +kernel
theorem dX4_danced_47 : decode cX4_danced 47 = .ok (.aload_n 0, 1) := by decide +kernel
theorem dX4_danced_48 : decode cX4_danced 48 = .ok (.getfield 41, 3) := by decide +kernel
theorem dX4_danced_51 : decode cX4_danced 51 = .ok (.aload_n 0, 1) := by decide +kernel
theorem dX4_danced_52 : decode cX4_danced 52 = .ok (.getfield 23, 3) := by decide +kernel
theorem dX4_danced_55 : decode cX4_danced 55 = .ok (.iconst 0, 1) := by decide +kernel
theorem dX4_danced_56 : decode cX4_danced 56 = .ok (.invokevirtual 169, 3) := by decide +kernel
theorem dX4_danced_59 : decode cX4_danced 59 = .ok (.aload_n 0, 1) := by decide +kernel
theorem dX4_danced_60 : decode cX4_danced 60 = .ok (.getfield 41, 3) := by decide +kernel
theorem dX4_danced_63 : decode cX4_danced 63 = .ok (.iconst 0, 1) := by decide +kernel
theorem dX4_danced_64 : decode cX4_danced 64 = .ok (.iload_n 1, 1) := by decide +kernel
theorem dX4_danced_65 : decode cX4_danced 65 = .ok (.invokestatic 173, 3) := by decide +kernel
theorem dX4_danced_68 : decode cX4_danced 68 = .ok (.ireturn, 1) := by decide +kernel
theorem dX4_duel_0 : decode cX4_duel 0 = .ok (.iload_n 1, 1) := by decide +kernel
theorem dX4_duel_1 : decode cX4_duel 1 = .ok (.ifCond .lt 8, 3) := by decide +kernel
theorem dX4_duel_4 : decode cX4_duel 4 = .ok (.iload_n 1, 1) := by decide +kernel
theorem dX4_duel_5 : decode cX4_duel 5 = .ok (.iconst 5, 1) := by decide +kernel
theorem dX4_duel_6 : decode cX4_duel 6 = .ok (.if_icmp .le 5, 3) := by decide +kernel
theorem dX4_duel_9 : decode cX4_duel 9 = .ok (.iconst (-1), 1) := by decide +kernel
theorem dX4_duel_10 : decode cX4_duel 10 = .ok (.ireturn, 1) := by decide +kernel
theorem dX4_duel_11 : decode cX4_duel 11 = .ok (.aload_n 0, 1) := by decide +kernel
theorem dX4_duel_12 : decode cX4_duel 12 = .ok (.getfield 41, 3) := by decide +kernel
theorem dX4_duel_15 : decode cX4_duel 15 = .ok (.aload_n 0, 1) := by decide +kernel
theorem dX4_duel_16 : decode cX4_duel 16 = .ok (.getfield 19, 3) := by decide +kernel
theorem dX4_duel_19 : decode cX4_duel 19 = .ok (.aload_n 0, 1) := by decide +kernel
theorem dX4_duel_20 : decode cX4_duel 20 = .ok (.getfield 96, 3) := by decide +kernel
theorem dX4_duel_23 : decode cX4_duel 23 = .ok (.invokevirtual 169, 3) := by decide +kernel
theorem dX4_duel_26 : decode cX4_duel 26 = .ok (.aload_n 0, 1) := by decide +kernel
theorem dX4_duel_27 : decode cX4_duel 27 = .ok (.getfield 41, 3) := by decide +kernel
theorem dX4_duel_30 : decode cX4_duel 30 = .ok (.iconst 0, 1) := by decide +kernel
theorem dX4_duel_31 : decode cX4_duel 31 = .ok (.iload_n 1, 1) := by decide +kernel
theorem dX4_duel_32 : decode cX4_duel 32 = .ok (.invokestatic 211, 3) := by decide +kernel
theorem dX4_duel_35 : decode cX4_duel 35 = .ok (.ireturn, 1) := by decide +kernel
theorem dX4_odds_0 : decode cX4_odds 0 = .ok (.iload_n 1, 1) := by decide +kernel
theorem dX4_odds_1 : decode cX4_odds 1 = .ok (.ifCond .lt 28, 3) := by decide +kernel
theorem dX4_odds_4 : decode cX4_odds 4 = .ok (.iload_n 1, 1) := by decide +kernel
theorem dX4_odds_5 : decode cX4_odds 5 = .ok (.bipush 7, 2) := by decide +kernel
theorem dX4_odds_7 : decode cX4_odds 7 = .ok (.if_icmp .gt 22, 3) := by decide +kernel
theorem dX4_odds_10 : decode cX4_odds 10 = .ok (.iload_n 2, 1) := by decide +kernel
theorem dX4_odds_11 : decode cX4_odds 11 = .ok (.ifCond .lt 18, 3) := by decide +kernel
theorem dX4_odds_14 : decode cX4_odds 14 = .ok (.iload_n 2, 1) := by decide +kernel
theorem dX4_odds_15 : decode cX4_odds 15 = .ok (.bipush 10, 2) := by decide +kernel
theorem dX4_odds_17 : decode cX4_odds 17 = .ok (.if_icmp .gt 12, 3) := by decide +kernel
theorem dX4_odds_20 : decode cX4_odds 20 = .ok (.iload_n 3, 1) := by decide +kernel
theorem dX4_odds_21 : decode cX4_odds 21 = .ok (.ifCond .lt 8, 3) := by decide +kernel
theorem dX4_odds_24 : decode cX4_odds 24 = .ok (.iload_n 3, 1) := by decide +kernel
theorem dX4_odds_25 : decode cX4_odds 25 = .ok (.iconst 1, 1) := by decide +kernel
theorem dX4_odds_26 : decode cX4_odds 26 = .ok (.if_icmp .le 5, 3) := by decide +kernel
theorem dX4_odds_29 : decode cX4_odds 29 = .ok (.iconst (-1), 1) := by decide +kernel
theorem dX4_odds_30 : decode cX4_odds 30 = .ok (.ireturn, 1) := by decide +kernel
theorem dX4_odds_31 : decode cX4_odds 31 = .ok (.iload_n 1, 1) := by decide +kernel
theorem dX4_odds_32 : decode cX4_odds 32 = .ok (.aload_n 0, 1) := by decide +kernel
theorem dX4_odds_33 : decode cX4_odds 33 = .ok (.getfield 90, 3) := by decide +kernel
theorem dX4_odds_36 : decode cX4_odds 36 = .ok (.invokestatic 214, 3) := by decide +kernel
theorem dX4_odds_39 : decode cX4_odds 39 = .ok (.istore 4, 2) := by decide +kernel
theorem dX4_odds_41 : decode cX4_odds 41 = .ok (.aload_n 0, 1) := by decide +kernel
theorem dX4_odds_42 : decode cX4_odds 42 = .ok (.getfield 41, 3) := by decide +kernel
theorem dX4_odds_45 : decode cX4_odds 45 = .ok (.iconst 0, 1) := by decide +kernel
theorem dX4_odds_46 : decode cX4_odds 46 = .ok (.iconst 1, 1) := by decide +kernel
theorem dX4_odds_47 : decode cX4_odds 47 = .ok (.invokevirtual 157, 3) := by decide +kernel
theorem dX4_odds_50 : decode cX4_odds 50 = .ok (.aload_n 0, 1) := by decide +kernel
theorem dX4_odds_51 : decode cX4_odds 51 = .ok (.getfield 41, 3) := by decide +kernel
theorem dX4_odds_54 : decode cX4_odds 54 = .ok (.aload_n 0, 1) := by decide +kernel
theorem dX4_odds_55 : decode cX4_odds 55 = .ok (.getfield 19, 3) := by decide +kernel
theorem dX4_odds_58 : decode cX4_odds 58 = .ok (.aload_n 0, 1) := by decide +kernel
theorem dX4_odds_59 : decode cX4_odds 59 = .ok (.getfield 96, 3) := by decide +kernel
theorem dX4_odds_62 : decode cX4_odds 62 = .ok (.invokevirtual 169, 3) := by decide +kernel
theorem dX4_odds_65 : decode cX4_odds 65 = .ok (.aload_n 0, 1) := by decide +kernel
theorem dX4_odds_66 : decode cX4_odds 66 = .ok (.getfield 41, 3) := by decide +kernel
theorem dX4_odds_69 : decode cX4_odds 69 = .ok (.iconst 0, 1) := by decide +kernel
theorem dX4_odds_70 : decode cX4_odds 70 = .ok (.iload 4, 2) := by decide +kernel
theorem dX4_odds_72 : decode cX4_odds 72 = .ok (.aload_n 0, 1) := by decide +kernel
theorem dX4_odds_73 : decode cX4_odds 73 = .ok (.getfield 120, 3) := by decide +kernel
theorem dX4_odds_76 : decode cX4_odds 76 = .ok (.iload_n 2, 1) := by decide +kernel
theorem dX4_odds_77 : decode cX4_odds 77 = .ok (.invokestatic 219, 3) := by decide +kernel
theorem dX4_odds_80 : decode cX4_odds 80 = .ok (.istore 5, 2) := by decide +kernel
theorem dX4_odds_82 : decode cX4_odds 82 = .ok (.iconst 1, 1) := by decide +kernel
theorem dX4_odds_83 : decode cX4_odds 83 = .ok (.istore 6, 2) := by decide +kernel
theorem dX4_odds_85 : decode cX4_odds 85 = .ok (.iconst 0, 1) := by decide +kernel
theorem dX4_odds_86 : decode cX4_odds 86 = .ok (.istore 7, 2) := by decide +kernel
theorem dX4_odds_88 : decode cX4_odds 88 = .ok (.iload 7, 2) := by decide +kernel
theorem dX4_odds_90 : decode cX4_odds 90 = .ok (.iload 4, 2) := by decide +kernel
theorem dX4_odds_92 : decode cX4_odds 92 = .ok (.if_icmp .ge 16, 3) := by decide +kernel
theorem dX4_odds_95 : decode cX4_odds 95 = .ok (.iload 6, 2) := by decide +kernel
theorem dX4_odds_97 : decode cX4_odds 97 = .ok (.bipush 10, 2) := by decide +kernel
theorem dX4_odds_99 : decode cX4_odds 99 = .ok (.imul, 1) := by decide +kernel
theorem dX4_odds_100 : decode cX4_odds 100 = .ok (.istore 6, 2) := by decide +kernel
theorem dX4_odds_102 : decode cX4_odds 102 = .ok (.iinc 7 1, 3) := by decide +kernel
theorem dX4_odds_105 : decode cX4_odds 105 = .ok (.goto (-17), 3) := by decide +kernel
theorem dX4_odds_108 : decode cX4_odds 108 = .ok (.iload 5, 2) := by decide +kernel
theorem dX4_odds_110 : decode cX4_odds 110 = .ok (.iload 6, 2) := by decide +kernel
theorem dX4_odds_112 : decode cX4_odds 112 = .ok (.invokestatic 223, 3) := by decide +kernel
theorem dX4_odds_115 : decode cX4_odds 115 = .ok (.istore 7, 2) := by decide +kernel
theorem dX4_odds_117 : decode cX4_odds 117 = .ok (.iload 7, 2) := by decide +kernel
theorem dX4_odds_119 : decode cX4_odds 119 = .ok (.ifCond .ne 5, 3) := by decide +kernel
theorem dX4_odds_122 : decode cX4_odds 122 = .ok (.iconst (-1), 1) := by decide +kernel
theorem dX4_odds_123 : decode cX4_odds 123 = .ok (.ireturn, 1) := by decide +kernel
theorem dX4_odds_124 : decode cX4_odds 124 = .ok (.iload_n 3, 1) := by decide +kernel
theorem dX4_odds_125 : decode cX4_odds 125 = .ok (.ifCond .ne 8, 3) := by decide +kernel
theorem dX4_odds_128 : decode cX4_odds 128 = .ok (.iload 5, 2) := by decide +kernel
theorem dX4_odds_130 : decode cX4_odds 130 = .ok (.goto 5, 3) := by decide +kernel
theorem dX4_odds_133 : decode cX4_odds 133 = .ok (.iload 6, 2) := by decide +kernel
theorem dX4_odds_135 : decode cX4_odds 135 = .ok (.iload 7, 2) := by decide +kernel
theorem dX4_odds_137 : decode cX4_odds 137 = .ok (.idiv, 1) := by decide +kernel
theorem dX4_odds_138 : decode cX4_odds 138 = .ok (.ireturn, 1) := by decide +kernel
theorem dX4_evening_0 : decode cX4_evening 0 = .ok (.iload_n 1, 1) := by decide +kernel
theorem dX4_evening_1 : decode cX4_evening 1 = .ok (.ifCond .lt 30, 3) := by decide +kernel
theorem dX4_evening_4 : decode cX4_evening 4 = .ok (.iload_n 1, 1) := by decide +kernel
theorem dX4_evening_5 : decode cX4_evening 5 = .ok (.sipush 9999, 3) := by decide +kernel
theorem dX4_evening_8 : decode cX4_evening 8 = .ok (.if_icmp .gt 23, 3) := by decide +kernel
theorem dX4_evening_11 : decode cX4_evening 11 = .ok (.iload_n 2, 1) := by decide +kernel
theorem dX4_evening_12 : decode cX4_evening 12 = .ok (.iconst 1, 1) := by decide +kernel
theorem dX4_evening_13 : decode cX4_evening 13 = .ok (.if_icmp .lt 18, 3) := by decide +kernel
theorem dX4_evening_16 : decode cX4_evening 16 = .ok (.iload_n 2, 1) := by decide +kernel
theorem dX4_evening_17 : decode cX4_evening 17 = .ok (.bipush 60, 2) := by decide +kernel
theorem dX4_evening_19 : decode cX4_evening 19 = .ok (.if_icmp .gt 12, 3) := by decide +kernel
theorem dX4_evening_22 : decode cX4_evening 22 = .ok (.iload_n 3, 1) := by decide +kernel
theorem dX4_evening_23 : decode cX4_evening 23 = .ok (.ifCond .lt 8, 3) := by decide +kernel
theorem dX4_evening_26 : decode cX4_evening 26 = .ok (.iload_n 3, 1) := by decide +kernel
theorem dX4_evening_27 : decode cX4_evening 27 = .ok (.iconst 2, 1) := by decide +kernel
theorem dX4_evening_28 : decode cX4_evening 28 = .ok (.if_icmp .le 5, 3) := by decide +kernel
theorem dX4_evening_31 : decode cX4_evening 31 = .ok (.iconst (-1), 1) := by decide +kernel
theorem dX4_evening_32 : decode cX4_evening 32 = .ok (.ireturn, 1) := by decide +kernel
theorem dX4_evening_33 : decode cX4_evening 33 = .ok (.aload_n 0, 1) := by decide +kernel
theorem dX4_evening_34 : decode cX4_evening 34 = .ok (.getfield 23, 3) := by decide +kernel
theorem dX4_evening_37 : decode cX4_evening 37 = .ok (.aload_n 0, 1) := by decide +kernel
theorem dX4_evening_38 : decode cX4_evening 38 = .ok (.getfield 19, 3) := by decide +kernel
theorem dX4_evening_41 : decode cX4_evening 41 = .ok (.invokevirtual 177, 3) := by decide +kernel
theorem dX4_evening_44 : decode cX4_evening 44 = .ok (.iconst 0, 1) := by decide +kernel
theorem dX4_evening_45 : decode cX4_evening 45 = .ok (.istore 4, 2) := by decide +kernel
theorem dX4_evening_47 : decode cX4_evening 47 = .ok (.iconst 0, 1) := by decide +kernel
theorem dX4_evening_48 : decode cX4_evening 48 = .ok (.istore 5, 2) := by decide +kernel
theorem dX4_evening_50 : decode cX4_evening 50 = .ok (.iconst 0, 1) := by decide +kernel
theorem dX4_evening_51 : decode cX4_evening 51 = .ok (.istore 6, 2) := by decide +kernel
theorem dX4_evening_53 : decode cX4_evening 53 = .ok (.iload 6, 2) := by decide +kernel
theorem dX4_evening_55 : decode cX4_evening 55 = .ok (.iload_n 2, 1) := by decide +kernel
theorem dX4_evening_56 : decode cX4_evening 56 = .ok (.if_icmp .ge 97, 3) := by decide +kernel
theorem dX4_evening_59 : decode cX4_evening 59 = .ok (.iload_n 1, 1) := by decide +kernel
theorem dX4_evening_60 : decode cX4_evening 60 = .ok (.iload 6, 2) := by decide +kernel
theorem dX4_evening_62 : decode cX4_evening 62 = .ok (.invokestatic 226, 3) := by decide +kernel
theorem dX4_evening_65 : decode cX4_evening 65 = .ok (.istore 7, 2) := by decide +kernel
theorem dX4_evening_67 : decode cX4_evening 67 = .ok (.aload_n 0, 1) := by decide +kernel
theorem dX4_evening_68 : decode cX4_evening 68 = .ok (.getfield 23, 3) := by decide +kernel
theorem dX4_evening_71 : decode cX4_evening 71 = .ok (.iload 7, 2) := by decide +kernel
theorem dX4_evening_73 : decode cX4_evening 73 = .ok (.iconst 4, 1) := by decide +kernel
theorem dX4_evening_74 : decode cX4_evening 74 = .ok (.irem, 1) := by decide +kernel
theorem dX4_evening_75 : decode cX4_evening 75 = .ok (.aload_n 0, 1) := by decide +kernel
theorem dX4_evening_76 : decode cX4_evening 76 = .ok (.getfield 96, 3) := by decide +kernel
theorem dX4_evening_79 : decode cX4_evening 79 = .ok (.invokevirtual 136, 3) := by decide +kernel
theorem dX4_evening_82 : decode cX4_evening 82 = .ok (.ifCond .ne 19, 3) := by decide +kernel
theorem dX4_evening_85 : decode cX4_evening 85 = .ok (.iinc 5 1, 3) := by decide +kernel
theorem dX4_evening_88 : decode cX4_evening 88 = .ok (.aload_n 0, 1) := by decide +kernel
theorem dX4_evening_89 : decode cX4_evening 89 = .ok (.getfield 23, 3) := by decide +kernel
theorem dX4_evening_92 : decode cX4_evening 92 = .ok (.iconst 3, 1) := by decide +kernel
theorem dX4_evening_93 : decode cX4_evening 93 = .ok (.aload_n 0, 1) := by decide +kernel
theorem dX4_evening_94 : decode cX4_evening 94 = .ok (.getfield 96, 3) := by decide +kernel
theorem dX4_evening_97 : decode cX4_evening 97 = .ok (.invokevirtual 136, 3) := by decide +kernel
theorem dX4_evening_100 : decode cX4_evening 100 = .ok (.pop, 1) := by decide +kernel
theorem dX4_evening_101 : decode cX4_evening 101 = .ok (.iload 7, 2) := by decide +kernel
theorem dX4_evening_103 : decode cX4_evening 103 = .ok (.iconst 4, 1) := by decide +kernel
theorem dX4_evening_104 : decode cX4_evening 104 = .ok (.idiv, 1) := by decide +kernel
theorem dX4_evening_105 : decode cX4_evening 105 = .ok (.bipush 8, 2) := by decide +kernel
theorem dX4_evening_107 : decode cX4_evening 107 = .ok (.irem, 1) := by decide +kernel
theorem dX4_evening_108 : decode cX4_evening 108 = .ok (.ifCond .ne 26, 3) := by decide +kernel
theorem dX4_evening_111 : decode cX4_evening 111 = .ok (.aload_n 0, 1) := by decide +kernel
theorem dX4_evening_112 : decode cX4_evening 112 = .ok (.getfield 23, 3) := by decide +kernel
theorem dX4_evening_115 : decode cX4_evening 115 = .ok (.aload_n 0, 1) := by decide +kernel
theorem dX4_evening_116 : decode cX4_evening 116 = .ok (.getfield 23, 3) := by decide +kernel
theorem dX4_evening_119 : decode cX4_evening 119 = .ok (.iconst 0, 1) := by decide +kernel
theorem dX4_evening_120 : decode cX4_evening 120 = .ok (.invokevirtual 110, 3) := by decide +kernel
theorem dX4_evening_123 : decode cX4_evening 123 = .ok (.aload_n 0, 1) := by decide +kernel
theorem dX4_evening_124 : decode cX4_evening 124 = .ok (.getfield 23, 3) := by decide +kernel
theorem dX4_evening_127 : decode cX4_evening 127 = .ok (.iconst 2, 1) := by decide +kernel
theorem dX4_evening_128 : decode cX4_evening 128 = .ok (.invokevirtual 110, 3) := by decide +kernel
theorem dX4_evening_131 : decode cX4_evening 131 = .ok (.invokevirtual 143, 3) := by decide +kernel
theorem dX4_evening_134 : decode cX4_evening 134 = .ok (.aload_n 0, 1) := by decide +kernel
theorem dX4_evening_135 : decode cX4_evening 135 = .ok (.getfield 23, 3) := by decide +kernel
theorem dX4_evening_138 : decode cX4_evening 138 = .ok (.getfield 114, 3) := by decide +kernel
theorem dX4_evening_141 : decode cX4_evening 141 = .ok (.ifCond .ne 6, 3) := by decide +kernel
theorem dX4_evening_144 : decode cX4_evening 144 = .ok (.iinc 4 1, 3) := by decide +kernel
theorem dX4_evening_147 : decode cX4_evening 147 = .ok (.iinc 6 1, 3) := by decide +kernel
theorem dX4_evening_150 : decode cX4_evening 150 = .ok (.goto (-97), 3) := by decide +kernel
theorem dX4_evening_153 : decode cX4_evening 153 = .ok (.iload_n 3, 1) := by decide +kernel
theorem dX4_evening_154 : decode cX4_evening 154 = .ok (.ifCond .ne 6, 3) := by decide +kernel
theorem dX4_evening_157 : decode cX4_evening 157 = .ok (.iload 4, 2) := by decide +kernel
theorem dX4_evening_159 : decode cX4_evening 159 = .ok (.ireturn, 1) := by decide +kernel
theorem dX4_evening_160 : decode cX4_evening 160 = .ok (.iload_n 3, 1) := by decide +kernel
theorem dX4_evening_161 : decode cX4_evening 161 = .ok (.iconst 1, 1) := by decide +kernel
theorem dX4_evening_162 : decode cX4_evening 162 = .ok (.if_icmp .ne 8, 3) := by decide +kernel
theorem dX4_evening_165 : decode cX4_evening 165 = .ok (.iload 5, 2) := by decide +kernel
theorem dX4_evening_167 : decode cX4_evening 167 = .ok (.goto 11, 3) := by decide +kernel
theorem dX4_evening_170 : decode cX4_evening 170 = .ok (.aload_n 0, 1) := by decide +kernel
theorem dX4_evening_171 : decode cX4_evening 171 = .ok (.getfield 23, 3) := by decide +kernel
theorem dX4_evening_174 : decode cX4_evening 174 = .ok (.iconst 0, 1) := by decide +kernel
theorem dX4_evening_175 : decode cX4_evening 175 = .ok (.invokevirtual 110, 3) := by decide +kernel
theorem dX4_evening_178 : decode cX4_evening 178 = .ok (.ireturn, 1) := by decide +kernel
theorem dX4_keep_0 : decode cX4_keep 0 = .ok (.aload_n 0, 1) := by decide +kernel
theorem dX4_keep_1 : decode cX4_keep 1 = .ok (.getfield 35, 3) := by decide +kernel
theorem dX4_keep_4 : decode cX4_keep 4 = .ok (.invokevirtual 229, 3) := by decide +kernel
theorem dX4_keep_7 : decode cX4_keep 7 = .ok (.ifCond .eq 6, 3) := by decide +kernel
theorem dX4_keep_10 : decode cX4_keep 10 = .ok (.bipush (-3), 2) := by decide +kernel
theorem dX4_keep_12 : decode cX4_keep 12 = .ok (.ireturn, 1) := by decide +kernel
theorem dX4_keep_13 : decode cX4_keep 13 = .ok (.aload_n 0, 1) := by decide +kernel
theorem dX4_keep_14 : decode cX4_keep 14 = .ok (.getfield 35, 3) := by decide +kernel
theorem dX4_keep_17 : decode cX4_keep 17 = .ok (.aload_n 0, 1) := by decide +kernel
theorem dX4_keep_18 : decode cX4_keep 18 = .ok (.getfield 19, 3) := by decide +kernel
theorem dX4_keep_21 : decode cX4_keep 21 = .ok (.invokevirtual 132, 3) := by decide +kernel
theorem dX4_keep_24 : decode cX4_keep 24 = .ok (.aload_n 0, 1) := by decide +kernel
theorem dX4_keep_25 : decode cX4_keep 25 = .ok (.getfield 35, 3) := by decide +kernel
theorem dX4_keep_28 : decode cX4_keep 28 = .ok (.getfield 151, 3) := by decide +kernel
theorem dX4_keep_31 : decode cX4_keep 31 = .ok (.ireturn, 1) := by decide +kernel
theorem dX4_back_0 : decode cX4_back 0 = .ok (.aload_n 0, 1) := by decide +kernel
theorem dX4_back_1 : decode cX4_back 1 = .ok (.getfield 35, 3) := by decide +kernel
theorem dX4_back_4 : decode cX4_back 4 = .ok (.aload_n 0, 1) := by decide +kernel
theorem dX4_back_5 : decode cX4_back 5 = .ok (.getfield 19, 3) := by decide +kernel
theorem dX4_back_8 : decode cX4_back 8 = .ok (.invokevirtual 147, 3) := by decide +kernel
theorem dX4_back_11 : decode cX4_back 11 = .ok (.ifCond .ne 6, 3) := by decide +kernel
theorem dX4_back_14 : decode cX4_back 14 = .ok (.bipush (-2), 2) := by decide +kernel
theorem dX4_back_16 : decode cX4_back 16 = .ok (.ireturn, 1) := by decide +kernel
theorem dX4_back_17 : decode cX4_back 17 = .ok (.aload_n 0, 1) := by decide +kernel
theorem dX4_back_18 : decode cX4_back 18 = .ok (.getfield 31, 3) := by decide +kernel
theorem dX4_back_21 : decode cX4_back 21 = .ok (.invokevirtual 232, 3) := by decide +kernel
theorem dX4_back_24 : decode cX4_back 24 = .ok (.aload_n 0, 1) := by decide +kernel
theorem dX4_back_25 : decode cX4_back 25 = .ok (.getfield 35, 3) := by decide +kernel
theorem dX4_back_28 : decode cX4_back 28 = .ok (.getfield 151, 3) := by decide +kernel
theorem dX4_back_31 : decode cX4_back 31 = .ok (.ireturn, 1) := by decide +kernel
theorem dX4_count_0 : decode cX4_count 0 = .ok (.iload_n 1, 1) := by decide +kernel
theorem dX4_count_1 : decode cX4_count 1 = .ok (.tableswitch 107 0 6 #[43, 48, 56, 78, 86, 94, 99], 43) := by decide +kernel
theorem dX4_count_44 : decode cX4_count 44 = .ok (.aload_n 0, 1) := by decide +kernel
theorem dX4_count_45 : decode cX4_count 45 = .ok (.getfield 90, 3) := by decide +kernel
theorem dX4_count_48 : decode cX4_count 48 = .ok (.ireturn, 1) := by decide +kernel
theorem dX4_count_49 : decode cX4_count 49 = .ok (.aload_n 0, 1) := by decide +kernel
theorem dX4_count_50 : decode cX4_count 50 = .ok (.getfield 19, 3) := by decide +kernel
theorem dX4_count_53 : decode cX4_count 53 = .ok (.getfield 183, 3) := by decide +kernel
theorem dX4_count_56 : decode cX4_count 56 = .ok (.ireturn, 1) := by decide +kernel
theorem dX4_count_57 : decode cX4_count 57 = .ok (.aload_n 0, 1) := by decide +kernel
theorem dX4_count_58 : decode cX4_count 58 = .ok (.getfield 19, 3) := by decide +kernel
theorem dX4_count_61 : decode cX4_count 61 = .ok (.getfield 233, 3) := by decide +kernel
theorem dX4_count_64 : decode cX4_count 64 = .ok (.ifCond .ge 7, 3) := by decide +kernel
theorem dX4_count_67 : decode cX4_count 67 = .ok (.iconst 2, 1) := by decide +kernel
theorem dX4_count_68 : decode cX4_count 68 = .ok (.goto 10, 3) := by decide +kernel
theorem dX4_count_71 : decode cX4_count 71 = .ok (.aload_n 0, 1) := by decide +kernel
theorem dX4_count_72 : decode cX4_count 72 = .ok (.getfield 19, 3) := by decide +kernel
theorem dX4_count_75 : decode cX4_count 75 = .ok (.getfield 233, 3) := by decide +kernel
theorem dX4_count_78 : decode cX4_count 78 = .ok (.ireturn, 1) := by decide +kernel
theorem dX4_count_79 : decode cX4_count 79 = .ok (.aload_n 0, 1) := by decide +kernel
theorem dX4_count_80 : decode cX4_count 80 = .ok (.getfield 31, 3) := by decide +kernel
theorem dX4_count_83 : decode cX4_count 83 = .ok (.getfield 151, 3) := by decide +kernel
theorem dX4_count_86 : decode cX4_count 86 = .ok (.ireturn, 1) := by decide +kernel
theorem dX4_count_87 : decode cX4_count 87 = .ok (.aload_n 0, 1) := by decide +kernel
theorem dX4_count_88 : decode cX4_count 88 = .ok (.getfield 35, 3) := by decide +kernel
theorem dX4_count_91 : decode cX4_count 91 = .ok (.getfield 151, 3) := by decide +kernel
theorem dX4_count_94 : decode cX4_count 94 = .ok (.ireturn, 1) := by decide +kernel
theorem dX4_count_95 : decode cX4_count 95 = .ok (.aload_n 0, 1) := by decide +kernel
theorem dX4_count_96 : decode cX4_count 96 = .ok (.getfield 190, 3) := by decide +kernel
theorem dX4_count_99 : decode cX4_count 99 = .ok (.ireturn, 1) := by decide +kernel
theorem dX4_count_100 : decode cX4_count 100 = .ok (.aload_n 0, 1) := by decide +kernel
theorem dX4_count_101 : decode cX4_count 101 = .ok (.getfield 10, 3) := by decide +kernel
theorem dX4_count_104 : decode cX4_count 104 = .ok (.getfield 84, 3) := by decide +kernel
theorem dX4_count_107 : decode cX4_count 107 = .ok (.ireturn, 1) := by decide +kernel
theorem dX4_count_108 : decode cX4_count 108 = .ok (.iconst (-1), 1) := by decide +kernel
theorem dX4_count_109 : decode cX4_count 109 = .ok (.ireturn, 1) := by decide +kernel
theorem dX4_takeScript_0 : decode cX4_takeScript 0 = .ok (.aload_n 0, 1) := by decide +kernel
theorem dX4_takeScript_1 : decode cX4_takeScript 1 = .ok (.aload_n 0, 1) := by decide +kernel
theorem dX4_takeScript_2 : decode cX4_takeScript 2 = .ok (.getfield 10, 3) := by decide +kernel
theorem dX4_takeScript_5 : decode cX4_takeScript 5 = .ok (.getfield 236, 3) := by decide +kernel
theorem dX4_takeScript_8 : decode cX4_takeScript 8 = .ok (.putfield 96, 3) := by decide +kernel
theorem dX4_takeScript_11 : decode cX4_takeScript 11 = .ok (.aload_n 0, 1) := by decide +kernel
theorem dX4_takeScript_12 : decode cX4_takeScript 12 = .ok (.aload_n 0, 1) := by decide +kernel
theorem dX4_takeScript_13 : decode cX4_takeScript 13 = .ok (.getfield 10, 3) := by decide +kernel
theorem dX4_takeScript_16 : decode cX4_takeScript 16 = .ok (.getfield 239, 3) := by decide +kernel
theorem dX4_takeScript_19 : decode cX4_takeScript 19 = .ok (.putfield 120, 3) := by decide +kernel
theorem dX4_takeScript_22 : decode cX4_takeScript 22 = .ok (.aload_n 0, 1) := by decide +kernel
theorem dX4_takeScript_23 : decode cX4_takeScript 23 = .ok (.aload_n 0, 1) := by decide +kernel
theorem dX4_takeScript_24 : decode cX4_takeScript 24 = .ok (.getfield 10, 3) := by decide +kernel
theorem dX4_takeScript_27 : decode cX4_takeScript 27 = .ok (.getfield 242, 3) := by decide +kernel
theorem dX4_takeScript_30 : decode cX4_takeScript 30 = .ok (.putfield 90, 3) := by decide +kernel
theorem dX4_takeScript_33 : decode cX4_takeScript 33 = .ok (.aload_n 0, 1) := by decide +kernel
theorem dX4_takeScript_34 : decode cX4_takeScript 34 = .ok (.getfield 19, 3) := by decide +kernel
theorem dX4_takeScript_37 : decode cX4_takeScript 37 = .ok (.aload_n 0, 1) := by decide +kernel
theorem dX4_takeScript_38 : decode cX4_takeScript 38 = .ok (.getfield 10, 3) := by decide +kernel
theorem dX4_takeScript_41 : decode cX4_takeScript 41 = .ok (.invokevirtual 243, 3) := by decide +kernel
theorem dX4_takeScript_44 : decode cX4_takeScript 44 = .ok (.invokevirtual 208, 3) := by decide +kernel
theorem dX4_takeScript_47 : decode cX4_takeScript 47 = .ok (.aload_n 0, 1) := by decide +kernel
theorem dX4_takeScript_48 : decode cX4_takeScript 48 = .ok (.iconst 0, 1) := by decide +kernel
theorem dX4_takeScript_49 : decode cX4_takeScript 49 = .ok (.putfield 190, 3) := by decide +kernel
theorem dX4_takeScript_52 : decode cX4_takeScript 52 = .ok (.aload_n 0, 1) := by decide +kernel
theorem dX4_takeScript_53 : decode cX4_takeScript 53 = .ok (.getfield 31, 3) := by decide +kernel
theorem dX4_takeScript_56 : decode cX4_takeScript 56 = .ok (.invokevirtual 232, 3) := by decide +kernel
theorem dX4_takeScript_59 : decode cX4_takeScript 59 = .ok (.aload_n 0, 1) := by decide +kernel
theorem dX4_takeScript_60 : decode cX4_takeScript 60 = .ok (.getfield 35, 3) := by decide +kernel
theorem dX4_takeScript_63 : decode cX4_takeScript 63 = .ok (.invokevirtual 232, 3) := by decide +kernel
theorem dX4_takeScript_66 : decode cX4_takeScript 66 = .ok (.return_, 1) := by decide +kernel
theorem dX4_figureOfFewest_0 : decode cX4_figureOfFewest 0 = .ok (.aload_n 0, 1) := by decide +kernel
theorem dX4_figureOfFewest_1 : decode cX4_figureOfFewest 1 = .ok (.getfield 41, 3) := by decide +kernel
theorem dX4_figureOfFewest_4 : decode cX4_figureOfFewest 4 = .ok (.aload_n 0, 1) := by decide +kernel
theorem dX4_figureOfFewest_5 : decode cX4_figureOfFewest 5 = .ok (.getfield 19, 3) := by decide +kernel
theorem dX4_figureOfFewest_8 : decode cX4_figureOfFewest 8 = .ok (.aload_n 0, 1) := by decide +kernel
theorem dX4_figureOfFewest_9 : decode cX4_figureOfFewest 9 = .ok (.getfield 96, 3) := by decide +kernel
theorem dX4_figureOfFewest_12 : decode cX4_figureOfFewest 12 = .ok (.invokevirtual 169, 3) := by decide +kernel
theorem dX4_figureOfFewest_15 : decode cX4_figureOfFewest 15 = .ok (.aload_n 0, 1) := by decide +kernel
theorem dX4_figureOfFewest_16 : decode cX4_figureOfFewest 16 = .ok (.getfield 41, 3) := by decide +kernel
theorem dX4_figureOfFewest_19 : decode cX4_figureOfFewest 19 = .ok (.iconst 0, 1) := by decide +kernel
theorem dX4_figureOfFewest_20 : decode cX4_figureOfFewest 20 = .ok (.iconst 0, 1) := by decide +kernel
theorem dX4_figureOfFewest_21 : decode cX4_figureOfFewest 21 = .ok (.invokestatic 246, 3) := by decide +kernel
theorem dX4_figureOfFewest_24 : decode cX4_figureOfFewest 24 = .ok (.aload_n 0, 1) := by decide +kernel
theorem dX4_figureOfFewest_25 : decode cX4_figureOfFewest 25 = .ok (.getfield 41, 3) := by decide +kernel
theorem dX4_figureOfFewest_28 : decode cX4_figureOfFewest 28 = .ok (.invokevirtual 250, 3) := by decide +kernel
theorem dX4_figureOfFewest_31 : decode cX4_figureOfFewest 31 = .ok (.ifCond .eq 14, 3) := by decide +kernel
theorem dX4_figureOfFewest_34 : decode cX4_figureOfFewest 34 = .ok (.iload_n 1, 1) := by decide +kernel
theorem dX4_figureOfFewest_35 : decode cX4_figureOfFewest 35 = .ok (.aload_n 0, 1) := by decide +kernel
theorem dX4_figureOfFewest_36 : decode cX4_figureOfFewest 36 = .ok (.getfield 41, 3) := by decide +kernel
theorem dX4_figureOfFewest_39 : decode cX4_figureOfFewest 39 = .ok (.getfield 253, 3) := by decide +kernel
theorem dX4_figureOfFewest_42 : decode cX4_figureOfFewest 42 = .ok (.if_icmp .lt 6, 3) := by decide +kernel
theorem dX4_figureOfFewest_45 : decode cX4_figureOfFewest 45 = .ok (.bipush (-4), 2) := by decide +kernel
theorem dX4_figureOfFewest_47 : decode cX4_figureOfFewest 47 = .ok (.ireturn, 1) := by decide +kernel
theorem dX4_figureOfFewest_48 : decode cX4_figureOfFewest 48 = .ok (.iload_n 1, 1) := by decide +kernel
theorem dX4_figureOfFewest_49 : decode cX4_figureOfFewest 49 = .ok (.ifCond .ge 13, 3) := by decide +kernel
theorem dX4_figureOfFewest_52 : decode cX4_figureOfFewest 52 = .ok (.aload_n 0, 1) := by decide +kernel
theorem dX4_figureOfFewest_53 : decode cX4_figureOfFewest 53 = .ok (.getfield 41, 3) := by decide +kernel
theorem dX4_figureOfFewest_56 : decode cX4_figureOfFewest 56 = .ok (.getfield 253, 3) := by decide +kernel
theorem dX4_figureOfFewest_59 : decode cX4_figureOfFewest 59 = .ok (.goto 14, 3) := by decide +kernel
theorem dX4_figureOfFewest_62 : decode cX4_figureOfFewest 62 = .ok (.aload_n 0, 1) := by decide +kernel
theorem dX4_figureOfFewest_63 : decode cX4_figureOfFewest 63 = .ok (.getfield 41, 3) := by decide +kernel
theorem dX4_figureOfFewest_66 : decode cX4_figureOfFewest 66 = .ok (.getfield 256, 3) := by decide +kernel
theorem dX4_figureOfFewest_69 : decode cX4_figureOfFewest 69 = .ok (.iload_n 1, 1) := by decide +kernel
theorem dX4_figureOfFewest_70 : decode cX4_figureOfFewest 70 = .ok (.invokestatic 123, 3) := by decide +kernel
theorem dX4_figureOfFewest_73 : decode cX4_figureOfFewest 73 = .ok (.ireturn, 1) := by decide +kernel
theorem dX4_tryRow_0 : decode cX4_tryRow 0 = .ok (.aload_n 0, 1) := by decide +kernel
theorem dX4_tryRow_1 : decode cX4_tryRow 1 = .ok (.getfield 23, 3) := by decide +kernel
theorem dX4_tryRow_4 : decode cX4_tryRow 4 = .ok (.aload_n 0, 1) := by decide +kernel
theorem dX4_tryRow_5 : decode cX4_tryRow 5 = .ok (.getfield 19, 3) := by decide +kernel
theorem dX4_tryRow_8 : decode cX4_tryRow 8 = .ok (.invokevirtual 177, 3) := by decide +kernel
theorem dX4_tryRow_11 : decode cX4_tryRow 11 = .ok (.iload_n 1, 1) := by decide +kernel
theorem dX4_tryRow_12 : decode cX4_tryRow 12 = .ok (.aload_n 0, 1) := by decide +kernel
theorem dX4_tryRow_13 : decode cX4_tryRow 13 = .ok (.getfield 90, 3) := by decide +kernel
theorem dX4_tryRow_16 : decode cX4_tryRow 16 = .ok (.invokestatic 214, 3) := by decide +kernel
theorem dX4_tryRow_19 : decode cX4_tryRow 19 = .ok (.istore_n 3, 1) := by decide +kernel
theorem dX4_tryRow_20 : decode cX4_tryRow 20 = .ok (.iconst 0, 1) := by decide +kernel
theorem dX4_tryRow_21 : decode cX4_tryRow 21 = .ok (.istore 4, 2) := by decide +kernel
theorem dX4_tryRow_23 : decode cX4_tryRow 23 = .ok (.iload 4, 2) := by decide +kernel
theorem dX4_tryRow_25 : decode cX4_tryRow 25 = .ok (.iload_n 3, 1) := by decide +kernel
theorem dX4_tryRow_26 : decode cX4_tryRow 26 = .ok (.if_icmp .ge 31, 3) := by decide +kernel
theorem dX4_tryRow_29 : decode cX4_tryRow 29 = .ok (.aload_n 0, 1) := by decide +kernel
theorem dX4_tryRow_30 : decode cX4_tryRow 30 = .ok (.getfield 23, 3) := by decide +kernel
theorem dX4_tryRow_33 : decode cX4_tryRow 33 = .ok (.aload_n 0, 1) := by decide +kernel
theorem dX4_tryRow_34 : decode cX4_tryRow 34 = .ok (.getfield 120, 3) := by decide +kernel
theorem dX4_tryRow_37 : decode cX4_tryRow 37 = .ok (.iload 4, 2) := by decide +kernel
theorem dX4_tryRow_39 : decode cX4_tryRow 39 = .ok (.invokestatic 123, 3) := by decide +kernel
theorem dX4_tryRow_42 : decode cX4_tryRow 42 = .ok (.iload_n 2, 1) := by decide +kernel
theorem dX4_tryRow_43 : decode cX4_tryRow 43 = .ok (.invokevirtual 136, 3) := by decide +kernel
theorem dX4_tryRow_46 : decode cX4_tryRow 46 = .ok (.ifCond .ne 5, 3) := by decide +kernel
theorem dX4_tryRow_49 : decode cX4_tryRow 49 = .ok (.iconst 0, 1) := by decide +kernel
theorem dX4_tryRow_50 : decode cX4_tryRow 50 = .ok (.ireturn, 1) := by decide +kernel
theorem dX4_tryRow_51 : decode cX4_tryRow 51 = .ok (.iinc 4 1, 3) := by decide +kernel
theorem dX4_tryRow_54 : decode cX4_tryRow 54 = .ok (.goto (-31), 3) := by decide +kernel
theorem dX4_tryRow_57 : decode cX4_tryRow 57 = .ok (.iconst 1, 1) := by decide +kernel
theorem dX4_tryRow_58 : decode cX4_tryRow 58 = .ok (.ireturn, 1) := by decide +kernel
theorem dX4_possibleKinds_0 : decode cX4_possibleKinds 0 = .ok (.iconst 0, 1) := by decide +kernel
theorem dX4_possibleKinds_1 : decode cX4_possibleKinds 1 = .ok (.istore_n 2, 1) := by decide +kernel
theorem dX4_possibleKinds_2 : decode cX4_possibleKinds 2 = .ok (.iconst 0, 1) := by decide +kernel
theorem dX4_possibleKinds_3 : decode cX4_possibleKinds 3 = .ok (.istore_n 3, 1) := by decide +kernel
theorem dX4_possibleKinds_4 : decode cX4_possibleKinds 4 = .ok (.iload_n 3, 1) := by decide +kernel
theorem dX4_possibleKinds_5 : decode cX4_possibleKinds 5 = .ok (.bipush 6, 2) := by decide +kernel
theorem dX4_possibleKinds_7 : decode cX4_possibleKinds 7 = .ok (.if_icmp .ge 31, 3) := by decide +kernel
theorem dX4_possibleKinds_10 : decode cX4_possibleKinds 10 = .ok (.aload_n 0, 1) := by decide +kernel
theorem dX4_possibleKinds_11 : decode cX4_possibleKinds 11 = .ok (.aload_n 0, 1) := by decide +kernel
theorem dX4_possibleKinds_12 : decode cX4_possibleKinds 12 = .ok (.getfield 96, 3) := by decide +kernel
theorem dX4_possibleKinds_15 : decode cX4_possibleKinds 15 = .ok (.iload_n 1, 1) := by decide +kernel
theorem dX4_possibleKinds_16 : decode cX4_possibleKinds 16 = .ok (.iload_n 3, 1) := by decide +kernel
theorem dX4_possibleKinds_17 : decode cX4_possibleKinds 17 = .ok (.invokestatic 259, 3) := by decide +kernel
theorem dX4_possibleKinds_20 : decode cX4_possibleKinds 20 = .ok (.invokevirtual 262, 3) := by decide +kernel
theorem dX4_possibleKinds_23 : decode cX4_possibleKinds 23 = .ok (.ifCond .eq 9, 3) := by decide +kernel
theorem dX4_possibleKinds_26 : decode cX4_possibleKinds 26 = .ok (.iload_n 2, 1) := by decide +kernel
theorem dX4_possibleKinds_27 : decode cX4_possibleKinds 27 = .ok (.iconst 1, 1) := by decide +kernel
theorem dX4_possibleKinds_28 : decode cX4_possibleKinds 28 = .ok (.iload_n 3, 1) := by decide +kernel
theorem dX4_possibleKinds_29 : decode cX4_possibleKinds 29 = .ok (.ishl, 1) := by decide +kernel
theorem dX4_possibleKinds_30 : decode cX4_possibleKinds 30 = .ok (.ior, 1) := by decide +kernel
theorem dX4_possibleKinds_31 : decode cX4_possibleKinds 31 = .ok (.istore_n 2, 1) := by decide +kernel
theorem dX4_possibleKinds_32 : decode cX4_possibleKinds 32 = .ok (.iinc 3 1, 3) := by decide +kernel
theorem dX4_possibleKinds_35 : decode cX4_possibleKinds 35 = .ok (.goto (-31), 3) := by decide +kernel
theorem dX4_possibleKinds_38 : decode cX4_possibleKinds 38 = .ok (.iload_n 2, 1) := by decide +kernel
theorem dX4_possibleKinds_39 : decode cX4_possibleKinds 39 = .ok (.ireturn, 1) := by decide +kernel
theorem dX4_explainsSeen_0 : decode cX4_explainsSeen 0 = .ok (.iconst 0, 1) := by decide +kernel
theorem dX4_explainsSeen_1 : decode cX4_explainsSeen 1 = .ok (.istore_n 2, 1) := by decide +kernel
theorem dX4_explainsSeen_2 : decode cX4_explainsSeen 2 = .ok (.iload_n 2, 1) := by decide +kernel
theorem dX4_explainsSeen_3 : decode cX4_explainsSeen 3 = .ok (.aload_n 0, 1) := by decide +kernel
theorem dX4_explainsSeen_4 : decode cX4_explainsSeen 4 = .ok (.getfield 190, 3) := by decide +kernel
theorem dX4_explainsSeen_7 : decode cX4_explainsSeen 7 = .ok (.if_icmp .ge 53, 3) := by decide +kernel
theorem dX4_explainsSeen_10 : decode cX4_explainsSeen 10 = .ok (.iload_n 2, 1) := by decide +kernel
theorem dX4_explainsSeen_11 : decode cX4_explainsSeen 11 = .ok (.bipush 6, 2) := by decide +kernel
theorem dX4_explainsSeen_13 : decode cX4_explainsSeen 13 = .ok (.if_icmp .ge 47, 3) := by decide +kernel
theorem dX4_explainsSeen_16 : decode cX4_explainsSeen 16 = .ok (.aload_n 0, 1) := by decide +kernel
theorem dX4_explainsSeen_17 : decode cX4_explainsSeen 17 = .ok (.aload_n 0, 1) := by decide +kernel
theorem dX4_explainsSeen_18 : decode cX4_explainsSeen 18 = .ok (.getfield 45, 3) := by decide +kernel
theorem dX4_explainsSeen_21 : decode cX4_explainsSeen 21 = .ok (.iload_n 2, 1) := by decide +kernel
theorem dX4_explainsSeen_22 : decode cX4_explainsSeen 22 = .ok (.iaload, 1) := by decide +kernel
theorem dX4_explainsSeen_23 : decode cX4_explainsSeen 23 = .ok (.iload_n 1, 1) := by decide +kernel
theorem dX4_explainsSeen_24 : decode cX4_explainsSeen 24 = .ok (.invokevirtual 180, 3) := by decide +kernel
theorem dX4_explainsSeen_27 : decode cX4_explainsSeen 27 = .ok (.ifCond .eq 25, 3) := by decide +kernel
theorem dX4_explainsSeen_30 : decode cX4_explainsSeen 30 = .ok (.aload_n 0, 1) := by decide +kernel
theorem dX4_explainsSeen_31 : decode cX4_explainsSeen 31 = .ok (.getfield 23, 3) := by decide +kernel
theorem dX4_explainsSeen_34 : decode cX4_explainsSeen 34 = .ok (.aload_n 0, 1) := by decide +kernel
theorem dX4_explainsSeen_35 : decode cX4_explainsSeen 35 = .ok (.getfield 49, 3) := by decide +kernel
theorem dX4_explainsSeen_38 : decode cX4_explainsSeen 38 = .ok (.iload_n 2, 1) := by decide +kernel
theorem dX4_explainsSeen_39 : decode cX4_explainsSeen 39 = .ok (.iaload, 1) := by decide +kernel
theorem dX4_explainsSeen_40 : decode cX4_explainsSeen 40 = .ok (.aload_n 0, 1) := by decide +kernel
theorem dX4_explainsSeen_41 : decode cX4_explainsSeen 41 = .ok (.getfield 52, 3) := by decide +kernel
theorem dX4_explainsSeen_44 : decode cX4_explainsSeen 44 = .ok (.iload_n 2, 1) := by decide +kernel
theorem dX4_explainsSeen_45 : decode cX4_explainsSeen 45 = .ok (.iaload, 1) := by decide +kernel
theorem dX4_explainsSeen_46 : decode cX4_explainsSeen 46 = .ok (.invokevirtual 265, 3) := by decide +kernel
theorem dX4_explainsSeen_49 : decode cX4_explainsSeen 49 = .ok (.ifCond .ne 5, 3) := by decide +kernel
theorem dX4_explainsSeen_52 : decode cX4_explainsSeen 52 = .ok (.iconst 0, 1) := by decide +kernel
theorem dX4_explainsSeen_53 : decode cX4_explainsSeen 53 = .ok (.ireturn, 1) := by decide +kernel
theorem dX4_explainsSeen_54 : decode cX4_explainsSeen 54 = .ok (.iinc 2 1, 3) := by decide +kernel
theorem dX4_explainsSeen_57 : decode cX4_explainsSeen 57 = .ok (.goto (-55), 3) := by decide +kernel
theorem dX4_explainsSeen_60 : decode cX4_explainsSeen 60 = .ok (.iconst 1, 1) := by decide +kernel
theorem dX4_explainsSeen_61 : decode cX4_explainsSeen 61 = .ok (.ireturn, 1) := by decide +kernel
theorem dX4_greatestPart_0 : decode cX4_greatestPart 0 = .ok (.iconst 0, 1) := by decide +kernel
theorem dX4_greatestPart_1 : decode cX4_greatestPart 1 = .ok (.istore 4, 2) := by decide +kernel
theorem dX4_greatestPart_3 : decode cX4_greatestPart 3 = .ok (.iconst 0, 1) := by decide +kernel
theorem dX4_greatestPart_4 : decode cX4_greatestPart 4 = .ok (.istore 5, 2) := by decide +kernel
theorem dX4_greatestPart_6 : decode cX4_greatestPart 6 = .ok (.iload 5, 2) := by decide +kernel
theorem dX4_greatestPart_8 : decode cX4_greatestPart 8 = .ok (.bipush 6, 2) := by decide +kernel
theorem dX4_greatestPart_10 : decode cX4_greatestPart 10 = .ok (.if_icmp .ge 67, 3) := by decide +kernel
theorem dX4_greatestPart_13 : decode cX4_greatestPart 13 = .ok (.aload_n 0, 1) := by decide +kernel
theorem dX4_greatestPart_14 : decode cX4_greatestPart 14 = .ok (.iload_n 3, 1) := by decide +kernel
theorem dX4_greatestPart_15 : decode cX4_greatestPart 15 = .ok (.aload_n 0, 1) := by decide +kernel
theorem dX4_greatestPart_16 : decode cX4_greatestPart 16 = .ok (.getfield 96, 3) := by decide +kernel
theorem dX4_greatestPart_19 : decode cX4_greatestPart 19 = .ok (.iload_n 1, 1) := by decide +kernel
theorem dX4_greatestPart_20 : decode cX4_greatestPart 20 = .ok (.iload 5, 2) := by decide +kernel
theorem dX4_greatestPart_22 : decode cX4_greatestPart 22 = .ok (.invokestatic 259, 3) := by decide +kernel
theorem dX4_greatestPart_25 : decode cX4_greatestPart 25 = .ok (.invokevirtual 180, 3) := by decide +kernel
theorem dX4_greatestPart_28 : decode cX4_greatestPart 28 = .ok (.ifCond .eq 13, 3) := by decide +kernel
theorem dX4_greatestPart_31 : decode cX4_greatestPart 31 = .ok (.aload_n 0, 1) := by decide +kernel
theorem dX4_greatestPart_32 : decode cX4_greatestPart 32 = .ok (.getfield 23, 3) := by decide +kernel
theorem dX4_greatestPart_35 : decode cX4_greatestPart 35 = .ok (.invokevirtual 268, 3) := by decide +kernel
theorem dX4_greatestPart_38 : decode cX4_greatestPart 38 = .ok (.goto 6, 3) := by decide +kernel
theorem dX4_greatestPart_41 : decode cX4_greatestPart 41 = .ok (.ldc_w 271, 3) := by decide +kernel
theorem dX4_greatestPart_44 : decode cX4_greatestPart 44 = .ok (.istore 6, 2) := by decide +kernel
theorem dX4_greatestPart_46 : decode cX4_greatestPart 46 = .ok (.aload_n 0, 1) := by decide +kernel
theorem dX4_greatestPart_47 : decode cX4_greatestPart 47 = .ok (.getfield 55, 3) := by decide +kernel
theorem dX4_greatestPart_50 : decode cX4_greatestPart 50 = .ok (.iload 5, 2) := by decide +kernel
theorem dX4_greatestPart_52 : decode cX4_greatestPart 52 = .ok (.iload_n 2, 1) := by decide +kernel
theorem dX4_greatestPart_53 : decode cX4_greatestPart 53 = .ok (.iload 5, 2) := by decide +kernel
theorem dX4_greatestPart_55 : decode cX4_greatestPart 55 = .ok (.ishr, 1) := by decide +kernel
theorem dX4_greatestPart_56 : decode cX4_greatestPart 56 = .ok (.iconst 1, 1) := by decide +kernel
theorem dX4_greatestPart_57 : decode cX4_greatestPart 57 = .ok (.iand, 1) := by decide +kernel
theorem dX4_greatestPart_58 : decode cX4_greatestPart 58 = .ok (.iconst 1, 1) := by decide +kernel
theorem dX4_greatestPart_59 : decode cX4_greatestPart 59 = .ok (.if_icmp .ne 8, 3) := by decide +kernel
theorem dX4_greatestPart_62 : decode cX4_greatestPart 62 = .ok (.iload 6, 2) := by decide +kernel
theorem dX4_greatestPart_64 : decode cX4_greatestPart 64 = .ok (.goto 6, 3) := by decide +kernel
theorem dX4_greatestPart_67 : decode cX4_greatestPart 67 = .ok (.ldc_w 272, 3) := by decide +kernel
theorem dX4_greatestPart_70 : decode cX4_greatestPart 70 = .ok (.iastore, 1) := by decide +kernel
theorem dX4_greatestPart_71 : decode cX4_greatestPart 71 = .ok (.iinc 5 1, 3) := by decide +kernel
theorem dX4_greatestPart_74 : decode cX4_greatestPart 74 = .ok (.goto (-68), 3) := by decide +kernel
theorem dX4_greatestPart_77 : decode cX4_greatestPart 77 = .ok (.iconst 0, 1) := by decide +kernel
theorem dX4_greatestPart_78 : decode cX4_greatestPart 78 = .ok (.istore 5, 2) := by decide +kernel
theorem dX4_greatestPart_80 : decode cX4_greatestPart 80 = .ok (.iload 5, 2) := by decide +kernel
theorem dX4_greatestPart_82 : decode cX4_greatestPart 82 = .ok (.bipush 6, 2) := by decide +kernel
theorem dX4_greatestPart_84 : decode cX4_greatestPart 84 = .ok (.if_icmp .ge 27, 3) := by decide +kernel
theorem dX4_greatestPart_87 : decode cX4_greatestPart 87 = .ok (.iload 4, 2) := by decide +kernel
theorem dX4_greatestPart_89 : decode cX4_greatestPart 89 = .ok (.aload_n 0, 1) := by decide +kernel
theorem dX4_greatestPart_90 : decode cX4_greatestPart 90 = .ok (.aload_n 0, 1) := by decide +kernel
theorem dX4_greatestPart_91 : decode cX4_greatestPart 91 = .ok (.getfield 55, 3) := by decide +kernel
theorem dX4_greatestPart_94 : decode cX4_greatestPart 94 = .ok (.iload 5, 2) := by decide +kernel
theorem dX4_greatestPart_96 : decode cX4_greatestPart 96 = .ok (.iaload, 1) := by decide +kernel
theorem dX4_greatestPart_97 : decode cX4_greatestPart 97 = .ok (.invokevirtual 273, 3) := by decide +kernel
theorem dX4_greatestPart_100 : decode cX4_greatestPart 100 = .ok (.invokestatic 276, 3) := by decide +kernel
theorem dX4_greatestPart_103 : decode cX4_greatestPart 103 = .ok (.istore 4, 2) := by decide +kernel
theorem dX4_greatestPart_105 : decode cX4_greatestPart 105 = .ok (.iinc 5 1, 3) := by decide +kernel
theorem dX4_greatestPart_108 : decode cX4_greatestPart 108 = .ok (.goto (-28), 3) := by decide +kernel
theorem dX4_greatestPart_111 : decode cX4_greatestPart 111 = .ok (.iload 4, 2) := by decide +kernel
theorem dX4_greatestPart_113 : decode cX4_greatestPart 113 = .ok (.ireturn, 1) := by decide +kernel
theorem dX4_partOf_0 : decode cX4_partOf 0 = .ok (.iload_n 1, 1) := by decide +kernel
theorem dX4_partOf_1 : decode cX4_partOf 1 = .ok (.ldc_w 272, 3) := by decide +kernel
theorem dX4_partOf_4 : decode cX4_partOf 4 = .ok (.if_icmp .ne 5, 3) := by decide +kernel
theorem dX4_partOf_7 : decode cX4_partOf 7 = .ok (.iconst 0, 1) := by decide +kernel
theorem dX4_partOf_8 : decode cX4_partOf 8 = .ok (.ireturn, 1) := by decide +kernel
theorem dX4_partOf_9 : decode cX4_partOf 9 = .ok (.iconst 0, 1) := by decide +kernel
theorem dX4_partOf_10 : decode cX4_partOf 10 = .ok (.istore_n 2, 1) := by decide +kernel
theorem dX4_partOf_11 : decode cX4_partOf 11 = .ok (.iconst 0, 1) := by decide +kernel
theorem dX4_partOf_12 : decode cX4_partOf 12 = .ok (.istore_n 3, 1) := by decide +kernel
theorem dX4_partOf_13 : decode cX4_partOf 13 = .ok (.iload_n 3, 1) := by decide +kernel
theorem dX4_partOf_14 : decode cX4_partOf 14 = .ok (.bipush 6, 2) := by decide +kernel
theorem dX4_partOf_16 : decode cX4_partOf 16 = .ok (.if_icmp .ge 22, 3) := by decide +kernel
theorem dX4_partOf_19 : decode cX4_partOf 19 = .ok (.aload_n 0, 1) := by decide +kernel
theorem dX4_partOf_20 : decode cX4_partOf 20 = .ok (.getfield 55, 3) := by decide +kernel
theorem dX4_partOf_23 : decode cX4_partOf 23 = .ok (.iload_n 3, 1) := by decide +kernel
theorem dX4_partOf_24 : decode cX4_partOf 24 = .ok (.iaload, 1) := by decide +kernel
theorem dX4_partOf_25 : decode cX4_partOf 25 = .ok (.iload_n 1, 1) := by decide +kernel
theorem dX4_partOf_26 : decode cX4_partOf 26 = .ok (.if_icmp .ne 6, 3) := by decide +kernel
theorem dX4_partOf_29 : decode cX4_partOf 29 = .ok (.iinc 2 1, 3) := by decide +kernel
theorem dX4_partOf_32 : decode cX4_partOf 32 = .ok (.iinc 3 1, 3) := by decide +kernel
theorem dX4_partOf_35 : decode cX4_partOf 35 = .ok (.goto (-22), 3) := by decide +kernel
theorem dX4_partOf_38 : decode cX4_partOf 38 = .ok (.iload_n 2, 1) := by decide +kernel
theorem dX4_partOf_39 : decode cX4_partOf 39 = .ok (.ireturn, 1) := by decide +kernel
theorem dX4_drawOf_0 : decode cX4_drawOf 0 = .ok (.ldc2_w 279, 3) := by decide +kernel
theorem dX4_drawOf_3 : decode cX4_drawOf 3 = .ok (.iload_n 0, 1) := by decide +kernel
theorem dX4_drawOf_4 : decode cX4_drawOf 4 = .ok (.i2l, 1) := by decide +kernel
theorem dX4_drawOf_5 : decode cX4_drawOf 5 = .ok (.lmul, 1) := by decide +kernel
theorem dX4_drawOf_6 : decode cX4_drawOf 6 = .ok (.ldc2_w 281, 3) := by decide +kernel
theorem dX4_drawOf_9 : decode cX4_drawOf 9 = .ok (.iload_n 1, 1) := by decide +kernel
theorem dX4_drawOf_10 : decode cX4_drawOf 10 = .ok (.i2l, 1) := by decide +kernel
theorem dX4_drawOf_11 : decode cX4_drawOf 11 = .ok (.lmul, 1) := by decide +kernel
theorem dX4_drawOf_12 : decode cX4_drawOf 12 = .ok (.ladd, 1) := by decide +kernel
theorem dX4_drawOf_13 : decode cX4_drawOf 13 = .ok (.lconst 1, 1) := by decide +kernel
theorem dX4_drawOf_14 : decode cX4_drawOf 14 = .ok (.ladd, 1) := by decide +kernel
theorem dX4_drawOf_15 : decode cX4_drawOf 15 = .ok (.lstore_n 2, 1) := by decide +kernel
theorem dX4_drawOf_16 : decode cX4_drawOf 16 = .ok (.lload_n 2, 1) := by decide +kernel
theorem dX4_drawOf_17 : decode cX4_drawOf 17 = .ok (.lload_n 2, 1) := by decide +kernel
theorem dX4_drawOf_18 : decode cX4_drawOf 18 = .ok (.lmul, 1) := by decide +kernel
theorem dX4_drawOf_19 : decode cX4_drawOf 19 = .ok (.ldc2_w 283, 3) := by decide +kernel
theorem dX4_drawOf_22 : decode cX4_drawOf 22 = .ok (.lrem, 1) := by decide +kernel
theorem dX4_drawOf_23 : decode cX4_drawOf 23 = .ok (.l2i, 1) := by decide +kernel
theorem dX4_drawOf_24 : decode cX4_drawOf 24 = .ok (.ireturn, 1) := by decide +kernel
theorem dX4_isDancer_0 : decode cX4_isDancer 0 = .ok (.iload_n 0, 1) := by decide +kernel
theorem dX4_isDancer_1 : decode cX4_isDancer 1 = .ok (.ifCond .lt 12, 3) := by decide +kernel
theorem dX4_isDancer_4 : decode cX4_isDancer 4 = .ok (.iload_n 0, 1) := by decide +kernel
theorem dX4_isDancer_5 : decode cX4_isDancer 5 = .ok (.iconst 4, 1) := by decide +kernel
theorem dX4_isDancer_6 : decode cX4_isDancer 6 = .ok (.if_icmp .ge 7, 3) := by decide +kernel
theorem dX4_isDancer_9 : decode cX4_isDancer 9 = .ok (.iconst 1, 1) := by decide +kernel
theorem dX4_isDancer_10 : decode cX4_isDancer 10 = .ok (.goto 4, 3) := by decide +kernel
theorem dX4_isDancer_13 : decode cX4_isDancer 13 = .ok (.iconst 0, 1) := by decide +kernel
theorem dX4_isDancer_14 : decode cX4_isDancer 14 = .ok (.ireturn, 1) := by decide +kernel
theorem dX4_areTwo_0 : decode cX4_areTwo 0 = .ok (.iload_n 0, 1) := by decide +kernel
theorem dX4_areTwo_1 : decode cX4_areTwo 1 = .ok (.invokestatic 93, 3) := by decide +kernel
theorem dX4_areTwo_4 : decode cX4_areTwo 4 = .ok (.ifCond .eq 19, 3) := by decide +kernel
theorem dX4_areTwo_7 : decode cX4_areTwo 7 = .ok (.iload_n 1, 1) := by decide +kernel
theorem dX4_areTwo_8 : decode cX4_areTwo 8 = .ok (.invokestatic 93, 3) := by decide +kernel
theorem dX4_areTwo_11 : decode cX4_areTwo 11 = .ok (.ifCond .eq 12, 3) := by decide +kernel
theorem dX4_areTwo_14 : decode cX4_areTwo 14 = .ok (.iload_n 0, 1) := by decide +kernel
theorem dX4_areTwo_15 : decode cX4_areTwo 15 = .ok (.iload_n 1, 1) := by decide +kernel
theorem dX4_areTwo_16 : decode cX4_areTwo 16 = .ok (.if_icmp .eq 7, 3) := by decide +kernel
theorem dX4_areTwo_19 : decode cX4_areTwo 19 = .ok (.iconst 1, 1) := by decide +kernel
theorem dX4_areTwo_20 : decode cX4_areTwo 20 = .ok (.goto 4, 3) := by decide +kernel
theorem dX4_areTwo_23 : decode cX4_areTwo 23 = .ok (.iconst 0, 1) := by decide +kernel
theorem dX4_areTwo_24 : decode cX4_areTwo 24 = .ok (.ireturn, 1) := by decide +kernel
theorem dX4_isRowIndex_0 : decode cX4_isRowIndex 0 = .ok (.iload_n 0, 1) := by decide +kernel
theorem dX4_isRowIndex_1 : decode cX4_isRowIndex 1 = .ok (.iconst (-1), 1) := by decide +kernel
theorem dX4_isRowIndex_2 : decode cX4_isRowIndex 2 = .ok (.if_icmp .lt 13, 3) := by decide +kernel
theorem dX4_isRowIndex_5 : decode cX4_isRowIndex 5 = .ok (.iload_n 0, 1) := by decide +kernel
theorem dX4_isRowIndex_6 : decode cX4_isRowIndex 6 = .ok (.bipush 7, 2) := by decide +kernel
theorem dX4_isRowIndex_8 : decode cX4_isRowIndex 8 = .ok (.if_icmp .ge 7, 3) := by decide +kernel
theorem dX4_isRowIndex_11 : decode cX4_isRowIndex 11 = .ok (.iconst 1, 1) := by decide +kernel
theorem dX4_isRowIndex_12 : decode cX4_isRowIndex 12 = .ok (.goto 4, 3) := by decide +kernel
theorem dX4_isRowIndex_15 : decode cX4_isRowIndex 15 = .ok (.iconst 0, 1) := by decide +kernel
theorem dX4_isRowIndex_16 : decode cX4_isRowIndex 16 = .ok (.ireturn, 1) := by decide +kernel
theorem dX4_isRowLength_0 : decode cX4_isRowLength 0 = .ok (.iload_n 0, 1) := by decide +kernel
theorem dX4_isRowLength_1 : decode cX4_isRowLength 1 = .ok (.ifCond .lt 13, 3) := by decide +kernel
theorem dX4_isRowLength_4 : decode cX4_isRowLength 4 = .ok (.iload_n 0, 1) := by decide +kernel
theorem dX4_isRowLength_5 : decode cX4_isRowLength 5 = .ok (.bipush 12, 2) := by decide +kernel
theorem dX4_isRowLength_7 : decode cX4_isRowLength 7 = .ok (.if_icmp .gt 7, 3) := by decide +kernel
theorem dX4_isRowLength_10 : decode cX4_isRowLength 10 = .ok (.iconst 1, 1) := by decide +kernel
theorem dX4_isRowLength_11 : decode cX4_isRowLength 11 = .ok (.goto 4, 3) := by decide +kernel
theorem dX4_isRowLength_14 : decode cX4_isRowLength 14 = .ok (.iconst 0, 1) := by decide +kernel
theorem dX4_isRowLength_15 : decode cX4_isRowLength 15 = .ok (.ireturn, 1) := by decide +kernel
theorem dX4_isFraction_0 : decode cX4_isFraction 0 = .ok (.iload_n 1, 1) := by decide +kernel
theorem dX4_isFraction_1 : decode cX4_isFraction 1 = .ok (.ifCond .ne 14, 3) := by decide +kernel
theorem dX4_isFraction_4 : decode cX4_isFraction 4 = .ok (.iload_n 0, 1) := by decide +kernel
theorem dX4_isFraction_5 : decode cX4_isFraction 5 = .ok (.iconst 1, 1) := by decide +kernel
theorem dX4_isFraction_6 : decode cX4_isFraction 6 = .ok (.if_icmp .ne 7, 3) := by decide +kernel
theorem dX4_isFraction_9 : decode cX4_isFraction 9 = .ok (.iconst 1, 1) := by decide +kernel
theorem dX4_isFraction_10 : decode cX4_isFraction 10 = .ok (.goto 4, 3) := by decide +kernel
theorem dX4_isFraction_13 : decode cX4_isFraction 13 = .ok (.iconst 0, 1) := by decide +kernel
theorem dX4_isFraction_14 : decode cX4_isFraction 14 = .ok (.ireturn, 1) := by decide +kernel
theorem dX4_isFraction_15 : decode cX4_isFraction 15 = .ok (.iload_n 0, 1) := by decide +kernel
theorem dX4_isFraction_16 : decode cX4_isFraction 16 = .ok (.bipush (-99), 2) := by decide +kernel
theorem dX4_isFraction_18 : decode cX4_isFraction 18 = .ok (.if_icmp .lt 36, 3) := by decide +kernel
theorem dX4_isFraction_21 : decode cX4_isFraction 21 = .ok (.iload_n 0, 1) := by decide +kernel
theorem dX4_isFraction_22 : decode cX4_isFraction 22 = .ok (.bipush 99, 2) := by decide +kernel
theorem dX4_isFraction_24 : decode cX4_isFraction 24 = .ok (.if_icmp .gt 30, 3) := by decide +kernel
theorem dX4_isFraction_27 : decode cX4_isFraction 27 = .ok (.iload_n 1, 1) := by decide +kernel
theorem dX4_isFraction_28 : decode cX4_isFraction 28 = .ok (.iconst 1, 1) := by decide +kernel
theorem dX4_isFraction_29 : decode cX4_isFraction 29 = .ok (.if_icmp .lt 25, 3) := by decide +kernel
theorem dX4_isFraction_32 : decode cX4_isFraction 32 = .ok (.iload_n 1, 1) := by decide +kernel
theorem dX4_isFraction_33 : decode cX4_isFraction 33 = .ok (.bipush 99, 2) := by decide +kernel
theorem dX4_isFraction_35 : decode cX4_isFraction 35 = .ok (.if_icmp .gt 19, 3) := by decide +kernel
theorem dX4_isFraction_38 : decode cX4_isFraction 38 = .ok (.iload_n 0, 1) := by decide +kernel
theorem dX4_isFraction_39 : decode cX4_isFraction 39 = .ok (.invokestatic 285, 3) := by decide +kernel
theorem dX4_isFraction_42 : decode cX4_isFraction 42 = .ok (.iload_n 1, 1) := by decide +kernel
theorem dX4_isFraction_43 : decode cX4_isFraction 43 = .ok (.invokestatic 223, 3) := by decide +kernel
theorem dX4_isFraction_46 : decode cX4_isFraction 46 = .ok (.iconst 1, 1) := by decide +kernel
theorem dX4_isFraction_47 : decode cX4_isFraction 47 = .ok (.if_icmp .ne 7, 3) := by decide +kernel
theorem dX4_isFraction_50 : decode cX4_isFraction 50 = .ok (.iconst 1, 1) := by decide +kernel
theorem dX4_isFraction_51 : decode cX4_isFraction 51 = .ok (.goto 4, 3) := by decide +kernel
theorem dX4_isFraction_54 : decode cX4_isFraction 54 = .ok (.iconst 0, 1) := by decide +kernel
theorem dX4_isFraction_55 : decode cX4_isFraction 55 = .ok (.ireturn, 1) := by decide +kernel
theorem dX4_commonDivisor_0 : decode cX4_commonDivisor 0 = .ok (.iload_n 0, 1) := by decide +kernel
theorem dX4_commonDivisor_1 : decode cX4_commonDivisor 1 = .ok (.istore_n 2, 1) := by decide +kernel
theorem dX4_commonDivisor_2 : decode cX4_commonDivisor 2 = .ok (.iload_n 1, 1) := by decide +kernel
theorem dX4_commonDivisor_3 : decode cX4_commonDivisor 3 = .ok (.istore_n 3, 1) := by decide +kernel
theorem dX4_commonDivisor_4 : decode cX4_commonDivisor 4 = .ok (.iconst 0, 1) := by decide +kernel
theorem dX4_commonDivisor_5 : decode cX4_commonDivisor 5 = .ok (.istore 4, 2) := by decide +kernel
theorem dX4_commonDivisor_7 : decode cX4_commonDivisor 7 = .ok (.iload 4, 2) := by decide +kernel
theorem dX4_commonDivisor_9 : decode cX4_commonDivisor 9 = .ok (.bipush 100, 2) := by decide +kernel
theorem dX4_commonDivisor_11 : decode cX4_commonDivisor 11 = .ok (.if_icmp .ge 23, 3) := by decide +kernel
theorem dX4_commonDivisor_14 : decode cX4_commonDivisor 14 = .ok (.iload_n 3, 1) := by decide +kernel
theorem dX4_commonDivisor_15 : decode cX4_commonDivisor 15 = .ok (.ifCond .eq 19, 3) := by decide +kernel
theorem dX4_commonDivisor_18 : decode cX4_commonDivisor 18 = .ok (.iload_n 2, 1) := by decide +kernel
theorem dX4_commonDivisor_19 : decode cX4_commonDivisor 19 = .ok (.iload_n 3, 1) := by decide +kernel
theorem dX4_commonDivisor_20 : decode cX4_commonDivisor 20 = .ok (.irem, 1) := by decide +kernel
theorem dX4_commonDivisor_21 : decode cX4_commonDivisor 21 = .ok (.istore 5, 2) := by decide +kernel
theorem dX4_commonDivisor_23 : decode cX4_commonDivisor 23 = .ok (.iload_n 3, 1) := by decide +kernel
theorem dX4_commonDivisor_24 : decode cX4_commonDivisor 24 = .ok (.istore_n 2, 1) := by decide +kernel
theorem dX4_commonDivisor_25 : decode cX4_commonDivisor 25 = .ok (.iload 5, 2) := by decide +kernel
theorem dX4_commonDivisor_27 : decode cX4_commonDivisor 27 = .ok (.istore_n 3, 1) := by decide +kernel
theorem dX4_commonDivisor_28 : decode cX4_commonDivisor 28 = .ok (.iinc 4 1, 3) := by decide +kernel
theorem dX4_commonDivisor_31 : decode cX4_commonDivisor 31 = .ok (.goto (-24), 3) := by decide +kernel
theorem dX4_commonDivisor_34 : decode cX4_commonDivisor 34 = .ok (.iload_n 2, 1) := by decide +kernel
theorem dX4_commonDivisor_35 : decode cX4_commonDivisor 35 = .ok (.ireturn, 1) := by decide +kernel
theorem dX4_pairAt_0 : decode cX4_pairAt 0 = .ok (.iload_n 0, 1) := by decide +kernel
theorem dX4_pairAt_1 : decode cX4_pairAt 1 = .ok (.iconst 2, 1) := by decide +kernel
theorem dX4_pairAt_2 : decode cX4_pairAt 2 = .ok (.iload_n 1, 1) := by decide +kernel
theorem dX4_pairAt_3 : decode cX4_pairAt 3 = .ok (.imul, 1) := by decide +kernel
theorem dX4_pairAt_4 : decode cX4_pairAt 4 = .ok (.ishr, 1) := by decide +kernel
theorem dX4_pairAt_5 : decode cX4_pairAt 5 = .ok (.iconst 3, 1) := by decide +kernel
theorem dX4_pairAt_6 : decode cX4_pairAt 6 = .ok (.iand, 1) := by decide +kernel
theorem dX4_pairAt_7 : decode cX4_pairAt 7 = .ok (.ireturn, 1) := by decide +kernel
theorem dX4_kindOf_0 : decode cX4_kindOf 0 = .ok (.iload_n 0, 1) := by decide +kernel
theorem dX4_kindOf_1 : decode cX4_kindOf 1 = .ok (.iconst 3, 1) := by decide +kernel
theorem dX4_kindOf_2 : decode cX4_kindOf 2 = .ok (.iload_n 1, 1) := by decide +kernel
theorem dX4_kindOf_3 : decode cX4_kindOf 3 = .ok (.imul, 1) := by decide +kernel
theorem dX4_kindOf_4 : decode cX4_kindOf 4 = .ok (.ishr, 1) := by decide +kernel
theorem dX4_kindOf_5 : decode cX4_kindOf 5 = .ok (.bipush 7, 2) := by decide +kernel
theorem dX4_kindOf_7 : decode cX4_kindOf 7 = .ok (.iand, 1) := by decide +kernel
theorem dX4_kindOf_8 : decode cX4_kindOf 8 = .ok (.ireturn, 1) := by decide +kernel
theorem dX4_withKind_0 : decode cX4_withKind 0 = .ok (.iload_n 0, 1) := by decide +kernel
theorem dX4_withKind_1 : decode cX4_withKind 1 = .ok (.bipush 7, 2) := by decide +kernel
theorem dX4_withKind_3 : decode cX4_withKind 3 = .ok (.iconst 3, 1) := by decide +kernel
theorem dX4_withKind_4 : decode cX4_withKind 4 = .ok (.iload_n 1, 1) := by decide +kernel
theorem dX4_withKind_5 : decode cX4_withKind 5 = .ok (.imul, 1) := by decide +kernel
theorem dX4_withKind_6 : decode cX4_withKind 6 = .ok (.ishl, 1) := by decide +kernel
theorem dX4_withKind_7 : decode cX4_withKind 7 = .ok (.iconst (-1), 1) := by decide +kernel
theorem dX4_withKind_8 : decode cX4_withKind 8 = .ok (.ixor, 1) := by decide +kernel
theorem dX4_withKind_9 : decode cX4_withKind 9 = .ok (.iand, 1) := by decide +kernel
theorem dX4_withKind_10 : decode cX4_withKind 10 = .ok (.iload_n 2, 1) := by decide +kernel
theorem dX4_withKind_11 : decode cX4_withKind 11 = .ok (.iconst 3, 1) := by decide +kernel
theorem dX4_withKind_12 : decode cX4_withKind 12 = .ok (.iload_n 1, 1) := by decide +kernel
theorem dX4_withKind_13 : decode cX4_withKind 13 = .ok (.imul, 1) := by decide +kernel
theorem dX4_withKind_14 : decode cX4_withKind 14 = .ok (.ishl, 1) := by decide +kernel
theorem dX4_withKind_15 : decode cX4_withKind 15 = .ok (.ior, 1) := by decide +kernel
theorem dX4_withKind_16 : decode cX4_withKind 16 = .ok (.ireturn, 1) := by decide +kernel
