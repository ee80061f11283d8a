theorem dX0_init_0 : decode cX0_init 0 = .ok (.aload_n 0, 1) := by decide +kernel
theorem dX0_init_1 : decode cX0_init 1 = .ok (.invokespecial 1, 3) := by decide +kernel
theorem dX0_init_4 : decode cX0_init 4 = .ok (.aload_n 0, 1) := by decide +kernel
theorem dX0_init_5 : decode cX0_init 5 = .ok (.iconst 1, 1) := by decide +kernel
theorem dX0_init_6 : decode cX0_init 6 = .ok (.iload_n 1, 1) := by decide +kernel
theorem dX0_init_7 : decode cX0_init 7 = .ok (.invokestatic 7, 3) := by decide +kernel
theorem dX0_init_10 : decode cX0_init 10 = .ok (.anewarray 13, 3) := by decide +kernel
theorem dX0_init_13 : decode cX0_init 13 = .ok (.putfield 15, 3) := by decide +kernel
theorem dX0_init_16 : decode cX0_init 16 = .ok (.iconst 0, 1) := by decide +kernel
theorem dX0_init_17 : decode cX0_init 17 = .ok (.istore_n 2, 1) := by decide +kernel
theorem dX0_init_18 : decode cX0_init 18 = .ok (.iload_n 2, 1) := by decide +kernel
theorem dX0_init_19 : decode cX0_init 19 = .ok (.aload_n 0, 1) := by decide +kernel
theorem dX0_init_20 : decode cX0_init 20 = .ok (.getfield 15, 3) := by decide +kernel
theorem dX0_init_23 : decode cX0_init 23 = .ok (.arraylength, 1) := by decide +kernel
theorem dX0_init_24 : decode cX0_init 24 = .ok (.if_icmp .ge 22, 3) := by decide +kernel
theorem dX0_init_27 : decode cX0_init 27 = .ok (.aload_n 0, 1) := by decide +kernel
theorem dX0_init_28 : decode cX0_init 28 = .ok (.getfield 15, 3) := by decide +kernel
theorem dX0_init_31 : decode cX0_init 31 = .ok (.iload_n 2, 1) := by decide +kernel
theorem dX0_init_32 : decode cX0_init 32 = .ok (.new 13, 3) := by decide +kernel
theorem dX0_init_35 : decode cX0_init 35 = .ok (.dup, 1) := by decide +kernel
theorem dX0_init_36 : decode cX0_init 36 = .ok (.invokespecial 21, 3) := by decide +kernel
theorem dX0_init_39 : decode cX0_init 39 = .ok (.aastore, 1) := by decide +kernel
theorem dX0_init_40 : decode cX0_init 40 = .ok (.iinc 2 1, 3) := by decide +kernel
theorem dX0_init_43 : decode cX0_init 43 = .ok (.goto (-25), 3) := by decide +kernel
theorem dX0_init_46 : decode cX0_init 46 = .ok (.return_, 1) := by decide +kernel
theorem dX0_isFull_0 : decode cX0_isFull 0 = .ok (.aload_n 0, 1) := by decide +kernel
theorem dX0_isFull_1 : decode cX0_isFull 1 = .ok (.getfield 22, 3) := by decide +kernel
theorem dX0_isFull_4 : decode cX0_isFull 4 = .ok (.aload_n 0, 1) := by decide +kernel
theorem dX0_isFull_5 : decode cX0_isFull 5 = .ok (.getfield 15, 3) := by decide +kernel
theorem dX0_isFull_8 : decode cX0_isFull 8 = .ok (.arraylength, 1) := by decide +kernel
theorem dX0_isFull_9 : decode cX0_isFull 9 = .ok (.if_icmp .lt 7, 3) := by decide +kernel
theorem dX0_isFull_12 : decode cX0_isFull 12 = .ok (.iconst 1, 1) := by decide +kernel
theorem dX0_isFull_13 : decode cX0_isFull 13 = .ok (.goto 4, 3) := by decide +kernel
theorem dX0_isFull_16 : decode cX0_isFull 16 = .ok (.iconst 0, 1) := by decide +kernel
theorem dX0_isFull_17 : decode cX0_isFull 17 = .ok (.ireturn, 1) := by decide +kernel
theorem dX0_push_0 : decode cX0_push 0 = .ok (.aload_n 0, 1) := by decide +kernel
theorem dX0_push_1 : decode cX0_push 1 = .ok (.getfield 26, 3) := by decide +kernel
theorem dX0_push_4 : decode cX0_push 4 = .ok (.ifCond .lt 15, 3) := by decide +kernel
theorem dX0_push_7 : decode cX0_push 7 = .ok (.aload_n 0, 1) := by decide +kernel
theorem dX0_push_8 : decode cX0_push 8 = .ok (.getfield 26, 3) := by decide +kernel
theorem dX0_push_11 : decode cX0_push 11 = .ok (.aload_n 0, 1) := by decide +kernel
theorem dX0_push_12 : decode cX0_push 12 = .ok (.getfield 15, 3) := by decide +kernel
theorem dX0_push_15 : decode cX0_push 15 = .ok (.arraylength, 1) := by decide +kernel
theorem dX0_push_16 : decode cX0_push 16 = .ok (.if_icmp .lt 8, 3) := by decide +kernel
theorem dX0_push_19 : decode cX0_push 19 = .ok (.aload_n 0, 1) := by decide +kernel
theorem dX0_push_20 : decode cX0_push 20 = .ok (.iconst 0, 1) := by decide +kernel
theorem dX0_push_21 : decode cX0_push 21 = .ok (.putfield 26, 3) := by decide +kernel
theorem dX0_push_24 : decode cX0_push 24 = .ok (.aload_n 0, 1) := by decide +kernel
theorem dX0_push_25 : decode cX0_push 25 = .ok (.getfield 15, 3) := by decide +kernel
theorem dX0_push_28 : decode cX0_push 28 = .ok (.aload_n 0, 1) := by decide +kernel
theorem dX0_push_29 : decode cX0_push 29 = .ok (.getfield 26, 3) := by decide +kernel
theorem dX0_push_32 : decode cX0_push 32 = .ok (.aaload, 1) := by decide +kernel
theorem dX0_push_33 : decode cX0_push 33 = .ok (.aload_n 1, 1) := by decide +kernel
theorem dX0_push_34 : decode cX0_push 34 = .ok (.invokevirtual 29, 3) := by decide +kernel
theorem dX0_push_37 : decode cX0_push 37 = .ok (.aload_n 0, 1) := by decide +kernel
theorem dX0_push_38 : decode cX0_push 38 = .ok (.dup, 1) := by decide +kernel
theorem dX0_push_39 : decode cX0_push 39 = .ok (.getfield 26, 3) := by decide +kernel
theorem dX0_push_42 : decode cX0_push 42 = .ok (.iconst 1, 1) := by decide +kernel
theorem dX0_push_43 : decode cX0_push 43 = .ok (.iadd, 1) := by decide +kernel
theorem dX0_push_44 : decode cX0_push 44 = .ok (.putfield 26, 3) := by decide +kernel
theorem dX0_push_47 : decode cX0_push 47 = .ok (.aload_n 0, 1) := by decide +kernel
theorem dX0_push_48 : decode cX0_push 48 = .ok (.aload_n 0, 1) := by decide +kernel
theorem dX0_push_49 : decode cX0_push 49 = .ok (.getfield 22, 3) := by decide +kernel
theorem dX0_push_52 : decode cX0_push 52 = .ok (.iconst 1, 1) := by decide +kernel
theorem dX0_push_53 : decode cX0_push 53 = .ok (.iadd, 1) := by decide +kernel
theorem dX0_push_54 : decode cX0_push 54 = .ok (.aload_n 0, 1) := by decide +kernel
theorem dX0_push_55 : decode cX0_push 55 = .ok (.getfield 15, 3) := by decide +kernel
theorem dX0_push_58 : decode cX0_push 58 = .ok (.arraylength, 1) := by decide +kernel
theorem dX0_push_59 : decode cX0_push 59 = .ok (.invokestatic 33, 3) := by decide +kernel
theorem dX0_push_62 : decode cX0_push 62 = .ok (.putfield 22, 3) := by decide +kernel
theorem dX0_push_65 : decode cX0_push 65 = .ok (.return_, 1) := by decide +kernel
theorem dX0_pop_0 : decode cX0_pop 0 = .ok (.aload_n 0, 1) := by decide +kernel
theorem dX0_pop_1 : decode cX0_pop 1 = .ok (.getfield 22, 3) := by decide +kernel
theorem dX0_pop_4 : decode cX0_pop 4 = .ok (.ifCond .gt 5, 3) := by decide +kernel
theorem dX0_pop_7 : decode cX0_pop 7 = .ok (.iconst 0, 1) := by decide +kernel
theorem dX0_pop_8 : decode cX0_pop 8 = .ok (.ireturn, 1) := by decide +kernel
theorem dX0_pop_9 : decode cX0_pop 9 = .ok (.aload_n 0, 1) := by decide +kernel
theorem dX0_pop_10 : decode cX0_pop 10 = .ok (.aload_n 0, 1) := by decide +kernel
theorem dX0_pop_11 : decode cX0_pop 11 = .ok (.getfield 26, 3) := by decide +kernel
theorem dX0_pop_14 : decode cX0_pop 14 = .ok (.ifCond .le 24, 3) := by decide +kernel
theorem dX0_pop_17 : decode cX0_pop 17 = .ok (.aload_n 0, 1) := by decide +kernel
theorem dX0_pop_18 : decode cX0_pop 18 = .ok (.getfield 26, 3) := by decide +kernel
theorem dX0_pop_21 : decode cX0_pop 21 = .ok (.aload_n 0, 1) := by decide +kernel
theorem dX0_pop_22 : decode cX0_pop 22 = .ok (.getfield 15, 3) := by decide +kernel
theorem dX0_pop_25 : decode cX0_pop 25 = .ok (.arraylength, 1) := by decide +kernel
theorem dX0_pop_26 : decode cX0_pop 26 = .ok (.if_icmp .gt 12, 3) := by decide +kernel
theorem dX0_pop_29 : decode cX0_pop 29 = .ok (.aload_n 0, 1) := by decide +kernel
theorem dX0_pop_30 : decode cX0_pop 30 = .ok (.getfield 26, 3) := by decide +kernel
theorem dX0_pop_33 : decode cX0_pop 33 = .ok (.iconst 1, 1) := by decide +kernel
theorem dX0_pop_34 : decode cX0_pop 34 = .ok (.isub, 1) := by decide +kernel
theorem dX0_pop_35 : decode cX0_pop 35 = .ok (.goto 10, 3) := by decide +kernel
theorem dX0_pop_38 : decode cX0_pop 38 = .ok (.aload_n 0, 1) := by decide +kernel
theorem dX0_pop_39 : decode cX0_pop 39 = .ok (.getfield 15, 3) := by decide +kernel
theorem dX0_pop_42 : decode cX0_pop 42 = .ok (.arraylength, 1) := by decide +kernel
theorem dX0_pop_43 : decode cX0_pop 43 = .ok (.iconst 1, 1) := by decide +kernel
theorem dX0_pop_44 : decode cX0_pop 44 = .ok (.isub, 1) := by decide +kernel
theorem dX0_pop_45 : decode cX0_pop 45 = .ok (.putfield 26, 3) := by decide +kernel
theorem dX0_pop_48 : decode cX0_pop 48 = .ok (.aload_n 1, 1) := by decide +kernel
theorem dX0_pop_49 : decode cX0_pop 49 = .ok (.aload_n 0, 1) := by decide +kernel
theorem dX0_pop_50 : decode cX0_pop 50 = .ok (.getfield 15, 3) := by decide +kernel
theorem dX0_pop_53 : decode cX0_pop 53 = .ok (.aload_n 0, 1) := by decide +kernel
theorem dX0_pop_54 : decode cX0_pop 54 = .ok (.getfield 26, 3) := by decide +kernel
theorem dX0_pop_57 : decode cX0_pop 57 = .ok (.aaload, 1) := by decide +kernel
theorem dX0_pop_58 : decode cX0_pop 58 = .ok (.invokevirtual 29, 3) := by decide +kernel
theorem dX0_pop_61 : decode cX0_pop 61 = .ok (.aload_n 0, 1) := by decide +kernel
theorem dX0_pop_62 : decode cX0_pop 62 = .ok (.dup, 1) := by decide +kernel
theorem dX0_pop_63 : decode cX0_pop 63 = .ok (.getfield 22, 3) := by decide +kernel
theorem dX0_pop_66 : decode cX0_pop 66 = .ok (.iconst 1, 1) := by decide +kernel
theorem dX0_pop_67 : decode cX0_pop 67 = .ok (.isub, 1) := by decide +kernel
theorem dX0_pop_68 : decode cX0_pop 68 = .ok (.putfield 22, 3) := by decide +kernel
theorem dX0_pop_71 : decode cX0_pop 71 = .ok (.iconst 1, 1) := by decide +kernel
theorem dX0_pop_72 : decode cX0_pop 72 = .ok (.ireturn, 1) := by decide +kernel
theorem dX0_clear_0 : decode cX0_clear 0 = .ok (.aload_n 0, 1) := by decide +kernel
theorem dX0_clear_1 : decode cX0_clear 1 = .ok (.iconst 0, 1) := by decide +kernel
theorem dX0_clear_2 : decode cX0_clear 2 = .ok (.putfield 22, 3) := by decide +kernel
theorem dX0_clear_5 : decode cX0_clear 5 = .ok (.return_, 1) := by decide +kernel
theorem dX1_init_0 : decode cX1_init 0 = .ok (.aload_n 0, 1) := by decide +kernel
theorem dX1_init_1 : decode cX1_init 1 = .ok (.invokespecial 3, 3) := by decide +kernel
theorem dX1_init_4 : decode cX1_init 4 = .ok (.aload_n 0, 1) := by decide +kernel
theorem dX1_init_5 : decode cX1_init 5 = .ok (.sipush 200, 3) := by decide +kernel
theorem dX1_init_8 : decode cX1_init 8 = .ok (.newarray .byte, 2) := by decide +kernel
theorem dX1_init_10 : decode cX1_init 10 = .ok (.putfield 9, 3) := by decide +kernel
theorem dX1_init_13 : decode cX1_init 13 = .ok (.return_, 1) := by decide +kernel
theorem dX1_add_0 : decode cX1_add 0 = .ok (.aload_n 0, 1) := by decide +kernel
theorem dX1_add_1 : decode cX1_add 1 = .ok (.getfield 15, 3) := by decide +kernel
theorem dX1_add_4 : decode cX1_add 4 = .ok (.ifCond .lt 15, 3) := by decide +kernel
theorem dX1_add_7 : decode cX1_add 7 = .ok (.aload_n 0, 1) := by decide +kernel
theorem dX1_add_8 : decode cX1_add 8 = .ok (.getfield 15, 3) := by decide +kernel
theorem dX1_add_11 : decode cX1_add 11 = .ok (.aload_n 0, 1) := by decide +kernel
theorem dX1_add_12 : decode cX1_add 12 = .ok (.getfield 9, 3) := by decide +kernel
theorem dX1_add_15 : decode cX1_add 15 = .ok (.arraylength, 1) := by decide +kernel
theorem dX1_add_16 : decode cX1_add 16 = .ok (.if_icmp .lt 5, 3) := by decide +kernel
theorem dX1_add_19 : decode cX1_add 19 = .ok (.iconst 0, 1) := by decide +kernel
theorem dX1_add_20 : decode cX1_add 20 = .ok (.ireturn, 1) := by decide +kernel
theorem dX1_add_21 : decode cX1_add 21 = .ok (.aload_n 0, 1) := by decide +kernel
theorem dX1_add_22 : decode cX1_add 22 = .ok (.getfield 9, 3) := by decide +kernel
theorem dX1_add_25 : decode cX1_add 25 = .ok (.aload_n 0, 1) := by decide +kernel
theorem dX1_add_26 : decode cX1_add 26 = .ok (.getfield 15, 3) := by decide +kernel
theorem dX1_add_29 : decode cX1_add 29 = .ok (.iload_n 1, 1) := by decide +kernel
theorem dX1_add_30 : decode cX1_add 30 = .ok (.i2b, 1) := by decide +kernel
theorem dX1_add_31 : decode cX1_add 31 = .ok (.bastore, 1) := by decide +kernel
theorem dX1_add_32 : decode cX1_add 32 = .ok (.aload_n 0, 1) := by decide +kernel
theorem dX1_add_33 : decode cX1_add 33 = .ok (.dup, 1) := by decide +kernel
theorem dX1_add_34 : decode cX1_add 34 = .ok (.getfield 15, 3) := by decide +kernel
theorem dX1_add_37 : decode cX1_add 37 = .ok (.iconst 1, 1) := by decide +kernel
theorem dX1_add_38 : decode cX1_add 38 = .ok (.iadd, 1) := by decide +kernel
theorem dX1_add_39 : decode cX1_add 39 = .ok (.putfield 15, 3) := by decide +kernel
theorem dX1_add_42 : decode cX1_add 42 = .ok (.iconst 1, 1) := by decide +kernel
theorem dX1_add_43 : decode cX1_add 43 = .ok (.ireturn, 1) := by decide +kernel
theorem dX1_clear_0 : decode cX1_clear 0 = .ok (.aload_n 0, 1) := by decide +kernel
theorem dX1_clear_1 : decode cX1_clear 1 = .ok (.iconst 0, 1) := by decide +kernel
theorem dX1_clear_2 : decode cX1_clear 2 = .ok (.putfield 15, 3) := by decide +kernel
theorem dX1_clear_5 : decode cX1_clear 5 = .ok (.return_, 1) := by decide +kernel
theorem dX1_firstFault_0 : decode cX1_firstFault 0 = .ok (.iconst 0, 1) := by decide +kernel
theorem dX1_firstFault_1 : decode cX1_firstFault 1 = .ok (.istore_n 1, 1) := by decide +kernel
theorem dX1_firstFault_2 : decode cX1_firstFault 2 = .ok (.iconst 0, 1) := by decide +kernel
theorem dX1_firstFault_3 : decode cX1_firstFault 3 = .ok (.istore_n 2, 1) := by decide +kernel
theorem dX1_firstFault_4 : decode cX1_firstFault 4 = .ok (.iconst 0, 1) := by decide +kernel
theorem dX1_firstFault_5 : decode cX1_firstFault 5 = .ok (.istore_n 3, 1) := by decide +kernel
theorem dX1_firstFault_6 : decode cX1_firstFault 6 = .ok (.iload_n 3, 1) := by decide +kernel
theorem dX1_firstFault_7 : decode cX1_firstFault 7 = .ok (.sipush 200, 3) := by decide +kernel
theorem dX1_firstFault_10 : decode cX1_firstFault 10 = .ok (.if_icmp .ge 54, 3) := by decide +kernel
theorem dX1_firstFault_13 : decode cX1_firstFault 13 = .ok (.iload_n 1, 1) := by decide +kernel
theorem dX1_firstFault_14 : decode cX1_firstFault 14 = .ok (.aload_n 0, 1) := by decide +kernel
theorem dX1_firstFault_15 : decode cX1_firstFault 15 = .ok (.getfield 15, 3) := by decide +kernel
theorem dX1_firstFault_18 : decode cX1_firstFault 18 = .ok (.if_icmp .ge 46, 3) := by decide +kernel
theorem dX1_firstFault_21 : decode cX1_firstFault 21 = .ok (.aload_n 0, 1) := by decide +kernel
theorem dX1_firstFault_22 : decode cX1_firstFault 22 = .ok (.iload_n 1, 1) := by decide +kernel
theorem dX1_firstFault_23 : decode cX1_firstFault 23 = .ok (.invokevirtual 19, 3) := by decide +kernel
theorem dX1_firstFault_26 : decode cX1_firstFault 26 = .ok (.istore 4, 2) := by decide +kernel
theorem dX1_firstFault_28 : decode cX1_firstFault 28 = .ok (.aload_n 0, 1) := by decide +kernel
theorem dX1_firstFault_29 : decode cX1_firstFault 29 = .ok (.iload_n 1, 1) := by decide +kernel
theorem dX1_firstFault_30 : decode cX1_firstFault 30 = .ok (.invokevirtual 23, 3) := by decide +kernel
theorem dX1_firstFault_33 : decode cX1_firstFault 33 = .ok (.bipush 114, 2) := by decide +kernel
theorem dX1_firstFault_35 : decode cX1_firstFault 35 = .ok (.if_icmp .ne 6, 3) := by decide +kernel
theorem dX1_firstFault_38 : decode cX1_firstFault 38 = .ok (.iinc 2 1, 3) := by decide +kernel
theorem dX1_firstFault_41 : decode cX1_firstFault 41 = .ok (.iload 4, 2) := by decide +kernel
theorem dX1_firstFault_43 : decode cX1_firstFault 43 = .ok (.iconst (-1), 1) := by decide +kernel
theorem dX1_firstFault_44 : decode cX1_firstFault 44 = .ok (.if_icmp .eq 9, 3) := by decide +kernel
theorem dX1_firstFault_47 : decode cX1_firstFault 47 = .ok (.iload_n 2, 1) := by decide +kernel
theorem dX1_firstFault_48 : decode cX1_firstFault 48 = .ok (.bipush 12, 2) := by decide +kernel
theorem dX1_firstFault_50 : decode cX1_firstFault 50 = .ok (.if_icmp .le 5, 3) := by decide +kernel
theorem dX1_firstFault_53 : decode cX1_firstFault 53 = .ok (.iload_n 1, 1) := by decide +kernel
theorem dX1_firstFault_54 : decode cX1_firstFault 54 = .ok (.ireturn, 1) := by decide +kernel
theorem dX1_firstFault_55 : decode cX1_firstFault 55 = .ok (.iload 4, 2) := by decide +kernel
theorem dX1_firstFault_57 : decode cX1_firstFault 57 = .ok (.istore_n 1, 1) := by decide +kernel
theorem dX1_firstFault_58 : decode cX1_firstFault 58 = .ok (.iinc 3 1, 3) := by decide +kernel
theorem dX1_firstFault_61 : decode cX1_firstFault 61 = .ok (.goto (-55), 3) := by decide +kernel
theorem dX1_firstFault_64 : decode cX1_firstFault 64 = .ok (.bipush (-4), 2) := by decide +kernel
theorem dX1_firstFault_66 : decode cX1_firstFault 66 = .ok (.ireturn, 1) := by decide +kernel
theorem dX1_tellsDance_0 : decode cX1_tellsDance 0 = .ok (.aload_n 0, 1) := by decide +kernel
theorem dX1_tellsDance_1 : decode cX1_tellsDance 1 = .ok (.getfield 15, 3) := by decide +kernel
theorem dX1_tellsDance_4 : decode cX1_tellsDance 4 = .ok (.ifCond .eq 12, 3) := by decide +kernel
theorem dX1_tellsDance_7 : decode cX1_tellsDance 7 = .ok (.aload_n 0, 1) := by decide +kernel
theorem dX1_tellsDance_8 : decode cX1_tellsDance 8 = .ok (.invokevirtual 26, 3) := by decide +kernel
theorem dX1_tellsDance_11 : decode cX1_tellsDance 11 = .ok (.bipush (-4), 2) := by decide +kernel
theorem dX1_tellsDance_13 : decode cX1_tellsDance 13 = .ok (.if_icmp .eq 5, 3) := by decide +kernel
theorem dX1_tellsDance_16 : decode cX1_tellsDance 16 = .ok (.iconst 0, 1) := by decide +kernel
theorem dX1_tellsDance_17 : decode cX1_tellsDance 17 = .ok (.ireturn, 1) := by decide +kernel
theorem dX1_tellsDance_18 : decode cX1_tellsDance 18 = .ok (.aload_n 0, 1) := by decide +kernel
theorem dX1_tellsDance_19 : decode cX1_tellsDance 19 = .ok (.invokevirtual 30, 3) := by decide +kernel
theorem dX1_tellsDance_22 : decode cX1_tellsDance 22 = .ok (.aload_n 0, 1) := by decide +kernel
theorem dX1_tellsDance_23 : decode cX1_tellsDance 23 = .ok (.invokevirtual 33, 3) := by decide +kernel
theorem dX1_tellsDance_26 : decode cX1_tellsDance 26 = .ok (.ireturn, 1) := by decide +kernel
theorem dX1_orderBits_0 : decode cX1_orderBits 0 = .ok (.iconst 0, 1) := by decide +kernel
theorem dX1_orderBits_1 : decode cX1_orderBits 1 = .ok (.istore_n 1, 1) := by decide +kernel
theorem dX1_orderBits_2 : decode cX1_orderBits 2 = .ok (.iconst 0, 1) := by decide +kernel
theorem dX1_orderBits_3 : decode cX1_orderBits 3 = .ok (.istore_n 2, 1) := by decide +kernel
theorem dX1_orderBits_4 : decode cX1_orderBits 4 = .ok (.iload_n 2, 1) := by decide +kernel
theorem dX1_orderBits_5 : decode cX1_orderBits 5 = .ok (.iconst 4, 1) := by decide +kernel
theorem dX1_orderBits_6 : decode cX1_orderBits 6 = .ok (.if_icmp .ge 24, 3) := by decide +kernel
theorem dX1_orderBits_9 : decode cX1_orderBits 9 = .ok (.iload_n 1, 1) := by decide +kernel
theorem dX1_orderBits_10 : decode cX1_orderBits 10 = .ok (.iload_n 2, 1) := by decide +kernel
theorem dX1_orderBits_11 : decode cX1_orderBits 11 = .ok (.iconst 2, 1) := by decide +kernel
theorem dX1_orderBits_12 : decode cX1_orderBits 12 = .ok (.aload_n 0, 1) := by decide +kernel
theorem dX1_orderBits_13 : decode cX1_orderBits 13 = .ok (.getfield 37, 3) := by decide +kernel
theorem dX1_orderBits_16 : decode cX1_orderBits 16 = .ok (.iload_n 2, 1) := by decide +kernel
theorem dX1_orderBits_17 : decode cX1_orderBits 17 = .ok (.invokestatic 40, 3) := by decide +kernel
theorem dX1_orderBits_20 : decode cX1_orderBits 20 = .ok (.imul, 1) := by decide +kernel
theorem dX1_orderBits_21 : decode cX1_orderBits 21 = .ok (.ishl, 1) := by decide +kernel
theorem dX1_orderBits_22 : decode cX1_orderBits 22 = .ok (.ior, 1) := by decide +kernel
theorem dX1_orderBits_23 : decode cX1_orderBits 23 = .ok (.istore_n 1, 1) := by decide +kernel
theorem dX1_orderBits_24 : decode cX1_orderBits 24 = .ok (.iinc 2 1, 3) := by decide +kernel
theorem dX1_orderBits_27 : decode cX1_orderBits 27 = .ok (.goto (-23), 3) := by decide +kernel
theorem dX1_orderBits_30 : decode cX1_orderBits 30 = .ok (.iload_n 1, 1) := by decide +kernel
theorem dX1_orderBits_31 : decode cX1_orderBits 31 = .ok (.ireturn, 1) := by decide +kernel
theorem dX1_areApart_0 : decode cX1_areApart 0 = .ok (.iconst 0, 1) := by decide +kernel
theorem dX1_areApart_1 : decode cX1_areApart 1 = .ok (.istore_n 1, 1) := by decide +kernel
theorem dX1_areApart_2 : decode cX1_areApart 2 = .ok (.iconst 0, 1) := by decide +kernel
theorem dX1_areApart_3 : decode cX1_areApart 3 = .ok (.istore_n 2, 1) := by decide +kernel
theorem dX1_areApart_4 : decode cX1_areApart 4 = .ok (.iload_n 2, 1) := by decide +kernel
theorem dX1_areApart_5 : decode cX1_areApart 5 = .ok (.iconst 4, 1) := by decide +kernel
theorem dX1_areApart_6 : decode cX1_areApart 6 = .ok (.if_icmp .ge 22, 3) := by decide +kernel
theorem dX1_areApart_9 : decode cX1_areApart 9 = .ok (.iload_n 1, 1) := by decide +kernel
theorem dX1_areApart_10 : decode cX1_areApart 10 = .ok (.iconst 1, 1) := by decide +kernel
theorem dX1_areApart_11 : decode cX1_areApart 11 = .ok (.aload_n 0, 1) := by decide +kernel
theorem dX1_areApart_12 : decode cX1_areApart 12 = .ok (.getfield 37, 3) := by decide +kernel
theorem dX1_areApart_15 : decode cX1_areApart 15 = .ok (.iload_n 2, 1) := by decide +kernel
theorem dX1_areApart_16 : decode cX1_areApart 16 = .ok (.invokestatic 40, 3) := by decide +kernel
theorem dX1_areApart_19 : decode cX1_areApart 19 = .ok (.ishl, 1) := by decide +kernel
theorem dX1_areApart_20 : decode cX1_areApart 20 = .ok (.ior, 1) := by decide +kernel
theorem dX1_areApart_21 : decode cX1_areApart 21 = .ok (.istore_n 1, 1) := by decide +kernel
theorem dX1_areApart_22 : decode cX1_areApart 22 = .ok (.iinc 2 1, 3) := by decide +kernel
theorem dX1_areApart_25 : decode cX1_areApart 25 = .ok (.goto (-21), 3) := by decide +kernel
theorem dX1_areApart_28 : decode cX1_areApart 28 = .ok (.iload_n 1, 1) := by decide +kernel
theorem dX1_areApart_29 : decode cX1_areApart 29 = .ok (.invokestatic 44, 3) := by decide +kernel
theorem dX1_areApart_32 : decode cX1_areApart 32 = .ok (.iconst 4, 1) := by decide +kernel
theorem dX1_areApart_33 : decode cX1_areApart 33 = .ok (.if_icmp .ne 7, 3) := by decide +kernel
theorem dX1_areApart_36 : decode cX1_areApart 36 = .ok (.iconst 1, 1) := by decide +kernel
theorem dX1_areApart_37 : decode cX1_areApart 37 = .ok (.goto 4, 3) := by decide +kernel
theorem dX1_areApart_40 : decode cX1_areApart 40 = .ok (.iconst 0, 1) := by decide +kernel
theorem dX1_areApart_41 : decode cX1_areApart 41 = .ok (.ireturn, 1) := by decide +kernel
theorem dX1_readItems_0 : decode cX1_readItems 0 = .ok (.aload_n 0, 1) := by decide +kernel
theorem dX1_readItems_1 : decode cX1_readItems 1 = .ok (.iconst 0, 1) := by decide +kernel
theorem dX1_readItems_2 : decode cX1_readItems 2 = .ok (.putfield 49, 3) := by decide +kernel
theorem dX1_readItems_5 : decode cX1_readItems 5 = .ok (.aload_n 0, 1) := by decide +kernel
theorem dX1_readItems_6 : decode cX1_readItems 6 = .ok (.iconst 0, 1) := by decide +kernel
theorem dX1_readItems_7 : decode cX1_readItems 7 = .ok (.putfield 52, 3) := by decide +kernel
theorem dX1_readItems_10 : decode cX1_readItems 10 = .ok (.aload_n 0, 1) := by decide +kernel
theorem dX1_readItems_11 : decode cX1_readItems 11 = .ok (.iconst 0, 1) := by decide +kernel
theorem dX1_readItems_12 : decode cX1_readItems 12 = .ok (.putfield 55, 3) := by decide +kernel
theorem dX1_readItems_15 : decode cX1_readItems 15 = .ok (.aload_n 0, 1) := by decide +kernel
theorem dX1_readItems_16 : decode cX1_readItems 16 = .ok (.sipush 228, 3) := by decide +kernel
theorem dX1_readItems_19 : decode cX1_readItems 19 = .ok (.putfield 37, 3) := by decide +kernel
theorem dX1_readItems_22 : decode cX1_readItems 22 = .ok (.iconst 0, 1) := by decide +kernel
theorem dX1_readItems_23 : decode cX1_readItems 23 = .ok (.istore_n 1, 1) := by decide +kernel
theorem dX1_readItems_24 : decode cX1_readItems 24 = .ok (.iconst 0, 1) := by decide +kernel
theorem dX1_readItems_25 : decode cX1_readItems 25 = .ok (.istore_n 2, 1) := by decide +kernel
theorem dX1_readItems_26 : decode cX1_readItems 26 = .ok (.iload_n 2, 1) := by decide +kernel
theorem dX1_readItems_27 : decode cX1_readItems 27 = .ok (.sipush 200, 3) := by decide +kernel
theorem dX1_readItems_30 : decode cX1_readItems 30 = .ok (.if_icmp .ge 40, 3) := by decide +kernel
theorem dX1_readItems_33 : decode cX1_readItems 33 = .ok (.iload_n 1, 1) := by decide +kernel
theorem dX1_readItems_34 : decode cX1_readItems 34 = .ok (.aload_n 0, 1) := by decide +kernel
theorem dX1_readItems_35 : decode cX1_readItems 35 = .ok (.getfield 15, 3) := by decide +kernel
theorem dX1_readItems_38 : decode cX1_readItems 38 = .ok (.if_icmp .ge 32, 3) := by decide +kernel
theorem dX1_readItems_41 : decode cX1_readItems 41 = .ok (.aload_n 0, 1) := by decide +kernel
theorem dX1_readItems_42 : decode cX1_readItems 42 = .ok (.iload_n 1, 1) := by decide +kernel
theorem dX1_readItems_43 : decode cX1_readItems 43 = .ok (.invokevirtual 60, 3) := by decide +kernel
theorem dX1_readItems_46 : decode cX1_readItems 46 = .ok (.iload_n 1, 1) := by decide +kernel
theorem dX1_readItems_47 : decode cX1_readItems 47 = .ok (.aload_n 0, 1) := by decide +kernel
theorem dX1_readItems_48 : decode cX1_readItems 48 = .ok (.iload_n 1, 1) := by decide +kernel
theorem dX1_readItems_49 : decode cX1_readItems 49 = .ok (.invokevirtual 23, 3) := by decide +kernel
theorem dX1_readItems_52 : decode cX1_readItems 52 = .ok (.bipush 114, 2) := by decide +kernel
theorem dX1_readItems_54 : decode cX1_readItems 54 = .ok (.if_icmp .ne 7, 3) := by decide +kernel
theorem dX1_readItems_57 : decode cX1_readItems 57 = .ok (.iconst 3, 1) := by decide +kernel
theorem dX1_readItems_58 : decode cX1_readItems 58 = .ok (.goto 4, 3) := by decide +kernel
theorem dX1_readItems_61 : decode cX1_readItems 61 = .ok (.iconst 5, 1) := by decide +kernel
theorem dX1_readItems_62 : decode cX1_readItems 62 = .ok (.iadd, 1) := by decide +kernel
theorem dX1_readItems_63 : decode cX1_readItems 63 = .ok (.istore_n 1, 1) := by decide +kernel
theorem dX1_readItems_64 : decode cX1_readItems 64 = .ok (.iinc 2 1, 3) := by decide +kernel
theorem dX1_readItems_67 : decode cX1_readItems 67 = .ok (.goto (-41), 3) := by decide +kernel
theorem dX1_readItems_70 : decode cX1_readItems 70 = .ok (.return_, 1) := by decide +kernel
theorem dX1_readItem_0 : decode cX1_readItem 0 = .ok (.aload_n 0, 1) := by decide +kernel
theorem dX1_readItem_1 : decode cX1_readItem 1 = .ok (.iload_n 1, 1) := by decide +kernel
theorem dX1_readItem_2 : decode cX1_readItem 2 = .ok (.iconst 1, 1) := by decide +kernel
theorem dX1_readItem_3 : decode cX1_readItem 3 = .ok (.iadd, 1) := by decide +kernel
theorem dX1_readItem_4 : decode cX1_readItem 4 = .ok (.invokevirtual 23, 3) := by decide +kernel
theorem dX1_readItem_7 : decode cX1_readItem 7 = .ok (.bipush 48, 2) := by decide +kernel
theorem dX1_readItem_9 : decode cX1_readItem 9 = .ok (.isub, 1) := by decide +kernel
theorem dX1_readItem_10 : decode cX1_readItem 10 = .ok (.istore_n 2, 1) := by decide +kernel
theorem dX1_readItem_11 : decode cX1_readItem 11 = .ok (.aload_n 0, 1) := by decide +kernel
theorem dX1_readItem_12 : decode cX1_readItem 12 = .ok (.iload_n 1, 1) := by decide +kernel
theorem dX1_readItem_13 : decode cX1_readItem 13 = .ok (.iconst 3, 1) := by decide +kernel
theorem dX1_readItem_14 : decode cX1_readItem 14 = .ok (.iadd, 1) := by decide +kernel
theorem dX1_readItem_15 : decode cX1_readItem 15 = .ok (.invokevirtual 23, 3) := by decide +kernel
theorem dX1_readItem_18 : decode cX1_readItem 18 = .ok (.bipush 48, 2) := by decide +kernel
theorem dX1_readItem_20 : decode cX1_readItem 20 = .ok (.isub, 1) := by decide +kernel
theorem dX1_readItem_21 : decode cX1_readItem 21 = .ok (.istore_n 3, 1) := by decide +kernel
theorem dX1_readItem_22 : decode cX1_readItem 22 = .ok (.aload_n 0, 1) := by decide +kernel
theorem dX1_readItem_23 : decode cX1_readItem 23 = .ok (.iload_n 1, 1) := by decide +kernel
theorem dX1_readItem_24 : decode cX1_readItem 24 = .ok (.invokevirtual 23, 3) := by decide +kernel
theorem dX1_readItem_27 : decode cX1_readItem 27 = .ok (.lookupswitch 66 #[(100, 25), (112, 41)], 25) := by decide +kernel
theorem dX1_readItem_52 : decode cX1_readItem 52 = .ok (.aload_n 0, 1) := by decide +kernel
theorem dX1_readItem_53 : decode cX1_readItem 53 = .ok (.aload_n 0, 1) := by decide +kernel
theorem dX1_readItem_54 : decode cX1_readItem 54 = .ok (.getfield 49, 3) := by decide +kernel
theorem dX1_readItem_57 : decode cX1_readItem 57 = .ok (.iload_n 2, 1) := by decide +kernel
theorem dX1_readItem_58 : decode cX1_readItem 58 = .ok (.iload_n 3, 1) := by decide +kernel
theorem dX1_readItem_59 : decode cX1_readItem 59 = .ok (.invokestatic 64, 3) := by decide +kernel
theorem dX1_readItem_62 : decode cX1_readItem 62 = .ok (.putfield 49, 3) := by decide +kernel
theorem dX1_readItem_65 : decode cX1_readItem 65 = .ok (.goto 55, 3) := by decide +kernel
theorem dX1_readItem_68 : decode cX1_readItem 68 = .ok (.aload_n 0, 1) := by decide +kernel
theorem dX1_readItem_69 : decode cX1_readItem 69 = .ok (.aload_n 0, 1) := by decide +kernel
theorem dX1_readItem_70 : decode cX1_readItem 70 = .ok (.getfield 37, 3) := by decide +kernel
theorem dX1_readItem_73 : decode cX1_readItem 73 = .ok (.iconst 3, 1) := by decide +kernel
theorem dX1_readItem_74 : decode cX1_readItem 74 = .ok (.iconst 2, 1) := by decide +kernel
theorem dX1_readItem_75 : decode cX1_readItem 75 = .ok (.iload_n 2, 1) := by decide +kernel
theorem dX1_readItem_76 : decode cX1_readItem 76 = .ok (.imul, 1) := by decide +kernel
theorem dX1_readItem_77 : decode cX1_readItem 77 = .ok (.ishl, 1) := by decide +kernel
theorem dX1_readItem_78 : decode cX1_readItem 78 = .ok (.iconst (-1), 1) := by decide +kernel
theorem dX1_readItem_79 : decode cX1_readItem 79 = .ok (.ixor, 1) := by decide +kernel
theorem dX1_readItem_80 : decode cX1_readItem 80 = .ok (.iand, 1) := by decide +kernel
theorem dX1_readItem_81 : decode cX1_readItem 81 = .ok (.iload_n 3, 1) := by decide +kernel
theorem dX1_readItem_82 : decode cX1_readItem 82 = .ok (.iconst 2, 1) := by decide +kernel
theorem dX1_readItem_83 : decode cX1_readItem 83 = .ok (.iload_n 2, 1) := by decide +kernel
theorem dX1_readItem_84 : decode cX1_readItem 84 = .ok (.imul, 1) := by decide +kernel
theorem dX1_readItem_85 : decode cX1_readItem 85 = .ok (.ishl, 1) := by decide +kernel
theorem dX1_readItem_86 : decode cX1_readItem 86 = .ok (.ior, 1) := by decide +kernel
theorem dX1_readItem_87 : decode cX1_readItem 87 = .ok (.putfield 37, 3) := by decide +kernel
theorem dX1_readItem_90 : decode cX1_readItem 90 = .ok (.goto 30, 3) := by decide +kernel
theorem dX1_readItem_93 : decode cX1_readItem 93 = .ok (.aload_n 0, 1) := by decide +kernel
theorem dX1_readItem_94 : decode cX1_readItem 94 = .ok (.dup, 1) := by decide +kernel
theorem dX1_readItem_95 : decode cX1_readItem 95 = .ok (.getfield 52, 3) := by decide +kernel
theorem dX1_readItem_98 : decode cX1_readItem 98 = .ok (.iload_n 2, 1) := by decide +kernel
theorem dX1_readItem_99 : decode cX1_readItem 99 = .ok (.iconst 2, 1) := by decide +kernel
theorem dX1_readItem_100 : decode cX1_readItem 100 = .ok (.aload_n 0, 1) := by decide +kernel
theorem dX1_readItem_101 : decode cX1_readItem 101 = .ok (.getfield 55, 3) := by decide +kernel
theorem dX1_readItem_104 : decode cX1_readItem 104 = .ok (.imul, 1) := by decide +kernel
theorem dX1_readItem_105 : decode cX1_readItem 105 = .ok (.ishl, 1) := by decide +kernel
theorem dX1_readItem_106 : decode cX1_readItem 106 = .ok (.ior, 1) := by decide +kernel
theorem dX1_readItem_107 : decode cX1_readItem 107 = .ok (.putfield 52, 3) := by decide +kernel
theorem dX1_readItem_110 : decode cX1_readItem 110 = .ok (.aload_n 0, 1) := by decide +kernel
theorem dX1_readItem_111 : decode cX1_readItem 111 = .ok (.dup, 1) := by decide +kernel
theorem dX1_readItem_112 : decode cX1_readItem 112 = .ok (.getfield 55, 3) := by decide +kernel
theorem dX1_readItem_115 : decode cX1_readItem 115 = .ok (.iconst 1, 1) := by decide +kernel
theorem dX1_readItem_116 : decode cX1_readItem 116 = .ok (.iadd, 1) := by decide +kernel
theorem dX1_readItem_117 : decode cX1_readItem 117 = .ok (.putfield 55, 3) := by decide +kernel
theorem dX1_readItem_120 : decode cX1_readItem 120 = .ok (.return_, 1) := by decide +kernel
theorem dX1_endOfItem_0 : decode cX1_endOfItem 0 = .ok (.aload_n 0, 1) := by decide +kernel
theorem dX1_endOfItem_1 : decode cX1_endOfItem 1 = .ok (.iload_n 1, 1) := by decide +kernel
theorem dX1_endOfItem_2 : decode cX1_endOfItem 2 = .ok (.invokevirtual 23, 3) := by decide +kernel
theorem dX1_endOfItem_5 : decode cX1_endOfItem 5 = .ok (.lookupswitch 80 #[(100, 35), (112, 42), (114, 49)], 35) := by decide +kernel
theorem dX1_endOfItem_40 : decode cX1_endOfItem 40 = .ok (.aload_n 0, 1) := by decide +kernel
theorem dX1_endOfItem_41 : decode cX1_endOfItem 41 = .ok (.iload_n 1, 1) := by decide +kernel
theorem dX1_endOfItem_42 : decode cX1_endOfItem 42 = .ok (.iconst 5, 1) := by decide +kernel
theorem dX1_endOfItem_43 : decode cX1_endOfItem 43 = .ok (.invokevirtual 68, 3) := by decide +kernel
theorem dX1_endOfItem_46 : decode cX1_endOfItem 46 = .ok (.ireturn, 1) := by decide +kernel
theorem dX1_endOfItem_47 : decode cX1_endOfItem 47 = .ok (.aload_n 0, 1) := by decide +kernel
theorem dX1_endOfItem_48 : decode cX1_endOfItem 48 = .ok (.iload_n 1, 1) := by decide +kernel
theorem dX1_endOfItem_49 : decode cX1_endOfItem 49 = .ok (.iconst 3, 1) := by decide +kernel
theorem dX1_endOfItem_50 : decode cX1_endOfItem 50 = .ok (.invokevirtual 68, 3) := by decide +kernel
theorem dX1_endOfItem_53 : decode cX1_endOfItem 53 = .ok (.ireturn, 1) := by decide +kernel
theorem dX1_endOfItem_54 : decode cX1_endOfItem 54 = .ok (.aload_n 0, 1) := by decide +kernel
theorem dX1_endOfItem_55 : decode cX1_endOfItem 55 = .ok (.iload_n 1, 1) := by decide +kernel
theorem dX1_endOfItem_56 : decode cX1_endOfItem 56 = .ok (.iconst 1, 1) := by decide +kernel
theorem dX1_endOfItem_57 : decode cX1_endOfItem 57 = .ok (.iadd, 1) := by decide +kernel
theorem dX1_endOfItem_58 : decode cX1_endOfItem 58 = .ok (.iconst 3, 1) := by decide +kernel
theorem dX1_endOfItem_59 : decode cX1_endOfItem 59 = .ok (.invokevirtual 71, 3) := by decide +kernel
theorem dX1_endOfItem_62 : decode cX1_endOfItem 62 = .ok (.ifCond .eq 21, 3) := by decide +kernel
theorem dX1_endOfItem_65 : decode cX1_endOfItem 65 = .ok (.aload_n 0, 1) := by decide +kernel
theorem dX1_endOfItem_66 : decode cX1_endOfItem 66 = .ok (.iload_n 1, 1) := by decide +kernel
theorem dX1_endOfItem_67 : decode cX1_endOfItem 67 = .ok (.iconst 2, 1) := by decide +kernel
theorem dX1_endOfItem_68 : decode cX1_endOfItem 68 = .ok (.iadd, 1) := by decide +kernel
theorem dX1_endOfItem_69 : decode cX1_endOfItem 69 = .ok (.invokevirtual 23, 3) := by decide +kernel
theorem dX1_endOfItem_72 : decode cX1_endOfItem 72 = .ok (.bipush 59, 2) := by decide +kernel
theorem dX1_endOfItem_74 : decode cX1_endOfItem 74 = .ok (.if_icmp .ne 9, 3) := by decide +kernel
theorem dX1_endOfItem_77 : decode cX1_endOfItem 77 = .ok (.iload_n 1, 1) := by decide +kernel
theorem dX1_endOfItem_78 : decode cX1_endOfItem 78 = .ok (.iconst 3, 1) := by decide +kernel
theorem dX1_endOfItem_79 : decode cX1_endOfItem 79 = .ok (.iadd, 1) := by decide +kernel
theorem dX1_endOfItem_80 : decode cX1_endOfItem 80 = .ok (.goto 4, 3) := by decide +kernel
theorem dX1_endOfItem_83 : decode cX1_endOfItem 83 = .ok (.iconst (-1), 1) := by decide +kernel
theorem dX1_endOfItem_84 : decode cX1_endOfItem 84 = .ok (.ireturn, 1) := by decide +kernel
theorem dX1_endOfItem_85 : decode cX1_endOfItem 85 = .ok (.iconst (-1), 1) := by decide +kernel
theorem dX1_endOfItem_86 : decode cX1_endOfItem 86 = .ok (.ireturn, 1) := by decide +kernel
theorem dX1_endOfPair_0 : decode cX1_endOfPair 0 = .ok (.aload_n 0, 1) := by decide +kernel
theorem dX1_endOfPair_1 : decode cX1_endOfPair 1 = .ok (.iload_n 1, 1) := by decide +kernel
theorem dX1_endOfPair_2 : decode cX1_endOfPair 2 = .ok (.iconst 1, 1) := by decide +kernel
theorem dX1_endOfPair_3 : decode cX1_endOfPair 3 = .ok (.iadd, 1) := by decide +kernel
theorem dX1_endOfPair_4 : decode cX1_endOfPair 4 = .ok (.iconst 3, 1) := by decide +kernel
theorem dX1_endOfPair_5 : decode cX1_endOfPair 5 = .ok (.invokevirtual 71, 3) := by decide +kernel
theorem dX1_endOfPair_8 : decode cX1_endOfPair 8 = .ok (.ifCond .eq 42, 3) := by decide +kernel
theorem dX1_endOfPair_11 : decode cX1_endOfPair 11 = .ok (.aload_n 0, 1) := by decide +kernel
theorem dX1_endOfPair_12 : decode cX1_endOfPair 12 = .ok (.iload_n 1, 1) := by decide +kernel
theorem dX1_endOfPair_13 : decode cX1_endOfPair 13 = .ok (.iconst 2, 1) := by decide +kernel
theorem dX1_endOfPair_14 : decode cX1_endOfPair 14 = .ok (.iadd, 1) := by decide +kernel
theorem dX1_endOfPair_15 : decode cX1_endOfPair 15 = .ok (.invokevirtual 23, 3) := by decide +kernel
theorem dX1_endOfPair_18 : decode cX1_endOfPair 18 = .ok (.bipush 44, 2) := by decide +kernel
theorem dX1_endOfPair_20 : decode cX1_endOfPair 20 = .ok (.if_icmp .ne 30, 3) := by decide +kernel
theorem dX1_endOfPair_23 : decode cX1_endOfPair 23 = .ok (.aload_n 0, 1) := by decide +kernel
theorem dX1_endOfPair_24 : decode cX1_endOfPair 24 = .ok (.iload_n 1, 1) := by decide +kernel
theorem dX1_endOfPair_25 : decode cX1_endOfPair 25 = .ok (.iconst 3, 1) := by decide +kernel
theorem dX1_endOfPair_26 : decode cX1_endOfPair 26 = .ok (.iadd, 1) := by decide +kernel
theorem dX1_endOfPair_27 : decode cX1_endOfPair 27 = .ok (.iload_n 2, 1) := by decide +kernel
theorem dX1_endOfPair_28 : decode cX1_endOfPair 28 = .ok (.invokevirtual 71, 3) := by decide +kernel
theorem dX1_endOfPair_31 : decode cX1_endOfPair 31 = .ok (.ifCond .eq 19, 3) := by decide +kernel
theorem dX1_endOfPair_34 : decode cX1_endOfPair 34 = .ok (.aload_n 0, 1) := by decide +kernel
theorem dX1_endOfPair_35 : decode cX1_endOfPair 35 = .ok (.iload_n 1, 1) := by decide +kernel
theorem dX1_endOfPair_36 : decode cX1_endOfPair 36 = .ok (.iconst 4, 1) := by decide +kernel
theorem dX1_endOfPair_37 : decode cX1_endOfPair 37 = .ok (.iadd, 1) := by decide +kernel
theorem dX1_endOfPair_38 : decode cX1_endOfPair 38 = .ok (.invokevirtual 23, 3) := by decide +kernel
theorem dX1_endOfPair_41 : decode cX1_endOfPair 41 = .ok (.bipush 59, 2) := by decide +kernel
theorem dX1_endOfPair_43 : decode cX1_endOfPair 43 = .ok (.if_icmp .ne 7, 3) := by decide +kernel
theorem dX1_endOfPair_46 : decode cX1_endOfPair 46 = .ok (.iconst 1, 1) := by decide +kernel
theorem dX1_endOfPair_47 : decode cX1_endOfPair 47 = .ok (.goto 4, 3) := by decide +kernel
theorem dX1_endOfPair_50 : decode cX1_endOfPair 50 = .ok (.iconst 0, 1) := by decide +kernel
theorem dX1_endOfPair_51 : decode cX1_endOfPair 51 = .ok (.istore_n 3, 1) := by decide +kernel
theorem dX1_endOfPair_52 : decode cX1_endOfPair 52 = .ok (.iload_n 3, 1) := by decide +kernel
theorem dX1_endOfPair_53 : decode cX1_endOfPair 53 = .ok (.ifCond .eq 9, 3) := by decide +kernel
theorem dX1_endOfPair_56 : decode cX1_endOfPair 56 = .ok (.iload_n 1, 1) := by decide +kernel
theorem dX1_endOfPair_57 : decode cX1_endOfPair 57 = .ok (.iconst 5, 1) := by decide +kernel
theorem dX1_endOfPair_58 : decode cX1_endOfPair 58 = .ok (.iadd, 1) := by decide +kernel
theorem dX1_endOfPair_59 : decode cX1_endOfPair 59 = .ok (.goto 4, 3) := by decide +kernel
theorem dX1_endOfPair_62 : decode cX1_endOfPair 62 = .ok (.iconst (-1), 1) := by decide +kernel
theorem dX1_endOfPair_63 : decode cX1_endOfPair 63 = .ok (.ireturn, 1) := by decide +kernel
theorem dX1_isNumber_0 : decode cX1_isNumber 0 = .ok (.aload_n 0, 1) := by decide +kernel
theorem dX1_isNumber_1 : decode cX1_isNumber 1 = .ok (.iload_n 1, 1) := by decide +kernel
theorem dX1_isNumber_2 : decode cX1_isNumber 2 = .ok (.invokevirtual 23, 3) := by decide +kernel
theorem dX1_isNumber_5 : decode cX1_isNumber 5 = .ok (.istore_n 3, 1) := by decide +kernel
theorem dX1_isNumber_6 : decode cX1_isNumber 6 = .ok (.iload_n 3, 1) := by decide +kernel
theorem dX1_isNumber_7 : decode cX1_isNumber 7 = .ok (.bipush 48, 2) := by decide +kernel
theorem dX1_isNumber_9 : decode cX1_isNumber 9 = .ok (.if_icmp .lt 15, 3) := by decide +kernel
theorem dX1_isNumber_12 : decode cX1_isNumber 12 = .ok (.iload_n 3, 1) := by decide +kernel
theorem dX1_isNumber_13 : decode cX1_isNumber 13 = .ok (.bipush 48, 2) := by decide +kernel
theorem dX1_isNumber_15 : decode cX1_isNumber 15 = .ok (.iload_n 2, 1) := by decide +kernel
theorem dX1_isNumber_16 : decode cX1_isNumber 16 = .ok (.iadd, 1) := by decide +kernel
theorem dX1_isNumber_17 : decode cX1_isNumber 17 = .ok (.if_icmp .gt 7, 3) := by decide +kernel
theorem dX1_isNumber_20 : decode cX1_isNumber 20 = .ok (.iconst 1, 1) := by decide +kernel
theorem dX1_isNumber_21 : decode cX1_isNumber 21 = .ok (.goto 4, 3) := by decide +kernel
theorem dX1_isNumber_24 : decode cX1_isNumber 24 = .ok (.iconst 0, 1) := by decide +kernel
theorem dX1_isNumber_25 : decode cX1_isNumber 25 = .ok (.ireturn, 1) := by decide +kernel
theorem dX1_letterAt_0 : decode cX1_letterAt 0 = .ok (.iload_n 1, 1) := by decide +kernel
theorem dX1_letterAt_1 : decode cX1_letterAt 1 = .ok (.ifCond .lt 29, 3) := by decide +kernel
theorem dX1_letterAt_4 : decode cX1_letterAt 4 = .ok (.iload_n 1, 1) := by decide +kernel
theorem dX1_letterAt_5 : decode cX1_letterAt 5 = .ok (.aload_n 0, 1) := by decide +kernel
theorem dX1_letterAt_6 : decode cX1_letterAt 6 = .ok (.getfield 15, 3) := by decide +kernel
theorem dX1_letterAt_9 : decode cX1_letterAt 9 = .ok (.if_icmp .ge 21, 3) := by decide +kernel
theorem dX1_letterAt_12 : decode cX1_letterAt 12 = .ok (.iload_n 1, 1) := by decide +kernel
theorem dX1_letterAt_13 : decode cX1_letterAt 13 = .ok (.aload_n 0, 1) := by decide +kernel
theorem dX1_letterAt_14 : decode cX1_letterAt 14 = .ok (.getfield 9, 3) := by decide +kernel
theorem dX1_letterAt_17 : decode cX1_letterAt 17 = .ok (.arraylength, 1) := by decide +kernel
theorem dX1_letterAt_18 : decode cX1_letterAt 18 = .ok (.if_icmp .ge 12, 3) := by decide +kernel
theorem dX1_letterAt_21 : decode cX1_letterAt 21 = .ok (.aload_n 0, 1) := by decide +kernel
theorem dX1_letterAt_22 : decode cX1_letterAt 22 = .ok (.getfield 9, 3) := by decide +kernel
theorem dX1_letterAt_25 : decode cX1_letterAt 25 = .ok (.iload_n 1, 1) := by decide +kernel
theorem dX1_letterAt_26 : decode cX1_letterAt 26 = .ok (.baload, 1) := by decide +kernel
theorem dX1_letterAt_27 : decode cX1_letterAt 27 = .ok (.goto 4, 3) := by decide +kernel
theorem dX1_letterAt_30 : decode cX1_letterAt 30 = .ok (.iconst 0, 1) := by decide +kernel
theorem dX1_letterAt_31 : decode cX1_letterAt 31 = .ok (.ireturn, 1) := by decide +kernel
theorem dX2_init_0 : decode cX2_init 0 = .ok (.aload_n 0, 1) := by decide +kernel
theorem dX2_init_1 : decode cX2_init 1 = .ok (.invokespecial 3, 3) := by decide +kernel
theorem dX2_init_4 : decode cX2_init 4 = .ok (.aload_n 0, 1) := by decide +kernel
theorem dX2_init_5 : decode cX2_init 5 = .ok (.bipush 8, 2) := by decide +kernel
theorem dX2_init_7 : decode cX2_init 7 = .ok (.anewarray 9, 3) := by decide +kernel
theorem dX2_init_10 : decode cX2_init 10 = .ok (.putfield 11, 3) := by decide +kernel
theorem dX2_init_13 : decode cX2_init 13 = .ok (.iconst 0, 1) := by decide +kernel
theorem dX2_init_14 : decode cX2_init 14 = .ok (.istore_n 1, 1) := by decide +kernel
theorem dX2_init_15 : decode cX2_init 15 = .ok (.iload_n 1, 1) := by decide +kernel
theorem dX2_init_16 : decode cX2_init 16 = .ok (.aload_n 0, 1) := by decide +kernel
theorem dX2_init_17 : decode cX2_init 17 = .ok (.getfield 11, 3) := by decide +kernel
theorem dX2_init_20 : decode cX2_init 20 = .ok (.arraylength, 1) := by decide +kernel
theorem dX2_init_21 : decode cX2_init 21 = .ok (.if_icmp .ge 22, 3) := by decide +kernel
theorem dX2_init_24 : decode cX2_init 24 = .ok (.aload_n 0, 1) := by decide +kernel
theorem dX2_init_25 : decode cX2_init 25 = .ok (.getfield 11, 3) := by decide +kernel
theorem dX2_init_28 : decode cX2_init 28 = .ok (.iload_n 1, 1) := by decide +kernel
theorem dX2_init_29 : decode cX2_init 29 = .ok (.new 9, 3) := by decide +kernel
theorem dX2_init_32 : decode cX2_init 32 = .ok (.dup, 1) := by decide +kernel
theorem dX2_init_33 : decode cX2_init 33 = .ok (.invokespecial 17, 3) := by decide +kernel
theorem dX2_init_36 : decode cX2_init 36 = .ok (.aastore, 1) := by decide +kernel
theorem dX2_init_37 : decode cX2_init 37 = .ok (.iinc 1 1, 3) := by decide +kernel
theorem dX2_init_40 : decode cX2_init 40 = .ok (.goto (-25), 3) := by decide +kernel
theorem dX2_init_43 : decode cX2_init 43 = .ok (.return_, 1) := by decide +kernel
theorem dX2_aimAtWound_0 : decode cX2_aimAtWound 0 = .ok (.aload_n 0, 1) := by decide +kernel
theorem dX2_aimAtWound_1 : decode cX2_aimAtWound 1 = .ok (.iconst 0, 1) := by decide +kernel
theorem dX2_aimAtWound_2 : decode cX2_aimAtWound 2 = .ok (.putfield 18, 3) := by decide +kernel
theorem dX2_aimAtWound_5 : decode cX2_aimAtWound 5 = .ok (.aload_n 0, 1) := by decide +kernel
theorem dX2_aimAtWound_6 : decode cX2_aimAtWound 6 = .ok (.iload_n 1, 1) := by decide +kernel
theorem dX2_aimAtWound_7 : decode cX2_aimAtWound 7 = .ok (.putfield 22, 3) := by decide +kernel
theorem dX2_aimAtWound_10 : decode cX2_aimAtWound 10 = .ok (.aload_n 0, 1) := by decide +kernel
theorem dX2_aimAtWound_11 : decode cX2_aimAtWound 11 = .ok (.iload_n 2, 1) := by decide +kernel
theorem dX2_aimAtWound_12 : decode cX2_aimAtWound 12 = .ok (.putfield 26, 3) := by decide +kernel
theorem dX2_aimAtWound_15 : decode cX2_aimAtWound 15 = .ok (.return_, 1) := by decide +kernel
theorem dX2_aimAtMeeting_0 : decode cX2_aimAtMeeting 0 = .ok (.aload_n 0, 1) := by decide +kernel
theorem dX2_aimAtMeeting_1 : decode cX2_aimAtMeeting 1 = .ok (.iconst 1, 1) := by decide +kernel
theorem dX2_aimAtMeeting_2 : decode cX2_aimAtMeeting 2 = .ok (.putfield 18, 3) := by decide +kernel
theorem dX2_aimAtMeeting_5 : decode cX2_aimAtMeeting 5 = .ok (.aload_n 0, 1) := by decide +kernel
theorem dX2_aimAtMeeting_6 : decode cX2_aimAtMeeting 6 = .ok (.iload_n 1, 1) := by decide +kernel
theorem dX2_aimAtMeeting_7 : decode cX2_aimAtMeeting 7 = .ok (.putfield 29, 3) := by decide +kernel
theorem dX2_aimAtMeeting_10 : decode cX2_aimAtMeeting 10 = .ok (.aload_n 0, 1) := by decide +kernel
theorem dX2_aimAtMeeting_11 : decode cX2_aimAtMeeting 11 = .ok (.iload_n 2, 1) := by decide +kernel
theorem dX2_aimAtMeeting_12 : decode cX2_aimAtMeeting 12 = .ok (.putfield 32, 3) := by decide +kernel
theorem dX2_aimAtMeeting_15 : decode cX2_aimAtMeeting 15 = .ok (.return_, 1) := by decide +kernel
theorem dX2_startFrom_0 : decode cX2_startFrom 0 = .ok (.aload_n 0, 1) := by decide +kernel
theorem dX2_startFrom_1 : decode cX2_startFrom 1 = .ok (.getfield 11, 3) := by decide +kernel
theorem dX2_startFrom_4 : decode cX2_startFrom 4 = .ok (.iconst 0, 1) := by decide +kernel
theorem dX2_startFrom_5 : decode cX2_startFrom 5 = .ok (.aaload, 1) := by decide +kernel
theorem dX2_startFrom_6 : decode cX2_startFrom 6 = .ok (.aload_n 1, 1) := by decide +kernel
theorem dX2_startFrom_7 : decode cX2_startFrom 7 = .ok (.invokevirtual 35, 3) := by decide +kernel
theorem dX2_startFrom_10 : decode cX2_startFrom 10 = .ok (.aload_n 0, 1) := by decide +kernel
theorem dX2_startFrom_11 : decode cX2_startFrom 11 = .ok (.iload_n 2, 1) := by decide +kernel
theorem dX2_startFrom_12 : decode cX2_startFrom 12 = .ok (.putfield 39, 3) := by decide +kernel
theorem dX2_startFrom_15 : decode cX2_startFrom 15 = .ok (.aload_n 0, 1) := by decide +kernel
theorem dX2_startFrom_16 : decode cX2_startFrom 16 = .ok (.bipush 8, 2) := by decide +kernel
theorem dX2_startFrom_18 : decode cX2_startFrom 18 = .ok (.putfield 42, 3) := by decide +kernel
theorem dX2_startFrom_21 : decode cX2_startFrom 21 = .ok (.aload_n 0, 1) := by decide +kernel
theorem dX2_startFrom_22 : decode cX2_startFrom 22 = .ok (.iconst 0, 1) := by decide +kernel
theorem dX2_startFrom_23 : decode cX2_startFrom 23 = .ok (.putfield 45, 3) := by decide +kernel
theorem dX2_startFrom_26 : decode cX2_startFrom 26 = .ok (.return_, 1) := by decide +kernel
theorem dX2_isFound_0 : decode cX2_isFound 0 = .ok (.aload_n 0, 1) := by decide +kernel
theorem dX2_isFound_1 : decode cX2_isFound 1 = .ok (.getfield 42, 3) := by decide +kernel
theorem dX2_isFound_4 : decode cX2_isFound 4 = .ok (.bipush 7, 2) := by decide +kernel
theorem dX2_isFound_6 : decode cX2_isFound 6 = .ok (.if_icmp .gt 7, 3) := by decide +kernel
theorem dX2_isFound_9 : decode cX2_isFound 9 = .ok (.iconst 1, 1) := by decide +kernel
theorem dX2_isFound_10 : decode cX2_isFound 10 = .ok (.goto 4, 3) := by decide +kernel
theorem dX2_isFound_13 : decode cX2_isFound 13 = .ok (.iconst 0, 1) := by decide +kernel
theorem dX2_isFound_14 : decode cX2_isFound 14 = .ok (.ireturn, 1) := by decide +kernel
theorem dX2_isAtGoal_0 : decode cX2_isAtGoal 0 = .ok (.iload_n 1, 1) := by decide +kernel
theorem dX2_isAtGoal_1 : decode cX2_isAtGoal 1 = .ok (.ifCond .lt 12, 3) := by decide +kernel
theorem dX2_isAtGoal_4 : decode cX2_isAtGoal 4 = .ok (.iload_n 1, 1) := by decide +kernel
theorem dX2_isAtGoal_5 : decode cX2_isAtGoal 5 = .ok (.aload_n 0, 1) := by decide +kernel
theorem dX2_isAtGoal_6 : decode cX2_isAtGoal 6 = .ok (.getfield 11, 3) := by decide +kernel
theorem dX2_isAtGoal_9 : decode cX2_isAtGoal 9 = .ok (.arraylength, 1) := by decide +kernel
theorem dX2_isAtGoal_10 : decode cX2_isAtGoal 10 = .ok (.if_icmp .lt 5, 3) := by decide +kernel
theorem dX2_isAtGoal_13 : decode cX2_isAtGoal 13 = .ok (.iconst 0, 1) := by decide +kernel
theorem dX2_isAtGoal_14 : decode cX2_isAtGoal 14 = .ok (.ireturn, 1) := by decide +kernel
theorem dX2_isAtGoal_15 : decode cX2_isAtGoal 15 = .ok (.aload_n 0, 1) := by decide +kernel
theorem dX2_isAtGoal_16 : decode cX2_isAtGoal 16 = .ok (.getfield 11, 3) := by decide +kernel
theorem dX2_isAtGoal_19 : decode cX2_isAtGoal 19 = .ok (.iload_n 1, 1) := by decide +kernel
theorem dX2_isAtGoal_20 : decode cX2_isAtGoal 20 = .ok (.aaload, 1) := by decide +kernel
theorem dX2_isAtGoal_21 : decode cX2_isAtGoal 21 = .ok (.astore_n 2, 1) := by decide +kernel
theorem dX2_isAtGoal_22 : decode cX2_isAtGoal 22 = .ok (.aload_n 0, 1) := by decide +kernel
theorem dX2_isAtGoal_23 : decode cX2_isAtGoal 23 = .ok (.getfield 18, 3) := by decide +kernel
theorem dX2_isAtGoal_26 : decode cX2_isAtGoal 26 = .ok (.ifCond .eq 31, 3) := by decide +kernel
theorem dX2_isAtGoal_29 : decode cX2_isAtGoal 29 = .ok (.aload_n 2, 1) := by decide +kernel
theorem dX2_isAtGoal_30 : decode cX2_isAtGoal 30 = .ok (.aload_n 0, 1) := by decide +kernel
theorem dX2_isAtGoal_31 : decode cX2_isAtGoal 31 = .ok (.getfield 29, 3) := by decide +kernel
theorem dX2_isAtGoal_34 : decode cX2_isAtGoal 34 = .ok (.invokevirtual 48, 3) := by decide +kernel
theorem dX2_isAtGoal_37 : decode cX2_isAtGoal 37 = .ok (.aload_n 2, 1) := by decide +kernel
theorem dX2_isAtGoal_38 : decode cX2_isAtGoal 38 = .ok (.aload_n 0, 1) := by decide +kernel
theorem dX2_isAtGoal_39 : decode cX2_isAtGoal 39 = .ok (.getfield 32, 3) := by decide +kernel
theorem dX2_isAtGoal_42 : decode cX2_isAtGoal 42 = .ok (.invokevirtual 48, 3) := by decide +kernel
theorem dX2_isAtGoal_45 : decode cX2_isAtGoal 45 = .ok (.iadd, 1) := by decide +kernel
theorem dX2_isAtGoal_46 : decode cX2_isAtGoal 46 = .ok (.iconst 2, 1) := by decide +kernel
theorem dX2_isAtGoal_47 : decode cX2_isAtGoal 47 = .ok (.irem, 1) := by decide +kernel
theorem dX2_isAtGoal_48 : decode cX2_isAtGoal 48 = .ok (.ifCond .eq 7, 3) := by decide +kernel
theorem dX2_isAtGoal_51 : decode cX2_isAtGoal 51 = .ok (.iconst 1, 1) := by decide +kernel
theorem dX2_isAtGoal_52 : decode cX2_isAtGoal 52 = .ok (.goto 4, 3) := by decide +kernel
theorem dX2_isAtGoal_55 : decode cX2_isAtGoal 55 = .ok (.iconst 0, 1) := by decide +kernel
theorem dX2_isAtGoal_56 : decode cX2_isAtGoal 56 = .ok (.ireturn, 1) := by decide +kernel
theorem dX2_isAtGoal_57 : decode cX2_isAtGoal 57 = .ok (.aload_n 2, 1) := by decide +kernel
theorem dX2_isAtGoal_58 : decode cX2_isAtGoal 58 = .ok (.aload_n 0, 1) := by decide +kernel
theorem dX2_isAtGoal_59 : decode cX2_isAtGoal 59 = .ok (.getfield 22, 3) := by decide +kernel
theorem dX2_isAtGoal_62 : decode cX2_isAtGoal 62 = .ok (.aload_n 0, 1) := by decide +kernel
theorem dX2_isAtGoal_63 : decode cX2_isAtGoal 63 = .ok (.getfield 26, 3) := by decide +kernel
theorem dX2_isAtGoal_66 : decode cX2_isAtGoal 66 = .ok (.invokevirtual 52, 3) := by decide +kernel
theorem dX2_isAtGoal_69 : decode cX2_isAtGoal 69 = .ok (.ireturn, 1) := by decide +kernel
theorem dX2_goOn_0 : decode cX2_goOn 0 = .ok (.iload_n 1, 1) := by decide +kernel
theorem dX2_goOn_1 : decode cX2_goOn 1 = .ok (.ifCond .lt 14, 3) := by decide +kernel
theorem dX2_goOn_4 : decode cX2_goOn 4 = .ok (.iload_n 1, 1) := by decide +kernel
theorem dX2_goOn_5 : decode cX2_goOn 5 = .ok (.iconst 1, 1) := by decide +kernel
theorem dX2_goOn_6 : decode cX2_goOn 6 = .ok (.iadd, 1) := by decide +kernel
theorem dX2_goOn_7 : decode cX2_goOn 7 = .ok (.aload_n 0, 1) := by decide +kernel
theorem dX2_goOn_8 : decode cX2_goOn 8 = .ok (.getfield 11, 3) := by decide +kernel
theorem dX2_goOn_11 : decode cX2_goOn 11 = .ok (.arraylength, 1) := by decide +kernel
theorem dX2_goOn_12 : decode cX2_goOn 12 = .ok (.if_icmp .lt 5, 3) := by decide +kernel
theorem dX2_goOn_15 : decode cX2_goOn 15 = .ok (.iconst 0, 1) := by decide +kernel
theorem dX2_goOn_16 : decode cX2_goOn 16 = .ok (.ireturn, 1) := by decide +kernel
theorem dX2_goOn_17 : decode cX2_goOn 17 = .ok (.aload_n 0, 1) := by decide +kernel
theorem dX2_goOn_18 : decode cX2_goOn 18 = .ok (.getfield 11, 3) := by decide +kernel
theorem dX2_goOn_21 : decode cX2_goOn 21 = .ok (.iload_n 1, 1) := by decide +kernel
theorem dX2_goOn_22 : decode cX2_goOn 22 = .ok (.iconst 1, 1) := by decide +kernel
theorem dX2_goOn_23 : decode cX2_goOn 23 = .ok (.iadd, 1) := by decide +kernel
theorem dX2_goOn_24 : decode cX2_goOn 24 = .ok (.aaload, 1) := by decide +kernel
theorem dX2_goOn_25 : decode cX2_goOn 25 = .ok (.aload_n 0, 1) := by decide +kernel
theorem dX2_goOn_26 : decode cX2_goOn 26 = .ok (.getfield 11, 3) := by decide +kernel
theorem dX2_goOn_29 : decode cX2_goOn 29 = .ok (.iload_n 1, 1) := by decide +kernel
theorem dX2_goOn_30 : decode cX2_goOn 30 = .ok (.aaload, 1) := by decide +kernel
theorem dX2_goOn_31 : decode cX2_goOn 31 = .ok (.invokevirtual 35, 3) := by decide +kernel
theorem dX2_goOn_34 : decode cX2_goOn 34 = .ok (.aload_n 0, 1) := by decide +kernel
theorem dX2_goOn_35 : decode cX2_goOn 35 = .ok (.getfield 11, 3) := by decide +kernel
theorem dX2_goOn_38 : decode cX2_goOn 38 = .ok (.iload_n 1, 1) := by decide +kernel
theorem dX2_goOn_39 : decode cX2_goOn 39 = .ok (.iconst 1, 1) := by decide +kernel
theorem dX2_goOn_40 : decode cX2_goOn 40 = .ok (.iadd, 1) := by decide +kernel
theorem dX2_goOn_41 : decode cX2_goOn 41 = .ok (.aaload, 1) := by decide +kernel
theorem dX2_goOn_42 : decode cX2_goOn 42 = .ok (.iload_n 2, 1) := by decide +kernel
theorem dX2_goOn_43 : decode cX2_goOn 43 = .ok (.aload_n 0, 1) := by decide +kernel
theorem dX2_goOn_44 : decode cX2_goOn 44 = .ok (.getfield 39, 3) := by decide +kernel
theorem dX2_goOn_47 : decode cX2_goOn 47 = .ok (.invokevirtual 56, 3) := by decide +kernel
theorem dX2_goOn_50 : decode cX2_goOn 50 = .ok (.ireturn, 1) := by decide +kernel
theorem dX2_greaterPart_0 : decode cX2_greaterPart 0 = .ok (.iload_n 1, 1) := by decide +kernel
theorem dX2_greaterPart_1 : decode cX2_greaterPart 1 = .ok (.ifCond .lt 12, 3) := by decide +kernel
theorem dX2_greaterPart_4 : decode cX2_greaterPart 4 = .ok (.iload_n 1, 1) := by decide +kernel
theorem dX2_greaterPart_5 : decode cX2_greaterPart 5 = .ok (.aload_n 0, 1) := by decide +kernel
theorem dX2_greaterPart_6 : decode cX2_greaterPart 6 = .ok (.getfield 11, 3) := by decide +kernel
theorem dX2_greaterPart_9 : decode cX2_greaterPart 9 = .ok (.arraylength, 1) := by decide +kernel
theorem dX2_greaterPart_10 : decode cX2_greaterPart 10 = .ok (.if_icmp .lt 5, 3) := by decide +kernel
theorem dX2_greaterPart_13 : decode cX2_greaterPart 13 = .ok (.iconst 0, 1) := by decide +kernel
theorem dX2_greaterPart_14 : decode cX2_greaterPart 14 = .ok (.ireturn, 1) := by decide +kernel
theorem dX2_greaterPart_15 : decode cX2_greaterPart 15 = .ok (.aload_n 0, 1) := by decide +kernel
theorem dX2_greaterPart_16 : decode cX2_greaterPart 16 = .ok (.getfield 11, 3) := by decide +kernel
theorem dX2_greaterPart_19 : decode cX2_greaterPart 19 = .ok (.iload_n 1, 1) := by decide +kernel
theorem dX2_greaterPart_20 : decode cX2_greaterPart 20 = .ok (.aaload, 1) := by decide +kernel
theorem dX2_greaterPart_21 : decode cX2_greaterPart 21 = .ok (.getfield 59, 3) := by decide +kernel
theorem dX2_greaterPart_24 : decode cX2_greaterPart 24 = .ok (.invokestatic 62, 3) := by decide +kernel
theorem dX2_greaterPart_27 : decode cX2_greaterPart 27 = .ok (.aload_n 0, 1) := by decide +kernel
theorem dX2_greaterPart_28 : decode cX2_greaterPart 28 = .ok (.getfield 11, 3) := by decide +kernel
theorem dX2_greaterPart_31 : decode cX2_greaterPart 31 = .ok (.iload_n 1, 1) := by decide +kernel
theorem dX2_greaterPart_32 : decode cX2_greaterPart 32 = .ok (.aaload, 1) := by decide +kernel
theorem dX2_greaterPart_33 : decode cX2_greaterPart 33 = .ok (.getfield 67, 3) := by decide +kernel
theorem dX2_greaterPart_36 : decode cX2_greaterPart 36 = .ok (.invokestatic 70, 3) := by decide +kernel
theorem dX2_greaterPart_39 : decode cX2_greaterPart 39 = .ok (.ireturn, 1) := by decide +kernel
theorem dX2_seek_0 : decode cX2_seek 0 = .ok (.iload_n 1, 1) := by decide +kernel
theorem dX2_seek_1 : decode cX2_seek 1 = .ok (.aload_n 0, 1) := by decide +kernel
theorem dX2_seek_2 : decode cX2_seek 2 = .ok (.getfield 42, 3) := by decide +kernel
theorem dX2_seek_5 : decode cX2_seek 5 = .ok (.if_icmp .ge 9, 3) := by decide +kernel
theorem dX2_seek_8 : decode cX2_seek 8 = .ok (.iload_n 1, 1) := by decide +kernel
theorem dX2_seek_9 : decode cX2_seek 9 = .ok (.bipush 7, 2) := by decide +kernel
theorem dX2_seek_11 : decode cX2_seek 11 = .ok (.if_icmp .le 4, 3) := by decide +kernel
theorem dX2_seek_14 : decode cX2_seek 14 = .ok (.return_, 1) := by decide +kernel
theorem dX2_seek_15 : decode cX2_seek 15 = .ok (.aload_n 0, 1) := by decide +kernel
theorem dX2_seek_16 : decode cX2_seek 16 = .ok (.iload_n 1, 1) := by decide +kernel
theorem dX2_seek_17 : decode cX2_seek 17 = .ok (.invokevirtual 74, 3) := by decide +kernel
theorem dX2_seek_20 : decode cX2_seek 20 = .ok (.ifCond .eq 14, 3) := by decide +kernel
theorem dX2_seek_23 : decode cX2_seek 23 = .ok (.aload_n 0, 1) := by decide +kernel
theorem dX2_seek_24 : decode cX2_seek 24 = .ok (.iload_n 1, 1) := by decide +kernel
theorem dX2_seek_25 : decode cX2_seek 25 = .ok (.putfield 42, 3) := by decide +kernel
theorem dX2_seek_28 : decode cX2_seek 28 = .ok (.aload_n 0, 1) := by decide +kernel
theorem dX2_seek_29 : decode cX2_seek 29 = .ok (.iload_n 2, 1) := by decide +kernel
theorem dX2_seek_30 : decode cX2_seek 30 = .ok (.putfield 45, 3) := by decide +kernel
theorem dX2_seek_33 : decode cX2_seek 33 = .ok (.return_, 1) := by decide +kernel
theorem dX2_seek_34 : decode cX2_seek 34 = .ok (.iconst 0, 1) := by decide +kernel
theorem dX2_seek_35 : decode cX2_seek 35 = .ok (.istore_n 3, 1) := by decide +kernel
theorem dX2_seek_36 : decode cX2_seek 36 = .ok (.iload_n 3, 1) := by decide +kernel
theorem dX2_seek_37 : decode cX2_seek 37 = .ok (.iconst 2, 1) := by decide +kernel
theorem dX2_seek_38 : decode cX2_seek 38 = .ok (.if_icmp .gt 42, 3) := by decide +kernel
theorem dX2_seek_41 : decode cX2_seek 41 = .ok (.iload_n 1, 1) := by decide +kernel
theorem dX2_seek_42 : decode cX2_seek 42 = .ok (.iconst 1, 1) := by decide +kernel
theorem dX2_seek_43 : decode cX2_seek 43 = .ok (.iadd, 1) := by decide +kernel
theorem dX2_seek_44 : decode cX2_seek 44 = .ok (.aload_n 0, 1) := by decide +kernel
theorem dX2_seek_45 : decode cX2_seek 45 = .ok (.getfield 42, 3) := by decide +kernel
theorem dX2_seek_48 : decode cX2_seek 48 = .ok (.if_icmp .ge 32, 3) := by decide +kernel
theorem dX2_seek_51 : decode cX2_seek 51 = .ok (.aload_n 0, 1) := by decide +kernel
theorem dX2_seek_52 : decode cX2_seek 52 = .ok (.iload_n 1, 1) := by decide +kernel
theorem dX2_seek_53 : decode cX2_seek 53 = .ok (.iload_n 3, 1) := by decide +kernel
theorem dX2_seek_54 : decode cX2_seek 54 = .ok (.invokevirtual 78, 3) := by decide +kernel
theorem dX2_seek_57 : decode cX2_seek 57 = .ok (.ifCond .eq 17, 3) := by decide +kernel
theorem dX2_seek_60 : decode cX2_seek 60 = .ok (.aload_n 0, 1) := by decide +kernel
theorem dX2_seek_61 : decode cX2_seek 61 = .ok (.iload_n 1, 1) := by decide +kernel
theorem dX2_seek_62 : decode cX2_seek 62 = .ok (.iconst 1, 1) := by decide +kernel
theorem dX2_seek_63 : decode cX2_seek 63 = .ok (.iadd, 1) := by decide +kernel
theorem dX2_seek_64 : decode cX2_seek 64 = .ok (.iload_n 2, 1) := by decide +kernel
theorem dX2_seek_65 : decode cX2_seek 65 = .ok (.iload_n 3, 1) := by decide +kernel
theorem dX2_seek_66 : decode cX2_seek 66 = .ok (.iconst 2, 1) := by decide +kernel
theorem dX2_seek_67 : decode cX2_seek 67 = .ok (.iload_n 1, 1) := by decide +kernel
theorem dX2_seek_68 : decode cX2_seek 68 = .ok (.imul, 1) := by decide +kernel
theorem dX2_seek_69 : decode cX2_seek 69 = .ok (.ishl, 1) := by decide +kernel
theorem dX2_seek_70 : decode cX2_seek 70 = .ok (.ior, 1) := by decide +kernel
theorem dX2_seek_71 : decode cX2_seek 71 = .ok (.invokestatic 81, 3) := by decide +kernel
theorem dX2_seek_74 : decode cX2_seek 74 = .ok (.iinc 3 1, 3) := by decide +kernel
theorem dX2_seek_77 : decode cX2_seek 77 = .ok (.goto (-41), 3) := by decide +kernel
theorem dX2_seek_80 : decode cX2_seek 80 = .ok (.return_, 1) := by decide +kernel
theorem dX2_rowsFrom_0 : decode cX2_rowsFrom 0 = .ok (.iload_n 1, 1) := by decide +kernel
theorem dX2_rowsFrom_1 : decode cX2_rowsFrom 1 = .ok (.iload_n 2, 1) := by decide +kernel
theorem dX2_rowsFrom_2 : decode cX2_rowsFrom 2 = .ok (.if_icmp .ge 9, 3) := by decide +kernel
theorem dX2_rowsFrom_5 : decode cX2_rowsFrom 5 = .ok (.iload_n 1, 1) := by decide +kernel
theorem dX2_rowsFrom_6 : decode cX2_rowsFrom 6 = .ok (.bipush 7, 2) := by decide +kernel
theorem dX2_rowsFrom_8 : decode cX2_rowsFrom 8 = .ok (.if_icmp .lt 17, 3) := by decide +kernel
theorem dX2_rowsFrom_11 : decode cX2_rowsFrom 11 = .ok (.aload_n 0, 1) := by decide +kernel
theorem dX2_rowsFrom_12 : decode cX2_rowsFrom 12 = .ok (.iload_n 1, 1) := by decide +kernel
theorem dX2_rowsFrom_13 : decode cX2_rowsFrom 13 = .ok (.invokevirtual 74, 3) := by decide +kernel
theorem dX2_rowsFrom_16 : decode cX2_rowsFrom 16 = .ok (.ifCond .eq 7, 3) := by decide +kernel
theorem dX2_rowsFrom_19 : decode cX2_rowsFrom 19 = .ok (.iconst 1, 1) := by decide +kernel
theorem dX2_rowsFrom_20 : decode cX2_rowsFrom 20 = .ok (.goto 4, 3) := by decide +kernel
theorem dX2_rowsFrom_23 : decode cX2_rowsFrom 23 = .ok (.iconst 0, 1) := by decide +kernel
theorem dX2_rowsFrom_24 : decode cX2_rowsFrom 24 = .ok (.ireturn, 1) := by decide +kernel
theorem dX2_rowsFrom_25 : decode cX2_rowsFrom 25 = .ok (.iconst 0, 1) := by decide +kernel
theorem dX2_rowsFrom_26 : decode cX2_rowsFrom 26 = .ok (.istore_n 3, 1) := by decide +kernel
theorem dX2_rowsFrom_27 : decode cX2_rowsFrom 27 = .ok (.iconst 0, 1) := by decide +kernel
theorem dX2_rowsFrom_28 : decode cX2_rowsFrom 28 = .ok (.istore 4, 2) := by decide +kernel
theorem dX2_rowsFrom_30 : decode cX2_rowsFrom 30 = .ok (.iload 4, 2) := by decide +kernel
theorem dX2_rowsFrom_32 : decode cX2_rowsFrom 32 = .ok (.iconst 2, 1) := by decide +kernel
theorem dX2_rowsFrom_33 : decode cX2_rowsFrom 33 = .ok (.if_icmp .gt 30, 3) := by decide +kernel
theorem dX2_rowsFrom_36 : decode cX2_rowsFrom 36 = .ok (.aload_n 0, 1) := by decide +kernel
theorem dX2_rowsFrom_37 : decode cX2_rowsFrom 37 = .ok (.iload_n 1, 1) := by decide +kernel
theorem dX2_rowsFrom_38 : decode cX2_rowsFrom 38 = .ok (.iload 4, 2) := by decide +kernel
theorem dX2_rowsFrom_40 : decode cX2_rowsFrom 40 = .ok (.invokevirtual 78, 3) := by decide +kernel
theorem dX2_rowsFrom_43 : decode cX2_rowsFrom 43 = .ok (.ifCond .eq 14, 3) := by decide +kernel
theorem dX2_rowsFrom_46 : decode cX2_rowsFrom 46 = .ok (.iload_n 3, 1) := by decide +kernel
theorem dX2_rowsFrom_47 : decode cX2_rowsFrom 47 = .ok (.aload_n 0, 1) := by decide +kernel
theorem dX2_rowsFrom_48 : decode cX2_rowsFrom 48 = .ok (.iload_n 1, 1) := by decide +kernel
theorem dX2_rowsFrom_49 : decode cX2_rowsFrom 49 = .ok (.iconst 1, 1) := by decide +kernel
theorem dX2_rowsFrom_50 : decode cX2_rowsFrom 50 = .ok (.iadd, 1) := by decide +kernel
theorem dX2_rowsFrom_51 : decode cX2_rowsFrom 51 = .ok (.iload_n 2, 1) := by decide +kernel
theorem dX2_rowsFrom_52 : decode cX2_rowsFrom 52 = .ok (.invokestatic 85, 3) := by decide +kernel
theorem dX2_rowsFrom_55 : decode cX2_rowsFrom 55 = .ok (.iadd, 1) := by decide +kernel
theorem dX2_rowsFrom_56 : decode cX2_rowsFrom 56 = .ok (.istore_n 3, 1) := by decide +kernel
theorem dX2_rowsFrom_57 : decode cX2_rowsFrom 57 = .ok (.iinc 4 1, 3) := by decide +kernel
theorem dX2_rowsFrom_60 : decode cX2_rowsFrom 60 = .ok (.goto (-30), 3) := by decide +kernel
theorem dX2_rowsFrom_63 : decode cX2_rowsFrom 63 = .ok (.iload_n 3, 1) := by decide +kernel
theorem dX2_rowsFrom_64 : decode cX2_rowsFrom 64 = .ok (.ireturn, 1) := by decide +kernel
theorem dX2_bestFrom_0 : decode cX2_bestFrom 0 = .ok (.iload_n 1, 1) := by decide +kernel
theorem dX2_bestFrom_1 : decode cX2_bestFrom 1 = .ok (.iload_n 2, 1) := by decide +kernel
theorem dX2_bestFrom_2 : decode cX2_bestFrom 2 = .ok (.if_icmp .ge 9, 3) := by decide +kernel
theorem dX2_bestFrom_5 : decode cX2_bestFrom 5 = .ok (.iload_n 1, 1) := by decide +kernel
theorem dX2_bestFrom_6 : decode cX2_bestFrom 6 = .ok (.bipush 7, 2) := by decide +kernel
theorem dX2_bestFrom_8 : decode cX2_bestFrom 8 = .ok (.if_icmp .lt 9, 3) := by decide +kernel
theorem dX2_bestFrom_11 : decode cX2_bestFrom 11 = .ok (.aload_n 0, 1) := by decide +kernel
theorem dX2_bestFrom_12 : decode cX2_bestFrom 12 = .ok (.iload_n 1, 1) := by decide +kernel
theorem dX2_bestFrom_13 : decode cX2_bestFrom 13 = .ok (.invokevirtual 89, 3) := by decide +kernel
theorem dX2_bestFrom_16 : decode cX2_bestFrom 16 = .ok (.ireturn, 1) := by decide +kernel
theorem dX2_bestFrom_17 : decode cX2_bestFrom 17 = .ok (.iload_n 1, 1) := by decide +kernel
theorem dX2_bestFrom_18 : decode cX2_bestFrom 18 = .ok (.iconst 2, 1) := by decide +kernel
theorem dX2_bestFrom_19 : decode cX2_bestFrom 19 = .ok (.irem, 1) := by decide +kernel
theorem dX2_bestFrom_20 : decode cX2_bestFrom 20 = .ok (.ifCond .ne 7, 3) := by decide +kernel
theorem dX2_bestFrom_23 : decode cX2_bestFrom 23 = .ok (.iconst 1, 1) := by decide +kernel
theorem dX2_bestFrom_24 : decode cX2_bestFrom 24 = .ok (.goto 4, 3) := by decide +kernel
theorem dX2_bestFrom_27 : decode cX2_bestFrom 27 = .ok (.iconst 0, 1) := by decide +kernel
theorem dX2_bestFrom_28 : decode cX2_bestFrom 28 = .ok (.istore_n 3, 1) := by decide +kernel
theorem dX2_bestFrom_29 : decode cX2_bestFrom 29 = .ok (.aload_n 0, 1) := by decide +kernel
theorem dX2_bestFrom_30 : decode cX2_bestFrom 30 = .ok (.iload_n 1, 1) := by decide +kernel
theorem dX2_bestFrom_31 : decode cX2_bestFrom 31 = .ok (.iconst 3, 1) := by decide +kernel
theorem dX2_bestFrom_32 : decode cX2_bestFrom 32 = .ok (.invokevirtual 78, 3) := by decide +kernel
theorem dX2_bestFrom_35 : decode cX2_bestFrom 35 = .ok (.pop, 1) := by decide +kernel
theorem dX2_bestFrom_36 : decode cX2_bestFrom 36 = .ok (.aload_n 0, 1) := by decide +kernel
theorem dX2_bestFrom_37 : decode cX2_bestFrom 37 = .ok (.iload_n 1, 1) := by decide +kernel
theorem dX2_bestFrom_38 : decode cX2_bestFrom 38 = .ok (.iconst 1, 1) := by decide +kernel
theorem dX2_bestFrom_39 : decode cX2_bestFrom 39 = .ok (.iadd, 1) := by decide +kernel
theorem dX2_bestFrom_40 : decode cX2_bestFrom 40 = .ok (.iload_n 2, 1) := by decide +kernel
theorem dX2_bestFrom_41 : decode cX2_bestFrom 41 = .ok (.invokestatic 92, 3) := by decide +kernel
theorem dX2_bestFrom_44 : decode cX2_bestFrom 44 = .ok (.istore 4, 2) := by decide +kernel
theorem dX2_bestFrom_46 : decode cX2_bestFrom 46 = .ok (.aload_n 0, 1) := by decide +kernel
theorem dX2_bestFrom_47 : decode cX2_bestFrom 47 = .ok (.iload_n 1, 1) := by decide +kernel
theorem dX2_bestFrom_48 : decode cX2_bestFrom 48 = .ok (.iconst 2, 1) := by decide +kernel
theorem dX2_bestFrom_49 : decode cX2_bestFrom 49 = .ok (.invokevirtual 78, 3) := by decide +kernel
theorem dX2_bestFrom_52 : decode cX2_bestFrom 52 = .ok (.ifCond .eq 19, 3) := by decide +kernel
theorem dX2_bestFrom_55 : decode cX2_bestFrom 55 = .ok (.iload_n 3, 1) := by decide +kernel
theorem dX2_bestFrom_56 : decode cX2_bestFrom 56 = .ok (.iload 4, 2) := by decide +kernel
theorem dX2_bestFrom_58 : decode cX2_bestFrom 58 = .ok (.aload_n 0, 1) := by decide +kernel
theorem dX2_bestFrom_59 : decode cX2_bestFrom 59 = .ok (.iload_n 1, 1) := by decide +kernel
theorem dX2_bestFrom_60 : decode cX2_bestFrom 60 = .ok (.iconst 1, 1) := by decide +kernel
theorem dX2_bestFrom_61 : decode cX2_bestFrom 61 = .ok (.iadd, 1) := by decide +kernel
theorem dX2_bestFrom_62 : decode cX2_bestFrom 62 = .ok (.iload_n 2, 1) := by decide +kernel
theorem dX2_bestFrom_63 : decode cX2_bestFrom 63 = .ok (.invokestatic 92, 3) := by decide +kernel
theorem dX2_bestFrom_66 : decode cX2_bestFrom 66 = .ok (.invokestatic 95, 3) := by decide +kernel
theorem dX2_bestFrom_69 : decode cX2_bestFrom 69 = .ok (.istore 4, 2) := by decide +kernel
theorem dX2_bestFrom_71 : decode cX2_bestFrom 71 = .ok (.aload_n 0, 1) := by decide +kernel
theorem dX2_bestFrom_72 : decode cX2_bestFrom 72 = .ok (.iload_n 1, 1) := by decide +kernel
theorem dX2_bestFrom_73 : decode cX2_bestFrom 73 = .ok (.iload_n 3, 1) := by decide +kernel
theorem dX2_bestFrom_74 : decode cX2_bestFrom 74 = .ok (.ifCond .eq 7, 3) := by decide +kernel
theorem dX2_bestFrom_77 : decode cX2_bestFrom 77 = .ok (.iconst 0, 1) := by decide +kernel
theorem dX2_bestFrom_78 : decode cX2_bestFrom 78 = .ok (.goto 4, 3) := by decide +kernel
theorem dX2_bestFrom_81 : decode cX2_bestFrom 81 = .ok (.iconst 1, 1) := by decide +kernel
theorem dX2_bestFrom_82 : decode cX2_bestFrom 82 = .ok (.invokevirtual 78, 3) := by decide +kernel
theorem dX2_bestFrom_85 : decode cX2_bestFrom 85 = .ok (.ifCond .eq 19, 3) := by decide +kernel
theorem dX2_bestFrom_88 : decode cX2_bestFrom 88 = .ok (.iload_n 3, 1) := by decide +kernel
theorem dX2_bestFrom_89 : decode cX2_bestFrom 89 = .ok (.iload 4, 2) := by decide +kernel
theorem dX2_bestFrom_91 : decode cX2_bestFrom 91 = .ok (.aload_n 0, 1) := by decide +kernel
theorem dX2_bestFrom_92 : decode cX2_bestFrom 92 = .ok (.iload_n 1, 1) := by decide +kernel
theorem dX2_bestFrom_93 : decode cX2_bestFrom 93 = .ok (.iconst 1, 1) := by decide +kernel
theorem dX2_bestFrom_94 : decode cX2_bestFrom 94 = .ok (.iadd, 1) := by decide +kernel
theorem dX2_bestFrom_95 : decode cX2_bestFrom 95 = .ok (.iload_n 2, 1) := by decide +kernel
theorem dX2_bestFrom_96 : decode cX2_bestFrom 96 = .ok (.invokestatic 92, 3) := by decide +kernel
theorem dX2_bestFrom_99 : decode cX2_bestFrom 99 = .ok (.invokestatic 95, 3) := by decide +kernel
theorem dX2_bestFrom_102 : decode cX2_bestFrom 102 = .ok (.istore 4, 2) := by decide +kernel
theorem dX2_bestFrom_104 : decode cX2_bestFrom 104 = .ok (.iload 4, 2) := by decide +kernel
theorem dX2_bestFrom_106 : decode cX2_bestFrom 106 = .ok (.ireturn, 1) := by decide +kernel
theorem dX2_better_0 : decode cX2_better 0 = .ok (.iload_n 0, 1) := by decide +kernel
theorem dX2_better_1 : decode cX2_better 1 = .ok (.ifCond .eq 11, 3) := by decide +kernel
theorem dX2_better_4 : decode cX2_better 4 = .ok (.iload_n 1, 1) := by decide +kernel
theorem dX2_better_5 : decode cX2_better 5 = .ok (.iload_n 2, 1) := by decide +kernel
theorem dX2_better_6 : decode cX2_better 6 = .ok (.invokestatic 70, 3) := by decide +kernel
theorem dX2_better_9 : decode cX2_better 9 = .ok (.goto 8, 3) := by decide +kernel
theorem dX2_better_12 : decode cX2_better 12 = .ok (.iload_n 1, 1) := by decide +kernel
theorem dX2_better_13 : decode cX2_better 13 = .ok (.iload_n 2, 1) := by decide +kernel
theorem dX2_better_14 : decode cX2_better 14 = .ok (.invokestatic 99, 3) := by decide +kernel
theorem dX2_better_17 : decode cX2_better 17 = .ok (.ireturn, 1) := by decide +kernel
theorem dX2_chanceFrom_0 : decode cX2_chanceFrom 0 = .ok (.iload_n 1, 1) := by decide +kernel
theorem dX2_chanceFrom_1 : decode cX2_chanceFrom 1 = .ok (.iload_n 2, 1) := by decide +kernel
theorem dX2_chanceFrom_2 : decode cX2_chanceFrom 2 = .ok (.if_icmp .ge 9, 3) := by decide +kernel
theorem dX2_chanceFrom_5 : decode cX2_chanceFrom 5 = .ok (.iload_n 1, 1) := by decide +kernel
theorem dX2_chanceFrom_6 : decode cX2_chanceFrom 6 = .ok (.bipush 7, 2) := by decide +kernel
theorem dX2_chanceFrom_8 : decode cX2_chanceFrom 8 = .ok (.if_icmp .lt 17, 3) := by decide +kernel
theorem dX2_chanceFrom_11 : decode cX2_chanceFrom 11 = .ok (.aload_n 0, 1) := by decide +kernel
theorem dX2_chanceFrom_12 : decode cX2_chanceFrom 12 = .ok (.iload_n 1, 1) := by decide +kernel
theorem dX2_chanceFrom_13 : decode cX2_chanceFrom 13 = .ok (.invokevirtual 74, 3) := by decide +kernel
theorem dX2_chanceFrom_16 : decode cX2_chanceFrom 16 = .ok (.ifCond .eq 7, 3) := by decide +kernel
theorem dX2_chanceFrom_19 : decode cX2_chanceFrom 19 = .ok (.iconst 1, 1) := by decide +kernel
theorem dX2_chanceFrom_20 : decode cX2_chanceFrom 20 = .ok (.goto 4, 3) := by decide +kernel
theorem dX2_chanceFrom_23 : decode cX2_chanceFrom 23 = .ok (.iconst 0, 1) := by decide +kernel
theorem dX2_chanceFrom_24 : decode cX2_chanceFrom 24 = .ok (.ireturn, 1) := by decide +kernel
theorem dX2_chanceFrom_25 : decode cX2_chanceFrom 25 = .ok (.aload_n 0, 1) := by decide +kernel
theorem dX2_chanceFrom_26 : decode cX2_chanceFrom 26 = .ok (.iload_n 1, 1) := by decide +kernel
theorem dX2_chanceFrom_27 : decode cX2_chanceFrom 27 = .ok (.iconst 3, 1) := by decide +kernel
theorem dX2_chanceFrom_28 : decode cX2_chanceFrom 28 = .ok (.invokevirtual 78, 3) := by decide +kernel
theorem dX2_chanceFrom_31 : decode cX2_chanceFrom 31 = .ok (.pop, 1) := by decide +kernel
theorem dX2_chanceFrom_32 : decode cX2_chanceFrom 32 = .ok (.aload_n 0, 1) := by decide +kernel
theorem dX2_chanceFrom_33 : decode cX2_chanceFrom 33 = .ok (.iload_n 1, 1) := by decide +kernel
theorem dX2_chanceFrom_34 : decode cX2_chanceFrom 34 = .ok (.iconst 1, 1) := by decide +kernel
theorem dX2_chanceFrom_35 : decode cX2_chanceFrom 35 = .ok (.iadd, 1) := by decide +kernel
theorem dX2_chanceFrom_36 : decode cX2_chanceFrom 36 = .ok (.iload_n 2, 1) := by decide +kernel
theorem dX2_chanceFrom_37 : decode cX2_chanceFrom 37 = .ok (.iload_n 3, 1) := by decide +kernel
theorem dX2_chanceFrom_38 : decode cX2_chanceFrom 38 = .ok (.iload 4, 2) := by decide +kernel
theorem dX2_chanceFrom_40 : decode cX2_chanceFrom 40 = .ok (.invokestatic 102, 3) := by decide +kernel
theorem dX2_chanceFrom_43 : decode cX2_chanceFrom 43 = .ok (.istore 5, 2) := by decide +kernel
theorem dX2_chanceFrom_45 : decode cX2_chanceFrom 45 = .ok (.aload_n 0, 1) := by decide +kernel
theorem dX2_chanceFrom_46 : decode cX2_chanceFrom 46 = .ok (.iload_n 1, 1) := by decide +kernel
theorem dX2_chanceFrom_47 : decode cX2_chanceFrom 47 = .ok (.iload_n 3, 1) := by decide +kernel
theorem dX2_chanceFrom_48 : decode cX2_chanceFrom 48 = .ok (.iload_n 1, 1) := by decide +kernel
theorem dX2_chanceFrom_49 : decode cX2_chanceFrom 49 = .ok (.invokestatic 106, 3) := by decide +kernel
theorem dX2_chanceFrom_52 : decode cX2_chanceFrom 52 = .ok (.invokevirtual 78, 3) := by decide +kernel
theorem dX2_chanceFrom_55 : decode cX2_chanceFrom 55 = .ok (.ifCond .ne 10, 3) := by decide +kernel
theorem dX2_chanceFrom_58 : decode cX2_chanceFrom 58 = .ok (.aload_n 0, 1) := by decide +kernel
theorem dX2_chanceFrom_59 : decode cX2_chanceFrom 59 = .ok (.iload_n 1, 1) := by decide +kernel
theorem dX2_chanceFrom_60 : decode cX2_chanceFrom 60 = .ok (.iconst 3, 1) := by decide +kernel
theorem dX2_chanceFrom_61 : decode cX2_chanceFrom 61 = .ok (.invokevirtual 78, 3) := by decide +kernel
theorem dX2_chanceFrom_64 : decode cX2_chanceFrom 64 = .ok (.pop, 1) := by decide +kernel
theorem dX2_chanceFrom_65 : decode cX2_chanceFrom 65 = .ok (.aload_n 0, 1) := by decide +kernel
theorem dX2_chanceFrom_66 : decode cX2_chanceFrom 66 = .ok (.iload_n 1, 1) := by decide +kernel
theorem dX2_chanceFrom_67 : decode cX2_chanceFrom 67 = .ok (.iconst 1, 1) := by decide +kernel
theorem dX2_chanceFrom_68 : decode cX2_chanceFrom 68 = .ok (.iadd, 1) := by decide +kernel
theorem dX2_chanceFrom_69 : decode cX2_chanceFrom 69 = .ok (.iload_n 2, 1) := by decide +kernel
theorem dX2_chanceFrom_70 : decode cX2_chanceFrom 70 = .ok (.iload_n 3, 1) := by decide +kernel
theorem dX2_chanceFrom_71 : decode cX2_chanceFrom 71 = .ok (.iload 4, 2) := by decide +kernel
theorem dX2_chanceFrom_73 : decode cX2_chanceFrom 73 = .ok (.invokestatic 102, 3) := by decide +kernel
theorem dX2_chanceFrom_76 : decode cX2_chanceFrom 76 = .ok (.istore 6, 2) := by decide +kernel
theorem dX2_chanceFrom_78 : decode cX2_chanceFrom 78 = .ok (.iload 4, 2) := by decide +kernel
theorem dX2_chanceFrom_80 : decode cX2_chanceFrom 80 = .ok (.iload 5, 2) := by decide +kernel
theorem dX2_chanceFrom_82 : decode cX2_chanceFrom 82 = .ok (.imul, 1) := by decide +kernel
theorem dX2_chanceFrom_83 : decode cX2_chanceFrom 83 = .ok (.bipush 10, 2) := by decide +kernel
theorem dX2_chanceFrom_85 : decode cX2_chanceFrom 85 = .ok (.iload 4, 2) := by decide +kernel
theorem dX2_chanceFrom_87 : decode cX2_chanceFrom 87 = .ok (.isub, 1) := by decide +kernel
theorem dX2_chanceFrom_88 : decode cX2_chanceFrom 88 = .ok (.iload 6, 2) := by decide +kernel
theorem dX2_chanceFrom_90 : decode cX2_chanceFrom 90 = .ok (.imul, 1) := by decide +kernel
theorem dX2_chanceFrom_91 : decode cX2_chanceFrom 91 = .ok (.iadd, 1) := by decide +kernel
theorem dX2_chanceFrom_92 : decode cX2_chanceFrom 92 = .ok (.ireturn, 1) := by decide +kernel
theorem dX3_init_0 : decode cX3_init 0 = .ok (.aload_n 0, 1) := by decide +kernel
theorem dX3_init_1 : decode cX3_init 1 = .ok (.invokespecial 3, 3) := by decide +kernel
theorem dX3_init_4 : decode cX3_init 4 = .ok (.aload_n 0, 1) := by decide +kernel
theorem dX3_init_5 : decode cX3_init 5 = .ok (.sipush 228, 3) := by decide +kernel
theorem dX3_init_8 : decode cX3_init 8 = .ok (.putfield 11, 3) := by decide +kernel
theorem dX3_init_11 : decode cX3_init 11 = .ok (.aload_n 0, 1) := by decide +kernel
theorem dX3_init_12 : decode cX3_init 12 = .ok (.iconst 1, 1) := by decide +kernel
theorem dX3_init_13 : decode cX3_init 13 = .ok (.putfield 15, 3) := by decide +kernel
theorem dX3_init_16 : decode cX3_init 16 = .ok (.return_, 1) := by decide +kernel
theorem dX3_begin_0 : decode cX3_begin 0 = .ok (.aload_n 0, 1) := by decide +kernel
theorem dX3_begin_1 : decode cX3_begin 1 = .ok (.iload_n 1, 1) := by decide +kernel
theorem dX3_begin_2 : decode cX3_begin 2 = .ok (.putfield 11, 3) := by decide +kernel
theorem dX3_begin_5 : decode cX3_begin 5 = .ok (.aload_n 0, 1) := by decide +kernel
theorem dX3_begin_6 : decode cX3_begin 6 = .ok (.iconst 1, 1) := by decide +kernel
theorem dX3_begin_7 : decode cX3_begin 7 = .ok (.aload_n 0, 1) := by decide +kernel
theorem dX3_begin_8 : decode cX3_begin 8 = .ok (.iconst 2, 1) := by decide +kernel
theorem dX3_begin_9 : decode cX3_begin 9 = .ok (.invokevirtual 18, 3) := by decide +kernel
theorem dX3_begin_12 : decode cX3_begin 12 = .ok (.ishl, 1) := by decide +kernel
theorem dX3_begin_13 : decode cX3_begin 13 = .ok (.iconst 1, 1) := by decide +kernel
theorem dX3_begin_14 : decode cX3_begin 14 = .ok (.aload_n 0, 1) := by decide +kernel
theorem dX3_begin_15 : decode cX3_begin 15 = .ok (.iconst 3, 1) := by decide +kernel
theorem dX3_begin_16 : decode cX3_begin 16 = .ok (.invokevirtual 18, 3) := by decide +kernel
theorem dX3_begin_19 : decode cX3_begin 19 = .ok (.ishl, 1) := by decide +kernel
theorem dX3_begin_20 : decode cX3_begin 20 = .ok (.ior, 1) := by decide +kernel
theorem dX3_begin_21 : decode cX3_begin 21 = .ok (.putfield 22, 3) := by decide +kernel
theorem dX3_begin_24 : decode cX3_begin 24 = .ok (.aload_n 0, 1) := by decide +kernel
theorem dX3_begin_25 : decode cX3_begin 25 = .ok (.iconst 0, 1) := by decide +kernel
theorem dX3_begin_26 : decode cX3_begin 26 = .ok (.putfield 25, 3) := by decide +kernel
theorem dX3_begin_29 : decode cX3_begin 29 = .ok (.aload_n 0, 1) := by decide +kernel
theorem dX3_begin_30 : decode cX3_begin 30 = .ok (.iconst 1, 1) := by decide +kernel
theorem dX3_begin_31 : decode cX3_begin 31 = .ok (.putfield 15, 3) := by decide +kernel
theorem dX3_begin_34 : decode cX3_begin 34 = .ok (.aload_n 0, 1) := by decide +kernel
theorem dX3_begin_35 : decode cX3_begin 35 = .ok (.iconst 0, 1) := by decide +kernel
theorem dX3_begin_36 : decode cX3_begin 36 = .ok (.putfield 28, 3) := by decide +kernel
theorem dX3_begin_39 : decode cX3_begin 39 = .ok (.aload_n 0, 1) := by decide +kernel
theorem dX3_begin_40 : decode cX3_begin 40 = .ok (.iconst 0, 1) := by decide +kernel
theorem dX3_begin_41 : decode cX3_begin 41 = .ok (.putfield 31, 3) := by decide +kernel
theorem dX3_begin_44 : decode cX3_begin 44 = .ok (.return_, 1) := by decide +kernel
theorem dX3_take_0 : decode cX3_take 0 = .ok (.aload_n 0, 1) := by decide +kernel
theorem dX3_take_1 : decode cX3_take 1 = .ok (.aload_n 1, 1) := by decide +kernel
theorem dX3_take_2 : decode cX3_take 2 = .ok (.getfield 11, 3) := by decide +kernel
theorem dX3_take_5 : decode cX3_take 5 = .ok (.putfield 11, 3) := by decide +kernel
theorem dX3_take_8 : decode cX3_take 8 = .ok (.aload_n 0, 1) := by decide +kernel
theorem dX3_take_9 : decode cX3_take 9 = .ok (.aload_n 1, 1) := by decide +kernel
theorem dX3_take_10 : decode cX3_take 10 = .ok (.getfield 22, 3) := by decide +kernel
theorem dX3_take_13 : decode cX3_take 13 = .ok (.putfield 22, 3) := by decide +kernel
theorem dX3_take_16 : decode cX3_take 16 = .ok (.aload_n 0, 1) := by decide +kernel
theorem dX3_take_17 : decode cX3_take 17 = .ok (.aload_n 1, 1) := by decide +kernel
theorem dX3_take_18 : decode cX3_take 18 = .ok (.getfield 25, 3) := by decide +kernel
theorem dX3_take_21 : decode cX3_take 21 = .ok (.putfield 25, 3) := by decide +kernel
theorem dX3_take_24 : decode cX3_take 24 = .ok (.aload_n 0, 1) := by decide +kernel
theorem dX3_take_25 : decode cX3_take 25 = .ok (.aload_n 1, 1) := by decide +kernel
theorem dX3_take_26 : decode cX3_take 26 = .ok (.getfield 15, 3) := by decide +kernel
theorem dX3_take_29 : decode cX3_take 29 = .ok (.putfield 15, 3) := by decide +kernel
theorem dX3_take_32 : decode cX3_take 32 = .ok (.aload_n 0, 1) := by decide +kernel
theorem dX3_take_33 : decode cX3_take 33 = .ok (.aload_n 1, 1) := by decide +kernel
theorem dX3_take_34 : decode cX3_take 34 = .ok (.getfield 28, 3) := by decide +kernel
theorem dX3_take_37 : decode cX3_take 37 = .ok (.putfield 28, 3) := by decide +kernel
theorem dX3_take_40 : decode cX3_take 40 = .ok (.aload_n 0, 1) := by decide +kernel
theorem dX3_take_41 : decode cX3_take 41 = .ok (.aload_n 1, 1) := by decide +kernel
theorem dX3_take_42 : decode cX3_take 42 = .ok (.getfield 31, 3) := by decide +kernel
theorem dX3_take_45 : decode cX3_take 45 = .ok (.putfield 31, 3) := by decide +kernel
theorem dX3_take_48 : decode cX3_take 48 = .ok (.return_, 1) := by decide +kernel
theorem dX3_whoAt_0 : decode cX3_whoAt 0 = .ok (.aload_n 0, 1) := by decide +kernel
theorem dX3_whoAt_1 : decode cX3_whoAt 1 = .ok (.getfield 11, 3) := by decide +kernel
theorem dX3_whoAt_4 : decode cX3_whoAt 4 = .ok (.iconst 2, 1) := by decide +kernel
theorem dX3_whoAt_5 : decode cX3_whoAt 5 = .ok (.iload_n 1, 1) := by decide +kernel
theorem dX3_whoAt_6 : decode cX3_whoAt 6 = .ok (.imul, 1) := by decide +kernel
theorem dX3_whoAt_7 : decode cX3_whoAt 7 = .ok (.ishr, 1) := by decide +kernel
theorem dX3_whoAt_8 : decode cX3_whoAt 8 = .ok (.iconst 3, 1) := by decide +kernel
theorem dX3_whoAt_9 : decode cX3_whoAt 9 = .ok (.iand, 1) := by decide +kernel
theorem dX3_whoAt_10 : decode cX3_whoAt 10 = .ok (.ireturn, 1) := by decide +kernel
theorem dX3_placeOf_0 : decode cX3_placeOf 0 = .ok (.iconst 0, 1) := by decide +kernel
theorem dX3_placeOf_1 : decode cX3_placeOf 1 = .ok (.istore_n 2, 1) := by decide +kernel
theorem dX3_placeOf_2 : decode cX3_placeOf 2 = .ok (.iload_n 2, 1) := by decide +kernel
theorem dX3_placeOf_3 : decode cX3_placeOf 3 = .ok (.iconst 4, 1) := by decide +kernel
theorem dX3_placeOf_4 : decode cX3_placeOf 4 = .ok (.if_icmp .ge 20, 3) := by decide +kernel
theorem dX3_placeOf_7 : decode cX3_placeOf 7 = .ok (.aload_n 0, 1) := by decide +kernel
theorem dX3_placeOf_8 : decode cX3_placeOf 8 = .ok (.iload_n 2, 1) := by decide +kernel
theorem dX3_placeOf_9 : decode cX3_placeOf 9 = .ok (.invokevirtual 18, 3) := by decide +kernel
theorem dX3_placeOf_12 : decode cX3_placeOf 12 = .ok (.iload_n 1, 1) := by decide +kernel
theorem dX3_placeOf_13 : decode cX3_placeOf 13 = .ok (.if_icmp .ne 5, 3) := by decide +kernel
theorem dX3_placeOf_16 : decode cX3_placeOf 16 = .ok (.iload_n 2, 1) := by decide +kernel
theorem dX3_placeOf_17 : decode cX3_placeOf 17 = .ok (.ireturn, 1) := by decide +kernel
theorem dX3_placeOf_18 : decode cX3_placeOf 18 = .ok (.iinc 2 1, 3) := by decide +kernel
theorem dX3_placeOf_21 : decode cX3_placeOf 21 = .ok (.goto (-19), 3) := by decide +kernel
theorem dX3_placeOf_24 : decode cX3_placeOf 24 = .ok (.iconst (-1), 1) := by decide +kernel
theorem dX3_placeOf_25 : decode cX3_placeOf 25 = .ok (.ireturn, 1) := by decide +kernel
theorem dX3_ropeOf_0 : decode cX3_ropeOf 0 = .ok (.aload_n 0, 1) := by decide +kernel
theorem dX3_ropeOf_1 : decode cX3_ropeOf 1 = .ok (.getfield 22, 3) := by decide +kernel
theorem dX3_ropeOf_4 : decode cX3_ropeOf 4 = .ok (.iload_n 1, 1) := by decide +kernel
theorem dX3_ropeOf_5 : decode cX3_ropeOf 5 = .ok (.ishr, 1) := by decide +kernel
theorem dX3_ropeOf_6 : decode cX3_ropeOf 6 = .ok (.iconst 1, 1) := by decide +kernel
theorem dX3_ropeOf_7 : decode cX3_ropeOf 7 = .ok (.iand, 1) := by decide +kernel
theorem dX3_ropeOf_8 : decode cX3_ropeOf 8 = .ok (.ireturn, 1) := by decide +kernel
theorem dX3_twistsOf_0 : decode cX3_twistsOf 0 = .ok (.iload_n 1, 1) := by decide +kernel
theorem dX3_twistsOf_1 : decode cX3_twistsOf 1 = .ok (.ifCond .eq 10, 3) := by decide +kernel
theorem dX3_twistsOf_4 : decode cX3_twistsOf 4 = .ok (.iload_n 1, 1) := by decide +kernel
theorem dX3_twistsOf_5 : decode cX3_twistsOf 5 = .ok (.iconst 1, 1) := by decide +kernel
theorem dX3_twistsOf_6 : decode cX3_twistsOf 6 = .ok (.if_icmp .eq 5, 3) := by decide +kernel
theorem dX3_twistsOf_9 : decode cX3_twistsOf 9 = .ok (.iconst 0, 1) := by decide +kernel
theorem dX3_twistsOf_10 : decode cX3_twistsOf 10 = .ok (.ireturn, 1) := by decide +kernel
theorem dX3_twistsOf_11 : decode cX3_twistsOf 11 = .ok (.iload_n 1, 1) := by decide +kernel
theorem dX3_twistsOf_12 : decode cX3_twistsOf 12 = .ok (.ifCond .ne 7, 3) := by decide +kernel
theorem dX3_twistsOf_15 : decode cX3_twistsOf 15 = .ok (.iconst 1, 1) := by decide +kernel
theorem dX3_twistsOf_16 : decode cX3_twistsOf 16 = .ok (.goto 4, 3) := by decide +kernel
theorem dX3_twistsOf_19 : decode cX3_twistsOf 19 = .ok (.iconst (-1), 1) := by decide +kernel
theorem dX3_twistsOf_20 : decode cX3_twistsOf 20 = .ok (.istore_n 3, 1) := by decide +kernel
theorem dX3_twistsOf_21 : decode cX3_twistsOf 21 = .ok (.aload_n 0, 1) := by decide +kernel
theorem dX3_twistsOf_22 : decode cX3_twistsOf 22 = .ok (.iconst 1, 1) := by decide +kernel
theorem dX3_twistsOf_23 : decode cX3_twistsOf 23 = .ok (.invokevirtual 18, 3) := by decide +kernel
theorem dX3_twistsOf_26 : decode cX3_twistsOf 26 = .ok (.istore 4, 2) := by decide +kernel
theorem dX3_twistsOf_28 : decode cX3_twistsOf 28 = .ok (.iload_n 2, 1) := by decide +kernel
theorem dX3_twistsOf_29 : decode cX3_twistsOf 29 = .ok (.iload 4, 2) := by decide +kernel
theorem dX3_twistsOf_31 : decode cX3_twistsOf 31 = .ok (.invokestatic 34, 3) := by decide +kernel
theorem dX3_twistsOf_34 : decode cX3_twistsOf 34 = .ok (.tableswitch 96 1 5 #[34, 37, 52, 56, 80], 34) := by decide +kernel
theorem dX3_twistsOf_68 : decode cX3_twistsOf 68 = .ok (.iload_n 3, 1) := by decide +kernel
theorem dX3_twistsOf_69 : decode cX3_twistsOf 69 = .ok (.ineg, 1) := by decide +kernel
theorem dX3_twistsOf_70 : decode cX3_twistsOf 70 = .ok (.ireturn, 1) := by decide +kernel
theorem dX3_twistsOf_71 : decode cX3_twistsOf 71 = .ok (.aload_n 0, 1) := by decide +kernel
theorem dX3_twistsOf_72 : decode cX3_twistsOf 72 = .ok (.getfield 31, 3) := by decide +kernel
theorem dX3_twistsOf_75 : decode cX3_twistsOf 75 = .ok (.iconst 2, 1) := by decide +kernel
theorem dX3_twistsOf_76 : decode cX3_twistsOf 76 = .ok (.irem, 1) := by decide +kernel
theorem dX3_twistsOf_77 : decode cX3_twistsOf 77 = .ok (.ifCond .ne 7, 3) := by decide +kernel
theorem dX3_twistsOf_80 : decode cX3_twistsOf 80 = .ok (.iload_n 3, 1) := by decide +kernel
theorem dX3_twistsOf_81 : decode cX3_twistsOf 81 = .ok (.goto 4, 3) := by decide +kernel
theorem dX3_twistsOf_84 : decode cX3_twistsOf 84 = .ok (.iconst 0, 1) := by decide +kernel
theorem dX3_twistsOf_85 : decode cX3_twistsOf 85 = .ok (.ireturn, 1) := by decide +kernel
theorem dX3_twistsOf_86 : decode cX3_twistsOf 86 = .ok (.iconst 2, 1) := by decide +kernel
theorem dX3_twistsOf_87 : decode cX3_twistsOf 87 = .ok (.iload_n 3, 1) := by decide +kernel
theorem dX3_twistsOf_88 : decode cX3_twistsOf 88 = .ok (.imul, 1) := by decide +kernel
theorem dX3_twistsOf_89 : decode cX3_twistsOf 89 = .ok (.ireturn, 1) := by decide +kernel
theorem dX3_twistsOf_90 : decode cX3_twistsOf 90 = .ok (.aload_n 0, 1) := by decide +kernel
theorem dX3_twistsOf_91 : decode cX3_twistsOf 91 = .ok (.iload 4, 2) := by decide +kernel
theorem dX3_twistsOf_93 : decode cX3_twistsOf 93 = .ok (.invokevirtual 38, 3) := by decide +kernel
theorem dX3_twistsOf_96 : decode cX3_twistsOf 96 = .ok (.aload_n 0, 1) := by decide +kernel
theorem dX3_twistsOf_97 : decode cX3_twistsOf 97 = .ok (.aload_n 0, 1) := by decide +kernel
theorem dX3_twistsOf_98 : decode cX3_twistsOf 98 = .ok (.iconst 2, 1) := by decide +kernel
theorem dX3_twistsOf_99 : decode cX3_twistsOf 99 = .ok (.invokevirtual 18, 3) := by decide +kernel
theorem dX3_twistsOf_102 : decode cX3_twistsOf 102 = .ok (.invokevirtual 38, 3) := by decide +kernel
theorem dX3_twistsOf_105 : decode cX3_twistsOf 105 = .ok (.if_icmp .ne 7, 3) := by decide +kernel
theorem dX3_twistsOf_108 : decode cX3_twistsOf 108 = .ok (.iconst 0, 1) := by decide +kernel
theorem dX3_twistsOf_109 : decode cX3_twistsOf 109 = .ok (.goto 4, 3) := by decide +kernel
theorem dX3_twistsOf_112 : decode cX3_twistsOf 112 = .ok (.iload_n 3, 1) := by decide +kernel
theorem dX3_twistsOf_113 : decode cX3_twistsOf 113 = .ok (.ireturn, 1) := by decide +kernel
theorem dX3_twistsOf_114 : decode cX3_twistsOf 114 = .ok (.aload_n 0, 1) := by decide +kernel
theorem dX3_twistsOf_115 : decode cX3_twistsOf 115 = .ok (.getfield 28, 3) := by decide +kernel
theorem dX3_twistsOf_118 : decode cX3_twistsOf 118 = .ok (.ifCond .ne 7, 3) := by decide +kernel
theorem dX3_twistsOf_121 : decode cX3_twistsOf 121 = .ok (.iload_n 3, 1) := by decide +kernel
theorem dX3_twistsOf_122 : decode cX3_twistsOf 122 = .ok (.goto 7, 3) := by decide +kernel
theorem dX3_twistsOf_125 : decode cX3_twistsOf 125 = .ok (.aload_n 0, 1) := by decide +kernel
theorem dX3_twistsOf_126 : decode cX3_twistsOf 126 = .ok (.getfield 28, 3) := by decide +kernel
theorem dX3_twistsOf_129 : decode cX3_twistsOf 129 = .ok (.ireturn, 1) := by decide +kernel
theorem dX3_twistsOf_130 : decode cX3_twistsOf 130 = .ok (.iload_n 3, 1) := by decide +kernel
theorem dX3_twistsOf_131 : decode cX3_twistsOf 131 = .ok (.ireturn, 1) := by decide +kernel
theorem dX3_isWoundAs_0 : decode cX3_isWoundAs 0 = .ok (.aload_n 0, 1) := by decide +kernel
theorem dX3_isWoundAs_1 : decode cX3_isWoundAs 1 = .ok (.getfield 25, 3) := by decide +kernel
theorem dX3_isWoundAs_4 : decode cX3_isWoundAs 4 = .ok (.iload_n 1, 1) := by decide +kernel
theorem dX3_isWoundAs_5 : decode cX3_isWoundAs 5 = .ok (.if_icmp .ne 15, 3) := by decide +kernel
theorem dX3_isWoundAs_8 : decode cX3_isWoundAs 8 = .ok (.aload_n 0, 1) := by decide +kernel
theorem dX3_isWoundAs_9 : decode cX3_isWoundAs 9 = .ok (.getfield 15, 3) := by decide +kernel
theorem dX3_isWoundAs_12 : decode cX3_isWoundAs 12 = .ok (.iload_n 2, 1) := by decide +kernel
theorem dX3_isWoundAs_13 : decode cX3_isWoundAs 13 = .ok (.if_icmp .ne 7, 3) := by decide +kernel
theorem dX3_isWoundAs_16 : decode cX3_isWoundAs 16 = .ok (.iconst 1, 1) := by decide +kernel
theorem dX3_isWoundAs_17 : decode cX3_isWoundAs 17 = .ok (.goto 4, 3) := by decide +kernel
theorem dX3_isWoundAs_20 : decode cX3_isWoundAs 20 = .ok (.iconst 0, 1) := by decide +kernel
theorem dX3_isWoundAs_21 : decode cX3_isWoundAs 21 = .ok (.ireturn, 1) := by decide +kernel
theorem dX3_woundCode_0 : decode cX3_woundCode 0 = .ok (.aload_n 0, 1) := by decide +kernel
theorem dX3_woundCode_1 : decode cX3_woundCode 1 = .ok (.getfield 25, 3) := by decide +kernel
theorem dX3_woundCode_4 : decode cX3_woundCode 4 = .ok (.sipush 10000, 3) := by decide +kernel
theorem dX3_woundCode_7 : decode cX3_woundCode 7 = .ok (.imul, 1) := by decide +kernel
theorem dX3_woundCode_8 : decode cX3_woundCode 8 = .ok (.aload_n 0, 1) := by decide +kernel
theorem dX3_woundCode_9 : decode cX3_woundCode 9 = .ok (.getfield 15, 3) := by decide +kernel
theorem dX3_woundCode_12 : decode cX3_woundCode 12 = .ok (.iadd, 1) := by decide +kernel
theorem dX3_woundCode_13 : decode cX3_woundCode 13 = .ok (.ireturn, 1) := by decide +kernel
theorem dX3_isTooTight_0 : decode cX3_isTooTight 0 = .ok (.aload_n 0, 1) := by decide +kernel
theorem dX3_isTooTight_1 : decode cX3_isTooTight 1 = .ok (.getfield 25, 3) := by decide +kernel
theorem dX3_isTooTight_4 : decode cX3_isTooTight 4 = .ok (.iload_n 1, 1) := by decide +kernel
theorem dX3_isTooTight_5 : decode cX3_isTooTight 5 = .ok (.aload_n 0, 1) := by decide +kernel
theorem dX3_isTooTight_6 : decode cX3_isTooTight 6 = .ok (.getfield 15, 3) := by decide +kernel
theorem dX3_isTooTight_9 : decode cX3_isTooTight 9 = .ok (.imul, 1) := by decide +kernel
theorem dX3_isTooTight_10 : decode cX3_isTooTight 10 = .ok (.iadd, 1) := by decide +kernel
theorem dX3_isTooTight_11 : decode cX3_isTooTight 11 = .ok (.invokestatic 41, 3) := by decide +kernel
theorem dX3_isTooTight_14 : decode cX3_isTooTight 14 = .ok (.sipush 9999, 3) := by decide +kernel
theorem dX3_isTooTight_17 : decode cX3_isTooTight 17 = .ok (.if_icmp .le 7, 3) := by decide +kernel
theorem dX3_isTooTight_20 : decode cX3_isTooTight 20 = .ok (.iconst 1, 1) := by decide +kernel
theorem dX3_isTooTight_21 : decode cX3_isTooTight 21 = .ok (.goto 4, 3) := by decide +kernel
theorem dX3_isTooTight_24 : decode cX3_isTooTight 24 = .ok (.iconst 0, 1) := by decide +kernel
theorem dX3_isTooTight_25 : decode cX3_isTooTight 25 = .ok (.ireturn, 1) := by decide +kernel
theorem dX3_step_0 : decode cX3_step 0 = .ok (.aload_n 0, 1) := by decide +kernel
theorem dX3_step_1 : decode cX3_step 1 = .ok (.iload_n 1, 1) := by decide +kernel
theorem dX3_step_2 : decode cX3_step 2 = .ok (.iload_n 2, 1) := by decide +kernel
theorem dX3_step_3 : decode cX3_step 3 = .ok (.invokevirtual 46, 3) := by decide +kernel
theorem dX3_step_6 : decode cX3_step 6 = .ok (.istore_n 3, 1) := by decide +kernel
theorem dX3_step_7 : decode cX3_step 7 = .ok (.aload_n 0, 1) := by decide +kernel
theorem dX3_step_8 : decode cX3_step 8 = .ok (.iload_n 3, 1) := by decide +kernel
theorem dX3_step_9 : decode cX3_step 9 = .ok (.invokevirtual 49, 3) := by decide +kernel
theorem dX3_step_12 : decode cX3_step 12 = .ok (.ifCond .eq 5, 3) := by decide +kernel
theorem dX3_step_15 : decode cX3_step 15 = .ok (.iconst 0, 1) := by decide +kernel
theorem dX3_step_16 : decode cX3_step 16 = .ok (.ireturn, 1) := by decide +kernel
theorem dX3_step_17 : decode cX3_step 17 = .ok (.iload_n 1, 1) := by decide +kernel
theorem dX3_step_18 : decode cX3_step 18 = .ok (.iconst 2, 1) := by decide +kernel
theorem dX3_step_19 : decode cX3_step 19 = .ok (.if_icmp .ne 7, 3) := by decide +kernel
theorem dX3_step_22 : decode cX3_step 22 = .ok (.aload_n 0, 1) := by decide +kernel
theorem dX3_step_23 : decode cX3_step 23 = .ok (.invokevirtual 53, 3) := by decide +kernel
theorem dX3_step_26 : decode cX3_step 26 = .ok (.aload_n 0, 1) := by decide +kernel
theorem dX3_step_27 : decode cX3_step 27 = .ok (.dup, 1) := by decide +kernel
theorem dX3_step_28 : decode cX3_step 28 = .ok (.getfield 25, 3) := by decide +kernel
theorem dX3_step_31 : decode cX3_step 31 = .ok (.iload_n 3, 1) := by decide +kernel
theorem dX3_step_32 : decode cX3_step 32 = .ok (.aload_n 0, 1) := by decide +kernel
theorem dX3_step_33 : decode cX3_step 33 = .ok (.getfield 15, 3) := by decide +kernel
theorem dX3_step_36 : decode cX3_step 36 = .ok (.imul, 1) := by decide +kernel
theorem dX3_step_37 : decode cX3_step 37 = .ok (.iadd, 1) := by decide +kernel
theorem dX3_step_38 : decode cX3_step 38 = .ok (.putfield 25, 3) := by decide +kernel
theorem dX3_step_41 : decode cX3_step 41 = .ok (.iload_n 3, 1) := by decide +kernel
theorem dX3_step_42 : decode cX3_step 42 = .ok (.ifCond .eq 16, 3) := by decide +kernel
theorem dX3_step_45 : decode cX3_step 45 = .ok (.aload_n 0, 1) := by decide +kernel
theorem dX3_step_46 : decode cX3_step 46 = .ok (.iload_n 3, 1) := by decide +kernel
theorem dX3_step_47 : decode cX3_step 47 = .ok (.ifCond .le 7, 3) := by decide +kernel
theorem dX3_step_50 : decode cX3_step 50 = .ok (.iconst 1, 1) := by decide +kernel
theorem dX3_step_51 : decode cX3_step 51 = .ok (.goto 4, 3) := by decide +kernel
theorem dX3_step_54 : decode cX3_step 54 = .ok (.iconst (-1), 1) := by decide +kernel
theorem dX3_step_55 : decode cX3_step 55 = .ok (.putfield 28, 3) := by decide +kernel
theorem dX3_step_58 : decode cX3_step 58 = .ok (.iload_n 3, 1) := by decide +kernel
theorem dX3_step_59 : decode cX3_step 59 = .ok (.iconst 2, 1) := by decide +kernel
theorem dX3_step_60 : decode cX3_step 60 = .ok (.irem, 1) := by decide +kernel
theorem dX3_step_61 : decode cX3_step 61 = .ok (.ifCond .eq 9, 3) := by decide +kernel
theorem dX3_step_64 : decode cX3_step 64 = .ok (.aload_n 0, 1) := by decide +kernel
theorem dX3_step_65 : decode cX3_step 65 = .ok (.iconst 1, 1) := by decide +kernel
theorem dX3_step_66 : decode cX3_step 66 = .ok (.iconst 2, 1) := by decide +kernel
theorem dX3_step_67 : decode cX3_step 67 = .ok (.invokevirtual 56, 3) := by decide +kernel
theorem dX3_step_70 : decode cX3_step 70 = .ok (.aload_n 0, 1) := by decide +kernel
theorem dX3_step_71 : decode cX3_step 71 = .ok (.dup, 1) := by decide +kernel
theorem dX3_step_72 : decode cX3_step 72 = .ok (.getfield 31, 3) := by decide +kernel
theorem dX3_step_75 : decode cX3_step 75 = .ok (.iconst 1, 1) := by decide +kernel
theorem dX3_step_76 : decode cX3_step 76 = .ok (.iadd, 1) := by decide +kernel
theorem dX3_step_77 : decode cX3_step 77 = .ok (.putfield 31, 3) := by decide +kernel
theorem dX3_step_80 : decode cX3_step 80 = .ok (.iconst 1, 1) := by decide +kernel
theorem dX3_step_81 : decode cX3_step 81 = .ok (.ireturn, 1) := by decide +kernel
theorem dX3_exchange_0 : decode cX3_exchange 0 = .ok (.aload_n 0, 1) := by decide +kernel
theorem dX3_exchange_1 : decode cX3_exchange 1 = .ok (.iload_n 1, 1) := by decide +kernel
theorem dX3_exchange_2 : decode cX3_exchange 2 = .ok (.invokevirtual 38, 3) := by decide +kernel
theorem dX3_exchange_5 : decode cX3_exchange 5 = .ok (.aload_n 0, 1) := by decide +kernel
theorem dX3_exchange_6 : decode cX3_exchange 6 = .ok (.iload_n 2, 1) := by decide +kernel
theorem dX3_exchange_7 : decode cX3_exchange 7 = .ok (.invokevirtual 38, 3) := by decide +kernel
theorem dX3_exchange_10 : decode cX3_exchange 10 = .ok (.ixor, 1) := by decide +kernel
theorem dX3_exchange_11 : decode cX3_exchange 11 = .ok (.istore_n 3, 1) := by decide +kernel
theorem dX3_exchange_12 : decode cX3_exchange 12 = .ok (.aload_n 0, 1) := by decide +kernel
theorem dX3_exchange_13 : decode cX3_exchange 13 = .ok (.dup, 1) := by decide +kernel
theorem dX3_exchange_14 : decode cX3_exchange 14 = .ok (.getfield 22, 3) := by decide +kernel
theorem dX3_exchange_17 : decode cX3_exchange 17 = .ok (.iload_n 3, 1) := by decide +kernel
theorem dX3_exchange_18 : decode cX3_exchange 18 = .ok (.iload_n 1, 1) := by decide +kernel
theorem dX3_exchange_19 : decode cX3_exchange 19 = .ok (.ishl, 1) := by decide +kernel
theorem dX3_exchange_20 : decode cX3_exchange 20 = .ok (.iload_n 3, 1) := by decide +kernel
theorem dX3_exchange_21 : decode cX3_exchange 21 = .ok (.iload_n 2, 1) := by decide +kernel
theorem dX3_exchange_22 : decode cX3_exchange 22 = .ok (.ishl, 1) := by decide +kernel
theorem dX3_exchange_23 : decode cX3_exchange 23 = .ok (.ior, 1) := by decide +kernel
theorem dX3_exchange_24 : decode cX3_exchange 24 = .ok (.ixor, 1) := by decide +kernel
theorem dX3_exchange_25 : decode cX3_exchange 25 = .ok (.putfield 22, 3) := by decide +kernel
theorem dX3_exchange_28 : decode cX3_exchange 28 = .ok (.aload_n 0, 1) := by decide +kernel
theorem dX3_exchange_29 : decode cX3_exchange 29 = .ok (.aload_n 0, 1) := by decide +kernel
theorem dX3_exchange_30 : decode cX3_exchange 30 = .ok (.iload_n 1, 1) := by decide +kernel
theorem dX3_exchange_31 : decode cX3_exchange 31 = .ok (.invokevirtual 60, 3) := by decide +kernel
theorem dX3_exchange_34 : decode cX3_exchange 34 = .ok (.aload_n 0, 1) := by decide +kernel
theorem dX3_exchange_35 : decode cX3_exchange 35 = .ok (.iload_n 2, 1) := by decide +kernel
theorem dX3_exchange_36 : decode cX3_exchange 36 = .ok (.invokevirtual 60, 3) := by decide +kernel
theorem dX3_exchange_39 : decode cX3_exchange 39 = .ok (.invokevirtual 56, 3) := by decide +kernel
theorem dX3_exchange_42 : decode cX3_exchange 42 = .ok (.return_, 1) := by decide +kernel
theorem dX3_turnAll_0 : decode cX3_turnAll 0 = .ok (.aload_n 0, 1) := by decide +kernel
theorem dX3_turnAll_1 : decode cX3_turnAll 1 = .ok (.aload_n 0, 1) := by decide +kernel
theorem dX3_turnAll_2 : decode cX3_turnAll 2 = .ok (.getfield 11, 3) := by decide +kernel
theorem dX3_turnAll_5 : decode cX3_turnAll 5 = .ok (.iconst 2, 1) := by decide +kernel
theorem dX3_turnAll_6 : decode cX3_turnAll 6 = .ok (.ishl, 1) := by decide +kernel
theorem dX3_turnAll_7 : decode cX3_turnAll 7 = .ok (.aload_n 0, 1) := by decide +kernel
theorem dX3_turnAll_8 : decode cX3_turnAll 8 = .ok (.getfield 11, 3) := by decide +kernel
theorem dX3_turnAll_11 : decode cX3_turnAll 11 = .ok (.bipush 6, 2) := by decide +kernel
theorem dX3_turnAll_13 : decode cX3_turnAll 13 = .ok (.ishr, 1) := by decide +kernel
theorem dX3_turnAll_14 : decode cX3_turnAll 14 = .ok (.ior, 1) := by decide +kernel
theorem dX3_turnAll_15 : decode cX3_turnAll 15 = .ok (.sipush 255, 3) := by decide +kernel
theorem dX3_turnAll_18 : decode cX3_turnAll 18 = .ok (.iand, 1) := by decide +kernel
theorem dX3_turnAll_19 : decode cX3_turnAll 19 = .ok (.putfield 11, 3) := by decide +kernel
theorem dX3_turnAll_22 : decode cX3_turnAll 22 = .ok (.aload_n 0, 1) := by decide +kernel
theorem dX3_turnAll_23 : decode cX3_turnAll 23 = .ok (.getfield 25, 3) := by decide +kernel
theorem dX3_turnAll_26 : decode cX3_turnAll 26 = .ok (.istore_n 1, 1) := by decide +kernel
theorem dX3_turnAll_27 : decode cX3_turnAll 27 = .ok (.iload_n 1, 1) := by decide +kernel
theorem dX3_turnAll_28 : decode cX3_turnAll 28 = .ok (.ifCond .ne 16, 3) := by decide +kernel
theorem dX3_turnAll_31 : decode cX3_turnAll 31 = .ok (.aload_n 0, 1) := by decide +kernel
theorem dX3_turnAll_32 : decode cX3_turnAll 32 = .ok (.iconst 1, 1) := by decide +kernel
theorem dX3_turnAll_33 : decode cX3_turnAll 33 = .ok (.putfield 25, 3) := by decide +kernel
theorem dX3_turnAll_36 : decode cX3_turnAll 36 = .ok (.aload_n 0, 1) := by decide +kernel
theorem dX3_turnAll_37 : decode cX3_turnAll 37 = .ok (.iconst 0, 1) := by decide +kernel
theorem dX3_turnAll_38 : decode cX3_turnAll 38 = .ok (.putfield 15, 3) := by decide +kernel
theorem dX3_turnAll_41 : decode cX3_turnAll 41 = .ok (.goto 31, 3) := by decide +kernel
theorem dX3_turnAll_44 : decode cX3_turnAll 44 = .ok (.aload_n 0, 1) := by decide +kernel
theorem dX3_turnAll_45 : decode cX3_turnAll 45 = .ok (.iload_n 1, 1) := by decide +kernel
theorem dX3_turnAll_46 : decode cX3_turnAll 46 = .ok (.ifCond .le 11, 3) := by decide +kernel
theorem dX3_turnAll_49 : decode cX3_turnAll 49 = .ok (.aload_n 0, 1) := by decide +kernel
theorem dX3_turnAll_50 : decode cX3_turnAll 50 = .ok (.getfield 15, 3) := by decide +kernel
theorem dX3_turnAll_53 : decode cX3_turnAll 53 = .ok (.ineg, 1) := by decide +kernel
theorem dX3_turnAll_54 : decode cX3_turnAll 54 = .ok (.goto 7, 3) := by decide +kernel
theorem dX3_turnAll_57 : decode cX3_turnAll 57 = .ok (.aload_n 0, 1) := by decide +kernel
theorem dX3_turnAll_58 : decode cX3_turnAll 58 = .ok (.getfield 15, 3) := by decide +kernel
theorem dX3_turnAll_61 : decode cX3_turnAll 61 = .ok (.putfield 25, 3) := by decide +kernel
theorem dX3_turnAll_64 : decode cX3_turnAll 64 = .ok (.aload_n 0, 1) := by decide +kernel
theorem dX3_turnAll_65 : decode cX3_turnAll 65 = .ok (.iload_n 1, 1) := by decide +kernel
theorem dX3_turnAll_66 : decode cX3_turnAll 66 = .ok (.invokestatic 41, 3) := by decide +kernel
theorem dX3_turnAll_69 : decode cX3_turnAll 69 = .ok (.putfield 15, 3) := by decide +kernel
theorem dX3_turnAll_72 : decode cX3_turnAll 72 = .ok (.return_, 1) := by decide +kernel
theorem dX3_swapPlaces_0 : decode cX3_swapPlaces 0 = .ok (.aload_n 0, 1) := by decide +kernel
theorem dX3_swapPlaces_1 : decode cX3_swapPlaces 1 = .ok (.getfield 11, 3) := by decide +kernel
theorem dX3_swapPlaces_4 : decode cX3_swapPlaces 4 = .ok (.iconst 2, 1) := by decide +kernel
theorem dX3_swapPlaces_5 : decode cX3_swapPlaces 5 = .ok (.iload_n 1, 1) := by decide +kernel
theorem dX3_swapPlaces_6 : decode cX3_swapPlaces 6 = .ok (.imul, 1) := by decide +kernel
theorem dX3_swapPlaces_7 : decode cX3_swapPlaces 7 = .ok (.ishr, 1) := by decide +kernel
theorem dX3_swapPlaces_8 : decode cX3_swapPlaces 8 = .ok (.aload_n 0, 1) := by decide +kernel
theorem dX3_swapPlaces_9 : decode cX3_swapPlaces 9 = .ok (.getfield 11, 3) := by decide +kernel
theorem dX3_swapPlaces_12 : decode cX3_swapPlaces 12 = .ok (.iconst 2, 1) := by decide +kernel
theorem dX3_swapPlaces_13 : decode cX3_swapPlaces 13 = .ok (.iload_n 2, 1) := by decide +kernel
theorem dX3_swapPlaces_14 : decode cX3_swapPlaces 14 = .ok (.imul, 1) := by decide +kernel
theorem dX3_swapPlaces_15 : decode cX3_swapPlaces 15 = .ok (.ishr, 1) := by decide +kernel
theorem dX3_swapPlaces_16 : decode cX3_swapPlaces 16 = .ok (.ixor, 1) := by decide +kernel
theorem dX3_swapPlaces_17 : decode cX3_swapPlaces 17 = .ok (.iconst 3, 1) := by decide +kernel
theorem dX3_swapPlaces_18 : decode cX3_swapPlaces 18 = .ok (.iand, 1) := by decide +kernel
theorem dX3_swapPlaces_19 : decode cX3_swapPlaces 19 = .ok (.istore_n 3, 1) := by decide +kernel
theorem dX3_swapPlaces_20 : decode cX3_swapPlaces 20 = .ok (.aload_n 0, 1) := by decide +kernel
theorem dX3_swapPlaces_21 : decode cX3_swapPlaces 21 = .ok (.dup, 1) := by decide +kernel
theorem dX3_swapPlaces_22 : decode cX3_swapPlaces 22 = .ok (.getfield 11, 3) := by decide +kernel
theorem dX3_swapPlaces_25 : decode cX3_swapPlaces 25 = .ok (.iload_n 3, 1) := by decide +kernel
theorem dX3_swapPlaces_26 : decode cX3_swapPlaces 26 = .ok (.iconst 2, 1) := by decide +kernel
theorem dX3_swapPlaces_27 : decode cX3_swapPlaces 27 = .ok (.iload_n 1, 1) := by decide +kernel
theorem dX3_swapPlaces_28 : decode cX3_swapPlaces 28 = .ok (.imul, 1) := by decide +kernel
theorem dX3_swapPlaces_29 : decode cX3_swapPlaces 29 = .ok (.ishl, 1) := by decide +kernel
theorem dX3_swapPlaces_30 : decode cX3_swapPlaces 30 = .ok (.iload_n 3, 1) := by decide +kernel
theorem dX3_swapPlaces_31 : decode cX3_swapPlaces 31 = .ok (.iconst 2, 1) := by decide +kernel
theorem dX3_swapPlaces_32 : decode cX3_swapPlaces 32 = .ok (.iload_n 2, 1) := by decide +kernel
theorem dX3_swapPlaces_33 : decode cX3_swapPlaces 33 = .ok (.imul, 1) := by decide +kernel
theorem dX3_swapPlaces_34 : decode cX3_swapPlaces 34 = .ok (.ishl, 1) := by decide +kernel
theorem dX3_swapPlaces_35 : decode cX3_swapPlaces 35 = .ok (.ior, 1) := by decide +kernel
theorem dX3_swapPlaces_36 : decode cX3_swapPlaces 36 = .ok (.ixor, 1) := by decide +kernel
theorem dX3_swapPlaces_37 : decode cX3_swapPlaces 37 = .ok (.putfield 11, 3) := by decide +kernel
theorem dX3_swapPlaces_40 : decode cX3_swapPlaces 40 = .ok (.return_, 1) := by decide +kernel
theorem dJ6_bitCount_0f7a4_0 : decode cJ6_bitCount_0f7a4 0 = .ok (.iload_n 0, 1) := by decide +kernel
theorem dJ6_bitCount_0f7a4_1 : decode cJ6_bitCount_0f7a4 1 = .ok (.iload_n 0, 1) := by decide +kernel
theorem dJ6_bitCount_0f7a4_2 : decode cJ6_bitCount_0f7a4 2 = .ok (.iconst 1, 1) := by decide +kernel
theorem dJ6_bitCount_0f7a4_3 : decode cJ6_bitCount_0f7a4 3 = .ok (.iushr, 1) := by decide +kernel
theorem dJ6_bitCount_0f7a4_4 : decode cJ6_bitCount_0f7a4 4 = .ok (.ldc_w 265, 3) := by decide +kernel
theorem dJ6_bitCount_0f7a4_7 : decode cJ6_bitCount_0f7a4 7 = .ok (.iand, 1) := by decide +kernel
theorem dJ6_bitCount_0f7a4_8 : decode cJ6_bitCount_0f7a4 8 = .ok (.isub, 1) := by decide +kernel
theorem dJ6_bitCount_0f7a4_9 : decode cJ6_bitCount_0f7a4 9 = .ok (.istore_n 0, 1) := by decide +kernel
theorem dJ6_bitCount_0f7a4_10 : decode cJ6_bitCount_0f7a4 10 = .ok (.iload_n 0, 1) := by decide +kernel
theorem dJ6_bitCount_0f7a4_11 : decode cJ6_bitCount_0f7a4 11 = .ok (.ldc_w 266, 3) := by decide +kernel
theorem dJ6_bitCount_0f7a4_14 : decode cJ6_bitCount_0f7a4 14 = .ok (.iand, 1) := by decide +kernel
theorem dJ6_bitCount_0f7a4_15 : decode cJ6_bitCount_0f7a4 15 = .ok (.iload_n 0, 1) := by decide +kernel
theorem dJ6_bitCount_0f7a4_16 : decode cJ6_bitCount_0f7a4 16 = .ok (.iconst 2, 1) := by decide +kernel
theorem dJ6_bitCount_0f7a4_17 : decode cJ6_bitCount_0f7a4 17 = .ok (.iushr, 1) := by decide +kernel
theorem dJ6_bitCount_0f7a4_18 : decode cJ6_bitCount_0f7a4 18 = .ok (.ldc_w 266, 3) := by decide +kernel
theorem dJ6_bitCount_0f7a4_21 : decode cJ6_bitCount_0f7a4 21 = .ok (.iand, 1) := by decide +kernel
theorem dJ6_bitCount_0f7a4_22 : decode cJ6_bitCount_0f7a4 22 = .ok (.iadd, 1) := by decide +kernel
theorem dJ6_bitCount_0f7a4_23 : decode cJ6_bitCount_0f7a4 23 = .ok (.istore_n 0, 1) := by decide +kernel
theorem dJ6_bitCount_0f7a4_24 : decode cJ6_bitCount_0f7a4 24 = .ok (.iload_n 0, 1) := by decide +kernel
theorem dJ6_bitCount_0f7a4_25 : decode cJ6_bitCount_0f7a4 25 = .ok (.iload_n 0, 1) := by decide +kernel
theorem dJ6_bitCount_0f7a4_26 : decode cJ6_bitCount_0f7a4 26 = .ok (.iconst 4, 1) := by decide +kernel
theorem dJ6_bitCount_0f7a4_27 : decode cJ6_bitCount_0f7a4 27 = .ok (.iushr, 1) := by decide +kernel
theorem dJ6_bitCount_0f7a4_28 : decode cJ6_bitCount_0f7a4 28 = .ok (.iadd, 1) := by decide +kernel
theorem dJ6_bitCount_0f7a4_29 : decode cJ6_bitCount_0f7a4 29 = .ok (.ldc_w 267, 3) := by decide +kernel
theorem dJ6_bitCount_0f7a4_32 : decode cJ6_bitCount_0f7a4 32 = .ok (.iand, 1) := by decide +kernel
theorem dJ6_bitCount_0f7a4_33 : decode cJ6_bitCount_0f7a4 33 = .ok (.istore_n 0, 1) := by decide +kernel
theorem dJ6_bitCount_0f7a4_34 : decode cJ6_bitCount_0f7a4 34 = .ok (.iload_n 0, 1) := by decide +kernel
theorem dJ6_bitCount_0f7a4_35 : decode cJ6_bitCount_0f7a4 35 = .ok (.iload_n 0, 1) := by decide +kernel
theorem dJ6_bitCount_0f7a4_36 : decode cJ6_bitCount_0f7a4 36 = .ok (.bipush 8, 2) := by decide +kernel
theorem dJ6_bitCount_0f7a4_38 : decode cJ6_bitCount_0f7a4 38 = .ok (.iushr, 1) := by decide +kernel
theorem dJ6_bitCount_0f7a4_39 : decode cJ6_bitCount_0f7a4 39 = .ok (.iadd, 1) := by decide +kernel
theorem dJ6_bitCount_0f7a4_40 : decode cJ6_bitCount_0f7a4 40 = .ok (.istore_n 0, 1) := by decide +kernel
theorem dJ6_bitCount_0f7a4_41 : decode cJ6_bitCount_0f7a4 41 = .ok (.iload_n 0, 1) := by decide +kernel
theorem dJ6_bitCount_0f7a4_42 : decode cJ6_bitCount_0f7a4 42 = .ok (.iload_n 0, 1) := by decide +kernel
theorem dJ6_bitCount_0f7a4_43 : decode cJ6_bitCount_0f7a4 43 = .ok (.bipush 16, 2) := by decide +kernel
theorem dJ6_bitCount_0f7a4_45 : decode cJ6_bitCount_0f7a4 45 = .ok (.iushr, 1) := by decide +kernel
theorem dJ6_bitCount_0f7a4_46 : decode cJ6_bitCount_0f7a4 46 = .ok (.iadd, 1) := by decide +kernel
theorem dJ6_bitCount_0f7a4_47 : decode cJ6_bitCount_0f7a4 47 = .ok (.istore_n 0, 1) := by decide +kernel
theorem dJ6_bitCount_0f7a4_48 : decode cJ6_bitCount_0f7a4 48 = .ok (.iload_n 0, 1) := by decide +kernel
theorem dJ6_bitCount_0f7a4_49 : decode cJ6_bitCount_0f7a4 49 = .ok (.bipush 63, 2) := by decide +kernel
theorem dJ6_bitCount_0f7a4_51 : decode cJ6_bitCount_0f7a4 51 = .ok (.iand, 1) := by decide +kernel
theorem dJ6_bitCount_0f7a4_52 : decode cJ6_bitCount_0f7a4 52 = .ok (.ireturn, 1) := by decide +kernel
