theorem dX5_init_0 : decode cX5_init 0 = .ok (.aload_n 0, 1) := by decide +kernel
theorem dX5_init_1 : decode cX5_init 1 = .ok (.invokespecial 1, 3) := by decide +kernel
theorem dX5_init_4 : decode cX5_init 4 = .ok (.aload_n 0, 1) := by decide +kernel
theorem dX5_init_5 : decode cX5_init 5 = .ok (.iconst 4, 1) := by decide +kernel
theorem dX5_init_6 : decode cX5_init 6 = .ok (.newarray .int, 2) := by decide +kernel
theorem dX5_init_8 : decode cX5_init 8 = .ok (.putfield 7, 3) := by decide +kernel
theorem dX5_init_11 : decode cX5_init 11 = .ok (.aload_n 0, 1) := by decide +kernel
theorem dX5_init_12 : decode cX5_init 12 = .ok (.iconst 4, 1) := by decide +kernel
theorem dX5_init_13 : decode cX5_init 13 = .ok (.newarray .int, 2) := by decide +kernel
theorem dX5_init_15 : decode cX5_init 15 = .ok (.putfield 13, 3) := by decide +kernel
theorem dX5_init_18 : decode cX5_init 18 = .ok (.aload_n 0, 1) := by decide +kernel
theorem dX5_init_19 : decode cX5_init 19 = .ok (.bipush 12, 2) := by decide +kernel
theorem dX5_init_21 : decode cX5_init 21 = .ok (.newarray .int, 2) := by decide +kernel
theorem dX5_init_23 : decode cX5_init 23 = .ok (.putfield 16, 3) := by decide +kernel
theorem dX5_init_26 : decode cX5_init 26 = .ok (.aload_n 0, 1) := by decide +kernel
theorem dX5_init_27 : decode cX5_init 27 = .ok (.bipush 12, 2) := by decide +kernel
theorem dX5_init_29 : decode cX5_init 29 = .ok (.newarray .int, 2) := by decide +kernel
theorem dX5_init_31 : decode cX5_init 31 = .ok (.putfield 19, 3) := by decide +kernel
theorem dX5_init_34 : decode cX5_init 34 = .ok (.aload_n 0, 1) := by decide +kernel
theorem dX5_init_35 : decode cX5_init 35 = .ok (.bipush 96, 2) := by decide +kernel
theorem dX5_init_37 : decode cX5_init 37 = .ok (.newarray .int, 2) := by decide +kernel
theorem dX5_init_39 : decode cX5_init 39 = .ok (.putfield 22, 3) := by decide +kernel
theorem dX5_init_42 : decode cX5_init 42 = .ok (.aload_n 0, 1) := by decide +kernel
theorem dX5_init_43 : decode cX5_init 43 = .ok (.bipush 24, 2) := by decide +kernel
theorem dX5_init_45 : decode cX5_init 45 = .ok (.newarray .int, 2) := by decide +kernel
theorem dX5_init_47 : decode cX5_init 47 = .ok (.putfield 25, 3) := by decide +kernel
theorem dX5_init_50 : decode cX5_init 50 = .ok (.aload_n 0, 1) := by decide +kernel
theorem dX5_init_51 : decode cX5_init 51 = .ok (.bipush 18, 2) := by decide +kernel
theorem dX5_init_53 : decode cX5_init 53 = .ok (.newarray .int, 2) := by decide +kernel
theorem dX5_init_55 : decode cX5_init 55 = .ok (.putfield 28, 3) := by decide +kernel
theorem dX5_init_58 : decode cX5_init 58 = .ok (.aload_n 0, 1) := by decide +kernel
theorem dX5_init_59 : decode cX5_init 59 = .ok (.sipush 200, 3) := by decide +kernel
theorem dX5_init_62 : decode cX5_init 62 = .ok (.newarray .int, 2) := by decide +kernel
theorem dX5_init_64 : decode cX5_init 64 = .ok (.putfield 31, 3) := by decide +kernel
theorem dX5_init_67 : decode cX5_init 67 = .ok (.aload_n 0, 1) := by decide +kernel
theorem dX5_init_68 : decode cX5_init 68 = .ok (.iconst 4, 1) := by decide +kernel
theorem dX5_init_69 : decode cX5_init 69 = .ok (.newarray .int, 2) := by decide +kernel
theorem dX5_init_71 : decode cX5_init 71 = .ok (.putfield 34, 3) := by decide +kernel
theorem dX5_init_74 : decode cX5_init 74 = .ok (.aload_n 0, 1) := by decide +kernel
theorem dX5_init_75 : decode cX5_init 75 = .ok (.iconst 4, 1) := by decide +kernel
theorem dX5_init_76 : decode cX5_init 76 = .ok (.newarray .int, 2) := by decide +kernel
theorem dX5_init_78 : decode cX5_init 78 = .ok (.putfield 37, 3) := by decide +kernel
theorem dX5_init_81 : decode cX5_init 81 = .ok (.aload_n 0, 1) := by decide +kernel
theorem dX5_init_82 : decode cX5_init 82 = .ok (.bipush 12, 2) := by decide +kernel
theorem dX5_init_84 : decode cX5_init 84 = .ok (.newarray .int, 2) := by decide +kernel
theorem dX5_init_86 : decode cX5_init 86 = .ok (.putfield 40, 3) := by decide +kernel
theorem dX5_init_89 : decode cX5_init 89 = .ok (.aload_n 0, 1) := by decide +kernel
theorem dX5_init_90 : decode cX5_init 90 = .ok (.bipush 12, 2) := by decide +kernel
theorem dX5_init_92 : decode cX5_init 92 = .ok (.newarray .int, 2) := by decide +kernel
theorem dX5_init_94 : decode cX5_init 94 = .ok (.putfield 43, 3) := by decide +kernel
theorem dX5_init_97 : decode cX5_init 97 = .ok (.aload_n 0, 1) := by decide +kernel
theorem dX5_init_98 : decode cX5_init 98 = .ok (.bipush 6, 2) := by decide +kernel
theorem dX5_init_100 : decode cX5_init 100 = .ok (.newarray .int, 2) := by decide +kernel
theorem dX5_init_102 : decode cX5_init 102 = .ok (.putfield 46, 3) := by decide +kernel
theorem dX5_init_105 : decode cX5_init 105 = .ok (.aload_n 0, 1) := by decide +kernel
theorem dX5_init_106 : decode cX5_init 106 = .ok (.iconst 4, 1) := by decide +kernel
theorem dX5_init_107 : decode cX5_init 107 = .ok (.newarray .int, 2) := by decide +kernel
theorem dX5_init_109 : decode cX5_init 109 = .ok (.putfield 49, 3) := by decide +kernel
theorem dX5_init_112 : decode cX5_init 112 = .ok (.aload_n 0, 1) := by decide +kernel
theorem dX5_init_113 : decode cX5_init 113 = .ok (.sipush 243, 3) := by decide +kernel
theorem dX5_init_116 : decode cX5_init 116 = .ok (.newarray .int, 2) := by decide +kernel
theorem dX5_init_118 : decode cX5_init 118 = .ok (.putfield 52, 3) := by decide +kernel
theorem dX5_init_121 : decode cX5_init 121 = .ok (.aload_n 0, 1) := by decide +kernel
theorem dX5_init_122 : decode cX5_init 122 = .ok (.getfield 7, 3) := by decide +kernel
theorem dX5_init_125 : decode cX5_init 125 = .ok (.iconst 1, 1) := by decide +kernel
theorem dX5_init_126 : decode cX5_init 126 = .ok (.iconst 1, 1) := by decide +kernel
theorem dX5_init_127 : decode cX5_init 127 = .ok (.iastore, 1) := by decide +kernel
theorem dX5_init_128 : decode cX5_init 128 = .ok (.aload_n 0, 1) := by decide +kernel
theorem dX5_init_129 : decode cX5_init 129 = .ok (.getfield 7, 3) := by decide +kernel
theorem dX5_init_132 : decode cX5_init 132 = .ok (.iconst 2, 1) := by decide +kernel
theorem dX5_init_133 : decode cX5_init 133 = .ok (.iconst 3, 1) := by decide +kernel
theorem dX5_init_134 : decode cX5_init 134 = .ok (.iastore, 1) := by decide +kernel
theorem dX5_init_135 : decode cX5_init 135 = .ok (.aload_n 0, 1) := by decide +kernel
theorem dX5_init_136 : decode cX5_init 136 = .ok (.getfield 7, 3) := by decide +kernel
theorem dX5_init_139 : decode cX5_init 139 = .ok (.iconst 3, 1) := by decide +kernel
theorem dX5_init_140 : decode cX5_init 140 = .ok (.iconst 2, 1) := by decide +kernel
theorem dX5_init_141 : decode cX5_init 141 = .ok (.iastore, 1) := by decide +kernel
theorem dX5_init_142 : decode cX5_init 142 = .ok (.iconst 0, 1) := by decide +kernel
theorem dX5_init_143 : decode cX5_init 143 = .ok (.istore_n 1, 1) := by decide +kernel
theorem dX5_init_144 : decode cX5_init 144 = .ok (.iload_n 1, 1) := by decide +kernel
theorem dX5_init_145 : decode cX5_init 145 = .ok (.iconst 4, 1) := by decide +kernel
theorem dX5_init_146 : decode cX5_init 146 = .ok (.if_icmp .ge 16, 3) := by decide +kernel
theorem dX5_init_149 : decode cX5_init 149 = .ok (.aload_n 0, 1) := by decide +kernel
theorem dX5_init_150 : decode cX5_init 150 = .ok (.getfield 13, 3) := by decide +kernel
theorem dX5_init_153 : decode cX5_init 153 = .ok (.iload_n 1, 1) := by decide +kernel
theorem dX5_init_154 : decode cX5_init 154 = .ok (.iload_n 1, 1) := by decide +kernel
theorem dX5_init_155 : decode cX5_init 155 = .ok (.iastore, 1) := by decide +kernel
theorem dX5_init_156 : decode cX5_init 156 = .ok (.iinc 1 1, 3) := by decide +kernel
theorem dX5_init_159 : decode cX5_init 159 = .ok (.goto (-15), 3) := by decide +kernel
theorem dX5_init_162 : decode cX5_init 162 = .ok (.aload_n 0, 1) := by decide +kernel
theorem dX5_init_163 : decode cX5_init 163 = .ok (.getfield 16, 3) := by decide +kernel
theorem dX5_init_166 : decode cX5_init 166 = .ok (.iconst 2, 1) := by decide +kernel
theorem dX5_init_167 : decode cX5_init 167 = .ok (.iconst 2, 1) := by decide +kernel
theorem dX5_init_168 : decode cX5_init 168 = .ok (.iastore, 1) := by decide +kernel
theorem dX5_init_169 : decode cX5_init 169 = .ok (.aload_n 0, 1) := by decide +kernel
theorem dX5_init_170 : decode cX5_init 170 = .ok (.getfield 16, 3) := by decide +kernel
theorem dX5_init_173 : decode cX5_init 173 = .ok (.iconst 3, 1) := by decide +kernel
theorem dX5_init_174 : decode cX5_init 174 = .ok (.iconst 1, 1) := by decide +kernel
theorem dX5_init_175 : decode cX5_init 175 = .ok (.iastore, 1) := by decide +kernel
theorem dX5_init_176 : decode cX5_init 176 = .ok (.aload_n 0, 1) := by decide +kernel
theorem dX5_init_177 : decode cX5_init 177 = .ok (.getfield 16, 3) := by decide +kernel
theorem dX5_init_180 : decode cX5_init 180 = .ok (.iconst 4, 1) := by decide +kernel
theorem dX5_init_181 : decode cX5_init 181 = .ok (.iconst 2, 1) := by decide +kernel
theorem dX5_init_182 : decode cX5_init 182 = .ok (.iastore, 1) := by decide +kernel
theorem dX5_init_183 : decode cX5_init 183 = .ok (.aload_n 0, 1) := by decide +kernel
theorem dX5_init_184 : decode cX5_init 184 = .ok (.iconst 5, 1) := by decide +kernel
theorem dX5_init_185 : decode cX5_init 185 = .ok (.putfield 55, 3) := by decide +kernel
theorem dX5_init_188 : decode cX5_init 188 = .ok (.aload_n 0, 1) := by decide +kernel
theorem dX5_init_189 : decode cX5_init 189 = .ok (.invokevirtual 59, 3) := by decide +kernel
theorem dX5_init_192 : decode cX5_init 192 = .ok (.return_, 1) := by decide +kernel
theorem dX5_in_0 : decode cX5_in 0 = .ok (.lload_n 0, 1) := by decide +kernel
theorem dX5_in_1 : decode cX5_in 1 = .ok (.lload_n 2, 1) := by decide +kernel
theorem dX5_in_2 : decode cX5_in 2 = .ok (.lcmp, 1) := by decide +kernel
theorem dX5_in_3 : decode cX5_in 3 = .ok (.ifCond .lt 14, 3) := by decide +kernel
theorem dX5_in_6 : decode cX5_in 6 = .ok (.lload_n 0, 1) := by decide +kernel
theorem dX5_in_7 : decode cX5_in 7 = .ok (.lload 4, 2) := by decide +kernel
theorem dX5_in_9 : decode cX5_in 9 = .ok (.lcmp, 1) := by decide +kernel
theorem dX5_in_10 : decode cX5_in 10 = .ok (.ifCond .gt 7, 3) := by decide +kernel
theorem dX5_in_13 : decode cX5_in 13 = .ok (.iconst 1, 1) := by decide +kernel
theorem dX5_in_14 : decode cX5_in 14 = .ok (.goto 4, 3) := by decide +kernel
theorem dX5_in_17 : decode cX5_in 17 = .ok (.iconst 0, 1) := by decide +kernel
theorem dX5_in_18 : decode cX5_in 18 = .ok (.ireturn, 1) := by decide +kernel
theorem dX5_isPart_0 : decode cX5_isPart 0 = .ok (.iload_n 0, 1) := by decide +kernel
theorem dX5_isPart_1 : decode cX5_isPart 1 = .ok (.i2l, 1) := by decide +kernel
theorem dX5_isPart_2 : decode cX5_isPart 2 = .ok (.lconst 0, 1) := by decide +kernel
theorem dX5_isPart_3 : decode cX5_isPart 3 = .ok (.lconst 1, 1) := by decide +kernel
theorem dX5_isPart_4 : decode cX5_isPart 4 = .ok (.invokestatic 62, 3) := by decide +kernel
theorem dX5_isPart_7 : decode cX5_isPart 7 = .ok (.ireturn, 1) := by decide +kernel
theorem dX5_isOne_0 : decode cX5_isOne 0 = .ok (.iload_n 0, 1) := by decide +kernel
theorem dX5_isOne_1 : decode cX5_isOne 1 = .ok (.i2l, 1) := by decide +kernel
theorem dX5_isOne_2 : decode cX5_isOne 2 = .ok (.lconst 0, 1) := by decide +kernel
theorem dX5_isOne_3 : decode cX5_isOne 3 = .ok (.ldc2_w 66, 3) := by decide +kernel
theorem dX5_isOne_6 : decode cX5_isOne 6 = .ok (.invokestatic 62, 3) := by decide +kernel
theorem dX5_isOne_9 : decode cX5_isOne 9 = .ok (.ireturn, 1) := by decide +kernel
theorem dX5_begin_0 : decode cX5_begin 0 = .ok (.iconst 0, 1) := by decide +kernel
theorem dX5_begin_1 : decode cX5_begin 1 = .ok (.istore_n 1, 1) := by decide +kernel
theorem dX5_begin_2 : decode cX5_begin 2 = .ok (.iload_n 1, 1) := by decide +kernel
theorem dX5_begin_3 : decode cX5_begin 3 = .ok (.iconst 4, 1) := by decide +kernel
theorem dX5_begin_4 : decode cX5_begin 4 = .ok (.if_icmp .ge 39, 3) := by decide +kernel
theorem dX5_begin_7 : decode cX5_begin 7 = .ok (.aload_n 0, 1) := by decide +kernel
theorem dX5_begin_8 : decode cX5_begin 8 = .ok (.getfield 19, 3) := by decide +kernel
theorem dX5_begin_11 : decode cX5_begin 11 = .ok (.iconst 0, 1) := by decide +kernel
theorem dX5_begin_12 : decode cX5_begin 12 = .ok (.aload_n 0, 1) := by decide +kernel
theorem dX5_begin_13 : decode cX5_begin 13 = .ok (.getfield 13, 3) := by decide +kernel
theorem dX5_begin_16 : decode cX5_begin 16 = .ok (.iload_n 1, 1) := by decide +kernel
theorem dX5_begin_17 : decode cX5_begin 17 = .ok (.iaload, 1) := by decide +kernel
theorem dX5_begin_18 : decode cX5_begin 18 = .ok (.iadd, 1) := by decide +kernel
theorem dX5_begin_19 : decode cX5_begin 19 = .ok (.iload_n 1, 1) := by decide +kernel
theorem dX5_begin_20 : decode cX5_begin 20 = .ok (.iastore, 1) := by decide +kernel
theorem dX5_begin_21 : decode cX5_begin 21 = .ok (.aload_n 0, 1) := by decide +kernel
theorem dX5_begin_22 : decode cX5_begin 22 = .ok (.getfield 19, 3) := by decide +kernel
theorem dX5_begin_25 : decode cX5_begin 25 = .ok (.iconst 4, 1) := by decide +kernel
theorem dX5_begin_26 : decode cX5_begin 26 = .ok (.iload_n 1, 1) := by decide +kernel
theorem dX5_begin_27 : decode cX5_begin 27 = .ok (.iadd, 1) := by decide +kernel
theorem dX5_begin_28 : decode cX5_begin 28 = .ok (.aload_n 0, 1) := by decide +kernel
theorem dX5_begin_29 : decode cX5_begin 29 = .ok (.getfield 13, 3) := by decide +kernel
theorem dX5_begin_32 : decode cX5_begin 32 = .ok (.iload_n 1, 1) := by decide +kernel
theorem dX5_begin_33 : decode cX5_begin 33 = .ok (.iaload, 1) := by decide +kernel
theorem dX5_begin_34 : decode cX5_begin 34 = .ok (.iconst 2, 1) := by decide +kernel
theorem dX5_begin_35 : decode cX5_begin 35 = .ok (.idiv, 1) := by decide +kernel
theorem dX5_begin_36 : decode cX5_begin 36 = .ok (.iastore, 1) := by decide +kernel
theorem dX5_begin_37 : decode cX5_begin 37 = .ok (.iinc 1 1, 3) := by decide +kernel
theorem dX5_begin_40 : decode cX5_begin 40 = .ok (.goto (-38), 3) := by decide +kernel
theorem dX5_begin_43 : decode cX5_begin 43 = .ok (.aload_n 0, 1) := by decide +kernel
theorem dX5_begin_44 : decode cX5_begin 44 = .ok (.getfield 19, 3) := by decide +kernel
theorem dX5_begin_47 : decode cX5_begin 47 = .ok (.bipush 8, 2) := by decide +kernel
theorem dX5_begin_49 : decode cX5_begin 49 = .ok (.iconst 0, 1) := by decide +kernel
theorem dX5_begin_50 : decode cX5_begin 50 = .ok (.iastore, 1) := by decide +kernel
theorem dX5_begin_51 : decode cX5_begin 51 = .ok (.aload_n 0, 1) := by decide +kernel
theorem dX5_begin_52 : decode cX5_begin 52 = .ok (.getfield 19, 3) := by decide +kernel
theorem dX5_begin_55 : decode cX5_begin 55 = .ok (.bipush 9, 2) := by decide +kernel
theorem dX5_begin_57 : decode cX5_begin 57 = .ok (.iconst 1, 1) := by decide +kernel
theorem dX5_begin_58 : decode cX5_begin 58 = .ok (.iastore, 1) := by decide +kernel
theorem dX5_begin_59 : decode cX5_begin 59 = .ok (.aload_n 0, 1) := by decide +kernel
theorem dX5_begin_60 : decode cX5_begin 60 = .ok (.getfield 19, 3) := by decide +kernel
theorem dX5_begin_63 : decode cX5_begin 63 = .ok (.bipush 10, 2) := by decide +kernel
theorem dX5_begin_65 : decode cX5_begin 65 = .ok (.iconst 0, 1) := by decide +kernel
theorem dX5_begin_66 : decode cX5_begin 66 = .ok (.iastore, 1) := by decide +kernel
theorem dX5_begin_67 : decode cX5_begin 67 = .ok (.aload_n 0, 1) := by decide +kernel
theorem dX5_begin_68 : decode cX5_begin 68 = .ok (.getfield 19, 3) := by decide +kernel
theorem dX5_begin_71 : decode cX5_begin 71 = .ok (.bipush 11, 2) := by decide +kernel
theorem dX5_begin_73 : decode cX5_begin 73 = .ok (.iconst 0, 1) := by decide +kernel
theorem dX5_begin_74 : decode cX5_begin 74 = .ok (.iastore, 1) := by decide +kernel
theorem dX5_begin_75 : decode cX5_begin 75 = .ok (.aload_n 0, 1) := by decide +kernel
theorem dX5_begin_76 : decode cX5_begin 76 = .ok (.iconst 0, 1) := by decide +kernel
theorem dX5_begin_77 : decode cX5_begin 77 = .ok (.putfield 68, 3) := by decide +kernel
theorem dX5_begin_80 : decode cX5_begin 80 = .ok (.aload_n 0, 1) := by decide +kernel
theorem dX5_begin_81 : decode cX5_begin 81 = .ok (.iconst 0, 1) := by decide +kernel
theorem dX5_begin_82 : decode cX5_begin 82 = .ok (.putfield 71, 3) := by decide +kernel
theorem dX5_begin_85 : decode cX5_begin 85 = .ok (.aload_n 0, 1) := by decide +kernel
theorem dX5_begin_86 : decode cX5_begin 86 = .ok (.iconst 0, 1) := by decide +kernel
theorem dX5_begin_87 : decode cX5_begin 87 = .ok (.putfield 74, 3) := by decide +kernel
theorem dX5_begin_90 : decode cX5_begin 90 = .ok (.return_, 1) := by decide +kernel
theorem dX5_write_0 : decode cX5_write 0 = .ok (.iload_n 1, 1) := by decide +kernel
theorem dX5_write_1 : decode cX5_write 1 = .ok (.i2l, 1) := by decide +kernel
theorem dX5_write_2 : decode cX5_write 2 = .ok (.ldc2_w 77, 3) := by decide +kernel
theorem dX5_write_5 : decode cX5_write 5 = .ok (.ldc2_w 79, 3) := by decide +kernel
theorem dX5_write_8 : decode cX5_write 8 = .ok (.invokestatic 62, 3) := by decide +kernel
theorem dX5_write_11 : decode cX5_write 11 = .ok (.ifCond .ne 5, 3) := by decide +kernel
theorem dX5_write_14 : decode cX5_write 14 = .ok (.iconst (-1), 1) := by decide +kernel
theorem dX5_write_15 : decode cX5_write 15 = .ok (.ireturn, 1) := by decide +kernel
theorem dX5_write_16 : decode cX5_write 16 = .ok (.aload_n 0, 1) := by decide +kernel
theorem dX5_write_17 : decode cX5_write 17 = .ok (.getfield 81, 3) := by decide +kernel
theorem dX5_write_20 : decode cX5_write 20 = .ok (.sipush 200, 3) := by decide +kernel
theorem dX5_write_23 : decode cX5_write 23 = .ok (.if_icmp .ne 6, 3) := by decide +kernel
theorem dX5_write_26 : decode cX5_write 26 = .ok (.bipush (-3), 2) := by decide +kernel
theorem dX5_write_28 : decode cX5_write 28 = .ok (.ireturn, 1) := by decide +kernel
theorem dX5_write_29 : decode cX5_write 29 = .ok (.aload_n 0, 1) := by decide +kernel
theorem dX5_write_30 : decode cX5_write 30 = .ok (.getfield 31, 3) := by decide +kernel
theorem dX5_write_33 : decode cX5_write 33 = .ok (.aload_n 0, 1) := by decide +kernel
theorem dX5_write_34 : decode cX5_write 34 = .ok (.getfield 81, 3) := by decide +kernel
theorem dX5_write_37 : decode cX5_write 37 = .ok (.iload_n 1, 1) := by decide +kernel
theorem dX5_write_38 : decode cX5_write 38 = .ok (.iastore, 1) := by decide +kernel
theorem dX5_write_39 : decode cX5_write 39 = .ok (.aload_n 0, 1) := by decide +kernel
theorem dX5_write_40 : decode cX5_write 40 = .ok (.dup, 1) := by decide +kernel
theorem dX5_write_41 : decode cX5_write 41 = .ok (.getfield 81, 3) := by decide +kernel
theorem dX5_write_44 : decode cX5_write 44 = .ok (.iconst 1, 1) := by decide +kernel
theorem dX5_write_45 : decode cX5_write 45 = .ok (.iadd, 1) := by decide +kernel
theorem dX5_write_46 : decode cX5_write 46 = .ok (.putfield 81, 3) := by decide +kernel
theorem dX5_write_49 : decode cX5_write 49 = .ok (.aload_n 0, 1) := by decide +kernel
theorem dX5_write_50 : decode cX5_write 50 = .ok (.getfield 81, 3) := by decide +kernel
theorem dX5_write_53 : decode cX5_write 53 = .ok (.ireturn, 1) := by decide +kernel
theorem dX5_wipe_0 : decode cX5_wipe 0 = .ok (.aload_n 0, 1) := by decide +kernel
theorem dX5_wipe_1 : decode cX5_wipe 1 = .ok (.getfield 81, 3) := by decide +kernel
theorem dX5_wipe_4 : decode cX5_wipe 4 = .ok (.istore_n 1, 1) := by decide +kernel
theorem dX5_wipe_5 : decode cX5_wipe 5 = .ok (.aload_n 0, 1) := by decide +kernel
theorem dX5_wipe_6 : decode cX5_wipe 6 = .ok (.iconst 0, 1) := by decide +kernel
theorem dX5_wipe_7 : decode cX5_wipe 7 = .ok (.putfield 81, 3) := by decide +kernel
theorem dX5_wipe_10 : decode cX5_wipe 10 = .ok (.iload_n 1, 1) := by decide +kernel
theorem dX5_wipe_11 : decode cX5_wipe 11 = .ok (.ireturn, 1) := by decide +kernel
theorem dX5_letter_0 : decode cX5_letter 0 = .ok (.iload_n 1, 1) := by decide +kernel
theorem dX5_letter_1 : decode cX5_letter 1 = .ok (.aload_n 0, 1) := by decide +kernel
theorem dX5_letter_2 : decode cX5_letter 2 = .ok (.getfield 81, 3) := by decide +kernel
theorem dX5_letter_5 : decode cX5_letter 5 = .ok (.if_icmp .ge 12, 3) := by decide +kernel
theorem dX5_letter_8 : decode cX5_letter 8 = .ok (.aload_n 0, 1) := by decide +kernel
theorem dX5_letter_9 : decode cX5_letter 9 = .ok (.getfield 31, 3) := by decide +kernel
theorem dX5_letter_12 : decode cX5_letter 12 = .ok (.iload_n 1, 1) := by decide +kernel
theorem dX5_letter_13 : decode cX5_letter 13 = .ok (.iaload, 1) := by decide +kernel
theorem dX5_letter_14 : decode cX5_letter 14 = .ok (.goto 4, 3) := by decide +kernel
theorem dX5_letter_17 : decode cX5_letter 17 = .ok (.iconst (-1), 1) := by decide +kernel
theorem dX5_letter_18 : decode cX5_letter 18 = .ok (.ireturn, 1) := by decide +kernel
theorem dX5_figureAt_0 : decode cX5_figureAt 0 = .ok (.aload_n 0, 1) := by decide +kernel
theorem dX5_figureAt_1 : decode cX5_figureAt 1 = .ok (.iload_n 1, 1) := by decide +kernel
theorem dX5_figureAt_2 : decode cX5_figureAt 2 = .ok (.invokevirtual 84, 3) := by decide +kernel
theorem dX5_figureAt_5 : decode cX5_figureAt 5 = .ok (.bipush 48, 2) := by decide +kernel
theorem dX5_figureAt_7 : decode cX5_figureAt 7 = .ok (.isub, 1) := by decide +kernel
theorem dX5_figureAt_8 : decode cX5_figureAt 8 = .ok (.istore_n 3, 1) := by decide +kernel
theorem dX5_figureAt_9 : decode cX5_figureAt 9 = .ok (.iload_n 3, 1) := by decide +kernel
theorem dX5_figureAt_10 : decode cX5_figureAt 10 = .ok (.i2l, 1) := by decide +kernel
theorem dX5_figureAt_11 : decode cX5_figureAt 11 = .ok (.lconst 0, 1) := by decide +kernel
theorem dX5_figureAt_12 : decode cX5_figureAt 12 = .ok (.iload_n 2, 1) := by decide +kernel
theorem dX5_figureAt_13 : decode cX5_figureAt 13 = .ok (.i2l, 1) := by decide +kernel
theorem dX5_figureAt_14 : decode cX5_figureAt 14 = .ok (.invokestatic 62, 3) := by decide +kernel
theorem dX5_figureAt_17 : decode cX5_figureAt 17 = .ok (.ifCond .eq 7, 3) := by decide +kernel
theorem dX5_figureAt_20 : decode cX5_figureAt 20 = .ok (.iload_n 3, 1) := by decide +kernel
theorem dX5_figureAt_21 : decode cX5_figureAt 21 = .ok (.goto 5, 3) := by decide +kernel
theorem dX5_figureAt_24 : decode cX5_figureAt 24 = .ok (.bipush (-4), 2) := by decide +kernel
theorem dX5_figureAt_26 : decode cX5_figureAt 26 = .ok (.ireturn, 1) := by decide +kernel
theorem dX5_readItem_0 : decode cX5_readItem 0 = .ok (.aload_n 0, 1) := by decide +kernel
theorem dX5_readItem_1 : decode cX5_readItem 1 = .ok (.iload_n 1, 1) := by decide +kernel
theorem dX5_readItem_2 : decode cX5_readItem 2 = .ok (.invokevirtual 84, 3) := by decide +kernel
theorem dX5_readItem_5 : decode cX5_readItem 5 = .ok (.istore_n 2, 1) := by decide +kernel
theorem dX5_readItem_6 : decode cX5_readItem 6 = .ok (.iload_n 2, 1) := by decide +kernel
theorem dX5_readItem_7 : decode cX5_readItem 7 = .ok (.bipush 114, 2) := by decide +kernel
theorem dX5_readItem_9 : decode cX5_readItem 9 = .ok (.if_icmp .ne 61, 3) := by decide +kernel
theorem dX5_readItem_12 : decode cX5_readItem 12 = .ok (.aload_n 0, 1) := by decide +kernel
theorem dX5_readItem_13 : decode cX5_readItem 13 = .ok (.iload_n 1, 1) := by decide +kernel
theorem dX5_readItem_14 : decode cX5_readItem 14 = .ok (.iconst 1, 1) := by decide +kernel
theorem dX5_readItem_15 : decode cX5_readItem 15 = .ok (.iadd, 1) := by decide +kernel
theorem dX5_readItem_16 : decode cX5_readItem 16 = .ok (.iconst 3, 1) := by decide +kernel
theorem dX5_readItem_17 : decode cX5_readItem 17 = .ok (.invokevirtual 88, 3) := by decide +kernel
theorem dX5_readItem_20 : decode cX5_readItem 20 = .ok (.istore_n 3, 1) := by decide +kernel
theorem dX5_readItem_21 : decode cX5_readItem 21 = .ok (.iload_n 3, 1) := by decide +kernel
theorem dX5_readItem_22 : decode cX5_readItem 22 = .ok (.ifCond .lt 24, 3) := by decide +kernel
theorem dX5_readItem_25 : decode cX5_readItem 25 = .ok (.aload_n 0, 1) := by decide +kernel
theorem dX5_readItem_26 : decode cX5_readItem 26 = .ok (.iload_n 1, 1) := by decide +kernel
theorem dX5_readItem_27 : decode cX5_readItem 27 = .ok (.iconst 2, 1) := by decide +kernel
theorem dX5_readItem_28 : decode cX5_readItem 28 = .ok (.iadd, 1) := by decide +kernel
theorem dX5_readItem_29 : decode cX5_readItem 29 = .ok (.invokevirtual 84, 3) := by decide +kernel
theorem dX5_readItem_32 : decode cX5_readItem 32 = .ok (.bipush 59, 2) := by decide +kernel
theorem dX5_readItem_34 : decode cX5_readItem 34 = .ok (.if_icmp .ne 12, 3) := by decide +kernel
theorem dX5_readItem_37 : decode cX5_readItem 37 = .ok (.aload_n 0, 1) := by decide +kernel
theorem dX5_readItem_38 : decode cX5_readItem 38 = .ok (.getfield 92, 3) := by decide +kernel
theorem dX5_readItem_41 : decode cX5_readItem 41 = .ok (.bipush 12, 2) := by decide +kernel
theorem dX5_readItem_43 : decode cX5_readItem 43 = .ok (.if_icmp .ne 5, 3) := by decide +kernel
theorem dX5_readItem_46 : decode cX5_readItem 46 = .ok (.iconst 0, 1) := by decide +kernel
theorem dX5_readItem_47 : decode cX5_readItem 47 = .ok (.ireturn, 1) := by decide +kernel
theorem dX5_readItem_48 : decode cX5_readItem 48 = .ok (.aload_n 0, 1) := by decide +kernel
theorem dX5_readItem_49 : decode cX5_readItem 49 = .ok (.getfield 40, 3) := by decide +kernel
theorem dX5_readItem_52 : decode cX5_readItem 52 = .ok (.aload_n 0, 1) := by decide +kernel
theorem dX5_readItem_53 : decode cX5_readItem 53 = .ok (.getfield 92, 3) := by decide +kernel
theorem dX5_readItem_56 : decode cX5_readItem 56 = .ok (.iload_n 3, 1) := by decide +kernel
theorem dX5_readItem_57 : decode cX5_readItem 57 = .ok (.iastore, 1) := by decide +kernel
theorem dX5_readItem_58 : decode cX5_readItem 58 = .ok (.aload_n 0, 1) := by decide +kernel
theorem dX5_readItem_59 : decode cX5_readItem 59 = .ok (.dup, 1) := by decide +kernel
theorem dX5_readItem_60 : decode cX5_readItem 60 = .ok (.getfield 92, 3) := by decide +kernel
theorem dX5_readItem_63 : decode cX5_readItem 63 = .ok (.iconst 1, 1) := by decide +kernel
theorem dX5_readItem_64 : decode cX5_readItem 64 = .ok (.iadd, 1) := by decide +kernel
theorem dX5_readItem_65 : decode cX5_readItem 65 = .ok (.putfield 92, 3) := by decide +kernel
theorem dX5_readItem_68 : decode cX5_readItem 68 = .ok (.iconst 3, 1) := by decide +kernel
theorem dX5_readItem_69 : decode cX5_readItem 69 = .ok (.ireturn, 1) := by decide +kernel
theorem dX5_readItem_70 : decode cX5_readItem 70 = .ok (.aload_n 0, 1) := by decide +kernel
theorem dX5_readItem_71 : decode cX5_readItem 71 = .ok (.iload_n 1, 1) := by decide +kernel
theorem dX5_readItem_72 : decode cX5_readItem 72 = .ok (.iconst 1, 1) := by decide +kernel
theorem dX5_readItem_73 : decode cX5_readItem 73 = .ok (.iadd, 1) := by decide +kernel
theorem dX5_readItem_74 : decode cX5_readItem 74 = .ok (.iconst 3, 1) := by decide +kernel
theorem dX5_readItem_75 : decode cX5_readItem 75 = .ok (.invokevirtual 88, 3) := by decide +kernel
theorem dX5_readItem_78 : decode cX5_readItem 78 = .ok (.istore_n 3, 1) := by decide +kernel
theorem dX5_readItem_79 : decode cX5_readItem 79 = .ok (.aload_n 0, 1) := by decide +kernel
theorem dX5_readItem_80 : decode cX5_readItem 80 = .ok (.iload_n 1, 1) := by decide +kernel
theorem dX5_readItem_81 : decode cX5_readItem 81 = .ok (.iconst 3, 1) := by decide +kernel
theorem dX5_readItem_82 : decode cX5_readItem 82 = .ok (.iadd, 1) := by decide +kernel
theorem dX5_readItem_83 : decode cX5_readItem 83 = .ok (.iload_n 2, 1) := by decide +kernel
theorem dX5_readItem_84 : decode cX5_readItem 84 = .ok (.bipush 100, 2) := by decide +kernel
theorem dX5_readItem_86 : decode cX5_readItem 86 = .ok (.if_icmp .ne 7, 3) := by decide +kernel
theorem dX5_readItem_89 : decode cX5_readItem 89 = .ok (.iconst 5, 1) := by decide +kernel
theorem dX5_readItem_90 : decode cX5_readItem 90 = .ok (.goto 4, 3) := by decide +kernel
theorem dX5_readItem_93 : decode cX5_readItem 93 = .ok (.iconst 3, 1) := by decide +kernel
theorem dX5_readItem_94 : decode cX5_readItem 94 = .ok (.invokevirtual 88, 3) := by decide +kernel
theorem dX5_readItem_97 : decode cX5_readItem 97 = .ok (.istore 4, 2) := by decide +kernel
theorem dX5_readItem_99 : decode cX5_readItem 99 = .ok (.iload_n 2, 1) := by decide +kernel
theorem dX5_readItem_100 : decode cX5_readItem 100 = .ok (.bipush 100, 2) := by decide +kernel
theorem dX5_readItem_102 : decode cX5_readItem 102 = .ok (.if_icmp .eq 9, 3) := by decide +kernel
theorem dX5_readItem_105 : decode cX5_readItem 105 = .ok (.iload_n 2, 1) := by decide +kernel
theorem dX5_readItem_106 : decode cX5_readItem 106 = .ok (.bipush 112, 2) := by decide +kernel
theorem dX5_readItem_108 : decode cX5_readItem 108 = .ok (.if_icmp .ne 36, 3) := by decide +kernel
theorem dX5_readItem_111 : decode cX5_readItem 111 = .ok (.iload_n 3, 1) := by decide +kernel
theorem dX5_readItem_112 : decode cX5_readItem 112 = .ok (.ifCond .lt 32, 3) := by decide +kernel
theorem dX5_readItem_115 : decode cX5_readItem 115 = .ok (.aload_n 0, 1) := by decide +kernel
theorem dX5_readItem_116 : decode cX5_readItem 116 = .ok (.iload_n 1, 1) := by decide +kernel
theorem dX5_readItem_117 : decode cX5_readItem 117 = .ok (.iconst 2, 1) := by decide +kernel
theorem dX5_readItem_118 : decode cX5_readItem 118 = .ok (.iadd, 1) := by decide +kernel
theorem dX5_readItem_119 : decode cX5_readItem 119 = .ok (.invokevirtual 84, 3) := by decide +kernel
theorem dX5_readItem_122 : decode cX5_readItem 122 = .ok (.bipush 44, 2) := by decide +kernel
theorem dX5_readItem_124 : decode cX5_readItem 124 = .ok (.if_icmp .ne 20, 3) := by decide +kernel
theorem dX5_readItem_127 : decode cX5_readItem 127 = .ok (.iload 4, 2) := by decide +kernel
theorem dX5_readItem_129 : decode cX5_readItem 129 = .ok (.ifCond .lt 15, 3) := by decide +kernel
theorem dX5_readItem_132 : decode cX5_readItem 132 = .ok (.aload_n 0, 1) := by decide +kernel
theorem dX5_readItem_133 : decode cX5_readItem 133 = .ok (.iload_n 1, 1) := by decide +kernel
theorem dX5_readItem_134 : decode cX5_readItem 134 = .ok (.iconst 4, 1) := by decide +kernel
theorem dX5_readItem_135 : decode cX5_readItem 135 = .ok (.iadd, 1) := by decide +kernel
theorem dX5_readItem_136 : decode cX5_readItem 136 = .ok (.invokevirtual 84, 3) := by decide +kernel
theorem dX5_readItem_139 : decode cX5_readItem 139 = .ok (.bipush 59, 2) := by decide +kernel
theorem dX5_readItem_141 : decode cX5_readItem 141 = .ok (.if_icmp .eq 5, 3) := by decide +kernel
theorem dX5_readItem_144 : decode cX5_readItem 144 = .ok (.iconst 0, 1) := by decide +kernel
theorem dX5_readItem_145 : decode cX5_readItem 145 = .ok (.ireturn, 1) := by decide +kernel
theorem dX5_readItem_146 : decode cX5_readItem 146 = .ok (.iload_n 2, 1) := by decide +kernel
theorem dX5_readItem_147 : decode cX5_readItem 147 = .ok (.bipush 100, 2) := by decide +kernel
theorem dX5_readItem_149 : decode cX5_readItem 149 = .ok (.if_icmp .ne 14, 3) := by decide +kernel
theorem dX5_readItem_152 : decode cX5_readItem 152 = .ok (.aload_n 0, 1) := by decide +kernel
theorem dX5_readItem_153 : decode cX5_readItem 153 = .ok (.getfield 34, 3) := by decide +kernel
theorem dX5_readItem_156 : decode cX5_readItem 156 = .ok (.iload_n 3, 1) := by decide +kernel
theorem dX5_readItem_157 : decode cX5_readItem 157 = .ok (.iload 4, 2) := by decide +kernel
theorem dX5_readItem_159 : decode cX5_readItem 159 = .ok (.iastore, 1) := by decide +kernel
theorem dX5_readItem_160 : decode cX5_readItem 160 = .ok (.goto 11, 3) := by decide +kernel
theorem dX5_readItem_163 : decode cX5_readItem 163 = .ok (.aload_n 0, 1) := by decide +kernel
theorem dX5_readItem_164 : decode cX5_readItem 164 = .ok (.getfield 37, 3) := by decide +kernel
theorem dX5_readItem_167 : decode cX5_readItem 167 = .ok (.iload_n 3, 1) := by decide +kernel
theorem dX5_readItem_168 : decode cX5_readItem 168 = .ok (.iload 4, 2) := by decide +kernel
theorem dX5_readItem_170 : decode cX5_readItem 170 = .ok (.iastore, 1) := by decide +kernel
theorem dX5_readItem_171 : decode cX5_readItem 171 = .ok (.iconst 5, 1) := by decide +kernel
theorem dX5_readItem_172 : decode cX5_readItem 172 = .ok (.ireturn, 1) := by decide +kernel
theorem dX5_fault_0 : decode cX5_fault 0 = .ok (.aload_n 0, 1) := by decide +kernel
theorem dX5_fault_1 : decode cX5_fault 1 = .ok (.iconst 0, 1) := by decide +kernel
theorem dX5_fault_2 : decode cX5_fault 2 = .ok (.putfield 92, 3) := by decide +kernel
theorem dX5_fault_5 : decode cX5_fault 5 = .ok (.iconst 0, 1) := by decide +kernel
theorem dX5_fault_6 : decode cX5_fault 6 = .ok (.istore_n 1, 1) := by decide +kernel
theorem dX5_fault_7 : decode cX5_fault 7 = .ok (.iload_n 1, 1) := by decide +kernel
theorem dX5_fault_8 : decode cX5_fault 8 = .ok (.iconst 4, 1) := by decide +kernel
theorem dX5_fault_9 : decode cX5_fault 9 = .ok (.if_icmp .ge 23, 3) := by decide +kernel
theorem dX5_fault_12 : decode cX5_fault 12 = .ok (.aload_n 0, 1) := by decide +kernel
theorem dX5_fault_13 : decode cX5_fault 13 = .ok (.getfield 34, 3) := by decide +kernel
theorem dX5_fault_16 : decode cX5_fault 16 = .ok (.iload_n 1, 1) := by decide +kernel
theorem dX5_fault_17 : decode cX5_fault 17 = .ok (.iconst 0, 1) := by decide +kernel
theorem dX5_fault_18 : decode cX5_fault 18 = .ok (.iastore, 1) := by decide +kernel
theorem dX5_fault_19 : decode cX5_fault 19 = .ok (.aload_n 0, 1) := by decide +kernel
theorem dX5_fault_20 : decode cX5_fault 20 = .ok (.getfield 37, 3) := by decide +kernel
theorem dX5_fault_23 : decode cX5_fault 23 = .ok (.iload_n 1, 1) := by decide +kernel
theorem dX5_fault_24 : decode cX5_fault 24 = .ok (.iload_n 1, 1) := by decide +kernel
theorem dX5_fault_25 : decode cX5_fault 25 = .ok (.iastore, 1) := by decide +kernel
theorem dX5_fault_26 : decode cX5_fault 26 = .ok (.iinc 1 1, 3) := by decide +kernel
theorem dX5_fault_29 : decode cX5_fault 29 = .ok (.goto (-22), 3) := by decide +kernel
theorem dX5_fault_32 : decode cX5_fault 32 = .ok (.aload_n 0, 1) := by decide +kernel
theorem dX5_fault_33 : decode cX5_fault 33 = .ok (.iconst 0, 1) := by decide +kernel
theorem dX5_fault_34 : decode cX5_fault 34 = .ok (.putfield 95, 3) := by decide +kernel
theorem dX5_fault_37 : decode cX5_fault 37 = .ok (.aload_n 0, 1) := by decide +kernel
theorem dX5_fault_38 : decode cX5_fault 38 = .ok (.getfield 95, 3) := by decide +kernel
theorem dX5_fault_41 : decode cX5_fault 41 = .ok (.aload_n 0, 1) := by decide +kernel
theorem dX5_fault_42 : decode cX5_fault 42 = .ok (.getfield 81, 3) := by decide +kernel
theorem dX5_fault_45 : decode cX5_fault 45 = .ok (.if_icmp .ge 34, 3) := by decide +kernel
theorem dX5_fault_48 : decode cX5_fault 48 = .ok (.aload_n 0, 1) := by decide +kernel
theorem dX5_fault_49 : decode cX5_fault 49 = .ok (.aload_n 0, 1) := by decide +kernel
theorem dX5_fault_50 : decode cX5_fault 50 = .ok (.getfield 95, 3) := by decide +kernel
theorem dX5_fault_53 : decode cX5_fault 53 = .ok (.invokevirtual 98, 3) := by decide +kernel
theorem dX5_fault_56 : decode cX5_fault 56 = .ok (.istore_n 1, 1) := by decide +kernel
theorem dX5_fault_57 : decode cX5_fault 57 = .ok (.iload_n 1, 1) := by decide +kernel
theorem dX5_fault_58 : decode cX5_fault 58 = .ok (.ifCond .ne 8, 3) := by decide +kernel
theorem dX5_fault_61 : decode cX5_fault 61 = .ok (.aload_n 0, 1) := by decide +kernel
theorem dX5_fault_62 : decode cX5_fault 62 = .ok (.getfield 95, 3) := by decide +kernel
theorem dX5_fault_65 : decode cX5_fault 65 = .ok (.ireturn, 1) := by decide +kernel
theorem dX5_fault_66 : decode cX5_fault 66 = .ok (.aload_n 0, 1) := by decide +kernel
theorem dX5_fault_67 : decode cX5_fault 67 = .ok (.dup, 1) := by decide +kernel
theorem dX5_fault_68 : decode cX5_fault 68 = .ok (.getfield 95, 3) := by decide +kernel
theorem dX5_fault_71 : decode cX5_fault 71 = .ok (.iload_n 1, 1) := by decide +kernel
theorem dX5_fault_72 : decode cX5_fault 72 = .ok (.iadd, 1) := by decide +kernel
theorem dX5_fault_73 : decode cX5_fault 73 = .ok (.putfield 95, 3) := by decide +kernel
theorem dX5_fault_76 : decode cX5_fault 76 = .ok (.goto (-39), 3) := by decide +kernel
theorem dX5_fault_79 : decode cX5_fault 79 = .ok (.bipush (-4), 2) := by decide +kernel
theorem dX5_fault_81 : decode cX5_fault 81 = .ok (.ireturn, 1) := by decide +kernel
theorem dX5_lay_0 : decode cX5_lay 0 = .ok (.aload_n 0, 1) := by decide +kernel
theorem dX5_lay_1 : decode cX5_lay 1 = .ok (.getfield 81, 3) := by decide +kernel
theorem dX5_lay_4 : decode cX5_lay 4 = .ok (.ifCond .eq 10, 3) := by decide +kernel
theorem dX5_lay_7 : decode cX5_lay 7 = .ok (.aload_n 0, 1) := by decide +kernel
theorem dX5_lay_8 : decode cX5_lay 8 = .ok (.invokevirtual 101, 3) := by decide +kernel
theorem dX5_lay_11 : decode cX5_lay 11 = .ok (.ifCond .lt 6, 3) := by decide +kernel
theorem dX5_lay_14 : decode cX5_lay 14 = .ok (.bipush (-2), 2) := by decide +kernel
theorem dX5_lay_16 : decode cX5_lay 16 = .ok (.ireturn, 1) := by decide +kernel
theorem dX5_lay_17 : decode cX5_lay 17 = .ok (.iconst 0, 1) := by decide +kernel
theorem dX5_lay_18 : decode cX5_lay 18 = .ok (.istore_n 1, 1) := by decide +kernel
theorem dX5_lay_19 : decode cX5_lay 19 = .ok (.iconst 0, 1) := by decide +kernel
theorem dX5_lay_20 : decode cX5_lay 20 = .ok (.istore_n 2, 1) := by decide +kernel
theorem dX5_lay_21 : decode cX5_lay 21 = .ok (.iload_n 2, 1) := by decide +kernel
theorem dX5_lay_22 : decode cX5_lay 22 = .ok (.iconst 4, 1) := by decide +kernel
theorem dX5_lay_23 : decode cX5_lay 23 = .ok (.if_icmp .ge 20, 3) := by decide +kernel
theorem dX5_lay_26 : decode cX5_lay 26 = .ok (.iload_n 1, 1) := by decide +kernel
theorem dX5_lay_27 : decode cX5_lay 27 = .ok (.iconst 1, 1) := by decide +kernel
theorem dX5_lay_28 : decode cX5_lay 28 = .ok (.aload_n 0, 1) := by decide +kernel
theorem dX5_lay_29 : decode cX5_lay 29 = .ok (.getfield 37, 3) := by decide +kernel
theorem dX5_lay_32 : decode cX5_lay 32 = .ok (.iload_n 2, 1) := by decide +kernel
theorem dX5_lay_33 : decode cX5_lay 33 = .ok (.iaload, 1) := by decide +kernel
theorem dX5_lay_34 : decode cX5_lay 34 = .ok (.ishl, 1) := by decide +kernel
theorem dX5_lay_35 : decode cX5_lay 35 = .ok (.ior, 1) := by decide +kernel
theorem dX5_lay_36 : decode cX5_lay 36 = .ok (.istore_n 1, 1) := by decide +kernel
theorem dX5_lay_37 : decode cX5_lay 37 = .ok (.iinc 2 1, 3) := by decide +kernel
theorem dX5_lay_40 : decode cX5_lay 40 = .ok (.goto (-19), 3) := by decide +kernel
theorem dX5_lay_43 : decode cX5_lay 43 = .ok (.iload_n 1, 1) := by decide +kernel
theorem dX5_lay_44 : decode cX5_lay 44 = .ok (.bipush 15, 2) := by decide +kernel
theorem dX5_lay_46 : decode cX5_lay 46 = .ok (.if_icmp .eq 6, 3) := by decide +kernel
theorem dX5_lay_49 : decode cX5_lay 49 = .ok (.bipush (-2), 2) := by decide +kernel
theorem dX5_lay_51 : decode cX5_lay 51 = .ok (.ireturn, 1) := by decide +kernel
theorem dX5_lay_52 : decode cX5_lay 52 = .ok (.iconst 0, 1) := by decide +kernel
theorem dX5_lay_53 : decode cX5_lay 53 = .ok (.istore_n 2, 1) := by decide +kernel
theorem dX5_lay_54 : decode cX5_lay 54 = .ok (.iload_n 2, 1) := by decide +kernel
theorem dX5_lay_55 : decode cX5_lay 55 = .ok (.iconst 4, 1) := by decide +kernel
theorem dX5_lay_56 : decode cX5_lay 56 = .ok (.if_icmp .ge 33, 3) := by decide +kernel
theorem dX5_lay_59 : decode cX5_lay 59 = .ok (.aload_n 0, 1) := by decide +kernel
theorem dX5_lay_60 : decode cX5_lay 60 = .ok (.getfield 7, 3) := by decide +kernel
theorem dX5_lay_63 : decode cX5_lay 63 = .ok (.iload_n 2, 1) := by decide +kernel
theorem dX5_lay_64 : decode cX5_lay 64 = .ok (.aload_n 0, 1) := by decide +kernel
theorem dX5_lay_65 : decode cX5_lay 65 = .ok (.getfield 34, 3) := by decide +kernel
theorem dX5_lay_68 : decode cX5_lay 68 = .ok (.iload_n 2, 1) := by decide +kernel
theorem dX5_lay_69 : decode cX5_lay 69 = .ok (.iaload, 1) := by decide +kernel
theorem dX5_lay_70 : decode cX5_lay 70 = .ok (.iastore, 1) := by decide +kernel
theorem dX5_lay_71 : decode cX5_lay 71 = .ok (.aload_n 0, 1) := by decide +kernel
theorem dX5_lay_72 : decode cX5_lay 72 = .ok (.getfield 13, 3) := by decide +kernel
theorem dX5_lay_75 : decode cX5_lay 75 = .ok (.iload_n 2, 1) := by decide +kernel
theorem dX5_lay_76 : decode cX5_lay 76 = .ok (.aload_n 0, 1) := by decide +kernel
theorem dX5_lay_77 : decode cX5_lay 77 = .ok (.getfield 37, 3) := by decide +kernel
theorem dX5_lay_80 : decode cX5_lay 80 = .ok (.iload_n 2, 1) := by decide +kernel
theorem dX5_lay_81 : decode cX5_lay 81 = .ok (.iaload, 1) := by decide +kernel
theorem dX5_lay_82 : decode cX5_lay 82 = .ok (.iastore, 1) := by decide +kernel
theorem dX5_lay_83 : decode cX5_lay 83 = .ok (.iinc 2 1, 3) := by decide +kernel
theorem dX5_lay_86 : decode cX5_lay 86 = .ok (.goto (-32), 3) := by decide +kernel
theorem dX5_lay_89 : decode cX5_lay 89 = .ok (.iconst 0, 1) := by decide +kernel
theorem dX5_lay_90 : decode cX5_lay 90 = .ok (.istore_n 2, 1) := by decide +kernel
theorem dX5_lay_91 : decode cX5_lay 91 = .ok (.iload_n 2, 1) := by decide +kernel
theorem dX5_lay_92 : decode cX5_lay 92 = .ok (.aload_n 0, 1) := by decide +kernel
theorem dX5_lay_93 : decode cX5_lay 93 = .ok (.getfield 92, 3) := by decide +kernel
theorem dX5_lay_96 : decode cX5_lay 96 = .ok (.if_icmp .ge 21, 3) := by decide +kernel
theorem dX5_lay_99 : decode cX5_lay 99 = .ok (.aload_n 0, 1) := by decide +kernel
theorem dX5_lay_100 : decode cX5_lay 100 = .ok (.getfield 16, 3) := by decide +kernel
theorem dX5_lay_103 : decode cX5_lay 103 = .ok (.iload_n 2, 1) := by decide +kernel
theorem dX5_lay_104 : decode cX5_lay 104 = .ok (.aload_n 0, 1) := by decide +kernel
theorem dX5_lay_105 : decode cX5_lay 105 = .ok (.getfield 40, 3) := by decide +kernel
theorem dX5_lay_108 : decode cX5_lay 108 = .ok (.iload_n 2, 1) := by decide +kernel
theorem dX5_lay_109 : decode cX5_lay 109 = .ok (.iaload, 1) := by decide +kernel
theorem dX5_lay_110 : decode cX5_lay 110 = .ok (.iastore, 1) := by decide +kernel
theorem dX5_lay_111 : decode cX5_lay 111 = .ok (.iinc 2 1, 3) := by decide +kernel
theorem dX5_lay_114 : decode cX5_lay 114 = .ok (.goto (-23), 3) := by decide +kernel
theorem dX5_lay_117 : decode cX5_lay 117 = .ok (.aload_n 0, 1) := by decide +kernel
theorem dX5_lay_118 : decode cX5_lay 118 = .ok (.aload_n 0, 1) := by decide +kernel
theorem dX5_lay_119 : decode cX5_lay 119 = .ok (.getfield 92, 3) := by decide +kernel
theorem dX5_lay_122 : decode cX5_lay 122 = .ok (.putfield 55, 3) := by decide +kernel
theorem dX5_lay_125 : decode cX5_lay 125 = .ok (.aload_n 0, 1) := by decide +kernel
theorem dX5_lay_126 : decode cX5_lay 126 = .ok (.invokevirtual 59, 3) := by decide +kernel
theorem dX5_lay_129 : decode cX5_lay 129 = .ok (.aload_n 0, 1) := by decide +kernel
theorem dX5_lay_130 : decode cX5_lay 130 = .ok (.getfield 55, 3) := by decide +kernel
theorem dX5_lay_133 : decode cX5_lay 133 = .ok (.ireturn, 1) := by decide +kernel
theorem dX5_placeOf_0 : decode cX5_placeOf 0 = .ok (.iconst 0, 1) := by decide +kernel
theorem dX5_placeOf_1 : decode cX5_placeOf 1 = .ok (.istore_n 2, 1) := by decide +kernel
theorem dX5_placeOf_2 : decode cX5_placeOf 2 = .ok (.aload_n 0, 1) := by decide +kernel
theorem dX5_placeOf_3 : decode cX5_placeOf 3 = .ok (.getfield 19, 3) := by decide +kernel
theorem dX5_placeOf_6 : decode cX5_placeOf 6 = .ok (.iconst 0, 1) := by decide +kernel
theorem dX5_placeOf_7 : decode cX5_placeOf 7 = .ok (.iload_n 2, 1) := by decide +kernel
theorem dX5_placeOf_8 : decode cX5_placeOf 8 = .ok (.iadd, 1) := by decide +kernel
theorem dX5_placeOf_9 : decode cX5_placeOf 9 = .ok (.iaload, 1) := by decide +kernel
theorem dX5_placeOf_10 : decode cX5_placeOf 10 = .ok (.iload_n 1, 1) := by decide +kernel
theorem dX5_placeOf_11 : decode cX5_placeOf 11 = .ok (.if_icmp .eq 9, 3) := by decide +kernel
theorem dX5_placeOf_14 : decode cX5_placeOf 14 = .ok (.iinc 2 1, 3) := by decide +kernel
theorem dX5_placeOf_17 : decode cX5_placeOf 17 = .ok (.goto (-15), 3) := by decide +kernel
theorem dX5_placeOf_20 : decode cX5_placeOf 20 = .ok (.iload_n 2, 1) := by decide +kernel
theorem dX5_placeOf_21 : decode cX5_placeOf 21 = .ok (.ireturn, 1) := by decide +kernel
theorem dX5_dancer_0 : decode cX5_dancer 0 = .ok (.iload_n 1, 1) := by decide +kernel
theorem dX5_dancer_1 : decode cX5_dancer 1 = .ok (.invokestatic 105, 3) := by decide +kernel
theorem dX5_dancer_4 : decode cX5_dancer 4 = .ok (.ifCond .eq 15, 3) := by decide +kernel
theorem dX5_dancer_7 : decode cX5_dancer 7 = .ok (.iload_n 2, 1) := by decide +kernel
theorem dX5_dancer_8 : decode cX5_dancer 8 = .ok (.i2l, 1) := by decide +kernel
theorem dX5_dancer_9 : decode cX5_dancer 9 = .ok (.lconst 0, 1) := by decide +kernel
theorem dX5_dancer_10 : decode cX5_dancer 10 = .ok (.ldc2_w 109, 3) := by decide +kernel
theorem dX5_dancer_13 : decode cX5_dancer 13 = .ok (.invokestatic 62, 3) := by decide +kernel
theorem dX5_dancer_16 : decode cX5_dancer 16 = .ok (.ifCond .ne 5, 3) := by decide +kernel
theorem dX5_dancer_19 : decode cX5_dancer 19 = .ok (.iconst (-1), 1) := by decide +kernel
theorem dX5_dancer_20 : decode cX5_dancer 20 = .ok (.ireturn, 1) := by decide +kernel
theorem dX5_dancer_21 : decode cX5_dancer 21 = .ok (.iload_n 2, 1) := by decide +kernel
theorem dX5_dancer_22 : decode cX5_dancer 22 = .ok (.ifCond .ne 12, 3) := by decide +kernel
theorem dX5_dancer_25 : decode cX5_dancer 25 = .ok (.aload_n 0, 1) := by decide +kernel
theorem dX5_dancer_26 : decode cX5_dancer 26 = .ok (.getfield 7, 3) := by decide +kernel
theorem dX5_dancer_29 : decode cX5_dancer 29 = .ok (.iload_n 1, 1) := by decide +kernel
theorem dX5_dancer_30 : decode cX5_dancer 30 = .ok (.iaload, 1) := by decide +kernel
theorem dX5_dancer_31 : decode cX5_dancer 31 = .ok (.goto 24, 3) := by decide +kernel
theorem dX5_dancer_34 : decode cX5_dancer 34 = .ok (.iload_n 2, 1) := by decide +kernel
theorem dX5_dancer_35 : decode cX5_dancer 35 = .ok (.iconst 1, 1) := by decide +kernel
theorem dX5_dancer_36 : decode cX5_dancer 36 = .ok (.if_icmp .ne 11, 3) := by decide +kernel
theorem dX5_dancer_39 : decode cX5_dancer 39 = .ok (.aload_n 0, 1) := by decide +kernel
theorem dX5_dancer_40 : decode cX5_dancer 40 = .ok (.iload_n 1, 1) := by decide +kernel
theorem dX5_dancer_41 : decode cX5_dancer 41 = .ok (.invokevirtual 111, 3) := by decide +kernel
theorem dX5_dancer_44 : decode cX5_dancer 44 = .ok (.goto 11, 3) := by decide +kernel
theorem dX5_dancer_47 : decode cX5_dancer 47 = .ok (.aload_n 0, 1) := by decide +kernel
theorem dX5_dancer_48 : decode cX5_dancer 48 = .ok (.getfield 19, 3) := by decide +kernel
theorem dX5_dancer_51 : decode cX5_dancer 51 = .ok (.iconst 4, 1) := by decide +kernel
theorem dX5_dancer_52 : decode cX5_dancer 52 = .ok (.iload_n 1, 1) := by decide +kernel
theorem dX5_dancer_53 : decode cX5_dancer 53 = .ok (.iadd, 1) := by decide +kernel
theorem dX5_dancer_54 : decode cX5_dancer 54 = .ok (.iaload, 1) := by decide +kernel
theorem dX5_dancer_55 : decode cX5_dancer 55 = .ok (.ireturn, 1) := by decide +kernel
theorem dX5_place_0 : decode cX5_place 0 = .ok (.iload_n 1, 1) := by decide +kernel
theorem dX5_place_1 : decode cX5_place 1 = .ok (.invokestatic 105, 3) := by decide +kernel
theorem dX5_place_4 : decode cX5_place 4 = .ok (.ifCond .eq 10, 3) := by decide +kernel
theorem dX5_place_7 : decode cX5_place 7 = .ok (.iload_n 2, 1) := by decide +kernel
theorem dX5_place_8 : decode cX5_place 8 = .ok (.invokestatic 114, 3) := by decide +kernel
theorem dX5_place_11 : decode cX5_place 11 = .ok (.ifCond .ne 5, 3) := by decide +kernel
theorem dX5_place_14 : decode cX5_place 14 = .ok (.iconst (-1), 1) := by decide +kernel
theorem dX5_place_15 : decode cX5_place 15 = .ok (.ireturn, 1) := by decide +kernel
theorem dX5_place_16 : decode cX5_place 16 = .ok (.iload_n 2, 1) := by decide +kernel
theorem dX5_place_17 : decode cX5_place 17 = .ok (.ifCond .ne 14, 3) := by decide +kernel
theorem dX5_place_20 : decode cX5_place 20 = .ok (.aload_n 0, 1) := by decide +kernel
theorem dX5_place_21 : decode cX5_place 21 = .ok (.getfield 19, 3) := by decide +kernel
theorem dX5_place_24 : decode cX5_place 24 = .ok (.iconst 0, 1) := by decide +kernel
theorem dX5_place_25 : decode cX5_place 25 = .ok (.iload_n 1, 1) := by decide +kernel
theorem dX5_place_26 : decode cX5_place 26 = .ok (.iadd, 1) := by decide +kernel
theorem dX5_place_27 : decode cX5_place 27 = .ok (.iaload, 1) := by decide +kernel
theorem dX5_place_28 : decode cX5_place 28 = .ok (.goto 18, 3) := by decide +kernel
theorem dX5_place_31 : decode cX5_place 31 = .ok (.aload_n 0, 1) := by decide +kernel
theorem dX5_place_32 : decode cX5_place 32 = .ok (.getfield 19, 3) := by decide +kernel
theorem dX5_place_35 : decode cX5_place 35 = .ok (.iconst 4, 1) := by decide +kernel
theorem dX5_place_36 : decode cX5_place 36 = .ok (.aload_n 0, 1) := by decide +kernel
theorem dX5_place_37 : decode cX5_place 37 = .ok (.getfield 19, 3) := by decide +kernel
theorem dX5_place_40 : decode cX5_place 40 = .ok (.iconst 0, 1) := by decide +kernel
theorem dX5_place_41 : decode cX5_place 41 = .ok (.iload_n 1, 1) := by decide +kernel
theorem dX5_place_42 : decode cX5_place 42 = .ok (.iadd, 1) := by decide +kernel
theorem dX5_place_43 : decode cX5_place 43 = .ok (.iaload, 1) := by decide +kernel
theorem dX5_place_44 : decode cX5_place 44 = .ok (.iadd, 1) := by decide +kernel
theorem dX5_place_45 : decode cX5_place 45 = .ok (.iaload, 1) := by decide +kernel
theorem dX5_place_46 : decode cX5_place 46 = .ok (.ireturn, 1) := by decide +kernel
theorem dX5_wound_0 : decode cX5_wound 0 = .ok (.iload_n 1, 1) := by decide +kernel
theorem dX5_wound_1 : decode cX5_wound 1 = .ok (.invokestatic 114, 3) := by decide +kernel
theorem dX5_wound_4 : decode cX5_wound 4 = .ok (.ifCond .eq 15, 3) := by decide +kernel
theorem dX5_wound_7 : decode cX5_wound 7 = .ok (.aload_n 0, 1) := by decide +kernel
theorem dX5_wound_8 : decode cX5_wound 8 = .ok (.getfield 19, 3) := by decide +kernel
theorem dX5_wound_11 : decode cX5_wound 11 = .ok (.bipush 8, 2) := by decide +kernel
theorem dX5_wound_13 : decode cX5_wound 13 = .ok (.iload_n 1, 1) := by decide +kernel
theorem dX5_wound_14 : decode cX5_wound 14 = .ok (.iadd, 1) := by decide +kernel
theorem dX5_wound_15 : decode cX5_wound 15 = .ok (.iaload, 1) := by decide +kernel
theorem dX5_wound_16 : decode cX5_wound 16 = .ok (.goto 5, 3) := by decide +kernel
theorem dX5_wound_19 : decode cX5_wound 19 = .ok (.ldc 117, 2) := by decide +kernel
theorem dX5_wound_21 : decode cX5_wound 21 = .ok (.ireturn, 1) := by decide +kernel
theorem dX5_row_0 : decode cX5_row 0 = .ok (.iload_n 1, 1) := by decide +kernel
theorem dX5_row_1 : decode cX5_row 1 = .ok (.i2l, 1) := by decide +kernel
theorem dX5_row_2 : decode cX5_row 2 = .ok (.lconst 0, 1) := by decide +kernel
theorem dX5_row_3 : decode cX5_row 3 = .ok (.ldc2_w 118, 3) := by decide +kernel
theorem dX5_row_6 : decode cX5_row 6 = .ok (.invokestatic 62, 3) := by decide +kernel
theorem dX5_row_9 : decode cX5_row 9 = .ok (.ifCond .ne 5, 3) := by decide +kernel
theorem dX5_row_12 : decode cX5_row 12 = .ok (.iconst (-1), 1) := by decide +kernel
theorem dX5_row_13 : decode cX5_row 13 = .ok (.ireturn, 1) := by decide +kernel
theorem dX5_row_14 : decode cX5_row 14 = .ok (.iload_n 1, 1) := by decide +kernel
theorem dX5_row_15 : decode cX5_row 15 = .ok (.aload_n 0, 1) := by decide +kernel
theorem dX5_row_16 : decode cX5_row 16 = .ok (.getfield 55, 3) := by decide +kernel
theorem dX5_row_19 : decode cX5_row 19 = .ok (.if_icmp .ge 12, 3) := by decide +kernel
theorem dX5_row_22 : decode cX5_row 22 = .ok (.aload_n 0, 1) := by decide +kernel
theorem dX5_row_23 : decode cX5_row 23 = .ok (.getfield 16, 3) := by decide +kernel
theorem dX5_row_26 : decode cX5_row 26 = .ok (.iload_n 1, 1) := by decide +kernel
theorem dX5_row_27 : decode cX5_row 27 = .ok (.iaload, 1) := by decide +kernel
theorem dX5_row_28 : decode cX5_row 28 = .ok (.goto 5, 3) := by decide +kernel
theorem dX5_row_31 : decode cX5_row 31 = .ok (.bipush (-4), 2) := by decide +kernel
theorem dX5_row_33 : decode cX5_row 33 = .ok (.ireturn, 1) := by decide +kernel
theorem dX5_common_0 : decode cX5_common 0 = .ok (.iload_n 0, 1) := by decide +kernel
theorem dX5_common_1 : decode cX5_common 1 = .ok (.ifCond .ge 8, 3) := by decide +kernel
theorem dX5_common_4 : decode cX5_common 4 = .ok (.iload_n 0, 1) := by decide +kernel
theorem dX5_common_5 : decode cX5_common 5 = .ok (.ineg, 1) := by decide +kernel
theorem dX5_common_6 : decode cX5_common 6 = .ok (.goto 4, 3) := by decide +kernel
theorem dX5_common_9 : decode cX5_common 9 = .ok (.iload_n 0, 1) := by decide +kernel
theorem dX5_common_10 : decode cX5_common 10 = .ok (.istore_n 2, 1) := by decide +kernel
theorem dX5_common_11 : decode cX5_common 11 = .ok (.iload_n 1, 1) := by decide +kernel
theorem dX5_common_12 : decode cX5_common 12 = .ok (.istore_n 3, 1) := by decide +kernel
theorem dX5_common_13 : decode cX5_common 13 = .ok (.iload_n 3, 1) := by decide +kernel
theorem dX5_common_14 : decode cX5_common 14 = .ok (.ifCond .eq 16, 3) := by decide +kernel
theorem dX5_common_17 : decode cX5_common 17 = .ok (.iload_n 2, 1) := by decide +kernel
theorem dX5_common_18 : decode cX5_common 18 = .ok (.iload_n 3, 1) := by decide +kernel
theorem dX5_common_19 : decode cX5_common 19 = .ok (.irem, 1) := by decide +kernel
theorem dX5_common_20 : decode cX5_common 20 = .ok (.istore 4, 2) := by decide +kernel
theorem dX5_common_22 : decode cX5_common 22 = .ok (.iload_n 3, 1) := by decide +kernel
theorem dX5_common_23 : decode cX5_common 23 = .ok (.istore_n 2, 1) := by decide +kernel
theorem dX5_common_24 : decode cX5_common 24 = .ok (.iload 4, 2) := by decide +kernel
theorem dX5_common_26 : decode cX5_common 26 = .ok (.istore_n 3, 1) := by decide +kernel
theorem dX5_common_27 : decode cX5_common 27 = .ok (.goto (-14), 3) := by decide +kernel
theorem dX5_common_30 : decode cX5_common 30 = .ok (.iload_n 2, 1) := by decide +kernel
theorem dX5_common_31 : decode cX5_common 31 = .ok (.ireturn, 1) := by decide +kernel
theorem dX5_isTight_0 : decode cX5_isTight 0 = .ok (.iload_n 0, 1) := by decide +kernel
theorem dX5_isTight_1 : decode cX5_isTight 1 = .ok (.sipush 9999, 3) := by decide +kernel
theorem dX5_isTight_4 : decode cX5_isTight 4 = .ok (.if_icmp .gt 17, 3) := by decide +kernel
theorem dX5_isTight_7 : decode cX5_isTight 7 = .ok (.iload_n 0, 1) := by decide +kernel
theorem dX5_isTight_8 : decode cX5_isTight 8 = .ok (.sipush (-9999), 3) := by decide +kernel
theorem dX5_isTight_11 : decode cX5_isTight 11 = .ok (.if_icmp .lt 10, 3) := by decide +kernel
theorem dX5_isTight_14 : decode cX5_isTight 14 = .ok (.iload_n 1, 1) := by decide +kernel
theorem dX5_isTight_15 : decode cX5_isTight 15 = .ok (.sipush 9999, 3) := by decide +kernel
theorem dX5_isTight_18 : decode cX5_isTight 18 = .ok (.if_icmp .le 7, 3) := by decide +kernel
theorem dX5_isTight_21 : decode cX5_isTight 21 = .ok (.iconst 1, 1) := by decide +kernel
theorem dX5_isTight_22 : decode cX5_isTight 22 = .ok (.goto 4, 3) := by decide +kernel
theorem dX5_isTight_25 : decode cX5_isTight 25 = .ok (.iconst 0, 1) := by decide +kernel
theorem dX5_isTight_26 : decode cX5_isTight 26 = .ok (.ireturn, 1) := by decide +kernel
theorem dX5_windsBy_0 : decode cX5_windsBy 0 = .ok (.aload_n 0, 1) := by decide +kernel
theorem dX5_windsBy_1 : decode cX5_windsBy 1 = .ok (.getfield 19, 3) := by decide +kernel
theorem dX5_windsBy_4 : decode cX5_windsBy 4 = .ok (.iconst 1, 1) := by decide +kernel
theorem dX5_windsBy_5 : decode cX5_windsBy 5 = .ok (.iaload, 1) := by decide +kernel
theorem dX5_windsBy_6 : decode cX5_windsBy 6 = .ok (.istore_n 2, 1) := by decide +kernel
theorem dX5_windsBy_7 : decode cX5_windsBy 7 = .ok (.aload_n 0, 1) := by decide +kernel
theorem dX5_windsBy_8 : decode cX5_windsBy 8 = .ok (.getfield 7, 3) := by decide +kernel
theorem dX5_windsBy_11 : decode cX5_windsBy 11 = .ok (.iload_n 2, 1) := by decide +kernel
theorem dX5_windsBy_12 : decode cX5_windsBy 12 = .ok (.iaload, 1) := by decide +kernel
theorem dX5_windsBy_13 : decode cX5_windsBy 13 = .ok (.tableswitch 122 1 5 #[35, 38, 57, 61, 91], 35) := by decide +kernel
theorem dX5_windsBy_48 : decode cX5_windsBy 48 = .ok (.iload_n 1, 1) := by decide +kernel
theorem dX5_windsBy_49 : decode cX5_windsBy 49 = .ok (.ineg, 1) := by decide +kernel
theorem dX5_windsBy_50 : decode cX5_windsBy 50 = .ok (.ireturn, 1) := by decide +kernel
theorem dX5_windsBy_51 : decode cX5_windsBy 51 = .ok (.aload_n 0, 1) := by decide +kernel
theorem dX5_windsBy_52 : decode cX5_windsBy 52 = .ok (.getfield 19, 3) := by decide +kernel
theorem dX5_windsBy_55 : decode cX5_windsBy 55 = .ok (.bipush 10, 2) := by decide +kernel
theorem dX5_windsBy_57 : decode cX5_windsBy 57 = .ok (.iaload, 1) := by decide +kernel
theorem dX5_windsBy_58 : decode cX5_windsBy 58 = .ok (.iconst 2, 1) := by decide +kernel
theorem dX5_windsBy_59 : decode cX5_windsBy 59 = .ok (.irem, 1) := by decide +kernel
theorem dX5_windsBy_60 : decode cX5_windsBy 60 = .ok (.iconst 1, 1) := by decide +kernel
theorem dX5_windsBy_61 : decode cX5_windsBy 61 = .ok (.if_icmp .ne 7, 3) := by decide +kernel
theorem dX5_windsBy_64 : decode cX5_windsBy 64 = .ok (.iconst 0, 1) := by decide +kernel
theorem dX5_windsBy_65 : decode cX5_windsBy 65 = .ok (.goto 4, 3) := by decide +kernel
theorem dX5_windsBy_68 : decode cX5_windsBy 68 = .ok (.iload_n 1, 1) := by decide +kernel
theorem dX5_windsBy_69 : decode cX5_windsBy 69 = .ok (.ireturn, 1) := by decide +kernel
theorem dX5_windsBy_70 : decode cX5_windsBy 70 = .ok (.iconst 2, 1) := by decide +kernel
theorem dX5_windsBy_71 : decode cX5_windsBy 71 = .ok (.iload_n 1, 1) := by decide +kernel
theorem dX5_windsBy_72 : decode cX5_windsBy 72 = .ok (.imul, 1) := by decide +kernel
theorem dX5_windsBy_73 : decode cX5_windsBy 73 = .ok (.ireturn, 1) := by decide +kernel
theorem dX5_windsBy_74 : decode cX5_windsBy 74 = .ok (.aload_n 0, 1) := by decide +kernel
theorem dX5_windsBy_75 : decode cX5_windsBy 75 = .ok (.getfield 19, 3) := by decide +kernel
theorem dX5_windsBy_78 : decode cX5_windsBy 78 = .ok (.iconst 4, 1) := by decide +kernel
theorem dX5_windsBy_79 : decode cX5_windsBy 79 = .ok (.iload_n 2, 1) := by decide +kernel
theorem dX5_windsBy_80 : decode cX5_windsBy 80 = .ok (.iadd, 1) := by decide +kernel
theorem dX5_windsBy_81 : decode cX5_windsBy 81 = .ok (.iaload, 1) := by decide +kernel
theorem dX5_windsBy_82 : decode cX5_windsBy 82 = .ok (.aload_n 0, 1) := by decide +kernel
theorem dX5_windsBy_83 : decode cX5_windsBy 83 = .ok (.getfield 19, 3) := by decide +kernel
theorem dX5_windsBy_86 : decode cX5_windsBy 86 = .ok (.iconst 4, 1) := by decide +kernel
theorem dX5_windsBy_87 : decode cX5_windsBy 87 = .ok (.aload_n 0, 1) := by decide +kernel
theorem dX5_windsBy_88 : decode cX5_windsBy 88 = .ok (.getfield 19, 3) := by decide +kernel
theorem dX5_windsBy_91 : decode cX5_windsBy 91 = .ok (.iconst 2, 1) := by decide +kernel
theorem dX5_windsBy_92 : decode cX5_windsBy 92 = .ok (.iaload, 1) := by decide +kernel
theorem dX5_windsBy_93 : decode cX5_windsBy 93 = .ok (.iadd, 1) := by decide +kernel
theorem dX5_windsBy_94 : decode cX5_windsBy 94 = .ok (.iaload, 1) := by decide +kernel
theorem dX5_windsBy_95 : decode cX5_windsBy 95 = .ok (.if_icmp .ne 7, 3) := by decide +kernel
theorem dX5_windsBy_98 : decode cX5_windsBy 98 = .ok (.iconst 0, 1) := by decide +kernel
theorem dX5_windsBy_99 : decode cX5_windsBy 99 = .ok (.goto 4, 3) := by decide +kernel
theorem dX5_windsBy_102 : decode cX5_windsBy 102 = .ok (.iload_n 1, 1) := by decide +kernel
theorem dX5_windsBy_103 : decode cX5_windsBy 103 = .ok (.ireturn, 1) := by decide +kernel
theorem dX5_windsBy_104 : decode cX5_windsBy 104 = .ok (.aload_n 0, 1) := by decide +kernel
theorem dX5_windsBy_105 : decode cX5_windsBy 105 = .ok (.getfield 19, 3) := by decide +kernel
theorem dX5_windsBy_108 : decode cX5_windsBy 108 = .ok (.bipush 11, 2) := by decide +kernel
theorem dX5_windsBy_110 : decode cX5_windsBy 110 = .ok (.iaload, 1) := by decide +kernel
theorem dX5_windsBy_111 : decode cX5_windsBy 111 = .ok (.ifCond .ne 7, 3) := by decide +kernel
theorem dX5_windsBy_114 : decode cX5_windsBy 114 = .ok (.iload_n 1, 1) := by decide +kernel
theorem dX5_windsBy_115 : decode cX5_windsBy 115 = .ok (.goto 19, 3) := by decide +kernel
theorem dX5_windsBy_118 : decode cX5_windsBy 118 = .ok (.aload_n 0, 1) := by decide +kernel
theorem dX5_windsBy_119 : decode cX5_windsBy 119 = .ok (.getfield 19, 3) := by decide +kernel
theorem dX5_windsBy_122 : decode cX5_windsBy 122 = .ok (.bipush 11, 2) := by decide +kernel
theorem dX5_windsBy_124 : decode cX5_windsBy 124 = .ok (.iaload, 1) := by decide +kernel
theorem dX5_windsBy_125 : decode cX5_windsBy 125 = .ok (.iconst 1, 1) := by decide +kernel
theorem dX5_windsBy_126 : decode cX5_windsBy 126 = .ok (.if_icmp .ne 7, 3) := by decide +kernel
theorem dX5_windsBy_129 : decode cX5_windsBy 129 = .ok (.iconst 1, 1) := by decide +kernel
theorem dX5_windsBy_130 : decode cX5_windsBy 130 = .ok (.goto 4, 3) := by decide +kernel
theorem dX5_windsBy_133 : decode cX5_windsBy 133 = .ok (.iconst (-1), 1) := by decide +kernel
theorem dX5_windsBy_134 : decode cX5_windsBy 134 = .ok (.ireturn, 1) := by decide +kernel
theorem dX5_windsBy_135 : decode cX5_windsBy 135 = .ok (.iload_n 1, 1) := by decide +kernel
theorem dX5_windsBy_136 : decode cX5_windsBy 136 = .ok (.ireturn, 1) := by decide +kernel
theorem dX5_changePlaces_0 : decode cX5_changePlaces 0 = .ok (.aload_n 0, 1) := by decide +kernel
theorem dX5_changePlaces_1 : decode cX5_changePlaces 1 = .ok (.getfield 19, 3) := by decide +kernel
theorem dX5_changePlaces_4 : decode cX5_changePlaces 4 = .ok (.iconst 0, 1) := by decide +kernel
theorem dX5_changePlaces_5 : decode cX5_changePlaces 5 = .ok (.iload_n 1, 1) := by decide +kernel
theorem dX5_changePlaces_6 : decode cX5_changePlaces 6 = .ok (.iadd, 1) := by decide +kernel
theorem dX5_changePlaces_7 : decode cX5_changePlaces 7 = .ok (.iaload, 1) := by decide +kernel
theorem dX5_changePlaces_8 : decode cX5_changePlaces 8 = .ok (.istore_n 3, 1) := by decide +kernel
theorem dX5_changePlaces_9 : decode cX5_changePlaces 9 = .ok (.aload_n 0, 1) := by decide +kernel
theorem dX5_changePlaces_10 : decode cX5_changePlaces 10 = .ok (.getfield 19, 3) := by decide +kernel
theorem dX5_changePlaces_13 : decode cX5_changePlaces 13 = .ok (.iconst 0, 1) := by decide +kernel
theorem dX5_changePlaces_14 : decode cX5_changePlaces 14 = .ok (.iload_n 1, 1) := by decide +kernel
theorem dX5_changePlaces_15 : decode cX5_changePlaces 15 = .ok (.iadd, 1) := by decide +kernel
theorem dX5_changePlaces_16 : decode cX5_changePlaces 16 = .ok (.aload_n 0, 1) := by decide +kernel
theorem dX5_changePlaces_17 : decode cX5_changePlaces 17 = .ok (.getfield 19, 3) := by decide +kernel
theorem dX5_changePlaces_20 : decode cX5_changePlaces 20 = .ok (.iconst 0, 1) := by decide +kernel
theorem dX5_changePlaces_21 : decode cX5_changePlaces 21 = .ok (.iload_n 2, 1) := by decide +kernel
theorem dX5_changePlaces_22 : decode cX5_changePlaces 22 = .ok (.iadd, 1) := by decide +kernel
theorem dX5_changePlaces_23 : decode cX5_changePlaces 23 = .ok (.iaload, 1) := by decide +kernel
theorem dX5_changePlaces_24 : decode cX5_changePlaces 24 = .ok (.iastore, 1) := by decide +kernel
theorem dX5_changePlaces_25 : decode cX5_changePlaces 25 = .ok (.aload_n 0, 1) := by decide +kernel
theorem dX5_changePlaces_26 : decode cX5_changePlaces 26 = .ok (.getfield 19, 3) := by decide +kernel
theorem dX5_changePlaces_29 : decode cX5_changePlaces 29 = .ok (.iconst 0, 1) := by decide +kernel
theorem dX5_changePlaces_30 : decode cX5_changePlaces 30 = .ok (.iload_n 2, 1) := by decide +kernel
theorem dX5_changePlaces_31 : decode cX5_changePlaces 31 = .ok (.iadd, 1) := by decide +kernel
theorem dX5_changePlaces_32 : decode cX5_changePlaces 32 = .ok (.iload_n 3, 1) := by decide +kernel
theorem dX5_changePlaces_33 : decode cX5_changePlaces 33 = .ok (.iastore, 1) := by decide +kernel
theorem dX5_changePlaces_34 : decode cX5_changePlaces 34 = .ok (.return_, 1) := by decide +kernel
theorem dX5_winds_0 : decode cX5_winds 0 = .ok (.aload_n 0, 1) := by decide +kernel
theorem dX5_winds_1 : decode cX5_winds 1 = .ok (.iload_n 1, 1) := by decide +kernel
theorem dX5_winds_2 : decode cX5_winds 2 = .ok (.invokevirtual 120, 3) := by decide +kernel
theorem dX5_winds_5 : decode cX5_winds 5 = .ok (.istore_n 2, 1) := by decide +kernel
theorem dX5_winds_6 : decode cX5_winds 6 = .ok (.aload_n 0, 1) := by decide +kernel
theorem dX5_winds_7 : decode cX5_winds 7 = .ok (.getfield 19, 3) := by decide +kernel
theorem dX5_winds_10 : decode cX5_winds 10 = .ok (.bipush 8, 2) := by decide +kernel
theorem dX5_winds_12 : decode cX5_winds 12 = .ok (.iaload, 1) := by decide +kernel
theorem dX5_winds_13 : decode cX5_winds 13 = .ok (.iload_n 2, 1) := by decide +kernel
theorem dX5_winds_14 : decode cX5_winds 14 = .ok (.aload_n 0, 1) := by decide +kernel
theorem dX5_winds_15 : decode cX5_winds 15 = .ok (.getfield 19, 3) := by decide +kernel
theorem dX5_winds_18 : decode cX5_winds 18 = .ok (.bipush 9, 2) := by decide +kernel
theorem dX5_winds_20 : decode cX5_winds 20 = .ok (.iaload, 1) := by decide +kernel
theorem dX5_winds_21 : decode cX5_winds 21 = .ok (.imul, 1) := by decide +kernel
theorem dX5_winds_22 : decode cX5_winds 22 = .ok (.iadd, 1) := by decide +kernel
theorem dX5_winds_23 : decode cX5_winds 23 = .ok (.istore_n 3, 1) := by decide +kernel
theorem dX5_winds_24 : decode cX5_winds 24 = .ok (.iload_n 3, 1) := by decide +kernel
theorem dX5_winds_25 : decode cX5_winds 25 = .ok (.aload_n 0, 1) := by decide +kernel
theorem dX5_winds_26 : decode cX5_winds 26 = .ok (.getfield 19, 3) := by decide +kernel
theorem dX5_winds_29 : decode cX5_winds 29 = .ok (.bipush 9, 2) := by decide +kernel
theorem dX5_winds_31 : decode cX5_winds 31 = .ok (.iaload, 1) := by decide +kernel
theorem dX5_winds_32 : decode cX5_winds 32 = .ok (.invokestatic 123, 3) := by decide +kernel
theorem dX5_winds_35 : decode cX5_winds 35 = .ok (.ifCond .eq 5, 3) := by decide +kernel
theorem dX5_winds_38 : decode cX5_winds 38 = .ok (.iconst 0, 1) := by decide +kernel
theorem dX5_winds_39 : decode cX5_winds 39 = .ok (.ireturn, 1) := by decide +kernel
theorem dX5_winds_40 : decode cX5_winds 40 = .ok (.aload_n 0, 1) := by decide +kernel
theorem dX5_winds_41 : decode cX5_winds 41 = .ok (.iload_n 2, 1) := by decide +kernel
theorem dX5_winds_42 : decode cX5_winds 42 = .ok (.putfield 127, 3) := by decide +kernel
theorem dX5_winds_45 : decode cX5_winds 45 = .ok (.aload_n 0, 1) := by decide +kernel
theorem dX5_winds_46 : decode cX5_winds 46 = .ok (.getfield 19, 3) := by decide +kernel
theorem dX5_winds_49 : decode cX5_winds 49 = .ok (.bipush 8, 2) := by decide +kernel
theorem dX5_winds_51 : decode cX5_winds 51 = .ok (.aload_n 0, 1) := by decide +kernel
theorem dX5_winds_52 : decode cX5_winds 52 = .ok (.getfield 19, 3) := by decide +kernel
theorem dX5_winds_55 : decode cX5_winds 55 = .ok (.bipush 9, 2) := by decide +kernel
theorem dX5_winds_57 : decode cX5_winds 57 = .ok (.iaload, 1) := by decide +kernel
theorem dX5_winds_58 : decode cX5_winds 58 = .ok (.ifCond .ne 7, 3) := by decide +kernel
theorem dX5_winds_61 : decode cX5_winds 61 = .ok (.iconst 1, 1) := by decide +kernel
theorem dX5_winds_62 : decode cX5_winds 62 = .ok (.goto 4, 3) := by decide +kernel
theorem dX5_winds_65 : decode cX5_winds 65 = .ok (.iload_n 3, 1) := by decide +kernel
theorem dX5_winds_66 : decode cX5_winds 66 = .ok (.iastore, 1) := by decide +kernel
theorem dX5_winds_67 : decode cX5_winds 67 = .ok (.iload_n 2, 1) := by decide +kernel
theorem dX5_winds_68 : decode cX5_winds 68 = .ok (.iconst 1, 1) := by decide +kernel
theorem dX5_winds_69 : decode cX5_winds 69 = .ok (.if_icmp .eq 8, 3) := by decide +kernel
theorem dX5_winds_72 : decode cX5_winds 72 = .ok (.iload_n 2, 1) := by decide +kernel
theorem dX5_winds_73 : decode cX5_winds 73 = .ok (.iconst (-1), 1) := by decide +kernel
theorem dX5_winds_74 : decode cX5_winds 74 = .ok (.if_icmp .ne 9, 3) := by decide +kernel
theorem dX5_winds_77 : decode cX5_winds 77 = .ok (.aload_n 0, 1) := by decide +kernel
theorem dX5_winds_78 : decode cX5_winds 78 = .ok (.iconst 1, 1) := by decide +kernel
theorem dX5_winds_79 : decode cX5_winds 79 = .ok (.iconst 2, 1) := by decide +kernel
theorem dX5_winds_80 : decode cX5_winds 80 = .ok (.invokevirtual 130, 3) := by decide +kernel
theorem dX5_winds_83 : decode cX5_winds 83 = .ok (.aload_n 0, 1) := by decide +kernel
theorem dX5_winds_84 : decode cX5_winds 84 = .ok (.getfield 19, 3) := by decide +kernel
theorem dX5_winds_87 : decode cX5_winds 87 = .ok (.bipush 11, 2) := by decide +kernel
theorem dX5_winds_89 : decode cX5_winds 89 = .ok (.iload_n 2, 1) := by decide +kernel
theorem dX5_winds_90 : decode cX5_winds 90 = .ok (.ifCond .ne 13, 3) := by decide +kernel
theorem dX5_winds_93 : decode cX5_winds 93 = .ok (.aload_n 0, 1) := by decide +kernel
theorem dX5_winds_94 : decode cX5_winds 94 = .ok (.getfield 19, 3) := by decide +kernel
theorem dX5_winds_97 : decode cX5_winds 97 = .ok (.bipush 11, 2) := by decide +kernel
theorem dX5_winds_99 : decode cX5_winds 99 = .ok (.iaload, 1) := by decide +kernel
theorem dX5_winds_100 : decode cX5_winds 100 = .ok (.goto 12, 3) := by decide +kernel
theorem dX5_winds_103 : decode cX5_winds 103 = .ok (.iload_n 2, 1) := by decide +kernel
theorem dX5_winds_104 : decode cX5_winds 104 = .ok (.ifCond .le 7, 3) := by decide +kernel
theorem dX5_winds_107 : decode cX5_winds 107 = .ok (.iconst 1, 1) := by decide +kernel
theorem dX5_winds_108 : decode cX5_winds 108 = .ok (.goto 4, 3) := by decide +kernel
theorem dX5_winds_111 : decode cX5_winds 111 = .ok (.iconst 2, 1) := by decide +kernel
theorem dX5_winds_112 : decode cX5_winds 112 = .ok (.iastore, 1) := by decide +kernel
theorem dX5_winds_113 : decode cX5_winds 113 = .ok (.iconst 1, 1) := by decide +kernel
theorem dX5_winds_114 : decode cX5_winds 114 = .ok (.ireturn, 1) := by decide +kernel
theorem dX5_turns_0 : decode cX5_turns 0 = .ok (.aload_n 0, 1) := by decide +kernel
theorem dX5_turns_1 : decode cX5_turns 1 = .ok (.getfield 19, 3) := by decide +kernel
theorem dX5_turns_4 : decode cX5_turns 4 = .ok (.bipush 8, 2) := by decide +kernel
theorem dX5_turns_6 : decode cX5_turns 6 = .ok (.iaload, 1) := by decide +kernel
theorem dX5_turns_7 : decode cX5_turns 7 = .ok (.istore_n 1, 1) := by decide +kernel
theorem dX5_turns_8 : decode cX5_turns 8 = .ok (.aload_n 0, 1) := by decide +kernel
theorem dX5_turns_9 : decode cX5_turns 9 = .ok (.getfield 19, 3) := by decide +kernel
theorem dX5_turns_12 : decode cX5_turns 12 = .ok (.bipush 9, 2) := by decide +kernel
theorem dX5_turns_14 : decode cX5_turns 14 = .ok (.iaload, 1) := by decide +kernel
theorem dX5_turns_15 : decode cX5_turns 15 = .ok (.istore_n 2, 1) := by decide +kernel
theorem dX5_turns_16 : decode cX5_turns 16 = .ok (.iload_n 2, 1) := by decide +kernel
theorem dX5_turns_17 : decode cX5_turns 17 = .ok (.iload_n 1, 1) := by decide +kernel
theorem dX5_turns_18 : decode cX5_turns 18 = .ok (.ifCond .ge 8, 3) := by decide +kernel
theorem dX5_turns_21 : decode cX5_turns 21 = .ok (.iload_n 1, 1) := by decide +kernel
theorem dX5_turns_22 : decode cX5_turns 22 = .ok (.ineg, 1) := by decide +kernel
theorem dX5_turns_23 : decode cX5_turns 23 = .ok (.goto 4, 3) := by decide +kernel
theorem dX5_turns_26 : decode cX5_turns 26 = .ok (.iload_n 1, 1) := by decide +kernel
theorem dX5_turns_27 : decode cX5_turns 27 = .ok (.invokestatic 123, 3) := by decide +kernel
theorem dX5_turns_30 : decode cX5_turns 30 = .ok (.ifCond .eq 5, 3) := by decide +kernel
theorem dX5_turns_33 : decode cX5_turns 33 = .ok (.iconst 0, 1) := by decide +kernel
theorem dX5_turns_34 : decode cX5_turns 34 = .ok (.ireturn, 1) := by decide +kernel
theorem dX5_turns_35 : decode cX5_turns 35 = .ok (.aload_n 0, 1) := by decide +kernel
theorem dX5_turns_36 : decode cX5_turns 36 = .ok (.getfield 19, 3) := by decide +kernel
theorem dX5_turns_39 : decode cX5_turns 39 = .ok (.iconst 3, 1) := by decide +kernel
theorem dX5_turns_40 : decode cX5_turns 40 = .ok (.iaload, 1) := by decide +kernel
theorem dX5_turns_41 : decode cX5_turns 41 = .ok (.istore_n 3, 1) := by decide +kernel
theorem dX5_turns_42 : decode cX5_turns 42 = .ok (.iconst 3, 1) := by decide +kernel
theorem dX5_turns_43 : decode cX5_turns 43 = .ok (.istore 4, 2) := by decide +kernel
theorem dX5_turns_45 : decode cX5_turns 45 = .ok (.iload 4, 2) := by decide +kernel
theorem dX5_turns_47 : decode cX5_turns 47 = .ok (.ifCond .le 29, 3) := by decide +kernel
theorem dX5_turns_50 : decode cX5_turns 50 = .ok (.aload_n 0, 1) := by decide +kernel
theorem dX5_turns_51 : decode cX5_turns 51 = .ok (.getfield 19, 3) := by decide +kernel
theorem dX5_turns_54 : decode cX5_turns 54 = .ok (.iconst 0, 1) := by decide +kernel
theorem dX5_turns_55 : decode cX5_turns 55 = .ok (.iload 4, 2) := by decide +kernel
theorem dX5_turns_57 : decode cX5_turns 57 = .ok (.iadd, 1) := by decide +kernel
theorem dX5_turns_58 : decode cX5_turns 58 = .ok (.aload_n 0, 1) := by decide +kernel
theorem dX5_turns_59 : decode cX5_turns 59 = .ok (.getfield 19, 3) := by decide +kernel
theorem dX5_turns_62 : decode cX5_turns 62 = .ok (.iconst 0, 1) := by decide +kernel
theorem dX5_turns_63 : decode cX5_turns 63 = .ok (.iload 4, 2) := by decide +kernel
theorem dX5_turns_65 : decode cX5_turns 65 = .ok (.iadd, 1) := by decide +kernel
theorem dX5_turns_66 : decode cX5_turns 66 = .ok (.iconst 1, 1) := by decide +kernel
theorem dX5_turns_67 : decode cX5_turns 67 = .ok (.isub, 1) := by decide +kernel
theorem dX5_turns_68 : decode cX5_turns 68 = .ok (.iaload, 1) := by decide +kernel
theorem dX5_turns_69 : decode cX5_turns 69 = .ok (.iastore, 1) := by decide +kernel
theorem dX5_turns_70 : decode cX5_turns 70 = .ok (.iinc 4 (-1), 3) := by decide +kernel
theorem dX5_turns_73 : decode cX5_turns 73 = .ok (.goto (-28), 3) := by decide +kernel
theorem dX5_turns_76 : decode cX5_turns 76 = .ok (.aload_n 0, 1) := by decide +kernel
theorem dX5_turns_77 : decode cX5_turns 77 = .ok (.getfield 19, 3) := by decide +kernel
theorem dX5_turns_80 : decode cX5_turns 80 = .ok (.iconst 0, 1) := by decide +kernel
theorem dX5_turns_81 : decode cX5_turns 81 = .ok (.iload_n 3, 1) := by decide +kernel
theorem dX5_turns_82 : decode cX5_turns 82 = .ok (.iastore, 1) := by decide +kernel
theorem dX5_turns_83 : decode cX5_turns 83 = .ok (.aload_n 0, 1) := by decide +kernel
theorem dX5_turns_84 : decode cX5_turns 84 = .ok (.getfield 19, 3) := by decide +kernel
theorem dX5_turns_87 : decode cX5_turns 87 = .ok (.bipush 8, 2) := by decide +kernel
theorem dX5_turns_89 : decode cX5_turns 89 = .ok (.iload_n 1, 1) := by decide +kernel
theorem dX5_turns_90 : decode cX5_turns 90 = .ok (.ifCond .ne 7, 3) := by decide +kernel
theorem dX5_turns_93 : decode cX5_turns 93 = .ok (.iconst 1, 1) := by decide +kernel
theorem dX5_turns_94 : decode cX5_turns 94 = .ok (.goto 13, 3) := by decide +kernel
theorem dX5_turns_97 : decode cX5_turns 97 = .ok (.iload_n 1, 1) := by decide +kernel
theorem dX5_turns_98 : decode cX5_turns 98 = .ok (.ifCond .le 8, 3) := by decide +kernel
theorem dX5_turns_101 : decode cX5_turns 101 = .ok (.iload_n 2, 1) := by decide +kernel
theorem dX5_turns_102 : decode cX5_turns 102 = .ok (.ineg, 1) := by decide +kernel
theorem dX5_turns_103 : decode cX5_turns 103 = .ok (.goto 4, 3) := by decide +kernel
theorem dX5_turns_106 : decode cX5_turns 106 = .ok (.iload_n 2, 1) := by decide +kernel
theorem dX5_turns_107 : decode cX5_turns 107 = .ok (.iastore, 1) := by decide +kernel
theorem dX5_turns_108 : decode cX5_turns 108 = .ok (.aload_n 0, 1) := by decide +kernel
theorem dX5_turns_109 : decode cX5_turns 109 = .ok (.getfield 19, 3) := by decide +kernel
theorem dX5_turns_112 : decode cX5_turns 112 = .ok (.bipush 9, 2) := by decide +kernel
theorem dX5_turns_114 : decode cX5_turns 114 = .ok (.iload_n 1, 1) := by decide +kernel
theorem dX5_turns_115 : decode cX5_turns 115 = .ok (.ifCond .ge 8, 3) := by decide +kernel
theorem dX5_turns_118 : decode cX5_turns 118 = .ok (.iload_n 1, 1) := by decide +kernel
theorem dX5_turns_119 : decode cX5_turns 119 = .ok (.ineg, 1) := by decide +kernel
theorem dX5_turns_120 : decode cX5_turns 120 = .ok (.goto 4, 3) := by decide +kernel
theorem dX5_turns_123 : decode cX5_turns 123 = .ok (.iload_n 1, 1) := by decide +kernel
theorem dX5_turns_124 : decode cX5_turns 124 = .ok (.iastore, 1) := by decide +kernel
theorem dX5_turns_125 : decode cX5_turns 125 = .ok (.iconst 1, 1) := by decide +kernel
theorem dX5_turns_126 : decode cX5_turns 126 = .ok (.ireturn, 1) := by decide +kernel
theorem dX5_dances_0 : decode cX5_dances 0 = .ok (.aload_n 0, 1) := by decide +kernel
theorem dX5_dances_1 : decode cX5_dances 1 = .ok (.iconst 0, 1) := by decide +kernel
theorem dX5_dances_2 : decode cX5_dances 2 = .ok (.putfield 127, 3) := by decide +kernel
theorem dX5_dances_5 : decode cX5_dances 5 = .ok (.iload_n 1, 1) := by decide +kernel
theorem dX5_dances_6 : decode cX5_dances 6 = .ok (.iconst 3, 1) := by decide +kernel
theorem dX5_dances_7 : decode cX5_dances 7 = .ok (.if_icmp .eq 34, 3) := by decide +kernel
theorem dX5_dances_10 : decode cX5_dances 10 = .ok (.iload_n 1, 1) := by decide +kernel
theorem dX5_dances_11 : decode cX5_dances 11 = .ok (.iconst 2, 1) := by decide +kernel
theorem dX5_dances_12 : decode cX5_dances 12 = .ok (.if_icmp .ne 13, 3) := by decide +kernel
theorem dX5_dances_15 : decode cX5_dances 15 = .ok (.aload_n 0, 1) := by decide +kernel
theorem dX5_dances_16 : decode cX5_dances 16 = .ok (.invokevirtual 134, 3) := by decide +kernel
theorem dX5_dances_19 : decode cX5_dances 19 = .ok (.ifCond .eq 26, 3) := by decide +kernel
theorem dX5_dances_22 : decode cX5_dances 22 = .ok (.goto 19, 3) := by decide +kernel
theorem dX5_dances_25 : decode cX5_dances 25 = .ok (.aload_n 0, 1) := by decide +kernel
theorem dX5_dances_26 : decode cX5_dances 26 = .ok (.iload_n 1, 1) := by decide +kernel
theorem dX5_dances_27 : decode cX5_dances 27 = .ok (.ifCond .ne 7, 3) := by decide +kernel
theorem dX5_dances_30 : decode cX5_dances 30 = .ok (.iconst 1, 1) := by decide +kernel
theorem dX5_dances_31 : decode cX5_dances 31 = .ok (.goto 4, 3) := by decide +kernel
theorem dX5_dances_34 : decode cX5_dances 34 = .ok (.iconst (-1), 1) := by decide +kernel
theorem dX5_dances_35 : decode cX5_dances 35 = .ok (.invokevirtual 138, 3) := by decide +kernel
theorem dX5_dances_38 : decode cX5_dances 38 = .ok (.ifCond .eq 7, 3) := by decide +kernel
theorem dX5_dances_41 : decode cX5_dances 41 = .ok (.iconst 1, 1) := by decide +kernel
theorem dX5_dances_42 : decode cX5_dances 42 = .ok (.goto 4, 3) := by decide +kernel
theorem dX5_dances_45 : decode cX5_dances 45 = .ok (.iconst 0, 1) := by decide +kernel
theorem dX5_dances_46 : decode cX5_dances 46 = .ok (.istore_n 2, 1) := by decide +kernel
theorem dX5_dances_47 : decode cX5_dances 47 = .ok (.aload_n 0, 1) := by decide +kernel
theorem dX5_dances_48 : decode cX5_dances 48 = .ok (.getfield 19, 3) := by decide +kernel
theorem dX5_dances_51 : decode cX5_dances 51 = .ok (.bipush 10, 2) := by decide +kernel
theorem dX5_dances_53 : decode cX5_dances 53 = .ok (.dup2, 1) := by decide +kernel
theorem dX5_dances_54 : decode cX5_dances 54 = .ok (.iaload, 1) := by decide +kernel
theorem dX5_dances_55 : decode cX5_dances 55 = .ok (.iload_n 2, 1) := by decide +kernel
theorem dX5_dances_56 : decode cX5_dances 56 = .ok (.ifCond .eq 7, 3) := by decide +kernel
theorem dX5_dances_59 : decode cX5_dances 59 = .ok (.iconst 1, 1) := by decide +kernel
theorem dX5_dances_60 : decode cX5_dances 60 = .ok (.goto 4, 3) := by decide +kernel
theorem dX5_dances_63 : decode cX5_dances 63 = .ok (.iconst 0, 1) := by decide +kernel
theorem dX5_dances_64 : decode cX5_dances 64 = .ok (.iadd, 1) := by decide +kernel
theorem dX5_dances_65 : decode cX5_dances 65 = .ok (.iastore, 1) := by decide +kernel
theorem dX5_dances_66 : decode cX5_dances 66 = .ok (.iload_n 2, 1) := by decide +kernel
theorem dX5_dances_67 : decode cX5_dances 67 = .ok (.ireturn, 1) := by decide +kernel
theorem dX5_note_0 : decode cX5_note 0 = .ok (.aload_n 0, 1) := by decide +kernel
theorem dX5_note_1 : decode cX5_note 1 = .ok (.getfield 68, 3) := by decide +kernel
theorem dX5_note_4 : decode cX5_note 4 = .ok (.bipush 8, 2) := by decide +kernel
theorem dX5_note_6 : decode cX5_note 6 = .ok (.if_icmp .ne 42, 3) := by decide +kernel
theorem dX5_note_9 : decode cX5_note 9 = .ok (.iconst 0, 1) := by decide +kernel
theorem dX5_note_10 : decode cX5_note 10 = .ok (.istore_n 1, 1) := by decide +kernel
theorem dX5_note_11 : decode cX5_note 11 = .ok (.iload_n 1, 1) := by decide +kernel
theorem dX5_note_12 : decode cX5_note 12 = .ok (.bipush 84, 2) := by decide +kernel
theorem dX5_note_14 : decode cX5_note 14 = .ok (.if_icmp .ge 24, 3) := by decide +kernel
theorem dX5_note_17 : decode cX5_note 17 = .ok (.aload_n 0, 1) := by decide +kernel
theorem dX5_note_18 : decode cX5_note 18 = .ok (.getfield 22, 3) := by decide +kernel
theorem dX5_note_21 : decode cX5_note 21 = .ok (.iload_n 1, 1) := by decide +kernel
theorem dX5_note_22 : decode cX5_note 22 = .ok (.aload_n 0, 1) := by decide +kernel
theorem dX5_note_23 : decode cX5_note 23 = .ok (.getfield 22, 3) := by decide +kernel
theorem dX5_note_26 : decode cX5_note 26 = .ok (.iload_n 1, 1) := by decide +kernel
theorem dX5_note_27 : decode cX5_note 27 = .ok (.bipush 12, 2) := by decide +kernel
theorem dX5_note_29 : decode cX5_note 29 = .ok (.iadd, 1) := by decide +kernel
theorem dX5_note_30 : decode cX5_note 30 = .ok (.iaload, 1) := by decide +kernel
theorem dX5_note_31 : decode cX5_note 31 = .ok (.iastore, 1) := by decide +kernel
theorem dX5_note_32 : decode cX5_note 32 = .ok (.iinc 1 1, 3) := by decide +kernel
theorem dX5_note_35 : decode cX5_note 35 = .ok (.goto (-24), 3) := by decide +kernel
theorem dX5_note_38 : decode cX5_note 38 = .ok (.aload_n 0, 1) := by decide +kernel
theorem dX5_note_39 : decode cX5_note 39 = .ok (.dup, 1) := by decide +kernel
theorem dX5_note_40 : decode cX5_note 40 = .ok (.getfield 68, 3) := by decide +kernel
theorem dX5_note_43 : decode cX5_note 43 = .ok (.iconst 1, 1) := by decide +kernel
theorem dX5_note_44 : decode cX5_note 44 = .ok (.isub, 1) := by decide +kernel
theorem dX5_note_45 : decode cX5_note 45 = .ok (.putfield 68, 3) := by decide +kernel
theorem dX5_note_48 : decode cX5_note 48 = .ok (.iconst 0, 1) := by decide +kernel
theorem dX5_note_49 : decode cX5_note 49 = .ok (.istore_n 1, 1) := by decide +kernel
theorem dX5_note_50 : decode cX5_note 50 = .ok (.iload_n 1, 1) := by decide +kernel
theorem dX5_note_51 : decode cX5_note 51 = .ok (.bipush 12, 2) := by decide +kernel
theorem dX5_note_53 : decode cX5_note 53 = .ok (.if_icmp .ge 29, 3) := by decide +kernel
theorem dX5_note_56 : decode cX5_note 56 = .ok (.aload_n 0, 1) := by decide +kernel
theorem dX5_note_57 : decode cX5_note 57 = .ok (.getfield 22, 3) := by decide +kernel
theorem dX5_note_60 : decode cX5_note 60 = .ok (.bipush 12, 2) := by decide +kernel
theorem dX5_note_62 : decode cX5_note 62 = .ok (.aload_n 0, 1) := by decide +kernel
theorem dX5_note_63 : decode cX5_note 63 = .ok (.getfield 68, 3) := by decide +kernel
theorem dX5_note_66 : decode cX5_note 66 = .ok (.imul, 1) := by decide +kernel
theorem dX5_note_67 : decode cX5_note 67 = .ok (.iload_n 1, 1) := by decide +kernel
theorem dX5_note_68 : decode cX5_note 68 = .ok (.iadd, 1) := by decide +kernel
theorem dX5_note_69 : decode cX5_note 69 = .ok (.aload_n 0, 1) := by decide +kernel
theorem dX5_note_70 : decode cX5_note 70 = .ok (.getfield 19, 3) := by decide +kernel
theorem dX5_note_73 : decode cX5_note 73 = .ok (.iload_n 1, 1) := by decide +kernel
theorem dX5_note_74 : decode cX5_note 74 = .ok (.iaload, 1) := by decide +kernel
theorem dX5_note_75 : decode cX5_note 75 = .ok (.iastore, 1) := by decide +kernel
theorem dX5_note_76 : decode cX5_note 76 = .ok (.iinc 1 1, 3) := by decide +kernel
theorem dX5_note_79 : decode cX5_note 79 = .ok (.goto (-29), 3) := by decide +kernel
theorem dX5_note_82 : decode cX5_note 82 = .ok (.aload_n 0, 1) := by decide +kernel
theorem dX5_note_83 : decode cX5_note 83 = .ok (.dup, 1) := by decide +kernel
theorem dX5_note_84 : decode cX5_note 84 = .ok (.getfield 68, 3) := by decide +kernel
theorem dX5_note_87 : decode cX5_note 87 = .ok (.iconst 1, 1) := by decide +kernel
theorem dX5_note_88 : decode cX5_note 88 = .ok (.iadd, 1) := by decide +kernel
theorem dX5_note_89 : decode cX5_note 89 = .ok (.putfield 68, 3) := by decide +kernel
theorem dX5_note_92 : decode cX5_note 92 = .ok (.return_, 1) := by decide +kernel
theorem dX5_dance_0 : decode cX5_dance 0 = .ok (.iload_n 1, 1) := by decide +kernel
theorem dX5_dance_1 : decode cX5_dance 1 = .ok (.invokestatic 105, 3) := by decide +kernel
theorem dX5_dance_4 : decode cX5_dance 4 = .ok (.ifCond .ne 5, 3) := by decide +kernel
theorem dX5_dance_7 : decode cX5_dance 7 = .ok (.iconst (-1), 1) := by decide +kernel
theorem dX5_dance_8 : decode cX5_dance 8 = .ok (.ireturn, 1) := by decide +kernel
theorem dX5_dance_9 : decode cX5_dance 9 = .ok (.aload_n 0, 1) := by decide +kernel
theorem dX5_dance_10 : decode cX5_dance 10 = .ok (.invokevirtual 141, 3) := by decide +kernel
theorem dX5_dance_13 : decode cX5_dance 13 = .ok (.aload_n 0, 1) := by decide +kernel
theorem dX5_dance_14 : decode cX5_dance 14 = .ok (.iload_n 1, 1) := by decide +kernel
theorem dX5_dance_15 : decode cX5_dance 15 = .ok (.invokevirtual 144, 3) := by decide +kernel
theorem dX5_dance_18 : decode cX5_dance 18 = .ok (.ifCond .ne 6, 3) := by decide +kernel
theorem dX5_dance_21 : decode cX5_dance 21 = .ok (.bipush (-2), 2) := by decide +kernel
theorem dX5_dance_23 : decode cX5_dance 23 = .ok (.ireturn, 1) := by decide +kernel
theorem dX5_dance_24 : decode cX5_dance 24 = .ok (.aload_n 0, 1) := by decide +kernel
theorem dX5_dance_25 : decode cX5_dance 25 = .ok (.getfield 127, 3) := by decide +kernel
theorem dX5_dance_28 : decode cX5_dance 28 = .ok (.istore_n 2, 1) := by decide +kernel
theorem dX5_dance_29 : decode cX5_dance 29 = .ok (.aload_n 0, 1) := by decide +kernel
theorem dX5_dance_30 : decode cX5_dance 30 = .ok (.invokevirtual 147, 3) := by decide +kernel
theorem dX5_dance_33 : decode cX5_dance 33 = .ok (.aload_n 0, 1) := by decide +kernel
theorem dX5_dance_34 : decode cX5_dance 34 = .ok (.invokevirtual 150, 3) := by decide +kernel
theorem dX5_dance_37 : decode cX5_dance 37 = .ok (.aload_n 0, 1) := by decide +kernel
theorem dX5_dance_38 : decode cX5_dance 38 = .ok (.iload_n 1, 1) := by decide +kernel
theorem dX5_dance_39 : decode cX5_dance 39 = .ok (.invokevirtual 144, 3) := by decide +kernel
theorem dX5_dance_42 : decode cX5_dance 42 = .ok (.pop, 1) := by decide +kernel
theorem dX5_dance_43 : decode cX5_dance 43 = .ok (.bipush 10, 2) := by decide +kernel
theorem dX5_dance_45 : decode cX5_dance 45 = .ok (.iload_n 2, 1) := by decide +kernel
theorem dX5_dance_46 : decode cX5_dance 46 = .ok (.iadd, 1) := by decide +kernel
theorem dX5_dance_47 : decode cX5_dance 47 = .ok (.ireturn, 1) := by decide +kernel
theorem dX5_putThem_0 : decode cX5_putThem 0 = .ok (.aload_n 0, 1) := by decide +kernel
theorem dX5_putThem_1 : decode cX5_putThem 1 = .ok (.getfield 19, 3) := by decide +kernel
theorem dX5_putThem_4 : decode cX5_putThem 4 = .ok (.iconst 4, 1) := by decide +kernel
theorem dX5_putThem_5 : decode cX5_putThem 5 = .ok (.iload_n 1, 1) := by decide +kernel
theorem dX5_putThem_6 : decode cX5_putThem 6 = .ok (.iadd, 1) := by decide +kernel
theorem dX5_putThem_7 : decode cX5_putThem 7 = .ok (.iaload, 1) := by decide +kernel
theorem dX5_putThem_8 : decode cX5_putThem 8 = .ok (.istore_n 3, 1) := by decide +kernel
theorem dX5_putThem_9 : decode cX5_putThem 9 = .ok (.aload_n 0, 1) := by decide +kernel
theorem dX5_putThem_10 : decode cX5_putThem 10 = .ok (.getfield 19, 3) := by decide +kernel
theorem dX5_putThem_13 : decode cX5_putThem 13 = .ok (.iconst 4, 1) := by decide +kernel
theorem dX5_putThem_14 : decode cX5_putThem 14 = .ok (.iload_n 1, 1) := by decide +kernel
theorem dX5_putThem_15 : decode cX5_putThem 15 = .ok (.iadd, 1) := by decide +kernel
theorem dX5_putThem_16 : decode cX5_putThem 16 = .ok (.aload_n 0, 1) := by decide +kernel
theorem dX5_putThem_17 : decode cX5_putThem 17 = .ok (.getfield 19, 3) := by decide +kernel
theorem dX5_putThem_20 : decode cX5_putThem 20 = .ok (.iconst 4, 1) := by decide +kernel
theorem dX5_putThem_21 : decode cX5_putThem 21 = .ok (.iload_n 2, 1) := by decide +kernel
theorem dX5_putThem_22 : decode cX5_putThem 22 = .ok (.iadd, 1) := by decide +kernel
theorem dX5_putThem_23 : decode cX5_putThem 23 = .ok (.iaload, 1) := by decide +kernel
theorem dX5_putThem_24 : decode cX5_putThem 24 = .ok (.iastore, 1) := by decide +kernel
theorem dX5_putThem_25 : decode cX5_putThem 25 = .ok (.aload_n 0, 1) := by decide +kernel
theorem dX5_putThem_26 : decode cX5_putThem 26 = .ok (.getfield 19, 3) := by decide +kernel
theorem dX5_putThem_29 : decode cX5_putThem 29 = .ok (.iconst 4, 1) := by decide +kernel
theorem dX5_putThem_30 : decode cX5_putThem 30 = .ok (.iload_n 2, 1) := by decide +kernel
theorem dX5_putThem_31 : decode cX5_putThem 31 = .ok (.iadd, 1) := by decide +kernel
theorem dX5_putThem_32 : decode cX5_putThem 32 = .ok (.iload_n 3, 1) := by decide +kernel
theorem dX5_putThem_33 : decode cX5_putThem 33 = .ok (.iastore, 1) := by decide +kernel
theorem dX5_putThem_34 : decode cX5_putThem 34 = .ok (.aload_n 0, 1) := by decide +kernel
theorem dX5_putThem_35 : decode cX5_putThem 35 = .ok (.aload_n 0, 1) := by decide +kernel
theorem dX5_putThem_36 : decode cX5_putThem 36 = .ok (.iload_n 1, 1) := by decide +kernel
theorem dX5_putThem_37 : decode cX5_putThem 37 = .ok (.invokevirtual 111, 3) := by decide +kernel
theorem dX5_putThem_40 : decode cX5_putThem 40 = .ok (.aload_n 0, 1) := by decide +kernel
theorem dX5_putThem_41 : decode cX5_putThem 41 = .ok (.iload_n 2, 1) := by decide +kernel
theorem dX5_putThem_42 : decode cX5_putThem 42 = .ok (.invokevirtual 111, 3) := by decide +kernel
theorem dX5_putThem_45 : decode cX5_putThem 45 = .ok (.invokevirtual 130, 3) := by decide +kernel
theorem dX5_putThem_48 : decode cX5_putThem 48 = .ok (.return_, 1) := by decide +kernel
theorem dX5_put_0 : decode cX5_put 0 = .ok (.iload_n 1, 1) := by decide +kernel
theorem dX5_put_1 : decode cX5_put 1 = .ok (.invokestatic 105, 3) := by decide +kernel
theorem dX5_put_4 : decode cX5_put 4 = .ok (.ifCond .eq 15, 3) := by decide +kernel
theorem dX5_put_7 : decode cX5_put 7 = .ok (.iload_n 2, 1) := by decide +kernel
theorem dX5_put_8 : decode cX5_put 8 = .ok (.invokestatic 105, 3) := by decide +kernel
theorem dX5_put_11 : decode cX5_put 11 = .ok (.ifCond .eq 8, 3) := by decide +kernel
theorem dX5_put_14 : decode cX5_put 14 = .ok (.iload_n 1, 1) := by decide +kernel
theorem dX5_put_15 : decode cX5_put 15 = .ok (.iload_n 2, 1) := by decide +kernel
theorem dX5_put_16 : decode cX5_put 16 = .ok (.if_icmp .ne 5, 3) := by decide +kernel
theorem dX5_put_19 : decode cX5_put 19 = .ok (.iconst (-1), 1) := by decide +kernel
theorem dX5_put_20 : decode cX5_put 20 = .ok (.ireturn, 1) := by decide +kernel
theorem dX5_put_21 : decode cX5_put 21 = .ok (.aload_n 0, 1) := by decide +kernel
theorem dX5_put_22 : decode cX5_put 22 = .ok (.invokevirtual 150, 3) := by decide +kernel
theorem dX5_put_25 : decode cX5_put 25 = .ok (.aload_n 0, 1) := by decide +kernel
theorem dX5_put_26 : decode cX5_put 26 = .ok (.iload_n 1, 1) := by decide +kernel
theorem dX5_put_27 : decode cX5_put 27 = .ok (.iload_n 2, 1) := by decide +kernel
theorem dX5_put_28 : decode cX5_put 28 = .ok (.invokevirtual 153, 3) := by decide +kernel
theorem dX5_put_31 : decode cX5_put 31 = .ok (.aload_n 0, 1) := by decide +kernel
theorem dX5_put_32 : decode cX5_put 32 = .ok (.iload_n 1, 1) := by decide +kernel
theorem dX5_put_33 : decode cX5_put 33 = .ok (.invokevirtual 111, 3) := by decide +kernel
theorem dX5_put_36 : decode cX5_put 36 = .ok (.ireturn, 1) := by decide +kernel
theorem dX5_undo_0 : decode cX5_undo 0 = .ok (.aload_n 0, 1) := by decide +kernel
theorem dX5_undo_1 : decode cX5_undo 1 = .ok (.getfield 68, 3) := by decide +kernel
theorem dX5_undo_4 : decode cX5_undo 4 = .ok (.ifCond .ne 6, 3) := by decide +kernel
theorem dX5_undo_7 : decode cX5_undo 7 = .ok (.bipush (-2), 2) := by decide +kernel
theorem dX5_undo_9 : decode cX5_undo 9 = .ok (.ireturn, 1) := by decide +kernel
theorem dX5_undo_10 : decode cX5_undo 10 = .ok (.aload_n 0, 1) := by decide +kernel
theorem dX5_undo_11 : decode cX5_undo 11 = .ok (.dup, 1) := by decide +kernel
theorem dX5_undo_12 : decode cX5_undo 12 = .ok (.getfield 68, 3) := by decide +kernel
theorem dX5_undo_15 : decode cX5_undo 15 = .ok (.iconst 1, 1) := by decide +kernel
theorem dX5_undo_16 : decode cX5_undo 16 = .ok (.isub, 1) := by decide +kernel
theorem dX5_undo_17 : decode cX5_undo 17 = .ok (.putfield 68, 3) := by decide +kernel
theorem dX5_undo_20 : decode cX5_undo 20 = .ok (.iconst 0, 1) := by decide +kernel
theorem dX5_undo_21 : decode cX5_undo 21 = .ok (.istore_n 1, 1) := by decide +kernel
theorem dX5_undo_22 : decode cX5_undo 22 = .ok (.iload_n 1, 1) := by decide +kernel
theorem dX5_undo_23 : decode cX5_undo 23 = .ok (.bipush 12, 2) := by decide +kernel
theorem dX5_undo_25 : decode cX5_undo 25 = .ok (.if_icmp .ge 29, 3) := by decide +kernel
theorem dX5_undo_28 : decode cX5_undo 28 = .ok (.aload_n 0, 1) := by decide +kernel
theorem dX5_undo_29 : decode cX5_undo 29 = .ok (.getfield 19, 3) := by decide +kernel
theorem dX5_undo_32 : decode cX5_undo 32 = .ok (.iload_n 1, 1) := by decide +kernel
theorem dX5_undo_33 : decode cX5_undo 33 = .ok (.aload_n 0, 1) := by decide +kernel
theorem dX5_undo_34 : decode cX5_undo 34 = .ok (.getfield 22, 3) := by decide +kernel
theorem dX5_undo_37 : decode cX5_undo 37 = .ok (.bipush 12, 2) := by decide +kernel
theorem dX5_undo_39 : decode cX5_undo 39 = .ok (.aload_n 0, 1) := by decide +kernel
theorem dX5_undo_40 : decode cX5_undo 40 = .ok (.getfield 68, 3) := by decide +kernel
theorem dX5_undo_43 : decode cX5_undo 43 = .ok (.imul, 1) := by decide +kernel
theorem dX5_undo_44 : decode cX5_undo 44 = .ok (.iload_n 1, 1) := by decide +kernel
theorem dX5_undo_45 : decode cX5_undo 45 = .ok (.iadd, 1) := by decide +kernel
theorem dX5_undo_46 : decode cX5_undo 46 = .ok (.iaload, 1) := by decide +kernel
theorem dX5_undo_47 : decode cX5_undo 47 = .ok (.iastore, 1) := by decide +kernel
theorem dX5_undo_48 : decode cX5_undo 48 = .ok (.iinc 1 1, 3) := by decide +kernel
theorem dX5_undo_51 : decode cX5_undo 51 = .ok (.goto (-29), 3) := by decide +kernel
theorem dX5_undo_54 : decode cX5_undo 54 = .ok (.aload_n 0, 1) := by decide +kernel
theorem dX5_undo_55 : decode cX5_undo 55 = .ok (.getfield 68, 3) := by decide +kernel
theorem dX5_undo_58 : decode cX5_undo 58 = .ok (.ireturn, 1) := by decide +kernel
theorem dX5_putAside_0 : decode cX5_putAside 0 = .ok (.iconst 0, 1) := by decide +kernel
theorem dX5_putAside_1 : decode cX5_putAside 1 = .ok (.istore_n 1, 1) := by decide +kernel
theorem dX5_putAside_2 : decode cX5_putAside 2 = .ok (.iload_n 1, 1) := by decide +kernel
theorem dX5_putAside_3 : decode cX5_putAside 3 = .ok (.bipush 12, 2) := by decide +kernel
theorem dX5_putAside_5 : decode cX5_putAside 5 = .ok (.if_icmp .ge 21, 3) := by decide +kernel
theorem dX5_putAside_8 : decode cX5_putAside 8 = .ok (.aload_n 0, 1) := by decide +kernel
theorem dX5_putAside_9 : decode cX5_putAside 9 = .ok (.getfield 43, 3) := by decide +kernel
theorem dX5_putAside_12 : decode cX5_putAside 12 = .ok (.iload_n 1, 1) := by decide +kernel
theorem dX5_putAside_13 : decode cX5_putAside 13 = .ok (.aload_n 0, 1) := by decide +kernel
theorem dX5_putAside_14 : decode cX5_putAside 14 = .ok (.getfield 19, 3) := by decide +kernel
theorem dX5_putAside_17 : decode cX5_putAside 17 = .ok (.iload_n 1, 1) := by decide +kernel
theorem dX5_putAside_18 : decode cX5_putAside 18 = .ok (.iaload, 1) := by decide +kernel
theorem dX5_putAside_19 : decode cX5_putAside 19 = .ok (.iastore, 1) := by decide +kernel
theorem dX5_putAside_20 : decode cX5_putAside 20 = .ok (.iinc 1 1, 3) := by decide +kernel
theorem dX5_putAside_23 : decode cX5_putAside 23 = .ok (.goto (-21), 3) := by decide +kernel
theorem dX5_putAside_26 : decode cX5_putAside 26 = .ok (.return_, 1) := by decide +kernel
theorem dX5_takeBack_0 : decode cX5_takeBack 0 = .ok (.iconst 0, 1) := by decide +kernel
theorem dX5_takeBack_1 : decode cX5_takeBack 1 = .ok (.istore_n 1, 1) := by decide +kernel
theorem dX5_takeBack_2 : decode cX5_takeBack 2 = .ok (.iload_n 1, 1) := by decide +kernel
theorem dX5_takeBack_3 : decode cX5_takeBack 3 = .ok (.bipush 12, 2) := by decide +kernel
theorem dX5_takeBack_5 : decode cX5_takeBack 5 = .ok (.if_icmp .ge 21, 3) := by decide +kernel
theorem dX5_takeBack_8 : decode cX5_takeBack 8 = .ok (.aload_n 0, 1) := by decide +kernel
theorem dX5_takeBack_9 : decode cX5_takeBack 9 = .ok (.getfield 19, 3) := by decide +kernel
theorem dX5_takeBack_12 : decode cX5_takeBack 12 = .ok (.iload_n 1, 1) := by decide +kernel
theorem dX5_takeBack_13 : decode cX5_takeBack 13 = .ok (.aload_n 0, 1) := by decide +kernel
theorem dX5_takeBack_14 : decode cX5_takeBack 14 = .ok (.getfield 43, 3) := by decide +kernel
theorem dX5_takeBack_17 : decode cX5_takeBack 17 = .ok (.iload_n 1, 1) := by decide +kernel
theorem dX5_takeBack_18 : decode cX5_takeBack 18 = .ok (.iaload, 1) := by decide +kernel
theorem dX5_takeBack_19 : decode cX5_takeBack 19 = .ok (.iastore, 1) := by decide +kernel
theorem dX5_takeBack_20 : decode cX5_takeBack 20 = .ok (.iinc 1 1, 3) := by decide +kernel
theorem dX5_takeBack_23 : decode cX5_takeBack 23 = .ok (.goto (-21), 3) := by decide +kernel
theorem dX5_takeBack_26 : decode cX5_takeBack 26 = .ok (.return_, 1) := by decide +kernel
theorem dX5_rowsOf_0 : decode cX5_rowsOf 0 = .ok (.iconst 1, 1) := by decide +kernel
theorem dX5_rowsOf_1 : decode cX5_rowsOf 1 = .ok (.istore_n 2, 1) := by decide +kernel
theorem dX5_rowsOf_2 : decode cX5_rowsOf 2 = .ok (.iconst 0, 1) := by decide +kernel
theorem dX5_rowsOf_3 : decode cX5_rowsOf 3 = .ok (.istore_n 3, 1) := by decide +kernel
theorem dX5_rowsOf_4 : decode cX5_rowsOf 4 = .ok (.iload_n 3, 1) := by decide +kernel
theorem dX5_rowsOf_5 : decode cX5_rowsOf 5 = .ok (.iload_n 1, 1) := by decide +kernel
theorem dX5_rowsOf_6 : decode cX5_rowsOf 6 = .ok (.if_icmp .ge 13, 3) := by decide +kernel
theorem dX5_rowsOf_9 : decode cX5_rowsOf 9 = .ok (.iload_n 2, 1) := by decide +kernel
theorem dX5_rowsOf_10 : decode cX5_rowsOf 10 = .ok (.iload_n 0, 1) := by decide +kernel
theorem dX5_rowsOf_11 : decode cX5_rowsOf 11 = .ok (.imul, 1) := by decide +kernel
theorem dX5_rowsOf_12 : decode cX5_rowsOf 12 = .ok (.istore_n 2, 1) := by decide +kernel
theorem dX5_rowsOf_13 : decode cX5_rowsOf 13 = .ok (.iinc 3 1, 3) := by decide +kernel
theorem dX5_rowsOf_16 : decode cX5_rowsOf 16 = .ok (.goto (-12), 3) := by decide +kernel
theorem dX5_rowsOf_19 : decode cX5_rowsOf 19 = .ok (.iload_n 2, 1) := by decide +kernel
theorem dX5_rowsOf_20 : decode cX5_rowsOf 20 = .ok (.ireturn, 1) := by decide +kernel
theorem dX5_dancesRow_0 : decode cX5_dancesRow 0 = .ok (.iconst 1, 1) := by decide +kernel
theorem dX5_dancesRow_1 : decode cX5_dancesRow 1 = .ok (.istore_n 3, 1) := by decide +kernel
theorem dX5_dancesRow_2 : decode cX5_dancesRow 2 = .ok (.iconst 3, 1) := by decide +kernel
theorem dX5_dancesRow_3 : decode cX5_dancesRow 3 = .ok (.iload_n 2, 1) := by decide +kernel
theorem dX5_dancesRow_4 : decode cX5_dancesRow 4 = .ok (.invokestatic 156, 3) := by decide +kernel
theorem dX5_dancesRow_7 : decode cX5_dancesRow 7 = .ok (.iconst 3, 1) := by decide +kernel
theorem dX5_dancesRow_8 : decode cX5_dancesRow 8 = .ok (.idiv, 1) := by decide +kernel
theorem dX5_dancesRow_9 : decode cX5_dancesRow 9 = .ok (.istore 4, 2) := by decide +kernel
theorem dX5_dancesRow_11 : decode cX5_dancesRow 11 = .ok (.iload 4, 2) := by decide +kernel
theorem dX5_dancesRow_13 : decode cX5_dancesRow 13 = .ok (.ifCond .le 27, 3) := by decide +kernel
theorem dX5_dancesRow_16 : decode cX5_dancesRow 16 = .ok (.iload_n 3, 1) := by decide +kernel
theorem dX5_dancesRow_17 : decode cX5_dancesRow 17 = .ok (.ifCond .eq 23, 3) := by decide +kernel
theorem dX5_dancesRow_20 : decode cX5_dancesRow 20 = .ok (.aload_n 0, 1) := by decide +kernel
theorem dX5_dancesRow_21 : decode cX5_dancesRow 21 = .ok (.iload_n 1, 1) := by decide +kernel
theorem dX5_dancesRow_22 : decode cX5_dancesRow 22 = .ok (.iload 4, 2) := by decide +kernel
theorem dX5_dancesRow_24 : decode cX5_dancesRow 24 = .ok (.idiv, 1) := by decide +kernel
theorem dX5_dancesRow_25 : decode cX5_dancesRow 25 = .ok (.iconst 3, 1) := by decide +kernel
theorem dX5_dancesRow_26 : decode cX5_dancesRow 26 = .ok (.irem, 1) := by decide +kernel
theorem dX5_dancesRow_27 : decode cX5_dancesRow 27 = .ok (.invokevirtual 144, 3) := by decide +kernel
theorem dX5_dancesRow_30 : decode cX5_dancesRow 30 = .ok (.istore_n 3, 1) := by decide +kernel
theorem dX5_dancesRow_31 : decode cX5_dancesRow 31 = .ok (.iload 4, 2) := by decide +kernel
theorem dX5_dancesRow_33 : decode cX5_dancesRow 33 = .ok (.iconst 3, 1) := by decide +kernel
theorem dX5_dancesRow_34 : decode cX5_dancesRow 34 = .ok (.idiv, 1) := by decide +kernel
theorem dX5_dancesRow_35 : decode cX5_dancesRow 35 = .ok (.istore 4, 2) := by decide +kernel
theorem dX5_dancesRow_37 : decode cX5_dancesRow 37 = .ok (.goto (-26), 3) := by decide +kernel
theorem dX5_dancesRow_40 : decode cX5_dancesRow 40 = .ok (.iload_n 3, 1) := by decide +kernel
theorem dX5_dancesRow_41 : decode cX5_dancesRow 41 = .ok (.ireturn, 1) := by decide +kernel
theorem dX5_isWound_0 : decode cX5_isWound 0 = .ok (.aload_n 0, 1) := by decide +kernel
theorem dX5_isWound_1 : decode cX5_isWound 1 = .ok (.getfield 19, 3) := by decide +kernel
theorem dX5_isWound_4 : decode cX5_isWound 4 = .ok (.bipush 8, 2) := by decide +kernel
theorem dX5_isWound_6 : decode cX5_isWound 6 = .ok (.iaload, 1) := by decide +kernel
theorem dX5_isWound_7 : decode cX5_isWound 7 = .ok (.iload_n 1, 1) := by decide +kernel
theorem dX5_isWound_8 : decode cX5_isWound 8 = .ok (.if_icmp .ne 18, 3) := by decide +kernel
theorem dX5_isWound_11 : decode cX5_isWound 11 = .ok (.aload_n 0, 1) := by decide +kernel
theorem dX5_isWound_12 : decode cX5_isWound 12 = .ok (.getfield 19, 3) := by decide +kernel
theorem dX5_isWound_15 : decode cX5_isWound 15 = .ok (.bipush 9, 2) := by decide +kernel
theorem dX5_isWound_17 : decode cX5_isWound 17 = .ok (.iaload, 1) := by decide +kernel
theorem dX5_isWound_18 : decode cX5_isWound 18 = .ok (.iload_n 2, 1) := by decide +kernel
theorem dX5_isWound_19 : decode cX5_isWound 19 = .ok (.if_icmp .ne 7, 3) := by decide +kernel
theorem dX5_isWound_22 : decode cX5_isWound 22 = .ok (.iconst 1, 1) := by decide +kernel
theorem dX5_isWound_23 : decode cX5_isWound 23 = .ok (.goto 4, 3) := by decide +kernel
theorem dX5_isWound_26 : decode cX5_isWound 26 = .ok (.iconst 0, 1) := by decide +kernel
theorem dX5_isWound_27 : decode cX5_isWound 27 = .ok (.ireturn, 1) := by decide +kernel
theorem dX5_areBeside_0 : decode cX5_areBeside 0 = .ok (.aload_n 0, 1) := by decide +kernel
theorem dX5_areBeside_1 : decode cX5_areBeside 1 = .ok (.iload_n 1, 1) := by decide +kernel
theorem dX5_areBeside_2 : decode cX5_areBeside 2 = .ok (.invokevirtual 111, 3) := by decide +kernel
theorem dX5_areBeside_5 : decode cX5_areBeside 5 = .ok (.aload_n 0, 1) := by decide +kernel
theorem dX5_areBeside_6 : decode cX5_areBeside 6 = .ok (.iload_n 2, 1) := by decide +kernel
theorem dX5_areBeside_7 : decode cX5_areBeside 7 = .ok (.invokevirtual 111, 3) := by decide +kernel
theorem dX5_areBeside_10 : decode cX5_areBeside 10 = .ok (.isub, 1) := by decide +kernel
theorem dX5_areBeside_11 : decode cX5_areBeside 11 = .ok (.istore_n 3, 1) := by decide +kernel
theorem dX5_areBeside_12 : decode cX5_areBeside 12 = .ok (.iload_n 3, 1) := by decide +kernel
theorem dX5_areBeside_13 : decode cX5_areBeside 13 = .ok (.iconst 2, 1) := by decide +kernel
theorem dX5_areBeside_14 : decode cX5_areBeside 14 = .ok (.irem, 1) := by decide +kernel
theorem dX5_areBeside_15 : decode cX5_areBeside 15 = .ok (.ifCond .eq 7, 3) := by decide +kernel
theorem dX5_areBeside_18 : decode cX5_areBeside 18 = .ok (.iconst 1, 1) := by decide +kernel
theorem dX5_areBeside_19 : decode cX5_areBeside 19 = .ok (.goto 4, 3) := by decide +kernel
theorem dX5_areBeside_22 : decode cX5_areBeside 22 = .ok (.iconst 0, 1) := by decide +kernel
theorem dX5_areBeside_23 : decode cX5_areBeside 23 = .ok (.ireturn, 1) := by decide +kernel
theorem dX5_search_0 : decode cX5_search 0 = .ok (.aload_n 0, 1) := by decide +kernel
theorem dX5_search_1 : decode cX5_search 1 = .ok (.bipush (-4), 2) := by decide +kernel
theorem dX5_search_3 : decode cX5_search 3 = .ok (.putfield 159, 3) := by decide +kernel
theorem dX5_search_6 : decode cX5_search 6 = .ok (.aload_n 0, 1) := by decide +kernel
theorem dX5_search_7 : decode cX5_search 7 = .ok (.invokevirtual 141, 3) := by decide +kernel
theorem dX5_search_10 : decode cX5_search 10 = .ok (.iconst 0, 1) := by decide +kernel
theorem dX5_search_11 : decode cX5_search 11 = .ok (.istore 5, 2) := by decide +kernel
theorem dX5_search_13 : decode cX5_search 13 = .ok (.iload 5, 2) := by decide +kernel
theorem dX5_search_15 : decode cX5_search 15 = .ok (.bipush 7, 2) := by decide +kernel
theorem dX5_search_17 : decode cX5_search 17 = .ok (.if_icmp .gt 96, 3) := by decide +kernel
theorem dX5_search_20 : decode cX5_search 20 = .ok (.aload_n 0, 1) := by decide +kernel
theorem dX5_search_21 : decode cX5_search 21 = .ok (.getfield 159, 3) := by decide +kernel
theorem dX5_search_24 : decode cX5_search 24 = .ok (.ifCond .ge 89, 3) := by decide +kernel
theorem dX5_search_27 : decode cX5_search 27 = .ok (.iconst 0, 1) := by decide +kernel
theorem dX5_search_28 : decode cX5_search 28 = .ok (.istore 6, 2) := by decide +kernel
theorem dX5_search_30 : decode cX5_search 30 = .ok (.iload 6, 2) := by decide +kernel
theorem dX5_search_32 : decode cX5_search 32 = .ok (.iconst 3, 1) := by decide +kernel
theorem dX5_search_33 : decode cX5_search 33 = .ok (.iload 5, 2) := by decide +kernel
theorem dX5_search_35 : decode cX5_search 35 = .ok (.invokestatic 156, 3) := by decide +kernel
theorem dX5_search_38 : decode cX5_search 38 = .ok (.if_icmp .ge 69, 3) := by decide +kernel
theorem dX5_search_41 : decode cX5_search 41 = .ok (.aload_n 0, 1) := by decide +kernel
theorem dX5_search_42 : decode cX5_search 42 = .ok (.getfield 159, 3) := by decide +kernel
theorem dX5_search_45 : decode cX5_search 45 = .ok (.ifCond .ge 62, 3) := by decide +kernel
theorem dX5_search_48 : decode cX5_search 48 = .ok (.aload_n 0, 1) := by decide +kernel
theorem dX5_search_49 : decode cX5_search 49 = .ok (.iload 6, 2) := by decide +kernel
theorem dX5_search_51 : decode cX5_search 51 = .ok (.iload 5, 2) := by decide +kernel
theorem dX5_search_53 : decode cX5_search 53 = .ok (.invokevirtual 162, 3) := by decide +kernel
theorem dX5_search_56 : decode cX5_search 56 = .ok (.ifCond .eq 41, 3) := by decide +kernel
theorem dX5_search_59 : decode cX5_search 59 = .ok (.iload_n 3, 1) := by decide +kernel
theorem dX5_search_60 : decode cX5_search 60 = .ok (.ifCond .ge 15, 3) := by decide +kernel
theorem dX5_search_63 : decode cX5_search 63 = .ok (.aload_n 0, 1) := by decide +kernel
theorem dX5_search_64 : decode cX5_search 64 = .ok (.iload_n 1, 1) := by decide +kernel
theorem dX5_search_65 : decode cX5_search 65 = .ok (.iload_n 2, 1) := by decide +kernel
theorem dX5_search_66 : decode cX5_search 66 = .ok (.invokevirtual 165, 3) := by decide +kernel
theorem dX5_search_69 : decode cX5_search 69 = .ok (.ifCond .eq 28, 3) := by decide +kernel
theorem dX5_search_72 : decode cX5_search 72 = .ok (.goto 13, 3) := by decide +kernel
theorem dX5_search_75 : decode cX5_search 75 = .ok (.aload_n 0, 1) := by decide +kernel
theorem dX5_search_76 : decode cX5_search 76 = .ok (.iload_n 3, 1) := by decide +kernel
theorem dX5_search_77 : decode cX5_search 77 = .ok (.iload 4, 2) := by decide +kernel
theorem dX5_search_79 : decode cX5_search 79 = .ok (.invokevirtual 168, 3) := by decide +kernel
theorem dX5_search_82 : decode cX5_search 82 = .ok (.ifCond .eq 15, 3) := by decide +kernel
theorem dX5_search_85 : decode cX5_search 85 = .ok (.aload_n 0, 1) := by decide +kernel
theorem dX5_search_86 : decode cX5_search 86 = .ok (.iload 5, 2) := by decide +kernel
