theorem dX8_init_0 : decode cX8_init 0 = .ok (.aload_n 0, 1) := by decide +kernel
theorem dX8_init_1 : decode cX8_init 1 = .ok (.invokespecial 1, 3) := by decide +kernel
theorem dX8_init_4 : decode cX8_init 4 = .ok (.aload_n 0, 1) := by decide +kernel
theorem dX8_init_5 : decode cX8_init 5 = .ok (.iconst 2, 1) := by decide +kernel
theorem dX8_init_6 : decode cX8_init 6 = .ok (.newarray .int, 2) := by decide +kernel
theorem dX8_init_8 : decode cX8_init 8 = .ok (.putfield 7, 3) := by decide +kernel
theorem dX8_init_11 : decode cX8_init 11 = .ok (.aload_n 0, 1) := by decide +kernel
theorem dX8_init_12 : decode cX8_init 12 = .ok (.bipush 70, 2) := by decide +kernel
theorem dX8_init_14 : decode cX8_init 14 = .ok (.newarray .int, 2) := by decide +kernel
theorem dX8_init_16 : decode cX8_init 16 = .ok (.putfield 13, 3) := by decide +kernel
theorem dX8_init_19 : decode cX8_init 19 = .ok (.aload_n 0, 1) := by decide +kernel
theorem dX8_init_20 : decode cX8_init 20 = .ok (.bipush 10, 2) := by decide +kernel
theorem dX8_init_22 : decode cX8_init 22 = .ok (.newarray .int, 2) := by decide +kernel
theorem dX8_init_24 : decode cX8_init 24 = .ok (.putfield 16, 3) := by decide +kernel
theorem dX8_init_27 : decode cX8_init 27 = .ok (.aload_n 0, 1) := by decide +kernel
theorem dX8_init_28 : decode cX8_init 28 = .ok (.bipush 10, 2) := by decide +kernel
theorem dX8_init_30 : decode cX8_init 30 = .ok (.newarray .int, 2) := by decide +kernel
theorem dX8_init_32 : decode cX8_init 32 = .ok (.putfield 19, 3) := by decide +kernel
theorem dX8_init_35 : decode cX8_init 35 = .ok (.aload_n 0, 1) := by decide +kernel
theorem dX8_init_36 : decode cX8_init 36 = .ok (.bipush 10, 2) := by decide +kernel
theorem dX8_init_38 : decode cX8_init 38 = .ok (.newarray .int, 2) := by decide +kernel
theorem dX8_init_40 : decode cX8_init 40 = .ok (.putfield 22, 3) := by decide +kernel
theorem dX8_init_43 : decode cX8_init 43 = .ok (.aload_n 0, 1) := by decide +kernel
theorem dX8_init_44 : decode cX8_init 44 = .ok (.bipush 7, 2) := by decide +kernel
theorem dX8_init_46 : decode cX8_init 46 = .ok (.newarray .int, 2) := by decide +kernel
theorem dX8_init_48 : decode cX8_init 48 = .ok (.putfield 25, 3) := by decide +kernel
theorem dX8_init_51 : decode cX8_init 51 = .ok (.aload_n 0, 1) := by decide +kernel
theorem dX8_init_52 : decode cX8_init 52 = .ok (.bipush 7, 2) := by decide +kernel
theorem dX8_init_54 : decode cX8_init 54 = .ok (.newarray .int, 2) := by decide +kernel
theorem dX8_init_56 : decode cX8_init 56 = .ok (.putfield 28, 3) := by decide +kernel
theorem dX8_init_59 : decode cX8_init 59 = .ok (.aload_n 0, 1) := by decide +kernel
theorem dX8_init_60 : decode cX8_init 60 = .ok (.bipush 9, 2) := by decide +kernel
theorem dX8_init_62 : decode cX8_init 62 = .ok (.newarray .int, 2) := by decide +kernel
theorem dX8_init_64 : decode cX8_init 64 = .ok (.putfield 31, 3) := by decide +kernel
theorem dX8_init_67 : decode cX8_init 67 = .ok (.aload_n 0, 1) := by decide +kernel
theorem dX8_init_68 : decode cX8_init 68 = .ok (.sipush 512, 3) := by decide +kernel
theorem dX8_init_71 : decode cX8_init 71 = .ok (.newarray .long, 2) := by decide +kernel
theorem dX8_init_73 : decode cX8_init 73 = .ok (.putfield 34, 3) := by decide +kernel
theorem dX8_init_76 : decode cX8_init 76 = .ok (.aload_n 0, 1) := by decide +kernel
theorem dX8_init_77 : decode cX8_init 77 = .ok (.sipush 512, 3) := by decide +kernel
theorem dX8_init_80 : decode cX8_init 80 = .ok (.newarray .long, 2) := by decide +kernel
theorem dX8_init_82 : decode cX8_init 82 = .ok (.putfield 38, 3) := by decide +kernel
theorem dX8_init_85 : decode cX8_init 85 = .ok (.aload_n 0, 1) := by decide +kernel
theorem dX8_init_86 : decode cX8_init 86 = .ok (.sipush 512, 3) := by decide +kernel
theorem dX8_init_89 : decode cX8_init 89 = .ok (.newarray .int, 2) := by decide +kernel
theorem dX8_init_91 : decode cX8_init 91 = .ok (.putfield 41, 3) := by decide +kernel
theorem dX8_init_94 : decode cX8_init 94 = .ok (.aload_n 0, 1) := by decide +kernel
theorem dX8_init_95 : decode cX8_init 95 = .ok (.sipush 512, 3) := by decide +kernel
theorem dX8_init_98 : decode cX8_init 98 = .ok (.newarray .int, 2) := by decide +kernel
theorem dX8_init_100 : decode cX8_init 100 = .ok (.putfield 44, 3) := by decide +kernel
theorem dX8_init_103 : decode cX8_init 103 = .ok (.aload_n 0, 1) := by decide +kernel
theorem dX8_init_104 : decode cX8_init 104 = .ok (.bipush 10, 2) := by decide +kernel
theorem dX8_init_106 : decode cX8_init 106 = .ok (.newarray .long, 2) := by decide +kernel
theorem dX8_init_108 : decode cX8_init 108 = .ok (.putfield 47, 3) := by decide +kernel
theorem dX8_init_111 : decode cX8_init 111 = .ok (.aload_n 0, 1) := by decide +kernel
theorem dX8_init_112 : decode cX8_init 112 = .ok (.iconst 2, 1) := by decide +kernel
theorem dX8_init_113 : decode cX8_init 113 = .ok (.newarray .int, 2) := by decide +kernel
theorem dX8_init_115 : decode cX8_init 115 = .ok (.putfield 50, 3) := by decide +kernel
theorem dX8_init_118 : decode cX8_init 118 = .ok (.aload_n 0, 1) := by decide +kernel
theorem dX8_init_119 : decode cX8_init 119 = .ok (.bipush 8, 2) := by decide +kernel
theorem dX8_init_121 : decode cX8_init 121 = .ok (.newarray .int, 2) := by decide +kernel
theorem dX8_init_123 : decode cX8_init 123 = .ok (.putfield 53, 3) := by decide +kernel
theorem dX8_init_126 : decode cX8_init 126 = .ok (.aload_n 0, 1) := by decide +kernel
theorem dX8_init_127 : decode cX8_init 127 = .ok (.bipush 8, 2) := by decide +kernel
theorem dX8_init_129 : decode cX8_init 129 = .ok (.newarray .int, 2) := by decide +kernel
theorem dX8_init_131 : decode cX8_init 131 = .ok (.putfield 56, 3) := by decide +kernel
theorem dX8_init_134 : decode cX8_init 134 = .ok (.aload_n 0, 1) := by decide +kernel
theorem dX8_init_135 : decode cX8_init 135 = .ok (.bipush 8, 2) := by decide +kernel
theorem dX8_init_137 : decode cX8_init 137 = .ok (.newarray .int, 2) := by decide +kernel
theorem dX8_init_139 : decode cX8_init 139 = .ok (.putfield 59, 3) := by decide +kernel
theorem dX8_init_142 : decode cX8_init 142 = .ok (.aload_n 0, 1) := by decide +kernel
theorem dX8_init_143 : decode cX8_init 143 = .ok (.iconst 4, 1) := by decide +kernel
theorem dX8_init_144 : decode cX8_init 144 = .ok (.newarray .boolean, 2) := by decide +kernel
theorem dX8_init_146 : decode cX8_init 146 = .ok (.putfield 62, 3) := by decide +kernel
theorem dX8_init_149 : decode cX8_init 149 = .ok (.aload_n 0, 1) := by decide +kernel
theorem dX8_init_150 : decode cX8_init 150 = .ok (.iconst 4, 1) := by decide +kernel
theorem dX8_init_151 : decode cX8_init 151 = .ok (.newarray .int, 2) := by decide +kernel
theorem dX8_init_153 : decode cX8_init 153 = .ok (.putfield 66, 3) := by decide +kernel
theorem dX8_init_156 : decode cX8_init 156 = .ok (.aload_n 0, 1) := by decide +kernel
theorem dX8_init_157 : decode cX8_init 157 = .ok (.iconst 4, 1) := by decide +kernel
theorem dX8_init_158 : decode cX8_init 158 = .ok (.newarray .int, 2) := by decide +kernel
theorem dX8_init_160 : decode cX8_init 160 = .ok (.putfield 69, 3) := by decide +kernel
theorem dX8_init_163 : decode cX8_init 163 = .ok (.aload_n 0, 1) := by decide +kernel
theorem dX8_init_164 : decode cX8_init 164 = .ok (.sipush 192, 3) := by decide +kernel
theorem dX8_init_167 : decode cX8_init 167 = .ok (.newarray .int, 2) := by decide +kernel
theorem dX8_init_169 : decode cX8_init 169 = .ok (.putfield 72, 3) := by decide +kernel
theorem dX8_init_172 : decode cX8_init 172 = .ok (.aload_n 0, 1) := by decide +kernel
theorem dX8_init_173 : decode cX8_init 173 = .ok (.bipush 48, 2) := by decide +kernel
theorem dX8_init_175 : decode cX8_init 175 = .ok (.newarray .int, 2) := by decide +kernel
theorem dX8_init_177 : decode cX8_init 177 = .ok (.putfield 75, 3) := by decide +kernel
theorem dX8_init_180 : decode cX8_init 180 = .ok (.aload_n 0, 1) := by decide +kernel
theorem dX8_init_181 : decode cX8_init 181 = .ok (.bipush 30, 2) := by decide +kernel
theorem dX8_init_183 : decode cX8_init 183 = .ok (.putfield 78, 3) := by decide +kernel
theorem dX8_init_186 : decode cX8_init 186 = .ok (.aload_n 0, 1) := by decide +kernel
theorem dX8_init_187 : decode cX8_init 187 = .ok (.iconst 3, 1) := by decide +kernel
theorem dX8_init_188 : decode cX8_init 188 = .ok (.putfield 82, 3) := by decide +kernel
theorem dX8_init_191 : decode cX8_init 191 = .ok (.aload_n 0, 1) := by decide +kernel
theorem dX8_init_192 : decode cX8_init 192 = .ok (.bipush 8, 2) := by decide +kernel
theorem dX8_init_194 : decode cX8_init 194 = .ok (.putfield 85, 3) := by decide +kernel
theorem dX8_init_197 : decode cX8_init 197 = .ok (.iconst 0, 1) := by decide +kernel
theorem dX8_init_198 : decode cX8_init 198 = .ok (.istore_n 1, 1) := by decide +kernel
theorem dX8_init_199 : decode cX8_init 199 = .ok (.iload_n 1, 1) := by decide +kernel
theorem dX8_init_200 : decode cX8_init 200 = .ok (.sipush 512, 3) := by decide +kernel
theorem dX8_init_203 : decode cX8_init 203 = .ok (.if_icmp .ge 19, 3) := by decide +kernel
theorem dX8_init_206 : decode cX8_init 206 = .ok (.aload_n 0, 1) := by decide +kernel
theorem dX8_init_207 : decode cX8_init 207 = .ok (.getfield 44, 3) := by decide +kernel
theorem dX8_init_210 : decode cX8_init 210 = .ok (.iload_n 1, 1) := by decide +kernel
theorem dX8_init_211 : decode cX8_init 211 = .ok (.iload_n 1, 1) := by decide +kernel
theorem dX8_init_212 : decode cX8_init 212 = .ok (.invokestatic 88, 3) := by decide +kernel
theorem dX8_init_215 : decode cX8_init 215 = .ok (.iastore, 1) := by decide +kernel
theorem dX8_init_216 : decode cX8_init 216 = .ok (.iinc 1 1, 3) := by decide +kernel
theorem dX8_init_219 : decode cX8_init 219 = .ok (.goto (-20), 3) := by decide +kernel
theorem dX8_init_222 : decode cX8_init 222 = .ok (.return_, 1) := by decide +kernel
theorem dX8_in_0 : decode cX8_in 0 = .ok (.iload_n 0, 1) := by decide +kernel
theorem dX8_in_1 : decode cX8_in 1 = .ok (.iload_n 1, 1) := by decide +kernel
theorem dX8_in_2 : decode cX8_in 2 = .ok (.if_icmp .lt 12, 3) := by decide +kernel
theorem dX8_in_5 : decode cX8_in 5 = .ok (.iload_n 0, 1) := by decide +kernel
theorem dX8_in_6 : decode cX8_in 6 = .ok (.iload_n 2, 1) := by decide +kernel
theorem dX8_in_7 : decode cX8_in 7 = .ok (.if_icmp .gt 7, 3) := by decide +kernel
theorem dX8_in_10 : decode cX8_in 10 = .ok (.iconst 1, 1) := by decide +kernel
theorem dX8_in_11 : decode cX8_in 11 = .ok (.goto 4, 3) := by decide +kernel
theorem dX8_in_14 : decode cX8_in 14 = .ok (.iconst 0, 1) := by decide +kernel
theorem dX8_in_15 : decode cX8_in 15 = .ok (.ireturn, 1) := by decide +kernel
theorem dX8_isIn_0 : decode cX8_isIn 0 = .ok (.iload_n 0, 1) := by decide +kernel
theorem dX8_isIn_1 : decode cX8_isIn 1 = .ok (.iload_n 1, 1) := by decide +kernel
theorem dX8_isIn_2 : decode cX8_isIn 2 = .ok (.ishr, 1) := by decide +kernel
theorem dX8_isIn_3 : decode cX8_isIn 3 = .ok (.iconst 1, 1) := by decide +kernel
theorem dX8_isIn_4 : decode cX8_isIn 4 = .ok (.iand, 1) := by decide +kernel
theorem dX8_isIn_5 : decode cX8_isIn 5 = .ok (.iconst 1, 1) := by decide +kernel
theorem dX8_isIn_6 : decode cX8_isIn 6 = .ok (.if_icmp .ne 7, 3) := by decide +kernel
theorem dX8_isIn_9 : decode cX8_isIn 9 = .ok (.iconst 1, 1) := by decide +kernel
theorem dX8_isIn_10 : decode cX8_isIn 10 = .ok (.goto 4, 3) := by decide +kernel
theorem dX8_isIn_13 : decode cX8_isIn 13 = .ok (.iconst 0, 1) := by decide +kernel
theorem dX8_isIn_14 : decode cX8_isIn 14 = .ok (.ireturn, 1) := by decide +kernel
theorem dX8_ones_0 : decode cX8_ones 0 = .ok (.iconst 0, 1) := by decide +kernel
theorem dX8_ones_1 : decode cX8_ones 1 = .ok (.istore_n 1, 1) := by decide +kernel
theorem dX8_ones_2 : decode cX8_ones 2 = .ok (.iconst 0, 1) := by decide +kernel
theorem dX8_ones_3 : decode cX8_ones 3 = .ok (.istore_n 2, 1) := by decide +kernel
theorem dX8_ones_4 : decode cX8_ones 4 = .ok (.iload_n 2, 1) := by decide +kernel
theorem dX8_ones_5 : decode cX8_ones 5 = .ok (.bipush 9, 2) := by decide +kernel
theorem dX8_ones_7 : decode cX8_ones 7 = .ok (.if_icmp .ge 17, 3) := by decide +kernel
theorem dX8_ones_10 : decode cX8_ones 10 = .ok (.iload_n 1, 1) := by decide +kernel
theorem dX8_ones_11 : decode cX8_ones 11 = .ok (.iload_n 0, 1) := by decide +kernel
theorem dX8_ones_12 : decode cX8_ones 12 = .ok (.iload_n 2, 1) := by decide +kernel
theorem dX8_ones_13 : decode cX8_ones 13 = .ok (.ishr, 1) := by decide +kernel
theorem dX8_ones_14 : decode cX8_ones 14 = .ok (.iconst 1, 1) := by decide +kernel
theorem dX8_ones_15 : decode cX8_ones 15 = .ok (.iand, 1) := by decide +kernel
theorem dX8_ones_16 : decode cX8_ones 16 = .ok (.iadd, 1) := by decide +kernel
theorem dX8_ones_17 : decode cX8_ones 17 = .ok (.istore_n 1, 1) := by decide +kernel
theorem dX8_ones_18 : decode cX8_ones 18 = .ok (.iinc 2 1, 3) := by decide +kernel
theorem dX8_ones_21 : decode cX8_ones 21 = .ok (.goto (-17), 3) := by decide +kernel
theorem dX8_ones_24 : decode cX8_ones 24 = .ok (.iload_n 1, 1) := by decide +kernel
theorem dX8_ones_25 : decode cX8_ones 25 = .ok (.ireturn, 1) := by decide +kernel
theorem dX8_no_0 : decode cX8_no 0 = .ok (.ldc2_w 92, 3) := by decide +kernel
theorem dX8_no_3 : decode cX8_no 3 = .ok (.iload_n 0, 1) := by decide +kernel
theorem dX8_no_4 : decode cX8_no 4 = .ok (.i2l, 1) := by decide +kernel
theorem dX8_no_5 : decode cX8_no 5 = .ok (.lsub, 1) := by decide +kernel
theorem dX8_no_6 : decode cX8_no 6 = .ok (.lreturn, 1) := by decide +kernel
theorem dX8_lowest_0 : decode cX8_lowest 0 = .ok (.lload_n 0, 1) := by decide +kernel
theorem dX8_lowest_1 : decode cX8_lowest 1 = .ok (.lstore 5, 2) := by decide +kernel
theorem dX8_lowest_3 : decode cX8_lowest 3 = .ok (.lload_n 2, 1) := by decide +kernel
theorem dX8_lowest_4 : decode cX8_lowest 4 = .ok (.lstore 7, 2) := by decide +kernel
theorem dX8_lowest_6 : decode cX8_lowest 6 = .ok (.lload 7, 2) := by decide +kernel
theorem dX8_lowest_8 : decode cX8_lowest 8 = .ok (.lconst 0, 1) := by decide +kernel
theorem dX8_lowest_9 : decode cX8_lowest 9 = .ok (.lcmp, 1) := by decide +kernel
theorem dX8_lowest_10 : decode cX8_lowest 10 = .ok (.ifCond .eq 21, 3) := by decide +kernel
theorem dX8_lowest_13 : decode cX8_lowest 13 = .ok (.lload 5, 2) := by decide +kernel
theorem dX8_lowest_15 : decode cX8_lowest 15 = .ok (.lload 7, 2) := by decide +kernel
theorem dX8_lowest_17 : decode cX8_lowest 17 = .ok (.lrem, 1) := by decide +kernel
theorem dX8_lowest_18 : decode cX8_lowest 18 = .ok (.lstore 9, 2) := by decide +kernel
theorem dX8_lowest_20 : decode cX8_lowest 20 = .ok (.lload 7, 2) := by decide +kernel
theorem dX8_lowest_22 : decode cX8_lowest 22 = .ok (.lstore 5, 2) := by decide +kernel
theorem dX8_lowest_24 : decode cX8_lowest 24 = .ok (.lload 9, 2) := by decide +kernel
theorem dX8_lowest_26 : decode cX8_lowest 26 = .ok (.lstore 7, 2) := by decide +kernel
theorem dX8_lowest_28 : decode cX8_lowest 28 = .ok (.goto (-22), 3) := by decide +kernel
theorem dX8_lowest_31 : decode cX8_lowest 31 = .ok (.iload 4, 2) := by decide +kernel
theorem dX8_lowest_33 : decode cX8_lowest 33 = .ok (.ifCond .ne 10, 3) := by decide +kernel
theorem dX8_lowest_36 : decode cX8_lowest 36 = .ok (.lload_n 0, 1) := by decide +kernel
theorem dX8_lowest_37 : decode cX8_lowest 37 = .ok (.lload 5, 2) := by decide +kernel
theorem dX8_lowest_39 : decode cX8_lowest 39 = .ok (.ldiv, 1) := by decide +kernel
theorem dX8_lowest_40 : decode cX8_lowest 40 = .ok (.goto 7, 3) := by decide +kernel
theorem dX8_lowest_43 : decode cX8_lowest 43 = .ok (.lload_n 2, 1) := by decide +kernel
theorem dX8_lowest_44 : decode cX8_lowest 44 = .ok (.lload 5, 2) := by decide +kernel
theorem dX8_lowest_46 : decode cX8_lowest 46 = .ok (.ldiv, 1) := by decide +kernel
theorem dX8_lowest_47 : decode cX8_lowest 47 = .ok (.lreturn, 1) := by decide +kernel
theorem dX8_isText_0 : decode cX8_isText 0 = .ok (.iload_n 0, 1) := by decide +kernel
theorem dX8_isText_1 : decode cX8_isText 1 = .ok (.iconst 0, 1) := by decide +kernel
theorem dX8_isText_2 : decode cX8_isText 2 = .ok (.iconst 1, 1) := by decide +kernel
theorem dX8_isText_3 : decode cX8_isText 3 = .ok (.invokestatic 94, 3) := by decide +kernel
theorem dX8_isText_6 : decode cX8_isText 6 = .ok (.ireturn, 1) := by decide +kernel
theorem dX8_roomOf_0 : decode cX8_roomOf 0 = .ok (.iload_n 0, 1) := by decide +kernel
theorem dX8_roomOf_1 : decode cX8_roomOf 1 = .ok (.ifCond .ne 8, 3) := by decide +kernel
theorem dX8_roomOf_4 : decode cX8_roomOf 4 = .ok (.bipush 35, 2) := by decide +kernel
theorem dX8_roomOf_6 : decode cX8_roomOf 6 = .ok (.goto 5, 3) := by decide +kernel
theorem dX8_roomOf_9 : decode cX8_roomOf 9 = .ok (.bipush 23, 2) := by decide +kernel
theorem dX8_roomOf_11 : decode cX8_roomOf 11 = .ok (.ireturn, 1) := by decide +kernel
theorem dX8_type_0 : decode cX8_type 0 = .ok (.iload_n 1, 1) := by decide +kernel
theorem dX8_type_1 : decode cX8_type 1 = .ok (.invokestatic 98, 3) := by decide +kernel
theorem dX8_type_4 : decode cX8_type 4 = .ok (.ifCond .eq 14, 3) := by decide +kernel
theorem dX8_type_7 : decode cX8_type 7 = .ok (.iload_n 2, 1) := by decide +kernel
theorem dX8_type_8 : decode cX8_type 8 = .ok (.iconst 0, 1) := by decide +kernel
theorem dX8_type_9 : decode cX8_type 9 = .ok (.sipush 255, 3) := by decide +kernel
theorem dX8_type_12 : decode cX8_type 12 = .ok (.invokestatic 94, 3) := by decide +kernel
theorem dX8_type_15 : decode cX8_type 15 = .ok (.ifCond .ne 6, 3) := by decide +kernel
theorem dX8_type_18 : decode cX8_type 18 = .ok (.bipush (-2), 2) := by decide +kernel
theorem dX8_type_20 : decode cX8_type 20 = .ok (.ireturn, 1) := by decide +kernel
theorem dX8_type_21 : decode cX8_type 21 = .ok (.aload_n 0, 1) := by decide +kernel
theorem dX8_type_22 : decode cX8_type 22 = .ok (.getfield 7, 3) := by decide +kernel
theorem dX8_type_25 : decode cX8_type 25 = .ok (.iload_n 1, 1) := by decide +kernel
theorem dX8_type_26 : decode cX8_type 26 = .ok (.iaload, 1) := by decide +kernel
theorem dX8_type_27 : decode cX8_type 27 = .ok (.iload_n 1, 1) := by decide +kernel
theorem dX8_type_28 : decode cX8_type 28 = .ok (.invokestatic 102, 3) := by decide +kernel
theorem dX8_type_31 : decode cX8_type 31 = .ok (.if_icmp .ne 6, 3) := by decide +kernel
theorem dX8_type_34 : decode cX8_type 34 = .ok (.bipush (-4), 2) := by decide +kernel
theorem dX8_type_36 : decode cX8_type 36 = .ok (.ireturn, 1) := by decide +kernel
theorem dX8_type_37 : decode cX8_type 37 = .ok (.aload_n 0, 1) := by decide +kernel
theorem dX8_type_38 : decode cX8_type 38 = .ok (.getfield 13, 3) := by decide +kernel
theorem dX8_type_41 : decode cX8_type 41 = .ok (.bipush 35, 2) := by decide +kernel
theorem dX8_type_43 : decode cX8_type 43 = .ok (.iload_n 1, 1) := by decide +kernel
theorem dX8_type_44 : decode cX8_type 44 = .ok (.imul, 1) := by decide +kernel
theorem dX8_type_45 : decode cX8_type 45 = .ok (.aload_n 0, 1) := by decide +kernel
theorem dX8_type_46 : decode cX8_type 46 = .ok (.getfield 7, 3) := by decide +kernel
theorem dX8_type_49 : decode cX8_type 49 = .ok (.iload_n 1, 1) := by decide +kernel
theorem dX8_type_50 : decode cX8_type 50 = .ok (.iaload, 1) := by decide +kernel
theorem dX8_type_51 : decode cX8_type 51 = .ok (.iadd, 1) := by decide +kernel
theorem dX8_type_52 : decode cX8_type 52 = .ok (.iload_n 2, 1) := by decide +kernel
theorem dX8_type_53 : decode cX8_type 53 = .ok (.iastore, 1) := by decide +kernel
theorem dX8_type_54 : decode cX8_type 54 = .ok (.aload_n 0, 1) := by decide +kernel
theorem dX8_type_55 : decode cX8_type 55 = .ok (.getfield 7, 3) := by decide +kernel
theorem dX8_type_58 : decode cX8_type 58 = .ok (.iload_n 1, 1) := by decide +kernel
theorem dX8_type_59 : decode cX8_type 59 = .ok (.dup2, 1) := by decide +kernel
theorem dX8_type_60 : decode cX8_type 60 = .ok (.iaload, 1) := by decide +kernel
theorem dX8_type_61 : decode cX8_type 61 = .ok (.iconst 1, 1) := by decide +kernel
theorem dX8_type_62 : decode cX8_type 62 = .ok (.iadd, 1) := by decide +kernel
theorem dX8_type_63 : decode cX8_type 63 = .ok (.iastore, 1) := by decide +kernel
theorem dX8_type_64 : decode cX8_type 64 = .ok (.aload_n 0, 1) := by decide +kernel
theorem dX8_type_65 : decode cX8_type 65 = .ok (.getfield 7, 3) := by decide +kernel
theorem dX8_type_68 : decode cX8_type 68 = .ok (.iload_n 1, 1) := by decide +kernel
theorem dX8_type_69 : decode cX8_type 69 = .ok (.iaload, 1) := by decide +kernel
theorem dX8_type_70 : decode cX8_type 70 = .ok (.ireturn, 1) := by decide +kernel
theorem dX8_wipe_0 : decode cX8_wipe 0 = .ok (.iload_n 1, 1) := by decide +kernel
theorem dX8_wipe_1 : decode cX8_wipe 1 = .ok (.invokestatic 98, 3) := by decide +kernel
theorem dX8_wipe_4 : decode cX8_wipe 4 = .ok (.ifCond .ne 6, 3) := by decide +kernel
theorem dX8_wipe_7 : decode cX8_wipe 7 = .ok (.bipush (-2), 2) := by decide +kernel
theorem dX8_wipe_9 : decode cX8_wipe 9 = .ok (.ireturn, 1) := by decide +kernel
theorem dX8_wipe_10 : decode cX8_wipe 10 = .ok (.aload_n 0, 1) := by decide +kernel
theorem dX8_wipe_11 : decode cX8_wipe 11 = .ok (.getfield 7, 3) := by decide +kernel
theorem dX8_wipe_14 : decode cX8_wipe 14 = .ok (.iload_n 1, 1) := by decide +kernel
theorem dX8_wipe_15 : decode cX8_wipe 15 = .ok (.iaload, 1) := by decide +kernel
theorem dX8_wipe_16 : decode cX8_wipe 16 = .ok (.istore_n 2, 1) := by decide +kernel
theorem dX8_wipe_17 : decode cX8_wipe 17 = .ok (.aload_n 0, 1) := by decide +kernel
theorem dX8_wipe_18 : decode cX8_wipe 18 = .ok (.getfield 7, 3) := by decide +kernel
theorem dX8_wipe_21 : decode cX8_wipe 21 = .ok (.iload_n 1, 1) := by decide +kernel
theorem dX8_wipe_22 : decode cX8_wipe 22 = .ok (.iconst 0, 1) := by decide +kernel
theorem dX8_wipe_23 : decode cX8_wipe 23 = .ok (.iastore, 1) := by decide +kernel
theorem dX8_wipe_24 : decode cX8_wipe 24 = .ok (.iload_n 2, 1) := by decide +kernel
theorem dX8_wipe_25 : decode cX8_wipe 25 = .ok (.ireturn, 1) := by decide +kernel
theorem dX8_undo_0 : decode cX8_undo 0 = .ok (.iload_n 1, 1) := by decide +kernel
theorem dX8_undo_1 : decode cX8_undo 1 = .ok (.invokestatic 98, 3) := by decide +kernel
theorem dX8_undo_4 : decode cX8_undo 4 = .ok (.ifCond .ne 6, 3) := by decide +kernel
theorem dX8_undo_7 : decode cX8_undo 7 = .ok (.bipush (-2), 2) := by decide +kernel
theorem dX8_undo_9 : decode cX8_undo 9 = .ok (.ireturn, 1) := by decide +kernel
theorem dX8_undo_10 : decode cX8_undo 10 = .ok (.aload_n 0, 1) := by decide +kernel
theorem dX8_undo_11 : decode cX8_undo 11 = .ok (.getfield 7, 3) := by decide +kernel
theorem dX8_undo_14 : decode cX8_undo 14 = .ok (.iload_n 1, 1) := by decide +kernel
theorem dX8_undo_15 : decode cX8_undo 15 = .ok (.iaload, 1) := by decide +kernel
theorem dX8_undo_16 : decode cX8_undo 16 = .ok (.ifCond .ne 6, 3) := by decide +kernel
theorem dX8_undo_19 : decode cX8_undo 19 = .ok (.bipush (-3), 2) := by decide +kernel
theorem dX8_undo_21 : decode cX8_undo 21 = .ok (.ireturn, 1) := by decide +kernel
theorem dX8_undo_22 : decode cX8_undo 22 = .ok (.aload_n 0, 1) := by decide +kernel
theorem dX8_undo_23 : decode cX8_undo 23 = .ok (.getfield 7, 3) := by decide +kernel
theorem dX8_undo_26 : decode cX8_undo 26 = .ok (.iload_n 1, 1) := by decide +kernel
theorem dX8_undo_27 : decode cX8_undo 27 = .ok (.dup2, 1) := by decide +kernel
theorem dX8_undo_28 : decode cX8_undo 28 = .ok (.iaload, 1) := by decide +kernel
theorem dX8_undo_29 : decode cX8_undo 29 = .ok (.iconst 1, 1) := by decide +kernel
theorem dX8_undo_30 : decode cX8_undo 30 = .ok (.isub, 1) := by decide +kernel
theorem dX8_undo_31 : decode cX8_undo 31 = .ok (.iastore, 1) := by decide +kernel
theorem dX8_undo_32 : decode cX8_undo 32 = .ok (.aload_n 0, 1) := by decide +kernel
theorem dX8_undo_33 : decode cX8_undo 33 = .ok (.getfield 7, 3) := by decide +kernel
theorem dX8_undo_36 : decode cX8_undo 36 = .ok (.iload_n 1, 1) := by decide +kernel
theorem dX8_undo_37 : decode cX8_undo 37 = .ok (.iaload, 1) := by decide +kernel
theorem dX8_undo_38 : decode cX8_undo 38 = .ok (.ireturn, 1) := by decide +kernel
theorem dX8_byteAt_0 : decode cX8_byteAt 0 = .ok (.iload_n 2, 1) := by decide +kernel
theorem dX8_byteAt_1 : decode cX8_byteAt 1 = .ok (.aload_n 0, 1) := by decide +kernel
theorem dX8_byteAt_2 : decode cX8_byteAt 2 = .ok (.getfield 7, 3) := by decide +kernel
theorem dX8_byteAt_5 : decode cX8_byteAt 5 = .ok (.iload_n 1, 1) := by decide +kernel
theorem dX8_byteAt_6 : decode cX8_byteAt 6 = .ok (.iaload, 1) := by decide +kernel
theorem dX8_byteAt_7 : decode cX8_byteAt 7 = .ok (.if_icmp .ge 17, 3) := by decide +kernel
theorem dX8_byteAt_10 : decode cX8_byteAt 10 = .ok (.aload_n 0, 1) := by decide +kernel
theorem dX8_byteAt_11 : decode cX8_byteAt 11 = .ok (.getfield 13, 3) := by decide +kernel
theorem dX8_byteAt_14 : decode cX8_byteAt 14 = .ok (.bipush 35, 2) := by decide +kernel
theorem dX8_byteAt_16 : decode cX8_byteAt 16 = .ok (.iload_n 1, 1) := by decide +kernel
theorem dX8_byteAt_17 : decode cX8_byteAt 17 = .ok (.imul, 1) := by decide +kernel
theorem dX8_byteAt_18 : decode cX8_byteAt 18 = .ok (.iload_n 2, 1) := by decide +kernel
theorem dX8_byteAt_19 : decode cX8_byteAt 19 = .ok (.iadd, 1) := by decide +kernel
theorem dX8_byteAt_20 : decode cX8_byteAt 20 = .ok (.iaload, 1) := by decide +kernel
theorem dX8_byteAt_21 : decode cX8_byteAt 21 = .ok (.goto 4, 3) := by decide +kernel
theorem dX8_byteAt_24 : decode cX8_byteAt 24 = .ok (.iconst (-1), 1) := by decide +kernel
theorem dX8_byteAt_25 : decode cX8_byteAt 25 = .ok (.ireturn, 1) := by decide +kernel
theorem dX8_figureAt_0 : decode cX8_figureAt 0 = .ok (.aload_n 0, 1) := by decide +kernel
theorem dX8_figureAt_1 : decode cX8_figureAt 1 = .ok (.iload_n 1, 1) := by decide +kernel
theorem dX8_figureAt_2 : decode cX8_figureAt 2 = .ok (.iload_n 2, 1) := by decide +kernel
theorem dX8_figureAt_3 : decode cX8_figureAt 3 = .ok (.invokevirtual 105, 3) := by decide +kernel
theorem dX8_figureAt_6 : decode cX8_figureAt 6 = .ok (.bipush 48, 2) := by decide +kernel
theorem dX8_figureAt_8 : decode cX8_figureAt 8 = .ok (.isub, 1) := by decide +kernel
theorem dX8_figureAt_9 : decode cX8_figureAt 9 = .ok (.istore_n 3, 1) := by decide +kernel
theorem dX8_figureAt_10 : decode cX8_figureAt 10 = .ok (.iload_n 3, 1) := by decide +kernel
theorem dX8_figureAt_11 : decode cX8_figureAt 11 = .ok (.iconst 0, 1) := by decide +kernel
theorem dX8_figureAt_12 : decode cX8_figureAt 12 = .ok (.bipush 9, 2) := by decide +kernel
theorem dX8_figureAt_14 : decode cX8_figureAt 14 = .ok (.invokestatic 94, 3) := by decide +kernel
theorem dX8_figureAt_17 : decode cX8_figureAt 17 = .ok (.ifCond .eq 7, 3) := by decide +kernel
theorem dX8_figureAt_20 : decode cX8_figureAt 20 = .ok (.iload_n 3, 1) := by decide +kernel
theorem dX8_figureAt_21 : decode cX8_figureAt 21 = .ok (.goto 4, 3) := by decide +kernel
theorem dX8_figureAt_24 : decode cX8_figureAt 24 = .ok (.iconst (-1), 1) := by decide +kernel
theorem dX8_figureAt_25 : decode cX8_figureAt 25 = .ok (.ireturn, 1) := by decide +kernel
theorem dX8_readsOne_0 : decode cX8_readsOne 0 = .ok (.aload_n 0, 1) := by decide +kernel
theorem dX8_readsOne_1 : decode cX8_readsOne 1 = .ok (.iload_n 1, 1) := by decide +kernel
theorem dX8_readsOne_2 : decode cX8_readsOne 2 = .ok (.iload_n 3, 1) := by decide +kernel
theorem dX8_readsOne_3 : decode cX8_readsOne 3 = .ok (.iconst 1, 1) := by decide +kernel
theorem dX8_readsOne_4 : decode cX8_readsOne 4 = .ok (.iadd, 1) := by decide +kernel
theorem dX8_readsOne_5 : decode cX8_readsOne 5 = .ok (.invokevirtual 105, 3) := by decide +kernel
theorem dX8_readsOne_8 : decode cX8_readsOne 8 = .ok (.istore 4, 2) := by decide +kernel
theorem dX8_readsOne_10 : decode cX8_readsOne 10 = .ok (.aload_n 0, 1) := by decide +kernel
theorem dX8_readsOne_11 : decode cX8_readsOne 11 = .ok (.iload_n 1, 1) := by decide +kernel
theorem dX8_readsOne_12 : decode cX8_readsOne 12 = .ok (.iload_n 3, 1) := by decide +kernel
theorem dX8_readsOne_13 : decode cX8_readsOne 13 = .ok (.iconst 2, 1) := by decide +kernel
theorem dX8_readsOne_14 : decode cX8_readsOne 14 = .ok (.iadd, 1) := by decide +kernel
theorem dX8_readsOne_15 : decode cX8_readsOne 15 = .ok (.invokevirtual 105, 3) := by decide +kernel
theorem dX8_readsOne_18 : decode cX8_readsOne 18 = .ok (.istore 5, 2) := by decide +kernel
theorem dX8_readsOne_20 : decode cX8_readsOne 20 = .ok (.iload 4, 2) := by decide +kernel
theorem dX8_readsOne_22 : decode cX8_readsOne 22 = .ok (.bipush 111, 2) := by decide +kernel
theorem dX8_readsOne_24 : decode cX8_readsOne 24 = .ok (.if_icmp .ne 7, 3) := by decide +kernel
theorem dX8_readsOne_27 : decode cX8_readsOne 27 = .ok (.iconst 0, 1) := by decide +kernel
theorem dX8_readsOne_28 : decode cX8_readsOne 28 = .ok (.goto 26, 3) := by decide +kernel
theorem dX8_readsOne_31 : decode cX8_readsOne 31 = .ok (.iload 4, 2) := by decide +kernel
theorem dX8_readsOne_33 : decode cX8_readsOne 33 = .ok (.bipush 98, 2) := by decide +kernel
theorem dX8_readsOne_35 : decode cX8_readsOne 35 = .ok (.if_icmp .ne 7, 3) := by decide +kernel
theorem dX8_readsOne_38 : decode cX8_readsOne 38 = .ok (.iconst 1, 1) := by decide +kernel
theorem dX8_readsOne_39 : decode cX8_readsOne 39 = .ok (.goto 15, 3) := by decide +kernel
theorem dX8_readsOne_42 : decode cX8_readsOne 42 = .ok (.iload 4, 2) := by decide +kernel
theorem dX8_readsOne_44 : decode cX8_readsOne 44 = .ok (.bipush 112, 2) := by decide +kernel
theorem dX8_readsOne_46 : decode cX8_readsOne 46 = .ok (.if_icmp .ne 7, 3) := by decide +kernel
theorem dX8_readsOne_49 : decode cX8_readsOne 49 = .ok (.iconst 2, 1) := by decide +kernel
theorem dX8_readsOne_50 : decode cX8_readsOne 50 = .ok (.goto 4, 3) := by decide +kernel
theorem dX8_readsOne_53 : decode cX8_readsOne 53 = .ok (.iconst (-1), 1) := by decide +kernel
theorem dX8_readsOne_54 : decode cX8_readsOne 54 = .ok (.istore 6, 2) := by decide +kernel
theorem dX8_readsOne_56 : decode cX8_readsOne 56 = .ok (.aload_n 0, 1) := by decide +kernel
theorem dX8_readsOne_57 : decode cX8_readsOne 57 = .ok (.iload_n 1, 1) := by decide +kernel
theorem dX8_readsOne_58 : decode cX8_readsOne 58 = .ok (.iload_n 3, 1) := by decide +kernel
theorem dX8_readsOne_59 : decode cX8_readsOne 59 = .ok (.invokevirtual 109, 3) := by decide +kernel
theorem dX8_readsOne_62 : decode cX8_readsOne 62 = .ok (.iconst (-1), 1) := by decide +kernel
theorem dX8_readsOne_63 : decode cX8_readsOne 63 = .ok (.if_icmp .ne 5, 3) := by decide +kernel
theorem dX8_readsOne_66 : decode cX8_readsOne 66 = .ok (.iconst 0, 1) := by decide +kernel
theorem dX8_readsOne_67 : decode cX8_readsOne 67 = .ok (.ireturn, 1) := by decide +kernel
theorem dX8_readsOne_68 : decode cX8_readsOne 68 = .ok (.iload_n 1, 1) := by decide +kernel
theorem dX8_readsOne_69 : decode cX8_readsOne 69 = .ok (.ifCond .ne 12, 3) := by decide +kernel
theorem dX8_readsOne_72 : decode cX8_readsOne 72 = .ok (.iload 6, 2) := by decide +kernel
theorem dX8_readsOne_74 : decode cX8_readsOne 74 = .ok (.iconst (-1), 1) := by decide +kernel
theorem dX8_readsOne_75 : decode cX8_readsOne 75 = .ok (.if_icmp .ne 20, 3) := by decide +kernel
theorem dX8_readsOne_78 : decode cX8_readsOne 78 = .ok (.goto 15, 3) := by decide +kernel
theorem dX8_readsOne_81 : decode cX8_readsOne 81 = .ok (.aload_n 0, 1) := by decide +kernel
theorem dX8_readsOne_82 : decode cX8_readsOne 82 = .ok (.iconst 1, 1) := by decide +kernel
theorem dX8_readsOne_83 : decode cX8_readsOne 83 = .ok (.iload_n 3, 1) := by decide +kernel
theorem dX8_readsOne_84 : decode cX8_readsOne 84 = .ok (.iconst 1, 1) := by decide +kernel
theorem dX8_readsOne_85 : decode cX8_readsOne 85 = .ok (.iadd, 1) := by decide +kernel
theorem dX8_readsOne_86 : decode cX8_readsOne 86 = .ok (.invokevirtual 109, 3) := by decide +kernel
theorem dX8_readsOne_89 : decode cX8_readsOne 89 = .ok (.iconst (-1), 1) := by decide +kernel
theorem dX8_readsOne_90 : decode cX8_readsOne 90 = .ok (.if_icmp .ne 5, 3) := by decide +kernel
theorem dX8_readsOne_93 : decode cX8_readsOne 93 = .ok (.iconst 1, 1) := by decide +kernel
theorem dX8_readsOne_94 : decode cX8_readsOne 94 = .ok (.ireturn, 1) := by decide +kernel
theorem dX8_readsOne_95 : decode cX8_readsOne 95 = .ok (.iload_n 1, 1) := by decide +kernel
theorem dX8_readsOne_96 : decode cX8_readsOne 96 = .ok (.ifCond .ne 25, 3) := by decide +kernel
theorem dX8_readsOne_99 : decode cX8_readsOne 99 = .ok (.iload 5, 2) := by decide +kernel
theorem dX8_readsOne_101 : decode cX8_readsOne 101 = .ok (.bipush 46, 2) := by decide +kernel
theorem dX8_readsOne_103 : decode cX8_readsOne 103 = .ok (.if_icmp .eq 32, 3) := by decide +kernel
theorem dX8_readsOne_106 : decode cX8_readsOne 106 = .ok (.iload 5, 2) := by decide +kernel
theorem dX8_readsOne_108 : decode cX8_readsOne 108 = .ok (.bipush 48, 2) := by decide +kernel
theorem dX8_readsOne_110 : decode cX8_readsOne 110 = .ok (.bipush 56, 2) := by decide +kernel
theorem dX8_readsOne_112 : decode cX8_readsOne 112 = .ok (.invokestatic 94, 3) := by decide +kernel
theorem dX8_readsOne_115 : decode cX8_readsOne 115 = .ok (.ifCond .ne 20, 3) := by decide +kernel
theorem dX8_readsOne_118 : decode cX8_readsOne 118 = .ok (.goto 15, 3) := by decide +kernel
theorem dX8_readsOne_121 : decode cX8_readsOne 121 = .ok (.aload_n 0, 1) := by decide +kernel
theorem dX8_readsOne_122 : decode cX8_readsOne 122 = .ok (.iconst 1, 1) := by decide +kernel
theorem dX8_readsOne_123 : decode cX8_readsOne 123 = .ok (.iload_n 3, 1) := by decide +kernel
theorem dX8_readsOne_124 : decode cX8_readsOne 124 = .ok (.iconst 2, 1) := by decide +kernel
theorem dX8_readsOne_125 : decode cX8_readsOne 125 = .ok (.iadd, 1) := by decide +kernel
theorem dX8_readsOne_126 : decode cX8_readsOne 126 = .ok (.invokevirtual 109, 3) := by decide +kernel
theorem dX8_readsOne_129 : decode cX8_readsOne 129 = .ok (.iconst (-1), 1) := by decide +kernel
theorem dX8_readsOne_130 : decode cX8_readsOne 130 = .ok (.if_icmp .ne 5, 3) := by decide +kernel
theorem dX8_readsOne_133 : decode cX8_readsOne 133 = .ok (.iconst 2, 1) := by decide +kernel
theorem dX8_readsOne_134 : decode cX8_readsOne 134 = .ok (.ireturn, 1) := by decide +kernel
theorem dX8_readsOne_135 : decode cX8_readsOne 135 = .ok (.iload_n 1, 1) := by decide +kernel
theorem dX8_readsOne_136 : decode cX8_readsOne 136 = .ok (.ifCond .ne 48, 3) := by decide +kernel
theorem dX8_readsOne_139 : decode cX8_readsOne 139 = .ok (.aload_n 0, 1) := by decide +kernel
theorem dX8_readsOne_140 : decode cX8_readsOne 140 = .ok (.getfield 16, 3) := by decide +kernel
theorem dX8_readsOne_143 : decode cX8_readsOne 143 = .ok (.iload_n 2, 1) := by decide +kernel
theorem dX8_readsOne_144 : decode cX8_readsOne 144 = .ok (.aload_n 0, 1) := by decide +kernel
theorem dX8_readsOne_145 : decode cX8_readsOne 145 = .ok (.iconst 0, 1) := by decide +kernel
theorem dX8_readsOne_146 : decode cX8_readsOne 146 = .ok (.iload_n 3, 1) := by decide +kernel
theorem dX8_readsOne_147 : decode cX8_readsOne 147 = .ok (.invokevirtual 109, 3) := by decide +kernel
theorem dX8_readsOne_150 : decode cX8_readsOne 150 = .ok (.iastore, 1) := by decide +kernel
theorem dX8_readsOne_151 : decode cX8_readsOne 151 = .ok (.aload_n 0, 1) := by decide +kernel
theorem dX8_readsOne_152 : decode cX8_readsOne 152 = .ok (.getfield 19, 3) := by decide +kernel
theorem dX8_readsOne_155 : decode cX8_readsOne 155 = .ok (.iload_n 2, 1) := by decide +kernel
theorem dX8_readsOne_156 : decode cX8_readsOne 156 = .ok (.iload 6, 2) := by decide +kernel
theorem dX8_readsOne_158 : decode cX8_readsOne 158 = .ok (.iastore, 1) := by decide +kernel
theorem dX8_readsOne_159 : decode cX8_readsOne 159 = .ok (.aload_n 0, 1) := by decide +kernel
theorem dX8_readsOne_160 : decode cX8_readsOne 160 = .ok (.getfield 22, 3) := by decide +kernel
theorem dX8_readsOne_163 : decode cX8_readsOne 163 = .ok (.iload_n 2, 1) := by decide +kernel
theorem dX8_readsOne_164 : decode cX8_readsOne 164 = .ok (.iload 5, 2) := by decide +kernel
theorem dX8_readsOne_166 : decode cX8_readsOne 166 = .ok (.bipush 46, 2) := by decide +kernel
theorem dX8_readsOne_168 : decode cX8_readsOne 168 = .ok (.if_icmp .ne 7, 3) := by decide +kernel
theorem dX8_readsOne_171 : decode cX8_readsOne 171 = .ok (.iconst (-1), 1) := by decide +kernel
theorem dX8_readsOne_172 : decode cX8_readsOne 172 = .ok (.goto 8, 3) := by decide +kernel
theorem dX8_readsOne_175 : decode cX8_readsOne 175 = .ok (.iload 5, 2) := by decide +kernel
theorem dX8_readsOne_177 : decode cX8_readsOne 177 = .ok (.bipush 48, 2) := by decide +kernel
theorem dX8_readsOne_179 : decode cX8_readsOne 179 = .ok (.isub, 1) := by decide +kernel
theorem dX8_readsOne_180 : decode cX8_readsOne 180 = .ok (.iastore, 1) := by decide +kernel
theorem dX8_readsOne_181 : decode cX8_readsOne 181 = .ok (.goto 41, 3) := by decide +kernel
theorem dX8_readsOne_184 : decode cX8_readsOne 184 = .ok (.aload_n 0, 1) := by decide +kernel
theorem dX8_readsOne_185 : decode cX8_readsOne 185 = .ok (.getfield 25, 3) := by decide +kernel
theorem dX8_readsOne_188 : decode cX8_readsOne 188 = .ok (.iload_n 2, 1) := by decide +kernel
theorem dX8_readsOne_189 : decode cX8_readsOne 189 = .ok (.bipush 10, 2) := by decide +kernel
theorem dX8_readsOne_191 : decode cX8_readsOne 191 = .ok (.aload_n 0, 1) := by decide +kernel
theorem dX8_readsOne_192 : decode cX8_readsOne 192 = .ok (.iconst 1, 1) := by decide +kernel
theorem dX8_readsOne_193 : decode cX8_readsOne 193 = .ok (.iload_n 3, 1) := by decide +kernel
theorem dX8_readsOne_194 : decode cX8_readsOne 194 = .ok (.invokevirtual 109, 3) := by decide +kernel
theorem dX8_readsOne_197 : decode cX8_readsOne 197 = .ok (.imul, 1) := by decide +kernel
theorem dX8_readsOne_198 : decode cX8_readsOne 198 = .ok (.aload_n 0, 1) := by decide +kernel
theorem dX8_readsOne_199 : decode cX8_readsOne 199 = .ok (.iconst 1, 1) := by decide +kernel
theorem dX8_readsOne_200 : decode cX8_readsOne 200 = .ok (.iload_n 3, 1) := by decide +kernel
theorem dX8_readsOne_201 : decode cX8_readsOne 201 = .ok (.iconst 1, 1) := by decide +kernel
theorem dX8_readsOne_202 : decode cX8_readsOne 202 = .ok (.iadd, 1) := by decide +kernel
theorem dX8_readsOne_203 : decode cX8_readsOne 203 = .ok (.invokevirtual 109, 3) := by decide +kernel
theorem dX8_readsOne_206 : decode cX8_readsOne 206 = .ok (.iadd, 1) := by decide +kernel
theorem dX8_readsOne_207 : decode cX8_readsOne 207 = .ok (.iastore, 1) := by decide +kernel
theorem dX8_readsOne_208 : decode cX8_readsOne 208 = .ok (.aload_n 0, 1) := by decide +kernel
theorem dX8_readsOne_209 : decode cX8_readsOne 209 = .ok (.getfield 28, 3) := by decide +kernel
theorem dX8_readsOne_212 : decode cX8_readsOne 212 = .ok (.iload_n 2, 1) := by decide +kernel
theorem dX8_readsOne_213 : decode cX8_readsOne 213 = .ok (.aload_n 0, 1) := by decide +kernel
theorem dX8_readsOne_214 : decode cX8_readsOne 214 = .ok (.iconst 1, 1) := by decide +kernel
theorem dX8_readsOne_215 : decode cX8_readsOne 215 = .ok (.iload_n 3, 1) := by decide +kernel
theorem dX8_readsOne_216 : decode cX8_readsOne 216 = .ok (.iconst 2, 1) := by decide +kernel
theorem dX8_readsOne_217 : decode cX8_readsOne 217 = .ok (.iadd, 1) := by decide +kernel
theorem dX8_readsOne_218 : decode cX8_readsOne 218 = .ok (.invokevirtual 109, 3) := by decide +kernel
theorem dX8_readsOne_221 : decode cX8_readsOne 221 = .ok (.iastore, 1) := by decide +kernel
theorem dX8_readsOne_222 : decode cX8_readsOne 222 = .ok (.iconst 3, 1) := by decide +kernel
theorem dX8_readsOne_223 : decode cX8_readsOne 223 = .ok (.ireturn, 1) := by decide +kernel
theorem dX8_readsText_0 : decode cX8_readsText 0 = .ok (.iload_n 1, 1) := by decide +kernel
theorem dX8_readsText_1 : decode cX8_readsText 1 = .ok (.ifCond .ne 8, 3) := by decide +kernel
theorem dX8_readsText_4 : decode cX8_readsText 4 = .ok (.bipush 9, 2) := by decide +kernel
theorem dX8_readsText_6 : decode cX8_readsText 6 = .ok (.goto 5, 3) := by decide +kernel
theorem dX8_readsText_9 : decode cX8_readsText 9 = .ok (.bipush 6, 2) := by decide +kernel
theorem dX8_readsText_11 : decode cX8_readsText 11 = .ok (.istore_n 2, 1) := by decide +kernel
theorem dX8_readsText_12 : decode cX8_readsText 12 = .ok (.iconst 0, 1) := by decide +kernel
theorem dX8_readsText_13 : decode cX8_readsText 13 = .ok (.istore_n 3, 1) := by decide +kernel
theorem dX8_readsText_14 : decode cX8_readsText 14 = .ok (.iconst 0, 1) := by decide +kernel
theorem dX8_readsText_15 : decode cX8_readsText 15 = .ok (.istore 4, 2) := by decide +kernel
theorem dX8_readsText_17 : decode cX8_readsText 17 = .ok (.aload_n 0, 1) := by decide +kernel
theorem dX8_readsText_18 : decode cX8_readsText 18 = .ok (.iload_n 1, 1) := by decide +kernel
theorem dX8_readsText_19 : decode cX8_readsText 19 = .ok (.ifCond .ne 7, 3) := by decide +kernel
theorem dX8_readsText_22 : decode cX8_readsText 22 = .ok (.iconst 0, 1) := by decide +kernel
theorem dX8_readsText_23 : decode cX8_readsText 23 = .ok (.goto 7, 3) := by decide +kernel
theorem dX8_readsText_26 : decode cX8_readsText 26 = .ok (.aload_n 0, 1) := by decide +kernel
theorem dX8_readsText_27 : decode cX8_readsText 27 = .ok (.getfield 112, 3) := by decide +kernel
theorem dX8_readsText_30 : decode cX8_readsText 30 = .ok (.putfield 112, 3) := by decide +kernel
theorem dX8_readsText_33 : decode cX8_readsText 33 = .ok (.aload_n 0, 1) := by decide +kernel
theorem dX8_readsText_34 : decode cX8_readsText 34 = .ok (.iload_n 1, 1) := by decide +kernel
theorem dX8_readsText_35 : decode cX8_readsText 35 = .ok (.iconst 1, 1) := by decide +kernel
theorem dX8_readsText_36 : decode cX8_readsText 36 = .ok (.if_icmp .ne 7, 3) := by decide +kernel
theorem dX8_readsText_39 : decode cX8_readsText 39 = .ok (.iconst 0, 1) := by decide +kernel
theorem dX8_readsText_40 : decode cX8_readsText 40 = .ok (.goto 7, 3) := by decide +kernel
theorem dX8_readsText_43 : decode cX8_readsText 43 = .ok (.aload_n 0, 1) := by decide +kernel
theorem dX8_readsText_44 : decode cX8_readsText 44 = .ok (.getfield 115, 3) := by decide +kernel
theorem dX8_readsText_47 : decode cX8_readsText 47 = .ok (.putfield 115, 3) := by decide +kernel
theorem dX8_readsText_50 : decode cX8_readsText 50 = .ok (.iload 4, 2) := by decide +kernel
theorem dX8_readsText_52 : decode cX8_readsText 52 = .ok (.aload_n 0, 1) := by decide +kernel
theorem dX8_readsText_53 : decode cX8_readsText 53 = .ok (.getfield 7, 3) := by decide +kernel
theorem dX8_readsText_56 : decode cX8_readsText 56 = .ok (.iload_n 1, 1) := by decide +kernel
theorem dX8_readsText_57 : decode cX8_readsText 57 = .ok (.iaload, 1) := by decide +kernel
theorem dX8_readsText_58 : decode cX8_readsText 58 = .ok (.if_icmp .lt 8, 3) := by decide +kernel
theorem dX8_readsText_61 : decode cX8_readsText 61 = .ok (.iload 4, 2) := by decide +kernel
theorem dX8_readsText_63 : decode cX8_readsText 63 = .ok (.ifCond .le 107, 3) := by decide +kernel
theorem dX8_readsText_66 : decode cX8_readsText 66 = .ok (.iload_n 3, 1) := by decide +kernel
theorem dX8_readsText_67 : decode cX8_readsText 67 = .ok (.iload_n 2, 1) := by decide +kernel
theorem dX8_readsText_68 : decode cX8_readsText 68 = .ok (.if_icmp .ne 7, 3) := by decide +kernel
theorem dX8_readsText_71 : decode cX8_readsText 71 = .ok (.iconst 0, 1) := by decide +kernel
theorem dX8_readsText_72 : decode cX8_readsText 72 = .ok (.goto 11, 3) := by decide +kernel
theorem dX8_readsText_75 : decode cX8_readsText 75 = .ok (.aload_n 0, 1) := by decide +kernel
theorem dX8_readsText_76 : decode cX8_readsText 76 = .ok (.iload_n 1, 1) := by decide +kernel
theorem dX8_readsText_77 : decode cX8_readsText 77 = .ok (.iload_n 3, 1) := by decide +kernel
theorem dX8_readsText_78 : decode cX8_readsText 78 = .ok (.iload 4, 2) := by decide +kernel
theorem dX8_readsText_80 : decode cX8_readsText 80 = .ok (.invokevirtual 118, 3) := by decide +kernel
theorem dX8_readsText_83 : decode cX8_readsText 83 = .ok (.istore 5, 2) := by decide +kernel
theorem dX8_readsText_85 : decode cX8_readsText 85 = .ok (.iload 5, 2) := by decide +kernel
theorem dX8_readsText_87 : decode cX8_readsText 87 = .ok (.iconst 3, 1) := by decide +kernel
theorem dX8_readsText_88 : decode cX8_readsText 88 = .ok (.if_icmp .ge 9, 3) := by decide +kernel
theorem dX8_readsText_91 : decode cX8_readsText 91 = .ok (.iload 4, 2) := by decide +kernel
theorem dX8_readsText_93 : decode cX8_readsText 93 = .ok (.iload 5, 2) := by decide +kernel
theorem dX8_readsText_95 : decode cX8_readsText 95 = .ok (.iadd, 1) := by decide +kernel
theorem dX8_readsText_96 : decode cX8_readsText 96 = .ok (.ireturn, 1) := by decide +kernel
theorem dX8_readsText_97 : decode cX8_readsText 97 = .ok (.iinc 3 1, 3) := by decide +kernel
theorem dX8_readsText_100 : decode cX8_readsText 100 = .ok (.iinc 4 3, 3) := by decide +kernel
theorem dX8_readsText_103 : decode cX8_readsText 103 = .ok (.iload 4, 2) := by decide +kernel
theorem dX8_readsText_105 : decode cX8_readsText 105 = .ok (.aload_n 0, 1) := by decide +kernel
theorem dX8_readsText_106 : decode cX8_readsText 106 = .ok (.getfield 7, 3) := by decide +kernel
theorem dX8_readsText_109 : decode cX8_readsText 109 = .ok (.iload_n 1, 1) := by decide +kernel
theorem dX8_readsText_110 : decode cX8_readsText 110 = .ok (.iaload, 1) := by decide +kernel
theorem dX8_readsText_111 : decode cX8_readsText 111 = .ok (.if_icmp .ne 38, 3) := by decide +kernel
theorem dX8_readsText_114 : decode cX8_readsText 114 = .ok (.aload_n 0, 1) := by decide +kernel
theorem dX8_readsText_115 : decode cX8_readsText 115 = .ok (.iload_n 1, 1) := by decide +kernel
theorem dX8_readsText_116 : decode cX8_readsText 116 = .ok (.ifCond .ne 7, 3) := by decide +kernel
theorem dX8_readsText_119 : decode cX8_readsText 119 = .ok (.iload_n 3, 1) := by decide +kernel
theorem dX8_readsText_120 : decode cX8_readsText 120 = .ok (.goto 7, 3) := by decide +kernel
theorem dX8_readsText_123 : decode cX8_readsText 123 = .ok (.aload_n 0, 1) := by decide +kernel
theorem dX8_readsText_124 : decode cX8_readsText 124 = .ok (.getfield 112, 3) := by decide +kernel
theorem dX8_readsText_127 : decode cX8_readsText 127 = .ok (.putfield 112, 3) := by decide +kernel
theorem dX8_readsText_130 : decode cX8_readsText 130 = .ok (.aload_n 0, 1) := by decide +kernel
theorem dX8_readsText_131 : decode cX8_readsText 131 = .ok (.iload_n 1, 1) := by decide +kernel
theorem dX8_readsText_132 : decode cX8_readsText 132 = .ok (.iconst 1, 1) := by decide +kernel
theorem dX8_readsText_133 : decode cX8_readsText 133 = .ok (.if_icmp .ne 7, 3) := by decide +kernel
theorem dX8_readsText_136 : decode cX8_readsText 136 = .ok (.iload_n 3, 1) := by decide +kernel
theorem dX8_readsText_137 : decode cX8_readsText 137 = .ok (.goto 7, 3) := by decide +kernel
theorem dX8_readsText_140 : decode cX8_readsText 140 = .ok (.aload_n 0, 1) := by decide +kernel
theorem dX8_readsText_141 : decode cX8_readsText 141 = .ok (.getfield 115, 3) := by decide +kernel
theorem dX8_readsText_144 : decode cX8_readsText 144 = .ok (.putfield 115, 3) := by decide +kernel
theorem dX8_readsText_147 : decode cX8_readsText 147 = .ok (.iconst (-1), 1) := by decide +kernel
theorem dX8_readsText_148 : decode cX8_readsText 148 = .ok (.ireturn, 1) := by decide +kernel
theorem dX8_readsText_149 : decode cX8_readsText 149 = .ok (.aload_n 0, 1) := by decide +kernel
theorem dX8_readsText_150 : decode cX8_readsText 150 = .ok (.iload_n 1, 1) := by decide +kernel
theorem dX8_readsText_151 : decode cX8_readsText 151 = .ok (.iload 4, 2) := by decide +kernel
theorem dX8_readsText_153 : decode cX8_readsText 153 = .ok (.invokevirtual 105, 3) := by decide +kernel
theorem dX8_readsText_156 : decode cX8_readsText 156 = .ok (.bipush 59, 2) := by decide +kernel
theorem dX8_readsText_158 : decode cX8_readsText 158 = .ok (.if_icmp .eq 6, 3) := by decide +kernel
theorem dX8_readsText_161 : decode cX8_readsText 161 = .ok (.iload 4, 2) := by decide +kernel
theorem dX8_readsText_163 : decode cX8_readsText 163 = .ok (.ireturn, 1) := by decide +kernel
theorem dX8_readsText_164 : decode cX8_readsText 164 = .ok (.iinc 4 1, 3) := by decide +kernel
theorem dX8_readsText_167 : decode cX8_readsText 167 = .ok (.goto (-117), 3) := by decide +kernel
theorem dX8_readsText_170 : decode cX8_readsText 170 = .ok (.iconst (-1), 1) := by decide +kernel
theorem dX8_readsText_171 : decode cX8_readsText 171 = .ok (.ireturn, 1) := by decide +kernel
theorem dX8_faultOf_0 : decode cX8_faultOf 0 = .ok (.aload_n 0, 1) := by decide +kernel
theorem dX8_faultOf_1 : decode cX8_faultOf 1 = .ok (.iconst 0, 1) := by decide +kernel
theorem dX8_faultOf_2 : decode cX8_faultOf 2 = .ok (.invokevirtual 122, 3) := by decide +kernel
theorem dX8_faultOf_5 : decode cX8_faultOf 5 = .ok (.istore_n 2, 1) := by decide +kernel
theorem dX8_faultOf_6 : decode cX8_faultOf 6 = .ok (.aload_n 0, 1) := by decide +kernel
theorem dX8_faultOf_7 : decode cX8_faultOf 7 = .ok (.iconst 1, 1) := by decide +kernel
theorem dX8_faultOf_8 : decode cX8_faultOf 8 = .ok (.invokevirtual 122, 3) := by decide +kernel
theorem dX8_faultOf_11 : decode cX8_faultOf 11 = .ok (.istore_n 3, 1) := by decide +kernel
theorem dX8_faultOf_12 : decode cX8_faultOf 12 = .ok (.iload_n 1, 1) := by decide +kernel
theorem dX8_faultOf_13 : decode cX8_faultOf 13 = .ok (.ifCond .ne 7, 3) := by decide +kernel
theorem dX8_faultOf_16 : decode cX8_faultOf 16 = .ok (.iload_n 2, 1) := by decide +kernel
theorem dX8_faultOf_17 : decode cX8_faultOf 17 = .ok (.goto 4, 3) := by decide +kernel
theorem dX8_faultOf_20 : decode cX8_faultOf 20 = .ok (.iload_n 3, 1) := by decide +kernel
theorem dX8_faultOf_21 : decode cX8_faultOf 21 = .ok (.ireturn, 1) := by decide +kernel
theorem dX8_reads_0 : decode cX8_reads 0 = .ok (.aload_n 0, 1) := by decide +kernel
theorem dX8_reads_1 : decode cX8_reads 1 = .ok (.iconst 0, 1) := by decide +kernel
theorem dX8_reads_2 : decode cX8_reads 2 = .ok (.invokevirtual 125, 3) := by decide +kernel
theorem dX8_reads_5 : decode cX8_reads 5 = .ok (.istore_n 1, 1) := by decide +kernel
theorem dX8_reads_6 : decode cX8_reads 6 = .ok (.return_, 1) := by decide +kernel
theorem dX8_fault_0 : decode cX8_fault 0 = .ok (.iload_n 1, 1) := by decide +kernel
theorem dX8_fault_1 : decode cX8_fault 1 = .ok (.invokestatic 98, 3) := by decide +kernel
theorem dX8_fault_4 : decode cX8_fault 4 = .ok (.ifCond .eq 11, 3) := by decide +kernel
theorem dX8_fault_7 : decode cX8_fault 7 = .ok (.aload_n 0, 1) := by decide +kernel
theorem dX8_fault_8 : decode cX8_fault 8 = .ok (.iload_n 1, 1) := by decide +kernel
theorem dX8_fault_9 : decode cX8_fault 9 = .ok (.invokevirtual 125, 3) := by decide +kernel
theorem dX8_fault_12 : decode cX8_fault 12 = .ok (.goto 5, 3) := by decide +kernel
theorem dX8_fault_15 : decode cX8_fault 15 = .ok (.bipush (-2), 2) := by decide +kernel
theorem dX8_fault_17 : decode cX8_fault 17 = .ok (.ireturn, 1) := by decide +kernel
theorem dX8_isKing_0 : decode cX8_isKing 0 = .ok (.aload_n 0, 1) := by decide +kernel
theorem dX8_isKing_1 : decode cX8_isKing 1 = .ok (.invokevirtual 128, 3) := by decide +kernel
theorem dX8_isKing_4 : decode cX8_isKing 4 = .ok (.iload_n 1, 1) := by decide +kernel
theorem dX8_isKing_5 : decode cX8_isKing 5 = .ok (.iconst 0, 1) := by decide +kernel
theorem dX8_isKing_6 : decode cX8_isKing 6 = .ok (.aload_n 0, 1) := by decide +kernel
theorem dX8_isKing_7 : decode cX8_isKing 7 = .ok (.getfield 115, 3) := by decide +kernel
theorem dX8_isKing_10 : decode cX8_isKing 10 = .ok (.iconst 1, 1) := by decide +kernel
theorem dX8_isKing_11 : decode cX8_isKing 11 = .ok (.isub, 1) := by decide +kernel
theorem dX8_isKing_12 : decode cX8_isKing 12 = .ok (.invokestatic 94, 3) := by decide +kernel
theorem dX8_isKing_15 : decode cX8_isKing 15 = .ok (.ireturn, 1) := by decide +kernel
theorem dX8_bookOf_0 : decode cX8_bookOf 0 = .ok (.iload_n 2, 1) := by decide +kernel
theorem dX8_bookOf_1 : decode cX8_bookOf 1 = .ok (.ifCond .ne 12, 3) := by decide +kernel
theorem dX8_bookOf_4 : decode cX8_bookOf 4 = .ok (.aload_n 0, 1) := by decide +kernel
theorem dX8_bookOf_5 : decode cX8_bookOf 5 = .ok (.getfield 16, 3) := by decide +kernel
theorem dX8_bookOf_8 : decode cX8_bookOf 8 = .ok (.iload_n 1, 1) := by decide +kernel
theorem dX8_bookOf_9 : decode cX8_bookOf 9 = .ok (.iaload, 1) := by decide +kernel
theorem dX8_bookOf_10 : decode cX8_bookOf 10 = .ok (.goto 23, 3) := by decide +kernel
theorem dX8_bookOf_13 : decode cX8_bookOf 13 = .ok (.iload_n 2, 1) := by decide +kernel
theorem dX8_bookOf_14 : decode cX8_bookOf 14 = .ok (.iconst 1, 1) := by decide +kernel
theorem dX8_bookOf_15 : decode cX8_bookOf 15 = .ok (.if_icmp .ne 12, 3) := by decide +kernel
theorem dX8_bookOf_18 : decode cX8_bookOf 18 = .ok (.aload_n 0, 1) := by decide +kernel
theorem dX8_bookOf_19 : decode cX8_bookOf 19 = .ok (.getfield 19, 3) := by decide +kernel
theorem dX8_bookOf_22 : decode cX8_bookOf 22 = .ok (.iload_n 1, 1) := by decide +kernel
theorem dX8_bookOf_23 : decode cX8_bookOf 23 = .ok (.iaload, 1) := by decide +kernel
theorem dX8_bookOf_24 : decode cX8_bookOf 24 = .ok (.goto 9, 3) := by decide +kernel
theorem dX8_bookOf_27 : decode cX8_bookOf 27 = .ok (.aload_n 0, 1) := by decide +kernel
theorem dX8_bookOf_28 : decode cX8_bookOf 28 = .ok (.getfield 22, 3) := by decide +kernel
theorem dX8_bookOf_31 : decode cX8_bookOf 31 = .ok (.iload_n 1, 1) := by decide +kernel
theorem dX8_bookOf_32 : decode cX8_bookOf 32 = .ok (.iaload, 1) := by decide +kernel
theorem dX8_bookOf_33 : decode cX8_bookOf 33 = .ok (.ireturn, 1) := by decide +kernel
theorem dX8_book_0 : decode cX8_book 0 = .ok (.aload_n 0, 1) := by decide +kernel
theorem dX8_book_1 : decode cX8_book 1 = .ok (.invokevirtual 128, 3) := by decide +kernel
theorem dX8_book_4 : decode cX8_book 4 = .ok (.iload_n 1, 1) := by decide +kernel
theorem dX8_book_5 : decode cX8_book 5 = .ok (.iconst 0, 1) := by decide +kernel
theorem dX8_book_6 : decode cX8_book 6 = .ok (.aload_n 0, 1) := by decide +kernel
theorem dX8_book_7 : decode cX8_book 7 = .ok (.getfield 112, 3) := by decide +kernel
theorem dX8_book_10 : decode cX8_book 10 = .ok (.iconst 1, 1) := by decide +kernel
theorem dX8_book_11 : decode cX8_book 11 = .ok (.isub, 1) := by decide +kernel
theorem dX8_book_12 : decode cX8_book 12 = .ok (.invokestatic 94, 3) := by decide +kernel
theorem dX8_book_15 : decode cX8_book 15 = .ok (.ifCond .eq 21, 3) := by decide +kernel
theorem dX8_book_18 : decode cX8_book 18 = .ok (.iload_n 2, 1) := by decide +kernel
theorem dX8_book_19 : decode cX8_book 19 = .ok (.iconst 0, 1) := by decide +kernel
theorem dX8_book_20 : decode cX8_book 20 = .ok (.iconst 2, 1) := by decide +kernel
theorem dX8_book_21 : decode cX8_book 21 = .ok (.invokestatic 94, 3) := by decide +kernel
theorem dX8_book_24 : decode cX8_book 24 = .ok (.ifCond .eq 12, 3) := by decide +kernel
theorem dX8_book_27 : decode cX8_book 27 = .ok (.aload_n 0, 1) := by decide +kernel
theorem dX8_book_28 : decode cX8_book 28 = .ok (.iload_n 1, 1) := by decide +kernel
theorem dX8_book_29 : decode cX8_book 29 = .ok (.iload_n 2, 1) := by decide +kernel
theorem dX8_book_30 : decode cX8_book 30 = .ok (.invokevirtual 131, 3) := by decide +kernel
theorem dX8_book_33 : decode cX8_book 33 = .ok (.goto 5, 3) := by decide +kernel
theorem dX8_book_36 : decode cX8_book 36 = .ok (.bipush (-2), 2) := by decide +kernel
theorem dX8_book_38 : decode cX8_book 38 = .ok (.ireturn, 1) := by decide +kernel
theorem dX8_king_0 : decode cX8_king 0 = .ok (.aload_n 0, 1) := by decide +kernel
theorem dX8_king_1 : decode cX8_king 1 = .ok (.iload_n 1, 1) := by decide +kernel
theorem dX8_king_2 : decode cX8_king 2 = .ok (.invokevirtual 134, 3) := by decide +kernel
theorem dX8_king_5 : decode cX8_king 5 = .ok (.ifCond .eq 34, 3) := by decide +kernel
theorem dX8_king_8 : decode cX8_king 8 = .ok (.iload_n 2, 1) := by decide +kernel
theorem dX8_king_9 : decode cX8_king 9 = .ok (.iconst 0, 1) := by decide +kernel
theorem dX8_king_10 : decode cX8_king 10 = .ok (.iconst 1, 1) := by decide +kernel
theorem dX8_king_11 : decode cX8_king 11 = .ok (.invokestatic 94, 3) := by decide +kernel
theorem dX8_king_14 : decode cX8_king 14 = .ok (.ifCond .eq 25, 3) := by decide +kernel
theorem dX8_king_17 : decode cX8_king 17 = .ok (.iload_n 2, 1) := by decide +kernel
theorem dX8_king_18 : decode cX8_king 18 = .ok (.ifCond .ne 12, 3) := by decide +kernel
theorem dX8_king_21 : decode cX8_king 21 = .ok (.aload_n 0, 1) := by decide +kernel
theorem dX8_king_22 : decode cX8_king 22 = .ok (.getfield 25, 3) := by decide +kernel
theorem dX8_king_25 : decode cX8_king 25 = .ok (.iload_n 1, 1) := by decide +kernel
theorem dX8_king_26 : decode cX8_king 26 = .ok (.iaload, 1) := by decide +kernel
theorem dX8_king_27 : decode cX8_king 27 = .ok (.goto 14, 3) := by decide +kernel
theorem dX8_king_30 : decode cX8_king 30 = .ok (.aload_n 0, 1) := by decide +kernel
theorem dX8_king_31 : decode cX8_king 31 = .ok (.getfield 28, 3) := by decide +kernel
theorem dX8_king_34 : decode cX8_king 34 = .ok (.iload_n 1, 1) := by decide +kernel
theorem dX8_king_35 : decode cX8_king 35 = .ok (.iaload, 1) := by decide +kernel
theorem dX8_king_36 : decode cX8_king 36 = .ok (.goto 5, 3) := by decide +kernel
theorem dX8_king_39 : decode cX8_king 39 = .ok (.bipush (-2), 2) := by decide +kernel
theorem dX8_king_41 : decode cX8_king 41 = .ok (.ireturn, 1) := by decide +kernel
theorem dX8_set_0 : decode cX8_set 0 = .ok (.iload_n 1, 1) := by decide +kernel
theorem dX8_set_1 : decode cX8_set 1 = .ok (.iconst 1, 1) := by decide +kernel
theorem dX8_set_2 : decode cX8_set 2 = .ok (.if_icmp .ne 7, 3) := by decide +kernel
theorem dX8_set_5 : decode cX8_set 5 = .ok (.iconst 1, 1) := by decide +kernel
theorem dX8_set_6 : decode cX8_set 6 = .ok (.goto 4, 3) := by decide +kernel
theorem dX8_set_9 : decode cX8_set 9 = .ok (.iconst 0, 1) := by decide +kernel
theorem dX8_set_10 : decode cX8_set 10 = .ok (.istore_n 3, 1) := by decide +kernel
theorem dX8_set_11 : decode cX8_set 11 = .ok (.iload_n 1, 1) := by decide +kernel
theorem dX8_set_12 : decode cX8_set 12 = .ok (.ifCond .ne 8, 3) := by decide +kernel
theorem dX8_set_15 : decode cX8_set 15 = .ok (.bipush 99, 2) := by decide +kernel
theorem dX8_set_17 : decode cX8_set 17 = .ok (.goto 15, 3) := by decide +kernel
theorem dX8_set_20 : decode cX8_set 20 = .ok (.iload_n 1, 1) := by decide +kernel
theorem dX8_set_21 : decode cX8_set 21 = .ok (.iconst 1, 1) := by decide +kernel
theorem dX8_set_22 : decode cX8_set 22 = .ok (.if_icmp .ne 8, 3) := by decide +kernel
theorem dX8_set_25 : decode cX8_set 25 = .ok (.bipush 9, 2) := by decide +kernel
theorem dX8_set_27 : decode cX8_set 27 = .ok (.goto 5, 3) := by decide +kernel
theorem dX8_set_30 : decode cX8_set 30 = .ok (.bipush 16, 2) := by decide +kernel
theorem dX8_set_32 : decode cX8_set 32 = .ok (.istore 4, 2) := by decide +kernel
theorem dX8_set_34 : decode cX8_set 34 = .ok (.iload_n 1, 1) := by decide +kernel
theorem dX8_set_35 : decode cX8_set 35 = .ok (.iconst 0, 1) := by decide +kernel
theorem dX8_set_36 : decode cX8_set 36 = .ok (.iconst 2, 1) := by decide +kernel
theorem dX8_set_37 : decode cX8_set 37 = .ok (.invokestatic 94, 3) := by decide +kernel
theorem dX8_set_40 : decode cX8_set 40 = .ok (.ifCond .eq 13, 3) := by decide +kernel
theorem dX8_set_43 : decode cX8_set 43 = .ok (.iload_n 2, 1) := by decide +kernel
theorem dX8_set_44 : decode cX8_set 44 = .ok (.iload_n 3, 1) := by decide +kernel
theorem dX8_set_45 : decode cX8_set 45 = .ok (.iload 4, 2) := by decide +kernel
theorem dX8_set_47 : decode cX8_set 47 = .ok (.invokestatic 94, 3) := by decide +kernel
theorem dX8_set_50 : decode cX8_set 50 = .ok (.ifCond .ne 6, 3) := by decide +kernel
theorem dX8_set_53 : decode cX8_set 53 = .ok (.bipush (-2), 2) := by decide +kernel
theorem dX8_set_55 : decode cX8_set 55 = .ok (.ireturn, 1) := by decide +kernel
theorem dX8_set_56 : decode cX8_set 56 = .ok (.iload_n 1, 1) := by decide +kernel
theorem dX8_set_57 : decode cX8_set 57 = .ok (.ifCond .ne 10, 3) := by decide +kernel
theorem dX8_set_60 : decode cX8_set 60 = .ok (.aload_n 0, 1) := by decide +kernel
theorem dX8_set_61 : decode cX8_set 61 = .ok (.getfield 78, 3) := by decide +kernel
theorem dX8_set_64 : decode cX8_set 64 = .ok (.goto 19, 3) := by decide +kernel
theorem dX8_set_67 : decode cX8_set 67 = .ok (.iload_n 1, 1) := by decide +kernel
theorem dX8_set_68 : decode cX8_set 68 = .ok (.iconst 1, 1) := by decide +kernel
theorem dX8_set_69 : decode cX8_set 69 = .ok (.if_icmp .ne 10, 3) := by decide +kernel
theorem dX8_set_72 : decode cX8_set 72 = .ok (.aload_n 0, 1) := by decide +kernel
theorem dX8_set_73 : decode cX8_set 73 = .ok (.getfield 82, 3) := by decide +kernel
theorem dX8_set_76 : decode cX8_set 76 = .ok (.goto 7, 3) := by decide +kernel
theorem dX8_set_79 : decode cX8_set 79 = .ok (.aload_n 0, 1) := by decide +kernel
theorem dX8_set_80 : decode cX8_set 80 = .ok (.getfield 85, 3) := by decide +kernel
theorem dX8_set_83 : decode cX8_set 83 = .ok (.istore 5, 2) := by decide +kernel
theorem dX8_set_85 : decode cX8_set 85 = .ok (.aload_n 0, 1) := by decide +kernel
theorem dX8_set_86 : decode cX8_set 86 = .ok (.iload_n 1, 1) := by decide +kernel
theorem dX8_set_87 : decode cX8_set 87 = .ok (.ifCond .ne 7, 3) := by decide +kernel
theorem dX8_set_90 : decode cX8_set 90 = .ok (.iload_n 2, 1) := by decide +kernel
theorem dX8_set_91 : decode cX8_set 91 = .ok (.goto 7, 3) := by decide +kernel
theorem dX8_set_94 : decode cX8_set 94 = .ok (.aload_n 0, 1) := by decide +kernel
theorem dX8_set_95 : decode cX8_set 95 = .ok (.getfield 78, 3) := by decide +kernel
theorem dX8_set_98 : decode cX8_set 98 = .ok (.putfield 78, 3) := by decide +kernel
theorem dX8_set_101 : decode cX8_set 101 = .ok (.aload_n 0, 1) := by decide +kernel
theorem dX8_set_102 : decode cX8_set 102 = .ok (.iload_n 1, 1) := by decide +kernel
theorem dX8_set_103 : decode cX8_set 103 = .ok (.iconst 1, 1) := by decide +kernel
theorem dX8_set_104 : decode cX8_set 104 = .ok (.if_icmp .ne 7, 3) := by decide +kernel
theorem dX8_set_107 : decode cX8_set 107 = .ok (.iload_n 2, 1) := by decide +kernel
theorem dX8_set_108 : decode cX8_set 108 = .ok (.goto 7, 3) := by decide +kernel
theorem dX8_set_111 : decode cX8_set 111 = .ok (.aload_n 0, 1) := by decide +kernel
theorem dX8_set_112 : decode cX8_set 112 = .ok (.getfield 82, 3) := by decide +kernel
theorem dX8_set_115 : decode cX8_set 115 = .ok (.putfield 82, 3) := by decide +kernel
theorem dX8_set_118 : decode cX8_set 118 = .ok (.aload_n 0, 1) := by decide +kernel
theorem dX8_set_119 : decode cX8_set 119 = .ok (.iload_n 1, 1) := by decide +kernel
theorem dX8_set_120 : decode cX8_set 120 = .ok (.iconst 2, 1) := by decide +kernel
theorem dX8_set_121 : decode cX8_set 121 = .ok (.if_icmp .ne 7, 3) := by decide +kernel
theorem dX8_set_124 : decode cX8_set 124 = .ok (.iload_n 2, 1) := by decide +kernel
theorem dX8_set_125 : decode cX8_set 125 = .ok (.goto 7, 3) := by decide +kernel
theorem dX8_set_128 : decode cX8_set 128 = .ok (.aload_n 0, 1) := by decide +kernel
theorem dX8_set_129 : decode cX8_set 129 = .ok (.getfield 85, 3) := by decide +kernel
theorem dX8_set_132 : decode cX8_set 132 = .ok (.putfield 85, 3) := by decide +kernel
theorem dX8_set_135 : decode cX8_set 135 = .ok (.iload 5, 2) := by decide +kernel
theorem dX8_set_137 : decode cX8_set 137 = .ok (.ireturn, 1) := by decide +kernel
theorem dX8_burn_0 : decode cX8_burn 0 = .ok (.iload_n 1, 1) := by decide +kernel
theorem dX8_burn_1 : decode cX8_burn 1 = .ok (.iconst 0, 1) := by decide +kernel
theorem dX8_burn_2 : decode cX8_burn 2 = .ok (.bipush 8, 2) := by decide +kernel
theorem dX8_burn_4 : decode cX8_burn 4 = .ok (.invokestatic 94, 3) := by decide +kernel
theorem dX8_burn_7 : decode cX8_burn 7 = .ok (.ifCond .eq 14, 3) := by decide +kernel
theorem dX8_burn_10 : decode cX8_burn 10 = .ok (.aload_n 0, 1) := by decide +kernel
theorem dX8_burn_11 : decode cX8_burn 11 = .ok (.getfield 137, 3) := by decide +kernel
theorem dX8_burn_14 : decode cX8_burn 14 = .ok (.iload_n 1, 1) := by decide +kernel
theorem dX8_burn_15 : decode cX8_burn 15 = .ok (.invokestatic 140, 3) := by decide +kernel
theorem dX8_burn_18 : decode cX8_burn 18 = .ok (.ifCond .eq 6, 3) := by decide +kernel
theorem dX8_burn_21 : decode cX8_burn 21 = .ok (.bipush (-2), 2) := by decide +kernel
theorem dX8_burn_23 : decode cX8_burn 23 = .ok (.ireturn, 1) := by decide +kernel
theorem dX8_burn_24 : decode cX8_burn 24 = .ok (.aload_n 0, 1) := by decide +kernel
theorem dX8_burn_25 : decode cX8_burn 25 = .ok (.getfield 31, 3) := by decide +kernel
theorem dX8_burn_28 : decode cX8_burn 28 = .ok (.aload_n 0, 1) := by decide +kernel
theorem dX8_burn_29 : decode cX8_burn 29 = .ok (.getfield 144, 3) := by decide +kernel
theorem dX8_burn_32 : decode cX8_burn 32 = .ok (.iload_n 1, 1) := by decide +kernel
theorem dX8_burn_33 : decode cX8_burn 33 = .ok (.iastore, 1) := by decide +kernel
theorem dX8_burn_34 : decode cX8_burn 34 = .ok (.aload_n 0, 1) := by decide +kernel
theorem dX8_burn_35 : decode cX8_burn 35 = .ok (.dup, 1) := by decide +kernel
theorem dX8_burn_36 : decode cX8_burn 36 = .ok (.getfield 144, 3) := by decide +kernel
theorem dX8_burn_39 : decode cX8_burn 39 = .ok (.iconst 1, 1) := by decide +kernel
theorem dX8_burn_40 : decode cX8_burn 40 = .ok (.iadd, 1) := by decide +kernel
theorem dX8_burn_41 : decode cX8_burn 41 = .ok (.putfield 144, 3) := by decide +kernel
theorem dX8_burn_44 : decode cX8_burn 44 = .ok (.aload_n 0, 1) := by decide +kernel
theorem dX8_burn_45 : decode cX8_burn 45 = .ok (.dup, 1) := by decide +kernel
theorem dX8_burn_46 : decode cX8_burn 46 = .ok (.getfield 137, 3) := by decide +kernel
theorem dX8_burn_49 : decode cX8_burn 49 = .ok (.iconst 1, 1) := by decide +kernel
theorem dX8_burn_50 : decode cX8_burn 50 = .ok (.iload_n 1, 1) := by decide +kernel
theorem dX8_burn_51 : decode cX8_burn 51 = .ok (.ishl, 1) := by decide +kernel
theorem dX8_burn_52 : decode cX8_burn 52 = .ok (.ior, 1) := by decide +kernel
theorem dX8_burn_53 : decode cX8_burn 53 = .ok (.putfield 137, 3) := by decide +kernel
theorem dX8_burn_56 : decode cX8_burn 56 = .ok (.aload_n 0, 1) := by decide +kernel
theorem dX8_burn_57 : decode cX8_burn 57 = .ok (.getfield 144, 3) := by decide +kernel
theorem dX8_burn_60 : decode cX8_burn 60 = .ok (.ireturn, 1) := by decide +kernel
theorem dX8_back_0 : decode cX8_back 0 = .ok (.aload_n 0, 1) := by decide +kernel
theorem dX8_back_1 : decode cX8_back 1 = .ok (.getfield 144, 3) := by decide +kernel
theorem dX8_back_4 : decode cX8_back 4 = .ok (.ifCond .ne 6, 3) := by decide +kernel
theorem dX8_back_7 : decode cX8_back 7 = .ok (.bipush (-3), 2) := by decide +kernel
theorem dX8_back_9 : decode cX8_back 9 = .ok (.ireturn, 1) := by decide +kernel
theorem dX8_back_10 : decode cX8_back 10 = .ok (.aload_n 0, 1) := by decide +kernel
theorem dX8_back_11 : decode cX8_back 11 = .ok (.dup, 1) := by decide +kernel
theorem dX8_back_12 : decode cX8_back 12 = .ok (.getfield 144, 3) := by decide +kernel
theorem dX8_back_15 : decode cX8_back 15 = .ok (.iconst 1, 1) := by decide +kernel
theorem dX8_back_16 : decode cX8_back 16 = .ok (.isub, 1) := by decide +kernel
theorem dX8_back_17 : decode cX8_back 17 = .ok (.putfield 144, 3) := by decide +kernel
theorem dX8_back_20 : decode cX8_back 20 = .ok (.aload_n 0, 1) := by decide +kernel
theorem dX8_back_21 : decode cX8_back 21 = .ok (.dup, 1) := by decide +kernel
theorem dX8_back_22 : decode cX8_back 22 = .ok (.getfield 137, 3) := by decide +kernel
theorem dX8_back_25 : decode cX8_back 25 = .ok (.iconst 1, 1) := by decide +kernel
theorem dX8_back_26 : decode cX8_back 26 = .ok (.aload_n 0, 1) := by decide +kernel
theorem dX8_back_27 : decode cX8_back 27 = .ok (.getfield 31, 3) := by decide +kernel
theorem dX8_back_30 : decode cX8_back 30 = .ok (.aload_n 0, 1) := by decide +kernel
theorem dX8_back_31 : decode cX8_back 31 = .ok (.getfield 144, 3) := by decide +kernel
theorem dX8_back_34 : decode cX8_back 34 = .ok (.iaload, 1) := by decide +kernel
theorem dX8_back_35 : decode cX8_back 35 = .ok (.ishl, 1) := by decide +kernel
theorem dX8_back_36 : decode cX8_back 36 = .ok (.iconst (-1), 1) := by decide +kernel
theorem dX8_back_37 : decode cX8_back 37 = .ok (.ixor, 1) := by decide +kernel
theorem dX8_back_38 : decode cX8_back 38 = .ok (.iand, 1) := by decide +kernel
theorem dX8_back_39 : decode cX8_back 39 = .ok (.putfield 137, 3) := by decide +kernel
theorem dX8_back_42 : decode cX8_back 42 = .ok (.aload_n 0, 1) := by decide +kernel
theorem dX8_back_43 : decode cX8_back 43 = .ok (.getfield 144, 3) := by decide +kernel
theorem dX8_back_46 : decode cX8_back 46 = .ok (.ireturn, 1) := by decide +kernel
theorem dX8_read_0 : decode cX8_read 0 = .ok (.iload_n 1, 1) := by decide +kernel
theorem dX8_read_1 : decode cX8_read 1 = .ok (.invokestatic 147, 3) := by decide +kernel
theorem dX8_read_4 : decode cX8_read 4 = .ok (.ifCond .ne 6, 3) := by decide +kernel
theorem dX8_read_7 : decode cX8_read 7 = .ok (.bipush (-2), 2) := by decide +kernel
theorem dX8_read_9 : decode cX8_read 9 = .ok (.ireturn, 1) := by decide +kernel
theorem dX8_read_10 : decode cX8_read 10 = .ok (.aload_n 0, 1) := by decide +kernel
theorem dX8_read_11 : decode cX8_read 11 = .ok (.getfield 62, 3) := by decide +kernel
theorem dX8_read_14 : decode cX8_read 14 = .ok (.iload_n 1, 1) := by decide +kernel
theorem dX8_read_15 : decode cX8_read 15 = .ok (.baload, 1) := by decide +kernel
theorem dX8_read_16 : decode cX8_read 16 = .ok (.ifCond .ne 9, 3) := by decide +kernel
theorem dX8_read_19 : decode cX8_read 19 = .ok (.aload_n 0, 1) := by decide +kernel
theorem dX8_read_20 : decode cX8_read 20 = .ok (.iconst 1, 1) := by decide +kernel
theorem dX8_read_21 : decode cX8_read 21 = .ok (.invokevirtual 150, 3) := by decide +kernel
theorem dX8_read_24 : decode cX8_read 24 = .ok (.ireturn, 1) := by decide +kernel
theorem dX8_read_25 : decode cX8_read 25 = .ok (.iconst 0, 1) := by decide +kernel
theorem dX8_read_26 : decode cX8_read 26 = .ok (.istore_n 2, 1) := by decide +kernel
theorem dX8_read_27 : decode cX8_read 27 = .ok (.iload_n 2, 1) := by decide +kernel
theorem dX8_read_28 : decode cX8_read 28 = .ok (.aload_n 0, 1) := by decide +kernel
theorem dX8_read_29 : decode cX8_read 29 = .ok (.getfield 69, 3) := by decide +kernel
theorem dX8_read_32 : decode cX8_read 32 = .ok (.iload_n 1, 1) := by decide +kernel
theorem dX8_read_33 : decode cX8_read 33 = .ok (.iaload, 1) := by decide +kernel
theorem dX8_read_34 : decode cX8_read 34 = .ok (.if_icmp .ge 27, 3) := by decide +kernel
theorem dX8_read_37 : decode cX8_read 37 = .ok (.aload_n 0, 1) := by decide +kernel
theorem dX8_read_38 : decode cX8_read 38 = .ok (.aload_n 0, 1) := by decide +kernel
theorem dX8_read_39 : decode cX8_read 39 = .ok (.getfield 72, 3) := by decide +kernel
theorem dX8_read_42 : decode cX8_read 42 = .ok (.bipush 48, 2) := by decide +kernel
theorem dX8_read_44 : decode cX8_read 44 = .ok (.iload_n 1, 1) := by decide +kernel
theorem dX8_read_45 : decode cX8_read 45 = .ok (.imul, 1) := by decide +kernel
theorem dX8_read_46 : decode cX8_read 46 = .ok (.iload_n 2, 1) := by decide +kernel
theorem dX8_read_47 : decode cX8_read 47 = .ok (.iadd, 1) := by decide +kernel
theorem dX8_read_48 : decode cX8_read 48 = .ok (.iaload, 1) := by decide +kernel
theorem dX8_read_49 : decode cX8_read 49 = .ok (.invokevirtual 153, 3) := by decide +kernel
theorem dX8_read_52 : decode cX8_read 52 = .ok (.ifCond .le 9, 3) := by decide +kernel
theorem dX8_read_55 : decode cX8_read 55 = .ok (.iinc 2 1, 3) := by decide +kernel
theorem dX8_read_58 : decode cX8_read 58 = .ok (.goto (-31), 3) := by decide +kernel
theorem dX8_read_61 : decode cX8_read 61 = .ok (.iload_n 2, 1) := by decide +kernel
theorem dX8_read_62 : decode cX8_read 62 = .ok (.ireturn, 1) := by decide +kernel
theorem dX8_allBooks_0 : decode cX8_allBooks 0 = .ok (.aload_n 0, 1) := by decide +kernel
theorem dX8_allBooks_1 : decode cX8_allBooks 1 = .ok (.invokevirtual 128, 3) := by decide +kernel
theorem dX8_allBooks_4 : decode cX8_allBooks 4 = .ok (.iconst 1, 1) := by decide +kernel
theorem dX8_allBooks_5 : decode cX8_allBooks 5 = .ok (.aload_n 0, 1) := by decide +kernel
theorem dX8_allBooks_6 : decode cX8_allBooks 6 = .ok (.getfield 112, 3) := by decide +kernel
theorem dX8_allBooks_9 : decode cX8_allBooks 9 = .ok (.ishl, 1) := by decide +kernel
theorem dX8_allBooks_10 : decode cX8_allBooks 10 = .ok (.iconst 1, 1) := by decide +kernel
theorem dX8_allBooks_11 : decode cX8_allBooks 11 = .ok (.isub, 1) := by decide +kernel
theorem dX8_allBooks_12 : decode cX8_allBooks 12 = .ok (.ireturn, 1) := by decide +kernel
theorem dX8_leftNow_0 : decode cX8_leftNow 0 = .ok (.aload_n 0, 1) := by decide +kernel
theorem dX8_leftNow_1 : decode cX8_leftNow 1 = .ok (.invokevirtual 156, 3) := by decide +kernel
theorem dX8_leftNow_4 : decode cX8_leftNow 4 = .ok (.aload_n 0, 1) := by decide +kernel
theorem dX8_leftNow_5 : decode cX8_leftNow 5 = .ok (.getfield 137, 3) := by decide +kernel
theorem dX8_leftNow_8 : decode cX8_leftNow 8 = .ok (.iconst (-1), 1) := by decide +kernel
theorem dX8_leftNow_9 : decode cX8_leftNow 9 = .ok (.ixor, 1) := by decide +kernel
theorem dX8_leftNow_10 : decode cX8_leftNow 10 = .ok (.iand, 1) := by decide +kernel
theorem dX8_leftNow_11 : decode cX8_leftNow 11 = .ok (.ireturn, 1) := by decide +kernel
theorem dX8_left_0 : decode cX8_left 0 = .ok (.aload_n 0, 1) := by decide +kernel
theorem dX8_left_1 : decode cX8_left 1 = .ok (.invokevirtual 160, 3) := by decide +kernel
theorem dX8_left_4 : decode cX8_left 4 = .ok (.ireturn, 1) := by decide +kernel
theorem dX8_useBy_0 : decode cX8_useBy 0 = .ok (.iconst 0, 1) := by decide +kernel
theorem dX8_useBy_1 : decode cX8_useBy 1 = .ok (.istore_n 2, 1) := by decide +kernel
theorem dX8_useBy_2 : decode cX8_useBy 2 = .ok (.iconst 0, 1) := by decide +kernel
theorem dX8_useBy_3 : decode cX8_useBy 3 = .ok (.istore_n 3, 1) := by decide +kernel
theorem dX8_useBy_4 : decode cX8_useBy 4 = .ok (.iload_n 3, 1) := by decide +kernel
theorem dX8_useBy_5 : decode cX8_useBy 5 = .ok (.aload_n 0, 1) := by decide +kernel
theorem dX8_useBy_6 : decode cX8_useBy 6 = .ok (.getfield 112, 3) := by decide +kernel
theorem dX8_useBy_9 : decode cX8_useBy 9 = .ok (.if_icmp .ge 96, 3) := by decide +kernel
theorem dX8_useBy_12 : decode cX8_useBy 12 = .ok (.iload_n 1, 1) := by decide +kernel
theorem dX8_useBy_13 : decode cX8_useBy 13 = .ok (.iload_n 3, 1) := by decide +kernel
theorem dX8_useBy_14 : decode cX8_useBy 14 = .ok (.invokestatic 140, 3) := by decide +kernel
theorem dX8_useBy_17 : decode cX8_useBy 17 = .ok (.ifCond .eq 40, 3) := by decide +kernel
theorem dX8_useBy_20 : decode cX8_useBy 20 = .ok (.aload_n 0, 1) := by decide +kernel
theorem dX8_useBy_21 : decode cX8_useBy 21 = .ok (.getfield 19, 3) := by decide +kernel
theorem dX8_useBy_24 : decode cX8_useBy 24 = .ok (.iload_n 3, 1) := by decide +kernel
theorem dX8_useBy_25 : decode cX8_useBy 25 = .ok (.iaload, 1) := by decide +kernel
theorem dX8_useBy_26 : decode cX8_useBy 26 = .ok (.iconst 1, 1) := by decide +kernel
theorem dX8_useBy_27 : decode cX8_useBy 27 = .ok (.if_icmp .eq 30, 3) := by decide +kernel
theorem dX8_useBy_30 : decode cX8_useBy 30 = .ok (.aload_n 0, 1) := by decide +kernel
theorem dX8_useBy_31 : decode cX8_useBy 31 = .ok (.getfield 22, 3) := by decide +kernel
theorem dX8_useBy_34 : decode cX8_useBy 34 = .ok (.iload_n 3, 1) := by decide +kernel
theorem dX8_useBy_35 : decode cX8_useBy 35 = .ok (.iaload, 1) := by decide +kernel
theorem dX8_useBy_36 : decode cX8_useBy 36 = .ok (.iconst (-1), 1) := by decide +kernel
theorem dX8_useBy_37 : decode cX8_useBy 37 = .ok (.if_icmp .eq 16, 3) := by decide +kernel
theorem dX8_useBy_40 : decode cX8_useBy 40 = .ok (.iload_n 1, 1) := by decide +kernel
theorem dX8_useBy_41 : decode cX8_useBy 41 = .ok (.aload_n 0, 1) := by decide +kernel
theorem dX8_useBy_42 : decode cX8_useBy 42 = .ok (.getfield 22, 3) := by decide +kernel
theorem dX8_useBy_45 : decode cX8_useBy 45 = .ok (.iload_n 3, 1) := by decide +kernel
theorem dX8_useBy_46 : decode cX8_useBy 46 = .ok (.iaload, 1) := by decide +kernel
theorem dX8_useBy_47 : decode cX8_useBy 47 = .ok (.invokestatic 140, 3) := by decide +kernel
theorem dX8_useBy_50 : decode cX8_useBy 50 = .ok (.ifCond .eq 7, 3) := by decide +kernel
theorem dX8_useBy_53 : decode cX8_useBy 53 = .ok (.iconst 1, 1) := by decide +kernel
theorem dX8_useBy_54 : decode cX8_useBy 54 = .ok (.goto 4, 3) := by decide +kernel
theorem dX8_useBy_57 : decode cX8_useBy 57 = .ok (.iconst 0, 1) := by decide +kernel
theorem dX8_useBy_58 : decode cX8_useBy 58 = .ok (.istore 4, 2) := by decide +kernel
theorem dX8_useBy_60 : decode cX8_useBy 60 = .ok (.iload_n 2, 1) := by decide +kernel
theorem dX8_useBy_61 : decode cX8_useBy 61 = .ok (.iload 4, 2) := by decide +kernel
theorem dX8_useBy_63 : decode cX8_useBy 63 = .ok (.ifCond .eq 33, 3) := by decide +kernel
theorem dX8_useBy_66 : decode cX8_useBy 66 = .ok (.aload_n 0, 1) := by decide +kernel
theorem dX8_useBy_67 : decode cX8_useBy 67 = .ok (.getfield 19, 3) := by decide +kernel
theorem dX8_useBy_70 : decode cX8_useBy 70 = .ok (.iload_n 3, 1) := by decide +kernel
theorem dX8_useBy_71 : decode cX8_useBy 71 = .ok (.iaload, 1) := by decide +kernel
theorem dX8_useBy_72 : decode cX8_useBy 72 = .ok (.iconst 2, 1) := by decide +kernel
theorem dX8_useBy_73 : decode cX8_useBy 73 = .ok (.if_icmp .ne 14, 3) := by decide +kernel
theorem dX8_useBy_76 : decode cX8_useBy 76 = .ok (.aload_n 0, 1) := by decide +kernel
theorem dX8_useBy_77 : decode cX8_useBy 77 = .ok (.getfield 16, 3) := by decide +kernel
theorem dX8_useBy_80 : decode cX8_useBy 80 = .ok (.iload_n 3, 1) := by decide +kernel
theorem dX8_useBy_81 : decode cX8_useBy 81 = .ok (.iaload, 1) := by decide +kernel
theorem dX8_useBy_82 : decode cX8_useBy 82 = .ok (.iconst 2, 1) := by decide +kernel
theorem dX8_useBy_83 : decode cX8_useBy 83 = .ok (.idiv, 1) := by decide +kernel
theorem dX8_useBy_84 : decode cX8_useBy 84 = .ok (.goto 13, 3) := by decide +kernel
theorem dX8_useBy_87 : decode cX8_useBy 87 = .ok (.aload_n 0, 1) := by decide +kernel
theorem dX8_useBy_88 : decode cX8_useBy 88 = .ok (.getfield 16, 3) := by decide +kernel
theorem dX8_useBy_91 : decode cX8_useBy 91 = .ok (.iload_n 3, 1) := by decide +kernel
theorem dX8_useBy_92 : decode cX8_useBy 92 = .ok (.iaload, 1) := by decide +kernel
theorem dX8_useBy_93 : decode cX8_useBy 93 = .ok (.goto 4, 3) := by decide +kernel
theorem dX8_useBy_96 : decode cX8_useBy 96 = .ok (.iconst 0, 1) := by decide +kernel
theorem dX8_useBy_97 : decode cX8_useBy 97 = .ok (.iadd, 1) := by decide +kernel
theorem dX8_useBy_98 : decode cX8_useBy 98 = .ok (.istore_n 2, 1) := by decide +kernel
theorem dX8_useBy_99 : decode cX8_useBy 99 = .ok (.iinc 3 1, 3) := by decide +kernel
theorem dX8_useBy_102 : decode cX8_useBy 102 = .ok (.goto (-98), 3) := by decide +kernel
theorem dX8_useBy_105 : decode cX8_useBy 105 = .ok (.iload_n 2, 1) := by decide +kernel
theorem dX8_useBy_106 : decode cX8_useBy 106 = .ok (.ireturn, 1) := by decide +kernel
theorem dX8_isSet_0 : decode cX8_isSet 0 = .ok (.iload_n 0, 1) := by decide +kernel
theorem dX8_isSet_1 : decode cX8_isSet 1 = .ok (.iconst 0, 1) := by decide +kernel
theorem dX8_isSet_2 : decode cX8_isSet 2 = .ok (.sipush 511, 3) := by decide +kernel
theorem dX8_isSet_5 : decode cX8_isSet 5 = .ok (.invokestatic 94, 3) := by decide +kernel
theorem dX8_isSet_8 : decode cX8_isSet 8 = .ok (.ireturn, 1) := by decide +kernel
theorem dX8_useOf_0 : decode cX8_useOf 0 = .ok (.aload_n 0, 1) := by decide +kernel
theorem dX8_useOf_1 : decode cX8_useOf 1 = .ok (.iload_n 1, 1) := by decide +kernel
theorem dX8_useOf_2 : decode cX8_useOf 2 = .ok (.aload_n 0, 1) := by decide +kernel
theorem dX8_useOf_3 : decode cX8_useOf 3 = .ok (.invokevirtual 156, 3) := by decide +kernel
theorem dX8_useOf_6 : decode cX8_useOf 6 = .ok (.iand, 1) := by decide +kernel
theorem dX8_useOf_7 : decode cX8_useOf 7 = .ok (.invokevirtual 163, 3) := by decide +kernel
theorem dX8_useOf_10 : decode cX8_useOf 10 = .ok (.ireturn, 1) := by decide +kernel
theorem dX8_use_0 : decode cX8_use 0 = .ok (.iload_n 1, 1) := by decide +kernel
theorem dX8_use_1 : decode cX8_use 1 = .ok (.invokestatic 166, 3) := by decide +kernel
theorem dX8_use_4 : decode cX8_use 4 = .ok (.ifCond .eq 11, 3) := by decide +kernel
theorem dX8_use_7 : decode cX8_use 7 = .ok (.aload_n 0, 1) := by decide +kernel
theorem dX8_use_8 : decode cX8_use 8 = .ok (.iload_n 1, 1) := by decide +kernel
theorem dX8_use_9 : decode cX8_use 9 = .ok (.invokevirtual 169, 3) := by decide +kernel
theorem dX8_use_12 : decode cX8_use 12 = .ok (.goto 5, 3) := by decide +kernel
theorem dX8_use_15 : decode cX8_use 15 = .ok (.bipush (-2), 2) := by decide +kernel
theorem dX8_use_17 : decode cX8_use 17 = .ok (.ireturn, 1) := by decide +kernel
theorem dX8_gainOf_0 : decode cX8_gainOf 0 = .ok (.aload_n 0, 1) := by decide +kernel
theorem dX8_gainOf_1 : decode cX8_gainOf 1 = .ok (.getfield 28, 3) := by decide +kernel
theorem dX8_gainOf_4 : decode cX8_gainOf 4 = .ok (.iload_n 1, 1) := by decide +kernel
theorem dX8_gainOf_5 : decode cX8_gainOf 5 = .ok (.iaload, 1) := by decide +kernel
theorem dX8_gainOf_6 : decode cX8_gainOf 6 = .ok (.aload_n 0, 1) := by decide +kernel
theorem dX8_gainOf_7 : decode cX8_gainOf 7 = .ok (.iload_n 2, 1) := by decide +kernel
theorem dX8_gainOf_8 : decode cX8_gainOf 8 = .ok (.invokevirtual 169, 3) := by decide +kernel
theorem dX8_gainOf_11 : decode cX8_gainOf 11 = .ok (.imul, 1) := by decide +kernel
theorem dX8_gainOf_12 : decode cX8_gainOf 12 = .ok (.ireturn, 1) := by decide +kernel
theorem dX8_gain_0 : decode cX8_gain 0 = .ok (.aload_n 0, 1) := by decide +kernel
theorem dX8_gain_1 : decode cX8_gain 1 = .ok (.iload_n 1, 1) := by decide +kernel
theorem dX8_gain_2 : decode cX8_gain 2 = .ok (.invokevirtual 134, 3) := by decide +kernel
theorem dX8_gain_5 : decode cX8_gain 5 = .ok (.ifCond .eq 19, 3) := by decide +kernel
theorem dX8_gain_8 : decode cX8_gain 8 = .ok (.iload_n 2, 1) := by decide +kernel
theorem dX8_gain_9 : decode cX8_gain 9 = .ok (.invokestatic 166, 3) := by decide +kernel
theorem dX8_gain_12 : decode cX8_gain 12 = .ok (.ifCond .eq 12, 3) := by decide +kernel
theorem dX8_gain_15 : decode cX8_gain 15 = .ok (.aload_n 0, 1) := by decide +kernel
theorem dX8_gain_16 : decode cX8_gain 16 = .ok (.iload_n 1, 1) := by decide +kernel
theorem dX8_gain_17 : decode cX8_gain 17 = .ok (.iload_n 2, 1) := by decide +kernel
theorem dX8_gain_18 : decode cX8_gain 18 = .ok (.invokevirtual 172, 3) := by decide +kernel
theorem dX8_gain_21 : decode cX8_gain 21 = .ok (.goto 5, 3) := by decide +kernel
theorem dX8_gain_24 : decode cX8_gain 24 = .ok (.bipush (-2), 2) := by decide +kernel
theorem dX8_gain_26 : decode cX8_gain 26 = .ok (.ireturn, 1) := by decide +kernel
theorem dX8_lossNow_0 : decode cX8_lossNow 0 = .ok (.aload_n 0, 1) := by decide +kernel
theorem dX8_lossNow_1 : decode cX8_lossNow 1 = .ok (.sipush 511, 3) := by decide +kernel
theorem dX8_lossNow_4 : decode cX8_lossNow 4 = .ok (.invokevirtual 169, 3) := by decide +kernel
theorem dX8_lossNow_7 : decode cX8_lossNow 7 = .ok (.aload_n 0, 1) := by decide +kernel
theorem dX8_lossNow_8 : decode cX8_lossNow 8 = .ok (.aload_n 0, 1) := by decide +kernel
theorem dX8_lossNow_9 : decode cX8_lossNow 9 = .ok (.invokevirtual 160, 3) := by decide +kernel
theorem dX8_lossNow_12 : decode cX8_lossNow 12 = .ok (.invokevirtual 169, 3) := by decide +kernel
theorem dX8_lossNow_15 : decode cX8_lossNow 15 = .ok (.isub, 1) := by decide +kernel
theorem dX8_lossNow_16 : decode cX8_lossNow 16 = .ok (.ireturn, 1) := by decide +kernel
theorem dX8_loss_0 : decode cX8_loss 0 = .ok (.aload_n 0, 1) := by decide +kernel
theorem dX8_loss_1 : decode cX8_loss 1 = .ok (.invokevirtual 175, 3) := by decide +kernel
theorem dX8_loss_4 : decode cX8_loss 4 = .ok (.ireturn, 1) := by decide +kernel
theorem dX8_enoughOf_0 : decode cX8_enoughOf 0 = .ok (.aload_n 0, 1) := by decide +kernel
theorem dX8_enoughOf_1 : decode cX8_enoughOf 1 = .ok (.invokevirtual 160, 3) := by decide +kernel
theorem dX8_enoughOf_4 : decode cX8_enoughOf 4 = .ok (.istore_n 2, 1) := by decide +kernel
theorem dX8_enoughOf_5 : decode cX8_enoughOf 5 = .ok (.iconst (-1), 1) := by decide +kernel
theorem dX8_enoughOf_6 : decode cX8_enoughOf 6 = .ok (.istore_n 3, 1) := by decide +kernel
theorem dX8_enoughOf_7 : decode cX8_enoughOf 7 = .ok (.iconst 0, 1) := by decide +kernel
theorem dX8_enoughOf_8 : decode cX8_enoughOf 8 = .ok (.istore 4, 2) := by decide +kernel
theorem dX8_enoughOf_10 : decode cX8_enoughOf 10 = .ok (.iload 4, 2) := by decide +kernel
theorem dX8_enoughOf_12 : decode cX8_enoughOf 12 = .ok (.sipush 512, 3) := by decide +kernel
theorem dX8_enoughOf_15 : decode cX8_enoughOf 15 = .ok (.if_icmp .ge 64, 3) := by decide +kernel
theorem dX8_enoughOf_18 : decode cX8_enoughOf 18 = .ok (.iload 4, 2) := by decide +kernel
theorem dX8_enoughOf_20 : decode cX8_enoughOf 20 = .ok (.iload_n 2, 1) := by decide +kernel
theorem dX8_enoughOf_21 : decode cX8_enoughOf 21 = .ok (.iconst (-1), 1) := by decide +kernel
theorem dX8_enoughOf_22 : decode cX8_enoughOf 22 = .ok (.ixor, 1) := by decide +kernel
theorem dX8_enoughOf_23 : decode cX8_enoughOf 23 = .ok (.iand, 1) := by decide +kernel
theorem dX8_enoughOf_24 : decode cX8_enoughOf 24 = .ok (.ifCond .ne 17, 3) := by decide +kernel
theorem dX8_enoughOf_27 : decode cX8_enoughOf 27 = .ok (.aload_n 0, 1) := by decide +kernel
theorem dX8_enoughOf_28 : decode cX8_enoughOf 28 = .ok (.iload 4, 2) := by decide +kernel
theorem dX8_enoughOf_30 : decode cX8_enoughOf 30 = .ok (.invokevirtual 163, 3) := by decide +kernel
theorem dX8_enoughOf_33 : decode cX8_enoughOf 33 = .ok (.iload_n 1, 1) := by decide +kernel
theorem dX8_enoughOf_34 : decode cX8_enoughOf 34 = .ok (.if_icmp .lt 7, 3) := by decide +kernel
theorem dX8_enoughOf_37 : decode cX8_enoughOf 37 = .ok (.iconst 1, 1) := by decide +kernel
theorem dX8_enoughOf_38 : decode cX8_enoughOf 38 = .ok (.goto 4, 3) := by decide +kernel
theorem dX8_enoughOf_41 : decode cX8_enoughOf 41 = .ok (.iconst 0, 1) := by decide +kernel
theorem dX8_enoughOf_42 : decode cX8_enoughOf 42 = .ok (.istore 5, 2) := by decide +kernel
theorem dX8_enoughOf_44 : decode cX8_enoughOf 44 = .ok (.iload 5, 2) := by decide +kernel
theorem dX8_enoughOf_46 : decode cX8_enoughOf 46 = .ok (.ifCond .eq 25, 3) := by decide +kernel
theorem dX8_enoughOf_49 : decode cX8_enoughOf 49 = .ok (.iload_n 3, 1) := by decide +kernel
theorem dX8_enoughOf_50 : decode cX8_enoughOf 50 = .ok (.iconst (-1), 1) := by decide +kernel
theorem dX8_enoughOf_51 : decode cX8_enoughOf 51 = .ok (.if_icmp .eq 15, 3) := by decide +kernel
theorem dX8_enoughOf_54 : decode cX8_enoughOf 54 = .ok (.iload 4, 2) := by decide +kernel
theorem dX8_enoughOf_56 : decode cX8_enoughOf 56 = .ok (.invokestatic 88, 3) := by decide +kernel
theorem dX8_enoughOf_59 : decode cX8_enoughOf 59 = .ok (.iload_n 3, 1) := by decide +kernel
theorem dX8_enoughOf_60 : decode cX8_enoughOf 60 = .ok (.invokestatic 88, 3) := by decide +kernel
theorem dX8_enoughOf_63 : decode cX8_enoughOf 63 = .ok (.if_icmp .ge 8, 3) := by decide +kernel
theorem dX8_enoughOf_66 : decode cX8_enoughOf 66 = .ok (.iload 4, 2) := by decide +kernel
theorem dX8_enoughOf_68 : decode cX8_enoughOf 68 = .ok (.goto 4, 3) := by decide +kernel
theorem dX8_enoughOf_71 : decode cX8_enoughOf 71 = .ok (.iload_n 3, 1) := by decide +kernel
theorem dX8_enoughOf_72 : decode cX8_enoughOf 72 = .ok (.istore_n 3, 1) := by decide +kernel
theorem dX8_enoughOf_73 : decode cX8_enoughOf 73 = .ok (.iinc 4 1, 3) := by decide +kernel
theorem dX8_enoughOf_76 : decode cX8_enoughOf 76 = .ok (.goto (-66), 3) := by decide +kernel
theorem dX8_enoughOf_79 : decode cX8_enoughOf 79 = .ok (.iload_n 3, 1) := by decide +kernel
theorem dX8_enoughOf_80 : decode cX8_enoughOf 80 = .ok (.ireturn, 1) := by decide +kernel
theorem dX8_enough_0 : decode cX8_enough 0 = .ok (.iload_n 1, 1) := by decide +kernel
theorem dX8_enough_1 : decode cX8_enough 1 = .ok (.iconst 0, 1) := by decide +kernel
theorem dX8_enough_2 : decode cX8_enough 2 = .ok (.bipush 99, 2) := by decide +kernel
theorem dX8_enough_4 : decode cX8_enough 4 = .ok (.invokestatic 94, 3) := by decide +kernel
theorem dX8_enough_7 : decode cX8_enough 7 = .ok (.ifCond .eq 11, 3) := by decide +kernel
theorem dX8_enough_10 : decode cX8_enough 10 = .ok (.aload_n 0, 1) := by decide +kernel
theorem dX8_enough_11 : decode cX8_enough 11 = .ok (.iload_n 1, 1) := by decide +kernel
theorem dX8_enough_12 : decode cX8_enough 12 = .ok (.invokevirtual 178, 3) := by decide +kernel
theorem dX8_enough_15 : decode cX8_enough 15 = .ok (.goto 5, 3) := by decide +kernel
theorem dX8_enough_18 : decode cX8_enough 18 = .ok (.bipush (-2), 2) := by decide +kernel
theorem dX8_enough_20 : decode cX8_enough 20 = .ok (.ireturn, 1) := by decide +kernel
theorem dX8_dearestNow_0 : decode cX8_dearestNow 0 = .ok (.aload_n 0, 1) := by decide +kernel
theorem dX8_dearestNow_1 : decode cX8_dearestNow 1 = .ok (.invokevirtual 160, 3) := by decide +kernel
theorem dX8_dearestNow_4 : decode cX8_dearestNow 4 = .ok (.istore_n 1, 1) := by decide +kernel
theorem dX8_dearestNow_5 : decode cX8_dearestNow 5 = .ok (.iconst (-1), 1) := by decide +kernel
theorem dX8_dearestNow_6 : decode cX8_dearestNow 6 = .ok (.istore_n 2, 1) := by decide +kernel
theorem dX8_dearestNow_7 : decode cX8_dearestNow 7 = .ok (.iconst 0, 1) := by decide +kernel
theorem dX8_dearestNow_8 : decode cX8_dearestNow 8 = .ok (.istore_n 3, 1) := by decide +kernel
theorem dX8_dearestNow_9 : decode cX8_dearestNow 9 = .ok (.iconst 0, 1) := by decide +kernel
theorem dX8_dearestNow_10 : decode cX8_dearestNow 10 = .ok (.istore 4, 2) := by decide +kernel
theorem dX8_dearestNow_12 : decode cX8_dearestNow 12 = .ok (.iload 4, 2) := by decide +kernel
theorem dX8_dearestNow_14 : decode cX8_dearestNow 14 = .ok (.bipush 9, 2) := by decide +kernel
theorem dX8_dearestNow_16 : decode cX8_dearestNow 16 = .ok (.if_icmp .ge 74, 3) := by decide +kernel
theorem dX8_dearestNow_19 : decode cX8_dearestNow 19 = .ok (.aload_n 0, 1) := by decide +kernel
theorem dX8_dearestNow_20 : decode cX8_dearestNow 20 = .ok (.iload_n 1, 1) := by decide +kernel
theorem dX8_dearestNow_21 : decode cX8_dearestNow 21 = .ok (.iconst 1, 1) := by decide +kernel
theorem dX8_dearestNow_22 : decode cX8_dearestNow 22 = .ok (.iload 4, 2) := by decide +kernel
theorem dX8_dearestNow_24 : decode cX8_dearestNow 24 = .ok (.ishl, 1) := by decide +kernel
theorem dX8_dearestNow_25 : decode cX8_dearestNow 25 = .ok (.iconst (-1), 1) := by decide +kernel
theorem dX8_dearestNow_26 : decode cX8_dearestNow 26 = .ok (.ixor, 1) := by decide +kernel
theorem dX8_dearestNow_27 : decode cX8_dearestNow 27 = .ok (.iand, 1) := by decide +kernel
theorem dX8_dearestNow_28 : decode cX8_dearestNow 28 = .ok (.invokevirtual 163, 3) := by decide +kernel
theorem dX8_dearestNow_31 : decode cX8_dearestNow 31 = .ok (.istore 5, 2) := by decide +kernel
theorem dX8_dearestNow_33 : decode cX8_dearestNow 33 = .ok (.iload_n 1, 1) := by decide +kernel
theorem dX8_dearestNow_34 : decode cX8_dearestNow 34 = .ok (.iload 4, 2) := by decide +kernel
theorem dX8_dearestNow_36 : decode cX8_dearestNow 36 = .ok (.invokestatic 140, 3) := by decide +kernel
theorem dX8_dearestNow_39 : decode cX8_dearestNow 39 = .ok (.ifCond .eq 18, 3) := by decide +kernel
theorem dX8_dearestNow_42 : decode cX8_dearestNow 42 = .ok (.iload_n 2, 1) := by decide +kernel
theorem dX8_dearestNow_43 : decode cX8_dearestNow 43 = .ok (.iconst (-1), 1) := by decide +kernel
theorem dX8_dearestNow_44 : decode cX8_dearestNow 44 = .ok (.if_icmp .eq 9, 3) := by decide +kernel
theorem dX8_dearestNow_47 : decode cX8_dearestNow 47 = .ok (.iload 5, 2) := by decide +kernel
theorem dX8_dearestNow_49 : decode cX8_dearestNow 49 = .ok (.iload_n 3, 1) := by decide +kernel
theorem dX8_dearestNow_50 : decode cX8_dearestNow 50 = .ok (.if_icmp .ge 7, 3) := by decide +kernel
theorem dX8_dearestNow_53 : decode cX8_dearestNow 53 = .ok (.iconst 1, 1) := by decide +kernel
theorem dX8_dearestNow_54 : decode cX8_dearestNow 54 = .ok (.goto 4, 3) := by decide +kernel
theorem dX8_dearestNow_57 : decode cX8_dearestNow 57 = .ok (.iconst 0, 1) := by decide +kernel
theorem dX8_dearestNow_58 : decode cX8_dearestNow 58 = .ok (.istore 6, 2) := by decide +kernel
theorem dX8_dearestNow_60 : decode cX8_dearestNow 60 = .ok (.iload 6, 2) := by decide +kernel
theorem dX8_dearestNow_62 : decode cX8_dearestNow 62 = .ok (.ifCond .eq 8, 3) := by decide +kernel
theorem dX8_dearestNow_65 : decode cX8_dearestNow 65 = .ok (.iload 4, 2) := by decide +kernel
theorem dX8_dearestNow_67 : decode cX8_dearestNow 67 = .ok (.goto 4, 3) := by decide +kernel
theorem dX8_dearestNow_70 : decode cX8_dearestNow 70 = .ok (.iload_n 2, 1) := by decide +kernel
theorem dX8_dearestNow_71 : decode cX8_dearestNow 71 = .ok (.istore_n 2, 1) := by decide +kernel
theorem dX8_dearestNow_72 : decode cX8_dearestNow 72 = .ok (.iload 6, 2) := by decide +kernel
theorem dX8_dearestNow_74 : decode cX8_dearestNow 74 = .ok (.ifCond .eq 8, 3) := by decide +kernel
theorem dX8_dearestNow_77 : decode cX8_dearestNow 77 = .ok (.iload 5, 2) := by decide +kernel
theorem dX8_dearestNow_79 : decode cX8_dearestNow 79 = .ok (.goto 4, 3) := by decide +kernel
theorem dX8_dearestNow_82 : decode cX8_dearestNow 82 = .ok (.iload_n 3, 1) := by decide +kernel
theorem dX8_dearestNow_83 : decode cX8_dearestNow 83 = .ok (.istore_n 3, 1) := by decide +kernel
theorem dX8_dearestNow_84 : decode cX8_dearestNow 84 = .ok (.iinc 4 1, 3) := by decide +kernel
theorem dX8_dearestNow_87 : decode cX8_dearestNow 87 = .ok (.goto (-75), 3) := by decide +kernel
theorem dX8_dearestNow_90 : decode cX8_dearestNow 90 = .ok (.iload_n 2, 1) := by decide +kernel
theorem dX8_dearestNow_91 : decode cX8_dearestNow 91 = .ok (.ireturn, 1) := by decide +kernel
theorem dX8_dearest_0 : decode cX8_dearest 0 = .ok (.aload_n 0, 1) := by decide +kernel
theorem dX8_dearest_1 : decode cX8_dearest 1 = .ok (.invokevirtual 181, 3) := by decide +kernel
theorem dX8_dearest_4 : decode cX8_dearest 4 = .ok (.ireturn, 1) := by decide +kernel
theorem dX8_laysWays_0 : decode cX8_laysWays 0 = .ok (.iconst 0, 1) := by decide +kernel
theorem dX8_laysWays_1 : decode cX8_laysWays 1 = .ok (.istore_n 2, 1) := by decide +kernel
theorem dX8_laysWays_2 : decode cX8_laysWays 2 = .ok (.iload_n 2, 1) := by decide +kernel
theorem dX8_laysWays_3 : decode cX8_laysWays 3 = .ok (.bipush 10, 2) := by decide +kernel
theorem dX8_laysWays_5 : decode cX8_laysWays 5 = .ok (.if_icmp .ge 79, 3) := by decide +kernel
theorem dX8_laysWays_8 : decode cX8_laysWays 8 = .ok (.iload_n 2, 1) := by decide +kernel
theorem dX8_laysWays_9 : decode cX8_laysWays 9 = .ok (.iload_n 1, 1) := by decide +kernel
theorem dX8_laysWays_10 : decode cX8_laysWays 10 = .ok (.if_icmp .ge 7, 3) := by decide +kernel
theorem dX8_laysWays_13 : decode cX8_laysWays 13 = .ok (.iload_n 2, 1) := by decide +kernel
theorem dX8_laysWays_14 : decode cX8_laysWays 14 = .ok (.goto 4, 3) := by decide +kernel
theorem dX8_laysWays_17 : decode cX8_laysWays 17 = .ok (.iload_n 1, 1) := by decide +kernel
theorem dX8_laysWays_18 : decode cX8_laysWays 18 = .ok (.istore_n 3, 1) := by decide +kernel
theorem dX8_laysWays_19 : decode cX8_laysWays 19 = .ok (.lconst 1, 1) := by decide +kernel
theorem dX8_laysWays_20 : decode cX8_laysWays 20 = .ok (.lstore 4, 2) := by decide +kernel
theorem dX8_laysWays_22 : decode cX8_laysWays 22 = .ok (.iconst 1, 1) := by decide +kernel
theorem dX8_laysWays_23 : decode cX8_laysWays 23 = .ok (.istore 6, 2) := by decide +kernel
theorem dX8_laysWays_25 : decode cX8_laysWays 25 = .ok (.iload 6, 2) := by decide +kernel
theorem dX8_laysWays_27 : decode cX8_laysWays 27 = .ok (.iload_n 3, 1) := by decide +kernel
theorem dX8_laysWays_28 : decode cX8_laysWays 28 = .ok (.if_icmp .gt 25, 3) := by decide +kernel
theorem dX8_laysWays_31 : decode cX8_laysWays 31 = .ok (.lload 4, 2) := by decide +kernel
theorem dX8_laysWays_33 : decode cX8_laysWays 33 = .ok (.iload_n 2, 1) := by decide +kernel
theorem dX8_laysWays_34 : decode cX8_laysWays 34 = .ok (.iload_n 3, 1) := by decide +kernel
theorem dX8_laysWays_35 : decode cX8_laysWays 35 = .ok (.isub, 1) := by decide +kernel
theorem dX8_laysWays_36 : decode cX8_laysWays 36 = .ok (.iload 6, 2) := by decide +kernel
theorem dX8_laysWays_38 : decode cX8_laysWays 38 = .ok (.iadd, 1) := by decide +kernel
theorem dX8_laysWays_39 : decode cX8_laysWays 39 = .ok (.i2l, 1) := by decide +kernel
theorem dX8_laysWays_40 : decode cX8_laysWays 40 = .ok (.lmul, 1) := by decide +kernel
theorem dX8_laysWays_41 : decode cX8_laysWays 41 = .ok (.iload 6, 2) := by decide +kernel
theorem dX8_laysWays_43 : decode cX8_laysWays 43 = .ok (.i2l, 1) := by decide +kernel
theorem dX8_laysWays_44 : decode cX8_laysWays 44 = .ok (.ldiv, 1) := by decide +kernel
theorem dX8_laysWays_45 : decode cX8_laysWays 45 = .ok (.lstore 4, 2) := by decide +kernel
theorem dX8_laysWays_47 : decode cX8_laysWays 47 = .ok (.iinc 6 1, 3) := by decide +kernel
theorem dX8_laysWays_50 : decode cX8_laysWays 50 = .ok (.goto (-25), 3) := by decide +kernel
theorem dX8_laysWays_53 : decode cX8_laysWays 53 = .ok (.aload_n 0, 1) := by decide +kernel
theorem dX8_laysWays_54 : decode cX8_laysWays 54 = .ok (.getfield 47, 3) := by decide +kernel
theorem dX8_laysWays_57 : decode cX8_laysWays 57 = .ok (.iload_n 2, 1) := by decide +kernel
theorem dX8_laysWays_58 : decode cX8_laysWays 58 = .ok (.iload_n 2, 1) := by decide +kernel
theorem dX8_laysWays_59 : decode cX8_laysWays 59 = .ok (.ifCond .ne 7, 3) := by decide +kernel
theorem dX8_laysWays_62 : decode cX8_laysWays 62 = .ok (.lconst 1, 1) := by decide +kernel
theorem dX8_laysWays_63 : decode cX8_laysWays 63 = .ok (.goto 14, 3) := by decide +kernel
theorem dX8_laysWays_66 : decode cX8_laysWays 66 = .ok (.lload 4, 2) := by decide +kernel
theorem dX8_laysWays_68 : decode cX8_laysWays 68 = .ok (.aload_n 0, 1) := by decide +kernel
theorem dX8_laysWays_69 : decode cX8_laysWays 69 = .ok (.getfield 47, 3) := by decide +kernel
theorem dX8_laysWays_72 : decode cX8_laysWays 72 = .ok (.iload_n 2, 1) := by decide +kernel
theorem dX8_laysWays_73 : decode cX8_laysWays 73 = .ok (.iload_n 3, 1) := by decide +kernel
theorem dX8_laysWays_74 : decode cX8_laysWays 74 = .ok (.isub, 1) := by decide +kernel
theorem dX8_laysWays_75 : decode cX8_laysWays 75 = .ok (.laload, 1) := by decide +kernel
theorem dX8_laysWays_76 : decode cX8_laysWays 76 = .ok (.lmul, 1) := by decide +kernel
theorem dX8_laysWays_77 : decode cX8_laysWays 77 = .ok (.lastore, 1) := by decide +kernel
theorem dX8_laysWays_78 : decode cX8_laysWays 78 = .ok (.iinc 2 1, 3) := by decide +kernel
theorem dX8_laysWays_81 : decode cX8_laysWays 81 = .ok (.goto (-79), 3) := by decide +kernel
theorem dX8_laysWays_84 : decode cX8_laysWays 84 = .ok (.return_, 1) := by decide +kernel
theorem dX8_laysOffers_0 : decode cX8_laysOffers 0 = .ok (.aload_n 0, 1) := by decide +kernel
theorem dX8_laysOffers_1 : decode cX8_laysOffers 1 = .ok (.invokevirtual 156, 3) := by decide +kernel
theorem dX8_laysOffers_4 : decode cX8_laysOffers 4 = .ok (.istore 4, 2) := by decide +kernel
theorem dX8_laysOffers_6 : decode cX8_laysOffers 6 = .ok (.aload_n 0, 1) := by decide +kernel
theorem dX8_laysOffers_7 : decode cX8_laysOffers 7 = .ok (.iload_n 3, 1) := by decide +kernel
theorem dX8_laysOffers_8 : decode cX8_laysOffers 8 = .ok (.invokevirtual 184, 3) := by decide +kernel
theorem dX8_laysOffers_11 : decode cX8_laysOffers 11 = .ok (.iconst 0, 1) := by decide +kernel
theorem dX8_laysOffers_12 : decode cX8_laysOffers 12 = .ok (.istore 5, 2) := by decide +kernel
theorem dX8_laysOffers_14 : decode cX8_laysOffers 14 = .ok (.iload 5, 2) := by decide +kernel
theorem dX8_laysOffers_16 : decode cX8_laysOffers 16 = .ok (.iload 4, 2) := by decide +kernel
theorem dX8_laysOffers_18 : decode cX8_laysOffers 18 = .ok (.if_icmp .gt 266, 3) := by decide +kernel
theorem dX8_laysOffers_21 : decode cX8_laysOffers 21 = .ok (.aload_n 0, 1) := by decide +kernel
theorem dX8_laysOffers_22 : decode cX8_laysOffers 22 = .ok (.getfield 44, 3) := by decide +kernel
theorem dX8_laysOffers_25 : decode cX8_laysOffers 25 = .ok (.iload 5, 2) := by decide +kernel
theorem dX8_laysOffers_27 : decode cX8_laysOffers 27 = .ok (.iaload, 1) := by decide +kernel
theorem dX8_laysOffers_28 : decode cX8_laysOffers 28 = .ok (.istore 6, 2) := by decide +kernel
theorem dX8_laysOffers_30 : decode cX8_laysOffers 30 = .ok (.iload 6, 2) := by decide +kernel
theorem dX8_laysOffers_32 : decode cX8_laysOffers 32 = .ok (.iload_n 3, 1) := by decide +kernel
theorem dX8_laysOffers_33 : decode cX8_laysOffers 33 = .ok (.if_icmp .ge 8, 3) := by decide +kernel
theorem dX8_laysOffers_36 : decode cX8_laysOffers 36 = .ok (.iload 6, 2) := by decide +kernel
theorem dX8_laysOffers_38 : decode cX8_laysOffers 38 = .ok (.goto 4, 3) := by decide +kernel
theorem dX8_laysOffers_41 : decode cX8_laysOffers 41 = .ok (.iload_n 3, 1) := by decide +kernel
theorem dX8_laysOffers_42 : decode cX8_laysOffers 42 = .ok (.istore 7, 2) := by decide +kernel
theorem dX8_laysOffers_44 : decode cX8_laysOffers 44 = .ok (.lconst 0, 1) := by decide +kernel
theorem dX8_laysOffers_45 : decode cX8_laysOffers 45 = .ok (.lstore 8, 2) := by decide +kernel
theorem dX8_laysOffers_47 : decode cX8_laysOffers 47 = .ok (.lconst 0, 1) := by decide +kernel
theorem dX8_laysOffers_48 : decode cX8_laysOffers 48 = .ok (.lstore 10, 2) := by decide +kernel
theorem dX8_laysOffers_50 : decode cX8_laysOffers 50 = .ok (.iload 5, 2) := by decide +kernel
theorem dX8_laysOffers_52 : decode cX8_laysOffers 52 = .ok (.istore 12, 2) := by decide +kernel
theorem dX8_laysOffers_54 : decode cX8_laysOffers 54 = .ok (.iload 12, 2) := by decide +kernel
theorem dX8_laysOffers_56 : decode cX8_laysOffers 56 = .ok (.ifCond .le 77, 3) := by decide +kernel
theorem dX8_laysOffers_59 : decode cX8_laysOffers 59 = .ok (.iload 12, 2) := by decide +kernel
theorem dX8_laysOffers_61 : decode cX8_laysOffers 61 = .ok (.iconst 1, 1) := by decide +kernel
theorem dX8_laysOffers_62 : decode cX8_laysOffers 62 = .ok (.isub, 1) := by decide +kernel
theorem dX8_laysOffers_63 : decode cX8_laysOffers 63 = .ok (.iload 5, 2) := by decide +kernel
theorem dX8_laysOffers_65 : decode cX8_laysOffers 65 = .ok (.iand, 1) := by decide +kernel
theorem dX8_laysOffers_66 : decode cX8_laysOffers 66 = .ok (.istore 12, 2) := by decide +kernel
theorem dX8_laysOffers_68 : decode cX8_laysOffers 68 = .ok (.lload 8, 2) := by decide +kernel
theorem dX8_laysOffers_70 : decode cX8_laysOffers 70 = .ok (.aload_n 0, 1) := by decide +kernel
theorem dX8_laysOffers_71 : decode cX8_laysOffers 71 = .ok (.getfield 44, 3) := by decide +kernel
theorem dX8_laysOffers_74 : decode cX8_laysOffers 74 = .ok (.iload 12, 2) := by decide +kernel
theorem dX8_laysOffers_76 : decode cX8_laysOffers 76 = .ok (.iaload, 1) := by decide +kernel
theorem dX8_laysOffers_77 : decode cX8_laysOffers 77 = .ok (.iload 6, 2) := by decide +kernel
theorem dX8_laysOffers_79 : decode cX8_laysOffers 79 = .ok (.iload 7, 2) := by decide +kernel
theorem dX8_laysOffers_81 : decode cX8_laysOffers 81 = .ok (.isub, 1) := by decide +kernel
theorem dX8_laysOffers_82 : decode cX8_laysOffers 82 = .ok (.if_icmp .ne 13, 3) := by decide +kernel
theorem dX8_laysOffers_85 : decode cX8_laysOffers 85 = .ok (.aload_n 0, 1) := by decide +kernel
theorem dX8_laysOffers_86 : decode cX8_laysOffers 86 = .ok (.getfield 34, 3) := by decide +kernel
theorem dX8_laysOffers_89 : decode cX8_laysOffers 89 = .ok (.iload 12, 2) := by decide +kernel
theorem dX8_laysOffers_91 : decode cX8_laysOffers 91 = .ok (.laload, 1) := by decide +kernel
theorem dX8_laysOffers_92 : decode cX8_laysOffers 92 = .ok (.goto 4, 3) := by decide +kernel
theorem dX8_laysOffers_95 : decode cX8_laysOffers 95 = .ok (.lconst 0, 1) := by decide +kernel
theorem dX8_laysOffers_96 : decode cX8_laysOffers 96 = .ok (.ladd, 1) := by decide +kernel
theorem dX8_laysOffers_97 : decode cX8_laysOffers 97 = .ok (.lstore 8, 2) := by decide +kernel
theorem dX8_laysOffers_99 : decode cX8_laysOffers 99 = .ok (.lload 10, 2) := by decide +kernel
theorem dX8_laysOffers_101 : decode cX8_laysOffers 101 = .ok (.aload_n 0, 1) := by decide +kernel
theorem dX8_laysOffers_102 : decode cX8_laysOffers 102 = .ok (.getfield 44, 3) := by decide +kernel
theorem dX8_laysOffers_105 : decode cX8_laysOffers 105 = .ok (.iload 12, 2) := by decide +kernel
theorem dX8_laysOffers_107 : decode cX8_laysOffers 107 = .ok (.iaload, 1) := by decide +kernel
theorem dX8_laysOffers_108 : decode cX8_laysOffers 108 = .ok (.iload 6, 2) := by decide +kernel
theorem dX8_laysOffers_110 : decode cX8_laysOffers 110 = .ok (.iload 7, 2) := by decide +kernel
theorem dX8_laysOffers_112 : decode cX8_laysOffers 112 = .ok (.isub, 1) := by decide +kernel
theorem dX8_laysOffers_113 : decode cX8_laysOffers 113 = .ok (.if_icmp .ne 13, 3) := by decide +kernel
theorem dX8_laysOffers_116 : decode cX8_laysOffers 116 = .ok (.aload_n 0, 1) := by decide +kernel
theorem dX8_laysOffers_117 : decode cX8_laysOffers 117 = .ok (.getfield 38, 3) := by decide +kernel
theorem dX8_laysOffers_120 : decode cX8_laysOffers 120 = .ok (.iload 12, 2) := by decide +kernel
theorem dX8_laysOffers_122 : decode cX8_laysOffers 122 = .ok (.laload, 1) := by decide +kernel
theorem dX8_laysOffers_123 : decode cX8_laysOffers 123 = .ok (.goto 4, 3) := by decide +kernel
theorem dX8_laysOffers_126 : decode cX8_laysOffers 126 = .ok (.lconst 0, 1) := by decide +kernel
theorem dX8_laysOffers_127 : decode cX8_laysOffers 127 = .ok (.ladd, 1) := by decide +kernel
theorem dX8_laysOffers_128 : decode cX8_laysOffers 128 = .ok (.lstore 10, 2) := by decide +kernel
theorem dX8_laysOffers_130 : decode cX8_laysOffers 130 = .ok (.goto (-76), 3) := by decide +kernel
theorem dX8_laysOffers_133 : decode cX8_laysOffers 133 = .ok (.aload_n 0, 1) := by decide +kernel
theorem dX8_laysOffers_134 : decode cX8_laysOffers 134 = .ok (.getfield 28, 3) := by decide +kernel
theorem dX8_laysOffers_137 : decode cX8_laysOffers 137 = .ok (.iload_n 1, 1) := by decide +kernel
theorem dX8_laysOffers_138 : decode cX8_laysOffers 138 = .ok (.iaload, 1) := by decide +kernel
theorem dX8_laysOffers_139 : decode cX8_laysOffers 139 = .ok (.aload_n 0, 1) := by decide +kernel
theorem dX8_laysOffers_140 : decode cX8_laysOffers 140 = .ok (.iload 5, 2) := by decide +kernel
theorem dX8_laysOffers_142 : decode cX8_laysOffers 142 = .ok (.invokevirtual 163, 3) := by decide +kernel
theorem dX8_laysOffers_145 : decode cX8_laysOffers 145 = .ok (.imul, 1) := by decide +kernel
theorem dX8_laysOffers_146 : decode cX8_laysOffers 146 = .ok (.iload_n 2, 1) := by decide +kernel
theorem dX8_laysOffers_147 : decode cX8_laysOffers 147 = .ok (.isub, 1) := by decide +kernel
theorem dX8_laysOffers_148 : decode cX8_laysOffers 148 = .ok (.i2l, 1) := by decide +kernel
theorem dX8_laysOffers_149 : decode cX8_laysOffers 149 = .ok (.aload_n 0, 1) := by decide +kernel
theorem dX8_laysOffers_150 : decode cX8_laysOffers 150 = .ok (.getfield 47, 3) := by decide +kernel
theorem dX8_laysOffers_153 : decode cX8_laysOffers 153 = .ok (.iload 6, 2) := by decide +kernel
theorem dX8_laysOffers_155 : decode cX8_laysOffers 155 = .ok (.laload, 1) := by decide +kernel
theorem dX8_laysOffers_156 : decode cX8_laysOffers 156 = .ok (.lmul, 1) := by decide +kernel
theorem dX8_laysOffers_157 : decode cX8_laysOffers 157 = .ok (.lstore 13, 2) := by decide +kernel
theorem dX8_laysOffers_159 : decode cX8_laysOffers 159 = .ok (.iload 6, 2) := by decide +kernel
theorem dX8_laysOffers_161 : decode cX8_laysOffers 161 = .ok (.ifCond .le 32, 3) := by decide +kernel
theorem dX8_laysOffers_164 : decode cX8_laysOffers 164 = .ok (.aload_n 0, 1) := by decide +kernel
theorem dX8_laysOffers_165 : decode cX8_laysOffers 165 = .ok (.getfield 25, 3) := by decide +kernel
theorem dX8_laysOffers_168 : decode cX8_laysOffers 168 = .ok (.iload_n 1, 1) := by decide +kernel
theorem dX8_laysOffers_169 : decode cX8_laysOffers 169 = .ok (.iaload, 1) := by decide +kernel
theorem dX8_laysOffers_170 : decode cX8_laysOffers 170 = .ok (.iload_n 2, 1) := by decide +kernel
theorem dX8_laysOffers_171 : decode cX8_laysOffers 171 = .ok (.if_icmp .lt 22, 3) := by decide +kernel
theorem dX8_laysOffers_174 : decode cX8_laysOffers 174 = .ok (.lload 13, 2) := by decide +kernel
theorem dX8_laysOffers_176 : decode cX8_laysOffers 176 = .ok (.lload 8, 2) := by decide +kernel
theorem dX8_laysOffers_178 : decode cX8_laysOffers 178 = .ok (.lcmp, 1) := by decide +kernel
theorem dX8_laysOffers_179 : decode cX8_laysOffers 179 = .ok (.ifCond .lt 14, 3) := by decide +kernel
theorem dX8_laysOffers_182 : decode cX8_laysOffers 182 = .ok (.lload 13, 2) := by decide +kernel
theorem dX8_laysOffers_184 : decode cX8_laysOffers 184 = .ok (.lconst 0, 1) := by decide +kernel
theorem dX8_laysOffers_185 : decode cX8_laysOffers 185 = .ok (.lcmp, 1) := by decide +kernel
theorem dX8_laysOffers_186 : decode cX8_laysOffers 186 = .ok (.ifCond .lt 7, 3) := by decide +kernel
theorem dX8_laysOffers_189 : decode cX8_laysOffers 189 = .ok (.iconst 1, 1) := by decide +kernel
theorem dX8_laysOffers_190 : decode cX8_laysOffers 190 = .ok (.goto 4, 3) := by decide +kernel
theorem dX8_laysOffers_193 : decode cX8_laysOffers 193 = .ok (.iconst 0, 1) := by decide +kernel
theorem dX8_laysOffers_194 : decode cX8_laysOffers 194 = .ok (.istore 15, 2) := by decide +kernel
theorem dX8_laysOffers_196 : decode cX8_laysOffers 196 = .ok (.aload_n 0, 1) := by decide +kernel
theorem dX8_laysOffers_197 : decode cX8_laysOffers 197 = .ok (.getfield 41, 3) := by decide +kernel
theorem dX8_laysOffers_200 : decode cX8_laysOffers 200 = .ok (.iload 5, 2) := by decide +kernel
theorem dX8_laysOffers_202 : decode cX8_laysOffers 202 = .ok (.iload 15, 2) := by decide +kernel
theorem dX8_laysOffers_204 : decode cX8_laysOffers 204 = .ok (.ifCond .eq 7, 3) := by decide +kernel
theorem dX8_laysOffers_207 : decode cX8_laysOffers 207 = .ok (.iconst 2, 1) := by decide +kernel
theorem dX8_laysOffers_208 : decode cX8_laysOffers 208 = .ok (.goto 15, 3) := by decide +kernel
theorem dX8_laysOffers_211 : decode cX8_laysOffers 211 = .ok (.lload 8, 2) := by decide +kernel
theorem dX8_laysOffers_213 : decode cX8_laysOffers 213 = .ok (.lconst 0, 1) := by decide +kernel
theorem dX8_laysOffers_214 : decode cX8_laysOffers 214 = .ok (.lcmp, 1) := by decide +kernel
theorem dX8_laysOffers_215 : decode cX8_laysOffers 215 = .ok (.ifCond .le 7, 3) := by decide +kernel
theorem dX8_laysOffers_218 : decode cX8_laysOffers 218 = .ok (.iconst 1, 1) := by decide +kernel
theorem dX8_laysOffers_219 : decode cX8_laysOffers 219 = .ok (.goto 4, 3) := by decide +kernel
theorem dX8_laysOffers_222 : decode cX8_laysOffers 222 = .ok (.iconst 0, 1) := by decide +kernel
theorem dX8_laysOffers_223 : decode cX8_laysOffers 223 = .ok (.iastore, 1) := by decide +kernel
theorem dX8_laysOffers_224 : decode cX8_laysOffers 224 = .ok (.aload_n 0, 1) := by decide +kernel
theorem dX8_laysOffers_225 : decode cX8_laysOffers 225 = .ok (.getfield 34, 3) := by decide +kernel
theorem dX8_laysOffers_228 : decode cX8_laysOffers 228 = .ok (.iload 5, 2) := by decide +kernel
theorem dX8_laysOffers_230 : decode cX8_laysOffers 230 = .ok (.iload 15, 2) := by decide +kernel
theorem dX8_laysOffers_232 : decode cX8_laysOffers 232 = .ok (.ifCond .eq 8, 3) := by decide +kernel
theorem dX8_laysOffers_235 : decode cX8_laysOffers 235 = .ok (.lload 13, 2) := by decide +kernel
theorem dX8_laysOffers_237 : decode cX8_laysOffers 237 = .ok (.goto 5, 3) := by decide +kernel
theorem dX8_laysOffers_240 : decode cX8_laysOffers 240 = .ok (.lload 8, 2) := by decide +kernel
theorem dX8_laysOffers_242 : decode cX8_laysOffers 242 = .ok (.lastore, 1) := by decide +kernel
theorem dX8_laysOffers_243 : decode cX8_laysOffers 243 = .ok (.aload_n 0, 1) := by decide +kernel
theorem dX8_laysOffers_244 : decode cX8_laysOffers 244 = .ok (.getfield 38, 3) := by decide +kernel
theorem dX8_laysOffers_247 : decode cX8_laysOffers 247 = .ok (.iload 5, 2) := by decide +kernel
theorem dX8_laysOffers_249 : decode cX8_laysOffers 249 = .ok (.iload 15, 2) := by decide +kernel
theorem dX8_laysOffers_251 : decode cX8_laysOffers 251 = .ok (.ifCond .eq 13, 3) := by decide +kernel
theorem dX8_laysOffers_254 : decode cX8_laysOffers 254 = .ok (.aload_n 0, 1) := by decide +kernel
theorem dX8_laysOffers_255 : decode cX8_laysOffers 255 = .ok (.getfield 47, 3) := by decide +kernel
theorem dX8_laysOffers_258 : decode cX8_laysOffers 258 = .ok (.iload 6, 2) := by decide +kernel
theorem dX8_laysOffers_260 : decode cX8_laysOffers 260 = .ok (.laload, 1) := by decide +kernel
theorem dX8_laysOffers_261 : decode cX8_laysOffers 261 = .ok (.goto 16, 3) := by decide +kernel
theorem dX8_laysOffers_264 : decode cX8_laysOffers 264 = .ok (.lload 8, 2) := by decide +kernel
theorem dX8_laysOffers_266 : decode cX8_laysOffers 266 = .ok (.lconst 0, 1) := by decide +kernel
theorem dX8_laysOffers_267 : decode cX8_laysOffers 267 = .ok (.lcmp, 1) := by decide +kernel
theorem dX8_laysOffers_268 : decode cX8_laysOffers 268 = .ok (.ifCond .le 8, 3) := by decide +kernel
theorem dX8_laysOffers_271 : decode cX8_laysOffers 271 = .ok (.lload 10, 2) := by decide +kernel
theorem dX8_laysOffers_273 : decode cX8_laysOffers 273 = .ok (.goto 4, 3) := by decide +kernel
theorem dX8_laysOffers_276 : decode cX8_laysOffers 276 = .ok (.lconst 0, 1) := by decide +kernel
theorem dX8_laysOffers_277 : decode cX8_laysOffers 277 = .ok (.lastore, 1) := by decide +kernel
theorem dX8_laysOffers_278 : decode cX8_laysOffers 278 = .ok (.iinc 5 1, 3) := by decide +kernel
theorem dX8_laysOffers_281 : decode cX8_laysOffers 281 = .ok (.goto (-267), 3) := by decide +kernel
theorem dX8_laysOffers_284 : decode cX8_laysOffers 284 = .ok (.return_, 1) := by decide +kernel
theorem dX8_actOf_0 : decode cX8_actOf 0 = .ok (.aload_n 0, 1) := by decide +kernel
theorem dX8_actOf_1 : decode cX8_actOf 1 = .ok (.iload_n 1, 1) := by decide +kernel
theorem dX8_actOf_2 : decode cX8_actOf 2 = .ok (.iload_n 3, 1) := by decide +kernel
theorem dX8_actOf_3 : decode cX8_actOf 3 = .ok (.aload_n 0, 1) := by decide +kernel
theorem dX8_actOf_4 : decode cX8_actOf 4 = .ok (.getfield 82, 3) := by decide +kernel
theorem dX8_actOf_7 : decode cX8_actOf 7 = .ok (.invokevirtual 188, 3) := by decide +kernel
theorem dX8_actOf_10 : decode cX8_actOf 10 = .ok (.aload_n 0, 1) := by decide +kernel
theorem dX8_actOf_11 : decode cX8_actOf 11 = .ok (.getfield 41, 3) := by decide +kernel
theorem dX8_actOf_14 : decode cX8_actOf 14 = .ok (.iload_n 2, 1) := by decide +kernel
theorem dX8_actOf_15 : decode cX8_actOf 15 = .ok (.aload_n 0, 1) := by decide +kernel
theorem dX8_actOf_16 : decode cX8_actOf 16 = .ok (.invokevirtual 156, 3) := by decide +kernel
theorem dX8_actOf_19 : decode cX8_actOf 19 = .ok (.iand, 1) := by decide +kernel
theorem dX8_actOf_20 : decode cX8_actOf 20 = .ok (.iaload, 1) := by decide +kernel
theorem dX8_actOf_21 : decode cX8_actOf 21 = .ok (.ireturn, 1) := by decide +kernel
theorem dX8_act_0 : decode cX8_act 0 = .ok (.aload_n 0, 1) := by decide +kernel
theorem dX8_act_1 : decode cX8_act 1 = .ok (.iload_n 1, 1) := by decide +kernel
theorem dX8_act_2 : decode cX8_act 2 = .ok (.invokevirtual 134, 3) := by decide +kernel
theorem dX8_act_5 : decode cX8_act 5 = .ok (.ifCond .eq 23, 3) := by decide +kernel
theorem dX8_act_8 : decode cX8_act 8 = .ok (.iload_n 2, 1) := by decide +kernel
theorem dX8_act_9 : decode cX8_act 9 = .ok (.invokestatic 166, 3) := by decide +kernel
theorem dX8_act_12 : decode cX8_act 12 = .ok (.ifCond .eq 16, 3) := by decide +kernel
theorem dX8_act_15 : decode cX8_act 15 = .ok (.aload_n 0, 1) := by decide +kernel
theorem dX8_act_16 : decode cX8_act 16 = .ok (.iload_n 1, 1) := by decide +kernel
theorem dX8_act_17 : decode cX8_act 17 = .ok (.iload_n 2, 1) := by decide +kernel
theorem dX8_act_18 : decode cX8_act 18 = .ok (.aload_n 0, 1) := by decide +kernel
theorem dX8_act_19 : decode cX8_act 19 = .ok (.getfield 78, 3) := by decide +kernel
theorem dX8_act_22 : decode cX8_act 22 = .ok (.invokevirtual 192, 3) := by decide +kernel
theorem dX8_act_25 : decode cX8_act 25 = .ok (.goto 5, 3) := by decide +kernel
theorem dX8_act_28 : decode cX8_act 28 = .ok (.bipush (-2), 2) := by decide +kernel
theorem dX8_act_30 : decode cX8_act 30 = .ok (.ireturn, 1) := by decide +kernel
theorem dX8_valueOf_0 : decode cX8_valueOf 0 = .ok (.aload_n 0, 1) := by decide +kernel
theorem dX8_valueOf_1 : decode cX8_valueOf 1 = .ok (.iload_n 1, 1) := by decide +kernel
theorem dX8_valueOf_2 : decode cX8_valueOf 2 = .ok (.aload_n 0, 1) := by decide +kernel
theorem dX8_valueOf_3 : decode cX8_valueOf 3 = .ok (.getfield 78, 3) := by decide +kernel
theorem dX8_valueOf_6 : decode cX8_valueOf 6 = .ok (.aload_n 0, 1) := by decide +kernel
theorem dX8_valueOf_7 : decode cX8_valueOf 7 = .ok (.getfield 82, 3) := by decide +kernel
theorem dX8_valueOf_10 : decode cX8_valueOf 10 = .ok (.invokevirtual 188, 3) := by decide +kernel
theorem dX8_valueOf_13 : decode cX8_valueOf 13 = .ok (.iload_n 2, 1) := by decide +kernel
theorem dX8_valueOf_14 : decode cX8_valueOf 14 = .ok (.aload_n 0, 1) := by decide +kernel
theorem dX8_valueOf_15 : decode cX8_valueOf 15 = .ok (.invokevirtual 156, 3) := by decide +kernel
theorem dX8_valueOf_18 : decode cX8_valueOf 18 = .ok (.iand, 1) := by decide +kernel
theorem dX8_valueOf_19 : decode cX8_valueOf 19 = .ok (.istore 4, 2) := by decide +kernel
theorem dX8_valueOf_21 : decode cX8_valueOf 21 = .ok (.aload_n 0, 1) := by decide +kernel
theorem dX8_valueOf_22 : decode cX8_valueOf 22 = .ok (.getfield 34, 3) := by decide +kernel
theorem dX8_valueOf_25 : decode cX8_valueOf 25 = .ok (.iload 4, 2) := by decide +kernel
theorem dX8_valueOf_27 : decode cX8_valueOf 27 = .ok (.laload, 1) := by decide +kernel
theorem dX8_valueOf_28 : decode cX8_valueOf 28 = .ok (.aload_n 0, 1) := by decide +kernel
theorem dX8_valueOf_29 : decode cX8_valueOf 29 = .ok (.getfield 47, 3) := by decide +kernel
theorem dX8_valueOf_32 : decode cX8_valueOf 32 = .ok (.iload 4, 2) := by decide +kernel
theorem dX8_valueOf_34 : decode cX8_valueOf 34 = .ok (.invokestatic 88, 3) := by decide +kernel
theorem dX8_valueOf_37 : decode cX8_valueOf 37 = .ok (.laload, 1) := by decide +kernel
theorem dX8_valueOf_38 : decode cX8_valueOf 38 = .ok (.iload_n 3, 1) := by decide +kernel
theorem dX8_valueOf_39 : decode cX8_valueOf 39 = .ok (.invokestatic 195, 3) := by decide +kernel
theorem dX8_valueOf_42 : decode cX8_valueOf 42 = .ok (.lreturn, 1) := by decide +kernel
theorem dX8_value_0 : decode cX8_value 0 = .ok (.aload_n 0, 1) := by decide +kernel
theorem dX8_value_1 : decode cX8_value 1 = .ok (.iload_n 1, 1) := by decide +kernel
theorem dX8_value_2 : decode cX8_value 2 = .ok (.invokevirtual 134, 3) := by decide +kernel
theorem dX8_value_5 : decode cX8_value 5 = .ok (.ifCond .eq 29, 3) := by decide +kernel
theorem dX8_value_8 : decode cX8_value 8 = .ok (.iload_n 2, 1) := by decide +kernel
theorem dX8_value_9 : decode cX8_value 9 = .ok (.invokestatic 166, 3) := by decide +kernel
theorem dX8_value_12 : decode cX8_value 12 = .ok (.ifCond .eq 22, 3) := by decide +kernel
theorem dX8_value_15 : decode cX8_value 15 = .ok (.iload_n 3, 1) := by decide +kernel
theorem dX8_value_16 : decode cX8_value 16 = .ok (.iconst 0, 1) := by decide +kernel
theorem dX8_value_17 : decode cX8_value 17 = .ok (.iconst 1, 1) := by decide +kernel
theorem dX8_value_18 : decode cX8_value 18 = .ok (.invokestatic 94, 3) := by decide +kernel
theorem dX8_value_21 : decode cX8_value 21 = .ok (.ifCond .eq 13, 3) := by decide +kernel
theorem dX8_value_24 : decode cX8_value 24 = .ok (.aload_n 0, 1) := by decide +kernel
theorem dX8_value_25 : decode cX8_value 25 = .ok (.iload_n 1, 1) := by decide +kernel
theorem dX8_value_26 : decode cX8_value 26 = .ok (.iload_n 2, 1) := by decide +kernel
theorem dX8_value_27 : decode cX8_value 27 = .ok (.iload_n 3, 1) := by decide +kernel
theorem dX8_value_28 : decode cX8_value 28 = .ok (.invokevirtual 199, 3) := by decide +kernel
theorem dX8_value_31 : decode cX8_value 31 = .ok (.goto 8, 3) := by decide +kernel
theorem dX8_value_34 : decode cX8_value 34 = .ok (.bipush (-2), 2) := by decide +kernel
theorem dX8_value_36 : decode cX8_value 36 = .ok (.invokestatic 203, 3) := by decide +kernel
theorem dX8_value_39 : decode cX8_value 39 = .ok (.lreturn, 1) := by decide +kernel
theorem dX8_takeOf_0 : decode cX8_takeOf 0 = .ok (.aload_n 0, 1) := by decide +kernel
theorem dX8_takeOf_1 : decode cX8_takeOf 1 = .ok (.iload_n 1, 1) := by decide +kernel
theorem dX8_takeOf_2 : decode cX8_takeOf 2 = .ok (.iload_n 2, 1) := by decide +kernel
theorem dX8_takeOf_3 : decode cX8_takeOf 3 = .ok (.aload_n 0, 1) := by decide +kernel
theorem dX8_takeOf_4 : decode cX8_takeOf 4 = .ok (.getfield 82, 3) := by decide +kernel
theorem dX8_takeOf_7 : decode cX8_takeOf 7 = .ok (.invokevirtual 188, 3) := by decide +kernel
theorem dX8_takeOf_10 : decode cX8_takeOf 10 = .ok (.aload_n 0, 1) := by decide +kernel
theorem dX8_takeOf_11 : decode cX8_takeOf 11 = .ok (.invokevirtual 160, 3) := by decide +kernel
theorem dX8_takeOf_14 : decode cX8_takeOf 14 = .ok (.istore 5, 2) := by decide +kernel
theorem dX8_takeOf_16 : decode cX8_takeOf 16 = .ok (.iload_n 3, 1) := by decide +kernel
theorem dX8_takeOf_17 : decode cX8_takeOf 17 = .ok (.i2l, 1) := by decide +kernel
theorem dX8_takeOf_18 : decode cX8_takeOf 18 = .ok (.aload_n 0, 1) := by decide +kernel
theorem dX8_takeOf_19 : decode cX8_takeOf 19 = .ok (.getfield 38, 3) := by decide +kernel
theorem dX8_takeOf_22 : decode cX8_takeOf 22 = .ok (.iload 5, 2) := by decide +kernel
theorem dX8_takeOf_24 : decode cX8_takeOf 24 = .ok (.laload, 1) := by decide +kernel
theorem dX8_takeOf_25 : decode cX8_takeOf 25 = .ok (.lmul, 1) := by decide +kernel
theorem dX8_takeOf_26 : decode cX8_takeOf 26 = .ok (.aload_n 0, 1) := by decide +kernel
theorem dX8_takeOf_27 : decode cX8_takeOf 27 = .ok (.getfield 47, 3) := by decide +kernel
theorem dX8_takeOf_30 : decode cX8_takeOf 30 = .ok (.iload 5, 2) := by decide +kernel
theorem dX8_takeOf_32 : decode cX8_takeOf 32 = .ok (.invokestatic 88, 3) := by decide +kernel
theorem dX8_takeOf_35 : decode cX8_takeOf 35 = .ok (.laload, 1) := by decide +kernel
theorem dX8_takeOf_36 : decode cX8_takeOf 36 = .ok (.iload 4, 2) := by decide +kernel
theorem dX8_takeOf_38 : decode cX8_takeOf 38 = .ok (.invokestatic 195, 3) := by decide +kernel
theorem dX8_takeOf_41 : decode cX8_takeOf 41 = .ok (.lreturn, 1) := by decide +kernel
theorem dX8_buys_0 : decode cX8_buys 0 = .ok (.aload_n 0, 1) := by decide +kernel
theorem dX8_buys_1 : decode cX8_buys 1 = .ok (.iload_n 1, 1) := by decide +kernel
theorem dX8_buys_2 : decode cX8_buys 2 = .ok (.invokevirtual 134, 3) := by decide +kernel
theorem dX8_buys_5 : decode cX8_buys 5 = .ok (.ifCond .eq 26, 3) := by decide +kernel
theorem dX8_buys_8 : decode cX8_buys 8 = .ok (.iload_n 2, 1) := by decide +kernel
theorem dX8_buys_9 : decode cX8_buys 9 = .ok (.iconst 0, 1) := by decide +kernel
theorem dX8_buys_10 : decode cX8_buys 10 = .ok (.iconst 1, 1) := by decide +kernel
theorem dX8_buys_11 : decode cX8_buys 11 = .ok (.invokestatic 94, 3) := by decide +kernel
theorem dX8_buys_14 : decode cX8_buys 14 = .ok (.ifCond .eq 17, 3) := by decide +kernel
theorem dX8_buys_17 : decode cX8_buys 17 = .ok (.aload_n 0, 1) := by decide +kernel
theorem dX8_buys_18 : decode cX8_buys 18 = .ok (.iload_n 1, 1) := by decide +kernel
theorem dX8_buys_19 : decode cX8_buys 19 = .ok (.aload_n 0, 1) := by decide +kernel
theorem dX8_buys_20 : decode cX8_buys 20 = .ok (.getfield 78, 3) := by decide +kernel
theorem dX8_buys_23 : decode cX8_buys 23 = .ok (.iconst 1, 1) := by decide +kernel
theorem dX8_buys_24 : decode cX8_buys 24 = .ok (.iload_n 2, 1) := by decide +kernel
theorem dX8_buys_25 : decode cX8_buys 25 = .ok (.invokevirtual 207, 3) := by decide +kernel
theorem dX8_buys_28 : decode cX8_buys 28 = .ok (.goto 8, 3) := by decide +kernel
theorem dX8_buys_31 : decode cX8_buys 31 = .ok (.bipush (-2), 2) := by decide +kernel
theorem dX8_buys_33 : decode cX8_buys 33 = .ok (.invokestatic 203, 3) := by decide +kernel
theorem dX8_buys_36 : decode cX8_buys 36 = .ok (.lreturn, 1) := by decide +kernel
theorem dX8_take_0 : decode cX8_take 0 = .ok (.aload_n 0, 1) := by decide +kernel
theorem dX8_take_1 : decode cX8_take 1 = .ok (.iload_n 1, 1) := by decide +kernel
theorem dX8_take_2 : decode cX8_take 2 = .ok (.invokevirtual 134, 3) := by decide +kernel
theorem dX8_take_5 : decode cX8_take 5 = .ok (.ifCond .eq 33, 3) := by decide +kernel
theorem dX8_take_8 : decode cX8_take 8 = .ok (.iload_n 2, 1) := by decide +kernel
theorem dX8_take_9 : decode cX8_take 9 = .ok (.iconst 0, 1) := by decide +kernel
theorem dX8_take_10 : decode cX8_take 10 = .ok (.bipush 99, 2) := by decide +kernel
theorem dX8_take_12 : decode cX8_take 12 = .ok (.invokestatic 94, 3) := by decide +kernel
theorem dX8_take_15 : decode cX8_take 15 = .ok (.ifCond .eq 23, 3) := by decide +kernel
theorem dX8_take_18 : decode cX8_take 18 = .ok (.iload_n 3, 1) := by decide +kernel
theorem dX8_take_19 : decode cX8_take 19 = .ok (.iconst 0, 1) := by decide +kernel
theorem dX8_take_20 : decode cX8_take 20 = .ok (.iconst 1, 1) := by decide +kernel
theorem dX8_take_21 : decode cX8_take 21 = .ok (.invokestatic 94, 3) := by decide +kernel
theorem dX8_take_24 : decode cX8_take 24 = .ok (.ifCond .eq 14, 3) := by decide +kernel
theorem dX8_take_27 : decode cX8_take 27 = .ok (.aload_n 0, 1) := by decide +kernel
theorem dX8_take_28 : decode cX8_take 28 = .ok (.iload_n 1, 1) := by decide +kernel
theorem dX8_take_29 : decode cX8_take 29 = .ok (.iload_n 2, 1) := by decide +kernel
theorem dX8_take_30 : decode cX8_take 30 = .ok (.iload_n 2, 1) := by decide +kernel
theorem dX8_take_31 : decode cX8_take 31 = .ok (.iload_n 3, 1) := by decide +kernel
theorem dX8_take_32 : decode cX8_take 32 = .ok (.invokevirtual 207, 3) := by decide +kernel
theorem dX8_take_35 : decode cX8_take 35 = .ok (.goto 8, 3) := by decide +kernel
theorem dX8_take_38 : decode cX8_take 38 = .ok (.bipush (-2), 2) := by decide +kernel
theorem dX8_take_40 : decode cX8_take 40 = .ok (.invokestatic 203, 3) := by decide +kernel
theorem dX8_take_43 : decode cX8_take 43 = .ok (.lreturn, 1) := by decide +kernel
theorem dX8_priceOf_0 : decode cX8_priceOf 0 = .ok (.aload_n 0, 1) := by decide +kernel
theorem dX8_priceOf_1 : decode cX8_priceOf 1 = .ok (.invokevirtual 160, 3) := by decide +kernel
theorem dX8_priceOf_4 : decode cX8_priceOf 4 = .ok (.istore_n 2, 1) := by decide +kernel
theorem dX8_priceOf_5 : decode cX8_priceOf 5 = .ok (.iconst 0, 1) := by decide +kernel
theorem dX8_priceOf_6 : decode cX8_priceOf 6 = .ok (.istore_n 3, 1) := by decide +kernel
theorem dX8_priceOf_7 : decode cX8_priceOf 7 = .ok (.lconst 0, 1) := by decide +kernel
theorem dX8_priceOf_8 : decode cX8_priceOf 8 = .ok (.lstore 4, 2) := by decide +kernel
theorem dX8_priceOf_10 : decode cX8_priceOf 10 = .ok (.iconst 1, 1) := by decide +kernel
theorem dX8_priceOf_11 : decode cX8_priceOf 11 = .ok (.istore 6, 2) := by decide +kernel
theorem dX8_priceOf_13 : decode cX8_priceOf 13 = .ok (.iload 6, 2) := by decide +kernel
theorem dX8_priceOf_15 : decode cX8_priceOf 15 = .ok (.bipush 100, 2) := by decide +kernel
theorem dX8_priceOf_17 : decode cX8_priceOf 17 = .ok (.if_icmp .ge 77, 3) := by decide +kernel
theorem dX8_priceOf_20 : decode cX8_priceOf 20 = .ok (.aload_n 0, 1) := by decide +kernel
theorem dX8_priceOf_21 : decode cX8_priceOf 21 = .ok (.iload_n 1, 1) := by decide +kernel
theorem dX8_priceOf_22 : decode cX8_priceOf 22 = .ok (.iload 6, 2) := by decide +kernel
theorem dX8_priceOf_24 : decode cX8_priceOf 24 = .ok (.aload_n 0, 1) := by decide +kernel
theorem dX8_priceOf_25 : decode cX8_priceOf 25 = .ok (.getfield 82, 3) := by decide +kernel
theorem dX8_priceOf_28 : decode cX8_priceOf 28 = .ok (.invokevirtual 188, 3) := by decide +kernel
theorem dX8_priceOf_31 : decode cX8_priceOf 31 = .ok (.iload 6, 2) := by decide +kernel
theorem dX8_priceOf_33 : decode cX8_priceOf 33 = .ok (.i2l, 1) := by decide +kernel
theorem dX8_priceOf_34 : decode cX8_priceOf 34 = .ok (.aload_n 0, 1) := by decide +kernel
theorem dX8_priceOf_35 : decode cX8_priceOf 35 = .ok (.getfield 38, 3) := by decide +kernel
theorem dX8_priceOf_38 : decode cX8_priceOf 38 = .ok (.iload_n 2, 1) := by decide +kernel
theorem dX8_priceOf_39 : decode cX8_priceOf 39 = .ok (.laload, 1) := by decide +kernel
theorem dX8_priceOf_40 : decode cX8_priceOf 40 = .ok (.lmul, 1) := by decide +kernel
theorem dX8_priceOf_41 : decode cX8_priceOf 41 = .ok (.lload 4, 2) := by decide +kernel
theorem dX8_priceOf_43 : decode cX8_priceOf 43 = .ok (.lcmp, 1) := by decide +kernel
theorem dX8_priceOf_44 : decode cX8_priceOf 44 = .ok (.ifCond .le 7, 3) := by decide +kernel
theorem dX8_priceOf_47 : decode cX8_priceOf 47 = .ok (.iconst 1, 1) := by decide +kernel
theorem dX8_priceOf_48 : decode cX8_priceOf 48 = .ok (.goto 4, 3) := by decide +kernel
theorem dX8_priceOf_51 : decode cX8_priceOf 51 = .ok (.iconst 0, 1) := by decide +kernel
theorem dX8_priceOf_52 : decode cX8_priceOf 52 = .ok (.istore 7, 2) := by decide +kernel
theorem dX8_priceOf_54 : decode cX8_priceOf 54 = .ok (.iload 7, 2) := by decide +kernel
theorem dX8_priceOf_56 : decode cX8_priceOf 56 = .ok (.ifCond .eq 8, 3) := by decide +kernel
theorem dX8_priceOf_59 : decode cX8_priceOf 59 = .ok (.iload 6, 2) := by decide +kernel
theorem dX8_priceOf_61 : decode cX8_priceOf 61 = .ok (.goto 4, 3) := by decide +kernel
theorem dX8_priceOf_64 : decode cX8_priceOf 64 = .ok (.iload_n 3, 1) := by decide +kernel
theorem dX8_priceOf_65 : decode cX8_priceOf 65 = .ok (.istore_n 3, 1) := by decide +kernel
theorem dX8_priceOf_66 : decode cX8_priceOf 66 = .ok (.iload 7, 2) := by decide +kernel
theorem dX8_priceOf_68 : decode cX8_priceOf 68 = .ok (.ifCond .eq 16, 3) := by decide +kernel
theorem dX8_priceOf_71 : decode cX8_priceOf 71 = .ok (.iload 6, 2) := by decide +kernel
theorem dX8_priceOf_73 : decode cX8_priceOf 73 = .ok (.i2l, 1) := by decide +kernel
theorem dX8_priceOf_74 : decode cX8_priceOf 74 = .ok (.aload_n 0, 1) := by decide +kernel
theorem dX8_priceOf_75 : decode cX8_priceOf 75 = .ok (.getfield 38, 3) := by decide +kernel
theorem dX8_priceOf_78 : decode cX8_priceOf 78 = .ok (.iload_n 2, 1) := by decide +kernel
theorem dX8_priceOf_79 : decode cX8_priceOf 79 = .ok (.laload, 1) := by decide +kernel
theorem dX8_priceOf_80 : decode cX8_priceOf 80 = .ok (.lmul, 1) := by decide +kernel
theorem dX8_priceOf_81 : decode cX8_priceOf 81 = .ok (.goto 5, 3) := by decide +kernel
theorem dX8_priceOf_84 : decode cX8_priceOf 84 = .ok (.lload 4, 2) := by decide +kernel
theorem dX8_priceOf_86 : decode cX8_priceOf 86 = .ok (.lstore 4, 2) := by decide +kernel
theorem dX8_priceOf_88 : decode cX8_priceOf 88 = .ok (.iinc 6 1, 3) := by decide +kernel
theorem dX8_priceOf_91 : decode cX8_priceOf 91 = .ok (.goto (-78), 3) := by decide +kernel
theorem dX8_priceOf_94 : decode cX8_priceOf 94 = .ok (.iload_n 3, 1) := by decide +kernel
theorem dX8_priceOf_95 : decode cX8_priceOf 95 = .ok (.ireturn, 1) := by decide +kernel
theorem dX8_price_0 : decode cX8_price 0 = .ok (.aload_n 0, 1) := by decide +kernel
theorem dX8_price_1 : decode cX8_price 1 = .ok (.iload_n 1, 1) := by decide +kernel
theorem dX8_price_2 : decode cX8_price 2 = .ok (.invokevirtual 134, 3) := by decide +kernel
theorem dX8_price_5 : decode cX8_price 5 = .ok (.ifCond .eq 11, 3) := by decide +kernel
theorem dX8_price_8 : decode cX8_price 8 = .ok (.aload_n 0, 1) := by decide +kernel
theorem dX8_price_9 : decode cX8_price 9 = .ok (.iload_n 1, 1) := by decide +kernel
theorem dX8_price_10 : decode cX8_price 10 = .ok (.invokevirtual 211, 3) := by decide +kernel
theorem dX8_price_13 : decode cX8_price 13 = .ok (.goto 5, 3) := by decide +kernel
theorem dX8_price_16 : decode cX8_price 16 = .ok (.bipush (-2), 2) := by decide +kernel
theorem dX8_price_18 : decode cX8_price 18 = .ok (.ireturn, 1) := by decide +kernel
theorem dX8_burnsOf_0 : decode cX8_burnsOf 0 = .ok (.aload_n 0, 1) := by decide +kernel
theorem dX8_burnsOf_1 : decode cX8_burnsOf 1 = .ok (.invokevirtual 160, 3) := by decide +kernel
theorem dX8_burnsOf_4 : decode cX8_burnsOf 4 = .ok (.istore_n 2, 1) := by decide +kernel
theorem dX8_burnsOf_5 : decode cX8_burnsOf 5 = .ok (.iconst 1, 1) := by decide +kernel
theorem dX8_burnsOf_6 : decode cX8_burnsOf 6 = .ok (.istore_n 3, 1) := by decide +kernel
theorem dX8_burnsOf_7 : decode cX8_burnsOf 7 = .ok (.lconst 0, 1) := by decide +kernel
theorem dX8_burnsOf_8 : decode cX8_burnsOf 8 = .ok (.lstore 4, 2) := by decide +kernel
theorem dX8_burnsOf_10 : decode cX8_burnsOf 10 = .ok (.lconst 1, 1) := by decide +kernel
theorem dX8_burnsOf_11 : decode cX8_burnsOf 11 = .ok (.lstore 6, 2) := by decide +kernel
theorem dX8_burnsOf_13 : decode cX8_burnsOf 13 = .ok (.iconst 1, 1) := by decide +kernel
theorem dX8_burnsOf_14 : decode cX8_burnsOf 14 = .ok (.istore 8, 2) := by decide +kernel
theorem dX8_burnsOf_16 : decode cX8_burnsOf 16 = .ok (.iload 8, 2) := by decide +kernel
theorem dX8_burnsOf_18 : decode cX8_burnsOf 18 = .ok (.bipush 10, 2) := by decide +kernel
theorem dX8_burnsOf_20 : decode cX8_burnsOf 20 = .ok (.if_icmp .ge 115, 3) := by decide +kernel
theorem dX8_burnsOf_23 : decode cX8_burnsOf 23 = .ok (.aload_n 0, 1) := by decide +kernel
theorem dX8_burnsOf_24 : decode cX8_burnsOf 24 = .ok (.iload_n 1, 1) := by decide +kernel
theorem dX8_burnsOf_25 : decode cX8_burnsOf 25 = .ok (.aload_n 0, 1) := by decide +kernel
theorem dX8_burnsOf_26 : decode cX8_burnsOf 26 = .ok (.getfield 78, 3) := by decide +kernel
theorem dX8_burnsOf_29 : decode cX8_burnsOf 29 = .ok (.iload 8, 2) := by decide +kernel
theorem dX8_burnsOf_31 : decode cX8_burnsOf 31 = .ok (.invokevirtual 188, 3) := by decide +kernel
theorem dX8_burnsOf_34 : decode cX8_burnsOf 34 = .ok (.aload_n 0, 1) := by decide +kernel
theorem dX8_burnsOf_35 : decode cX8_burnsOf 35 = .ok (.getfield 78, 3) := by decide +kernel
theorem dX8_burnsOf_38 : decode cX8_burnsOf 38 = .ok (.i2l, 1) := by decide +kernel
theorem dX8_burnsOf_39 : decode cX8_burnsOf 39 = .ok (.aload_n 0, 1) := by decide +kernel
theorem dX8_burnsOf_40 : decode cX8_burnsOf 40 = .ok (.getfield 38, 3) := by decide +kernel
theorem dX8_burnsOf_43 : decode cX8_burnsOf 43 = .ok (.iload_n 2, 1) := by decide +kernel
theorem dX8_burnsOf_44 : decode cX8_burnsOf 44 = .ok (.laload, 1) := by decide +kernel
theorem dX8_burnsOf_45 : decode cX8_burnsOf 45 = .ok (.lmul, 1) := by decide +kernel
theorem dX8_burnsOf_46 : decode cX8_burnsOf 46 = .ok (.lstore 9, 2) := by decide +kernel
theorem dX8_burnsOf_48 : decode cX8_burnsOf 48 = .ok (.iload 8, 2) := by decide +kernel
theorem dX8_burnsOf_50 : decode cX8_burnsOf 50 = .ok (.iconst 1, 1) := by decide +kernel
theorem dX8_burnsOf_51 : decode cX8_burnsOf 51 = .ok (.if_icmp .eq 24, 3) := by decide +kernel
theorem dX8_burnsOf_54 : decode cX8_burnsOf 54 = .ok (.lload 9, 2) := by decide +kernel
theorem dX8_burnsOf_56 : decode cX8_burnsOf 56 = .ok (.lload 6, 2) := by decide +kernel
theorem dX8_burnsOf_58 : decode cX8_burnsOf 58 = .ok (.lmul, 1) := by decide +kernel
theorem dX8_burnsOf_59 : decode cX8_burnsOf 59 = .ok (.lload 4, 2) := by decide +kernel
theorem dX8_burnsOf_61 : decode cX8_burnsOf 61 = .ok (.aload_n 0, 1) := by decide +kernel
theorem dX8_burnsOf_62 : decode cX8_burnsOf 62 = .ok (.getfield 47, 3) := by decide +kernel
theorem dX8_burnsOf_65 : decode cX8_burnsOf 65 = .ok (.iload_n 2, 1) := by decide +kernel
theorem dX8_burnsOf_66 : decode cX8_burnsOf 66 = .ok (.invokestatic 88, 3) := by decide +kernel
theorem dX8_burnsOf_69 : decode cX8_burnsOf 69 = .ok (.laload, 1) := by decide +kernel
theorem dX8_burnsOf_70 : decode cX8_burnsOf 70 = .ok (.lmul, 1) := by decide +kernel
theorem dX8_burnsOf_71 : decode cX8_burnsOf 71 = .ok (.lcmp, 1) := by decide +kernel
theorem dX8_burnsOf_72 : decode cX8_burnsOf 72 = .ok (.ifCond .le 7, 3) := by decide +kernel
theorem dX8_burnsOf_75 : decode cX8_burnsOf 75 = .ok (.iconst 1, 1) := by decide +kernel
theorem dX8_burnsOf_76 : decode cX8_burnsOf 76 = .ok (.goto 4, 3) := by decide +kernel
theorem dX8_burnsOf_79 : decode cX8_burnsOf 79 = .ok (.iconst 0, 1) := by decide +kernel
theorem dX8_burnsOf_80 : decode cX8_burnsOf 80 = .ok (.istore 11, 2) := by decide +kernel
theorem dX8_burnsOf_82 : decode cX8_burnsOf 82 = .ok (.iload 11, 2) := by decide +kernel
theorem dX8_burnsOf_84 : decode cX8_burnsOf 84 = .ok (.ifCond .eq 8, 3) := by decide +kernel
theorem dX8_burnsOf_87 : decode cX8_burnsOf 87 = .ok (.iload 8, 2) := by decide +kernel
theorem dX8_burnsOf_89 : decode cX8_burnsOf 89 = .ok (.goto 4, 3) := by decide +kernel
theorem dX8_burnsOf_92 : decode cX8_burnsOf 92 = .ok (.iload_n 3, 1) := by decide +kernel
theorem dX8_burnsOf_93 : decode cX8_burnsOf 93 = .ok (.istore_n 3, 1) := by decide +kernel
theorem dX8_burnsOf_94 : decode cX8_burnsOf 94 = .ok (.iload 11, 2) := by decide +kernel
theorem dX8_burnsOf_96 : decode cX8_burnsOf 96 = .ok (.ifCond .eq 8, 3) := by decide +kernel
theorem dX8_burnsOf_99 : decode cX8_burnsOf 99 = .ok (.lload 9, 2) := by decide +kernel
theorem dX8_burnsOf_101 : decode cX8_burnsOf 101 = .ok (.goto 5, 3) := by decide +kernel
theorem dX8_burnsOf_104 : decode cX8_burnsOf 104 = .ok (.lload 4, 2) := by decide +kernel
theorem dX8_burnsOf_106 : decode cX8_burnsOf 106 = .ok (.lstore 4, 2) := by decide +kernel
theorem dX8_burnsOf_108 : decode cX8_burnsOf 108 = .ok (.iload 11, 2) := by decide +kernel
theorem dX8_burnsOf_110 : decode cX8_burnsOf 110 = .ok (.ifCond .eq 15, 3) := by decide +kernel
theorem dX8_burnsOf_113 : decode cX8_burnsOf 113 = .ok (.aload_n 0, 1) := by decide +kernel
theorem dX8_burnsOf_114 : decode cX8_burnsOf 114 = .ok (.getfield 47, 3) := by decide +kernel
theorem dX8_burnsOf_117 : decode cX8_burnsOf 117 = .ok (.iload_n 2, 1) := by decide +kernel
theorem dX8_burnsOf_118 : decode cX8_burnsOf 118 = .ok (.invokestatic 88, 3) := by decide +kernel
theorem dX8_burnsOf_121 : decode cX8_burnsOf 121 = .ok (.laload, 1) := by decide +kernel
theorem dX8_burnsOf_122 : decode cX8_burnsOf 122 = .ok (.goto 5, 3) := by decide +kernel
theorem dX8_burnsOf_125 : decode cX8_burnsOf 125 = .ok (.lload 6, 2) := by decide +kernel
theorem dX8_burnsOf_127 : decode cX8_burnsOf 127 = .ok (.lstore 6, 2) := by decide +kernel
theorem dX8_burnsOf_129 : decode cX8_burnsOf 129 = .ok (.iinc 8 1, 3) := by decide +kernel
theorem dX8_burnsOf_132 : decode cX8_burnsOf 132 = .ok (.goto (-116), 3) := by decide +kernel
theorem dX8_burnsOf_135 : decode cX8_burnsOf 135 = .ok (.iload_n 3, 1) := by decide +kernel
theorem dX8_burnsOf_136 : decode cX8_burnsOf 136 = .ok (.ireturn, 1) := by decide +kernel
theorem dX8_burns_0 : decode cX8_burns 0 = .ok (.aload_n 0, 1) := by decide +kernel
theorem dX8_burns_1 : decode cX8_burns 1 = .ok (.iload_n 1, 1) := by decide +kernel
theorem dX8_burns_2 : decode cX8_burns 2 = .ok (.invokevirtual 134, 3) := by decide +kernel
theorem dX8_burns_5 : decode cX8_burns 5 = .ok (.ifCond .eq 11, 3) := by decide +kernel
theorem dX8_burns_8 : decode cX8_burns 8 = .ok (.aload_n 0, 1) := by decide +kernel
theorem dX8_burns_9 : decode cX8_burns 9 = .ok (.iload_n 1, 1) := by decide +kernel
theorem dX8_burns_10 : decode cX8_burns 10 = .ok (.invokevirtual 214, 3) := by decide +kernel
theorem dX8_burns_13 : decode cX8_burns 13 = .ok (.goto 5, 3) := by decide +kernel
theorem dX8_burns_16 : decode cX8_burns 16 = .ok (.bipush (-2), 2) := by decide +kernel
theorem dX8_burns_18 : decode cX8_burns 18 = .ok (.ireturn, 1) := by decide +kernel
theorem dX8_lesser_0 : decode cX8_lesser 0 = .ok (.iload_n 0, 1) := by decide +kernel
theorem dX8_lesser_1 : decode cX8_lesser 1 = .ok (.iload_n 1, 1) := by decide +kernel
theorem dX8_lesser_2 : decode cX8_lesser 2 = .ok (.if_icmp .ge 7, 3) := by decide +kernel
theorem dX8_lesser_5 : decode cX8_lesser 5 = .ok (.iload_n 0, 1) := by decide +kernel
theorem dX8_lesser_6 : decode cX8_lesser 6 = .ok (.goto 4, 3) := by decide +kernel
theorem dX8_lesser_9 : decode cX8_lesser 9 = .ok (.iload_n 1, 1) := by decide +kernel
theorem dX8_lesser_10 : decode cX8_lesser 10 = .ok (.ireturn, 1) := by decide +kernel
theorem dX8_shareOf_0 : decode cX8_shareOf 0 = .ok (.aload_n 0, 1) := by decide +kernel
theorem dX8_shareOf_1 : decode cX8_shareOf 1 = .ok (.getfield 78, 3) := by decide +kernel
theorem dX8_shareOf_4 : decode cX8_shareOf 4 = .ok (.aload_n 0, 1) := by decide +kernel
theorem dX8_shareOf_5 : decode cX8_shareOf 5 = .ok (.iload_n 1, 1) := by decide +kernel
theorem dX8_shareOf_6 : decode cX8_shareOf 6 = .ok (.iload_n 3, 1) := by decide +kernel
theorem dX8_shareOf_7 : decode cX8_shareOf 7 = .ok (.invokevirtual 172, 3) := by decide +kernel
theorem dX8_shareOf_10 : decode cX8_shareOf 10 = .ok (.aload_n 0, 1) := by decide +kernel
theorem dX8_shareOf_11 : decode cX8_shareOf 11 = .ok (.getfield 25, 3) := by decide +kernel
theorem dX8_shareOf_14 : decode cX8_shareOf 14 = .ok (.iload_n 1, 1) := by decide +kernel
theorem dX8_shareOf_15 : decode cX8_shareOf 15 = .ok (.iaload, 1) := by decide +kernel
theorem dX8_shareOf_16 : decode cX8_shareOf 16 = .ok (.invokestatic 217, 3) := by decide +kernel
theorem dX8_shareOf_19 : decode cX8_shareOf 19 = .ok (.invokestatic 217, 3) := by decide +kernel
theorem dX8_shareOf_22 : decode cX8_shareOf 22 = .ok (.istore 5, 2) := by decide +kernel
theorem dX8_shareOf_24 : decode cX8_shareOf 24 = .ok (.aload_n 0, 1) := by decide +kernel
theorem dX8_shareOf_25 : decode cX8_shareOf 25 = .ok (.iload_n 2, 1) := by decide +kernel
theorem dX8_shareOf_26 : decode cX8_shareOf 26 = .ok (.iload_n 3, 1) := by decide +kernel
theorem dX8_shareOf_27 : decode cX8_shareOf 27 = .ok (.invokevirtual 172, 3) := by decide +kernel
theorem dX8_shareOf_30 : decode cX8_shareOf 30 = .ok (.aload_n 0, 1) := by decide +kernel
theorem dX8_shareOf_31 : decode cX8_shareOf 31 = .ok (.getfield 25, 3) := by decide +kernel
theorem dX8_shareOf_34 : decode cX8_shareOf 34 = .ok (.iload_n 2, 1) := by decide +kernel
theorem dX8_shareOf_35 : decode cX8_shareOf 35 = .ok (.iaload, 1) := by decide +kernel
theorem dX8_shareOf_36 : decode cX8_shareOf 36 = .ok (.invokestatic 217, 3) := by decide +kernel
theorem dX8_shareOf_39 : decode cX8_shareOf 39 = .ok (.istore 6, 2) := by decide +kernel
theorem dX8_shareOf_41 : decode cX8_shareOf 41 = .ok (.aload_n 0, 1) := by decide +kernel
theorem dX8_shareOf_42 : decode cX8_shareOf 42 = .ok (.getfield 78, 3) := by decide +kernel
theorem dX8_shareOf_45 : decode cX8_shareOf 45 = .ok (.iload 6, 2) := by decide +kernel
theorem dX8_shareOf_47 : decode cX8_shareOf 47 = .ok (.if_icmp .le 13, 3) := by decide +kernel
theorem dX8_shareOf_50 : decode cX8_shareOf 50 = .ok (.aload_n 0, 1) := by decide +kernel
theorem dX8_shareOf_51 : decode cX8_shareOf 51 = .ok (.getfield 78, 3) := by decide +kernel
theorem dX8_shareOf_54 : decode cX8_shareOf 54 = .ok (.iload 6, 2) := by decide +kernel
theorem dX8_shareOf_56 : decode cX8_shareOf 56 = .ok (.isub, 1) := by decide +kernel
theorem dX8_shareOf_57 : decode cX8_shareOf 57 = .ok (.goto 4, 3) := by decide +kernel
theorem dX8_shareOf_60 : decode cX8_shareOf 60 = .ok (.iconst 0, 1) := by decide +kernel
theorem dX8_shareOf_61 : decode cX8_shareOf 61 = .ok (.istore 7, 2) := by decide +kernel
theorem dX8_shareOf_63 : decode cX8_shareOf 63 = .ok (.iload 7, 2) := by decide +kernel
theorem dX8_shareOf_65 : decode cX8_shareOf 65 = .ok (.iload 5, 2) := by decide +kernel
theorem dX8_shareOf_67 : decode cX8_shareOf 67 = .ok (.if_icmp .le 7, 3) := by decide +kernel
theorem dX8_shareOf_70 : decode cX8_shareOf 70 = .ok (.iconst (-1), 1) := by decide +kernel
theorem dX8_shareOf_71 : decode cX8_shareOf 71 = .ok (.goto 15, 3) := by decide +kernel
theorem dX8_shareOf_74 : decode cX8_shareOf 74 = .ok (.iload 4, 2) := by decide +kernel
theorem dX8_shareOf_76 : decode cX8_shareOf 76 = .ok (.ifCond .ne 8, 3) := by decide +kernel
theorem dX8_shareOf_79 : decode cX8_shareOf 79 = .ok (.iload 7, 2) := by decide +kernel
theorem dX8_shareOf_81 : decode cX8_shareOf 81 = .ok (.goto 5, 3) := by decide +kernel
theorem dX8_shareOf_84 : decode cX8_shareOf 84 = .ok (.iload 5, 2) := by decide +kernel
theorem dX8_shareOf_86 : decode cX8_shareOf 86 = .ok (.ireturn, 1) := by decide +kernel
theorem dX8_share_0 : decode cX8_share 0 = .ok (.aload_n 0, 1) := by decide +kernel
theorem dX8_share_1 : decode cX8_share 1 = .ok (.iload_n 1, 1) := by decide +kernel
theorem dX8_share_2 : decode cX8_share 2 = .ok (.invokevirtual 134, 3) := by decide +kernel
theorem dX8_share_5 : decode cX8_share 5 = .ok (.ifCond .eq 45, 3) := by decide +kernel
theorem dX8_share_8 : decode cX8_share 8 = .ok (.aload_n 0, 1) := by decide +kernel
theorem dX8_share_9 : decode cX8_share 9 = .ok (.iload_n 2, 1) := by decide +kernel
theorem dX8_share_10 : decode cX8_share 10 = .ok (.invokevirtual 134, 3) := by decide +kernel
theorem dX8_share_13 : decode cX8_share 13 = .ok (.ifCond .eq 37, 3) := by decide +kernel
theorem dX8_share_16 : decode cX8_share 16 = .ok (.iload_n 1, 1) := by decide +kernel
theorem dX8_share_17 : decode cX8_share 17 = .ok (.iload_n 2, 1) := by decide +kernel
theorem dX8_share_18 : decode cX8_share 18 = .ok (.if_icmp .eq 32, 3) := by decide +kernel
theorem dX8_share_21 : decode cX8_share 21 = .ok (.iload_n 3, 1) := by decide +kernel
theorem dX8_share_22 : decode cX8_share 22 = .ok (.invokestatic 166, 3) := by decide +kernel
theorem dX8_share_25 : decode cX8_share 25 = .ok (.ifCond .eq 25, 3) := by decide +kernel
theorem dX8_share_28 : decode cX8_share 28 = .ok (.iload 4, 2) := by decide +kernel
theorem dX8_share_30 : decode cX8_share 30 = .ok (.iconst 0, 1) := by decide +kernel
theorem dX8_share_31 : decode cX8_share 31 = .ok (.iconst 1, 1) := by decide +kernel
theorem dX8_share_32 : decode cX8_share 32 = .ok (.invokestatic 94, 3) := by decide +kernel
theorem dX8_share_35 : decode cX8_share 35 = .ok (.ifCond .eq 15, 3) := by decide +kernel
theorem dX8_share_38 : decode cX8_share 38 = .ok (.aload_n 0, 1) := by decide +kernel
theorem dX8_share_39 : decode cX8_share 39 = .ok (.iload_n 1, 1) := by decide +kernel
theorem dX8_share_40 : decode cX8_share 40 = .ok (.iload_n 2, 1) := by decide +kernel
theorem dX8_share_41 : decode cX8_share 41 = .ok (.iload_n 3, 1) := by decide +kernel
theorem dX8_share_42 : decode cX8_share 42 = .ok (.iload 4, 2) := by decide +kernel
theorem dX8_share_44 : decode cX8_share 44 = .ok (.invokevirtual 220, 3) := by decide +kernel
theorem dX8_share_47 : decode cX8_share 47 = .ok (.goto 5, 3) := by decide +kernel
theorem dX8_share_50 : decode cX8_share 50 = .ok (.bipush (-2), 2) := by decide +kernel
theorem dX8_share_52 : decode cX8_share 52 = .ok (.ireturn, 1) := by decide +kernel
theorem dX8_page_0 : decode cX8_page 0 = .ok (.iload_n 1, 1) := by decide +kernel
theorem dX8_page_1 : decode cX8_page 1 = .ok (.iconst 0, 1) := by decide +kernel
theorem dX8_page_2 : decode cX8_page 2 = .ok (.iconst 1, 1) := by decide +kernel
theorem dX8_page_3 : decode cX8_page 3 = .ok (.invokestatic 94, 3) := by decide +kernel
theorem dX8_page_6 : decode cX8_page 6 = .ok (.ifCond .ne 6, 3) := by decide +kernel
theorem dX8_page_9 : decode cX8_page 9 = .ok (.bipush (-2), 2) := by decide +kernel
theorem dX8_page_11 : decode cX8_page 11 = .ok (.ireturn, 1) := by decide +kernel
theorem dX8_page_12 : decode cX8_page 12 = .ok (.aload_n 0, 1) := by decide +kernel
theorem dX8_page_13 : decode cX8_page 13 = .ok (.getfield 50, 3) := by decide +kernel
theorem dX8_page_16 : decode cX8_page 16 = .ok (.iconst 0, 1) := by decide +kernel
theorem dX8_page_17 : decode cX8_page 17 = .ok (.iaload, 1) := by decide +kernel
theorem dX8_page_18 : decode cX8_page 18 = .ok (.aload_n 0, 1) := by decide +kernel
theorem dX8_page_19 : decode cX8_page 19 = .ok (.getfield 50, 3) := by decide +kernel
theorem dX8_page_22 : decode cX8_page 22 = .ok (.iconst 1, 1) := by decide +kernel
theorem dX8_page_23 : decode cX8_page 23 = .ok (.iaload, 1) := by decide +kernel
theorem dX8_page_24 : decode cX8_page 24 = .ok (.iadd, 1) := by decide +kernel
theorem dX8_page_25 : decode cX8_page 25 = .ok (.bipush 9, 2) := by decide +kernel
theorem dX8_page_27 : decode cX8_page 27 = .ok (.if_icmp .ne 6, 3) := by decide +kernel
theorem dX8_page_30 : decode cX8_page 30 = .ok (.bipush (-4), 2) := by decide +kernel
theorem dX8_page_32 : decode cX8_page 32 = .ok (.ireturn, 1) := by decide +kernel
theorem dX8_page_33 : decode cX8_page 33 = .ok (.aload_n 0, 1) := by decide +kernel
theorem dX8_page_34 : decode cX8_page 34 = .ok (.getfield 50, 3) := by decide +kernel
theorem dX8_page_37 : decode cX8_page 37 = .ok (.iconst 1, 1) := by decide +kernel
theorem dX8_page_38 : decode cX8_page 38 = .ok (.iload_n 1, 1) := by decide +kernel
theorem dX8_page_39 : decode cX8_page 39 = .ok (.isub, 1) := by decide +kernel
theorem dX8_page_40 : decode cX8_page 40 = .ok (.dup2, 1) := by decide +kernel
theorem dX8_page_41 : decode cX8_page 41 = .ok (.iaload, 1) := by decide +kernel
theorem dX8_page_42 : decode cX8_page 42 = .ok (.iconst 1, 1) := by decide +kernel
theorem dX8_page_43 : decode cX8_page 43 = .ok (.iadd, 1) := by decide +kernel
theorem dX8_page_44 : decode cX8_page 44 = .ok (.iastore, 1) := by decide +kernel
theorem dX8_page_45 : decode cX8_page 45 = .ok (.aload_n 0, 1) := by decide +kernel
theorem dX8_page_46 : decode cX8_page 46 = .ok (.getfield 50, 3) := by decide +kernel
theorem dX8_page_49 : decode cX8_page 49 = .ok (.iconst 0, 1) := by decide +kernel
theorem dX8_page_50 : decode cX8_page 50 = .ok (.iaload, 1) := by decide +kernel
theorem dX8_page_51 : decode cX8_page 51 = .ok (.aload_n 0, 1) := by decide +kernel
theorem dX8_page_52 : decode cX8_page 52 = .ok (.getfield 50, 3) := by decide +kernel
theorem dX8_page_55 : decode cX8_page 55 = .ok (.iconst 1, 1) := by decide +kernel
theorem dX8_page_56 : decode cX8_page 56 = .ok (.iaload, 1) := by decide +kernel
theorem dX8_page_57 : decode cX8_page 57 = .ok (.iadd, 1) := by decide +kernel
theorem dX8_page_58 : decode cX8_page 58 = .ok (.ireturn, 1) := by decide +kernel
theorem dX8_blanksNow_0 : decode cX8_blanksNow 0 = .ok (.aload_n 0, 1) := by decide +kernel
theorem dX8_blanksNow_1 : decode cX8_blanksNow 1 = .ok (.invokevirtual 160, 3) := by decide +kernel
theorem dX8_blanksNow_4 : decode cX8_blanksNow 4 = .ok (.istore_n 1, 1) := by decide +kernel
theorem dX8_blanksNow_5 : decode cX8_blanksNow 5 = .ok (.iconst 0, 1) := by decide +kernel
theorem dX8_blanksNow_6 : decode cX8_blanksNow 6 = .ok (.istore_n 2, 1) := by decide +kernel
theorem dX8_blanksNow_7 : decode cX8_blanksNow 7 = .ok (.iconst 0, 1) := by decide +kernel
theorem dX8_blanksNow_8 : decode cX8_blanksNow 8 = .ok (.istore_n 3, 1) := by decide +kernel
theorem dX8_blanksNow_9 : decode cX8_blanksNow 9 = .ok (.iload_n 3, 1) := by decide +kernel
theorem dX8_blanksNow_10 : decode cX8_blanksNow 10 = .ok (.aload_n 0, 1) := by decide +kernel
theorem dX8_blanksNow_11 : decode cX8_blanksNow 11 = .ok (.getfield 112, 3) := by decide +kernel
theorem dX8_blanksNow_14 : decode cX8_blanksNow 14 = .ok (.if_icmp .ge 35, 3) := by decide +kernel
theorem dX8_blanksNow_17 : decode cX8_blanksNow 17 = .ok (.iload_n 2, 1) := by decide +kernel
theorem dX8_blanksNow_18 : decode cX8_blanksNow 18 = .ok (.iload_n 1, 1) := by decide +kernel
theorem dX8_blanksNow_19 : decode cX8_blanksNow 19 = .ok (.iload_n 3, 1) := by decide +kernel
theorem dX8_blanksNow_20 : decode cX8_blanksNow 20 = .ok (.invokestatic 140, 3) := by decide +kernel
theorem dX8_blanksNow_23 : decode cX8_blanksNow 23 = .ok (.ifCond .eq 17, 3) := by decide +kernel
theorem dX8_blanksNow_26 : decode cX8_blanksNow 26 = .ok (.aload_n 0, 1) := by decide +kernel
theorem dX8_blanksNow_27 : decode cX8_blanksNow 27 = .ok (.getfield 19, 3) := by decide +kernel
theorem dX8_blanksNow_30 : decode cX8_blanksNow 30 = .ok (.iload_n 3, 1) := by decide +kernel
theorem dX8_blanksNow_31 : decode cX8_blanksNow 31 = .ok (.iaload, 1) := by decide +kernel
theorem dX8_blanksNow_32 : decode cX8_blanksNow 32 = .ok (.iconst 1, 1) := by decide +kernel
theorem dX8_blanksNow_33 : decode cX8_blanksNow 33 = .ok (.if_icmp .ne 7, 3) := by decide +kernel
theorem dX8_blanksNow_36 : decode cX8_blanksNow 36 = .ok (.iconst 1, 1) := by decide +kernel
theorem dX8_blanksNow_37 : decode cX8_blanksNow 37 = .ok (.goto 4, 3) := by decide +kernel
theorem dX8_blanksNow_40 : decode cX8_blanksNow 40 = .ok (.iconst 0, 1) := by decide +kernel
theorem dX8_blanksNow_41 : decode cX8_blanksNow 41 = .ok (.iadd, 1) := by decide +kernel
theorem dX8_blanksNow_42 : decode cX8_blanksNow 42 = .ok (.istore_n 2, 1) := by decide +kernel
theorem dX8_blanksNow_43 : decode cX8_blanksNow 43 = .ok (.iinc 3 1, 3) := by decide +kernel
theorem dX8_blanksNow_46 : decode cX8_blanksNow 46 = .ok (.goto (-37), 3) := by decide +kernel
theorem dX8_blanksNow_49 : decode cX8_blanksNow 49 = .ok (.iload_n 2, 1) := by decide +kernel
theorem dX8_blanksNow_50 : decode cX8_blanksNow 50 = .ok (.ireturn, 1) := by decide +kernel
theorem dX8_power_0 : decode cX8_power 0 = .ok (.lconst 1, 1) := by decide +kernel
theorem dX8_power_1 : decode cX8_power 1 = .ok (.lstore_n 2, 1) := by decide +kernel
theorem dX8_power_2 : decode cX8_power 2 = .ok (.iconst 0, 1) := by decide +kernel
theorem dX8_power_3 : decode cX8_power 3 = .ok (.istore 4, 2) := by decide +kernel
theorem dX8_power_5 : decode cX8_power 5 = .ok (.iload 4, 2) := by decide +kernel
theorem dX8_power_7 : decode cX8_power 7 = .ok (.iload_n 1, 1) := by decide +kernel
theorem dX8_power_8 : decode cX8_power 8 = .ok (.if_icmp .ge 14, 3) := by decide +kernel
theorem dX8_power_11 : decode cX8_power 11 = .ok (.lload_n 2, 1) := by decide +kernel
theorem dX8_power_12 : decode cX8_power 12 = .ok (.iload_n 0, 1) := by decide +kernel
theorem dX8_power_13 : decode cX8_power 13 = .ok (.i2l, 1) := by decide +kernel
theorem dX8_power_14 : decode cX8_power 14 = .ok (.lmul, 1) := by decide +kernel
theorem dX8_power_15 : decode cX8_power 15 = .ok (.lstore_n 2, 1) := by decide +kernel
theorem dX8_power_16 : decode cX8_power 16 = .ok (.iinc 4 1, 3) := by decide +kernel
theorem dX8_power_19 : decode cX8_power 19 = .ok (.goto (-14), 3) := by decide +kernel
theorem dX8_power_22 : decode cX8_power 22 = .ok (.lload_n 2, 1) := by decide +kernel
theorem dX8_power_23 : decode cX8_power 23 = .ok (.lreturn, 1) := by decide +kernel
theorem dX8_trustOf_0 : decode cX8_trustOf 0 = .ok (.aload_n 0, 1) := by decide +kernel
theorem dX8_trustOf_1 : decode cX8_trustOf 1 = .ok (.invokevirtual 224, 3) := by decide +kernel
theorem dX8_trustOf_4 : decode cX8_trustOf 4 = .ok (.istore_n 2, 1) := by decide +kernel
theorem dX8_trustOf_5 : decode cX8_trustOf 5 = .ok (.aload_n 0, 1) := by decide +kernel
theorem dX8_trustOf_6 : decode cX8_trustOf 6 = .ok (.invokevirtual 160, 3) := by decide +kernel
theorem dX8_trustOf_9 : decode cX8_trustOf 9 = .ok (.invokestatic 88, 3) := by decide +kernel
theorem dX8_trustOf_12 : decode cX8_trustOf 12 = .ok (.istore_n 3, 1) := by decide +kernel
theorem dX8_trustOf_13 : decode cX8_trustOf 13 = .ok (.bipush 16, 2) := by decide +kernel
theorem dX8_trustOf_15 : decode cX8_trustOf 15 = .ok (.aload_n 0, 1) := by decide +kernel
theorem dX8_trustOf_16 : decode cX8_trustOf 16 = .ok (.getfield 85, 3) := by decide +kernel
theorem dX8_trustOf_19 : decode cX8_trustOf 19 = .ok (.isub, 1) := by decide +kernel
theorem dX8_trustOf_20 : decode cX8_trustOf 20 = .ok (.i2l, 1) := by decide +kernel
theorem dX8_trustOf_21 : decode cX8_trustOf 21 = .ok (.iload_n 2, 1) := by decide +kernel
theorem dX8_trustOf_22 : decode cX8_trustOf 22 = .ok (.aload_n 0, 1) := by decide +kernel
theorem dX8_trustOf_23 : decode cX8_trustOf 23 = .ok (.getfield 50, 3) := by decide +kernel
theorem dX8_trustOf_26 : decode cX8_trustOf 26 = .ok (.iconst 0, 1) := by decide +kernel
theorem dX8_trustOf_27 : decode cX8_trustOf 27 = .ok (.iaload, 1) := by decide +kernel
theorem dX8_trustOf_28 : decode cX8_trustOf 28 = .ok (.invokestatic 227, 3) := by decide +kernel
theorem dX8_trustOf_31 : decode cX8_trustOf 31 = .ok (.lmul, 1) := by decide +kernel
theorem dX8_trustOf_32 : decode cX8_trustOf 32 = .ok (.iload_n 3, 1) := by decide +kernel
theorem dX8_trustOf_33 : decode cX8_trustOf 33 = .ok (.iload_n 2, 1) := by decide +kernel
theorem dX8_trustOf_34 : decode cX8_trustOf 34 = .ok (.isub, 1) := by decide +kernel
theorem dX8_trustOf_35 : decode cX8_trustOf 35 = .ok (.aload_n 0, 1) := by decide +kernel
theorem dX8_trustOf_36 : decode cX8_trustOf 36 = .ok (.getfield 50, 3) := by decide +kernel
theorem dX8_trustOf_39 : decode cX8_trustOf 39 = .ok (.iconst 1, 1) := by decide +kernel
theorem dX8_trustOf_40 : decode cX8_trustOf 40 = .ok (.iaload, 1) := by decide +kernel
theorem dX8_trustOf_41 : decode cX8_trustOf 41 = .ok (.invokestatic 227, 3) := by decide +kernel
theorem dX8_trustOf_44 : decode cX8_trustOf 44 = .ok (.lmul, 1) := by decide +kernel
theorem dX8_trustOf_45 : decode cX8_trustOf 45 = .ok (.lstore 4, 2) := by decide +kernel
theorem dX8_trustOf_47 : decode cX8_trustOf 47 = .ok (.aload_n 0, 1) := by decide +kernel
theorem dX8_trustOf_48 : decode cX8_trustOf 48 = .ok (.getfield 50, 3) := by decide +kernel
theorem dX8_trustOf_51 : decode cX8_trustOf 51 = .ok (.iconst 1, 1) := by decide +kernel
theorem dX8_trustOf_52 : decode cX8_trustOf 52 = .ok (.iaload, 1) := by decide +kernel
theorem dX8_trustOf_53 : decode cX8_trustOf 53 = .ok (.ifCond .ne 22, 3) := by decide +kernel
theorem dX8_trustOf_56 : decode cX8_trustOf 56 = .ok (.aload_n 0, 1) := by decide +kernel
theorem dX8_trustOf_57 : decode cX8_trustOf 57 = .ok (.getfield 85, 3) := by decide +kernel
theorem dX8_trustOf_60 : decode cX8_trustOf 60 = .ok (.i2l, 1) := by decide +kernel
theorem dX8_trustOf_61 : decode cX8_trustOf 61 = .ok (.iload_n 3, 1) := by decide +kernel
theorem dX8_trustOf_62 : decode cX8_trustOf 62 = .ok (.aload_n 0, 1) := by decide +kernel
theorem dX8_trustOf_63 : decode cX8_trustOf 63 = .ok (.getfield 50, 3) := by decide +kernel
theorem dX8_trustOf_66 : decode cX8_trustOf 66 = .ok (.iconst 0, 1) := by decide +kernel
theorem dX8_trustOf_67 : decode cX8_trustOf 67 = .ok (.iaload, 1) := by decide +kernel
theorem dX8_trustOf_68 : decode cX8_trustOf 68 = .ok (.invokestatic 227, 3) := by decide +kernel
theorem dX8_trustOf_71 : decode cX8_trustOf 71 = .ok (.lmul, 1) := by decide +kernel
theorem dX8_trustOf_72 : decode cX8_trustOf 72 = .ok (.goto 4, 3) := by decide +kernel
theorem dX8_trustOf_75 : decode cX8_trustOf 75 = .ok (.lconst 0, 1) := by decide +kernel
theorem dX8_trustOf_76 : decode cX8_trustOf 76 = .ok (.lstore 6, 2) := by decide +kernel
theorem dX8_trustOf_78 : decode cX8_trustOf 78 = .ok (.iload_n 3, 1) := by decide +kernel
theorem dX8_trustOf_79 : decode cX8_trustOf 79 = .ok (.ifCond .eq 13, 3) := by decide +kernel
theorem dX8_trustOf_82 : decode cX8_trustOf 82 = .ok (.lload 4, 2) := by decide +kernel
theorem dX8_trustOf_84 : decode cX8_trustOf 84 = .ok (.lload 6, 2) := by decide +kernel
theorem dX8_trustOf_86 : decode cX8_trustOf 86 = .ok (.ladd, 1) := by decide +kernel
theorem dX8_trustOf_87 : decode cX8_trustOf 87 = .ok (.lconst 0, 1) := by decide +kernel
theorem dX8_trustOf_88 : decode cX8_trustOf 88 = .ok (.lcmp, 1) := by decide +kernel
theorem dX8_trustOf_89 : decode cX8_trustOf 89 = .ok (.ifCond .ne 11, 3) := by decide +kernel
theorem dX8_trustOf_92 : decode cX8_trustOf 92 = .ok (.bipush (-3), 2) := by decide +kernel
theorem dX8_trustOf_94 : decode cX8_trustOf 94 = .ok (.invokestatic 203, 3) := by decide +kernel
theorem dX8_trustOf_97 : decode cX8_trustOf 97 = .ok (.goto 14, 3) := by decide +kernel
theorem dX8_trustOf_100 : decode cX8_trustOf 100 = .ok (.lload 4, 2) := by decide +kernel
theorem dX8_trustOf_102 : decode cX8_trustOf 102 = .ok (.lload 4, 2) := by decide +kernel
theorem dX8_trustOf_104 : decode cX8_trustOf 104 = .ok (.lload 6, 2) := by decide +kernel
theorem dX8_trustOf_106 : decode cX8_trustOf 106 = .ok (.ladd, 1) := by decide +kernel
theorem dX8_trustOf_107 : decode cX8_trustOf 107 = .ok (.iload_n 1, 1) := by decide +kernel
theorem dX8_trustOf_108 : decode cX8_trustOf 108 = .ok (.invokestatic 195, 3) := by decide +kernel
theorem dX8_trustOf_111 : decode cX8_trustOf 111 = .ok (.lreturn, 1) := by decide +kernel
theorem dX8_trust_0 : decode cX8_trust 0 = .ok (.iload_n 1, 1) := by decide +kernel
theorem dX8_trust_1 : decode cX8_trust 1 = .ok (.iconst 0, 1) := by decide +kernel
theorem dX8_trust_2 : decode cX8_trust 2 = .ok (.iconst 1, 1) := by decide +kernel
theorem dX8_trust_3 : decode cX8_trust 3 = .ok (.invokestatic 94, 3) := by decide +kernel
theorem dX8_trust_6 : decode cX8_trust 6 = .ok (.ifCond .eq 11, 3) := by decide +kernel
theorem dX8_trust_9 : decode cX8_trust 9 = .ok (.aload_n 0, 1) := by decide +kernel
theorem dX8_trust_10 : decode cX8_trust 10 = .ok (.iload_n 1, 1) := by decide +kernel
theorem dX8_trust_11 : decode cX8_trust 11 = .ok (.invokevirtual 231, 3) := by decide +kernel
theorem dX8_trust_14 : decode cX8_trust 14 = .ok (.goto 8, 3) := by decide +kernel
theorem dX8_trust_17 : decode cX8_trust 17 = .ok (.bipush (-2), 2) := by decide +kernel
theorem dX8_trust_19 : decode cX8_trust 19 = .ok (.invokestatic 203, 3) := by decide +kernel
theorem dX8_trust_22 : decode cX8_trust 22 = .ok (.lreturn, 1) := by decide +kernel
theorem dX8_said_0 : decode cX8_said 0 = .ok (.iload_n 1, 1) := by decide +kernel
theorem dX8_said_1 : decode cX8_said 1 = .ok (.iconst 2, 1) := by decide +kernel
theorem dX8_said_2 : decode cX8_said 2 = .ok (.if_icmp .ne 7, 3) := by decide +kernel
theorem dX8_said_5 : decode cX8_said 5 = .ok (.iconst (-1), 1) := by decide +kernel
theorem dX8_said_6 : decode cX8_said 6 = .ok (.goto 4, 3) := by decide +kernel
theorem dX8_said_9 : decode cX8_said 9 = .ok (.iconst 0, 1) := by decide +kernel
theorem dX8_said_10 : decode cX8_said 10 = .ok (.istore 4, 2) := by decide +kernel
theorem dX8_said_12 : decode cX8_said 12 = .ok (.iload_n 1, 1) := by decide +kernel
theorem dX8_said_13 : decode cX8_said 13 = .ok (.ifCond .ne 8, 3) := by decide +kernel
theorem dX8_said_16 : decode cX8_said 16 = .ok (.bipush 9, 2) := by decide +kernel
theorem dX8_said_18 : decode cX8_said 18 = .ok (.goto 14, 3) := by decide +kernel
theorem dX8_said_21 : decode cX8_said 21 = .ok (.iload_n 1, 1) := by decide +kernel
theorem dX8_said_22 : decode cX8_said 22 = .ok (.iconst 1, 1) := by decide +kernel
theorem dX8_said_23 : decode cX8_said 23 = .ok (.if_icmp .ne 7, 3) := by decide +kernel
theorem dX8_said_26 : decode cX8_said 26 = .ok (.iconst 2, 1) := by decide +kernel
theorem dX8_said_27 : decode cX8_said 27 = .ok (.goto 5, 3) := by decide +kernel
theorem dX8_said_30 : decode cX8_said 30 = .ok (.bipush 8, 2) := by decide +kernel
theorem dX8_said_32 : decode cX8_said 32 = .ok (.istore 5, 2) := by decide +kernel
theorem dX8_said_34 : decode cX8_said 34 = .ok (.iload_n 1, 1) := by decide +kernel
theorem dX8_said_35 : decode cX8_said 35 = .ok (.iconst 0, 1) := by decide +kernel
theorem dX8_said_36 : decode cX8_said 36 = .ok (.iconst 2, 1) := by decide +kernel
theorem dX8_said_37 : decode cX8_said 37 = .ok (.invokestatic 94, 3) := by decide +kernel
theorem dX8_said_40 : decode cX8_said 40 = .ok (.ifCond .eq 23, 3) := by decide +kernel
theorem dX8_said_43 : decode cX8_said 43 = .ok (.iload_n 2, 1) := by decide +kernel
theorem dX8_said_44 : decode cX8_said 44 = .ok (.iload 4, 2) := by decide +kernel
theorem dX8_said_46 : decode cX8_said 46 = .ok (.iload 5, 2) := by decide +kernel
theorem dX8_said_48 : decode cX8_said 48 = .ok (.invokestatic 94, 3) := by decide +kernel
theorem dX8_said_51 : decode cX8_said 51 = .ok (.ifCond .eq 12, 3) := by decide +kernel
theorem dX8_said_54 : decode cX8_said 54 = .ok (.iload_n 3, 1) := by decide +kernel
theorem dX8_said_55 : decode cX8_said 55 = .ok (.iconst 0, 1) := by decide +kernel
theorem dX8_said_56 : decode cX8_said 56 = .ok (.iconst 1, 1) := by decide +kernel
theorem dX8_said_57 : decode cX8_said 57 = .ok (.invokestatic 94, 3) := by decide +kernel
theorem dX8_said_60 : decode cX8_said 60 = .ok (.ifCond .ne 6, 3) := by decide +kernel
theorem dX8_said_63 : decode cX8_said 63 = .ok (.bipush (-2), 2) := by decide +kernel
theorem dX8_said_65 : decode cX8_said 65 = .ok (.ireturn, 1) := by decide +kernel
theorem dX8_said_66 : decode cX8_said 66 = .ok (.aload_n 0, 1) := by decide +kernel
theorem dX8_said_67 : decode cX8_said 67 = .ok (.getfield 234, 3) := by decide +kernel
theorem dX8_said_70 : decode cX8_said 70 = .ok (.bipush 8, 2) := by decide +kernel
theorem dX8_said_72 : decode cX8_said 72 = .ok (.if_icmp .ne 6, 3) := by decide +kernel
theorem dX8_said_75 : decode cX8_said 75 = .ok (.bipush (-4), 2) := by decide +kernel
theorem dX8_said_77 : decode cX8_said 77 = .ok (.ireturn, 1) := by decide +kernel
theorem dX8_said_78 : decode cX8_said 78 = .ok (.aload_n 0, 1) := by decide +kernel
theorem dX8_said_79 : decode cX8_said 79 = .ok (.getfield 53, 3) := by decide +kernel
theorem dX8_said_82 : decode cX8_said 82 = .ok (.aload_n 0, 1) := by decide +kernel
theorem dX8_said_83 : decode cX8_said 83 = .ok (.getfield 234, 3) := by decide +kernel
theorem dX8_said_86 : decode cX8_said 86 = .ok (.iload_n 1, 1) := by decide +kernel
theorem dX8_said_87 : decode cX8_said 87 = .ok (.iastore, 1) := by decide +kernel
theorem dX8_said_88 : decode cX8_said 88 = .ok (.aload_n 0, 1) := by decide +kernel
theorem dX8_said_89 : decode cX8_said 89 = .ok (.getfield 56, 3) := by decide +kernel
theorem dX8_said_92 : decode cX8_said 92 = .ok (.aload_n 0, 1) := by decide +kernel
theorem dX8_said_93 : decode cX8_said 93 = .ok (.getfield 234, 3) := by decide +kernel
theorem dX8_said_96 : decode cX8_said 96 = .ok (.iload_n 2, 1) := by decide +kernel
theorem dX8_said_97 : decode cX8_said 97 = .ok (.iastore, 1) := by decide +kernel
theorem dX8_said_98 : decode cX8_said 98 = .ok (.aload_n 0, 1) := by decide +kernel
theorem dX8_said_99 : decode cX8_said 99 = .ok (.getfield 59, 3) := by decide +kernel
theorem dX8_said_102 : decode cX8_said 102 = .ok (.aload_n 0, 1) := by decide +kernel
theorem dX8_said_103 : decode cX8_said 103 = .ok (.getfield 234, 3) := by decide +kernel
theorem dX8_said_106 : decode cX8_said 106 = .ok (.iload_n 3, 1) := by decide +kernel
theorem dX8_said_107 : decode cX8_said 107 = .ok (.iastore, 1) := by decide +kernel
theorem dX8_said_108 : decode cX8_said 108 = .ok (.aload_n 0, 1) := by decide +kernel
theorem dX8_said_109 : decode cX8_said 109 = .ok (.dup, 1) := by decide +kernel
theorem dX8_said_110 : decode cX8_said 110 = .ok (.getfield 234, 3) := by decide +kernel
theorem dX8_said_113 : decode cX8_said 113 = .ok (.iconst 1, 1) := by decide +kernel
theorem dX8_said_114 : decode cX8_said 114 = .ok (.iadd, 1) := by decide +kernel
theorem dX8_said_115 : decode cX8_said 115 = .ok (.putfield 234, 3) := by decide +kernel
theorem dX8_said_118 : decode cX8_said 118 = .ok (.aload_n 0, 1) := by decide +kernel
theorem dX8_said_119 : decode cX8_said 119 = .ok (.getfield 234, 3) := by decide +kernel
theorem dX8_said_122 : decode cX8_said 122 = .ok (.ireturn, 1) := by decide +kernel
theorem dX8_forget_0 : decode cX8_forget 0 = .ok (.iload_n 1, 1) := by decide +kernel
theorem dX8_forget_1 : decode cX8_forget 1 = .ok (.iconst 0, 1) := by decide +kernel
theorem dX8_forget_2 : decode cX8_forget 2 = .ok (.iconst 1, 1) := by decide +kernel
theorem dX8_forget_3 : decode cX8_forget 3 = .ok (.invokestatic 94, 3) := by decide +kernel
theorem dX8_forget_6 : decode cX8_forget 6 = .ok (.ifCond .ne 6, 3) := by decide +kernel
theorem dX8_forget_9 : decode cX8_forget 9 = .ok (.bipush (-2), 2) := by decide +kernel
theorem dX8_forget_11 : decode cX8_forget 11 = .ok (.ireturn, 1) := by decide +kernel
theorem dX8_forget_12 : decode cX8_forget 12 = .ok (.iload_n 1, 1) := by decide +kernel
theorem dX8_forget_13 : decode cX8_forget 13 = .ok (.ifCond .ne 19, 3) := by decide +kernel
theorem dX8_forget_16 : decode cX8_forget 16 = .ok (.aload_n 0, 1) := by decide +kernel
theorem dX8_forget_17 : decode cX8_forget 17 = .ok (.getfield 50, 3) := by decide +kernel
theorem dX8_forget_20 : decode cX8_forget 20 = .ok (.iconst 0, 1) := by decide +kernel
theorem dX8_forget_21 : decode cX8_forget 21 = .ok (.iaload, 1) := by decide +kernel
theorem dX8_forget_22 : decode cX8_forget 22 = .ok (.aload_n 0, 1) := by decide +kernel
theorem dX8_forget_23 : decode cX8_forget 23 = .ok (.getfield 50, 3) := by decide +kernel
theorem dX8_forget_26 : decode cX8_forget 26 = .ok (.iconst 1, 1) := by decide +kernel
theorem dX8_forget_27 : decode cX8_forget 27 = .ok (.iaload, 1) := by decide +kernel
theorem dX8_forget_28 : decode cX8_forget 28 = .ok (.iadd, 1) := by decide +kernel
theorem dX8_forget_29 : decode cX8_forget 29 = .ok (.goto 7, 3) := by decide +kernel
theorem dX8_forget_32 : decode cX8_forget 32 = .ok (.aload_n 0, 1) := by decide +kernel
theorem dX8_forget_33 : decode cX8_forget 33 = .ok (.getfield 234, 3) := by decide +kernel
theorem dX8_forget_36 : decode cX8_forget 36 = .ok (.istore_n 2, 1) := by decide +kernel
theorem dX8_forget_37 : decode cX8_forget 37 = .ok (.aload_n 0, 1) := by decide +kernel
theorem dX8_forget_38 : decode cX8_forget 38 = .ok (.getfield 50, 3) := by decide +kernel
theorem dX8_forget_41 : decode cX8_forget 41 = .ok (.iconst 0, 1) := by decide +kernel
theorem dX8_forget_42 : decode cX8_forget 42 = .ok (.iload_n 1, 1) := by decide +kernel
theorem dX8_forget_43 : decode cX8_forget 43 = .ok (.ifCond .ne 7, 3) := by decide +kernel
theorem dX8_forget_46 : decode cX8_forget 46 = .ok (.iconst 0, 1) := by decide +kernel
theorem dX8_forget_47 : decode cX8_forget 47 = .ok (.goto 9, 3) := by decide +kernel
theorem dX8_forget_50 : decode cX8_forget 50 = .ok (.aload_n 0, 1) := by decide +kernel
theorem dX8_forget_51 : decode cX8_forget 51 = .ok (.getfield 50, 3) := by decide +kernel
theorem dX8_forget_54 : decode cX8_forget 54 = .ok (.iconst 0, 1) := by decide +kernel
theorem dX8_forget_55 : decode cX8_forget 55 = .ok (.iaload, 1) := by decide +kernel
theorem dX8_forget_56 : decode cX8_forget 56 = .ok (.iastore, 1) := by decide +kernel
theorem dX8_forget_57 : decode cX8_forget 57 = .ok (.aload_n 0, 1) := by decide +kernel
theorem dX8_forget_58 : decode cX8_forget 58 = .ok (.getfield 50, 3) := by decide +kernel
theorem dX8_forget_61 : decode cX8_forget 61 = .ok (.iconst 1, 1) := by decide +kernel
theorem dX8_forget_62 : decode cX8_forget 62 = .ok (.iload_n 1, 1) := by decide +kernel
theorem dX8_forget_63 : decode cX8_forget 63 = .ok (.ifCond .ne 7, 3) := by decide +kernel
theorem dX8_forget_66 : decode cX8_forget 66 = .ok (.iconst 0, 1) := by decide +kernel
theorem dX8_forget_67 : decode cX8_forget 67 = .ok (.goto 9, 3) := by decide +kernel
theorem dX8_forget_70 : decode cX8_forget 70 = .ok (.aload_n 0, 1) := by decide +kernel
theorem dX8_forget_71 : decode cX8_forget 71 = .ok (.getfield 50, 3) := by decide +kernel
theorem dX8_forget_74 : decode cX8_forget 74 = .ok (.iconst 1, 1) := by decide +kernel
theorem dX8_forget_75 : decode cX8_forget 75 = .ok (.iaload, 1) := by decide +kernel
theorem dX8_forget_76 : decode cX8_forget 76 = .ok (.iastore, 1) := by decide +kernel
theorem dX8_forget_77 : decode cX8_forget 77 = .ok (.aload_n 0, 1) := by decide +kernel
theorem dX8_forget_78 : decode cX8_forget 78 = .ok (.iload_n 1, 1) := by decide +kernel
theorem dX8_forget_79 : decode cX8_forget 79 = .ok (.iconst 1, 1) := by decide +kernel
theorem dX8_forget_80 : decode cX8_forget 80 = .ok (.if_icmp .ne 7, 3) := by decide +kernel
theorem dX8_forget_83 : decode cX8_forget 83 = .ok (.iconst 0, 1) := by decide +kernel
theorem dX8_forget_84 : decode cX8_forget 84 = .ok (.goto 7, 3) := by decide +kernel
theorem dX8_forget_87 : decode cX8_forget 87 = .ok (.aload_n 0, 1) := by decide +kernel
theorem dX8_forget_88 : decode cX8_forget 88 = .ok (.getfield 234, 3) := by decide +kernel
theorem dX8_forget_91 : decode cX8_forget 91 = .ok (.putfield 234, 3) := by decide +kernel
theorem dX8_forget_94 : decode cX8_forget 94 = .ok (.iload_n 2, 1) := by decide +kernel
theorem dX8_forget_95 : decode cX8_forget 95 = .ok (.ireturn, 1) := by decide +kernel
theorem dX8_fourthNow_0 : decode cX8_fourthNow 0 = .ok (.aload_n 0, 1) := by decide +kernel
theorem dX8_fourthNow_1 : decode cX8_fourthNow 1 = .ok (.invokevirtual 128, 3) := by decide +kernel
theorem dX8_fourthNow_4 : decode cX8_fourthNow 4 = .ok (.iconst 0, 1) := by decide +kernel
theorem dX8_fourthNow_5 : decode cX8_fourthNow 5 = .ok (.istore_n 1, 1) := by decide +kernel
theorem dX8_fourthNow_6 : decode cX8_fourthNow 6 = .ok (.iconst 0, 1) := by decide +kernel
theorem dX8_fourthNow_7 : decode cX8_fourthNow 7 = .ok (.istore_n 2, 1) := by decide +kernel
theorem dX8_fourthNow_8 : decode cX8_fourthNow 8 = .ok (.iload_n 2, 1) := by decide +kernel
theorem dX8_fourthNow_9 : decode cX8_fourthNow 9 = .ok (.aload_n 0, 1) := by decide +kernel
theorem dX8_fourthNow_10 : decode cX8_fourthNow 10 = .ok (.getfield 112, 3) := by decide +kernel
theorem dX8_fourthNow_13 : decode cX8_fourthNow 13 = .ok (.if_icmp .ge 144, 3) := by decide +kernel
theorem dX8_fourthNow_16 : decode cX8_fourthNow 16 = .ok (.aload_n 0, 1) := by decide +kernel
theorem dX8_fourthNow_17 : decode cX8_fourthNow 17 = .ok (.getfield 137, 3) := by decide +kernel
theorem dX8_fourthNow_20 : decode cX8_fourthNow 20 = .ok (.iload_n 2, 1) := by decide +kernel
theorem dX8_fourthNow_21 : decode cX8_fourthNow 21 = .ok (.invokestatic 140, 3) := by decide +kernel
theorem dX8_fourthNow_24 : decode cX8_fourthNow 24 = .ok (.istore_n 3, 1) := by decide +kernel
theorem dX8_fourthNow_25 : decode cX8_fourthNow 25 = .ok (.iconst 0, 1) := by decide +kernel
theorem dX8_fourthNow_26 : decode cX8_fourthNow 26 = .ok (.istore 4, 2) := by decide +kernel
theorem dX8_fourthNow_28 : decode cX8_fourthNow 28 = .ok (.iload 4, 2) := by decide +kernel
theorem dX8_fourthNow_30 : decode cX8_fourthNow 30 = .ok (.aload_n 0, 1) := by decide +kernel
theorem dX8_fourthNow_31 : decode cX8_fourthNow 31 = .ok (.getfield 234, 3) := by decide +kernel
theorem dX8_fourthNow_34 : decode cX8_fourthNow 34 = .ok (.if_icmp .ge 103, 3) := by decide +kernel
theorem dX8_fourthNow_37 : decode cX8_fourthNow 37 = .ok (.aload_n 0, 1) := by decide +kernel
theorem dX8_fourthNow_38 : decode cX8_fourthNow 38 = .ok (.getfield 53, 3) := by decide +kernel
theorem dX8_fourthNow_41 : decode cX8_fourthNow 41 = .ok (.iload 4, 2) := by decide +kernel
theorem dX8_fourthNow_43 : decode cX8_fourthNow 43 = .ok (.iaload, 1) := by decide +kernel
theorem dX8_fourthNow_44 : decode cX8_fourthNow 44 = .ok (.ifCond .ne 27, 3) := by decide +kernel
theorem dX8_fourthNow_47 : decode cX8_fourthNow 47 = .ok (.aload_n 0, 1) := by decide +kernel
theorem dX8_fourthNow_48 : decode cX8_fourthNow 48 = .ok (.getfield 16, 3) := by decide +kernel
theorem dX8_fourthNow_51 : decode cX8_fourthNow 51 = .ok (.iload_n 2, 1) := by decide +kernel
theorem dX8_fourthNow_52 : decode cX8_fourthNow 52 = .ok (.iaload, 1) := by decide +kernel
theorem dX8_fourthNow_53 : decode cX8_fourthNow 53 = .ok (.aload_n 0, 1) := by decide +kernel
theorem dX8_fourthNow_54 : decode cX8_fourthNow 54 = .ok (.getfield 56, 3) := by decide +kernel
theorem dX8_fourthNow_57 : decode cX8_fourthNow 57 = .ok (.iload 4, 2) := by decide +kernel
theorem dX8_fourthNow_59 : decode cX8_fourthNow 59 = .ok (.iaload, 1) := by decide +kernel
theorem dX8_fourthNow_60 : decode cX8_fourthNow 60 = .ok (.if_icmp .lt 7, 3) := by decide +kernel
theorem dX8_fourthNow_63 : decode cX8_fourthNow 63 = .ok (.iconst 1, 1) := by decide +kernel
theorem dX8_fourthNow_64 : decode cX8_fourthNow 64 = .ok (.goto 34, 3) := by decide +kernel
theorem dX8_fourthNow_67 : decode cX8_fourthNow 67 = .ok (.iconst 0, 1) := by decide +kernel
theorem dX8_fourthNow_68 : decode cX8_fourthNow 68 = .ok (.goto 30, 3) := by decide +kernel
theorem dX8_fourthNow_71 : decode cX8_fourthNow 71 = .ok (.aload_n 0, 1) := by decide +kernel
theorem dX8_fourthNow_72 : decode cX8_fourthNow 72 = .ok (.iload_n 2, 1) := by decide +kernel
theorem dX8_fourthNow_73 : decode cX8_fourthNow 73 = .ok (.aload_n 0, 1) := by decide +kernel
theorem dX8_fourthNow_74 : decode cX8_fourthNow 74 = .ok (.getfield 53, 3) := by decide +kernel
theorem dX8_fourthNow_77 : decode cX8_fourthNow 77 = .ok (.iload 4, 2) := by decide +kernel
theorem dX8_fourthNow_79 : decode cX8_fourthNow 79 = .ok (.iaload, 1) := by decide +kernel
theorem dX8_fourthNow_80 : decode cX8_fourthNow 80 = .ok (.invokevirtual 131, 3) := by decide +kernel
theorem dX8_fourthNow_83 : decode cX8_fourthNow 83 = .ok (.aload_n 0, 1) := by decide +kernel
theorem dX8_fourthNow_84 : decode cX8_fourthNow 84 = .ok (.getfield 56, 3) := by decide +kernel
theorem dX8_fourthNow_87 : decode cX8_fourthNow 87 = .ok (.iload 4, 2) := by decide +kernel
theorem dX8_fourthNow_89 : decode cX8_fourthNow 89 = .ok (.iaload, 1) := by decide +kernel
theorem dX8_fourthNow_90 : decode cX8_fourthNow 90 = .ok (.if_icmp .ne 7, 3) := by decide +kernel
theorem dX8_fourthNow_93 : decode cX8_fourthNow 93 = .ok (.iconst 1, 1) := by decide +kernel
theorem dX8_fourthNow_94 : decode cX8_fourthNow 94 = .ok (.goto 4, 3) := by decide +kernel
theorem dX8_fourthNow_97 : decode cX8_fourthNow 97 = .ok (.iconst 0, 1) := by decide +kernel
theorem dX8_fourthNow_98 : decode cX8_fourthNow 98 = .ok (.istore 5, 2) := by decide +kernel
theorem dX8_fourthNow_100 : decode cX8_fourthNow 100 = .ok (.iload_n 3, 1) := by decide +kernel
theorem dX8_fourthNow_101 : decode cX8_fourthNow 101 = .ok (.ifCond .eq 28, 3) := by decide +kernel
theorem dX8_fourthNow_104 : decode cX8_fourthNow 104 = .ok (.iload 5, 2) := by decide +kernel
theorem dX8_fourthNow_106 : decode cX8_fourthNow 106 = .ok (.aload_n 0, 1) := by decide +kernel
theorem dX8_fourthNow_107 : decode cX8_fourthNow 107 = .ok (.getfield 59, 3) := by decide +kernel
theorem dX8_fourthNow_110 : decode cX8_fourthNow 110 = .ok (.iload 4, 2) := by decide +kernel
theorem dX8_fourthNow_112 : decode cX8_fourthNow 112 = .ok (.iaload, 1) := by decide +kernel
theorem dX8_fourthNow_113 : decode cX8_fourthNow 113 = .ok (.iconst 1, 1) := by decide +kernel
theorem dX8_fourthNow_114 : decode cX8_fourthNow 114 = .ok (.if_icmp .ne 7, 3) := by decide +kernel
theorem dX8_fourthNow_117 : decode cX8_fourthNow 117 = .ok (.iconst 1, 1) := by decide +kernel
theorem dX8_fourthNow_118 : decode cX8_fourthNow 118 = .ok (.goto 4, 3) := by decide +kernel
theorem dX8_fourthNow_121 : decode cX8_fourthNow 121 = .ok (.iconst 0, 1) := by decide +kernel
theorem dX8_fourthNow_122 : decode cX8_fourthNow 122 = .ok (.if_icmp .ne 7, 3) := by decide +kernel
theorem dX8_fourthNow_125 : decode cX8_fourthNow 125 = .ok (.iconst 1, 1) := by decide +kernel
theorem dX8_fourthNow_126 : decode cX8_fourthNow 126 = .ok (.goto 4, 3) := by decide +kernel
theorem dX8_fourthNow_129 : decode cX8_fourthNow 129 = .ok (.iconst 0, 1) := by decide +kernel
theorem dX8_fourthNow_130 : decode cX8_fourthNow 130 = .ok (.istore_n 3, 1) := by decide +kernel
theorem dX8_fourthNow_131 : decode cX8_fourthNow 131 = .ok (.iinc 4 1, 3) := by decide +kernel
theorem dX8_fourthNow_134 : decode cX8_fourthNow 134 = .ok (.goto (-106), 3) := by decide +kernel
theorem dX8_fourthNow_137 : decode cX8_fourthNow 137 = .ok (.iload_n 1, 1) := by decide +kernel
theorem dX8_fourthNow_138 : decode cX8_fourthNow 138 = .ok (.iload_n 3, 1) := by decide +kernel
theorem dX8_fourthNow_139 : decode cX8_fourthNow 139 = .ok (.ifCond .eq 9, 3) := by decide +kernel
theorem dX8_fourthNow_142 : decode cX8_fourthNow 142 = .ok (.iconst 1, 1) := by decide +kernel
theorem dX8_fourthNow_143 : decode cX8_fourthNow 143 = .ok (.iload_n 2, 1) := by decide +kernel
theorem dX8_fourthNow_144 : decode cX8_fourthNow 144 = .ok (.ishl, 1) := by decide +kernel
theorem dX8_fourthNow_145 : decode cX8_fourthNow 145 = .ok (.goto 4, 3) := by decide +kernel
theorem dX8_fourthNow_148 : decode cX8_fourthNow 148 = .ok (.iconst 0, 1) := by decide +kernel
theorem dX8_fourthNow_149 : decode cX8_fourthNow 149 = .ok (.ior, 1) := by decide +kernel
theorem dX8_fourthNow_150 : decode cX8_fourthNow 150 = .ok (.istore_n 1, 1) := by decide +kernel
theorem dX8_fourthNow_151 : decode cX8_fourthNow 151 = .ok (.iinc 2 1, 3) := by decide +kernel
theorem dX8_fourthNow_154 : decode cX8_fourthNow 154 = .ok (.goto (-146), 3) := by decide +kernel
theorem dX8_fourthNow_157 : decode cX8_fourthNow 157 = .ok (.iload_n 1, 1) := by decide +kernel
theorem dX8_fourthNow_158 : decode cX8_fourthNow 158 = .ok (.ireturn, 1) := by decide +kernel
theorem dX8_fourth_0 : decode cX8_fourth 0 = .ok (.aload_n 0, 1) := by decide +kernel
theorem dX8_fourth_1 : decode cX8_fourth 1 = .ok (.invokevirtual 237, 3) := by decide +kernel
theorem dX8_fourth_4 : decode cX8_fourth 4 = .ok (.ireturn, 1) := by decide +kernel
theorem dX8_comingOf_0 : decode cX8_comingOf 0 = .ok (.aload_n 0, 1) := by decide +kernel
theorem dX8_comingOf_1 : decode cX8_comingOf 1 = .ok (.invokevirtual 160, 3) := by decide +kernel
theorem dX8_comingOf_4 : decode cX8_comingOf 4 = .ok (.istore_n 3, 1) := by decide +kernel
theorem dX8_comingOf_5 : decode cX8_comingOf 5 = .ok (.iload_n 1, 1) := by decide +kernel
theorem dX8_comingOf_6 : decode cX8_comingOf 6 = .ok (.istore 4, 2) := by decide +kernel
theorem dX8_comingOf_8 : decode cX8_comingOf 8 = .ok (.iload_n 3, 1) := by decide +kernel
theorem dX8_comingOf_9 : decode cX8_comingOf 9 = .ok (.ifCond .eq 177, 3) := by decide +kernel
theorem dX8_comingOf_12 : decode cX8_comingOf 12 = .ok (.aload_n 0, 1) := by decide +kernel
theorem dX8_comingOf_13 : decode cX8_comingOf 13 = .ok (.getfield 115, 3) := by decide +kernel
theorem dX8_comingOf_16 : decode cX8_comingOf 16 = .ok (.ifCond .le 170, 3) := by decide +kernel
theorem dX8_comingOf_19 : decode cX8_comingOf 19 = .ok (.ldc 240, 2) := by decide +kernel
theorem dX8_comingOf_21 : decode cX8_comingOf 21 = .ok (.iload 4, 2) := by decide +kernel
theorem dX8_comingOf_23 : decode cX8_comingOf 23 = .ok (.imul, 1) := by decide +kernel
theorem dX8_comingOf_24 : decode cX8_comingOf 24 = .ok (.sipush 12345, 3) := by decide +kernel
theorem dX8_comingOf_27 : decode cX8_comingOf 27 = .ok (.iadd, 1) := by decide +kernel
theorem dX8_comingOf_28 : decode cX8_comingOf 28 = .ok (.istore 4, 2) := by decide +kernel
theorem dX8_comingOf_30 : decode cX8_comingOf 30 = .ok (.iload 4, 2) := by decide +kernel
theorem dX8_comingOf_32 : decode cX8_comingOf 32 = .ok (.bipush 16, 2) := by decide +kernel
theorem dX8_comingOf_34 : decode cX8_comingOf 34 = .ok (.iushr, 1) := by decide +kernel
theorem dX8_comingOf_35 : decode cX8_comingOf 35 = .ok (.aload_n 0, 1) := by decide +kernel
theorem dX8_comingOf_36 : decode cX8_comingOf 36 = .ok (.getfield 115, 3) := by decide +kernel
theorem dX8_comingOf_39 : decode cX8_comingOf 39 = .ok (.irem, 1) := by decide +kernel
theorem dX8_comingOf_40 : decode cX8_comingOf 40 = .ok (.istore 5, 2) := by decide +kernel
theorem dX8_comingOf_42 : decode cX8_comingOf 42 = .ok (.aload_n 0, 1) := by decide +kernel
theorem dX8_comingOf_43 : decode cX8_comingOf 43 = .ok (.getfield 28, 3) := by decide +kernel
theorem dX8_comingOf_46 : decode cX8_comingOf 46 = .ok (.iload 5, 2) := by decide +kernel
theorem dX8_comingOf_48 : decode cX8_comingOf 48 = .ok (.iaload, 1) := by decide +kernel
theorem dX8_comingOf_49 : decode cX8_comingOf 49 = .ok (.aload_n 0, 1) := by decide +kernel
theorem dX8_comingOf_50 : decode cX8_comingOf 50 = .ok (.iload_n 3, 1) := by decide +kernel
theorem dX8_comingOf_51 : decode cX8_comingOf 51 = .ok (.invokevirtual 163, 3) := by decide +kernel
theorem dX8_comingOf_54 : decode cX8_comingOf 54 = .ok (.imul, 1) := by decide +kernel
theorem dX8_comingOf_55 : decode cX8_comingOf 55 = .ok (.aload_n 0, 1) := by decide +kernel
theorem dX8_comingOf_56 : decode cX8_comingOf 56 = .ok (.getfield 78, 3) := by decide +kernel
theorem dX8_comingOf_59 : decode cX8_comingOf 59 = .ok (.if_icmp .lt 28, 3) := by decide +kernel
theorem dX8_comingOf_62 : decode cX8_comingOf 62 = .ok (.aload_n 0, 1) := by decide +kernel
theorem dX8_comingOf_63 : decode cX8_comingOf 63 = .ok (.getfield 25, 3) := by decide +kernel
theorem dX8_comingOf_66 : decode cX8_comingOf 66 = .ok (.iload 5, 2) := by decide +kernel
theorem dX8_comingOf_68 : decode cX8_comingOf 68 = .ok (.iaload, 1) := by decide +kernel
theorem dX8_comingOf_69 : decode cX8_comingOf 69 = .ok (.aload_n 0, 1) := by decide +kernel
theorem dX8_comingOf_70 : decode cX8_comingOf 70 = .ok (.getfield 78, 3) := by decide +kernel
theorem dX8_comingOf_73 : decode cX8_comingOf 73 = .ok (.if_icmp .lt 14, 3) := by decide +kernel
theorem dX8_comingOf_76 : decode cX8_comingOf 76 = .ok (.iload_n 2, 1) := by decide +kernel
theorem dX8_comingOf_77 : decode cX8_comingOf 77 = .ok (.ifCond .ne 7, 3) := by decide +kernel
theorem dX8_comingOf_80 : decode cX8_comingOf 80 = .ok (.iload_n 3, 1) := by decide +kernel
theorem dX8_comingOf_81 : decode cX8_comingOf 81 = .ok (.goto 5, 3) := by decide +kernel
theorem dX8_comingOf_84 : decode cX8_comingOf 84 = .ok (.iload 5, 2) := by decide +kernel
theorem dX8_comingOf_86 : decode cX8_comingOf 86 = .ok (.ireturn, 1) := by decide +kernel
theorem dX8_comingOf_87 : decode cX8_comingOf 87 = .ok (.iconst 0, 1) := by decide +kernel
theorem dX8_comingOf_88 : decode cX8_comingOf 88 = .ok (.istore 6, 2) := by decide +kernel
theorem dX8_comingOf_90 : decode cX8_comingOf 90 = .ok (.iload 6, 2) := by decide +kernel
theorem dX8_comingOf_92 : decode cX8_comingOf 92 = .ok (.aload_n 0, 1) := by decide +kernel
theorem dX8_comingOf_93 : decode cX8_comingOf 93 = .ok (.getfield 82, 3) := by decide +kernel
theorem dX8_comingOf_96 : decode cX8_comingOf 96 = .ok (.if_icmp .ge 87, 3) := by decide +kernel
theorem dX8_comingOf_99 : decode cX8_comingOf 99 = .ok (.iload_n 3, 1) := by decide +kernel
theorem dX8_comingOf_100 : decode cX8_comingOf 100 = .ok (.ifCond .eq 83, 3) := by decide +kernel
theorem dX8_comingOf_103 : decode cX8_comingOf 103 = .ok (.ldc 240, 2) := by decide +kernel
theorem dX8_comingOf_105 : decode cX8_comingOf 105 = .ok (.iload 4, 2) := by decide +kernel
theorem dX8_comingOf_107 : decode cX8_comingOf 107 = .ok (.imul, 1) := by decide +kernel
theorem dX8_comingOf_108 : decode cX8_comingOf 108 = .ok (.sipush 12345, 3) := by decide +kernel
theorem dX8_comingOf_111 : decode cX8_comingOf 111 = .ok (.iadd, 1) := by decide +kernel
theorem dX8_comingOf_112 : decode cX8_comingOf 112 = .ok (.istore 4, 2) := by decide +kernel
theorem dX8_comingOf_114 : decode cX8_comingOf 114 = .ok (.iload 4, 2) := by decide +kernel
theorem dX8_comingOf_116 : decode cX8_comingOf 116 = .ok (.bipush 16, 2) := by decide +kernel
theorem dX8_comingOf_118 : decode cX8_comingOf 118 = .ok (.iushr, 1) := by decide +kernel
theorem dX8_comingOf_119 : decode cX8_comingOf 119 = .ok (.iload_n 3, 1) := by decide +kernel
theorem dX8_comingOf_120 : decode cX8_comingOf 120 = .ok (.invokestatic 88, 3) := by decide +kernel
theorem dX8_comingOf_123 : decode cX8_comingOf 123 = .ok (.irem, 1) := by decide +kernel
theorem dX8_comingOf_124 : decode cX8_comingOf 124 = .ok (.istore 7, 2) := by decide +kernel
theorem dX8_comingOf_126 : decode cX8_comingOf 126 = .ok (.iconst 0, 1) := by decide +kernel
theorem dX8_comingOf_127 : decode cX8_comingOf 127 = .ok (.istore 8, 2) := by decide +kernel
theorem dX8_comingOf_129 : decode cX8_comingOf 129 = .ok (.iload_n 3, 1) := by decide +kernel
theorem dX8_comingOf_130 : decode cX8_comingOf 130 = .ok (.iload 8, 2) := by decide +kernel
theorem dX8_comingOf_132 : decode cX8_comingOf 132 = .ok (.invokestatic 140, 3) := by decide +kernel
theorem dX8_comingOf_135 : decode cX8_comingOf 135 = .ok (.ifCond .eq 8, 3) := by decide +kernel
theorem dX8_comingOf_138 : decode cX8_comingOf 138 = .ok (.iload 7, 2) := by decide +kernel
theorem dX8_comingOf_140 : decode cX8_comingOf 140 = .ok (.ifCond .le 28, 3) := by decide +kernel
theorem dX8_comingOf_143 : decode cX8_comingOf 143 = .ok (.iload 7, 2) := by decide +kernel
theorem dX8_comingOf_145 : decode cX8_comingOf 145 = .ok (.iload_n 3, 1) := by decide +kernel
theorem dX8_comingOf_146 : decode cX8_comingOf 146 = .ok (.iload 8, 2) := by decide +kernel
theorem dX8_comingOf_148 : decode cX8_comingOf 148 = .ok (.invokestatic 140, 3) := by decide +kernel
theorem dX8_comingOf_151 : decode cX8_comingOf 151 = .ok (.ifCond .eq 7, 3) := by decide +kernel
theorem dX8_comingOf_154 : decode cX8_comingOf 154 = .ok (.iconst 1, 1) := by decide +kernel
theorem dX8_comingOf_155 : decode cX8_comingOf 155 = .ok (.goto 4, 3) := by decide +kernel
theorem dX8_comingOf_158 : decode cX8_comingOf 158 = .ok (.iconst 0, 1) := by decide +kernel
theorem dX8_comingOf_159 : decode cX8_comingOf 159 = .ok (.isub, 1) := by decide +kernel
theorem dX8_comingOf_160 : decode cX8_comingOf 160 = .ok (.istore 7, 2) := by decide +kernel
theorem dX8_comingOf_162 : decode cX8_comingOf 162 = .ok (.iinc 8 1, 3) := by decide +kernel
theorem dX8_comingOf_165 : decode cX8_comingOf 165 = .ok (.goto (-36), 3) := by decide +kernel
theorem dX8_comingOf_168 : decode cX8_comingOf 168 = .ok (.iload_n 3, 1) := by decide +kernel
theorem dX8_comingOf_169 : decode cX8_comingOf 169 = .ok (.iconst 1, 1) := by decide +kernel
theorem dX8_comingOf_170 : decode cX8_comingOf 170 = .ok (.iload 8, 2) := by decide +kernel
theorem dX8_comingOf_172 : decode cX8_comingOf 172 = .ok (.ishl, 1) := by decide +kernel
theorem dX8_comingOf_173 : decode cX8_comingOf 173 = .ok (.iconst (-1), 1) := by decide +kernel
theorem dX8_comingOf_174 : decode cX8_comingOf 174 = .ok (.ixor, 1) := by decide +kernel
theorem dX8_comingOf_175 : decode cX8_comingOf 175 = .ok (.iand, 1) := by decide +kernel
theorem dX8_comingOf_176 : decode cX8_comingOf 176 = .ok (.istore_n 3, 1) := by decide +kernel
theorem dX8_comingOf_177 : decode cX8_comingOf 177 = .ok (.iinc 6 1, 3) := by decide +kernel
theorem dX8_comingOf_180 : decode cX8_comingOf 180 = .ok (.goto (-90), 3) := by decide +kernel
theorem dX8_comingOf_183 : decode cX8_comingOf 183 = .ok (.goto (-175), 3) := by decide +kernel
theorem dX8_comingOf_186 : decode cX8_comingOf 186 = .ok (.iconst (-1), 1) := by decide +kernel
theorem dX8_comingOf_187 : decode cX8_comingOf 187 = .ok (.ireturn, 1) := by decide +kernel
theorem dX8_coming_0 : decode cX8_coming 0 = .ok (.iload_n 2, 1) := by decide +kernel
theorem dX8_coming_1 : decode cX8_coming 1 = .ok (.iconst 0, 1) := by decide +kernel
theorem dX8_coming_2 : decode cX8_coming 2 = .ok (.iconst 1, 1) := by decide +kernel
theorem dX8_coming_3 : decode cX8_coming 3 = .ok (.invokestatic 94, 3) := by decide +kernel
theorem dX8_coming_6 : decode cX8_coming 6 = .ok (.ifCond .eq 12, 3) := by decide +kernel
theorem dX8_coming_9 : decode cX8_coming 9 = .ok (.aload_n 0, 1) := by decide +kernel
theorem dX8_coming_10 : decode cX8_coming 10 = .ok (.iload_n 1, 1) := by decide +kernel
theorem dX8_coming_11 : decode cX8_coming 11 = .ok (.iload_n 2, 1) := by decide +kernel
theorem dX8_coming_12 : decode cX8_coming 12 = .ok (.invokevirtual 241, 3) := by decide +kernel
theorem dX8_coming_15 : decode cX8_coming 15 = .ok (.goto 5, 3) := by decide +kernel
theorem dX8_coming_18 : decode cX8_coming 18 = .ok (.bipush (-2), 2) := by decide +kernel
theorem dX8_coming_20 : decode cX8_coming 20 = .ok (.ireturn, 1) := by decide +kernel
theorem dX8_meets_0 : decode cX8_meets 0 = .ok (.aload_n 0, 1) := by decide +kernel
theorem dX8_meets_1 : decode cX8_meets 1 = .ok (.iload_n 1, 1) := by decide +kernel
theorem dX8_meets_2 : decode cX8_meets 2 = .ok (.putfield 244, 3) := by decide +kernel
theorem dX8_meets_5 : decode cX8_meets 5 = .ok (.bipush (-10), 2) := by decide +kernel
theorem dX8_meets_7 : decode cX8_meets 7 = .ok (.iload_n 1, 1) := by decide +kernel
theorem dX8_meets_8 : decode cX8_meets 8 = .ok (.isub, 1) := by decide +kernel
theorem dX8_meets_9 : decode cX8_meets 9 = .ok (.ireturn, 1) := by decide +kernel
theorem dX8_isSheet_0 : decode cX8_isSheet 0 = .ok (.iload_n 0, 1) := by decide +kernel
theorem dX8_isSheet_1 : decode cX8_isSheet 1 = .ok (.iconst 0, 1) := by decide +kernel
theorem dX8_isSheet_2 : decode cX8_isSheet 2 = .ok (.iconst 3, 1) := by decide +kernel
theorem dX8_isSheet_3 : decode cX8_isSheet 3 = .ok (.invokestatic 94, 3) := by decide +kernel
theorem dX8_isSheet_6 : decode cX8_isSheet 6 = .ok (.ireturn, 1) := by decide +kernel
theorem dX8_sheet_0 : decode cX8_sheet 0 = .ok (.iload_n 1, 1) := by decide +kernel
theorem dX8_sheet_1 : decode cX8_sheet 1 = .ok (.invokestatic 147, 3) := by decide +kernel
theorem dX8_sheet_4 : decode cX8_sheet 4 = .ok (.ifCond .eq 18, 3) := by decide +kernel
theorem dX8_sheet_7 : decode cX8_sheet 7 = .ok (.iload_n 2, 1) := by decide +kernel
theorem dX8_sheet_8 : decode cX8_sheet 8 = .ok (.iconst 0, 1) := by decide +kernel
theorem dX8_sheet_9 : decode cX8_sheet 9 = .ok (.iconst 2, 1) := by decide +kernel
theorem dX8_sheet_10 : decode cX8_sheet 10 = .ok (.invokestatic 94, 3) := by decide +kernel
theorem dX8_sheet_13 : decode cX8_sheet 13 = .ok (.ifCond .eq 9, 3) := by decide +kernel
theorem dX8_sheet_16 : decode cX8_sheet 16 = .ok (.iload_n 3, 1) := by decide +kernel
theorem dX8_sheet_17 : decode cX8_sheet 17 = .ok (.bipush 48, 2) := by decide +kernel
theorem dX8_sheet_19 : decode cX8_sheet 19 = .ok (.if_icmp .le 6, 3) := by decide +kernel
theorem dX8_sheet_22 : decode cX8_sheet 22 = .ok (.bipush (-2), 2) := by decide +kernel
theorem dX8_sheet_24 : decode cX8_sheet 24 = .ok (.ireturn, 1) := by decide +kernel
theorem dX8_sheet_25 : decode cX8_sheet 25 = .ok (.iload_n 3, 1) := by decide +kernel
theorem dX8_sheet_26 : decode cX8_sheet 26 = .ok (.ifCond .ge 9, 3) := by decide +kernel
theorem dX8_sheet_29 : decode cX8_sheet 29 = .ok (.aload_n 0, 1) := by decide +kernel
theorem dX8_sheet_30 : decode cX8_sheet 30 = .ok (.iconst 5, 1) := by decide +kernel
theorem dX8_sheet_31 : decode cX8_sheet 31 = .ok (.invokevirtual 150, 3) := by decide +kernel
theorem dX8_sheet_34 : decode cX8_sheet 34 = .ok (.ireturn, 1) := by decide +kernel
theorem dX8_sheet_35 : decode cX8_sheet 35 = .ok (.aload_n 0, 1) := by decide +kernel
theorem dX8_sheet_36 : decode cX8_sheet 36 = .ok (.getfield 62, 3) := by decide +kernel
theorem dX8_sheet_39 : decode cX8_sheet 39 = .ok (.iload_n 1, 1) := by decide +kernel
theorem dX8_sheet_40 : decode cX8_sheet 40 = .ok (.iconst 1, 1) := by decide +kernel
theorem dX8_sheet_41 : decode cX8_sheet 41 = .ok (.bastore, 1) := by decide +kernel
theorem dX8_sheet_42 : decode cX8_sheet 42 = .ok (.aload_n 0, 1) := by decide +kernel
theorem dX8_sheet_43 : decode cX8_sheet 43 = .ok (.getfield 66, 3) := by decide +kernel
theorem dX8_sheet_46 : decode cX8_sheet 46 = .ok (.iload_n 1, 1) := by decide +kernel
theorem dX8_sheet_47 : decode cX8_sheet 47 = .ok (.iload_n 2, 1) := by decide +kernel
theorem dX8_sheet_48 : decode cX8_sheet 48 = .ok (.iastore, 1) := by decide +kernel
theorem dX8_sheet_49 : decode cX8_sheet 49 = .ok (.aload_n 0, 1) := by decide +kernel
theorem dX8_sheet_50 : decode cX8_sheet 50 = .ok (.getfield 69, 3) := by decide +kernel
theorem dX8_sheet_53 : decode cX8_sheet 53 = .ok (.iload_n 1, 1) := by decide +kernel
theorem dX8_sheet_54 : decode cX8_sheet 54 = .ok (.iload_n 3, 1) := by decide +kernel
theorem dX8_sheet_55 : decode cX8_sheet 55 = .ok (.iastore, 1) := by decide +kernel
theorem dX8_sheet_56 : decode cX8_sheet 56 = .ok (.iconst 0, 1) := by decide +kernel
theorem dX8_sheet_57 : decode cX8_sheet 57 = .ok (.istore 4, 2) := by decide +kernel
theorem dX8_sheet_59 : decode cX8_sheet 59 = .ok (.iload 4, 2) := by decide +kernel
theorem dX8_sheet_61 : decode cX8_sheet 61 = .ok (.bipush 48, 2) := by decide +kernel
theorem dX8_sheet_63 : decode cX8_sheet 63 = .ok (.if_icmp .ge 22, 3) := by decide +kernel
theorem dX8_sheet_66 : decode cX8_sheet 66 = .ok (.aload_n 0, 1) := by decide +kernel
theorem dX8_sheet_67 : decode cX8_sheet 67 = .ok (.getfield 72, 3) := by decide +kernel
theorem dX8_sheet_70 : decode cX8_sheet 70 = .ok (.bipush 48, 2) := by decide +kernel
theorem dX8_sheet_72 : decode cX8_sheet 72 = .ok (.iload_n 1, 1) := by decide +kernel
theorem dX8_sheet_73 : decode cX8_sheet 73 = .ok (.imul, 1) := by decide +kernel
theorem dX8_sheet_74 : decode cX8_sheet 74 = .ok (.iload 4, 2) := by decide +kernel
theorem dX8_sheet_76 : decode cX8_sheet 76 = .ok (.iadd, 1) := by decide +kernel
theorem dX8_sheet_77 : decode cX8_sheet 77 = .ok (.iconst 0, 1) := by decide +kernel
theorem dX8_sheet_78 : decode cX8_sheet 78 = .ok (.iastore, 1) := by decide +kernel
theorem dX8_sheet_79 : decode cX8_sheet 79 = .ok (.iinc 4 1, 3) := by decide +kernel
theorem dX8_sheet_82 : decode cX8_sheet 82 = .ok (.goto (-23), 3) := by decide +kernel
theorem dX8_sheet_85 : decode cX8_sheet 85 = .ok (.iload_n 3, 1) := by decide +kernel
theorem dX8_sheet_86 : decode cX8_sheet 86 = .ok (.ireturn, 1) := by decide +kernel
theorem dX8_lose_0 : decode cX8_lose 0 = .ok (.iload_n 1, 1) := by decide +kernel
theorem dX8_lose_1 : decode cX8_lose 1 = .ok (.invokestatic 147, 3) := by decide +kernel
theorem dX8_lose_4 : decode cX8_lose 4 = .ok (.ifCond .ne 6, 3) := by decide +kernel
theorem dX8_lose_7 : decode cX8_lose 7 = .ok (.bipush (-2), 2) := by decide +kernel
theorem dX8_lose_9 : decode cX8_lose 9 = .ok (.ireturn, 1) := by decide +kernel
theorem dX8_lose_10 : decode cX8_lose 10 = .ok (.aload_n 0, 1) := by decide +kernel
theorem dX8_lose_11 : decode cX8_lose 11 = .ok (.getfield 62, 3) := by decide +kernel
theorem dX8_lose_14 : decode cX8_lose 14 = .ok (.iload_n 1, 1) := by decide +kernel
theorem dX8_lose_15 : decode cX8_lose 15 = .ok (.baload, 1) := by decide +kernel
theorem dX8_lose_16 : decode cX8_lose 16 = .ok (.ifCond .ne 9, 3) := by decide +kernel
theorem dX8_lose_19 : decode cX8_lose 19 = .ok (.aload_n 0, 1) := by decide +kernel
theorem dX8_lose_20 : decode cX8_lose 20 = .ok (.iconst 1, 1) := by decide +kernel
theorem dX8_lose_21 : decode cX8_lose 21 = .ok (.invokevirtual 150, 3) := by decide +kernel
theorem dX8_lose_24 : decode cX8_lose 24 = .ok (.ireturn, 1) := by decide +kernel
theorem dX8_lose_25 : decode cX8_lose 25 = .ok (.aload_n 0, 1) := by decide +kernel
theorem dX8_lose_26 : decode cX8_lose 26 = .ok (.getfield 62, 3) := by decide +kernel
theorem dX8_lose_29 : decode cX8_lose 29 = .ok (.iload_n 1, 1) := by decide +kernel
theorem dX8_lose_30 : decode cX8_lose 30 = .ok (.iconst 0, 1) := by decide +kernel
theorem dX8_lose_31 : decode cX8_lose 31 = .ok (.bastore, 1) := by decide +kernel
theorem dX8_lose_32 : decode cX8_lose 32 = .ok (.aload_n 0, 1) := by decide +kernel
theorem dX8_lose_33 : decode cX8_lose 33 = .ok (.getfield 69, 3) := by decide +kernel
theorem dX8_lose_36 : decode cX8_lose 36 = .ok (.iload_n 1, 1) := by decide +kernel
theorem dX8_lose_37 : decode cX8_lose 37 = .ok (.iaload, 1) := by decide +kernel
theorem dX8_lose_38 : decode cX8_lose 38 = .ok (.ireturn, 1) := by decide +kernel
theorem dX8_lacks_0 : decode cX8_lacks 0 = .ok (.aload_n 0, 1) := by decide +kernel
theorem dX8_lacks_1 : decode cX8_lacks 1 = .ok (.getfield 62, 3) := by decide +kernel
theorem dX8_lacks_4 : decode cX8_lacks 4 = .ok (.iload_n 1, 1) := by decide +kernel
theorem dX8_lacks_5 : decode cX8_lacks 5 = .ok (.baload, 1) := by decide +kernel
theorem dX8_lacks_6 : decode cX8_lacks 6 = .ok (.ifCond .ne 7, 3) := by decide +kernel
theorem dX8_lacks_9 : decode cX8_lacks 9 = .ok (.iconst 1, 1) := by decide +kernel
theorem dX8_lacks_10 : decode cX8_lacks 10 = .ok (.goto 38, 3) := by decide +kernel
theorem dX8_lacks_13 : decode cX8_lacks 13 = .ok (.aload_n 0, 1) := by decide +kernel
theorem dX8_lacks_14 : decode cX8_lacks 14 = .ok (.getfield 66, 3) := by decide +kernel
theorem dX8_lacks_17 : decode cX8_lacks 17 = .ok (.iload_n 1, 1) := by decide +kernel
theorem dX8_lacks_18 : decode cX8_lacks 18 = .ok (.iaload, 1) := by decide +kernel
theorem dX8_lacks_19 : decode cX8_lacks 19 = .ok (.iload_n 2, 1) := by decide +kernel
theorem dX8_lacks_20 : decode cX8_lacks 20 = .ok (.if_icmp .eq 7, 3) := by decide +kernel
theorem dX8_lacks_23 : decode cX8_lacks 23 = .ok (.iconst 3, 1) := by decide +kernel
theorem dX8_lacks_24 : decode cX8_lacks 24 = .ok (.goto 24, 3) := by decide +kernel
theorem dX8_lacks_27 : decode cX8_lacks 27 = .ok (.iload_n 3, 1) := by decide +kernel
theorem dX8_lacks_28 : decode cX8_lacks 28 = .ok (.iconst 0, 1) := by decide +kernel
theorem dX8_lacks_29 : decode cX8_lacks 29 = .ok (.aload_n 0, 1) := by decide +kernel
theorem dX8_lacks_30 : decode cX8_lacks 30 = .ok (.getfield 69, 3) := by decide +kernel
theorem dX8_lacks_33 : decode cX8_lacks 33 = .ok (.iload_n 1, 1) := by decide +kernel
theorem dX8_lacks_34 : decode cX8_lacks 34 = .ok (.iaload, 1) := by decide +kernel
theorem dX8_lacks_35 : decode cX8_lacks 35 = .ok (.iconst 1, 1) := by decide +kernel
theorem dX8_lacks_36 : decode cX8_lacks 36 = .ok (.isub, 1) := by decide +kernel
theorem dX8_lacks_37 : decode cX8_lacks 37 = .ok (.invokestatic 94, 3) := by decide +kernel
theorem dX8_lacks_40 : decode cX8_lacks 40 = .ok (.ifCond .eq 7, 3) := by decide +kernel
theorem dX8_lacks_43 : decode cX8_lacks 43 = .ok (.iconst 0, 1) := by decide +kernel
theorem dX8_lacks_44 : decode cX8_lacks 44 = .ok (.goto 4, 3) := by decide +kernel
theorem dX8_lacks_47 : decode cX8_lacks 47 = .ok (.iconst 2, 1) := by decide +kernel
theorem dX8_lacks_48 : decode cX8_lacks 48 = .ok (.ireturn, 1) := by decide +kernel
theorem dX8_keep_0 : decode cX8_keep 0 = .ok (.aload_n 0, 1) := by decide +kernel
theorem dX8_keep_1 : decode cX8_keep 1 = .ok (.getfield 72, 3) := by decide +kernel
theorem dX8_keep_4 : decode cX8_keep 4 = .ok (.bipush 48, 2) := by decide +kernel
theorem dX8_keep_6 : decode cX8_keep 6 = .ok (.iload_n 1, 1) := by decide +kernel
theorem dX8_keep_7 : decode cX8_keep 7 = .ok (.imul, 1) := by decide +kernel
theorem dX8_keep_8 : decode cX8_keep 8 = .ok (.iload_n 2, 1) := by decide +kernel
theorem dX8_keep_9 : decode cX8_keep 9 = .ok (.iadd, 1) := by decide +kernel
theorem dX8_keep_10 : decode cX8_keep 10 = .ok (.aload_n 0, 1) := by decide +kernel
theorem dX8_keep_11 : decode cX8_keep 11 = .ok (.getfield 66, 3) := by decide +kernel
theorem dX8_keep_14 : decode cX8_keep 14 = .ok (.iload_n 1, 1) := by decide +kernel
theorem dX8_keep_15 : decode cX8_keep 15 = .ok (.iaload, 1) := by decide +kernel
theorem dX8_keep_16 : decode cX8_keep 16 = .ok (.ifCond .ne 8, 3) := by decide +kernel
theorem dX8_keep_19 : decode cX8_keep 19 = .ok (.iload_n 3, 1) := by decide +kernel
theorem dX8_keep_20 : decode cX8_keep 20 = .ok (.i2b, 1) := by decide +kernel
theorem dX8_keep_21 : decode cX8_keep 21 = .ok (.goto 19, 3) := by decide +kernel
theorem dX8_keep_24 : decode cX8_keep 24 = .ok (.aload_n 0, 1) := by decide +kernel
theorem dX8_keep_25 : decode cX8_keep 25 = .ok (.getfield 66, 3) := by decide +kernel
theorem dX8_keep_28 : decode cX8_keep 28 = .ok (.iload_n 1, 1) := by decide +kernel
theorem dX8_keep_29 : decode cX8_keep 29 = .ok (.iaload, 1) := by decide +kernel
theorem dX8_keep_30 : decode cX8_keep 30 = .ok (.iconst 1, 1) := by decide +kernel
theorem dX8_keep_31 : decode cX8_keep 31 = .ok (.if_icmp .ne 8, 3) := by decide +kernel
theorem dX8_keep_34 : decode cX8_keep 34 = .ok (.iload_n 3, 1) := by decide +kernel
theorem dX8_keep_35 : decode cX8_keep 35 = .ok (.i2s, 1) := by decide +kernel
theorem dX8_keep_36 : decode cX8_keep 36 = .ok (.goto 4, 3) := by decide +kernel
theorem dX8_keep_39 : decode cX8_keep 39 = .ok (.iload_n 3, 1) := by decide +kernel
theorem dX8_keep_40 : decode cX8_keep 40 = .ok (.iastore, 1) := by decide +kernel
theorem dX8_keep_41 : decode cX8_keep 41 = .ok (.return_, 1) := by decide +kernel
theorem dX8_put_0 : decode cX8_put 0 = .ok (.iload_n 1, 1) := by decide +kernel
theorem dX8_put_1 : decode cX8_put 1 = .ok (.invokestatic 147, 3) := by decide +kernel
theorem dX8_put_4 : decode cX8_put 4 = .ok (.ifCond .eq 12, 3) := by decide +kernel
theorem dX8_put_7 : decode cX8_put 7 = .ok (.iload_n 2, 1) := by decide +kernel
theorem dX8_put_8 : decode cX8_put 8 = .ok (.iconst 0, 1) := by decide +kernel
theorem dX8_put_9 : decode cX8_put 9 = .ok (.iconst 2, 1) := by decide +kernel
theorem dX8_put_10 : decode cX8_put 10 = .ok (.invokestatic 94, 3) := by decide +kernel
theorem dX8_put_13 : decode cX8_put 13 = .ok (.ifCond .ne 6, 3) := by decide +kernel
theorem dX8_put_16 : decode cX8_put 16 = .ok (.bipush (-2), 2) := by decide +kernel
theorem dX8_put_18 : decode cX8_put 18 = .ok (.ireturn, 1) := by decide +kernel
theorem dX8_put_19 : decode cX8_put 19 = .ok (.aload_n 0, 1) := by decide +kernel
theorem dX8_put_20 : decode cX8_put 20 = .ok (.iload_n 1, 1) := by decide +kernel
theorem dX8_put_21 : decode cX8_put 21 = .ok (.iload_n 2, 1) := by decide +kernel
theorem dX8_put_22 : decode cX8_put 22 = .ok (.iload_n 3, 1) := by decide +kernel
theorem dX8_put_23 : decode cX8_put 23 = .ok (.invokevirtual 247, 3) := by decide +kernel
theorem dX8_put_26 : decode cX8_put 26 = .ok (.istore 5, 2) := by decide +kernel
theorem dX8_put_28 : decode cX8_put 28 = .ok (.iload 5, 2) := by decide +kernel
theorem dX8_put_30 : decode cX8_put 30 = .ok (.ifCond .le 10, 3) := by decide +kernel
theorem dX8_put_33 : decode cX8_put 33 = .ok (.aload_n 0, 1) := by decide +kernel
theorem dX8_put_34 : decode cX8_put 34 = .ok (.iload 5, 2) := by decide +kernel
theorem dX8_put_36 : decode cX8_put 36 = .ok (.invokevirtual 150, 3) := by decide +kernel
theorem dX8_put_39 : decode cX8_put 39 = .ok (.ireturn, 1) := by decide +kernel
theorem dX8_put_40 : decode cX8_put 40 = .ok (.aload_n 0, 1) := by decide +kernel
theorem dX8_put_41 : decode cX8_put 41 = .ok (.iload_n 1, 1) := by decide +kernel
theorem dX8_put_42 : decode cX8_put 42 = .ok (.iload_n 3, 1) := by decide +kernel
theorem dX8_put_43 : decode cX8_put 43 = .ok (.iload 4, 2) := by decide +kernel
theorem dX8_put_45 : decode cX8_put 45 = .ok (.invokevirtual 250, 3) := by decide +kernel
theorem dX8_put_48 : decode cX8_put 48 = .ok (.iconst 1, 1) := by decide +kernel
theorem dX8_put_49 : decode cX8_put 49 = .ok (.ireturn, 1) := by decide +kernel
theorem dX8_get_0 : decode cX8_get 0 = .ok (.iload_n 1, 1) := by decide +kernel
theorem dX8_get_1 : decode cX8_get 1 = .ok (.invokestatic 147, 3) := by decide +kernel
theorem dX8_get_4 : decode cX8_get 4 = .ok (.ifCond .eq 12, 3) := by decide +kernel
theorem dX8_get_7 : decode cX8_get 7 = .ok (.iload_n 2, 1) := by decide +kernel
theorem dX8_get_8 : decode cX8_get 8 = .ok (.iconst 0, 1) := by decide +kernel
theorem dX8_get_9 : decode cX8_get 9 = .ok (.iconst 2, 1) := by decide +kernel
theorem dX8_get_10 : decode cX8_get 10 = .ok (.invokestatic 94, 3) := by decide +kernel
theorem dX8_get_13 : decode cX8_get 13 = .ok (.ifCond .ne 6, 3) := by decide +kernel
theorem dX8_get_16 : decode cX8_get 16 = .ok (.ldc 253, 2) := by decide +kernel
theorem dX8_get_18 : decode cX8_get 18 = .ok (.ireturn, 1) := by decide +kernel
theorem dX8_get_19 : decode cX8_get 19 = .ok (.aload_n 0, 1) := by decide +kernel
theorem dX8_get_20 : decode cX8_get 20 = .ok (.iload_n 1, 1) := by decide +kernel
theorem dX8_get_21 : decode cX8_get 21 = .ok (.iload_n 2, 1) := by decide +kernel
theorem dX8_get_22 : decode cX8_get 22 = .ok (.iload_n 3, 1) := by decide +kernel
theorem dX8_get_23 : decode cX8_get 23 = .ok (.invokevirtual 247, 3) := by decide +kernel
theorem dX8_get_26 : decode cX8_get 26 = .ok (.istore 4, 2) := by decide +kernel
theorem dX8_get_28 : decode cX8_get 28 = .ok (.iload 4, 2) := by decide +kernel
theorem dX8_get_30 : decode cX8_get 30 = .ok (.ifCond .le 12, 3) := by decide +kernel
theorem dX8_get_33 : decode cX8_get 33 = .ok (.aload_n 0, 1) := by decide +kernel
theorem dX8_get_34 : decode cX8_get 34 = .ok (.iload 4, 2) := by decide +kernel
theorem dX8_get_36 : decode cX8_get 36 = .ok (.putfield 244, 3) := by decide +kernel
theorem dX8_get_39 : decode cX8_get 39 = .ok (.ldc 253, 2) := by decide +kernel
theorem dX8_get_41 : decode cX8_get 41 = .ok (.ireturn, 1) := by decide +kernel
theorem dX8_get_42 : decode cX8_get 42 = .ok (.aload_n 0, 1) := by decide +kernel
theorem dX8_get_43 : decode cX8_get 43 = .ok (.getfield 72, 3) := by decide +kernel
theorem dX8_get_46 : decode cX8_get 46 = .ok (.bipush 48, 2) := by decide +kernel
theorem dX8_get_48 : decode cX8_get 48 = .ok (.iload_n 1, 1) := by decide +kernel
theorem dX8_get_49 : decode cX8_get 49 = .ok (.imul, 1) := by decide +kernel
theorem dX8_get_50 : decode cX8_get 50 = .ok (.iload_n 3, 1) := by decide +kernel
theorem dX8_get_51 : decode cX8_get 51 = .ok (.iadd, 1) := by decide +kernel
theorem dX8_get_52 : decode cX8_get 52 = .ok (.iaload, 1) := by decide +kernel
theorem dX8_get_53 : decode cX8_get 53 = .ok (.ireturn, 1) := by decide +kernel
theorem dX8_copy_0 : decode cX8_copy 0 = .ok (.iload_n 1, 1) := by decide +kernel
theorem dX8_copy_1 : decode cX8_copy 1 = .ok (.invokestatic 147, 3) := by decide +kernel
theorem dX8_copy_4 : decode cX8_copy 4 = .ok (.ifCond .eq 10, 3) := by decide +kernel
theorem dX8_copy_7 : decode cX8_copy 7 = .ok (.iload_n 3, 1) := by decide +kernel
theorem dX8_copy_8 : decode cX8_copy 8 = .ok (.invokestatic 147, 3) := by decide +kernel
theorem dX8_copy_11 : decode cX8_copy 11 = .ok (.ifCond .ne 6, 3) := by decide +kernel
theorem dX8_copy_14 : decode cX8_copy 14 = .ok (.bipush (-2), 2) := by decide +kernel
theorem dX8_copy_16 : decode cX8_copy 16 = .ok (.ireturn, 1) := by decide +kernel
theorem dX8_copy_17 : decode cX8_copy 17 = .ok (.aload_n 0, 1) := by decide +kernel
theorem dX8_copy_18 : decode cX8_copy 18 = .ok (.getfield 62, 3) := by decide +kernel
theorem dX8_copy_21 : decode cX8_copy 21 = .ok (.iload_n 1, 1) := by decide +kernel
theorem dX8_copy_22 : decode cX8_copy 22 = .ok (.baload, 1) := by decide +kernel
theorem dX8_copy_23 : decode cX8_copy 23 = .ok (.ifCond .eq 12, 3) := by decide +kernel
theorem dX8_copy_26 : decode cX8_copy 26 = .ok (.aload_n 0, 1) := by decide +kernel
theorem dX8_copy_27 : decode cX8_copy 27 = .ok (.getfield 62, 3) := by decide +kernel
theorem dX8_copy_30 : decode cX8_copy 30 = .ok (.iload_n 3, 1) := by decide +kernel
theorem dX8_copy_31 : decode cX8_copy 31 = .ok (.baload, 1) := by decide +kernel
theorem dX8_copy_32 : decode cX8_copy 32 = .ok (.ifCond .ne 9, 3) := by decide +kernel
theorem dX8_copy_35 : decode cX8_copy 35 = .ok (.aload_n 0, 1) := by decide +kernel
theorem dX8_copy_36 : decode cX8_copy 36 = .ok (.iconst 1, 1) := by decide +kernel
theorem dX8_copy_37 : decode cX8_copy 37 = .ok (.invokevirtual 150, 3) := by decide +kernel
theorem dX8_copy_40 : decode cX8_copy 40 = .ok (.ireturn, 1) := by decide +kernel
theorem dX8_copy_41 : decode cX8_copy 41 = .ok (.aload_n 0, 1) := by decide +kernel
theorem dX8_copy_42 : decode cX8_copy 42 = .ok (.getfield 66, 3) := by decide +kernel
theorem dX8_copy_45 : decode cX8_copy 45 = .ok (.iload_n 1, 1) := by decide +kernel
theorem dX8_copy_46 : decode cX8_copy 46 = .ok (.iaload, 1) := by decide +kernel
theorem dX8_copy_47 : decode cX8_copy 47 = .ok (.aload_n 0, 1) := by decide +kernel
theorem dX8_copy_48 : decode cX8_copy 48 = .ok (.getfield 66, 3) := by decide +kernel
theorem dX8_copy_51 : decode cX8_copy 51 = .ok (.iload_n 3, 1) := by decide +kernel
theorem dX8_copy_52 : decode cX8_copy 52 = .ok (.iaload, 1) := by decide +kernel
theorem dX8_copy_53 : decode cX8_copy 53 = .ok (.if_icmp .eq 9, 3) := by decide +kernel
theorem dX8_copy_56 : decode cX8_copy 56 = .ok (.aload_n 0, 1) := by decide +kernel
theorem dX8_copy_57 : decode cX8_copy 57 = .ok (.iconst 4, 1) := by decide +kernel
theorem dX8_copy_58 : decode cX8_copy 58 = .ok (.invokevirtual 150, 3) := by decide +kernel
theorem dX8_copy_61 : decode cX8_copy 61 = .ok (.ireturn, 1) := by decide +kernel
theorem dX8_copy_62 : decode cX8_copy 62 = .ok (.iload_n 2, 1) := by decide +kernel
theorem dX8_copy_63 : decode cX8_copy 63 = .ok (.ifCond .lt 48, 3) := by decide +kernel
theorem dX8_copy_66 : decode cX8_copy 66 = .ok (.iload 4, 2) := by decide +kernel
theorem dX8_copy_68 : decode cX8_copy 68 = .ok (.ifCond .lt 43, 3) := by decide +kernel
theorem dX8_copy_71 : decode cX8_copy 71 = .ok (.iload 5, 2) := by decide +kernel
theorem dX8_copy_73 : decode cX8_copy 73 = .ok (.ifCond .lt 38, 3) := by decide +kernel
theorem dX8_copy_76 : decode cX8_copy 76 = .ok (.iload_n 2, 1) := by decide +kernel
theorem dX8_copy_77 : decode cX8_copy 77 = .ok (.i2l, 1) := by decide +kernel
theorem dX8_copy_78 : decode cX8_copy 78 = .ok (.iload 5, 2) := by decide +kernel
theorem dX8_copy_80 : decode cX8_copy 80 = .ok (.i2l, 1) := by decide +kernel
theorem dX8_copy_81 : decode cX8_copy 81 = .ok (.ladd, 1) := by decide +kernel
theorem dX8_copy_82 : decode cX8_copy 82 = .ok (.aload_n 0, 1) := by decide +kernel
theorem dX8_copy_83 : decode cX8_copy 83 = .ok (.getfield 69, 3) := by decide +kernel
theorem dX8_copy_86 : decode cX8_copy 86 = .ok (.iload_n 1, 1) := by decide +kernel
theorem dX8_copy_87 : decode cX8_copy 87 = .ok (.iaload, 1) := by decide +kernel
theorem dX8_copy_88 : decode cX8_copy 88 = .ok (.i2l, 1) := by decide +kernel
theorem dX8_copy_89 : decode cX8_copy 89 = .ok (.lcmp, 1) := by decide +kernel
theorem dX8_copy_90 : decode cX8_copy 90 = .ok (.ifCond .gt 21, 3) := by decide +kernel
theorem dX8_copy_93 : decode cX8_copy 93 = .ok (.iload 4, 2) := by decide +kernel
theorem dX8_copy_95 : decode cX8_copy 95 = .ok (.i2l, 1) := by decide +kernel
theorem dX8_copy_96 : decode cX8_copy 96 = .ok (.iload 5, 2) := by decide +kernel
theorem dX8_copy_98 : decode cX8_copy 98 = .ok (.i2l, 1) := by decide +kernel
theorem dX8_copy_99 : decode cX8_copy 99 = .ok (.ladd, 1) := by decide +kernel
theorem dX8_copy_100 : decode cX8_copy 100 = .ok (.aload_n 0, 1) := by decide +kernel
theorem dX8_copy_101 : decode cX8_copy 101 = .ok (.getfield 69, 3) := by decide +kernel
theorem dX8_copy_104 : decode cX8_copy 104 = .ok (.iload_n 3, 1) := by decide +kernel
theorem dX8_copy_105 : decode cX8_copy 105 = .ok (.iaload, 1) := by decide +kernel
theorem dX8_copy_106 : decode cX8_copy 106 = .ok (.i2l, 1) := by decide +kernel
theorem dX8_copy_107 : decode cX8_copy 107 = .ok (.lcmp, 1) := by decide +kernel
theorem dX8_copy_108 : decode cX8_copy 108 = .ok (.ifCond .le 9, 3) := by decide +kernel
theorem dX8_copy_111 : decode cX8_copy 111 = .ok (.aload_n 0, 1) := by decide +kernel
theorem dX8_copy_112 : decode cX8_copy 112 = .ok (.iconst 2, 1) := by decide +kernel
theorem dX8_copy_113 : decode cX8_copy 113 = .ok (.invokevirtual 150, 3) := by decide +kernel
theorem dX8_copy_116 : decode cX8_copy 116 = .ok (.ireturn, 1) := by decide +kernel
theorem dX8_copy_117 : decode cX8_copy 117 = .ok (.iconst 0, 1) := by decide +kernel
theorem dX8_copy_118 : decode cX8_copy 118 = .ok (.istore 6, 2) := by decide +kernel
theorem dX8_copy_120 : decode cX8_copy 120 = .ok (.iload 6, 2) := by decide +kernel
theorem dX8_copy_122 : decode cX8_copy 122 = .ok (.iload 5, 2) := by decide +kernel
theorem dX8_copy_124 : decode cX8_copy 124 = .ok (.if_icmp .ge 30, 3) := by decide +kernel
theorem dX8_copy_127 : decode cX8_copy 127 = .ok (.aload_n 0, 1) := by decide +kernel
theorem dX8_copy_128 : decode cX8_copy 128 = .ok (.getfield 75, 3) := by decide +kernel
theorem dX8_copy_131 : decode cX8_copy 131 = .ok (.iload 6, 2) := by decide +kernel
theorem dX8_copy_133 : decode cX8_copy 133 = .ok (.aload_n 0, 1) := by decide +kernel
theorem dX8_copy_134 : decode cX8_copy 134 = .ok (.getfield 72, 3) := by decide +kernel
theorem dX8_copy_137 : decode cX8_copy 137 = .ok (.bipush 48, 2) := by decide +kernel
theorem dX8_copy_139 : decode cX8_copy 139 = .ok (.iload_n 1, 1) := by decide +kernel
theorem dX8_copy_140 : decode cX8_copy 140 = .ok (.imul, 1) := by decide +kernel
theorem dX8_copy_141 : decode cX8_copy 141 = .ok (.iload_n 2, 1) := by decide +kernel
theorem dX8_copy_142 : decode cX8_copy 142 = .ok (.iadd, 1) := by decide +kernel
theorem dX8_copy_143 : decode cX8_copy 143 = .ok (.iload 6, 2) := by decide +kernel
theorem dX8_copy_145 : decode cX8_copy 145 = .ok (.iadd, 1) := by decide +kernel
theorem dX8_copy_146 : decode cX8_copy 146 = .ok (.iaload, 1) := by decide +kernel
theorem dX8_copy_147 : decode cX8_copy 147 = .ok (.iastore, 1) := by decide +kernel
theorem dX8_copy_148 : decode cX8_copy 148 = .ok (.iinc 6 1, 3) := by decide +kernel
theorem dX8_copy_151 : decode cX8_copy 151 = .ok (.goto (-31), 3) := by decide +kernel
theorem dX8_copy_154 : decode cX8_copy 154 = .ok (.iconst 0, 1) := by decide +kernel
theorem dX8_copy_155 : decode cX8_copy 155 = .ok (.istore 6, 2) := by decide +kernel
theorem dX8_copy_157 : decode cX8_copy 157 = .ok (.iload 6, 2) := by decide +kernel
theorem dX8_copy_159 : decode cX8_copy 159 = .ok (.iload 5, 2) := by decide +kernel
theorem dX8_copy_161 : decode cX8_copy 161 = .ok (.if_icmp .ge 31, 3) := by decide +kernel
theorem dX8_copy_164 : decode cX8_copy 164 = .ok (.aload_n 0, 1) := by decide +kernel
theorem dX8_copy_165 : decode cX8_copy 165 = .ok (.getfield 72, 3) := by decide +kernel
theorem dX8_copy_168 : decode cX8_copy 168 = .ok (.bipush 48, 2) := by decide +kernel
theorem dX8_copy_170 : decode cX8_copy 170 = .ok (.iload_n 3, 1) := by decide +kernel
theorem dX8_copy_171 : decode cX8_copy 171 = .ok (.imul, 1) := by decide +kernel
theorem dX8_copy_172 : decode cX8_copy 172 = .ok (.iload 4, 2) := by decide +kernel
theorem dX8_copy_174 : decode cX8_copy 174 = .ok (.iadd, 1) := by decide +kernel
theorem dX8_copy_175 : decode cX8_copy 175 = .ok (.iload 6, 2) := by decide +kernel
theorem dX8_copy_177 : decode cX8_copy 177 = .ok (.iadd, 1) := by decide +kernel
theorem dX8_copy_178 : decode cX8_copy 178 = .ok (.aload_n 0, 1) := by decide +kernel
theorem dX8_copy_179 : decode cX8_copy 179 = .ok (.getfield 75, 3) := by decide +kernel
theorem dX8_copy_182 : decode cX8_copy 182 = .ok (.iload 6, 2) := by decide +kernel
theorem dX8_copy_184 : decode cX8_copy 184 = .ok (.iaload, 1) := by decide +kernel
theorem dX8_copy_185 : decode cX8_copy 185 = .ok (.iastore, 1) := by decide +kernel
theorem dX8_copy_186 : decode cX8_copy 186 = .ok (.iinc 6 1, 3) := by decide +kernel
theorem dX8_copy_189 : decode cX8_copy 189 = .ok (.goto (-32), 3) := by decide +kernel
theorem dX8_copy_192 : decode cX8_copy 192 = .ok (.iconst 1, 1) := by decide +kernel
theorem dX8_copy_193 : decode cX8_copy 193 = .ok (.ireturn, 1) := by decide +kernel
theorem dX8_write_0 : decode cX8_write 0 = .ok (.aload_n 0, 1) := by decide +kernel
theorem dX8_write_1 : decode cX8_write 1 = .ok (.iload_n 1, 1) := by decide +kernel
theorem dX8_write_2 : decode cX8_write 2 = .ok (.invokevirtual 134, 3) := by decide +kernel
theorem dX8_write_5 : decode cX8_write 5 = .ok (.ifCond .eq 10, 3) := by decide +kernel
theorem dX8_write_8 : decode cX8_write 8 = .ok (.iload_n 2, 1) := by decide +kernel
theorem dX8_write_9 : decode cX8_write 9 = .ok (.invokestatic 147, 3) := by decide +kernel
theorem dX8_write_12 : decode cX8_write 12 = .ok (.ifCond .ne 6, 3) := by decide +kernel
theorem dX8_write_15 : decode cX8_write 15 = .ok (.bipush (-2), 2) := by decide +kernel
theorem dX8_write_17 : decode cX8_write 17 = .ok (.ireturn, 1) := by decide +kernel
theorem dX8_write_18 : decode cX8_write 18 = .ok (.aload_n 0, 1) := by decide +kernel
theorem dX8_write_19 : decode cX8_write 19 = .ok (.getfield 62, 3) := by decide +kernel
theorem dX8_write_22 : decode cX8_write 22 = .ok (.iload_n 2, 1) := by decide +kernel
theorem dX8_write_23 : decode cX8_write 23 = .ok (.baload, 1) := by decide +kernel
theorem dX8_write_24 : decode cX8_write 24 = .ok (.ifCond .ne 9, 3) := by decide +kernel
theorem dX8_write_27 : decode cX8_write 27 = .ok (.aload_n 0, 1) := by decide +kernel
theorem dX8_write_28 : decode cX8_write 28 = .ok (.iconst 1, 1) := by decide +kernel
theorem dX8_write_29 : decode cX8_write 29 = .ok (.invokevirtual 150, 3) := by decide +kernel
theorem dX8_write_32 : decode cX8_write 32 = .ok (.ireturn, 1) := by decide +kernel
theorem dX8_write_33 : decode cX8_write 33 = .ok (.aload_n 0, 1) := by decide +kernel
theorem dX8_write_34 : decode cX8_write 34 = .ok (.invokevirtual 160, 3) := by decide +kernel
theorem dX8_write_37 : decode cX8_write 37 = .ok (.istore_n 3, 1) := by decide +kernel
theorem dX8_write_38 : decode cX8_write 38 = .ok (.iconst 0, 1) := by decide +kernel
theorem dX8_write_39 : decode cX8_write 39 = .ok (.istore 4, 2) := by decide +kernel
theorem dX8_write_41 : decode cX8_write 41 = .ok (.iload 4, 2) := by decide +kernel
theorem dX8_write_43 : decode cX8_write 43 = .ok (.aload_n 0, 1) := by decide +kernel
theorem dX8_write_44 : decode cX8_write 44 = .ok (.getfield 69, 3) := by decide +kernel
theorem dX8_write_47 : decode cX8_write 47 = .ok (.iload_n 2, 1) := by decide +kernel
theorem dX8_write_48 : decode cX8_write 48 = .ok (.iaload, 1) := by decide +kernel
theorem dX8_write_49 : decode cX8_write 49 = .ok (.if_icmp .ge 24, 3) := by decide +kernel
theorem dX8_write_52 : decode cX8_write 52 = .ok (.aload_n 0, 1) := by decide +kernel
theorem dX8_write_53 : decode cX8_write 53 = .ok (.iload_n 2, 1) := by decide +kernel
theorem dX8_write_54 : decode cX8_write 54 = .ok (.iload 4, 2) := by decide +kernel
theorem dX8_write_56 : decode cX8_write 56 = .ok (.aload_n 0, 1) := by decide +kernel
theorem dX8_write_57 : decode cX8_write 57 = .ok (.iload_n 1, 1) := by decide +kernel
theorem dX8_write_58 : decode cX8_write 58 = .ok (.iload_n 3, 1) := by decide +kernel
theorem dX8_write_59 : decode cX8_write 59 = .ok (.iload 4, 2) := by decide +kernel
theorem dX8_write_61 : decode cX8_write 61 = .ok (.invokevirtual 192, 3) := by decide +kernel
theorem dX8_write_64 : decode cX8_write 64 = .ok (.invokevirtual 250, 3) := by decide +kernel
theorem dX8_write_67 : decode cX8_write 67 = .ok (.iinc 4 1, 3) := by decide +kernel
theorem dX8_write_70 : decode cX8_write 70 = .ok (.goto (-29), 3) := by decide +kernel
theorem dX8_write_73 : decode cX8_write 73 = .ok (.aload_n 0, 1) := by decide +kernel
theorem dX8_write_74 : decode cX8_write 74 = .ok (.getfield 69, 3) := by decide +kernel
theorem dX8_write_77 : decode cX8_write 77 = .ok (.iload_n 2, 1) := by decide +kernel
theorem dX8_write_78 : decode cX8_write 78 = .ok (.iaload, 1) := by decide +kernel
theorem dX8_write_79 : decode cX8_write 79 = .ok (.ireturn, 1) := by decide +kernel
theorem dX8_sumOf_0 : decode cX8_sumOf 0 = .ok (.aload_n 0, 1) := by decide +kernel
theorem dX8_sumOf_1 : decode cX8_sumOf 1 = .ok (.invokevirtual 128, 3) := by decide +kernel
theorem dX8_sumOf_4 : decode cX8_sumOf 4 = .ok (.iload_n 1, 1) := by decide +kernel
theorem dX8_sumOf_5 : decode cX8_sumOf 5 = .ok (.ifCond .ne 10, 3) := by decide +kernel
theorem dX8_sumOf_8 : decode cX8_sumOf 8 = .ok (.aload_n 0, 1) := by decide +kernel
theorem dX8_sumOf_9 : decode cX8_sumOf 9 = .ok (.getfield 112, 3) := by decide +kernel
theorem dX8_sumOf_12 : decode cX8_sumOf 12 = .ok (.goto 19, 3) := by decide +kernel
theorem dX8_sumOf_15 : decode cX8_sumOf 15 = .ok (.iload_n 1, 1) := by decide +kernel
theorem dX8_sumOf_16 : decode cX8_sumOf 16 = .ok (.iconst 1, 1) := by decide +kernel
theorem dX8_sumOf_17 : decode cX8_sumOf 17 = .ok (.if_icmp .ne 10, 3) := by decide +kernel
theorem dX8_sumOf_20 : decode cX8_sumOf 20 = .ok (.aload_n 0, 1) := by decide +kernel
theorem dX8_sumOf_21 : decode cX8_sumOf 21 = .ok (.getfield 115, 3) := by decide +kernel
theorem dX8_sumOf_24 : decode cX8_sumOf 24 = .ok (.goto 7, 3) := by decide +kernel
theorem dX8_sumOf_27 : decode cX8_sumOf 27 = .ok (.aload_n 0, 1) := by decide +kernel
theorem dX8_sumOf_28 : decode cX8_sumOf 28 = .ok (.invokevirtual 224, 3) := by decide +kernel
theorem dX8_sumOf_31 : decode cX8_sumOf 31 = .ok (.ireturn, 1) := by decide +kernel
theorem dX8_count_0 : decode cX8_count 0 = .ok (.iload_n 1, 1) := by decide +kernel
theorem dX8_count_1 : decode cX8_count 1 = .ok (.tableswitch 95 0 8 #[51, 51, 57, 57, 66, 71, 85, 51, 90], 51) := by decide +kernel
theorem dX8_count_52 : decode cX8_count 52 = .ok (.aload_n 0, 1) := by decide +kernel
theorem dX8_count_53 : decode cX8_count 53 = .ok (.iload_n 1, 1) := by decide +kernel
theorem dX8_count_54 : decode cX8_count 54 = .ok (.invokevirtual 254, 3) := by decide +kernel
theorem dX8_count_57 : decode cX8_count 57 = .ok (.ireturn, 1) := by decide +kernel
theorem dX8_count_58 : decode cX8_count 58 = .ok (.aload_n 0, 1) := by decide +kernel
theorem dX8_count_59 : decode cX8_count 59 = .ok (.getfield 7, 3) := by decide +kernel
theorem dX8_count_62 : decode cX8_count 62 = .ok (.iload_n 1, 1) := by decide +kernel
theorem dX8_count_63 : decode cX8_count 63 = .ok (.iconst 2, 1) := by decide +kernel
theorem dX8_count_64 : decode cX8_count 64 = .ok (.isub, 1) := by decide +kernel
theorem dX8_count_65 : decode cX8_count 65 = .ok (.iaload, 1) := by decide +kernel
theorem dX8_count_66 : decode cX8_count 66 = .ok (.ireturn, 1) := by decide +kernel
theorem dX8_count_67 : decode cX8_count 67 = .ok (.aload_n 0, 1) := by decide +kernel
theorem dX8_count_68 : decode cX8_count 68 = .ok (.getfield 144, 3) := by decide +kernel
theorem dX8_count_71 : decode cX8_count 71 = .ok (.ireturn, 1) := by decide +kernel
theorem dX8_count_72 : decode cX8_count 72 = .ok (.aload_n 0, 1) := by decide +kernel
theorem dX8_count_73 : decode cX8_count 73 = .ok (.getfield 50, 3) := by decide +kernel
theorem dX8_count_76 : decode cX8_count 76 = .ok (.iconst 0, 1) := by decide +kernel
theorem dX8_count_77 : decode cX8_count 77 = .ok (.iaload, 1) := by decide +kernel
theorem dX8_count_78 : decode cX8_count 78 = .ok (.aload_n 0, 1) := by decide +kernel
theorem dX8_count_79 : decode cX8_count 79 = .ok (.getfield 50, 3) := by decide +kernel
theorem dX8_count_82 : decode cX8_count 82 = .ok (.iconst 1, 1) := by decide +kernel
theorem dX8_count_83 : decode cX8_count 83 = .ok (.iaload, 1) := by decide +kernel
theorem dX8_count_84 : decode cX8_count 84 = .ok (.iadd, 1) := by decide +kernel
theorem dX8_count_85 : decode cX8_count 85 = .ok (.ireturn, 1) := by decide +kernel
theorem dX8_count_86 : decode cX8_count 86 = .ok (.aload_n 0, 1) := by decide +kernel
theorem dX8_count_87 : decode cX8_count 87 = .ok (.getfield 234, 3) := by decide +kernel
theorem dX8_count_90 : decode cX8_count 90 = .ok (.ireturn, 1) := by decide +kernel
theorem dX8_count_91 : decode cX8_count 91 = .ok (.aload_n 0, 1) := by decide +kernel
theorem dX8_count_92 : decode cX8_count 92 = .ok (.getfield 244, 3) := by decide +kernel
theorem dX8_count_95 : decode cX8_count 95 = .ok (.ireturn, 1) := by decide +kernel
theorem dX8_count_96 : decode cX8_count 96 = .ok (.bipush (-2), 2) := by decide +kernel
theorem dX8_count_98 : decode cX8_count 98 = .ok (.ireturn, 1) := by decide +kernel
theorem dX8_kingDigest_0 : decode cX8_kingDigest 0 = .ok (.aload_n 0, 1) := by decide +kernel
theorem dX8_kingDigest_1 : decode cX8_kingDigest 1 = .ok (.invokevirtual 160, 3) := by decide +kernel
theorem dX8_kingDigest_4 : decode cX8_kingDigest 4 = .ok (.istore 4, 2) := by decide +kernel
theorem dX8_kingDigest_6 : decode cX8_kingDigest 6 = .ok (.lload_n 1, 1) := by decide +kernel
theorem dX8_kingDigest_7 : decode cX8_kingDigest 7 = .ok (.lstore 5, 2) := by decide +kernel
theorem dX8_kingDigest_9 : decode cX8_kingDigest 9 = .ok (.ldc2_w 257, 3) := by decide +kernel
theorem dX8_kingDigest_12 : decode cX8_kingDigest 12 = .ok (.lload 5, 2) := by decide +kernel
theorem dX8_kingDigest_14 : decode cX8_kingDigest 14 = .ok (.lmul, 1) := by decide +kernel
theorem dX8_kingDigest_15 : decode cX8_kingDigest 15 = .ok (.aload_n 0, 1) := by decide +kernel
theorem dX8_kingDigest_16 : decode cX8_kingDigest 16 = .ok (.getfield 25, 3) := by decide +kernel
theorem dX8_kingDigest_19 : decode cX8_kingDigest 19 = .ok (.iload_n 3, 1) := by decide +kernel
theorem dX8_kingDigest_20 : decode cX8_kingDigest 20 = .ok (.iaload, 1) := by decide +kernel
theorem dX8_kingDigest_21 : decode cX8_kingDigest 21 = .ok (.i2l, 1) := by decide +kernel
theorem dX8_kingDigest_22 : decode cX8_kingDigest 22 = .ok (.ladd, 1) := by decide +kernel
theorem dX8_kingDigest_23 : decode cX8_kingDigest 23 = .ok (.lstore 5, 2) := by decide +kernel
theorem dX8_kingDigest_25 : decode cX8_kingDigest 25 = .ok (.ldc2_w 257, 3) := by decide +kernel
theorem dX8_kingDigest_28 : decode cX8_kingDigest 28 = .ok (.lload 5, 2) := by decide +kernel
theorem dX8_kingDigest_30 : decode cX8_kingDigest 30 = .ok (.lmul, 1) := by decide +kernel
theorem dX8_kingDigest_31 : decode cX8_kingDigest 31 = .ok (.aload_n 0, 1) := by decide +kernel
theorem dX8_kingDigest_32 : decode cX8_kingDigest 32 = .ok (.getfield 28, 3) := by decide +kernel
theorem dX8_kingDigest_35 : decode cX8_kingDigest 35 = .ok (.iload_n 3, 1) := by decide +kernel
theorem dX8_kingDigest_36 : decode cX8_kingDigest 36 = .ok (.iaload, 1) := by decide +kernel
theorem dX8_kingDigest_37 : decode cX8_kingDigest 37 = .ok (.i2l, 1) := by decide +kernel
theorem dX8_kingDigest_38 : decode cX8_kingDigest 38 = .ok (.ladd, 1) := by decide +kernel
theorem dX8_kingDigest_39 : decode cX8_kingDigest 39 = .ok (.lstore 5, 2) := by decide +kernel
theorem dX8_kingDigest_41 : decode cX8_kingDigest 41 = .ok (.ldc2_w 257, 3) := by decide +kernel
theorem dX8_kingDigest_44 : decode cX8_kingDigest 44 = .ok (.lload 5, 2) := by decide +kernel
theorem dX8_kingDigest_46 : decode cX8_kingDigest 46 = .ok (.lmul, 1) := by decide +kernel
theorem dX8_kingDigest_47 : decode cX8_kingDigest 47 = .ok (.aload_n 0, 1) := by decide +kernel
theorem dX8_kingDigest_48 : decode cX8_kingDigest 48 = .ok (.iload_n 3, 1) := by decide +kernel
theorem dX8_kingDigest_49 : decode cX8_kingDigest 49 = .ok (.sipush 511, 3) := by decide +kernel
theorem dX8_kingDigest_52 : decode cX8_kingDigest 52 = .ok (.invokevirtual 172, 3) := by decide +kernel
theorem dX8_kingDigest_55 : decode cX8_kingDigest 55 = .ok (.i2l, 1) := by decide +kernel
theorem dX8_kingDigest_56 : decode cX8_kingDigest 56 = .ok (.ladd, 1) := by decide +kernel
theorem dX8_kingDigest_57 : decode cX8_kingDigest 57 = .ok (.lstore 5, 2) := by decide +kernel
theorem dX8_kingDigest_59 : decode cX8_kingDigest 59 = .ok (.ldc2_w 257, 3) := by decide +kernel
theorem dX8_kingDigest_62 : decode cX8_kingDigest 62 = .ok (.lload 5, 2) := by decide +kernel
theorem dX8_kingDigest_64 : decode cX8_kingDigest 64 = .ok (.lmul, 1) := by decide +kernel
theorem dX8_kingDigest_65 : decode cX8_kingDigest 65 = .ok (.aload_n 0, 1) := by decide +kernel
theorem dX8_kingDigest_66 : decode cX8_kingDigest 66 = .ok (.iload_n 3, 1) := by decide +kernel
theorem dX8_kingDigest_67 : decode cX8_kingDigest 67 = .ok (.iload 4, 2) := by decide +kernel
theorem dX8_kingDigest_69 : decode cX8_kingDigest 69 = .ok (.aload_n 0, 1) := by decide +kernel
theorem dX8_kingDigest_70 : decode cX8_kingDigest 70 = .ok (.getfield 78, 3) := by decide +kernel
theorem dX8_kingDigest_73 : decode cX8_kingDigest 73 = .ok (.invokevirtual 192, 3) := by decide +kernel
theorem dX8_kingDigest_76 : decode cX8_kingDigest 76 = .ok (.i2l, 1) := by decide +kernel
theorem dX8_kingDigest_77 : decode cX8_kingDigest 77 = .ok (.ladd, 1) := by decide +kernel
theorem dX8_kingDigest_78 : decode cX8_kingDigest 78 = .ok (.lstore 5, 2) := by decide +kernel
theorem dX8_kingDigest_80 : decode cX8_kingDigest 80 = .ok (.ldc2_w 257, 3) := by decide +kernel
theorem dX8_kingDigest_83 : decode cX8_kingDigest 83 = .ok (.lload 5, 2) := by decide +kernel
theorem dX8_kingDigest_85 : decode cX8_kingDigest 85 = .ok (.lmul, 1) := by decide +kernel
theorem dX8_kingDigest_86 : decode cX8_kingDigest 86 = .ok (.aload_n 0, 1) := by decide +kernel
theorem dX8_kingDigest_87 : decode cX8_kingDigest 87 = .ok (.iload_n 3, 1) := by decide +kernel
theorem dX8_kingDigest_88 : decode cX8_kingDigest 88 = .ok (.iload 4, 2) := by decide +kernel
theorem dX8_kingDigest_90 : decode cX8_kingDigest 90 = .ok (.iconst 0, 1) := by decide +kernel
theorem dX8_kingDigest_91 : decode cX8_kingDigest 91 = .ok (.invokevirtual 199, 3) := by decide +kernel
theorem dX8_kingDigest_94 : decode cX8_kingDigest 94 = .ok (.ladd, 1) := by decide +kernel
theorem dX8_kingDigest_95 : decode cX8_kingDigest 95 = .ok (.lstore 5, 2) := by decide +kernel
theorem dX8_kingDigest_97 : decode cX8_kingDigest 97 = .ok (.ldc2_w 257, 3) := by decide +kernel
theorem dX8_kingDigest_100 : decode cX8_kingDigest 100 = .ok (.lload 5, 2) := by decide +kernel
theorem dX8_kingDigest_102 : decode cX8_kingDigest 102 = .ok (.lmul, 1) := by decide +kernel
theorem dX8_kingDigest_103 : decode cX8_kingDigest 103 = .ok (.aload_n 0, 1) := by decide +kernel
theorem dX8_kingDigest_104 : decode cX8_kingDigest 104 = .ok (.iload_n 3, 1) := by decide +kernel
theorem dX8_kingDigest_105 : decode cX8_kingDigest 105 = .ok (.iload 4, 2) := by decide +kernel
theorem dX8_kingDigest_107 : decode cX8_kingDigest 107 = .ok (.iconst 1, 1) := by decide +kernel
theorem dX8_kingDigest_108 : decode cX8_kingDigest 108 = .ok (.invokevirtual 199, 3) := by decide +kernel
theorem dX8_kingDigest_111 : decode cX8_kingDigest 111 = .ok (.ladd, 1) := by decide +kernel
theorem dX8_kingDigest_112 : decode cX8_kingDigest 112 = .ok (.lstore 5, 2) := by decide +kernel
theorem dX8_kingDigest_114 : decode cX8_kingDigest 114 = .ok (.ldc2_w 257, 3) := by decide +kernel
theorem dX8_kingDigest_117 : decode cX8_kingDigest 117 = .ok (.lload 5, 2) := by decide +kernel
theorem dX8_kingDigest_119 : decode cX8_kingDigest 119 = .ok (.lmul, 1) := by decide +kernel
theorem dX8_kingDigest_120 : decode cX8_kingDigest 120 = .ok (.aload_n 0, 1) := by decide +kernel
theorem dX8_kingDigest_121 : decode cX8_kingDigest 121 = .ok (.iload_n 3, 1) := by decide +kernel
theorem dX8_kingDigest_122 : decode cX8_kingDigest 122 = .ok (.aload_n 0, 1) := by decide +kernel
theorem dX8_kingDigest_123 : decode cX8_kingDigest 123 = .ok (.getfield 78, 3) := by decide +kernel
theorem dX8_kingDigest_126 : decode cX8_kingDigest 126 = .ok (.iconst 1, 1) := by decide +kernel
theorem dX8_kingDigest_127 : decode cX8_kingDigest 127 = .ok (.iconst 0, 1) := by decide +kernel
theorem dX8_kingDigest_128 : decode cX8_kingDigest 128 = .ok (.invokevirtual 207, 3) := by decide +kernel
theorem dX8_kingDigest_131 : decode cX8_kingDigest 131 = .ok (.ladd, 1) := by decide +kernel
theorem dX8_kingDigest_132 : decode cX8_kingDigest 132 = .ok (.lstore 5, 2) := by decide +kernel
theorem dX8_kingDigest_134 : decode cX8_kingDigest 134 = .ok (.ldc2_w 257, 3) := by decide +kernel
theorem dX8_kingDigest_137 : decode cX8_kingDigest 137 = .ok (.lload 5, 2) := by decide +kernel
theorem dX8_kingDigest_139 : decode cX8_kingDigest 139 = .ok (.lmul, 1) := by decide +kernel
theorem dX8_kingDigest_140 : decode cX8_kingDigest 140 = .ok (.aload_n 0, 1) := by decide +kernel
theorem dX8_kingDigest_141 : decode cX8_kingDigest 141 = .ok (.iload_n 3, 1) := by decide +kernel
theorem dX8_kingDigest_142 : decode cX8_kingDigest 142 = .ok (.aload_n 0, 1) := by decide +kernel
theorem dX8_kingDigest_143 : decode cX8_kingDigest 143 = .ok (.getfield 78, 3) := by decide +kernel
theorem dX8_kingDigest_146 : decode cX8_kingDigest 146 = .ok (.iconst 1, 1) := by decide +kernel
theorem dX8_kingDigest_147 : decode cX8_kingDigest 147 = .ok (.iconst 1, 1) := by decide +kernel
theorem dX8_kingDigest_148 : decode cX8_kingDigest 148 = .ok (.invokevirtual 207, 3) := by decide +kernel
theorem dX8_kingDigest_151 : decode cX8_kingDigest 151 = .ok (.ladd, 1) := by decide +kernel
theorem dX8_kingDigest_152 : decode cX8_kingDigest 152 = .ok (.lstore 5, 2) := by decide +kernel
theorem dX8_kingDigest_154 : decode cX8_kingDigest 154 = .ok (.ldc2_w 257, 3) := by decide +kernel
theorem dX8_kingDigest_157 : decode cX8_kingDigest 157 = .ok (.lload 5, 2) := by decide +kernel
theorem dX8_kingDigest_159 : decode cX8_kingDigest 159 = .ok (.lmul, 1) := by decide +kernel
theorem dX8_kingDigest_160 : decode cX8_kingDigest 160 = .ok (.aload_n 0, 1) := by decide +kernel
theorem dX8_kingDigest_161 : decode cX8_kingDigest 161 = .ok (.iload_n 3, 1) := by decide +kernel
theorem dX8_kingDigest_162 : decode cX8_kingDigest 162 = .ok (.bipush 20, 2) := by decide +kernel
theorem dX8_kingDigest_164 : decode cX8_kingDigest 164 = .ok (.bipush 20, 2) := by decide +kernel
theorem dX8_kingDigest_166 : decode cX8_kingDigest 166 = .ok (.iconst 0, 1) := by decide +kernel
theorem dX8_kingDigest_167 : decode cX8_kingDigest 167 = .ok (.invokevirtual 207, 3) := by decide +kernel
theorem dX8_kingDigest_170 : decode cX8_kingDigest 170 = .ok (.ladd, 1) := by decide +kernel
theorem dX8_kingDigest_171 : decode cX8_kingDigest 171 = .ok (.lstore 5, 2) := by decide +kernel
theorem dX8_kingDigest_173 : decode cX8_kingDigest 173 = .ok (.ldc2_w 257, 3) := by decide +kernel
theorem dX8_kingDigest_176 : decode cX8_kingDigest 176 = .ok (.lload 5, 2) := by decide +kernel
theorem dX8_kingDigest_178 : decode cX8_kingDigest 178 = .ok (.lmul, 1) := by decide +kernel
theorem dX8_kingDigest_179 : decode cX8_kingDigest 179 = .ok (.aload_n 0, 1) := by decide +kernel
theorem dX8_kingDigest_180 : decode cX8_kingDigest 180 = .ok (.iload_n 3, 1) := by decide +kernel
theorem dX8_kingDigest_181 : decode cX8_kingDigest 181 = .ok (.bipush 20, 2) := by decide +kernel
theorem dX8_kingDigest_183 : decode cX8_kingDigest 183 = .ok (.bipush 20, 2) := by decide +kernel
theorem dX8_kingDigest_185 : decode cX8_kingDigest 185 = .ok (.iconst 1, 1) := by decide +kernel
theorem dX8_kingDigest_186 : decode cX8_kingDigest 186 = .ok (.invokevirtual 207, 3) := by decide +kernel
theorem dX8_kingDigest_189 : decode cX8_kingDigest 189 = .ok (.ladd, 1) := by decide +kernel
theorem dX8_kingDigest_190 : decode cX8_kingDigest 190 = .ok (.lstore 5, 2) := by decide +kernel
theorem dX8_kingDigest_192 : decode cX8_kingDigest 192 = .ok (.ldc2_w 257, 3) := by decide +kernel
theorem dX8_kingDigest_195 : decode cX8_kingDigest 195 = .ok (.lload 5, 2) := by decide +kernel
theorem dX8_kingDigest_197 : decode cX8_kingDigest 197 = .ok (.lmul, 1) := by decide +kernel
theorem dX8_kingDigest_198 : decode cX8_kingDigest 198 = .ok (.aload_n 0, 1) := by decide +kernel
theorem dX8_kingDigest_199 : decode cX8_kingDigest 199 = .ok (.iload_n 3, 1) := by decide +kernel
theorem dX8_kingDigest_200 : decode cX8_kingDigest 200 = .ok (.invokevirtual 211, 3) := by decide +kernel
theorem dX8_kingDigest_203 : decode cX8_kingDigest 203 = .ok (.i2l, 1) := by decide +kernel
theorem dX8_kingDigest_204 : decode cX8_kingDigest 204 = .ok (.ladd, 1) := by decide +kernel
theorem dX8_kingDigest_205 : decode cX8_kingDigest 205 = .ok (.lstore 5, 2) := by decide +kernel
theorem dX8_kingDigest_207 : decode cX8_kingDigest 207 = .ok (.ldc2_w 257, 3) := by decide +kernel
theorem dX8_kingDigest_210 : decode cX8_kingDigest 210 = .ok (.lload 5, 2) := by decide +kernel
theorem dX8_kingDigest_212 : decode cX8_kingDigest 212 = .ok (.lmul, 1) := by decide +kernel
theorem dX8_kingDigest_213 : decode cX8_kingDigest 213 = .ok (.aload_n 0, 1) := by decide +kernel
theorem dX8_kingDigest_214 : decode cX8_kingDigest 214 = .ok (.iload_n 3, 1) := by decide +kernel
theorem dX8_kingDigest_215 : decode cX8_kingDigest 215 = .ok (.invokevirtual 214, 3) := by decide +kernel
theorem dX8_kingDigest_218 : decode cX8_kingDigest 218 = .ok (.i2l, 1) := by decide +kernel
theorem dX8_kingDigest_219 : decode cX8_kingDigest 219 = .ok (.ladd, 1) := by decide +kernel
theorem dX8_kingDigest_220 : decode cX8_kingDigest 220 = .ok (.lstore 5, 2) := by decide +kernel
theorem dX8_kingDigest_222 : decode cX8_kingDigest 222 = .ok (.ldc2_w 257, 3) := by decide +kernel
theorem dX8_kingDigest_225 : decode cX8_kingDigest 225 = .ok (.lload 5, 2) := by decide +kernel
theorem dX8_kingDigest_227 : decode cX8_kingDigest 227 = .ok (.lmul, 1) := by decide +kernel
theorem dX8_kingDigest_228 : decode cX8_kingDigest 228 = .ok (.aload_n 0, 1) := by decide +kernel
theorem dX8_kingDigest_229 : decode cX8_kingDigest 229 = .ok (.iconst 0, 1) := by decide +kernel
theorem dX8_kingDigest_230 : decode cX8_kingDigest 230 = .ok (.iload_n 3, 1) := by decide +kernel
theorem dX8_kingDigest_231 : decode cX8_kingDigest 231 = .ok (.sipush 511, 3) := by decide +kernel
theorem dX8_kingDigest_234 : decode cX8_kingDigest 234 = .ok (.iconst 0, 1) := by decide +kernel
theorem dX8_kingDigest_235 : decode cX8_kingDigest 235 = .ok (.invokevirtual 259, 3) := by decide +kernel
theorem dX8_kingDigest_238 : decode cX8_kingDigest 238 = .ok (.i2l, 1) := by decide +kernel
theorem dX8_kingDigest_239 : decode cX8_kingDigest 239 = .ok (.ladd, 1) := by decide +kernel
theorem dX8_kingDigest_240 : decode cX8_kingDigest 240 = .ok (.lstore 5, 2) := by decide +kernel
theorem dX8_kingDigest_242 : decode cX8_kingDigest 242 = .ok (.ldc2_w 257, 3) := by decide +kernel
theorem dX8_kingDigest_245 : decode cX8_kingDigest 245 = .ok (.lload 5, 2) := by decide +kernel
theorem dX8_kingDigest_247 : decode cX8_kingDigest 247 = .ok (.lmul, 1) := by decide +kernel
theorem dX8_kingDigest_248 : decode cX8_kingDigest 248 = .ok (.aload_n 0, 1) := by decide +kernel
theorem dX8_kingDigest_249 : decode cX8_kingDigest 249 = .ok (.iconst 0, 1) := by decide +kernel
theorem dX8_kingDigest_250 : decode cX8_kingDigest 250 = .ok (.iload_n 3, 1) := by decide +kernel
theorem dX8_kingDigest_251 : decode cX8_kingDigest 251 = .ok (.sipush 511, 3) := by decide +kernel
theorem dX8_kingDigest_254 : decode cX8_kingDigest 254 = .ok (.iconst 1, 1) := by decide +kernel
theorem dX8_kingDigest_255 : decode cX8_kingDigest 255 = .ok (.invokevirtual 259, 3) := by decide +kernel
theorem dX8_kingDigest_258 : decode cX8_kingDigest 258 = .ok (.i2l, 1) := by decide +kernel
theorem dX8_kingDigest_259 : decode cX8_kingDigest 259 = .ok (.ladd, 1) := by decide +kernel
theorem dX8_kingDigest_260 : decode cX8_kingDigest 260 = .ok (.lreturn, 1) := by decide +kernel
theorem dX8_digest_0 : decode cX8_digest 0 = .ok (.ldc2_w 262, 3) := by decide +kernel
theorem dX8_digest_3 : decode cX8_digest 3 = .ok (.lstore_n 1, 1) := by decide +kernel
theorem dX8_digest_4 : decode cX8_digest 4 = .ok (.iconst 0, 1) := by decide +kernel
theorem dX8_digest_5 : decode cX8_digest 5 = .ok (.istore_n 3, 1) := by decide +kernel
theorem dX8_digest_6 : decode cX8_digest 6 = .ok (.iload_n 3, 1) := by decide +kernel
theorem dX8_digest_7 : decode cX8_digest 7 = .ok (.bipush 8, 2) := by decide +kernel
theorem dX8_digest_9 : decode cX8_digest 9 = .ok (.if_icmp .ge 22, 3) := by decide +kernel
theorem dX8_digest_12 : decode cX8_digest 12 = .ok (.ldc2_w 257, 3) := by decide +kernel
theorem dX8_digest_15 : decode cX8_digest 15 = .ok (.lload_n 1, 1) := by decide +kernel
theorem dX8_digest_16 : decode cX8_digest 16 = .ok (.lmul, 1) := by decide +kernel
theorem dX8_digest_17 : decode cX8_digest 17 = .ok (.aload_n 0, 1) := by decide +kernel
theorem dX8_digest_18 : decode cX8_digest 18 = .ok (.iload_n 3, 1) := by decide +kernel
theorem dX8_digest_19 : decode cX8_digest 19 = .ok (.invokevirtual 264, 3) := by decide +kernel
theorem dX8_digest_22 : decode cX8_digest 22 = .ok (.i2l, 1) := by decide +kernel
theorem dX8_digest_23 : decode cX8_digest 23 = .ok (.ladd, 1) := by decide +kernel
theorem dX8_digest_24 : decode cX8_digest 24 = .ok (.lstore_n 1, 1) := by decide +kernel
theorem dX8_digest_25 : decode cX8_digest 25 = .ok (.iinc 3 1, 3) := by decide +kernel
theorem dX8_digest_28 : decode cX8_digest 28 = .ok (.goto (-22), 3) := by decide +kernel
theorem dX8_digest_31 : decode cX8_digest 31 = .ok (.ldc2_w 257, 3) := by decide +kernel
theorem dX8_digest_34 : decode cX8_digest 34 = .ok (.lload_n 1, 1) := by decide +kernel
theorem dX8_digest_35 : decode cX8_digest 35 = .ok (.lmul, 1) := by decide +kernel
theorem dX8_digest_36 : decode cX8_digest 36 = .ok (.aload_n 0, 1) := by decide +kernel
theorem dX8_digest_37 : decode cX8_digest 37 = .ok (.iconst 0, 1) := by decide +kernel
theorem dX8_digest_38 : decode cX8_digest 38 = .ok (.invokevirtual 125, 3) := by decide +kernel
theorem dX8_digest_41 : decode cX8_digest 41 = .ok (.i2l, 1) := by decide +kernel
theorem dX8_digest_42 : decode cX8_digest 42 = .ok (.ladd, 1) := by decide +kernel
theorem dX8_digest_43 : decode cX8_digest 43 = .ok (.lstore_n 1, 1) := by decide +kernel
theorem dX8_digest_44 : decode cX8_digest 44 = .ok (.ldc2_w 257, 3) := by decide +kernel
theorem dX8_digest_47 : decode cX8_digest 47 = .ok (.lload_n 1, 1) := by decide +kernel
theorem dX8_digest_48 : decode cX8_digest 48 = .ok (.lmul, 1) := by decide +kernel
theorem dX8_digest_49 : decode cX8_digest 49 = .ok (.aload_n 0, 1) := by decide +kernel
theorem dX8_digest_50 : decode cX8_digest 50 = .ok (.iconst 1, 1) := by decide +kernel
theorem dX8_digest_51 : decode cX8_digest 51 = .ok (.invokevirtual 125, 3) := by decide +kernel
theorem dX8_digest_54 : decode cX8_digest 54 = .ok (.i2l, 1) := by decide +kernel
theorem dX8_digest_55 : decode cX8_digest 55 = .ok (.ladd, 1) := by decide +kernel
theorem dX8_digest_56 : decode cX8_digest 56 = .ok (.lstore_n 1, 1) := by decide +kernel
theorem dX8_digest_57 : decode cX8_digest 57 = .ok (.iconst 0, 1) := by decide +kernel
theorem dX8_digest_58 : decode cX8_digest 58 = .ok (.istore_n 3, 1) := by decide +kernel
theorem dX8_digest_59 : decode cX8_digest 59 = .ok (.iload_n 3, 1) := by decide +kernel
theorem dX8_digest_60 : decode cX8_digest 60 = .ok (.aload_n 0, 1) := by decide +kernel
theorem dX8_digest_61 : decode cX8_digest 61 = .ok (.getfield 112, 3) := by decide +kernel
theorem dX8_digest_64 : decode cX8_digest 64 = .ok (.if_icmp .ge 39, 3) := by decide +kernel
theorem dX8_digest_67 : decode cX8_digest 67 = .ok (.iconst 0, 1) := by decide +kernel
theorem dX8_digest_68 : decode cX8_digest 68 = .ok (.istore 4, 2) := by decide +kernel
theorem dX8_digest_70 : decode cX8_digest 70 = .ok (.iload 4, 2) := by decide +kernel
theorem dX8_digest_72 : decode cX8_digest 72 = .ok (.iconst 3, 1) := by decide +kernel
theorem dX8_digest_73 : decode cX8_digest 73 = .ok (.if_icmp .ge 24, 3) := by decide +kernel
theorem dX8_digest_76 : decode cX8_digest 76 = .ok (.ldc2_w 257, 3) := by decide +kernel
theorem dX8_digest_79 : decode cX8_digest 79 = .ok (.lload_n 1, 1) := by decide +kernel
theorem dX8_digest_80 : decode cX8_digest 80 = .ok (.lmul, 1) := by decide +kernel
theorem dX8_digest_81 : decode cX8_digest 81 = .ok (.aload_n 0, 1) := by decide +kernel
theorem dX8_digest_82 : decode cX8_digest 82 = .ok (.iload_n 3, 1) := by decide +kernel
theorem dX8_digest_83 : decode cX8_digest 83 = .ok (.iload 4, 2) := by decide +kernel
theorem dX8_digest_85 : decode cX8_digest 85 = .ok (.invokevirtual 131, 3) := by decide +kernel
theorem dX8_digest_88 : decode cX8_digest 88 = .ok (.i2l, 1) := by decide +kernel
theorem dX8_digest_89 : decode cX8_digest 89 = .ok (.ladd, 1) := by decide +kernel
theorem dX8_digest_90 : decode cX8_digest 90 = .ok (.lstore_n 1, 1) := by decide +kernel
theorem dX8_digest_91 : decode cX8_digest 91 = .ok (.iinc 4 1, 3) := by decide +kernel
theorem dX8_digest_94 : decode cX8_digest 94 = .ok (.goto (-24), 3) := by decide +kernel
theorem dX8_digest_97 : decode cX8_digest 97 = .ok (.iinc 3 1, 3) := by decide +kernel
theorem dX8_digest_100 : decode cX8_digest 100 = .ok (.goto (-41), 3) := by decide +kernel
theorem dX8_digest_103 : decode cX8_digest 103 = .ok (.iconst 0, 1) := by decide +kernel
theorem dX8_digest_104 : decode cX8_digest 104 = .ok (.istore_n 3, 1) := by decide +kernel
theorem dX8_digest_105 : decode cX8_digest 105 = .ok (.iload_n 3, 1) := by decide +kernel
theorem dX8_digest_106 : decode cX8_digest 106 = .ok (.aload_n 0, 1) := by decide +kernel
theorem dX8_digest_107 : decode cX8_digest 107 = .ok (.getfield 115, 3) := by decide +kernel
theorem dX8_digest_110 : decode cX8_digest 110 = .ok (.if_icmp .ge 16, 3) := by decide +kernel
theorem dX8_digest_113 : decode cX8_digest 113 = .ok (.aload_n 0, 1) := by decide +kernel
theorem dX8_digest_114 : decode cX8_digest 114 = .ok (.lload_n 1, 1) := by decide +kernel
theorem dX8_digest_115 : decode cX8_digest 115 = .ok (.iload_n 3, 1) := by decide +kernel
theorem dX8_digest_116 : decode cX8_digest 116 = .ok (.invokevirtual 267, 3) := by decide +kernel
theorem dX8_digest_119 : decode cX8_digest 119 = .ok (.lstore_n 1, 1) := by decide +kernel
theorem dX8_digest_120 : decode cX8_digest 120 = .ok (.iinc 3 1, 3) := by decide +kernel
theorem dX8_digest_123 : decode cX8_digest 123 = .ok (.goto (-18), 3) := by decide +kernel
theorem dX8_digest_126 : decode cX8_digest 126 = .ok (.ldc2_w 257, 3) := by decide +kernel
theorem dX8_digest_129 : decode cX8_digest 129 = .ok (.lload_n 1, 1) := by decide +kernel
theorem dX8_digest_130 : decode cX8_digest 130 = .ok (.lmul, 1) := by decide +kernel
theorem dX8_digest_131 : decode cX8_digest 131 = .ok (.aload_n 0, 1) := by decide +kernel
theorem dX8_digest_132 : decode cX8_digest 132 = .ok (.invokevirtual 160, 3) := by decide +kernel
theorem dX8_digest_135 : decode cX8_digest 135 = .ok (.i2l, 1) := by decide +kernel
theorem dX8_digest_136 : decode cX8_digest 136 = .ok (.ladd, 1) := by decide +kernel
theorem dX8_digest_137 : decode cX8_digest 137 = .ok (.lstore_n 1, 1) := by decide +kernel
theorem dX8_digest_138 : decode cX8_digest 138 = .ok (.ldc2_w 257, 3) := by decide +kernel
theorem dX8_digest_141 : decode cX8_digest 141 = .ok (.lload_n 1, 1) := by decide +kernel
theorem dX8_digest_142 : decode cX8_digest 142 = .ok (.lmul, 1) := by decide +kernel
theorem dX8_digest_143 : decode cX8_digest 143 = .ok (.aload_n 0, 1) := by decide +kernel
theorem dX8_digest_144 : decode cX8_digest 144 = .ok (.aload_n 0, 1) := by decide +kernel
theorem dX8_digest_145 : decode cX8_digest 145 = .ok (.invokevirtual 160, 3) := by decide +kernel
theorem dX8_digest_148 : decode cX8_digest 148 = .ok (.invokevirtual 169, 3) := by decide +kernel
theorem dX8_digest_151 : decode cX8_digest 151 = .ok (.i2l, 1) := by decide +kernel
theorem dX8_digest_152 : decode cX8_digest 152 = .ok (.ladd, 1) := by decide +kernel
theorem dX8_digest_153 : decode cX8_digest 153 = .ok (.lstore_n 1, 1) := by decide +kernel
theorem dX8_digest_154 : decode cX8_digest 154 = .ok (.ldc2_w 257, 3) := by decide +kernel
theorem dX8_digest_157 : decode cX8_digest 157 = .ok (.lload_n 1, 1) := by decide +kernel
theorem dX8_digest_158 : decode cX8_digest 158 = .ok (.lmul, 1) := by decide +kernel
theorem dX8_digest_159 : decode cX8_digest 159 = .ok (.aload_n 0, 1) := by decide +kernel
theorem dX8_digest_160 : decode cX8_digest 160 = .ok (.invokevirtual 175, 3) := by decide +kernel
theorem dX8_digest_163 : decode cX8_digest 163 = .ok (.i2l, 1) := by decide +kernel
theorem dX8_digest_164 : decode cX8_digest 164 = .ok (.ladd, 1) := by decide +kernel
theorem dX8_digest_165 : decode cX8_digest 165 = .ok (.lstore_n 1, 1) := by decide +kernel
theorem dX8_digest_166 : decode cX8_digest 166 = .ok (.ldc2_w 257, 3) := by decide +kernel
theorem dX8_digest_169 : decode cX8_digest 169 = .ok (.lload_n 1, 1) := by decide +kernel
theorem dX8_digest_170 : decode cX8_digest 170 = .ok (.lmul, 1) := by decide +kernel
theorem dX8_digest_171 : decode cX8_digest 171 = .ok (.aload_n 0, 1) := by decide +kernel
theorem dX8_digest_172 : decode cX8_digest 172 = .ok (.bipush 9, 2) := by decide +kernel
theorem dX8_digest_174 : decode cX8_digest 174 = .ok (.invokevirtual 178, 3) := by decide +kernel
theorem dX8_digest_177 : decode cX8_digest 177 = .ok (.i2l, 1) := by decide +kernel
theorem dX8_digest_178 : decode cX8_digest 178 = .ok (.ladd, 1) := by decide +kernel
theorem dX8_digest_179 : decode cX8_digest 179 = .ok (.lstore_n 1, 1) := by decide +kernel
theorem dX8_digest_180 : decode cX8_digest 180 = .ok (.ldc2_w 257, 3) := by decide +kernel
theorem dX8_digest_183 : decode cX8_digest 183 = .ok (.lload_n 1, 1) := by decide +kernel
theorem dX8_digest_184 : decode cX8_digest 184 = .ok (.lmul, 1) := by decide +kernel
theorem dX8_digest_185 : decode cX8_digest 185 = .ok (.aload_n 0, 1) := by decide +kernel
theorem dX8_digest_186 : decode cX8_digest 186 = .ok (.invokevirtual 181, 3) := by decide +kernel
theorem dX8_digest_189 : decode cX8_digest 189 = .ok (.i2l, 1) := by decide +kernel
theorem dX8_digest_190 : decode cX8_digest 190 = .ok (.ladd, 1) := by decide +kernel
theorem dX8_digest_191 : decode cX8_digest 191 = .ok (.lstore_n 1, 1) := by decide +kernel
theorem dX8_digest_192 : decode cX8_digest 192 = .ok (.ldc2_w 257, 3) := by decide +kernel
theorem dX8_digest_195 : decode cX8_digest 195 = .ok (.lload_n 1, 1) := by decide +kernel
theorem dX8_digest_196 : decode cX8_digest 196 = .ok (.lmul, 1) := by decide +kernel
theorem dX8_digest_197 : decode cX8_digest 197 = .ok (.aload_n 0, 1) := by decide +kernel
theorem dX8_digest_198 : decode cX8_digest 198 = .ok (.iconst 0, 1) := by decide +kernel
theorem dX8_digest_199 : decode cX8_digest 199 = .ok (.invokevirtual 231, 3) := by decide +kernel
theorem dX8_digest_202 : decode cX8_digest 202 = .ok (.ladd, 1) := by decide +kernel
theorem dX8_digest_203 : decode cX8_digest 203 = .ok (.lstore_n 1, 1) := by decide +kernel
theorem dX8_digest_204 : decode cX8_digest 204 = .ok (.ldc2_w 257, 3) := by decide +kernel
theorem dX8_digest_207 : decode cX8_digest 207 = .ok (.lload_n 1, 1) := by decide +kernel
theorem dX8_digest_208 : decode cX8_digest 208 = .ok (.lmul, 1) := by decide +kernel
theorem dX8_digest_209 : decode cX8_digest 209 = .ok (.aload_n 0, 1) := by decide +kernel
theorem dX8_digest_210 : decode cX8_digest 210 = .ok (.iconst 1, 1) := by decide +kernel
theorem dX8_digest_211 : decode cX8_digest 211 = .ok (.invokevirtual 231, 3) := by decide +kernel
theorem dX8_digest_214 : decode cX8_digest 214 = .ok (.ladd, 1) := by decide +kernel
theorem dX8_digest_215 : decode cX8_digest 215 = .ok (.lstore_n 1, 1) := by decide +kernel
theorem dX8_digest_216 : decode cX8_digest 216 = .ok (.ldc2_w 257, 3) := by decide +kernel
theorem dX8_digest_219 : decode cX8_digest 219 = .ok (.lload_n 1, 1) := by decide +kernel
theorem dX8_digest_220 : decode cX8_digest 220 = .ok (.lmul, 1) := by decide +kernel
theorem dX8_digest_221 : decode cX8_digest 221 = .ok (.aload_n 0, 1) := by decide +kernel
theorem dX8_digest_222 : decode cX8_digest 222 = .ok (.invokevirtual 237, 3) := by decide +kernel
theorem dX8_digest_225 : decode cX8_digest 225 = .ok (.i2l, 1) := by decide +kernel
theorem dX8_digest_226 : decode cX8_digest 226 = .ok (.ladd, 1) := by decide +kernel
theorem dX8_digest_227 : decode cX8_digest 227 = .ok (.lstore_n 1, 1) := by decide +kernel
theorem dX8_digest_228 : decode cX8_digest 228 = .ok (.ldc2_w 257, 3) := by decide +kernel
theorem dX8_digest_231 : decode cX8_digest 231 = .ok (.lload_n 1, 1) := by decide +kernel
theorem dX8_digest_232 : decode cX8_digest 232 = .ok (.lmul, 1) := by decide +kernel
theorem dX8_digest_233 : decode cX8_digest 233 = .ok (.aload_n 0, 1) := by decide +kernel
theorem dX8_digest_234 : decode cX8_digest 234 = .ok (.bipush 7, 2) := by decide +kernel
theorem dX8_digest_236 : decode cX8_digest 236 = .ok (.iconst 0, 1) := by decide +kernel
theorem dX8_digest_237 : decode cX8_digest 237 = .ok (.invokevirtual 241, 3) := by decide +kernel
theorem dX8_digest_240 : decode cX8_digest 240 = .ok (.i2l, 1) := by decide +kernel
theorem dX8_digest_241 : decode cX8_digest 241 = .ok (.ladd, 1) := by decide +kernel
theorem dX8_digest_242 : decode cX8_digest 242 = .ok (.lstore_n 1, 1) := by decide +kernel
theorem dX8_digest_243 : decode cX8_digest 243 = .ok (.ldc2_w 257, 3) := by decide +kernel
theorem dX8_digest_246 : decode cX8_digest 246 = .ok (.lload_n 1, 1) := by decide +kernel
theorem dX8_digest_247 : decode cX8_digest 247 = .ok (.lmul, 1) := by decide +kernel
theorem dX8_digest_248 : decode cX8_digest 248 = .ok (.aload_n 0, 1) := by decide +kernel
theorem dX8_digest_249 : decode cX8_digest 249 = .ok (.bipush 7, 2) := by decide +kernel
theorem dX8_digest_251 : decode cX8_digest 251 = .ok (.iconst 1, 1) := by decide +kernel
theorem dX8_digest_252 : decode cX8_digest 252 = .ok (.invokevirtual 241, 3) := by decide +kernel
theorem dX8_digest_255 : decode cX8_digest 255 = .ok (.i2l, 1) := by decide +kernel
theorem dX8_digest_256 : decode cX8_digest 256 = .ok (.ladd, 1) := by decide +kernel
theorem dX8_digest_257 : decode cX8_digest 257 = .ok (.lreturn, 1) := by decide +kernel
