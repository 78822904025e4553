/-! decode rows of the reference (by program) -/
theorem d_M_init_0 : decode b_M_init 0 = .ok (.aload_n 0, 1) := by decide +kernel
theorem d_M_init_1 : decode b_M_init 1 = .ok (.invokespecial 1, 3) := by decide +kernel
theorem d_M_init_4 : decode b_M_init 4 = .ok (.aload_n 0, 1) := by decide +kernel
theorem d_M_init_5 : decode b_M_init 5 = .ok (.bipush 24, 2) := by decide +kernel
theorem d_M_init_7 : decode b_M_init 7 = .ok (.newarray .boolean, 2) := by decide +kernel
theorem d_M_init_9 : decode b_M_init 9 = .ok (.putfield 7, 3) := by decide +kernel
theorem d_M_init_12 : decode b_M_init 12 = .ok (.aload_n 0, 1) := by decide +kernel
theorem d_M_init_13 : decode b_M_init 13 = .ok (.bipush 24, 2) := by decide +kernel
theorem d_M_init_15 : decode b_M_init 15 = .ok (.newarray .long, 2) := by decide +kernel
theorem d_M_init_17 : decode b_M_init 17 = .ok (.putfield 13, 3) := by decide +kernel
theorem d_M_init_20 : decode b_M_init 20 = .ok (.aload_n 0, 1) := by decide +kernel
theorem d_M_init_21 : decode b_M_init 21 = .ok (.bipush 24, 2) := by decide +kernel
theorem d_M_init_23 : decode b_M_init 23 = .ok (.newarray .int, 2) := by decide +kernel
theorem d_M_init_25 : decode b_M_init 25 = .ok (.putfield 17, 3) := by decide +kernel
theorem d_M_init_28 : decode b_M_init 28 = .ok (.aload_n 0, 1) := by decide +kernel
theorem d_M_init_29 : decode b_M_init 29 = .ok (.bipush 12, 2) := by decide +kernel
theorem d_M_init_31 : decode b_M_init 31 = .ok (.newarray .int, 2) := by decide +kernel
theorem d_M_init_33 : decode b_M_init 33 = .ok (.putfield 21, 3) := by decide +kernel
theorem d_M_init_36 : decode b_M_init 36 = .ok (.aload_n 0, 1) := by decide +kernel
theorem d_M_init_37 : decode b_M_init 37 = .ok (.bipush 12, 2) := by decide +kernel
theorem d_M_init_39 : decode b_M_init 39 = .ok (.newarray .int, 2) := by decide +kernel
theorem d_M_init_41 : decode b_M_init 41 = .ok (.putfield 24, 3) := by decide +kernel
theorem d_M_init_44 : decode b_M_init 44 = .ok (.aload_n 0, 1) := by decide +kernel
theorem d_M_init_45 : decode b_M_init 45 = .ok (.bipush 12, 2) := by decide +kernel
theorem d_M_init_47 : decode b_M_init 47 = .ok (.newarray .int, 2) := by decide +kernel
theorem d_M_init_49 : decode b_M_init 49 = .ok (.putfield 27, 3) := by decide +kernel
theorem d_M_init_52 : decode b_M_init 52 = .ok (.aload_n 0, 1) := by decide +kernel
theorem d_M_init_53 : decode b_M_init 53 = .ok (.sipush 144, 3) := by decide +kernel
theorem d_M_init_56 : decode b_M_init 56 = .ok (.newarray .int, 2) := by decide +kernel
theorem d_M_init_58 : decode b_M_init 58 = .ok (.putfield 30, 3) := by decide +kernel
theorem d_M_init_61 : decode b_M_init 61 = .ok (.aload_n 0, 1) := by decide +kernel
theorem d_M_init_62 : decode b_M_init 62 = .ok (.sipush 144, 3) := by decide +kernel
theorem d_M_init_65 : decode b_M_init 65 = .ok (.newarray .int, 2) := by decide +kernel
theorem d_M_init_67 : decode b_M_init 67 = .ok (.putfield 33, 3) := by decide +kernel
theorem d_M_init_70 : decode b_M_init 70 = .ok (.aload_n 0, 1) := by decide +kernel
theorem d_M_init_71 : decode b_M_init 71 = .ok (.bipush 12, 2) := by decide +kernel
theorem d_M_init_73 : decode b_M_init 73 = .ok (.newarray .int, 2) := by decide +kernel
theorem d_M_init_75 : decode b_M_init 75 = .ok (.putfield 36, 3) := by decide +kernel
theorem d_M_init_78 : decode b_M_init 78 = .ok (.aload_n 0, 1) := by decide +kernel
theorem d_M_init_79 : decode b_M_init 79 = .ok (.bipush 12, 2) := by decide +kernel
theorem d_M_init_81 : decode b_M_init 81 = .ok (.newarray .int, 2) := by decide +kernel
theorem d_M_init_83 : decode b_M_init 83 = .ok (.putfield 39, 3) := by decide +kernel
theorem d_M_init_86 : decode b_M_init 86 = .ok (.aload_n 0, 1) := by decide +kernel
theorem d_M_init_87 : decode b_M_init 87 = .ok (.sipush 288, 3) := by decide +kernel
theorem d_M_init_90 : decode b_M_init 90 = .ok (.newarray .int, 2) := by decide +kernel
theorem d_M_init_92 : decode b_M_init 92 = .ok (.putfield 42, 3) := by decide +kernel
theorem d_M_init_95 : decode b_M_init 95 = .ok (.aload_n 0, 1) := by decide +kernel
theorem d_M_init_96 : decode b_M_init 96 = .ok (.bipush 12, 2) := by decide +kernel
theorem d_M_init_98 : decode b_M_init 98 = .ok (.newarray .int, 2) := by decide +kernel
theorem d_M_init_100 : decode b_M_init 100 = .ok (.putfield 45, 3) := by decide +kernel
theorem d_M_init_103 : decode b_M_init 103 = .ok (.aload_n 0, 1) := by decide +kernel
theorem d_M_init_104 : decode b_M_init 104 = .ok (.bipush 12, 2) := by decide +kernel
theorem d_M_init_106 : decode b_M_init 106 = .ok (.newarray .int, 2) := by decide +kernel
theorem d_M_init_108 : decode b_M_init 108 = .ok (.putfield 48, 3) := by decide +kernel
theorem d_M_init_111 : decode b_M_init 111 = .ok (.aload_n 0, 1) := by decide +kernel
theorem d_M_init_112 : decode b_M_init 112 = .ok (.bipush 12, 2) := by decide +kernel
theorem d_M_init_114 : decode b_M_init 114 = .ok (.newarray .int, 2) := by decide +kernel
theorem d_M_init_116 : decode b_M_init 116 = .ok (.putfield 51, 3) := by decide +kernel
theorem d_M_init_119 : decode b_M_init 119 = .ok (.aload_n 0, 1) := by decide +kernel
theorem d_M_init_120 : decode b_M_init 120 = .ok (.bipush 12, 2) := by decide +kernel
theorem d_M_init_122 : decode b_M_init 122 = .ok (.newarray .int, 2) := by decide +kernel
theorem d_M_init_124 : decode b_M_init 124 = .ok (.putfield 54, 3) := by decide +kernel
theorem d_M_init_127 : decode b_M_init 127 = .ok (.aload_n 0, 1) := by decide +kernel
theorem d_M_init_128 : decode b_M_init 128 = .ok (.sipush 288, 3) := by decide +kernel
theorem d_M_init_131 : decode b_M_init 131 = .ok (.newarray .boolean, 2) := by decide +kernel
theorem d_M_init_133 : decode b_M_init 133 = .ok (.putfield 57, 3) := by decide +kernel
theorem d_M_init_136 : decode b_M_init 136 = .ok (.aload_n 0, 1) := by decide +kernel
theorem d_M_init_137 : decode b_M_init 137 = .ok (.sipush 288, 3) := by decide +kernel
theorem d_M_init_140 : decode b_M_init 140 = .ok (.newarray .boolean, 2) := by decide +kernel
theorem d_M_init_142 : decode b_M_init 142 = .ok (.putfield 60, 3) := by decide +kernel
theorem d_M_init_145 : decode b_M_init 145 = .ok (.aload_n 0, 1) := by decide +kernel
theorem d_M_init_146 : decode b_M_init 146 = .ok (.bipush 12, 2) := by decide +kernel
theorem d_M_init_148 : decode b_M_init 148 = .ok (.newarray .boolean, 2) := by decide +kernel
theorem d_M_init_150 : decode b_M_init 150 = .ok (.putfield 63, 3) := by decide +kernel
theorem d_M_init_153 : decode b_M_init 153 = .ok (.aload_n 0, 1) := by decide +kernel
theorem d_M_init_154 : decode b_M_init 154 = .ok (.sipush 288, 3) := by decide +kernel
theorem d_M_init_157 : decode b_M_init 157 = .ok (.newarray .long, 2) := by decide +kernel
theorem d_M_init_159 : decode b_M_init 159 = .ok (.putfield 66, 3) := by decide +kernel
theorem d_M_init_162 : decode b_M_init 162 = .ok (.aload_n 0, 1) := by decide +kernel
theorem d_M_init_163 : decode b_M_init 163 = .ok (.bipush 12, 2) := by decide +kernel
theorem d_M_init_165 : decode b_M_init 165 = .ok (.newarray .int, 2) := by decide +kernel
theorem d_M_init_167 : decode b_M_init 167 = .ok (.putfield 69, 3) := by decide +kernel
theorem d_M_init_170 : decode b_M_init 170 = .ok (.aload_n 0, 1) := by decide +kernel
theorem d_M_init_171 : decode b_M_init 171 = .ok (.bipush 12, 2) := by decide +kernel
theorem d_M_init_173 : decode b_M_init 173 = .ok (.newarray .int, 2) := by decide +kernel
theorem d_M_init_175 : decode b_M_init 175 = .ok (.putfield 72, 3) := by decide +kernel
theorem d_M_init_178 : decode b_M_init 178 = .ok (.aload_n 0, 1) := by decide +kernel
theorem d_M_init_179 : decode b_M_init 179 = .ok (.bipush 6, 2) := by decide +kernel
theorem d_M_init_181 : decode b_M_init 181 = .ok (.newarray .int, 2) := by decide +kernel
theorem d_M_init_183 : decode b_M_init 183 = .ok (.putfield 75, 3) := by decide +kernel
theorem d_M_init_186 : decode b_M_init 186 = .ok (.aload_n 0, 1) := by decide +kernel
theorem d_M_init_187 : decode b_M_init 187 = .ok (.bipush 6, 2) := by decide +kernel
theorem d_M_init_189 : decode b_M_init 189 = .ok (.newarray .int, 2) := by decide +kernel
theorem d_M_init_191 : decode b_M_init 191 = .ok (.putfield 78, 3) := by decide +kernel
theorem d_M_init_194 : decode b_M_init 194 = .ok (.aload_n 0, 1) := by decide +kernel
theorem d_M_init_195 : decode b_M_init 195 = .ok (.bipush 6, 2) := by decide +kernel
theorem d_M_init_197 : decode b_M_init 197 = .ok (.newarray .long, 2) := by decide +kernel
theorem d_M_init_199 : decode b_M_init 199 = .ok (.putfield 81, 3) := by decide +kernel
theorem d_M_init_202 : decode b_M_init 202 = .ok (.aload_n 0, 1) := by decide +kernel
theorem d_M_init_203 : decode b_M_init 203 = .ok (.bipush 24, 2) := by decide +kernel
theorem d_M_init_205 : decode b_M_init 205 = .ok (.newarray .long, 2) := by decide +kernel
theorem d_M_init_207 : decode b_M_init 207 = .ok (.putfield 84, 3) := by decide +kernel
theorem d_M_init_210 : decode b_M_init 210 = .ok (.aload_n 0, 1) := by decide +kernel
theorem d_M_init_211 : decode b_M_init 211 = .ok (.bipush 24, 2) := by decide +kernel
theorem d_M_init_213 : decode b_M_init 213 = .ok (.newarray .long, 2) := by decide +kernel
theorem d_M_init_215 : decode b_M_init 215 = .ok (.putfield 87, 3) := by decide +kernel
theorem d_M_init_218 : decode b_M_init 218 = .ok (.aload_n 0, 1) := by decide +kernel
theorem d_M_init_219 : decode b_M_init 219 = .ok (.iload_n 1, 1) := by decide +kernel
theorem d_M_init_220 : decode b_M_init 220 = .ok (.iconst 1, 1) := by decide +kernel
theorem d_M_init_221 : decode b_M_init 221 = .ok (.if_icmp .ge 7, 3) := by decide +kernel
theorem d_M_init_224 : decode b_M_init 224 = .ok (.iconst 1, 1) := by decide +kernel
theorem d_M_init_225 : decode b_M_init 225 = .ok (.goto 15, 3) := by decide +kernel
theorem d_M_init_228 : decode b_M_init 228 = .ok (.iload_n 1, 1) := by decide +kernel
theorem d_M_init_229 : decode b_M_init 229 = .ok (.bipush 9, 2) := by decide +kernel
theorem d_M_init_231 : decode b_M_init 231 = .ok (.if_icmp .le 8, 3) := by decide +kernel
theorem d_M_init_234 : decode b_M_init 234 = .ok (.bipush 9, 2) := by decide +kernel
theorem d_M_init_236 : decode b_M_init 236 = .ok (.goto 4, 3) := by decide +kernel
theorem d_M_init_239 : decode b_M_init 239 = .ok (.iload_n 1, 1) := by decide +kernel
theorem d_M_init_240 : decode b_M_init 240 = .ok (.putfield 90, 3) := by decide +kernel
theorem d_M_init_243 : decode b_M_init 243 = .ok (.return_, 1) := by decide +kernel
theorem d_M_file_0 : decode b_M_file 0 = .ok (.aload_n 0, 1) := by decide +kernel
theorem d_M_file_1 : decode b_M_file 1 = .ok (.iconst 0, 1) := by decide +kernel
theorem d_M_file_2 : decode b_M_file 2 = .ok (.putfield 94, 3) := by decide +kernel
theorem d_M_file_5 : decode b_M_file 5 = .ok (.aload_n 0, 1) := by decide +kernel
theorem d_M_file_6 : decode b_M_file 6 = .ok (.getfield 97, 3) := by decide +kernel
theorem d_M_file_9 : decode b_M_file 9 = .ok (.bipush 24, 2) := by decide +kernel
theorem d_M_file_11 : decode b_M_file 11 = .ok (.if_icmp .ne 5, 3) := by decide +kernel
theorem d_M_file_14 : decode b_M_file 14 = .ok (.iconst (-1), 1) := by decide +kernel
theorem d_M_file_15 : decode b_M_file 15 = .ok (.ireturn, 1) := by decide +kernel
theorem d_M_file_16 : decode b_M_file 16 = .ok (.aload_n 0, 1) := by decide +kernel
theorem d_M_file_17 : decode b_M_file 17 = .ok (.getfield 7, 3) := by decide +kernel
theorem d_M_file_20 : decode b_M_file 20 = .ok (.aload_n 0, 1) := by decide +kernel
theorem d_M_file_21 : decode b_M_file 21 = .ok (.getfield 97, 3) := by decide +kernel
theorem d_M_file_24 : decode b_M_file 24 = .ok (.iconst 1, 1) := by decide +kernel
theorem d_M_file_25 : decode b_M_file 25 = .ok (.bastore, 1) := by decide +kernel
theorem d_M_file_26 : decode b_M_file 26 = .ok (.aload_n 0, 1) := by decide +kernel
theorem d_M_file_27 : decode b_M_file 27 = .ok (.getfield 13, 3) := by decide +kernel
theorem d_M_file_30 : decode b_M_file 30 = .ok (.aload_n 0, 1) := by decide +kernel
theorem d_M_file_31 : decode b_M_file 31 = .ok (.getfield 97, 3) := by decide +kernel
theorem d_M_file_34 : decode b_M_file 34 = .ok (.lload_n 1, 1) := by decide +kernel
theorem d_M_file_35 : decode b_M_file 35 = .ok (.lastore, 1) := by decide +kernel
theorem d_M_file_36 : decode b_M_file 36 = .ok (.aload_n 0, 1) := by decide +kernel
theorem d_M_file_37 : decode b_M_file 37 = .ok (.getfield 17, 3) := by decide +kernel
theorem d_M_file_40 : decode b_M_file 40 = .ok (.aload_n 0, 1) := by decide +kernel
theorem d_M_file_41 : decode b_M_file 41 = .ok (.getfield 97, 3) := by decide +kernel
theorem d_M_file_44 : decode b_M_file 44 = .ok (.iconst (-1), 1) := by decide +kernel
theorem d_M_file_45 : decode b_M_file 45 = .ok (.iastore, 1) := by decide +kernel
theorem d_M_file_46 : decode b_M_file 46 = .ok (.aload_n 0, 1) := by decide +kernel
theorem d_M_file_47 : decode b_M_file 47 = .ok (.dup, 1) := by decide +kernel
theorem d_M_file_48 : decode b_M_file 48 = .ok (.getfield 97, 3) := by decide +kernel
theorem d_M_file_51 : decode b_M_file 51 = .ok (.iconst 1, 1) := by decide +kernel
theorem d_M_file_52 : decode b_M_file 52 = .ok (.iadd, 1) := by decide +kernel
theorem d_M_file_53 : decode b_M_file 53 = .ok (.putfield 97, 3) := by decide +kernel
theorem d_M_file_56 : decode b_M_file 56 = .ok (.aload_n 0, 1) := by decide +kernel
theorem d_M_file_57 : decode b_M_file 57 = .ok (.getfield 97, 3) := by decide +kernel
theorem d_M_file_60 : decode b_M_file 60 = .ok (.iconst 1, 1) := by decide +kernel
theorem d_M_file_61 : decode b_M_file 61 = .ok (.isub, 1) := by decide +kernel
theorem d_M_file_62 : decode b_M_file 62 = .ok (.ireturn, 1) := by decide +kernel
theorem d_M_change_0 : decode b_M_change 0 = .ok (.aload_n 0, 1) := by decide +kernel
theorem d_M_change_1 : decode b_M_change 1 = .ok (.iconst 0, 1) := by decide +kernel
theorem d_M_change_2 : decode b_M_change 2 = .ok (.putfield 94, 3) := by decide +kernel
theorem d_M_change_5 : decode b_M_change 5 = .ok (.aload_n 0, 1) := by decide +kernel
theorem d_M_change_6 : decode b_M_change 6 = .ok (.iload_n 1, 1) := by decide +kernel
theorem d_M_change_7 : decode b_M_change 7 = .ok (.invokevirtual 103, 3) := by decide +kernel
theorem d_M_change_10 : decode b_M_change 10 = .ok (.ifCond .eq 13, 3) := by decide +kernel
theorem d_M_change_13 : decode b_M_change 13 = .ok (.aload_n 0, 1) := by decide +kernel
theorem d_M_change_14 : decode b_M_change 14 = .ok (.getfield 17, 3) := by decide +kernel
theorem d_M_change_17 : decode b_M_change 17 = .ok (.iload_n 1, 1) := by decide +kernel
theorem d_M_change_18 : decode b_M_change 18 = .ok (.iaload, 1) := by decide +kernel
theorem d_M_change_19 : decode b_M_change 19 = .ok (.iconst (-1), 1) := by decide +kernel
theorem d_M_change_20 : decode b_M_change 20 = .ok (.if_icmp .eq 5, 3) := by decide +kernel
theorem d_M_change_23 : decode b_M_change 23 = .ok (.iconst 0, 1) := by decide +kernel
theorem d_M_change_24 : decode b_M_change 24 = .ok (.ireturn, 1) := by decide +kernel
theorem d_M_change_25 : decode b_M_change 25 = .ok (.aload_n 0, 1) := by decide +kernel
theorem d_M_change_26 : decode b_M_change 26 = .ok (.getfield 7, 3) := by decide +kernel
theorem d_M_change_29 : decode b_M_change 29 = .ok (.iload_n 1, 1) := by decide +kernel
theorem d_M_change_30 : decode b_M_change 30 = .ok (.iload_n 2, 1) := by decide +kernel
theorem d_M_change_31 : decode b_M_change 31 = .ok (.bastore, 1) := by decide +kernel
theorem d_M_change_32 : decode b_M_change 32 = .ok (.aload_n 0, 1) := by decide +kernel
theorem d_M_change_33 : decode b_M_change 33 = .ok (.getfield 13, 3) := by decide +kernel
theorem d_M_change_36 : decode b_M_change 36 = .ok (.iload_n 1, 1) := by decide +kernel
theorem d_M_change_37 : decode b_M_change 37 = .ok (.iload_n 2, 1) := by decide +kernel
theorem d_M_change_38 : decode b_M_change 38 = .ok (.ifCond .eq 7, 3) := by decide +kernel
theorem d_M_change_41 : decode b_M_change 41 = .ok (.lload_n 3, 1) := by decide +kernel
theorem d_M_change_42 : decode b_M_change 42 = .ok (.goto 4, 3) := by decide +kernel
theorem d_M_change_45 : decode b_M_change 45 = .ok (.lconst 0, 1) := by decide +kernel
theorem d_M_change_46 : decode b_M_change 46 = .ok (.lastore, 1) := by decide +kernel
theorem d_M_change_47 : decode b_M_change 47 = .ok (.iconst 1, 1) := by decide +kernel
theorem d_M_change_48 : decode b_M_change 48 = .ok (.ireturn, 1) := by decide +kernel
theorem d_M_isFile_0 : decode b_M_isFile 0 = .ok (.iload_n 1, 1) := by decide +kernel
theorem d_M_isFile_1 : decode b_M_isFile 1 = .ok (.ifCond .lt 15, 3) := by decide +kernel
theorem d_M_isFile_4 : decode b_M_isFile 4 = .ok (.iload_n 1, 1) := by decide +kernel
theorem d_M_isFile_5 : decode b_M_isFile 5 = .ok (.aload_n 0, 1) := by decide +kernel
theorem d_M_isFile_6 : decode b_M_isFile 6 = .ok (.getfield 97, 3) := by decide +kernel
theorem d_M_isFile_9 : decode b_M_isFile 9 = .ok (.if_icmp .ge 7, 3) := by decide +kernel
theorem d_M_isFile_12 : decode b_M_isFile 12 = .ok (.iconst 1, 1) := by decide +kernel
theorem d_M_isFile_13 : decode b_M_isFile 13 = .ok (.goto 4, 3) := by decide +kernel
theorem d_M_isFile_16 : decode b_M_isFile 16 = .ok (.iconst 0, 1) := by decide +kernel
theorem d_M_isFile_17 : decode b_M_isFile 17 = .ok (.ireturn, 1) := by decide +kernel
theorem d_M_action_0 : decode b_M_action 0 = .ok (.aload_n 0, 1) := by decide +kernel
theorem d_M_action_1 : decode b_M_action 1 = .ok (.iconst 0, 1) := by decide +kernel
theorem d_M_action_2 : decode b_M_action 2 = .ok (.putfield 94, 3) := by decide +kernel
theorem d_M_action_5 : decode b_M_action 5 = .ok (.aload_n 0, 1) := by decide +kernel
theorem d_M_action_6 : decode b_M_action 6 = .ok (.getfield 100, 3) := by decide +kernel
theorem d_M_action_9 : decode b_M_action 9 = .ok (.bipush 12, 2) := by decide +kernel
theorem d_M_action_11 : decode b_M_action 11 = .ok (.if_icmp .ne 5, 3) := by decide +kernel
theorem d_M_action_14 : decode b_M_action 14 = .ok (.iconst (-1), 1) := by decide +kernel
theorem d_M_action_15 : decode b_M_action 15 = .ok (.ireturn, 1) := by decide +kernel
theorem d_M_action_16 : decode b_M_action 16 = .ok (.aload_n 0, 1) := by decide +kernel
theorem d_M_action_17 : decode b_M_action 17 = .ok (.getfield 21, 3) := by decide +kernel
theorem d_M_action_20 : decode b_M_action 20 = .ok (.aload_n 0, 1) := by decide +kernel
theorem d_M_action_21 : decode b_M_action 21 = .ok (.getfield 100, 3) := by decide +kernel
theorem d_M_action_24 : decode b_M_action 24 = .ok (.iload_n 1, 1) := by decide +kernel
theorem d_M_action_25 : decode b_M_action 25 = .ok (.iastore, 1) := by decide +kernel
theorem d_M_action_26 : decode b_M_action 26 = .ok (.aload_n 0, 1) := by decide +kernel
theorem d_M_action_27 : decode b_M_action 27 = .ok (.getfield 24, 3) := by decide +kernel
theorem d_M_action_30 : decode b_M_action 30 = .ok (.aload_n 0, 1) := by decide +kernel
theorem d_M_action_31 : decode b_M_action 31 = .ok (.getfield 100, 3) := by decide +kernel
theorem d_M_action_34 : decode b_M_action 34 = .ok (.iconst (-1), 1) := by decide +kernel
theorem d_M_action_35 : decode b_M_action 35 = .ok (.iastore, 1) := by decide +kernel
theorem d_M_action_36 : decode b_M_action 36 = .ok (.aload_n 0, 1) := by decide +kernel
theorem d_M_action_37 : decode b_M_action 37 = .ok (.getfield 36, 3) := by decide +kernel
theorem d_M_action_40 : decode b_M_action 40 = .ok (.aload_n 0, 1) := by decide +kernel
theorem d_M_action_41 : decode b_M_action 41 = .ok (.getfield 100, 3) := by decide +kernel
theorem d_M_action_44 : decode b_M_action 44 = .ok (.iconst 2, 1) := by decide +kernel
theorem d_M_action_45 : decode b_M_action 45 = .ok (.iastore, 1) := by decide +kernel
theorem d_M_action_46 : decode b_M_action 46 = .ok (.aload_n 0, 1) := by decide +kernel
theorem d_M_action_47 : decode b_M_action 47 = .ok (.getfield 54, 3) := by decide +kernel
theorem d_M_action_50 : decode b_M_action 50 = .ok (.aload_n 0, 1) := by decide +kernel
theorem d_M_action_51 : decode b_M_action 51 = .ok (.getfield 100, 3) := by decide +kernel
theorem d_M_action_54 : decode b_M_action 54 = .ok (.iconst (-1), 1) := by decide +kernel
theorem d_M_action_55 : decode b_M_action 55 = .ok (.iastore, 1) := by decide +kernel
theorem d_M_action_56 : decode b_M_action 56 = .ok (.aload_n 0, 1) := by decide +kernel
theorem d_M_action_57 : decode b_M_action 57 = .ok (.dup, 1) := by decide +kernel
theorem d_M_action_58 : decode b_M_action 58 = .ok (.getfield 100, 3) := by decide +kernel
theorem d_M_action_61 : decode b_M_action 61 = .ok (.iconst 1, 1) := by decide +kernel
theorem d_M_action_62 : decode b_M_action 62 = .ok (.iadd, 1) := by decide +kernel
theorem d_M_action_63 : decode b_M_action 63 = .ok (.putfield 100, 3) := by decide +kernel
theorem d_M_action_66 : decode b_M_action 66 = .ok (.aload_n 0, 1) := by decide +kernel
theorem d_M_action_67 : decode b_M_action 67 = .ok (.getfield 100, 3) := by decide +kernel
theorem d_M_action_70 : decode b_M_action 70 = .ok (.iconst 1, 1) := by decide +kernel
theorem d_M_action_71 : decode b_M_action 71 = .ok (.isub, 1) := by decide +kernel
theorem d_M_action_72 : decode b_M_action 72 = .ok (.ireturn, 1) := by decide +kernel
theorem d_M_makes_0 : decode b_M_makes 0 = .ok (.aload_n 0, 1) := by decide +kernel
theorem d_M_makes_1 : decode b_M_makes 1 = .ok (.iconst 0, 1) := by decide +kernel
theorem d_M_makes_2 : decode b_M_makes 2 = .ok (.putfield 94, 3) := by decide +kernel
theorem d_M_makes_5 : decode b_M_makes 5 = .ok (.aload_n 0, 1) := by decide +kernel
theorem d_M_makes_6 : decode b_M_makes 6 = .ok (.iload_n 1, 1) := by decide +kernel
theorem d_M_makes_7 : decode b_M_makes 7 = .ok (.invokevirtual 107, 3) := by decide +kernel
theorem d_M_makes_10 : decode b_M_makes 10 = .ok (.ifCond .eq 31, 3) := by decide +kernel
theorem d_M_makes_13 : decode b_M_makes 13 = .ok (.aload_n 0, 1) := by decide +kernel
theorem d_M_makes_14 : decode b_M_makes 14 = .ok (.iload_n 2, 1) := by decide +kernel
theorem d_M_makes_15 : decode b_M_makes 15 = .ok (.invokevirtual 103, 3) := by decide +kernel
theorem d_M_makes_18 : decode b_M_makes 18 = .ok (.ifCond .eq 23, 3) := by decide +kernel
theorem d_M_makes_21 : decode b_M_makes 21 = .ok (.aload_n 0, 1) := by decide +kernel
theorem d_M_makes_22 : decode b_M_makes 22 = .ok (.getfield 24, 3) := by decide +kernel
theorem d_M_makes_25 : decode b_M_makes 25 = .ok (.iload_n 1, 1) := by decide +kernel
theorem d_M_makes_26 : decode b_M_makes 26 = .ok (.iaload, 1) := by decide +kernel
theorem d_M_makes_27 : decode b_M_makes 27 = .ok (.iconst (-1), 1) := by decide +kernel
theorem d_M_makes_28 : decode b_M_makes 28 = .ok (.if_icmp .ne 13, 3) := by decide +kernel
theorem d_M_makes_31 : decode b_M_makes 31 = .ok (.aload_n 0, 1) := by decide +kernel
theorem d_M_makes_32 : decode b_M_makes 32 = .ok (.getfield 17, 3) := by decide +kernel
theorem d_M_makes_35 : decode b_M_makes 35 = .ok (.iload_n 2, 1) := by decide +kernel
theorem d_M_makes_36 : decode b_M_makes 36 = .ok (.iaload, 1) := by decide +kernel
theorem d_M_makes_37 : decode b_M_makes 37 = .ok (.iconst (-1), 1) := by decide +kernel
theorem d_M_makes_38 : decode b_M_makes 38 = .ok (.if_icmp .eq 5, 3) := by decide +kernel
theorem d_M_makes_41 : decode b_M_makes 41 = .ok (.iconst 0, 1) := by decide +kernel
theorem d_M_makes_42 : decode b_M_makes 42 = .ok (.ireturn, 1) := by decide +kernel
theorem d_M_makes_43 : decode b_M_makes 43 = .ok (.aload_n 0, 1) := by decide +kernel
theorem d_M_makes_44 : decode b_M_makes 44 = .ok (.getfield 24, 3) := by decide +kernel
theorem d_M_makes_47 : decode b_M_makes 47 = .ok (.iload_n 1, 1) := by decide +kernel
theorem d_M_makes_48 : decode b_M_makes 48 = .ok (.iload_n 2, 1) := by decide +kernel
theorem d_M_makes_49 : decode b_M_makes 49 = .ok (.iastore, 1) := by decide +kernel
theorem d_M_makes_50 : decode b_M_makes 50 = .ok (.aload_n 0, 1) := by decide +kernel
theorem d_M_makes_51 : decode b_M_makes 51 = .ok (.getfield 17, 3) := by decide +kernel
theorem d_M_makes_54 : decode b_M_makes 54 = .ok (.iload_n 2, 1) := by decide +kernel
theorem d_M_makes_55 : decode b_M_makes 55 = .ok (.iload_n 1, 1) := by decide +kernel
theorem d_M_makes_56 : decode b_M_makes 56 = .ok (.iastore, 1) := by decide +kernel
theorem d_M_makes_57 : decode b_M_makes 57 = .ok (.aload_n 0, 1) := by decide +kernel
theorem d_M_makes_58 : decode b_M_makes 58 = .ok (.getfield 7, 3) := by decide +kernel
theorem d_M_makes_61 : decode b_M_makes 61 = .ok (.iload_n 2, 1) := by decide +kernel
theorem d_M_makes_62 : decode b_M_makes 62 = .ok (.iconst 0, 1) := by decide +kernel
theorem d_M_makes_63 : decode b_M_makes 63 = .ok (.bastore, 1) := by decide +kernel
theorem d_M_makes_64 : decode b_M_makes 64 = .ok (.aload_n 0, 1) := by decide +kernel
theorem d_M_makes_65 : decode b_M_makes 65 = .ok (.getfield 13, 3) := by decide +kernel
theorem d_M_makes_68 : decode b_M_makes 68 = .ok (.iload_n 2, 1) := by decide +kernel
theorem d_M_makes_69 : decode b_M_makes 69 = .ok (.lconst 0, 1) := by decide +kernel
theorem d_M_makes_70 : decode b_M_makes 70 = .ok (.lastore, 1) := by decide +kernel
theorem d_M_makes_71 : decode b_M_makes 71 = .ok (.aload_n 0, 1) := by decide +kernel
theorem d_M_makes_72 : decode b_M_makes 72 = .ok (.iload_n 1, 1) := by decide +kernel
theorem d_M_makes_73 : decode b_M_makes 73 = .ok (.invokevirtual 110, 3) := by decide +kernel
theorem d_M_makes_76 : decode b_M_makes 76 = .ok (.iconst 1, 1) := by decide +kernel
theorem d_M_makes_77 : decode b_M_makes 77 = .ok (.ireturn, 1) := by decide +kernel
theorem d_M_isAction_0 : decode b_M_isAction 0 = .ok (.iload_n 1, 1) := by decide +kernel
theorem d_M_isAction_1 : decode b_M_isAction 1 = .ok (.ifCond .lt 15, 3) := by decide +kernel
theorem d_M_isAction_4 : decode b_M_isAction 4 = .ok (.iload_n 1, 1) := by decide +kernel
theorem d_M_isAction_5 : decode b_M_isAction 5 = .ok (.aload_n 0, 1) := by decide +kernel
theorem d_M_isAction_6 : decode b_M_isAction 6 = .ok (.getfield 100, 3) := by decide +kernel
theorem d_M_isAction_9 : decode b_M_isAction 9 = .ok (.if_icmp .ge 7, 3) := by decide +kernel
theorem d_M_isAction_12 : decode b_M_isAction 12 = .ok (.iconst 1, 1) := by decide +kernel
theorem d_M_isAction_13 : decode b_M_isAction 13 = .ok (.goto 4, 3) := by decide +kernel
theorem d_M_isAction_16 : decode b_M_isAction 16 = .ok (.iconst 0, 1) := by decide +kernel
theorem d_M_isAction_17 : decode b_M_isAction 17 = .ok (.ireturn, 1) := by decide +kernel
theorem d_M_forget_0 : decode b_M_forget 0 = .ok (.aload_n 0, 1) := by decide +kernel
theorem d_M_forget_1 : decode b_M_forget 1 = .ok (.getfield 36, 3) := by decide +kernel
theorem d_M_forget_4 : decode b_M_forget 4 = .ok (.iload_n 1, 1) := by decide +kernel
theorem d_M_forget_5 : decode b_M_forget 5 = .ok (.iconst 2, 1) := by decide +kernel
theorem d_M_forget_6 : decode b_M_forget 6 = .ok (.iastore, 1) := by decide +kernel
theorem d_M_forget_7 : decode b_M_forget 7 = .ok (.aload_n 0, 1) := by decide +kernel
theorem d_M_forget_8 : decode b_M_forget 8 = .ok (.getfield 39, 3) := by decide +kernel
theorem d_M_forget_11 : decode b_M_forget 11 = .ok (.iload_n 1, 1) := by decide +kernel
theorem d_M_forget_12 : decode b_M_forget 12 = .ok (.iconst 0, 1) := by decide +kernel
theorem d_M_forget_13 : decode b_M_forget 13 = .ok (.iastore, 1) := by decide +kernel
theorem d_M_forget_14 : decode b_M_forget 14 = .ok (.return_, 1) := by decide +kernel
theorem d_M_row_0 : decode b_M_row 0 = .ok (.aload_n 0, 1) := by decide +kernel
theorem d_M_row_1 : decode b_M_row 1 = .ok (.iconst 0, 1) := by decide +kernel
theorem d_M_row_2 : decode b_M_row 2 = .ok (.putfield 94, 3) := by decide +kernel
theorem d_M_row_5 : decode b_M_row 5 = .ok (.iload_n 2, 1) := by decide +kernel
theorem d_M_row_6 : decode b_M_row 6 = .ok (.iconst 2, 1) := by decide +kernel
theorem d_M_row_7 : decode b_M_row 7 = .ok (.if_icmp .ne 22, 3) := by decide +kernel
theorem d_M_row_10 : decode b_M_row 10 = .ok (.iload_n 3, 1) := by decide +kernel
theorem d_M_row_11 : decode b_M_row 11 = .ok (.iconst 1, 1) := by decide +kernel
theorem d_M_row_12 : decode b_M_row 12 = .ok (.if_icmp .lt 13, 3) := by decide +kernel
theorem d_M_row_15 : decode b_M_row 15 = .ok (.iload_n 3, 1) := by decide +kernel
theorem d_M_row_16 : decode b_M_row 16 = .ok (.bipush 8, 2) := by decide +kernel
theorem d_M_row_18 : decode b_M_row 18 = .ok (.if_icmp .gt 7, 3) := by decide +kernel
theorem d_M_row_21 : decode b_M_row 21 = .ok (.iconst 1, 1) := by decide +kernel
theorem d_M_row_22 : decode b_M_row 22 = .ok (.goto 29, 3) := by decide +kernel
theorem d_M_row_25 : decode b_M_row 25 = .ok (.iconst 0, 1) := by decide +kernel
theorem d_M_row_26 : decode b_M_row 26 = .ok (.goto 25, 3) := by decide +kernel
theorem d_M_row_29 : decode b_M_row 29 = .ok (.iload_n 2, 1) := by decide +kernel
theorem d_M_row_30 : decode b_M_row 30 = .ok (.ifCond .eq 8, 3) := by decide +kernel
theorem d_M_row_33 : decode b_M_row 33 = .ok (.iload_n 2, 1) := by decide +kernel
theorem d_M_row_34 : decode b_M_row 34 = .ok (.iconst 1, 1) := by decide +kernel
theorem d_M_row_35 : decode b_M_row 35 = .ok (.if_icmp .ne 15, 3) := by decide +kernel
theorem d_M_row_38 : decode b_M_row 38 = .ok (.aload_n 0, 1) := by decide +kernel
theorem d_M_row_39 : decode b_M_row 39 = .ok (.iload_n 3, 1) := by decide +kernel
theorem d_M_row_40 : decode b_M_row 40 = .ok (.invokevirtual 103, 3) := by decide +kernel
theorem d_M_row_43 : decode b_M_row 43 = .ok (.ifCond .eq 7, 3) := by decide +kernel
theorem d_M_row_46 : decode b_M_row 46 = .ok (.iconst 1, 1) := by decide +kernel
theorem d_M_row_47 : decode b_M_row 47 = .ok (.goto 4, 3) := by decide +kernel
theorem d_M_row_50 : decode b_M_row 50 = .ok (.iconst 0, 1) := by decide +kernel
theorem d_M_row_51 : decode b_M_row 51 = .ok (.istore 4, 2) := by decide +kernel
theorem d_M_row_53 : decode b_M_row 53 = .ok (.aload_n 0, 1) := by decide +kernel
theorem d_M_row_54 : decode b_M_row 54 = .ok (.iload_n 1, 1) := by decide +kernel
theorem d_M_row_55 : decode b_M_row 55 = .ok (.invokevirtual 107, 3) := by decide +kernel
theorem d_M_row_58 : decode b_M_row 58 = .ok (.ifCond .eq 19, 3) := by decide +kernel
theorem d_M_row_61 : decode b_M_row 61 = .ok (.iload 4, 2) := by decide +kernel
theorem d_M_row_63 : decode b_M_row 63 = .ok (.ifCond .eq 14, 3) := by decide +kernel
theorem d_M_row_66 : decode b_M_row 66 = .ok (.aload_n 0, 1) := by decide +kernel
theorem d_M_row_67 : decode b_M_row 67 = .ok (.getfield 27, 3) := by decide +kernel
theorem d_M_row_70 : decode b_M_row 70 = .ok (.iload_n 1, 1) := by decide +kernel
theorem d_M_row_71 : decode b_M_row 71 = .ok (.iaload, 1) := by decide +kernel
theorem d_M_row_72 : decode b_M_row 72 = .ok (.bipush 12, 2) := by decide +kernel
theorem d_M_row_74 : decode b_M_row 74 = .ok (.if_icmp .ne 5, 3) := by decide +kernel
theorem d_M_row_77 : decode b_M_row 77 = .ok (.iconst 0, 1) := by decide +kernel
theorem d_M_row_78 : decode b_M_row 78 = .ok (.ireturn, 1) := by decide +kernel
theorem d_M_row_79 : decode b_M_row 79 = .ok (.aload_n 0, 1) := by decide +kernel
theorem d_M_row_80 : decode b_M_row 80 = .ok (.getfield 30, 3) := by decide +kernel
theorem d_M_row_83 : decode b_M_row 83 = .ok (.bipush 12, 2) := by decide +kernel
theorem d_M_row_85 : decode b_M_row 85 = .ok (.iload_n 1, 1) := by decide +kernel
theorem d_M_row_86 : decode b_M_row 86 = .ok (.imul, 1) := by decide +kernel
theorem d_M_row_87 : decode b_M_row 87 = .ok (.aload_n 0, 1) := by decide +kernel
theorem d_M_row_88 : decode b_M_row 88 = .ok (.getfield 27, 3) := by decide +kernel
theorem d_M_row_91 : decode b_M_row 91 = .ok (.iload_n 1, 1) := by decide +kernel
theorem d_M_row_92 : decode b_M_row 92 = .ok (.iaload, 1) := by decide +kernel
theorem d_M_row_93 : decode b_M_row 93 = .ok (.iadd, 1) := by decide +kernel
theorem d_M_row_94 : decode b_M_row 94 = .ok (.iload_n 2, 1) := by decide +kernel
theorem d_M_row_95 : decode b_M_row 95 = .ok (.iastore, 1) := by decide +kernel
theorem d_M_row_96 : decode b_M_row 96 = .ok (.aload_n 0, 1) := by decide +kernel
theorem d_M_row_97 : decode b_M_row 97 = .ok (.getfield 33, 3) := by decide +kernel
theorem d_M_row_100 : decode b_M_row 100 = .ok (.bipush 12, 2) := by decide +kernel
theorem d_M_row_102 : decode b_M_row 102 = .ok (.iload_n 1, 1) := by decide +kernel
theorem d_M_row_103 : decode b_M_row 103 = .ok (.imul, 1) := by decide +kernel
theorem d_M_row_104 : decode b_M_row 104 = .ok (.aload_n 0, 1) := by decide +kernel
theorem d_M_row_105 : decode b_M_row 105 = .ok (.getfield 27, 3) := by decide +kernel
theorem d_M_row_108 : decode b_M_row 108 = .ok (.iload_n 1, 1) := by decide +kernel
theorem d_M_row_109 : decode b_M_row 109 = .ok (.iaload, 1) := by decide +kernel
theorem d_M_row_110 : decode b_M_row 110 = .ok (.iadd, 1) := by decide +kernel
theorem d_M_row_111 : decode b_M_row 111 = .ok (.iload_n 3, 1) := by decide +kernel
theorem d_M_row_112 : decode b_M_row 112 = .ok (.iastore, 1) := by decide +kernel
theorem d_M_row_113 : decode b_M_row 113 = .ok (.aload_n 0, 1) := by decide +kernel
theorem d_M_row_114 : decode b_M_row 114 = .ok (.getfield 27, 3) := by decide +kernel
theorem d_M_row_117 : decode b_M_row 117 = .ok (.iload_n 1, 1) := by decide +kernel
theorem d_M_row_118 : decode b_M_row 118 = .ok (.dup2, 1) := by decide +kernel
theorem d_M_row_119 : decode b_M_row 119 = .ok (.iaload, 1) := by decide +kernel
theorem d_M_row_120 : decode b_M_row 120 = .ok (.iconst 1, 1) := by decide +kernel
theorem d_M_row_121 : decode b_M_row 121 = .ok (.iadd, 1) := by decide +kernel
theorem d_M_row_122 : decode b_M_row 122 = .ok (.iastore, 1) := by decide +kernel
theorem d_M_row_123 : decode b_M_row 123 = .ok (.aload_n 0, 1) := by decide +kernel
theorem d_M_row_124 : decode b_M_row 124 = .ok (.iload_n 1, 1) := by decide +kernel
theorem d_M_row_125 : decode b_M_row 125 = .ok (.invokevirtual 110, 3) := by decide +kernel
theorem d_M_row_128 : decode b_M_row 128 = .ok (.iconst 1, 1) := by decide +kernel
theorem d_M_row_129 : decode b_M_row 129 = .ok (.ireturn, 1) := by decide +kernel
theorem d_M_run_0 : decode b_M_run 0 = .ok (.aload_n 0, 1) := by decide +kernel
theorem d_M_run_1 : decode b_M_run 1 = .ok (.iconst 0, 1) := by decide +kernel
theorem d_M_run_2 : decode b_M_run 2 = .ok (.putfield 94, 3) := by decide +kernel
theorem d_M_run_5 : decode b_M_run 5 = .ok (.aload_n 0, 1) := by decide +kernel
theorem d_M_run_6 : decode b_M_run 6 = .ok (.iload_n 1, 1) := by decide +kernel
theorem d_M_run_7 : decode b_M_run 7 = .ok (.invokevirtual 107, 3) := by decide +kernel
theorem d_M_run_10 : decode b_M_run 10 = .ok (.ifCond .eq 11, 3) := by decide +kernel
theorem d_M_run_13 : decode b_M_run 13 = .ok (.aload_n 0, 1) := by decide +kernel
theorem d_M_run_14 : decode b_M_run 14 = .ok (.iload_n 1, 1) := by decide +kernel
theorem d_M_run_15 : decode b_M_run 15 = .ok (.invokevirtual 148, 3) := by decide +kernel
theorem d_M_run_18 : decode b_M_run 18 = .ok (.goto 5, 3) := by decide +kernel
theorem d_M_run_21 : decode b_M_run 21 = .ok (.bipush (-9), 2) := by decide +kernel
theorem d_M_run_23 : decode b_M_run 23 = .ok (.ireturn, 1) := by decide +kernel
theorem d_M_runOne_0 : decode b_M_runOne 0 = .ok (.aload_n 0, 1) := by decide +kernel
theorem d_M_runOne_1 : decode b_M_runOne 1 = .ok (.getfield 54, 3) := by decide +kernel
theorem d_M_runOne_4 : decode b_M_runOne 4 = .ok (.iload_n 1, 1) := by decide +kernel
theorem d_M_runOne_5 : decode b_M_runOne 5 = .ok (.iconst (-1), 1) := by decide +kernel
theorem d_M_runOne_6 : decode b_M_runOne 6 = .ok (.iastore, 1) := by decide +kernel
theorem d_M_runOne_7 : decode b_M_runOne 7 = .ok (.aload_n 0, 1) := by decide +kernel
theorem d_M_runOne_8 : decode b_M_runOne 8 = .ok (.iload_n 1, 1) := by decide +kernel
theorem d_M_runOne_9 : decode b_M_runOne 9 = .ok (.invokevirtual 141, 3) := by decide +kernel
theorem d_M_runOne_12 : decode b_M_runOne 12 = .ok (.ifCond .eq 20, 3) := by decide +kernel
theorem d_M_runOne_15 : decode b_M_runOne 15 = .ok (.aload_n 0, 1) := by decide +kernel
theorem d_M_runOne_16 : decode b_M_runOne 16 = .ok (.getfield 45, 3) := by decide +kernel
theorem d_M_runOne_19 : decode b_M_runOne 19 = .ok (.iload_n 1, 1) := by decide +kernel
theorem d_M_runOne_20 : decode b_M_runOne 20 = .ok (.dup2, 1) := by decide +kernel
theorem d_M_runOne_21 : decode b_M_runOne 21 = .ok (.iaload, 1) := by decide +kernel
theorem d_M_runOne_22 : decode b_M_runOne 22 = .ok (.iconst 1, 1) := by decide +kernel
theorem d_M_runOne_23 : decode b_M_runOne 23 = .ok (.iadd, 1) := by decide +kernel
theorem d_M_runOne_24 : decode b_M_runOne 24 = .ok (.iastore, 1) := by decide +kernel
theorem d_M_runOne_25 : decode b_M_runOne 25 = .ok (.aload_n 0, 1) := by decide +kernel
theorem d_M_runOne_26 : decode b_M_runOne 26 = .ok (.getfield 36, 3) := by decide +kernel
theorem d_M_runOne_29 : decode b_M_runOne 29 = .ok (.iload_n 1, 1) := by decide +kernel
theorem d_M_runOne_30 : decode b_M_runOne 30 = .ok (.iaload, 1) := by decide +kernel
theorem d_M_runOne_31 : decode b_M_runOne 31 = .ok (.ireturn, 1) := by decide +kernel
theorem d_M_runOne_32 : decode b_M_runOne 32 = .ok (.aload_n 0, 1) := by decide +kernel
theorem d_M_runOne_33 : decode b_M_runOne 33 = .ok (.getfield 51, 3) := by decide +kernel
theorem d_M_runOne_36 : decode b_M_runOne 36 = .ok (.iload_n 1, 1) := by decide +kernel
theorem d_M_runOne_37 : decode b_M_runOne 37 = .ok (.iaload, 1) := by decide +kernel
theorem d_M_runOne_38 : decode b_M_runOne 38 = .ok (.aload_n 0, 1) := by decide +kernel
theorem d_M_runOne_39 : decode b_M_runOne 39 = .ok (.getfield 90, 3) := by decide +kernel
theorem d_M_runOne_42 : decode b_M_runOne 42 = .ok (.if_icmp .ne 18, 3) := by decide +kernel
theorem d_M_runOne_45 : decode b_M_runOne 45 = .ok (.aload_n 0, 1) := by decide +kernel
theorem d_M_runOne_46 : decode b_M_runOne 46 = .ok (.getfield 51, 3) := by decide +kernel
theorem d_M_runOne_49 : decode b_M_runOne 49 = .ok (.iload_n 1, 1) := by decide +kernel
theorem d_M_runOne_50 : decode b_M_runOne 50 = .ok (.iconst 0, 1) := by decide +kernel
theorem d_M_runOne_51 : decode b_M_runOne 51 = .ok (.iastore, 1) := by decide +kernel
theorem d_M_runOne_52 : decode b_M_runOne 52 = .ok (.aload_n 0, 1) := by decide +kernel
theorem d_M_runOne_53 : decode b_M_runOne 53 = .ok (.iload_n 1, 1) := by decide +kernel
theorem d_M_runOne_54 : decode b_M_runOne 54 = .ok (.invokevirtual 110, 3) := by decide +kernel
theorem d_M_runOne_57 : decode b_M_runOne 57 = .ok (.bipush (-2), 2) := by decide +kernel
theorem d_M_runOne_59 : decode b_M_runOne 59 = .ok (.ireturn, 1) := by decide +kernel
theorem d_M_runOne_60 : decode b_M_runOne 60 = .ok (.aload_n 0, 1) := by decide +kernel
theorem d_M_runOne_61 : decode b_M_runOne 61 = .ok (.getfield 51, 3) := by decide +kernel
theorem d_M_runOne_64 : decode b_M_runOne 64 = .ok (.iload_n 1, 1) := by decide +kernel
theorem d_M_runOne_65 : decode b_M_runOne 65 = .ok (.dup2, 1) := by decide +kernel
theorem d_M_runOne_66 : decode b_M_runOne 66 = .ok (.iaload, 1) := by decide +kernel
theorem d_M_runOne_67 : decode b_M_runOne 67 = .ok (.iconst 1, 1) := by decide +kernel
theorem d_M_runOne_68 : decode b_M_runOne 68 = .ok (.iadd, 1) := by decide +kernel
theorem d_M_runOne_69 : decode b_M_runOne 69 = .ok (.iastore, 1) := by decide +kernel
theorem d_M_runOne_70 : decode b_M_runOne 70 = .ok (.aload_n 0, 1) := by decide +kernel
theorem d_M_runOne_71 : decode b_M_runOne 71 = .ok (.getfield 48, 3) := by decide +kernel
theorem d_M_runOne_74 : decode b_M_runOne 74 = .ok (.iload_n 1, 1) := by decide +kernel
theorem d_M_runOne_75 : decode b_M_runOne 75 = .ok (.dup2, 1) := by decide +kernel
theorem d_M_runOne_76 : decode b_M_runOne 76 = .ok (.iaload, 1) := by decide +kernel
theorem d_M_runOne_77 : decode b_M_runOne 77 = .ok (.iconst 1, 1) := by decide +kernel
theorem d_M_runOne_78 : decode b_M_runOne 78 = .ok (.iadd, 1) := by decide +kernel
theorem d_M_runOne_79 : decode b_M_runOne 79 = .ok (.iastore, 1) := by decide +kernel
theorem d_M_runOne_80 : decode b_M_runOne 80 = .ok (.aload_n 0, 1) := by decide +kernel
theorem d_M_runOne_81 : decode b_M_runOne 81 = .ok (.iload_n 1, 1) := by decide +kernel
theorem d_M_runOne_82 : decode b_M_runOne 82 = .ok (.invokevirtual 144, 3) := by decide +kernel
theorem d_M_runOne_85 : decode b_M_runOne 85 = .ok (.istore_n 2, 1) := by decide +kernel
theorem d_M_runOne_86 : decode b_M_runOne 86 = .ok (.iload_n 2, 1) := by decide +kernel
theorem d_M_runOne_87 : decode b_M_runOne 87 = .ok (.ifCond .eq 10, 3) := by decide +kernel
theorem d_M_runOne_90 : decode b_M_runOne 90 = .ok (.aload_n 0, 1) := by decide +kernel
theorem d_M_runOne_91 : decode b_M_runOne 91 = .ok (.getfield 51, 3) := by decide +kernel
theorem d_M_runOne_94 : decode b_M_runOne 94 = .ok (.iload_n 1, 1) := by decide +kernel
theorem d_M_runOne_95 : decode b_M_runOne 95 = .ok (.iconst 0, 1) := by decide +kernel
theorem d_M_runOne_96 : decode b_M_runOne 96 = .ok (.iastore, 1) := by decide +kernel
theorem d_M_runOne_97 : decode b_M_runOne 97 = .ok (.iload_n 2, 1) := by decide +kernel
theorem d_M_runOne_98 : decode b_M_runOne 98 = .ok (.iconst 1, 1) := by decide +kernel
theorem d_M_runOne_99 : decode b_M_runOne 99 = .ok (.if_icmp .eq 16, 3) := by decide +kernel
theorem d_M_runOne_102 : decode b_M_runOne 102 = .ok (.iload_n 2, 1) := by decide +kernel
theorem d_M_runOne_103 : decode b_M_runOne 103 = .ok (.bipush (-3), 2) := by decide +kernel
theorem d_M_runOne_105 : decode b_M_runOne 105 = .ok (.if_icmp .eq 10, 3) := by decide +kernel
theorem d_M_runOne_108 : decode b_M_runOne 108 = .ok (.aload_n 0, 1) := by decide +kernel
theorem d_M_runOne_109 : decode b_M_runOne 109 = .ok (.iload_n 1, 1) := by decide +kernel
theorem d_M_runOne_110 : decode b_M_runOne 110 = .ok (.invokevirtual 110, 3) := by decide +kernel
theorem d_M_runOne_113 : decode b_M_runOne 113 = .ok (.iload_n 2, 1) := by decide +kernel
theorem d_M_runOne_114 : decode b_M_runOne 114 = .ok (.ireturn, 1) := by decide +kernel
theorem d_M_runOne_115 : decode b_M_runOne 115 = .ok (.aload_n 0, 1) := by decide +kernel
theorem d_M_runOne_116 : decode b_M_runOne 116 = .ok (.getfield 36, 3) := by decide +kernel
theorem d_M_runOne_119 : decode b_M_runOne 119 = .ok (.iload_n 1, 1) := by decide +kernel
theorem d_M_runOne_120 : decode b_M_runOne 120 = .ok (.iload_n 2, 1) := by decide +kernel
theorem d_M_runOne_121 : decode b_M_runOne 121 = .ok (.iastore, 1) := by decide +kernel
theorem d_M_runOne_122 : decode b_M_runOne 122 = .ok (.aload_n 0, 1) := by decide +kernel
theorem d_M_runOne_123 : decode b_M_runOne 123 = .ok (.getfield 24, 3) := by decide +kernel
theorem d_M_runOne_126 : decode b_M_runOne 126 = .ok (.iload_n 1, 1) := by decide +kernel
theorem d_M_runOne_127 : decode b_M_runOne 127 = .ok (.iaload, 1) := by decide +kernel
theorem d_M_runOne_128 : decode b_M_runOne 128 = .ok (.istore_n 3, 1) := by decide +kernel
theorem d_M_runOne_129 : decode b_M_runOne 129 = .ok (.iload_n 3, 1) := by decide +kernel
theorem d_M_runOne_130 : decode b_M_runOne 130 = .ok (.iconst (-1), 1) := by decide +kernel
theorem d_M_runOne_131 : decode b_M_runOne 131 = .ok (.if_icmp .eq 38, 3) := by decide +kernel
theorem d_M_runOne_134 : decode b_M_runOne 134 = .ok (.aload_n 0, 1) := by decide +kernel
theorem d_M_runOne_135 : decode b_M_runOne 135 = .ok (.getfield 7, 3) := by decide +kernel
theorem d_M_runOne_138 : decode b_M_runOne 138 = .ok (.iload_n 3, 1) := by decide +kernel
theorem d_M_runOne_139 : decode b_M_runOne 139 = .ok (.iload_n 2, 1) := by decide +kernel
theorem d_M_runOne_140 : decode b_M_runOne 140 = .ok (.iconst 1, 1) := by decide +kernel
theorem d_M_runOne_141 : decode b_M_runOne 141 = .ok (.if_icmp .ne 7, 3) := by decide +kernel
theorem d_M_runOne_144 : decode b_M_runOne 144 = .ok (.iconst 1, 1) := by decide +kernel
theorem d_M_runOne_145 : decode b_M_runOne 145 = .ok (.goto 4, 3) := by decide +kernel
theorem d_M_runOne_148 : decode b_M_runOne 148 = .ok (.iconst 0, 1) := by decide +kernel
theorem d_M_runOne_149 : decode b_M_runOne 149 = .ok (.bastore, 1) := by decide +kernel
theorem d_M_runOne_150 : decode b_M_runOne 150 = .ok (.aload_n 0, 1) := by decide +kernel
theorem d_M_runOne_151 : decode b_M_runOne 151 = .ok (.getfield 13, 3) := by decide +kernel
theorem d_M_runOne_154 : decode b_M_runOne 154 = .ok (.iload_n 3, 1) := by decide +kernel
theorem d_M_runOne_155 : decode b_M_runOne 155 = .ok (.iload_n 2, 1) := by decide +kernel
theorem d_M_runOne_156 : decode b_M_runOne 156 = .ok (.iconst 1, 1) := by decide +kernel
theorem d_M_runOne_157 : decode b_M_runOne 157 = .ok (.if_icmp .ne 10, 3) := by decide +kernel
theorem d_M_runOne_160 : decode b_M_runOne 160 = .ok (.aload_n 0, 1) := by decide +kernel
theorem d_M_runOne_161 : decode b_M_runOne 161 = .ok (.getfield 130, 3) := by decide +kernel
theorem d_M_runOne_164 : decode b_M_runOne 164 = .ok (.goto 4, 3) := by decide +kernel
theorem d_M_runOne_167 : decode b_M_runOne 167 = .ok (.lconst 0, 1) := by decide +kernel
theorem d_M_runOne_168 : decode b_M_runOne 168 = .ok (.lastore, 1) := by decide +kernel
theorem d_M_runOne_169 : decode b_M_runOne 169 = .ok (.iload_n 2, 1) := by decide +kernel
theorem d_M_runOne_170 : decode b_M_runOne 170 = .ok (.ireturn, 1) := by decide +kernel
theorem d_M_isFreshNow_0 : decode b_M_isFreshNow 0 = .ok (.aload_n 0, 1) := by decide +kernel
theorem d_M_isFreshNow_1 : decode b_M_isFreshNow 1 = .ok (.invokevirtual 117, 3) := by decide +kernel
theorem d_M_isFreshNow_4 : decode b_M_isFreshNow 4 = .ok (.aload_n 0, 1) := by decide +kernel
theorem d_M_isFreshNow_5 : decode b_M_isFreshNow 5 = .ok (.getfield 63, 3) := by decide +kernel
theorem d_M_isFreshNow_8 : decode b_M_isFreshNow 8 = .ok (.iload_n 1, 1) := by decide +kernel
theorem d_M_isFreshNow_9 : decode b_M_isFreshNow 9 = .ok (.baload, 1) := by decide +kernel
theorem d_M_isFreshNow_10 : decode b_M_isFreshNow 10 = .ok (.ireturn, 1) := by decide +kernel
theorem d_M_freshen_0 : decode b_M_freshen 0 = .ok (.iconst 0, 1) := by decide +kernel
theorem d_M_freshen_1 : decode b_M_freshen 1 = .ok (.istore_n 1, 1) := by decide +kernel
theorem d_M_freshen_2 : decode b_M_freshen 2 = .ok (.iload_n 1, 1) := by decide +kernel
theorem d_M_freshen_3 : decode b_M_freshen 3 = .ok (.bipush 12, 2) := by decide +kernel
theorem d_M_freshen_5 : decode b_M_freshen 5 = .ok (.if_icmp .ge 16, 3) := by decide +kernel
theorem d_M_freshen_8 : decode b_M_freshen 8 = .ok (.aload_n 0, 1) := by decide +kernel
theorem d_M_freshen_9 : decode b_M_freshen 9 = .ok (.getfield 63, 3) := by decide +kernel
theorem d_M_freshen_12 : decode b_M_freshen 12 = .ok (.iload_n 1, 1) := by decide +kernel
theorem d_M_freshen_13 : decode b_M_freshen 13 = .ok (.iconst 0, 1) := by decide +kernel
theorem d_M_freshen_14 : decode b_M_freshen 14 = .ok (.bastore, 1) := by decide +kernel
theorem d_M_freshen_15 : decode b_M_freshen 15 = .ok (.iinc 1 1, 3) := by decide +kernel
theorem d_M_freshen_18 : decode b_M_freshen 18 = .ok (.goto (-16), 3) := by decide +kernel
theorem d_M_freshen_21 : decode b_M_freshen 21 = .ok (.iconst 1, 1) := by decide +kernel
theorem d_M_freshen_22 : decode b_M_freshen 22 = .ok (.istore_n 1, 1) := by decide +kernel
theorem d_M_freshen_23 : decode b_M_freshen 23 = .ok (.iload_n 1, 1) := by decide +kernel
theorem d_M_freshen_24 : decode b_M_freshen 24 = .ok (.ifCond .eq 53, 3) := by decide +kernel
theorem d_M_freshen_27 : decode b_M_freshen 27 = .ok (.iconst 0, 1) := by decide +kernel
theorem d_M_freshen_28 : decode b_M_freshen 28 = .ok (.istore_n 1, 1) := by decide +kernel
theorem d_M_freshen_29 : decode b_M_freshen 29 = .ok (.iconst 0, 1) := by decide +kernel
theorem d_M_freshen_30 : decode b_M_freshen 30 = .ok (.istore_n 2, 1) := by decide +kernel
theorem d_M_freshen_31 : decode b_M_freshen 31 = .ok (.iload_n 2, 1) := by decide +kernel
theorem d_M_freshen_32 : decode b_M_freshen 32 = .ok (.aload_n 0, 1) := by decide +kernel
theorem d_M_freshen_33 : decode b_M_freshen 33 = .ok (.getfield 100, 3) := by decide +kernel
theorem d_M_freshen_36 : decode b_M_freshen 36 = .ok (.if_icmp .ge 38, 3) := by decide +kernel
theorem d_M_freshen_39 : decode b_M_freshen 39 = .ok (.aload_n 0, 1) := by decide +kernel
theorem d_M_freshen_40 : decode b_M_freshen 40 = .ok (.getfield 63, 3) := by decide +kernel
theorem d_M_freshen_43 : decode b_M_freshen 43 = .ok (.iload_n 2, 1) := by decide +kernel
theorem d_M_freshen_44 : decode b_M_freshen 44 = .ok (.baload, 1) := by decide +kernel
theorem d_M_freshen_45 : decode b_M_freshen 45 = .ok (.ifCond .ne 23, 3) := by decide +kernel
theorem d_M_freshen_48 : decode b_M_freshen 48 = .ok (.aload_n 0, 1) := by decide +kernel
theorem d_M_freshen_49 : decode b_M_freshen 49 = .ok (.iload_n 2, 1) := by decide +kernel
theorem d_M_freshen_50 : decode b_M_freshen 50 = .ok (.invokevirtual 114, 3) := by decide +kernel
theorem d_M_freshen_53 : decode b_M_freshen 53 = .ok (.ifCond .ne 6, 3) := by decide +kernel
theorem d_M_freshen_56 : decode b_M_freshen 56 = .ok (.goto 12, 3) := by decide +kernel
theorem d_M_freshen_59 : decode b_M_freshen 59 = .ok (.aload_n 0, 1) := by decide +kernel
theorem d_M_freshen_60 : decode b_M_freshen 60 = .ok (.getfield 63, 3) := by decide +kernel
theorem d_M_freshen_63 : decode b_M_freshen 63 = .ok (.iload_n 2, 1) := by decide +kernel
theorem d_M_freshen_64 : decode b_M_freshen 64 = .ok (.iconst 1, 1) := by decide +kernel
theorem d_M_freshen_65 : decode b_M_freshen 65 = .ok (.bastore, 1) := by decide +kernel
theorem d_M_freshen_66 : decode b_M_freshen 66 = .ok (.iconst 1, 1) := by decide +kernel
theorem d_M_freshen_67 : decode b_M_freshen 67 = .ok (.istore_n 1, 1) := by decide +kernel
theorem d_M_freshen_68 : decode b_M_freshen 68 = .ok (.iinc 2 1, 3) := by decide +kernel
theorem d_M_freshen_71 : decode b_M_freshen 71 = .ok (.goto (-40), 3) := by decide +kernel
theorem d_M_freshen_74 : decode b_M_freshen 74 = .ok (.goto (-51), 3) := by decide +kernel
theorem d_M_freshen_77 : decode b_M_freshen 77 = .ok (.return_, 1) := by decide +kernel
theorem d_M_isSo_0 : decode b_M_isSo 0 = .ok (.aload_n 0, 1) := by decide +kernel
theorem d_M_isSo_1 : decode b_M_isSo 1 = .ok (.getfield 36, 3) := by decide +kernel
theorem d_M_isSo_4 : decode b_M_isSo 4 = .ok (.iload_n 1, 1) := by decide +kernel
theorem d_M_isSo_5 : decode b_M_isSo 5 = .ok (.iaload, 1) := by decide +kernel
theorem d_M_isSo_6 : decode b_M_isSo 6 = .ok (.iconst 2, 1) := by decide +kernel
theorem d_M_isSo_7 : decode b_M_isSo 7 = .ok (.if_icmp .eq 7, 3) := by decide +kernel
theorem d_M_isSo_10 : decode b_M_isSo 10 = .ok (.iconst 1, 1) := by decide +kernel
theorem d_M_isSo_11 : decode b_M_isSo 11 = .ok (.goto 4, 3) := by decide +kernel
theorem d_M_isSo_14 : decode b_M_isSo 14 = .ok (.iconst 0, 1) := by decide +kernel
theorem d_M_isSo_15 : decode b_M_isSo 15 = .ok (.istore_n 2, 1) := by decide +kernel
theorem d_M_isSo_16 : decode b_M_isSo 16 = .ok (.iconst 0, 1) := by decide +kernel
theorem d_M_isSo_17 : decode b_M_isSo 17 = .ok (.istore_n 3, 1) := by decide +kernel
theorem d_M_isSo_18 : decode b_M_isSo 18 = .ok (.iload_n 3, 1) := by decide +kernel
theorem d_M_isSo_19 : decode b_M_isSo 19 = .ok (.aload_n 0, 1) := by decide +kernel
theorem d_M_isSo_20 : decode b_M_isSo 20 = .ok (.getfield 39, 3) := by decide +kernel
theorem d_M_isSo_23 : decode b_M_isSo 23 = .ok (.iload_n 1, 1) := by decide +kernel
theorem d_M_isSo_24 : decode b_M_isSo 24 = .ok (.iaload, 1) := by decide +kernel
theorem d_M_isSo_25 : decode b_M_isSo 25 = .ok (.if_icmp .ge 117, 3) := by decide +kernel
theorem d_M_isSo_28 : decode b_M_isSo 28 = .ok (.iload_n 2, 1) := by decide +kernel
theorem d_M_isSo_29 : decode b_M_isSo 29 = .ok (.ifCond .eq 113, 3) := by decide +kernel
theorem d_M_isSo_32 : decode b_M_isSo 32 = .ok (.bipush 24, 2) := by decide +kernel
theorem d_M_isSo_34 : decode b_M_isSo 34 = .ok (.iload_n 1, 1) := by decide +kernel
theorem d_M_isSo_35 : decode b_M_isSo 35 = .ok (.imul, 1) := by decide +kernel
theorem d_M_isSo_36 : decode b_M_isSo 36 = .ok (.iload_n 3, 1) := by decide +kernel
theorem d_M_isSo_37 : decode b_M_isSo 37 = .ok (.iadd, 1) := by decide +kernel
theorem d_M_isSo_38 : decode b_M_isSo 38 = .ok (.istore 4, 2) := by decide +kernel
theorem d_M_isSo_40 : decode b_M_isSo 40 = .ok (.aload_n 0, 1) := by decide +kernel
theorem d_M_isSo_41 : decode b_M_isSo 41 = .ok (.getfield 42, 3) := by decide +kernel
theorem d_M_isSo_44 : decode b_M_isSo 44 = .ok (.iload 4, 2) := by decide +kernel
theorem d_M_isSo_46 : decode b_M_isSo 46 = .ok (.iaload, 1) := by decide +kernel
theorem d_M_isSo_47 : decode b_M_isSo 47 = .ok (.istore 5, 2) := by decide +kernel
theorem d_M_isSo_49 : decode b_M_isSo 49 = .ok (.aload_n 0, 1) := by decide +kernel
theorem d_M_isSo_50 : decode b_M_isSo 50 = .ok (.getfield 7, 3) := by decide +kernel
theorem d_M_isSo_53 : decode b_M_isSo 53 = .ok (.iload 5, 2) := by decide +kernel
theorem d_M_isSo_55 : decode b_M_isSo 55 = .ok (.baload, 1) := by decide +kernel
theorem d_M_isSo_56 : decode b_M_isSo 56 = .ok (.aload_n 0, 1) := by decide +kernel
theorem d_M_isSo_57 : decode b_M_isSo 57 = .ok (.getfield 57, 3) := by decide +kernel
theorem d_M_isSo_60 : decode b_M_isSo 60 = .ok (.iload 4, 2) := by decide +kernel
theorem d_M_isSo_62 : decode b_M_isSo 62 = .ok (.baload, 1) := by decide +kernel
theorem d_M_isSo_63 : decode b_M_isSo 63 = .ok (.if_icmp .ne 71, 3) := by decide +kernel
theorem d_M_isSo_66 : decode b_M_isSo 66 = .ok (.aload_n 0, 1) := by decide +kernel
theorem d_M_isSo_67 : decode b_M_isSo 67 = .ok (.getfield 60, 3) := by decide +kernel
theorem d_M_isSo_70 : decode b_M_isSo 70 = .ok (.iload 4, 2) := by decide +kernel
theorem d_M_isSo_72 : decode b_M_isSo 72 = .ok (.baload, 1) := by decide +kernel
theorem d_M_isSo_73 : decode b_M_isSo 73 = .ok (.ifCond .eq 31, 3) := by decide +kernel
theorem d_M_isSo_76 : decode b_M_isSo 76 = .ok (.aload_n 0, 1) := by decide +kernel
theorem d_M_isSo_77 : decode b_M_isSo 77 = .ok (.getfield 7, 3) := by decide +kernel
theorem d_M_isSo_80 : decode b_M_isSo 80 = .ok (.iload 5, 2) := by decide +kernel
theorem d_M_isSo_82 : decode b_M_isSo 82 = .ok (.baload, 1) := by decide +kernel
theorem d_M_isSo_83 : decode b_M_isSo 83 = .ok (.ifCond .eq 21, 3) := by decide +kernel
theorem d_M_isSo_86 : decode b_M_isSo 86 = .ok (.aload_n 0, 1) := by decide +kernel
theorem d_M_isSo_87 : decode b_M_isSo 87 = .ok (.getfield 13, 3) := by decide +kernel
theorem d_M_isSo_90 : decode b_M_isSo 90 = .ok (.iload 5, 2) := by decide +kernel
theorem d_M_isSo_92 : decode b_M_isSo 92 = .ok (.laload, 1) := by decide +kernel
theorem d_M_isSo_93 : decode b_M_isSo 93 = .ok (.aload_n 0, 1) := by decide +kernel
theorem d_M_isSo_94 : decode b_M_isSo 94 = .ok (.getfield 66, 3) := by decide +kernel
theorem d_M_isSo_97 : decode b_M_isSo 97 = .ok (.iload 4, 2) := by decide +kernel
theorem d_M_isSo_99 : decode b_M_isSo 99 = .ok (.laload, 1) := by decide +kernel
theorem d_M_isSo_100 : decode b_M_isSo 100 = .ok (.lcmp, 1) := by decide +kernel
theorem d_M_isSo_101 : decode b_M_isSo 101 = .ok (.ifCond .ne 33, 3) := by decide +kernel
theorem d_M_isSo_104 : decode b_M_isSo 104 = .ok (.aload_n 0, 1) := by decide +kernel
theorem d_M_isSo_105 : decode b_M_isSo 105 = .ok (.getfield 17, 3) := by decide +kernel
theorem d_M_isSo_108 : decode b_M_isSo 108 = .ok (.iload 5, 2) := by decide +kernel
theorem d_M_isSo_110 : decode b_M_isSo 110 = .ok (.iaload, 1) := by decide +kernel
theorem d_M_isSo_111 : decode b_M_isSo 111 = .ok (.iconst (-1), 1) := by decide +kernel
theorem d_M_isSo_112 : decode b_M_isSo 112 = .ok (.if_icmp .eq 18, 3) := by decide +kernel
theorem d_M_isSo_115 : decode b_M_isSo 115 = .ok (.aload_n 0, 1) := by decide +kernel
theorem d_M_isSo_116 : decode b_M_isSo 116 = .ok (.getfield 63, 3) := by decide +kernel
theorem d_M_isSo_119 : decode b_M_isSo 119 = .ok (.aload_n 0, 1) := by decide +kernel
theorem d_M_isSo_120 : decode b_M_isSo 120 = .ok (.getfield 17, 3) := by decide +kernel
theorem d_M_isSo_123 : decode b_M_isSo 123 = .ok (.iload 5, 2) := by decide +kernel
theorem d_M_isSo_125 : decode b_M_isSo 125 = .ok (.iaload, 1) := by decide +kernel
theorem d_M_isSo_126 : decode b_M_isSo 126 = .ok (.baload, 1) := by decide +kernel
theorem d_M_isSo_127 : decode b_M_isSo 127 = .ok (.ifCond .eq 7, 3) := by decide +kernel
theorem d_M_isSo_130 : decode b_M_isSo 130 = .ok (.iconst 1, 1) := by decide +kernel
theorem d_M_isSo_131 : decode b_M_isSo 131 = .ok (.goto 4, 3) := by decide +kernel
theorem d_M_isSo_134 : decode b_M_isSo 134 = .ok (.iconst 0, 1) := by decide +kernel
theorem d_M_isSo_135 : decode b_M_isSo 135 = .ok (.istore_n 2, 1) := by decide +kernel
theorem d_M_isSo_136 : decode b_M_isSo 136 = .ok (.iinc 3 1, 3) := by decide +kernel
theorem d_M_isSo_139 : decode b_M_isSo 139 = .ok (.goto (-121), 3) := by decide +kernel
theorem d_M_isSo_142 : decode b_M_isSo 142 = .ok (.iload_n 2, 1) := by decide +kernel
theorem d_M_isSo_143 : decode b_M_isSo 143 = .ok (.ireturn, 1) := by decide +kernel
theorem d_M_tryRows_0 : decode b_M_tryRows 0 = .ok (.aload_n 0, 1) := by decide +kernel
theorem d_M_tryRows_1 : decode b_M_tryRows 1 = .ok (.ldc2_w 135, 3) := by decide +kernel
theorem d_M_tryRows_4 : decode b_M_tryRows 4 = .ok (.putfield 130, 3) := by decide +kernel
theorem d_M_tryRows_7 : decode b_M_tryRows 7 = .ok (.aload_n 0, 1) := by decide +kernel
theorem d_M_tryRows_8 : decode b_M_tryRows 8 = .ok (.lconst 0, 1) := by decide +kernel
theorem d_M_tryRows_9 : decode b_M_tryRows 9 = .ok (.putfield 124, 3) := by decide +kernel
theorem d_M_tryRows_12 : decode b_M_tryRows 12 = .ok (.aload_n 0, 1) := by decide +kernel
theorem d_M_tryRows_13 : decode b_M_tryRows 13 = .ok (.getfield 39, 3) := by decide +kernel
theorem d_M_tryRows_16 : decode b_M_tryRows 16 = .ok (.iload_n 1, 1) := by decide +kernel
theorem d_M_tryRows_17 : decode b_M_tryRows 17 = .ok (.iconst 0, 1) := by decide +kernel
theorem d_M_tryRows_18 : decode b_M_tryRows 18 = .ok (.iastore, 1) := by decide +kernel
theorem d_M_tryRows_19 : decode b_M_tryRows 19 = .ok (.aload_n 0, 1) := by decide +kernel
theorem d_M_tryRows_20 : decode b_M_tryRows 20 = .ok (.getfield 36, 3) := by decide +kernel
theorem d_M_tryRows_23 : decode b_M_tryRows 23 = .ok (.iload_n 1, 1) := by decide +kernel
theorem d_M_tryRows_24 : decode b_M_tryRows 24 = .ok (.iconst 2, 1) := by decide +kernel
theorem d_M_tryRows_25 : decode b_M_tryRows 25 = .ok (.iastore, 1) := by decide +kernel
theorem d_M_tryRows_26 : decode b_M_tryRows 26 = .ok (.iconst 0, 1) := by decide +kernel
theorem d_M_tryRows_27 : decode b_M_tryRows 27 = .ok (.istore_n 2, 1) := by decide +kernel
theorem d_M_tryRows_28 : decode b_M_tryRows 28 = .ok (.iload_n 2, 1) := by decide +kernel
theorem d_M_tryRows_29 : decode b_M_tryRows 29 = .ok (.aload_n 0, 1) := by decide +kernel
theorem d_M_tryRows_30 : decode b_M_tryRows 30 = .ok (.getfield 27, 3) := by decide +kernel
theorem d_M_tryRows_33 : decode b_M_tryRows 33 = .ok (.iload_n 1, 1) := by decide +kernel
theorem d_M_tryRows_34 : decode b_M_tryRows 34 = .ok (.iaload, 1) := by decide +kernel
theorem d_M_tryRows_35 : decode b_M_tryRows 35 = .ok (.if_icmp .ge 81, 3) := by decide +kernel
theorem d_M_tryRows_38 : decode b_M_tryRows 38 = .ok (.aload_n 0, 1) := by decide +kernel
theorem d_M_tryRows_39 : decode b_M_tryRows 39 = .ok (.getfield 30, 3) := by decide +kernel
theorem d_M_tryRows_42 : decode b_M_tryRows 42 = .ok (.bipush 12, 2) := by decide +kernel
theorem d_M_tryRows_44 : decode b_M_tryRows 44 = .ok (.iload_n 1, 1) := by decide +kernel
theorem d_M_tryRows_45 : decode b_M_tryRows 45 = .ok (.imul, 1) := by decide +kernel
theorem d_M_tryRows_46 : decode b_M_tryRows 46 = .ok (.iload_n 2, 1) := by decide +kernel
theorem d_M_tryRows_47 : decode b_M_tryRows 47 = .ok (.iadd, 1) := by decide +kernel
theorem d_M_tryRows_48 : decode b_M_tryRows 48 = .ok (.iaload, 1) := by decide +kernel
theorem d_M_tryRows_49 : decode b_M_tryRows 49 = .ok (.istore_n 3, 1) := by decide +kernel
theorem d_M_tryRows_50 : decode b_M_tryRows 50 = .ok (.aload_n 0, 1) := by decide +kernel
theorem d_M_tryRows_51 : decode b_M_tryRows 51 = .ok (.getfield 33, 3) := by decide +kernel
theorem d_M_tryRows_54 : decode b_M_tryRows 54 = .ok (.bipush 12, 2) := by decide +kernel
theorem d_M_tryRows_56 : decode b_M_tryRows 56 = .ok (.iload_n 1, 1) := by decide +kernel
theorem d_M_tryRows_57 : decode b_M_tryRows 57 = .ok (.imul, 1) := by decide +kernel
theorem d_M_tryRows_58 : decode b_M_tryRows 58 = .ok (.iload_n 2, 1) := by decide +kernel
theorem d_M_tryRows_59 : decode b_M_tryRows 59 = .ok (.iadd, 1) := by decide +kernel
theorem d_M_tryRows_60 : decode b_M_tryRows 60 = .ok (.iaload, 1) := by decide +kernel
theorem d_M_tryRows_61 : decode b_M_tryRows 61 = .ok (.istore 4, 2) := by decide +kernel
theorem d_M_tryRows_63 : decode b_M_tryRows 63 = .ok (.iinc 2 1, 3) := by decide +kernel
theorem d_M_tryRows_66 : decode b_M_tryRows 66 = .ok (.iload_n 3, 1) := by decide +kernel
theorem d_M_tryRows_67 : decode b_M_tryRows 67 = .ok (.iconst 2, 1) := by decide +kernel
theorem d_M_tryRows_68 : decode b_M_tryRows 68 = .ok (.if_icmp .ne 26, 3) := by decide +kernel
theorem d_M_tryRows_71 : decode b_M_tryRows 71 = .ok (.iload_n 2, 1) := by decide +kernel
theorem d_M_tryRows_72 : decode b_M_tryRows 72 = .ok (.aload_n 0, 1) := by decide +kernel
theorem d_M_tryRows_73 : decode b_M_tryRows 73 = .ok (.getfield 124, 3) := by decide +kernel
theorem d_M_tryRows_76 : decode b_M_tryRows 76 = .ok (.lconst 1, 1) := by decide +kernel
theorem d_M_tryRows_77 : decode b_M_tryRows 77 = .ok (.land, 1) := by decide +kernel
theorem d_M_tryRows_78 : decode b_M_tryRows 78 = .ok (.lconst 1, 1) := by decide +kernel
theorem d_M_tryRows_79 : decode b_M_tryRows 79 = .ok (.lcmp, 1) := by decide +kernel
theorem d_M_tryRows_80 : decode b_M_tryRows 80 = .ok (.ifCond .ne 8, 3) := by decide +kernel
theorem d_M_tryRows_83 : decode b_M_tryRows 83 = .ok (.iload 4, 2) := by decide +kernel
theorem d_M_tryRows_85 : decode b_M_tryRows 85 = .ok (.goto 4, 3) := by decide +kernel
theorem d_M_tryRows_88 : decode b_M_tryRows 88 = .ok (.iconst 0, 1) := by decide +kernel
theorem d_M_tryRows_89 : decode b_M_tryRows 89 = .ok (.iadd, 1) := by decide +kernel
theorem d_M_tryRows_90 : decode b_M_tryRows 90 = .ok (.istore_n 2, 1) := by decide +kernel
theorem d_M_tryRows_91 : decode b_M_tryRows 91 = .ok (.goto (-63), 3) := by decide +kernel
theorem d_M_tryRows_94 : decode b_M_tryRows 94 = .ok (.aload_n 0, 1) := by decide +kernel
theorem d_M_tryRows_95 : decode b_M_tryRows 95 = .ok (.iload_n 1, 1) := by decide +kernel
theorem d_M_tryRows_96 : decode b_M_tryRows 96 = .ok (.iload_n 3, 1) := by decide +kernel
theorem d_M_tryRows_97 : decode b_M_tryRows 97 = .ok (.iload 4, 2) := by decide +kernel
theorem d_M_tryRows_99 : decode b_M_tryRows 99 = .ok (.invokevirtual 137, 3) := by decide +kernel
theorem d_M_tryRows_102 : decode b_M_tryRows 102 = .ok (.istore 5, 2) := by decide +kernel
theorem d_M_tryRows_104 : decode b_M_tryRows 104 = .ok (.iload 5, 2) := by decide +kernel
theorem d_M_tryRows_106 : decode b_M_tryRows 106 = .ok (.iconst 1, 1) := by decide +kernel
theorem d_M_tryRows_107 : decode b_M_tryRows 107 = .ok (.if_icmp .eq 6, 3) := by decide +kernel
theorem d_M_tryRows_110 : decode b_M_tryRows 110 = .ok (.iload 5, 2) := by decide +kernel
theorem d_M_tryRows_112 : decode b_M_tryRows 112 = .ok (.ireturn, 1) := by decide +kernel
theorem d_M_tryRows_113 : decode b_M_tryRows 113 = .ok (.goto (-85), 3) := by decide +kernel
theorem d_M_tryRows_116 : decode b_M_tryRows 116 = .ok (.iconst 1, 1) := by decide +kernel
theorem d_M_tryRows_117 : decode b_M_tryRows 117 = .ok (.ireturn, 1) := by decide +kernel
theorem d_M_look_0 : decode b_M_look 0 = .ok (.aload_n 0, 1) := by decide +kernel
theorem d_M_look_1 : decode b_M_look 1 = .ok (.getfield 21, 3) := by decide +kernel
theorem d_M_look_4 : decode b_M_look 4 = .ok (.iload_n 1, 1) := by decide +kernel
theorem d_M_look_5 : decode b_M_look 5 = .ok (.iaload, 1) := by decide +kernel
theorem d_M_look_6 : decode b_M_look 6 = .ok (.iload_n 3, 1) := by decide +kernel
theorem d_M_look_7 : decode b_M_look 7 = .ok (.ishr, 1) := by decide +kernel
theorem d_M_look_8 : decode b_M_look 8 = .ok (.iconst 1, 1) := by decide +kernel
theorem d_M_look_9 : decode b_M_look 9 = .ok (.iand, 1) := by decide +kernel
theorem d_M_look_10 : decode b_M_look 10 = .ok (.ifCond .ne 5, 3) := by decide +kernel
theorem d_M_look_13 : decode b_M_look 13 = .ok (.iconst (-1), 1) := by decide +kernel
theorem d_M_look_14 : decode b_M_look 14 = .ok (.ireturn, 1) := by decide +kernel
theorem d_M_look_15 : decode b_M_look 15 = .ok (.aload_n 0, 1) := by decide +kernel
theorem d_M_look_16 : decode b_M_look 16 = .ok (.getfield 17, 3) := by decide +kernel
theorem d_M_look_19 : decode b_M_look 19 = .ok (.iload_n 3, 1) := by decide +kernel
theorem d_M_look_20 : decode b_M_look 20 = .ok (.iaload, 1) := by decide +kernel
theorem d_M_look_21 : decode b_M_look 21 = .ok (.iconst (-1), 1) := by decide +kernel
theorem d_M_look_22 : decode b_M_look 22 = .ok (.if_icmp .eq 26, 3) := by decide +kernel
theorem d_M_look_25 : decode b_M_look 25 = .ok (.aload_n 0, 1) := by decide +kernel
theorem d_M_look_26 : decode b_M_look 26 = .ok (.getfield 63, 3) := by decide +kernel
theorem d_M_look_29 : decode b_M_look 29 = .ok (.aload_n 0, 1) := by decide +kernel
theorem d_M_look_30 : decode b_M_look 30 = .ok (.getfield 17, 3) := by decide +kernel
theorem d_M_look_33 : decode b_M_look 33 = .ok (.iload_n 3, 1) := by decide +kernel
theorem d_M_look_34 : decode b_M_look 34 = .ok (.iaload, 1) := by decide +kernel
theorem d_M_look_35 : decode b_M_look 35 = .ok (.baload, 1) := by decide +kernel
theorem d_M_look_36 : decode b_M_look 36 = .ok (.ifCond .ne 12, 3) := by decide +kernel
theorem d_M_look_39 : decode b_M_look 39 = .ok (.aload_n 0, 1) := by decide +kernel
theorem d_M_look_40 : decode b_M_look 40 = .ok (.getfield 54, 3) := by decide +kernel
theorem d_M_look_43 : decode b_M_look 43 = .ok (.iload_n 1, 1) := by decide +kernel
theorem d_M_look_44 : decode b_M_look 44 = .ok (.iload_n 3, 1) := by decide +kernel
theorem d_M_look_45 : decode b_M_look 45 = .ok (.iastore, 1) := by decide +kernel
theorem d_M_look_46 : decode b_M_look 46 = .ok (.iconst 0, 1) := by decide +kernel
theorem d_M_look_47 : decode b_M_look 47 = .ok (.ireturn, 1) := by decide +kernel
theorem d_M_look_48 : decode b_M_look 48 = .ok (.aload_n 0, 1) := by decide +kernel
theorem d_M_look_49 : decode b_M_look 49 = .ok (.iload_n 1, 1) := by decide +kernel
theorem d_M_look_50 : decode b_M_look 50 = .ok (.iload_n 3, 1) := by decide +kernel
theorem d_M_look_51 : decode b_M_look 51 = .ok (.iload_n 2, 1) := by decide +kernel
theorem d_M_look_52 : decode b_M_look 52 = .ok (.ifCond .ne 7, 3) := by decide +kernel
theorem d_M_look_55 : decode b_M_look 55 = .ok (.iconst 1, 1) := by decide +kernel
theorem d_M_look_56 : decode b_M_look 56 = .ok (.goto 4, 3) := by decide +kernel
theorem d_M_look_59 : decode b_M_look 59 = .ok (.iconst 0, 1) := by decide +kernel
theorem d_M_look_60 : decode b_M_look 60 = .ok (.invokevirtual 120, 3) := by decide +kernel
theorem d_M_look_63 : decode b_M_look 63 = .ok (.iload_n 2, 1) := by decide +kernel
theorem d_M_look_64 : decode b_M_look 64 = .ok (.ifCond .ne 15, 3) := by decide +kernel
theorem d_M_look_67 : decode b_M_look 67 = .ok (.aload_n 0, 1) := by decide +kernel
theorem d_M_look_68 : decode b_M_look 68 = .ok (.getfield 7, 3) := by decide +kernel
theorem d_M_look_71 : decode b_M_look 71 = .ok (.iload_n 3, 1) := by decide +kernel
theorem d_M_look_72 : decode b_M_look 72 = .ok (.baload, 1) := by decide +kernel
theorem d_M_look_73 : decode b_M_look 73 = .ok (.ifCond .ne 6, 3) := by decide +kernel
theorem d_M_look_76 : decode b_M_look 76 = .ok (.bipush (-3), 2) := by decide +kernel
theorem d_M_look_78 : decode b_M_look 78 = .ok (.ireturn, 1) := by decide +kernel
theorem d_M_look_79 : decode b_M_look 79 = .ok (.iload_n 2, 1) := by decide +kernel
theorem d_M_look_80 : decode b_M_look 80 = .ok (.ifCond .ne 13, 3) := by decide +kernel
theorem d_M_look_83 : decode b_M_look 83 = .ok (.aload_n 0, 1) := by decide +kernel
theorem d_M_look_84 : decode b_M_look 84 = .ok (.aload_n 0, 1) := by decide +kernel
theorem d_M_look_85 : decode b_M_look 85 = .ok (.getfield 13, 3) := by decide +kernel
theorem d_M_look_88 : decode b_M_look 88 = .ok (.iload_n 3, 1) := by decide +kernel
theorem d_M_look_89 : decode b_M_look 89 = .ok (.laload, 1) := by decide +kernel
theorem d_M_look_90 : decode b_M_look 90 = .ok (.putfield 124, 3) := by decide +kernel
theorem d_M_look_93 : decode b_M_look 93 = .ok (.aload_n 0, 1) := by decide +kernel
theorem d_M_look_94 : decode b_M_look 94 = .ok (.ldc2_w 128, 3) := by decide +kernel
theorem d_M_look_97 : decode b_M_look 97 = .ok (.aload_n 0, 1) := by decide +kernel
theorem d_M_look_98 : decode b_M_look 98 = .ok (.getfield 130, 3) := by decide +kernel
theorem d_M_look_101 : decode b_M_look 101 = .ok (.lmul, 1) := by decide +kernel
theorem d_M_look_102 : decode b_M_look 102 = .ok (.iload_n 2, 1) := by decide +kernel
theorem d_M_look_103 : decode b_M_look 103 = .ok (.ifCond .ne 12, 3) := by decide +kernel
theorem d_M_look_106 : decode b_M_look 106 = .ok (.aload_n 0, 1) := by decide +kernel
theorem d_M_look_107 : decode b_M_look 107 = .ok (.getfield 13, 3) := by decide +kernel
theorem d_M_look_110 : decode b_M_look 110 = .ok (.iload_n 3, 1) := by decide +kernel
theorem d_M_look_111 : decode b_M_look 111 = .ok (.laload, 1) := by decide +kernel
theorem d_M_look_112 : decode b_M_look 112 = .ok (.goto 19, 3) := by decide +kernel
theorem d_M_look_115 : decode b_M_look 115 = .ok (.aload_n 0, 1) := by decide +kernel
theorem d_M_look_116 : decode b_M_look 116 = .ok (.getfield 7, 3) := by decide +kernel
theorem d_M_look_119 : decode b_M_look 119 = .ok (.iload_n 3, 1) := by decide +kernel
theorem d_M_look_120 : decode b_M_look 120 = .ok (.baload, 1) := by decide +kernel
theorem d_M_look_121 : decode b_M_look 121 = .ok (.ifCond .eq 7, 3) := by decide +kernel
theorem d_M_look_124 : decode b_M_look 124 = .ok (.lconst 1, 1) := by decide +kernel
theorem d_M_look_125 : decode b_M_look 125 = .ok (.goto 6, 3) := by decide +kernel
theorem d_M_look_128 : decode b_M_look 128 = .ok (.ldc2_w 133, 3) := by decide +kernel
theorem d_M_look_131 : decode b_M_look 131 = .ok (.ladd, 1) := by decide +kernel
theorem d_M_look_132 : decode b_M_look 132 = .ok (.putfield 130, 3) := by decide +kernel
theorem d_M_look_135 : decode b_M_look 135 = .ok (.iconst 1, 1) := by decide +kernel
theorem d_M_look_136 : decode b_M_look 136 = .ok (.ireturn, 1) := by decide +kernel
theorem d_M_note_0 : decode b_M_note 0 = .ok (.iconst 0, 1) := by decide +kernel
theorem d_M_note_1 : decode b_M_note 1 = .ok (.istore 4, 2) := by decide +kernel
theorem d_M_note_3 : decode b_M_note 3 = .ok (.iload 4, 2) := by decide +kernel
theorem d_M_note_5 : decode b_M_note 5 = .ok (.aload_n 0, 1) := by decide +kernel
theorem d_M_note_6 : decode b_M_note 6 = .ok (.getfield 39, 3) := by decide +kernel
theorem d_M_note_9 : decode b_M_note 9 = .ok (.iload_n 1, 1) := by decide +kernel
theorem d_M_note_10 : decode b_M_note 10 = .ok (.iaload, 1) := by decide +kernel
theorem d_M_note_11 : decode b_M_note 11 = .ok (.if_icmp .ge 25, 3) := by decide +kernel
theorem d_M_note_14 : decode b_M_note 14 = .ok (.aload_n 0, 1) := by decide +kernel
theorem d_M_note_15 : decode b_M_note 15 = .ok (.getfield 42, 3) := by decide +kernel
theorem d_M_note_18 : decode b_M_note 18 = .ok (.bipush 24, 2) := by decide +kernel
theorem d_M_note_20 : decode b_M_note 20 = .ok (.iload_n 1, 1) := by decide +kernel
theorem d_M_note_21 : decode b_M_note 21 = .ok (.imul, 1) := by decide +kernel
theorem d_M_note_22 : decode b_M_note 22 = .ok (.iload 4, 2) := by decide +kernel
theorem d_M_note_24 : decode b_M_note 24 = .ok (.iadd, 1) := by decide +kernel
theorem d_M_note_25 : decode b_M_note 25 = .ok (.iaload, 1) := by decide +kernel
theorem d_M_note_26 : decode b_M_note 26 = .ok (.iload_n 2, 1) := by decide +kernel
theorem d_M_note_27 : decode b_M_note 27 = .ok (.if_icmp .eq 9, 3) := by decide +kernel
theorem d_M_note_30 : decode b_M_note 30 = .ok (.iinc 4 1, 3) := by decide +kernel
theorem d_M_note_33 : decode b_M_note 33 = .ok (.goto (-30), 3) := by decide +kernel
theorem d_M_note_36 : decode b_M_note 36 = .ok (.bipush 24, 2) := by decide +kernel
theorem d_M_note_38 : decode b_M_note 38 = .ok (.iload_n 1, 1) := by decide +kernel
theorem d_M_note_39 : decode b_M_note 39 = .ok (.imul, 1) := by decide +kernel
theorem d_M_note_40 : decode b_M_note 40 = .ok (.iload 4, 2) := by decide +kernel
theorem d_M_note_42 : decode b_M_note 42 = .ok (.iadd, 1) := by decide +kernel
theorem d_M_note_43 : decode b_M_note 43 = .ok (.istore 5, 2) := by decide +kernel
theorem d_M_note_45 : decode b_M_note 45 = .ok (.iload 4, 2) := by decide +kernel
theorem d_M_note_47 : decode b_M_note 47 = .ok (.aload_n 0, 1) := by decide +kernel
theorem d_M_note_48 : decode b_M_note 48 = .ok (.getfield 39, 3) := by decide +kernel
theorem d_M_note_51 : decode b_M_note 51 = .ok (.iload_n 1, 1) := by decide +kernel
theorem d_M_note_52 : decode b_M_note 52 = .ok (.iaload, 1) := by decide +kernel
theorem d_M_note_53 : decode b_M_note 53 = .ok (.if_icmp .ne 29, 3) := by decide +kernel
theorem d_M_note_56 : decode b_M_note 56 = .ok (.aload_n 0, 1) := by decide +kernel
theorem d_M_note_57 : decode b_M_note 57 = .ok (.getfield 42, 3) := by decide +kernel
theorem d_M_note_60 : decode b_M_note 60 = .ok (.iload 5, 2) := by decide +kernel
theorem d_M_note_62 : decode b_M_note 62 = .ok (.iload_n 2, 1) := by decide +kernel
theorem d_M_note_63 : decode b_M_note 63 = .ok (.iastore, 1) := by decide +kernel
theorem d_M_note_64 : decode b_M_note 64 = .ok (.aload_n 0, 1) := by decide +kernel
theorem d_M_note_65 : decode b_M_note 65 = .ok (.getfield 60, 3) := by decide +kernel
theorem d_M_note_68 : decode b_M_note 68 = .ok (.iload 5, 2) := by decide +kernel
theorem d_M_note_70 : decode b_M_note 70 = .ok (.iconst 0, 1) := by decide +kernel
theorem d_M_note_71 : decode b_M_note 71 = .ok (.bastore, 1) := by decide +kernel
theorem d_M_note_72 : decode b_M_note 72 = .ok (.aload_n 0, 1) := by decide +kernel
theorem d_M_note_73 : decode b_M_note 73 = .ok (.getfield 39, 3) := by decide +kernel
theorem d_M_note_76 : decode b_M_note 76 = .ok (.iload_n 1, 1) := by decide +kernel
theorem d_M_note_77 : decode b_M_note 77 = .ok (.dup2, 1) := by decide +kernel
theorem d_M_note_78 : decode b_M_note 78 = .ok (.iaload, 1) := by decide +kernel
theorem d_M_note_79 : decode b_M_note 79 = .ok (.iconst 1, 1) := by decide +kernel
theorem d_M_note_80 : decode b_M_note 80 = .ok (.iadd, 1) := by decide +kernel
theorem d_M_note_81 : decode b_M_note 81 = .ok (.iastore, 1) := by decide +kernel
theorem d_M_note_82 : decode b_M_note 82 = .ok (.aload_n 0, 1) := by decide +kernel
theorem d_M_note_83 : decode b_M_note 83 = .ok (.getfield 57, 3) := by decide +kernel
theorem d_M_note_86 : decode b_M_note 86 = .ok (.iload 5, 2) := by decide +kernel
theorem d_M_note_88 : decode b_M_note 88 = .ok (.aload_n 0, 1) := by decide +kernel
theorem d_M_note_89 : decode b_M_note 89 = .ok (.getfield 7, 3) := by decide +kernel
theorem d_M_note_92 : decode b_M_note 92 = .ok (.iload_n 2, 1) := by decide +kernel
theorem d_M_note_93 : decode b_M_note 93 = .ok (.baload, 1) := by decide +kernel
theorem d_M_note_94 : decode b_M_note 94 = .ok (.bastore, 1) := by decide +kernel
theorem d_M_note_95 : decode b_M_note 95 = .ok (.aload_n 0, 1) := by decide +kernel
theorem d_M_note_96 : decode b_M_note 96 = .ok (.getfield 60, 3) := by decide +kernel
theorem d_M_note_99 : decode b_M_note 99 = .ok (.iload 5, 2) := by decide +kernel
theorem d_M_note_101 : decode b_M_note 101 = .ok (.aload_n 0, 1) := by decide +kernel
theorem d_M_note_102 : decode b_M_note 102 = .ok (.getfield 60, 3) := by decide +kernel
theorem d_M_note_105 : decode b_M_note 105 = .ok (.iload 5, 2) := by decide +kernel
theorem d_M_note_107 : decode b_M_note 107 = .ok (.baload, 1) := by decide +kernel
theorem d_M_note_108 : decode b_M_note 108 = .ok (.ifCond .ne 7, 3) := by decide +kernel
theorem d_M_note_111 : decode b_M_note 111 = .ok (.iload_n 3, 1) := by decide +kernel
theorem d_M_note_112 : decode b_M_note 112 = .ok (.ifCond .eq 7, 3) := by decide +kernel
theorem d_M_note_115 : decode b_M_note 115 = .ok (.iconst 1, 1) := by decide +kernel
theorem d_M_note_116 : decode b_M_note 116 = .ok (.goto 4, 3) := by decide +kernel
theorem d_M_note_119 : decode b_M_note 119 = .ok (.iconst 0, 1) := by decide +kernel
theorem d_M_note_120 : decode b_M_note 120 = .ok (.bastore, 1) := by decide +kernel
theorem d_M_note_121 : decode b_M_note 121 = .ok (.aload_n 0, 1) := by decide +kernel
theorem d_M_note_122 : decode b_M_note 122 = .ok (.getfield 66, 3) := by decide +kernel
theorem d_M_note_125 : decode b_M_note 125 = .ok (.iload 5, 2) := by decide +kernel
theorem d_M_note_127 : decode b_M_note 127 = .ok (.aload_n 0, 1) := by decide +kernel
theorem d_M_note_128 : decode b_M_note 128 = .ok (.getfield 13, 3) := by decide +kernel
theorem d_M_note_131 : decode b_M_note 131 = .ok (.iload_n 2, 1) := by decide +kernel
theorem d_M_note_132 : decode b_M_note 132 = .ok (.laload, 1) := by decide +kernel
theorem d_M_note_133 : decode b_M_note 133 = .ok (.lastore, 1) := by decide +kernel
theorem d_M_note_134 : decode b_M_note 134 = .ok (.return_, 1) := by decide +kernel
theorem d_M_resolve_0 : decode b_M_resolve 0 = .ok (.aload_n 0, 1) := by decide +kernel
theorem d_M_resolve_1 : decode b_M_resolve 1 = .ok (.iconst 0, 1) := by decide +kernel
theorem d_M_resolve_2 : decode b_M_resolve 2 = .ok (.putfield 94, 3) := by decide +kernel
theorem d_M_resolve_5 : decode b_M_resolve 5 = .ok (.aload_n 0, 1) := by decide +kernel
theorem d_M_resolve_6 : decode b_M_resolve 6 = .ok (.iload_n 1, 1) := by decide +kernel
theorem d_M_resolve_7 : decode b_M_resolve 7 = .ok (.invokevirtual 107, 3) := by decide +kernel
theorem d_M_resolve_10 : decode b_M_resolve 10 = .ok (.ifCond .ne 6, 3) := by decide +kernel
theorem d_M_resolve_13 : decode b_M_resolve 13 = .ok (.bipush (-9), 2) := by decide +kernel
theorem d_M_resolve_15 : decode b_M_resolve 15 = .ok (.ireturn, 1) := by decide +kernel
theorem d_M_resolve_16 : decode b_M_resolve 16 = .ok (.aload_n 0, 1) := by decide +kernel
theorem d_M_resolve_17 : decode b_M_resolve 17 = .ok (.iconst 0, 1) := by decide +kernel
theorem d_M_resolve_18 : decode b_M_resolve 18 = .ok (.putfield 151, 3) := by decide +kernel
theorem d_M_resolve_21 : decode b_M_resolve 21 = .ok (.aload_n 0, 1) := by decide +kernel
theorem d_M_resolve_22 : decode b_M_resolve 22 = .ok (.getfield 72, 3) := by decide +kernel
theorem d_M_resolve_25 : decode b_M_resolve 25 = .ok (.iconst 0, 1) := by decide +kernel
theorem d_M_resolve_26 : decode b_M_resolve 26 = .ok (.iload_n 1, 1) := by decide +kernel
theorem d_M_resolve_27 : decode b_M_resolve 27 = .ok (.iastore, 1) := by decide +kernel
theorem d_M_resolve_28 : decode b_M_resolve 28 = .ok (.iconst 1, 1) := by decide +kernel
theorem d_M_resolve_29 : decode b_M_resolve 29 = .ok (.istore_n 2, 1) := by decide +kernel
theorem d_M_resolve_30 : decode b_M_resolve 30 = .ok (.aload_n 0, 1) := by decide +kernel
theorem d_M_resolve_31 : decode b_M_resolve 31 = .ok (.getfield 72, 3) := by decide +kernel
theorem d_M_resolve_34 : decode b_M_resolve 34 = .ok (.iload_n 2, 1) := by decide +kernel
theorem d_M_resolve_35 : decode b_M_resolve 35 = .ok (.iconst 1, 1) := by decide +kernel
theorem d_M_resolve_36 : decode b_M_resolve 36 = .ok (.isub, 1) := by decide +kernel
theorem d_M_resolve_37 : decode b_M_resolve 37 = .ok (.iaload, 1) := by decide +kernel
theorem d_M_resolve_38 : decode b_M_resolve 38 = .ok (.istore_n 3, 1) := by decide +kernel
theorem d_M_resolve_39 : decode b_M_resolve 39 = .ok (.aload_n 0, 1) := by decide +kernel
theorem d_M_resolve_40 : decode b_M_resolve 40 = .ok (.iload_n 3, 1) := by decide +kernel
theorem d_M_resolve_41 : decode b_M_resolve 41 = .ok (.invokevirtual 148, 3) := by decide +kernel
theorem d_M_resolve_44 : decode b_M_resolve 44 = .ok (.istore 4, 2) := by decide +kernel
theorem d_M_resolve_46 : decode b_M_resolve 46 = .ok (.iload 4, 2) := by decide +kernel
theorem d_M_resolve_48 : decode b_M_resolve 48 = .ok (.ifCond .ne 71, 3) := by decide +kernel
theorem d_M_resolve_51 : decode b_M_resolve 51 = .ok (.aload_n 0, 1) := by decide +kernel
theorem d_M_resolve_52 : decode b_M_resolve 52 = .ok (.getfield 17, 3) := by decide +kernel
theorem d_M_resolve_55 : decode b_M_resolve 55 = .ok (.aload_n 0, 1) := by decide +kernel
theorem d_M_resolve_56 : decode b_M_resolve 56 = .ok (.getfield 54, 3) := by decide +kernel
theorem d_M_resolve_59 : decode b_M_resolve 59 = .ok (.iload_n 3, 1) := by decide +kernel
theorem d_M_resolve_60 : decode b_M_resolve 60 = .ok (.iaload, 1) := by decide +kernel
theorem d_M_resolve_61 : decode b_M_resolve 61 = .ok (.iaload, 1) := by decide +kernel
theorem d_M_resolve_62 : decode b_M_resolve 62 = .ok (.istore 5, 2) := by decide +kernel
theorem d_M_resolve_64 : decode b_M_resolve 64 = .ok (.iconst 0, 1) := by decide +kernel
theorem d_M_resolve_65 : decode b_M_resolve 65 = .ok (.istore 6, 2) := by decide +kernel
theorem d_M_resolve_67 : decode b_M_resolve 67 = .ok (.iload 6, 2) := by decide +kernel
theorem d_M_resolve_69 : decode b_M_resolve 69 = .ok (.iload_n 2, 1) := by decide +kernel
theorem d_M_resolve_70 : decode b_M_resolve 70 = .ok (.if_icmp .ge 21, 3) := by decide +kernel
theorem d_M_resolve_73 : decode b_M_resolve 73 = .ok (.aload_n 0, 1) := by decide +kernel
theorem d_M_resolve_74 : decode b_M_resolve 74 = .ok (.getfield 72, 3) := by decide +kernel
theorem d_M_resolve_77 : decode b_M_resolve 77 = .ok (.iload 6, 2) := by decide +kernel
theorem d_M_resolve_79 : decode b_M_resolve 79 = .ok (.iaload, 1) := by decide +kernel
theorem d_M_resolve_80 : decode b_M_resolve 80 = .ok (.iload 5, 2) := by decide +kernel
theorem d_M_resolve_82 : decode b_M_resolve 82 = .ok (.if_icmp .eq 9, 3) := by decide +kernel
theorem d_M_resolve_85 : decode b_M_resolve 85 = .ok (.iinc 6 1, 3) := by decide +kernel
theorem d_M_resolve_88 : decode b_M_resolve 88 = .ok (.goto (-21), 3) := by decide +kernel
theorem d_M_resolve_91 : decode b_M_resolve 91 = .ok (.iload 6, 2) := by decide +kernel
theorem d_M_resolve_93 : decode b_M_resolve 93 = .ok (.iload_n 2, 1) := by decide +kernel
theorem d_M_resolve_94 : decode b_M_resolve 94 = .ok (.if_icmp .ge 11, 3) := by decide +kernel
theorem d_M_resolve_97 : decode b_M_resolve 97 = .ok (.aload_n 0, 1) := by decide +kernel
theorem d_M_resolve_98 : decode b_M_resolve 98 = .ok (.iload 6, 2) := by decide +kernel
theorem d_M_resolve_100 : decode b_M_resolve 100 = .ok (.iload_n 2, 1) := by decide +kernel
theorem d_M_resolve_101 : decode b_M_resolve 101 = .ok (.invokevirtual 154, 3) := by decide +kernel
theorem d_M_resolve_104 : decode b_M_resolve 104 = .ok (.ireturn, 1) := by decide +kernel
theorem d_M_resolve_105 : decode b_M_resolve 105 = .ok (.aload_n 0, 1) := by decide +kernel
theorem d_M_resolve_106 : decode b_M_resolve 106 = .ok (.getfield 72, 3) := by decide +kernel
theorem d_M_resolve_109 : decode b_M_resolve 109 = .ok (.iload_n 2, 1) := by decide +kernel
theorem d_M_resolve_110 : decode b_M_resolve 110 = .ok (.iload 5, 2) := by decide +kernel
theorem d_M_resolve_112 : decode b_M_resolve 112 = .ok (.iastore, 1) := by decide +kernel
theorem d_M_resolve_113 : decode b_M_resolve 113 = .ok (.iinc 2 1, 3) := by decide +kernel
theorem d_M_resolve_116 : decode b_M_resolve 116 = .ok (.goto 27, 3) := by decide +kernel
theorem d_M_resolve_119 : decode b_M_resolve 119 = .ok (.iload_n 2, 1) := by decide +kernel
theorem d_M_resolve_120 : decode b_M_resolve 120 = .ok (.iconst 1, 1) := by decide +kernel
theorem d_M_resolve_121 : decode b_M_resolve 121 = .ok (.if_icmp .eq 16, 3) := by decide +kernel
theorem d_M_resolve_124 : decode b_M_resolve 124 = .ok (.iload 4, 2) := by decide +kernel
theorem d_M_resolve_126 : decode b_M_resolve 126 = .ok (.iconst (-1), 1) := by decide +kernel
theorem d_M_resolve_127 : decode b_M_resolve 127 = .ok (.if_icmp .eq 10, 3) := by decide +kernel
theorem d_M_resolve_130 : decode b_M_resolve 130 = .ok (.iload 4, 2) := by decide +kernel
theorem d_M_resolve_132 : decode b_M_resolve 132 = .ok (.bipush (-2), 2) := by decide +kernel
theorem d_M_resolve_134 : decode b_M_resolve 134 = .ok (.if_icmp .ne 6, 3) := by decide +kernel
theorem d_M_resolve_137 : decode b_M_resolve 137 = .ok (.iload 4, 2) := by decide +kernel
theorem d_M_resolve_139 : decode b_M_resolve 139 = .ok (.ireturn, 1) := by decide +kernel
theorem d_M_resolve_140 : decode b_M_resolve 140 = .ok (.iinc 2 (-1), 3) := by decide +kernel
theorem d_M_resolve_143 : decode b_M_resolve 143 = .ok (.goto (-113), 3) := by decide +kernel
theorem d_M_tellRing_0 : decode b_M_tellRing 0 = .ok (.iload_n 1, 1) := by decide +kernel
theorem d_M_tellRing_1 : decode b_M_tellRing 1 = .ok (.istore_n 3, 1) := by decide +kernel
theorem d_M_tellRing_2 : decode b_M_tellRing 2 = .ok (.iload_n 3, 1) := by decide +kernel
theorem d_M_tellRing_3 : decode b_M_tellRing 3 = .ok (.iload_n 2, 1) := by decide +kernel
theorem d_M_tellRing_4 : decode b_M_tellRing 4 = .ok (.if_icmp .ge 34, 3) := by decide +kernel
theorem d_M_tellRing_7 : decode b_M_tellRing 7 = .ok (.aload_n 0, 1) := by decide +kernel
theorem d_M_tellRing_8 : decode b_M_tellRing 8 = .ok (.getfield 69, 3) := by decide +kernel
theorem d_M_tellRing_11 : decode b_M_tellRing 11 = .ok (.aload_n 0, 1) := by decide +kernel
theorem d_M_tellRing_12 : decode b_M_tellRing 12 = .ok (.getfield 151, 3) := by decide +kernel
theorem d_M_tellRing_15 : decode b_M_tellRing 15 = .ok (.aload_n 0, 1) := by decide +kernel
theorem d_M_tellRing_16 : decode b_M_tellRing 16 = .ok (.getfield 72, 3) := by decide +kernel
theorem d_M_tellRing_19 : decode b_M_tellRing 19 = .ok (.iload_n 3, 1) := by decide +kernel
theorem d_M_tellRing_20 : decode b_M_tellRing 20 = .ok (.iaload, 1) := by decide +kernel
theorem d_M_tellRing_21 : decode b_M_tellRing 21 = .ok (.iastore, 1) := by decide +kernel
theorem d_M_tellRing_22 : decode b_M_tellRing 22 = .ok (.aload_n 0, 1) := by decide +kernel
theorem d_M_tellRing_23 : decode b_M_tellRing 23 = .ok (.dup, 1) := by decide +kernel
theorem d_M_tellRing_24 : decode b_M_tellRing 24 = .ok (.getfield 151, 3) := by decide +kernel
theorem d_M_tellRing_27 : decode b_M_tellRing 27 = .ok (.iconst 1, 1) := by decide +kernel
theorem d_M_tellRing_28 : decode b_M_tellRing 28 = .ok (.iadd, 1) := by decide +kernel
theorem d_M_tellRing_29 : decode b_M_tellRing 29 = .ok (.putfield 151, 3) := by decide +kernel
theorem d_M_tellRing_32 : decode b_M_tellRing 32 = .ok (.iinc 3 1, 3) := by decide +kernel
theorem d_M_tellRing_35 : decode b_M_tellRing 35 = .ok (.goto (-33), 3) := by decide +kernel
theorem d_M_tellRing_38 : decode b_M_tellRing 38 = .ok (.bipush (-5), 2) := by decide +kernel
theorem d_M_tellRing_40 : decode b_M_tellRing 40 = .ok (.ireturn, 1) := by decide +kernel
theorem d_M_ring_0 : decode b_M_ring 0 = .ok (.aload_n 0, 1) := by decide +kernel
theorem d_M_ring_1 : decode b_M_ring 1 = .ok (.iconst 0, 1) := by decide +kernel
theorem d_M_ring_2 : decode b_M_ring 2 = .ok (.putfield 94, 3) := by decide +kernel
theorem d_M_ring_5 : decode b_M_ring 5 = .ok (.iload_n 1, 1) := by decide +kernel
theorem d_M_ring_6 : decode b_M_ring 6 = .ok (.ifCond .lt 11, 3) := by decide +kernel
theorem d_M_ring_9 : decode b_M_ring 9 = .ok (.iload_n 1, 1) := by decide +kernel
theorem d_M_ring_10 : decode b_M_ring 10 = .ok (.aload_n 0, 1) := by decide +kernel
theorem d_M_ring_11 : decode b_M_ring 11 = .ok (.getfield 151, 3) := by decide +kernel
theorem d_M_ring_14 : decode b_M_ring 14 = .ok (.if_icmp .lt 7, 3) := by decide +kernel
theorem d_M_ring_17 : decode b_M_ring 17 = .ok (.iconst (-1), 1) := by decide +kernel
theorem d_M_ring_18 : decode b_M_ring 18 = .ok (.goto 9, 3) := by decide +kernel
theorem d_M_ring_21 : decode b_M_ring 21 = .ok (.aload_n 0, 1) := by decide +kernel
theorem d_M_ring_22 : decode b_M_ring 22 = .ok (.getfield 69, 3) := by decide +kernel
theorem d_M_ring_25 : decode b_M_ring 25 = .ok (.iload_n 1, 1) := by decide +kernel
theorem d_M_ring_26 : decode b_M_ring 26 = .ok (.iaload, 1) := by decide +kernel
theorem d_M_ring_27 : decode b_M_ring 27 = .ok (.ireturn, 1) := by decide +kernel
theorem d_M_waits_0 : decode b_M_waits 0 = .ok (.aload_n 0, 1) := by decide +kernel
theorem d_M_waits_1 : decode b_M_waits 1 = .ok (.iconst 0, 1) := by decide +kernel
theorem d_M_waits_2 : decode b_M_waits 2 = .ok (.putfield 94, 3) := by decide +kernel
theorem d_M_waits_5 : decode b_M_waits 5 = .ok (.aload_n 0, 1) := by decide +kernel
theorem d_M_waits_6 : decode b_M_waits 6 = .ok (.iload_n 1, 1) := by decide +kernel
theorem d_M_waits_7 : decode b_M_waits 7 = .ok (.invokevirtual 107, 3) := by decide +kernel
theorem d_M_waits_10 : decode b_M_waits 10 = .ok (.ifCond .eq 12, 3) := by decide +kernel
theorem d_M_waits_13 : decode b_M_waits 13 = .ok (.aload_n 0, 1) := by decide +kernel
theorem d_M_waits_14 : decode b_M_waits 14 = .ok (.getfield 54, 3) := by decide +kernel
theorem d_M_waits_17 : decode b_M_waits 17 = .ok (.iload_n 1, 1) := by decide +kernel
theorem d_M_waits_18 : decode b_M_waits 18 = .ok (.iaload, 1) := by decide +kernel
theorem d_M_waits_19 : decode b_M_waits 19 = .ok (.goto 4, 3) := by decide +kernel
theorem d_M_waits_22 : decode b_M_waits 22 = .ok (.iconst (-1), 1) := by decide +kernel
theorem d_M_waits_23 : decode b_M_waits 23 = .ok (.ireturn, 1) := by decide +kernel
theorem d_M_fresh_0 : decode b_M_fresh 0 = .ok (.aload_n 0, 1) := by decide +kernel
theorem d_M_fresh_1 : decode b_M_fresh 1 = .ok (.iconst 0, 1) := by decide +kernel
theorem d_M_fresh_2 : decode b_M_fresh 2 = .ok (.putfield 94, 3) := by decide +kernel
theorem d_M_fresh_5 : decode b_M_fresh 5 = .ok (.aload_n 0, 1) := by decide +kernel
theorem d_M_fresh_6 : decode b_M_fresh 6 = .ok (.iload_n 1, 1) := by decide +kernel
theorem d_M_fresh_7 : decode b_M_fresh 7 = .ok (.invokevirtual 107, 3) := by decide +kernel
theorem d_M_fresh_10 : decode b_M_fresh 10 = .ok (.ifCond .eq 15, 3) := by decide +kernel
theorem d_M_fresh_13 : decode b_M_fresh 13 = .ok (.aload_n 0, 1) := by decide +kernel
theorem d_M_fresh_14 : decode b_M_fresh 14 = .ok (.iload_n 1, 1) := by decide +kernel
theorem d_M_fresh_15 : decode b_M_fresh 15 = .ok (.invokevirtual 141, 3) := by decide +kernel
theorem d_M_fresh_18 : decode b_M_fresh 18 = .ok (.ifCond .eq 7, 3) := by decide +kernel
theorem d_M_fresh_21 : decode b_M_fresh 21 = .ok (.iconst 1, 1) := by decide +kernel
theorem d_M_fresh_22 : decode b_M_fresh 22 = .ok (.goto 4, 3) := by decide +kernel
theorem d_M_fresh_25 : decode b_M_fresh 25 = .ok (.iconst 0, 1) := by decide +kernel
theorem d_M_fresh_26 : decode b_M_fresh 26 = .ok (.ireturn, 1) := by decide +kernel
theorem d_M_kept_0 : decode b_M_kept 0 = .ok (.aload_n 0, 1) := by decide +kernel
theorem d_M_kept_1 : decode b_M_kept 1 = .ok (.iconst 0, 1) := by decide +kernel
theorem d_M_kept_2 : decode b_M_kept 2 = .ok (.putfield 94, 3) := by decide +kernel
theorem d_M_kept_5 : decode b_M_kept 5 = .ok (.aload_n 0, 1) := by decide +kernel
theorem d_M_kept_6 : decode b_M_kept 6 = .ok (.iload_n 1, 1) := by decide +kernel
theorem d_M_kept_7 : decode b_M_kept 7 = .ok (.invokevirtual 107, 3) := by decide +kernel
theorem d_M_kept_10 : decode b_M_kept 10 = .ok (.ifCond .eq 27, 3) := by decide +kernel
theorem d_M_kept_13 : decode b_M_kept 13 = .ok (.aload_n 0, 1) := by decide +kernel
theorem d_M_kept_14 : decode b_M_kept 14 = .ok (.getfield 36, 3) := by decide +kernel
theorem d_M_kept_17 : decode b_M_kept 17 = .ok (.iload_n 1, 1) := by decide +kernel
theorem d_M_kept_18 : decode b_M_kept 18 = .ok (.iaload, 1) := by decide +kernel
theorem d_M_kept_19 : decode b_M_kept 19 = .ok (.iconst 2, 1) := by decide +kernel
theorem d_M_kept_20 : decode b_M_kept 20 = .ok (.if_icmp .eq 17, 3) := by decide +kernel
theorem d_M_kept_23 : decode b_M_kept 23 = .ok (.iload_n 2, 1) := by decide +kernel
theorem d_M_kept_24 : decode b_M_kept 24 = .ok (.ifCond .lt 13, 3) := by decide +kernel
theorem d_M_kept_27 : decode b_M_kept 27 = .ok (.iload_n 2, 1) := by decide +kernel
theorem d_M_kept_28 : decode b_M_kept 28 = .ok (.aload_n 0, 1) := by decide +kernel
theorem d_M_kept_29 : decode b_M_kept 29 = .ok (.getfield 39, 3) := by decide +kernel
theorem d_M_kept_32 : decode b_M_kept 32 = .ok (.iload_n 1, 1) := by decide +kernel
theorem d_M_kept_33 : decode b_M_kept 33 = .ok (.iaload, 1) := by decide +kernel
theorem d_M_kept_34 : decode b_M_kept 34 = .ok (.if_icmp .lt 5, 3) := by decide +kernel
theorem d_M_kept_37 : decode b_M_kept 37 = .ok (.iconst (-1), 1) := by decide +kernel
theorem d_M_kept_38 : decode b_M_kept 38 = .ok (.ireturn, 1) := by decide +kernel
theorem d_M_kept_39 : decode b_M_kept 39 = .ok (.bipush 24, 2) := by decide +kernel
theorem d_M_kept_41 : decode b_M_kept 41 = .ok (.iload_n 1, 1) := by decide +kernel
theorem d_M_kept_42 : decode b_M_kept 42 = .ok (.imul, 1) := by decide +kernel
theorem d_M_kept_43 : decode b_M_kept 43 = .ok (.iload_n 2, 1) := by decide +kernel
theorem d_M_kept_44 : decode b_M_kept 44 = .ok (.iadd, 1) := by decide +kernel
theorem d_M_kept_45 : decode b_M_kept 45 = .ok (.istore 4, 2) := by decide +kernel
theorem d_M_kept_47 : decode b_M_kept 47 = .ok (.iload_n 3, 1) := by decide +kernel
theorem d_M_kept_48 : decode b_M_kept 48 = .ok (.ifCond .ne 13, 3) := by decide +kernel
theorem d_M_kept_51 : decode b_M_kept 51 = .ok (.aload_n 0, 1) := by decide +kernel
theorem d_M_kept_52 : decode b_M_kept 52 = .ok (.getfield 42, 3) := by decide +kernel
theorem d_M_kept_55 : decode b_M_kept 55 = .ok (.iload 4, 2) := by decide +kernel
theorem d_M_kept_57 : decode b_M_kept 57 = .ok (.iaload, 1) := by decide +kernel
theorem d_M_kept_58 : decode b_M_kept 58 = .ok (.goto 50, 3) := by decide +kernel
theorem d_M_kept_61 : decode b_M_kept 61 = .ok (.iload_n 3, 1) := by decide +kernel
theorem d_M_kept_62 : decode b_M_kept 62 = .ok (.iconst 1, 1) := by decide +kernel
theorem d_M_kept_63 : decode b_M_kept 63 = .ok (.if_icmp .ne 21, 3) := by decide +kernel
theorem d_M_kept_66 : decode b_M_kept 66 = .ok (.aload_n 0, 1) := by decide +kernel
theorem d_M_kept_67 : decode b_M_kept 67 = .ok (.getfield 57, 3) := by decide +kernel
theorem d_M_kept_70 : decode b_M_kept 70 = .ok (.iload 4, 2) := by decide +kernel
theorem d_M_kept_72 : decode b_M_kept 72 = .ok (.baload, 1) := by decide +kernel
theorem d_M_kept_73 : decode b_M_kept 73 = .ok (.ifCond .eq 7, 3) := by decide +kernel
theorem d_M_kept_76 : decode b_M_kept 76 = .ok (.iconst 1, 1) := by decide +kernel
theorem d_M_kept_77 : decode b_M_kept 77 = .ok (.goto 31, 3) := by decide +kernel
theorem d_M_kept_80 : decode b_M_kept 80 = .ok (.iconst 0, 1) := by decide +kernel
theorem d_M_kept_81 : decode b_M_kept 81 = .ok (.goto 27, 3) := by decide +kernel
theorem d_M_kept_84 : decode b_M_kept 84 = .ok (.iload_n 3, 1) := by decide +kernel
theorem d_M_kept_85 : decode b_M_kept 85 = .ok (.iconst 2, 1) := by decide +kernel
theorem d_M_kept_86 : decode b_M_kept 86 = .ok (.if_icmp .ne 21, 3) := by decide +kernel
theorem d_M_kept_89 : decode b_M_kept 89 = .ok (.aload_n 0, 1) := by decide +kernel
theorem d_M_kept_90 : decode b_M_kept 90 = .ok (.getfield 60, 3) := by decide +kernel
theorem d_M_kept_93 : decode b_M_kept 93 = .ok (.iload 4, 2) := by decide +kernel
theorem d_M_kept_95 : decode b_M_kept 95 = .ok (.baload, 1) := by decide +kernel
theorem d_M_kept_96 : decode b_M_kept 96 = .ok (.ifCond .eq 7, 3) := by decide +kernel
theorem d_M_kept_99 : decode b_M_kept 99 = .ok (.iconst 1, 1) := by decide +kernel
theorem d_M_kept_100 : decode b_M_kept 100 = .ok (.goto 8, 3) := by decide +kernel
theorem d_M_kept_103 : decode b_M_kept 103 = .ok (.iconst 0, 1) := by decide +kernel
theorem d_M_kept_104 : decode b_M_kept 104 = .ok (.goto 4, 3) := by decide +kernel
theorem d_M_kept_107 : decode b_M_kept 107 = .ok (.iconst (-1), 1) := by decide +kernel
theorem d_M_kept_108 : decode b_M_kept 108 = .ok (.ireturn, 1) := by decide +kernel
theorem d_M_unused_0 : decode b_M_unused 0 = .ok (.aload_n 0, 1) := by decide +kernel
theorem d_M_unused_1 : decode b_M_unused 1 = .ok (.iconst 0, 1) := by decide +kernel
theorem d_M_unused_2 : decode b_M_unused 2 = .ok (.putfield 94, 3) := by decide +kernel
theorem d_M_unused_5 : decode b_M_unused 5 = .ok (.aload_n 0, 1) := by decide +kernel
theorem d_M_unused_6 : decode b_M_unused 6 = .ok (.iload_n 1, 1) := by decide +kernel
theorem d_M_unused_7 : decode b_M_unused 7 = .ok (.invokevirtual 107, 3) := by decide +kernel
theorem d_M_unused_10 : decode b_M_unused 10 = .ok (.ifCond .ne 5, 3) := by decide +kernel
theorem d_M_unused_13 : decode b_M_unused 13 = .ok (.iconst 0, 1) := by decide +kernel
theorem d_M_unused_14 : decode b_M_unused 14 = .ok (.ireturn, 1) := by decide +kernel
theorem d_M_unused_15 : decode b_M_unused 15 = .ok (.aload_n 0, 1) := by decide +kernel
theorem d_M_unused_16 : decode b_M_unused 16 = .ok (.getfield 21, 3) := by decide +kernel
theorem d_M_unused_19 : decode b_M_unused 19 = .ok (.iload_n 1, 1) := by decide +kernel
theorem d_M_unused_20 : decode b_M_unused 20 = .ok (.iaload, 1) := by decide +kernel
theorem d_M_unused_21 : decode b_M_unused 21 = .ok (.iconst 1, 1) := by decide +kernel
theorem d_M_unused_22 : decode b_M_unused 22 = .ok (.aload_n 0, 1) := by decide +kernel
theorem d_M_unused_23 : decode b_M_unused 23 = .ok (.getfield 97, 3) := by decide +kernel
theorem d_M_unused_26 : decode b_M_unused 26 = .ok (.ishl, 1) := by decide +kernel
theorem d_M_unused_27 : decode b_M_unused 27 = .ok (.iconst 1, 1) := by decide +kernel
theorem d_M_unused_28 : decode b_M_unused 28 = .ok (.isub, 1) := by decide +kernel
theorem d_M_unused_29 : decode b_M_unused 29 = .ok (.iand, 1) := by decide +kernel
theorem d_M_unused_30 : decode b_M_unused 30 = .ok (.istore_n 2, 1) := by decide +kernel
theorem d_M_unused_31 : decode b_M_unused 31 = .ok (.iconst 0, 1) := by decide +kernel
theorem d_M_unused_32 : decode b_M_unused 32 = .ok (.istore_n 3, 1) := by decide +kernel
theorem d_M_unused_33 : decode b_M_unused 33 = .ok (.iload_n 3, 1) := by decide +kernel
theorem d_M_unused_34 : decode b_M_unused 34 = .ok (.aload_n 0, 1) := by decide +kernel
theorem d_M_unused_35 : decode b_M_unused 35 = .ok (.getfield 39, 3) := by decide +kernel
theorem d_M_unused_38 : decode b_M_unused 38 = .ok (.iload_n 1, 1) := by decide +kernel
theorem d_M_unused_39 : decode b_M_unused 39 = .ok (.iaload, 1) := by decide +kernel
theorem d_M_unused_40 : decode b_M_unused 40 = .ok (.if_icmp .ge 37, 3) := by decide +kernel
theorem d_M_unused_43 : decode b_M_unused 43 = .ok (.aload_n 0, 1) := by decide +kernel
theorem d_M_unused_44 : decode b_M_unused 44 = .ok (.getfield 36, 3) := by decide +kernel
theorem d_M_unused_47 : decode b_M_unused 47 = .ok (.iload_n 1, 1) := by decide +kernel
theorem d_M_unused_48 : decode b_M_unused 48 = .ok (.iaload, 1) := by decide +kernel
theorem d_M_unused_49 : decode b_M_unused 49 = .ok (.iconst 2, 1) := by decide +kernel
theorem d_M_unused_50 : decode b_M_unused 50 = .ok (.if_icmp .eq 27, 3) := by decide +kernel
theorem d_M_unused_53 : decode b_M_unused 53 = .ok (.iload_n 2, 1) := by decide +kernel
theorem d_M_unused_54 : decode b_M_unused 54 = .ok (.iconst 1, 1) := by decide +kernel
theorem d_M_unused_55 : decode b_M_unused 55 = .ok (.aload_n 0, 1) := by decide +kernel
theorem d_M_unused_56 : decode b_M_unused 56 = .ok (.getfield 42, 3) := by decide +kernel
theorem d_M_unused_59 : decode b_M_unused 59 = .ok (.bipush 24, 2) := by decide +kernel
theorem d_M_unused_61 : decode b_M_unused 61 = .ok (.iload_n 1, 1) := by decide +kernel
theorem d_M_unused_62 : decode b_M_unused 62 = .ok (.imul, 1) := by decide +kernel
theorem d_M_unused_63 : decode b_M_unused 63 = .ok (.iload_n 3, 1) := by decide +kernel
theorem d_M_unused_64 : decode b_M_unused 64 = .ok (.iadd, 1) := by decide +kernel
theorem d_M_unused_65 : decode b_M_unused 65 = .ok (.iaload, 1) := by decide +kernel
theorem d_M_unused_66 : decode b_M_unused 66 = .ok (.ishl, 1) := by decide +kernel
theorem d_M_unused_67 : decode b_M_unused 67 = .ok (.iconst (-1), 1) := by decide +kernel
theorem d_M_unused_68 : decode b_M_unused 68 = .ok (.ixor, 1) := by decide +kernel
theorem d_M_unused_69 : decode b_M_unused 69 = .ok (.iand, 1) := by decide +kernel
theorem d_M_unused_70 : decode b_M_unused 70 = .ok (.istore_n 2, 1) := by decide +kernel
theorem d_M_unused_71 : decode b_M_unused 71 = .ok (.iinc 3 1, 3) := by decide +kernel
theorem d_M_unused_74 : decode b_M_unused 74 = .ok (.goto (-41), 3) := by decide +kernel
theorem d_M_unused_77 : decode b_M_unused 77 = .ok (.iload_n 2, 1) := by decide +kernel
theorem d_M_unused_78 : decode b_M_unused 78 = .ok (.ireturn, 1) := by decide +kernel
theorem d_M_digest_0 : decode b_M_digest 0 = .ok (.aload_n 0, 1) := by decide +kernel
theorem d_M_digest_1 : decode b_M_digest 1 = .ok (.iconst 0, 1) := by decide +kernel
theorem d_M_digest_2 : decode b_M_digest 2 = .ok (.putfield 94, 3) := by decide +kernel
theorem d_M_digest_5 : decode b_M_digest 5 = .ok (.aload_n 0, 1) := by decide +kernel
theorem d_M_digest_6 : decode b_M_digest 6 = .ok (.iload_n 1, 1) := by decide +kernel
theorem d_M_digest_7 : decode b_M_digest 7 = .ok (.invokevirtual 103, 3) := by decide +kernel
theorem d_M_digest_10 : decode b_M_digest 10 = .ok (.ifCond .eq 21, 3) := by decide +kernel
theorem d_M_digest_13 : decode b_M_digest 13 = .ok (.aload_n 0, 1) := by decide +kernel
theorem d_M_digest_14 : decode b_M_digest 14 = .ok (.getfield 7, 3) := by decide +kernel
theorem d_M_digest_17 : decode b_M_digest 17 = .ok (.iload_n 1, 1) := by decide +kernel
theorem d_M_digest_18 : decode b_M_digest 18 = .ok (.baload, 1) := by decide +kernel
theorem d_M_digest_19 : decode b_M_digest 19 = .ok (.ifCond .eq 12, 3) := by decide +kernel
theorem d_M_digest_22 : decode b_M_digest 22 = .ok (.aload_n 0, 1) := by decide +kernel
theorem d_M_digest_23 : decode b_M_digest 23 = .ok (.getfield 13, 3) := by decide +kernel
theorem d_M_digest_26 : decode b_M_digest 26 = .ok (.iload_n 1, 1) := by decide +kernel
theorem d_M_digest_27 : decode b_M_digest 27 = .ok (.laload, 1) := by decide +kernel
theorem d_M_digest_28 : decode b_M_digest 28 = .ok (.goto 4, 3) := by decide +kernel
theorem d_M_digest_31 : decode b_M_digest 31 = .ok (.lconst 0, 1) := by decide +kernel
theorem d_M_digest_32 : decode b_M_digest 32 = .ok (.lreturn, 1) := by decide +kernel
theorem d_M_counted_0 : decode b_M_counted 0 = .ok (.aload_n 0, 1) := by decide +kernel
theorem d_M_counted_1 : decode b_M_counted 1 = .ok (.iconst 0, 1) := by decide +kernel
theorem d_M_counted_2 : decode b_M_counted 2 = .ok (.putfield 94, 3) := by decide +kernel
theorem d_M_counted_5 : decode b_M_counted 5 = .ok (.aload_n 0, 1) := by decide +kernel
theorem d_M_counted_6 : decode b_M_counted 6 = .ok (.iload_n 1, 1) := by decide +kernel
theorem d_M_counted_7 : decode b_M_counted 7 = .ok (.invokevirtual 107, 3) := by decide +kernel
theorem d_M_counted_10 : decode b_M_counted 10 = .ok (.ifCond .ne 5, 3) := by decide +kernel
theorem d_M_counted_13 : decode b_M_counted 13 = .ok (.iconst (-1), 1) := by decide +kernel
theorem d_M_counted_14 : decode b_M_counted 14 = .ok (.ireturn, 1) := by decide +kernel
theorem d_M_counted_15 : decode b_M_counted 15 = .ok (.iload_n 2, 1) := by decide +kernel
theorem d_M_counted_16 : decode b_M_counted 16 = .ok (.ifCond .ne 12, 3) := by decide +kernel
theorem d_M_counted_19 : decode b_M_counted 19 = .ok (.aload_n 0, 1) := by decide +kernel
theorem d_M_counted_20 : decode b_M_counted 20 = .ok (.getfield 45, 3) := by decide +kernel
theorem d_M_counted_23 : decode b_M_counted 23 = .ok (.iload_n 1, 1) := by decide +kernel
theorem d_M_counted_24 : decode b_M_counted 24 = .ok (.iaload, 1) := by decide +kernel
theorem d_M_counted_25 : decode b_M_counted 25 = .ok (.goto 32, 3) := by decide +kernel
theorem d_M_counted_28 : decode b_M_counted 28 = .ok (.iload_n 2, 1) := by decide +kernel
theorem d_M_counted_29 : decode b_M_counted 29 = .ok (.iconst 1, 1) := by decide +kernel
theorem d_M_counted_30 : decode b_M_counted 30 = .ok (.if_icmp .ne 12, 3) := by decide +kernel
theorem d_M_counted_33 : decode b_M_counted 33 = .ok (.aload_n 0, 1) := by decide +kernel
theorem d_M_counted_34 : decode b_M_counted 34 = .ok (.getfield 48, 3) := by decide +kernel
theorem d_M_counted_37 : decode b_M_counted 37 = .ok (.iload_n 1, 1) := by decide +kernel
theorem d_M_counted_38 : decode b_M_counted 38 = .ok (.iaload, 1) := by decide +kernel
theorem d_M_counted_39 : decode b_M_counted 39 = .ok (.goto 18, 3) := by decide +kernel
theorem d_M_counted_42 : decode b_M_counted 42 = .ok (.iload_n 2, 1) := by decide +kernel
theorem d_M_counted_43 : decode b_M_counted 43 = .ok (.iconst 2, 1) := by decide +kernel
theorem d_M_counted_44 : decode b_M_counted 44 = .ok (.if_icmp .ne 12, 3) := by decide +kernel
theorem d_M_counted_47 : decode b_M_counted 47 = .ok (.aload_n 0, 1) := by decide +kernel
theorem d_M_counted_48 : decode b_M_counted 48 = .ok (.getfield 51, 3) := by decide +kernel
theorem d_M_counted_51 : decode b_M_counted 51 = .ok (.iload_n 1, 1) := by decide +kernel
theorem d_M_counted_52 : decode b_M_counted 52 = .ok (.iaload, 1) := by decide +kernel
theorem d_M_counted_53 : decode b_M_counted 53 = .ok (.goto 4, 3) := by decide +kernel
theorem d_M_counted_56 : decode b_M_counted 56 = .ok (.iconst (-1), 1) := by decide +kernel
theorem d_M_counted_57 : decode b_M_counted 57 = .ok (.ireturn, 1) := by decide +kernel
theorem d_M_members_0 : decode b_M_members 0 = .ok (.aload_n 0, 1) := by decide +kernel
theorem d_M_members_1 : decode b_M_members 1 = .ok (.iconst 0, 1) := by decide +kernel
theorem d_M_members_2 : decode b_M_members 2 = .ok (.putfield 94, 3) := by decide +kernel
theorem d_M_members_5 : decode b_M_members 5 = .ok (.aload_n 0, 1) := by decide +kernel
theorem d_M_members_6 : decode b_M_members 6 = .ok (.iload_n 1, 1) := by decide +kernel
theorem d_M_members_7 : decode b_M_members 7 = .ok (.invokevirtual 103, 3) := by decide +kernel
theorem d_M_members_10 : decode b_M_members 10 = .ok (.ifCond .eq 11, 3) := by decide +kernel
theorem d_M_members_13 : decode b_M_members 13 = .ok (.aload_n 0, 1) := by decide +kernel
theorem d_M_members_14 : decode b_M_members 14 = .ok (.iload_n 1, 1) := by decide +kernel
theorem d_M_members_15 : decode b_M_members 15 = .ok (.invokevirtual 160, 3) := by decide +kernel
theorem d_M_members_18 : decode b_M_members 18 = .ok (.goto 4, 3) := by decide +kernel
theorem d_M_members_21 : decode b_M_members 21 = .ok (.iconst 0, 1) := by decide +kernel
theorem d_M_members_22 : decode b_M_members 22 = .ok (.ireturn, 1) := by decide +kernel
theorem d_M_membersOf_0 : decode b_M_membersOf 0 = .ok (.aload_n 0, 1) := by decide +kernel
theorem d_M_membersOf_1 : decode b_M_membersOf 1 = .ok (.getfield 17, 3) := by decide +kernel
theorem d_M_membersOf_4 : decode b_M_membersOf 4 = .ok (.iload_n 1, 1) := by decide +kernel
theorem d_M_membersOf_5 : decode b_M_membersOf 5 = .ok (.iaload, 1) := by decide +kernel
theorem d_M_membersOf_6 : decode b_M_membersOf 6 = .ok (.iconst (-1), 1) := by decide +kernel
theorem d_M_membersOf_7 : decode b_M_membersOf 7 = .ok (.if_icmp .eq 12, 3) := by decide +kernel
theorem d_M_membersOf_10 : decode b_M_membersOf 10 = .ok (.aload_n 0, 1) := by decide +kernel
theorem d_M_membersOf_11 : decode b_M_membersOf 11 = .ok (.getfield 7, 3) := by decide +kernel
theorem d_M_membersOf_14 : decode b_M_membersOf 14 = .ok (.iload_n 1, 1) := by decide +kernel
theorem d_M_membersOf_15 : decode b_M_membersOf 15 = .ok (.baload, 1) := by decide +kernel
theorem d_M_membersOf_16 : decode b_M_membersOf 16 = .ok (.ifCond .ne 5, 3) := by decide +kernel
theorem d_M_membersOf_19 : decode b_M_membersOf 19 = .ok (.iconst 0, 1) := by decide +kernel
theorem d_M_membersOf_20 : decode b_M_membersOf 20 = .ok (.ireturn, 1) := by decide +kernel
theorem d_M_membersOf_21 : decode b_M_membersOf 21 = .ok (.aload_n 0, 1) := by decide +kernel
theorem d_M_membersOf_22 : decode b_M_membersOf 22 = .ok (.getfield 13, 3) := by decide +kernel
theorem d_M_membersOf_25 : decode b_M_membersOf 25 = .ok (.iload_n 1, 1) := by decide +kernel
theorem d_M_membersOf_26 : decode b_M_membersOf 26 = .ok (.laload, 1) := by decide +kernel
theorem d_M_membersOf_27 : decode b_M_membersOf 27 = .ok (.ldc2_w 158, 3) := by decide +kernel
theorem d_M_membersOf_30 : decode b_M_membersOf 30 = .ok (.lrem, 1) := by decide +kernel
theorem d_M_membersOf_31 : decode b_M_membersOf 31 = .ok (.l2i, 1) := by decide +kernel
theorem d_M_membersOf_32 : decode b_M_membersOf 32 = .ok (.istore_n 2, 1) := by decide +kernel
theorem d_M_membersOf_33 : decode b_M_membersOf 33 = .ok (.iload_n 2, 1) := by decide +kernel
theorem d_M_membersOf_34 : decode b_M_membersOf 34 = .ok (.ifCond .ge 9, 3) := by decide +kernel
theorem d_M_membersOf_37 : decode b_M_membersOf 37 = .ok (.iload_n 2, 1) := by decide +kernel
theorem d_M_membersOf_38 : decode b_M_membersOf 38 = .ok (.iconst 5, 1) := by decide +kernel
theorem d_M_membersOf_39 : decode b_M_membersOf 39 = .ok (.iadd, 1) := by decide +kernel
theorem d_M_membersOf_40 : decode b_M_membersOf 40 = .ok (.goto 4, 3) := by decide +kernel
theorem d_M_membersOf_43 : decode b_M_membersOf 43 = .ok (.iload_n 2, 1) := by decide +kernel
theorem d_M_membersOf_44 : decode b_M_membersOf 44 = .ok (.ireturn, 1) := by decide +kernel
theorem d_M_mapping_0 : decode b_M_mapping 0 = .ok (.aload_n 0, 1) := by decide +kernel
theorem d_M_mapping_1 : decode b_M_mapping 1 = .ok (.iconst 0, 1) := by decide +kernel
theorem d_M_mapping_2 : decode b_M_mapping 2 = .ok (.putfield 94, 3) := by decide +kernel
theorem d_M_mapping_5 : decode b_M_mapping 5 = .ok (.aload_n 0, 1) := by decide +kernel
theorem d_M_mapping_6 : decode b_M_mapping 6 = .ok (.iload_n 1, 1) := by decide +kernel
theorem d_M_mapping_7 : decode b_M_mapping 7 = .ok (.invokevirtual 103, 3) := by decide +kernel
theorem d_M_mapping_10 : decode b_M_mapping 10 = .ok (.ifCond .eq 12, 3) := by decide +kernel
theorem d_M_mapping_13 : decode b_M_mapping 13 = .ok (.aload_n 0, 1) := by decide +kernel
theorem d_M_mapping_14 : decode b_M_mapping 14 = .ok (.getfield 163, 3) := by decide +kernel
theorem d_M_mapping_17 : decode b_M_mapping 17 = .ok (.bipush 6, 2) := by decide +kernel
theorem d_M_mapping_19 : decode b_M_mapping 19 = .ok (.if_icmp .ne 5, 3) := by decide +kernel
theorem d_M_mapping_22 : decode b_M_mapping 22 = .ok (.iconst (-1), 1) := by decide +kernel
theorem d_M_mapping_23 : decode b_M_mapping 23 = .ok (.ireturn, 1) := by decide +kernel
theorem d_M_mapping_24 : decode b_M_mapping 24 = .ok (.aload_n 0, 1) := by decide +kernel
theorem d_M_mapping_25 : decode b_M_mapping 25 = .ok (.getfield 75, 3) := by decide +kernel
theorem d_M_mapping_28 : decode b_M_mapping 28 = .ok (.aload_n 0, 1) := by decide +kernel
theorem d_M_mapping_29 : decode b_M_mapping 29 = .ok (.getfield 163, 3) := by decide +kernel
theorem d_M_mapping_32 : decode b_M_mapping 32 = .ok (.iload_n 1, 1) := by decide +kernel
theorem d_M_mapping_33 : decode b_M_mapping 33 = .ok (.iastore, 1) := by decide +kernel
theorem d_M_mapping_34 : decode b_M_mapping 34 = .ok (.aload_n 0, 1) := by decide +kernel
theorem d_M_mapping_35 : decode b_M_mapping 35 = .ok (.getfield 81, 3) := by decide +kernel
theorem d_M_mapping_38 : decode b_M_mapping 38 = .ok (.aload_n 0, 1) := by decide +kernel
theorem d_M_mapping_39 : decode b_M_mapping 39 = .ok (.getfield 163, 3) := by decide +kernel
theorem d_M_mapping_42 : decode b_M_mapping 42 = .ok (.lload_n 2, 1) := by decide +kernel
theorem d_M_mapping_43 : decode b_M_mapping 43 = .ok (.lastore, 1) := by decide +kernel
theorem d_M_mapping_44 : decode b_M_mapping 44 = .ok (.aload_n 0, 1) := by decide +kernel
theorem d_M_mapping_45 : decode b_M_mapping 45 = .ok (.dup, 1) := by decide +kernel
theorem d_M_mapping_46 : decode b_M_mapping 46 = .ok (.getfield 163, 3) := by decide +kernel
theorem d_M_mapping_49 : decode b_M_mapping 49 = .ok (.iconst 1, 1) := by decide +kernel
theorem d_M_mapping_50 : decode b_M_mapping 50 = .ok (.iadd, 1) := by decide +kernel
theorem d_M_mapping_51 : decode b_M_mapping 51 = .ok (.putfield 163, 3) := by decide +kernel
theorem d_M_mapping_54 : decode b_M_mapping 54 = .ok (.aload_n 0, 1) := by decide +kernel
theorem d_M_mapping_55 : decode b_M_mapping 55 = .ok (.getfield 163, 3) := by decide +kernel
theorem d_M_mapping_58 : decode b_M_mapping 58 = .ok (.iconst 1, 1) := by decide +kernel
theorem d_M_mapping_59 : decode b_M_mapping 59 = .ok (.isub, 1) := by decide +kernel
theorem d_M_mapping_60 : decode b_M_mapping 60 = .ok (.ireturn, 1) := by decide +kernel
theorem d_M_map_0 : decode b_M_map 0 = .ok (.aload_n 0, 1) := by decide +kernel
theorem d_M_map_1 : decode b_M_map 1 = .ok (.iconst 0, 1) := by decide +kernel
theorem d_M_map_2 : decode b_M_map 2 = .ok (.putfield 94, 3) := by decide +kernel
theorem d_M_map_5 : decode b_M_map 5 = .ok (.iload_n 1, 1) := by decide +kernel
theorem d_M_map_6 : decode b_M_map 6 = .ok (.ifCond .lt 11, 3) := by decide +kernel
theorem d_M_map_9 : decode b_M_map 9 = .ok (.iload_n 1, 1) := by decide +kernel
theorem d_M_map_10 : decode b_M_map 10 = .ok (.aload_n 0, 1) := by decide +kernel
theorem d_M_map_11 : decode b_M_map 11 = .ok (.getfield 163, 3) := by decide +kernel
theorem d_M_map_14 : decode b_M_map 14 = .ok (.if_icmp .lt 5, 3) := by decide +kernel
theorem d_M_map_17 : decode b_M_map 17 = .ok (.iconst (-1), 1) := by decide +kernel
theorem d_M_map_18 : decode b_M_map 18 = .ok (.ireturn, 1) := by decide +kernel
theorem d_M_map_19 : decode b_M_map 19 = .ok (.aload_n 0, 1) := by decide +kernel
theorem d_M_map_20 : decode b_M_map 20 = .ok (.getfield 75, 3) := by decide +kernel
theorem d_M_map_23 : decode b_M_map 23 = .ok (.iload_n 1, 1) := by decide +kernel
theorem d_M_map_24 : decode b_M_map 24 = .ok (.iaload, 1) := by decide +kernel
theorem d_M_map_25 : decode b_M_map 25 = .ok (.istore_n 2, 1) := by decide +kernel
theorem d_M_map_26 : decode b_M_map 26 = .ok (.aload_n 0, 1) := by decide +kernel
theorem d_M_map_27 : decode b_M_map 27 = .ok (.getfield 17, 3) := by decide +kernel
theorem d_M_map_30 : decode b_M_map 30 = .ok (.iload_n 2, 1) := by decide +kernel
theorem d_M_map_31 : decode b_M_map 31 = .ok (.iaload, 1) := by decide +kernel
theorem d_M_map_32 : decode b_M_map 32 = .ok (.iconst (-1), 1) := by decide +kernel
theorem d_M_map_33 : decode b_M_map 33 = .ok (.if_icmp .eq 25, 3) := by decide +kernel
theorem d_M_map_36 : decode b_M_map 36 = .ok (.aload_n 0, 1) := by decide +kernel
theorem d_M_map_37 : decode b_M_map 37 = .ok (.getfield 7, 3) := by decide +kernel
theorem d_M_map_40 : decode b_M_map 40 = .ok (.iload_n 2, 1) := by decide +kernel
theorem d_M_map_41 : decode b_M_map 41 = .ok (.baload, 1) := by decide +kernel
theorem d_M_map_42 : decode b_M_map 42 = .ok (.ifCond .eq 16, 3) := by decide +kernel
theorem d_M_map_45 : decode b_M_map 45 = .ok (.aload_n 0, 1) := by decide +kernel
theorem d_M_map_46 : decode b_M_map 46 = .ok (.aload_n 0, 1) := by decide +kernel
theorem d_M_map_47 : decode b_M_map 47 = .ok (.getfield 17, 3) := by decide +kernel
theorem d_M_map_50 : decode b_M_map 50 = .ok (.iload_n 2, 1) := by decide +kernel
theorem d_M_map_51 : decode b_M_map 51 = .ok (.iaload, 1) := by decide +kernel
theorem d_M_map_52 : decode b_M_map 52 = .ok (.invokevirtual 141, 3) := by decide +kernel
theorem d_M_map_55 : decode b_M_map 55 = .ok (.ifCond .ne 5, 3) := by decide +kernel
theorem d_M_map_58 : decode b_M_map 58 = .ok (.iconst (-1), 1) := by decide +kernel
theorem d_M_map_59 : decode b_M_map 59 = .ok (.ireturn, 1) := by decide +kernel
theorem d_M_map_60 : decode b_M_map 60 = .ok (.aload_n 0, 1) := by decide +kernel
theorem d_M_map_61 : decode b_M_map 61 = .ok (.iload_n 2, 1) := by decide +kernel
theorem d_M_map_62 : decode b_M_map 62 = .ok (.invokevirtual 160, 3) := by decide +kernel
theorem d_M_map_65 : decode b_M_map 65 = .ok (.istore_n 3, 1) := by decide +kernel
theorem d_M_map_66 : decode b_M_map 66 = .ok (.iconst 0, 1) := by decide +kernel
theorem d_M_map_67 : decode b_M_map 67 = .ok (.istore 4, 2) := by decide +kernel
theorem d_M_map_69 : decode b_M_map 69 = .ok (.iconst 0, 1) := by decide +kernel
theorem d_M_map_70 : decode b_M_map 70 = .ok (.istore 5, 2) := by decide +kernel
theorem d_M_map_72 : decode b_M_map 72 = .ok (.iload 5, 2) := by decide +kernel
theorem d_M_map_74 : decode b_M_map 74 = .ok (.iload_n 3, 1) := by decide +kernel
theorem d_M_map_75 : decode b_M_map 75 = .ok (.if_icmp .ge 38, 3) := by decide +kernel
theorem d_M_map_78 : decode b_M_map 78 = .ok (.iload 4, 2) := by decide +kernel
theorem d_M_map_80 : decode b_M_map 80 = .ok (.aload_n 0, 1) := by decide +kernel
theorem d_M_map_81 : decode b_M_map 81 = .ok (.iload_n 1, 1) := by decide +kernel
theorem d_M_map_82 : decode b_M_map 82 = .ok (.aload_n 0, 1) := by decide +kernel
theorem d_M_map_83 : decode b_M_map 83 = .ok (.getfield 13, 3) := by decide +kernel
theorem d_M_map_86 : decode b_M_map 86 = .ok (.iload_n 2, 1) := by decide +kernel
theorem d_M_map_87 : decode b_M_map 87 = .ok (.laload, 1) := by decide +kernel
theorem d_M_map_88 : decode b_M_map 88 = .ok (.iload 5, 2) := by decide +kernel
theorem d_M_map_90 : decode b_M_map 90 = .ok (.invokestatic 168, 3) := by decide +kernel
theorem d_M_map_93 : decode b_M_map 93 = .ok (.invokevirtual 172, 3) := by decide +kernel
theorem d_M_map_96 : decode b_M_map 96 = .ok (.ifCond .eq 7, 3) := by decide +kernel
theorem d_M_map_99 : decode b_M_map 99 = .ok (.iconst 0, 1) := by decide +kernel
theorem d_M_map_100 : decode b_M_map 100 = .ok (.goto 4, 3) := by decide +kernel
theorem d_M_map_103 : decode b_M_map 103 = .ok (.iconst 1, 1) := by decide +kernel
theorem d_M_map_104 : decode b_M_map 104 = .ok (.iadd, 1) := by decide +kernel
theorem d_M_map_105 : decode b_M_map 105 = .ok (.istore 4, 2) := by decide +kernel
theorem d_M_map_107 : decode b_M_map 107 = .ok (.iinc 5 1, 3) := by decide +kernel
theorem d_M_map_110 : decode b_M_map 110 = .ok (.goto (-38), 3) := by decide +kernel
theorem d_M_map_113 : decode b_M_map 113 = .ok (.iconst 0, 1) := by decide +kernel
theorem d_M_map_114 : decode b_M_map 114 = .ok (.istore 5, 2) := by decide +kernel
theorem d_M_map_116 : decode b_M_map 116 = .ok (.iload 5, 2) := by decide +kernel
theorem d_M_map_118 : decode b_M_map 118 = .ok (.iload_n 3, 1) := by decide +kernel
theorem d_M_map_119 : decode b_M_map 119 = .ok (.if_icmp .ge 64, 3) := by decide +kernel
theorem d_M_map_122 : decode b_M_map 122 = .ok (.aload_n 0, 1) := by decide +kernel
theorem d_M_map_123 : decode b_M_map 123 = .ok (.getfield 84, 3) := by decide +kernel
theorem d_M_map_126 : decode b_M_map 126 = .ok (.iconst 4, 1) := by decide +kernel
theorem d_M_map_127 : decode b_M_map 127 = .ok (.iload_n 1, 1) := by decide +kernel
theorem d_M_map_128 : decode b_M_map 128 = .ok (.imul, 1) := by decide +kernel
theorem d_M_map_129 : decode b_M_map 129 = .ok (.iload 5, 2) := by decide +kernel
theorem d_M_map_131 : decode b_M_map 131 = .ok (.iadd, 1) := by decide +kernel
theorem d_M_map_132 : decode b_M_map 132 = .ok (.aload_n 0, 1) := by decide +kernel
theorem d_M_map_133 : decode b_M_map 133 = .ok (.getfield 13, 3) := by decide +kernel
theorem d_M_map_136 : decode b_M_map 136 = .ok (.iload_n 2, 1) := by decide +kernel
theorem d_M_map_137 : decode b_M_map 137 = .ok (.laload, 1) := by decide +kernel
theorem d_M_map_138 : decode b_M_map 138 = .ok (.iload 5, 2) := by decide +kernel
theorem d_M_map_140 : decode b_M_map 140 = .ok (.invokestatic 168, 3) := by decide +kernel
theorem d_M_map_143 : decode b_M_map 143 = .ok (.lastore, 1) := by decide +kernel
theorem d_M_map_144 : decode b_M_map 144 = .ok (.aload_n 0, 1) := by decide +kernel
theorem d_M_map_145 : decode b_M_map 145 = .ok (.getfield 87, 3) := by decide +kernel
theorem d_M_map_148 : decode b_M_map 148 = .ok (.iconst 4, 1) := by decide +kernel
theorem d_M_map_149 : decode b_M_map 149 = .ok (.iload_n 1, 1) := by decide +kernel
theorem d_M_map_150 : decode b_M_map 150 = .ok (.imul, 1) := by decide +kernel
theorem d_M_map_151 : decode b_M_map 151 = .ok (.iload 5, 2) := by decide +kernel
theorem d_M_map_153 : decode b_M_map 153 = .ok (.iadd, 1) := by decide +kernel
theorem d_M_map_154 : decode b_M_map 154 = .ok (.ldc2_w 176, 3) := by decide +kernel
theorem d_M_map_157 : decode b_M_map 157 = .ok (.aload_n 0, 1) := by decide +kernel
theorem d_M_map_158 : decode b_M_map 158 = .ok (.getfield 13, 3) := by decide +kernel
theorem d_M_map_161 : decode b_M_map 161 = .ok (.iload_n 2, 1) := by decide +kernel
theorem d_M_map_162 : decode b_M_map 162 = .ok (.laload, 1) := by decide +kernel
theorem d_M_map_163 : decode b_M_map 163 = .ok (.iload 5, 2) := by decide +kernel
theorem d_M_map_165 : decode b_M_map 165 = .ok (.invokestatic 168, 3) := by decide +kernel
theorem d_M_map_168 : decode b_M_map 168 = .ok (.lmul, 1) := by decide +kernel
theorem d_M_map_169 : decode b_M_map 169 = .ok (.aload_n 0, 1) := by decide +kernel
theorem d_M_map_170 : decode b_M_map 170 = .ok (.getfield 81, 3) := by decide +kernel
theorem d_M_map_173 : decode b_M_map 173 = .ok (.iload_n 1, 1) := by decide +kernel
theorem d_M_map_174 : decode b_M_map 174 = .ok (.laload, 1) := by decide +kernel
theorem d_M_map_175 : decode b_M_map 175 = .ok (.ladd, 1) := by decide +kernel
theorem d_M_map_176 : decode b_M_map 176 = .ok (.lastore, 1) := by decide +kernel
theorem d_M_map_177 : decode b_M_map 177 = .ok (.iinc 5 1, 3) := by decide +kernel
theorem d_M_map_180 : decode b_M_map 180 = .ok (.goto (-64), 3) := by decide +kernel
theorem d_M_map_183 : decode b_M_map 183 = .ok (.aload_n 0, 1) := by decide +kernel
theorem d_M_map_184 : decode b_M_map 184 = .ok (.getfield 78, 3) := by decide +kernel
theorem d_M_map_187 : decode b_M_map 187 = .ok (.iload_n 1, 1) := by decide +kernel
theorem d_M_map_188 : decode b_M_map 188 = .ok (.iload_n 3, 1) := by decide +kernel
theorem d_M_map_189 : decode b_M_map 189 = .ok (.iastore, 1) := by decide +kernel
theorem d_M_map_190 : decode b_M_map 190 = .ok (.iload 4, 2) := by decide +kernel
theorem d_M_map_192 : decode b_M_map 192 = .ok (.ireturn, 1) := by decide +kernel
theorem d_M_member_0 : decode b_M_member 0 = .ok (.lload_n 0, 1) := by decide +kernel
theorem d_M_member_1 : decode b_M_member 1 = .ok (.iload_n 2, 1) := by decide +kernel
theorem d_M_member_2 : decode b_M_member 2 = .ok (.i2l, 1) := by decide +kernel
theorem d_M_member_3 : decode b_M_member 3 = .ok (.ldc2_w 166, 3) := by decide +kernel
theorem d_M_member_6 : decode b_M_member 6 = .ok (.lmul, 1) := by decide +kernel
theorem d_M_member_7 : decode b_M_member 7 = .ok (.lxor, 1) := by decide +kernel
theorem d_M_member_8 : decode b_M_member 8 = .ok (.lreturn, 1) := by decide +kernel
theorem d_M_isMapped_0 : decode b_M_isMapped 0 = .ok (.iconst 0, 1) := by decide +kernel
theorem d_M_isMapped_1 : decode b_M_isMapped 1 = .ok (.istore 4, 2) := by decide +kernel
theorem d_M_isMapped_3 : decode b_M_isMapped 3 = .ok (.iconst 0, 1) := by decide +kernel
theorem d_M_isMapped_4 : decode b_M_isMapped 4 = .ok (.istore 5, 2) := by decide +kernel
theorem d_M_isMapped_6 : decode b_M_isMapped 6 = .ok (.iload 5, 2) := by decide +kernel
theorem d_M_isMapped_8 : decode b_M_isMapped 8 = .ok (.aload_n 0, 1) := by decide +kernel
theorem d_M_isMapped_9 : decode b_M_isMapped 9 = .ok (.getfield 78, 3) := by decide +kernel
theorem d_M_isMapped_12 : decode b_M_isMapped 12 = .ok (.iload_n 1, 1) := by decide +kernel
theorem d_M_isMapped_13 : decode b_M_isMapped 13 = .ok (.iaload, 1) := by decide +kernel
theorem d_M_isMapped_14 : decode b_M_isMapped 14 = .ok (.if_icmp .ge 37, 3) := by decide +kernel
theorem d_M_isMapped_17 : decode b_M_isMapped 17 = .ok (.iload 4, 2) := by decide +kernel
theorem d_M_isMapped_19 : decode b_M_isMapped 19 = .ok (.ifCond .ne 19, 3) := by decide +kernel
theorem d_M_isMapped_22 : decode b_M_isMapped 22 = .ok (.aload_n 0, 1) := by decide +kernel
theorem d_M_isMapped_23 : decode b_M_isMapped 23 = .ok (.getfield 84, 3) := by decide +kernel
theorem d_M_isMapped_26 : decode b_M_isMapped 26 = .ok (.iconst 4, 1) := by decide +kernel
theorem d_M_isMapped_27 : decode b_M_isMapped 27 = .ok (.iload_n 1, 1) := by decide +kernel
theorem d_M_isMapped_28 : decode b_M_isMapped 28 = .ok (.imul, 1) := by decide +kernel
theorem d_M_isMapped_29 : decode b_M_isMapped 29 = .ok (.iload 5, 2) := by decide +kernel
theorem d_M_isMapped_31 : decode b_M_isMapped 31 = .ok (.iadd, 1) := by decide +kernel
theorem d_M_isMapped_32 : decode b_M_isMapped 32 = .ok (.laload, 1) := by decide +kernel
theorem d_M_isMapped_33 : decode b_M_isMapped 33 = .ok (.lload_n 2, 1) := by decide +kernel
theorem d_M_isMapped_34 : decode b_M_isMapped 34 = .ok (.lcmp, 1) := by decide +kernel
theorem d_M_isMapped_35 : decode b_M_isMapped 35 = .ok (.ifCond .ne 7, 3) := by decide +kernel
theorem d_M_isMapped_38 : decode b_M_isMapped 38 = .ok (.iconst 1, 1) := by decide +kernel
theorem d_M_isMapped_39 : decode b_M_isMapped 39 = .ok (.goto 4, 3) := by decide +kernel
theorem d_M_isMapped_42 : decode b_M_isMapped 42 = .ok (.iconst 0, 1) := by decide +kernel
theorem d_M_isMapped_43 : decode b_M_isMapped 43 = .ok (.istore 4, 2) := by decide +kernel
theorem d_M_isMapped_45 : decode b_M_isMapped 45 = .ok (.iinc 5 1, 3) := by decide +kernel
theorem d_M_isMapped_48 : decode b_M_isMapped 48 = .ok (.goto (-42), 3) := by decide +kernel
theorem d_M_isMapped_51 : decode b_M_isMapped 51 = .ok (.iload 4, 2) := by decide +kernel
theorem d_M_isMapped_53 : decode b_M_isMapped 53 = .ok (.ireturn, 1) := by decide +kernel
theorem d_M_result_0 : decode b_M_result 0 = .ok (.aload_n 0, 1) := by decide +kernel
theorem d_M_result_1 : decode b_M_result 1 = .ok (.iconst 0, 1) := by decide +kernel
theorem d_M_result_2 : decode b_M_result 2 = .ok (.putfield 94, 3) := by decide +kernel
theorem d_M_result_5 : decode b_M_result 5 = .ok (.iload_n 1, 1) := by decide +kernel
theorem d_M_result_6 : decode b_M_result 6 = .ok (.ifCond .lt 25, 3) := by decide +kernel
theorem d_M_result_9 : decode b_M_result 9 = .ok (.iload_n 1, 1) := by decide +kernel
theorem d_M_result_10 : decode b_M_result 10 = .ok (.aload_n 0, 1) := by decide +kernel
theorem d_M_result_11 : decode b_M_result 11 = .ok (.getfield 163, 3) := by decide +kernel
theorem d_M_result_14 : decode b_M_result 14 = .ok (.if_icmp .ge 17, 3) := by decide +kernel
theorem d_M_result_17 : decode b_M_result 17 = .ok (.iload_n 2, 1) := by decide +kernel
theorem d_M_result_18 : decode b_M_result 18 = .ok (.ifCond .lt 13, 3) := by decide +kernel
theorem d_M_result_21 : decode b_M_result 21 = .ok (.iload_n 2, 1) := by decide +kernel
theorem d_M_result_22 : decode b_M_result 22 = .ok (.aload_n 0, 1) := by decide +kernel
theorem d_M_result_23 : decode b_M_result 23 = .ok (.getfield 78, 3) := by decide +kernel
theorem d_M_result_26 : decode b_M_result 26 = .ok (.iload_n 1, 1) := by decide +kernel
theorem d_M_result_27 : decode b_M_result 27 = .ok (.iaload, 1) := by decide +kernel
theorem d_M_result_28 : decode b_M_result 28 = .ok (.if_icmp .lt 7, 3) := by decide +kernel
theorem d_M_result_31 : decode b_M_result 31 = .ok (.lconst 0, 1) := by decide +kernel
theorem d_M_result_32 : decode b_M_result 32 = .ok (.goto 13, 3) := by decide +kernel
theorem d_M_result_35 : decode b_M_result 35 = .ok (.aload_n 0, 1) := by decide +kernel
theorem d_M_result_36 : decode b_M_result 36 = .ok (.getfield 87, 3) := by decide +kernel
theorem d_M_result_39 : decode b_M_result 39 = .ok (.iconst 4, 1) := by decide +kernel
theorem d_M_result_40 : decode b_M_result 40 = .ok (.iload_n 1, 1) := by decide +kernel
theorem d_M_result_41 : decode b_M_result 41 = .ok (.imul, 1) := by decide +kernel
theorem d_M_result_42 : decode b_M_result 42 = .ok (.iload_n 2, 1) := by decide +kernel
theorem d_M_result_43 : decode b_M_result 43 = .ok (.iadd, 1) := by decide +kernel
theorem d_M_result_44 : decode b_M_result 44 = .ok (.laload, 1) := by decide +kernel
theorem d_M_result_45 : decode b_M_result 45 = .ok (.lreturn, 1) := by decide +kernel
