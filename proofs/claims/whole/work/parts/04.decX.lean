/-! decode rows of the class (by program) -/
theorem d_X_init_0 : decode b_X_init 0 = .ok (.aload_n 0, 1) := by decide +kernel
theorem d_X_init_1 : decode b_X_init 1 = .ok (.invokespecial 1, 3) := by decide +kernel
theorem d_X_init_4 : decode b_X_init 4 = .ok (.aload_n 0, 1) := by decide +kernel
theorem d_X_init_5 : decode b_X_init 5 = .ok (.bipush 24, 2) := by decide +kernel
theorem d_X_init_7 : decode b_X_init 7 = .ok (.anewarray 9, 3) := by decide +kernel
theorem d_X_init_10 : decode b_X_init 10 = .ok (.putfield 11, 3) := by decide +kernel
theorem d_X_init_13 : decode b_X_init 13 = .ok (.aload_n 0, 1) := by decide +kernel
theorem d_X_init_14 : decode b_X_init 14 = .ok (.bipush 12, 2) := by decide +kernel
theorem d_X_init_16 : decode b_X_init 16 = .ok (.anewarray 15, 3) := by decide +kernel
theorem d_X_init_19 : decode b_X_init 19 = .ok (.putfield 17, 3) := by decide +kernel
theorem d_X_init_22 : decode b_X_init 22 = .ok (.aload_n 0, 1) := by decide +kernel
theorem d_X_init_23 : decode b_X_init 23 = .ok (.bipush 6, 2) := by decide +kernel
theorem d_X_init_25 : decode b_X_init 25 = .ok (.anewarray 21, 3) := by decide +kernel
theorem d_X_init_28 : decode b_X_init 28 = .ok (.putfield 23, 3) := by decide +kernel
theorem d_X_init_31 : decode b_X_init 31 = .ok (.aload_n 0, 1) := by decide +kernel
theorem d_X_init_32 : decode b_X_init 32 = .ok (.iconst 0, 1) := by decide +kernel
theorem d_X_init_33 : decode b_X_init 33 = .ok (.putfield 27, 3) := by decide +kernel
theorem d_X_init_36 : decode b_X_init 36 = .ok (.aload_n 0, 1) := by decide +kernel
theorem d_X_init_37 : decode b_X_init 37 = .ok (.iconst 0, 1) := by decide +kernel
theorem d_X_init_38 : decode b_X_init 38 = .ok (.putfield 31, 3) := by decide +kernel
theorem d_X_init_41 : decode b_X_init 41 = .ok (.aload_n 0, 1) := by decide +kernel
theorem d_X_init_42 : decode b_X_init 42 = .ok (.iconst 0, 1) := by decide +kernel
theorem d_X_init_43 : decode b_X_init 43 = .ok (.putfield 34, 3) := by decide +kernel
theorem d_X_init_46 : decode b_X_init 46 = .ok (.aload_n 0, 1) := by decide +kernel
theorem d_X_init_47 : decode b_X_init 47 = .ok (.bipush 13, 2) := by decide +kernel
theorem d_X_init_49 : decode b_X_init 49 = .ok (.newarray .int, 2) := by decide +kernel
theorem d_X_init_51 : decode b_X_init 51 = .ok (.putfield 37, 3) := by decide +kernel
theorem d_X_init_54 : decode b_X_init 54 = .ok (.aload_n 0, 1) := by decide +kernel
theorem d_X_init_55 : decode b_X_init 55 = .ok (.iconst 0, 1) := by decide +kernel
theorem d_X_init_56 : decode b_X_init 56 = .ok (.putfield 41, 3) := by decide +kernel
theorem d_X_init_59 : decode b_X_init 59 = .ok (.aload_n 0, 1) := by decide +kernel
theorem d_X_init_60 : decode b_X_init 60 = .ok (.iconst 0, 1) := by decide +kernel
theorem d_X_init_61 : decode b_X_init 61 = .ok (.putfield 44, 3) := by decide +kernel
theorem d_X_init_64 : decode b_X_init 64 = .ok (.aload_n 0, 1) := by decide +kernel
theorem d_X_init_65 : decode b_X_init 65 = .ok (.iconst 1, 1) := by decide +kernel
theorem d_X_init_66 : decode b_X_init 66 = .ok (.bipush 9, 2) := by decide +kernel
theorem d_X_init_68 : decode b_X_init 68 = .ok (.iload_n 1, 1) := by decide +kernel
theorem d_X_init_69 : decode b_X_init 69 = .ok (.invokestatic 47, 3) := by decide +kernel
theorem d_X_init_72 : decode b_X_init 72 = .ok (.invokestatic 53, 3) := by decide +kernel
theorem d_X_init_75 : decode b_X_init 75 = .ok (.putfield 56, 3) := by decide +kernel
theorem d_X_init_78 : decode b_X_init 78 = .ok (.iconst 0, 1) := by decide +kernel
theorem d_X_init_79 : decode b_X_init 79 = .ok (.istore_n 2, 1) := by decide +kernel
theorem d_X_init_80 : decode b_X_init 80 = .ok (.iload_n 2, 1) := by decide +kernel
theorem d_X_init_81 : decode b_X_init 81 = .ok (.bipush 24, 2) := by decide +kernel
theorem d_X_init_83 : decode b_X_init 83 = .ok (.if_icmp .ge 22, 3) := by decide +kernel
theorem d_X_init_86 : decode b_X_init 86 = .ok (.aload_n 0, 1) := by decide +kernel
theorem d_X_init_87 : decode b_X_init 87 = .ok (.getfield 11, 3) := by decide +kernel
theorem d_X_init_90 : decode b_X_init 90 = .ok (.iload_n 2, 1) := by decide +kernel
theorem d_X_init_91 : decode b_X_init 91 = .ok (.new 9, 3) := by decide +kernel
theorem d_X_init_94 : decode b_X_init 94 = .ok (.dup, 1) := by decide +kernel
theorem d_X_init_95 : decode b_X_init 95 = .ok (.invokespecial 59, 3) := by decide +kernel
theorem d_X_init_98 : decode b_X_init 98 = .ok (.aastore, 1) := by decide +kernel
theorem d_X_init_99 : decode b_X_init 99 = .ok (.iinc 2 1, 3) := by decide +kernel
theorem d_X_init_102 : decode b_X_init 102 = .ok (.goto (-22), 3) := by decide +kernel
theorem d_X_init_105 : decode b_X_init 105 = .ok (.iconst 0, 1) := by decide +kernel
theorem d_X_init_106 : decode b_X_init 106 = .ok (.istore_n 2, 1) := by decide +kernel
theorem d_X_init_107 : decode b_X_init 107 = .ok (.iload_n 2, 1) := by decide +kernel
theorem d_X_init_108 : decode b_X_init 108 = .ok (.bipush 12, 2) := by decide +kernel
theorem d_X_init_110 : decode b_X_init 110 = .ok (.if_icmp .ge 22, 3) := by decide +kernel
theorem d_X_init_113 : decode b_X_init 113 = .ok (.aload_n 0, 1) := by decide +kernel
theorem d_X_init_114 : decode b_X_init 114 = .ok (.getfield 17, 3) := by decide +kernel
theorem d_X_init_117 : decode b_X_init 117 = .ok (.iload_n 2, 1) := by decide +kernel
theorem d_X_init_118 : decode b_X_init 118 = .ok (.new 15, 3) := by decide +kernel
theorem d_X_init_121 : decode b_X_init 121 = .ok (.dup, 1) := by decide +kernel
theorem d_X_init_122 : decode b_X_init 122 = .ok (.invokespecial 60, 3) := by decide +kernel
theorem d_X_init_125 : decode b_X_init 125 = .ok (.aastore, 1) := by decide +kernel
theorem d_X_init_126 : decode b_X_init 126 = .ok (.iinc 2 1, 3) := by decide +kernel
theorem d_X_init_129 : decode b_X_init 129 = .ok (.goto (-22), 3) := by decide +kernel
theorem d_X_init_132 : decode b_X_init 132 = .ok (.iconst 0, 1) := by decide +kernel
theorem d_X_init_133 : decode b_X_init 133 = .ok (.istore_n 2, 1) := by decide +kernel
theorem d_X_init_134 : decode b_X_init 134 = .ok (.iload_n 2, 1) := by decide +kernel
theorem d_X_init_135 : decode b_X_init 135 = .ok (.bipush 6, 2) := by decide +kernel
theorem d_X_init_137 : decode b_X_init 137 = .ok (.if_icmp .ge 22, 3) := by decide +kernel
theorem d_X_init_140 : decode b_X_init 140 = .ok (.aload_n 0, 1) := by decide +kernel
theorem d_X_init_141 : decode b_X_init 141 = .ok (.getfield 23, 3) := by decide +kernel
theorem d_X_init_144 : decode b_X_init 144 = .ok (.iload_n 2, 1) := by decide +kernel
theorem d_X_init_145 : decode b_X_init 145 = .ok (.new 21, 3) := by decide +kernel
theorem d_X_init_148 : decode b_X_init 148 = .ok (.dup, 1) := by decide +kernel
theorem d_X_init_149 : decode b_X_init 149 = .ok (.invokespecial 61, 3) := by decide +kernel
theorem d_X_init_152 : decode b_X_init 152 = .ok (.aastore, 1) := by decide +kernel
theorem d_X_init_153 : decode b_X_init 153 = .ok (.iinc 2 1, 3) := by decide +kernel
theorem d_X_init_156 : decode b_X_init 156 = .ok (.goto (-22), 3) := by decide +kernel
theorem d_X_init_159 : decode b_X_init 159 = .ok (.return_, 1) := by decide +kernel
theorem d_J_min_0 : decode b_J_min 0 = .ok (.iload_n 0, 1) := by decide +kernel
theorem d_J_min_1 : decode b_J_min 1 = .ok (.iload_n 1, 1) := by decide +kernel
theorem d_J_min_2 : decode b_J_min 2 = .ok (.if_icmp .gt 7, 3) := by decide +kernel
theorem d_J_min_5 : decode b_J_min 5 = .ok (.iload_n 0, 1) := by decide +kernel
theorem d_J_min_6 : decode b_J_min 6 = .ok (.goto 4, 3) := by decide +kernel
theorem d_J_min_9 : decode b_J_min 9 = .ok (.iload_n 1, 1) := by decide +kernel
theorem d_J_min_10 : decode b_J_min 10 = .ok (.ireturn, 1) := by decide +kernel
theorem d_J_max_0 : decode b_J_max 0 = .ok (.iload_n 0, 1) := by decide +kernel
theorem d_J_max_1 : decode b_J_max 1 = .ok (.iload_n 1, 1) := by decide +kernel
theorem d_J_max_2 : decode b_J_max 2 = .ok (.if_icmp .lt 7, 3) := by decide +kernel
theorem d_J_max_5 : decode b_J_max 5 = .ok (.iload_n 0, 1) := by decide +kernel
theorem d_J_max_6 : decode b_J_max 6 = .ok (.goto 4, 3) := by decide +kernel
theorem d_J_max_9 : decode b_J_max 9 = .ok (.iload_n 1, 1) := by decide +kernel
theorem d_J_max_10 : decode b_J_max 10 = .ok (.ireturn, 1) := by decide +kernel
theorem d_F_init_0 : decode b_F_init 0 = .ok (.aload_n 0, 1) := by decide +kernel
theorem d_F_init_1 : decode b_F_init 1 = .ok (.invokespecial 3, 3) := by decide +kernel
theorem d_F_init_4 : decode b_F_init 4 = .ok (.aload_n 0, 1) := by decide +kernel
theorem d_F_init_5 : decode b_F_init 5 = .ok (.iconst 0, 1) := by decide +kernel
theorem d_F_init_6 : decode b_F_init 6 = .ok (.putfield 9, 3) := by decide +kernel
theorem d_F_init_9 : decode b_F_init 9 = .ok (.aload_n 0, 1) := by decide +kernel
theorem d_F_init_10 : decode b_F_init 10 = .ok (.lconst 0, 1) := by decide +kernel
theorem d_F_init_11 : decode b_F_init 11 = .ok (.putfield 15, 3) := by decide +kernel
theorem d_F_init_14 : decode b_F_init 14 = .ok (.aload_n 0, 1) := by decide +kernel
theorem d_F_init_15 : decode b_F_init 15 = .ok (.iconst (-1), 1) := by decide +kernel
theorem d_F_init_16 : decode b_F_init 16 = .ok (.putfield 19, 3) := by decide +kernel
theorem d_F_init_19 : decode b_F_init 19 = .ok (.return_, 1) := by decide +kernel
theorem d_A_init_0 : decode b_A_init 0 = .ok (.aload_n 0, 1) := by decide +kernel
theorem d_A_init_1 : decode b_A_init 1 = .ok (.invokespecial 3, 3) := by decide +kernel
theorem d_A_init_4 : decode b_A_init 4 = .ok (.aload_n 0, 1) := by decide +kernel
theorem d_A_init_5 : decode b_A_init 5 = .ok (.bipush 12, 2) := by decide +kernel
theorem d_A_init_7 : decode b_A_init 7 = .ok (.newarray .int, 2) := by decide +kernel
theorem d_A_init_9 : decode b_A_init 9 = .ok (.putfield 9, 3) := by decide +kernel
theorem d_A_init_12 : decode b_A_init 12 = .ok (.aload_n 0, 1) := by decide +kernel
theorem d_A_init_13 : decode b_A_init 13 = .ok (.bipush 12, 2) := by decide +kernel
theorem d_A_init_15 : decode b_A_init 15 = .ok (.newarray .int, 2) := by decide +kernel
theorem d_A_init_17 : decode b_A_init 17 = .ok (.putfield 15, 3) := by decide +kernel
theorem d_A_init_20 : decode b_A_init 20 = .ok (.aload_n 0, 1) := by decide +kernel
theorem d_A_init_21 : decode b_A_init 21 = .ok (.iconst 0, 1) := by decide +kernel
theorem d_A_init_22 : decode b_A_init 22 = .ok (.putfield 18, 3) := by decide +kernel
theorem d_A_init_25 : decode b_A_init 25 = .ok (.aload_n 0, 1) := by decide +kernel
theorem d_A_init_26 : decode b_A_init 26 = .ok (.iconst 0, 1) := by decide +kernel
theorem d_A_init_27 : decode b_A_init 27 = .ok (.putfield 22, 3) := by decide +kernel
theorem d_A_init_30 : decode b_A_init 30 = .ok (.aload_n 0, 1) := by decide +kernel
theorem d_A_init_31 : decode b_A_init 31 = .ok (.iconst (-1), 1) := by decide +kernel
theorem d_A_init_32 : decode b_A_init 32 = .ok (.putfield 25, 3) := by decide +kernel
theorem d_A_init_35 : decode b_A_init 35 = .ok (.aload_n 0, 1) := by decide +kernel
theorem d_A_init_36 : decode b_A_init 36 = .ok (.new 28, 3) := by decide +kernel
theorem d_A_init_39 : decode b_A_init 39 = .ok (.dup, 1) := by decide +kernel
theorem d_A_init_40 : decode b_A_init 40 = .ok (.invokespecial 30, 3) := by decide +kernel
theorem d_A_init_43 : decode b_A_init 43 = .ok (.putfield 31, 3) := by decide +kernel
theorem d_A_init_46 : decode b_A_init 46 = .ok (.aload_n 0, 1) := by decide +kernel
theorem d_A_init_47 : decode b_A_init 47 = .ok (.iconst 0, 1) := by decide +kernel
theorem d_A_init_48 : decode b_A_init 48 = .ok (.putfield 35, 3) := by decide +kernel
theorem d_A_init_51 : decode b_A_init 51 = .ok (.aload_n 0, 1) := by decide +kernel
theorem d_A_init_52 : decode b_A_init 52 = .ok (.iconst 0, 1) := by decide +kernel
theorem d_A_init_53 : decode b_A_init 53 = .ok (.putfield 39, 3) := by decide +kernel
theorem d_A_init_56 : decode b_A_init 56 = .ok (.aload_n 0, 1) := by decide +kernel
theorem d_A_init_57 : decode b_A_init 57 = .ok (.lconst 0, 1) := by decide +kernel
theorem d_A_init_58 : decode b_A_init 58 = .ok (.putfield 42, 3) := by decide +kernel
theorem d_A_init_61 : decode b_A_init 61 = .ok (.aload_n 0, 1) := by decide +kernel
theorem d_A_init_62 : decode b_A_init 62 = .ok (.iconst (-1), 1) := by decide +kernel
theorem d_A_init_63 : decode b_A_init 63 = .ok (.putfield 46, 3) := by decide +kernel
theorem d_A_init_66 : decode b_A_init 66 = .ok (.aload_n 0, 1) := by decide +kernel
theorem d_A_init_67 : decode b_A_init 67 = .ok (.iconst 0, 1) := by decide +kernel
theorem d_A_init_68 : decode b_A_init 68 = .ok (.putfield 49, 3) := by decide +kernel
theorem d_A_init_71 : decode b_A_init 71 = .ok (.aload_n 0, 1) := by decide +kernel
theorem d_A_init_72 : decode b_A_init 72 = .ok (.iconst 0, 1) := by decide +kernel
theorem d_A_init_73 : decode b_A_init 73 = .ok (.putfield 52, 3) := by decide +kernel
theorem d_A_init_76 : decode b_A_init 76 = .ok (.aload_n 0, 1) := by decide +kernel
theorem d_A_init_77 : decode b_A_init 77 = .ok (.iconst 0, 1) := by decide +kernel
theorem d_A_init_78 : decode b_A_init 78 = .ok (.putfield 55, 3) := by decide +kernel
theorem d_A_init_81 : decode b_A_init 81 = .ok (.return_, 1) := by decide +kernel
theorem d_N_init_0 : decode b_N_init 0 = .ok (.aload_n 0, 1) := by decide +kernel
theorem d_N_init_1 : decode b_N_init 1 = .ok (.invokespecial 3, 3) := by decide +kernel
theorem d_N_init_4 : decode b_N_init 4 = .ok (.aload_n 0, 1) := by decide +kernel
theorem d_N_init_5 : decode b_N_init 5 = .ok (.bipush 12, 2) := by decide +kernel
theorem d_N_init_7 : decode b_N_init 7 = .ok (.newarray .int, 2) := by decide +kernel
theorem d_N_init_9 : decode b_N_init 9 = .ok (.putfield 9, 3) := by decide +kernel
theorem d_N_init_12 : decode b_N_init 12 = .ok (.aload_n 0, 1) := by decide +kernel
theorem d_N_init_13 : decode b_N_init 13 = .ok (.bipush 12, 2) := by decide +kernel
theorem d_N_init_15 : decode b_N_init 15 = .ok (.newarray .boolean, 2) := by decide +kernel
theorem d_N_init_17 : decode b_N_init 17 = .ok (.putfield 15, 3) := by decide +kernel
theorem d_N_init_20 : decode b_N_init 20 = .ok (.aload_n 0, 1) := by decide +kernel
theorem d_N_init_21 : decode b_N_init 21 = .ok (.bipush 12, 2) := by decide +kernel
theorem d_N_init_23 : decode b_N_init 23 = .ok (.newarray .boolean, 2) := by decide +kernel
theorem d_N_init_25 : decode b_N_init 25 = .ok (.putfield 19, 3) := by decide +kernel
theorem d_N_init_28 : decode b_N_init 28 = .ok (.aload_n 0, 1) := by decide +kernel
theorem d_N_init_29 : decode b_N_init 29 = .ok (.bipush 12, 2) := by decide +kernel
theorem d_N_init_31 : decode b_N_init 31 = .ok (.newarray .long, 2) := by decide +kernel
theorem d_N_init_33 : decode b_N_init 33 = .ok (.putfield 22, 3) := by decide +kernel
theorem d_N_init_36 : decode b_N_init 36 = .ok (.aload_n 0, 1) := by decide +kernel
theorem d_N_init_37 : decode b_N_init 37 = .ok (.iconst 0, 1) := by decide +kernel
theorem d_N_init_38 : decode b_N_init 38 = .ok (.putfield 26, 3) := by decide +kernel
theorem d_N_init_41 : decode b_N_init 41 = .ok (.return_, 1) := by decide +kernel
theorem d_G_init_0 : decode b_G_init 0 = .ok (.aload_n 0, 1) := by decide +kernel
theorem d_G_init_1 : decode b_G_init 1 = .ok (.invokespecial 3, 3) := by decide +kernel
theorem d_G_init_4 : decode b_G_init 4 = .ok (.aload_n 0, 1) := by decide +kernel
theorem d_G_init_5 : decode b_G_init 5 = .ok (.iconst 0, 1) := by decide +kernel
theorem d_G_init_6 : decode b_G_init 6 = .ok (.putfield 9, 3) := by decide +kernel
theorem d_G_init_9 : decode b_G_init 9 = .ok (.aload_n 0, 1) := by decide +kernel
theorem d_G_init_10 : decode b_G_init 10 = .ok (.lconst 0, 1) := by decide +kernel
theorem d_G_init_11 : decode b_G_init 11 = .ok (.putfield 15, 3) := by decide +kernel
theorem d_G_init_14 : decode b_G_init 14 = .ok (.aload_n 0, 1) := by decide +kernel
theorem d_G_init_15 : decode b_G_init 15 = .ok (.lconst 0, 1) := by decide +kernel
theorem d_G_init_16 : decode b_G_init 16 = .ok (.putfield 19, 3) := by decide +kernel
theorem d_G_init_19 : decode b_G_init 19 = .ok (.aload_n 0, 1) := by decide +kernel
theorem d_G_init_20 : decode b_G_init 20 = .ok (.iconst 0, 1) := by decide +kernel
theorem d_G_init_21 : decode b_G_init 21 = .ok (.putfield 22, 3) := by decide +kernel
theorem d_G_init_24 : decode b_G_init 24 = .ok (.return_, 1) := by decide +kernel
theorem d_X_file_0 : decode b_X_file 0 = .ok (.aload_n 0, 1) := by decide +kernel
theorem d_X_file_1 : decode b_X_file 1 = .ok (.getfield 27, 3) := by decide +kernel
theorem d_X_file_4 : decode b_X_file 4 = .ok (.bipush 24, 2) := by decide +kernel
theorem d_X_file_6 : decode b_X_file 6 = .ok (.if_icmp .lt 5, 3) := by decide +kernel
theorem d_X_file_9 : decode b_X_file 9 = .ok (.iconst (-1), 1) := by decide +kernel
theorem d_X_file_10 : decode b_X_file 10 = .ok (.ireturn, 1) := by decide +kernel
theorem d_X_file_11 : decode b_X_file 11 = .ok (.aload_n 0, 1) := by decide +kernel
theorem d_X_file_12 : decode b_X_file 12 = .ok (.getfield 11, 3) := by decide +kernel
theorem d_X_file_15 : decode b_X_file 15 = .ok (.aload_n 0, 1) := by decide +kernel
theorem d_X_file_16 : decode b_X_file 16 = .ok (.getfield 27, 3) := by decide +kernel
theorem d_X_file_19 : decode b_X_file 19 = .ok (.aaload, 1) := by decide +kernel
theorem d_X_file_20 : decode b_X_file 20 = .ok (.lload_n 1, 1) := by decide +kernel
theorem d_X_file_21 : decode b_X_file 21 = .ok (.invokevirtual 62, 3) := by decide +kernel
theorem d_X_file_24 : decode b_X_file 24 = .ok (.aload_n 0, 1) := by decide +kernel
theorem d_X_file_25 : decode b_X_file 25 = .ok (.dup, 1) := by decide +kernel
theorem d_X_file_26 : decode b_X_file 26 = .ok (.getfield 27, 3) := by decide +kernel
theorem d_X_file_29 : decode b_X_file 29 = .ok (.iconst 1, 1) := by decide +kernel
theorem d_X_file_30 : decode b_X_file 30 = .ok (.iadd, 1) := by decide +kernel
theorem d_X_file_31 : decode b_X_file 31 = .ok (.putfield 27, 3) := by decide +kernel
theorem d_X_file_34 : decode b_X_file 34 = .ok (.aload_n 0, 1) := by decide +kernel
theorem d_X_file_35 : decode b_X_file 35 = .ok (.getfield 27, 3) := by decide +kernel
theorem d_X_file_38 : decode b_X_file 38 = .ok (.iconst 1, 1) := by decide +kernel
theorem d_X_file_39 : decode b_X_file 39 = .ok (.isub, 1) := by decide +kernel
theorem d_X_file_40 : decode b_X_file 40 = .ok (.ireturn, 1) := by decide +kernel
theorem d_F_put_0 : decode b_F_put 0 = .ok (.aload_n 0, 1) := by decide +kernel
theorem d_F_put_1 : decode b_F_put 1 = .ok (.iconst 1, 1) := by decide +kernel
theorem d_F_put_2 : decode b_F_put 2 = .ok (.putfield 9, 3) := by decide +kernel
theorem d_F_put_5 : decode b_F_put 5 = .ok (.aload_n 0, 1) := by decide +kernel
theorem d_F_put_6 : decode b_F_put 6 = .ok (.lload_n 1, 1) := by decide +kernel
theorem d_F_put_7 : decode b_F_put 7 = .ok (.putfield 15, 3) := by decide +kernel
theorem d_F_put_10 : decode b_F_put 10 = .ok (.return_, 1) := by decide +kernel
theorem d_X_change_0 : decode b_X_change 0 = .ok (.aload_n 0, 1) := by decide +kernel
theorem d_X_change_1 : decode b_X_change 1 = .ok (.iload_n 1, 1) := by decide +kernel
theorem d_X_change_2 : decode b_X_change 2 = .ok (.invokevirtual 66, 3) := by decide +kernel
theorem d_X_change_5 : decode b_X_change 5 = .ok (.ifCond .eq 15, 3) := by decide +kernel
theorem d_X_change_8 : decode b_X_change 8 = .ok (.aload_n 0, 1) := by decide +kernel
theorem d_X_change_9 : decode b_X_change 9 = .ok (.getfield 11, 3) := by decide +kernel
theorem d_X_change_12 : decode b_X_change 12 = .ok (.iload_n 1, 1) := by decide +kernel
theorem d_X_change_13 : decode b_X_change 13 = .ok (.aaload, 1) := by decide +kernel
theorem d_X_change_14 : decode b_X_change 14 = .ok (.invokevirtual 70, 3) := by decide +kernel
theorem d_X_change_17 : decode b_X_change 17 = .ok (.ifCond .eq 5, 3) := by decide +kernel
theorem d_X_change_20 : decode b_X_change 20 = .ok (.iconst 0, 1) := by decide +kernel
theorem d_X_change_21 : decode b_X_change 21 = .ok (.ireturn, 1) := by decide +kernel
theorem d_X_change_22 : decode b_X_change 22 = .ok (.iload_n 2, 1) := by decide +kernel
theorem d_X_change_23 : decode b_X_change 23 = .ok (.ifCond .eq 16, 3) := by decide +kernel
theorem d_X_change_26 : decode b_X_change 26 = .ok (.aload_n 0, 1) := by decide +kernel
theorem d_X_change_27 : decode b_X_change 27 = .ok (.getfield 11, 3) := by decide +kernel
theorem d_X_change_30 : decode b_X_change 30 = .ok (.iload_n 1, 1) := by decide +kernel
theorem d_X_change_31 : decode b_X_change 31 = .ok (.aaload, 1) := by decide +kernel
theorem d_X_change_32 : decode b_X_change 32 = .ok (.lload_n 3, 1) := by decide +kernel
theorem d_X_change_33 : decode b_X_change 33 = .ok (.invokevirtual 62, 3) := by decide +kernel
theorem d_X_change_36 : decode b_X_change 36 = .ok (.goto 12, 3) := by decide +kernel
theorem d_X_change_39 : decode b_X_change 39 = .ok (.aload_n 0, 1) := by decide +kernel
theorem d_X_change_40 : decode b_X_change 40 = .ok (.getfield 11, 3) := by decide +kernel
theorem d_X_change_43 : decode b_X_change 43 = .ok (.iload_n 1, 1) := by decide +kernel
theorem d_X_change_44 : decode b_X_change 44 = .ok (.aaload, 1) := by decide +kernel
theorem d_X_change_45 : decode b_X_change 45 = .ok (.invokevirtual 74, 3) := by decide +kernel
theorem d_X_change_48 : decode b_X_change 48 = .ok (.iconst 1, 1) := by decide +kernel
theorem d_X_change_49 : decode b_X_change 49 = .ok (.ireturn, 1) := by decide +kernel
theorem d_X_isFile_0 : decode b_X_isFile 0 = .ok (.iload_n 1, 1) := by decide +kernel
theorem d_X_isFile_1 : decode b_X_isFile 1 = .ok (.ifCond .lt 15, 3) := by decide +kernel
theorem d_X_isFile_4 : decode b_X_isFile 4 = .ok (.iload_n 1, 1) := by decide +kernel
theorem d_X_isFile_5 : decode b_X_isFile 5 = .ok (.aload_n 0, 1) := by decide +kernel
theorem d_X_isFile_6 : decode b_X_isFile 6 = .ok (.getfield 27, 3) := by decide +kernel
theorem d_X_isFile_9 : decode b_X_isFile 9 = .ok (.if_icmp .ge 7, 3) := by decide +kernel
theorem d_X_isFile_12 : decode b_X_isFile 12 = .ok (.iconst 1, 1) := by decide +kernel
theorem d_X_isFile_13 : decode b_X_isFile 13 = .ok (.goto 4, 3) := by decide +kernel
theorem d_X_isFile_16 : decode b_X_isFile 16 = .ok (.iconst 0, 1) := by decide +kernel
theorem d_X_isFile_17 : decode b_X_isFile 17 = .ok (.ireturn, 1) := by decide +kernel
theorem d_F_isMade_0 : decode b_F_isMade 0 = .ok (.aload_n 0, 1) := by decide +kernel
theorem d_F_isMade_1 : decode b_F_isMade 1 = .ok (.getfield 19, 3) := by decide +kernel
theorem d_F_isMade_4 : decode b_F_isMade 4 = .ok (.iconst (-1), 1) := by decide +kernel
theorem d_F_isMade_5 : decode b_F_isMade 5 = .ok (.if_icmp .eq 7, 3) := by decide +kernel
theorem d_F_isMade_8 : decode b_F_isMade 8 = .ok (.iconst 1, 1) := by decide +kernel
theorem d_F_isMade_9 : decode b_F_isMade 9 = .ok (.goto 4, 3) := by decide +kernel
theorem d_F_isMade_12 : decode b_F_isMade 12 = .ok (.iconst 0, 1) := by decide +kernel
theorem d_F_isMade_13 : decode b_F_isMade 13 = .ok (.ireturn, 1) := by decide +kernel
theorem d_F_remove_0 : decode b_F_remove 0 = .ok (.aload_n 0, 1) := by decide +kernel
theorem d_F_remove_1 : decode b_F_remove 1 = .ok (.iconst 0, 1) := by decide +kernel
theorem d_F_remove_2 : decode b_F_remove 2 = .ok (.putfield 9, 3) := by decide +kernel
theorem d_F_remove_5 : decode b_F_remove 5 = .ok (.aload_n 0, 1) := by decide +kernel
theorem d_F_remove_6 : decode b_F_remove 6 = .ok (.lconst 0, 1) := by decide +kernel
theorem d_F_remove_7 : decode b_F_remove 7 = .ok (.putfield 15, 3) := by decide +kernel
theorem d_F_remove_10 : decode b_F_remove 10 = .ok (.return_, 1) := by decide +kernel
theorem d_X_action_0 : decode b_X_action 0 = .ok (.aload_n 0, 1) := by decide +kernel
theorem d_X_action_1 : decode b_X_action 1 = .ok (.getfield 31, 3) := by decide +kernel
theorem d_X_action_4 : decode b_X_action 4 = .ok (.bipush 12, 2) := by decide +kernel
theorem d_X_action_6 : decode b_X_action 6 = .ok (.if_icmp .lt 5, 3) := by decide +kernel
theorem d_X_action_9 : decode b_X_action 9 = .ok (.iconst (-1), 1) := by decide +kernel
theorem d_X_action_10 : decode b_X_action 10 = .ok (.ireturn, 1) := by decide +kernel
theorem d_X_action_11 : decode b_X_action 11 = .ok (.aload_n 0, 1) := by decide +kernel
theorem d_X_action_12 : decode b_X_action 12 = .ok (.getfield 17, 3) := by decide +kernel
theorem d_X_action_15 : decode b_X_action 15 = .ok (.aload_n 0, 1) := by decide +kernel
theorem d_X_action_16 : decode b_X_action 16 = .ok (.getfield 31, 3) := by decide +kernel
theorem d_X_action_19 : decode b_X_action 19 = .ok (.aaload, 1) := by decide +kernel
theorem d_X_action_20 : decode b_X_action 20 = .ok (.iload_n 1, 1) := by decide +kernel
theorem d_X_action_21 : decode b_X_action 21 = .ok (.putfield 77, 3) := by decide +kernel
theorem d_X_action_24 : decode b_X_action 24 = .ok (.aload_n 0, 1) := by decide +kernel
theorem d_X_action_25 : decode b_X_action 25 = .ok (.dup, 1) := by decide +kernel
theorem d_X_action_26 : decode b_X_action 26 = .ok (.getfield 31, 3) := by decide +kernel
theorem d_X_action_29 : decode b_X_action 29 = .ok (.iconst 1, 1) := by decide +kernel
theorem d_X_action_30 : decode b_X_action 30 = .ok (.iadd, 1) := by decide +kernel
theorem d_X_action_31 : decode b_X_action 31 = .ok (.putfield 31, 3) := by decide +kernel
theorem d_X_action_34 : decode b_X_action 34 = .ok (.aload_n 0, 1) := by decide +kernel
theorem d_X_action_35 : decode b_X_action 35 = .ok (.getfield 31, 3) := by decide +kernel
theorem d_X_action_38 : decode b_X_action 38 = .ok (.iconst 1, 1) := by decide +kernel
theorem d_X_action_39 : decode b_X_action 39 = .ok (.isub, 1) := by decide +kernel
theorem d_X_action_40 : decode b_X_action 40 = .ok (.ireturn, 1) := by decide +kernel
theorem d_X_makes_0 : decode b_X_makes 0 = .ok (.aload_n 0, 1) := by decide +kernel
theorem d_X_makes_1 : decode b_X_makes 1 = .ok (.iload_n 1, 1) := by decide +kernel
theorem d_X_makes_2 : decode b_X_makes 2 = .ok (.invokevirtual 80, 3) := by decide +kernel
theorem d_X_makes_5 : decode b_X_makes 5 = .ok (.ifCond .eq 11, 3) := by decide +kernel
theorem d_X_makes_8 : decode b_X_makes 8 = .ok (.aload_n 0, 1) := by decide +kernel
theorem d_X_makes_9 : decode b_X_makes 9 = .ok (.iload_n 2, 1) := by decide +kernel
theorem d_X_makes_10 : decode b_X_makes 10 = .ok (.invokevirtual 66, 3) := by decide +kernel
theorem d_X_makes_13 : decode b_X_makes 13 = .ok (.ifCond .ne 5, 3) := by decide +kernel
theorem d_X_makes_16 : decode b_X_makes 16 = .ok (.iconst 0, 1) := by decide +kernel
theorem d_X_makes_17 : decode b_X_makes 17 = .ok (.ireturn, 1) := by decide +kernel
theorem d_X_makes_18 : decode b_X_makes 18 = .ok (.aload_n 0, 1) := by decide +kernel
theorem d_X_makes_19 : decode b_X_makes 19 = .ok (.getfield 17, 3) := by decide +kernel
theorem d_X_makes_22 : decode b_X_makes 22 = .ok (.iload_n 1, 1) := by decide +kernel
theorem d_X_makes_23 : decode b_X_makes 23 = .ok (.aaload, 1) := by decide +kernel
theorem d_X_makes_24 : decode b_X_makes 24 = .ok (.getfield 83, 3) := by decide +kernel
theorem d_X_makes_27 : decode b_X_makes 27 = .ok (.iconst (-1), 1) := by decide +kernel
theorem d_X_makes_28 : decode b_X_makes 28 = .ok (.if_icmp .ne 15, 3) := by decide +kernel
theorem d_X_makes_31 : decode b_X_makes 31 = .ok (.aload_n 0, 1) := by decide +kernel
theorem d_X_makes_32 : decode b_X_makes 32 = .ok (.getfield 11, 3) := by decide +kernel
theorem d_X_makes_35 : decode b_X_makes 35 = .ok (.iload_n 2, 1) := by decide +kernel
theorem d_X_makes_36 : decode b_X_makes 36 = .ok (.aaload, 1) := by decide +kernel
theorem d_X_makes_37 : decode b_X_makes 37 = .ok (.invokevirtual 70, 3) := by decide +kernel
theorem d_X_makes_40 : decode b_X_makes 40 = .ok (.ifCond .eq 5, 3) := by decide +kernel
theorem d_X_makes_43 : decode b_X_makes 43 = .ok (.iconst 0, 1) := by decide +kernel
theorem d_X_makes_44 : decode b_X_makes 44 = .ok (.ireturn, 1) := by decide +kernel
theorem d_X_makes_45 : decode b_X_makes 45 = .ok (.aload_n 0, 1) := by decide +kernel
theorem d_X_makes_46 : decode b_X_makes 46 = .ok (.getfield 17, 3) := by decide +kernel
theorem d_X_makes_49 : decode b_X_makes 49 = .ok (.iload_n 1, 1) := by decide +kernel
theorem d_X_makes_50 : decode b_X_makes 50 = .ok (.aaload, 1) := by decide +kernel
theorem d_X_makes_51 : decode b_X_makes 51 = .ok (.iload_n 2, 1) := by decide +kernel
theorem d_X_makes_52 : decode b_X_makes 52 = .ok (.putfield 83, 3) := by decide +kernel
theorem d_X_makes_55 : decode b_X_makes 55 = .ok (.aload_n 0, 1) := by decide +kernel
theorem d_X_makes_56 : decode b_X_makes 56 = .ok (.getfield 17, 3) := by decide +kernel
theorem d_X_makes_59 : decode b_X_makes 59 = .ok (.iload_n 1, 1) := by decide +kernel
theorem d_X_makes_60 : decode b_X_makes 60 = .ok (.aaload, 1) := by decide +kernel
theorem d_X_makes_61 : decode b_X_makes 61 = .ok (.invokevirtual 86, 3) := by decide +kernel
theorem d_X_makes_64 : decode b_X_makes 64 = .ok (.aload_n 0, 1) := by decide +kernel
theorem d_X_makes_65 : decode b_X_makes 65 = .ok (.getfield 11, 3) := by decide +kernel
theorem d_X_makes_68 : decode b_X_makes 68 = .ok (.iload_n 2, 1) := by decide +kernel
theorem d_X_makes_69 : decode b_X_makes 69 = .ok (.aaload, 1) := by decide +kernel
theorem d_X_makes_70 : decode b_X_makes 70 = .ok (.iload_n 1, 1) := by decide +kernel
theorem d_X_makes_71 : decode b_X_makes 71 = .ok (.putfield 89, 3) := by decide +kernel
theorem d_X_makes_74 : decode b_X_makes 74 = .ok (.aload_n 0, 1) := by decide +kernel
theorem d_X_makes_75 : decode b_X_makes 75 = .ok (.getfield 11, 3) := by decide +kernel
theorem d_X_makes_78 : decode b_X_makes 78 = .ok (.iload_n 2, 1) := by decide +kernel
theorem d_X_makes_79 : decode b_X_makes 79 = .ok (.aaload, 1) := by decide +kernel
theorem d_X_makes_80 : decode b_X_makes 80 = .ok (.invokevirtual 74, 3) := by decide +kernel
theorem d_X_makes_83 : decode b_X_makes 83 = .ok (.iconst 1, 1) := by decide +kernel
theorem d_X_makes_84 : decode b_X_makes 84 = .ok (.ireturn, 1) := by decide +kernel
theorem d_X_isAction_0 : decode b_X_isAction 0 = .ok (.iload_n 1, 1) := by decide +kernel
theorem d_X_isAction_1 : decode b_X_isAction 1 = .ok (.ifCond .lt 15, 3) := by decide +kernel
theorem d_X_isAction_4 : decode b_X_isAction 4 = .ok (.iload_n 1, 1) := by decide +kernel
theorem d_X_isAction_5 : decode b_X_isAction 5 = .ok (.aload_n 0, 1) := by decide +kernel
theorem d_X_isAction_6 : decode b_X_isAction 6 = .ok (.getfield 31, 3) := by decide +kernel
theorem d_X_isAction_9 : decode b_X_isAction 9 = .ok (.if_icmp .ge 7, 3) := by decide +kernel
theorem d_X_isAction_12 : decode b_X_isAction 12 = .ok (.iconst 1, 1) := by decide +kernel
theorem d_X_isAction_13 : decode b_X_isAction 13 = .ok (.goto 4, 3) := by decide +kernel
theorem d_X_isAction_16 : decode b_X_isAction 16 = .ok (.iconst 0, 1) := by decide +kernel
theorem d_X_isAction_17 : decode b_X_isAction 17 = .ok (.ireturn, 1) := by decide +kernel
theorem d_A_forget_0 : decode b_A_forget 0 = .ok (.aload_n 0, 1) := by decide +kernel
theorem d_A_forget_1 : decode b_A_forget 1 = .ok (.iconst 0, 1) := by decide +kernel
theorem d_A_forget_2 : decode b_A_forget 2 = .ok (.putfield 35, 3) := by decide +kernel
theorem d_A_forget_5 : decode b_A_forget 5 = .ok (.aload_n 0, 1) := by decide +kernel
theorem d_A_forget_6 : decode b_A_forget 6 = .ok (.getfield 31, 3) := by decide +kernel
theorem d_A_forget_9 : decode b_A_forget 9 = .ok (.iconst 0, 1) := by decide +kernel
theorem d_A_forget_10 : decode b_A_forget 10 = .ok (.putfield 63, 3) := by decide +kernel
theorem d_A_forget_13 : decode b_A_forget 13 = .ok (.return_, 1) := by decide +kernel
theorem d_X_row_0 : decode b_X_row 0 = .ok (.aload_n 0, 1) := by decide +kernel
theorem d_X_row_1 : decode b_X_row 1 = .ok (.iload_n 1, 1) := by decide +kernel
theorem d_X_row_2 : decode b_X_row 2 = .ok (.invokevirtual 80, 3) := by decide +kernel
theorem d_X_row_5 : decode b_X_row 5 = .ok (.ifCond .eq 12, 3) := by decide +kernel
theorem d_X_row_8 : decode b_X_row 8 = .ok (.aload_n 0, 1) := by decide +kernel
theorem d_X_row_9 : decode b_X_row 9 = .ok (.iload_n 2, 1) := by decide +kernel
theorem d_X_row_10 : decode b_X_row 10 = .ok (.iload_n 3, 1) := by decide +kernel
theorem d_X_row_11 : decode b_X_row 11 = .ok (.invokevirtual 92, 3) := by decide +kernel
theorem d_X_row_14 : decode b_X_row 14 = .ok (.ifCond .ne 5, 3) := by decide +kernel
theorem d_X_row_17 : decode b_X_row 17 = .ok (.iconst 0, 1) := by decide +kernel
theorem d_X_row_18 : decode b_X_row 18 = .ok (.ireturn, 1) := by decide +kernel
theorem d_X_row_19 : decode b_X_row 19 = .ok (.aload_n 0, 1) := by decide +kernel
theorem d_X_row_20 : decode b_X_row 20 = .ok (.getfield 17, 3) := by decide +kernel
theorem d_X_row_23 : decode b_X_row 23 = .ok (.iload_n 1, 1) := by decide +kernel
theorem d_X_row_24 : decode b_X_row 24 = .ok (.aaload, 1) := by decide +kernel
theorem d_X_row_25 : decode b_X_row 25 = .ok (.iload_n 2, 1) := by decide +kernel
theorem d_X_row_26 : decode b_X_row 26 = .ok (.iload_n 3, 1) := by decide +kernel
theorem d_X_row_27 : decode b_X_row 27 = .ok (.invokevirtual 96, 3) := by decide +kernel
theorem d_X_row_30 : decode b_X_row 30 = .ok (.ireturn, 1) := by decide +kernel
theorem d_X_isRow_0 : decode b_X_isRow 0 = .ok (.iload_n 1, 1) := by decide +kernel
theorem d_X_isRow_1 : decode b_X_isRow 1 = .ok (.iconst 2, 1) := by decide +kernel
theorem d_X_isRow_2 : decode b_X_isRow 2 = .ok (.if_icmp .ne 20, 3) := by decide +kernel
theorem d_X_isRow_5 : decode b_X_isRow 5 = .ok (.iload_n 2, 1) := by decide +kernel
theorem d_X_isRow_6 : decode b_X_isRow 6 = .ok (.iconst 1, 1) := by decide +kernel
theorem d_X_isRow_7 : decode b_X_isRow 7 = .ok (.if_icmp .lt 13, 3) := by decide +kernel
theorem d_X_isRow_10 : decode b_X_isRow 10 = .ok (.iload_n 2, 1) := by decide +kernel
theorem d_X_isRow_11 : decode b_X_isRow 11 = .ok (.bipush 8, 2) := by decide +kernel
theorem d_X_isRow_13 : decode b_X_isRow 13 = .ok (.if_icmp .gt 7, 3) := by decide +kernel
theorem d_X_isRow_16 : decode b_X_isRow 16 = .ok (.iconst 1, 1) := by decide +kernel
theorem d_X_isRow_17 : decode b_X_isRow 17 = .ok (.goto 4, 3) := by decide +kernel
theorem d_X_isRow_20 : decode b_X_isRow 20 = .ok (.iconst 0, 1) := by decide +kernel
theorem d_X_isRow_21 : decode b_X_isRow 21 = .ok (.ireturn, 1) := by decide +kernel
theorem d_X_isRow_22 : decode b_X_isRow 22 = .ok (.iload_n 1, 1) := by decide +kernel
theorem d_X_isRow_23 : decode b_X_isRow 23 = .ok (.ifCond .eq 8, 3) := by decide +kernel
theorem d_X_isRow_26 : decode b_X_isRow 26 = .ok (.iload_n 1, 1) := by decide +kernel
theorem d_X_isRow_27 : decode b_X_isRow 27 = .ok (.iconst 1, 1) := by decide +kernel
theorem d_X_isRow_28 : decode b_X_isRow 28 = .ok (.if_icmp .ne 15, 3) := by decide +kernel
theorem d_X_isRow_31 : decode b_X_isRow 31 = .ok (.aload_n 0, 1) := by decide +kernel
theorem d_X_isRow_32 : decode b_X_isRow 32 = .ok (.iload_n 2, 1) := by decide +kernel
theorem d_X_isRow_33 : decode b_X_isRow 33 = .ok (.invokevirtual 66, 3) := by decide +kernel
theorem d_X_isRow_36 : decode b_X_isRow 36 = .ok (.ifCond .eq 7, 3) := by decide +kernel
theorem d_X_isRow_39 : decode b_X_isRow 39 = .ok (.iconst 1, 1) := by decide +kernel
theorem d_X_isRow_40 : decode b_X_isRow 40 = .ok (.goto 4, 3) := by decide +kernel
theorem d_X_isRow_43 : decode b_X_isRow 43 = .ok (.iconst 0, 1) := by decide +kernel
theorem d_X_isRow_44 : decode b_X_isRow 44 = .ok (.ireturn, 1) := by decide +kernel
theorem d_A_addRow_0 : decode b_A_addRow 0 = .ok (.aload_n 0, 1) := by decide +kernel
theorem d_A_addRow_1 : decode b_A_addRow 1 = .ok (.getfield 18, 3) := by decide +kernel
theorem d_A_addRow_4 : decode b_A_addRow 4 = .ok (.bipush 12, 2) := by decide +kernel
theorem d_A_addRow_6 : decode b_A_addRow 6 = .ok (.if_icmp .lt 5, 3) := by decide +kernel
theorem d_A_addRow_9 : decode b_A_addRow 9 = .ok (.iconst 0, 1) := by decide +kernel
theorem d_A_addRow_10 : decode b_A_addRow 10 = .ok (.ireturn, 1) := by decide +kernel
theorem d_A_addRow_11 : decode b_A_addRow 11 = .ok (.aload_n 0, 1) := by decide +kernel
theorem d_A_addRow_12 : decode b_A_addRow 12 = .ok (.getfield 9, 3) := by decide +kernel
theorem d_A_addRow_15 : decode b_A_addRow 15 = .ok (.aload_n 0, 1) := by decide +kernel
theorem d_A_addRow_16 : decode b_A_addRow 16 = .ok (.getfield 18, 3) := by decide +kernel
theorem d_A_addRow_19 : decode b_A_addRow 19 = .ok (.iload_n 1, 1) := by decide +kernel
theorem d_A_addRow_20 : decode b_A_addRow 20 = .ok (.iastore, 1) := by decide +kernel
theorem d_A_addRow_21 : decode b_A_addRow 21 = .ok (.aload_n 0, 1) := by decide +kernel
theorem d_A_addRow_22 : decode b_A_addRow 22 = .ok (.getfield 15, 3) := by decide +kernel
theorem d_A_addRow_25 : decode b_A_addRow 25 = .ok (.aload_n 0, 1) := by decide +kernel
theorem d_A_addRow_26 : decode b_A_addRow 26 = .ok (.getfield 18, 3) := by decide +kernel
theorem d_A_addRow_29 : decode b_A_addRow 29 = .ok (.iload_n 2, 1) := by decide +kernel
theorem d_A_addRow_30 : decode b_A_addRow 30 = .ok (.iastore, 1) := by decide +kernel
theorem d_A_addRow_31 : decode b_A_addRow 31 = .ok (.aload_n 0, 1) := by decide +kernel
theorem d_A_addRow_32 : decode b_A_addRow 32 = .ok (.dup, 1) := by decide +kernel
theorem d_A_addRow_33 : decode b_A_addRow 33 = .ok (.getfield 18, 3) := by decide +kernel
theorem d_A_addRow_36 : decode b_A_addRow 36 = .ok (.iconst 1, 1) := by decide +kernel
theorem d_A_addRow_37 : decode b_A_addRow 37 = .ok (.iadd, 1) := by decide +kernel
theorem d_A_addRow_38 : decode b_A_addRow 38 = .ok (.putfield 18, 3) := by decide +kernel
theorem d_A_addRow_41 : decode b_A_addRow 41 = .ok (.aload_n 0, 1) := by decide +kernel
theorem d_A_addRow_42 : decode b_A_addRow 42 = .ok (.invokevirtual 58, 3) := by decide +kernel
theorem d_A_addRow_45 : decode b_A_addRow 45 = .ok (.iconst 1, 1) := by decide +kernel
theorem d_A_addRow_46 : decode b_A_addRow 46 = .ok (.ireturn, 1) := by decide +kernel
theorem d_X_run_0 : decode b_X_run 0 = .ok (.aload_n 0, 1) := by decide +kernel
theorem d_X_run_1 : decode b_X_run 1 = .ok (.iload_n 1, 1) := by decide +kernel
theorem d_X_run_2 : decode b_X_run 2 = .ok (.invokevirtual 80, 3) := by decide +kernel
theorem d_X_run_5 : decode b_X_run 5 = .ok (.ifCond .eq 11, 3) := by decide +kernel
theorem d_X_run_8 : decode b_X_run 8 = .ok (.aload_n 0, 1) := by decide +kernel
theorem d_X_run_9 : decode b_X_run 9 = .ok (.iload_n 1, 1) := by decide +kernel
theorem d_X_run_10 : decode b_X_run 10 = .ok (.invokevirtual 99, 3) := by decide +kernel
theorem d_X_run_13 : decode b_X_run 13 = .ok (.goto 5, 3) := by decide +kernel
theorem d_X_run_16 : decode b_X_run 16 = .ok (.bipush (-9), 2) := by decide +kernel
theorem d_X_run_18 : decode b_X_run 18 = .ok (.ireturn, 1) := by decide +kernel
theorem d_X_runOnce_0 : decode b_X_runOnce 0 = .ok (.aload_n 0, 1) := by decide +kernel
theorem d_X_runOnce_1 : decode b_X_runOnce 1 = .ok (.getfield 17, 3) := by decide +kernel
theorem d_X_runOnce_4 : decode b_X_runOnce 4 = .ok (.iload_n 1, 1) := by decide +kernel
theorem d_X_runOnce_5 : decode b_X_runOnce 5 = .ok (.aaload, 1) := by decide +kernel
theorem d_X_runOnce_6 : decode b_X_runOnce 6 = .ok (.astore_n 2, 1) := by decide +kernel
theorem d_X_runOnce_7 : decode b_X_runOnce 7 = .ok (.aload_n 0, 1) := by decide +kernel
theorem d_X_runOnce_8 : decode b_X_runOnce 8 = .ok (.invokevirtual 113, 3) := by decide +kernel
theorem d_X_runOnce_11 : decode b_X_runOnce 11 = .ok (.istore_n 3, 1) := by decide +kernel
theorem d_X_runOnce_12 : decode b_X_runOnce 12 = .ok (.aload_n 2, 1) := by decide +kernel
theorem d_X_runOnce_13 : decode b_X_runOnce 13 = .ok (.iconst (-1), 1) := by decide +kernel
theorem d_X_runOnce_14 : decode b_X_runOnce 14 = .ok (.putfield 110, 3) := by decide +kernel
theorem d_X_runOnce_17 : decode b_X_runOnce 17 = .ok (.iload_n 3, 1) := by decide +kernel
theorem d_X_runOnce_18 : decode b_X_runOnce 18 = .ok (.iload_n 1, 1) := by decide +kernel
theorem d_X_runOnce_19 : decode b_X_runOnce 19 = .ok (.invokestatic 117, 3) := by decide +kernel
theorem d_X_runOnce_22 : decode b_X_runOnce 22 = .ok (.ifCond .eq 18, 3) := by decide +kernel
theorem d_X_runOnce_25 : decode b_X_runOnce 25 = .ok (.aload_n 2, 1) := by decide +kernel
theorem d_X_runOnce_26 : decode b_X_runOnce 26 = .ok (.dup, 1) := by decide +kernel
theorem d_X_runOnce_27 : decode b_X_runOnce 27 = .ok (.getfield 140, 3) := by decide +kernel
theorem d_X_runOnce_30 : decode b_X_runOnce 30 = .ok (.iconst 1, 1) := by decide +kernel
theorem d_X_runOnce_31 : decode b_X_runOnce 31 = .ok (.iadd, 1) := by decide +kernel
theorem d_X_runOnce_32 : decode b_X_runOnce 32 = .ok (.putfield 140, 3) := by decide +kernel
theorem d_X_runOnce_35 : decode b_X_runOnce 35 = .ok (.aload_n 2, 1) := by decide +kernel
theorem d_X_runOnce_36 : decode b_X_runOnce 36 = .ok (.getfield 177, 3) := by decide +kernel
theorem d_X_runOnce_39 : decode b_X_runOnce 39 = .ok (.ireturn, 1) := by decide +kernel
theorem d_X_runOnce_40 : decode b_X_runOnce 40 = .ok (.aload_n 2, 1) := by decide +kernel
theorem d_X_runOnce_41 : decode b_X_runOnce 41 = .ok (.getfield 146, 3) := by decide +kernel
theorem d_X_runOnce_44 : decode b_X_runOnce 44 = .ok (.aload_n 0, 1) := by decide +kernel
theorem d_X_runOnce_45 : decode b_X_runOnce 45 = .ok (.getfield 56, 3) := by decide +kernel
theorem d_X_runOnce_48 : decode b_X_runOnce 48 = .ok (.if_icmp .lt 15, 3) := by decide +kernel
theorem d_X_runOnce_51 : decode b_X_runOnce 51 = .ok (.aload_n 2, 1) := by decide +kernel
theorem d_X_runOnce_52 : decode b_X_runOnce 52 = .ok (.invokevirtual 86, 3) := by decide +kernel
theorem d_X_runOnce_55 : decode b_X_runOnce 55 = .ok (.aload_n 2, 1) := by decide +kernel
theorem d_X_runOnce_56 : decode b_X_runOnce 56 = .ok (.iconst 0, 1) := by decide +kernel
theorem d_X_runOnce_57 : decode b_X_runOnce 57 = .ok (.putfield 146, 3) := by decide +kernel
theorem d_X_runOnce_60 : decode b_X_runOnce 60 = .ok (.bipush (-2), 2) := by decide +kernel
theorem d_X_runOnce_62 : decode b_X_runOnce 62 = .ok (.ireturn, 1) := by decide +kernel
theorem d_X_runOnce_63 : decode b_X_runOnce 63 = .ok (.aload_n 0, 1) := by decide +kernel
theorem d_X_runOnce_64 : decode b_X_runOnce 64 = .ok (.aload_n 2, 1) := by decide +kernel
theorem d_X_runOnce_65 : decode b_X_runOnce 65 = .ok (.iload_n 3, 1) := by decide +kernel
theorem d_X_runOnce_66 : decode b_X_runOnce 66 = .ok (.invokevirtual 180, 3) := by decide +kernel
theorem d_X_runOnce_69 : decode b_X_runOnce 69 = .ok (.ireturn, 1) := by decide +kernel
theorem d_X_freshActions_0 : decode b_X_freshActions 0 = .ok (.iconst 0, 1) := by decide +kernel
theorem d_X_freshActions_1 : decode b_X_freshActions 1 = .ok (.istore_n 1, 1) := by decide +kernel
theorem d_X_freshActions_2 : decode b_X_freshActions 2 = .ok (.iconst 0, 1) := by decide +kernel
theorem d_X_freshActions_3 : decode b_X_freshActions 3 = .ok (.istore_n 2, 1) := by decide +kernel
theorem d_X_freshActions_4 : decode b_X_freshActions 4 = .ok (.iload_n 2, 1) := by decide +kernel
theorem d_X_freshActions_5 : decode b_X_freshActions 5 = .ok (.aload_n 0, 1) := by decide +kernel
theorem d_X_freshActions_6 : decode b_X_freshActions 6 = .ok (.getfield 31, 3) := by decide +kernel
theorem d_X_freshActions_9 : decode b_X_freshActions 9 = .ok (.if_icmp .ge 58, 3) := by decide +kernel
theorem d_X_freshActions_12 : decode b_X_freshActions 12 = .ok (.iload_n 1, 1) := by decide +kernel
theorem d_X_freshActions_13 : decode b_X_freshActions 13 = .ok (.istore_n 3, 1) := by decide +kernel
theorem d_X_freshActions_14 : decode b_X_freshActions 14 = .ok (.iconst 0, 1) := by decide +kernel
theorem d_X_freshActions_15 : decode b_X_freshActions 15 = .ok (.istore 4, 2) := by decide +kernel
theorem d_X_freshActions_17 : decode b_X_freshActions 17 = .ok (.iload 4, 2) := by decide +kernel
theorem d_X_freshActions_19 : decode b_X_freshActions 19 = .ok (.aload_n 0, 1) := by decide +kernel
theorem d_X_freshActions_20 : decode b_X_freshActions 20 = .ok (.getfield 31, 3) := by decide +kernel
theorem d_X_freshActions_23 : decode b_X_freshActions 23 = .ok (.if_icmp .ge 31, 3) := by decide +kernel
theorem d_X_freshActions_26 : decode b_X_freshActions 26 = .ok (.aload_n 0, 1) := by decide +kernel
theorem d_X_freshActions_27 : decode b_X_freshActions 27 = .ok (.aload_n 0, 1) := by decide +kernel
theorem d_X_freshActions_28 : decode b_X_freshActions 28 = .ok (.getfield 17, 3) := by decide +kernel
theorem d_X_freshActions_31 : decode b_X_freshActions 31 = .ok (.iload 4, 2) := by decide +kernel
theorem d_X_freshActions_33 : decode b_X_freshActions 33 = .ok (.aaload, 1) := by decide +kernel
theorem d_X_freshActions_34 : decode b_X_freshActions 34 = .ok (.iload_n 1, 1) := by decide +kernel
theorem d_X_freshActions_35 : decode b_X_freshActions 35 = .ok (.invokevirtual 218, 3) := by decide +kernel
theorem d_X_freshActions_38 : decode b_X_freshActions 38 = .ok (.ifCond .eq 10, 3) := by decide +kernel
theorem d_X_freshActions_41 : decode b_X_freshActions 41 = .ok (.iload_n 1, 1) := by decide +kernel
theorem d_X_freshActions_42 : decode b_X_freshActions 42 = .ok (.iconst 1, 1) := by decide +kernel
theorem d_X_freshActions_43 : decode b_X_freshActions 43 = .ok (.iload 4, 2) := by decide +kernel
theorem d_X_freshActions_45 : decode b_X_freshActions 45 = .ok (.ishl, 1) := by decide +kernel
theorem d_X_freshActions_46 : decode b_X_freshActions 46 = .ok (.ior, 1) := by decide +kernel
theorem d_X_freshActions_47 : decode b_X_freshActions 47 = .ok (.istore_n 1, 1) := by decide +kernel
theorem d_X_freshActions_48 : decode b_X_freshActions 48 = .ok (.iinc 4 1, 3) := by decide +kernel
theorem d_X_freshActions_51 : decode b_X_freshActions 51 = .ok (.goto (-34), 3) := by decide +kernel
theorem d_X_freshActions_54 : decode b_X_freshActions 54 = .ok (.iload_n 1, 1) := by decide +kernel
theorem d_X_freshActions_55 : decode b_X_freshActions 55 = .ok (.iload_n 3, 1) := by decide +kernel
theorem d_X_freshActions_56 : decode b_X_freshActions 56 = .ok (.if_icmp .ne 5, 3) := by decide +kernel
theorem d_X_freshActions_59 : decode b_X_freshActions 59 = .ok (.iload_n 1, 1) := by decide +kernel
theorem d_X_freshActions_60 : decode b_X_freshActions 60 = .ok (.ireturn, 1) := by decide +kernel
theorem d_X_freshActions_61 : decode b_X_freshActions 61 = .ok (.iinc 2 1, 3) := by decide +kernel
theorem d_X_freshActions_64 : decode b_X_freshActions 64 = .ok (.goto (-60), 3) := by decide +kernel
theorem d_X_freshActions_67 : decode b_X_freshActions 67 = .ok (.iload_n 1, 1) := by decide +kernel
theorem d_X_freshActions_68 : decode b_X_freshActions 68 = .ok (.ireturn, 1) := by decide +kernel
theorem d_X_holds_0 : decode b_X_holds 0 = .ok (.aload_n 1, 1) := by decide +kernel
theorem d_X_holds_1 : decode b_X_holds 1 = .ok (.getfield 120, 3) := by decide +kernel
theorem d_X_holds_4 : decode b_X_holds 4 = .ok (.ifCond .ne 5, 3) := by decide +kernel
theorem d_X_holds_7 : decode b_X_holds 7 = .ok (.iconst 0, 1) := by decide +kernel
theorem d_X_holds_8 : decode b_X_holds 8 = .ok (.ireturn, 1) := by decide +kernel
theorem d_X_holds_9 : decode b_X_holds 9 = .ok (.aload_n 1, 1) := by decide +kernel
theorem d_X_holds_10 : decode b_X_holds 10 = .ok (.getfield 124, 3) := by decide +kernel
theorem d_X_holds_13 : decode b_X_holds 13 = .ok (.astore_n 3, 1) := by decide +kernel
theorem d_X_holds_14 : decode b_X_holds 14 = .ok (.iconst 0, 1) := by decide +kernel
theorem d_X_holds_15 : decode b_X_holds 15 = .ok (.istore 4, 2) := by decide +kernel
theorem d_X_holds_17 : decode b_X_holds 17 = .ok (.iload 4, 2) := by decide +kernel
theorem d_X_holds_19 : decode b_X_holds 19 = .ok (.aload_n 3, 1) := by decide +kernel
theorem d_X_holds_20 : decode b_X_holds 20 = .ok (.getfield 222, 3) := by decide +kernel
theorem d_X_holds_23 : decode b_X_holds 23 = .ok (.if_icmp .ge 45, 3) := by decide +kernel
theorem d_X_holds_26 : decode b_X_holds 26 = .ok (.aload_n 0, 1) := by decide +kernel
theorem d_X_holds_27 : decode b_X_holds 27 = .ok (.getfield 11, 3) := by decide +kernel
theorem d_X_holds_30 : decode b_X_holds 30 = .ok (.aload_n 3, 1) := by decide +kernel
theorem d_X_holds_31 : decode b_X_holds 31 = .ok (.getfield 225, 3) := by decide +kernel
theorem d_X_holds_34 : decode b_X_holds 34 = .ok (.iload 4, 2) := by decide +kernel
theorem d_X_holds_36 : decode b_X_holds 36 = .ok (.iaload, 1) := by decide +kernel
theorem d_X_holds_37 : decode b_X_holds 37 = .ok (.aaload, 1) := by decide +kernel
theorem d_X_holds_38 : decode b_X_holds 38 = .ok (.astore 5, 2) := by decide +kernel
theorem d_X_holds_40 : decode b_X_holds 40 = .ok (.aload_n 3, 1) := by decide +kernel
theorem d_X_holds_41 : decode b_X_holds 41 = .ok (.iload 4, 2) := by decide +kernel
theorem d_X_holds_43 : decode b_X_holds 43 = .ok (.aload 5, 2) := by decide +kernel
theorem d_X_holds_45 : decode b_X_holds 45 = .ok (.invokevirtual 228, 3) := by decide +kernel
theorem d_X_holds_48 : decode b_X_holds 48 = .ok (.ifCond .eq 12, 3) := by decide +kernel
theorem d_X_holds_51 : decode b_X_holds 51 = .ok (.aload 5, 2) := by decide +kernel
theorem d_X_holds_53 : decode b_X_holds 53 = .ok (.iload_n 2, 1) := by decide +kernel
theorem d_X_holds_54 : decode b_X_holds 54 = .ok (.invokestatic 165, 3) := by decide +kernel
theorem d_X_holds_57 : decode b_X_holds 57 = .ok (.ifCond .ne 5, 3) := by decide +kernel
theorem d_X_holds_60 : decode b_X_holds 60 = .ok (.iconst 0, 1) := by decide +kernel
theorem d_X_holds_61 : decode b_X_holds 61 = .ok (.ireturn, 1) := by decide +kernel
theorem d_X_holds_62 : decode b_X_holds 62 = .ok (.iinc 4 1, 3) := by decide +kernel
theorem d_X_holds_65 : decode b_X_holds 65 = .ok (.goto (-48), 3) := by decide +kernel
theorem d_X_holds_68 : decode b_X_holds 68 = .ok (.iconst 1, 1) := by decide +kernel
theorem d_X_holds_69 : decode b_X_holds 69 = .ok (.ireturn, 1) := by decide +kernel
theorem d_N_isLike_0 : decode b_N_isLike 0 = .ok (.aload_n 0, 1) := by decide +kernel
theorem d_N_isLike_1 : decode b_N_isLike 1 = .ok (.getfield 15, 3) := by decide +kernel
theorem d_N_isLike_4 : decode b_N_isLike 4 = .ok (.iload_n 1, 1) := by decide +kernel
theorem d_N_isLike_5 : decode b_N_isLike 5 = .ok (.baload, 1) := by decide +kernel
theorem d_N_isLike_6 : decode b_N_isLike 6 = .ok (.aload_n 2, 1) := by decide +kernel
theorem d_N_isLike_7 : decode b_N_isLike 7 = .ok (.getfield 34, 3) := by decide +kernel
theorem d_N_isLike_10 : decode b_N_isLike 10 = .ok (.if_icmp .ne 30, 3) := by decide +kernel
theorem d_N_isLike_13 : decode b_N_isLike 13 = .ok (.aload_n 0, 1) := by decide +kernel
theorem d_N_isLike_14 : decode b_N_isLike 14 = .ok (.getfield 19, 3) := by decide +kernel
theorem d_N_isLike_17 : decode b_N_isLike 17 = .ok (.iload_n 1, 1) := by decide +kernel
theorem d_N_isLike_18 : decode b_N_isLike 18 = .ok (.baload, 1) := by decide +kernel
theorem d_N_isLike_19 : decode b_N_isLike 19 = .ok (.ifCond .eq 17, 3) := by decide +kernel
theorem d_N_isLike_22 : decode b_N_isLike 22 = .ok (.aload_n 0, 1) := by decide +kernel
theorem d_N_isLike_23 : decode b_N_isLike 23 = .ok (.getfield 22, 3) := by decide +kernel
theorem d_N_isLike_26 : decode b_N_isLike 26 = .ok (.iload_n 1, 1) := by decide +kernel
theorem d_N_isLike_27 : decode b_N_isLike 27 = .ok (.laload, 1) := by decide +kernel
theorem d_N_isLike_28 : decode b_N_isLike 28 = .ok (.aload_n 2, 1) := by decide +kernel
theorem d_N_isLike_29 : decode b_N_isLike 29 = .ok (.getfield 39, 3) := by decide +kernel
theorem d_N_isLike_32 : decode b_N_isLike 32 = .ok (.lcmp, 1) := by decide +kernel
theorem d_N_isLike_33 : decode b_N_isLike 33 = .ok (.ifCond .ne 7, 3) := by decide +kernel
theorem d_N_isLike_36 : decode b_N_isLike 36 = .ok (.iconst 1, 1) := by decide +kernel
theorem d_N_isLike_37 : decode b_N_isLike 37 = .ok (.goto 4, 3) := by decide +kernel
theorem d_N_isLike_40 : decode b_N_isLike 40 = .ok (.iconst 0, 1) := by decide +kernel
theorem d_N_isLike_41 : decode b_N_isLike 41 = .ok (.ireturn, 1) := by decide +kernel
theorem d_X_isFresh_0 : decode b_X_isFresh 0 = .ok (.aload_n 0, 1) := by decide +kernel
theorem d_X_isFresh_1 : decode b_X_isFresh 1 = .ok (.invokevirtual 70, 3) := by decide +kernel
theorem d_X_isFresh_4 : decode b_X_isFresh 4 = .ok (.ifCond .eq 14, 3) := by decide +kernel
theorem d_X_isFresh_7 : decode b_X_isFresh 7 = .ok (.iload_n 1, 1) := by decide +kernel
theorem d_X_isFresh_8 : decode b_X_isFresh 8 = .ok (.aload_n 0, 1) := by decide +kernel
theorem d_X_isFresh_9 : decode b_X_isFresh 9 = .ok (.getfield 89, 3) := by decide +kernel
theorem d_X_isFresh_12 : decode b_X_isFresh 12 = .ok (.invokestatic 117, 3) := by decide +kernel
theorem d_X_isFresh_15 : decode b_X_isFresh 15 = .ok (.ifCond .eq 7, 3) := by decide +kernel
theorem d_X_isFresh_18 : decode b_X_isFresh 18 = .ok (.iconst 1, 1) := by decide +kernel
theorem d_X_isFresh_19 : decode b_X_isFresh 19 = .ok (.goto 4, 3) := by decide +kernel
theorem d_X_isFresh_22 : decode b_X_isFresh 22 = .ok (.iconst 0, 1) := by decide +kernel
theorem d_X_isFresh_23 : decode b_X_isFresh 23 = .ok (.ireturn, 1) := by decide +kernel
theorem d_X_hasBit_0 : decode b_X_hasBit 0 = .ok (.iload_n 0, 1) := by decide +kernel
theorem d_X_hasBit_1 : decode b_X_hasBit 1 = .ok (.iload_n 1, 1) := by decide +kernel
theorem d_X_hasBit_2 : decode b_X_hasBit 2 = .ok (.iushr, 1) := by decide +kernel
theorem d_X_hasBit_3 : decode b_X_hasBit 3 = .ok (.iconst 1, 1) := by decide +kernel
theorem d_X_hasBit_4 : decode b_X_hasBit 4 = .ok (.iand, 1) := by decide +kernel
theorem d_X_hasBit_5 : decode b_X_hasBit 5 = .ok (.ifCond .eq 7, 3) := by decide +kernel
theorem d_X_hasBit_8 : decode b_X_hasBit 8 = .ok (.iconst 1, 1) := by decide +kernel
theorem d_X_hasBit_9 : decode b_X_hasBit 9 = .ok (.goto 4, 3) := by decide +kernel
theorem d_X_hasBit_12 : decode b_X_hasBit 12 = .ok (.iconst 0, 1) := by decide +kernel
theorem d_X_hasBit_13 : decode b_X_hasBit 13 = .ok (.ireturn, 1) := by decide +kernel
theorem d_X_tryOnce_0 : decode b_X_tryOnce 0 = .ok (.aload_n 1, 1) := by decide +kernel
theorem d_X_tryOnce_1 : decode b_X_tryOnce 1 = .ok (.dup, 1) := by decide +kernel
theorem d_X_tryOnce_2 : decode b_X_tryOnce 2 = .ok (.getfield 143, 3) := by decide +kernel
theorem d_X_tryOnce_5 : decode b_X_tryOnce 5 = .ok (.iconst 1, 1) := by decide +kernel
theorem d_X_tryOnce_6 : decode b_X_tryOnce 6 = .ok (.iadd, 1) := by decide +kernel
theorem d_X_tryOnce_7 : decode b_X_tryOnce 7 = .ok (.putfield 143, 3) := by decide +kernel
theorem d_X_tryOnce_10 : decode b_X_tryOnce 10 = .ok (.aload_n 1, 1) := by decide +kernel
theorem d_X_tryOnce_11 : decode b_X_tryOnce 11 = .ok (.dup, 1) := by decide +kernel
theorem d_X_tryOnce_12 : decode b_X_tryOnce 12 = .ok (.getfield 146, 3) := by decide +kernel
theorem d_X_tryOnce_15 : decode b_X_tryOnce 15 = .ok (.iconst 1, 1) := by decide +kernel
theorem d_X_tryOnce_16 : decode b_X_tryOnce 16 = .ok (.iadd, 1) := by decide +kernel
theorem d_X_tryOnce_17 : decode b_X_tryOnce 17 = .ok (.putfield 146, 3) := by decide +kernel
theorem d_X_tryOnce_20 : decode b_X_tryOnce 20 = .ok (.aload_n 1, 1) := by decide +kernel
theorem d_X_tryOnce_21 : decode b_X_tryOnce 21 = .ok (.invokevirtual 86, 3) := by decide +kernel
theorem d_X_tryOnce_24 : decode b_X_tryOnce 24 = .ok (.aload_n 0, 1) := by decide +kernel
theorem d_X_tryOnce_25 : decode b_X_tryOnce 25 = .ok (.aload_n 1, 1) := by decide +kernel
theorem d_X_tryOnce_26 : decode b_X_tryOnce 26 = .ok (.iload_n 2, 1) := by decide +kernel
theorem d_X_tryOnce_27 : decode b_X_tryOnce 27 = .ok (.invokevirtual 184, 3) := by decide +kernel
theorem d_X_tryOnce_30 : decode b_X_tryOnce 30 = .ok (.istore_n 3, 1) := by decide +kernel
theorem d_X_tryOnce_31 : decode b_X_tryOnce 31 = .ok (.iload_n 3, 1) := by decide +kernel
theorem d_X_tryOnce_32 : decode b_X_tryOnce 32 = .ok (.ifCond .eq 8, 3) := by decide +kernel
theorem d_X_tryOnce_35 : decode b_X_tryOnce 35 = .ok (.aload_n 1, 1) := by decide +kernel
theorem d_X_tryOnce_36 : decode b_X_tryOnce 36 = .ok (.iconst 0, 1) := by decide +kernel
theorem d_X_tryOnce_37 : decode b_X_tryOnce 37 = .ok (.putfield 146, 3) := by decide +kernel
theorem d_X_tryOnce_40 : decode b_X_tryOnce 40 = .ok (.iload_n 3, 1) := by decide +kernel
theorem d_X_tryOnce_41 : decode b_X_tryOnce 41 = .ok (.iconst 1, 1) := by decide +kernel
theorem d_X_tryOnce_42 : decode b_X_tryOnce 42 = .ok (.if_icmp .eq 9, 3) := by decide +kernel
theorem d_X_tryOnce_45 : decode b_X_tryOnce 45 = .ok (.iload_n 3, 1) := by decide +kernel
theorem d_X_tryOnce_46 : decode b_X_tryOnce 46 = .ok (.bipush (-3), 2) := by decide +kernel
theorem d_X_tryOnce_48 : decode b_X_tryOnce 48 = .ok (.if_icmp .ne 12, 3) := by decide +kernel
theorem d_X_tryOnce_51 : decode b_X_tryOnce 51 = .ok (.aload_n 0, 1) := by decide +kernel
theorem d_X_tryOnce_52 : decode b_X_tryOnce 52 = .ok (.aload_n 1, 1) := by decide +kernel
theorem d_X_tryOnce_53 : decode b_X_tryOnce 53 = .ok (.iload_n 3, 1) := by decide +kernel
theorem d_X_tryOnce_54 : decode b_X_tryOnce 54 = .ok (.invokevirtual 187, 3) := by decide +kernel
theorem d_X_tryOnce_57 : decode b_X_tryOnce 57 = .ok (.goto 7, 3) := by decide +kernel
theorem d_X_tryOnce_60 : decode b_X_tryOnce 60 = .ok (.aload_n 1, 1) := by decide +kernel
theorem d_X_tryOnce_61 : decode b_X_tryOnce 61 = .ok (.invokevirtual 86, 3) := by decide +kernel
theorem d_X_tryOnce_64 : decode b_X_tryOnce 64 = .ok (.iload_n 3, 1) := by decide +kernel
theorem d_X_tryOnce_65 : decode b_X_tryOnce 65 = .ok (.ireturn, 1) := by decide +kernel
theorem d_X_goThroughRows_0 : decode b_X_goThroughRows 0 = .ok (.aload_n 1, 1) := by decide +kernel
theorem d_X_goThroughRows_1 : decode b_X_goThroughRows 1 = .ok (.ldc2_w 194, 3) := by decide +kernel
theorem d_X_goThroughRows_4 : decode b_X_goThroughRows 4 = .ok (.putfield 191, 3) := by decide +kernel
theorem d_X_goThroughRows_7 : decode b_X_goThroughRows 7 = .ok (.lconst 0, 1) := by decide +kernel
theorem d_X_goThroughRows_8 : decode b_X_goThroughRows 8 = .ok (.lstore_n 3, 1) := by decide +kernel
theorem d_X_goThroughRows_9 : decode b_X_goThroughRows 9 = .ok (.iconst 0, 1) := by decide +kernel
theorem d_X_goThroughRows_10 : decode b_X_goThroughRows 10 = .ok (.istore 5, 2) := by decide +kernel
theorem d_X_goThroughRows_12 : decode b_X_goThroughRows 12 = .ok (.iload 5, 2) := by decide +kernel
theorem d_X_goThroughRows_14 : decode b_X_goThroughRows 14 = .ok (.aload_n 1, 1) := by decide +kernel
theorem d_X_goThroughRows_15 : decode b_X_goThroughRows 15 = .ok (.getfield 196, 3) := by decide +kernel
theorem d_X_goThroughRows_18 : decode b_X_goThroughRows 18 = .ok (.if_icmp .ge 100, 3) := by decide +kernel
theorem d_X_goThroughRows_21 : decode b_X_goThroughRows 21 = .ok (.aload_n 1, 1) := by decide +kernel
theorem d_X_goThroughRows_22 : decode b_X_goThroughRows 22 = .ok (.getfield 199, 3) := by decide +kernel
theorem d_X_goThroughRows_25 : decode b_X_goThroughRows 25 = .ok (.iload 5, 2) := by decide +kernel
theorem d_X_goThroughRows_27 : decode b_X_goThroughRows 27 = .ok (.iaload, 1) := by decide +kernel
theorem d_X_goThroughRows_28 : decode b_X_goThroughRows 28 = .ok (.istore 6, 2) := by decide +kernel
theorem d_X_goThroughRows_30 : decode b_X_goThroughRows 30 = .ok (.aload_n 1, 1) := by decide +kernel
theorem d_X_goThroughRows_31 : decode b_X_goThroughRows 31 = .ok (.getfield 202, 3) := by decide +kernel
theorem d_X_goThroughRows_34 : decode b_X_goThroughRows 34 = .ok (.iload 5, 2) := by decide +kernel
theorem d_X_goThroughRows_36 : decode b_X_goThroughRows 36 = .ok (.iaload, 1) := by decide +kernel
theorem d_X_goThroughRows_37 : decode b_X_goThroughRows 37 = .ok (.istore 7, 2) := by decide +kernel
theorem d_X_goThroughRows_39 : decode b_X_goThroughRows 39 = .ok (.iload 6, 2) := by decide +kernel
theorem d_X_goThroughRows_41 : decode b_X_goThroughRows 41 = .ok (.iconst 2, 1) := by decide +kernel
theorem d_X_goThroughRows_42 : decode b_X_goThroughRows 42 = .ok (.if_icmp .ne 25, 3) := by decide +kernel
theorem d_X_goThroughRows_45 : decode b_X_goThroughRows 45 = .ok (.iload 5, 2) := by decide +kernel
theorem d_X_goThroughRows_47 : decode b_X_goThroughRows 47 = .ok (.lload_n 3, 1) := by decide +kernel
theorem d_X_goThroughRows_48 : decode b_X_goThroughRows 48 = .ok (.lconst 1, 1) := by decide +kernel
theorem d_X_goThroughRows_49 : decode b_X_goThroughRows 49 = .ok (.land, 1) := by decide +kernel
theorem d_X_goThroughRows_50 : decode b_X_goThroughRows 50 = .ok (.lconst 0, 1) := by decide +kernel
theorem d_X_goThroughRows_51 : decode b_X_goThroughRows 51 = .ok (.lcmp, 1) := by decide +kernel
theorem d_X_goThroughRows_52 : decode b_X_goThroughRows 52 = .ok (.ifCond .eq 8, 3) := by decide +kernel
theorem d_X_goThroughRows_55 : decode b_X_goThroughRows 55 = .ok (.iload 7, 2) := by decide +kernel
theorem d_X_goThroughRows_57 : decode b_X_goThroughRows 57 = .ok (.goto 4, 3) := by decide +kernel
theorem d_X_goThroughRows_60 : decode b_X_goThroughRows 60 = .ok (.iconst 0, 1) := by decide +kernel
theorem d_X_goThroughRows_61 : decode b_X_goThroughRows 61 = .ok (.iadd, 1) := by decide +kernel
theorem d_X_goThroughRows_62 : decode b_X_goThroughRows 62 = .ok (.istore 5, 2) := by decide +kernel
theorem d_X_goThroughRows_64 : decode b_X_goThroughRows 64 = .ok (.goto 48, 3) := by decide +kernel
theorem d_X_goThroughRows_67 : decode b_X_goThroughRows 67 = .ok (.aload_n 0, 1) := by decide +kernel
theorem d_X_goThroughRows_68 : decode b_X_goThroughRows 68 = .ok (.aload_n 1, 1) := by decide +kernel
theorem d_X_goThroughRows_69 : decode b_X_goThroughRows 69 = .ok (.iload 6, 2) := by decide +kernel
theorem d_X_goThroughRows_71 : decode b_X_goThroughRows 71 = .ok (.ifCond .ne 7, 3) := by decide +kernel
theorem d_X_goThroughRows_74 : decode b_X_goThroughRows 74 = .ok (.iconst 1, 1) := by decide +kernel
theorem d_X_goThroughRows_75 : decode b_X_goThroughRows 75 = .ok (.goto 4, 3) := by decide +kernel
theorem d_X_goThroughRows_78 : decode b_X_goThroughRows 78 = .ok (.iconst 0, 1) := by decide +kernel
theorem d_X_goThroughRows_79 : decode b_X_goThroughRows 79 = .ok (.iload 7, 2) := by decide +kernel
theorem d_X_goThroughRows_81 : decode b_X_goThroughRows 81 = .ok (.iload_n 2, 1) := by decide +kernel
theorem d_X_goThroughRows_82 : decode b_X_goThroughRows 82 = .ok (.invokevirtual 205, 3) := by decide +kernel
theorem d_X_goThroughRows_85 : decode b_X_goThroughRows 85 = .ok (.istore 8, 2) := by decide +kernel
theorem d_X_goThroughRows_87 : decode b_X_goThroughRows 87 = .ok (.iload 8, 2) := by decide +kernel
theorem d_X_goThroughRows_89 : decode b_X_goThroughRows 89 = .ok (.iconst 1, 1) := by decide +kernel
theorem d_X_goThroughRows_90 : decode b_X_goThroughRows 90 = .ok (.if_icmp .eq 6, 3) := by decide +kernel
theorem d_X_goThroughRows_93 : decode b_X_goThroughRows 93 = .ok (.iload 8, 2) := by decide +kernel
theorem d_X_goThroughRows_95 : decode b_X_goThroughRows 95 = .ok (.ireturn, 1) := by decide +kernel
theorem d_X_goThroughRows_96 : decode b_X_goThroughRows 96 = .ok (.iload 6, 2) := by decide +kernel
theorem d_X_goThroughRows_98 : decode b_X_goThroughRows 98 = .ok (.ifCond .ne 14, 3) := by decide +kernel
theorem d_X_goThroughRows_101 : decode b_X_goThroughRows 101 = .ok (.aload_n 0, 1) := by decide +kernel
theorem d_X_goThroughRows_102 : decode b_X_goThroughRows 102 = .ok (.getfield 11, 3) := by decide +kernel
theorem d_X_goThroughRows_105 : decode b_X_goThroughRows 105 = .ok (.iload 7, 2) := by decide +kernel
theorem d_X_goThroughRows_107 : decode b_X_goThroughRows 107 = .ok (.aaload, 1) := by decide +kernel
theorem d_X_goThroughRows_108 : decode b_X_goThroughRows 108 = .ok (.getfield 136, 3) := by decide +kernel
theorem d_X_goThroughRows_111 : decode b_X_goThroughRows 111 = .ok (.lstore_n 3, 1) := by decide +kernel
theorem d_X_goThroughRows_112 : decode b_X_goThroughRows 112 = .ok (.iinc 5 1, 3) := by decide +kernel
theorem d_X_goThroughRows_115 : decode b_X_goThroughRows 115 = .ok (.goto (-103), 3) := by decide +kernel
theorem d_X_goThroughRows_118 : decode b_X_goThroughRows 118 = .ok (.iconst 1, 1) := by decide +kernel
theorem d_X_goThroughRows_119 : decode b_X_goThroughRows 119 = .ok (.ireturn, 1) := by decide +kernel
theorem d_X_lookAt_0 : decode b_X_lookAt 0 = .ok (.aload_n 0, 1) := by decide +kernel
theorem d_X_lookAt_1 : decode b_X_lookAt 1 = .ok (.getfield 11, 3) := by decide +kernel
theorem d_X_lookAt_4 : decode b_X_lookAt 4 = .ok (.iload_n 3, 1) := by decide +kernel
theorem d_X_lookAt_5 : decode b_X_lookAt 5 = .ok (.aaload, 1) := by decide +kernel
theorem d_X_lookAt_6 : decode b_X_lookAt 6 = .ok (.astore 5, 2) := by decide +kernel
theorem d_X_lookAt_8 : decode b_X_lookAt 8 = .ok (.aload_n 1, 1) := by decide +kernel
theorem d_X_lookAt_9 : decode b_X_lookAt 9 = .ok (.getfield 77, 3) := by decide +kernel
theorem d_X_lookAt_12 : decode b_X_lookAt 12 = .ok (.iload_n 3, 1) := by decide +kernel
theorem d_X_lookAt_13 : decode b_X_lookAt 13 = .ok (.invokestatic 117, 3) := by decide +kernel
theorem d_X_lookAt_16 : decode b_X_lookAt 16 = .ok (.ifCond .ne 5, 3) := by decide +kernel
theorem d_X_lookAt_19 : decode b_X_lookAt 19 = .ok (.iconst (-1), 1) := by decide +kernel
theorem d_X_lookAt_20 : decode b_X_lookAt 20 = .ok (.ireturn, 1) := by decide +kernel
theorem d_X_lookAt_21 : decode b_X_lookAt 21 = .ok (.aload 5, 2) := by decide +kernel
theorem d_X_lookAt_23 : decode b_X_lookAt 23 = .ok (.iload 4, 2) := by decide +kernel
theorem d_X_lookAt_25 : decode b_X_lookAt 25 = .ok (.invokestatic 165, 3) := by decide +kernel
theorem d_X_lookAt_28 : decode b_X_lookAt 28 = .ok (.ifCond .ne 10, 3) := by decide +kernel
theorem d_X_lookAt_31 : decode b_X_lookAt 31 = .ok (.aload_n 1, 1) := by decide +kernel
theorem d_X_lookAt_32 : decode b_X_lookAt 32 = .ok (.iload_n 3, 1) := by decide +kernel
theorem d_X_lookAt_33 : decode b_X_lookAt 33 = .ok (.putfield 110, 3) := by decide +kernel
theorem d_X_lookAt_36 : decode b_X_lookAt 36 = .ok (.iconst 0, 1) := by decide +kernel
theorem d_X_lookAt_37 : decode b_X_lookAt 37 = .ok (.ireturn, 1) := by decide +kernel
theorem d_X_lookAt_38 : decode b_X_lookAt 38 = .ok (.aload_n 1, 1) := by decide +kernel
theorem d_X_lookAt_39 : decode b_X_lookAt 39 = .ok (.getfield 124, 3) := by decide +kernel
theorem d_X_lookAt_42 : decode b_X_lookAt 42 = .ok (.iload_n 3, 1) := by decide +kernel
theorem d_X_lookAt_43 : decode b_X_lookAt 43 = .ok (.aload 5, 2) := by decide +kernel
theorem d_X_lookAt_45 : decode b_X_lookAt 45 = .ok (.iload_n 2, 1) := by decide +kernel
theorem d_X_lookAt_46 : decode b_X_lookAt 46 = .ok (.invokevirtual 209, 3) := by decide +kernel
theorem d_X_lookAt_49 : decode b_X_lookAt 49 = .ok (.iload_n 2, 1) := by decide +kernel
theorem d_X_lookAt_50 : decode b_X_lookAt 50 = .ok (.ifCond .eq 14, 3) := by decide +kernel
theorem d_X_lookAt_53 : decode b_X_lookAt 53 = .ok (.aload 5, 2) := by decide +kernel
theorem d_X_lookAt_55 : decode b_X_lookAt 55 = .ok (.getfield 162, 3) := by decide +kernel
theorem d_X_lookAt_58 : decode b_X_lookAt 58 = .ok (.ifCond .ne 6, 3) := by decide +kernel
theorem d_X_lookAt_61 : decode b_X_lookAt 61 = .ok (.bipush (-3), 2) := by decide +kernel
theorem d_X_lookAt_63 : decode b_X_lookAt 63 = .ok (.ireturn, 1) := by decide +kernel
theorem d_X_lookAt_64 : decode b_X_lookAt 64 = .ok (.iload_n 2, 1) := by decide +kernel
theorem d_X_lookAt_65 : decode b_X_lookAt 65 = .ok (.ifCond .eq 15, 3) := by decide +kernel
theorem d_X_lookAt_68 : decode b_X_lookAt 68 = .ok (.aload_n 1, 1) := by decide +kernel
theorem d_X_lookAt_69 : decode b_X_lookAt 69 = .ok (.aload 5, 2) := by decide +kernel
theorem d_X_lookAt_71 : decode b_X_lookAt 71 = .ok (.getfield 136, 3) := by decide +kernel
theorem d_X_lookAt_74 : decode b_X_lookAt 74 = .ok (.invokevirtual 213, 3) := by decide +kernel
theorem d_X_lookAt_77 : decode b_X_lookAt 77 = .ok (.goto 22, 3) := by decide +kernel
theorem d_X_lookAt_80 : decode b_X_lookAt 80 = .ok (.aload_n 1, 1) := by decide +kernel
theorem d_X_lookAt_81 : decode b_X_lookAt 81 = .ok (.aload 5, 2) := by decide +kernel
theorem d_X_lookAt_83 : decode b_X_lookAt 83 = .ok (.getfield 162, 3) := by decide +kernel
theorem d_X_lookAt_86 : decode b_X_lookAt 86 = .ok (.ifCond .eq 7, 3) := by decide +kernel
theorem d_X_lookAt_89 : decode b_X_lookAt 89 = .ok (.lconst 1, 1) := by decide +kernel
theorem d_X_lookAt_90 : decode b_X_lookAt 90 = .ok (.goto 6, 3) := by decide +kernel
theorem d_X_lookAt_93 : decode b_X_lookAt 93 = .ok (.ldc2_w 216, 3) := by decide +kernel
theorem d_X_lookAt_96 : decode b_X_lookAt 96 = .ok (.invokevirtual 213, 3) := by decide +kernel
theorem d_X_lookAt_99 : decode b_X_lookAt 99 = .ok (.iconst 1, 1) := by decide +kernel
theorem d_X_lookAt_100 : decode b_X_lookAt 100 = .ok (.ireturn, 1) := by decide +kernel
theorem d_N_add_0 : decode b_N_add 0 = .ok (.aload_n 0, 1) := by decide +kernel
theorem d_N_add_1 : decode b_N_add 1 = .ok (.iload_n 1, 1) := by decide +kernel
theorem d_N_add_2 : decode b_N_add 2 = .ok (.invokevirtual 30, 3) := by decide +kernel
theorem d_N_add_5 : decode b_N_add 5 = .ok (.istore 4, 2) := by decide +kernel
theorem d_N_add_7 : decode b_N_add 7 = .ok (.iload 4, 2) := by decide +kernel
theorem d_N_add_9 : decode b_N_add 9 = .ok (.bipush 12, 2) := by decide +kernel
theorem d_N_add_11 : decode b_N_add 11 = .ok (.if_icmp .lt 4, 3) := by decide +kernel
theorem d_N_add_14 : decode b_N_add 14 = .ok (.return_, 1) := by decide +kernel
theorem d_N_add_15 : decode b_N_add 15 = .ok (.iload 4, 2) := by decide +kernel
theorem d_N_add_17 : decode b_N_add 17 = .ok (.aload_n 0, 1) := by decide +kernel
theorem d_N_add_18 : decode b_N_add 18 = .ok (.getfield 26, 3) := by decide +kernel
theorem d_N_add_21 : decode b_N_add 21 = .ok (.if_icmp .ne 29, 3) := by decide +kernel
theorem d_N_add_24 : decode b_N_add 24 = .ok (.aload_n 0, 1) := by decide +kernel
theorem d_N_add_25 : decode b_N_add 25 = .ok (.getfield 9, 3) := by decide +kernel
theorem d_N_add_28 : decode b_N_add 28 = .ok (.iload 4, 2) := by decide +kernel
theorem d_N_add_30 : decode b_N_add 30 = .ok (.iload_n 1, 1) := by decide +kernel
theorem d_N_add_31 : decode b_N_add 31 = .ok (.iastore, 1) := by decide +kernel
theorem d_N_add_32 : decode b_N_add 32 = .ok (.aload_n 0, 1) := by decide +kernel
theorem d_N_add_33 : decode b_N_add 33 = .ok (.getfield 19, 3) := by decide +kernel
theorem d_N_add_36 : decode b_N_add 36 = .ok (.iload 4, 2) := by decide +kernel
theorem d_N_add_38 : decode b_N_add 38 = .ok (.iconst 0, 1) := by decide +kernel
theorem d_N_add_39 : decode b_N_add 39 = .ok (.bastore, 1) := by decide +kernel
theorem d_N_add_40 : decode b_N_add 40 = .ok (.aload_n 0, 1) := by decide +kernel
theorem d_N_add_41 : decode b_N_add 41 = .ok (.dup, 1) := by decide +kernel
theorem d_N_add_42 : decode b_N_add 42 = .ok (.getfield 26, 3) := by decide +kernel
theorem d_N_add_45 : decode b_N_add 45 = .ok (.iconst 1, 1) := by decide +kernel
theorem d_N_add_46 : decode b_N_add 46 = .ok (.iadd, 1) := by decide +kernel
theorem d_N_add_47 : decode b_N_add 47 = .ok (.putfield 26, 3) := by decide +kernel
theorem d_N_add_50 : decode b_N_add 50 = .ok (.aload_n 0, 1) := by decide +kernel
theorem d_N_add_51 : decode b_N_add 51 = .ok (.getfield 15, 3) := by decide +kernel
theorem d_N_add_54 : decode b_N_add 54 = .ok (.iload 4, 2) := by decide +kernel
theorem d_N_add_56 : decode b_N_add 56 = .ok (.aload_n 2, 1) := by decide +kernel
theorem d_N_add_57 : decode b_N_add 57 = .ok (.getfield 34, 3) := by decide +kernel
theorem d_N_add_60 : decode b_N_add 60 = .ok (.bastore, 1) := by decide +kernel
theorem d_N_add_61 : decode b_N_add 61 = .ok (.aload_n 0, 1) := by decide +kernel
theorem d_N_add_62 : decode b_N_add 62 = .ok (.getfield 22, 3) := by decide +kernel
theorem d_N_add_65 : decode b_N_add 65 = .ok (.iload 4, 2) := by decide +kernel
theorem d_N_add_67 : decode b_N_add 67 = .ok (.aload_n 2, 1) := by decide +kernel
theorem d_N_add_68 : decode b_N_add 68 = .ok (.getfield 39, 3) := by decide +kernel
theorem d_N_add_71 : decode b_N_add 71 = .ok (.lastore, 1) := by decide +kernel
theorem d_N_add_72 : decode b_N_add 72 = .ok (.aload_n 0, 1) := by decide +kernel
theorem d_N_add_73 : decode b_N_add 73 = .ok (.getfield 19, 3) := by decide +kernel
theorem d_N_add_76 : decode b_N_add 76 = .ok (.iload 4, 2) := by decide +kernel
theorem d_N_add_78 : decode b_N_add 78 = .ok (.aload_n 0, 1) := by decide +kernel
theorem d_N_add_79 : decode b_N_add 79 = .ok (.getfield 19, 3) := by decide +kernel
theorem d_N_add_82 : decode b_N_add 82 = .ok (.iload 4, 2) := by decide +kernel
theorem d_N_add_84 : decode b_N_add 84 = .ok (.baload, 1) := by decide +kernel
theorem d_N_add_85 : decode b_N_add 85 = .ok (.ifCond .ne 7, 3) := by decide +kernel
theorem d_N_add_88 : decode b_N_add 88 = .ok (.iload_n 3, 1) := by decide +kernel
theorem d_N_add_89 : decode b_N_add 89 = .ok (.ifCond .eq 7, 3) := by decide +kernel
theorem d_N_add_92 : decode b_N_add 92 = .ok (.iconst 1, 1) := by decide +kernel
theorem d_N_add_93 : decode b_N_add 93 = .ok (.goto 4, 3) := by decide +kernel
theorem d_N_add_96 : decode b_N_add 96 = .ok (.iconst 0, 1) := by decide +kernel
theorem d_N_add_97 : decode b_N_add 97 = .ok (.bastore, 1) := by decide +kernel
theorem d_N_add_98 : decode b_N_add 98 = .ok (.return_, 1) := by decide +kernel
theorem d_N_placeOf_0 : decode b_N_placeOf 0 = .ok (.iconst 0, 1) := by decide +kernel
theorem d_N_placeOf_1 : decode b_N_placeOf 1 = .ok (.istore_n 2, 1) := by decide +kernel
theorem d_N_placeOf_2 : decode b_N_placeOf 2 = .ok (.iload_n 2, 1) := by decide +kernel
theorem d_N_placeOf_3 : decode b_N_placeOf 3 = .ok (.aload_n 0, 1) := by decide +kernel
theorem d_N_placeOf_4 : decode b_N_placeOf 4 = .ok (.getfield 26, 3) := by decide +kernel
theorem d_N_placeOf_7 : decode b_N_placeOf 7 = .ok (.if_icmp .ge 21, 3) := by decide +kernel
theorem d_N_placeOf_10 : decode b_N_placeOf 10 = .ok (.aload_n 0, 1) := by decide +kernel
theorem d_N_placeOf_11 : decode b_N_placeOf 11 = .ok (.getfield 9, 3) := by decide +kernel
theorem d_N_placeOf_14 : decode b_N_placeOf 14 = .ok (.iload_n 2, 1) := by decide +kernel
theorem d_N_placeOf_15 : decode b_N_placeOf 15 = .ok (.iaload, 1) := by decide +kernel
theorem d_N_placeOf_16 : decode b_N_placeOf 16 = .ok (.iload_n 1, 1) := by decide +kernel
theorem d_N_placeOf_17 : decode b_N_placeOf 17 = .ok (.if_icmp .ne 5, 3) := by decide +kernel
theorem d_N_placeOf_20 : decode b_N_placeOf 20 = .ok (.iload_n 2, 1) := by decide +kernel
theorem d_N_placeOf_21 : decode b_N_placeOf 21 = .ok (.ireturn, 1) := by decide +kernel
theorem d_N_placeOf_22 : decode b_N_placeOf 22 = .ok (.iinc 2 1, 3) := by decide +kernel
theorem d_N_placeOf_25 : decode b_N_placeOf 25 = .ok (.goto (-23), 3) := by decide +kernel
theorem d_N_placeOf_28 : decode b_N_placeOf 28 = .ok (.aload_n 0, 1) := by decide +kernel
theorem d_N_placeOf_29 : decode b_N_placeOf 29 = .ok (.getfield 26, 3) := by decide +kernel
theorem d_N_placeOf_32 : decode b_N_placeOf 32 = .ok (.ireturn, 1) := by decide +kernel
theorem d_A_addToSum_0 : decode b_A_addToSum 0 = .ok (.aload_n 0, 1) := by decide +kernel
theorem d_A_addToSum_1 : decode b_A_addToSum 1 = .ok (.ldc2_w 61, 3) := by decide +kernel
theorem d_A_addToSum_4 : decode b_A_addToSum 4 = .ok (.aload_n 0, 1) := by decide +kernel
theorem d_A_addToSum_5 : decode b_A_addToSum 5 = .ok (.getfield 42, 3) := by decide +kernel
theorem d_A_addToSum_8 : decode b_A_addToSum 8 = .ok (.lmul, 1) := by decide +kernel
theorem d_A_addToSum_9 : decode b_A_addToSum 9 = .ok (.lload_n 1, 1) := by decide +kernel
theorem d_A_addToSum_10 : decode b_A_addToSum 10 = .ok (.ladd, 1) := by decide +kernel
theorem d_A_addToSum_11 : decode b_A_addToSum 11 = .ok (.putfield 42, 3) := by decide +kernel
theorem d_A_addToSum_14 : decode b_A_addToSum 14 = .ok (.return_, 1) := by decide +kernel
theorem d_X_keep_0 : decode b_X_keep 0 = .ok (.aload_n 1, 1) := by decide +kernel
theorem d_X_keep_1 : decode b_X_keep 1 = .ok (.iconst 1, 1) := by decide +kernel
theorem d_X_keep_2 : decode b_X_keep 2 = .ok (.putfield 120, 3) := by decide +kernel
theorem d_X_keep_5 : decode b_X_keep 5 = .ok (.aload_n 1, 1) := by decide +kernel
theorem d_X_keep_6 : decode b_X_keep 6 = .ok (.iload_n 2, 1) := by decide +kernel
theorem d_X_keep_7 : decode b_X_keep 7 = .ok (.putfield 177, 3) := by decide +kernel
theorem d_X_keep_10 : decode b_X_keep 10 = .ok (.aload_n 0, 1) := by decide +kernel
theorem d_X_keep_11 : decode b_X_keep 11 = .ok (.aload_n 1, 1) := by decide +kernel
theorem d_X_keep_12 : decode b_X_keep 12 = .ok (.getfield 83, 3) := by decide +kernel
theorem d_X_keep_15 : decode b_X_keep 15 = .ok (.invokevirtual 66, 3) := by decide +kernel
theorem d_X_keep_18 : decode b_X_keep 18 = .ok (.ifCond .ne 4, 3) := by decide +kernel
theorem d_X_keep_21 : decode b_X_keep 21 = .ok (.return_, 1) := by decide +kernel
theorem d_X_keep_22 : decode b_X_keep 22 = .ok (.iload_n 2, 1) := by decide +kernel
theorem d_X_keep_23 : decode b_X_keep 23 = .ok (.iconst 1, 1) := by decide +kernel
theorem d_X_keep_24 : decode b_X_keep 24 = .ok (.if_icmp .ne 22, 3) := by decide +kernel
theorem d_X_keep_27 : decode b_X_keep 27 = .ok (.aload_n 0, 1) := by decide +kernel
theorem d_X_keep_28 : decode b_X_keep 28 = .ok (.getfield 11, 3) := by decide +kernel
theorem d_X_keep_31 : decode b_X_keep 31 = .ok (.aload_n 1, 1) := by decide +kernel
theorem d_X_keep_32 : decode b_X_keep 32 = .ok (.getfield 83, 3) := by decide +kernel
theorem d_X_keep_35 : decode b_X_keep 35 = .ok (.aaload, 1) := by decide +kernel
theorem d_X_keep_36 : decode b_X_keep 36 = .ok (.aload_n 1, 1) := by decide +kernel
theorem d_X_keep_37 : decode b_X_keep 37 = .ok (.getfield 191, 3) := by decide +kernel
theorem d_X_keep_40 : decode b_X_keep 40 = .ok (.invokevirtual 62, 3) := by decide +kernel
theorem d_X_keep_43 : decode b_X_keep 43 = .ok (.goto 15, 3) := by decide +kernel
theorem d_X_keep_46 : decode b_X_keep 46 = .ok (.aload_n 0, 1) := by decide +kernel
theorem d_X_keep_47 : decode b_X_keep 47 = .ok (.getfield 11, 3) := by decide +kernel
theorem d_X_keep_50 : decode b_X_keep 50 = .ok (.aload_n 1, 1) := by decide +kernel
theorem d_X_keep_51 : decode b_X_keep 51 = .ok (.getfield 83, 3) := by decide +kernel
theorem d_X_keep_54 : decode b_X_keep 54 = .ok (.aaload, 1) := by decide +kernel
theorem d_X_keep_55 : decode b_X_keep 55 = .ok (.invokevirtual 74, 3) := by decide +kernel
theorem d_X_keep_58 : decode b_X_keep 58 = .ok (.return_, 1) := by decide +kernel
theorem d_X_resolve_0 : decode b_X_resolve 0 = .ok (.aload_n 0, 1) := by decide +kernel
theorem d_X_resolve_1 : decode b_X_resolve 1 = .ok (.iload_n 1, 1) := by decide +kernel
theorem d_X_resolve_2 : decode b_X_resolve 2 = .ok (.invokevirtual 80, 3) := by decide +kernel
theorem d_X_resolve_5 : decode b_X_resolve 5 = .ok (.ifCond .ne 6, 3) := by decide +kernel
theorem d_X_resolve_8 : decode b_X_resolve 8 = .ok (.bipush (-9), 2) := by decide +kernel
theorem d_X_resolve_10 : decode b_X_resolve 10 = .ok (.ireturn, 1) := by decide +kernel
theorem d_X_resolve_11 : decode b_X_resolve 11 = .ok (.aload_n 0, 1) := by decide +kernel
theorem d_X_resolve_12 : decode b_X_resolve 12 = .ok (.iconst 0, 1) := by decide +kernel
theorem d_X_resolve_13 : decode b_X_resolve 13 = .ok (.putfield 44, 3) := by decide +kernel
theorem d_X_resolve_16 : decode b_X_resolve 16 = .ok (.aload_n 0, 1) := by decide +kernel
theorem d_X_resolve_17 : decode b_X_resolve 17 = .ok (.getfield 37, 3) := by decide +kernel
theorem d_X_resolve_20 : decode b_X_resolve 20 = .ok (.iconst 0, 1) := by decide +kernel
theorem d_X_resolve_21 : decode b_X_resolve 21 = .ok (.iload_n 1, 1) := by decide +kernel
theorem d_X_resolve_22 : decode b_X_resolve 22 = .ok (.iastore, 1) := by decide +kernel
theorem d_X_resolve_23 : decode b_X_resolve 23 = .ok (.iconst 1, 1) := by decide +kernel
theorem d_X_resolve_24 : decode b_X_resolve 24 = .ok (.istore_n 2, 1) := by decide +kernel
theorem d_X_resolve_25 : decode b_X_resolve 25 = .ok (.iconst 0, 1) := by decide +kernel
theorem d_X_resolve_26 : decode b_X_resolve 26 = .ok (.istore_n 3, 1) := by decide +kernel
theorem d_X_resolve_27 : decode b_X_resolve 27 = .ok (.iload_n 3, 1) := by decide +kernel
theorem d_X_resolve_28 : decode b_X_resolve 28 = .ok (.sipush 10000, 3) := by decide +kernel
theorem d_X_resolve_31 : decode b_X_resolve 31 = .ok (.if_icmp .ge 109, 3) := by decide +kernel
theorem d_X_resolve_34 : decode b_X_resolve 34 = .ok (.iload_n 2, 1) := by decide +kernel
theorem d_X_resolve_35 : decode b_X_resolve 35 = .ok (.aload_n 0, 1) := by decide +kernel
theorem d_X_resolve_36 : decode b_X_resolve 36 = .ok (.getfield 37, 3) := by decide +kernel
theorem d_X_resolve_39 : decode b_X_resolve 39 = .ok (.arraylength, 1) := by decide +kernel
theorem d_X_resolve_40 : decode b_X_resolve 40 = .ok (.if_icmp .ge 100, 3) := by decide +kernel
theorem d_X_resolve_43 : decode b_X_resolve 43 = .ok (.aload_n 0, 1) := by decide +kernel
theorem d_X_resolve_44 : decode b_X_resolve 44 = .ok (.getfield 37, 3) := by decide +kernel
theorem d_X_resolve_47 : decode b_X_resolve 47 = .ok (.iload_n 2, 1) := by decide +kernel
theorem d_X_resolve_48 : decode b_X_resolve 48 = .ok (.iconst 1, 1) := by decide +kernel
theorem d_X_resolve_49 : decode b_X_resolve 49 = .ok (.isub, 1) := by decide +kernel
theorem d_X_resolve_50 : decode b_X_resolve 50 = .ok (.iaload, 1) := by decide +kernel
theorem d_X_resolve_51 : decode b_X_resolve 51 = .ok (.istore 4, 2) := by decide +kernel
theorem d_X_resolve_53 : decode b_X_resolve 53 = .ok (.aload_n 0, 1) := by decide +kernel
theorem d_X_resolve_54 : decode b_X_resolve 54 = .ok (.iload 4, 2) := by decide +kernel
theorem d_X_resolve_56 : decode b_X_resolve 56 = .ok (.invokevirtual 99, 3) := by decide +kernel
theorem d_X_resolve_59 : decode b_X_resolve 59 = .ok (.istore 5, 2) := by decide +kernel
theorem d_X_resolve_61 : decode b_X_resolve 61 = .ok (.aload_n 0, 1) := by decide +kernel
theorem d_X_resolve_62 : decode b_X_resolve 62 = .ok (.aload_n 0, 1) := by decide +kernel
theorem d_X_resolve_63 : decode b_X_resolve 63 = .ok (.getfield 17, 3) := by decide +kernel
theorem d_X_resolve_66 : decode b_X_resolve 66 = .ok (.iload 4, 2) := by decide +kernel
theorem d_X_resolve_68 : decode b_X_resolve 68 = .ok (.aaload, 1) := by decide +kernel
theorem d_X_resolve_69 : decode b_X_resolve 69 = .ok (.invokevirtual 103, 3) := by decide +kernel
theorem d_X_resolve_72 : decode b_X_resolve 72 = .ok (.istore 6, 2) := by decide +kernel
theorem d_X_resolve_74 : decode b_X_resolve 74 = .ok (.aload_n 0, 1) := by decide +kernel
theorem d_X_resolve_75 : decode b_X_resolve 75 = .ok (.iload 6, 2) := by decide +kernel
theorem d_X_resolve_77 : decode b_X_resolve 77 = .ok (.invokevirtual 80, 3) := by decide +kernel
theorem d_X_resolve_80 : decode b_X_resolve 80 = .ok (.ifCond .eq 30, 3) := by decide +kernel
theorem d_X_resolve_83 : decode b_X_resolve 83 = .ok (.aload_n 0, 1) := by decide +kernel
theorem d_X_resolve_84 : decode b_X_resolve 84 = .ok (.iload 6, 2) := by decide +kernel
theorem d_X_resolve_86 : decode b_X_resolve 86 = .ok (.iload_n 2, 1) := by decide +kernel
theorem d_X_resolve_87 : decode b_X_resolve 87 = .ok (.invokevirtual 107, 3) := by decide +kernel
theorem d_X_resolve_90 : decode b_X_resolve 90 = .ok (.ifCond .eq 6, 3) := by decide +kernel
theorem d_X_resolve_93 : decode b_X_resolve 93 = .ok (.bipush (-5), 2) := by decide +kernel
theorem d_X_resolve_95 : decode b_X_resolve 95 = .ok (.ireturn, 1) := by decide +kernel
theorem d_X_resolve_96 : decode b_X_resolve 96 = .ok (.aload_n 0, 1) := by decide +kernel
theorem d_X_resolve_97 : decode b_X_resolve 97 = .ok (.getfield 37, 3) := by decide +kernel
theorem d_X_resolve_100 : decode b_X_resolve 100 = .ok (.iload_n 2, 1) := by decide +kernel
theorem d_X_resolve_101 : decode b_X_resolve 101 = .ok (.iload 6, 2) := by decide +kernel
theorem d_X_resolve_103 : decode b_X_resolve 103 = .ok (.iastore, 1) := by decide +kernel
theorem d_X_resolve_104 : decode b_X_resolve 104 = .ok (.iinc 2 1, 3) := by decide +kernel
theorem d_X_resolve_107 : decode b_X_resolve 107 = .ok (.goto 27, 3) := by decide +kernel
theorem d_X_resolve_110 : decode b_X_resolve 110 = .ok (.iload_n 2, 1) := by decide +kernel
theorem d_X_resolve_111 : decode b_X_resolve 111 = .ok (.iconst 1, 1) := by decide +kernel
theorem d_X_resolve_112 : decode b_X_resolve 112 = .ok (.if_icmp .eq 16, 3) := by decide +kernel
theorem d_X_resolve_115 : decode b_X_resolve 115 = .ok (.iload 5, 2) := by decide +kernel
theorem d_X_resolve_117 : decode b_X_resolve 117 = .ok (.iconst (-1), 1) := by decide +kernel
theorem d_X_resolve_118 : decode b_X_resolve 118 = .ok (.if_icmp .eq 10, 3) := by decide +kernel
theorem d_X_resolve_121 : decode b_X_resolve 121 = .ok (.iload 5, 2) := by decide +kernel
theorem d_X_resolve_123 : decode b_X_resolve 123 = .ok (.bipush (-2), 2) := by decide +kernel
theorem d_X_resolve_125 : decode b_X_resolve 125 = .ok (.if_icmp .ne 6, 3) := by decide +kernel
theorem d_X_resolve_128 : decode b_X_resolve 128 = .ok (.iload 5, 2) := by decide +kernel
theorem d_X_resolve_130 : decode b_X_resolve 130 = .ok (.ireturn, 1) := by decide +kernel
theorem d_X_resolve_131 : decode b_X_resolve 131 = .ok (.iinc 2 (-1), 3) := by decide +kernel
theorem d_X_resolve_134 : decode b_X_resolve 134 = .ok (.iinc 3 1, 3) := by decide +kernel
theorem d_X_resolve_137 : decode b_X_resolve 137 = .ok (.goto (-110), 3) := by decide +kernel
theorem d_X_resolve_140 : decode b_X_resolve 140 = .ok (.bipush (-2), 2) := by decide +kernel
theorem d_X_resolve_142 : decode b_X_resolve 142 = .ok (.ireturn, 1) := by decide +kernel
theorem d_X_awaitedMaker_0 : decode b_X_awaitedMaker 0 = .ok (.aload_n 0, 1) := by decide +kernel
theorem d_X_awaitedMaker_1 : decode b_X_awaitedMaker 1 = .ok (.aload_n 1, 1) := by decide +kernel
theorem d_X_awaitedMaker_2 : decode b_X_awaitedMaker 2 = .ok (.getfield 110, 3) := by decide +kernel
theorem d_X_awaitedMaker_5 : decode b_X_awaitedMaker 5 = .ok (.invokevirtual 66, 3) := by decide +kernel
theorem d_X_awaitedMaker_8 : decode b_X_awaitedMaker 8 = .ok (.ifCond .eq 18, 3) := by decide +kernel
theorem d_X_awaitedMaker_11 : decode b_X_awaitedMaker 11 = .ok (.aload_n 0, 1) := by decide +kernel
theorem d_X_awaitedMaker_12 : decode b_X_awaitedMaker 12 = .ok (.getfield 11, 3) := by decide +kernel
theorem d_X_awaitedMaker_15 : decode b_X_awaitedMaker 15 = .ok (.aload_n 1, 1) := by decide +kernel
theorem d_X_awaitedMaker_16 : decode b_X_awaitedMaker 16 = .ok (.getfield 110, 3) := by decide +kernel
theorem d_X_awaitedMaker_19 : decode b_X_awaitedMaker 19 = .ok (.aaload, 1) := by decide +kernel
theorem d_X_awaitedMaker_20 : decode b_X_awaitedMaker 20 = .ok (.getfield 89, 3) := by decide +kernel
theorem d_X_awaitedMaker_23 : decode b_X_awaitedMaker 23 = .ok (.goto 4, 3) := by decide +kernel
theorem d_X_awaitedMaker_26 : decode b_X_awaitedMaker 26 = .ok (.iconst (-1), 1) := by decide +kernel
theorem d_X_awaitedMaker_27 : decode b_X_awaitedMaker 27 = .ok (.ireturn, 1) := by decide +kernel
theorem d_X_tellRing_0 : decode b_X_tellRing 0 = .ok (.iconst 0, 1) := by decide +kernel
theorem d_X_tellRing_1 : decode b_X_tellRing 1 = .ok (.istore_n 3, 1) := by decide +kernel
theorem d_X_tellRing_2 : decode b_X_tellRing 2 = .ok (.iload_n 3, 1) := by decide +kernel
theorem d_X_tellRing_3 : decode b_X_tellRing 3 = .ok (.iload_n 2, 1) := by decide +kernel
theorem d_X_tellRing_4 : decode b_X_tellRing 4 = .ok (.if_icmp .ge 33, 3) := by decide +kernel
theorem d_X_tellRing_7 : decode b_X_tellRing 7 = .ok (.aload_n 0, 1) := by decide +kernel
theorem d_X_tellRing_8 : decode b_X_tellRing 8 = .ok (.getfield 37, 3) := by decide +kernel
theorem d_X_tellRing_11 : decode b_X_tellRing 11 = .ok (.iload_n 3, 1) := by decide +kernel
theorem d_X_tellRing_12 : decode b_X_tellRing 12 = .ok (.iaload, 1) := by decide +kernel
theorem d_X_tellRing_13 : decode b_X_tellRing 13 = .ok (.iload_n 1, 1) := by decide +kernel
theorem d_X_tellRing_14 : decode b_X_tellRing 14 = .ok (.if_icmp .ne 17, 3) := by decide +kernel
theorem d_X_tellRing_17 : decode b_X_tellRing 17 = .ok (.aload_n 0, 1) := by decide +kernel
theorem d_X_tellRing_18 : decode b_X_tellRing 18 = .ok (.iload_n 3, 1) := by decide +kernel
theorem d_X_tellRing_19 : decode b_X_tellRing 19 = .ok (.putfield 41, 3) := by decide +kernel
theorem d_X_tellRing_22 : decode b_X_tellRing 22 = .ok (.aload_n 0, 1) := by decide +kernel
theorem d_X_tellRing_23 : decode b_X_tellRing 23 = .ok (.iload_n 2, 1) := by decide +kernel
theorem d_X_tellRing_24 : decode b_X_tellRing 24 = .ok (.iload_n 3, 1) := by decide +kernel
theorem d_X_tellRing_25 : decode b_X_tellRing 25 = .ok (.isub, 1) := by decide +kernel
theorem d_X_tellRing_26 : decode b_X_tellRing 26 = .ok (.putfield 44, 3) := by decide +kernel
theorem d_X_tellRing_29 : decode b_X_tellRing 29 = .ok (.iconst 1, 1) := by decide +kernel
theorem d_X_tellRing_30 : decode b_X_tellRing 30 = .ok (.ireturn, 1) := by decide +kernel
theorem d_X_tellRing_31 : decode b_X_tellRing 31 = .ok (.iinc 3 1, 3) := by decide +kernel
theorem d_X_tellRing_34 : decode b_X_tellRing 34 = .ok (.goto (-32), 3) := by decide +kernel
theorem d_X_tellRing_37 : decode b_X_tellRing 37 = .ok (.iconst 0, 1) := by decide +kernel
theorem d_X_tellRing_38 : decode b_X_tellRing 38 = .ok (.ireturn, 1) := by decide +kernel
theorem d_X_ring_0 : decode b_X_ring 0 = .ok (.iload_n 1, 1) := by decide +kernel
theorem d_X_ring_1 : decode b_X_ring 1 = .ok (.ifCond .lt 25, 3) := by decide +kernel
theorem d_X_ring_4 : decode b_X_ring 4 = .ok (.iload_n 1, 1) := by decide +kernel
theorem d_X_ring_5 : decode b_X_ring 5 = .ok (.aload_n 0, 1) := by decide +kernel
theorem d_X_ring_6 : decode b_X_ring 6 = .ok (.getfield 44, 3) := by decide +kernel
theorem d_X_ring_9 : decode b_X_ring 9 = .ok (.if_icmp .ge 17, 3) := by decide +kernel
theorem d_X_ring_12 : decode b_X_ring 12 = .ok (.aload_n 0, 1) := by decide +kernel
theorem d_X_ring_13 : decode b_X_ring 13 = .ok (.getfield 37, 3) := by decide +kernel
theorem d_X_ring_16 : decode b_X_ring 16 = .ok (.aload_n 0, 1) := by decide +kernel
theorem d_X_ring_17 : decode b_X_ring 17 = .ok (.getfield 41, 3) := by decide +kernel
theorem d_X_ring_20 : decode b_X_ring 20 = .ok (.iload_n 1, 1) := by decide +kernel
theorem d_X_ring_21 : decode b_X_ring 21 = .ok (.iadd, 1) := by decide +kernel
theorem d_X_ring_22 : decode b_X_ring 22 = .ok (.iaload, 1) := by decide +kernel
theorem d_X_ring_23 : decode b_X_ring 23 = .ok (.goto 4, 3) := by decide +kernel
theorem d_X_ring_26 : decode b_X_ring 26 = .ok (.iconst (-1), 1) := by decide +kernel
theorem d_X_ring_27 : decode b_X_ring 27 = .ok (.ireturn, 1) := by decide +kernel
theorem d_X_waits_0 : decode b_X_waits 0 = .ok (.aload_n 0, 1) := by decide +kernel
theorem d_X_waits_1 : decode b_X_waits 1 = .ok (.iload_n 1, 1) := by decide +kernel
theorem d_X_waits_2 : decode b_X_waits 2 = .ok (.invokevirtual 80, 3) := by decide +kernel
theorem d_X_waits_5 : decode b_X_waits 5 = .ok (.ifCond .eq 15, 3) := by decide +kernel
theorem d_X_waits_8 : decode b_X_waits 8 = .ok (.aload_n 0, 1) := by decide +kernel
theorem d_X_waits_9 : decode b_X_waits 9 = .ok (.getfield 17, 3) := by decide +kernel
theorem d_X_waits_12 : decode b_X_waits 12 = .ok (.iload_n 1, 1) := by decide +kernel
theorem d_X_waits_13 : decode b_X_waits 13 = .ok (.aaload, 1) := by decide +kernel
theorem d_X_waits_14 : decode b_X_waits 14 = .ok (.getfield 110, 3) := by decide +kernel
theorem d_X_waits_17 : decode b_X_waits 17 = .ok (.goto 4, 3) := by decide +kernel
theorem d_X_waits_20 : decode b_X_waits 20 = .ok (.iconst (-1), 1) := by decide +kernel
theorem d_X_waits_21 : decode b_X_waits 21 = .ok (.ireturn, 1) := by decide +kernel
theorem d_X_fresh_0 : decode b_X_fresh 0 = .ok (.aload_n 0, 1) := by decide +kernel
theorem d_X_fresh_1 : decode b_X_fresh 1 = .ok (.iload_n 1, 1) := by decide +kernel
theorem d_X_fresh_2 : decode b_X_fresh 2 = .ok (.invokevirtual 80, 3) := by decide +kernel
theorem d_X_fresh_5 : decode b_X_fresh 5 = .ok (.ifCond .eq 18, 3) := by decide +kernel
theorem d_X_fresh_8 : decode b_X_fresh 8 = .ok (.aload_n 0, 1) := by decide +kernel
theorem d_X_fresh_9 : decode b_X_fresh 9 = .ok (.invokevirtual 113, 3) := by decide +kernel
theorem d_X_fresh_12 : decode b_X_fresh 12 = .ok (.iload_n 1, 1) := by decide +kernel
theorem d_X_fresh_13 : decode b_X_fresh 13 = .ok (.invokestatic 117, 3) := by decide +kernel
theorem d_X_fresh_16 : decode b_X_fresh 16 = .ok (.ifCond .eq 7, 3) := by decide +kernel
theorem d_X_fresh_19 : decode b_X_fresh 19 = .ok (.iconst 1, 1) := by decide +kernel
theorem d_X_fresh_20 : decode b_X_fresh 20 = .ok (.goto 4, 3) := by decide +kernel
theorem d_X_fresh_23 : decode b_X_fresh 23 = .ok (.iconst 0, 1) := by decide +kernel
theorem d_X_fresh_24 : decode b_X_fresh 24 = .ok (.ireturn, 1) := by decide +kernel
theorem d_X_kept_0 : decode b_X_kept 0 = .ok (.aload_n 0, 1) := by decide +kernel
theorem d_X_kept_1 : decode b_X_kept 1 = .ok (.iload_n 1, 1) := by decide +kernel
theorem d_X_kept_2 : decode b_X_kept 2 = .ok (.invokevirtual 80, 3) := by decide +kernel
theorem d_X_kept_5 : decode b_X_kept 5 = .ok (.ifCond .eq 15, 3) := by decide +kernel
theorem d_X_kept_8 : decode b_X_kept 8 = .ok (.aload_n 0, 1) := by decide +kernel
theorem d_X_kept_9 : decode b_X_kept 9 = .ok (.getfield 17, 3) := by decide +kernel
theorem d_X_kept_12 : decode b_X_kept 12 = .ok (.iload_n 1, 1) := by decide +kernel
theorem d_X_kept_13 : decode b_X_kept 13 = .ok (.aaload, 1) := by decide +kernel
theorem d_X_kept_14 : decode b_X_kept 14 = .ok (.getfield 120, 3) := by decide +kernel
theorem d_X_kept_17 : decode b_X_kept 17 = .ok (.ifCond .ne 5, 3) := by decide +kernel
theorem d_X_kept_20 : decode b_X_kept 20 = .ok (.iconst (-1), 1) := by decide +kernel
theorem d_X_kept_21 : decode b_X_kept 21 = .ok (.ireturn, 1) := by decide +kernel
theorem d_X_kept_22 : decode b_X_kept 22 = .ok (.aload_n 0, 1) := by decide +kernel
theorem d_X_kept_23 : decode b_X_kept 23 = .ok (.getfield 17, 3) := by decide +kernel
theorem d_X_kept_26 : decode b_X_kept 26 = .ok (.iload_n 1, 1) := by decide +kernel
theorem d_X_kept_27 : decode b_X_kept 27 = .ok (.aaload, 1) := by decide +kernel
theorem d_X_kept_28 : decode b_X_kept 28 = .ok (.getfield 124, 3) := by decide +kernel
theorem d_X_kept_31 : decode b_X_kept 31 = .ok (.iload_n 2, 1) := by decide +kernel
theorem d_X_kept_32 : decode b_X_kept 32 = .ok (.iload_n 3, 1) := by decide +kernel
theorem d_X_kept_33 : decode b_X_kept 33 = .ok (.invokevirtual 128, 3) := by decide +kernel
theorem d_X_kept_36 : decode b_X_kept 36 = .ok (.ireturn, 1) := by decide +kernel
theorem d_N_tell_0 : decode b_N_tell 0 = .ok (.iload_n 1, 1) := by decide +kernel
theorem d_N_tell_1 : decode b_N_tell 1 = .ok (.ifCond .lt 11, 3) := by decide +kernel
theorem d_N_tell_4 : decode b_N_tell 4 = .ok (.iload_n 1, 1) := by decide +kernel
theorem d_N_tell_5 : decode b_N_tell 5 = .ok (.aload_n 0, 1) := by decide +kernel
theorem d_N_tell_6 : decode b_N_tell 6 = .ok (.getfield 26, 3) := by decide +kernel
theorem d_N_tell_9 : decode b_N_tell 9 = .ok (.if_icmp .lt 5, 3) := by decide +kernel
theorem d_N_tell_12 : decode b_N_tell 12 = .ok (.iconst (-1), 1) := by decide +kernel
theorem d_N_tell_13 : decode b_N_tell 13 = .ok (.ireturn, 1) := by decide +kernel
theorem d_N_tell_14 : decode b_N_tell 14 = .ok (.iload_n 2, 1) := by decide +kernel
theorem d_N_tell_15 : decode b_N_tell 15 = .ok (.tableswitch 62 0 2 #[25, 32, 47], 25) := by decide +kernel
theorem d_N_tell_40 : decode b_N_tell 40 = .ok (.aload_n 0, 1) := by decide +kernel
theorem d_N_tell_41 : decode b_N_tell 41 = .ok (.getfield 9, 3) := by decide +kernel
theorem d_N_tell_44 : decode b_N_tell 44 = .ok (.iload_n 1, 1) := by decide +kernel
theorem d_N_tell_45 : decode b_N_tell 45 = .ok (.iaload, 1) := by decide +kernel
theorem d_N_tell_46 : decode b_N_tell 46 = .ok (.ireturn, 1) := by decide +kernel
theorem d_N_tell_47 : decode b_N_tell 47 = .ok (.aload_n 0, 1) := by decide +kernel
theorem d_N_tell_48 : decode b_N_tell 48 = .ok (.getfield 15, 3) := by decide +kernel
theorem d_N_tell_51 : decode b_N_tell 51 = .ok (.iload_n 1, 1) := by decide +kernel
theorem d_N_tell_52 : decode b_N_tell 52 = .ok (.baload, 1) := by decide +kernel
theorem d_N_tell_53 : decode b_N_tell 53 = .ok (.ifCond .eq 7, 3) := by decide +kernel
theorem d_N_tell_56 : decode b_N_tell 56 = .ok (.iconst 1, 1) := by decide +kernel
theorem d_N_tell_57 : decode b_N_tell 57 = .ok (.goto 4, 3) := by decide +kernel
theorem d_N_tell_60 : decode b_N_tell 60 = .ok (.iconst 0, 1) := by decide +kernel
theorem d_N_tell_61 : decode b_N_tell 61 = .ok (.ireturn, 1) := by decide +kernel
theorem d_N_tell_62 : decode b_N_tell 62 = .ok (.aload_n 0, 1) := by decide +kernel
theorem d_N_tell_63 : decode b_N_tell 63 = .ok (.getfield 19, 3) := by decide +kernel
theorem d_N_tell_66 : decode b_N_tell 66 = .ok (.iload_n 1, 1) := by decide +kernel
theorem d_N_tell_67 : decode b_N_tell 67 = .ok (.baload, 1) := by decide +kernel
theorem d_N_tell_68 : decode b_N_tell 68 = .ok (.ifCond .eq 7, 3) := by decide +kernel
theorem d_N_tell_71 : decode b_N_tell 71 = .ok (.iconst 1, 1) := by decide +kernel
theorem d_N_tell_72 : decode b_N_tell 72 = .ok (.goto 4, 3) := by decide +kernel
theorem d_N_tell_75 : decode b_N_tell 75 = .ok (.iconst 0, 1) := by decide +kernel
theorem d_N_tell_76 : decode b_N_tell 76 = .ok (.ireturn, 1) := by decide +kernel
theorem d_N_tell_77 : decode b_N_tell 77 = .ok (.iconst (-1), 1) := by decide +kernel
theorem d_N_tell_78 : decode b_N_tell 78 = .ok (.ireturn, 1) := by decide +kernel
theorem d_X_unused_0 : decode b_X_unused 0 = .ok (.aload_n 0, 1) := by decide +kernel
theorem d_X_unused_1 : decode b_X_unused 1 = .ok (.iload_n 1, 1) := by decide +kernel
theorem d_X_unused_2 : decode b_X_unused 2 = .ok (.invokevirtual 80, 3) := by decide +kernel
theorem d_X_unused_5 : decode b_X_unused 5 = .ok (.ifCond .ne 5, 3) := by decide +kernel
theorem d_X_unused_8 : decode b_X_unused 8 = .ok (.iconst 0, 1) := by decide +kernel
theorem d_X_unused_9 : decode b_X_unused 9 = .ok (.ireturn, 1) := by decide +kernel
theorem d_X_unused_10 : decode b_X_unused 10 = .ok (.aload_n 0, 1) := by decide +kernel
theorem d_X_unused_11 : decode b_X_unused 11 = .ok (.getfield 17, 3) := by decide +kernel
theorem d_X_unused_14 : decode b_X_unused 14 = .ok (.iload_n 1, 1) := by decide +kernel
theorem d_X_unused_15 : decode b_X_unused 15 = .ok (.aaload, 1) := by decide +kernel
theorem d_X_unused_16 : decode b_X_unused 16 = .ok (.getfield 77, 3) := by decide +kernel
theorem d_X_unused_19 : decode b_X_unused 19 = .ok (.iconst 1, 1) := by decide +kernel
theorem d_X_unused_20 : decode b_X_unused 20 = .ok (.aload_n 0, 1) := by decide +kernel
theorem d_X_unused_21 : decode b_X_unused 21 = .ok (.getfield 27, 3) := by decide +kernel
theorem d_X_unused_24 : decode b_X_unused 24 = .ok (.ishl, 1) := by decide +kernel
theorem d_X_unused_25 : decode b_X_unused 25 = .ok (.iconst 1, 1) := by decide +kernel
theorem d_X_unused_26 : decode b_X_unused 26 = .ok (.isub, 1) := by decide +kernel
theorem d_X_unused_27 : decode b_X_unused 27 = .ok (.iand, 1) := by decide +kernel
theorem d_X_unused_28 : decode b_X_unused 28 = .ok (.istore_n 2, 1) := by decide +kernel
theorem d_X_unused_29 : decode b_X_unused 29 = .ok (.iload_n 2, 1) := by decide +kernel
theorem d_X_unused_30 : decode b_X_unused 30 = .ok (.aload_n 0, 1) := by decide +kernel
theorem d_X_unused_31 : decode b_X_unused 31 = .ok (.getfield 17, 3) := by decide +kernel
theorem d_X_unused_34 : decode b_X_unused 34 = .ok (.iload_n 1, 1) := by decide +kernel
theorem d_X_unused_35 : decode b_X_unused 35 = .ok (.aaload, 1) := by decide +kernel
theorem d_X_unused_36 : decode b_X_unused 36 = .ok (.getfield 124, 3) := by decide +kernel
theorem d_X_unused_39 : decode b_X_unused 39 = .ok (.invokevirtual 133, 3) := by decide +kernel
theorem d_X_unused_42 : decode b_X_unused 42 = .ok (.iconst (-1), 1) := by decide +kernel
theorem d_X_unused_43 : decode b_X_unused 43 = .ok (.ixor, 1) := by decide +kernel
theorem d_X_unused_44 : decode b_X_unused 44 = .ok (.iand, 1) := by decide +kernel
theorem d_X_unused_45 : decode b_X_unused 45 = .ok (.ireturn, 1) := by decide +kernel
theorem d_N_fileBits_0 : decode b_N_fileBits 0 = .ok (.iconst 0, 1) := by decide +kernel
theorem d_N_fileBits_1 : decode b_N_fileBits 1 = .ok (.istore_n 1, 1) := by decide +kernel
theorem d_N_fileBits_2 : decode b_N_fileBits 2 = .ok (.iconst 0, 1) := by decide +kernel
theorem d_N_fileBits_3 : decode b_N_fileBits 3 = .ok (.istore_n 2, 1) := by decide +kernel
theorem d_N_fileBits_4 : decode b_N_fileBits 4 = .ok (.iload_n 2, 1) := by decide +kernel
theorem d_N_fileBits_5 : decode b_N_fileBits 5 = .ok (.aload_n 0, 1) := by decide +kernel
theorem d_N_fileBits_6 : decode b_N_fileBits 6 = .ok (.getfield 26, 3) := by decide +kernel
theorem d_N_fileBits_9 : decode b_N_fileBits 9 = .ok (.if_icmp .ge 20, 3) := by decide +kernel
theorem d_N_fileBits_12 : decode b_N_fileBits 12 = .ok (.iload_n 1, 1) := by decide +kernel
theorem d_N_fileBits_13 : decode b_N_fileBits 13 = .ok (.iconst 1, 1) := by decide +kernel
theorem d_N_fileBits_14 : decode b_N_fileBits 14 = .ok (.aload_n 0, 1) := by decide +kernel
theorem d_N_fileBits_15 : decode b_N_fileBits 15 = .ok (.getfield 9, 3) := by decide +kernel
theorem d_N_fileBits_18 : decode b_N_fileBits 18 = .ok (.iload_n 2, 1) := by decide +kernel
theorem d_N_fileBits_19 : decode b_N_fileBits 19 = .ok (.iaload, 1) := by decide +kernel
theorem d_N_fileBits_20 : decode b_N_fileBits 20 = .ok (.ishl, 1) := by decide +kernel
theorem d_N_fileBits_21 : decode b_N_fileBits 21 = .ok (.ior, 1) := by decide +kernel
theorem d_N_fileBits_22 : decode b_N_fileBits 22 = .ok (.istore_n 1, 1) := by decide +kernel
theorem d_N_fileBits_23 : decode b_N_fileBits 23 = .ok (.iinc 2 1, 3) := by decide +kernel
theorem d_N_fileBits_26 : decode b_N_fileBits 26 = .ok (.goto (-22), 3) := by decide +kernel
theorem d_N_fileBits_29 : decode b_N_fileBits 29 = .ok (.iload_n 1, 1) := by decide +kernel
theorem d_N_fileBits_30 : decode b_N_fileBits 30 = .ok (.ireturn, 1) := by decide +kernel
theorem d_X_digest_0 : decode b_X_digest 0 = .ok (.aload_n 0, 1) := by decide +kernel
theorem d_X_digest_1 : decode b_X_digest 1 = .ok (.iload_n 1, 1) := by decide +kernel
theorem d_X_digest_2 : decode b_X_digest 2 = .ok (.invokevirtual 66, 3) := by decide +kernel
theorem d_X_digest_5 : decode b_X_digest 5 = .ok (.ifCond .eq 15, 3) := by decide +kernel
theorem d_X_digest_8 : decode b_X_digest 8 = .ok (.aload_n 0, 1) := by decide +kernel
theorem d_X_digest_9 : decode b_X_digest 9 = .ok (.getfield 11, 3) := by decide +kernel
theorem d_X_digest_12 : decode b_X_digest 12 = .ok (.iload_n 1, 1) := by decide +kernel
theorem d_X_digest_13 : decode b_X_digest 13 = .ok (.aaload, 1) := by decide +kernel
theorem d_X_digest_14 : decode b_X_digest 14 = .ok (.getfield 136, 3) := by decide +kernel
theorem d_X_digest_17 : decode b_X_digest 17 = .ok (.goto 4, 3) := by decide +kernel
theorem d_X_digest_20 : decode b_X_digest 20 = .ok (.lconst 0, 1) := by decide +kernel
theorem d_X_digest_21 : decode b_X_digest 21 = .ok (.lreturn, 1) := by decide +kernel
theorem d_X_counted_0 : decode b_X_counted 0 = .ok (.aload_n 0, 1) := by decide +kernel
theorem d_X_counted_1 : decode b_X_counted 1 = .ok (.iload_n 1, 1) := by decide +kernel
theorem d_X_counted_2 : decode b_X_counted 2 = .ok (.invokevirtual 80, 3) := by decide +kernel
theorem d_X_counted_5 : decode b_X_counted 5 = .ok (.ifCond .ne 5, 3) := by decide +kernel
theorem d_X_counted_8 : decode b_X_counted 8 = .ok (.iconst (-1), 1) := by decide +kernel
theorem d_X_counted_9 : decode b_X_counted 9 = .ok (.ireturn, 1) := by decide +kernel
theorem d_X_counted_10 : decode b_X_counted 10 = .ok (.iload_n 2, 1) := by decide +kernel
theorem d_X_counted_11 : decode b_X_counted 11 = .ok (.tableswitch 55 0 2 #[25, 35, 45], 25) := by decide +kernel
theorem d_X_counted_36 : decode b_X_counted 36 = .ok (.aload_n 0, 1) := by decide +kernel
theorem d_X_counted_37 : decode b_X_counted 37 = .ok (.getfield 17, 3) := by decide +kernel
theorem d_X_counted_40 : decode b_X_counted 40 = .ok (.iload_n 1, 1) := by decide +kernel
theorem d_X_counted_41 : decode b_X_counted 41 = .ok (.aaload, 1) := by decide +kernel
theorem d_X_counted_42 : decode b_X_counted 42 = .ok (.getfield 140, 3) := by decide +kernel
theorem d_X_counted_45 : decode b_X_counted 45 = .ok (.ireturn, 1) := by decide +kernel
theorem d_X_counted_46 : decode b_X_counted 46 = .ok (.aload_n 0, 1) := by decide +kernel
theorem d_X_counted_47 : decode b_X_counted 47 = .ok (.getfield 17, 3) := by decide +kernel
theorem d_X_counted_50 : decode b_X_counted 50 = .ok (.iload_n 1, 1) := by decide +kernel
theorem d_X_counted_51 : decode b_X_counted 51 = .ok (.aaload, 1) := by decide +kernel
theorem d_X_counted_52 : decode b_X_counted 52 = .ok (.getfield 143, 3) := by decide +kernel
theorem d_X_counted_55 : decode b_X_counted 55 = .ok (.ireturn, 1) := by decide +kernel
theorem d_X_counted_56 : decode b_X_counted 56 = .ok (.aload_n 0, 1) := by decide +kernel
theorem d_X_counted_57 : decode b_X_counted 57 = .ok (.getfield 17, 3) := by decide +kernel
theorem d_X_counted_60 : decode b_X_counted 60 = .ok (.iload_n 1, 1) := by decide +kernel
theorem d_X_counted_61 : decode b_X_counted 61 = .ok (.aaload, 1) := by decide +kernel
theorem d_X_counted_62 : decode b_X_counted 62 = .ok (.getfield 146, 3) := by decide +kernel
theorem d_X_counted_65 : decode b_X_counted 65 = .ok (.ireturn, 1) := by decide +kernel
theorem d_X_counted_66 : decode b_X_counted 66 = .ok (.iconst (-1), 1) := by decide +kernel
theorem d_X_counted_67 : decode b_X_counted 67 = .ok (.ireturn, 1) := by decide +kernel
theorem d_X_members_0 : decode b_X_members 0 = .ok (.aload_n 0, 1) := by decide +kernel
theorem d_X_members_1 : decode b_X_members 1 = .ok (.iload_n 1, 1) := by decide +kernel
theorem d_X_members_2 : decode b_X_members 2 = .ok (.invokevirtual 66, 3) := by decide +kernel
theorem d_X_members_5 : decode b_X_members 5 = .ok (.ifCond .eq 15, 3) := by decide +kernel
theorem d_X_members_8 : decode b_X_members 8 = .ok (.aload_n 0, 1) := by decide +kernel
theorem d_X_members_9 : decode b_X_members 9 = .ok (.getfield 11, 3) := by decide +kernel
theorem d_X_members_12 : decode b_X_members 12 = .ok (.iload_n 1, 1) := by decide +kernel
theorem d_X_members_13 : decode b_X_members 13 = .ok (.aaload, 1) := by decide +kernel
theorem d_X_members_14 : decode b_X_members 14 = .ok (.invokestatic 149, 3) := by decide +kernel
theorem d_X_members_17 : decode b_X_members 17 = .ok (.goto 4, 3) := by decide +kernel
theorem d_X_members_20 : decode b_X_members 20 = .ok (.iconst 0, 1) := by decide +kernel
theorem d_X_members_21 : decode b_X_members 21 = .ok (.ireturn, 1) := by decide +kernel
theorem d_X_treeSize_0 : decode b_X_treeSize 0 = .ok (.aload_n 0, 1) := by decide +kernel
theorem d_X_treeSize_1 : decode b_X_treeSize 1 = .ok (.invokevirtual 70, 3) := by decide +kernel
theorem d_X_treeSize_4 : decode b_X_treeSize 4 = .ok (.ifCond .eq 10, 3) := by decide +kernel
theorem d_X_treeSize_7 : decode b_X_treeSize 7 = .ok (.aload_n 0, 1) := by decide +kernel
theorem d_X_treeSize_8 : decode b_X_treeSize 8 = .ok (.getfield 162, 3) := by decide +kernel
theorem d_X_treeSize_11 : decode b_X_treeSize 11 = .ok (.ifCond .ne 5, 3) := by decide +kernel
theorem d_X_treeSize_14 : decode b_X_treeSize 14 = .ok (.iconst 0, 1) := by decide +kernel
theorem d_X_treeSize_15 : decode b_X_treeSize 15 = .ok (.ireturn, 1) := by decide +kernel
theorem d_X_treeSize_16 : decode b_X_treeSize 16 = .ok (.aload_n 0, 1) := by decide +kernel
theorem d_X_treeSize_17 : decode b_X_treeSize 17 = .ok (.getfield 136, 3) := by decide +kernel
theorem d_X_treeSize_20 : decode b_X_treeSize 20 = .ok (.ldc2_w 232, 3) := by decide +kernel
theorem d_X_treeSize_23 : decode b_X_treeSize 23 = .ok (.invokestatic 234, 3) := by decide +kernel
theorem d_X_treeSize_26 : decode b_X_treeSize 26 = .ok (.l2i, 1) := by decide +kernel
theorem d_X_treeSize_27 : decode b_X_treeSize 27 = .ok (.ireturn, 1) := by decide +kernel
theorem d_J_floorMod_0 : decode b_J_floorMod 0 = .ok (.lload_n 0, 1) := by decide +kernel
theorem d_J_floorMod_1 : decode b_J_floorMod 1 = .ok (.lload_n 2, 1) := by decide +kernel
theorem d_J_floorMod_2 : decode b_J_floorMod 2 = .ok (.lrem, 1) := by decide +kernel
theorem d_J_floorMod_3 : decode b_J_floorMod 3 = .ok (.lstore 4, 2) := by decide +kernel
theorem d_J_floorMod_5 : decode b_J_floorMod 5 = .ok (.lload_n 0, 1) := by decide +kernel
theorem d_J_floorMod_6 : decode b_J_floorMod 6 = .ok (.lload_n 2, 1) := by decide +kernel
theorem d_J_floorMod_7 : decode b_J_floorMod 7 = .ok (.lxor, 1) := by decide +kernel
theorem d_J_floorMod_8 : decode b_J_floorMod 8 = .ok (.lconst 0, 1) := by decide +kernel
theorem d_J_floorMod_9 : decode b_J_floorMod 9 = .ok (.lcmp, 1) := by decide +kernel
theorem d_J_floorMod_10 : decode b_J_floorMod 10 = .ok (.ifCond .ge 15, 3) := by decide +kernel
theorem d_J_floorMod_13 : decode b_J_floorMod 13 = .ok (.lload 4, 2) := by decide +kernel
theorem d_J_floorMod_15 : decode b_J_floorMod 15 = .ok (.lconst 0, 1) := by decide +kernel
theorem d_J_floorMod_16 : decode b_J_floorMod 16 = .ok (.lcmp, 1) := by decide +kernel
theorem d_J_floorMod_17 : decode b_J_floorMod 17 = .ok (.ifCond .eq 8, 3) := by decide +kernel
theorem d_J_floorMod_20 : decode b_J_floorMod 20 = .ok (.lload 4, 2) := by decide +kernel
theorem d_J_floorMod_22 : decode b_J_floorMod 22 = .ok (.lload_n 2, 1) := by decide +kernel
theorem d_J_floorMod_23 : decode b_J_floorMod 23 = .ok (.ladd, 1) := by decide +kernel
theorem d_J_floorMod_24 : decode b_J_floorMod 24 = .ok (.lreturn, 1) := by decide +kernel
theorem d_J_floorMod_25 : decode b_J_floorMod 25 = .ok (.lload 4, 2) := by decide +kernel
theorem d_J_floorMod_27 : decode b_J_floorMod 27 = .ok (.lreturn, 1) := by decide +kernel
theorem d_X_mapping_0 : decode b_X_mapping 0 = .ok (.aload_n 0, 1) := by decide +kernel
theorem d_X_mapping_1 : decode b_X_mapping 1 = .ok (.iload_n 1, 1) := by decide +kernel
theorem d_X_mapping_2 : decode b_X_mapping 2 = .ok (.invokevirtual 66, 3) := by decide +kernel
theorem d_X_mapping_5 : decode b_X_mapping 5 = .ok (.ifCond .eq 12, 3) := by decide +kernel
theorem d_X_mapping_8 : decode b_X_mapping 8 = .ok (.aload_n 0, 1) := by decide +kernel
theorem d_X_mapping_9 : decode b_X_mapping 9 = .ok (.getfield 34, 3) := by decide +kernel
theorem d_X_mapping_12 : decode b_X_mapping 12 = .ok (.bipush 6, 2) := by decide +kernel
theorem d_X_mapping_14 : decode b_X_mapping 14 = .ok (.if_icmp .lt 5, 3) := by decide +kernel
theorem d_X_mapping_17 : decode b_X_mapping 17 = .ok (.iconst (-1), 1) := by decide +kernel
theorem d_X_mapping_18 : decode b_X_mapping 18 = .ok (.ireturn, 1) := by decide +kernel
theorem d_X_mapping_19 : decode b_X_mapping 19 = .ok (.aload_n 0, 1) := by decide +kernel
theorem d_X_mapping_20 : decode b_X_mapping 20 = .ok (.getfield 23, 3) := by decide +kernel
theorem d_X_mapping_23 : decode b_X_mapping 23 = .ok (.aload_n 0, 1) := by decide +kernel
theorem d_X_mapping_24 : decode b_X_mapping 24 = .ok (.getfield 34, 3) := by decide +kernel
theorem d_X_mapping_27 : decode b_X_mapping 27 = .ok (.aaload, 1) := by decide +kernel
theorem d_X_mapping_28 : decode b_X_mapping 28 = .ok (.iload_n 1, 1) := by decide +kernel
theorem d_X_mapping_29 : decode b_X_mapping 29 = .ok (.putfield 153, 3) := by decide +kernel
theorem d_X_mapping_32 : decode b_X_mapping 32 = .ok (.aload_n 0, 1) := by decide +kernel
theorem d_X_mapping_33 : decode b_X_mapping 33 = .ok (.getfield 23, 3) := by decide +kernel
theorem d_X_mapping_36 : decode b_X_mapping 36 = .ok (.aload_n 0, 1) := by decide +kernel
theorem d_X_mapping_37 : decode b_X_mapping 37 = .ok (.getfield 34, 3) := by decide +kernel
theorem d_X_mapping_40 : decode b_X_mapping 40 = .ok (.aaload, 1) := by decide +kernel
theorem d_X_mapping_41 : decode b_X_mapping 41 = .ok (.lload_n 2, 1) := by decide +kernel
theorem d_X_mapping_42 : decode b_X_mapping 42 = .ok (.putfield 156, 3) := by decide +kernel
theorem d_X_mapping_45 : decode b_X_mapping 45 = .ok (.aload_n 0, 1) := by decide +kernel
theorem d_X_mapping_46 : decode b_X_mapping 46 = .ok (.dup, 1) := by decide +kernel
theorem d_X_mapping_47 : decode b_X_mapping 47 = .ok (.getfield 34, 3) := by decide +kernel
theorem d_X_mapping_50 : decode b_X_mapping 50 = .ok (.iconst 1, 1) := by decide +kernel
theorem d_X_mapping_51 : decode b_X_mapping 51 = .ok (.iadd, 1) := by decide +kernel
theorem d_X_mapping_52 : decode b_X_mapping 52 = .ok (.putfield 34, 3) := by decide +kernel
theorem d_X_mapping_55 : decode b_X_mapping 55 = .ok (.aload_n 0, 1) := by decide +kernel
theorem d_X_mapping_56 : decode b_X_mapping 56 = .ok (.getfield 34, 3) := by decide +kernel
theorem d_X_mapping_59 : decode b_X_mapping 59 = .ok (.iconst 1, 1) := by decide +kernel
theorem d_X_mapping_60 : decode b_X_mapping 60 = .ok (.isub, 1) := by decide +kernel
theorem d_X_mapping_61 : decode b_X_mapping 61 = .ok (.ireturn, 1) := by decide +kernel
theorem d_X_map_0 : decode b_X_map 0 = .ok (.aload_n 0, 1) := by decide +kernel
theorem d_X_map_1 : decode b_X_map 1 = .ok (.iload_n 1, 1) := by decide +kernel
theorem d_X_map_2 : decode b_X_map 2 = .ok (.invokevirtual 159, 3) := by decide +kernel
theorem d_X_map_5 : decode b_X_map 5 = .ok (.ifCond .ne 5, 3) := by decide +kernel
theorem d_X_map_8 : decode b_X_map 8 = .ok (.iconst (-1), 1) := by decide +kernel
theorem d_X_map_9 : decode b_X_map 9 = .ok (.ireturn, 1) := by decide +kernel
theorem d_X_map_10 : decode b_X_map 10 = .ok (.aload_n 0, 1) := by decide +kernel
theorem d_X_map_11 : decode b_X_map 11 = .ok (.getfield 11, 3) := by decide +kernel
theorem d_X_map_14 : decode b_X_map 14 = .ok (.aload_n 0, 1) := by decide +kernel
theorem d_X_map_15 : decode b_X_map 15 = .ok (.getfield 23, 3) := by decide +kernel
theorem d_X_map_18 : decode b_X_map 18 = .ok (.iload_n 1, 1) := by decide +kernel
theorem d_X_map_19 : decode b_X_map 19 = .ok (.aaload, 1) := by decide +kernel
theorem d_X_map_20 : decode b_X_map 20 = .ok (.getfield 153, 3) := by decide +kernel
theorem d_X_map_23 : decode b_X_map 23 = .ok (.aaload, 1) := by decide +kernel
theorem d_X_map_24 : decode b_X_map 24 = .ok (.astore_n 2, 1) := by decide +kernel
theorem d_X_map_25 : decode b_X_map 25 = .ok (.aload_n 2, 1) := by decide +kernel
theorem d_X_map_26 : decode b_X_map 26 = .ok (.invokevirtual 70, 3) := by decide +kernel
theorem d_X_map_29 : decode b_X_map 29 = .ok (.ifCond .eq 21, 3) := by decide +kernel
theorem d_X_map_32 : decode b_X_map 32 = .ok (.aload_n 2, 1) := by decide +kernel
theorem d_X_map_33 : decode b_X_map 33 = .ok (.getfield 162, 3) := by decide +kernel
theorem d_X_map_36 : decode b_X_map 36 = .ok (.ifCond .eq 14, 3) := by decide +kernel
theorem d_X_map_39 : decode b_X_map 39 = .ok (.aload_n 2, 1) := by decide +kernel
theorem d_X_map_40 : decode b_X_map 40 = .ok (.aload_n 0, 1) := by decide +kernel
theorem d_X_map_41 : decode b_X_map 41 = .ok (.invokevirtual 113, 3) := by decide +kernel
theorem d_X_map_44 : decode b_X_map 44 = .ok (.invokestatic 165, 3) := by decide +kernel
theorem d_X_map_47 : decode b_X_map 47 = .ok (.ifCond .ne 5, 3) := by decide +kernel
theorem d_X_map_50 : decode b_X_map 50 = .ok (.iconst (-1), 1) := by decide +kernel
theorem d_X_map_51 : decode b_X_map 51 = .ok (.ireturn, 1) := by decide +kernel
theorem d_X_map_52 : decode b_X_map 52 = .ok (.aload_n 0, 1) := by decide +kernel
theorem d_X_map_53 : decode b_X_map 53 = .ok (.getfield 23, 3) := by decide +kernel
theorem d_X_map_56 : decode b_X_map 56 = .ok (.iload_n 1, 1) := by decide +kernel
theorem d_X_map_57 : decode b_X_map 57 = .ok (.aaload, 1) := by decide +kernel
theorem d_X_map_58 : decode b_X_map 58 = .ok (.aload_n 2, 1) := by decide +kernel
theorem d_X_map_59 : decode b_X_map 59 = .ok (.getfield 136, 3) := by decide +kernel
theorem d_X_map_62 : decode b_X_map 62 = .ok (.aload_n 2, 1) := by decide +kernel
theorem d_X_map_63 : decode b_X_map 63 = .ok (.invokestatic 149, 3) := by decide +kernel
theorem d_X_map_66 : decode b_X_map 66 = .ok (.invokevirtual 169, 3) := by decide +kernel
theorem d_X_map_69 : decode b_X_map 69 = .ok (.ireturn, 1) := by decide +kernel
theorem d_X_isMapping_0 : decode b_X_isMapping 0 = .ok (.iload_n 1, 1) := by decide +kernel
theorem d_X_isMapping_1 : decode b_X_isMapping 1 = .ok (.ifCond .lt 15, 3) := by decide +kernel
theorem d_X_isMapping_4 : decode b_X_isMapping 4 = .ok (.iload_n 1, 1) := by decide +kernel
theorem d_X_isMapping_5 : decode b_X_isMapping 5 = .ok (.aload_n 0, 1) := by decide +kernel
theorem d_X_isMapping_6 : decode b_X_isMapping 6 = .ok (.getfield 34, 3) := by decide +kernel
theorem d_X_isMapping_9 : decode b_X_isMapping 9 = .ok (.if_icmp .ge 7, 3) := by decide +kernel
theorem d_X_isMapping_12 : decode b_X_isMapping 12 = .ok (.iconst 1, 1) := by decide +kernel
theorem d_X_isMapping_13 : decode b_X_isMapping 13 = .ok (.goto 4, 3) := by decide +kernel
theorem d_X_isMapping_16 : decode b_X_isMapping 16 = .ok (.iconst 0, 1) := by decide +kernel
theorem d_X_isMapping_17 : decode b_X_isMapping 17 = .ok (.ireturn, 1) := by decide +kernel
theorem d_G_take_0 : decode b_G_take 0 = .ok (.iconst 0, 1) := by decide +kernel
theorem d_G_take_1 : decode b_G_take 1 = .ok (.istore 4, 2) := by decide +kernel
theorem d_G_take_3 : decode b_G_take 3 = .ok (.iconst 0, 1) := by decide +kernel
theorem d_G_take_4 : decode b_G_take 4 = .ok (.istore 5, 2) := by decide +kernel
theorem d_G_take_6 : decode b_G_take 6 = .ok (.iload 5, 2) := by decide +kernel
theorem d_G_take_8 : decode b_G_take 8 = .ok (.iload_n 3, 1) := by decide +kernel
theorem d_G_take_9 : decode b_G_take 9 = .ok (.if_icmp .ge 25, 3) := by decide +kernel
theorem d_G_take_12 : decode b_G_take 12 = .ok (.aload_n 0, 1) := by decide +kernel
theorem d_G_take_13 : decode b_G_take 13 = .ok (.lload_n 1, 1) := by decide +kernel
theorem d_G_take_14 : decode b_G_take 14 = .ok (.iload 5, 2) := by decide +kernel
theorem d_G_take_16 : decode b_G_take 16 = .ok (.invokestatic 25, 3) := by decide +kernel
theorem d_G_take_19 : decode b_G_take 19 = .ok (.invokevirtual 29, 3) := by decide +kernel
theorem d_G_take_22 : decode b_G_take 22 = .ok (.ifCond .ne 6, 3) := by decide +kernel
theorem d_G_take_25 : decode b_G_take 25 = .ok (.iinc 4 1, 3) := by decide +kernel
theorem d_G_take_28 : decode b_G_take 28 = .ok (.iinc 5 1, 3) := by decide +kernel
theorem d_G_take_31 : decode b_G_take 31 = .ok (.goto (-25), 3) := by decide +kernel
theorem d_G_take_34 : decode b_G_take 34 = .ok (.aload_n 0, 1) := by decide +kernel
theorem d_G_take_35 : decode b_G_take 35 = .ok (.lload_n 1, 1) := by decide +kernel
theorem d_G_take_36 : decode b_G_take 36 = .ok (.putfield 19, 3) := by decide +kernel
theorem d_G_take_39 : decode b_G_take 39 = .ok (.aload_n 0, 1) := by decide +kernel
theorem d_G_take_40 : decode b_G_take 40 = .ok (.iload_n 3, 1) := by decide +kernel
theorem d_G_take_41 : decode b_G_take 41 = .ok (.putfield 22, 3) := by decide +kernel
theorem d_G_take_44 : decode b_G_take 44 = .ok (.iload 4, 2) := by decide +kernel
theorem d_G_take_46 : decode b_G_take 46 = .ok (.ireturn, 1) := by decide +kernel
theorem d_X_memberDigest_0 : decode b_X_memberDigest 0 = .ok (.lload_n 0, 1) := by decide +kernel
theorem d_X_memberDigest_1 : decode b_X_memberDigest 1 = .ok (.iload_n 2, 1) := by decide +kernel
theorem d_X_memberDigest_2 : decode b_X_memberDigest 2 = .ok (.i2l, 1) := by decide +kernel
theorem d_X_memberDigest_3 : decode b_X_memberDigest 3 = .ok (.ldc2_w 238, 3) := by decide +kernel
theorem d_X_memberDigest_6 : decode b_X_memberDigest 6 = .ok (.lmul, 1) := by decide +kernel
theorem d_X_memberDigest_7 : decode b_X_memberDigest 7 = .ok (.lxor, 1) := by decide +kernel
theorem d_X_memberDigest_8 : decode b_X_memberDigest 8 = .ok (.lreturn, 1) := by decide +kernel
theorem d_G_hasMember_0 : decode b_G_hasMember 0 = .ok (.iconst 0, 1) := by decide +kernel
theorem d_G_hasMember_1 : decode b_G_hasMember 1 = .ok (.istore_n 3, 1) := by decide +kernel
theorem d_G_hasMember_2 : decode b_G_hasMember 2 = .ok (.iload_n 3, 1) := by decide +kernel
theorem d_G_hasMember_3 : decode b_G_hasMember 3 = .ok (.aload_n 0, 1) := by decide +kernel
theorem d_G_hasMember_4 : decode b_G_hasMember 4 = .ok (.getfield 22, 3) := by decide +kernel
theorem d_G_hasMember_7 : decode b_G_hasMember 7 = .ok (.if_icmp .ge 24, 3) := by decide +kernel
theorem d_G_hasMember_10 : decode b_G_hasMember 10 = .ok (.aload_n 0, 1) := by decide +kernel
theorem d_G_hasMember_11 : decode b_G_hasMember 11 = .ok (.getfield 19, 3) := by decide +kernel
theorem d_G_hasMember_14 : decode b_G_hasMember 14 = .ok (.iload_n 3, 1) := by decide +kernel
theorem d_G_hasMember_15 : decode b_G_hasMember 15 = .ok (.invokestatic 25, 3) := by decide +kernel
theorem d_G_hasMember_18 : decode b_G_hasMember 18 = .ok (.lload_n 1, 1) := by decide +kernel
theorem d_G_hasMember_19 : decode b_G_hasMember 19 = .ok (.lcmp, 1) := by decide +kernel
theorem d_G_hasMember_20 : decode b_G_hasMember 20 = .ok (.ifCond .ne 5, 3) := by decide +kernel
theorem d_G_hasMember_23 : decode b_G_hasMember 23 = .ok (.iconst 1, 1) := by decide +kernel
theorem d_G_hasMember_24 : decode b_G_hasMember 24 = .ok (.ireturn, 1) := by decide +kernel
theorem d_G_hasMember_25 : decode b_G_hasMember 25 = .ok (.iinc 3 1, 3) := by decide +kernel
theorem d_G_hasMember_28 : decode b_G_hasMember 28 = .ok (.goto (-26), 3) := by decide +kernel
theorem d_G_hasMember_31 : decode b_G_hasMember 31 = .ok (.iconst 0, 1) := by decide +kernel
theorem d_G_hasMember_32 : decode b_G_hasMember 32 = .ok (.ireturn, 1) := by decide +kernel
theorem d_X_result_0 : decode b_X_result 0 = .ok (.aload_n 0, 1) := by decide +kernel
theorem d_X_result_1 : decode b_X_result 1 = .ok (.iload_n 1, 1) := by decide +kernel
theorem d_X_result_2 : decode b_X_result 2 = .ok (.invokevirtual 159, 3) := by decide +kernel
theorem d_X_result_5 : decode b_X_result 5 = .ok (.ifCond .eq 16, 3) := by decide +kernel
theorem d_X_result_8 : decode b_X_result 8 = .ok (.aload_n 0, 1) := by decide +kernel
theorem d_X_result_9 : decode b_X_result 9 = .ok (.getfield 23, 3) := by decide +kernel
theorem d_X_result_12 : decode b_X_result 12 = .ok (.iload_n 1, 1) := by decide +kernel
theorem d_X_result_13 : decode b_X_result 13 = .ok (.aaload, 1) := by decide +kernel
theorem d_X_result_14 : decode b_X_result 14 = .ok (.iload_n 2, 1) := by decide +kernel
theorem d_X_result_15 : decode b_X_result 15 = .ok (.invokevirtual 173, 3) := by decide +kernel
theorem d_X_result_18 : decode b_X_result 18 = .ok (.goto 4, 3) := by decide +kernel
theorem d_X_result_21 : decode b_X_result 21 = .ok (.lconst 0, 1) := by decide +kernel
theorem d_X_result_22 : decode b_X_result 22 = .ok (.lreturn, 1) := by decide +kernel
theorem d_G_resultOf_0 : decode b_G_resultOf 0 = .ok (.iload_n 1, 1) := by decide +kernel
theorem d_G_resultOf_1 : decode b_G_resultOf 1 = .ok (.ifCond .lt 31, 3) := by decide +kernel
theorem d_G_resultOf_4 : decode b_G_resultOf 4 = .ok (.iload_n 1, 1) := by decide +kernel
theorem d_G_resultOf_5 : decode b_G_resultOf 5 = .ok (.aload_n 0, 1) := by decide +kernel
theorem d_G_resultOf_6 : decode b_G_resultOf 6 = .ok (.getfield 22, 3) := by decide +kernel
theorem d_G_resultOf_9 : decode b_G_resultOf 9 = .ok (.if_icmp .ge 23, 3) := by decide +kernel
theorem d_G_resultOf_12 : decode b_G_resultOf 12 = .ok (.ldc2_w 33, 3) := by decide +kernel
theorem d_G_resultOf_15 : decode b_G_resultOf 15 = .ok (.aload_n 0, 1) := by decide +kernel
theorem d_G_resultOf_16 : decode b_G_resultOf 16 = .ok (.getfield 19, 3) := by decide +kernel
theorem d_G_resultOf_19 : decode b_G_resultOf 19 = .ok (.iload_n 1, 1) := by decide +kernel
theorem d_G_resultOf_20 : decode b_G_resultOf 20 = .ok (.invokestatic 25, 3) := by decide +kernel
theorem d_G_resultOf_23 : decode b_G_resultOf 23 = .ok (.lmul, 1) := by decide +kernel
theorem d_G_resultOf_24 : decode b_G_resultOf 24 = .ok (.aload_n 0, 1) := by decide +kernel
theorem d_G_resultOf_25 : decode b_G_resultOf 25 = .ok (.getfield 15, 3) := by decide +kernel
theorem d_G_resultOf_28 : decode b_G_resultOf 28 = .ok (.ladd, 1) := by decide +kernel
theorem d_G_resultOf_29 : decode b_G_resultOf 29 = .ok (.goto 4, 3) := by decide +kernel
theorem d_G_resultOf_32 : decode b_G_resultOf 32 = .ok (.lconst 0, 1) := by decide +kernel
theorem d_G_resultOf_33 : decode b_G_resultOf 33 = .ok (.lreturn, 1) := by decide +kernel
