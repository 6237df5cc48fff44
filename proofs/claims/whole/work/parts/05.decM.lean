theorem dX6_init_0 : decode cX6_init 0 = .ok (.aload_n 0, 1) := by decide +kernel
theorem dX6_init_1 : decode cX6_init 1 = .ok (.invokespecial 3, 3) := by decide +kernel
theorem dX6_init_4 : decode cX6_init 4 = .ok (.aload_n 0, 1) := by decide +kernel
theorem dX6_init_5 : decode cX6_init 5 = .ok (.bipush 115, 2) := by decide +kernel
theorem dX6_init_7 : decode cX6_init 7 = .ok (.newarray .int, 2) := by decide +kernel
theorem dX6_init_9 : decode cX6_init 9 = .ok (.putfield 9, 3) := by decide +kernel
theorem dX6_init_12 : decode cX6_init 12 = .ok (.aload_n 0, 1) := by decide +kernel
theorem dX6_init_13 : decode cX6_init 13 = .ok (.bipush 115, 2) := by decide +kernel
theorem dX6_init_15 : decode cX6_init 15 = .ok (.newarray .int, 2) := by decide +kernel
theorem dX6_init_17 : decode cX6_init 17 = .ok (.putfield 13, 3) := by decide +kernel
theorem dX6_init_20 : decode cX6_init 20 = .ok (.aload_n 0, 1) := by decide +kernel
theorem dX6_init_21 : decode cX6_init 21 = .ok (.bipush 115, 2) := by decide +kernel
theorem dX6_init_23 : decode cX6_init 23 = .ok (.newarray .int, 2) := by decide +kernel
theorem dX6_init_25 : decode cX6_init 25 = .ok (.putfield 16, 3) := by decide +kernel
theorem dX6_init_28 : decode cX6_init 28 = .ok (.aload_n 0, 1) := by decide +kernel
theorem dX6_init_29 : decode cX6_init 29 = .ok (.bipush 7, 2) := by decide +kernel
theorem dX6_init_31 : decode cX6_init 31 = .ok (.newarray .int, 2) := by decide +kernel
theorem dX6_init_33 : decode cX6_init 33 = .ok (.putfield 19, 3) := by decide +kernel
theorem dX6_init_36 : decode cX6_init 36 = .ok (.aload_n 0, 1) := by decide +kernel
theorem dX6_init_37 : decode cX6_init 37 = .ok (.bipush 120, 2) := by decide +kernel
theorem dX6_init_39 : decode cX6_init 39 = .ok (.newarray .int, 2) := by decide +kernel
theorem dX6_init_41 : decode cX6_init 41 = .ok (.putfield 22, 3) := by decide +kernel
theorem dX6_init_44 : decode cX6_init 44 = .ok (.aload_n 0, 1) := by decide +kernel
theorem dX6_init_45 : decode cX6_init 45 = .ok (.iconst 4, 1) := by decide +kernel
theorem dX6_init_46 : decode cX6_init 46 = .ok (.newarray .int, 2) := by decide +kernel
theorem dX6_init_48 : decode cX6_init 48 = .ok (.putfield 25, 3) := by decide +kernel
theorem dX6_init_51 : decode cX6_init 51 = .ok (.aload_n 0, 1) := by decide +kernel
theorem dX6_init_52 : decode cX6_init 52 = .ok (.iconst 4, 1) := by decide +kernel
theorem dX6_init_53 : decode cX6_init 53 = .ok (.newarray .int, 2) := by decide +kernel
theorem dX6_init_55 : decode cX6_init 55 = .ok (.putfield 28, 3) := by decide +kernel
theorem dX6_init_58 : decode cX6_init 58 = .ok (.aload_n 0, 1) := by decide +kernel
theorem dX6_init_59 : decode cX6_init 59 = .ok (.sipush 160, 3) := by decide +kernel
theorem dX6_init_62 : decode cX6_init 62 = .ok (.newarray .int, 2) := by decide +kernel
theorem dX6_init_64 : decode cX6_init 64 = .ok (.putfield 31, 3) := by decide +kernel
theorem dX6_init_67 : decode cX6_init 67 = .ok (.aload_n 0, 1) := by decide +kernel
theorem dX6_init_68 : decode cX6_init 68 = .ok (.getfield 9, 3) := by decide +kernel
theorem dX6_init_71 : decode cX6_init 71 = .ok (.iconst 1, 1) := by decide +kernel
theorem dX6_init_72 : decode cX6_init 72 = .ok (.iconst 1, 1) := by decide +kernel
theorem dX6_init_73 : decode cX6_init 73 = .ok (.iastore, 1) := by decide +kernel
theorem dX6_init_74 : decode cX6_init 74 = .ok (.aload_n 0, 1) := by decide +kernel
theorem dX6_init_75 : decode cX6_init 75 = .ok (.getfield 9, 3) := by decide +kernel
theorem dX6_init_78 : decode cX6_init 78 = .ok (.iconst 2, 1) := by decide +kernel
theorem dX6_init_79 : decode cX6_init 79 = .ok (.iconst 3, 1) := by decide +kernel
theorem dX6_init_80 : decode cX6_init 80 = .ok (.iastore, 1) := by decide +kernel
theorem dX6_init_81 : decode cX6_init 81 = .ok (.aload_n 0, 1) := by decide +kernel
theorem dX6_init_82 : decode cX6_init 82 = .ok (.getfield 9, 3) := by decide +kernel
theorem dX6_init_85 : decode cX6_init 85 = .ok (.iconst 3, 1) := by decide +kernel
theorem dX6_init_86 : decode cX6_init 86 = .ok (.bipush 40, 2) := by decide +kernel
theorem dX6_init_88 : decode cX6_init 88 = .ok (.iastore, 1) := by decide +kernel
theorem dX6_init_89 : decode cX6_init 89 = .ok (.aload_n 0, 1) := by decide +kernel
theorem dX6_init_90 : decode cX6_init 90 = .ok (.getfield 9, 3) := by decide +kernel
theorem dX6_init_93 : decode cX6_init 93 = .ok (.iconst 4, 1) := by decide +kernel
theorem dX6_init_94 : decode cX6_init 94 = .ok (.sipush 1500, 3) := by decide +kernel
theorem dX6_init_97 : decode cX6_init 97 = .ok (.iastore, 1) := by decide +kernel
theorem dX6_init_98 : decode cX6_init 98 = .ok (.aload_n 0, 1) := by decide +kernel
theorem dX6_init_99 : decode cX6_init 99 = .ok (.getfield 9, 3) := by decide +kernel
theorem dX6_init_102 : decode cX6_init 102 = .ok (.iconst 5, 1) := by decide +kernel
theorem dX6_init_103 : decode cX6_init 103 = .ok (.bipush 50, 2) := by decide +kernel
theorem dX6_init_105 : decode cX6_init 105 = .ok (.iastore, 1) := by decide +kernel
theorem dX6_init_106 : decode cX6_init 106 = .ok (.aload_n 0, 1) := by decide +kernel
theorem dX6_init_107 : decode cX6_init 107 = .ok (.getfield 9, 3) := by decide +kernel
theorem dX6_init_110 : decode cX6_init 110 = .ok (.bipush 6, 2) := by decide +kernel
theorem dX6_init_112 : decode cX6_init 112 = .ok (.iconst (-1), 1) := by decide +kernel
theorem dX6_init_113 : decode cX6_init 113 = .ok (.iastore, 1) := by decide +kernel
theorem dX6_init_114 : decode cX6_init 114 = .ok (.iconst 0, 1) := by decide +kernel
theorem dX6_init_115 : decode cX6_init 115 = .ok (.istore_n 1, 1) := by decide +kernel
theorem dX6_init_116 : decode cX6_init 116 = .ok (.iload_n 1, 1) := by decide +kernel
theorem dX6_init_117 : decode cX6_init 117 = .ok (.bipush 10, 2) := by decide +kernel
theorem dX6_init_119 : decode cX6_init 119 = .ok (.if_icmp .ge 22, 3) := by decide +kernel
theorem dX6_init_122 : decode cX6_init 122 = .ok (.aload_n 0, 1) := by decide +kernel
theorem dX6_init_123 : decode cX6_init 123 = .ok (.getfield 9, 3) := by decide +kernel
theorem dX6_init_126 : decode cX6_init 126 = .ok (.bipush 10, 2) := by decide +kernel
theorem dX6_init_128 : decode cX6_init 128 = .ok (.iconst 3, 1) := by decide +kernel
theorem dX6_init_129 : decode cX6_init 129 = .ok (.iload_n 1, 1) := by decide +kernel
theorem dX6_init_130 : decode cX6_init 130 = .ok (.imul, 1) := by decide +kernel
theorem dX6_init_131 : decode cX6_init 131 = .ok (.iadd, 1) := by decide +kernel
theorem dX6_init_132 : decode cX6_init 132 = .ok (.bipush 20, 2) := by decide +kernel
theorem dX6_init_134 : decode cX6_init 134 = .ok (.iastore, 1) := by decide +kernel
theorem dX6_init_135 : decode cX6_init 135 = .ok (.iinc 1 1, 3) := by decide +kernel
theorem dX6_init_138 : decode cX6_init 138 = .ok (.goto (-22), 3) := by decide +kernel
theorem dX6_init_141 : decode cX6_init 141 = .ok (.iconst 0, 1) := by decide +kernel
theorem dX6_init_142 : decode cX6_init 142 = .ok (.istore_n 1, 1) := by decide +kernel
theorem dX6_init_143 : decode cX6_init 143 = .ok (.iload_n 1, 1) := by decide +kernel
theorem dX6_init_144 : decode cX6_init 144 = .ok (.bipush 10, 2) := by decide +kernel
theorem dX6_init_146 : decode cX6_init 146 = .ok (.if_icmp .ge 19, 3) := by decide +kernel
theorem dX6_init_149 : decode cX6_init 149 = .ok (.aload_n 0, 1) := by decide +kernel
theorem dX6_init_150 : decode cX6_init 150 = .ok (.getfield 9, 3) := by decide +kernel
theorem dX6_init_153 : decode cX6_init 153 = .ok (.bipush 70, 2) := by decide +kernel
theorem dX6_init_155 : decode cX6_init 155 = .ok (.iload_n 1, 1) := by decide +kernel
theorem dX6_init_156 : decode cX6_init 156 = .ok (.iadd, 1) := by decide +kernel
theorem dX6_init_157 : decode cX6_init 157 = .ok (.iconst (-1), 1) := by decide +kernel
theorem dX6_init_158 : decode cX6_init 158 = .ok (.iastore, 1) := by decide +kernel
theorem dX6_init_159 : decode cX6_init 159 = .ok (.iinc 1 1, 3) := by decide +kernel
theorem dX6_init_162 : decode cX6_init 162 = .ok (.goto (-19), 3) := by decide +kernel
theorem dX6_init_165 : decode cX6_init 165 = .ok (.return_, 1) := by decide +kernel
theorem dX6_finds_0 : decode cX6_finds 0 = .ok (.aload_n 0, 1) := by decide +kernel
theorem dX6_finds_1 : decode cX6_finds 1 = .ok (.getfield 19, 3) := by decide +kernel
theorem dX6_finds_4 : decode cX6_finds 4 = .ok (.ldc 34, 2) := by decide +kernel
theorem dX6_finds_6 : decode cX6_finds 6 = .ok (.iload_n 1, 1) := by decide +kernel
theorem dX6_finds_7 : decode cX6_finds 7 = .ok (.isub, 1) := by decide +kernel
theorem dX6_finds_8 : decode cX6_finds 8 = .ok (.dup2, 1) := by decide +kernel
theorem dX6_finds_9 : decode cX6_finds 9 = .ok (.iaload, 1) := by decide +kernel
theorem dX6_finds_10 : decode cX6_finds 10 = .ok (.iconst 1, 1) := by decide +kernel
theorem dX6_finds_11 : decode cX6_finds 11 = .ok (.iadd, 1) := by decide +kernel
theorem dX6_finds_12 : decode cX6_finds 12 = .ok (.iastore, 1) := by decide +kernel
theorem dX6_finds_13 : decode cX6_finds 13 = .ok (.iload_n 1, 1) := by decide +kernel
theorem dX6_finds_14 : decode cX6_finds 14 = .ok (.ireturn, 1) := by decide +kernel
theorem dX6_orNone_0 : decode cX6_orNone 0 = .ok (.iload_n 1, 1) := by decide +kernel
theorem dX6_orNone_1 : decode cX6_orNone 1 = .ok (.ifCond .ge 12, 3) := by decide +kernel
theorem dX6_orNone_4 : decode cX6_orNone 4 = .ok (.aload_n 0, 1) := by decide +kernel
theorem dX6_orNone_5 : decode cX6_orNone 5 = .ok (.ldc 35, 2) := by decide +kernel
theorem dX6_orNone_7 : decode cX6_orNone 7 = .ok (.invokevirtual 36, 3) := by decide +kernel
theorem dX6_orNone_10 : decode cX6_orNone 10 = .ok (.goto 4, 3) := by decide +kernel
theorem dX6_orNone_13 : decode cX6_orNone 13 = .ok (.iload_n 1, 1) := by decide +kernel
theorem dX6_orNone_14 : decode cX6_orNone 14 = .ok (.ireturn, 1) := by decide +kernel
theorem dX6_in_0 : decode cX6_in 0 = .ok (.lload_n 0, 1) := by decide +kernel
theorem dX6_in_1 : decode cX6_in 1 = .ok (.lload_n 2, 1) := by decide +kernel
theorem dX6_in_2 : decode cX6_in 2 = .ok (.lcmp, 1) := by decide +kernel
theorem dX6_in_3 : decode cX6_in 3 = .ok (.ifCond .lt 14, 3) := by decide +kernel
theorem dX6_in_6 : decode cX6_in 6 = .ok (.lload_n 0, 1) := by decide +kernel
theorem dX6_in_7 : decode cX6_in 7 = .ok (.lload 4, 2) := by decide +kernel
theorem dX6_in_9 : decode cX6_in 9 = .ok (.lcmp, 1) := by decide +kernel
theorem dX6_in_10 : decode cX6_in 10 = .ok (.ifCond .gt 7, 3) := by decide +kernel
theorem dX6_in_13 : decode cX6_in 13 = .ok (.iconst 1, 1) := by decide +kernel
theorem dX6_in_14 : decode cX6_in 14 = .ok (.goto 4, 3) := by decide +kernel
theorem dX6_in_17 : decode cX6_in 17 = .ok (.iconst 0, 1) := by decide +kernel
theorem dX6_in_18 : decode cX6_in 18 = .ok (.ireturn, 1) := by decide +kernel
theorem dX6_held_0 : decode cX6_held 0 = .ok (.iload_n 0, 1) := by decide +kernel
theorem dX6_held_1 : decode cX6_held 1 = .ok (.ifCond .ge 7, 3) := by decide +kernel
theorem dX6_held_4 : decode cX6_held 4 = .ok (.iconst 0, 1) := by decide +kernel
theorem dX6_held_5 : decode cX6_held 5 = .ok (.goto 13, 3) := by decide +kernel
theorem dX6_held_8 : decode cX6_held 8 = .ok (.iload_n 0, 1) := by decide +kernel
theorem dX6_held_9 : decode cX6_held 9 = .ok (.iload_n 1, 1) := by decide +kernel
theorem dX6_held_10 : decode cX6_held 10 = .ok (.if_icmp .le 7, 3) := by decide +kernel
theorem dX6_held_13 : decode cX6_held 13 = .ok (.iload_n 1, 1) := by decide +kernel
theorem dX6_held_14 : decode cX6_held 14 = .ok (.goto 4, 3) := by decide +kernel
theorem dX6_held_17 : decode cX6_held 17 = .ok (.iload_n 0, 1) := by decide +kernel
theorem dX6_held_18 : decode cX6_held 18 = .ok (.ireturn, 1) := by decide +kernel
theorem dX6_row_0 : decode cX6_row 0 = .ok (.iconst 0, 1) := by decide +kernel
theorem dX6_row_1 : decode cX6_row 1 = .ok (.istore_n 2, 1) := by decide +kernel
theorem dX6_row_2 : decode cX6_row 2 = .ok (.iload_n 2, 1) := by decide +kernel
theorem dX6_row_3 : decode cX6_row 3 = .ok (.bipush 115, 2) := by decide +kernel
theorem dX6_row_5 : decode cX6_row 5 = .ok (.if_icmp .ge 15, 3) := by decide +kernel
theorem dX6_row_8 : decode cX6_row 8 = .ok (.aload_n 1, 1) := by decide +kernel
theorem dX6_row_9 : decode cX6_row 9 = .ok (.iload_n 2, 1) := by decide +kernel
theorem dX6_row_10 : decode cX6_row 10 = .ok (.aload_n 0, 1) := by decide +kernel
theorem dX6_row_11 : decode cX6_row 11 = .ok (.iload_n 2, 1) := by decide +kernel
theorem dX6_row_12 : decode cX6_row 12 = .ok (.iaload, 1) := by decide +kernel
theorem dX6_row_13 : decode cX6_row 13 = .ok (.iastore, 1) := by decide +kernel
theorem dX6_row_14 : decode cX6_row 14 = .ok (.iinc 2 1, 3) := by decide +kernel
theorem dX6_row_17 : decode cX6_row 17 = .ok (.goto (-15), 3) := by decide +kernel
theorem dX6_row_20 : decode cX6_row 20 = .ok (.return_, 1) := by decide +kernel
theorem dX6_becomes_0 : decode cX6_becomes 0 = .ok (.aload_n 0, 1) := by decide +kernel
theorem dX6_becomes_1 : decode cX6_becomes 1 = .ok (.getfield 9, 3) := by decide +kernel
theorem dX6_becomes_4 : decode cX6_becomes 4 = .ok (.iload_n 1, 1) := by decide +kernel
theorem dX6_becomes_5 : decode cX6_becomes 5 = .ok (.iaload, 1) := by decide +kernel
theorem dX6_becomes_6 : decode cX6_becomes 6 = .ok (.istore_n 3, 1) := by decide +kernel
theorem dX6_becomes_7 : decode cX6_becomes 7 = .ok (.aload_n 0, 1) := by decide +kernel
theorem dX6_becomes_8 : decode cX6_becomes 8 = .ok (.getfield 9, 3) := by decide +kernel
theorem dX6_becomes_11 : decode cX6_becomes 11 = .ok (.iload_n 1, 1) := by decide +kernel
theorem dX6_becomes_12 : decode cX6_becomes 12 = .ok (.iload_n 2, 1) := by decide +kernel
theorem dX6_becomes_13 : decode cX6_becomes 13 = .ok (.iastore, 1) := by decide +kernel
theorem dX6_becomes_14 : decode cX6_becomes 14 = .ok (.iload_n 3, 1) := by decide +kernel
theorem dX6_becomes_15 : decode cX6_becomes 15 = .ok (.ireturn, 1) := by decide +kernel
theorem dX6_isFood_0 : decode cX6_isFood 0 = .ok (.iload_n 0, 1) := by decide +kernel
theorem dX6_isFood_1 : decode cX6_isFood 1 = .ok (.i2l, 1) := by decide +kernel
theorem dX6_isFood_2 : decode cX6_isFood 2 = .ok (.lconst 0, 1) := by decide +kernel
theorem dX6_isFood_3 : decode cX6_isFood 3 = .ok (.ldc2_w 40, 3) := by decide +kernel
theorem dX6_isFood_6 : decode cX6_isFood 6 = .ok (.invokestatic 42, 3) := by decide +kernel
theorem dX6_isFood_9 : decode cX6_isFood 9 = .ok (.ireturn, 1) := by decide +kernel
theorem dX6_isTaste_0 : decode cX6_isTaste 0 = .ok (.iload_n 1, 1) := by decide +kernel
theorem dX6_isTaste_1 : decode cX6_isTaste 1 = .ok (.i2l, 1) := by decide +kernel
theorem dX6_isTaste_2 : decode cX6_isTaste 2 = .ok (.lconst 0, 1) := by decide +kernel
theorem dX6_isTaste_3 : decode cX6_isTaste 3 = .ok (.aload_n 0, 1) := by decide +kernel
theorem dX6_isTaste_4 : decode cX6_isTaste 4 = .ok (.getfield 9, 3) := by decide +kernel
theorem dX6_isTaste_7 : decode cX6_isTaste 7 = .ok (.bipush 8, 2) := by decide +kernel
theorem dX6_isTaste_9 : decode cX6_isTaste 9 = .ok (.iaload, 1) := by decide +kernel
theorem dX6_isTaste_10 : decode cX6_isTaste 10 = .ok (.iconst 1, 1) := by decide +kernel
theorem dX6_isTaste_11 : decode cX6_isTaste 11 = .ok (.isub, 1) := by decide +kernel
theorem dX6_isTaste_12 : decode cX6_isTaste 12 = .ok (.i2l, 1) := by decide +kernel
theorem dX6_isTaste_13 : decode cX6_isTaste 13 = .ok (.invokestatic 42, 3) := by decide +kernel
theorem dX6_isTaste_16 : decode cX6_isTaste 16 = .ok (.ireturn, 1) := by decide +kernel
theorem dX6_isKind_0 : decode cX6_isKind 0 = .ok (.iload_n 0, 1) := by decide +kernel
theorem dX6_isKind_1 : decode cX6_isKind 1 = .ok (.i2l, 1) := by decide +kernel
theorem dX6_isKind_2 : decode cX6_isKind 2 = .ok (.lconst 0, 1) := by decide +kernel
theorem dX6_isKind_3 : decode cX6_isKind 3 = .ok (.ldc2_w 46, 3) := by decide +kernel
theorem dX6_isKind_6 : decode cX6_isKind 6 = .ok (.invokestatic 42, 3) := by decide +kernel
theorem dX6_isKind_9 : decode cX6_isKind 9 = .ok (.ireturn, 1) := by decide +kernel
theorem dX6_isPut_0 : decode cX6_isPut 0 = .ok (.iload_n 0, 1) := by decide +kernel
theorem dX6_isPut_1 : decode cX6_isPut 1 = .ok (.i2l, 1) := by decide +kernel
theorem dX6_isPut_2 : decode cX6_isPut 2 = .ok (.lconst 1, 1) := by decide +kernel
theorem dX6_isPut_3 : decode cX6_isPut 3 = .ok (.ldc2_w 48, 3) := by decide +kernel
theorem dX6_isPut_6 : decode cX6_isPut 6 = .ok (.invokestatic 42, 3) := by decide +kernel
theorem dX6_isPut_9 : decode cX6_isPut 9 = .ok (.ireturn, 1) := by decide +kernel
theorem dX6_of_0 : decode cX6_of 0 = .ok (.aload_n 0, 1) := by decide +kernel
theorem dX6_of_1 : decode cX6_of 1 = .ok (.getfield 9, 3) := by decide +kernel
theorem dX6_of_4 : decode cX6_of 4 = .ok (.bipush 40, 2) := by decide +kernel
theorem dX6_of_6 : decode cX6_of 6 = .ok (.iconst 3, 1) := by decide +kernel
theorem dX6_of_7 : decode cX6_of 7 = .ok (.iload_n 1, 1) := by decide +kernel
theorem dX6_of_8 : decode cX6_of 8 = .ok (.imul, 1) := by decide +kernel
theorem dX6_of_9 : decode cX6_of 9 = .ok (.iadd, 1) := by decide +kernel
theorem dX6_of_10 : decode cX6_of 10 = .ok (.iload_n 2, 1) := by decide +kernel
theorem dX6_of_11 : decode cX6_of 11 = .ok (.iadd, 1) := by decide +kernel
theorem dX6_of_12 : decode cX6_of 12 = .ok (.iaload, 1) := by decide +kernel
theorem dX6_of_13 : decode cX6_of 13 = .ok (.ireturn, 1) := by decide +kernel
theorem dX6_like_0 : decode cX6_like 0 = .ok (.aload_n 0, 1) := by decide +kernel
theorem dX6_like_1 : decode cX6_like 1 = .ok (.getfield 9, 3) := by decide +kernel
theorem dX6_like_4 : decode cX6_like 4 = .ok (.bipush 10, 2) := by decide +kernel
theorem dX6_like_6 : decode cX6_like 6 = .ok (.iconst 3, 1) := by decide +kernel
theorem dX6_like_7 : decode cX6_like 7 = .ok (.iload_n 1, 1) := by decide +kernel
theorem dX6_like_8 : decode cX6_like 8 = .ok (.imul, 1) := by decide +kernel
theorem dX6_like_9 : decode cX6_like 9 = .ok (.iadd, 1) := by decide +kernel
theorem dX6_like_10 : decode cX6_like 10 = .ok (.iaload, 1) := by decide +kernel
theorem dX6_like_11 : decode cX6_like 11 = .ok (.ireturn, 1) := by decide +kernel
theorem dX6_isLiked_0 : decode cX6_isLiked 0 = .ok (.aload_n 0, 1) := by decide +kernel
theorem dX6_isLiked_1 : decode cX6_isLiked 1 = .ok (.iload_n 1, 1) := by decide +kernel
theorem dX6_isLiked_2 : decode cX6_isLiked 2 = .ok (.invokevirtual 50, 3) := by decide +kernel
theorem dX6_isLiked_5 : decode cX6_isLiked 5 = .ok (.aload_n 0, 1) := by decide +kernel
theorem dX6_isLiked_6 : decode cX6_isLiked 6 = .ok (.getfield 9, 3) := by decide +kernel
theorem dX6_isLiked_9 : decode cX6_isLiked 9 = .ok (.iconst 5, 1) := by decide +kernel
theorem dX6_isLiked_10 : decode cX6_isLiked 10 = .ok (.iaload, 1) := by decide +kernel
theorem dX6_isLiked_11 : decode cX6_isLiked 11 = .ok (.if_icmp .lt 7, 3) := by decide +kernel
theorem dX6_isLiked_14 : decode cX6_isLiked 14 = .ok (.iconst 1, 1) := by decide +kernel
theorem dX6_isLiked_15 : decode cX6_isLiked 15 = .ok (.goto 4, 3) := by decide +kernel
theorem dX6_isLiked_18 : decode cX6_isLiked 18 = .ok (.iconst 0, 1) := by decide +kernel
theorem dX6_isLiked_19 : decode cX6_isLiked 19 = .ok (.ireturn, 1) := by decide +kernel
theorem dX6_food_0 : decode cX6_food 0 = .ok (.iload_n 2, 1) := by decide +kernel
theorem dX6_food_1 : decode cX6_food 1 = .ok (.ifCond .ne 15, 3) := by decide +kernel
theorem dX6_food_4 : decode cX6_food 4 = .ok (.iload_n 3, 1) := by decide +kernel
theorem dX6_food_5 : decode cX6_food 5 = .ok (.i2l, 1) := by decide +kernel
theorem dX6_food_6 : decode cX6_food 6 = .ok (.lconst 0, 1) := by decide +kernel
theorem dX6_food_7 : decode cX6_food 7 = .ok (.ldc2_w 53, 3) := by decide +kernel
theorem dX6_food_10 : decode cX6_food 10 = .ok (.invokestatic 42, 3) := by decide +kernel
theorem dX6_food_13 : decode cX6_food 13 = .ok (.goto 25, 3) := by decide +kernel
theorem dX6_food_16 : decode cX6_food 16 = .ok (.iload_n 2, 1) := by decide +kernel
theorem dX6_food_17 : decode cX6_food 17 = .ok (.iconst 1, 1) := by decide +kernel
theorem dX6_food_18 : decode cX6_food 18 = .ok (.if_icmp .ne 19, 3) := by decide +kernel
theorem dX6_food_21 : decode cX6_food 21 = .ok (.iload_n 3, 1) := by decide +kernel
theorem dX6_food_22 : decode cX6_food 22 = .ok (.i2l, 1) := by decide +kernel
theorem dX6_food_23 : decode cX6_food 23 = .ok (.lconst 0, 1) := by decide +kernel
theorem dX6_food_24 : decode cX6_food 24 = .ok (.ldc2_w 40, 3) := by decide +kernel
theorem dX6_food_27 : decode cX6_food 27 = .ok (.invokestatic 42, 3) := by decide +kernel
theorem dX6_food_30 : decode cX6_food 30 = .ok (.ifCond .eq 7, 3) := by decide +kernel
theorem dX6_food_33 : decode cX6_food 33 = .ok (.iconst 1, 1) := by decide +kernel
theorem dX6_food_34 : decode cX6_food 34 = .ok (.goto 4, 3) := by decide +kernel
theorem dX6_food_37 : decode cX6_food 37 = .ok (.iconst 0, 1) := by decide +kernel
theorem dX6_food_38 : decode cX6_food 38 = .ok (.istore 4, 2) := by decide +kernel
theorem dX6_food_40 : decode cX6_food 40 = .ok (.iload_n 1, 1) := by decide +kernel
theorem dX6_food_41 : decode cX6_food 41 = .ok (.invokestatic 55, 3) := by decide +kernel
theorem dX6_food_44 : decode cX6_food 44 = .ok (.ifCond .eq 24, 3) := by decide +kernel
theorem dX6_food_47 : decode cX6_food 47 = .ok (.iload 4, 2) := by decide +kernel
theorem dX6_food_49 : decode cX6_food 49 = .ok (.ifCond .eq 19, 3) := by decide +kernel
theorem dX6_food_52 : decode cX6_food 52 = .ok (.aload_n 0, 1) := by decide +kernel
theorem dX6_food_53 : decode cX6_food 53 = .ok (.bipush 10, 2) := by decide +kernel
theorem dX6_food_55 : decode cX6_food 55 = .ok (.iconst 3, 1) := by decide +kernel
theorem dX6_food_56 : decode cX6_food 56 = .ok (.iload_n 1, 1) := by decide +kernel
theorem dX6_food_57 : decode cX6_food 57 = .ok (.imul, 1) := by decide +kernel
theorem dX6_food_58 : decode cX6_food 58 = .ok (.iadd, 1) := by decide +kernel
theorem dX6_food_59 : decode cX6_food 59 = .ok (.iload_n 2, 1) := by decide +kernel
theorem dX6_food_60 : decode cX6_food 60 = .ok (.iadd, 1) := by decide +kernel
theorem dX6_food_61 : decode cX6_food 61 = .ok (.iload_n 3, 1) := by decide +kernel
theorem dX6_food_62 : decode cX6_food 62 = .ok (.invokevirtual 59, 3) := by decide +kernel
theorem dX6_food_65 : decode cX6_food 65 = .ok (.goto 9, 3) := by decide +kernel
theorem dX6_food_68 : decode cX6_food 68 = .ok (.aload_n 0, 1) := by decide +kernel
theorem dX6_food_69 : decode cX6_food 69 = .ok (.ldc 34, 2) := by decide +kernel
theorem dX6_food_71 : decode cX6_food 71 = .ok (.invokevirtual 36, 3) := by decide +kernel
theorem dX6_food_74 : decode cX6_food 74 = .ok (.ireturn, 1) := by decide +kernel
theorem dX6_foodOf_0 : decode cX6_foodOf 0 = .ok (.iload_n 1, 1) := by decide +kernel
theorem dX6_foodOf_1 : decode cX6_foodOf 1 = .ok (.invokestatic 55, 3) := by decide +kernel
theorem dX6_foodOf_4 : decode cX6_foodOf 4 = .ok (.ifCond .eq 15, 3) := by decide +kernel
theorem dX6_foodOf_7 : decode cX6_foodOf 7 = .ok (.iload_n 2, 1) := by decide +kernel
theorem dX6_foodOf_8 : decode cX6_foodOf 8 = .ok (.i2l, 1) := by decide +kernel
theorem dX6_foodOf_9 : decode cX6_foodOf 9 = .ok (.lconst 0, 1) := by decide +kernel
theorem dX6_foodOf_10 : decode cX6_foodOf 10 = .ok (.ldc2_w 63, 3) := by decide +kernel
theorem dX6_foodOf_13 : decode cX6_foodOf 13 = .ok (.invokestatic 42, 3) := by decide +kernel
theorem dX6_foodOf_16 : decode cX6_foodOf 16 = .ok (.ifCond .ne 10, 3) := by decide +kernel
theorem dX6_foodOf_19 : decode cX6_foodOf 19 = .ok (.aload_n 0, 1) := by decide +kernel
theorem dX6_foodOf_20 : decode cX6_foodOf 20 = .ok (.ldc 34, 2) := by decide +kernel
theorem dX6_foodOf_22 : decode cX6_foodOf 22 = .ok (.invokevirtual 36, 3) := by decide +kernel
theorem dX6_foodOf_25 : decode cX6_foodOf 25 = .ok (.ireturn, 1) := by decide +kernel
theorem dX6_foodOf_26 : decode cX6_foodOf 26 = .ok (.iload_n 2, 1) := by decide +kernel
theorem dX6_foodOf_27 : decode cX6_foodOf 27 = .ok (.iconst 3, 1) := by decide +kernel
theorem dX6_foodOf_28 : decode cX6_foodOf 28 = .ok (.if_icmp .ge 19, 3) := by decide +kernel
theorem dX6_foodOf_31 : decode cX6_foodOf 31 = .ok (.aload_n 0, 1) := by decide +kernel
theorem dX6_foodOf_32 : decode cX6_foodOf 32 = .ok (.getfield 9, 3) := by decide +kernel
theorem dX6_foodOf_35 : decode cX6_foodOf 35 = .ok (.bipush 10, 2) := by decide +kernel
theorem dX6_foodOf_37 : decode cX6_foodOf 37 = .ok (.iconst 3, 1) := by decide +kernel
theorem dX6_foodOf_38 : decode cX6_foodOf 38 = .ok (.iload_n 1, 1) := by decide +kernel
theorem dX6_foodOf_39 : decode cX6_foodOf 39 = .ok (.imul, 1) := by decide +kernel
theorem dX6_foodOf_40 : decode cX6_foodOf 40 = .ok (.iadd, 1) := by decide +kernel
theorem dX6_foodOf_41 : decode cX6_foodOf 41 = .ok (.iload_n 2, 1) := by decide +kernel
theorem dX6_foodOf_42 : decode cX6_foodOf 42 = .ok (.iadd, 1) := by decide +kernel
theorem dX6_foodOf_43 : decode cX6_foodOf 43 = .ok (.iaload, 1) := by decide +kernel
theorem dX6_foodOf_44 : decode cX6_foodOf 44 = .ok (.goto 16, 3) := by decide +kernel
theorem dX6_foodOf_47 : decode cX6_foodOf 47 = .ok (.aload_n 0, 1) := by decide +kernel
theorem dX6_foodOf_48 : decode cX6_foodOf 48 = .ok (.iload_n 1, 1) := by decide +kernel
theorem dX6_foodOf_49 : decode cX6_foodOf 49 = .ok (.invokevirtual 65, 3) := by decide +kernel
theorem dX6_foodOf_52 : decode cX6_foodOf 52 = .ok (.ifCond .eq 7, 3) := by decide +kernel
theorem dX6_foodOf_55 : decode cX6_foodOf 55 = .ok (.iconst 1, 1) := by decide +kernel
theorem dX6_foodOf_56 : decode cX6_foodOf 56 = .ok (.goto 4, 3) := by decide +kernel
theorem dX6_foodOf_59 : decode cX6_foodOf 59 = .ok (.iconst 0, 1) := by decide +kernel
theorem dX6_foodOf_60 : decode cX6_foodOf 60 = .ok (.ireturn, 1) := by decide +kernel
theorem dX6_isPart_0 : decode cX6_isPart 0 = .ok (.iload_n 0, 1) := by decide +kernel
theorem dX6_isPart_1 : decode cX6_isPart 1 = .ok (.tableswitch 57 0 2 #[27, 37, 47], 27) := by decide +kernel
theorem dX6_isPart_28 : decode cX6_isPart 28 = .ok (.iload_n 1, 1) := by decide +kernel
theorem dX6_isPart_29 : decode cX6_isPart 29 = .ok (.i2l, 1) := by decide +kernel
theorem dX6_isPart_30 : decode cX6_isPart 30 = .ok (.lconst 0, 1) := by decide +kernel
theorem dX6_isPart_31 : decode cX6_isPart 31 = .ok (.ldc2_w 40, 3) := by decide +kernel
theorem dX6_isPart_34 : decode cX6_isPart 34 = .ok (.invokestatic 42, 3) := by decide +kernel
theorem dX6_isPart_37 : decode cX6_isPart 37 = .ok (.ireturn, 1) := by decide +kernel
theorem dX6_isPart_38 : decode cX6_isPart 38 = .ok (.iload_n 1, 1) := by decide +kernel
theorem dX6_isPart_39 : decode cX6_isPart 39 = .ok (.i2l, 1) := by decide +kernel
theorem dX6_isPart_40 : decode cX6_isPart 40 = .ok (.lconst 0, 1) := by decide +kernel
theorem dX6_isPart_41 : decode cX6_isPart 41 = .ok (.ldc2_w 53, 3) := by decide +kernel
theorem dX6_isPart_44 : decode cX6_isPart 44 = .ok (.invokestatic 42, 3) := by decide +kernel
theorem dX6_isPart_47 : decode cX6_isPart 47 = .ok (.ireturn, 1) := by decide +kernel
theorem dX6_isPart_48 : decode cX6_isPart 48 = .ok (.iload_n 1, 1) := by decide +kernel
theorem dX6_isPart_49 : decode cX6_isPart 49 = .ok (.i2l, 1) := by decide +kernel
theorem dX6_isPart_50 : decode cX6_isPart 50 = .ok (.lconst 0, 1) := by decide +kernel
theorem dX6_isPart_51 : decode cX6_isPart 51 = .ok (.ldc2_w 68, 3) := by decide +kernel
theorem dX6_isPart_54 : decode cX6_isPart 54 = .ok (.invokestatic 42, 3) := by decide +kernel
theorem dX6_isPart_57 : decode cX6_isPart 57 = .ok (.ireturn, 1) := by decide +kernel
theorem dX6_isPart_58 : decode cX6_isPart 58 = .ok (.iload_n 0, 1) := by decide +kernel
theorem dX6_isPart_59 : decode cX6_isPart 59 = .ok (.iconst 3, 1) := by decide +kernel
theorem dX6_isPart_60 : decode cX6_isPart 60 = .ok (.if_icmp .ne 19, 3) := by decide +kernel
theorem dX6_isPart_63 : decode cX6_isPart 63 = .ok (.iload_n 1, 1) := by decide +kernel
theorem dX6_isPart_64 : decode cX6_isPart 64 = .ok (.i2l, 1) := by decide +kernel
theorem dX6_isPart_65 : decode cX6_isPart 65 = .ok (.lconst 1, 1) := by decide +kernel
theorem dX6_isPart_66 : decode cX6_isPart 66 = .ok (.ldc2_w 53, 3) := by decide +kernel
theorem dX6_isPart_69 : decode cX6_isPart 69 = .ok (.invokestatic 42, 3) := by decide +kernel
theorem dX6_isPart_72 : decode cX6_isPart 72 = .ok (.ifCond .eq 7, 3) := by decide +kernel
theorem dX6_isPart_75 : decode cX6_isPart 75 = .ok (.iconst 1, 1) := by decide +kernel
theorem dX6_isPart_76 : decode cX6_isPart 76 = .ok (.goto 4, 3) := by decide +kernel
theorem dX6_isPart_79 : decode cX6_isPart 79 = .ok (.iconst 0, 1) := by decide +kernel
theorem dX6_isPart_80 : decode cX6_isPart 80 = .ok (.ireturn, 1) := by decide +kernel
theorem dX6_child_0 : decode cX6_child 0 = .ok (.iload_n 1, 1) := by decide +kernel
theorem dX6_child_1 : decode cX6_child 1 = .ok (.iload_n 2, 1) := by decide +kernel
theorem dX6_child_2 : decode cX6_child 2 = .ok (.invokestatic 70, 3) := by decide +kernel
theorem dX6_child_5 : decode cX6_child 5 = .ok (.ifCond .eq 14, 3) := by decide +kernel
theorem dX6_child_8 : decode cX6_child 8 = .ok (.aload_n 0, 1) := by decide +kernel
theorem dX6_child_9 : decode cX6_child 9 = .ok (.iconst 2, 1) := by decide +kernel
theorem dX6_child_10 : decode cX6_child 10 = .ok (.iload_n 1, 1) := by decide +kernel
theorem dX6_child_11 : decode cX6_child 11 = .ok (.iadd, 1) := by decide +kernel
theorem dX6_child_12 : decode cX6_child 12 = .ok (.iload_n 2, 1) := by decide +kernel
theorem dX6_child_13 : decode cX6_child 13 = .ok (.invokevirtual 59, 3) := by decide +kernel
theorem dX6_child_16 : decode cX6_child 16 = .ok (.goto 9, 3) := by decide +kernel
theorem dX6_child_19 : decode cX6_child 19 = .ok (.aload_n 0, 1) := by decide +kernel
theorem dX6_child_20 : decode cX6_child 20 = .ok (.ldc 34, 2) := by decide +kernel
theorem dX6_child_22 : decode cX6_child 22 = .ok (.invokevirtual 36, 3) := by decide +kernel
theorem dX6_child_25 : decode cX6_child 25 = .ok (.ireturn, 1) := by decide +kernel
theorem dX6_pudding_0 : decode cX6_pudding 0 = .ok (.iload_n 1, 1) := by decide +kernel
theorem dX6_pudding_1 : decode cX6_pudding 1 = .ok (.iconst (-1), 1) := by decide +kernel
theorem dX6_pudding_2 : decode cX6_pudding 2 = .ok (.if_icmp .eq 10, 3) := by decide +kernel
theorem dX6_pudding_5 : decode cX6_pudding 5 = .ok (.iload_n 1, 1) := by decide +kernel
theorem dX6_pudding_6 : decode cX6_pudding 6 = .ok (.invokestatic 55, 3) := by decide +kernel
theorem dX6_pudding_9 : decode cX6_pudding 9 = .ok (.ifCond .eq 13, 3) := by decide +kernel
theorem dX6_pudding_12 : decode cX6_pudding 12 = .ok (.aload_n 0, 1) := by decide +kernel
theorem dX6_pudding_13 : decode cX6_pudding 13 = .ok (.bipush 6, 2) := by decide +kernel
theorem dX6_pudding_15 : decode cX6_pudding 15 = .ok (.iload_n 1, 1) := by decide +kernel
theorem dX6_pudding_16 : decode cX6_pudding 16 = .ok (.invokevirtual 59, 3) := by decide +kernel
theorem dX6_pudding_19 : decode cX6_pudding 19 = .ok (.goto 9, 3) := by decide +kernel
theorem dX6_pudding_22 : decode cX6_pudding 22 = .ok (.aload_n 0, 1) := by decide +kernel
theorem dX6_pudding_23 : decode cX6_pudding 23 = .ok (.ldc 34, 2) := by decide +kernel
theorem dX6_pudding_25 : decode cX6_pudding 25 = .ok (.invokevirtual 36, 3) := by decide +kernel
theorem dX6_pudding_28 : decode cX6_pudding 28 = .ok (.ireturn, 1) := by decide +kernel
theorem dX6_friend_0 : decode cX6_friend 0 = .ok (.iload_n 1, 1) := by decide +kernel
theorem dX6_friend_1 : decode cX6_friend 1 = .ok (.i2l, 1) := by decide +kernel
theorem dX6_friend_2 : decode cX6_friend 2 = .ok (.lconst 0, 1) := by decide +kernel
theorem dX6_friend_3 : decode cX6_friend 3 = .ok (.ldc2_w 74, 3) := by decide +kernel
theorem dX6_friend_6 : decode cX6_friend 6 = .ok (.invokestatic 42, 3) := by decide +kernel
theorem dX6_friend_9 : decode cX6_friend 9 = .ok (.ifCond .eq 13, 3) := by decide +kernel
theorem dX6_friend_12 : decode cX6_friend 12 = .ok (.aload_n 0, 1) := by decide +kernel
theorem dX6_friend_13 : decode cX6_friend 13 = .ok (.bipush 7, 2) := by decide +kernel
theorem dX6_friend_15 : decode cX6_friend 15 = .ok (.iload_n 1, 1) := by decide +kernel
theorem dX6_friend_16 : decode cX6_friend 16 = .ok (.invokevirtual 59, 3) := by decide +kernel
theorem dX6_friend_19 : decode cX6_friend 19 = .ok (.goto 9, 3) := by decide +kernel
theorem dX6_friend_22 : decode cX6_friend 22 = .ok (.aload_n 0, 1) := by decide +kernel
theorem dX6_friend_23 : decode cX6_friend 23 = .ok (.ldc 34, 2) := by decide +kernel
theorem dX6_friend_25 : decode cX6_friend 25 = .ok (.invokevirtual 36, 3) := by decide +kernel
theorem dX6_friend_28 : decode cX6_friend 28 = .ok (.ireturn, 1) := by decide +kernel
theorem dX6_liked_0 : decode cX6_liked 0 = .ok (.iconst 0, 1) := by decide +kernel
theorem dX6_liked_1 : decode cX6_liked 1 = .ok (.istore_n 1, 1) := by decide +kernel
theorem dX6_liked_2 : decode cX6_liked 2 = .ok (.iconst 0, 1) := by decide +kernel
theorem dX6_liked_3 : decode cX6_liked 3 = .ok (.istore_n 2, 1) := by decide +kernel
theorem dX6_liked_4 : decode cX6_liked 4 = .ok (.iload_n 2, 1) := by decide +kernel
theorem dX6_liked_5 : decode cX6_liked 5 = .ok (.bipush 10, 2) := by decide +kernel
theorem dX6_liked_7 : decode cX6_liked 7 = .ok (.if_icmp .ge 27, 3) := by decide +kernel
theorem dX6_liked_10 : decode cX6_liked 10 = .ok (.iload_n 1, 1) := by decide +kernel
theorem dX6_liked_11 : decode cX6_liked 11 = .ok (.aload_n 0, 1) := by decide +kernel
theorem dX6_liked_12 : decode cX6_liked 12 = .ok (.iload_n 2, 1) := by decide +kernel
theorem dX6_liked_13 : decode cX6_liked 13 = .ok (.invokevirtual 65, 3) := by decide +kernel
theorem dX6_liked_16 : decode cX6_liked 16 = .ok (.ifCond .eq 9, 3) := by decide +kernel
theorem dX6_liked_19 : decode cX6_liked 19 = .ok (.iconst 1, 1) := by decide +kernel
theorem dX6_liked_20 : decode cX6_liked 20 = .ok (.iload_n 2, 1) := by decide +kernel
theorem dX6_liked_21 : decode cX6_liked 21 = .ok (.ishl, 1) := by decide +kernel
theorem dX6_liked_22 : decode cX6_liked 22 = .ok (.goto 4, 3) := by decide +kernel
theorem dX6_liked_25 : decode cX6_liked 25 = .ok (.iconst 0, 1) := by decide +kernel
theorem dX6_liked_26 : decode cX6_liked 26 = .ok (.ior, 1) := by decide +kernel
theorem dX6_liked_27 : decode cX6_liked 27 = .ok (.istore_n 1, 1) := by decide +kernel
theorem dX6_liked_28 : decode cX6_liked 28 = .ok (.iinc 2 1, 3) := by decide +kernel
theorem dX6_liked_31 : decode cX6_liked 31 = .ok (.goto (-27), 3) := by decide +kernel
theorem dX6_liked_34 : decode cX6_liked 34 = .ok (.iload_n 1, 1) := by decide +kernel
theorem dX6_liked_35 : decode cX6_liked 35 = .ok (.ireturn, 1) := by decide +kernel
theorem dX6_manyLiked_0 : decode cX6_manyLiked 0 = .ok (.iconst 0, 1) := by decide +kernel
theorem dX6_manyLiked_1 : decode cX6_manyLiked 1 = .ok (.istore_n 1, 1) := by decide +kernel
theorem dX6_manyLiked_2 : decode cX6_manyLiked 2 = .ok (.iconst 0, 1) := by decide +kernel
theorem dX6_manyLiked_3 : decode cX6_manyLiked 3 = .ok (.istore_n 2, 1) := by decide +kernel
theorem dX6_manyLiked_4 : decode cX6_manyLiked 4 = .ok (.iload_n 2, 1) := by decide +kernel
theorem dX6_manyLiked_5 : decode cX6_manyLiked 5 = .ok (.bipush 10, 2) := by decide +kernel
theorem dX6_manyLiked_7 : decode cX6_manyLiked 7 = .ok (.if_icmp .ge 25, 3) := by decide +kernel
theorem dX6_manyLiked_10 : decode cX6_manyLiked 10 = .ok (.iload_n 1, 1) := by decide +kernel
theorem dX6_manyLiked_11 : decode cX6_manyLiked 11 = .ok (.aload_n 0, 1) := by decide +kernel
theorem dX6_manyLiked_12 : decode cX6_manyLiked 12 = .ok (.iload_n 2, 1) := by decide +kernel
theorem dX6_manyLiked_13 : decode cX6_manyLiked 13 = .ok (.invokevirtual 65, 3) := by decide +kernel
theorem dX6_manyLiked_16 : decode cX6_manyLiked 16 = .ok (.ifCond .eq 7, 3) := by decide +kernel
theorem dX6_manyLiked_19 : decode cX6_manyLiked 19 = .ok (.iconst 1, 1) := by decide +kernel
theorem dX6_manyLiked_20 : decode cX6_manyLiked 20 = .ok (.goto 4, 3) := by decide +kernel
theorem dX6_manyLiked_23 : decode cX6_manyLiked 23 = .ok (.iconst 0, 1) := by decide +kernel
theorem dX6_manyLiked_24 : decode cX6_manyLiked 24 = .ok (.iadd, 1) := by decide +kernel
theorem dX6_manyLiked_25 : decode cX6_manyLiked 25 = .ok (.istore_n 1, 1) := by decide +kernel
theorem dX6_manyLiked_26 : decode cX6_manyLiked 26 = .ok (.iinc 2 1, 3) := by decide +kernel
theorem dX6_manyLiked_29 : decode cX6_manyLiked 29 = .ok (.goto (-25), 3) := by decide +kernel
theorem dX6_manyLiked_32 : decode cX6_manyLiked 32 = .ok (.iload_n 1, 1) := by decide +kernel
theorem dX6_manyLiked_33 : decode cX6_manyLiked 33 = .ok (.ireturn, 1) := by decide +kernel
theorem dX6_next_0 : decode cX6_next 0 = .ok (.iconst (-1), 1) := by decide +kernel
theorem dX6_next_1 : decode cX6_next 1 = .ok (.istore_n 1, 1) := by decide +kernel
theorem dX6_next_2 : decode cX6_next 2 = .ok (.iconst 0, 1) := by decide +kernel
theorem dX6_next_3 : decode cX6_next 3 = .ok (.istore_n 2, 1) := by decide +kernel
theorem dX6_next_4 : decode cX6_next 4 = .ok (.iload_n 2, 1) := by decide +kernel
theorem dX6_next_5 : decode cX6_next 5 = .ok (.bipush 10, 2) := by decide +kernel
theorem dX6_next_7 : decode cX6_next 7 = .ok (.if_icmp .ge 36, 3) := by decide +kernel
theorem dX6_next_10 : decode cX6_next 10 = .ok (.aload_n 0, 1) := by decide +kernel
theorem dX6_next_11 : decode cX6_next 11 = .ok (.iload_n 2, 1) := by decide +kernel
theorem dX6_next_12 : decode cX6_next 12 = .ok (.invokevirtual 65, 3) := by decide +kernel
theorem dX6_next_15 : decode cX6_next 15 = .ok (.ifCond .ne 22, 3) := by decide +kernel
theorem dX6_next_18 : decode cX6_next 18 = .ok (.iload_n 1, 1) := by decide +kernel
theorem dX6_next_19 : decode cX6_next 19 = .ok (.ifCond .lt 16, 3) := by decide +kernel
theorem dX6_next_22 : decode cX6_next 22 = .ok (.aload_n 0, 1) := by decide +kernel
theorem dX6_next_23 : decode cX6_next 23 = .ok (.iload_n 2, 1) := by decide +kernel
theorem dX6_next_24 : decode cX6_next 24 = .ok (.invokevirtual 50, 3) := by decide +kernel
theorem dX6_next_27 : decode cX6_next 27 = .ok (.aload_n 0, 1) := by decide +kernel
theorem dX6_next_28 : decode cX6_next 28 = .ok (.iload_n 1, 1) := by decide +kernel
theorem dX6_next_29 : decode cX6_next 29 = .ok (.invokevirtual 50, 3) := by decide +kernel
theorem dX6_next_32 : decode cX6_next 32 = .ok (.if_icmp .le 5, 3) := by decide +kernel
theorem dX6_next_35 : decode cX6_next 35 = .ok (.iload_n 2, 1) := by decide +kernel
theorem dX6_next_36 : decode cX6_next 36 = .ok (.istore_n 1, 1) := by decide +kernel
theorem dX6_next_37 : decode cX6_next 37 = .ok (.iinc 2 1, 3) := by decide +kernel
theorem dX6_next_40 : decode cX6_next 40 = .ok (.goto (-36), 3) := by decide +kernel
theorem dX6_next_43 : decode cX6_next 43 = .ok (.aload_n 0, 1) := by decide +kernel
theorem dX6_next_44 : decode cX6_next 44 = .ok (.iload_n 1, 1) := by decide +kernel
theorem dX6_next_45 : decode cX6_next 45 = .ok (.invokevirtual 76, 3) := by decide +kernel
theorem dX6_next_48 : decode cX6_next 48 = .ok (.ireturn, 1) := by decide +kernel
theorem dX6_comes_0 : decode cX6_comes 0 = .ok (.bipush 40, 2) := by decide +kernel
theorem dX6_comes_2 : decode cX6_comes 2 = .ok (.iconst 3, 1) := by decide +kernel
theorem dX6_comes_3 : decode cX6_comes 3 = .ok (.aload_n 0, 1) := by decide +kernel
theorem dX6_comes_4 : decode cX6_comes 4 = .ok (.getfield 9, 3) := by decide +kernel
theorem dX6_comes_7 : decode cX6_comes 7 = .ok (.bipush 8, 2) := by decide +kernel
theorem dX6_comes_9 : decode cX6_comes 9 = .ok (.iaload, 1) := by decide +kernel
theorem dX6_comes_10 : decode cX6_comes 10 = .ok (.imul, 1) := by decide +kernel
theorem dX6_comes_11 : decode cX6_comes 11 = .ok (.iadd, 1) := by decide +kernel
theorem dX6_comes_12 : decode cX6_comes 12 = .ok (.istore 4, 2) := by decide +kernel
theorem dX6_comes_14 : decode cX6_comes 14 = .ok (.aload_n 0, 1) := by decide +kernel
theorem dX6_comes_15 : decode cX6_comes 15 = .ok (.getfield 9, 3) := by decide +kernel
theorem dX6_comes_18 : decode cX6_comes 18 = .ok (.iload 4, 2) := by decide +kernel
theorem dX6_comes_20 : decode cX6_comes 20 = .ok (.iload_n 1, 1) := by decide +kernel
theorem dX6_comes_21 : decode cX6_comes 21 = .ok (.iastore, 1) := by decide +kernel
theorem dX6_comes_22 : decode cX6_comes 22 = .ok (.aload_n 0, 1) := by decide +kernel
theorem dX6_comes_23 : decode cX6_comes 23 = .ok (.getfield 9, 3) := by decide +kernel
theorem dX6_comes_26 : decode cX6_comes 26 = .ok (.iload 4, 2) := by decide +kernel
theorem dX6_comes_28 : decode cX6_comes 28 = .ok (.iconst 1, 1) := by decide +kernel
theorem dX6_comes_29 : decode cX6_comes 29 = .ok (.iadd, 1) := by decide +kernel
theorem dX6_comes_30 : decode cX6_comes 30 = .ok (.iload_n 2, 1) := by decide +kernel
theorem dX6_comes_31 : decode cX6_comes 31 = .ok (.iastore, 1) := by decide +kernel
theorem dX6_comes_32 : decode cX6_comes 32 = .ok (.aload_n 0, 1) := by decide +kernel
theorem dX6_comes_33 : decode cX6_comes 33 = .ok (.getfield 9, 3) := by decide +kernel
theorem dX6_comes_36 : decode cX6_comes 36 = .ok (.iload 4, 2) := by decide +kernel
theorem dX6_comes_38 : decode cX6_comes 38 = .ok (.iconst 2, 1) := by decide +kernel
theorem dX6_comes_39 : decode cX6_comes 39 = .ok (.iadd, 1) := by decide +kernel
theorem dX6_comes_40 : decode cX6_comes 40 = .ok (.iload_n 3, 1) := by decide +kernel
theorem dX6_comes_41 : decode cX6_comes 41 = .ok (.iastore, 1) := by decide +kernel
theorem dX6_comes_42 : decode cX6_comes 42 = .ok (.aload_n 0, 1) := by decide +kernel
theorem dX6_comes_43 : decode cX6_comes 43 = .ok (.getfield 9, 3) := by decide +kernel
theorem dX6_comes_46 : decode cX6_comes 46 = .ok (.bipush 8, 2) := by decide +kernel
theorem dX6_comes_48 : decode cX6_comes 48 = .ok (.dup2, 1) := by decide +kernel
theorem dX6_comes_49 : decode cX6_comes 49 = .ok (.iaload, 1) := by decide +kernel
theorem dX6_comes_50 : decode cX6_comes 50 = .ok (.iconst 1, 1) := by decide +kernel
theorem dX6_comes_51 : decode cX6_comes 51 = .ok (.iadd, 1) := by decide +kernel
theorem dX6_comes_52 : decode cX6_comes 52 = .ok (.iastore, 1) := by decide +kernel
theorem dX6_comes_53 : decode cX6_comes 53 = .ok (.return_, 1) := by decide +kernel
theorem dX6_taste_0 : decode cX6_taste 0 = .ok (.iload_n 1, 1) := by decide +kernel
theorem dX6_taste_1 : decode cX6_taste 1 = .ok (.invokestatic 79, 3) := by decide +kernel
theorem dX6_taste_4 : decode cX6_taste 4 = .ok (.ifCond .eq 17, 3) := by decide +kernel
theorem dX6_taste_7 : decode cX6_taste 7 = .ok (.iload_n 2, 1) := by decide +kernel
theorem dX6_taste_8 : decode cX6_taste 8 = .ok (.invokestatic 55, 3) := by decide +kernel
theorem dX6_taste_11 : decode cX6_taste 11 = .ok (.ifCond .eq 10, 3) := by decide +kernel
theorem dX6_taste_14 : decode cX6_taste 14 = .ok (.iload_n 3, 1) := by decide +kernel
theorem dX6_taste_15 : decode cX6_taste 15 = .ok (.invokestatic 82, 3) := by decide +kernel
theorem dX6_taste_18 : decode cX6_taste 18 = .ok (.ifCond .ne 10, 3) := by decide +kernel
theorem dX6_taste_21 : decode cX6_taste 21 = .ok (.aload_n 0, 1) := by decide +kernel
theorem dX6_taste_22 : decode cX6_taste 22 = .ok (.ldc 34, 2) := by decide +kernel
theorem dX6_taste_24 : decode cX6_taste 24 = .ok (.invokevirtual 36, 3) := by decide +kernel
theorem dX6_taste_27 : decode cX6_taste 27 = .ok (.ireturn, 1) := by decide +kernel
theorem dX6_taste_28 : decode cX6_taste 28 = .ok (.aload_n 0, 1) := by decide +kernel
theorem dX6_taste_29 : decode cX6_taste 29 = .ok (.getfield 9, 3) := by decide +kernel
theorem dX6_taste_32 : decode cX6_taste 32 = .ok (.bipush 8, 2) := by decide +kernel
theorem dX6_taste_34 : decode cX6_taste 34 = .ok (.iaload, 1) := by decide +kernel
theorem dX6_taste_35 : decode cX6_taste 35 = .ok (.bipush 10, 2) := by decide +kernel
theorem dX6_taste_37 : decode cX6_taste 37 = .ok (.if_icmp .ne 10, 3) := by decide +kernel
theorem dX6_taste_40 : decode cX6_taste 40 = .ok (.aload_n 0, 1) := by decide +kernel
theorem dX6_taste_41 : decode cX6_taste 41 = .ok (.ldc 85, 2) := by decide +kernel
theorem dX6_taste_43 : decode cX6_taste 43 = .ok (.invokevirtual 36, 3) := by decide +kernel
theorem dX6_taste_46 : decode cX6_taste 46 = .ok (.ireturn, 1) := by decide +kernel
theorem dX6_taste_47 : decode cX6_taste 47 = .ok (.aload_n 0, 1) := by decide +kernel
theorem dX6_taste_48 : decode cX6_taste 48 = .ok (.iload_n 1, 1) := by decide +kernel
theorem dX6_taste_49 : decode cX6_taste 49 = .ok (.iload_n 2, 1) := by decide +kernel
theorem dX6_taste_50 : decode cX6_taste 50 = .ok (.iload_n 3, 1) := by decide +kernel
theorem dX6_taste_51 : decode cX6_taste 51 = .ok (.invokevirtual 86, 3) := by decide +kernel
theorem dX6_taste_54 : decode cX6_taste 54 = .ok (.aload_n 0, 1) := by decide +kernel
theorem dX6_taste_55 : decode cX6_taste 55 = .ok (.getfield 9, 3) := by decide +kernel
theorem dX6_taste_58 : decode cX6_taste 58 = .ok (.bipush 8, 2) := by decide +kernel
theorem dX6_taste_60 : decode cX6_taste 60 = .ok (.iaload, 1) := by decide +kernel
theorem dX6_taste_61 : decode cX6_taste 61 = .ok (.iconst 1, 1) := by decide +kernel
theorem dX6_taste_62 : decode cX6_taste 62 = .ok (.isub, 1) := by decide +kernel
theorem dX6_taste_63 : decode cX6_taste 63 = .ok (.ireturn, 1) := by decide +kernel
theorem dX6_isFriends_0 : decode cX6_isFriends 0 = .ok (.aload_n 0, 1) := by decide +kernel
theorem dX6_isFriends_1 : decode cX6_isFriends 1 = .ok (.getfield 9, 3) := by decide +kernel
theorem dX6_isFriends_4 : decode cX6_isFriends 4 = .ok (.bipush 7, 2) := by decide +kernel
theorem dX6_isFriends_6 : decode cX6_isFriends 6 = .ok (.iaload, 1) := by decide +kernel
theorem dX6_isFriends_7 : decode cX6_isFriends 7 = .ok (.aload_n 0, 1) := by decide +kernel
theorem dX6_isFriends_8 : decode cX6_isFriends 8 = .ok (.iload_n 1, 1) := by decide +kernel
theorem dX6_isFriends_9 : decode cX6_isFriends 9 = .ok (.iconst 1, 1) := by decide +kernel
theorem dX6_isFriends_10 : decode cX6_isFriends 10 = .ok (.invokevirtual 90, 3) := by decide +kernel
theorem dX6_isFriends_13 : decode cX6_isFriends 13 = .ok (.ishr, 1) := by decide +kernel
theorem dX6_isFriends_14 : decode cX6_isFriends 14 = .ok (.iconst 1, 1) := by decide +kernel
theorem dX6_isFriends_15 : decode cX6_isFriends 15 = .ok (.iand, 1) := by decide +kernel
theorem dX6_isFriends_16 : decode cX6_isFriends 16 = .ok (.iconst 1, 1) := by decide +kernel
theorem dX6_isFriends_17 : decode cX6_isFriends 17 = .ok (.if_icmp .ne 7, 3) := by decide +kernel
theorem dX6_isFriends_20 : decode cX6_isFriends 20 = .ok (.iconst 1, 1) := by decide +kernel
theorem dX6_isFriends_21 : decode cX6_isFriends 21 = .ok (.goto 4, 3) := by decide +kernel
theorem dX6_isFriends_24 : decode cX6_isFriends 24 = .ok (.iconst 0, 1) := by decide +kernel
theorem dX6_isFriends_25 : decode cX6_isFriends 25 = .ok (.ireturn, 1) := by decide +kernel
theorem dX6_eats_0 : decode cX6_eats 0 = .ok (.aload_n 0, 1) := by decide +kernel
theorem dX6_eats_1 : decode cX6_eats 1 = .ok (.iload_n 1, 1) := by decide +kernel
theorem dX6_eats_2 : decode cX6_eats 2 = .ok (.iconst 2, 1) := by decide +kernel
theorem dX6_eats_3 : decode cX6_eats 3 = .ok (.invokevirtual 90, 3) := by decide +kernel
theorem dX6_eats_6 : decode cX6_eats 6 = .ok (.istore_n 3, 1) := by decide +kernel
theorem dX6_eats_7 : decode cX6_eats 7 = .ok (.iload_n 3, 1) := by decide +kernel
theorem dX6_eats_8 : decode cX6_eats 8 = .ok (.aload_n 0, 1) := by decide +kernel
theorem dX6_eats_9 : decode cX6_eats 9 = .ok (.aload_n 0, 1) := by decide +kernel
theorem dX6_eats_10 : decode cX6_eats 10 = .ok (.iload_n 1, 1) := by decide +kernel
theorem dX6_eats_11 : decode cX6_eats 11 = .ok (.iconst 1, 1) := by decide +kernel
theorem dX6_eats_12 : decode cX6_eats 12 = .ok (.invokevirtual 90, 3) := by decide +kernel
theorem dX6_eats_15 : decode cX6_eats 15 = .ok (.invokevirtual 50, 3) := by decide +kernel
theorem dX6_eats_18 : decode cX6_eats 18 = .ok (.imul, 1) := by decide +kernel
theorem dX6_eats_19 : decode cX6_eats 19 = .ok (.aload_n 0, 1) := by decide +kernel
theorem dX6_eats_20 : decode cX6_eats 20 = .ok (.getfield 9, 3) := by decide +kernel
theorem dX6_eats_23 : decode cX6_eats 23 = .ok (.iconst 3, 1) := by decide +kernel
theorem dX6_eats_24 : decode cX6_eats 24 = .ok (.iaload, 1) := by decide +kernel
theorem dX6_eats_25 : decode cX6_eats 25 = .ok (.bipush 20, 2) := by decide +kernel
theorem dX6_eats_27 : decode cX6_eats 27 = .ok (.iadd, 1) := by decide +kernel
theorem dX6_eats_28 : decode cX6_eats 28 = .ok (.imul, 1) := by decide +kernel
theorem dX6_eats_29 : decode cX6_eats 29 = .ok (.sipush 10000, 3) := by decide +kernel
theorem dX6_eats_32 : decode cX6_eats 32 = .ok (.idiv, 1) := by decide +kernel
theorem dX6_eats_33 : decode cX6_eats 33 = .ok (.istore 4, 2) := by decide +kernel
theorem dX6_eats_35 : decode cX6_eats 35 = .ok (.iload 4, 2) := by decide +kernel
theorem dX6_eats_37 : decode cX6_eats 37 = .ok (.istore 5, 2) := by decide +kernel
theorem dX6_eats_39 : decode cX6_eats 39 = .ok (.aload_n 0, 1) := by decide +kernel
theorem dX6_eats_40 : decode cX6_eats 40 = .ok (.iload_n 1, 1) := by decide +kernel
theorem dX6_eats_41 : decode cX6_eats 41 = .ok (.iconst 0, 1) := by decide +kernel
theorem dX6_eats_42 : decode cX6_eats 42 = .ok (.invokevirtual 90, 3) := by decide +kernel
theorem dX6_eats_45 : decode cX6_eats 45 = .ok (.tableswitch 102 1 6 #[39, 45, 54, 63, 63, 88], 39) := by decide +kernel
theorem dX6_eats_84 : decode cX6_eats 84 = .ok (.iconst 0, 1) := by decide +kernel
theorem dX6_eats_85 : decode cX6_eats 85 = .ok (.istore 5, 2) := by decide +kernel
theorem dX6_eats_87 : decode cX6_eats 87 = .ok (.goto 60, 3) := by decide +kernel
theorem dX6_eats_90 : decode cX6_eats 90 = .ok (.iload 4, 2) := by decide +kernel
theorem dX6_eats_92 : decode cX6_eats 92 = .ok (.iconst 2, 1) := by decide +kernel
theorem dX6_eats_93 : decode cX6_eats 93 = .ok (.iadd, 1) := by decide +kernel
theorem dX6_eats_94 : decode cX6_eats 94 = .ok (.istore 5, 2) := by decide +kernel
theorem dX6_eats_96 : decode cX6_eats 96 = .ok (.goto 51, 3) := by decide +kernel
theorem dX6_eats_99 : decode cX6_eats 99 = .ok (.iload 4, 2) := by decide +kernel
theorem dX6_eats_101 : decode cX6_eats 101 = .ok (.iconst 5, 1) := by decide +kernel
theorem dX6_eats_102 : decode cX6_eats 102 = .ok (.iadd, 1) := by decide +kernel
theorem dX6_eats_103 : decode cX6_eats 103 = .ok (.istore 5, 2) := by decide +kernel
theorem dX6_eats_105 : decode cX6_eats 105 = .ok (.goto 42, 3) := by decide +kernel
theorem dX6_eats_108 : decode cX6_eats 108 = .ok (.aload_n 0, 1) := by decide +kernel
theorem dX6_eats_109 : decode cX6_eats 109 = .ok (.iload_n 1, 1) := by decide +kernel
theorem dX6_eats_110 : decode cX6_eats 110 = .ok (.invokevirtual 93, 3) := by decide +kernel
theorem dX6_eats_113 : decode cX6_eats 113 = .ok (.ifCond .eq 13, 3) := by decide +kernel
theorem dX6_eats_116 : decode cX6_eats 116 = .ok (.iload 4, 2) := by decide +kernel
theorem dX6_eats_118 : decode cX6_eats 118 = .ok (.iload 4, 2) := by decide +kernel
theorem dX6_eats_120 : decode cX6_eats 120 = .ok (.iconst 2, 1) := by decide +kernel
theorem dX6_eats_121 : decode cX6_eats 121 = .ok (.idiv, 1) := by decide +kernel
theorem dX6_eats_122 : decode cX6_eats 122 = .ok (.iadd, 1) := by decide +kernel
theorem dX6_eats_123 : decode cX6_eats 123 = .ok (.goto 5, 3) := by decide +kernel
theorem dX6_eats_126 : decode cX6_eats 126 = .ok (.iload 4, 2) := by decide +kernel
theorem dX6_eats_128 : decode cX6_eats 128 = .ok (.istore 5, 2) := by decide +kernel
theorem dX6_eats_130 : decode cX6_eats 130 = .ok (.goto 17, 3) := by decide +kernel
theorem dX6_eats_133 : decode cX6_eats 133 = .ok (.iload_n 2, 1) := by decide +kernel
theorem dX6_eats_134 : decode cX6_eats 134 = .ok (.ifCond .eq 7, 3) := by decide +kernel
theorem dX6_eats_137 : decode cX6_eats 137 = .ok (.iconst 0, 1) := by decide +kernel
theorem dX6_eats_138 : decode cX6_eats 138 = .ok (.goto 4, 3) := by decide +kernel
theorem dX6_eats_141 : decode cX6_eats 141 = .ok (.iload_n 3, 1) := by decide +kernel
theorem dX6_eats_142 : decode cX6_eats 142 = .ok (.istore 5, 2) := by decide +kernel
theorem dX6_eats_144 : decode cX6_eats 144 = .ok (.goto 3, 3) := by decide +kernel
theorem dX6_eats_147 : decode cX6_eats 147 = .ok (.iload 5, 2) := by decide +kernel
theorem dX6_eats_149 : decode cX6_eats 149 = .ok (.iload_n 3, 1) := by decide +kernel
theorem dX6_eats_150 : decode cX6_eats 150 = .ok (.invokestatic 96, 3) := by decide +kernel
theorem dX6_eats_153 : decode cX6_eats 153 = .ok (.ireturn, 1) := by decide +kernel
theorem dX6_moves_0 : decode cX6_moves 0 = .ok (.bipush 6, 2) := by decide +kernel
theorem dX6_moves_2 : decode cX6_moves 2 = .ok (.aload_n 0, 1) := by decide +kernel
theorem dX6_moves_3 : decode cX6_moves 3 = .ok (.getfield 9, 3) := by decide +kernel
theorem dX6_moves_6 : decode cX6_moves 6 = .ok (.bipush 10, 2) := by decide +kernel
theorem dX6_moves_8 : decode cX6_moves 8 = .ok (.iconst 3, 1) := by decide +kernel
theorem dX6_moves_9 : decode cX6_moves 9 = .ok (.aload_n 0, 1) := by decide +kernel
theorem dX6_moves_10 : decode cX6_moves 10 = .ok (.iload_n 1, 1) := by decide +kernel
theorem dX6_moves_11 : decode cX6_moves 11 = .ok (.iconst 1, 1) := by decide +kernel
theorem dX6_moves_12 : decode cX6_moves 12 = .ok (.invokevirtual 90, 3) := by decide +kernel
theorem dX6_moves_15 : decode cX6_moves 15 = .ok (.imul, 1) := by decide +kernel
theorem dX6_moves_16 : decode cX6_moves 16 = .ok (.iadd, 1) := by decide +kernel
theorem dX6_moves_17 : decode cX6_moves 17 = .ok (.iconst 1, 1) := by decide +kernel
theorem dX6_moves_18 : decode cX6_moves 18 = .ok (.iadd, 1) := by decide +kernel
theorem dX6_moves_19 : decode cX6_moves 19 = .ok (.iaload, 1) := by decide +kernel
theorem dX6_moves_20 : decode cX6_moves 20 = .ok (.aload_n 0, 1) := by decide +kernel
theorem dX6_moves_21 : decode cX6_moves 21 = .ok (.getfield 9, 3) := by decide +kernel
theorem dX6_moves_24 : decode cX6_moves 24 = .ok (.iconst 2, 1) := by decide +kernel
theorem dX6_moves_25 : decode cX6_moves 25 = .ok (.iaload, 1) := by decide +kernel
theorem dX6_moves_26 : decode cX6_moves 26 = .ok (.imul, 1) := by decide +kernel
theorem dX6_moves_27 : decode cX6_moves 27 = .ok (.bipush 10, 2) := by decide +kernel
theorem dX6_moves_29 : decode cX6_moves 29 = .ok (.idiv, 1) := by decide +kernel
theorem dX6_moves_30 : decode cX6_moves 30 = .ok (.isub, 1) := by decide +kernel
theorem dX6_moves_31 : decode cX6_moves 31 = .ok (.istore_n 3, 1) := by decide +kernel
theorem dX6_moves_32 : decode cX6_moves 32 = .ok (.iload_n 3, 1) := by decide +kernel
theorem dX6_moves_33 : decode cX6_moves 33 = .ok (.aload_n 0, 1) := by decide +kernel
theorem dX6_moves_34 : decode cX6_moves 34 = .ok (.iload_n 1, 1) := by decide +kernel
theorem dX6_moves_35 : decode cX6_moves 35 = .ok (.invokevirtual 93, 3) := by decide +kernel
theorem dX6_moves_38 : decode cX6_moves 38 = .ok (.ifCond .eq 7, 3) := by decide +kernel
theorem dX6_moves_41 : decode cX6_moves 41 = .ok (.iconst 3, 1) := by decide +kernel
theorem dX6_moves_42 : decode cX6_moves 42 = .ok (.goto 4, 3) := by decide +kernel
theorem dX6_moves_45 : decode cX6_moves 45 = .ok (.iconst 0, 1) := by decide +kernel
theorem dX6_moves_46 : decode cX6_moves 46 = .ok (.iadd, 1) := by decide +kernel
theorem dX6_moves_47 : decode cX6_moves 47 = .ok (.istore 4, 2) := by decide +kernel
theorem dX6_moves_49 : decode cX6_moves 49 = .ok (.aload_n 0, 1) := by decide +kernel
theorem dX6_moves_50 : decode cX6_moves 50 = .ok (.iload_n 1, 1) := by decide +kernel
theorem dX6_moves_51 : decode cX6_moves 51 = .ok (.iconst 0, 1) := by decide +kernel
theorem dX6_moves_52 : decode cX6_moves 52 = .ok (.invokevirtual 90, 3) := by decide +kernel
theorem dX6_moves_55 : decode cX6_moves 55 = .ok (.tableswitch 70 1 6 #[37, 41, 46, 51, 54, 59], 37) := by decide +kernel
theorem dX6_moves_92 : decode cX6_moves 92 = .ok (.iload_n 3, 1) := by decide +kernel
theorem dX6_moves_93 : decode cX6_moves 93 = .ok (.iconst 2, 1) := by decide +kernel
theorem dX6_moves_94 : decode cX6_moves 94 = .ok (.idiv, 1) := by decide +kernel
theorem dX6_moves_95 : decode cX6_moves 95 = .ok (.ireturn, 1) := by decide +kernel
theorem dX6_moves_96 : decode cX6_moves 96 = .ok (.iload_n 3, 1) := by decide +kernel
theorem dX6_moves_97 : decode cX6_moves 97 = .ok (.bipush 8, 2) := by decide +kernel
theorem dX6_moves_99 : decode cX6_moves 99 = .ok (.isub, 1) := by decide +kernel
theorem dX6_moves_100 : decode cX6_moves 100 = .ok (.ireturn, 1) := by decide +kernel
theorem dX6_moves_101 : decode cX6_moves 101 = .ok (.iload_n 3, 1) := by decide +kernel
theorem dX6_moves_102 : decode cX6_moves 102 = .ok (.bipush 6, 2) := by decide +kernel
theorem dX6_moves_104 : decode cX6_moves 104 = .ok (.isub, 1) := by decide +kernel
theorem dX6_moves_105 : decode cX6_moves 105 = .ok (.ireturn, 1) := by decide +kernel
theorem dX6_moves_106 : decode cX6_moves 106 = .ok (.iload 4, 2) := by decide +kernel
theorem dX6_moves_108 : decode cX6_moves 108 = .ok (.ireturn, 1) := by decide +kernel
theorem dX6_moves_109 : decode cX6_moves 109 = .ok (.iload 4, 2) := by decide +kernel
theorem dX6_moves_111 : decode cX6_moves 111 = .ok (.iconst 2, 1) := by decide +kernel
theorem dX6_moves_112 : decode cX6_moves 112 = .ok (.iadd, 1) := by decide +kernel
theorem dX6_moves_113 : decode cX6_moves 113 = .ok (.ireturn, 1) := by decide +kernel
theorem dX6_moves_114 : decode cX6_moves 114 = .ok (.iload_n 2, 1) := by decide +kernel
theorem dX6_moves_115 : decode cX6_moves 115 = .ok (.ifCond .eq 8, 3) := by decide +kernel
theorem dX6_moves_118 : decode cX6_moves 118 = .ok (.bipush (-10), 2) := by decide +kernel
theorem dX6_moves_120 : decode cX6_moves 120 = .ok (.goto 4, 3) := by decide +kernel
theorem dX6_moves_123 : decode cX6_moves 123 = .ok (.iconst 1, 1) := by decide +kernel
theorem dX6_moves_124 : decode cX6_moves 124 = .ok (.ireturn, 1) := by decide +kernel
theorem dX6_moves_125 : decode cX6_moves 125 = .ok (.iload_n 3, 1) := by decide +kernel
theorem dX6_moves_126 : decode cX6_moves 126 = .ok (.ireturn, 1) := by decide +kernel
theorem dX6_tasteOf_0 : decode cX6_tasteOf 0 = .ok (.aload_n 0, 1) := by decide +kernel
theorem dX6_tasteOf_1 : decode cX6_tasteOf 1 = .ok (.iload_n 1, 1) := by decide +kernel
theorem dX6_tasteOf_2 : decode cX6_tasteOf 2 = .ok (.invokevirtual 99, 3) := by decide +kernel
theorem dX6_tasteOf_5 : decode cX6_tasteOf 5 = .ok (.ifCond .eq 15, 3) := by decide +kernel
theorem dX6_tasteOf_8 : decode cX6_tasteOf 8 = .ok (.iload_n 2, 1) := by decide +kernel
theorem dX6_tasteOf_9 : decode cX6_tasteOf 9 = .ok (.i2l, 1) := by decide +kernel
theorem dX6_tasteOf_10 : decode cX6_tasteOf 10 = .ok (.lconst 0, 1) := by decide +kernel
theorem dX6_tasteOf_11 : decode cX6_tasteOf 11 = .ok (.ldc2_w 102, 3) := by decide +kernel
theorem dX6_tasteOf_14 : decode cX6_tasteOf 14 = .ok (.invokestatic 42, 3) := by decide +kernel
theorem dX6_tasteOf_17 : decode cX6_tasteOf 17 = .ok (.ifCond .ne 10, 3) := by decide +kernel
theorem dX6_tasteOf_20 : decode cX6_tasteOf 20 = .ok (.aload_n 0, 1) := by decide +kernel
theorem dX6_tasteOf_21 : decode cX6_tasteOf 21 = .ok (.ldc 34, 2) := by decide +kernel
theorem dX6_tasteOf_23 : decode cX6_tasteOf 23 = .ok (.invokevirtual 36, 3) := by decide +kernel
theorem dX6_tasteOf_26 : decode cX6_tasteOf 26 = .ok (.ireturn, 1) := by decide +kernel
theorem dX6_tasteOf_27 : decode cX6_tasteOf 27 = .ok (.iload_n 2, 1) := by decide +kernel
theorem dX6_tasteOf_28 : decode cX6_tasteOf 28 = .ok (.iconst 3, 1) := by decide +kernel
theorem dX6_tasteOf_29 : decode cX6_tasteOf 29 = .ok (.if_icmp .ge 12, 3) := by decide +kernel
theorem dX6_tasteOf_32 : decode cX6_tasteOf 32 = .ok (.aload_n 0, 1) := by decide +kernel
theorem dX6_tasteOf_33 : decode cX6_tasteOf 33 = .ok (.iload_n 1, 1) := by decide +kernel
theorem dX6_tasteOf_34 : decode cX6_tasteOf 34 = .ok (.iload_n 2, 1) := by decide +kernel
theorem dX6_tasteOf_35 : decode cX6_tasteOf 35 = .ok (.invokevirtual 90, 3) := by decide +kernel
theorem dX6_tasteOf_38 : decode cX6_tasteOf 38 = .ok (.goto 23, 3) := by decide +kernel
theorem dX6_tasteOf_41 : decode cX6_tasteOf 41 = .ok (.iload_n 2, 1) := by decide +kernel
theorem dX6_tasteOf_42 : decode cX6_tasteOf 42 = .ok (.iconst 3, 1) := by decide +kernel
theorem dX6_tasteOf_43 : decode cX6_tasteOf 43 = .ok (.if_icmp .ne 12, 3) := by decide +kernel
theorem dX6_tasteOf_46 : decode cX6_tasteOf 46 = .ok (.aload_n 0, 1) := by decide +kernel
theorem dX6_tasteOf_47 : decode cX6_tasteOf 47 = .ok (.iload_n 1, 1) := by decide +kernel
theorem dX6_tasteOf_48 : decode cX6_tasteOf 48 = .ok (.iconst 0, 1) := by decide +kernel
theorem dX6_tasteOf_49 : decode cX6_tasteOf 49 = .ok (.invokevirtual 104, 3) := by decide +kernel
theorem dX6_tasteOf_52 : decode cX6_tasteOf 52 = .ok (.goto 9, 3) := by decide +kernel
theorem dX6_tasteOf_55 : decode cX6_tasteOf 55 = .ok (.aload_n 0, 1) := by decide +kernel
theorem dX6_tasteOf_56 : decode cX6_tasteOf 56 = .ok (.iload_n 1, 1) := by decide +kernel
theorem dX6_tasteOf_57 : decode cX6_tasteOf 57 = .ok (.iconst 0, 1) := by decide +kernel
theorem dX6_tasteOf_58 : decode cX6_tasteOf 58 = .ok (.invokevirtual 108, 3) := by decide +kernel
theorem dX6_tasteOf_61 : decode cX6_tasteOf 61 = .ok (.ireturn, 1) := by decide +kernel
theorem dX6_change_0 : decode cX6_change 0 = .ok (.iload_n 2, 1) := by decide +kernel
theorem dX6_change_1 : decode cX6_change 1 = .ok (.ifCond .ne 10, 3) := by decide +kernel
theorem dX6_change_4 : decode cX6_change 4 = .ok (.iload_n 3, 1) := by decide +kernel
theorem dX6_change_5 : decode cX6_change 5 = .ok (.invokestatic 79, 3) := by decide +kernel
theorem dX6_change_8 : decode cX6_change 8 = .ok (.goto 32, 3) := by decide +kernel
theorem dX6_change_11 : decode cX6_change 11 = .ok (.iload_n 2, 1) := by decide +kernel
theorem dX6_change_12 : decode cX6_change 12 = .ok (.iconst 1, 1) := by decide +kernel
theorem dX6_change_13 : decode cX6_change 13 = .ok (.if_icmp .ne 10, 3) := by decide +kernel
theorem dX6_change_16 : decode cX6_change 16 = .ok (.iload_n 3, 1) := by decide +kernel
theorem dX6_change_17 : decode cX6_change 17 = .ok (.invokestatic 55, 3) := by decide +kernel
theorem dX6_change_20 : decode cX6_change 20 = .ok (.goto 20, 3) := by decide +kernel
theorem dX6_change_23 : decode cX6_change 23 = .ok (.iload_n 2, 1) := by decide +kernel
theorem dX6_change_24 : decode cX6_change 24 = .ok (.iconst 2, 1) := by decide +kernel
theorem dX6_change_25 : decode cX6_change 25 = .ok (.if_icmp .ne 14, 3) := by decide +kernel
theorem dX6_change_28 : decode cX6_change 28 = .ok (.iload_n 3, 1) := by decide +kernel
theorem dX6_change_29 : decode cX6_change 29 = .ok (.invokestatic 82, 3) := by decide +kernel
theorem dX6_change_32 : decode cX6_change 32 = .ok (.ifCond .eq 7, 3) := by decide +kernel
theorem dX6_change_35 : decode cX6_change 35 = .ok (.iconst 1, 1) := by decide +kernel
theorem dX6_change_36 : decode cX6_change 36 = .ok (.goto 4, 3) := by decide +kernel
theorem dX6_change_39 : decode cX6_change 39 = .ok (.iconst 0, 1) := by decide +kernel
theorem dX6_change_40 : decode cX6_change 40 = .ok (.istore 4, 2) := by decide +kernel
theorem dX6_change_42 : decode cX6_change 42 = .ok (.aload_n 0, 1) := by decide +kernel
theorem dX6_change_43 : decode cX6_change 43 = .ok (.iload_n 1, 1) := by decide +kernel
theorem dX6_change_44 : decode cX6_change 44 = .ok (.invokevirtual 99, 3) := by decide +kernel
theorem dX6_change_47 : decode cX6_change 47 = .ok (.ifCond .eq 24, 3) := by decide +kernel
theorem dX6_change_50 : decode cX6_change 50 = .ok (.iload 4, 2) := by decide +kernel
theorem dX6_change_52 : decode cX6_change 52 = .ok (.ifCond .eq 19, 3) := by decide +kernel
theorem dX6_change_55 : decode cX6_change 55 = .ok (.aload_n 0, 1) := by decide +kernel
theorem dX6_change_56 : decode cX6_change 56 = .ok (.bipush 40, 2) := by decide +kernel
theorem dX6_change_58 : decode cX6_change 58 = .ok (.iconst 3, 1) := by decide +kernel
theorem dX6_change_59 : decode cX6_change 59 = .ok (.iload_n 1, 1) := by decide +kernel
theorem dX6_change_60 : decode cX6_change 60 = .ok (.imul, 1) := by decide +kernel
theorem dX6_change_61 : decode cX6_change 61 = .ok (.iadd, 1) := by decide +kernel
theorem dX6_change_62 : decode cX6_change 62 = .ok (.iload_n 2, 1) := by decide +kernel
theorem dX6_change_63 : decode cX6_change 63 = .ok (.iadd, 1) := by decide +kernel
theorem dX6_change_64 : decode cX6_change 64 = .ok (.iload_n 3, 1) := by decide +kernel
theorem dX6_change_65 : decode cX6_change 65 = .ok (.invokevirtual 59, 3) := by decide +kernel
theorem dX6_change_68 : decode cX6_change 68 = .ok (.goto 9, 3) := by decide +kernel
theorem dX6_change_71 : decode cX6_change 71 = .ok (.aload_n 0, 1) := by decide +kernel
theorem dX6_change_72 : decode cX6_change 72 = .ok (.ldc 34, 2) := by decide +kernel
theorem dX6_change_74 : decode cX6_change 74 = .ok (.invokevirtual 36, 3) := by decide +kernel
theorem dX6_change_77 : decode cX6_change 77 = .ok (.ireturn, 1) := by decide +kernel
theorem dX6_swaps_0 : decode cX6_swaps 0 = .ok (.iconst 0, 1) := by decide +kernel
theorem dX6_swaps_1 : decode cX6_swaps 1 = .ok (.istore_n 3, 1) := by decide +kernel
theorem dX6_swaps_2 : decode cX6_swaps 2 = .ok (.iload_n 3, 1) := by decide +kernel
theorem dX6_swaps_3 : decode cX6_swaps 3 = .ok (.iconst 3, 1) := by decide +kernel
theorem dX6_swaps_4 : decode cX6_swaps 4 = .ok (.if_icmp .ge 40, 3) := by decide +kernel
theorem dX6_swaps_7 : decode cX6_swaps 7 = .ok (.aload_n 0, 1) := by decide +kernel
theorem dX6_swaps_8 : decode cX6_swaps 8 = .ok (.getfield 9, 3) := by decide +kernel
theorem dX6_swaps_11 : decode cX6_swaps 11 = .ok (.bipush 40, 2) := by decide +kernel
theorem dX6_swaps_13 : decode cX6_swaps 13 = .ok (.iconst 3, 1) := by decide +kernel
theorem dX6_swaps_14 : decode cX6_swaps 14 = .ok (.iload_n 2, 1) := by decide +kernel
theorem dX6_swaps_15 : decode cX6_swaps 15 = .ok (.imul, 1) := by decide +kernel
theorem dX6_swaps_16 : decode cX6_swaps 16 = .ok (.iadd, 1) := by decide +kernel
theorem dX6_swaps_17 : decode cX6_swaps 17 = .ok (.iload_n 3, 1) := by decide +kernel
theorem dX6_swaps_18 : decode cX6_swaps 18 = .ok (.iadd, 1) := by decide +kernel
theorem dX6_swaps_19 : decode cX6_swaps 19 = .ok (.aload_n 0, 1) := by decide +kernel
theorem dX6_swaps_20 : decode cX6_swaps 20 = .ok (.bipush 40, 2) := by decide +kernel
theorem dX6_swaps_22 : decode cX6_swaps 22 = .ok (.iconst 3, 1) := by decide +kernel
theorem dX6_swaps_23 : decode cX6_swaps 23 = .ok (.iload_n 1, 1) := by decide +kernel
theorem dX6_swaps_24 : decode cX6_swaps 24 = .ok (.imul, 1) := by decide +kernel
theorem dX6_swaps_25 : decode cX6_swaps 25 = .ok (.iadd, 1) := by decide +kernel
theorem dX6_swaps_26 : decode cX6_swaps 26 = .ok (.iload_n 3, 1) := by decide +kernel
theorem dX6_swaps_27 : decode cX6_swaps 27 = .ok (.iadd, 1) := by decide +kernel
theorem dX6_swaps_28 : decode cX6_swaps 28 = .ok (.aload_n 0, 1) := by decide +kernel
theorem dX6_swaps_29 : decode cX6_swaps 29 = .ok (.iload_n 2, 1) := by decide +kernel
theorem dX6_swaps_30 : decode cX6_swaps 30 = .ok (.iload_n 3, 1) := by decide +kernel
theorem dX6_swaps_31 : decode cX6_swaps 31 = .ok (.invokevirtual 90, 3) := by decide +kernel
theorem dX6_swaps_34 : decode cX6_swaps 34 = .ok (.invokevirtual 59, 3) := by decide +kernel
theorem dX6_swaps_37 : decode cX6_swaps 37 = .ok (.iastore, 1) := by decide +kernel
theorem dX6_swaps_38 : decode cX6_swaps 38 = .ok (.iinc 3 1, 3) := by decide +kernel
theorem dX6_swaps_41 : decode cX6_swaps 41 = .ok (.goto (-39), 3) := by decide +kernel
theorem dX6_swaps_44 : decode cX6_swaps 44 = .ok (.return_, 1) := by decide +kernel
theorem dX6_swap_0 : decode cX6_swap 0 = .ok (.aload_n 0, 1) := by decide +kernel
theorem dX6_swap_1 : decode cX6_swap 1 = .ok (.iload_n 1, 1) := by decide +kernel
theorem dX6_swap_2 : decode cX6_swap 2 = .ok (.invokevirtual 99, 3) := by decide +kernel
theorem dX6_swap_5 : decode cX6_swap 5 = .ok (.ifCond .eq 11, 3) := by decide +kernel
theorem dX6_swap_8 : decode cX6_swap 8 = .ok (.aload_n 0, 1) := by decide +kernel
theorem dX6_swap_9 : decode cX6_swap 9 = .ok (.iload_n 2, 1) := by decide +kernel
theorem dX6_swap_10 : decode cX6_swap 10 = .ok (.invokevirtual 99, 3) := by decide +kernel
theorem dX6_swap_13 : decode cX6_swap 13 = .ok (.ifCond .ne 10, 3) := by decide +kernel
theorem dX6_swap_16 : decode cX6_swap 16 = .ok (.aload_n 0, 1) := by decide +kernel
theorem dX6_swap_17 : decode cX6_swap 17 = .ok (.ldc 34, 2) := by decide +kernel
theorem dX6_swap_19 : decode cX6_swap 19 = .ok (.invokevirtual 36, 3) := by decide +kernel
theorem dX6_swap_22 : decode cX6_swap 22 = .ok (.ireturn, 1) := by decide +kernel
theorem dX6_swap_23 : decode cX6_swap 23 = .ok (.aload_n 0, 1) := by decide +kernel
theorem dX6_swap_24 : decode cX6_swap 24 = .ok (.iload_n 1, 1) := by decide +kernel
theorem dX6_swap_25 : decode cX6_swap 25 = .ok (.iload_n 2, 1) := by decide +kernel
theorem dX6_swap_26 : decode cX6_swap 26 = .ok (.invokevirtual 111, 3) := by decide +kernel
theorem dX6_swap_29 : decode cX6_swap 29 = .ok (.iconst 1, 1) := by decide +kernel
theorem dX6_swap_30 : decode cX6_swap 30 = .ok (.ireturn, 1) := by decide +kernel
theorem dX6_drop_0 : decode cX6_drop 0 = .ok (.aload_n 0, 1) := by decide +kernel
theorem dX6_drop_1 : decode cX6_drop 1 = .ok (.getfield 9, 3) := by decide +kernel
theorem dX6_drop_4 : decode cX6_drop 4 = .ok (.bipush 8, 2) := by decide +kernel
theorem dX6_drop_6 : decode cX6_drop 6 = .ok (.iaload, 1) := by decide +kernel
theorem dX6_drop_7 : decode cX6_drop 7 = .ok (.ifCond .ne 10, 3) := by decide +kernel
theorem dX6_drop_10 : decode cX6_drop 10 = .ok (.aload_n 0, 1) := by decide +kernel
theorem dX6_drop_11 : decode cX6_drop 11 = .ok (.ldc 35, 2) := by decide +kernel
theorem dX6_drop_13 : decode cX6_drop 13 = .ok (.invokevirtual 36, 3) := by decide +kernel
theorem dX6_drop_16 : decode cX6_drop 16 = .ok (.ireturn, 1) := by decide +kernel
theorem dX6_drop_17 : decode cX6_drop 17 = .ok (.aload_n 0, 1) := by decide +kernel
theorem dX6_drop_18 : decode cX6_drop 18 = .ok (.getfield 9, 3) := by decide +kernel
theorem dX6_drop_21 : decode cX6_drop 21 = .ok (.bipush 8, 2) := by decide +kernel
theorem dX6_drop_23 : decode cX6_drop 23 = .ok (.dup2, 1) := by decide +kernel
theorem dX6_drop_24 : decode cX6_drop 24 = .ok (.iaload, 1) := by decide +kernel
theorem dX6_drop_25 : decode cX6_drop 25 = .ok (.iconst 1, 1) := by decide +kernel
theorem dX6_drop_26 : decode cX6_drop 26 = .ok (.isub, 1) := by decide +kernel
theorem dX6_drop_27 : decode cX6_drop 27 = .ok (.iastore, 1) := by decide +kernel
theorem dX6_drop_28 : decode cX6_drop 28 = .ok (.iconst 0, 1) := by decide +kernel
theorem dX6_drop_29 : decode cX6_drop 29 = .ok (.istore_n 1, 1) := by decide +kernel
theorem dX6_drop_30 : decode cX6_drop 30 = .ok (.iload_n 1, 1) := by decide +kernel
theorem dX6_drop_31 : decode cX6_drop 31 = .ok (.bipush 10, 2) := by decide +kernel
theorem dX6_drop_33 : decode cX6_drop 33 = .ok (.if_icmp .ge 50, 3) := by decide +kernel
theorem dX6_drop_36 : decode cX6_drop 36 = .ok (.aload_n 0, 1) := by decide +kernel
theorem dX6_drop_37 : decode cX6_drop 37 = .ok (.getfield 9, 3) := by decide +kernel
theorem dX6_drop_40 : decode cX6_drop 40 = .ok (.bipush 70, 2) := by decide +kernel
theorem dX6_drop_42 : decode cX6_drop 42 = .ok (.iload_n 1, 1) := by decide +kernel
theorem dX6_drop_43 : decode cX6_drop 43 = .ok (.iadd, 1) := by decide +kernel
theorem dX6_drop_44 : decode cX6_drop 44 = .ok (.aload_n 0, 1) := by decide +kernel
theorem dX6_drop_45 : decode cX6_drop 45 = .ok (.getfield 9, 3) := by decide +kernel
theorem dX6_drop_48 : decode cX6_drop 48 = .ok (.bipush 70, 2) := by decide +kernel
theorem dX6_drop_50 : decode cX6_drop 50 = .ok (.iload_n 1, 1) := by decide +kernel
theorem dX6_drop_51 : decode cX6_drop 51 = .ok (.iadd, 1) := by decide +kernel
theorem dX6_drop_52 : decode cX6_drop 52 = .ok (.iaload, 1) := by decide +kernel
theorem dX6_drop_53 : decode cX6_drop 53 = .ok (.aload_n 0, 1) := by decide +kernel
theorem dX6_drop_54 : decode cX6_drop 54 = .ok (.getfield 9, 3) := by decide +kernel
theorem dX6_drop_57 : decode cX6_drop 57 = .ok (.bipush 8, 2) := by decide +kernel
theorem dX6_drop_59 : decode cX6_drop 59 = .ok (.iaload, 1) := by decide +kernel
theorem dX6_drop_60 : decode cX6_drop 60 = .ok (.if_icmp .ne 7, 3) := by decide +kernel
theorem dX6_drop_63 : decode cX6_drop 63 = .ok (.iconst (-1), 1) := by decide +kernel
theorem dX6_drop_64 : decode cX6_drop 64 = .ok (.goto 12, 3) := by decide +kernel
theorem dX6_drop_67 : decode cX6_drop 67 = .ok (.aload_n 0, 1) := by decide +kernel
theorem dX6_drop_68 : decode cX6_drop 68 = .ok (.getfield 9, 3) := by decide +kernel
theorem dX6_drop_71 : decode cX6_drop 71 = .ok (.bipush 70, 2) := by decide +kernel
theorem dX6_drop_73 : decode cX6_drop 73 = .ok (.iload_n 1, 1) := by decide +kernel
theorem dX6_drop_74 : decode cX6_drop 74 = .ok (.iadd, 1) := by decide +kernel
theorem dX6_drop_75 : decode cX6_drop 75 = .ok (.iaload, 1) := by decide +kernel
theorem dX6_drop_76 : decode cX6_drop 76 = .ok (.iastore, 1) := by decide +kernel
theorem dX6_drop_77 : decode cX6_drop 77 = .ok (.iinc 1 1, 3) := by decide +kernel
theorem dX6_drop_80 : decode cX6_drop 80 = .ok (.goto (-50), 3) := by decide +kernel
theorem dX6_drop_83 : decode cX6_drop 83 = .ok (.aload_n 0, 1) := by decide +kernel
theorem dX6_drop_84 : decode cX6_drop 84 = .ok (.getfield 9, 3) := by decide +kernel
theorem dX6_drop_87 : decode cX6_drop 87 = .ok (.bipush 8, 2) := by decide +kernel
theorem dX6_drop_89 : decode cX6_drop 89 = .ok (.iaload, 1) := by decide +kernel
theorem dX6_drop_90 : decode cX6_drop 90 = .ok (.ireturn, 1) := by decide +kernel
theorem dX6_draw_0 : decode cX6_draw 0 = .ok (.aload_n 0, 1) := by decide +kernel
theorem dX6_draw_1 : decode cX6_draw 1 = .ok (.getfield 9, 3) := by decide +kernel
theorem dX6_draw_4 : decode cX6_draw 4 = .ok (.iconst 1, 1) := by decide +kernel
theorem dX6_draw_5 : decode cX6_draw 5 = .ok (.aload_n 0, 1) := by decide +kernel
theorem dX6_draw_6 : decode cX6_draw 6 = .ok (.getfield 9, 3) := by decide +kernel
theorem dX6_draw_9 : decode cX6_draw 9 = .ok (.iconst 1, 1) := by decide +kernel
theorem dX6_draw_10 : decode cX6_draw 10 = .ok (.iaload, 1) := by decide +kernel
theorem dX6_draw_11 : decode cX6_draw 11 = .ok (.ldc 115, 2) := by decide +kernel
theorem dX6_draw_13 : decode cX6_draw 13 = .ok (.imul, 1) := by decide +kernel
theorem dX6_draw_14 : decode cX6_draw 14 = .ok (.sipush 12345, 3) := by decide +kernel
theorem dX6_draw_17 : decode cX6_draw 17 = .ok (.iadd, 1) := by decide +kernel
theorem dX6_draw_18 : decode cX6_draw 18 = .ok (.iastore, 1) := by decide +kernel
theorem dX6_draw_19 : decode cX6_draw 19 = .ok (.aload_n 0, 1) := by decide +kernel
theorem dX6_draw_20 : decode cX6_draw 20 = .ok (.getfield 9, 3) := by decide +kernel
theorem dX6_draw_23 : decode cX6_draw 23 = .ok (.iconst 1, 1) := by decide +kernel
theorem dX6_draw_24 : decode cX6_draw 24 = .ok (.iaload, 1) := by decide +kernel
theorem dX6_draw_25 : decode cX6_draw 25 = .ok (.bipush 8, 2) := by decide +kernel
theorem dX6_draw_27 : decode cX6_draw 27 = .ok (.iushr, 1) := by decide +kernel
theorem dX6_draw_28 : decode cX6_draw 28 = .ok (.ireturn, 1) := by decide +kernel
theorem dX6_likesMore_0 : decode cX6_likesMore 0 = .ok (.aload_n 0, 1) := by decide +kernel
theorem dX6_likesMore_1 : decode cX6_likesMore 1 = .ok (.getfield 9, 3) := by decide +kernel
theorem dX6_likesMore_4 : decode cX6_likesMore 4 = .ok (.bipush 10, 2) := by decide +kernel
theorem dX6_likesMore_6 : decode cX6_likesMore 6 = .ok (.iconst 3, 1) := by decide +kernel
theorem dX6_likesMore_7 : decode cX6_likesMore 7 = .ok (.iload_n 1, 1) := by decide +kernel
theorem dX6_likesMore_8 : decode cX6_likesMore 8 = .ok (.imul, 1) := by decide +kernel
theorem dX6_likesMore_9 : decode cX6_likesMore 9 = .ok (.iadd, 1) := by decide +kernel
theorem dX6_likesMore_10 : decode cX6_likesMore 10 = .ok (.aload_n 0, 1) := by decide +kernel
theorem dX6_likesMore_11 : decode cX6_likesMore 11 = .ok (.iload_n 1, 1) := by decide +kernel
theorem dX6_likesMore_12 : decode cX6_likesMore 12 = .ok (.invokevirtual 50, 3) := by decide +kernel
theorem dX6_likesMore_15 : decode cX6_likesMore 15 = .ok (.iload_n 2, 1) := by decide +kernel
theorem dX6_likesMore_16 : decode cX6_likesMore 16 = .ok (.iadd, 1) := by decide +kernel
theorem dX6_likesMore_17 : decode cX6_likesMore 17 = .ok (.bipush 99, 2) := by decide +kernel
theorem dX6_likesMore_19 : decode cX6_likesMore 19 = .ok (.invokestatic 96, 3) := by decide +kernel
theorem dX6_likesMore_22 : decode cX6_likesMore 22 = .ok (.iastore, 1) := by decide +kernel
theorem dX6_likesMore_23 : decode cX6_likesMore 23 = .ok (.return_, 1) := by decide +kernel
theorem dX6_serves_0 : decode cX6_serves 0 = .ok (.aload_n 0, 1) := by decide +kernel
theorem dX6_serves_1 : decode cX6_serves 1 = .ok (.iload_n 1, 1) := by decide +kernel
theorem dX6_serves_2 : decode cX6_serves 2 = .ok (.iconst 1, 1) := by decide +kernel
theorem dX6_serves_3 : decode cX6_serves 3 = .ok (.invokevirtual 90, 3) := by decide +kernel
theorem dX6_serves_6 : decode cX6_serves 6 = .ok (.istore_n 2, 1) := by decide +kernel
theorem dX6_serves_7 : decode cX6_serves 7 = .ok (.aload_n 0, 1) := by decide +kernel
theorem dX6_serves_8 : decode cX6_serves 8 = .ok (.iload_n 1, 1) := by decide +kernel
theorem dX6_serves_9 : decode cX6_serves 9 = .ok (.iconst 0, 1) := by decide +kernel
theorem dX6_serves_10 : decode cX6_serves 10 = .ok (.invokevirtual 90, 3) := by decide +kernel
theorem dX6_serves_13 : decode cX6_serves 13 = .ok (.bipush 6, 2) := by decide +kernel
theorem dX6_serves_15 : decode cX6_serves 15 = .ok (.if_icmp .ne 32, 3) := by decide +kernel
theorem dX6_serves_18 : decode cX6_serves 18 = .ok (.aload_n 0, 1) := by decide +kernel
theorem dX6_serves_19 : decode cX6_serves 19 = .ok (.invokevirtual 116, 3) := by decide +kernel
theorem dX6_serves_22 : decode cX6_serves 22 = .ok (.bipush 10, 2) := by decide +kernel
theorem dX6_serves_24 : decode cX6_serves 24 = .ok (.irem, 1) := by decide +kernel
theorem dX6_serves_25 : decode cX6_serves 25 = .ok (.aload_n 0, 1) := by decide +kernel
theorem dX6_serves_26 : decode cX6_serves 26 = .ok (.getfield 9, 3) := by decide +kernel
theorem dX6_serves_29 : decode cX6_serves 29 = .ok (.bipush 10, 2) := by decide +kernel
theorem dX6_serves_31 : decode cX6_serves 31 = .ok (.iconst 3, 1) := by decide +kernel
theorem dX6_serves_32 : decode cX6_serves 32 = .ok (.iload_n 2, 1) := by decide +kernel
theorem dX6_serves_33 : decode cX6_serves 33 = .ok (.imul, 1) := by decide +kernel
theorem dX6_serves_34 : decode cX6_serves 34 = .ok (.iadd, 1) := by decide +kernel
theorem dX6_serves_35 : decode cX6_serves 35 = .ok (.iconst 1, 1) := by decide +kernel
theorem dX6_serves_36 : decode cX6_serves 36 = .ok (.iadd, 1) := by decide +kernel
theorem dX6_serves_37 : decode cX6_serves 37 = .ok (.iaload, 1) := by decide +kernel
theorem dX6_serves_38 : decode cX6_serves 38 = .ok (.iconst 1, 1) := by decide +kernel
theorem dX6_serves_39 : decode cX6_serves 39 = .ok (.iadd, 1) := by decide +kernel
theorem dX6_serves_40 : decode cX6_serves 40 = .ok (.if_icmp .ge 7, 3) := by decide +kernel
theorem dX6_serves_43 : decode cX6_serves 43 = .ok (.iconst 1, 1) := by decide +kernel
theorem dX6_serves_44 : decode cX6_serves 44 = .ok (.goto 4, 3) := by decide +kernel
theorem dX6_serves_47 : decode cX6_serves 47 = .ok (.iconst 0, 1) := by decide +kernel
theorem dX6_serves_48 : decode cX6_serves 48 = .ok (.istore_n 3, 1) := by decide +kernel
theorem dX6_serves_49 : decode cX6_serves 49 = .ok (.aload_n 0, 1) := by decide +kernel
theorem dX6_serves_50 : decode cX6_serves 50 = .ok (.iload_n 1, 1) := by decide +kernel
theorem dX6_serves_51 : decode cX6_serves 51 = .ok (.iload_n 3, 1) := by decide +kernel
theorem dX6_serves_52 : decode cX6_serves 52 = .ok (.invokevirtual 104, 3) := by decide +kernel
theorem dX6_serves_55 : decode cX6_serves 55 = .ok (.istore 4, 2) := by decide +kernel
theorem dX6_serves_57 : decode cX6_serves 57 = .ok (.aload_n 0, 1) := by decide +kernel
theorem dX6_serves_58 : decode cX6_serves 58 = .ok (.iload_n 2, 1) := by decide +kernel
theorem dX6_serves_59 : decode cX6_serves 59 = .ok (.aload_n 0, 1) := by decide +kernel
theorem dX6_serves_60 : decode cX6_serves 60 = .ok (.iload_n 1, 1) := by decide +kernel
theorem dX6_serves_61 : decode cX6_serves 61 = .ok (.iload_n 3, 1) := by decide +kernel
theorem dX6_serves_62 : decode cX6_serves 62 = .ok (.invokevirtual 108, 3) := by decide +kernel
theorem dX6_serves_65 : decode cX6_serves 65 = .ok (.invokevirtual 120, 3) := by decide +kernel
theorem dX6_serves_68 : decode cX6_serves 68 = .ok (.aload_n 0, 1) := by decide +kernel
theorem dX6_serves_69 : decode cX6_serves 69 = .ok (.iload_n 1, 1) := by decide +kernel
theorem dX6_serves_70 : decode cX6_serves 70 = .ok (.iconst 0, 1) := by decide +kernel
theorem dX6_serves_71 : decode cX6_serves 71 = .ok (.invokevirtual 90, 3) := by decide +kernel
theorem dX6_serves_74 : decode cX6_serves 74 = .ok (.iconst 3, 1) := by decide +kernel
theorem dX6_serves_75 : decode cX6_serves 75 = .ok (.if_icmp .ne 25, 3) := by decide +kernel
theorem dX6_serves_78 : decode cX6_serves 78 = .ok (.aload_n 0, 1) := by decide +kernel
theorem dX6_serves_79 : decode cX6_serves 79 = .ok (.getfield 9, 3) := by decide +kernel
theorem dX6_serves_82 : decode cX6_serves 82 = .ok (.bipush 6, 2) := by decide +kernel
theorem dX6_serves_84 : decode cX6_serves 84 = .ok (.iaload, 1) := by decide +kernel
theorem dX6_serves_85 : decode cX6_serves 85 = .ok (.ifCond .lt 15, 3) := by decide +kernel
theorem dX6_serves_88 : decode cX6_serves 88 = .ok (.aload_n 0, 1) := by decide +kernel
theorem dX6_serves_89 : decode cX6_serves 89 = .ok (.aload_n 0, 1) := by decide +kernel
theorem dX6_serves_90 : decode cX6_serves 90 = .ok (.getfield 9, 3) := by decide +kernel
theorem dX6_serves_93 : decode cX6_serves 93 = .ok (.bipush 6, 2) := by decide +kernel
theorem dX6_serves_95 : decode cX6_serves 95 = .ok (.iaload, 1) := by decide +kernel
theorem dX6_serves_96 : decode cX6_serves 96 = .ok (.iconst 5, 1) := by decide +kernel
theorem dX6_serves_97 : decode cX6_serves 97 = .ok (.invokevirtual 120, 3) := by decide +kernel
theorem dX6_serves_100 : decode cX6_serves 100 = .ok (.aload_n 0, 1) := by decide +kernel
theorem dX6_serves_101 : decode cX6_serves 101 = .ok (.getfield 9, 3) := by decide +kernel
theorem dX6_serves_104 : decode cX6_serves 104 = .ok (.bipush 10, 2) := by decide +kernel
theorem dX6_serves_106 : decode cX6_serves 106 = .ok (.iconst 3, 1) := by decide +kernel
theorem dX6_serves_107 : decode cX6_serves 107 = .ok (.iload_n 2, 1) := by decide +kernel
theorem dX6_serves_108 : decode cX6_serves 108 = .ok (.imul, 1) := by decide +kernel
theorem dX6_serves_109 : decode cX6_serves 109 = .ok (.iadd, 1) := by decide +kernel
theorem dX6_serves_110 : decode cX6_serves 110 = .ok (.iconst 2, 1) := by decide +kernel
theorem dX6_serves_111 : decode cX6_serves 111 = .ok (.iadd, 1) := by decide +kernel
theorem dX6_serves_112 : decode cX6_serves 112 = .ok (.aload_n 0, 1) := by decide +kernel
theorem dX6_serves_113 : decode cX6_serves 113 = .ok (.getfield 9, 3) := by decide +kernel
theorem dX6_serves_116 : decode cX6_serves 116 = .ok (.bipush 10, 2) := by decide +kernel
theorem dX6_serves_118 : decode cX6_serves 118 = .ok (.iconst 3, 1) := by decide +kernel
theorem dX6_serves_119 : decode cX6_serves 119 = .ok (.iload_n 2, 1) := by decide +kernel
theorem dX6_serves_120 : decode cX6_serves 120 = .ok (.imul, 1) := by decide +kernel
theorem dX6_serves_121 : decode cX6_serves 121 = .ok (.iadd, 1) := by decide +kernel
theorem dX6_serves_122 : decode cX6_serves 122 = .ok (.iconst 2, 1) := by decide +kernel
theorem dX6_serves_123 : decode cX6_serves 123 = .ok (.iadd, 1) := by decide +kernel
theorem dX6_serves_124 : decode cX6_serves 124 = .ok (.iaload, 1) := by decide +kernel
theorem dX6_serves_125 : decode cX6_serves 125 = .ok (.iconst 1, 1) := by decide +kernel
theorem dX6_serves_126 : decode cX6_serves 126 = .ok (.iadd, 1) := by decide +kernel
theorem dX6_serves_127 : decode cX6_serves 127 = .ok (.sipush 999, 3) := by decide +kernel
theorem dX6_serves_130 : decode cX6_serves 130 = .ok (.invokestatic 96, 3) := by decide +kernel
theorem dX6_serves_133 : decode cX6_serves 133 = .ok (.iastore, 1) := by decide +kernel
theorem dX6_serves_134 : decode cX6_serves 134 = .ok (.iload 4, 2) := by decide +kernel
theorem dX6_serves_136 : decode cX6_serves 136 = .ok (.ireturn, 1) := by decide +kernel
theorem dX6_meal_0 : decode cX6_meal 0 = .ok (.iload_n 1, 1) := by decide +kernel
theorem dX6_meal_1 : decode cX6_meal 1 = .ok (.ifCond .ge 7, 3) := by decide +kernel
theorem dX6_meal_4 : decode cX6_meal 4 = .ok (.iconst 0, 1) := by decide +kernel
theorem dX6_meal_5 : decode cX6_meal 5 = .ok (.goto 8, 3) := by decide +kernel
theorem dX6_meal_8 : decode cX6_meal 8 = .ok (.aload_n 0, 1) := by decide +kernel
theorem dX6_meal_9 : decode cX6_meal 9 = .ok (.iload_n 1, 1) := by decide +kernel
theorem dX6_meal_10 : decode cX6_meal 10 = .ok (.invokevirtual 123, 3) := by decide +kernel
theorem dX6_meal_13 : decode cX6_meal 13 = .ok (.istore_n 2, 1) := by decide +kernel
theorem dX6_meal_14 : decode cX6_meal 14 = .ok (.aload_n 0, 1) := by decide +kernel
theorem dX6_meal_15 : decode cX6_meal 15 = .ok (.getfield 9, 3) := by decide +kernel
theorem dX6_meal_18 : decode cX6_meal 18 = .ok (.iconst 3, 1) := by decide +kernel
theorem dX6_meal_19 : decode cX6_meal 19 = .ok (.aload_n 0, 1) := by decide +kernel
theorem dX6_meal_20 : decode cX6_meal 20 = .ok (.getfield 9, 3) := by decide +kernel
theorem dX6_meal_23 : decode cX6_meal 23 = .ok (.iconst 3, 1) := by decide +kernel
theorem dX6_meal_24 : decode cX6_meal 24 = .ok (.iaload, 1) := by decide +kernel
theorem dX6_meal_25 : decode cX6_meal 25 = .ok (.iconst 3, 1) := by decide +kernel
theorem dX6_meal_26 : decode cX6_meal 26 = .ok (.iload_n 2, 1) := by decide +kernel
theorem dX6_meal_27 : decode cX6_meal 27 = .ok (.imul, 1) := by decide +kernel
theorem dX6_meal_28 : decode cX6_meal 28 = .ok (.isub, 1) := by decide +kernel
theorem dX6_meal_29 : decode cX6_meal 29 = .ok (.bipush 99, 2) := by decide +kernel
theorem dX6_meal_31 : decode cX6_meal 31 = .ok (.invokestatic 96, 3) := by decide +kernel
theorem dX6_meal_34 : decode cX6_meal 34 = .ok (.bipush 12, 2) := by decide +kernel
theorem dX6_meal_36 : decode cX6_meal 36 = .ok (.iadd, 1) := by decide +kernel
theorem dX6_meal_37 : decode cX6_meal 37 = .ok (.bipush 99, 2) := by decide +kernel
theorem dX6_meal_39 : decode cX6_meal 39 = .ok (.invokestatic 96, 3) := by decide +kernel
theorem dX6_meal_42 : decode cX6_meal 42 = .ok (.iastore, 1) := by decide +kernel
theorem dX6_meal_43 : decode cX6_meal 43 = .ok (.aload_n 0, 1) := by decide +kernel
theorem dX6_meal_44 : decode cX6_meal 44 = .ok (.getfield 9, 3) := by decide +kernel
theorem dX6_meal_47 : decode cX6_meal 47 = .ok (.iconst 4, 1) := by decide +kernel
theorem dX6_meal_48 : decode cX6_meal 48 = .ok (.aload_n 0, 1) := by decide +kernel
theorem dX6_meal_49 : decode cX6_meal 49 = .ok (.getfield 9, 3) := by decide +kernel
theorem dX6_meal_52 : decode cX6_meal 52 = .ok (.iconst 4, 1) := by decide +kernel
theorem dX6_meal_53 : decode cX6_meal 53 = .ok (.iaload, 1) := by decide +kernel
theorem dX6_meal_54 : decode cX6_meal 54 = .ok (.iload_n 2, 1) := by decide +kernel
theorem dX6_meal_55 : decode cX6_meal 55 = .ok (.iadd, 1) := by decide +kernel
theorem dX6_meal_56 : decode cX6_meal 56 = .ok (.iconst 4, 1) := by decide +kernel
theorem dX6_meal_57 : decode cX6_meal 57 = .ok (.isub, 1) := by decide +kernel
theorem dX6_meal_58 : decode cX6_meal 58 = .ok (.sipush 9999, 3) := by decide +kernel
theorem dX6_meal_61 : decode cX6_meal 61 = .ok (.invokestatic 96, 3) := by decide +kernel
theorem dX6_meal_64 : decode cX6_meal 64 = .ok (.iastore, 1) := by decide +kernel
theorem dX6_meal_65 : decode cX6_meal 65 = .ok (.bipush 34, 2) := by decide +kernel
theorem dX6_meal_67 : decode cX6_meal 67 = .ok (.istore_n 3, 1) := by decide +kernel
theorem dX6_meal_68 : decode cX6_meal 68 = .ok (.iload_n 3, 1) := by decide +kernel
theorem dX6_meal_69 : decode cX6_meal 69 = .ok (.ifCond .le 29, 3) := by decide +kernel
theorem dX6_meal_72 : decode cX6_meal 72 = .ok (.aload_n 0, 1) := by decide +kernel
theorem dX6_meal_73 : decode cX6_meal 73 = .ok (.getfield 9, 3) := by decide +kernel
theorem dX6_meal_76 : decode cX6_meal 76 = .ok (.bipush 80, 2) := by decide +kernel
theorem dX6_meal_78 : decode cX6_meal 78 = .ok (.iload_n 3, 1) := by decide +kernel
theorem dX6_meal_79 : decode cX6_meal 79 = .ok (.iadd, 1) := by decide +kernel
theorem dX6_meal_80 : decode cX6_meal 80 = .ok (.aload_n 0, 1) := by decide +kernel
theorem dX6_meal_81 : decode cX6_meal 81 = .ok (.getfield 9, 3) := by decide +kernel
theorem dX6_meal_84 : decode cX6_meal 84 = .ok (.bipush 80, 2) := by decide +kernel
theorem dX6_meal_86 : decode cX6_meal 86 = .ok (.iload_n 3, 1) := by decide +kernel
theorem dX6_meal_87 : decode cX6_meal 87 = .ok (.iadd, 1) := by decide +kernel
theorem dX6_meal_88 : decode cX6_meal 88 = .ok (.iconst 1, 1) := by decide +kernel
theorem dX6_meal_89 : decode cX6_meal 89 = .ok (.isub, 1) := by decide +kernel
theorem dX6_meal_90 : decode cX6_meal 90 = .ok (.iaload, 1) := by decide +kernel
theorem dX6_meal_91 : decode cX6_meal 91 = .ok (.iastore, 1) := by decide +kernel
theorem dX6_meal_92 : decode cX6_meal 92 = .ok (.iinc 3 (-1), 3) := by decide +kernel
theorem dX6_meal_95 : decode cX6_meal 95 = .ok (.goto (-27), 3) := by decide +kernel
theorem dX6_meal_98 : decode cX6_meal 98 = .ok (.aload_n 0, 1) := by decide +kernel
theorem dX6_meal_99 : decode cX6_meal 99 = .ok (.getfield 9, 3) := by decide +kernel
theorem dX6_meal_102 : decode cX6_meal 102 = .ok (.bipush 80, 2) := by decide +kernel
theorem dX6_meal_104 : decode cX6_meal 104 = .ok (.iload_n 2, 1) := by decide +kernel
theorem dX6_meal_105 : decode cX6_meal 105 = .ok (.iastore, 1) := by decide +kernel
theorem dX6_meal_106 : decode cX6_meal 106 = .ok (.aload_n 0, 1) := by decide +kernel
theorem dX6_meal_107 : decode cX6_meal 107 = .ok (.getfield 9, 3) := by decide +kernel
theorem dX6_meal_110 : decode cX6_meal 110 = .ok (.bipush 9, 2) := by decide +kernel
theorem dX6_meal_112 : decode cX6_meal 112 = .ok (.aload_n 0, 1) := by decide +kernel
theorem dX6_meal_113 : decode cX6_meal 113 = .ok (.getfield 9, 3) := by decide +kernel
theorem dX6_meal_116 : decode cX6_meal 116 = .ok (.bipush 9, 2) := by decide +kernel
theorem dX6_meal_118 : decode cX6_meal 118 = .ok (.iaload, 1) := by decide +kernel
theorem dX6_meal_119 : decode cX6_meal 119 = .ok (.iconst 1, 1) := by decide +kernel
theorem dX6_meal_120 : decode cX6_meal 120 = .ok (.iadd, 1) := by decide +kernel
theorem dX6_meal_121 : decode cX6_meal 121 = .ok (.bipush 35, 2) := by decide +kernel
theorem dX6_meal_123 : decode cX6_meal 123 = .ok (.invokestatic 96, 3) := by decide +kernel
theorem dX6_meal_126 : decode cX6_meal 126 = .ok (.iastore, 1) := by decide +kernel
theorem dX6_meal_127 : decode cX6_meal 127 = .ok (.aload_n 0, 1) := by decide +kernel
theorem dX6_meal_128 : decode cX6_meal 128 = .ok (.getfield 9, 3) := by decide +kernel
theorem dX6_meal_131 : decode cX6_meal 131 = .ok (.iconst 0, 1) := by decide +kernel
theorem dX6_meal_132 : decode cX6_meal 132 = .ok (.dup2, 1) := by decide +kernel
theorem dX6_meal_133 : decode cX6_meal 133 = .ok (.iaload, 1) := by decide +kernel
theorem dX6_meal_134 : decode cX6_meal 134 = .ok (.iconst 1, 1) := by decide +kernel
theorem dX6_meal_135 : decode cX6_meal 135 = .ok (.iadd, 1) := by decide +kernel
theorem dX6_meal_136 : decode cX6_meal 136 = .ok (.iastore, 1) := by decide +kernel
theorem dX6_meal_137 : decode cX6_meal 137 = .ok (.iload_n 2, 1) := by decide +kernel
theorem dX6_meal_138 : decode cX6_meal 138 = .ok (.ireturn, 1) := by decide +kernel
theorem dX6_served_0 : decode cX6_served 0 = .ok (.aload_n 0, 1) := by decide +kernel
theorem dX6_served_1 : decode cX6_served 1 = .ok (.getfield 9, 3) := by decide +kernel
theorem dX6_served_4 : decode cX6_served 4 = .ok (.bipush 8, 2) := by decide +kernel
theorem dX6_served_6 : decode cX6_served 6 = .ok (.iaload, 1) := by decide +kernel
theorem dX6_served_7 : decode cX6_served 7 = .ok (.ifCond .ne 7, 3) := by decide +kernel
theorem dX6_served_10 : decode cX6_served 10 = .ok (.iconst (-1), 1) := by decide +kernel
theorem dX6_served_11 : decode cX6_served 11 = .ok (.goto 17, 3) := by decide +kernel
theorem dX6_served_14 : decode cX6_served 14 = .ok (.aload_n 0, 1) := by decide +kernel
theorem dX6_served_15 : decode cX6_served 15 = .ok (.getfield 9, 3) := by decide +kernel
theorem dX6_served_18 : decode cX6_served 18 = .ok (.iconst 0, 1) := by decide +kernel
theorem dX6_served_19 : decode cX6_served 19 = .ok (.iaload, 1) := by decide +kernel
theorem dX6_served_20 : decode cX6_served 20 = .ok (.aload_n 0, 1) := by decide +kernel
theorem dX6_served_21 : decode cX6_served 21 = .ok (.getfield 9, 3) := by decide +kernel
theorem dX6_served_24 : decode cX6_served 24 = .ok (.bipush 8, 2) := by decide +kernel
theorem dX6_served_26 : decode cX6_served 26 = .ok (.iaload, 1) := by decide +kernel
theorem dX6_served_27 : decode cX6_served 27 = .ok (.irem, 1) := by decide +kernel
theorem dX6_served_28 : decode cX6_served 28 = .ok (.ireturn, 1) := by decide +kernel
theorem dX6_mealsOf_0 : decode cX6_mealsOf 0 = .ok (.iconst 0, 1) := by decide +kernel
theorem dX6_mealsOf_1 : decode cX6_mealsOf 1 = .ok (.istore_n 2, 1) := by decide +kernel
theorem dX6_mealsOf_2 : decode cX6_mealsOf 2 = .ok (.iconst 0, 1) := by decide +kernel
theorem dX6_mealsOf_3 : decode cX6_mealsOf 3 = .ok (.istore_n 3, 1) := by decide +kernel
theorem dX6_mealsOf_4 : decode cX6_mealsOf 4 = .ok (.iload_n 3, 1) := by decide +kernel
theorem dX6_mealsOf_5 : decode cX6_mealsOf 5 = .ok (.iload_n 1, 1) := by decide +kernel
theorem dX6_mealsOf_6 : decode cX6_mealsOf 6 = .ok (.if_icmp .ge 20, 3) := by decide +kernel
theorem dX6_mealsOf_9 : decode cX6_mealsOf 9 = .ok (.iload_n 2, 1) := by decide +kernel
theorem dX6_mealsOf_10 : decode cX6_mealsOf 10 = .ok (.aload_n 0, 1) := by decide +kernel
theorem dX6_mealsOf_11 : decode cX6_mealsOf 11 = .ok (.aload_n 0, 1) := by decide +kernel
theorem dX6_mealsOf_12 : decode cX6_mealsOf 12 = .ok (.invokevirtual 126, 3) := by decide +kernel
theorem dX6_mealsOf_15 : decode cX6_mealsOf 15 = .ok (.invokevirtual 129, 3) := by decide +kernel
theorem dX6_mealsOf_18 : decode cX6_mealsOf 18 = .ok (.iadd, 1) := by decide +kernel
theorem dX6_mealsOf_19 : decode cX6_mealsOf 19 = .ok (.istore_n 2, 1) := by decide +kernel
theorem dX6_mealsOf_20 : decode cX6_mealsOf 20 = .ok (.iinc 3 1, 3) := by decide +kernel
theorem dX6_mealsOf_23 : decode cX6_mealsOf 23 = .ok (.goto (-19), 3) := by decide +kernel
theorem dX6_mealsOf_26 : decode cX6_mealsOf 26 = .ok (.iload_n 2, 1) := by decide +kernel
theorem dX6_mealsOf_27 : decode cX6_mealsOf 27 = .ok (.ireturn, 1) := by decide +kernel
theorem dX6_meals_0 : decode cX6_meals 0 = .ok (.iload_n 1, 1) := by decide +kernel
theorem dX6_meals_1 : decode cX6_meals 1 = .ok (.i2l, 1) := by decide +kernel
theorem dX6_meals_2 : decode cX6_meals 2 = .ok (.lconst 1, 1) := by decide +kernel
theorem dX6_meals_3 : decode cX6_meals 3 = .ok (.ldc2_w 132, 3) := by decide +kernel
theorem dX6_meals_6 : decode cX6_meals 6 = .ok (.invokestatic 42, 3) := by decide +kernel
theorem dX6_meals_9 : decode cX6_meals 9 = .ok (.ifCond .ne 10, 3) := by decide +kernel
theorem dX6_meals_12 : decode cX6_meals 12 = .ok (.aload_n 0, 1) := by decide +kernel
theorem dX6_meals_13 : decode cX6_meals 13 = .ok (.ldc 34, 2) := by decide +kernel
theorem dX6_meals_15 : decode cX6_meals 15 = .ok (.invokevirtual 36, 3) := by decide +kernel
theorem dX6_meals_18 : decode cX6_meals 18 = .ok (.ireturn, 1) := by decide +kernel
theorem dX6_meals_19 : decode cX6_meals 19 = .ok (.aload_n 0, 1) := by decide +kernel
theorem dX6_meals_20 : decode cX6_meals 20 = .ok (.getfield 9, 3) := by decide +kernel
theorem dX6_meals_23 : decode cX6_meals 23 = .ok (.iconst 0, 1) := by decide +kernel
theorem dX6_meals_24 : decode cX6_meals 24 = .ok (.iaload, 1) := by decide +kernel
theorem dX6_meals_25 : decode cX6_meals 25 = .ok (.iload_n 1, 1) := by decide +kernel
theorem dX6_meals_26 : decode cX6_meals 26 = .ok (.iadd, 1) := by decide +kernel
theorem dX6_meals_27 : decode cX6_meals 27 = .ok (.ldc 134, 2) := by decide +kernel
theorem dX6_meals_29 : decode cX6_meals 29 = .ok (.if_icmp .le 12, 3) := by decide +kernel
theorem dX6_meals_32 : decode cX6_meals 32 = .ok (.aload_n 0, 1) := by decide +kernel
theorem dX6_meals_33 : decode cX6_meals 33 = .ok (.ldc 135, 2) := by decide +kernel
theorem dX6_meals_35 : decode cX6_meals 35 = .ok (.invokevirtual 36, 3) := by decide +kernel
theorem dX6_meals_38 : decode cX6_meals 38 = .ok (.goto 8, 3) := by decide +kernel
theorem dX6_meals_41 : decode cX6_meals 41 = .ok (.aload_n 0, 1) := by decide +kernel
theorem dX6_meals_42 : decode cX6_meals 42 = .ok (.iload_n 1, 1) := by decide +kernel
theorem dX6_meals_43 : decode cX6_meals 43 = .ok (.invokevirtual 136, 3) := by decide +kernel
theorem dX6_meals_46 : decode cX6_meals 46 = .ok (.ireturn, 1) := by decide +kernel
theorem dX6_week_0 : decode cX6_week 0 = .ok (.iconst 0, 1) := by decide +kernel
theorem dX6_week_1 : decode cX6_week 1 = .ok (.istore_n 1, 1) := by decide +kernel
theorem dX6_week_2 : decode cX6_week 2 = .ok (.iconst 0, 1) := by decide +kernel
theorem dX6_week_3 : decode cX6_week 3 = .ok (.istore_n 2, 1) := by decide +kernel
theorem dX6_week_4 : decode cX6_week 4 = .ok (.iload_n 2, 1) := by decide +kernel
theorem dX6_week_5 : decode cX6_week 5 = .ok (.aload_n 0, 1) := by decide +kernel
theorem dX6_week_6 : decode cX6_week 6 = .ok (.getfield 9, 3) := by decide +kernel
theorem dX6_week_9 : decode cX6_week 9 = .ok (.bipush 9, 2) := by decide +kernel
theorem dX6_week_11 : decode cX6_week 11 = .ok (.iaload, 1) := by decide +kernel
theorem dX6_week_12 : decode cX6_week 12 = .ok (.if_icmp .ge 21, 3) := by decide +kernel
theorem dX6_week_15 : decode cX6_week 15 = .ok (.iload_n 1, 1) := by decide +kernel
theorem dX6_week_16 : decode cX6_week 16 = .ok (.aload_n 0, 1) := by decide +kernel
theorem dX6_week_17 : decode cX6_week 17 = .ok (.getfield 9, 3) := by decide +kernel
theorem dX6_week_20 : decode cX6_week 20 = .ok (.bipush 80, 2) := by decide +kernel
theorem dX6_week_22 : decode cX6_week 22 = .ok (.iload_n 2, 1) := by decide +kernel
theorem dX6_week_23 : decode cX6_week 23 = .ok (.iadd, 1) := by decide +kernel
theorem dX6_week_24 : decode cX6_week 24 = .ok (.iaload, 1) := by decide +kernel
theorem dX6_week_25 : decode cX6_week 25 = .ok (.iadd, 1) := by decide +kernel
theorem dX6_week_26 : decode cX6_week 26 = .ok (.istore_n 1, 1) := by decide +kernel
theorem dX6_week_27 : decode cX6_week 27 = .ok (.iinc 2 1, 3) := by decide +kernel
theorem dX6_week_30 : decode cX6_week 30 = .ok (.goto (-26), 3) := by decide +kernel
theorem dX6_week_33 : decode cX6_week 33 = .ok (.iload_n 1, 1) := by decide +kernel
theorem dX6_week_34 : decode cX6_week 34 = .ok (.ireturn, 1) := by decide +kernel
theorem dX6_isShort_0 : decode cX6_isShort 0 = .ok (.aload_n 0, 1) := by decide +kernel
theorem dX6_isShort_1 : decode cX6_isShort 1 = .ok (.getfield 9, 3) := by decide +kernel
theorem dX6_isShort_4 : decode cX6_isShort 4 = .ok (.bipush 9, 2) := by decide +kernel
theorem dX6_isShort_6 : decode cX6_isShort 6 = .ok (.iaload, 1) := by decide +kernel
theorem dX6_isShort_7 : decode cX6_isShort 7 = .ok (.bipush 35, 2) := by decide +kernel
theorem dX6_isShort_9 : decode cX6_isShort 9 = .ok (.if_icmp .ne 16, 3) := by decide +kernel
theorem dX6_isShort_12 : decode cX6_isShort 12 = .ok (.aload_n 0, 1) := by decide +kernel
theorem dX6_isShort_13 : decode cX6_isShort 13 = .ok (.invokevirtual 139, 3) := by decide +kernel
theorem dX6_isShort_16 : decode cX6_isShort 16 = .ok (.bipush 100, 2) := by decide +kernel
theorem dX6_isShort_18 : decode cX6_isShort 18 = .ok (.if_icmp .ge 7, 3) := by decide +kernel
theorem dX6_isShort_21 : decode cX6_isShort 21 = .ok (.iconst 1, 1) := by decide +kernel
theorem dX6_isShort_22 : decode cX6_isShort 22 = .ok (.goto 4, 3) := by decide +kernel
theorem dX6_isShort_25 : decode cX6_isShort 25 = .ok (.iconst 0, 1) := by decide +kernel
theorem dX6_isShort_26 : decode cX6_isShort 26 = .ok (.ireturn, 1) := by decide +kernel
theorem dX6_now_0 : decode cX6_now 0 = .ok (.iload_n 1, 1) := by decide +kernel
theorem dX6_now_1 : decode cX6_now 1 = .ok (.i2l, 1) := by decide +kernel
theorem dX6_now_2 : decode cX6_now 2 = .ok (.lconst 0, 1) := by decide +kernel
theorem dX6_now_3 : decode cX6_now 3 = .ok (.ldc2_w 142, 3) := by decide +kernel
theorem dX6_now_6 : decode cX6_now 6 = .ok (.invokestatic 42, 3) := by decide +kernel
theorem dX6_now_9 : decode cX6_now 9 = .ok (.ifCond .ne 10, 3) := by decide +kernel
theorem dX6_now_12 : decode cX6_now 12 = .ok (.aload_n 0, 1) := by decide +kernel
theorem dX6_now_13 : decode cX6_now 13 = .ok (.ldc 34, 2) := by decide +kernel
theorem dX6_now_15 : decode cX6_now 15 = .ok (.invokevirtual 36, 3) := by decide +kernel
theorem dX6_now_18 : decode cX6_now 18 = .ok (.ireturn, 1) := by decide +kernel
theorem dX6_now_19 : decode cX6_now 19 = .ok (.iload_n 1, 1) := by decide +kernel
theorem dX6_now_20 : decode cX6_now 20 = .ok (.tableswitch 102 0 10 #[60, 67, 102, 102, 102, 102, 102, 102, 76, 81, 89], 60) := by decide +kernel
theorem dX6_now_80 : decode cX6_now 80 = .ok (.aload_n 0, 1) := by decide +kernel
theorem dX6_now_81 : decode cX6_now 81 = .ok (.getfield 9, 3) := by decide +kernel
theorem dX6_now_84 : decode cX6_now 84 = .ok (.iconst 0, 1) := by decide +kernel
theorem dX6_now_85 : decode cX6_now 85 = .ok (.iaload, 1) := by decide +kernel
theorem dX6_now_86 : decode cX6_now 86 = .ok (.ireturn, 1) := by decide +kernel
theorem dX6_now_87 : decode cX6_now 87 = .ok (.aload_n 0, 1) := by decide +kernel
theorem dX6_now_88 : decode cX6_now 88 = .ok (.getfield 9, 3) := by decide +kernel
theorem dX6_now_91 : decode cX6_now 91 = .ok (.iconst 0, 1) := by decide +kernel
theorem dX6_now_92 : decode cX6_now 92 = .ok (.iaload, 1) := by decide +kernel
theorem dX6_now_93 : decode cX6_now 93 = .ok (.iconst 5, 1) := by decide +kernel
theorem dX6_now_94 : decode cX6_now 94 = .ok (.idiv, 1) := by decide +kernel
theorem dX6_now_95 : decode cX6_now 95 = .ok (.ireturn, 1) := by decide +kernel
theorem dX6_now_96 : decode cX6_now 96 = .ok (.aload_n 0, 1) := by decide +kernel
theorem dX6_now_97 : decode cX6_now 97 = .ok (.invokevirtual 139, 3) := by decide +kernel
theorem dX6_now_100 : decode cX6_now 100 = .ok (.ireturn, 1) := by decide +kernel
theorem dX6_now_101 : decode cX6_now 101 = .ok (.aload_n 0, 1) := by decide +kernel
theorem dX6_now_102 : decode cX6_now 102 = .ok (.getfield 9, 3) := by decide +kernel
theorem dX6_now_105 : decode cX6_now 105 = .ok (.bipush 9, 2) := by decide +kernel
theorem dX6_now_107 : decode cX6_now 107 = .ok (.iaload, 1) := by decide +kernel
theorem dX6_now_108 : decode cX6_now 108 = .ok (.ireturn, 1) := by decide +kernel
theorem dX6_now_109 : decode cX6_now 109 = .ok (.aload_n 0, 1) := by decide +kernel
theorem dX6_now_110 : decode cX6_now 110 = .ok (.invokevirtual 144, 3) := by decide +kernel
theorem dX6_now_113 : decode cX6_now 113 = .ok (.ifCond .eq 7, 3) := by decide +kernel
theorem dX6_now_116 : decode cX6_now 116 = .ok (.iconst 1, 1) := by decide +kernel
theorem dX6_now_117 : decode cX6_now 117 = .ok (.goto 4, 3) := by decide +kernel
theorem dX6_now_120 : decode cX6_now 120 = .ok (.iconst 0, 1) := by decide +kernel
theorem dX6_now_121 : decode cX6_now 121 = .ok (.ireturn, 1) := by decide +kernel
theorem dX6_now_122 : decode cX6_now 122 = .ok (.aload_n 0, 1) := by decide +kernel
theorem dX6_now_123 : decode cX6_now 123 = .ok (.getfield 9, 3) := by decide +kernel
theorem dX6_now_126 : decode cX6_now 126 = .ok (.iload_n 1, 1) := by decide +kernel
theorem dX6_now_127 : decode cX6_now 127 = .ok (.iaload, 1) := by decide +kernel
theorem dX6_now_128 : decode cX6_now 128 = .ok (.ireturn, 1) := by decide +kernel
theorem dX6_book_0 : decode cX6_book 0 = .ok (.iload_n 1, 1) := by decide +kernel
theorem dX6_book_1 : decode cX6_book 1 = .ok (.i2l, 1) := by decide +kernel
theorem dX6_book_2 : decode cX6_book 2 = .ok (.lconst 0, 1) := by decide +kernel
theorem dX6_book_3 : decode cX6_book 3 = .ok (.aload_n 0, 1) := by decide +kernel
theorem dX6_book_4 : decode cX6_book 4 = .ok (.getfield 9, 3) := by decide +kernel
theorem dX6_book_7 : decode cX6_book 7 = .ok (.bipush 9, 2) := by decide +kernel
theorem dX6_book_9 : decode cX6_book 9 = .ok (.iaload, 1) := by decide +kernel
theorem dX6_book_10 : decode cX6_book 10 = .ok (.iconst 1, 1) := by decide +kernel
theorem dX6_book_11 : decode cX6_book 11 = .ok (.isub, 1) := by decide +kernel
theorem dX6_book_12 : decode cX6_book 12 = .ok (.i2l, 1) := by decide +kernel
theorem dX6_book_13 : decode cX6_book 13 = .ok (.invokestatic 42, 3) := by decide +kernel
theorem dX6_book_16 : decode cX6_book 16 = .ok (.ifCond .eq 15, 3) := by decide +kernel
theorem dX6_book_19 : decode cX6_book 19 = .ok (.aload_n 0, 1) := by decide +kernel
theorem dX6_book_20 : decode cX6_book 20 = .ok (.getfield 9, 3) := by decide +kernel
theorem dX6_book_23 : decode cX6_book 23 = .ok (.bipush 80, 2) := by decide +kernel
theorem dX6_book_25 : decode cX6_book 25 = .ok (.iload_n 1, 1) := by decide +kernel
theorem dX6_book_26 : decode cX6_book 26 = .ok (.iadd, 1) := by decide +kernel
theorem dX6_book_27 : decode cX6_book 27 = .ok (.iaload, 1) := by decide +kernel
theorem dX6_book_28 : decode cX6_book 28 = .ok (.goto 9, 3) := by decide +kernel
theorem dX6_book_31 : decode cX6_book 31 = .ok (.aload_n 0, 1) := by decide +kernel
theorem dX6_book_32 : decode cX6_book 32 = .ok (.ldc 34, 2) := by decide +kernel
theorem dX6_book_34 : decode cX6_book 34 = .ok (.invokevirtual 36, 3) := by decide +kernel
theorem dX6_book_37 : decode cX6_book 37 = .ok (.ireturn, 1) := by decide +kernel
theorem dX6_day_0 : decode cX6_day 0 = .ok (.iload_n 1, 1) := by decide +kernel
theorem dX6_day_1 : decode cX6_day 1 = .ok (.i2l, 1) := by decide +kernel
theorem dX6_day_2 : decode cX6_day 2 = .ok (.lconst 0, 1) := by decide +kernel
theorem dX6_day_3 : decode cX6_day 3 = .ok (.ldc2_w 148, 3) := by decide +kernel
theorem dX6_day_6 : decode cX6_day 6 = .ok (.invokestatic 42, 3) := by decide +kernel
theorem dX6_day_9 : decode cX6_day 9 = .ok (.ifCond .ne 10, 3) := by decide +kernel
theorem dX6_day_12 : decode cX6_day 12 = .ok (.aload_n 0, 1) := by decide +kernel
theorem dX6_day_13 : decode cX6_day 13 = .ok (.ldc 34, 2) := by decide +kernel
theorem dX6_day_15 : decode cX6_day 15 = .ok (.invokevirtual 36, 3) := by decide +kernel
theorem dX6_day_18 : decode cX6_day 18 = .ok (.ireturn, 1) := by decide +kernel
theorem dX6_day_19 : decode cX6_day 19 = .ok (.aload_n 0, 1) := by decide +kernel
theorem dX6_day_20 : decode cX6_day 20 = .ok (.getfield 9, 3) := by decide +kernel
theorem dX6_day_23 : decode cX6_day 23 = .ok (.bipush 9, 2) := by decide +kernel
theorem dX6_day_25 : decode cX6_day 25 = .ok (.iaload, 1) := by decide +kernel
theorem dX6_day_26 : decode cX6_day 26 = .ok (.ifCond .ne 10, 3) := by decide +kernel
theorem dX6_day_29 : decode cX6_day 29 = .ok (.aload_n 0, 1) := by decide +kernel
theorem dX6_day_30 : decode cX6_day 30 = .ok (.ldc 35, 2) := by decide +kernel
theorem dX6_day_32 : decode cX6_day 32 = .ok (.invokevirtual 36, 3) := by decide +kernel
theorem dX6_day_35 : decode cX6_day 35 = .ok (.ireturn, 1) := by decide +kernel
theorem dX6_day_36 : decode cX6_day 36 = .ok (.aload_n 0, 1) := by decide +kernel
theorem dX6_day_37 : decode cX6_day 37 = .ok (.getfield 9, 3) := by decide +kernel
theorem dX6_day_40 : decode cX6_day 40 = .ok (.iconst 0, 1) := by decide +kernel
theorem dX6_day_41 : decode cX6_day 41 = .ok (.iaload, 1) := by decide +kernel
theorem dX6_day_42 : decode cX6_day 42 = .ok (.iconst 1, 1) := by decide +kernel
theorem dX6_day_43 : decode cX6_day 43 = .ok (.isub, 1) := by decide +kernel
theorem dX6_day_44 : decode cX6_day 44 = .ok (.istore_n 2, 1) := by decide +kernel
theorem dX6_day_45 : decode cX6_day 45 = .ok (.iconst 0, 1) := by decide +kernel
theorem dX6_day_46 : decode cX6_day 46 = .ok (.istore_n 3, 1) := by decide +kernel
theorem dX6_day_47 : decode cX6_day 47 = .ok (.iconst 0, 1) := by decide +kernel
theorem dX6_day_48 : decode cX6_day 48 = .ok (.istore 4, 2) := by decide +kernel
theorem dX6_day_50 : decode cX6_day 50 = .ok (.iload 4, 2) := by decide +kernel
theorem dX6_day_52 : decode cX6_day 52 = .ok (.aload_n 0, 1) := by decide +kernel
theorem dX6_day_53 : decode cX6_day 53 = .ok (.getfield 9, 3) := by decide +kernel
theorem dX6_day_56 : decode cX6_day 56 = .ok (.bipush 9, 2) := by decide +kernel
theorem dX6_day_58 : decode cX6_day 58 = .ok (.iaload, 1) := by decide +kernel
theorem dX6_day_59 : decode cX6_day 59 = .ok (.if_icmp .ge 40, 3) := by decide +kernel
theorem dX6_day_62 : decode cX6_day 62 = .ok (.iload_n 3, 1) := by decide +kernel
theorem dX6_day_63 : decode cX6_day 63 = .ok (.iload_n 2, 1) := by decide +kernel
theorem dX6_day_64 : decode cX6_day 64 = .ok (.iload 4, 2) := by decide +kernel
theorem dX6_day_66 : decode cX6_day 66 = .ok (.isub, 1) := by decide +kernel
theorem dX6_day_67 : decode cX6_day 67 = .ok (.iconst 5, 1) := by decide +kernel
theorem dX6_day_68 : decode cX6_day 68 = .ok (.idiv, 1) := by decide +kernel
theorem dX6_day_69 : decode cX6_day 69 = .ok (.iload_n 2, 1) := by decide +kernel
theorem dX6_day_70 : decode cX6_day 70 = .ok (.iconst 5, 1) := by decide +kernel
theorem dX6_day_71 : decode cX6_day 71 = .ok (.idiv, 1) := by decide +kernel
theorem dX6_day_72 : decode cX6_day 72 = .ok (.iload_n 1, 1) := by decide +kernel
theorem dX6_day_73 : decode cX6_day 73 = .ok (.isub, 1) := by decide +kernel
theorem dX6_day_74 : decode cX6_day 74 = .ok (.if_icmp .ne 16, 3) := by decide +kernel
theorem dX6_day_77 : decode cX6_day 77 = .ok (.aload_n 0, 1) := by decide +kernel
theorem dX6_day_78 : decode cX6_day 78 = .ok (.getfield 9, 3) := by decide +kernel
theorem dX6_day_81 : decode cX6_day 81 = .ok (.bipush 80, 2) := by decide +kernel
theorem dX6_day_83 : decode cX6_day 83 = .ok (.iload 4, 2) := by decide +kernel
theorem dX6_day_85 : decode cX6_day 85 = .ok (.iadd, 1) := by decide +kernel
theorem dX6_day_86 : decode cX6_day 86 = .ok (.iaload, 1) := by decide +kernel
theorem dX6_day_87 : decode cX6_day 87 = .ok (.goto 4, 3) := by decide +kernel
theorem dX6_day_90 : decode cX6_day 90 = .ok (.iconst 0, 1) := by decide +kernel
theorem dX6_day_91 : decode cX6_day 91 = .ok (.iadd, 1) := by decide +kernel
theorem dX6_day_92 : decode cX6_day 92 = .ok (.istore_n 3, 1) := by decide +kernel
theorem dX6_day_93 : decode cX6_day 93 = .ok (.iinc 4 1, 3) := by decide +kernel
theorem dX6_day_96 : decode cX6_day 96 = .ok (.goto (-46), 3) := by decide +kernel
theorem dX6_day_99 : decode cX6_day 99 = .ok (.iload_n 3, 1) := by decide +kernel
theorem dX6_day_100 : decode cX6_day 100 = .ok (.ireturn, 1) := by decide +kernel
theorem dX6_spread_0 : decode cX6_spread 0 = .ok (.aload_n 0, 1) := by decide +kernel
theorem dX6_spread_1 : decode cX6_spread 1 = .ok (.getfield 9, 3) := by decide +kernel
theorem dX6_spread_4 : decode cX6_spread 4 = .ok (.bipush 9, 2) := by decide +kernel
theorem dX6_spread_6 : decode cX6_spread 6 = .ok (.iaload, 1) := by decide +kernel
theorem dX6_spread_7 : decode cX6_spread 7 = .ok (.ifCond .ne 10, 3) := by decide +kernel
theorem dX6_spread_10 : decode cX6_spread 10 = .ok (.aload_n 0, 1) := by decide +kernel
theorem dX6_spread_11 : decode cX6_spread 11 = .ok (.ldc 35, 2) := by decide +kernel
theorem dX6_spread_13 : decode cX6_spread 13 = .ok (.invokevirtual 36, 3) := by decide +kernel
theorem dX6_spread_16 : decode cX6_spread 16 = .ok (.ireturn, 1) := by decide +kernel
theorem dX6_spread_17 : decode cX6_spread 17 = .ok (.aload_n 0, 1) := by decide +kernel
theorem dX6_spread_18 : decode cX6_spread 18 = .ok (.getfield 9, 3) := by decide +kernel
theorem dX6_spread_21 : decode cX6_spread 21 = .ok (.bipush 80, 2) := by decide +kernel
theorem dX6_spread_23 : decode cX6_spread 23 = .ok (.iaload, 1) := by decide +kernel
theorem dX6_spread_24 : decode cX6_spread 24 = .ok (.istore_n 1, 1) := by decide +kernel
theorem dX6_spread_25 : decode cX6_spread 25 = .ok (.aload_n 0, 1) := by decide +kernel
theorem dX6_spread_26 : decode cX6_spread 26 = .ok (.getfield 9, 3) := by decide +kernel
theorem dX6_spread_29 : decode cX6_spread 29 = .ok (.bipush 80, 2) := by decide +kernel
theorem dX6_spread_31 : decode cX6_spread 31 = .ok (.iaload, 1) := by decide +kernel
theorem dX6_spread_32 : decode cX6_spread 32 = .ok (.istore_n 2, 1) := by decide +kernel
theorem dX6_spread_33 : decode cX6_spread 33 = .ok (.iconst 1, 1) := by decide +kernel
theorem dX6_spread_34 : decode cX6_spread 34 = .ok (.istore_n 3, 1) := by decide +kernel
theorem dX6_spread_35 : decode cX6_spread 35 = .ok (.iload_n 3, 1) := by decide +kernel
theorem dX6_spread_36 : decode cX6_spread 36 = .ok (.aload_n 0, 1) := by decide +kernel
theorem dX6_spread_37 : decode cX6_spread 37 = .ok (.getfield 9, 3) := by decide +kernel
theorem dX6_spread_40 : decode cX6_spread 40 = .ok (.bipush 9, 2) := by decide +kernel
theorem dX6_spread_42 : decode cX6_spread 42 = .ok (.iaload, 1) := by decide +kernel
theorem dX6_spread_43 : decode cX6_spread 43 = .ok (.if_icmp .ge 63, 3) := by decide +kernel
theorem dX6_spread_46 : decode cX6_spread 46 = .ok (.aload_n 0, 1) := by decide +kernel
theorem dX6_spread_47 : decode cX6_spread 47 = .ok (.getfield 9, 3) := by decide +kernel
theorem dX6_spread_50 : decode cX6_spread 50 = .ok (.bipush 80, 2) := by decide +kernel
theorem dX6_spread_52 : decode cX6_spread 52 = .ok (.iload_n 3, 1) := by decide +kernel
theorem dX6_spread_53 : decode cX6_spread 53 = .ok (.iadd, 1) := by decide +kernel
theorem dX6_spread_54 : decode cX6_spread 54 = .ok (.iaload, 1) := by decide +kernel
theorem dX6_spread_55 : decode cX6_spread 55 = .ok (.iload_n 1, 1) := by decide +kernel
theorem dX6_spread_56 : decode cX6_spread 56 = .ok (.if_icmp .ge 15, 3) := by decide +kernel
theorem dX6_spread_59 : decode cX6_spread 59 = .ok (.aload_n 0, 1) := by decide +kernel
theorem dX6_spread_60 : decode cX6_spread 60 = .ok (.getfield 9, 3) := by decide +kernel
theorem dX6_spread_63 : decode cX6_spread 63 = .ok (.bipush 80, 2) := by decide +kernel
theorem dX6_spread_65 : decode cX6_spread 65 = .ok (.iload_n 3, 1) := by decide +kernel
theorem dX6_spread_66 : decode cX6_spread 66 = .ok (.iadd, 1) := by decide +kernel
theorem dX6_spread_67 : decode cX6_spread 67 = .ok (.iaload, 1) := by decide +kernel
theorem dX6_spread_68 : decode cX6_spread 68 = .ok (.goto 4, 3) := by decide +kernel
theorem dX6_spread_71 : decode cX6_spread 71 = .ok (.iload_n 1, 1) := by decide +kernel
theorem dX6_spread_72 : decode cX6_spread 72 = .ok (.istore_n 1, 1) := by decide +kernel
theorem dX6_spread_73 : decode cX6_spread 73 = .ok (.aload_n 0, 1) := by decide +kernel
theorem dX6_spread_74 : decode cX6_spread 74 = .ok (.getfield 9, 3) := by decide +kernel
theorem dX6_spread_77 : decode cX6_spread 77 = .ok (.bipush 80, 2) := by decide +kernel
theorem dX6_spread_79 : decode cX6_spread 79 = .ok (.iload_n 3, 1) := by decide +kernel
theorem dX6_spread_80 : decode cX6_spread 80 = .ok (.iadd, 1) := by decide +kernel
theorem dX6_spread_81 : decode cX6_spread 81 = .ok (.iaload, 1) := by decide +kernel
theorem dX6_spread_82 : decode cX6_spread 82 = .ok (.iload_n 2, 1) := by decide +kernel
theorem dX6_spread_83 : decode cX6_spread 83 = .ok (.if_icmp .le 15, 3) := by decide +kernel
theorem dX6_spread_86 : decode cX6_spread 86 = .ok (.aload_n 0, 1) := by decide +kernel
theorem dX6_spread_87 : decode cX6_spread 87 = .ok (.getfield 9, 3) := by decide +kernel
theorem dX6_spread_90 : decode cX6_spread 90 = .ok (.bipush 80, 2) := by decide +kernel
theorem dX6_spread_92 : decode cX6_spread 92 = .ok (.iload_n 3, 1) := by decide +kernel
theorem dX6_spread_93 : decode cX6_spread 93 = .ok (.iadd, 1) := by decide +kernel
theorem dX6_spread_94 : decode cX6_spread 94 = .ok (.iaload, 1) := by decide +kernel
theorem dX6_spread_95 : decode cX6_spread 95 = .ok (.goto 4, 3) := by decide +kernel
theorem dX6_spread_98 : decode cX6_spread 98 = .ok (.iload_n 2, 1) := by decide +kernel
theorem dX6_spread_99 : decode cX6_spread 99 = .ok (.istore_n 2, 1) := by decide +kernel
theorem dX6_spread_100 : decode cX6_spread 100 = .ok (.iinc 3 1, 3) := by decide +kernel
theorem dX6_spread_103 : decode cX6_spread 103 = .ok (.goto (-68), 3) := by decide +kernel
theorem dX6_spread_106 : decode cX6_spread 106 = .ok (.iload_n 2, 1) := by decide +kernel
theorem dX6_spread_107 : decode cX6_spread 107 = .ok (.iload_n 1, 1) := by decide +kernel
theorem dX6_spread_108 : decode cX6_spread 108 = .ok (.isub, 1) := by decide +kernel
theorem dX6_spread_109 : decode cX6_spread 109 = .ok (.ireturn, 1) := by decide +kernel
theorem dX6_wrongMeals_0 : decode cX6_wrongMeals 0 = .ok (.iload 4, 2) := by decide +kernel
theorem dX6_wrongMeals_2 : decode cX6_wrongMeals 2 = .ok (.ifCond .eq 15, 3) := by decide +kernel
theorem dX6_wrongMeals_5 : decode cX6_wrongMeals 5 = .ok (.iload_n 1, 1) := by decide +kernel
theorem dX6_wrongMeals_6 : decode cX6_wrongMeals 6 = .ok (.i2l, 1) := by decide +kernel
theorem dX6_wrongMeals_7 : decode cX6_wrongMeals 7 = .ok (.iload_n 2, 1) := by decide +kernel
theorem dX6_wrongMeals_8 : decode cX6_wrongMeals 8 = .ok (.i2l, 1) := by decide +kernel
theorem dX6_wrongMeals_9 : decode cX6_wrongMeals 9 = .ok (.iload_n 3, 1) := by decide +kernel
theorem dX6_wrongMeals_10 : decode cX6_wrongMeals 10 = .ok (.i2l, 1) := by decide +kernel
theorem dX6_wrongMeals_11 : decode cX6_wrongMeals 11 = .ok (.invokestatic 42, 3) := by decide +kernel
theorem dX6_wrongMeals_14 : decode cX6_wrongMeals 14 = .ok (.ifCond .ne 8, 3) := by decide +kernel
theorem dX6_wrongMeals_17 : decode cX6_wrongMeals 17 = .ok (.ldc 34, 2) := by decide +kernel
theorem dX6_wrongMeals_19 : decode cX6_wrongMeals 19 = .ok (.goto 22, 3) := by decide +kernel
theorem dX6_wrongMeals_22 : decode cX6_wrongMeals 22 = .ok (.aload_n 0, 1) := by decide +kernel
theorem dX6_wrongMeals_23 : decode cX6_wrongMeals 23 = .ok (.getfield 9, 3) := by decide +kernel
theorem dX6_wrongMeals_26 : decode cX6_wrongMeals 26 = .ok (.iconst 0, 1) := by decide +kernel
theorem dX6_wrongMeals_27 : decode cX6_wrongMeals 27 = .ok (.iaload, 1) := by decide +kernel
theorem dX6_wrongMeals_28 : decode cX6_wrongMeals 28 = .ok (.iload_n 1, 1) := by decide +kernel
theorem dX6_wrongMeals_29 : decode cX6_wrongMeals 29 = .ok (.iadd, 1) := by decide +kernel
theorem dX6_wrongMeals_30 : decode cX6_wrongMeals 30 = .ok (.ldc 134, 2) := by decide +kernel
theorem dX6_wrongMeals_32 : decode cX6_wrongMeals 32 = .ok (.if_icmp .le 8, 3) := by decide +kernel
theorem dX6_wrongMeals_35 : decode cX6_wrongMeals 35 = .ok (.ldc 135, 2) := by decide +kernel
theorem dX6_wrongMeals_37 : decode cX6_wrongMeals 37 = .ok (.goto 4, 3) := by decide +kernel
theorem dX6_wrongMeals_40 : decode cX6_wrongMeals 40 = .ok (.iconst 0, 1) := by decide +kernel
theorem dX6_wrongMeals_41 : decode cX6_wrongMeals 41 = .ok (.ireturn, 1) := by decide +kernel
theorem dX6_ahead_0 : decode cX6_ahead 0 = .ok (.aload_n 0, 1) := by decide +kernel
theorem dX6_ahead_1 : decode cX6_ahead 1 = .ok (.iload_n 1, 1) := by decide +kernel
theorem dX6_ahead_2 : decode cX6_ahead 2 = .ok (.iconst 0, 1) := by decide +kernel
theorem dX6_ahead_3 : decode cX6_ahead 3 = .ok (.sipush 350, 3) := by decide +kernel
theorem dX6_ahead_6 : decode cX6_ahead 6 = .ok (.iload_n 2, 1) := by decide +kernel
theorem dX6_ahead_7 : decode cX6_ahead 7 = .ok (.i2l, 1) := by decide +kernel
theorem dX6_ahead_8 : decode cX6_ahead 8 = .ok (.lconst 0, 1) := by decide +kernel
theorem dX6_ahead_9 : decode cX6_ahead 9 = .ok (.ldc2_w 150, 3) := by decide +kernel
theorem dX6_ahead_12 : decode cX6_ahead 12 = .ok (.invokestatic 42, 3) := by decide +kernel
theorem dX6_ahead_15 : decode cX6_ahead 15 = .ok (.invokevirtual 152, 3) := by decide +kernel
theorem dX6_ahead_18 : decode cX6_ahead 18 = .ok (.istore_n 3, 1) := by decide +kernel
theorem dX6_ahead_19 : decode cX6_ahead 19 = .ok (.iload_n 3, 1) := by decide +kernel
theorem dX6_ahead_20 : decode cX6_ahead 20 = .ok (.ifCond .ge 9, 3) := by decide +kernel
theorem dX6_ahead_23 : decode cX6_ahead 23 = .ok (.aload_n 0, 1) := by decide +kernel
theorem dX6_ahead_24 : decode cX6_ahead 24 = .ok (.iload_n 3, 1) := by decide +kernel
theorem dX6_ahead_25 : decode cX6_ahead 25 = .ok (.invokevirtual 36, 3) := by decide +kernel
theorem dX6_ahead_28 : decode cX6_ahead 28 = .ok (.ireturn, 1) := by decide +kernel
theorem dX6_ahead_29 : decode cX6_ahead 29 = .ok (.aload_n 0, 1) := by decide +kernel
theorem dX6_ahead_30 : decode cX6_ahead 30 = .ok (.getfield 9, 3) := by decide +kernel
theorem dX6_ahead_33 : decode cX6_ahead 33 = .ok (.aload_n 0, 1) := by decide +kernel
theorem dX6_ahead_34 : decode cX6_ahead 34 = .ok (.getfield 16, 3) := by decide +kernel
theorem dX6_ahead_37 : decode cX6_ahead 37 = .ok (.invokestatic 156, 3) := by decide +kernel
theorem dX6_ahead_40 : decode cX6_ahead 40 = .ok (.aload_n 0, 1) := by decide +kernel
theorem dX6_ahead_41 : decode cX6_ahead 41 = .ok (.iload_n 1, 1) := by decide +kernel
theorem dX6_ahead_42 : decode cX6_ahead 42 = .ok (.invokevirtual 136, 3) := by decide +kernel
theorem dX6_ahead_45 : decode cX6_ahead 45 = .ok (.istore 4, 2) := by decide +kernel
theorem dX6_ahead_47 : decode cX6_ahead 47 = .ok (.iload_n 2, 1) := by decide +kernel
theorem dX6_ahead_48 : decode cX6_ahead 48 = .ok (.ifCond .ne 8, 3) := by decide +kernel
theorem dX6_ahead_51 : decode cX6_ahead 51 = .ok (.iload 4, 2) := by decide +kernel
theorem dX6_ahead_53 : decode cX6_ahead 53 = .ok (.goto 50, 3) := by decide +kernel
theorem dX6_ahead_56 : decode cX6_ahead 56 = .ok (.iload_n 2, 1) := by decide +kernel
theorem dX6_ahead_57 : decode cX6_ahead 57 = .ok (.iconst 1, 1) := by decide +kernel
theorem dX6_ahead_58 : decode cX6_ahead 58 = .ok (.if_icmp .ne 10, 3) := by decide +kernel
theorem dX6_ahead_61 : decode cX6_ahead 61 = .ok (.aload_n 0, 1) := by decide +kernel
theorem dX6_ahead_62 : decode cX6_ahead 62 = .ok (.invokevirtual 160, 3) := by decide +kernel
theorem dX6_ahead_65 : decode cX6_ahead 65 = .ok (.goto 38, 3) := by decide +kernel
theorem dX6_ahead_68 : decode cX6_ahead 68 = .ok (.iload_n 2, 1) := by decide +kernel
theorem dX6_ahead_69 : decode cX6_ahead 69 = .ok (.iconst 2, 1) := by decide +kernel
theorem dX6_ahead_70 : decode cX6_ahead 70 = .ok (.if_icmp .ne 12, 3) := by decide +kernel
theorem dX6_ahead_73 : decode cX6_ahead 73 = .ok (.aload_n 0, 1) := by decide +kernel
theorem dX6_ahead_74 : decode cX6_ahead 74 = .ok (.getfield 9, 3) := by decide +kernel
theorem dX6_ahead_77 : decode cX6_ahead 77 = .ok (.iconst 4, 1) := by decide +kernel
theorem dX6_ahead_78 : decode cX6_ahead 78 = .ok (.iaload, 1) := by decide +kernel
theorem dX6_ahead_79 : decode cX6_ahead 79 = .ok (.goto 24, 3) := by decide +kernel
theorem dX6_ahead_82 : decode cX6_ahead 82 = .ok (.iload_n 2, 1) := by decide +kernel
theorem dX6_ahead_83 : decode cX6_ahead 83 = .ok (.iconst 3, 1) := by decide +kernel
theorem dX6_ahead_84 : decode cX6_ahead 84 = .ok (.if_icmp .ne 12, 3) := by decide +kernel
theorem dX6_ahead_87 : decode cX6_ahead 87 = .ok (.aload_n 0, 1) := by decide +kernel
theorem dX6_ahead_88 : decode cX6_ahead 88 = .ok (.getfield 9, 3) := by decide +kernel
theorem dX6_ahead_91 : decode cX6_ahead 91 = .ok (.iconst 3, 1) := by decide +kernel
theorem dX6_ahead_92 : decode cX6_ahead 92 = .ok (.iaload, 1) := by decide +kernel
theorem dX6_ahead_93 : decode cX6_ahead 93 = .ok (.goto 10, 3) := by decide +kernel
theorem dX6_ahead_96 : decode cX6_ahead 96 = .ok (.aload_n 0, 1) := by decide +kernel
theorem dX6_ahead_97 : decode cX6_ahead 97 = .ok (.iload_n 2, 1) := by decide +kernel
theorem dX6_ahead_98 : decode cX6_ahead 98 = .ok (.iconst 4, 1) := by decide +kernel
theorem dX6_ahead_99 : decode cX6_ahead 99 = .ok (.isub, 1) := by decide +kernel
theorem dX6_ahead_100 : decode cX6_ahead 100 = .ok (.invokevirtual 50, 3) := by decide +kernel
theorem dX6_ahead_103 : decode cX6_ahead 103 = .ok (.istore 5, 2) := by decide +kernel
theorem dX6_ahead_105 : decode cX6_ahead 105 = .ok (.aload_n 0, 1) := by decide +kernel
theorem dX6_ahead_106 : decode cX6_ahead 106 = .ok (.getfield 16, 3) := by decide +kernel
theorem dX6_ahead_109 : decode cX6_ahead 109 = .ok (.aload_n 0, 1) := by decide +kernel
theorem dX6_ahead_110 : decode cX6_ahead 110 = .ok (.getfield 9, 3) := by decide +kernel
theorem dX6_ahead_113 : decode cX6_ahead 113 = .ok (.invokestatic 156, 3) := by decide +kernel
theorem dX6_ahead_116 : decode cX6_ahead 116 = .ok (.iload 5, 2) := by decide +kernel
theorem dX6_ahead_118 : decode cX6_ahead 118 = .ok (.ireturn, 1) := by decide +kernel
theorem dX6_when_0 : decode cX6_when 0 = .ok (.iload_n 1, 1) := by decide +kernel
theorem dX6_when_1 : decode cX6_when 1 = .ok (.invokestatic 55, 3) := by decide +kernel
theorem dX6_when_4 : decode cX6_when 4 = .ok (.ifCond .ne 10, 3) := by decide +kernel
theorem dX6_when_7 : decode cX6_when 7 = .ok (.aload_n 0, 1) := by decide +kernel
theorem dX6_when_8 : decode cX6_when 8 = .ok (.ldc 34, 2) := by decide +kernel
theorem dX6_when_10 : decode cX6_when 10 = .ok (.invokevirtual 36, 3) := by decide +kernel
theorem dX6_when_13 : decode cX6_when 13 = .ok (.ireturn, 1) := by decide +kernel
theorem dX6_when_14 : decode cX6_when 14 = .ok (.aload_n 0, 1) := by decide +kernel
theorem dX6_when_15 : decode cX6_when 15 = .ok (.getfield 9, 3) := by decide +kernel
theorem dX6_when_18 : decode cX6_when 18 = .ok (.iconst 0, 1) := by decide +kernel
theorem dX6_when_19 : decode cX6_when 19 = .ok (.iaload, 1) := by decide +kernel
theorem dX6_when_20 : decode cX6_when 20 = .ok (.sipush 350, 3) := by decide +kernel
theorem dX6_when_23 : decode cX6_when 23 = .ok (.iadd, 1) := by decide +kernel
theorem dX6_when_24 : decode cX6_when 24 = .ok (.ldc 134, 2) := by decide +kernel
theorem dX6_when_26 : decode cX6_when 26 = .ok (.if_icmp .le 10, 3) := by decide +kernel
theorem dX6_when_29 : decode cX6_when 29 = .ok (.aload_n 0, 1) := by decide +kernel
theorem dX6_when_30 : decode cX6_when 30 = .ok (.ldc 135, 2) := by decide +kernel
theorem dX6_when_32 : decode cX6_when 32 = .ok (.invokevirtual 36, 3) := by decide +kernel
theorem dX6_when_35 : decode cX6_when 35 = .ok (.ireturn, 1) := by decide +kernel
theorem dX6_when_36 : decode cX6_when 36 = .ok (.aload_n 0, 1) := by decide +kernel
theorem dX6_when_37 : decode cX6_when 37 = .ok (.getfield 9, 3) := by decide +kernel
theorem dX6_when_40 : decode cX6_when 40 = .ok (.aload_n 0, 1) := by decide +kernel
theorem dX6_when_41 : decode cX6_when 41 = .ok (.getfield 16, 3) := by decide +kernel
theorem dX6_when_44 : decode cX6_when 44 = .ok (.invokestatic 156, 3) := by decide +kernel
theorem dX6_when_47 : decode cX6_when 47 = .ok (.iconst 0, 1) := by decide +kernel
theorem dX6_when_48 : decode cX6_when 48 = .ok (.istore_n 2, 1) := by decide +kernel
theorem dX6_when_49 : decode cX6_when 49 = .ok (.iload_n 2, 1) := by decide +kernel
theorem dX6_when_50 : decode cX6_when 50 = .ok (.sipush 350, 3) := by decide +kernel
theorem dX6_when_53 : decode cX6_when 53 = .ok (.if_icmp .gt 26, 3) := by decide +kernel
theorem dX6_when_56 : decode cX6_when 56 = .ok (.aload_n 0, 1) := by decide +kernel
theorem dX6_when_57 : decode cX6_when 57 = .ok (.iload_n 1, 1) := by decide +kernel
theorem dX6_when_58 : decode cX6_when 58 = .ok (.invokevirtual 65, 3) := by decide +kernel
theorem dX6_when_61 : decode cX6_when 61 = .ok (.ifCond .ne 18, 3) := by decide +kernel
theorem dX6_when_64 : decode cX6_when 64 = .ok (.aload_n 0, 1) := by decide +kernel
theorem dX6_when_65 : decode cX6_when 65 = .ok (.aload_n 0, 1) := by decide +kernel
theorem dX6_when_66 : decode cX6_when 66 = .ok (.invokevirtual 126, 3) := by decide +kernel
theorem dX6_when_69 : decode cX6_when 69 = .ok (.invokevirtual 129, 3) := by decide +kernel
theorem dX6_when_72 : decode cX6_when 72 = .ok (.pop, 1) := by decide +kernel
theorem dX6_when_73 : decode cX6_when 73 = .ok (.iinc 2 1, 3) := by decide +kernel
theorem dX6_when_76 : decode cX6_when 76 = .ok (.goto (-27), 3) := by decide +kernel
theorem dX6_when_79 : decode cX6_when 79 = .ok (.aload_n 0, 1) := by decide +kernel
theorem dX6_when_80 : decode cX6_when 80 = .ok (.getfield 16, 3) := by decide +kernel
theorem dX6_when_83 : decode cX6_when 83 = .ok (.aload_n 0, 1) := by decide +kernel
theorem dX6_when_84 : decode cX6_when 84 = .ok (.getfield 9, 3) := by decide +kernel
theorem dX6_when_87 : decode cX6_when 87 = .ok (.invokestatic 156, 3) := by decide +kernel
theorem dX6_when_90 : decode cX6_when 90 = .ok (.iload_n 2, 1) := by decide +kernel
theorem dX6_when_91 : decode cX6_when 91 = .ok (.sipush 350, 3) := by decide +kernel
theorem dX6_when_94 : decode cX6_when 94 = .ok (.if_icmp .le 12, 3) := by decide +kernel
theorem dX6_when_97 : decode cX6_when 97 = .ok (.aload_n 0, 1) := by decide +kernel
theorem dX6_when_98 : decode cX6_when 98 = .ok (.ldc 35, 2) := by decide +kernel
theorem dX6_when_100 : decode cX6_when 100 = .ok (.invokevirtual 36, 3) := by decide +kernel
theorem dX6_when_103 : decode cX6_when 103 = .ok (.goto 4, 3) := by decide +kernel
theorem dX6_when_106 : decode cX6_when 106 = .ok (.iload_n 2, 1) := by decide +kernel
theorem dX6_when_107 : decode cX6_when 107 = .ok (.ireturn, 1) := by decide +kernel
theorem dX6_times_0 : decode cX6_times 0 = .ok (.aload_n 0, 1) := by decide +kernel
theorem dX6_times_1 : decode cX6_times 1 = .ok (.iload_n 1, 1) := by decide +kernel
theorem dX6_times_2 : decode cX6_times 2 = .ok (.invokevirtual 99, 3) := by decide +kernel
theorem dX6_times_5 : decode cX6_times 5 = .ok (.ifCond .ne 10, 3) := by decide +kernel
theorem dX6_times_8 : decode cX6_times 8 = .ok (.aload_n 0, 1) := by decide +kernel
theorem dX6_times_9 : decode cX6_times 9 = .ok (.ldc 34, 2) := by decide +kernel
theorem dX6_times_11 : decode cX6_times 11 = .ok (.invokevirtual 36, 3) := by decide +kernel
theorem dX6_times_14 : decode cX6_times 14 = .ok (.ireturn, 1) := by decide +kernel
theorem dX6_times_15 : decode cX6_times 15 = .ok (.aload_n 0, 1) := by decide +kernel
theorem dX6_times_16 : decode cX6_times 16 = .ok (.getfield 9, 3) := by decide +kernel
theorem dX6_times_19 : decode cX6_times 19 = .ok (.iconst 0, 1) := by decide +kernel
theorem dX6_times_20 : decode cX6_times 20 = .ok (.iaload, 1) := by decide +kernel
theorem dX6_times_21 : decode cX6_times 21 = .ok (.bipush 99, 2) := by decide +kernel
theorem dX6_times_23 : decode cX6_times 23 = .ok (.iadd, 1) := by decide +kernel
theorem dX6_times_24 : decode cX6_times 24 = .ok (.ldc 134, 2) := by decide +kernel
theorem dX6_times_26 : decode cX6_times 26 = .ok (.if_icmp .le 10, 3) := by decide +kernel
theorem dX6_times_29 : decode cX6_times 29 = .ok (.aload_n 0, 1) := by decide +kernel
theorem dX6_times_30 : decode cX6_times 30 = .ok (.ldc 135, 2) := by decide +kernel
theorem dX6_times_32 : decode cX6_times 32 = .ok (.invokevirtual 36, 3) := by decide +kernel
theorem dX6_times_35 : decode cX6_times 35 = .ok (.ireturn, 1) := by decide +kernel
theorem dX6_times_36 : decode cX6_times 36 = .ok (.aload_n 0, 1) := by decide +kernel
theorem dX6_times_37 : decode cX6_times 37 = .ok (.iload_n 1, 1) := by decide +kernel
theorem dX6_times_38 : decode cX6_times 38 = .ok (.iconst 1, 1) := by decide +kernel
theorem dX6_times_39 : decode cX6_times 39 = .ok (.invokevirtual 90, 3) := by decide +kernel
theorem dX6_times_42 : decode cX6_times 42 = .ok (.istore_n 2, 1) := by decide +kernel
theorem dX6_times_43 : decode cX6_times 43 = .ok (.aload_n 0, 1) := by decide +kernel
theorem dX6_times_44 : decode cX6_times 44 = .ok (.getfield 9, 3) := by decide +kernel
theorem dX6_times_47 : decode cX6_times 47 = .ok (.aload_n 0, 1) := by decide +kernel
theorem dX6_times_48 : decode cX6_times 48 = .ok (.getfield 16, 3) := by decide +kernel
theorem dX6_times_51 : decode cX6_times 51 = .ok (.invokestatic 156, 3) := by decide +kernel
theorem dX6_times_54 : decode cX6_times 54 = .ok (.iconst 0, 1) := by decide +kernel
theorem dX6_times_55 : decode cX6_times 55 = .ok (.istore_n 3, 1) := by decide +kernel
theorem dX6_times_56 : decode cX6_times 56 = .ok (.iload_n 3, 1) := by decide +kernel
theorem dX6_times_57 : decode cX6_times 57 = .ok (.bipush 99, 2) := by decide +kernel
theorem dX6_times_59 : decode cX6_times 59 = .ok (.if_icmp .gt 23, 3) := by decide +kernel
theorem dX6_times_62 : decode cX6_times 62 = .ok (.aload_n 0, 1) := by decide +kernel
theorem dX6_times_63 : decode cX6_times 63 = .ok (.iload_n 2, 1) := by decide +kernel
theorem dX6_times_64 : decode cX6_times 64 = .ok (.invokevirtual 65, 3) := by decide +kernel
theorem dX6_times_67 : decode cX6_times 67 = .ok (.ifCond .ne 15, 3) := by decide +kernel
theorem dX6_times_70 : decode cX6_times 70 = .ok (.aload_n 0, 1) := by decide +kernel
theorem dX6_times_71 : decode cX6_times 71 = .ok (.iload_n 1, 1) := by decide +kernel
theorem dX6_times_72 : decode cX6_times 72 = .ok (.invokevirtual 129, 3) := by decide +kernel
theorem dX6_times_75 : decode cX6_times 75 = .ok (.pop, 1) := by decide +kernel
theorem dX6_times_76 : decode cX6_times 76 = .ok (.iinc 3 1, 3) := by decide +kernel
theorem dX6_times_79 : decode cX6_times 79 = .ok (.goto (-23), 3) := by decide +kernel
theorem dX6_times_82 : decode cX6_times 82 = .ok (.aload_n 0, 1) := by decide +kernel
theorem dX6_times_83 : decode cX6_times 83 = .ok (.getfield 16, 3) := by decide +kernel
theorem dX6_times_86 : decode cX6_times 86 = .ok (.aload_n 0, 1) := by decide +kernel
theorem dX6_times_87 : decode cX6_times 87 = .ok (.getfield 9, 3) := by decide +kernel
theorem dX6_times_90 : decode cX6_times 90 = .ok (.invokestatic 156, 3) := by decide +kernel
theorem dX6_times_93 : decode cX6_times 93 = .ok (.iload_n 3, 1) := by decide +kernel
theorem dX6_times_94 : decode cX6_times 94 = .ok (.bipush 99, 2) := by decide +kernel
theorem dX6_times_96 : decode cX6_times 96 = .ok (.if_icmp .le 12, 3) := by decide +kernel
theorem dX6_times_99 : decode cX6_times 99 = .ok (.aload_n 0, 1) := by decide +kernel
theorem dX6_times_100 : decode cX6_times 100 = .ok (.ldc 35, 2) := by decide +kernel
theorem dX6_times_102 : decode cX6_times 102 = .ok (.invokevirtual 36, 3) := by decide +kernel
theorem dX6_times_105 : decode cX6_times 105 = .ok (.goto 4, 3) := by decide +kernel
theorem dX6_times_108 : decode cX6_times 108 = .ok (.iload_n 3, 1) := by decide +kernel
theorem dX6_times_109 : decode cX6_times 109 = .ok (.ireturn, 1) := by decide +kernel
theorem dX6_behind_0 : decode cX6_behind 0 = .ok (.aload_n 0, 1) := by decide +kernel
theorem dX6_behind_1 : decode cX6_behind 1 = .ok (.getfield 9, 3) := by decide +kernel
theorem dX6_behind_4 : decode cX6_behind 4 = .ok (.aload_n 0, 1) := by decide +kernel
theorem dX6_behind_5 : decode cX6_behind 5 = .ok (.getfield 16, 3) := by decide +kernel
theorem dX6_behind_8 : decode cX6_behind 8 = .ok (.invokestatic 156, 3) := by decide +kernel
theorem dX6_behind_11 : decode cX6_behind 11 = .ok (.aload_n 0, 1) := by decide +kernel
theorem dX6_behind_12 : decode cX6_behind 12 = .ok (.iload_n 1, 1) := by decide +kernel
theorem dX6_behind_13 : decode cX6_behind 13 = .ok (.invokevirtual 136, 3) := by decide +kernel
theorem dX6_behind_16 : decode cX6_behind 16 = .ok (.istore_n 3, 1) := by decide +kernel
theorem dX6_behind_17 : decode cX6_behind 17 = .ok (.iload_n 2, 1) := by decide +kernel
theorem dX6_behind_18 : decode cX6_behind 18 = .ok (.ifCond .eq 7, 3) := by decide +kernel
theorem dX6_behind_21 : decode cX6_behind 21 = .ok (.iload_n 3, 1) := by decide +kernel
theorem dX6_behind_22 : decode cX6_behind 22 = .ok (.goto 7, 3) := by decide +kernel
theorem dX6_behind_25 : decode cX6_behind 25 = .ok (.aload_n 0, 1) := by decide +kernel
theorem dX6_behind_26 : decode cX6_behind 26 = .ok (.invokevirtual 163, 3) := by decide +kernel
theorem dX6_behind_29 : decode cX6_behind 29 = .ok (.istore 4, 2) := by decide +kernel
theorem dX6_behind_31 : decode cX6_behind 31 = .ok (.aload_n 0, 1) := by decide +kernel
theorem dX6_behind_32 : decode cX6_behind 32 = .ok (.getfield 16, 3) := by decide +kernel
theorem dX6_behind_35 : decode cX6_behind 35 = .ok (.aload_n 0, 1) := by decide +kernel
theorem dX6_behind_36 : decode cX6_behind 36 = .ok (.getfield 9, 3) := by decide +kernel
theorem dX6_behind_39 : decode cX6_behind 39 = .ok (.invokestatic 156, 3) := by decide +kernel
theorem dX6_behind_42 : decode cX6_behind 42 = .ok (.iload 4, 2) := by decide +kernel
theorem dX6_behind_44 : decode cX6_behind 44 = .ok (.ireturn, 1) := by decide +kernel
theorem dX6_bestIn_0 : decode cX6_bestIn 0 = .ok (.aload_n 0, 1) := by decide +kernel
theorem dX6_bestIn_1 : decode cX6_bestIn 1 = .ok (.getfield 9, 3) := by decide +kernel
theorem dX6_bestIn_4 : decode cX6_bestIn 4 = .ok (.iload_n 1, 1) := by decide +kernel
theorem dX6_bestIn_5 : decode cX6_bestIn 5 = .ok (.iaload, 1) := by decide +kernel
theorem dX6_bestIn_6 : decode cX6_bestIn 6 = .ok (.istore 6, 2) := by decide +kernel
theorem dX6_bestIn_8 : decode cX6_bestIn 8 = .ok (.iconst (-1), 1) := by decide +kernel
theorem dX6_bestIn_9 : decode cX6_bestIn 9 = .ok (.istore 7, 2) := by decide +kernel
theorem dX6_bestIn_11 : decode cX6_bestIn 11 = .ok (.iconst 0, 1) := by decide +kernel
theorem dX6_bestIn_12 : decode cX6_bestIn 12 = .ok (.istore 8, 2) := by decide +kernel
theorem dX6_bestIn_14 : decode cX6_bestIn 14 = .ok (.iload_n 2, 1) := by decide +kernel
theorem dX6_bestIn_15 : decode cX6_bestIn 15 = .ok (.istore 9, 2) := by decide +kernel
theorem dX6_bestIn_17 : decode cX6_bestIn 17 = .ok (.iload 9, 2) := by decide +kernel
theorem dX6_bestIn_19 : decode cX6_bestIn 19 = .ok (.iload_n 3, 1) := by decide +kernel
theorem dX6_bestIn_20 : decode cX6_bestIn 20 = .ok (.if_icmp .gt 50, 3) := by decide +kernel
theorem dX6_bestIn_23 : decode cX6_bestIn 23 = .ok (.aload_n 0, 1) := by decide +kernel
theorem dX6_bestIn_24 : decode cX6_bestIn 24 = .ok (.getfield 9, 3) := by decide +kernel
theorem dX6_bestIn_27 : decode cX6_bestIn 27 = .ok (.iload_n 1, 1) := by decide +kernel
theorem dX6_bestIn_28 : decode cX6_bestIn 28 = .ok (.iload 9, 2) := by decide +kernel
theorem dX6_bestIn_30 : decode cX6_bestIn 30 = .ok (.iastore, 1) := by decide +kernel
theorem dX6_bestIn_31 : decode cX6_bestIn 31 = .ok (.aload_n 0, 1) := by decide +kernel
theorem dX6_bestIn_32 : decode cX6_bestIn 32 = .ok (.iload 4, 2) := by decide +kernel
theorem dX6_bestIn_34 : decode cX6_bestIn 34 = .ok (.iload 5, 2) := by decide +kernel
theorem dX6_bestIn_36 : decode cX6_bestIn 36 = .ok (.invokevirtual 166, 3) := by decide +kernel
theorem dX6_bestIn_39 : decode cX6_bestIn 39 = .ok (.istore 10, 2) := by decide +kernel
theorem dX6_bestIn_41 : decode cX6_bestIn 41 = .ok (.iload 7, 2) := by decide +kernel
theorem dX6_bestIn_43 : decode cX6_bestIn 43 = .ok (.ifCond .lt 13, 3) := by decide +kernel
theorem dX6_bestIn_46 : decode cX6_bestIn 46 = .ok (.iload 10, 2) := by decide +kernel
theorem dX6_bestIn_48 : decode cX6_bestIn 48 = .ok (.iload 8, 2) := by decide +kernel
theorem dX6_bestIn_50 : decode cX6_bestIn 50 = .ok (.if_icmp .gt 6, 3) := by decide +kernel
theorem dX6_bestIn_53 : decode cX6_bestIn 53 = .ok (.goto 11, 3) := by decide +kernel
theorem dX6_bestIn_56 : decode cX6_bestIn 56 = .ok (.iload 9, 2) := by decide +kernel
theorem dX6_bestIn_58 : decode cX6_bestIn 58 = .ok (.istore 7, 2) := by decide +kernel
theorem dX6_bestIn_60 : decode cX6_bestIn 60 = .ok (.iload 10, 2) := by decide +kernel
theorem dX6_bestIn_62 : decode cX6_bestIn 62 = .ok (.istore 8, 2) := by decide +kernel
theorem dX6_bestIn_64 : decode cX6_bestIn 64 = .ok (.iinc 9 1, 3) := by decide +kernel
theorem dX6_bestIn_67 : decode cX6_bestIn 67 = .ok (.goto (-50), 3) := by decide +kernel
theorem dX6_bestIn_70 : decode cX6_bestIn 70 = .ok (.aload_n 0, 1) := by decide +kernel
theorem dX6_bestIn_71 : decode cX6_bestIn 71 = .ok (.getfield 9, 3) := by decide +kernel
theorem dX6_bestIn_74 : decode cX6_bestIn 74 = .ok (.iload_n 1, 1) := by decide +kernel
theorem dX6_bestIn_75 : decode cX6_bestIn 75 = .ok (.iload 6, 2) := by decide +kernel
theorem dX6_bestIn_77 : decode cX6_bestIn 77 = .ok (.iastore, 1) := by decide +kernel
theorem dX6_bestIn_78 : decode cX6_bestIn 78 = .ok (.iload 7, 2) := by decide +kernel
theorem dX6_bestIn_80 : decode cX6_bestIn 80 = .ok (.ireturn, 1) := by decide +kernel
theorem dX6_kindFor_0 : decode cX6_kindFor 0 = .ok (.aload_n 0, 1) := by decide +kernel
theorem dX6_kindFor_1 : decode cX6_kindFor 1 = .ok (.iload_n 2, 1) := by decide +kernel
theorem dX6_kindFor_2 : decode cX6_kindFor 2 = .ok (.iconst 1, 1) := by decide +kernel
theorem dX6_kindFor_3 : decode cX6_kindFor 3 = .ok (.sipush 175, 3) := by decide +kernel
theorem dX6_kindFor_6 : decode cX6_kindFor 6 = .ok (.aload_n 0, 1) := by decide +kernel
theorem dX6_kindFor_7 : decode cX6_kindFor 7 = .ok (.iload_n 1, 1) := by decide +kernel
theorem dX6_kindFor_8 : decode cX6_kindFor 8 = .ok (.invokevirtual 99, 3) := by decide +kernel
theorem dX6_kindFor_11 : decode cX6_kindFor 11 = .ok (.invokevirtual 152, 3) := by decide +kernel
theorem dX6_kindFor_14 : decode cX6_kindFor 14 = .ok (.istore_n 3, 1) := by decide +kernel
theorem dX6_kindFor_15 : decode cX6_kindFor 15 = .ok (.iload_n 3, 1) := by decide +kernel
theorem dX6_kindFor_16 : decode cX6_kindFor 16 = .ok (.ifCond .ge 11, 3) := by decide +kernel
theorem dX6_kindFor_19 : decode cX6_kindFor 19 = .ok (.aload_n 0, 1) := by decide +kernel
theorem dX6_kindFor_20 : decode cX6_kindFor 20 = .ok (.iload_n 3, 1) := by decide +kernel
theorem dX6_kindFor_21 : decode cX6_kindFor 21 = .ok (.invokevirtual 36, 3) := by decide +kernel
theorem dX6_kindFor_24 : decode cX6_kindFor 24 = .ok (.goto 18, 3) := by decide +kernel
theorem dX6_kindFor_27 : decode cX6_kindFor 27 = .ok (.aload_n 0, 1) := by decide +kernel
theorem dX6_kindFor_28 : decode cX6_kindFor 28 = .ok (.bipush 40, 2) := by decide +kernel
theorem dX6_kindFor_30 : decode cX6_kindFor 30 = .ok (.iconst 3, 1) := by decide +kernel
theorem dX6_kindFor_31 : decode cX6_kindFor 31 = .ok (.iload_n 1, 1) := by decide +kernel
theorem dX6_kindFor_32 : decode cX6_kindFor 32 = .ok (.imul, 1) := by decide +kernel
theorem dX6_kindFor_33 : decode cX6_kindFor 33 = .ok (.iadd, 1) := by decide +kernel
theorem dX6_kindFor_34 : decode cX6_kindFor 34 = .ok (.iconst 0, 1) := by decide +kernel
theorem dX6_kindFor_35 : decode cX6_kindFor 35 = .ok (.bipush 6, 2) := by decide +kernel
theorem dX6_kindFor_37 : decode cX6_kindFor 37 = .ok (.iload_n 2, 1) := by decide +kernel
theorem dX6_kindFor_38 : decode cX6_kindFor 38 = .ok (.iconst 0, 1) := by decide +kernel
theorem dX6_kindFor_39 : decode cX6_kindFor 39 = .ok (.invokevirtual 169, 3) := by decide +kernel
theorem dX6_kindFor_42 : decode cX6_kindFor 42 = .ok (.ireturn, 1) := by decide +kernel
theorem dX6_foodFor_0 : decode cX6_foodFor 0 = .ok (.aload_n 0, 1) := by decide +kernel
theorem dX6_foodFor_1 : decode cX6_foodFor 1 = .ok (.iload_n 2, 1) := by decide +kernel
theorem dX6_foodFor_2 : decode cX6_foodFor 2 = .ok (.iconst 1, 1) := by decide +kernel
theorem dX6_foodFor_3 : decode cX6_foodFor 3 = .ok (.sipush 175, 3) := by decide +kernel
theorem dX6_foodFor_6 : decode cX6_foodFor 6 = .ok (.aload_n 0, 1) := by decide +kernel
theorem dX6_foodFor_7 : decode cX6_foodFor 7 = .ok (.iload_n 1, 1) := by decide +kernel
theorem dX6_foodFor_8 : decode cX6_foodFor 8 = .ok (.invokevirtual 99, 3) := by decide +kernel
theorem dX6_foodFor_11 : decode cX6_foodFor 11 = .ok (.invokevirtual 152, 3) := by decide +kernel
theorem dX6_foodFor_14 : decode cX6_foodFor 14 = .ok (.istore_n 3, 1) := by decide +kernel
theorem dX6_foodFor_15 : decode cX6_foodFor 15 = .ok (.iload_n 3, 1) := by decide +kernel
theorem dX6_foodFor_16 : decode cX6_foodFor 16 = .ok (.ifCond .ge 11, 3) := by decide +kernel
theorem dX6_foodFor_19 : decode cX6_foodFor 19 = .ok (.aload_n 0, 1) := by decide +kernel
theorem dX6_foodFor_20 : decode cX6_foodFor 20 = .ok (.iload_n 3, 1) := by decide +kernel
theorem dX6_foodFor_21 : decode cX6_foodFor 21 = .ok (.invokevirtual 36, 3) := by decide +kernel
theorem dX6_foodFor_24 : decode cX6_foodFor 24 = .ok (.goto 20, 3) := by decide +kernel
theorem dX6_foodFor_27 : decode cX6_foodFor 27 = .ok (.aload_n 0, 1) := by decide +kernel
theorem dX6_foodFor_28 : decode cX6_foodFor 28 = .ok (.bipush 40, 2) := by decide +kernel
theorem dX6_foodFor_30 : decode cX6_foodFor 30 = .ok (.iconst 3, 1) := by decide +kernel
theorem dX6_foodFor_31 : decode cX6_foodFor 31 = .ok (.iload_n 1, 1) := by decide +kernel
theorem dX6_foodFor_32 : decode cX6_foodFor 32 = .ok (.imul, 1) := by decide +kernel
theorem dX6_foodFor_33 : decode cX6_foodFor 33 = .ok (.iadd, 1) := by decide +kernel
theorem dX6_foodFor_34 : decode cX6_foodFor 34 = .ok (.iconst 1, 1) := by decide +kernel
theorem dX6_foodFor_35 : decode cX6_foodFor 35 = .ok (.iadd, 1) := by decide +kernel
theorem dX6_foodFor_36 : decode cX6_foodFor 36 = .ok (.iconst 0, 1) := by decide +kernel
theorem dX6_foodFor_37 : decode cX6_foodFor 37 = .ok (.bipush 9, 2) := by decide +kernel
theorem dX6_foodFor_39 : decode cX6_foodFor 39 = .ok (.iload_n 2, 1) := by decide +kernel
theorem dX6_foodFor_40 : decode cX6_foodFor 40 = .ok (.iconst 0, 1) := by decide +kernel
theorem dX6_foodFor_41 : decode cX6_foodFor 41 = .ok (.invokevirtual 169, 3) := by decide +kernel
theorem dX6_foodFor_44 : decode cX6_foodFor 44 = .ok (.ireturn, 1) := by decide +kernel
theorem dX6_putFor_0 : decode cX6_putFor 0 = .ok (.aload_n 0, 1) := by decide +kernel
theorem dX6_putFor_1 : decode cX6_putFor 1 = .ok (.iload_n 2, 1) := by decide +kernel
theorem dX6_putFor_2 : decode cX6_putFor 2 = .ok (.iconst 1, 1) := by decide +kernel
theorem dX6_putFor_3 : decode cX6_putFor 3 = .ok (.sipush 175, 3) := by decide +kernel
theorem dX6_putFor_6 : decode cX6_putFor 6 = .ok (.aload_n 0, 1) := by decide +kernel
theorem dX6_putFor_7 : decode cX6_putFor 7 = .ok (.iload_n 1, 1) := by decide +kernel
theorem dX6_putFor_8 : decode cX6_putFor 8 = .ok (.invokevirtual 99, 3) := by decide +kernel
theorem dX6_putFor_11 : decode cX6_putFor 11 = .ok (.invokevirtual 152, 3) := by decide +kernel
theorem dX6_putFor_14 : decode cX6_putFor 14 = .ok (.istore_n 3, 1) := by decide +kernel
theorem dX6_putFor_15 : decode cX6_putFor 15 = .ok (.iload_n 3, 1) := by decide +kernel
theorem dX6_putFor_16 : decode cX6_putFor 16 = .ok (.ifCond .ge 11, 3) := by decide +kernel
theorem dX6_putFor_19 : decode cX6_putFor 19 = .ok (.aload_n 0, 1) := by decide +kernel
theorem dX6_putFor_20 : decode cX6_putFor 20 = .ok (.iload_n 3, 1) := by decide +kernel
theorem dX6_putFor_21 : decode cX6_putFor 21 = .ok (.invokevirtual 36, 3) := by decide +kernel
theorem dX6_putFor_24 : decode cX6_putFor 24 = .ok (.goto 20, 3) := by decide +kernel
theorem dX6_putFor_27 : decode cX6_putFor 27 = .ok (.aload_n 0, 1) := by decide +kernel
theorem dX6_putFor_28 : decode cX6_putFor 28 = .ok (.bipush 40, 2) := by decide +kernel
theorem dX6_putFor_30 : decode cX6_putFor 30 = .ok (.iconst 3, 1) := by decide +kernel
theorem dX6_putFor_31 : decode cX6_putFor 31 = .ok (.iload_n 1, 1) := by decide +kernel
theorem dX6_putFor_32 : decode cX6_putFor 32 = .ok (.imul, 1) := by decide +kernel
theorem dX6_putFor_33 : decode cX6_putFor 33 = .ok (.iadd, 1) := by decide +kernel
theorem dX6_putFor_34 : decode cX6_putFor 34 = .ok (.iconst 2, 1) := by decide +kernel
theorem dX6_putFor_35 : decode cX6_putFor 35 = .ok (.iadd, 1) := by decide +kernel
theorem dX6_putFor_36 : decode cX6_putFor 36 = .ok (.iconst 1, 1) := by decide +kernel
theorem dX6_putFor_37 : decode cX6_putFor 37 = .ok (.bipush 20, 2) := by decide +kernel
theorem dX6_putFor_39 : decode cX6_putFor 39 = .ok (.iload_n 2, 1) := by decide +kernel
theorem dX6_putFor_40 : decode cX6_putFor 40 = .ok (.iconst 1, 1) := by decide +kernel
theorem dX6_putFor_41 : decode cX6_putFor 41 = .ok (.invokevirtual 169, 3) := by decide +kernel
theorem dX6_putFor_44 : decode cX6_putFor 44 = .ok (.ireturn, 1) := by decide +kernel
theorem dX6_paid_0 : decode cX6_paid 0 = .ok (.aload_n 0, 1) := by decide +kernel
theorem dX6_paid_1 : decode cX6_paid 1 = .ok (.iload_n 1, 1) := by decide +kernel
theorem dX6_paid_2 : decode cX6_paid 2 = .ok (.iconst 0, 1) := by decide +kernel
theorem dX6_paid_3 : decode cX6_paid 3 = .ok (.sipush 175, 3) := by decide +kernel
theorem dX6_paid_6 : decode cX6_paid 6 = .ok (.iconst 1, 1) := by decide +kernel
theorem dX6_paid_7 : decode cX6_paid 7 = .ok (.invokevirtual 152, 3) := by decide +kernel
theorem dX6_paid_10 : decode cX6_paid 10 = .ok (.istore_n 2, 1) := by decide +kernel
theorem dX6_paid_11 : decode cX6_paid 11 = .ok (.iload_n 2, 1) := by decide +kernel
theorem dX6_paid_12 : decode cX6_paid 12 = .ok (.ifCond .ge 9, 3) := by decide +kernel
theorem dX6_paid_15 : decode cX6_paid 15 = .ok (.aload_n 0, 1) := by decide +kernel
theorem dX6_paid_16 : decode cX6_paid 16 = .ok (.iload_n 2, 1) := by decide +kernel
theorem dX6_paid_17 : decode cX6_paid 17 = .ok (.invokevirtual 36, 3) := by decide +kernel
theorem dX6_paid_20 : decode cX6_paid 20 = .ok (.ireturn, 1) := by decide +kernel
theorem dX6_paid_21 : decode cX6_paid 21 = .ok (.aload_n 0, 1) := by decide +kernel
theorem dX6_paid_22 : decode cX6_paid 22 = .ok (.getfield 9, 3) := by decide +kernel
theorem dX6_paid_25 : decode cX6_paid 25 = .ok (.bipush 6, 2) := by decide +kernel
theorem dX6_paid_27 : decode cX6_paid 27 = .ok (.iaload, 1) := by decide +kernel
theorem dX6_paid_28 : decode cX6_paid 28 = .ok (.ifCond .ge 10, 3) := by decide +kernel
theorem dX6_paid_31 : decode cX6_paid 31 = .ok (.aload_n 0, 1) := by decide +kernel
theorem dX6_paid_32 : decode cX6_paid 32 = .ok (.ldc 35, 2) := by decide +kernel
theorem dX6_paid_34 : decode cX6_paid 34 = .ok (.invokevirtual 36, 3) := by decide +kernel
theorem dX6_paid_37 : decode cX6_paid 37 = .ok (.ireturn, 1) := by decide +kernel
theorem dX6_paid_38 : decode cX6_paid 38 = .ok (.aload_n 0, 1) := by decide +kernel
theorem dX6_paid_39 : decode cX6_paid 39 = .ok (.getfield 9, 3) := by decide +kernel
theorem dX6_paid_42 : decode cX6_paid 42 = .ok (.aload_n 0, 1) := by decide +kernel
theorem dX6_paid_43 : decode cX6_paid 43 = .ok (.getfield 16, 3) := by decide +kernel
theorem dX6_paid_46 : decode cX6_paid 46 = .ok (.invokestatic 156, 3) := by decide +kernel
theorem dX6_paid_49 : decode cX6_paid 49 = .ok (.aload_n 0, 1) := by decide +kernel
theorem dX6_paid_50 : decode cX6_paid 50 = .ok (.iload_n 1, 1) := by decide +kernel
theorem dX6_paid_51 : decode cX6_paid 51 = .ok (.invokevirtual 136, 3) := by decide +kernel
theorem dX6_paid_54 : decode cX6_paid 54 = .ok (.pop, 1) := by decide +kernel
theorem dX6_paid_55 : decode cX6_paid 55 = .ok (.aload_n 0, 1) := by decide +kernel
theorem dX6_paid_56 : decode cX6_paid 56 = .ok (.aload_n 0, 1) := by decide +kernel
theorem dX6_paid_57 : decode cX6_paid 57 = .ok (.getfield 9, 3) := by decide +kernel
theorem dX6_paid_60 : decode cX6_paid 60 = .ok (.bipush 6, 2) := by decide +kernel
theorem dX6_paid_62 : decode cX6_paid 62 = .ok (.iaload, 1) := by decide +kernel
theorem dX6_paid_63 : decode cX6_paid 63 = .ok (.invokevirtual 50, 3) := by decide +kernel
theorem dX6_paid_66 : decode cX6_paid 66 = .ok (.istore_n 3, 1) := by decide +kernel
theorem dX6_paid_67 : decode cX6_paid 67 = .ok (.aload_n 0, 1) := by decide +kernel
theorem dX6_paid_68 : decode cX6_paid 68 = .ok (.getfield 16, 3) := by decide +kernel
theorem dX6_paid_71 : decode cX6_paid 71 = .ok (.aload_n 0, 1) := by decide +kernel
theorem dX6_paid_72 : decode cX6_paid 72 = .ok (.getfield 9, 3) := by decide +kernel
theorem dX6_paid_75 : decode cX6_paid 75 = .ok (.invokestatic 156, 3) := by decide +kernel
theorem dX6_paid_78 : decode cX6_paid 78 = .ok (.iconst 0, 1) := by decide +kernel
theorem dX6_paid_79 : decode cX6_paid 79 = .ok (.istore 4, 2) := by decide +kernel
theorem dX6_paid_81 : decode cX6_paid 81 = .ok (.iload 4, 2) := by decide +kernel
theorem dX6_paid_83 : decode cX6_paid 83 = .ok (.aload_n 0, 1) := by decide +kernel
theorem dX6_paid_84 : decode cX6_paid 84 = .ok (.getfield 9, 3) := by decide +kernel
theorem dX6_paid_87 : decode cX6_paid 87 = .ok (.bipush 8, 2) := by decide +kernel
theorem dX6_paid_89 : decode cX6_paid 89 = .ok (.iaload, 1) := by decide +kernel
theorem dX6_paid_90 : decode cX6_paid 90 = .ok (.if_icmp .ge 43, 3) := by decide +kernel
theorem dX6_paid_93 : decode cX6_paid 93 = .ok (.aload_n 0, 1) := by decide +kernel
theorem dX6_paid_94 : decode cX6_paid 94 = .ok (.getfield 9, 3) := by decide +kernel
theorem dX6_paid_97 : decode cX6_paid 97 = .ok (.bipush 40, 2) := by decide +kernel
theorem dX6_paid_99 : decode cX6_paid 99 = .ok (.iconst 3, 1) := by decide +kernel
theorem dX6_paid_100 : decode cX6_paid 100 = .ok (.iload 4, 2) := by decide +kernel
theorem dX6_paid_102 : decode cX6_paid 102 = .ok (.imul, 1) := by decide +kernel
theorem dX6_paid_103 : decode cX6_paid 103 = .ok (.iadd, 1) := by decide +kernel
theorem dX6_paid_104 : decode cX6_paid 104 = .ok (.aload_n 0, 1) := by decide +kernel
theorem dX6_paid_105 : decode cX6_paid 105 = .ok (.iload 4, 2) := by decide +kernel
theorem dX6_paid_107 : decode cX6_paid 107 = .ok (.iconst 0, 1) := by decide +kernel
theorem dX6_paid_108 : decode cX6_paid 108 = .ok (.invokevirtual 90, 3) := by decide +kernel
theorem dX6_paid_111 : decode cX6_paid 111 = .ok (.iconst 3, 1) := by decide +kernel
theorem dX6_paid_112 : decode cX6_paid 112 = .ok (.if_icmp .ne 7, 3) := by decide +kernel
theorem dX6_paid_115 : decode cX6_paid 115 = .ok (.iconst 2, 1) := by decide +kernel
theorem dX6_paid_116 : decode cX6_paid 116 = .ok (.goto 10, 3) := by decide +kernel
theorem dX6_paid_119 : decode cX6_paid 119 = .ok (.aload_n 0, 1) := by decide +kernel
theorem dX6_paid_120 : decode cX6_paid 120 = .ok (.iload 4, 2) := by decide +kernel
theorem dX6_paid_122 : decode cX6_paid 122 = .ok (.iconst 0, 1) := by decide +kernel
theorem dX6_paid_123 : decode cX6_paid 123 = .ok (.invokevirtual 90, 3) := by decide +kernel
theorem dX6_paid_126 : decode cX6_paid 126 = .ok (.iastore, 1) := by decide +kernel
theorem dX6_paid_127 : decode cX6_paid 127 = .ok (.iinc 4 1, 3) := by decide +kernel
theorem dX6_paid_130 : decode cX6_paid 130 = .ok (.goto (-49), 3) := by decide +kernel
theorem dX6_paid_133 : decode cX6_paid 133 = .ok (.aload_n 0, 1) := by decide +kernel
theorem dX6_paid_134 : decode cX6_paid 134 = .ok (.iload_n 1, 1) := by decide +kernel
theorem dX6_paid_135 : decode cX6_paid 135 = .ok (.invokevirtual 136, 3) := by decide +kernel
theorem dX6_paid_138 : decode cX6_paid 138 = .ok (.pop, 1) := by decide +kernel
theorem dX6_paid_139 : decode cX6_paid 139 = .ok (.aload_n 0, 1) := by decide +kernel
theorem dX6_paid_140 : decode cX6_paid 140 = .ok (.aload_n 0, 1) := by decide +kernel
theorem dX6_paid_141 : decode cX6_paid 141 = .ok (.getfield 9, 3) := by decide +kernel
theorem dX6_paid_144 : decode cX6_paid 144 = .ok (.bipush 6, 2) := by decide +kernel
theorem dX6_paid_146 : decode cX6_paid 146 = .ok (.iaload, 1) := by decide +kernel
theorem dX6_paid_147 : decode cX6_paid 147 = .ok (.invokevirtual 50, 3) := by decide +kernel
theorem dX6_paid_150 : decode cX6_paid 150 = .ok (.istore 4, 2) := by decide +kernel
theorem dX6_paid_152 : decode cX6_paid 152 = .ok (.aload_n 0, 1) := by decide +kernel
theorem dX6_paid_153 : decode cX6_paid 153 = .ok (.getfield 16, 3) := by decide +kernel
theorem dX6_paid_156 : decode cX6_paid 156 = .ok (.aload_n 0, 1) := by decide +kernel
theorem dX6_paid_157 : decode cX6_paid 157 = .ok (.getfield 9, 3) := by decide +kernel
theorem dX6_paid_160 : decode cX6_paid 160 = .ok (.invokestatic 156, 3) := by decide +kernel
theorem dX6_paid_163 : decode cX6_paid 163 = .ok (.iload_n 3, 1) := by decide +kernel
theorem dX6_paid_164 : decode cX6_paid 164 = .ok (.iload 4, 2) := by decide +kernel
theorem dX6_paid_166 : decode cX6_paid 166 = .ok (.isub, 1) := by decide +kernel
theorem dX6_paid_167 : decode cX6_paid 167 = .ok (.ireturn, 1) := by decide +kernel
theorem dX6_worry_0 : decode cX6_worry 0 = .ok (.aload_n 0, 1) := by decide +kernel
theorem dX6_worry_1 : decode cX6_worry 1 = .ok (.getfield 9, 3) := by decide +kernel
theorem dX6_worry_4 : decode cX6_worry 4 = .ok (.iconst 0, 1) := by decide +kernel
theorem dX6_worry_5 : decode cX6_worry 5 = .ok (.iaload, 1) := by decide +kernel
theorem dX6_worry_6 : decode cX6_worry 6 = .ok (.sipush 175, 3) := by decide +kernel
theorem dX6_worry_9 : decode cX6_worry 9 = .ok (.iadd, 1) := by decide +kernel
theorem dX6_worry_10 : decode cX6_worry 10 = .ok (.ldc 134, 2) := by decide +kernel
theorem dX6_worry_12 : decode cX6_worry 12 = .ok (.if_icmp .le 10, 3) := by decide +kernel
theorem dX6_worry_15 : decode cX6_worry 15 = .ok (.aload_n 0, 1) := by decide +kernel
theorem dX6_worry_16 : decode cX6_worry 16 = .ok (.ldc 135, 2) := by decide +kernel
theorem dX6_worry_18 : decode cX6_worry 18 = .ok (.invokevirtual 36, 3) := by decide +kernel
theorem dX6_worry_21 : decode cX6_worry 21 = .ok (.ireturn, 1) := by decide +kernel
theorem dX6_worry_22 : decode cX6_worry 22 = .ok (.aload_n 0, 1) := by decide +kernel
theorem dX6_worry_23 : decode cX6_worry 23 = .ok (.getfield 9, 3) := by decide +kernel
theorem dX6_worry_26 : decode cX6_worry 26 = .ok (.aload_n 0, 1) := by decide +kernel
theorem dX6_worry_27 : decode cX6_worry 27 = .ok (.getfield 16, 3) := by decide +kernel
theorem dX6_worry_30 : decode cX6_worry 30 = .ok (.invokestatic 156, 3) := by decide +kernel
theorem dX6_worry_33 : decode cX6_worry 33 = .ok (.iconst (-1), 1) := by decide +kernel
theorem dX6_worry_34 : decode cX6_worry 34 = .ok (.istore_n 1, 1) := by decide +kernel
theorem dX6_worry_35 : decode cX6_worry 35 = .ok (.iconst 1, 1) := by decide +kernel
theorem dX6_worry_36 : decode cX6_worry 36 = .ok (.istore_n 2, 1) := by decide +kernel
theorem dX6_worry_37 : decode cX6_worry 37 = .ok (.iload_n 2, 1) := by decide +kernel
theorem dX6_worry_38 : decode cX6_worry 38 = .ok (.sipush 175, 3) := by decide +kernel
theorem dX6_worry_41 : decode cX6_worry 41 = .ok (.if_icmp .gt 35, 3) := by decide +kernel
theorem dX6_worry_44 : decode cX6_worry 44 = .ok (.iload_n 1, 1) := by decide +kernel
theorem dX6_worry_45 : decode cX6_worry 45 = .ok (.ifCond .ge 31, 3) := by decide +kernel
theorem dX6_worry_48 : decode cX6_worry 48 = .ok (.aload_n 0, 1) := by decide +kernel
theorem dX6_worry_49 : decode cX6_worry 49 = .ok (.aload_n 0, 1) := by decide +kernel
theorem dX6_worry_50 : decode cX6_worry 50 = .ok (.invokevirtual 126, 3) := by decide +kernel
theorem dX6_worry_53 : decode cX6_worry 53 = .ok (.invokevirtual 129, 3) := by decide +kernel
theorem dX6_worry_56 : decode cX6_worry 56 = .ok (.pop, 1) := by decide +kernel
theorem dX6_worry_57 : decode cX6_worry 57 = .ok (.aload_n 0, 1) := by decide +kernel
theorem dX6_worry_58 : decode cX6_worry 58 = .ok (.invokevirtual 144, 3) := by decide +kernel
theorem dX6_worry_61 : decode cX6_worry 61 = .ok (.ifCond .eq 7, 3) := by decide +kernel
theorem dX6_worry_64 : decode cX6_worry 64 = .ok (.iload_n 2, 1) := by decide +kernel
theorem dX6_worry_65 : decode cX6_worry 65 = .ok (.goto 4, 3) := by decide +kernel
theorem dX6_worry_68 : decode cX6_worry 68 = .ok (.iconst (-1), 1) := by decide +kernel
theorem dX6_worry_69 : decode cX6_worry 69 = .ok (.istore_n 1, 1) := by decide +kernel
theorem dX6_worry_70 : decode cX6_worry 70 = .ok (.iinc 2 1, 3) := by decide +kernel
theorem dX6_worry_73 : decode cX6_worry 73 = .ok (.goto (-36), 3) := by decide +kernel
theorem dX6_worry_76 : decode cX6_worry 76 = .ok (.aload_n 0, 1) := by decide +kernel
theorem dX6_worry_77 : decode cX6_worry 77 = .ok (.getfield 16, 3) := by decide +kernel
theorem dX6_worry_80 : decode cX6_worry 80 = .ok (.aload_n 0, 1) := by decide +kernel
theorem dX6_worry_81 : decode cX6_worry 81 = .ok (.getfield 9, 3) := by decide +kernel
theorem dX6_worry_84 : decode cX6_worry 84 = .ok (.invokestatic 156, 3) := by decide +kernel
theorem dX6_worry_87 : decode cX6_worry 87 = .ok (.aload_n 0, 1) := by decide +kernel
theorem dX6_worry_88 : decode cX6_worry 88 = .ok (.iload_n 1, 1) := by decide +kernel
theorem dX6_worry_89 : decode cX6_worry 89 = .ok (.invokevirtual 76, 3) := by decide +kernel
theorem dX6_worry_92 : decode cX6_worry 92 = .ok (.ireturn, 1) := by decide +kernel
theorem dX6_order_0 : decode cX6_order 0 = .ok (.aload_n 0, 1) := by decide +kernel
theorem dX6_order_1 : decode cX6_order 1 = .ok (.iload_n 1, 1) := by decide +kernel
theorem dX6_order_2 : decode cX6_order 2 = .ok (.iconst 1, 1) := by decide +kernel
theorem dX6_order_3 : decode cX6_order 3 = .ok (.bipush 70, 2) := by decide +kernel
theorem dX6_order_5 : decode cX6_order 5 = .ok (.iconst 1, 1) := by decide +kernel
theorem dX6_order_6 : decode cX6_order 6 = .ok (.invokevirtual 152, 3) := by decide +kernel
theorem dX6_order_9 : decode cX6_order 9 = .ok (.istore_n 2, 1) := by decide +kernel
theorem dX6_order_10 : decode cX6_order 10 = .ok (.iload_n 2, 1) := by decide +kernel
theorem dX6_order_11 : decode cX6_order 11 = .ok (.ifCond .ge 9, 3) := by decide +kernel
theorem dX6_order_14 : decode cX6_order 14 = .ok (.aload_n 0, 1) := by decide +kernel
theorem dX6_order_15 : decode cX6_order 15 = .ok (.iload_n 2, 1) := by decide +kernel
theorem dX6_order_16 : decode cX6_order 16 = .ok (.invokevirtual 36, 3) := by decide +kernel
theorem dX6_order_19 : decode cX6_order 19 = .ok (.ireturn, 1) := by decide +kernel
theorem dX6_order_20 : decode cX6_order 20 = .ok (.iconst (-1), 1) := by decide +kernel
theorem dX6_order_21 : decode cX6_order 21 = .ok (.istore_n 3, 1) := by decide +kernel
theorem dX6_order_22 : decode cX6_order 22 = .ok (.aload_n 0, 1) := by decide +kernel
theorem dX6_order_23 : decode cX6_order 23 = .ok (.iload_n 1, 1) := by decide +kernel
theorem dX6_order_24 : decode cX6_order 24 = .ok (.iconst 0, 1) := by decide +kernel
theorem dX6_order_25 : decode cX6_order 25 = .ok (.invokevirtual 166, 3) := by decide +kernel
theorem dX6_order_28 : decode cX6_order 28 = .ok (.istore 4, 2) := by decide +kernel
theorem dX6_order_30 : decode cX6_order 30 = .ok (.iconst 0, 1) := by decide +kernel
theorem dX6_order_31 : decode cX6_order 31 = .ok (.istore 5, 2) := by decide +kernel
theorem dX6_order_33 : decode cX6_order 33 = .ok (.iload 5, 2) := by decide +kernel
theorem dX6_order_35 : decode cX6_order 35 = .ok (.aload_n 0, 1) := by decide +kernel
theorem dX6_order_36 : decode cX6_order 36 = .ok (.getfield 9, 3) := by decide +kernel
theorem dX6_order_39 : decode cX6_order 39 = .ok (.bipush 8, 2) := by decide +kernel
theorem dX6_order_41 : decode cX6_order 41 = .ok (.iaload, 1) := by decide +kernel
theorem dX6_order_42 : decode cX6_order 42 = .ok (.if_icmp .ge 80, 3) := by decide +kernel
theorem dX6_order_45 : decode cX6_order 45 = .ok (.iload 5, 2) := by decide +kernel
theorem dX6_order_47 : decode cX6_order 47 = .ok (.iconst 1, 1) := by decide +kernel
theorem dX6_order_48 : decode cX6_order 48 = .ok (.iadd, 1) := by decide +kernel
theorem dX6_order_49 : decode cX6_order 49 = .ok (.istore 6, 2) := by decide +kernel
theorem dX6_order_51 : decode cX6_order 51 = .ok (.iload 6, 2) := by decide +kernel
theorem dX6_order_53 : decode cX6_order 53 = .ok (.aload_n 0, 1) := by decide +kernel
theorem dX6_order_54 : decode cX6_order 54 = .ok (.getfield 9, 3) := by decide +kernel
theorem dX6_order_57 : decode cX6_order 57 = .ok (.bipush 8, 2) := by decide +kernel
theorem dX6_order_59 : decode cX6_order 59 = .ok (.iaload, 1) := by decide +kernel
theorem dX6_order_60 : decode cX6_order 60 = .ok (.if_icmp .ge 56, 3) := by decide +kernel
theorem dX6_order_63 : decode cX6_order 63 = .ok (.aload_n 0, 1) := by decide +kernel
theorem dX6_order_64 : decode cX6_order 64 = .ok (.iload 5, 2) := by decide +kernel
theorem dX6_order_66 : decode cX6_order 66 = .ok (.iload 6, 2) := by decide +kernel
theorem dX6_order_68 : decode cX6_order 68 = .ok (.invokevirtual 111, 3) := by decide +kernel
theorem dX6_order_71 : decode cX6_order 71 = .ok (.aload_n 0, 1) := by decide +kernel
theorem dX6_order_72 : decode cX6_order 72 = .ok (.iload_n 1, 1) := by decide +kernel
theorem dX6_order_73 : decode cX6_order 73 = .ok (.iconst 0, 1) := by decide +kernel
theorem dX6_order_74 : decode cX6_order 74 = .ok (.invokevirtual 166, 3) := by decide +kernel
theorem dX6_order_77 : decode cX6_order 77 = .ok (.istore 7, 2) := by decide +kernel
theorem dX6_order_79 : decode cX6_order 79 = .ok (.aload_n 0, 1) := by decide +kernel
theorem dX6_order_80 : decode cX6_order 80 = .ok (.iload 5, 2) := by decide +kernel
theorem dX6_order_82 : decode cX6_order 82 = .ok (.iload 6, 2) := by decide +kernel
theorem dX6_order_84 : decode cX6_order 84 = .ok (.invokevirtual 111, 3) := by decide +kernel
theorem dX6_order_87 : decode cX6_order 87 = .ok (.iload 7, 2) := by decide +kernel
theorem dX6_order_89 : decode cX6_order 89 = .ok (.iload 4, 2) := by decide +kernel
theorem dX6_order_91 : decode cX6_order 91 = .ok (.if_icmp .gt 6, 3) := by decide +kernel
theorem dX6_order_94 : decode cX6_order 94 = .ok (.goto 16, 3) := by decide +kernel
theorem dX6_order_97 : decode cX6_order 97 = .ok (.bipush 10, 2) := by decide +kernel
theorem dX6_order_99 : decode cX6_order 99 = .ok (.iload 5, 2) := by decide +kernel
theorem dX6_order_101 : decode cX6_order 101 = .ok (.imul, 1) := by decide +kernel
theorem dX6_order_102 : decode cX6_order 102 = .ok (.iload 6, 2) := by decide +kernel
theorem dX6_order_104 : decode cX6_order 104 = .ok (.iadd, 1) := by decide +kernel
theorem dX6_order_105 : decode cX6_order 105 = .ok (.istore_n 3, 1) := by decide +kernel
theorem dX6_order_106 : decode cX6_order 106 = .ok (.iload 7, 2) := by decide +kernel
theorem dX6_order_108 : decode cX6_order 108 = .ok (.istore 4, 2) := by decide +kernel
theorem dX6_order_110 : decode cX6_order 110 = .ok (.iinc 6 1, 3) := by decide +kernel
theorem dX6_order_113 : decode cX6_order 113 = .ok (.goto (-62), 3) := by decide +kernel
theorem dX6_order_116 : decode cX6_order 116 = .ok (.iinc 5 1, 3) := by decide +kernel
theorem dX6_order_119 : decode cX6_order 119 = .ok (.goto (-86), 3) := by decide +kernel
theorem dX6_order_122 : decode cX6_order 122 = .ok (.aload_n 0, 1) := by decide +kernel
theorem dX6_order_123 : decode cX6_order 123 = .ok (.iload_n 3, 1) := by decide +kernel
theorem dX6_order_124 : decode cX6_order 124 = .ok (.invokevirtual 76, 3) := by decide +kernel
theorem dX6_order_127 : decode cX6_order 127 = .ok (.ireturn, 1) := by decide +kernel
theorem dX6_chance_0 : decode cX6_chance 0 = .ok (.aload_n 0, 1) := by decide +kernel
theorem dX6_chance_1 : decode cX6_chance 1 = .ok (.iload_n 3, 1) := by decide +kernel
theorem dX6_chance_2 : decode cX6_chance 2 = .ok (.iconst 0, 1) := by decide +kernel
theorem dX6_chance_3 : decode cX6_chance 3 = .ok (.bipush 70, 2) := by decide +kernel
theorem dX6_chance_5 : decode cX6_chance 5 = .ok (.iload_n 1, 1) := by decide +kernel
theorem dX6_chance_6 : decode cX6_chance 6 = .ok (.invokestatic 55, 3) := by decide +kernel
theorem dX6_chance_9 : decode cX6_chance 9 = .ok (.ifCond .eq 19, 3) := by decide +kernel
theorem dX6_chance_12 : decode cX6_chance 12 = .ok (.iload_n 2, 1) := by decide +kernel
theorem dX6_chance_13 : decode cX6_chance 13 = .ok (.i2l, 1) := by decide +kernel
theorem dX6_chance_14 : decode cX6_chance 14 = .ok (.lconst 1, 1) := by decide +kernel
theorem dX6_chance_15 : decode cX6_chance 15 = .ok (.ldc2_w 48, 3) := by decide +kernel
theorem dX6_chance_18 : decode cX6_chance 18 = .ok (.invokestatic 42, 3) := by decide +kernel
theorem dX6_chance_21 : decode cX6_chance 21 = .ok (.ifCond .eq 7, 3) := by decide +kernel
theorem dX6_chance_24 : decode cX6_chance 24 = .ok (.iconst 1, 1) := by decide +kernel
theorem dX6_chance_25 : decode cX6_chance 25 = .ok (.goto 4, 3) := by decide +kernel
theorem dX6_chance_28 : decode cX6_chance 28 = .ok (.iconst 0, 1) := by decide +kernel
theorem dX6_chance_29 : decode cX6_chance 29 = .ok (.invokevirtual 152, 3) := by decide +kernel
theorem dX6_chance_32 : decode cX6_chance 32 = .ok (.istore 4, 2) := by decide +kernel
theorem dX6_chance_34 : decode cX6_chance 34 = .ok (.iload 4, 2) := by decide +kernel
theorem dX6_chance_36 : decode cX6_chance 36 = .ok (.ifCond .ge 10, 3) := by decide +kernel
theorem dX6_chance_39 : decode cX6_chance 39 = .ok (.aload_n 0, 1) := by decide +kernel
theorem dX6_chance_40 : decode cX6_chance 40 = .ok (.iload 4, 2) := by decide +kernel
theorem dX6_chance_42 : decode cX6_chance 42 = .ok (.invokevirtual 36, 3) := by decide +kernel
theorem dX6_chance_45 : decode cX6_chance 45 = .ok (.ireturn, 1) := by decide +kernel
theorem dX6_chance_46 : decode cX6_chance 46 = .ok (.iconst 0, 1) := by decide +kernel
theorem dX6_chance_47 : decode cX6_chance 47 = .ok (.istore 5, 2) := by decide +kernel
theorem dX6_chance_49 : decode cX6_chance 49 = .ok (.iconst 0, 1) := by decide +kernel
theorem dX6_chance_50 : decode cX6_chance 50 = .ok (.istore 6, 2) := by decide +kernel
theorem dX6_chance_52 : decode cX6_chance 52 = .ok (.iload 6, 2) := by decide +kernel
theorem dX6_chance_54 : decode cX6_chance 54 = .ok (.iload_n 2, 1) := by decide +kernel
theorem dX6_chance_55 : decode cX6_chance 55 = .ok (.if_icmp .ge 71, 3) := by decide +kernel
theorem dX6_chance_58 : decode cX6_chance 58 = .ok (.aload_n 0, 1) := by decide +kernel
theorem dX6_chance_59 : decode cX6_chance 59 = .ok (.getfield 9, 3) := by decide +kernel
theorem dX6_chance_62 : decode cX6_chance 62 = .ok (.aload_n 0, 1) := by decide +kernel
theorem dX6_chance_63 : decode cX6_chance 63 = .ok (.getfield 16, 3) := by decide +kernel
theorem dX6_chance_66 : decode cX6_chance 66 = .ok (.invokestatic 156, 3) := by decide +kernel
theorem dX6_chance_69 : decode cX6_chance 69 = .ok (.aload_n 0, 1) := by decide +kernel
theorem dX6_chance_70 : decode cX6_chance 70 = .ok (.iload_n 3, 1) := by decide +kernel
theorem dX6_chance_71 : decode cX6_chance 71 = .ok (.invokevirtual 136, 3) := by decide +kernel
theorem dX6_chance_74 : decode cX6_chance 74 = .ok (.pop, 1) := by decide +kernel
theorem dX6_chance_75 : decode cX6_chance 75 = .ok (.iload 5, 2) := by decide +kernel
theorem dX6_chance_77 : decode cX6_chance 77 = .ok (.aload_n 0, 1) := by decide +kernel
theorem dX6_chance_78 : decode cX6_chance 78 = .ok (.iload_n 1, 1) := by decide +kernel
theorem dX6_chance_79 : decode cX6_chance 79 = .ok (.invokevirtual 65, 3) := by decide +kernel
theorem dX6_chance_82 : decode cX6_chance 82 = .ok (.ifCond .eq 7, 3) := by decide +kernel
theorem dX6_chance_85 : decode cX6_chance 85 = .ok (.iconst 1, 1) := by decide +kernel
theorem dX6_chance_86 : decode cX6_chance 86 = .ok (.goto 4, 3) := by decide +kernel
theorem dX6_chance_89 : decode cX6_chance 89 = .ok (.iconst 0, 1) := by decide +kernel
theorem dX6_chance_90 : decode cX6_chance 90 = .ok (.iadd, 1) := by decide +kernel
theorem dX6_chance_91 : decode cX6_chance 91 = .ok (.istore 5, 2) := by decide +kernel
theorem dX6_chance_93 : decode cX6_chance 93 = .ok (.aload_n 0, 1) := by decide +kernel
theorem dX6_chance_94 : decode cX6_chance 94 = .ok (.getfield 9, 3) := by decide +kernel
theorem dX6_chance_97 : decode cX6_chance 97 = .ok (.iconst 1, 1) := by decide +kernel
theorem dX6_chance_98 : decode cX6_chance 98 = .ok (.iaload, 1) := by decide +kernel
theorem dX6_chance_99 : decode cX6_chance 99 = .ok (.istore 7, 2) := by decide +kernel
theorem dX6_chance_101 : decode cX6_chance 101 = .ok (.aload_n 0, 1) := by decide +kernel
theorem dX6_chance_102 : decode cX6_chance 102 = .ok (.getfield 16, 3) := by decide +kernel
theorem dX6_chance_105 : decode cX6_chance 105 = .ok (.aload_n 0, 1) := by decide +kernel
theorem dX6_chance_106 : decode cX6_chance 106 = .ok (.getfield 9, 3) := by decide +kernel
theorem dX6_chance_109 : decode cX6_chance 109 = .ok (.invokestatic 156, 3) := by decide +kernel
theorem dX6_chance_112 : decode cX6_chance 112 = .ok (.aload_n 0, 1) := by decide +kernel
theorem dX6_chance_113 : decode cX6_chance 113 = .ok (.getfield 9, 3) := by decide +kernel
theorem dX6_chance_116 : decode cX6_chance 116 = .ok (.iconst 1, 1) := by decide +kernel
theorem dX6_chance_117 : decode cX6_chance 117 = .ok (.iload 7, 2) := by decide +kernel
theorem dX6_chance_119 : decode cX6_chance 119 = .ok (.iastore, 1) := by decide +kernel
theorem dX6_chance_120 : decode cX6_chance 120 = .ok (.iinc 6 1, 3) := by decide +kernel
theorem dX6_chance_123 : decode cX6_chance 123 = .ok (.goto (-71), 3) := by decide +kernel
theorem dX6_chance_126 : decode cX6_chance 126 = .ok (.iload 5, 2) := by decide +kernel
theorem dX6_chance_128 : decode cX6_chance 128 = .ok (.ireturn, 1) := by decide +kernel
theorem dX6_seed_0 : decode cX6_seed 0 = .ok (.aload_n 0, 1) := by decide +kernel
theorem dX6_seed_1 : decode cX6_seed 1 = .ok (.iconst 1, 1) := by decide +kernel
theorem dX6_seed_2 : decode cX6_seed 2 = .ok (.iload_n 1, 1) := by decide +kernel
theorem dX6_seed_3 : decode cX6_seed 3 = .ok (.invokevirtual 59, 3) := by decide +kernel
theorem dX6_seed_6 : decode cX6_seed 6 = .ok (.ireturn, 1) := by decide +kernel
theorem dX6_feed_0 : decode cX6_feed 0 = .ok (.iload_n 2, 1) := by decide +kernel
theorem dX6_feed_1 : decode cX6_feed 1 = .ok (.i2l, 1) := by decide +kernel
theorem dX6_feed_2 : decode cX6_feed 2 = .ok (.lconst 1, 1) := by decide +kernel
theorem dX6_feed_3 : decode cX6_feed 3 = .ok (.ldc2_w 102, 3) := by decide +kernel
theorem dX6_feed_6 : decode cX6_feed 6 = .ok (.invokestatic 42, 3) := by decide +kernel
theorem dX6_feed_9 : decode cX6_feed 9 = .ok (.ifCond .ne 10, 3) := by decide +kernel
theorem dX6_feed_12 : decode cX6_feed 12 = .ok (.aload_n 0, 1) := by decide +kernel
theorem dX6_feed_13 : decode cX6_feed 13 = .ok (.ldc 34, 2) := by decide +kernel
theorem dX6_feed_15 : decode cX6_feed 15 = .ok (.invokevirtual 36, 3) := by decide +kernel
theorem dX6_feed_18 : decode cX6_feed 18 = .ok (.ireturn, 1) := by decide +kernel
theorem dX6_feed_19 : decode cX6_feed 19 = .ok (.aload_n 0, 1) := by decide +kernel
theorem dX6_feed_20 : decode cX6_feed 20 = .ok (.getfield 173, 3) := by decide +kernel
theorem dX6_feed_23 : decode cX6_feed 23 = .ok (.iload_n 2, 1) := by decide +kernel
theorem dX6_feed_24 : decode cX6_feed 24 = .ok (.iadd, 1) := by decide +kernel
theorem dX6_feed_25 : decode cX6_feed 25 = .ok (.bipush 120, 2) := by decide +kernel
theorem dX6_feed_27 : decode cX6_feed 27 = .ok (.if_icmp .le 10, 3) := by decide +kernel
theorem dX6_feed_30 : decode cX6_feed 30 = .ok (.aload_n 0, 1) := by decide +kernel
theorem dX6_feed_31 : decode cX6_feed 31 = .ok (.ldc 85, 2) := by decide +kernel
theorem dX6_feed_33 : decode cX6_feed 33 = .ok (.invokevirtual 36, 3) := by decide +kernel
theorem dX6_feed_36 : decode cX6_feed 36 = .ok (.ireturn, 1) := by decide +kernel
theorem dX6_feed_37 : decode cX6_feed 37 = .ok (.iload_n 2, 1) := by decide +kernel
theorem dX6_feed_38 : decode cX6_feed 38 = .ok (.iconst 1, 1) := by decide +kernel
theorem dX6_feed_39 : decode cX6_feed 39 = .ok (.isub, 1) := by decide +kernel
theorem dX6_feed_40 : decode cX6_feed 40 = .ok (.istore_n 3, 1) := by decide +kernel
theorem dX6_feed_41 : decode cX6_feed 41 = .ok (.iload_n 3, 1) := by decide +kernel
theorem dX6_feed_42 : decode cX6_feed 42 = .ok (.ifCond .lt 38, 3) := by decide +kernel
theorem dX6_feed_45 : decode cX6_feed 45 = .ok (.aload_n 0, 1) := by decide +kernel
theorem dX6_feed_46 : decode cX6_feed 46 = .ok (.getfield 22, 3) := by decide +kernel
theorem dX6_feed_49 : decode cX6_feed 49 = .ok (.aload_n 0, 1) := by decide +kernel
theorem dX6_feed_50 : decode cX6_feed 50 = .ok (.getfield 173, 3) := by decide +kernel
theorem dX6_feed_53 : decode cX6_feed 53 = .ok (.iload_n 1, 1) := by decide +kernel
theorem dX6_feed_54 : decode cX6_feed 54 = .ok (.bipush 8, 2) := by decide +kernel
theorem dX6_feed_56 : decode cX6_feed 56 = .ok (.iload_n 3, 1) := by decide +kernel
theorem dX6_feed_57 : decode cX6_feed 57 = .ok (.imul, 1) := by decide +kernel
theorem dX6_feed_58 : decode cX6_feed 58 = .ok (.ishr, 1) := by decide +kernel
theorem dX6_feed_59 : decode cX6_feed 59 = .ok (.sipush 255, 3) := by decide +kernel
theorem dX6_feed_62 : decode cX6_feed 62 = .ok (.iand, 1) := by decide +kernel
theorem dX6_feed_63 : decode cX6_feed 63 = .ok (.iastore, 1) := by decide +kernel
theorem dX6_feed_64 : decode cX6_feed 64 = .ok (.aload_n 0, 1) := by decide +kernel
theorem dX6_feed_65 : decode cX6_feed 65 = .ok (.dup, 1) := by decide +kernel
theorem dX6_feed_66 : decode cX6_feed 66 = .ok (.getfield 173, 3) := by decide +kernel
theorem dX6_feed_69 : decode cX6_feed 69 = .ok (.iconst 1, 1) := by decide +kernel
theorem dX6_feed_70 : decode cX6_feed 70 = .ok (.iadd, 1) := by decide +kernel
theorem dX6_feed_71 : decode cX6_feed 71 = .ok (.putfield 173, 3) := by decide +kernel
theorem dX6_feed_74 : decode cX6_feed 74 = .ok (.iinc 3 (-1), 3) := by decide +kernel
theorem dX6_feed_77 : decode cX6_feed 77 = .ok (.goto (-36), 3) := by decide +kernel
theorem dX6_feed_80 : decode cX6_feed 80 = .ok (.aload_n 0, 1) := by decide +kernel
theorem dX6_feed_81 : decode cX6_feed 81 = .ok (.getfield 173, 3) := by decide +kernel
theorem dX6_feed_84 : decode cX6_feed 84 = .ok (.ireturn, 1) := by decide +kernel
theorem dX6_wipe_0 : decode cX6_wipe 0 = .ok (.aload_n 0, 1) := by decide +kernel
theorem dX6_wipe_1 : decode cX6_wipe 1 = .ok (.getfield 173, 3) := by decide +kernel
theorem dX6_wipe_4 : decode cX6_wipe 4 = .ok (.istore_n 1, 1) := by decide +kernel
theorem dX6_wipe_5 : decode cX6_wipe 5 = .ok (.aload_n 0, 1) := by decide +kernel
theorem dX6_wipe_6 : decode cX6_wipe 6 = .ok (.iconst 0, 1) := by decide +kernel
theorem dX6_wipe_7 : decode cX6_wipe 7 = .ok (.putfield 173, 3) := by decide +kernel
theorem dX6_wipe_10 : decode cX6_wipe 10 = .ok (.iload_n 1, 1) := by decide +kernel
theorem dX6_wipe_11 : decode cX6_wipe 11 = .ok (.ireturn, 1) := by decide +kernel
theorem dX6_isByte_0 : decode cX6_isByte 0 = .ok (.iload_n 1, 1) := by decide +kernel
theorem dX6_isByte_1 : decode cX6_isByte 1 = .ok (.aload_n 0, 1) := by decide +kernel
theorem dX6_isByte_2 : decode cX6_isByte 2 = .ok (.getfield 173, 3) := by decide +kernel
theorem dX6_isByte_5 : decode cX6_isByte 5 = .ok (.if_icmp .ge 24, 3) := by decide +kernel
theorem dX6_isByte_8 : decode cX6_isByte 8 = .ok (.aload_n 0, 1) := by decide +kernel
theorem dX6_isByte_9 : decode cX6_isByte 9 = .ok (.getfield 22, 3) := by decide +kernel
theorem dX6_isByte_12 : decode cX6_isByte 12 = .ok (.iload_n 1, 1) := by decide +kernel
theorem dX6_isByte_13 : decode cX6_isByte 13 = .ok (.iaload, 1) := by decide +kernel
theorem dX6_isByte_14 : decode cX6_isByte 14 = .ok (.i2l, 1) := by decide +kernel
theorem dX6_isByte_15 : decode cX6_isByte 15 = .ok (.iload_n 2, 1) := by decide +kernel
theorem dX6_isByte_16 : decode cX6_isByte 16 = .ok (.i2l, 1) := by decide +kernel
theorem dX6_isByte_17 : decode cX6_isByte 17 = .ok (.iload_n 3, 1) := by decide +kernel
theorem dX6_isByte_18 : decode cX6_isByte 18 = .ok (.i2l, 1) := by decide +kernel
theorem dX6_isByte_19 : decode cX6_isByte 19 = .ok (.invokestatic 42, 3) := by decide +kernel
theorem dX6_isByte_22 : decode cX6_isByte 22 = .ok (.ifCond .eq 7, 3) := by decide +kernel
theorem dX6_isByte_25 : decode cX6_isByte 25 = .ok (.iconst 1, 1) := by decide +kernel
theorem dX6_isByte_26 : decode cX6_isByte 26 = .ok (.goto 4, 3) := by decide +kernel
theorem dX6_isByte_29 : decode cX6_isByte 29 = .ok (.iconst 0, 1) := by decide +kernel
theorem dX6_isByte_30 : decode cX6_isByte 30 = .ok (.ireturn, 1) := by decide +kernel
theorem dX6_token_0 : decode cX6_token 0 = .ok (.aload_n 0, 1) := by decide +kernel
theorem dX6_token_1 : decode cX6_token 1 = .ok (.aload_n 0, 1) := by decide +kernel
theorem dX6_token_2 : decode cX6_token 2 = .ok (.getfield 177, 3) := by decide +kernel
theorem dX6_token_5 : decode cX6_token 5 = .ok (.putfield 180, 3) := by decide +kernel
theorem dX6_token_8 : decode cX6_token 8 = .ok (.aload_n 0, 1) := by decide +kernel
theorem dX6_token_9 : decode cX6_token 9 = .ok (.aload_n 0, 1) := by decide +kernel
theorem dX6_token_10 : decode cX6_token 10 = .ok (.getfield 180, 3) := by decide +kernel
theorem dX6_token_13 : decode cX6_token 13 = .ok (.bipush 32, 2) := by decide +kernel
theorem dX6_token_15 : decode cX6_token 15 = .ok (.bipush 32, 2) := by decide +kernel
theorem dX6_token_17 : decode cX6_token 17 = .ok (.invokevirtual 183, 3) := by decide +kernel
theorem dX6_token_20 : decode cX6_token 20 = .ok (.ifCond .eq 16, 3) := by decide +kernel
theorem dX6_token_23 : decode cX6_token 23 = .ok (.aload_n 0, 1) := by decide +kernel
theorem dX6_token_24 : decode cX6_token 24 = .ok (.dup, 1) := by decide +kernel
theorem dX6_token_25 : decode cX6_token 25 = .ok (.getfield 180, 3) := by decide +kernel
theorem dX6_token_28 : decode cX6_token 28 = .ok (.iconst 1, 1) := by decide +kernel
theorem dX6_token_29 : decode cX6_token 29 = .ok (.iadd, 1) := by decide +kernel
theorem dX6_token_30 : decode cX6_token 30 = .ok (.putfield 180, 3) := by decide +kernel
theorem dX6_token_33 : decode cX6_token 33 = .ok (.goto (-25), 3) := by decide +kernel
theorem dX6_token_36 : decode cX6_token 36 = .ok (.aload_n 0, 1) := by decide +kernel
theorem dX6_token_37 : decode cX6_token 37 = .ok (.aload_n 0, 1) := by decide +kernel
theorem dX6_token_38 : decode cX6_token 38 = .ok (.getfield 180, 3) := by decide +kernel
theorem dX6_token_41 : decode cX6_token 41 = .ok (.putfield 177, 3) := by decide +kernel
theorem dX6_token_44 : decode cX6_token 44 = .ok (.aload_n 0, 1) := by decide +kernel
theorem dX6_token_45 : decode cX6_token 45 = .ok (.iconst 0, 1) := by decide +kernel
theorem dX6_token_46 : decode cX6_token 46 = .ok (.putfield 187, 3) := by decide +kernel
theorem dX6_token_49 : decode cX6_token 49 = .ok (.aload_n 0, 1) := by decide +kernel
theorem dX6_token_50 : decode cX6_token 50 = .ok (.aload_n 0, 1) := by decide +kernel
theorem dX6_token_51 : decode cX6_token 51 = .ok (.getfield 180, 3) := by decide +kernel
theorem dX6_token_54 : decode cX6_token 54 = .ok (.aload_n 0, 1) := by decide +kernel
theorem dX6_token_55 : decode cX6_token 55 = .ok (.getfield 173, 3) := by decide +kernel
theorem dX6_token_58 : decode cX6_token 58 = .ok (.if_icmp .ne 7, 3) := by decide +kernel
theorem dX6_token_61 : decode cX6_token 61 = .ok (.iconst 0, 1) := by decide +kernel
theorem dX6_token_62 : decode cX6_token 62 = .ok (.goto 42, 3) := by decide +kernel
theorem dX6_token_65 : decode cX6_token 65 = .ok (.aload_n 0, 1) := by decide +kernel
theorem dX6_token_66 : decode cX6_token 66 = .ok (.aload_n 0, 1) := by decide +kernel
theorem dX6_token_67 : decode cX6_token 67 = .ok (.getfield 180, 3) := by decide +kernel
theorem dX6_token_70 : decode cX6_token 70 = .ok (.bipush 97, 2) := by decide +kernel
theorem dX6_token_72 : decode cX6_token 72 = .ok (.bipush 122, 2) := by decide +kernel
theorem dX6_token_74 : decode cX6_token 74 = .ok (.invokevirtual 183, 3) := by decide +kernel
theorem dX6_token_77 : decode cX6_token 77 = .ok (.ifCond .eq 7, 3) := by decide +kernel
theorem dX6_token_80 : decode cX6_token 80 = .ok (.iconst 1, 1) := by decide +kernel
theorem dX6_token_81 : decode cX6_token 81 = .ok (.goto 23, 3) := by decide +kernel
theorem dX6_token_84 : decode cX6_token 84 = .ok (.aload_n 0, 1) := by decide +kernel
theorem dX6_token_85 : decode cX6_token 85 = .ok (.aload_n 0, 1) := by decide +kernel
theorem dX6_token_86 : decode cX6_token 86 = .ok (.getfield 180, 3) := by decide +kernel
theorem dX6_token_89 : decode cX6_token 89 = .ok (.bipush 48, 2) := by decide +kernel
theorem dX6_token_91 : decode cX6_token 91 = .ok (.bipush 57, 2) := by decide +kernel
theorem dX6_token_93 : decode cX6_token 93 = .ok (.invokevirtual 183, 3) := by decide +kernel
theorem dX6_token_96 : decode cX6_token 96 = .ok (.ifCond .eq 7, 3) := by decide +kernel
theorem dX6_token_99 : decode cX6_token 99 = .ok (.iconst 2, 1) := by decide +kernel
theorem dX6_token_100 : decode cX6_token 100 = .ok (.goto 4, 3) := by decide +kernel
theorem dX6_token_103 : decode cX6_token 103 = .ok (.iconst 3, 1) := by decide +kernel
theorem dX6_token_104 : decode cX6_token 104 = .ok (.putfield 190, 3) := by decide +kernel
theorem dX6_token_107 : decode cX6_token 107 = .ok (.aload_n 0, 1) := by decide +kernel
theorem dX6_token_108 : decode cX6_token 108 = .ok (.getfield 190, 3) := by decide +kernel
theorem dX6_token_111 : decode cX6_token 111 = .ok (.iconst 3, 1) := by decide +kernel
theorem dX6_token_112 : decode cX6_token 112 = .ok (.if_icmp .ne 13, 3) := by decide +kernel
theorem dX6_token_115 : decode cX6_token 115 = .ok (.aload_n 0, 1) := by decide +kernel
theorem dX6_token_116 : decode cX6_token 116 = .ok (.dup, 1) := by decide +kernel
theorem dX6_token_117 : decode cX6_token 117 = .ok (.getfield 177, 3) := by decide +kernel
theorem dX6_token_120 : decode cX6_token 120 = .ok (.iconst 1, 1) := by decide +kernel
theorem dX6_token_121 : decode cX6_token 121 = .ok (.iadd, 1) := by decide +kernel
theorem dX6_token_122 : decode cX6_token 122 = .ok (.putfield 177, 3) := by decide +kernel
theorem dX6_token_125 : decode cX6_token 125 = .ok (.aload_n 0, 1) := by decide +kernel
theorem dX6_token_126 : decode cX6_token 126 = .ok (.getfield 190, 3) := by decide +kernel
theorem dX6_token_129 : decode cX6_token 129 = .ok (.iconst 1, 1) := by decide +kernel
theorem dX6_token_130 : decode cX6_token 130 = .ok (.if_icmp .ne 31, 3) := by decide +kernel
theorem dX6_token_133 : decode cX6_token 133 = .ok (.aload_n 0, 1) := by decide +kernel
theorem dX6_token_134 : decode cX6_token 134 = .ok (.aload_n 0, 1) := by decide +kernel
theorem dX6_token_135 : decode cX6_token 135 = .ok (.getfield 177, 3) := by decide +kernel
theorem dX6_token_138 : decode cX6_token 138 = .ok (.bipush 97, 2) := by decide +kernel
theorem dX6_token_140 : decode cX6_token 140 = .ok (.bipush 122, 2) := by decide +kernel
theorem dX6_token_142 : decode cX6_token 142 = .ok (.invokevirtual 183, 3) := by decide +kernel
theorem dX6_token_145 : decode cX6_token 145 = .ok (.ifCond .eq 16, 3) := by decide +kernel
theorem dX6_token_148 : decode cX6_token 148 = .ok (.aload_n 0, 1) := by decide +kernel
theorem dX6_token_149 : decode cX6_token 149 = .ok (.dup, 1) := by decide +kernel
theorem dX6_token_150 : decode cX6_token 150 = .ok (.getfield 177, 3) := by decide +kernel
theorem dX6_token_153 : decode cX6_token 153 = .ok (.iconst 1, 1) := by decide +kernel
theorem dX6_token_154 : decode cX6_token 154 = .ok (.iadd, 1) := by decide +kernel
theorem dX6_token_155 : decode cX6_token 155 = .ok (.putfield 177, 3) := by decide +kernel
theorem dX6_token_158 : decode cX6_token 158 = .ok (.goto (-33), 3) := by decide +kernel
theorem dX6_token_161 : decode cX6_token 161 = .ok (.aload_n 0, 1) := by decide +kernel
theorem dX6_token_162 : decode cX6_token 162 = .ok (.getfield 190, 3) := by decide +kernel
theorem dX6_token_165 : decode cX6_token 165 = .ok (.iconst 2, 1) := by decide +kernel
theorem dX6_token_166 : decode cX6_token 166 = .ok (.if_icmp .ne 72, 3) := by decide +kernel
theorem dX6_token_169 : decode cX6_token 169 = .ok (.aload_n 0, 1) := by decide +kernel
theorem dX6_token_170 : decode cX6_token 170 = .ok (.aload_n 0, 1) := by decide +kernel
theorem dX6_token_171 : decode cX6_token 171 = .ok (.getfield 177, 3) := by decide +kernel
theorem dX6_token_174 : decode cX6_token 174 = .ok (.bipush 48, 2) := by decide +kernel
theorem dX6_token_176 : decode cX6_token 176 = .ok (.bipush 57, 2) := by decide +kernel
theorem dX6_token_178 : decode cX6_token 178 = .ok (.invokevirtual 183, 3) := by decide +kernel
theorem dX6_token_181 : decode cX6_token 181 = .ok (.ifCond .eq 57, 3) := by decide +kernel
theorem dX6_token_184 : decode cX6_token 184 = .ok (.aload_n 0, 1) := by decide +kernel
theorem dX6_token_185 : decode cX6_token 185 = .ok (.aload_n 0, 1) := by decide +kernel
theorem dX6_token_186 : decode cX6_token 186 = .ok (.getfield 187, 3) := by decide +kernel
theorem dX6_token_189 : decode cX6_token 189 = .ok (.sipush 9999, 3) := by decide +kernel
theorem dX6_token_192 : decode cX6_token 192 = .ok (.if_icmp .le 10, 3) := by decide +kernel
theorem dX6_token_195 : decode cX6_token 195 = .ok (.aload_n 0, 1) := by decide +kernel
theorem dX6_token_196 : decode cX6_token 196 = .ok (.getfield 187, 3) := by decide +kernel
theorem dX6_token_199 : decode cX6_token 199 = .ok (.goto 23, 3) := by decide +kernel
theorem dX6_token_202 : decode cX6_token 202 = .ok (.bipush 10, 2) := by decide +kernel
theorem dX6_token_204 : decode cX6_token 204 = .ok (.aload_n 0, 1) := by decide +kernel
theorem dX6_token_205 : decode cX6_token 205 = .ok (.getfield 187, 3) := by decide +kernel
theorem dX6_token_208 : decode cX6_token 208 = .ok (.imul, 1) := by decide +kernel
theorem dX6_token_209 : decode cX6_token 209 = .ok (.aload_n 0, 1) := by decide +kernel
theorem dX6_token_210 : decode cX6_token 210 = .ok (.getfield 22, 3) := by decide +kernel
theorem dX6_token_213 : decode cX6_token 213 = .ok (.aload_n 0, 1) := by decide +kernel
theorem dX6_token_214 : decode cX6_token 214 = .ok (.getfield 177, 3) := by decide +kernel
theorem dX6_token_217 : decode cX6_token 217 = .ok (.iaload, 1) := by decide +kernel
theorem dX6_token_218 : decode cX6_token 218 = .ok (.iadd, 1) := by decide +kernel
theorem dX6_token_219 : decode cX6_token 219 = .ok (.bipush 48, 2) := by decide +kernel
theorem dX6_token_221 : decode cX6_token 221 = .ok (.isub, 1) := by decide +kernel
theorem dX6_token_222 : decode cX6_token 222 = .ok (.putfield 187, 3) := by decide +kernel
theorem dX6_token_225 : decode cX6_token 225 = .ok (.aload_n 0, 1) := by decide +kernel
theorem dX6_token_226 : decode cX6_token 226 = .ok (.dup, 1) := by decide +kernel
theorem dX6_token_227 : decode cX6_token 227 = .ok (.getfield 177, 3) := by decide +kernel
theorem dX6_token_230 : decode cX6_token 230 = .ok (.iconst 1, 1) := by decide +kernel
theorem dX6_token_231 : decode cX6_token 231 = .ok (.iadd, 1) := by decide +kernel
theorem dX6_token_232 : decode cX6_token 232 = .ok (.putfield 177, 3) := by decide +kernel
theorem dX6_token_235 : decode cX6_token 235 = .ok (.goto (-74), 3) := by decide +kernel
theorem dX6_token_238 : decode cX6_token 238 = .ok (.return_, 1) := by decide +kernel
theorem dX6_isWord_0 : decode cX6_isWord 0 = .ok (.aload_n 0, 1) := by decide +kernel
theorem dX6_isWord_1 : decode cX6_isWord 1 = .ok (.getfield 193, 3) := by decide +kernel
theorem dX6_isWord_4 : decode cX6_isWord 4 = .ok (.ifCond .ne 31, 3) := by decide +kernel
theorem dX6_isWord_7 : decode cX6_isWord 7 = .ok (.aload_n 0, 1) := by decide +kernel
theorem dX6_isWord_8 : decode cX6_isWord 8 = .ok (.getfield 190, 3) := by decide +kernel
theorem dX6_isWord_11 : decode cX6_isWord 11 = .ok (.iconst 1, 1) := by decide +kernel
theorem dX6_isWord_12 : decode cX6_isWord 12 = .ok (.if_icmp .ne 23, 3) := by decide +kernel
theorem dX6_isWord_15 : decode cX6_isWord 15 = .ok (.aload_n 0, 1) := by decide +kernel
theorem dX6_isWord_16 : decode cX6_isWord 16 = .ok (.getfield 177, 3) := by decide +kernel
theorem dX6_isWord_19 : decode cX6_isWord 19 = .ok (.aload_n 0, 1) := by decide +kernel
theorem dX6_isWord_20 : decode cX6_isWord 20 = .ok (.getfield 180, 3) := by decide +kernel
theorem dX6_isWord_23 : decode cX6_isWord 23 = .ok (.isub, 1) := by decide +kernel
theorem dX6_isWord_24 : decode cX6_isWord 24 = .ok (.aload_n 1, 1) := by decide +kernel
theorem dX6_isWord_25 : decode cX6_isWord 25 = .ok (.invokevirtual 197, 3) := by decide +kernel
theorem dX6_isWord_28 : decode cX6_isWord 28 = .ok (.if_icmp .ne 7, 3) := by decide +kernel
theorem dX6_isWord_31 : decode cX6_isWord 31 = .ok (.iconst 1, 1) := by decide +kernel
theorem dX6_isWord_32 : decode cX6_isWord 32 = .ok (.goto 4, 3) := by decide +kernel
theorem dX6_isWord_35 : decode cX6_isWord 35 = .ok (.iconst 0, 1) := by decide +kernel
theorem dX6_isWord_36 : decode cX6_isWord 36 = .ok (.istore_n 2, 1) := by decide +kernel
theorem dX6_isWord_37 : decode cX6_isWord 37 = .ok (.iconst 0, 1) := by decide +kernel
theorem dX6_isWord_38 : decode cX6_isWord 38 = .ok (.istore_n 3, 1) := by decide +kernel
theorem dX6_isWord_39 : decode cX6_isWord 39 = .ok (.iload_n 2, 1) := by decide +kernel
theorem dX6_isWord_40 : decode cX6_isWord 40 = .ok (.ifCond .eq 42, 3) := by decide +kernel
theorem dX6_isWord_43 : decode cX6_isWord 43 = .ok (.iload_n 3, 1) := by decide +kernel
theorem dX6_isWord_44 : decode cX6_isWord 44 = .ok (.aload_n 1, 1) := by decide +kernel
theorem dX6_isWord_45 : decode cX6_isWord 45 = .ok (.invokevirtual 197, 3) := by decide +kernel
theorem dX6_isWord_48 : decode cX6_isWord 48 = .ok (.if_icmp .ge 34, 3) := by decide +kernel
theorem dX6_isWord_51 : decode cX6_isWord 51 = .ok (.aload_n 0, 1) := by decide +kernel
theorem dX6_isWord_52 : decode cX6_isWord 52 = .ok (.getfield 22, 3) := by decide +kernel
theorem dX6_isWord_55 : decode cX6_isWord 55 = .ok (.aload_n 0, 1) := by decide +kernel
theorem dX6_isWord_56 : decode cX6_isWord 56 = .ok (.getfield 180, 3) := by decide +kernel
theorem dX6_isWord_59 : decode cX6_isWord 59 = .ok (.iload_n 3, 1) := by decide +kernel
theorem dX6_isWord_60 : decode cX6_isWord 60 = .ok (.iadd, 1) := by decide +kernel
theorem dX6_isWord_61 : decode cX6_isWord 61 = .ok (.iaload, 1) := by decide +kernel
theorem dX6_isWord_62 : decode cX6_isWord 62 = .ok (.aload_n 1, 1) := by decide +kernel
theorem dX6_isWord_63 : decode cX6_isWord 63 = .ok (.iload_n 3, 1) := by decide +kernel
theorem dX6_isWord_64 : decode cX6_isWord 64 = .ok (.invokevirtual 202, 3) := by decide +kernel
theorem dX6_isWord_67 : decode cX6_isWord 67 = .ok (.if_icmp .ne 7, 3) := by decide +kernel
theorem dX6_isWord_70 : decode cX6_isWord 70 = .ok (.iconst 1, 1) := by decide +kernel
theorem dX6_isWord_71 : decode cX6_isWord 71 = .ok (.goto 4, 3) := by decide +kernel
theorem dX6_isWord_74 : decode cX6_isWord 74 = .ok (.iconst 0, 1) := by decide +kernel
theorem dX6_isWord_75 : decode cX6_isWord 75 = .ok (.istore_n 2, 1) := by decide +kernel
theorem dX6_isWord_76 : decode cX6_isWord 76 = .ok (.iinc 3 1, 3) := by decide +kernel
theorem dX6_isWord_79 : decode cX6_isWord 79 = .ok (.goto (-40), 3) := by decide +kernel
theorem dX6_isWord_82 : decode cX6_isWord 82 = .ok (.iload_n 2, 1) := by decide +kernel
theorem dX6_isWord_83 : decode cX6_isWord 83 = .ok (.ireturn, 1) := by decide +kernel
theorem dX6_takes_0 : decode cX6_takes 0 = .ok (.aload_n 0, 1) := by decide +kernel
theorem dX6_takes_1 : decode cX6_takes 1 = .ok (.aload_n 1, 1) := by decide +kernel
theorem dX6_takes_2 : decode cX6_takes 2 = .ok (.invokevirtual 206, 3) := by decide +kernel
theorem dX6_takes_5 : decode cX6_takes 5 = .ok (.ifCond .ne 5, 3) := by decide +kernel
theorem dX6_takes_8 : decode cX6_takes 8 = .ok (.iconst 0, 1) := by decide +kernel
theorem dX6_takes_9 : decode cX6_takes 9 = .ok (.ireturn, 1) := by decide +kernel
theorem dX6_takes_10 : decode cX6_takes 10 = .ok (.aload_n 0, 1) := by decide +kernel
theorem dX6_takes_11 : decode cX6_takes 11 = .ok (.invokevirtual 210, 3) := by decide +kernel
theorem dX6_takes_14 : decode cX6_takes 14 = .ok (.iconst 1, 1) := by decide +kernel
theorem dX6_takes_15 : decode cX6_takes 15 = .ok (.ireturn, 1) := by decide +kernel
theorem dX6_isSign_0 : decode cX6_isSign 0 = .ok (.aload_n 0, 1) := by decide +kernel
theorem dX6_isSign_1 : decode cX6_isSign 1 = .ok (.getfield 193, 3) := by decide +kernel
theorem dX6_isSign_4 : decode cX6_isSign 4 = .ok (.ifCond .ne 28, 3) := by decide +kernel
theorem dX6_isSign_7 : decode cX6_isSign 7 = .ok (.aload_n 0, 1) := by decide +kernel
theorem dX6_isSign_8 : decode cX6_isSign 8 = .ok (.getfield 190, 3) := by decide +kernel
theorem dX6_isSign_11 : decode cX6_isSign 11 = .ok (.iconst 3, 1) := by decide +kernel
theorem dX6_isSign_12 : decode cX6_isSign 12 = .ok (.if_icmp .ne 20, 3) := by decide +kernel
theorem dX6_isSign_15 : decode cX6_isSign 15 = .ok (.aload_n 0, 1) := by decide +kernel
theorem dX6_isSign_16 : decode cX6_isSign 16 = .ok (.getfield 22, 3) := by decide +kernel
theorem dX6_isSign_19 : decode cX6_isSign 19 = .ok (.aload_n 0, 1) := by decide +kernel
theorem dX6_isSign_20 : decode cX6_isSign 20 = .ok (.getfield 180, 3) := by decide +kernel
theorem dX6_isSign_23 : decode cX6_isSign 23 = .ok (.iaload, 1) := by decide +kernel
theorem dX6_isSign_24 : decode cX6_isSign 24 = .ok (.iload_n 1, 1) := by decide +kernel
theorem dX6_isSign_25 : decode cX6_isSign 25 = .ok (.if_icmp .ne 7, 3) := by decide +kernel
theorem dX6_isSign_28 : decode cX6_isSign 28 = .ok (.iconst 1, 1) := by decide +kernel
theorem dX6_isSign_29 : decode cX6_isSign 29 = .ok (.goto 4, 3) := by decide +kernel
theorem dX6_isSign_32 : decode cX6_isSign 32 = .ok (.iconst 0, 1) := by decide +kernel
theorem dX6_isSign_33 : decode cX6_isSign 33 = .ok (.ireturn, 1) := by decide +kernel
theorem dX6_number_0 : decode cX6_number 0 = .ok (.aload_n 0, 1) := by decide +kernel
theorem dX6_number_1 : decode cX6_number 1 = .ok (.aload_n 0, 1) := by decide +kernel
theorem dX6_number_2 : decode cX6_number 2 = .ok (.getfield 193, 3) := by decide +kernel
theorem dX6_number_5 : decode cX6_number 5 = .ok (.ifCond .ne 26, 3) := by decide +kernel
theorem dX6_number_8 : decode cX6_number 8 = .ok (.aload_n 0, 1) := by decide +kernel
theorem dX6_number_9 : decode cX6_number 9 = .ok (.getfield 190, 3) := by decide +kernel
theorem dX6_number_12 : decode cX6_number 12 = .ok (.iconst 2, 1) := by decide +kernel
theorem dX6_number_13 : decode cX6_number 13 = .ok (.if_icmp .ne 18, 3) := by decide +kernel
theorem dX6_number_16 : decode cX6_number 16 = .ok (.aload_n 0, 1) := by decide +kernel
theorem dX6_number_17 : decode cX6_number 17 = .ok (.getfield 187, 3) := by decide +kernel
theorem dX6_number_20 : decode cX6_number 20 = .ok (.i2l, 1) := by decide +kernel
theorem dX6_number_21 : decode cX6_number 21 = .ok (.iload_n 1, 1) := by decide +kernel
theorem dX6_number_22 : decode cX6_number 22 = .ok (.i2l, 1) := by decide +kernel
theorem dX6_number_23 : decode cX6_number 23 = .ok (.iload_n 2, 1) := by decide +kernel
theorem dX6_number_24 : decode cX6_number 24 = .ok (.i2l, 1) := by decide +kernel
theorem dX6_number_25 : decode cX6_number 25 = .ok (.invokestatic 42, 3) := by decide +kernel
theorem dX6_number_28 : decode cX6_number 28 = .ok (.ifCond .ne 7, 3) := by decide +kernel
theorem dX6_number_31 : decode cX6_number 31 = .ok (.iconst 1, 1) := by decide +kernel
theorem dX6_number_32 : decode cX6_number 32 = .ok (.goto 4, 3) := by decide +kernel
theorem dX6_number_35 : decode cX6_number 35 = .ok (.iconst 0, 1) := by decide +kernel
theorem dX6_number_36 : decode cX6_number 36 = .ok (.putfield 193, 3) := by decide +kernel
theorem dX6_number_39 : decode cX6_number 39 = .ok (.aload_n 0, 1) := by decide +kernel
theorem dX6_number_40 : decode cX6_number 40 = .ok (.getfield 187, 3) := by decide +kernel
theorem dX6_number_43 : decode cX6_number 43 = .ok (.istore_n 3, 1) := by decide +kernel
theorem dX6_number_44 : decode cX6_number 44 = .ok (.aload_n 0, 1) := by decide +kernel
theorem dX6_number_45 : decode cX6_number 45 = .ok (.getfield 193, 3) := by decide +kernel
theorem dX6_number_48 : decode cX6_number 48 = .ok (.ifCond .ne 7, 3) := by decide +kernel
theorem dX6_number_51 : decode cX6_number 51 = .ok (.aload_n 0, 1) := by decide +kernel
theorem dX6_number_52 : decode cX6_number 52 = .ok (.invokevirtual 210, 3) := by decide +kernel
theorem dX6_number_55 : decode cX6_number 55 = .ok (.iload_n 3, 1) := by decide +kernel
theorem dX6_number_56 : decode cX6_number 56 = .ok (.ireturn, 1) := by decide +kernel
theorem dX6_tells_0 : decode cX6_tells 0 = .ok (.aload_n 0, 1) := by decide +kernel
theorem dX6_tells_1 : decode cX6_tells 1 = .ok (.getfield 193, 3) := by decide +kernel
theorem dX6_tells_4 : decode cX6_tells 4 = .ok (.ifCond .ne 10, 3) := by decide +kernel
theorem dX6_tells_7 : decode cX6_tells 7 = .ok (.aload_n 0, 1) := by decide +kernel
theorem dX6_tells_8 : decode cX6_tells 8 = .ok (.getfield 9, 3) := by decide +kernel
theorem dX6_tells_11 : decode cX6_tells 11 = .ok (.iload_n 1, 1) := by decide +kernel
theorem dX6_tells_12 : decode cX6_tells 12 = .ok (.iload_n 2, 1) := by decide +kernel
theorem dX6_tells_13 : decode cX6_tells 13 = .ok (.iastore, 1) := by decide +kernel
theorem dX6_tells_14 : decode cX6_tells 14 = .ok (.return_, 1) := by decide +kernel
theorem dX6_kindHere_0 : decode cX6_kindHere 0 = .ok (.aload_n 0, 1) := by decide +kernel
theorem dX6_kindHere_1 : decode cX6_kindHere 1 = .ok (.ldc 213, 2) := by decide +kernel
theorem dX6_kindHere_3 : decode cX6_kindHere 3 = .ok (.invokevirtual 206, 3) := by decide +kernel
theorem dX6_kindHere_6 : decode cX6_kindHere 6 = .ok (.ifCond .eq 5, 3) := by decide +kernel
theorem dX6_kindHere_9 : decode cX6_kindHere 9 = .ok (.iconst 0, 1) := by decide +kernel
theorem dX6_kindHere_10 : decode cX6_kindHere 10 = .ok (.ireturn, 1) := by decide +kernel
theorem dX6_kindHere_11 : decode cX6_kindHere 11 = .ok (.aload_n 0, 1) := by decide +kernel
theorem dX6_kindHere_12 : decode cX6_kindHere 12 = .ok (.ldc 215, 2) := by decide +kernel
theorem dX6_kindHere_14 : decode cX6_kindHere 14 = .ok (.invokevirtual 206, 3) := by decide +kernel
theorem dX6_kindHere_17 : decode cX6_kindHere 17 = .ok (.ifCond .eq 5, 3) := by decide +kernel
theorem dX6_kindHere_20 : decode cX6_kindHere 20 = .ok (.iconst 1, 1) := by decide +kernel
theorem dX6_kindHere_21 : decode cX6_kindHere 21 = .ok (.ireturn, 1) := by decide +kernel
theorem dX6_kindHere_22 : decode cX6_kindHere 22 = .ok (.aload_n 0, 1) := by decide +kernel
theorem dX6_kindHere_23 : decode cX6_kindHere 23 = .ok (.ldc 217, 2) := by decide +kernel
theorem dX6_kindHere_25 : decode cX6_kindHere 25 = .ok (.invokevirtual 206, 3) := by decide +kernel
theorem dX6_kindHere_28 : decode cX6_kindHere 28 = .ok (.ifCond .eq 5, 3) := by decide +kernel
theorem dX6_kindHere_31 : decode cX6_kindHere 31 = .ok (.iconst 2, 1) := by decide +kernel
theorem dX6_kindHere_32 : decode cX6_kindHere 32 = .ok (.ireturn, 1) := by decide +kernel
theorem dX6_kindHere_33 : decode cX6_kindHere 33 = .ok (.aload_n 0, 1) := by decide +kernel
theorem dX6_kindHere_34 : decode cX6_kindHere 34 = .ok (.ldc 219, 2) := by decide +kernel
theorem dX6_kindHere_36 : decode cX6_kindHere 36 = .ok (.invokevirtual 206, 3) := by decide +kernel
theorem dX6_kindHere_39 : decode cX6_kindHere 39 = .ok (.ifCond .eq 5, 3) := by decide +kernel
theorem dX6_kindHere_42 : decode cX6_kindHere 42 = .ok (.iconst 3, 1) := by decide +kernel
theorem dX6_kindHere_43 : decode cX6_kindHere 43 = .ok (.ireturn, 1) := by decide +kernel
theorem dX6_kindHere_44 : decode cX6_kindHere 44 = .ok (.aload_n 0, 1) := by decide +kernel
theorem dX6_kindHere_45 : decode cX6_kindHere 45 = .ok (.ldc 221, 2) := by decide +kernel
theorem dX6_kindHere_47 : decode cX6_kindHere 47 = .ok (.invokevirtual 206, 3) := by decide +kernel
theorem dX6_kindHere_50 : decode cX6_kindHere 50 = .ok (.ifCond .eq 5, 3) := by decide +kernel
theorem dX6_kindHere_53 : decode cX6_kindHere 53 = .ok (.iconst 4, 1) := by decide +kernel
theorem dX6_kindHere_54 : decode cX6_kindHere 54 = .ok (.ireturn, 1) := by decide +kernel
theorem dX6_kindHere_55 : decode cX6_kindHere 55 = .ok (.aload_n 0, 1) := by decide +kernel
theorem dX6_kindHere_56 : decode cX6_kindHere 56 = .ok (.ldc 223, 2) := by decide +kernel
theorem dX6_kindHere_58 : decode cX6_kindHere 58 = .ok (.invokevirtual 206, 3) := by decide +kernel
theorem dX6_kindHere_61 : decode cX6_kindHere 61 = .ok (.ifCond .eq 7, 3) := by decide +kernel
theorem dX6_kindHere_64 : decode cX6_kindHere 64 = .ok (.iconst 5, 1) := by decide +kernel
theorem dX6_kindHere_65 : decode cX6_kindHere 65 = .ok (.goto 18, 3) := by decide +kernel
theorem dX6_kindHere_68 : decode cX6_kindHere 68 = .ok (.aload_n 0, 1) := by decide +kernel
theorem dX6_kindHere_69 : decode cX6_kindHere 69 = .ok (.ldc 225, 2) := by decide +kernel
theorem dX6_kindHere_71 : decode cX6_kindHere 71 = .ok (.invokevirtual 206, 3) := by decide +kernel
theorem dX6_kindHere_74 : decode cX6_kindHere 74 = .ok (.ifCond .eq 8, 3) := by decide +kernel
theorem dX6_kindHere_77 : decode cX6_kindHere 77 = .ok (.bipush 6, 2) := by decide +kernel
theorem dX6_kindHere_79 : decode cX6_kindHere 79 = .ok (.goto 4, 3) := by decide +kernel
theorem dX6_kindHere_82 : decode cX6_kindHere 82 = .ok (.iconst (-1), 1) := by decide +kernel
theorem dX6_kindHere_83 : decode cX6_kindHere 83 = .ok (.ireturn, 1) := by decide +kernel
theorem dX6_foodItem_0 : decode cX6_foodItem 0 = .ok (.aload_n 0, 1) := by decide +kernel
theorem dX6_foodItem_1 : decode cX6_foodItem 1 = .ok (.iconst 0, 1) := by decide +kernel
theorem dX6_foodItem_2 : decode cX6_foodItem 2 = .ok (.bipush 9, 2) := by decide +kernel
theorem dX6_foodItem_4 : decode cX6_foodItem 4 = .ok (.invokevirtual 227, 3) := by decide +kernel
theorem dX6_foodItem_7 : decode cX6_foodItem 7 = .ok (.istore_n 1, 1) := by decide +kernel
theorem dX6_foodItem_8 : decode cX6_foodItem 8 = .ok (.aload_n 0, 1) := by decide +kernel
theorem dX6_foodItem_9 : decode cX6_foodItem 9 = .ok (.ldc 229, 2) := by decide +kernel
theorem dX6_foodItem_11 : decode cX6_foodItem 11 = .ok (.invokevirtual 230, 3) := by decide +kernel
theorem dX6_foodItem_14 : decode cX6_foodItem 14 = .ok (.ifCond .eq 20, 3) := by decide +kernel
theorem dX6_foodItem_17 : decode cX6_foodItem 17 = .ok (.aload_n 0, 1) := by decide +kernel
theorem dX6_foodItem_18 : decode cX6_foodItem 18 = .ok (.bipush 10, 2) := by decide +kernel
theorem dX6_foodItem_20 : decode cX6_foodItem 20 = .ok (.iconst 3, 1) := by decide +kernel
theorem dX6_foodItem_21 : decode cX6_foodItem 21 = .ok (.iload_n 1, 1) := by decide +kernel
theorem dX6_foodItem_22 : decode cX6_foodItem 22 = .ok (.imul, 1) := by decide +kernel
theorem dX6_foodItem_23 : decode cX6_foodItem 23 = .ok (.iadd, 1) := by decide +kernel
theorem dX6_foodItem_24 : decode cX6_foodItem 24 = .ok (.aload_n 0, 1) := by decide +kernel
theorem dX6_foodItem_25 : decode cX6_foodItem 25 = .ok (.iconst 0, 1) := by decide +kernel
theorem dX6_foodItem_26 : decode cX6_foodItem 26 = .ok (.bipush 99, 2) := by decide +kernel
theorem dX6_foodItem_28 : decode cX6_foodItem 28 = .ok (.invokevirtual 227, 3) := by decide +kernel
theorem dX6_foodItem_31 : decode cX6_foodItem 31 = .ok (.invokevirtual 233, 3) := by decide +kernel
theorem dX6_foodItem_34 : decode cX6_foodItem 34 = .ok (.aload_n 0, 1) := by decide +kernel
theorem dX6_foodItem_35 : decode cX6_foodItem 35 = .ok (.ldc 236, 2) := by decide +kernel
theorem dX6_foodItem_37 : decode cX6_foodItem 37 = .ok (.invokevirtual 230, 3) := by decide +kernel
theorem dX6_foodItem_40 : decode cX6_foodItem 40 = .ok (.ifCond .eq 22, 3) := by decide +kernel
theorem dX6_foodItem_43 : decode cX6_foodItem 43 = .ok (.aload_n 0, 1) := by decide +kernel
theorem dX6_foodItem_44 : decode cX6_foodItem 44 = .ok (.bipush 10, 2) := by decide +kernel
theorem dX6_foodItem_46 : decode cX6_foodItem 46 = .ok (.iconst 3, 1) := by decide +kernel
theorem dX6_foodItem_47 : decode cX6_foodItem 47 = .ok (.iload_n 1, 1) := by decide +kernel
theorem dX6_foodItem_48 : decode cX6_foodItem 48 = .ok (.imul, 1) := by decide +kernel
theorem dX6_foodItem_49 : decode cX6_foodItem 49 = .ok (.iadd, 1) := by decide +kernel
theorem dX6_foodItem_50 : decode cX6_foodItem 50 = .ok (.iconst 1, 1) := by decide +kernel
theorem dX6_foodItem_51 : decode cX6_foodItem 51 = .ok (.iadd, 1) := by decide +kernel
theorem dX6_foodItem_52 : decode cX6_foodItem 52 = .ok (.aload_n 0, 1) := by decide +kernel
theorem dX6_foodItem_53 : decode cX6_foodItem 53 = .ok (.iconst 0, 1) := by decide +kernel
theorem dX6_foodItem_54 : decode cX6_foodItem 54 = .ok (.bipush 9, 2) := by decide +kernel
theorem dX6_foodItem_56 : decode cX6_foodItem 56 = .ok (.invokevirtual 227, 3) := by decide +kernel
theorem dX6_foodItem_59 : decode cX6_foodItem 59 = .ok (.invokevirtual 233, 3) := by decide +kernel
theorem dX6_foodItem_62 : decode cX6_foodItem 62 = .ok (.return_, 1) := by decide +kernel
theorem dX6_friendItem_0 : decode cX6_friendItem 0 = .ok (.iconst 0, 1) := by decide +kernel
theorem dX6_friendItem_1 : decode cX6_friendItem 1 = .ok (.istore_n 1, 1) := by decide +kernel
theorem dX6_friendItem_2 : decode cX6_friendItem 2 = .ok (.iconst 0, 1) := by decide +kernel
theorem dX6_friendItem_3 : decode cX6_friendItem 3 = .ok (.istore_n 2, 1) := by decide +kernel
theorem dX6_friendItem_4 : decode cX6_friendItem 4 = .ok (.iconst 1, 1) := by decide +kernel
theorem dX6_friendItem_5 : decode cX6_friendItem 5 = .ok (.istore_n 3, 1) := by decide +kernel
theorem dX6_friendItem_6 : decode cX6_friendItem 6 = .ok (.iload_n 3, 1) := by decide +kernel
theorem dX6_friendItem_7 : decode cX6_friendItem 7 = .ok (.ifCond .eq 59, 3) := by decide +kernel
theorem dX6_friendItem_10 : decode cX6_friendItem 10 = .ok (.aload_n 0, 1) := by decide +kernel
theorem dX6_friendItem_11 : decode cX6_friendItem 11 = .ok (.iload_n 2, 1) := by decide +kernel
theorem dX6_friendItem_12 : decode cX6_friendItem 12 = .ok (.bipush 9, 2) := by decide +kernel
theorem dX6_friendItem_14 : decode cX6_friendItem 14 = .ok (.invokevirtual 227, 3) := by decide +kernel
theorem dX6_friendItem_17 : decode cX6_friendItem 17 = .ok (.istore 4, 2) := by decide +kernel
theorem dX6_friendItem_19 : decode cX6_friendItem 19 = .ok (.iload_n 1, 1) := by decide +kernel
theorem dX6_friendItem_20 : decode cX6_friendItem 20 = .ok (.aload_n 0, 1) := by decide +kernel
theorem dX6_friendItem_21 : decode cX6_friendItem 21 = .ok (.getfield 193, 3) := by decide +kernel
theorem dX6_friendItem_24 : decode cX6_friendItem 24 = .ok (.ifCond .eq 7, 3) := by decide +kernel
theorem dX6_friendItem_27 : decode cX6_friendItem 27 = .ok (.iconst 0, 1) := by decide +kernel
theorem dX6_friendItem_28 : decode cX6_friendItem 28 = .ok (.goto 7, 3) := by decide +kernel
theorem dX6_friendItem_31 : decode cX6_friendItem 31 = .ok (.iconst 1, 1) := by decide +kernel
theorem dX6_friendItem_32 : decode cX6_friendItem 32 = .ok (.iload 4, 2) := by decide +kernel
theorem dX6_friendItem_34 : decode cX6_friendItem 34 = .ok (.ishl, 1) := by decide +kernel
theorem dX6_friendItem_35 : decode cX6_friendItem 35 = .ok (.ior, 1) := by decide +kernel
theorem dX6_friendItem_36 : decode cX6_friendItem 36 = .ok (.istore_n 1, 1) := by decide +kernel
theorem dX6_friendItem_37 : decode cX6_friendItem 37 = .ok (.iload 4, 2) := by decide +kernel
theorem dX6_friendItem_39 : decode cX6_friendItem 39 = .ok (.iconst 1, 1) := by decide +kernel
theorem dX6_friendItem_40 : decode cX6_friendItem 40 = .ok (.iadd, 1) := by decide +kernel
theorem dX6_friendItem_41 : decode cX6_friendItem 41 = .ok (.istore_n 2, 1) := by decide +kernel
theorem dX6_friendItem_42 : decode cX6_friendItem 42 = .ok (.aload_n 0, 1) := by decide +kernel
theorem dX6_friendItem_43 : decode cX6_friendItem 43 = .ok (.getfield 193, 3) := by decide +kernel
theorem dX6_friendItem_46 : decode cX6_friendItem 46 = .ok (.ifCond .ne 15, 3) := by decide +kernel
theorem dX6_friendItem_49 : decode cX6_friendItem 49 = .ok (.aload_n 0, 1) := by decide +kernel
theorem dX6_friendItem_50 : decode cX6_friendItem 50 = .ok (.getfield 190, 3) := by decide +kernel
theorem dX6_friendItem_53 : decode cX6_friendItem 53 = .ok (.iconst 2, 1) := by decide +kernel
theorem dX6_friendItem_54 : decode cX6_friendItem 54 = .ok (.if_icmp .ne 7, 3) := by decide +kernel
theorem dX6_friendItem_57 : decode cX6_friendItem 57 = .ok (.iconst 1, 1) := by decide +kernel
theorem dX6_friendItem_58 : decode cX6_friendItem 58 = .ok (.goto 4, 3) := by decide +kernel
theorem dX6_friendItem_61 : decode cX6_friendItem 61 = .ok (.iconst 0, 1) := by decide +kernel
theorem dX6_friendItem_62 : decode cX6_friendItem 62 = .ok (.istore_n 3, 1) := by decide +kernel
theorem dX6_friendItem_63 : decode cX6_friendItem 63 = .ok (.goto (-57), 3) := by decide +kernel
theorem dX6_friendItem_66 : decode cX6_friendItem 66 = .ok (.aload_n 0, 1) := by decide +kernel
theorem dX6_friendItem_67 : decode cX6_friendItem 67 = .ok (.bipush 7, 2) := by decide +kernel
theorem dX6_friendItem_69 : decode cX6_friendItem 69 = .ok (.iload_n 1, 1) := by decide +kernel
theorem dX6_friendItem_70 : decode cX6_friendItem 70 = .ok (.invokevirtual 233, 3) := by decide +kernel
theorem dX6_friendItem_73 : decode cX6_friendItem 73 = .ok (.return_, 1) := by decide +kernel
theorem dX6_tasteItem_0 : decode cX6_tasteItem 0 = .ok (.aload_n 0, 1) := by decide +kernel
theorem dX6_tasteItem_1 : decode cX6_tasteItem 1 = .ok (.aload_n 0, 1) := by decide +kernel
theorem dX6_tasteItem_2 : decode cX6_tasteItem 2 = .ok (.getfield 193, 3) := by decide +kernel
theorem dX6_tasteItem_5 : decode cX6_tasteItem 5 = .ok (.ifCond .ne 19, 3) := by decide +kernel
theorem dX6_tasteItem_8 : decode cX6_tasteItem 8 = .ok (.iload_n 1, 1) := by decide +kernel
theorem dX6_tasteItem_9 : decode cX6_tasteItem 9 = .ok (.ifCond .lt 15, 3) := by decide +kernel
theorem dX6_tasteItem_12 : decode cX6_tasteItem 12 = .ok (.aload_n 0, 1) := by decide +kernel
theorem dX6_tasteItem_13 : decode cX6_tasteItem 13 = .ok (.getfield 9, 3) := by decide +kernel
theorem dX6_tasteItem_16 : decode cX6_tasteItem 16 = .ok (.bipush 8, 2) := by decide +kernel
theorem dX6_tasteItem_18 : decode cX6_tasteItem 18 = .ok (.iaload, 1) := by decide +kernel
theorem dX6_tasteItem_19 : decode cX6_tasteItem 19 = .ok (.bipush 10, 2) := by decide +kernel
theorem dX6_tasteItem_21 : decode cX6_tasteItem 21 = .ok (.if_icmp .ne 7, 3) := by decide +kernel
theorem dX6_tasteItem_24 : decode cX6_tasteItem 24 = .ok (.iconst 1, 1) := by decide +kernel
theorem dX6_tasteItem_25 : decode cX6_tasteItem 25 = .ok (.goto 4, 3) := by decide +kernel
theorem dX6_tasteItem_28 : decode cX6_tasteItem 28 = .ok (.iconst 0, 1) := by decide +kernel
theorem dX6_tasteItem_29 : decode cX6_tasteItem 29 = .ok (.putfield 193, 3) := by decide +kernel
theorem dX6_tasteItem_32 : decode cX6_tasteItem 32 = .ok (.aload_n 0, 1) := by decide +kernel
theorem dX6_tasteItem_33 : decode cX6_tasteItem 33 = .ok (.getfield 193, 3) := by decide +kernel
theorem dX6_tasteItem_36 : decode cX6_tasteItem 36 = .ok (.ifCond .eq 4, 3) := by decide +kernel
theorem dX6_tasteItem_39 : decode cX6_tasteItem 39 = .ok (.return_, 1) := by decide +kernel
theorem dX6_tasteItem_40 : decode cX6_tasteItem 40 = .ok (.aload_n 0, 1) := by decide +kernel
theorem dX6_tasteItem_41 : decode cX6_tasteItem 41 = .ok (.invokevirtual 210, 3) := by decide +kernel
theorem dX6_tasteItem_44 : decode cX6_tasteItem 44 = .ok (.aload_n 0, 1) := by decide +kernel
theorem dX6_tasteItem_45 : decode cX6_tasteItem 45 = .ok (.iconst 0, 1) := by decide +kernel
theorem dX6_tasteItem_46 : decode cX6_tasteItem 46 = .ok (.bipush 9, 2) := by decide +kernel
theorem dX6_tasteItem_48 : decode cX6_tasteItem 48 = .ok (.invokevirtual 227, 3) := by decide +kernel
theorem dX6_tasteItem_51 : decode cX6_tasteItem 51 = .ok (.istore_n 2, 1) := by decide +kernel
theorem dX6_tasteItem_52 : decode cX6_tasteItem 52 = .ok (.aload_n 0, 1) := by decide +kernel
theorem dX6_tasteItem_53 : decode cX6_tasteItem 53 = .ok (.ldc 238, 2) := by decide +kernel
theorem dX6_tasteItem_55 : decode cX6_tasteItem 55 = .ok (.invokevirtual 230, 3) := by decide +kernel
theorem dX6_tasteItem_58 : decode cX6_tasteItem 58 = .ok (.ifCond .eq 13, 3) := by decide +kernel
theorem dX6_tasteItem_61 : decode cX6_tasteItem 61 = .ok (.aload_n 0, 1) := by decide +kernel
theorem dX6_tasteItem_62 : decode cX6_tasteItem 62 = .ok (.iconst 1, 1) := by decide +kernel
theorem dX6_tasteItem_63 : decode cX6_tasteItem 63 = .ok (.bipush 20, 2) := by decide +kernel
theorem dX6_tasteItem_65 : decode cX6_tasteItem 65 = .ok (.invokevirtual 227, 3) := by decide +kernel
theorem dX6_tasteItem_68 : decode cX6_tasteItem 68 = .ok (.goto 4, 3) := by decide +kernel
theorem dX6_tasteItem_71 : decode cX6_tasteItem 71 = .ok (.iconst 5, 1) := by decide +kernel
theorem dX6_tasteItem_72 : decode cX6_tasteItem 72 = .ok (.istore_n 3, 1) := by decide +kernel
theorem dX6_tasteItem_73 : decode cX6_tasteItem 73 = .ok (.aload_n 0, 1) := by decide +kernel
theorem dX6_tasteItem_74 : decode cX6_tasteItem 74 = .ok (.getfield 193, 3) := by decide +kernel
theorem dX6_tasteItem_77 : decode cX6_tasteItem 77 = .ok (.ifCond .ne 10, 3) := by decide +kernel
theorem dX6_tasteItem_80 : decode cX6_tasteItem 80 = .ok (.aload_n 0, 1) := by decide +kernel
theorem dX6_tasteItem_81 : decode cX6_tasteItem 81 = .ok (.iload_n 1, 1) := by decide +kernel
theorem dX6_tasteItem_82 : decode cX6_tasteItem 82 = .ok (.iload_n 2, 1) := by decide +kernel
theorem dX6_tasteItem_83 : decode cX6_tasteItem 83 = .ok (.iload_n 3, 1) := by decide +kernel
theorem dX6_tasteItem_84 : decode cX6_tasteItem 84 = .ok (.invokevirtual 86, 3) := by decide +kernel
theorem dX6_tasteItem_87 : decode cX6_tasteItem 87 = .ok (.return_, 1) := by decide +kernel
theorem dX6_item_0 : decode cX6_item 0 = .ok (.aload_n 0, 1) := by decide +kernel
theorem dX6_item_1 : decode cX6_item 1 = .ok (.ldc 240, 2) := by decide +kernel
theorem dX6_item_3 : decode cX6_item 3 = .ok (.invokevirtual 230, 3) := by decide +kernel
theorem dX6_item_6 : decode cX6_item 6 = .ok (.ifCond .eq 10, 3) := by decide +kernel
theorem dX6_item_9 : decode cX6_item 9 = .ok (.aload_n 0, 1) := by decide +kernel
theorem dX6_item_10 : decode cX6_item 10 = .ok (.invokevirtual 242, 3) := by decide +kernel
theorem dX6_item_13 : decode cX6_item 13 = .ok (.goto 149, 3) := by decide +kernel
theorem dX6_item_16 : decode cX6_item 16 = .ok (.aload_n 0, 1) := by decide +kernel
theorem dX6_item_17 : decode cX6_item 17 = .ok (.ldc 245, 2) := by decide +kernel
theorem dX6_item_19 : decode cX6_item 19 = .ok (.invokevirtual 230, 3) := by decide +kernel
theorem dX6_item_22 : decode cX6_item 22 = .ok (.ifCond .eq 18, 3) := by decide +kernel
theorem dX6_item_25 : decode cX6_item 25 = .ok (.aload_n 0, 1) := by decide +kernel
theorem dX6_item_26 : decode cX6_item 26 = .ok (.iconst 2, 1) := by decide +kernel
theorem dX6_item_27 : decode cX6_item 27 = .ok (.aload_n 0, 1) := by decide +kernel
theorem dX6_item_28 : decode cX6_item 28 = .ok (.iconst 0, 1) := by decide +kernel
theorem dX6_item_29 : decode cX6_item 29 = .ok (.bipush 9, 2) := by decide +kernel
theorem dX6_item_31 : decode cX6_item 31 = .ok (.invokevirtual 227, 3) := by decide +kernel
theorem dX6_item_34 : decode cX6_item 34 = .ok (.invokevirtual 233, 3) := by decide +kernel
theorem dX6_item_37 : decode cX6_item 37 = .ok (.goto 125, 3) := by decide +kernel
theorem dX6_item_40 : decode cX6_item 40 = .ok (.aload_n 0, 1) := by decide +kernel
theorem dX6_item_41 : decode cX6_item 41 = .ok (.ldc 247, 2) := by decide +kernel
theorem dX6_item_43 : decode cX6_item 43 = .ok (.invokevirtual 230, 3) := by decide +kernel
theorem dX6_item_46 : decode cX6_item 46 = .ok (.ifCond .eq 18, 3) := by decide +kernel
theorem dX6_item_49 : decode cX6_item 49 = .ok (.aload_n 0, 1) := by decide +kernel
theorem dX6_item_50 : decode cX6_item 50 = .ok (.iconst 3, 1) := by decide +kernel
theorem dX6_item_51 : decode cX6_item 51 = .ok (.aload_n 0, 1) := by decide +kernel
theorem dX6_item_52 : decode cX6_item 52 = .ok (.iconst 0, 1) := by decide +kernel
theorem dX6_item_53 : decode cX6_item 53 = .ok (.bipush 99, 2) := by decide +kernel
theorem dX6_item_55 : decode cX6_item 55 = .ok (.invokevirtual 227, 3) := by decide +kernel
theorem dX6_item_58 : decode cX6_item 58 = .ok (.invokevirtual 233, 3) := by decide +kernel
theorem dX6_item_61 : decode cX6_item 61 = .ok (.goto 101, 3) := by decide +kernel
theorem dX6_item_64 : decode cX6_item 64 = .ok (.aload_n 0, 1) := by decide +kernel
theorem dX6_item_65 : decode cX6_item 65 = .ok (.ldc 249, 2) := by decide +kernel
theorem dX6_item_67 : decode cX6_item 67 = .ok (.invokevirtual 230, 3) := by decide +kernel
theorem dX6_item_70 : decode cX6_item 70 = .ok (.ifCond .eq 19, 3) := by decide +kernel
theorem dX6_item_73 : decode cX6_item 73 = .ok (.aload_n 0, 1) := by decide +kernel
theorem dX6_item_74 : decode cX6_item 74 = .ok (.iconst 4, 1) := by decide +kernel
theorem dX6_item_75 : decode cX6_item 75 = .ok (.aload_n 0, 1) := by decide +kernel
theorem dX6_item_76 : decode cX6_item 76 = .ok (.iconst 0, 1) := by decide +kernel
theorem dX6_item_77 : decode cX6_item 77 = .ok (.sipush 9999, 3) := by decide +kernel
theorem dX6_item_80 : decode cX6_item 80 = .ok (.invokevirtual 227, 3) := by decide +kernel
theorem dX6_item_83 : decode cX6_item 83 = .ok (.invokevirtual 233, 3) := by decide +kernel
theorem dX6_item_86 : decode cX6_item 86 = .ok (.goto 76, 3) := by decide +kernel
theorem dX6_item_89 : decode cX6_item 89 = .ok (.aload_n 0, 1) := by decide +kernel
theorem dX6_item_90 : decode cX6_item 90 = .ok (.ldc 251, 2) := by decide +kernel
theorem dX6_item_92 : decode cX6_item 92 = .ok (.invokevirtual 230, 3) := by decide +kernel
theorem dX6_item_95 : decode cX6_item 95 = .ok (.ifCond .eq 18, 3) := by decide +kernel
theorem dX6_item_98 : decode cX6_item 98 = .ok (.aload_n 0, 1) := by decide +kernel
theorem dX6_item_99 : decode cX6_item 99 = .ok (.iconst 5, 1) := by decide +kernel
theorem dX6_item_100 : decode cX6_item 100 = .ok (.aload_n 0, 1) := by decide +kernel
theorem dX6_item_101 : decode cX6_item 101 = .ok (.iconst 1, 1) := by decide +kernel
theorem dX6_item_102 : decode cX6_item 102 = .ok (.bipush 99, 2) := by decide +kernel
theorem dX6_item_104 : decode cX6_item 104 = .ok (.invokevirtual 227, 3) := by decide +kernel
theorem dX6_item_107 : decode cX6_item 107 = .ok (.invokevirtual 233, 3) := by decide +kernel
theorem dX6_item_110 : decode cX6_item 110 = .ok (.goto 52, 3) := by decide +kernel
theorem dX6_item_113 : decode cX6_item 113 = .ok (.aload_n 0, 1) := by decide +kernel
theorem dX6_item_114 : decode cX6_item 114 = .ok (.ldc 253, 2) := by decide +kernel
theorem dX6_item_116 : decode cX6_item 116 = .ok (.invokevirtual 230, 3) := by decide +kernel
theorem dX6_item_119 : decode cX6_item 119 = .ok (.ifCond .eq 19, 3) := by decide +kernel
theorem dX6_item_122 : decode cX6_item 122 = .ok (.aload_n 0, 1) := by decide +kernel
theorem dX6_item_123 : decode cX6_item 123 = .ok (.bipush 6, 2) := by decide +kernel
theorem dX6_item_125 : decode cX6_item 125 = .ok (.aload_n 0, 1) := by decide +kernel
theorem dX6_item_126 : decode cX6_item 126 = .ok (.iconst 0, 1) := by decide +kernel
theorem dX6_item_127 : decode cX6_item 127 = .ok (.bipush 9, 2) := by decide +kernel
theorem dX6_item_129 : decode cX6_item 129 = .ok (.invokevirtual 227, 3) := by decide +kernel
theorem dX6_item_132 : decode cX6_item 132 = .ok (.invokevirtual 233, 3) := by decide +kernel
theorem dX6_item_135 : decode cX6_item 135 = .ok (.goto 27, 3) := by decide +kernel
theorem dX6_item_138 : decode cX6_item 138 = .ok (.aload_n 0, 1) := by decide +kernel
theorem dX6_item_139 : decode cX6_item 139 = .ok (.ldc 255, 2) := by decide +kernel
theorem dX6_item_141 : decode cX6_item 141 = .ok (.invokevirtual 230, 3) := by decide +kernel
theorem dX6_item_144 : decode cX6_item 144 = .ok (.ifCond .eq 10, 3) := by decide +kernel
theorem dX6_item_147 : decode cX6_item 147 = .ok (.aload_n 0, 1) := by decide +kernel
theorem dX6_item_148 : decode cX6_item 148 = .ok (.invokevirtual 257, 3) := by decide +kernel
theorem dX6_item_151 : decode cX6_item 151 = .ok (.goto 11, 3) := by decide +kernel
theorem dX6_item_154 : decode cX6_item 154 = .ok (.aload_n 0, 1) := by decide +kernel
theorem dX6_item_155 : decode cX6_item 155 = .ok (.aload_n 0, 1) := by decide +kernel
theorem dX6_item_156 : decode cX6_item 156 = .ok (.invokevirtual 260, 3) := by decide +kernel
theorem dX6_item_159 : decode cX6_item 159 = .ok (.invokevirtual 263, 3) := by decide +kernel
theorem dX6_item_162 : decode cX6_item 162 = .ok (.return_, 1) := by decide +kernel
theorem dX6_text_0 : decode cX6_text 0 = .ok (.aload_n 0, 1) := by decide +kernel
theorem dX6_text_1 : decode cX6_text 1 = .ok (.getfield 9, 3) := by decide +kernel
theorem dX6_text_4 : decode cX6_text 4 = .ok (.aload_n 0, 1) := by decide +kernel
theorem dX6_text_5 : decode cX6_text 5 = .ok (.getfield 16, 3) := by decide +kernel
theorem dX6_text_8 : decode cX6_text 8 = .ok (.invokestatic 156, 3) := by decide +kernel
theorem dX6_text_11 : decode cX6_text 11 = .ok (.aload_n 0, 1) := by decide +kernel
theorem dX6_text_12 : decode cX6_text 12 = .ok (.iconst 0, 1) := by decide +kernel
theorem dX6_text_13 : decode cX6_text 13 = .ok (.putfield 177, 3) := by decide +kernel
theorem dX6_text_16 : decode cX6_text 16 = .ok (.aload_n 0, 1) := by decide +kernel
theorem dX6_text_17 : decode cX6_text 17 = .ok (.iconst 0, 1) := by decide +kernel
theorem dX6_text_18 : decode cX6_text 18 = .ok (.putfield 193, 3) := by decide +kernel
theorem dX6_text_21 : decode cX6_text 21 = .ok (.aload_n 0, 1) := by decide +kernel
theorem dX6_text_22 : decode cX6_text 22 = .ok (.invokevirtual 210, 3) := by decide +kernel
theorem dX6_text_25 : decode cX6_text 25 = .ok (.iconst 0, 1) := by decide +kernel
theorem dX6_text_26 : decode cX6_text 26 = .ok (.istore_n 1, 1) := by decide +kernel
theorem dX6_text_27 : decode cX6_text 27 = .ok (.iconst 1, 1) := by decide +kernel
theorem dX6_text_28 : decode cX6_text 28 = .ok (.istore_n 2, 1) := by decide +kernel
theorem dX6_text_29 : decode cX6_text 29 = .ok (.iload_n 2, 1) := by decide +kernel
theorem dX6_text_30 : decode cX6_text 30 = .ok (.ifCond .eq 28, 3) := by decide +kernel
theorem dX6_text_33 : decode cX6_text 33 = .ok (.aload_n 0, 1) := by decide +kernel
theorem dX6_text_34 : decode cX6_text 34 = .ok (.invokevirtual 267, 3) := by decide +kernel
theorem dX6_text_37 : decode cX6_text 37 = .ok (.iinc 1 1, 3) := by decide +kernel
theorem dX6_text_40 : decode cX6_text 40 = .ok (.aload_n 0, 1) := by decide +kernel
theorem dX6_text_41 : decode cX6_text 41 = .ok (.bipush 59, 2) := by decide +kernel
theorem dX6_text_43 : decode cX6_text 43 = .ok (.invokevirtual 270, 3) := by decide +kernel
theorem dX6_text_46 : decode cX6_text 46 = .ok (.istore_n 2, 1) := by decide +kernel
theorem dX6_text_47 : decode cX6_text 47 = .ok (.iload_n 2, 1) := by decide +kernel
theorem dX6_text_48 : decode cX6_text 48 = .ok (.ifCond .eq (-19), 3) := by decide +kernel
theorem dX6_text_51 : decode cX6_text 51 = .ok (.aload_n 0, 1) := by decide +kernel
theorem dX6_text_52 : decode cX6_text 52 = .ok (.invokevirtual 210, 3) := by decide +kernel
theorem dX6_text_55 : decode cX6_text 55 = .ok (.goto (-26), 3) := by decide +kernel
theorem dX6_text_58 : decode cX6_text 58 = .ok (.aload_n 0, 1) := by decide +kernel
theorem dX6_text_59 : decode cX6_text 59 = .ok (.aload_n 0, 1) := by decide +kernel
theorem dX6_text_60 : decode cX6_text 60 = .ok (.getfield 193, 3) := by decide +kernel
theorem dX6_text_63 : decode cX6_text 63 = .ok (.ifCond .ne 10, 3) := by decide +kernel
theorem dX6_text_66 : decode cX6_text 66 = .ok (.aload_n 0, 1) := by decide +kernel
theorem dX6_text_67 : decode cX6_text 67 = .ok (.getfield 190, 3) := by decide +kernel
theorem dX6_text_70 : decode cX6_text 70 = .ok (.ifCond .eq 7, 3) := by decide +kernel
theorem dX6_text_73 : decode cX6_text 73 = .ok (.iconst 1, 1) := by decide +kernel
theorem dX6_text_74 : decode cX6_text 74 = .ok (.goto 4, 3) := by decide +kernel
theorem dX6_text_77 : decode cX6_text 77 = .ok (.iconst 0, 1) := by decide +kernel
theorem dX6_text_78 : decode cX6_text 78 = .ok (.putfield 193, 3) := by decide +kernel
theorem dX6_text_81 : decode cX6_text 81 = .ok (.aload_n 0, 1) := by decide +kernel
theorem dX6_text_82 : decode cX6_text 82 = .ok (.getfield 180, 3) := by decide +kernel
theorem dX6_text_85 : decode cX6_text 85 = .ok (.istore_n 3, 1) := by decide +kernel
theorem dX6_text_86 : decode cX6_text 86 = .ok (.aload_n 0, 1) := by decide +kernel
theorem dX6_text_87 : decode cX6_text 87 = .ok (.iconst 0, 1) := by decide +kernel
theorem dX6_text_88 : decode cX6_text 88 = .ok (.putfield 173, 3) := by decide +kernel
theorem dX6_text_91 : decode cX6_text 91 = .ok (.aload_n 0, 1) := by decide +kernel
theorem dX6_text_92 : decode cX6_text 92 = .ok (.getfield 193, 3) := by decide +kernel
theorem dX6_text_95 : decode cX6_text 95 = .ok (.ifCond .ne 5, 3) := by decide +kernel
theorem dX6_text_98 : decode cX6_text 98 = .ok (.iload_n 1, 1) := by decide +kernel
theorem dX6_text_99 : decode cX6_text 99 = .ok (.ireturn, 1) := by decide +kernel
theorem dX6_text_100 : decode cX6_text 100 = .ok (.aload_n 0, 1) := by decide +kernel
theorem dX6_text_101 : decode cX6_text 101 = .ok (.getfield 16, 3) := by decide +kernel
theorem dX6_text_104 : decode cX6_text 104 = .ok (.aload_n 0, 1) := by decide +kernel
theorem dX6_text_105 : decode cX6_text 105 = .ok (.getfield 9, 3) := by decide +kernel
theorem dX6_text_108 : decode cX6_text 108 = .ok (.invokestatic 156, 3) := by decide +kernel
theorem dX6_text_111 : decode cX6_text 111 = .ok (.iconst (-1), 1) := by decide +kernel
theorem dX6_text_112 : decode cX6_text 112 = .ok (.iload_n 3, 1) := by decide +kernel
theorem dX6_text_113 : decode cX6_text 113 = .ok (.isub, 1) := by decide +kernel
theorem dX6_text_114 : decode cX6_text 114 = .ok (.ireturn, 1) := by decide +kernel
theorem dX6_hold_0 : decode cX6_hold 0 = .ok (.iload_n 1, 1) := by decide +kernel
theorem dX6_hold_1 : decode cX6_hold 1 = .ok (.i2l, 1) := by decide +kernel
theorem dX6_hold_2 : decode cX6_hold 2 = .ok (.lconst 0, 1) := by decide +kernel
theorem dX6_hold_3 : decode cX6_hold 3 = .ok (.ldc2_w 40, 3) := by decide +kernel
theorem dX6_hold_6 : decode cX6_hold 6 = .ok (.invokestatic 42, 3) := by decide +kernel
theorem dX6_hold_9 : decode cX6_hold 9 = .ok (.ifCond .eq 16, 3) := by decide +kernel
theorem dX6_hold_12 : decode cX6_hold 12 = .ok (.iload_n 2, 1) := by decide +kernel
theorem dX6_hold_13 : decode cX6_hold 13 = .ok (.iconst (-1), 1) := by decide +kernel
theorem dX6_hold_14 : decode cX6_hold 14 = .ok (.if_icmp .eq 18, 3) := by decide +kernel
theorem dX6_hold_17 : decode cX6_hold 17 = .ok (.aload_n 0, 1) := by decide +kernel
theorem dX6_hold_18 : decode cX6_hold 18 = .ok (.iload_n 2, 1) := by decide +kernel
theorem dX6_hold_19 : decode cX6_hold 19 = .ok (.invokevirtual 99, 3) := by decide +kernel
theorem dX6_hold_22 : decode cX6_hold 22 = .ok (.ifCond .ne 10, 3) := by decide +kernel
theorem dX6_hold_25 : decode cX6_hold 25 = .ok (.aload_n 0, 1) := by decide +kernel
theorem dX6_hold_26 : decode cX6_hold 26 = .ok (.ldc 34, 2) := by decide +kernel
theorem dX6_hold_28 : decode cX6_hold 28 = .ok (.invokevirtual 36, 3) := by decide +kernel
theorem dX6_hold_31 : decode cX6_hold 31 = .ok (.ireturn, 1) := by decide +kernel
theorem dX6_hold_32 : decode cX6_hold 32 = .ok (.aload_n 0, 1) := by decide +kernel
theorem dX6_hold_33 : decode cX6_hold 33 = .ok (.getfield 9, 3) := by decide +kernel
theorem dX6_hold_36 : decode cX6_hold 36 = .ok (.bipush 70, 2) := by decide +kernel
theorem dX6_hold_38 : decode cX6_hold 38 = .ok (.iload_n 1, 1) := by decide +kernel
theorem dX6_hold_39 : decode cX6_hold 39 = .ok (.iadd, 1) := by decide +kernel
theorem dX6_hold_40 : decode cX6_hold 40 = .ok (.iload_n 2, 1) := by decide +kernel
theorem dX6_hold_41 : decode cX6_hold 41 = .ok (.iastore, 1) := by decide +kernel
theorem dX6_hold_42 : decode cX6_hold 42 = .ok (.iconst 1, 1) := by decide +kernel
theorem dX6_hold_43 : decode cX6_hold 43 = .ok (.ireturn, 1) := by decide +kernel
theorem dX6_above_0 : decode cX6_above 0 = .ok (.iload_n 0, 1) := by decide +kernel
theorem dX6_above_1 : decode cX6_above 1 = .ok (.ifCond .ne 7, 3) := by decide +kernel
theorem dX6_above_4 : decode cX6_above 4 = .ok (.iconst (-1), 1) := by decide +kernel
theorem dX6_above_5 : decode cX6_above 5 = .ok (.goto 22, 3) := by decide +kernel
theorem dX6_above_8 : decode cX6_above 8 = .ok (.iload_n 0, 1) := by decide +kernel
theorem dX6_above_9 : decode cX6_above 9 = .ok (.iconst 3, 1) := by decide +kernel
theorem dX6_above_10 : decode cX6_above 10 = .ok (.if_icmp .ne 7, 3) := by decide +kernel
theorem dX6_above_13 : decode cX6_above 13 = .ok (.iconst 2, 1) := by decide +kernel
theorem dX6_above_14 : decode cX6_above 14 = .ok (.goto 13, 3) := by decide +kernel
theorem dX6_above_17 : decode cX6_above 17 = .ok (.iload_n 0, 1) := by decide +kernel
theorem dX6_above_18 : decode cX6_above 18 = .ok (.iconst 5, 1) := by decide +kernel
theorem dX6_above_19 : decode cX6_above 19 = .ok (.if_icmp .ne 7, 3) := by decide +kernel
theorem dX6_above_22 : decode cX6_above 22 = .ok (.iconst 4, 1) := by decide +kernel
theorem dX6_above_23 : decode cX6_above 23 = .ok (.goto 4, 3) := by decide +kernel
theorem dX6_above_26 : decode cX6_above 26 = .ok (.iconst 0, 1) := by decide +kernel
theorem dX6_above_27 : decode cX6_above 27 = .ok (.ireturn, 1) := by decide +kernel
theorem dX6_as_0 : decode cX6_as 0 = .ok (.iload_n 1, 1) := by decide +kernel
theorem dX6_as_1 : decode cX6_as 1 = .ok (.i2l, 1) := by decide +kernel
theorem dX6_as_2 : decode cX6_as 2 = .ok (.lconst 0, 1) := by decide +kernel
theorem dX6_as_3 : decode cX6_as 3 = .ok (.ldc2_w 40, 3) := by decide +kernel
theorem dX6_as_6 : decode cX6_as 6 = .ok (.invokestatic 42, 3) := by decide +kernel
theorem dX6_as_9 : decode cX6_as 9 = .ok (.ifCond .eq 10, 3) := by decide +kernel
theorem dX6_as_12 : decode cX6_as 12 = .ok (.iload_n 2, 1) := by decide +kernel
theorem dX6_as_13 : decode cX6_as 13 = .ok (.invokestatic 79, 3) := by decide +kernel
theorem dX6_as_16 : decode cX6_as 16 = .ok (.ifCond .ne 10, 3) := by decide +kernel
theorem dX6_as_19 : decode cX6_as 19 = .ok (.aload_n 0, 1) := by decide +kernel
theorem dX6_as_20 : decode cX6_as 20 = .ok (.ldc 34, 2) := by decide +kernel
theorem dX6_as_22 : decode cX6_as 22 = .ok (.invokevirtual 36, 3) := by decide +kernel
theorem dX6_as_25 : decode cX6_as 25 = .ok (.ireturn, 1) := by decide +kernel
theorem dX6_as_26 : decode cX6_as 26 = .ok (.aload_n 0, 1) := by decide +kernel
theorem dX6_as_27 : decode cX6_as 27 = .ok (.getfield 9, 3) := by decide +kernel
theorem dX6_as_30 : decode cX6_as 30 = .ok (.bipush 70, 2) := by decide +kernel
theorem dX6_as_32 : decode cX6_as 32 = .ok (.iload_n 1, 1) := by decide +kernel
theorem dX6_as_33 : decode cX6_as 33 = .ok (.iadd, 1) := by decide +kernel
theorem dX6_as_34 : decode cX6_as 34 = .ok (.iaload, 1) := by decide +kernel
theorem dX6_as_35 : decode cX6_as 35 = .ok (.istore_n 3, 1) := by decide +kernel
theorem dX6_as_36 : decode cX6_as 36 = .ok (.iload_n 3, 1) := by decide +kernel
theorem dX6_as_37 : decode cX6_as 37 = .ok (.ifCond .ge 11, 3) := by decide +kernel
theorem dX6_as_40 : decode cX6_as 40 = .ok (.aload_n 0, 1) := by decide +kernel
theorem dX6_as_41 : decode cX6_as 41 = .ok (.ldc_w 273, 3) := by decide +kernel
theorem dX6_as_44 : decode cX6_as 44 = .ok (.invokevirtual 36, 3) := by decide +kernel
theorem dX6_as_47 : decode cX6_as 47 = .ok (.ireturn, 1) := by decide +kernel
theorem dX6_as_48 : decode cX6_as 48 = .ok (.aload_n 0, 1) := by decide +kernel
theorem dX6_as_49 : decode cX6_as 49 = .ok (.iload_n 3, 1) := by decide +kernel
theorem dX6_as_50 : decode cX6_as 50 = .ok (.iconst 0, 1) := by decide +kernel
theorem dX6_as_51 : decode cX6_as 51 = .ok (.invokevirtual 90, 3) := by decide +kernel
theorem dX6_as_54 : decode cX6_as 54 = .ok (.istore 4, 2) := by decide +kernel
theorem dX6_as_56 : decode cX6_as 56 = .ok (.iload 4, 2) := by decide +kernel
theorem dX6_as_58 : decode cX6_as 58 = .ok (.ifCond .lt 21, 3) := by decide +kernel
theorem dX6_as_61 : decode cX6_as 61 = .ok (.iload 4, 2) := by decide +kernel
theorem dX6_as_63 : decode cX6_as 63 = .ok (.iload_n 2, 1) := by decide +kernel
theorem dX6_as_64 : decode cX6_as 64 = .ok (.if_icmp .ne 5, 3) := by decide +kernel
theorem dX6_as_67 : decode cX6_as 67 = .ok (.iload_n 3, 1) := by decide +kernel
theorem dX6_as_68 : decode cX6_as 68 = .ok (.ireturn, 1) := by decide +kernel
theorem dX6_as_69 : decode cX6_as 69 = .ok (.iload 4, 2) := by decide +kernel
theorem dX6_as_71 : decode cX6_as 71 = .ok (.invokestatic 274, 3) := by decide +kernel
theorem dX6_as_74 : decode cX6_as 74 = .ok (.istore 4, 2) := by decide +kernel
theorem dX6_as_76 : decode cX6_as 76 = .ok (.goto (-20), 3) := by decide +kernel
theorem dX6_as_79 : decode cX6_as 79 = .ok (.aload_n 0, 1) := by decide +kernel
theorem dX6_as_80 : decode cX6_as 80 = .ok (.ldc_w 277, 3) := by decide +kernel
theorem dX6_as_83 : decode cX6_as 83 = .ok (.invokevirtual 36, 3) := by decide +kernel
theorem dX6_as_86 : decode cX6_as 86 = .ok (.ireturn, 1) := by decide +kernel
theorem dX6_isSheet_0 : decode cX6_isSheet 0 = .ok (.iload_n 0, 1) := by decide +kernel
theorem dX6_isSheet_1 : decode cX6_isSheet 1 = .ok (.i2l, 1) := by decide +kernel
theorem dX6_isSheet_2 : decode cX6_isSheet 2 = .ok (.lconst 0, 1) := by decide +kernel
theorem dX6_isSheet_3 : decode cX6_isSheet 3 = .ok (.ldc2_w 63, 3) := by decide +kernel
theorem dX6_isSheet_6 : decode cX6_isSheet 6 = .ok (.invokestatic 42, 3) := by decide +kernel
theorem dX6_isSheet_9 : decode cX6_isSheet 9 = .ok (.ireturn, 1) := by decide +kernel
theorem dX6_sheet_0 : decode cX6_sheet 0 = .ok (.iload_n 1, 1) := by decide +kernel
theorem dX6_sheet_1 : decode cX6_sheet 1 = .ok (.invokestatic 278, 3) := by decide +kernel
theorem dX6_sheet_4 : decode cX6_sheet 4 = .ok (.ifCond .eq 25, 3) := by decide +kernel
theorem dX6_sheet_7 : decode cX6_sheet 7 = .ok (.iload_n 2, 1) := by decide +kernel
theorem dX6_sheet_8 : decode cX6_sheet 8 = .ok (.ifCond .eq 28, 3) := by decide +kernel
theorem dX6_sheet_11 : decode cX6_sheet 11 = .ok (.iload_n 2, 1) := by decide +kernel
theorem dX6_sheet_12 : decode cX6_sheet 12 = .ok (.bipush 8, 2) := by decide +kernel
theorem dX6_sheet_14 : decode cX6_sheet 14 = .ok (.if_icmp .eq 22, 3) := by decide +kernel
theorem dX6_sheet_17 : decode cX6_sheet 17 = .ok (.iload_n 2, 1) := by decide +kernel
theorem dX6_sheet_18 : decode cX6_sheet 18 = .ok (.bipush 16, 2) := by decide +kernel
theorem dX6_sheet_20 : decode cX6_sheet 20 = .ok (.if_icmp .eq 16, 3) := by decide +kernel
theorem dX6_sheet_23 : decode cX6_sheet 23 = .ok (.iload_n 2, 1) := by decide +kernel
theorem dX6_sheet_24 : decode cX6_sheet 24 = .ok (.bipush 32, 2) := by decide +kernel
theorem dX6_sheet_26 : decode cX6_sheet 26 = .ok (.if_icmp .eq 10, 3) := by decide +kernel
theorem dX6_sheet_29 : decode cX6_sheet 29 = .ok (.aload_n 0, 1) := by decide +kernel
theorem dX6_sheet_30 : decode cX6_sheet 30 = .ok (.ldc 34, 2) := by decide +kernel
theorem dX6_sheet_32 : decode cX6_sheet 32 = .ok (.invokevirtual 36, 3) := by decide +kernel
theorem dX6_sheet_35 : decode cX6_sheet 35 = .ok (.ireturn, 1) := by decide +kernel
theorem dX6_sheet_36 : decode cX6_sheet 36 = .ok (.iload_n 3, 1) := by decide +kernel
theorem dX6_sheet_37 : decode cX6_sheet 37 = .ok (.ifCond .ge 11, 3) := by decide +kernel
theorem dX6_sheet_40 : decode cX6_sheet 40 = .ok (.aload_n 0, 1) := by decide +kernel
theorem dX6_sheet_41 : decode cX6_sheet 41 = .ok (.ldc_w 281, 3) := by decide +kernel
theorem dX6_sheet_44 : decode cX6_sheet 44 = .ok (.invokevirtual 36, 3) := by decide +kernel
theorem dX6_sheet_47 : decode cX6_sheet 47 = .ok (.ireturn, 1) := by decide +kernel
theorem dX6_sheet_48 : decode cX6_sheet 48 = .ok (.iload_n 3, 1) := by decide +kernel
theorem dX6_sheet_49 : decode cX6_sheet 49 = .ok (.bipush 40, 2) := by decide +kernel
theorem dX6_sheet_51 : decode cX6_sheet 51 = .ok (.if_icmp .le 10, 3) := by decide +kernel
theorem dX6_sheet_54 : decode cX6_sheet 54 = .ok (.aload_n 0, 1) := by decide +kernel
theorem dX6_sheet_55 : decode cX6_sheet 55 = .ok (.ldc 34, 2) := by decide +kernel
theorem dX6_sheet_57 : decode cX6_sheet 57 = .ok (.invokevirtual 36, 3) := by decide +kernel
theorem dX6_sheet_60 : decode cX6_sheet 60 = .ok (.ireturn, 1) := by decide +kernel
theorem dX6_sheet_61 : decode cX6_sheet 61 = .ok (.aload_n 0, 1) := by decide +kernel
theorem dX6_sheet_62 : decode cX6_sheet 62 = .ok (.getfield 25, 3) := by decide +kernel
theorem dX6_sheet_65 : decode cX6_sheet 65 = .ok (.iload_n 1, 1) := by decide +kernel
theorem dX6_sheet_66 : decode cX6_sheet 66 = .ok (.iload_n 2, 1) := by decide +kernel
theorem dX6_sheet_67 : decode cX6_sheet 67 = .ok (.iastore, 1) := by decide +kernel
theorem dX6_sheet_68 : decode cX6_sheet 68 = .ok (.aload_n 0, 1) := by decide +kernel
theorem dX6_sheet_69 : decode cX6_sheet 69 = .ok (.getfield 28, 3) := by decide +kernel
theorem dX6_sheet_72 : decode cX6_sheet 72 = .ok (.iload_n 1, 1) := by decide +kernel
theorem dX6_sheet_73 : decode cX6_sheet 73 = .ok (.iload_n 2, 1) := by decide +kernel
theorem dX6_sheet_74 : decode cX6_sheet 74 = .ok (.ifCond .ne 7, 3) := by decide +kernel
theorem dX6_sheet_77 : decode cX6_sheet 77 = .ok (.iconst 0, 1) := by decide +kernel
theorem dX6_sheet_78 : decode cX6_sheet 78 = .ok (.goto 4, 3) := by decide +kernel
theorem dX6_sheet_81 : decode cX6_sheet 81 = .ok (.iload_n 3, 1) := by decide +kernel
theorem dX6_sheet_82 : decode cX6_sheet 82 = .ok (.iastore, 1) := by decide +kernel
theorem dX6_sheet_83 : decode cX6_sheet 83 = .ok (.iconst 0, 1) := by decide +kernel
theorem dX6_sheet_84 : decode cX6_sheet 84 = .ok (.istore 4, 2) := by decide +kernel
theorem dX6_sheet_86 : decode cX6_sheet 86 = .ok (.iload 4, 2) := by decide +kernel
theorem dX6_sheet_88 : decode cX6_sheet 88 = .ok (.bipush 40, 2) := by decide +kernel
theorem dX6_sheet_90 : decode cX6_sheet 90 = .ok (.if_icmp .ge 22, 3) := by decide +kernel
theorem dX6_sheet_93 : decode cX6_sheet 93 = .ok (.aload_n 0, 1) := by decide +kernel
theorem dX6_sheet_94 : decode cX6_sheet 94 = .ok (.getfield 31, 3) := by decide +kernel
theorem dX6_sheet_97 : decode cX6_sheet 97 = .ok (.bipush 40, 2) := by decide +kernel
theorem dX6_sheet_99 : decode cX6_sheet 99 = .ok (.iload_n 1, 1) := by decide +kernel
theorem dX6_sheet_100 : decode cX6_sheet 100 = .ok (.imul, 1) := by decide +kernel
theorem dX6_sheet_101 : decode cX6_sheet 101 = .ok (.iload 4, 2) := by decide +kernel
theorem dX6_sheet_103 : decode cX6_sheet 103 = .ok (.iadd, 1) := by decide +kernel
theorem dX6_sheet_104 : decode cX6_sheet 104 = .ok (.iconst 0, 1) := by decide +kernel
theorem dX6_sheet_105 : decode cX6_sheet 105 = .ok (.iastore, 1) := by decide +kernel
theorem dX6_sheet_106 : decode cX6_sheet 106 = .ok (.iinc 4 1, 3) := by decide +kernel
theorem dX6_sheet_109 : decode cX6_sheet 109 = .ok (.goto (-23), 3) := by decide +kernel
theorem dX6_sheet_112 : decode cX6_sheet 112 = .ok (.aload_n 0, 1) := by decide +kernel
theorem dX6_sheet_113 : decode cX6_sheet 113 = .ok (.getfield 28, 3) := by decide +kernel
theorem dX6_sheet_116 : decode cX6_sheet 116 = .ok (.iload_n 1, 1) := by decide +kernel
theorem dX6_sheet_117 : decode cX6_sheet 117 = .ok (.iaload, 1) := by decide +kernel
theorem dX6_sheet_118 : decode cX6_sheet 118 = .ok (.ireturn, 1) := by decide +kernel
theorem dX6_write_0 : decode cX6_write 0 = .ok (.iload_n 1, 1) := by decide +kernel
theorem dX6_write_1 : decode cX6_write 1 = .ok (.invokestatic 278, 3) := by decide +kernel
theorem dX6_write_4 : decode cX6_write 4 = .ok (.ifCond .ne 10, 3) := by decide +kernel
theorem dX6_write_7 : decode cX6_write 7 = .ok (.aload_n 0, 1) := by decide +kernel
theorem dX6_write_8 : decode cX6_write 8 = .ok (.ldc 34, 2) := by decide +kernel
theorem dX6_write_10 : decode cX6_write 10 = .ok (.invokevirtual 36, 3) := by decide +kernel
theorem dX6_write_13 : decode cX6_write 13 = .ok (.ireturn, 1) := by decide +kernel
theorem dX6_write_14 : decode cX6_write 14 = .ok (.aload_n 0, 1) := by decide +kernel
theorem dX6_write_15 : decode cX6_write 15 = .ok (.getfield 25, 3) := by decide +kernel
theorem dX6_write_18 : decode cX6_write 18 = .ok (.iload_n 1, 1) := by decide +kernel
theorem dX6_write_19 : decode cX6_write 19 = .ok (.iaload, 1) := by decide +kernel
theorem dX6_write_20 : decode cX6_write 20 = .ok (.ifCond .ne 11, 3) := by decide +kernel
theorem dX6_write_23 : decode cX6_write 23 = .ok (.aload_n 0, 1) := by decide +kernel
theorem dX6_write_24 : decode cX6_write 24 = .ok (.ldc_w 273, 3) := by decide +kernel
theorem dX6_write_27 : decode cX6_write 27 = .ok (.invokevirtual 36, 3) := by decide +kernel
theorem dX6_write_30 : decode cX6_write 30 = .ok (.ireturn, 1) := by decide +kernel
theorem dX6_write_31 : decode cX6_write 31 = .ok (.iload_n 2, 1) := by decide +kernel
theorem dX6_write_32 : decode cX6_write 32 = .ok (.i2l, 1) := by decide +kernel
theorem dX6_write_33 : decode cX6_write 33 = .ok (.lconst 0, 1) := by decide +kernel
theorem dX6_write_34 : decode cX6_write 34 = .ok (.aload_n 0, 1) := by decide +kernel
theorem dX6_write_35 : decode cX6_write 35 = .ok (.getfield 28, 3) := by decide +kernel
theorem dX6_write_38 : decode cX6_write 38 = .ok (.iload_n 1, 1) := by decide +kernel
theorem dX6_write_39 : decode cX6_write 39 = .ok (.iaload, 1) := by decide +kernel
theorem dX6_write_40 : decode cX6_write 40 = .ok (.iconst 1, 1) := by decide +kernel
theorem dX6_write_41 : decode cX6_write 41 = .ok (.isub, 1) := by decide +kernel
theorem dX6_write_42 : decode cX6_write 42 = .ok (.i2l, 1) := by decide +kernel
theorem dX6_write_43 : decode cX6_write 43 = .ok (.invokestatic 42, 3) := by decide +kernel
theorem dX6_write_46 : decode cX6_write 46 = .ok (.ifCond .ne 10, 3) := by decide +kernel
theorem dX6_write_49 : decode cX6_write 49 = .ok (.aload_n 0, 1) := by decide +kernel
theorem dX6_write_50 : decode cX6_write 50 = .ok (.ldc 34, 2) := by decide +kernel
theorem dX6_write_52 : decode cX6_write 52 = .ok (.invokevirtual 36, 3) := by decide +kernel
theorem dX6_write_55 : decode cX6_write 55 = .ok (.ireturn, 1) := by decide +kernel
theorem dX6_write_56 : decode cX6_write 56 = .ok (.aload_n 0, 1) := by decide +kernel
theorem dX6_write_57 : decode cX6_write 57 = .ok (.getfield 31, 3) := by decide +kernel
theorem dX6_write_60 : decode cX6_write 60 = .ok (.bipush 40, 2) := by decide +kernel
theorem dX6_write_62 : decode cX6_write 62 = .ok (.iload_n 1, 1) := by decide +kernel
theorem dX6_write_63 : decode cX6_write 63 = .ok (.imul, 1) := by decide +kernel
theorem dX6_write_64 : decode cX6_write 64 = .ok (.iload_n 2, 1) := by decide +kernel
theorem dX6_write_65 : decode cX6_write 65 = .ok (.iadd, 1) := by decide +kernel
theorem dX6_write_66 : decode cX6_write 66 = .ok (.aload_n 0, 1) := by decide +kernel
theorem dX6_write_67 : decode cX6_write 67 = .ok (.getfield 25, 3) := by decide +kernel
theorem dX6_write_70 : decode cX6_write 70 = .ok (.iload_n 1, 1) := by decide +kernel
theorem dX6_write_71 : decode cX6_write 71 = .ok (.iaload, 1) := by decide +kernel
theorem dX6_write_72 : decode cX6_write 72 = .ok (.bipush 8, 2) := by decide +kernel
theorem dX6_write_74 : decode cX6_write 74 = .ok (.if_icmp .ne 8, 3) := by decide +kernel
theorem dX6_write_77 : decode cX6_write 77 = .ok (.iload_n 3, 1) := by decide +kernel
theorem dX6_write_78 : decode cX6_write 78 = .ok (.i2b, 1) := by decide +kernel
theorem dX6_write_79 : decode cX6_write 79 = .ok (.goto 20, 3) := by decide +kernel
theorem dX6_write_82 : decode cX6_write 82 = .ok (.aload_n 0, 1) := by decide +kernel
theorem dX6_write_83 : decode cX6_write 83 = .ok (.getfield 25, 3) := by decide +kernel
theorem dX6_write_86 : decode cX6_write 86 = .ok (.iload_n 1, 1) := by decide +kernel
theorem dX6_write_87 : decode cX6_write 87 = .ok (.iaload, 1) := by decide +kernel
theorem dX6_write_88 : decode cX6_write 88 = .ok (.bipush 16, 2) := by decide +kernel
theorem dX6_write_90 : decode cX6_write 90 = .ok (.if_icmp .ne 8, 3) := by decide +kernel
theorem dX6_write_93 : decode cX6_write 93 = .ok (.iload_n 3, 1) := by decide +kernel
theorem dX6_write_94 : decode cX6_write 94 = .ok (.i2s, 1) := by decide +kernel
theorem dX6_write_95 : decode cX6_write 95 = .ok (.goto 4, 3) := by decide +kernel
theorem dX6_write_98 : decode cX6_write 98 = .ok (.iload_n 3, 1) := by decide +kernel
theorem dX6_write_99 : decode cX6_write 99 = .ok (.iastore, 1) := by decide +kernel
theorem dX6_write_100 : decode cX6_write 100 = .ok (.iconst 1, 1) := by decide +kernel
theorem dX6_write_101 : decode cX6_write 101 = .ok (.ireturn, 1) := by decide +kernel
theorem dX6_copy_0 : decode cX6_copy 0 = .ok (.iload_n 1, 1) := by decide +kernel
theorem dX6_copy_1 : decode cX6_copy 1 = .ok (.invokestatic 278, 3) := by decide +kernel
theorem dX6_copy_4 : decode cX6_copy 4 = .ok (.ifCond .eq 10, 3) := by decide +kernel
theorem dX6_copy_7 : decode cX6_copy 7 = .ok (.iload_n 3, 1) := by decide +kernel
theorem dX6_copy_8 : decode cX6_copy 8 = .ok (.invokestatic 278, 3) := by decide +kernel
theorem dX6_copy_11 : decode cX6_copy 11 = .ok (.ifCond .ne 10, 3) := by decide +kernel
theorem dX6_copy_14 : decode cX6_copy 14 = .ok (.aload_n 0, 1) := by decide +kernel
theorem dX6_copy_15 : decode cX6_copy 15 = .ok (.ldc 34, 2) := by decide +kernel
theorem dX6_copy_17 : decode cX6_copy 17 = .ok (.invokevirtual 36, 3) := by decide +kernel
theorem dX6_copy_20 : decode cX6_copy 20 = .ok (.ireturn, 1) := by decide +kernel
theorem dX6_copy_21 : decode cX6_copy 21 = .ok (.aload_n 0, 1) := by decide +kernel
theorem dX6_copy_22 : decode cX6_copy 22 = .ok (.getfield 25, 3) := by decide +kernel
theorem dX6_copy_25 : decode cX6_copy 25 = .ok (.iload_n 1, 1) := by decide +kernel
theorem dX6_copy_26 : decode cX6_copy 26 = .ok (.iaload, 1) := by decide +kernel
theorem dX6_copy_27 : decode cX6_copy 27 = .ok (.ifCond .eq 12, 3) := by decide +kernel
theorem dX6_copy_30 : decode cX6_copy 30 = .ok (.aload_n 0, 1) := by decide +kernel
theorem dX6_copy_31 : decode cX6_copy 31 = .ok (.getfield 25, 3) := by decide +kernel
theorem dX6_copy_34 : decode cX6_copy 34 = .ok (.iload_n 3, 1) := by decide +kernel
theorem dX6_copy_35 : decode cX6_copy 35 = .ok (.iaload, 1) := by decide +kernel
theorem dX6_copy_36 : decode cX6_copy 36 = .ok (.ifCond .ne 11, 3) := by decide +kernel
theorem dX6_copy_39 : decode cX6_copy 39 = .ok (.aload_n 0, 1) := by decide +kernel
theorem dX6_copy_40 : decode cX6_copy 40 = .ok (.ldc_w 273, 3) := by decide +kernel
theorem dX6_copy_43 : decode cX6_copy 43 = .ok (.invokevirtual 36, 3) := by decide +kernel
theorem dX6_copy_46 : decode cX6_copy 46 = .ok (.ireturn, 1) := by decide +kernel
theorem dX6_copy_47 : decode cX6_copy 47 = .ok (.aload_n 0, 1) := by decide +kernel
theorem dX6_copy_48 : decode cX6_copy 48 = .ok (.getfield 25, 3) := by decide +kernel
theorem dX6_copy_51 : decode cX6_copy 51 = .ok (.iload_n 1, 1) := by decide +kernel
theorem dX6_copy_52 : decode cX6_copy 52 = .ok (.iaload, 1) := by decide +kernel
theorem dX6_copy_53 : decode cX6_copy 53 = .ok (.aload_n 0, 1) := by decide +kernel
theorem dX6_copy_54 : decode cX6_copy 54 = .ok (.getfield 25, 3) := by decide +kernel
theorem dX6_copy_57 : decode cX6_copy 57 = .ok (.iload_n 3, 1) := by decide +kernel
theorem dX6_copy_58 : decode cX6_copy 58 = .ok (.iaload, 1) := by decide +kernel
theorem dX6_copy_59 : decode cX6_copy 59 = .ok (.if_icmp .eq 11, 3) := by decide +kernel
theorem dX6_copy_62 : decode cX6_copy 62 = .ok (.aload_n 0, 1) := by decide +kernel
theorem dX6_copy_63 : decode cX6_copy 63 = .ok (.ldc_w 277, 3) := by decide +kernel
theorem dX6_copy_66 : decode cX6_copy 66 = .ok (.invokevirtual 36, 3) := by decide +kernel
theorem dX6_copy_69 : decode cX6_copy 69 = .ok (.ireturn, 1) := by decide +kernel
theorem dX6_copy_70 : decode cX6_copy 70 = .ok (.iload 5, 2) := by decide +kernel
theorem dX6_copy_72 : decode cX6_copy 72 = .ok (.ifCond .lt 39, 3) := by decide +kernel
theorem dX6_copy_75 : decode cX6_copy 75 = .ok (.iload_n 2, 1) := by decide +kernel
theorem dX6_copy_76 : decode cX6_copy 76 = .ok (.ifCond .lt 35, 3) := by decide +kernel
theorem dX6_copy_79 : decode cX6_copy 79 = .ok (.iload 4, 2) := by decide +kernel
theorem dX6_copy_81 : decode cX6_copy 81 = .ok (.ifCond .lt 30, 3) := by decide +kernel
theorem dX6_copy_84 : decode cX6_copy 84 = .ok (.iload 5, 2) := by decide +kernel
theorem dX6_copy_86 : decode cX6_copy 86 = .ok (.aload_n 0, 1) := by decide +kernel
theorem dX6_copy_87 : decode cX6_copy 87 = .ok (.getfield 28, 3) := by decide +kernel
theorem dX6_copy_90 : decode cX6_copy 90 = .ok (.iload_n 1, 1) := by decide +kernel
theorem dX6_copy_91 : decode cX6_copy 91 = .ok (.iaload, 1) := by decide +kernel
theorem dX6_copy_92 : decode cX6_copy 92 = .ok (.iload_n 2, 1) := by decide +kernel
theorem dX6_copy_93 : decode cX6_copy 93 = .ok (.isub, 1) := by decide +kernel
theorem dX6_copy_94 : decode cX6_copy 94 = .ok (.if_icmp .gt 17, 3) := by decide +kernel
theorem dX6_copy_97 : decode cX6_copy 97 = .ok (.iload 5, 2) := by decide +kernel
theorem dX6_copy_99 : decode cX6_copy 99 = .ok (.aload_n 0, 1) := by decide +kernel
theorem dX6_copy_100 : decode cX6_copy 100 = .ok (.getfield 28, 3) := by decide +kernel
theorem dX6_copy_103 : decode cX6_copy 103 = .ok (.iload_n 3, 1) := by decide +kernel
theorem dX6_copy_104 : decode cX6_copy 104 = .ok (.iaload, 1) := by decide +kernel
theorem dX6_copy_105 : decode cX6_copy 105 = .ok (.iload 4, 2) := by decide +kernel
theorem dX6_copy_107 : decode cX6_copy 107 = .ok (.isub, 1) := by decide +kernel
theorem dX6_copy_108 : decode cX6_copy 108 = .ok (.if_icmp .le 10, 3) := by decide +kernel
theorem dX6_copy_111 : decode cX6_copy 111 = .ok (.aload_n 0, 1) := by decide +kernel
theorem dX6_copy_112 : decode cX6_copy 112 = .ok (.ldc 34, 2) := by decide +kernel
theorem dX6_copy_114 : decode cX6_copy 114 = .ok (.invokevirtual 36, 3) := by decide +kernel
theorem dX6_copy_117 : decode cX6_copy 117 = .ok (.ireturn, 1) := by decide +kernel
theorem dX6_copy_118 : decode cX6_copy 118 = .ok (.iload_n 1, 1) := by decide +kernel
theorem dX6_copy_119 : decode cX6_copy 119 = .ok (.iload_n 3, 1) := by decide +kernel
theorem dX6_copy_120 : decode cX6_copy 120 = .ok (.if_icmp .ne 13, 3) := by decide +kernel
theorem dX6_copy_123 : decode cX6_copy 123 = .ok (.iload_n 2, 1) := by decide +kernel
theorem dX6_copy_124 : decode cX6_copy 124 = .ok (.iload 4, 2) := by decide +kernel
theorem dX6_copy_126 : decode cX6_copy 126 = .ok (.if_icmp .ge 7, 3) := by decide +kernel
theorem dX6_copy_129 : decode cX6_copy 129 = .ok (.iconst 1, 1) := by decide +kernel
theorem dX6_copy_130 : decode cX6_copy 130 = .ok (.goto 4, 3) := by decide +kernel
theorem dX6_copy_133 : decode cX6_copy 133 = .ok (.iconst 0, 1) := by decide +kernel
theorem dX6_copy_134 : decode cX6_copy 134 = .ok (.istore 6, 2) := by decide +kernel
theorem dX6_copy_136 : decode cX6_copy 136 = .ok (.iconst 0, 1) := by decide +kernel
theorem dX6_copy_137 : decode cX6_copy 137 = .ok (.istore 7, 2) := by decide +kernel
theorem dX6_copy_139 : decode cX6_copy 139 = .ok (.iload 7, 2) := by decide +kernel
theorem dX6_copy_141 : decode cX6_copy 141 = .ok (.iload 5, 2) := by decide +kernel
theorem dX6_copy_143 : decode cX6_copy 143 = .ok (.if_icmp .ge 57, 3) := by decide +kernel
theorem dX6_copy_146 : decode cX6_copy 146 = .ok (.iload 6, 2) := by decide +kernel
theorem dX6_copy_148 : decode cX6_copy 148 = .ok (.ifCond .eq 13, 3) := by decide +kernel
theorem dX6_copy_151 : decode cX6_copy 151 = .ok (.iload 5, 2) := by decide +kernel
theorem dX6_copy_153 : decode cX6_copy 153 = .ok (.iconst 1, 1) := by decide +kernel
theorem dX6_copy_154 : decode cX6_copy 154 = .ok (.isub, 1) := by decide +kernel
theorem dX6_copy_155 : decode cX6_copy 155 = .ok (.iload 7, 2) := by decide +kernel
theorem dX6_copy_157 : decode cX6_copy 157 = .ok (.isub, 1) := by decide +kernel
theorem dX6_copy_158 : decode cX6_copy 158 = .ok (.goto 5, 3) := by decide +kernel
theorem dX6_copy_161 : decode cX6_copy 161 = .ok (.iload 7, 2) := by decide +kernel
theorem dX6_copy_163 : decode cX6_copy 163 = .ok (.istore 8, 2) := by decide +kernel
theorem dX6_copy_165 : decode cX6_copy 165 = .ok (.aload_n 0, 1) := by decide +kernel
theorem dX6_copy_166 : decode cX6_copy 166 = .ok (.getfield 31, 3) := by decide +kernel
theorem dX6_copy_169 : decode cX6_copy 169 = .ok (.bipush 40, 2) := by decide +kernel
theorem dX6_copy_171 : decode cX6_copy 171 = .ok (.iload_n 3, 1) := by decide +kernel
theorem dX6_copy_172 : decode cX6_copy 172 = .ok (.imul, 1) := by decide +kernel
theorem dX6_copy_173 : decode cX6_copy 173 = .ok (.iload 4, 2) := by decide +kernel
theorem dX6_copy_175 : decode cX6_copy 175 = .ok (.iadd, 1) := by decide +kernel
theorem dX6_copy_176 : decode cX6_copy 176 = .ok (.iload 8, 2) := by decide +kernel
theorem dX6_copy_178 : decode cX6_copy 178 = .ok (.iadd, 1) := by decide +kernel
theorem dX6_copy_179 : decode cX6_copy 179 = .ok (.aload_n 0, 1) := by decide +kernel
theorem dX6_copy_180 : decode cX6_copy 180 = .ok (.getfield 31, 3) := by decide +kernel
theorem dX6_copy_183 : decode cX6_copy 183 = .ok (.bipush 40, 2) := by decide +kernel
theorem dX6_copy_185 : decode cX6_copy 185 = .ok (.iload_n 1, 1) := by decide +kernel
theorem dX6_copy_186 : decode cX6_copy 186 = .ok (.imul, 1) := by decide +kernel
theorem dX6_copy_187 : decode cX6_copy 187 = .ok (.iload_n 2, 1) := by decide +kernel
theorem dX6_copy_188 : decode cX6_copy 188 = .ok (.iadd, 1) := by decide +kernel
theorem dX6_copy_189 : decode cX6_copy 189 = .ok (.iload 8, 2) := by decide +kernel
theorem dX6_copy_191 : decode cX6_copy 191 = .ok (.iadd, 1) := by decide +kernel
theorem dX6_copy_192 : decode cX6_copy 192 = .ok (.iaload, 1) := by decide +kernel
theorem dX6_copy_193 : decode cX6_copy 193 = .ok (.iastore, 1) := by decide +kernel
theorem dX6_copy_194 : decode cX6_copy 194 = .ok (.iinc 7 1, 3) := by decide +kernel
theorem dX6_copy_197 : decode cX6_copy 197 = .ok (.goto (-58), 3) := by decide +kernel
theorem dX6_copy_200 : decode cX6_copy 200 = .ok (.iload 5, 2) := by decide +kernel
theorem dX6_copy_202 : decode cX6_copy 202 = .ok (.ireturn, 1) := by decide +kernel
theorem dX6_load_0 : decode cX6_load 0 = .ok (.iload_n 1, 1) := by decide +kernel
theorem dX6_load_1 : decode cX6_load 1 = .ok (.invokestatic 278, 3) := by decide +kernel
theorem dX6_load_4 : decode cX6_load 4 = .ok (.ifCond .ne 10, 3) := by decide +kernel
theorem dX6_load_7 : decode cX6_load 7 = .ok (.aload_n 0, 1) := by decide +kernel
theorem dX6_load_8 : decode cX6_load 8 = .ok (.ldc 34, 2) := by decide +kernel
theorem dX6_load_10 : decode cX6_load 10 = .ok (.invokevirtual 36, 3) := by decide +kernel
theorem dX6_load_13 : decode cX6_load 13 = .ok (.ireturn, 1) := by decide +kernel
theorem dX6_load_14 : decode cX6_load 14 = .ok (.aload_n 0, 1) := by decide +kernel
theorem dX6_load_15 : decode cX6_load 15 = .ok (.getfield 25, 3) := by decide +kernel
theorem dX6_load_18 : decode cX6_load 18 = .ok (.iload_n 1, 1) := by decide +kernel
theorem dX6_load_19 : decode cX6_load 19 = .ok (.iaload, 1) := by decide +kernel
theorem dX6_load_20 : decode cX6_load 20 = .ok (.ifCond .ne 11, 3) := by decide +kernel
theorem dX6_load_23 : decode cX6_load 23 = .ok (.aload_n 0, 1) := by decide +kernel
theorem dX6_load_24 : decode cX6_load 24 = .ok (.ldc_w 273, 3) := by decide +kernel
theorem dX6_load_27 : decode cX6_load 27 = .ok (.invokevirtual 36, 3) := by decide +kernel
theorem dX6_load_30 : decode cX6_load 30 = .ok (.ireturn, 1) := by decide +kernel
theorem dX6_load_31 : decode cX6_load 31 = .ok (.iconst 0, 1) := by decide +kernel
theorem dX6_load_32 : decode cX6_load 32 = .ok (.istore_n 2, 1) := by decide +kernel
theorem dX6_load_33 : decode cX6_load 33 = .ok (.iload_n 2, 1) := by decide +kernel
theorem dX6_load_34 : decode cX6_load 34 = .ok (.aload_n 0, 1) := by decide +kernel
theorem dX6_load_35 : decode cX6_load 35 = .ok (.getfield 28, 3) := by decide +kernel
theorem dX6_load_38 : decode cX6_load 38 = .ok (.iload_n 1, 1) := by decide +kernel
theorem dX6_load_39 : decode cX6_load 39 = .ok (.iaload, 1) := by decide +kernel
theorem dX6_load_40 : decode cX6_load 40 = .ok (.if_icmp .ge 59, 3) := by decide +kernel
theorem dX6_load_43 : decode cX6_load 43 = .ok (.iload_n 2, 1) := by decide +kernel
theorem dX6_load_44 : decode cX6_load 44 = .ok (.bipush 10, 2) := by decide +kernel
theorem dX6_load_46 : decode cX6_load 46 = .ok (.if_icmp .ge 53, 3) := by decide +kernel
theorem dX6_load_49 : decode cX6_load 49 = .ok (.aload_n 0, 1) := by decide +kernel
theorem dX6_load_50 : decode cX6_load 50 = .ok (.getfield 31, 3) := by decide +kernel
theorem dX6_load_53 : decode cX6_load 53 = .ok (.bipush 40, 2) := by decide +kernel
theorem dX6_load_55 : decode cX6_load 55 = .ok (.iload_n 1, 1) := by decide +kernel
theorem dX6_load_56 : decode cX6_load 56 = .ok (.imul, 1) := by decide +kernel
theorem dX6_load_57 : decode cX6_load 57 = .ok (.iload_n 2, 1) := by decide +kernel
theorem dX6_load_58 : decode cX6_load 58 = .ok (.iadd, 1) := by decide +kernel
theorem dX6_load_59 : decode cX6_load 59 = .ok (.iaload, 1) := by decide +kernel
theorem dX6_load_60 : decode cX6_load 60 = .ok (.i2l, 1) := by decide +kernel
theorem dX6_load_61 : decode cX6_load 61 = .ok (.lconst 0, 1) := by decide +kernel
theorem dX6_load_62 : decode cX6_load 62 = .ok (.ldc2_w 53, 3) := by decide +kernel
theorem dX6_load_65 : decode cX6_load 65 = .ok (.invokestatic 42, 3) := by decide +kernel
theorem dX6_load_68 : decode cX6_load 68 = .ok (.ifCond .eq 31, 3) := by decide +kernel
theorem dX6_load_71 : decode cX6_load 71 = .ok (.aload_n 0, 1) := by decide +kernel
theorem dX6_load_72 : decode cX6_load 72 = .ok (.getfield 9, 3) := by decide +kernel
theorem dX6_load_75 : decode cX6_load 75 = .ok (.bipush 10, 2) := by decide +kernel
theorem dX6_load_77 : decode cX6_load 77 = .ok (.iconst 3, 1) := by decide +kernel
theorem dX6_load_78 : decode cX6_load 78 = .ok (.iload_n 2, 1) := by decide +kernel
theorem dX6_load_79 : decode cX6_load 79 = .ok (.imul, 1) := by decide +kernel
theorem dX6_load_80 : decode cX6_load 80 = .ok (.iadd, 1) := by decide +kernel
theorem dX6_load_81 : decode cX6_load 81 = .ok (.aload_n 0, 1) := by decide +kernel
theorem dX6_load_82 : decode cX6_load 82 = .ok (.getfield 31, 3) := by decide +kernel
theorem dX6_load_85 : decode cX6_load 85 = .ok (.bipush 40, 2) := by decide +kernel
theorem dX6_load_87 : decode cX6_load 87 = .ok (.iload_n 1, 1) := by decide +kernel
theorem dX6_load_88 : decode cX6_load 88 = .ok (.imul, 1) := by decide +kernel
theorem dX6_load_89 : decode cX6_load 89 = .ok (.iload_n 2, 1) := by decide +kernel
theorem dX6_load_90 : decode cX6_load 90 = .ok (.iadd, 1) := by decide +kernel
theorem dX6_load_91 : decode cX6_load 91 = .ok (.iaload, 1) := by decide +kernel
theorem dX6_load_92 : decode cX6_load 92 = .ok (.iastore, 1) := by decide +kernel
theorem dX6_load_93 : decode cX6_load 93 = .ok (.iinc 2 1, 3) := by decide +kernel
theorem dX6_load_96 : decode cX6_load 96 = .ok (.goto (-63), 3) := by decide +kernel
theorem dX6_load_99 : decode cX6_load 99 = .ok (.iload_n 2, 1) := by decide +kernel
theorem dX6_load_100 : decode cX6_load 100 = .ok (.ireturn, 1) := by decide +kernel
theorem dX6_judge_0 : decode cX6_judge 0 = .ok (.iload_n 1, 1) := by decide +kernel
theorem dX6_judge_1 : decode cX6_judge 1 = .ok (.invokestatic 278, 3) := by decide +kernel
theorem dX6_judge_4 : decode cX6_judge 4 = .ok (.ifCond .ne 10, 3) := by decide +kernel
theorem dX6_judge_7 : decode cX6_judge 7 = .ok (.aload_n 0, 1) := by decide +kernel
theorem dX6_judge_8 : decode cX6_judge 8 = .ok (.ldc 34, 2) := by decide +kernel
theorem dX6_judge_10 : decode cX6_judge 10 = .ok (.invokevirtual 36, 3) := by decide +kernel
theorem dX6_judge_13 : decode cX6_judge 13 = .ok (.ireturn, 1) := by decide +kernel
theorem dX6_judge_14 : decode cX6_judge 14 = .ok (.aload_n 0, 1) := by decide +kernel
theorem dX6_judge_15 : decode cX6_judge 15 = .ok (.getfield 25, 3) := by decide +kernel
theorem dX6_judge_18 : decode cX6_judge 18 = .ok (.iload_n 1, 1) := by decide +kernel
theorem dX6_judge_19 : decode cX6_judge 19 = .ok (.iaload, 1) := by decide +kernel
theorem dX6_judge_20 : decode cX6_judge 20 = .ok (.ifCond .ne 11, 3) := by decide +kernel
theorem dX6_judge_23 : decode cX6_judge 23 = .ok (.aload_n 0, 1) := by decide +kernel
theorem dX6_judge_24 : decode cX6_judge 24 = .ok (.ldc_w 273, 3) := by decide +kernel
theorem dX6_judge_27 : decode cX6_judge 27 = .ok (.invokevirtual 36, 3) := by decide +kernel
theorem dX6_judge_30 : decode cX6_judge 30 = .ok (.ireturn, 1) := by decide +kernel
theorem dX6_judge_31 : decode cX6_judge 31 = .ok (.aload_n 0, 1) := by decide +kernel
theorem dX6_judge_32 : decode cX6_judge 32 = .ok (.getfield 9, 3) := by decide +kernel
theorem dX6_judge_35 : decode cX6_judge 35 = .ok (.iconst 0, 1) := by decide +kernel
theorem dX6_judge_36 : decode cX6_judge 36 = .ok (.iaload, 1) := by decide +kernel
theorem dX6_judge_37 : decode cX6_judge 37 = .ok (.aload_n 0, 1) := by decide +kernel
theorem dX6_judge_38 : decode cX6_judge 38 = .ok (.getfield 28, 3) := by decide +kernel
theorem dX6_judge_41 : decode cX6_judge 41 = .ok (.iload_n 1, 1) := by decide +kernel
theorem dX6_judge_42 : decode cX6_judge 42 = .ok (.iaload, 1) := by decide +kernel
theorem dX6_judge_43 : decode cX6_judge 43 = .ok (.iadd, 1) := by decide +kernel
theorem dX6_judge_44 : decode cX6_judge 44 = .ok (.ldc 134, 2) := by decide +kernel
theorem dX6_judge_46 : decode cX6_judge 46 = .ok (.if_icmp .le 10, 3) := by decide +kernel
theorem dX6_judge_49 : decode cX6_judge 49 = .ok (.aload_n 0, 1) := by decide +kernel
theorem dX6_judge_50 : decode cX6_judge 50 = .ok (.ldc 135, 2) := by decide +kernel
theorem dX6_judge_52 : decode cX6_judge 52 = .ok (.invokevirtual 36, 3) := by decide +kernel
theorem dX6_judge_55 : decode cX6_judge 55 = .ok (.ireturn, 1) := by decide +kernel
theorem dX6_judge_56 : decode cX6_judge 56 = .ok (.aload_n 0, 1) := by decide +kernel
theorem dX6_judge_57 : decode cX6_judge 57 = .ok (.getfield 9, 3) := by decide +kernel
theorem dX6_judge_60 : decode cX6_judge 60 = .ok (.aload_n 0, 1) := by decide +kernel
theorem dX6_judge_61 : decode cX6_judge 61 = .ok (.getfield 16, 3) := by decide +kernel
theorem dX6_judge_64 : decode cX6_judge 64 = .ok (.invokestatic 156, 3) := by decide +kernel
theorem dX6_judge_67 : decode cX6_judge 67 = .ok (.iconst 0, 1) := by decide +kernel
theorem dX6_judge_68 : decode cX6_judge 68 = .ok (.istore_n 2, 1) := by decide +kernel
theorem dX6_judge_69 : decode cX6_judge 69 = .ok (.iload_n 2, 1) := by decide +kernel
theorem dX6_judge_70 : decode cX6_judge 70 = .ok (.aload_n 0, 1) := by decide +kernel
theorem dX6_judge_71 : decode cX6_judge 71 = .ok (.getfield 28, 3) := by decide +kernel
theorem dX6_judge_74 : decode cX6_judge 74 = .ok (.iload_n 1, 1) := by decide +kernel
theorem dX6_judge_75 : decode cX6_judge 75 = .ok (.iaload, 1) := by decide +kernel
theorem dX6_judge_76 : decode cX6_judge 76 = .ok (.if_icmp .ge 31, 3) := by decide +kernel
theorem dX6_judge_79 : decode cX6_judge 79 = .ok (.aload_n 0, 1) := by decide +kernel
theorem dX6_judge_80 : decode cX6_judge 80 = .ok (.aload_n 0, 1) := by decide +kernel
theorem dX6_judge_81 : decode cX6_judge 81 = .ok (.invokevirtual 126, 3) := by decide +kernel
theorem dX6_judge_84 : decode cX6_judge 84 = .ok (.invokevirtual 129, 3) := by decide +kernel
theorem dX6_judge_87 : decode cX6_judge 87 = .ok (.aload_n 0, 1) := by decide +kernel
theorem dX6_judge_88 : decode cX6_judge 88 = .ok (.getfield 31, 3) := by decide +kernel
theorem dX6_judge_91 : decode cX6_judge 91 = .ok (.bipush 40, 2) := by decide +kernel
theorem dX6_judge_93 : decode cX6_judge 93 = .ok (.iload_n 1, 1) := by decide +kernel
theorem dX6_judge_94 : decode cX6_judge 94 = .ok (.imul, 1) := by decide +kernel
theorem dX6_judge_95 : decode cX6_judge 95 = .ok (.iload_n 2, 1) := by decide +kernel
theorem dX6_judge_96 : decode cX6_judge 96 = .ok (.iadd, 1) := by decide +kernel
theorem dX6_judge_97 : decode cX6_judge 97 = .ok (.iaload, 1) := by decide +kernel
theorem dX6_judge_98 : decode cX6_judge 98 = .ok (.if_icmp .ne 9, 3) := by decide +kernel
theorem dX6_judge_101 : decode cX6_judge 101 = .ok (.iinc 2 1, 3) := by decide +kernel
theorem dX6_judge_104 : decode cX6_judge 104 = .ok (.goto (-35), 3) := by decide +kernel
theorem dX6_judge_107 : decode cX6_judge 107 = .ok (.aload_n 0, 1) := by decide +kernel
theorem dX6_judge_108 : decode cX6_judge 108 = .ok (.getfield 16, 3) := by decide +kernel
theorem dX6_judge_111 : decode cX6_judge 111 = .ok (.aload_n 0, 1) := by decide +kernel
theorem dX6_judge_112 : decode cX6_judge 112 = .ok (.getfield 9, 3) := by decide +kernel
theorem dX6_judge_115 : decode cX6_judge 115 = .ok (.invokestatic 156, 3) := by decide +kernel
theorem dX6_judge_118 : decode cX6_judge 118 = .ok (.iload_n 2, 1) := by decide +kernel
theorem dX6_judge_119 : decode cX6_judge 119 = .ok (.aload_n 0, 1) := by decide +kernel
theorem dX6_judge_120 : decode cX6_judge 120 = .ok (.getfield 28, 3) := by decide +kernel
theorem dX6_judge_123 : decode cX6_judge 123 = .ok (.iload_n 1, 1) := by decide +kernel
theorem dX6_judge_124 : decode cX6_judge 124 = .ok (.iaload, 1) := by decide +kernel
theorem dX6_judge_125 : decode cX6_judge 125 = .ok (.if_icmp .ne 7, 3) := by decide +kernel
theorem dX6_judge_128 : decode cX6_judge 128 = .ok (.iconst 0, 1) := by decide +kernel
theorem dX6_judge_129 : decode cX6_judge 129 = .ok (.goto 6, 3) := by decide +kernel
theorem dX6_judge_132 : decode cX6_judge 132 = .ok (.iconst 1, 1) := by decide +kernel
theorem dX6_judge_133 : decode cX6_judge 133 = .ok (.iload_n 2, 1) := by decide +kernel
theorem dX6_judge_134 : decode cX6_judge 134 = .ok (.iadd, 1) := by decide +kernel
theorem dX6_judge_135 : decode cX6_judge 135 = .ok (.ireturn, 1) := by decide +kernel
theorem dX6_image_0 : decode cX6_image 0 = .ok (.aload_n 0, 1) := by decide +kernel
theorem dX6_image_1 : decode cX6_image 1 = .ok (.getfield 9, 3) := by decide +kernel
theorem dX6_image_4 : decode cX6_image 4 = .ok (.aload_n 0, 1) := by decide +kernel
theorem dX6_image_5 : decode cX6_image 5 = .ok (.getfield 13, 3) := by decide +kernel
theorem dX6_image_8 : decode cX6_image 8 = .ok (.invokestatic 156, 3) := by decide +kernel
theorem dX6_image_11 : decode cX6_image 11 = .ok (.aload_n 0, 1) := by decide +kernel
theorem dX6_image_12 : decode cX6_image 12 = .ok (.iconst 1, 1) := by decide +kernel
theorem dX6_image_13 : decode cX6_image 13 = .ok (.putfield 282, 3) := by decide +kernel
theorem dX6_image_16 : decode cX6_image 16 = .ok (.iconst 1, 1) := by decide +kernel
theorem dX6_image_17 : decode cX6_image 17 = .ok (.ireturn, 1) := by decide +kernel
theorem dX6_undo_0 : decode cX6_undo 0 = .ok (.aload_n 0, 1) := by decide +kernel
theorem dX6_undo_1 : decode cX6_undo 1 = .ok (.getfield 282, 3) := by decide +kernel
theorem dX6_undo_4 : decode cX6_undo 4 = .ok (.ifCond .ne 10, 3) := by decide +kernel
theorem dX6_undo_7 : decode cX6_undo 7 = .ok (.aload_n 0, 1) := by decide +kernel
theorem dX6_undo_8 : decode cX6_undo 8 = .ok (.ldc 35, 2) := by decide +kernel
theorem dX6_undo_10 : decode cX6_undo 10 = .ok (.invokevirtual 36, 3) := by decide +kernel
theorem dX6_undo_13 : decode cX6_undo 13 = .ok (.ireturn, 1) := by decide +kernel
theorem dX6_undo_14 : decode cX6_undo 14 = .ok (.aload_n 0, 1) := by decide +kernel
theorem dX6_undo_15 : decode cX6_undo 15 = .ok (.getfield 13, 3) := by decide +kernel
theorem dX6_undo_18 : decode cX6_undo 18 = .ok (.aload_n 0, 1) := by decide +kernel
theorem dX6_undo_19 : decode cX6_undo 19 = .ok (.getfield 9, 3) := by decide +kernel
theorem dX6_undo_22 : decode cX6_undo 22 = .ok (.invokestatic 156, 3) := by decide +kernel
theorem dX6_undo_25 : decode cX6_undo 25 = .ok (.aload_n 0, 1) := by decide +kernel
theorem dX6_undo_26 : decode cX6_undo 26 = .ok (.getfield 9, 3) := by decide +kernel
theorem dX6_undo_29 : decode cX6_undo 29 = .ok (.iconst 0, 1) := by decide +kernel
theorem dX6_undo_30 : decode cX6_undo 30 = .ok (.iaload, 1) := by decide +kernel
theorem dX6_undo_31 : decode cX6_undo 31 = .ok (.ireturn, 1) := by decide +kernel
theorem dX6_tear_0 : decode cX6_tear 0 = .ok (.aload_n 0, 1) := by decide +kernel
theorem dX6_tear_1 : decode cX6_tear 1 = .ok (.getfield 282, 3) := by decide +kernel
theorem dX6_tear_4 : decode cX6_tear 4 = .ok (.ifCond .eq 7, 3) := by decide +kernel
theorem dX6_tear_7 : decode cX6_tear 7 = .ok (.iconst 1, 1) := by decide +kernel
theorem dX6_tear_8 : decode cX6_tear 8 = .ok (.goto 4, 3) := by decide +kernel
theorem dX6_tear_11 : decode cX6_tear 11 = .ok (.iconst 0, 1) := by decide +kernel
theorem dX6_tear_12 : decode cX6_tear 12 = .ok (.istore_n 1, 1) := by decide +kernel
theorem dX6_tear_13 : decode cX6_tear 13 = .ok (.aload_n 0, 1) := by decide +kernel
theorem dX6_tear_14 : decode cX6_tear 14 = .ok (.iconst 0, 1) := by decide +kernel
theorem dX6_tear_15 : decode cX6_tear 15 = .ok (.putfield 282, 3) := by decide +kernel
theorem dX6_tear_18 : decode cX6_tear 18 = .ok (.iload_n 1, 1) := by decide +kernel
theorem dX6_tear_19 : decode cX6_tear 19 = .ok (.ireturn, 1) := by decide +kernel
theorem dX6_count_0 : decode cX6_count 0 = .ok (.iconst 0, 1) := by decide +kernel
theorem dX6_count_1 : decode cX6_count 1 = .ok (.istore_n 2, 1) := by decide +kernel
theorem dX6_count_2 : decode cX6_count 2 = .ok (.iload_n 1, 1) := by decide +kernel
theorem dX6_count_3 : decode cX6_count 3 = .ok (.tableswitch 130 0 5 #[37, 45, 50, 82, 87, 94], 37) := by decide +kernel
theorem dX6_count_40 : decode cX6_count 40 = .ok (.aload_n 0, 1) := by decide +kernel
theorem dX6_count_41 : decode cX6_count 41 = .ok (.getfield 9, 3) := by decide +kernel
theorem dX6_count_44 : decode cX6_count 44 = .ok (.bipush 8, 2) := by decide +kernel
theorem dX6_count_46 : decode cX6_count 46 = .ok (.iaload, 1) := by decide +kernel
theorem dX6_count_47 : decode cX6_count 47 = .ok (.ireturn, 1) := by decide +kernel
theorem dX6_count_48 : decode cX6_count 48 = .ok (.aload_n 0, 1) := by decide +kernel
theorem dX6_count_49 : decode cX6_count 49 = .ok (.invokevirtual 163, 3) := by decide +kernel
theorem dX6_count_52 : decode cX6_count 52 = .ok (.ireturn, 1) := by decide +kernel
theorem dX6_count_53 : decode cX6_count 53 = .ok (.iconst 0, 1) := by decide +kernel
theorem dX6_count_54 : decode cX6_count 54 = .ok (.istore_n 3, 1) := by decide +kernel
theorem dX6_count_55 : decode cX6_count 55 = .ok (.iload_n 3, 1) := by decide +kernel
theorem dX6_count_56 : decode cX6_count 56 = .ok (.bipush 10, 2) := by decide +kernel
theorem dX6_count_58 : decode cX6_count 58 = .ok (.if_icmp .ge 25, 3) := by decide +kernel
theorem dX6_count_61 : decode cX6_count 61 = .ok (.iload_n 2, 1) := by decide +kernel
theorem dX6_count_62 : decode cX6_count 62 = .ok (.aload_n 0, 1) := by decide +kernel
theorem dX6_count_63 : decode cX6_count 63 = .ok (.getfield 9, 3) := by decide +kernel
theorem dX6_count_66 : decode cX6_count 66 = .ok (.bipush 10, 2) := by decide +kernel
theorem dX6_count_68 : decode cX6_count 68 = .ok (.iconst 3, 1) := by decide +kernel
theorem dX6_count_69 : decode cX6_count 69 = .ok (.iload_n 3, 1) := by decide +kernel
theorem dX6_count_70 : decode cX6_count 70 = .ok (.imul, 1) := by decide +kernel
theorem dX6_count_71 : decode cX6_count 71 = .ok (.iadd, 1) := by decide +kernel
theorem dX6_count_72 : decode cX6_count 72 = .ok (.iconst 2, 1) := by decide +kernel
theorem dX6_count_73 : decode cX6_count 73 = .ok (.iadd, 1) := by decide +kernel
theorem dX6_count_74 : decode cX6_count 74 = .ok (.iaload, 1) := by decide +kernel
theorem dX6_count_75 : decode cX6_count 75 = .ok (.iadd, 1) := by decide +kernel
theorem dX6_count_76 : decode cX6_count 76 = .ok (.istore_n 2, 1) := by decide +kernel
theorem dX6_count_77 : decode cX6_count 77 = .ok (.iinc 3 1, 3) := by decide +kernel
theorem dX6_count_80 : decode cX6_count 80 = .ok (.goto (-25), 3) := by decide +kernel
theorem dX6_count_83 : decode cX6_count 83 = .ok (.iload_n 2, 1) := by decide +kernel
theorem dX6_count_84 : decode cX6_count 84 = .ok (.ireturn, 1) := by decide +kernel
theorem dX6_count_85 : decode cX6_count 85 = .ok (.aload_n 0, 1) := by decide +kernel
theorem dX6_count_86 : decode cX6_count 86 = .ok (.getfield 173, 3) := by decide +kernel
theorem dX6_count_89 : decode cX6_count 89 = .ok (.ireturn, 1) := by decide +kernel
theorem dX6_count_90 : decode cX6_count 90 = .ok (.aload_n 0, 1) := by decide +kernel
theorem dX6_count_91 : decode cX6_count 91 = .ok (.getfield 9, 3) := by decide +kernel
theorem dX6_count_94 : decode cX6_count 94 = .ok (.iconst 1, 1) := by decide +kernel
theorem dX6_count_95 : decode cX6_count 95 = .ok (.iaload, 1) := by decide +kernel
theorem dX6_count_96 : decode cX6_count 96 = .ok (.ireturn, 1) := by decide +kernel
theorem dX6_count_97 : decode cX6_count 97 = .ok (.iconst 0, 1) := by decide +kernel
theorem dX6_count_98 : decode cX6_count 98 = .ok (.istore_n 3, 1) := by decide +kernel
theorem dX6_count_99 : decode cX6_count 99 = .ok (.iload_n 3, 1) := by decide +kernel
theorem dX6_count_100 : decode cX6_count 100 = .ok (.bipush 10, 2) := by decide +kernel
theorem dX6_count_102 : decode cX6_count 102 = .ok (.if_icmp .ge 29, 3) := by decide +kernel
theorem dX6_count_105 : decode cX6_count 105 = .ok (.iload_n 2, 1) := by decide +kernel
theorem dX6_count_106 : decode cX6_count 106 = .ok (.aload_n 0, 1) := by decide +kernel
theorem dX6_count_107 : decode cX6_count 107 = .ok (.getfield 9, 3) := by decide +kernel
theorem dX6_count_110 : decode cX6_count 110 = .ok (.bipush 70, 2) := by decide +kernel
theorem dX6_count_112 : decode cX6_count 112 = .ok (.iload_n 3, 1) := by decide +kernel
theorem dX6_count_113 : decode cX6_count 113 = .ok (.iadd, 1) := by decide +kernel
theorem dX6_count_114 : decode cX6_count 114 = .ok (.iaload, 1) := by decide +kernel
theorem dX6_count_115 : decode cX6_count 115 = .ok (.ifCond .ge 7, 3) := by decide +kernel
theorem dX6_count_118 : decode cX6_count 118 = .ok (.iconst 0, 1) := by decide +kernel
theorem dX6_count_119 : decode cX6_count 119 = .ok (.goto 4, 3) := by decide +kernel
theorem dX6_count_122 : decode cX6_count 122 = .ok (.iconst 1, 1) := by decide +kernel
theorem dX6_count_123 : decode cX6_count 123 = .ok (.iadd, 1) := by decide +kernel
theorem dX6_count_124 : decode cX6_count 124 = .ok (.istore_n 2, 1) := by decide +kernel
theorem dX6_count_125 : decode cX6_count 125 = .ok (.iinc 3 1, 3) := by decide +kernel
theorem dX6_count_128 : decode cX6_count 128 = .ok (.goto (-29), 3) := by decide +kernel
theorem dX6_count_131 : decode cX6_count 131 = .ok (.iload_n 2, 1) := by decide +kernel
theorem dX6_count_132 : decode cX6_count 132 = .ok (.ireturn, 1) := by decide +kernel
theorem dX6_count_133 : decode cX6_count 133 = .ok (.aload_n 0, 1) := by decide +kernel
theorem dX6_count_134 : decode cX6_count 134 = .ok (.ldc 34, 2) := by decide +kernel
theorem dX6_count_136 : decode cX6_count 136 = .ok (.invokevirtual 36, 3) := by decide +kernel
theorem dX6_count_139 : decode cX6_count 139 = .ok (.ireturn, 1) := by decide +kernel
theorem dX6_status_0 : decode cX6_status 0 = .ok (.iload_n 1, 1) := by decide +kernel
theorem dX6_status_1 : decode cX6_status 1 = .ok (.i2l, 1) := by decide +kernel
theorem dX6_status_2 : decode cX6_status 2 = .ok (.ldc2_w 285, 3) := by decide +kernel
theorem dX6_status_5 : decode cX6_status 5 = .ok (.ldc2_w 46, 3) := by decide +kernel
theorem dX6_status_8 : decode cX6_status 8 = .ok (.invokestatic 42, 3) := by decide +kernel
theorem dX6_status_11 : decode cX6_status 11 = .ok (.ifCond .ne 10, 3) := by decide +kernel
theorem dX6_status_14 : decode cX6_status 14 = .ok (.aload_n 0, 1) := by decide +kernel
theorem dX6_status_15 : decode cX6_status 15 = .ok (.ldc 34, 2) := by decide +kernel
theorem dX6_status_17 : decode cX6_status 17 = .ok (.invokevirtual 36, 3) := by decide +kernel
theorem dX6_status_20 : decode cX6_status 20 = .ok (.ireturn, 1) := by decide +kernel
theorem dX6_status_21 : decode cX6_status 21 = .ok (.iconst 0, 1) := by decide +kernel
theorem dX6_status_22 : decode cX6_status 22 = .ok (.istore_n 2, 1) := by decide +kernel
theorem dX6_status_23 : decode cX6_status 23 = .ok (.iconst 0, 1) := by decide +kernel
theorem dX6_status_24 : decode cX6_status 24 = .ok (.istore_n 3, 1) := by decide +kernel
theorem dX6_status_25 : decode cX6_status 25 = .ok (.iload_n 3, 1) := by decide +kernel
theorem dX6_status_26 : decode cX6_status 26 = .ok (.bipush 7, 2) := by decide +kernel
theorem dX6_status_28 : decode cX6_status 28 = .ok (.if_icmp .ge 31, 3) := by decide +kernel
theorem dX6_status_31 : decode cX6_status 31 = .ok (.iload_n 2, 1) := by decide +kernel
theorem dX6_status_32 : decode cX6_status 32 = .ok (.iload_n 1, 1) := by decide +kernel
theorem dX6_status_33 : decode cX6_status 33 = .ok (.ifCond .lt 8, 3) := by decide +kernel
theorem dX6_status_36 : decode cX6_status 36 = .ok (.iload_n 1, 1) := by decide +kernel
theorem dX6_status_37 : decode cX6_status 37 = .ok (.iload_n 3, 1) := by decide +kernel
theorem dX6_status_38 : decode cX6_status 38 = .ok (.if_icmp .ne 12, 3) := by decide +kernel
theorem dX6_status_41 : decode cX6_status 41 = .ok (.aload_n 0, 1) := by decide +kernel
theorem dX6_status_42 : decode cX6_status 42 = .ok (.getfield 19, 3) := by decide +kernel
theorem dX6_status_45 : decode cX6_status 45 = .ok (.iload_n 3, 1) := by decide +kernel
theorem dX6_status_46 : decode cX6_status 46 = .ok (.iaload, 1) := by decide +kernel
theorem dX6_status_47 : decode cX6_status 47 = .ok (.goto 4, 3) := by decide +kernel
theorem dX6_status_50 : decode cX6_status 50 = .ok (.iconst 0, 1) := by decide +kernel
theorem dX6_status_51 : decode cX6_status 51 = .ok (.iadd, 1) := by decide +kernel
theorem dX6_status_52 : decode cX6_status 52 = .ok (.istore_n 2, 1) := by decide +kernel
theorem dX6_status_53 : decode cX6_status 53 = .ok (.iinc 3 1, 3) := by decide +kernel
theorem dX6_status_56 : decode cX6_status 56 = .ok (.goto (-31), 3) := by decide +kernel
theorem dX6_status_59 : decode cX6_status 59 = .ok (.iload_n 2, 1) := by decide +kernel
theorem dX6_status_60 : decode cX6_status 60 = .ok (.ireturn, 1) := by decide +kernel
