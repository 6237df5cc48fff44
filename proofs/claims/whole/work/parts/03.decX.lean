theorem dX0_init_0 : decode cX0_init 0 = .ok (.aload_n 0, 1) := by decide +kernel
theorem dX0_init_1 : decode cX0_init 1 = .ok (.invokespecial 3, 3) := by decide +kernel
theorem dX0_init_4 : decode cX0_init 4 = .ok (.aload_n 0, 1) := by decide +kernel
theorem dX0_init_5 : decode cX0_init 5 = .ok (.bipush 10, 2) := by decide +kernel
theorem dX0_init_7 : decode cX0_init 7 = .ok (.newarray .int, 2) := by decide +kernel
theorem dX0_init_9 : decode cX0_init 9 = .ok (.putfield 9, 3) := by decide +kernel
theorem dX0_init_12 : decode cX0_init 12 = .ok (.aload_n 0, 1) := by decide +kernel
theorem dX0_init_13 : decode cX0_init 13 = .ok (.bipush 10, 2) := by decide +kernel
theorem dX0_init_15 : decode cX0_init 15 = .ok (.newarray .int, 2) := by decide +kernel
theorem dX0_init_17 : decode cX0_init 17 = .ok (.putfield 15, 3) := by decide +kernel
theorem dX0_init_20 : decode cX0_init 20 = .ok (.aload_n 0, 1) := by decide +kernel
theorem dX0_init_21 : decode cX0_init 21 = .ok (.bipush 10, 2) := by decide +kernel
theorem dX0_init_23 : decode cX0_init 23 = .ok (.newarray .int, 2) := by decide +kernel
theorem dX0_init_25 : decode cX0_init 25 = .ok (.putfield 18, 3) := by decide +kernel
theorem dX0_init_28 : decode cX0_init 28 = .ok (.aload_n 0, 1) := by decide +kernel
theorem dX0_init_29 : decode cX0_init 29 = .ok (.getfield 9, 3) := by decide +kernel
theorem dX0_init_32 : decode cX0_init 32 = .ok (.bipush 20, 2) := by decide +kernel
theorem dX0_init_34 : decode cX0_init 34 = .ok (.invokestatic 21, 3) := by decide +kernel
theorem dX0_init_37 : decode cX0_init 37 = .ok (.aload_n 0, 1) := by decide +kernel
theorem dX0_init_38 : decode cX0_init 38 = .ok (.iconst 3, 1) := by decide +kernel
theorem dX0_init_39 : decode cX0_init 39 = .ok (.putfield 27, 3) := by decide +kernel
theorem dX0_init_42 : decode cX0_init 42 = .ok (.aload_n 0, 1) := by decide +kernel
theorem dX0_init_43 : decode cX0_init 43 = .ok (.bipush 40, 2) := by decide +kernel
theorem dX0_init_45 : decode cX0_init 45 = .ok (.putfield 31, 3) := by decide +kernel
theorem dX0_init_48 : decode cX0_init 48 = .ok (.aload_n 0, 1) := by decide +kernel
theorem dX0_init_49 : decode cX0_init 49 = .ok (.sipush 1500, 3) := by decide +kernel
theorem dX0_init_52 : decode cX0_init 52 = .ok (.putfield 34, 3) := by decide +kernel
theorem dX0_init_55 : decode cX0_init 55 = .ok (.aload_n 0, 1) := by decide +kernel
theorem dX0_init_56 : decode cX0_init 56 = .ok (.bipush 50, 2) := by decide +kernel
theorem dX0_init_58 : decode cX0_init 58 = .ok (.putfield 37, 3) := by decide +kernel
theorem dX0_init_61 : decode cX0_init 61 = .ok (.aload_n 0, 1) := by decide +kernel
theorem dX0_init_62 : decode cX0_init 62 = .ok (.iconst (-1), 1) := by decide +kernel
theorem dX0_init_63 : decode cX0_init 63 = .ok (.putfield 40, 3) := by decide +kernel
theorem dX0_init_66 : decode cX0_init 66 = .ok (.aload_n 0, 1) := by decide +kernel
theorem dX0_init_67 : decode cX0_init 67 = .ok (.iconst 0, 1) := by decide +kernel
theorem dX0_init_68 : decode cX0_init 68 = .ok (.putfield 43, 3) := by decide +kernel
theorem dX0_init_71 : decode cX0_init 71 = .ok (.aload_n 0, 1) := by decide +kernel
theorem dX0_init_72 : decode cX0_init 72 = .ok (.new 46, 3) := by decide +kernel
theorem dX0_init_75 : decode cX0_init 75 = .ok (.dup, 1) := by decide +kernel
theorem dX0_init_76 : decode cX0_init 76 = .ok (.invokespecial 48, 3) := by decide +kernel
theorem dX0_init_79 : decode cX0_init 79 = .ok (.putfield 49, 3) := by decide +kernel
theorem dX0_init_82 : decode cX0_init 82 = .ok (.aload_n 0, 1) := by decide +kernel
theorem dX0_init_83 : decode cX0_init 83 = .ok (.iconst 0, 1) := by decide +kernel
theorem dX0_init_84 : decode cX0_init 84 = .ok (.putfield 53, 3) := by decide +kernel
theorem dX0_init_87 : decode cX0_init 87 = .ok (.aload_n 0, 1) := by decide +kernel
theorem dX0_init_88 : decode cX0_init 88 = .ok (.bipush 35, 2) := by decide +kernel
theorem dX0_init_90 : decode cX0_init 90 = .ok (.newarray .int, 2) := by decide +kernel
theorem dX0_init_92 : decode cX0_init 92 = .ok (.putfield 56, 3) := by decide +kernel
theorem dX0_init_95 : decode cX0_init 95 = .ok (.aload_n 0, 1) := by decide +kernel
theorem dX0_init_96 : decode cX0_init 96 = .ok (.iconst 1, 1) := by decide +kernel
theorem dX0_init_97 : decode cX0_init 97 = .ok (.putfield 59, 3) := by decide +kernel
theorem dX0_init_100 : decode cX0_init 100 = .ok (.aload_n 0, 1) := by decide +kernel
theorem dX0_init_101 : decode cX0_init 101 = .ok (.bipush 10, 2) := by decide +kernel
theorem dX0_init_103 : decode cX0_init 103 = .ok (.newarray .int, 2) := by decide +kernel
theorem dX0_init_105 : decode cX0_init 105 = .ok (.putfield 62, 3) := by decide +kernel
theorem dX0_init_108 : decode cX0_init 108 = .ok (.aload_n 0, 1) := by decide +kernel
theorem dX0_init_109 : decode cX0_init 109 = .ok (.getfield 62, 3) := by decide +kernel
theorem dX0_init_112 : decode cX0_init 112 = .ok (.iconst (-1), 1) := by decide +kernel
theorem dX0_init_113 : decode cX0_init 113 = .ok (.invokestatic 21, 3) := by decide +kernel
theorem dX0_init_116 : decode cX0_init 116 = .ok (.return_, 1) := by decide +kernel
theorem dX0_become_0 : decode cX0_become 0 = .ok (.aload_n 1, 1) := by decide +kernel
theorem dX0_become_1 : decode cX0_become 1 = .ok (.getfield 9, 3) := by decide +kernel
theorem dX0_become_4 : decode cX0_become 4 = .ok (.iconst 0, 1) := by decide +kernel
theorem dX0_become_5 : decode cX0_become 5 = .ok (.aload_n 0, 1) := by decide +kernel
theorem dX0_become_6 : decode cX0_become 6 = .ok (.getfield 9, 3) := by decide +kernel
theorem dX0_become_9 : decode cX0_become 9 = .ok (.iconst 0, 1) := by decide +kernel
theorem dX0_become_10 : decode cX0_become 10 = .ok (.bipush 10, 2) := by decide +kernel
theorem dX0_become_12 : decode cX0_become 12 = .ok (.invokestatic 65, 3) := by decide +kernel
theorem dX0_become_15 : decode cX0_become 15 = .ok (.aload_n 1, 1) := by decide +kernel
theorem dX0_become_16 : decode cX0_become 16 = .ok (.getfield 15, 3) := by decide +kernel
theorem dX0_become_19 : decode cX0_become 19 = .ok (.iconst 0, 1) := by decide +kernel
theorem dX0_become_20 : decode cX0_become 20 = .ok (.aload_n 0, 1) := by decide +kernel
theorem dX0_become_21 : decode cX0_become 21 = .ok (.getfield 15, 3) := by decide +kernel
theorem dX0_become_24 : decode cX0_become 24 = .ok (.iconst 0, 1) := by decide +kernel
theorem dX0_become_25 : decode cX0_become 25 = .ok (.bipush 10, 2) := by decide +kernel
theorem dX0_become_27 : decode cX0_become 27 = .ok (.invokestatic 65, 3) := by decide +kernel
theorem dX0_become_30 : decode cX0_become 30 = .ok (.aload_n 1, 1) := by decide +kernel
theorem dX0_become_31 : decode cX0_become 31 = .ok (.getfield 18, 3) := by decide +kernel
theorem dX0_become_34 : decode cX0_become 34 = .ok (.iconst 0, 1) := by decide +kernel
theorem dX0_become_35 : decode cX0_become 35 = .ok (.aload_n 0, 1) := by decide +kernel
theorem dX0_become_36 : decode cX0_become 36 = .ok (.getfield 18, 3) := by decide +kernel
theorem dX0_become_39 : decode cX0_become 39 = .ok (.iconst 0, 1) := by decide +kernel
theorem dX0_become_40 : decode cX0_become 40 = .ok (.bipush 10, 2) := by decide +kernel
theorem dX0_become_42 : decode cX0_become 42 = .ok (.invokestatic 65, 3) := by decide +kernel
theorem dX0_become_45 : decode cX0_become 45 = .ok (.aload_n 0, 1) := by decide +kernel
theorem dX0_become_46 : decode cX0_become 46 = .ok (.aload_n 1, 1) := by decide +kernel
theorem dX0_become_47 : decode cX0_become 47 = .ok (.getfield 27, 3) := by decide +kernel
theorem dX0_become_50 : decode cX0_become 50 = .ok (.putfield 27, 3) := by decide +kernel
theorem dX0_become_53 : decode cX0_become 53 = .ok (.aload_n 0, 1) := by decide +kernel
theorem dX0_become_54 : decode cX0_become 54 = .ok (.aload_n 1, 1) := by decide +kernel
theorem dX0_become_55 : decode cX0_become 55 = .ok (.getfield 31, 3) := by decide +kernel
theorem dX0_become_58 : decode cX0_become 58 = .ok (.putfield 31, 3) := by decide +kernel
theorem dX0_become_61 : decode cX0_become 61 = .ok (.aload_n 0, 1) := by decide +kernel
theorem dX0_become_62 : decode cX0_become 62 = .ok (.aload_n 1, 1) := by decide +kernel
theorem dX0_become_63 : decode cX0_become 63 = .ok (.getfield 34, 3) := by decide +kernel
theorem dX0_become_66 : decode cX0_become 66 = .ok (.putfield 34, 3) := by decide +kernel
theorem dX0_become_69 : decode cX0_become 69 = .ok (.aload_n 0, 1) := by decide +kernel
theorem dX0_become_70 : decode cX0_become 70 = .ok (.aload_n 1, 1) := by decide +kernel
theorem dX0_become_71 : decode cX0_become 71 = .ok (.getfield 37, 3) := by decide +kernel
theorem dX0_become_74 : decode cX0_become 74 = .ok (.putfield 37, 3) := by decide +kernel
theorem dX0_become_77 : decode cX0_become 77 = .ok (.aload_n 0, 1) := by decide +kernel
theorem dX0_become_78 : decode cX0_become 78 = .ok (.aload_n 1, 1) := by decide +kernel
theorem dX0_become_79 : decode cX0_become 79 = .ok (.getfield 40, 3) := by decide +kernel
theorem dX0_become_82 : decode cX0_become 82 = .ok (.putfield 40, 3) := by decide +kernel
theorem dX0_become_85 : decode cX0_become 85 = .ok (.aload_n 0, 1) := by decide +kernel
theorem dX0_become_86 : decode cX0_become 86 = .ok (.aload_n 1, 1) := by decide +kernel
theorem dX0_become_87 : decode cX0_become 87 = .ok (.getfield 43, 3) := by decide +kernel
theorem dX0_become_90 : decode cX0_become 90 = .ok (.putfield 43, 3) := by decide +kernel
theorem dX0_become_93 : decode cX0_become 93 = .ok (.aload_n 0, 1) := by decide +kernel
theorem dX0_become_94 : decode cX0_become 94 = .ok (.getfield 49, 3) := by decide +kernel
theorem dX0_become_97 : decode cX0_become 97 = .ok (.aload_n 1, 1) := by decide +kernel
theorem dX0_become_98 : decode cX0_become 98 = .ok (.getfield 49, 3) := by decide +kernel
theorem dX0_become_101 : decode cX0_become 101 = .ok (.invokevirtual 71, 3) := by decide +kernel
theorem dX0_become_104 : decode cX0_become 104 = .ok (.aload_n 0, 1) := by decide +kernel
theorem dX0_become_105 : decode cX0_become 105 = .ok (.aload_n 1, 1) := by decide +kernel
theorem dX0_become_106 : decode cX0_become 106 = .ok (.getfield 53, 3) := by decide +kernel
theorem dX0_become_109 : decode cX0_become 109 = .ok (.putfield 53, 3) := by decide +kernel
theorem dX0_become_112 : decode cX0_become 112 = .ok (.aload_n 1, 1) := by decide +kernel
theorem dX0_become_113 : decode cX0_become 113 = .ok (.getfield 56, 3) := by decide +kernel
theorem dX0_become_116 : decode cX0_become 116 = .ok (.iconst 0, 1) := by decide +kernel
theorem dX0_become_117 : decode cX0_become 117 = .ok (.aload_n 0, 1) := by decide +kernel
theorem dX0_become_118 : decode cX0_become 118 = .ok (.getfield 56, 3) := by decide +kernel
theorem dX0_become_121 : decode cX0_become 121 = .ok (.iconst 0, 1) := by decide +kernel
theorem dX0_become_122 : decode cX0_become 122 = .ok (.bipush 35, 2) := by decide +kernel
theorem dX0_become_124 : decode cX0_become 124 = .ok (.invokestatic 65, 3) := by decide +kernel
theorem dX0_become_127 : decode cX0_become 127 = .ok (.aload_n 0, 1) := by decide +kernel
theorem dX0_become_128 : decode cX0_become 128 = .ok (.aload_n 1, 1) := by decide +kernel
theorem dX0_become_129 : decode cX0_become 129 = .ok (.getfield 59, 3) := by decide +kernel
theorem dX0_become_132 : decode cX0_become 132 = .ok (.putfield 59, 3) := by decide +kernel
theorem dX0_become_135 : decode cX0_become 135 = .ok (.aload_n 1, 1) := by decide +kernel
theorem dX0_become_136 : decode cX0_become 136 = .ok (.getfield 62, 3) := by decide +kernel
theorem dX0_become_139 : decode cX0_become 139 = .ok (.iconst 0, 1) := by decide +kernel
theorem dX0_become_140 : decode cX0_become 140 = .ok (.aload_n 0, 1) := by decide +kernel
theorem dX0_become_141 : decode cX0_become 141 = .ok (.getfield 62, 3) := by decide +kernel
theorem dX0_become_144 : decode cX0_become 144 = .ok (.iconst 0, 1) := by decide +kernel
theorem dX0_become_145 : decode cX0_become 145 = .ok (.bipush 10, 2) := by decide +kernel
theorem dX0_become_147 : decode cX0_become 147 = .ok (.invokestatic 65, 3) := by decide +kernel
theorem dX0_become_150 : decode cX0_become 150 = .ok (.return_, 1) := by decide +kernel
theorem dX0_part_0 : decode cX0_part 0 = .ok (.iload_n 1, 1) := by decide +kernel
theorem dX0_part_1 : decode cX0_part 1 = .ok (.tableswitch 42 0 2 #[27, 32, 37], 27) := by decide +kernel
theorem dX0_part_28 : decode cX0_part 28 = .ok (.aload_n 0, 1) := by decide +kernel
theorem dX0_part_29 : decode cX0_part 29 = .ok (.getfield 27, 3) := by decide +kernel
theorem dX0_part_32 : decode cX0_part 32 = .ok (.ireturn, 1) := by decide +kernel
theorem dX0_part_33 : decode cX0_part 33 = .ok (.aload_n 0, 1) := by decide +kernel
theorem dX0_part_34 : decode cX0_part 34 = .ok (.getfield 31, 3) := by decide +kernel
theorem dX0_part_37 : decode cX0_part 37 = .ok (.ireturn, 1) := by decide +kernel
theorem dX0_part_38 : decode cX0_part 38 = .ok (.aload_n 0, 1) := by decide +kernel
theorem dX0_part_39 : decode cX0_part 39 = .ok (.getfield 34, 3) := by decide +kernel
theorem dX0_part_42 : decode cX0_part 42 = .ok (.ireturn, 1) := by decide +kernel
theorem dX0_part_43 : decode cX0_part 43 = .ok (.aload_n 0, 1) := by decide +kernel
theorem dX0_part_44 : decode cX0_part 44 = .ok (.getfield 37, 3) := by decide +kernel
theorem dX0_part_47 : decode cX0_part 47 = .ok (.ireturn, 1) := by decide +kernel
theorem dX0_setPart_0 : decode cX0_setPart 0 = .ok (.iload_n 1, 1) := by decide +kernel
theorem dX0_setPart_1 : decode cX0_setPart 1 = .ok (.tableswitch 51 0 2 #[27, 35, 43], 27) := by decide +kernel
theorem dX0_setPart_28 : decode cX0_setPart 28 = .ok (.aload_n 0, 1) := by decide +kernel
theorem dX0_setPart_29 : decode cX0_setPart 29 = .ok (.iload_n 2, 1) := by decide +kernel
theorem dX0_setPart_30 : decode cX0_setPart 30 = .ok (.putfield 27, 3) := by decide +kernel
theorem dX0_setPart_33 : decode cX0_setPart 33 = .ok (.goto 24, 3) := by decide +kernel
theorem dX0_setPart_36 : decode cX0_setPart 36 = .ok (.aload_n 0, 1) := by decide +kernel
theorem dX0_setPart_37 : decode cX0_setPart 37 = .ok (.iload_n 2, 1) := by decide +kernel
theorem dX0_setPart_38 : decode cX0_setPart 38 = .ok (.putfield 31, 3) := by decide +kernel
theorem dX0_setPart_41 : decode cX0_setPart 41 = .ok (.goto 16, 3) := by decide +kernel
theorem dX0_setPart_44 : decode cX0_setPart 44 = .ok (.aload_n 0, 1) := by decide +kernel
theorem dX0_setPart_45 : decode cX0_setPart 45 = .ok (.iload_n 2, 1) := by decide +kernel
theorem dX0_setPart_46 : decode cX0_setPart 46 = .ok (.putfield 34, 3) := by decide +kernel
theorem dX0_setPart_49 : decode cX0_setPart 49 = .ok (.goto 8, 3) := by decide +kernel
theorem dX0_setPart_52 : decode cX0_setPart 52 = .ok (.aload_n 0, 1) := by decide +kernel
theorem dX0_setPart_53 : decode cX0_setPart 53 = .ok (.iload_n 2, 1) := by decide +kernel
theorem dX0_setPart_54 : decode cX0_setPart 54 = .ok (.putfield 37, 3) := by decide +kernel
theorem dX0_setPart_57 : decode cX0_setPart 57 = .ok (.return_, 1) := by decide +kernel
theorem dX0_isLiked_0 : decode cX0_isLiked 0 = .ok (.aload_n 0, 1) := by decide +kernel
theorem dX0_isLiked_1 : decode cX0_isLiked 1 = .ok (.getfield 9, 3) := by decide +kernel
theorem dX0_isLiked_4 : decode cX0_isLiked 4 = .ok (.iload_n 1, 1) := by decide +kernel
theorem dX0_isLiked_5 : decode cX0_isLiked 5 = .ok (.iaload, 1) := by decide +kernel
theorem dX0_isLiked_6 : decode cX0_isLiked 6 = .ok (.aload_n 0, 1) := by decide +kernel
theorem dX0_isLiked_7 : decode cX0_isLiked 7 = .ok (.getfield 37, 3) := by decide +kernel
theorem dX0_isLiked_10 : decode cX0_isLiked 10 = .ok (.if_icmp .lt 7, 3) := by decide +kernel
theorem dX0_isLiked_13 : decode cX0_isLiked 13 = .ok (.iconst 1, 1) := by decide +kernel
theorem dX0_isLiked_14 : decode cX0_isLiked 14 = .ok (.goto 4, 3) := by decide +kernel
theorem dX0_isLiked_17 : decode cX0_isLiked 17 = .ok (.iconst 0, 1) := by decide +kernel
theorem dX0_isLiked_18 : decode cX0_isLiked 18 = .ok (.ireturn, 1) := by decide +kernel
theorem dX0_likedSet_0 : decode cX0_likedSet 0 = .ok (.iconst 0, 1) := by decide +kernel
theorem dX0_likedSet_1 : decode cX0_likedSet 1 = .ok (.istore_n 1, 1) := by decide +kernel
theorem dX0_likedSet_2 : decode cX0_likedSet 2 = .ok (.iconst 0, 1) := by decide +kernel
theorem dX0_likedSet_3 : decode cX0_likedSet 3 = .ok (.istore_n 2, 1) := by decide +kernel
theorem dX0_likedSet_4 : decode cX0_likedSet 4 = .ok (.iload_n 2, 1) := by decide +kernel
theorem dX0_likedSet_5 : decode cX0_likedSet 5 = .ok (.bipush 10, 2) := by decide +kernel
theorem dX0_likedSet_7 : decode cX0_likedSet 7 = .ok (.if_icmp .ge 23, 3) := by decide +kernel
theorem dX0_likedSet_10 : decode cX0_likedSet 10 = .ok (.aload_n 0, 1) := by decide +kernel
theorem dX0_likedSet_11 : decode cX0_likedSet 11 = .ok (.iload_n 2, 1) := by decide +kernel
theorem dX0_likedSet_12 : decode cX0_likedSet 12 = .ok (.invokevirtual 75, 3) := by decide +kernel
theorem dX0_likedSet_15 : decode cX0_likedSet 15 = .ok (.ifCond .eq 9, 3) := by decide +kernel
theorem dX0_likedSet_18 : decode cX0_likedSet 18 = .ok (.iload_n 1, 1) := by decide +kernel
theorem dX0_likedSet_19 : decode cX0_likedSet 19 = .ok (.iconst 1, 1) := by decide +kernel
theorem dX0_likedSet_20 : decode cX0_likedSet 20 = .ok (.iload_n 2, 1) := by decide +kernel
theorem dX0_likedSet_21 : decode cX0_likedSet 21 = .ok (.ishl, 1) := by decide +kernel
theorem dX0_likedSet_22 : decode cX0_likedSet 22 = .ok (.ior, 1) := by decide +kernel
theorem dX0_likedSet_23 : decode cX0_likedSet 23 = .ok (.istore_n 1, 1) := by decide +kernel
theorem dX0_likedSet_24 : decode cX0_likedSet 24 = .ok (.iinc 2 1, 3) := by decide +kernel
theorem dX0_likedSet_27 : decode cX0_likedSet 27 = .ok (.goto (-23), 3) := by decide +kernel
theorem dX0_likedSet_30 : decode cX0_likedSet 30 = .ok (.iload_n 1, 1) := by decide +kernel
theorem dX0_likedSet_31 : decode cX0_likedSet 31 = .ok (.ireturn, 1) := by decide +kernel
theorem dX0_triedInAll_0 : decode cX0_triedInAll 0 = .ok (.iconst 0, 1) := by decide +kernel
theorem dX0_triedInAll_1 : decode cX0_triedInAll 1 = .ok (.istore_n 1, 1) := by decide +kernel
theorem dX0_triedInAll_2 : decode cX0_triedInAll 2 = .ok (.iconst 0, 1) := by decide +kernel
theorem dX0_triedInAll_3 : decode cX0_triedInAll 3 = .ok (.istore_n 2, 1) := by decide +kernel
theorem dX0_triedInAll_4 : decode cX0_triedInAll 4 = .ok (.iload_n 2, 1) := by decide +kernel
theorem dX0_triedInAll_5 : decode cX0_triedInAll 5 = .ok (.bipush 10, 2) := by decide +kernel
theorem dX0_triedInAll_7 : decode cX0_triedInAll 7 = .ok (.if_icmp .ge 18, 3) := by decide +kernel
theorem dX0_triedInAll_10 : decode cX0_triedInAll 10 = .ok (.iload_n 1, 1) := by decide +kernel
theorem dX0_triedInAll_11 : decode cX0_triedInAll 11 = .ok (.aload_n 0, 1) := by decide +kernel
theorem dX0_triedInAll_12 : decode cX0_triedInAll 12 = .ok (.getfield 18, 3) := by decide +kernel
theorem dX0_triedInAll_15 : decode cX0_triedInAll 15 = .ok (.iload_n 2, 1) := by decide +kernel
theorem dX0_triedInAll_16 : decode cX0_triedInAll 16 = .ok (.iaload, 1) := by decide +kernel
theorem dX0_triedInAll_17 : decode cX0_triedInAll 17 = .ok (.iadd, 1) := by decide +kernel
theorem dX0_triedInAll_18 : decode cX0_triedInAll 18 = .ok (.istore_n 1, 1) := by decide +kernel
theorem dX0_triedInAll_19 : decode cX0_triedInAll 19 = .ok (.iinc 2 1, 3) := by decide +kernel
theorem dX0_triedInAll_22 : decode cX0_triedInAll 22 = .ok (.goto (-18), 3) := by decide +kernel
theorem dX0_triedInAll_25 : decode cX0_triedInAll 25 = .ok (.iload_n 1, 1) := by decide +kernel
theorem dX0_triedInAll_26 : decode cX0_triedInAll 26 = .ok (.ireturn, 1) := by decide +kernel
theorem dX0_friendHas_0 : decode cX0_friendHas 0 = .ok (.aload_n 0, 1) := by decide +kernel
theorem dX0_friendHas_1 : decode cX0_friendHas 1 = .ok (.getfield 43, 3) := by decide +kernel
theorem dX0_friendHas_4 : decode cX0_friendHas 4 = .ok (.iload_n 1, 1) := by decide +kernel
theorem dX0_friendHas_5 : decode cX0_friendHas 5 = .ok (.iushr, 1) := by decide +kernel
theorem dX0_friendHas_6 : decode cX0_friendHas 6 = .ok (.iconst 1, 1) := by decide +kernel
theorem dX0_friendHas_7 : decode cX0_friendHas 7 = .ok (.iand, 1) := by decide +kernel
theorem dX0_friendHas_8 : decode cX0_friendHas 8 = .ok (.iconst 1, 1) := by decide +kernel
theorem dX0_friendHas_9 : decode cX0_friendHas 9 = .ok (.if_icmp .ne 7, 3) := by decide +kernel
theorem dX0_friendHas_12 : decode cX0_friendHas 12 = .ok (.iconst 1, 1) := by decide +kernel
theorem dX0_friendHas_13 : decode cX0_friendHas 13 = .ok (.goto 4, 3) := by decide +kernel
theorem dX0_friendHas_16 : decode cX0_friendHas 16 = .ok (.iconst 0, 1) := by decide +kernel
theorem dX0_friendHas_17 : decode cX0_friendHas 17 = .ok (.ireturn, 1) := by decide +kernel
theorem dX0_eats_0 : decode cX0_eats 0 = .ok (.aload_n 0, 1) := by decide +kernel
theorem dX0_eats_1 : decode cX0_eats 1 = .ok (.getfield 49, 3) := by decide +kernel
theorem dX0_eats_4 : decode cX0_eats 4 = .ok (.getfield 79, 3) := by decide +kernel
theorem dX0_eats_7 : decode cX0_eats 7 = .ok (.iload_n 1, 1) := by decide +kernel
theorem dX0_eats_8 : decode cX0_eats 8 = .ok (.iaload, 1) := by decide +kernel
theorem dX0_eats_9 : decode cX0_eats 9 = .ok (.istore_n 3, 1) := by decide +kernel
theorem dX0_eats_10 : decode cX0_eats 10 = .ok (.aload_n 0, 1) := by decide +kernel
theorem dX0_eats_11 : decode cX0_eats 11 = .ok (.getfield 49, 3) := by decide +kernel
theorem dX0_eats_14 : decode cX0_eats 14 = .ok (.getfield 82, 3) := by decide +kernel
theorem dX0_eats_17 : decode cX0_eats 17 = .ok (.iload_n 1, 1) := by decide +kernel
theorem dX0_eats_18 : decode cX0_eats 18 = .ok (.iaload, 1) := by decide +kernel
theorem dX0_eats_19 : decode cX0_eats 19 = .ok (.istore 4, 2) := by decide +kernel
theorem dX0_eats_21 : decode cX0_eats 21 = .ok (.iload_n 3, 1) := by decide +kernel
theorem dX0_eats_22 : decode cX0_eats 22 = .ok (.aload_n 0, 1) := by decide +kernel
theorem dX0_eats_23 : decode cX0_eats 23 = .ok (.getfield 9, 3) := by decide +kernel
theorem dX0_eats_26 : decode cX0_eats 26 = .ok (.iload 4, 2) := by decide +kernel
theorem dX0_eats_28 : decode cX0_eats 28 = .ok (.iaload, 1) := by decide +kernel
theorem dX0_eats_29 : decode cX0_eats 29 = .ok (.imul, 1) := by decide +kernel
theorem dX0_eats_30 : decode cX0_eats 30 = .ok (.aload_n 0, 1) := by decide +kernel
theorem dX0_eats_31 : decode cX0_eats 31 = .ok (.getfield 31, 3) := by decide +kernel
theorem dX0_eats_34 : decode cX0_eats 34 = .ok (.bipush 20, 2) := by decide +kernel
theorem dX0_eats_36 : decode cX0_eats 36 = .ok (.iadd, 1) := by decide +kernel
theorem dX0_eats_37 : decode cX0_eats 37 = .ok (.imul, 1) := by decide +kernel
theorem dX0_eats_38 : decode cX0_eats 38 = .ok (.sipush 10000, 3) := by decide +kernel
theorem dX0_eats_41 : decode cX0_eats 41 = .ok (.idiv, 1) := by decide +kernel
theorem dX0_eats_42 : decode cX0_eats 42 = .ok (.istore 5, 2) := by decide +kernel
theorem dX0_eats_44 : decode cX0_eats 44 = .ok (.aload_n 0, 1) := by decide +kernel
theorem dX0_eats_45 : decode cX0_eats 45 = .ok (.getfield 49, 3) := by decide +kernel
theorem dX0_eats_48 : decode cX0_eats 48 = .ok (.getfield 85, 3) := by decide +kernel
theorem dX0_eats_51 : decode cX0_eats 51 = .ok (.iload_n 1, 1) := by decide +kernel
theorem dX0_eats_52 : decode cX0_eats 52 = .ok (.iaload, 1) := by decide +kernel
theorem dX0_eats_53 : decode cX0_eats 53 = .ok (.tableswitch 97 1 6 #[39, 41, 50, 61, 61, 87], 39) := by decide +kernel
theorem dX0_eats_92 : decode cX0_eats 92 = .ok (.iconst 0, 1) := by decide +kernel
theorem dX0_eats_93 : decode cX0_eats 93 = .ok (.ireturn, 1) := by decide +kernel
theorem dX0_eats_94 : decode cX0_eats 94 = .ok (.iload_n 3, 1) := by decide +kernel
theorem dX0_eats_95 : decode cX0_eats 95 = .ok (.iload 5, 2) := by decide +kernel
theorem dX0_eats_97 : decode cX0_eats 97 = .ok (.iconst 2, 1) := by decide +kernel
theorem dX0_eats_98 : decode cX0_eats 98 = .ok (.iadd, 1) := by decide +kernel
theorem dX0_eats_99 : decode cX0_eats 99 = .ok (.invokestatic 88, 3) := by decide +kernel
theorem dX0_eats_102 : decode cX0_eats 102 = .ok (.ireturn, 1) := by decide +kernel
theorem dX0_eats_103 : decode cX0_eats 103 = .ok (.iload_n 3, 1) := by decide +kernel
theorem dX0_eats_104 : decode cX0_eats 104 = .ok (.iload 5, 2) := by decide +kernel
theorem dX0_eats_106 : decode cX0_eats 106 = .ok (.iconst 2, 1) := by decide +kernel
theorem dX0_eats_107 : decode cX0_eats 107 = .ok (.iadd, 1) := by decide +kernel
theorem dX0_eats_108 : decode cX0_eats 108 = .ok (.iconst 3, 1) := by decide +kernel
theorem dX0_eats_109 : decode cX0_eats 109 = .ok (.iadd, 1) := by decide +kernel
theorem dX0_eats_110 : decode cX0_eats 110 = .ok (.invokestatic 88, 3) := by decide +kernel
theorem dX0_eats_113 : decode cX0_eats 113 = .ok (.ireturn, 1) := by decide +kernel
theorem dX0_eats_114 : decode cX0_eats 114 = .ok (.iload_n 3, 1) := by decide +kernel
theorem dX0_eats_115 : decode cX0_eats 115 = .ok (.aload_n 0, 1) := by decide +kernel
theorem dX0_eats_116 : decode cX0_eats 116 = .ok (.iload 4, 2) := by decide +kernel
theorem dX0_eats_118 : decode cX0_eats 118 = .ok (.invokevirtual 94, 3) := by decide +kernel
theorem dX0_eats_121 : decode cX0_eats 121 = .ok (.ifCond .eq 13, 3) := by decide +kernel
theorem dX0_eats_124 : decode cX0_eats 124 = .ok (.iload 5, 2) := by decide +kernel
theorem dX0_eats_126 : decode cX0_eats 126 = .ok (.iload 5, 2) := by decide +kernel
theorem dX0_eats_128 : decode cX0_eats 128 = .ok (.iconst 2, 1) := by decide +kernel
theorem dX0_eats_129 : decode cX0_eats 129 = .ok (.idiv, 1) := by decide +kernel
theorem dX0_eats_130 : decode cX0_eats 130 = .ok (.iadd, 1) := by decide +kernel
theorem dX0_eats_131 : decode cX0_eats 131 = .ok (.goto 5, 3) := by decide +kernel
theorem dX0_eats_134 : decode cX0_eats 134 = .ok (.iload 5, 2) := by decide +kernel
theorem dX0_eats_136 : decode cX0_eats 136 = .ok (.invokestatic 88, 3) := by decide +kernel
theorem dX0_eats_139 : decode cX0_eats 139 = .ok (.ireturn, 1) := by decide +kernel
theorem dX0_eats_140 : decode cX0_eats 140 = .ok (.iload_n 2, 1) := by decide +kernel
theorem dX0_eats_141 : decode cX0_eats 141 = .ok (.ifCond .eq 7, 3) := by decide +kernel
theorem dX0_eats_144 : decode cX0_eats 144 = .ok (.iconst 0, 1) := by decide +kernel
theorem dX0_eats_145 : decode cX0_eats 145 = .ok (.goto 4, 3) := by decide +kernel
theorem dX0_eats_148 : decode cX0_eats 148 = .ok (.iload_n 3, 1) := by decide +kernel
theorem dX0_eats_149 : decode cX0_eats 149 = .ok (.ireturn, 1) := by decide +kernel
theorem dX0_eats_150 : decode cX0_eats 150 = .ok (.iload_n 3, 1) := by decide +kernel
theorem dX0_eats_151 : decode cX0_eats 151 = .ok (.iload 5, 2) := by decide +kernel
theorem dX0_eats_153 : decode cX0_eats 153 = .ok (.invokestatic 88, 3) := by decide +kernel
theorem dX0_eats_156 : decode cX0_eats 156 = .ok (.ireturn, 1) := by decide +kernel
theorem dX0_moves_0 : decode cX0_moves 0 = .ok (.aload_n 0, 1) := by decide +kernel
theorem dX0_moves_1 : decode cX0_moves 1 = .ok (.getfield 49, 3) := by decide +kernel
theorem dX0_moves_4 : decode cX0_moves 4 = .ok (.getfield 82, 3) := by decide +kernel
theorem dX0_moves_7 : decode cX0_moves 7 = .ok (.iload_n 1, 1) := by decide +kernel
theorem dX0_moves_8 : decode cX0_moves 8 = .ok (.iaload, 1) := by decide +kernel
theorem dX0_moves_9 : decode cX0_moves 9 = .ok (.istore_n 3, 1) := by decide +kernel
theorem dX0_moves_10 : decode cX0_moves 10 = .ok (.bipush 6, 2) := by decide +kernel
theorem dX0_moves_12 : decode cX0_moves 12 = .ok (.aload_n 0, 1) := by decide +kernel
theorem dX0_moves_13 : decode cX0_moves 13 = .ok (.getfield 15, 3) := by decide +kernel
theorem dX0_moves_16 : decode cX0_moves 16 = .ok (.iload_n 3, 1) := by decide +kernel
theorem dX0_moves_17 : decode cX0_moves 17 = .ok (.iaload, 1) := by decide +kernel
theorem dX0_moves_18 : decode cX0_moves 18 = .ok (.aload_n 0, 1) := by decide +kernel
theorem dX0_moves_19 : decode cX0_moves 19 = .ok (.getfield 27, 3) := by decide +kernel
theorem dX0_moves_22 : decode cX0_moves 22 = .ok (.imul, 1) := by decide +kernel
theorem dX0_moves_23 : decode cX0_moves 23 = .ok (.bipush 10, 2) := by decide +kernel
theorem dX0_moves_25 : decode cX0_moves 25 = .ok (.idiv, 1) := by decide +kernel
theorem dX0_moves_26 : decode cX0_moves 26 = .ok (.isub, 1) := by decide +kernel
theorem dX0_moves_27 : decode cX0_moves 27 = .ok (.istore 4, 2) := by decide +kernel
theorem dX0_moves_29 : decode cX0_moves 29 = .ok (.aload_n 0, 1) := by decide +kernel
theorem dX0_moves_30 : decode cX0_moves 30 = .ok (.iload_n 3, 1) := by decide +kernel
theorem dX0_moves_31 : decode cX0_moves 31 = .ok (.invokevirtual 94, 3) := by decide +kernel
theorem dX0_moves_34 : decode cX0_moves 34 = .ok (.ifCond .eq 10, 3) := by decide +kernel
theorem dX0_moves_37 : decode cX0_moves 37 = .ok (.iload 4, 2) := by decide +kernel
theorem dX0_moves_39 : decode cX0_moves 39 = .ok (.iconst 3, 1) := by decide +kernel
theorem dX0_moves_40 : decode cX0_moves 40 = .ok (.iadd, 1) := by decide +kernel
theorem dX0_moves_41 : decode cX0_moves 41 = .ok (.goto 5, 3) := by decide +kernel
theorem dX0_moves_44 : decode cX0_moves 44 = .ok (.iload 4, 2) := by decide +kernel
theorem dX0_moves_46 : decode cX0_moves 46 = .ok (.istore 5, 2) := by decide +kernel
theorem dX0_moves_48 : decode cX0_moves 48 = .ok (.aload_n 0, 1) := by decide +kernel
theorem dX0_moves_49 : decode cX0_moves 49 = .ok (.getfield 49, 3) := by decide +kernel
theorem dX0_moves_52 : decode cX0_moves 52 = .ok (.getfield 85, 3) := by decide +kernel
theorem dX0_moves_55 : decode cX0_moves 55 = .ok (.iload_n 1, 1) := by decide +kernel
theorem dX0_moves_56 : decode cX0_moves 56 = .ok (.iaload, 1) := by decide +kernel
theorem dX0_moves_57 : decode cX0_moves 57 = .ok (.tableswitch 77 1 6 #[39, 44, 50, 58, 61, 66], 39) := by decide +kernel
theorem dX0_moves_96 : decode cX0_moves 96 = .ok (.iload 4, 2) := by decide +kernel
theorem dX0_moves_98 : decode cX0_moves 98 = .ok (.iconst 2, 1) := by decide +kernel
theorem dX0_moves_99 : decode cX0_moves 99 = .ok (.idiv, 1) := by decide +kernel
theorem dX0_moves_100 : decode cX0_moves 100 = .ok (.ireturn, 1) := by decide +kernel
theorem dX0_moves_101 : decode cX0_moves 101 = .ok (.iload 4, 2) := by decide +kernel
theorem dX0_moves_103 : decode cX0_moves 103 = .ok (.bipush 8, 2) := by decide +kernel
theorem dX0_moves_105 : decode cX0_moves 105 = .ok (.isub, 1) := by decide +kernel
theorem dX0_moves_106 : decode cX0_moves 106 = .ok (.ireturn, 1) := by decide +kernel
theorem dX0_moves_107 : decode cX0_moves 107 = .ok (.iload 4, 2) := by decide +kernel
theorem dX0_moves_109 : decode cX0_moves 109 = .ok (.bipush 8, 2) := by decide +kernel
theorem dX0_moves_111 : decode cX0_moves 111 = .ok (.isub, 1) := by decide +kernel
theorem dX0_moves_112 : decode cX0_moves 112 = .ok (.iconst 2, 1) := by decide +kernel
theorem dX0_moves_113 : decode cX0_moves 113 = .ok (.iadd, 1) := by decide +kernel
theorem dX0_moves_114 : decode cX0_moves 114 = .ok (.ireturn, 1) := by decide +kernel
theorem dX0_moves_115 : decode cX0_moves 115 = .ok (.iload 5, 2) := by decide +kernel
theorem dX0_moves_117 : decode cX0_moves 117 = .ok (.ireturn, 1) := by decide +kernel
theorem dX0_moves_118 : decode cX0_moves 118 = .ok (.iload 5, 2) := by decide +kernel
theorem dX0_moves_120 : decode cX0_moves 120 = .ok (.iconst 2, 1) := by decide +kernel
theorem dX0_moves_121 : decode cX0_moves 121 = .ok (.iadd, 1) := by decide +kernel
theorem dX0_moves_122 : decode cX0_moves 122 = .ok (.ireturn, 1) := by decide +kernel
theorem dX0_moves_123 : decode cX0_moves 123 = .ok (.iload_n 2, 1) := by decide +kernel
theorem dX0_moves_124 : decode cX0_moves 124 = .ok (.ifCond .eq 8, 3) := by decide +kernel
theorem dX0_moves_127 : decode cX0_moves 127 = .ok (.bipush (-10), 2) := by decide +kernel
theorem dX0_moves_129 : decode cX0_moves 129 = .ok (.goto 4, 3) := by decide +kernel
theorem dX0_moves_132 : decode cX0_moves 132 = .ok (.iconst 1, 1) := by decide +kernel
theorem dX0_moves_133 : decode cX0_moves 133 = .ok (.ireturn, 1) := by decide +kernel
theorem dX0_moves_134 : decode cX0_moves 134 = .ok (.iload 4, 2) := by decide +kernel
theorem dX0_moves_136 : decode cX0_moves 136 = .ok (.ireturn, 1) := by decide +kernel
theorem dX0_drawn_0 : decode cX0_drawn 0 = .ok (.aload_n 0, 1) := by decide +kernel
theorem dX0_drawn_1 : decode cX0_drawn 1 = .ok (.aload_n 0, 1) := by decide +kernel
theorem dX0_drawn_2 : decode cX0_drawn 2 = .ok (.getfield 59, 3) := by decide +kernel
theorem dX0_drawn_5 : decode cX0_drawn 5 = .ok (.ldc 97, 2) := by decide +kernel
theorem dX0_drawn_7 : decode cX0_drawn 7 = .ok (.imul, 1) := by decide +kernel
theorem dX0_drawn_8 : decode cX0_drawn 8 = .ok (.sipush 12345, 3) := by decide +kernel
theorem dX0_drawn_11 : decode cX0_drawn 11 = .ok (.iadd, 1) := by decide +kernel
theorem dX0_drawn_12 : decode cX0_drawn 12 = .ok (.putfield 59, 3) := by decide +kernel
theorem dX0_drawn_15 : decode cX0_drawn 15 = .ok (.aload_n 0, 1) := by decide +kernel
theorem dX0_drawn_16 : decode cX0_drawn 16 = .ok (.getfield 59, 3) := by decide +kernel
theorem dX0_drawn_19 : decode cX0_drawn 19 = .ok (.bipush 8, 2) := by decide +kernel
theorem dX0_drawn_21 : decode cX0_drawn 21 = .ok (.iushr, 1) := by decide +kernel
theorem dX0_drawn_22 : decode cX0_drawn 22 = .ok (.ireturn, 1) := by decide +kernel
theorem dX0_moveLike_0 : decode cX0_moveLike 0 = .ok (.aload_n 0, 1) := by decide +kernel
theorem dX0_moveLike_1 : decode cX0_moveLike 1 = .ok (.getfield 9, 3) := by decide +kernel
theorem dX0_moveLike_4 : decode cX0_moveLike 4 = .ok (.iload_n 1, 1) := by decide +kernel
theorem dX0_moveLike_5 : decode cX0_moveLike 5 = .ok (.iconst 0, 1) := by decide +kernel
theorem dX0_moveLike_6 : decode cX0_moveLike 6 = .ok (.bipush 99, 2) := by decide +kernel
theorem dX0_moveLike_8 : decode cX0_moveLike 8 = .ok (.aload_n 0, 1) := by decide +kernel
theorem dX0_moveLike_9 : decode cX0_moveLike 9 = .ok (.getfield 9, 3) := by decide +kernel
theorem dX0_moveLike_12 : decode cX0_moveLike 12 = .ok (.iload_n 1, 1) := by decide +kernel
theorem dX0_moveLike_13 : decode cX0_moveLike 13 = .ok (.iaload, 1) := by decide +kernel
theorem dX0_moveLike_14 : decode cX0_moveLike 14 = .ok (.iload_n 2, 1) := by decide +kernel
theorem dX0_moveLike_15 : decode cX0_moveLike 15 = .ok (.iadd, 1) := by decide +kernel
theorem dX0_moveLike_16 : decode cX0_moveLike 16 = .ok (.invokestatic 88, 3) := by decide +kernel
theorem dX0_moveLike_19 : decode cX0_moveLike 19 = .ok (.invokestatic 98, 3) := by decide +kernel
theorem dX0_moveLike_22 : decode cX0_moveLike 22 = .ok (.iastore, 1) := by decide +kernel
theorem dX0_moveLike_23 : decode cX0_moveLike 23 = .ok (.return_, 1) := by decide +kernel
theorem dX0_serveTaste_0 : decode cX0_serveTaste 0 = .ok (.aload_n 0, 1) := by decide +kernel
theorem dX0_serveTaste_1 : decode cX0_serveTaste 1 = .ok (.getfield 49, 3) := by decide +kernel
theorem dX0_serveTaste_4 : decode cX0_serveTaste 4 = .ok (.getfield 82, 3) := by decide +kernel
theorem dX0_serveTaste_7 : decode cX0_serveTaste 7 = .ok (.iload_n 1, 1) := by decide +kernel
theorem dX0_serveTaste_8 : decode cX0_serveTaste 8 = .ok (.iaload, 1) := by decide +kernel
theorem dX0_serveTaste_9 : decode cX0_serveTaste 9 = .ok (.istore_n 2, 1) := by decide +kernel
theorem dX0_serveTaste_10 : decode cX0_serveTaste 10 = .ok (.aload_n 0, 1) := by decide +kernel
theorem dX0_serveTaste_11 : decode cX0_serveTaste 11 = .ok (.getfield 49, 3) := by decide +kernel
theorem dX0_serveTaste_14 : decode cX0_serveTaste 14 = .ok (.getfield 85, 3) := by decide +kernel
theorem dX0_serveTaste_17 : decode cX0_serveTaste 17 = .ok (.iload_n 1, 1) := by decide +kernel
theorem dX0_serveTaste_18 : decode cX0_serveTaste 18 = .ok (.iaload, 1) := by decide +kernel
theorem dX0_serveTaste_19 : decode cX0_serveTaste 19 = .ok (.istore_n 3, 1) := by decide +kernel
theorem dX0_serveTaste_20 : decode cX0_serveTaste 20 = .ok (.iload_n 3, 1) := by decide +kernel
theorem dX0_serveTaste_21 : decode cX0_serveTaste 21 = .ok (.bipush 6, 2) := by decide +kernel
theorem dX0_serveTaste_23 : decode cX0_serveTaste 23 = .ok (.if_icmp .ne 25, 3) := by decide +kernel
theorem dX0_serveTaste_26 : decode cX0_serveTaste 26 = .ok (.aload_n 0, 1) := by decide +kernel
theorem dX0_serveTaste_27 : decode cX0_serveTaste 27 = .ok (.invokevirtual 101, 3) := by decide +kernel
theorem dX0_serveTaste_30 : decode cX0_serveTaste 30 = .ok (.bipush 10, 2) := by decide +kernel
theorem dX0_serveTaste_32 : decode cX0_serveTaste 32 = .ok (.irem, 1) := by decide +kernel
theorem dX0_serveTaste_33 : decode cX0_serveTaste 33 = .ok (.aload_n 0, 1) := by decide +kernel
theorem dX0_serveTaste_34 : decode cX0_serveTaste 34 = .ok (.getfield 15, 3) := by decide +kernel
theorem dX0_serveTaste_37 : decode cX0_serveTaste 37 = .ok (.iload_n 2, 1) := by decide +kernel
theorem dX0_serveTaste_38 : decode cX0_serveTaste 38 = .ok (.iaload, 1) := by decide +kernel
theorem dX0_serveTaste_39 : decode cX0_serveTaste 39 = .ok (.iconst 1, 1) := by decide +kernel
theorem dX0_serveTaste_40 : decode cX0_serveTaste 40 = .ok (.iadd, 1) := by decide +kernel
theorem dX0_serveTaste_41 : decode cX0_serveTaste 41 = .ok (.if_icmp .ge 7, 3) := by decide +kernel
theorem dX0_serveTaste_44 : decode cX0_serveTaste 44 = .ok (.iconst 1, 1) := by decide +kernel
theorem dX0_serveTaste_45 : decode cX0_serveTaste 45 = .ok (.goto 4, 3) := by decide +kernel
theorem dX0_serveTaste_48 : decode cX0_serveTaste 48 = .ok (.iconst 0, 1) := by decide +kernel
theorem dX0_serveTaste_49 : decode cX0_serveTaste 49 = .ok (.istore 4, 2) := by decide +kernel
theorem dX0_serveTaste_51 : decode cX0_serveTaste 51 = .ok (.aload_n 0, 1) := by decide +kernel
theorem dX0_serveTaste_52 : decode cX0_serveTaste 52 = .ok (.iload_n 1, 1) := by decide +kernel
theorem dX0_serveTaste_53 : decode cX0_serveTaste 53 = .ok (.iload 4, 2) := by decide +kernel
theorem dX0_serveTaste_55 : decode cX0_serveTaste 55 = .ok (.invokevirtual 105, 3) := by decide +kernel
theorem dX0_serveTaste_58 : decode cX0_serveTaste 58 = .ok (.istore 5, 2) := by decide +kernel
theorem dX0_serveTaste_60 : decode cX0_serveTaste 60 = .ok (.aload_n 0, 1) := by decide +kernel
theorem dX0_serveTaste_61 : decode cX0_serveTaste 61 = .ok (.iload_n 2, 1) := by decide +kernel
theorem dX0_serveTaste_62 : decode cX0_serveTaste 62 = .ok (.aload_n 0, 1) := by decide +kernel
theorem dX0_serveTaste_63 : decode cX0_serveTaste 63 = .ok (.iload_n 1, 1) := by decide +kernel
theorem dX0_serveTaste_64 : decode cX0_serveTaste 64 = .ok (.iload 4, 2) := by decide +kernel
theorem dX0_serveTaste_66 : decode cX0_serveTaste 66 = .ok (.invokevirtual 109, 3) := by decide +kernel
theorem dX0_serveTaste_69 : decode cX0_serveTaste 69 = .ok (.invokevirtual 112, 3) := by decide +kernel
theorem dX0_serveTaste_72 : decode cX0_serveTaste 72 = .ok (.iload_n 3, 1) := by decide +kernel
theorem dX0_serveTaste_73 : decode cX0_serveTaste 73 = .ok (.iconst 3, 1) := by decide +kernel
theorem dX0_serveTaste_74 : decode cX0_serveTaste 74 = .ok (.if_icmp .ne 22, 3) := by decide +kernel
theorem dX0_serveTaste_77 : decode cX0_serveTaste 77 = .ok (.aload_n 0, 1) := by decide +kernel
theorem dX0_serveTaste_78 : decode cX0_serveTaste 78 = .ok (.getfield 40, 3) := by decide +kernel
theorem dX0_serveTaste_81 : decode cX0_serveTaste 81 = .ok (.invokestatic 116, 3) := by decide +kernel
theorem dX0_serveTaste_84 : decode cX0_serveTaste 84 = .ok (.ifCond .eq 12, 3) := by decide +kernel
theorem dX0_serveTaste_87 : decode cX0_serveTaste 87 = .ok (.aload_n 0, 1) := by decide +kernel
theorem dX0_serveTaste_88 : decode cX0_serveTaste 88 = .ok (.aload_n 0, 1) := by decide +kernel
theorem dX0_serveTaste_89 : decode cX0_serveTaste 89 = .ok (.getfield 40, 3) := by decide +kernel
theorem dX0_serveTaste_92 : decode cX0_serveTaste 92 = .ok (.iconst 5, 1) := by decide +kernel
theorem dX0_serveTaste_93 : decode cX0_serveTaste 93 = .ok (.invokevirtual 112, 3) := by decide +kernel
theorem dX0_serveTaste_96 : decode cX0_serveTaste 96 = .ok (.aload_n 0, 1) := by decide +kernel
theorem dX0_serveTaste_97 : decode cX0_serveTaste 97 = .ok (.getfield 18, 3) := by decide +kernel
theorem dX0_serveTaste_100 : decode cX0_serveTaste 100 = .ok (.iload_n 2, 1) := by decide +kernel
theorem dX0_serveTaste_101 : decode cX0_serveTaste 101 = .ok (.sipush 999, 3) := by decide +kernel
theorem dX0_serveTaste_104 : decode cX0_serveTaste 104 = .ok (.aload_n 0, 1) := by decide +kernel
theorem dX0_serveTaste_105 : decode cX0_serveTaste 105 = .ok (.getfield 18, 3) := by decide +kernel
theorem dX0_serveTaste_108 : decode cX0_serveTaste 108 = .ok (.iload_n 2, 1) := by decide +kernel
theorem dX0_serveTaste_109 : decode cX0_serveTaste 109 = .ok (.iaload, 1) := by decide +kernel
theorem dX0_serveTaste_110 : decode cX0_serveTaste 110 = .ok (.iconst 1, 1) := by decide +kernel
theorem dX0_serveTaste_111 : decode cX0_serveTaste 111 = .ok (.iadd, 1) := by decide +kernel
theorem dX0_serveTaste_112 : decode cX0_serveTaste 112 = .ok (.invokestatic 88, 3) := by decide +kernel
theorem dX0_serveTaste_115 : decode cX0_serveTaste 115 = .ok (.iastore, 1) := by decide +kernel
theorem dX0_serveTaste_116 : decode cX0_serveTaste 116 = .ok (.iload 5, 2) := by decide +kernel
theorem dX0_serveTaste_118 : decode cX0_serveTaste 118 = .ok (.ireturn, 1) := by decide +kernel
theorem dX0_serveMeal_0 : decode cX0_serveMeal 0 = .ok (.aload_n 0, 1) := by decide +kernel
theorem dX0_serveMeal_1 : decode cX0_serveMeal 1 = .ok (.getfield 49, 3) := by decide +kernel
theorem dX0_serveMeal_4 : decode cX0_serveMeal 4 = .ok (.getfield 119, 3) := by decide +kernel
theorem dX0_serveMeal_7 : decode cX0_serveMeal 7 = .ok (.ifCond .le 22, 3) := by decide +kernel
theorem dX0_serveMeal_10 : decode cX0_serveMeal 10 = .ok (.aload_n 0, 1) := by decide +kernel
theorem dX0_serveMeal_11 : decode cX0_serveMeal 11 = .ok (.aload_n 0, 1) := by decide +kernel
theorem dX0_serveMeal_12 : decode cX0_serveMeal 12 = .ok (.getfield 53, 3) := by decide +kernel
theorem dX0_serveMeal_15 : decode cX0_serveMeal 15 = .ok (.aload_n 0, 1) := by decide +kernel
theorem dX0_serveMeal_16 : decode cX0_serveMeal 16 = .ok (.getfield 49, 3) := by decide +kernel
theorem dX0_serveMeal_19 : decode cX0_serveMeal 19 = .ok (.getfield 119, 3) := by decide +kernel
theorem dX0_serveMeal_22 : decode cX0_serveMeal 22 = .ok (.irem, 1) := by decide +kernel
theorem dX0_serveMeal_23 : decode cX0_serveMeal 23 = .ok (.invokevirtual 122, 3) := by decide +kernel
theorem dX0_serveMeal_26 : decode cX0_serveMeal 26 = .ok (.goto 4, 3) := by decide +kernel
theorem dX0_serveMeal_29 : decode cX0_serveMeal 29 = .ok (.iconst 0, 1) := by decide +kernel
theorem dX0_serveMeal_30 : decode cX0_serveMeal 30 = .ok (.istore_n 1, 1) := by decide +kernel
theorem dX0_serveMeal_31 : decode cX0_serveMeal 31 = .ok (.aload_n 0, 1) := by decide +kernel
theorem dX0_serveMeal_32 : decode cX0_serveMeal 32 = .ok (.bipush 99, 2) := by decide +kernel
theorem dX0_serveMeal_34 : decode cX0_serveMeal 34 = .ok (.iconst 0, 1) := by decide +kernel
theorem dX0_serveMeal_35 : decode cX0_serveMeal 35 = .ok (.aload_n 0, 1) := by decide +kernel
theorem dX0_serveMeal_36 : decode cX0_serveMeal 36 = .ok (.getfield 31, 3) := by decide +kernel
theorem dX0_serveMeal_39 : decode cX0_serveMeal 39 = .ok (.iconst 3, 1) := by decide +kernel
theorem dX0_serveMeal_40 : decode cX0_serveMeal 40 = .ok (.iload_n 1, 1) := by decide +kernel
theorem dX0_serveMeal_41 : decode cX0_serveMeal 41 = .ok (.imul, 1) := by decide +kernel
theorem dX0_serveMeal_42 : decode cX0_serveMeal 42 = .ok (.isub, 1) := by decide +kernel
theorem dX0_serveMeal_43 : decode cX0_serveMeal 43 = .ok (.invokestatic 98, 3) := by decide +kernel
theorem dX0_serveMeal_46 : decode cX0_serveMeal 46 = .ok (.bipush 12, 2) := by decide +kernel
theorem dX0_serveMeal_48 : decode cX0_serveMeal 48 = .ok (.iadd, 1) := by decide +kernel
theorem dX0_serveMeal_49 : decode cX0_serveMeal 49 = .ok (.invokestatic 88, 3) := by decide +kernel
theorem dX0_serveMeal_52 : decode cX0_serveMeal 52 = .ok (.putfield 31, 3) := by decide +kernel
theorem dX0_serveMeal_55 : decode cX0_serveMeal 55 = .ok (.aload_n 0, 1) := by decide +kernel
theorem dX0_serveMeal_56 : decode cX0_serveMeal 56 = .ok (.iconst 0, 1) := by decide +kernel
theorem dX0_serveMeal_57 : decode cX0_serveMeal 57 = .ok (.sipush 9999, 3) := by decide +kernel
theorem dX0_serveMeal_60 : decode cX0_serveMeal 60 = .ok (.aload_n 0, 1) := by decide +kernel
theorem dX0_serveMeal_61 : decode cX0_serveMeal 61 = .ok (.getfield 34, 3) := by decide +kernel
theorem dX0_serveMeal_64 : decode cX0_serveMeal 64 = .ok (.iload_n 1, 1) := by decide +kernel
theorem dX0_serveMeal_65 : decode cX0_serveMeal 65 = .ok (.iadd, 1) := by decide +kernel
theorem dX0_serveMeal_66 : decode cX0_serveMeal 66 = .ok (.iconst 4, 1) := by decide +kernel
theorem dX0_serveMeal_67 : decode cX0_serveMeal 67 = .ok (.isub, 1) := by decide +kernel
theorem dX0_serveMeal_68 : decode cX0_serveMeal 68 = .ok (.invokestatic 88, 3) := by decide +kernel
theorem dX0_serveMeal_71 : decode cX0_serveMeal 71 = .ok (.invokestatic 98, 3) := by decide +kernel
theorem dX0_serveMeal_74 : decode cX0_serveMeal 74 = .ok (.putfield 34, 3) := by decide +kernel
theorem dX0_serveMeal_77 : decode cX0_serveMeal 77 = .ok (.aload_n 0, 1) := by decide +kernel
theorem dX0_serveMeal_78 : decode cX0_serveMeal 78 = .ok (.getfield 56, 3) := by decide +kernel
theorem dX0_serveMeal_81 : decode cX0_serveMeal 81 = .ok (.aload_n 0, 1) := by decide +kernel
theorem dX0_serveMeal_82 : decode cX0_serveMeal 82 = .ok (.getfield 53, 3) := by decide +kernel
theorem dX0_serveMeal_85 : decode cX0_serveMeal 85 = .ok (.bipush 35, 2) := by decide +kernel
theorem dX0_serveMeal_87 : decode cX0_serveMeal 87 = .ok (.irem, 1) := by decide +kernel
theorem dX0_serveMeal_88 : decode cX0_serveMeal 88 = .ok (.iload_n 1, 1) := by decide +kernel
theorem dX0_serveMeal_89 : decode cX0_serveMeal 89 = .ok (.iastore, 1) := by decide +kernel
theorem dX0_serveMeal_90 : decode cX0_serveMeal 90 = .ok (.aload_n 0, 1) := by decide +kernel
theorem dX0_serveMeal_91 : decode cX0_serveMeal 91 = .ok (.dup, 1) := by decide +kernel
theorem dX0_serveMeal_92 : decode cX0_serveMeal 92 = .ok (.getfield 53, 3) := by decide +kernel
theorem dX0_serveMeal_95 : decode cX0_serveMeal 95 = .ok (.iconst 1, 1) := by decide +kernel
theorem dX0_serveMeal_96 : decode cX0_serveMeal 96 = .ok (.iadd, 1) := by decide +kernel
theorem dX0_serveMeal_97 : decode cX0_serveMeal 97 = .ok (.putfield 53, 3) := by decide +kernel
theorem dX0_serveMeal_100 : decode cX0_serveMeal 100 = .ok (.iload_n 1, 1) := by decide +kernel
theorem dX0_serveMeal_101 : decode cX0_serveMeal 101 = .ok (.ireturn, 1) := by decide +kernel
theorem dX0_goOn_0 : decode cX0_goOn 0 = .ok (.iconst 0, 1) := by decide +kernel
theorem dX0_goOn_1 : decode cX0_goOn 1 = .ok (.istore_n 2, 1) := by decide +kernel
theorem dX0_goOn_2 : decode cX0_goOn 2 = .ok (.iconst 0, 1) := by decide +kernel
theorem dX0_goOn_3 : decode cX0_goOn 3 = .ok (.istore_n 3, 1) := by decide +kernel
theorem dX0_goOn_4 : decode cX0_goOn 4 = .ok (.iload_n 3, 1) := by decide +kernel
theorem dX0_goOn_5 : decode cX0_goOn 5 = .ok (.iload_n 1, 1) := by decide +kernel
theorem dX0_goOn_6 : decode cX0_goOn 6 = .ok (.if_icmp .ge 16, 3) := by decide +kernel
theorem dX0_goOn_9 : decode cX0_goOn 9 = .ok (.iload_n 2, 1) := by decide +kernel
theorem dX0_goOn_10 : decode cX0_goOn 10 = .ok (.aload_n 0, 1) := by decide +kernel
theorem dX0_goOn_11 : decode cX0_goOn 11 = .ok (.invokevirtual 126, 3) := by decide +kernel
theorem dX0_goOn_14 : decode cX0_goOn 14 = .ok (.iadd, 1) := by decide +kernel
theorem dX0_goOn_15 : decode cX0_goOn 15 = .ok (.istore_n 2, 1) := by decide +kernel
theorem dX0_goOn_16 : decode cX0_goOn 16 = .ok (.iinc 3 1, 3) := by decide +kernel
theorem dX0_goOn_19 : decode cX0_goOn 19 = .ok (.goto (-15), 3) := by decide +kernel
theorem dX0_goOn_22 : decode cX0_goOn 22 = .ok (.iload_n 2, 1) := by decide +kernel
theorem dX0_goOn_23 : decode cX0_goOn 23 = .ok (.ireturn, 1) := by decide +kernel
theorem dX0_booked_0 : decode cX0_booked 0 = .ok (.aload_n 0, 1) := by decide +kernel
theorem dX0_booked_1 : decode cX0_booked 1 = .ok (.getfield 53, 3) := by decide +kernel
theorem dX0_booked_4 : decode cX0_booked 4 = .ok (.bipush 35, 2) := by decide +kernel
theorem dX0_booked_6 : decode cX0_booked 6 = .ok (.invokestatic 88, 3) := by decide +kernel
theorem dX0_booked_9 : decode cX0_booked 9 = .ok (.ireturn, 1) := by decide +kernel
theorem dX0_spoonsAgo_0 : decode cX0_spoonsAgo 0 = .ok (.aload_n 0, 1) := by decide +kernel
theorem dX0_spoonsAgo_1 : decode cX0_spoonsAgo 1 = .ok (.getfield 56, 3) := by decide +kernel
theorem dX0_spoonsAgo_4 : decode cX0_spoonsAgo 4 = .ok (.aload_n 0, 1) := by decide +kernel
theorem dX0_spoonsAgo_5 : decode cX0_spoonsAgo 5 = .ok (.getfield 53, 3) := by decide +kernel
theorem dX0_spoonsAgo_8 : decode cX0_spoonsAgo 8 = .ok (.iconst 1, 1) := by decide +kernel
theorem dX0_spoonsAgo_9 : decode cX0_spoonsAgo 9 = .ok (.isub, 1) := by decide +kernel
theorem dX0_spoonsAgo_10 : decode cX0_spoonsAgo 10 = .ok (.iload_n 1, 1) := by decide +kernel
theorem dX0_spoonsAgo_11 : decode cX0_spoonsAgo 11 = .ok (.isub, 1) := by decide +kernel
theorem dX0_spoonsAgo_12 : decode cX0_spoonsAgo 12 = .ok (.bipush 35, 2) := by decide +kernel
theorem dX0_spoonsAgo_14 : decode cX0_spoonsAgo 14 = .ok (.invokestatic 129, 3) := by decide +kernel
theorem dX0_spoonsAgo_17 : decode cX0_spoonsAgo 17 = .ok (.iaload, 1) := by decide +kernel
theorem dX0_spoonsAgo_18 : decode cX0_spoonsAgo 18 = .ok (.ireturn, 1) := by decide +kernel
theorem dX0_week_0 : decode cX0_week 0 = .ok (.iconst 0, 1) := by decide +kernel
theorem dX0_week_1 : decode cX0_week 1 = .ok (.istore_n 1, 1) := by decide +kernel
theorem dX0_week_2 : decode cX0_week 2 = .ok (.iconst 0, 1) := by decide +kernel
theorem dX0_week_3 : decode cX0_week 3 = .ok (.istore_n 2, 1) := by decide +kernel
theorem dX0_week_4 : decode cX0_week 4 = .ok (.iload_n 2, 1) := by decide +kernel
theorem dX0_week_5 : decode cX0_week 5 = .ok (.aload_n 0, 1) := by decide +kernel
theorem dX0_week_6 : decode cX0_week 6 = .ok (.invokevirtual 132, 3) := by decide +kernel
theorem dX0_week_9 : decode cX0_week 9 = .ok (.if_icmp .ge 17, 3) := by decide +kernel
theorem dX0_week_12 : decode cX0_week 12 = .ok (.iload_n 1, 1) := by decide +kernel
theorem dX0_week_13 : decode cX0_week 13 = .ok (.aload_n 0, 1) := by decide +kernel
theorem dX0_week_14 : decode cX0_week 14 = .ok (.iload_n 2, 1) := by decide +kernel
theorem dX0_week_15 : decode cX0_week 15 = .ok (.invokevirtual 135, 3) := by decide +kernel
theorem dX0_week_18 : decode cX0_week 18 = .ok (.iadd, 1) := by decide +kernel
theorem dX0_week_19 : decode cX0_week 19 = .ok (.istore_n 1, 1) := by decide +kernel
theorem dX0_week_20 : decode cX0_week 20 = .ok (.iinc 2 1, 3) := by decide +kernel
theorem dX0_week_23 : decode cX0_week 23 = .ok (.goto (-19), 3) := by decide +kernel
theorem dX0_week_26 : decode cX0_week 26 = .ok (.iload_n 1, 1) := by decide +kernel
theorem dX0_week_27 : decode cX0_week 27 = .ok (.ireturn, 1) := by decide +kernel
theorem dX0_isShort_0 : decode cX0_isShort 0 = .ok (.aload_n 0, 1) := by decide +kernel
theorem dX0_isShort_1 : decode cX0_isShort 1 = .ok (.invokevirtual 132, 3) := by decide +kernel
theorem dX0_isShort_4 : decode cX0_isShort 4 = .ok (.bipush 35, 2) := by decide +kernel
theorem dX0_isShort_6 : decode cX0_isShort 6 = .ok (.if_icmp .ne 16, 3) := by decide +kernel
theorem dX0_isShort_9 : decode cX0_isShort 9 = .ok (.aload_n 0, 1) := by decide +kernel
theorem dX0_isShort_10 : decode cX0_isShort 10 = .ok (.invokevirtual 138, 3) := by decide +kernel
theorem dX0_isShort_13 : decode cX0_isShort 13 = .ok (.bipush 100, 2) := by decide +kernel
theorem dX0_isShort_15 : decode cX0_isShort 15 = .ok (.if_icmp .ge 7, 3) := by decide +kernel
theorem dX0_isShort_18 : decode cX0_isShort 18 = .ok (.iconst 1, 1) := by decide +kernel
theorem dX0_isShort_19 : decode cX0_isShort 19 = .ok (.goto 4, 3) := by decide +kernel
theorem dX0_isShort_22 : decode cX0_isShort 22 = .ok (.iconst 0, 1) := by decide +kernel
theorem dX0_isShort_23 : decode cX0_isShort 23 = .ok (.ireturn, 1) := by decide +kernel
theorem dX0_freeSpotsOf_0 : decode cX0_freeSpotsOf 0 = .ok (.iconst 0, 1) := by decide +kernel
theorem dX0_freeSpotsOf_1 : decode cX0_freeSpotsOf 1 = .ok (.istore_n 2, 1) := by decide +kernel
theorem dX0_freeSpotsOf_2 : decode cX0_freeSpotsOf 2 = .ok (.iload_n 2, 1) := by decide +kernel
theorem dX0_freeSpotsOf_3 : decode cX0_freeSpotsOf 3 = .ok (.bipush 10, 2) := by decide +kernel
theorem dX0_freeSpotsOf_5 : decode cX0_freeSpotsOf 5 = .ok (.if_icmp .ge 26, 3) := by decide +kernel
theorem dX0_freeSpotsOf_8 : decode cX0_freeSpotsOf 8 = .ok (.aload_n 0, 1) := by decide +kernel
theorem dX0_freeSpotsOf_9 : decode cX0_freeSpotsOf 9 = .ok (.getfield 62, 3) := by decide +kernel
theorem dX0_freeSpotsOf_12 : decode cX0_freeSpotsOf 12 = .ok (.iload_n 2, 1) := by decide +kernel
theorem dX0_freeSpotsOf_13 : decode cX0_freeSpotsOf 13 = .ok (.iaload, 1) := by decide +kernel
theorem dX0_freeSpotsOf_14 : decode cX0_freeSpotsOf 14 = .ok (.iload_n 1, 1) := by decide +kernel
theorem dX0_freeSpotsOf_15 : decode cX0_freeSpotsOf 15 = .ok (.if_icmp .ne 10, 3) := by decide +kernel
theorem dX0_freeSpotsOf_18 : decode cX0_freeSpotsOf 18 = .ok (.aload_n 0, 1) := by decide +kernel
theorem dX0_freeSpotsOf_19 : decode cX0_freeSpotsOf 19 = .ok (.getfield 62, 3) := by decide +kernel
theorem dX0_freeSpotsOf_22 : decode cX0_freeSpotsOf 22 = .ok (.iload_n 2, 1) := by decide +kernel
theorem dX0_freeSpotsOf_23 : decode cX0_freeSpotsOf 23 = .ok (.iconst (-1), 1) := by decide +kernel
theorem dX0_freeSpotsOf_24 : decode cX0_freeSpotsOf 24 = .ok (.iastore, 1) := by decide +kernel
theorem dX0_freeSpotsOf_25 : decode cX0_freeSpotsOf 25 = .ok (.iinc 2 1, 3) := by decide +kernel
theorem dX0_freeSpotsOf_28 : decode cX0_freeSpotsOf 28 = .ok (.goto (-26), 3) := by decide +kernel
theorem dX0_freeSpotsOf_31 : decode cX0_freeSpotsOf 31 = .ok (.return_, 1) := by decide +kernel
theorem dX0_spotsInUse_0 : decode cX0_spotsInUse 0 = .ok (.iconst 0, 1) := by decide +kernel
theorem dX0_spotsInUse_1 : decode cX0_spotsInUse 1 = .ok (.istore_n 1, 1) := by decide +kernel
theorem dX0_spotsInUse_2 : decode cX0_spotsInUse 2 = .ok (.iconst 0, 1) := by decide +kernel
theorem dX0_spotsInUse_3 : decode cX0_spotsInUse 3 = .ok (.istore_n 2, 1) := by decide +kernel
theorem dX0_spotsInUse_4 : decode cX0_spotsInUse 4 = .ok (.iload_n 2, 1) := by decide +kernel
theorem dX0_spotsInUse_5 : decode cX0_spotsInUse 5 = .ok (.bipush 10, 2) := by decide +kernel
theorem dX0_spotsInUse_7 : decode cX0_spotsInUse 7 = .ok (.if_icmp .ge 21, 3) := by decide +kernel
theorem dX0_spotsInUse_10 : decode cX0_spotsInUse 10 = .ok (.aload_n 0, 1) := by decide +kernel
theorem dX0_spotsInUse_11 : decode cX0_spotsInUse 11 = .ok (.getfield 62, 3) := by decide +kernel
theorem dX0_spotsInUse_14 : decode cX0_spotsInUse 14 = .ok (.iload_n 2, 1) := by decide +kernel
theorem dX0_spotsInUse_15 : decode cX0_spotsInUse 15 = .ok (.iaload, 1) := by decide +kernel
theorem dX0_spotsInUse_16 : decode cX0_spotsInUse 16 = .ok (.ifCond .lt 6, 3) := by decide +kernel
theorem dX0_spotsInUse_19 : decode cX0_spotsInUse 19 = .ok (.iinc 1 1, 3) := by decide +kernel
theorem dX0_spotsInUse_22 : decode cX0_spotsInUse 22 = .ok (.iinc 2 1, 3) := by decide +kernel
theorem dX0_spotsInUse_25 : decode cX0_spotsInUse 25 = .ok (.goto (-21), 3) := by decide +kernel
theorem dX0_spotsInUse_28 : decode cX0_spotsInUse 28 = .ok (.iload_n 1, 1) := by decide +kernel
theorem dX0_spotsInUse_29 : decode cX0_spotsInUse 29 = .ok (.ireturn, 1) := by decide +kernel
theorem dX1_init_0 : decode cX1_init 0 = .ok (.aload_n 0, 1) := by decide +kernel
theorem dX1_init_1 : decode cX1_init 1 = .ok (.invokespecial 3, 3) := by decide +kernel
theorem dX1_init_4 : decode cX1_init 4 = .ok (.aload_n 0, 1) := by decide +kernel
theorem dX1_init_5 : decode cX1_init 5 = .ok (.bipush 10, 2) := by decide +kernel
theorem dX1_init_7 : decode cX1_init 7 = .ok (.newarray .int, 2) := by decide +kernel
theorem dX1_init_9 : decode cX1_init 9 = .ok (.putfield 9, 3) := by decide +kernel
theorem dX1_init_12 : decode cX1_init 12 = .ok (.aload_n 0, 1) := by decide +kernel
theorem dX1_init_13 : decode cX1_init 13 = .ok (.bipush 10, 2) := by decide +kernel
theorem dX1_init_15 : decode cX1_init 15 = .ok (.newarray .int, 2) := by decide +kernel
theorem dX1_init_17 : decode cX1_init 17 = .ok (.putfield 15, 3) := by decide +kernel
theorem dX1_init_20 : decode cX1_init 20 = .ok (.aload_n 0, 1) := by decide +kernel
theorem dX1_init_21 : decode cX1_init 21 = .ok (.bipush 10, 2) := by decide +kernel
theorem dX1_init_23 : decode cX1_init 23 = .ok (.newarray .int, 2) := by decide +kernel
theorem dX1_init_25 : decode cX1_init 25 = .ok (.putfield 18, 3) := by decide +kernel
theorem dX1_init_28 : decode cX1_init 28 = .ok (.aload_n 0, 1) := by decide +kernel
theorem dX1_init_29 : decode cX1_init 29 = .ok (.iconst 0, 1) := by decide +kernel
theorem dX1_init_30 : decode cX1_init 30 = .ok (.putfield 21, 3) := by decide +kernel
theorem dX1_init_33 : decode cX1_init 33 = .ok (.return_, 1) := by decide +kernel
theorem dX1_becomePlan_0 : decode cX1_becomePlan 0 = .ok (.aload_n 1, 1) := by decide +kernel
theorem dX1_becomePlan_1 : decode cX1_becomePlan 1 = .ok (.getfield 9, 3) := by decide +kernel
theorem dX1_becomePlan_4 : decode cX1_becomePlan 4 = .ok (.iconst 0, 1) := by decide +kernel
theorem dX1_becomePlan_5 : decode cX1_becomePlan 5 = .ok (.aload_n 0, 1) := by decide +kernel
theorem dX1_becomePlan_6 : decode cX1_becomePlan 6 = .ok (.getfield 9, 3) := by decide +kernel
theorem dX1_becomePlan_9 : decode cX1_becomePlan 9 = .ok (.iconst 0, 1) := by decide +kernel
theorem dX1_becomePlan_10 : decode cX1_becomePlan 10 = .ok (.bipush 10, 2) := by decide +kernel
theorem dX1_becomePlan_12 : decode cX1_becomePlan 12 = .ok (.invokestatic 25, 3) := by decide +kernel
theorem dX1_becomePlan_15 : decode cX1_becomePlan 15 = .ok (.aload_n 1, 1) := by decide +kernel
theorem dX1_becomePlan_16 : decode cX1_becomePlan 16 = .ok (.getfield 15, 3) := by decide +kernel
theorem dX1_becomePlan_19 : decode cX1_becomePlan 19 = .ok (.iconst 0, 1) := by decide +kernel
theorem dX1_becomePlan_20 : decode cX1_becomePlan 20 = .ok (.aload_n 0, 1) := by decide +kernel
theorem dX1_becomePlan_21 : decode cX1_becomePlan 21 = .ok (.getfield 15, 3) := by decide +kernel
theorem dX1_becomePlan_24 : decode cX1_becomePlan 24 = .ok (.iconst 0, 1) := by decide +kernel
theorem dX1_becomePlan_25 : decode cX1_becomePlan 25 = .ok (.bipush 10, 2) := by decide +kernel
theorem dX1_becomePlan_27 : decode cX1_becomePlan 27 = .ok (.invokestatic 25, 3) := by decide +kernel
theorem dX1_becomePlan_30 : decode cX1_becomePlan 30 = .ok (.aload_n 1, 1) := by decide +kernel
theorem dX1_becomePlan_31 : decode cX1_becomePlan 31 = .ok (.getfield 18, 3) := by decide +kernel
theorem dX1_becomePlan_34 : decode cX1_becomePlan 34 = .ok (.iconst 0, 1) := by decide +kernel
theorem dX1_becomePlan_35 : decode cX1_becomePlan 35 = .ok (.aload_n 0, 1) := by decide +kernel
theorem dX1_becomePlan_36 : decode cX1_becomePlan 36 = .ok (.getfield 18, 3) := by decide +kernel
theorem dX1_becomePlan_39 : decode cX1_becomePlan 39 = .ok (.iconst 0, 1) := by decide +kernel
theorem dX1_becomePlan_40 : decode cX1_becomePlan 40 = .ok (.bipush 10, 2) := by decide +kernel
theorem dX1_becomePlan_42 : decode cX1_becomePlan 42 = .ok (.invokestatic 25, 3) := by decide +kernel
theorem dX1_becomePlan_45 : decode cX1_becomePlan 45 = .ok (.aload_n 0, 1) := by decide +kernel
theorem dX1_becomePlan_46 : decode cX1_becomePlan 46 = .ok (.aload_n 1, 1) := by decide +kernel
theorem dX1_becomePlan_47 : decode cX1_becomePlan 47 = .ok (.getfield 21, 3) := by decide +kernel
theorem dX1_becomePlan_50 : decode cX1_becomePlan 50 = .ok (.putfield 21, 3) := by decide +kernel
theorem dX1_becomePlan_53 : decode cX1_becomePlan 53 = .ok (.return_, 1) := by decide +kernel
theorem dX1_row_0 : decode cX1_row 0 = .ok (.iload_n 1, 1) := by decide +kernel
theorem dX1_row_1 : decode cX1_row 1 = .ok (.lookupswitch 37 #[(0, 27), (1, 32)], 27) := by decide +kernel
theorem dX1_row_28 : decode cX1_row 28 = .ok (.aload_n 0, 1) := by decide +kernel
theorem dX1_row_29 : decode cX1_row 29 = .ok (.getfield 9, 3) := by decide +kernel
theorem dX1_row_32 : decode cX1_row 32 = .ok (.areturn, 1) := by decide +kernel
theorem dX1_row_33 : decode cX1_row 33 = .ok (.aload_n 0, 1) := by decide +kernel
theorem dX1_row_34 : decode cX1_row 34 = .ok (.getfield 15, 3) := by decide +kernel
theorem dX1_row_37 : decode cX1_row 37 = .ok (.areturn, 1) := by decide +kernel
theorem dX1_row_38 : decode cX1_row 38 = .ok (.aload_n 0, 1) := by decide +kernel
theorem dX1_row_39 : decode cX1_row 39 = .ok (.getfield 18, 3) := by decide +kernel
theorem dX1_row_42 : decode cX1_row 42 = .ok (.areturn, 1) := by decide +kernel
theorem dX1_isFull_0 : decode cX1_isFull 0 = .ok (.aload_n 0, 1) := by decide +kernel
theorem dX1_isFull_1 : decode cX1_isFull 1 = .ok (.getfield 21, 3) := by decide +kernel
theorem dX1_isFull_4 : decode cX1_isFull 4 = .ok (.bipush 10, 2) := by decide +kernel
theorem dX1_isFull_6 : decode cX1_isFull 6 = .ok (.if_icmp .lt 7, 3) := by decide +kernel
theorem dX1_isFull_9 : decode cX1_isFull 9 = .ok (.iconst 1, 1) := by decide +kernel
theorem dX1_isFull_10 : decode cX1_isFull 10 = .ok (.goto 4, 3) := by decide +kernel
theorem dX1_isFull_13 : decode cX1_isFull 13 = .ok (.iconst 0, 1) := by decide +kernel
theorem dX1_isFull_14 : decode cX1_isFull 14 = .ok (.ireturn, 1) := by decide +kernel
theorem dX1_add_0 : decode cX1_add 0 = .ok (.aload_n 0, 1) := by decide +kernel
theorem dX1_add_1 : decode cX1_add 1 = .ok (.getfield 21, 3) := by decide +kernel
theorem dX1_add_4 : decode cX1_add 4 = .ok (.istore 4, 2) := by decide +kernel
theorem dX1_add_6 : decode cX1_add 6 = .ok (.aload_n 0, 1) := by decide +kernel
theorem dX1_add_7 : decode cX1_add 7 = .ok (.getfield 9, 3) := by decide +kernel
theorem dX1_add_10 : decode cX1_add 10 = .ok (.iload 4, 2) := by decide +kernel
theorem dX1_add_12 : decode cX1_add 12 = .ok (.iload_n 1, 1) := by decide +kernel
theorem dX1_add_13 : decode cX1_add 13 = .ok (.iastore, 1) := by decide +kernel
theorem dX1_add_14 : decode cX1_add 14 = .ok (.aload_n 0, 1) := by decide +kernel
theorem dX1_add_15 : decode cX1_add 15 = .ok (.getfield 15, 3) := by decide +kernel
theorem dX1_add_18 : decode cX1_add 18 = .ok (.iload 4, 2) := by decide +kernel
theorem dX1_add_20 : decode cX1_add 20 = .ok (.iload_n 2, 1) := by decide +kernel
theorem dX1_add_21 : decode cX1_add 21 = .ok (.iastore, 1) := by decide +kernel
theorem dX1_add_22 : decode cX1_add 22 = .ok (.aload_n 0, 1) := by decide +kernel
theorem dX1_add_23 : decode cX1_add 23 = .ok (.getfield 18, 3) := by decide +kernel
theorem dX1_add_26 : decode cX1_add 26 = .ok (.iload 4, 2) := by decide +kernel
theorem dX1_add_28 : decode cX1_add 28 = .ok (.iload_n 3, 1) := by decide +kernel
theorem dX1_add_29 : decode cX1_add 29 = .ok (.iastore, 1) := by decide +kernel
theorem dX1_add_30 : decode cX1_add 30 = .ok (.aload_n 0, 1) := by decide +kernel
theorem dX1_add_31 : decode cX1_add 31 = .ok (.dup, 1) := by decide +kernel
theorem dX1_add_32 : decode cX1_add 32 = .ok (.getfield 21, 3) := by decide +kernel
theorem dX1_add_35 : decode cX1_add 35 = .ok (.iconst 1, 1) := by decide +kernel
theorem dX1_add_36 : decode cX1_add 36 = .ok (.iadd, 1) := by decide +kernel
theorem dX1_add_37 : decode cX1_add 37 = .ok (.putfield 21, 3) := by decide +kernel
theorem dX1_add_40 : decode cX1_add 40 = .ok (.iload 4, 2) := by decide +kernel
theorem dX1_add_42 : decode cX1_add 42 = .ok (.ireturn, 1) := by decide +kernel
theorem dX1_exchange_0 : decode cX1_exchange 0 = .ok (.aload_n 0, 1) := by decide +kernel
theorem dX1_exchange_1 : decode cX1_exchange 1 = .ok (.getfield 9, 3) := by decide +kernel
theorem dX1_exchange_4 : decode cX1_exchange 4 = .ok (.iload_n 1, 1) := by decide +kernel
theorem dX1_exchange_5 : decode cX1_exchange 5 = .ok (.iload_n 2, 1) := by decide +kernel
theorem dX1_exchange_6 : decode cX1_exchange 6 = .ok (.invokestatic 31, 3) := by decide +kernel
theorem dX1_exchange_9 : decode cX1_exchange 9 = .ok (.aload_n 0, 1) := by decide +kernel
theorem dX1_exchange_10 : decode cX1_exchange 10 = .ok (.getfield 15, 3) := by decide +kernel
theorem dX1_exchange_13 : decode cX1_exchange 13 = .ok (.iload_n 1, 1) := by decide +kernel
theorem dX1_exchange_14 : decode cX1_exchange 14 = .ok (.iload_n 2, 1) := by decide +kernel
theorem dX1_exchange_15 : decode cX1_exchange 15 = .ok (.invokestatic 31, 3) := by decide +kernel
theorem dX1_exchange_18 : decode cX1_exchange 18 = .ok (.aload_n 0, 1) := by decide +kernel
theorem dX1_exchange_19 : decode cX1_exchange 19 = .ok (.getfield 18, 3) := by decide +kernel
theorem dX1_exchange_22 : decode cX1_exchange 22 = .ok (.iload_n 1, 1) := by decide +kernel
theorem dX1_exchange_23 : decode cX1_exchange 23 = .ok (.iload_n 2, 1) := by decide +kernel
theorem dX1_exchange_24 : decode cX1_exchange 24 = .ok (.invokestatic 31, 3) := by decide +kernel
theorem dX1_exchange_27 : decode cX1_exchange 27 = .ok (.return_, 1) := by decide +kernel
theorem dX1_exchangeIn_0 : decode cX1_exchangeIn 0 = .ok (.aload_n 0, 1) := by decide +kernel
theorem dX1_exchangeIn_1 : decode cX1_exchangeIn 1 = .ok (.iload_n 1, 1) := by decide +kernel
theorem dX1_exchangeIn_2 : decode cX1_exchangeIn 2 = .ok (.iaload, 1) := by decide +kernel
theorem dX1_exchangeIn_3 : decode cX1_exchangeIn 3 = .ok (.istore_n 3, 1) := by decide +kernel
theorem dX1_exchangeIn_4 : decode cX1_exchangeIn 4 = .ok (.aload_n 0, 1) := by decide +kernel
theorem dX1_exchangeIn_5 : decode cX1_exchangeIn 5 = .ok (.iload_n 1, 1) := by decide +kernel
theorem dX1_exchangeIn_6 : decode cX1_exchangeIn 6 = .ok (.aload_n 0, 1) := by decide +kernel
theorem dX1_exchangeIn_7 : decode cX1_exchangeIn 7 = .ok (.iload_n 2, 1) := by decide +kernel
theorem dX1_exchangeIn_8 : decode cX1_exchangeIn 8 = .ok (.iaload, 1) := by decide +kernel
theorem dX1_exchangeIn_9 : decode cX1_exchangeIn 9 = .ok (.iastore, 1) := by decide +kernel
theorem dX1_exchangeIn_10 : decode cX1_exchangeIn 10 = .ok (.aload_n 0, 1) := by decide +kernel
theorem dX1_exchangeIn_11 : decode cX1_exchangeIn 11 = .ok (.iload_n 2, 1) := by decide +kernel
theorem dX1_exchangeIn_12 : decode cX1_exchangeIn 12 = .ok (.iload_n 3, 1) := by decide +kernel
theorem dX1_exchangeIn_13 : decode cX1_exchangeIn 13 = .ok (.iastore, 1) := by decide +kernel
theorem dX1_exchangeIn_14 : decode cX1_exchangeIn 14 = .ok (.return_, 1) := by decide +kernel
theorem dX1_keepOnly_0 : decode cX1_keepOnly 0 = .ok (.aload_n 0, 1) := by decide +kernel
theorem dX1_keepOnly_1 : decode cX1_keepOnly 1 = .ok (.iconst 0, 1) := by decide +kernel
theorem dX1_keepOnly_2 : decode cX1_keepOnly 2 = .ok (.iload_n 1, 1) := by decide +kernel
theorem dX1_keepOnly_3 : decode cX1_keepOnly 3 = .ok (.invokevirtual 35, 3) := by decide +kernel
theorem dX1_keepOnly_6 : decode cX1_keepOnly 6 = .ok (.aload_n 0, 1) := by decide +kernel
theorem dX1_keepOnly_7 : decode cX1_keepOnly 7 = .ok (.iconst 1, 1) := by decide +kernel
theorem dX1_keepOnly_8 : decode cX1_keepOnly 8 = .ok (.putfield 21, 3) := by decide +kernel
theorem dX1_keepOnly_11 : decode cX1_keepOnly 11 = .ok (.return_, 1) := by decide +kernel
theorem dX1_pressThePaid_0 : decode cX1_pressThePaid 0 = .ok (.iconst 0, 1) := by decide +kernel
theorem dX1_pressThePaid_1 : decode cX1_pressThePaid 1 = .ok (.istore_n 1, 1) := by decide +kernel
theorem dX1_pressThePaid_2 : decode cX1_pressThePaid 2 = .ok (.iload_n 1, 1) := by decide +kernel
theorem dX1_pressThePaid_3 : decode cX1_pressThePaid 3 = .ok (.aload_n 0, 1) := by decide +kernel
theorem dX1_pressThePaid_4 : decode cX1_pressThePaid 4 = .ok (.getfield 21, 3) := by decide +kernel
theorem dX1_pressThePaid_7 : decode cX1_pressThePaid 7 = .ok (.if_icmp .ge 26, 3) := by decide +kernel
theorem dX1_pressThePaid_10 : decode cX1_pressThePaid 10 = .ok (.aload_n 0, 1) := by decide +kernel
theorem dX1_pressThePaid_11 : decode cX1_pressThePaid 11 = .ok (.getfield 9, 3) := by decide +kernel
theorem dX1_pressThePaid_14 : decode cX1_pressThePaid 14 = .ok (.iload_n 1, 1) := by decide +kernel
theorem dX1_pressThePaid_15 : decode cX1_pressThePaid 15 = .ok (.iaload, 1) := by decide +kernel
theorem dX1_pressThePaid_16 : decode cX1_pressThePaid 16 = .ok (.iconst 3, 1) := by decide +kernel
theorem dX1_pressThePaid_17 : decode cX1_pressThePaid 17 = .ok (.if_icmp .ne 10, 3) := by decide +kernel
theorem dX1_pressThePaid_20 : decode cX1_pressThePaid 20 = .ok (.aload_n 0, 1) := by decide +kernel
theorem dX1_pressThePaid_21 : decode cX1_pressThePaid 21 = .ok (.getfield 9, 3) := by decide +kernel
theorem dX1_pressThePaid_24 : decode cX1_pressThePaid 24 = .ok (.iload_n 1, 1) := by decide +kernel
theorem dX1_pressThePaid_25 : decode cX1_pressThePaid 25 = .ok (.iconst 2, 1) := by decide +kernel
theorem dX1_pressThePaid_26 : decode cX1_pressThePaid 26 = .ok (.iastore, 1) := by decide +kernel
theorem dX1_pressThePaid_27 : decode cX1_pressThePaid 27 = .ok (.iinc 1 1, 3) := by decide +kernel
theorem dX1_pressThePaid_30 : decode cX1_pressThePaid 30 = .ok (.goto (-28), 3) := by decide +kernel
theorem dX1_pressThePaid_33 : decode cX1_pressThePaid 33 = .ok (.return_, 1) := by decide +kernel
theorem dX2_init_0 : decode cX2_init 0 = .ok (.aload_n 0, 1) := by decide +kernel
theorem dX2_init_1 : decode cX2_init 1 = .ok (.invokespecial 3, 3) := by decide +kernel
theorem dX2_init_4 : decode cX2_init 4 = .ok (.aload_n 0, 1) := by decide +kernel
theorem dX2_init_5 : decode cX2_init 5 = .ok (.bipush 40, 2) := by decide +kernel
theorem dX2_init_7 : decode cX2_init 7 = .ok (.newarray .int, 2) := by decide +kernel
theorem dX2_init_9 : decode cX2_init 9 = .ok (.putfield 9, 3) := by decide +kernel
theorem dX2_init_12 : decode cX2_init 12 = .ok (.aload_n 0, 1) := by decide +kernel
theorem dX2_init_13 : decode cX2_init 13 = .ok (.iconst 0, 1) := by decide +kernel
theorem dX2_init_14 : decode cX2_init 14 = .ok (.putfield 15, 3) := by decide +kernel
theorem dX2_init_17 : decode cX2_init 17 = .ok (.aload_n 0, 1) := by decide +kernel
theorem dX2_init_18 : decode cX2_init 18 = .ok (.iconst 0, 1) := by decide +kernel
theorem dX2_init_19 : decode cX2_init 19 = .ok (.putfield 19, 3) := by decide +kernel
theorem dX2_init_22 : decode cX2_init 22 = .ok (.return_, 1) := by decide +kernel
theorem dX2_isMissing_0 : decode cX2_isMissing 0 = .ok (.aload_n 0, 1) := by decide +kernel
theorem dX2_isMissing_1 : decode cX2_isMissing 1 = .ok (.getfield 15, 3) := by decide +kernel
theorem dX2_isMissing_4 : decode cX2_isMissing 4 = .ok (.ifCond .ne 7, 3) := by decide +kernel
theorem dX2_isMissing_7 : decode cX2_isMissing 7 = .ok (.iconst 1, 1) := by decide +kernel
theorem dX2_isMissing_8 : decode cX2_isMissing 8 = .ok (.goto 4, 3) := by decide +kernel
theorem dX2_isMissing_11 : decode cX2_isMissing 11 = .ok (.iconst 0, 1) := by decide +kernel
theorem dX2_isMissing_12 : decode cX2_isMissing 12 = .ok (.ireturn, 1) := by decide +kernel
theorem dX2_lay_0 : decode cX2_lay 0 = .ok (.aload_n 0, 1) := by decide +kernel
theorem dX2_lay_1 : decode cX2_lay 1 = .ok (.iload_n 1, 1) := by decide +kernel
theorem dX2_lay_2 : decode cX2_lay 2 = .ok (.putfield 15, 3) := by decide +kernel
theorem dX2_lay_5 : decode cX2_lay 5 = .ok (.aload_n 0, 1) := by decide +kernel
theorem dX2_lay_6 : decode cX2_lay 6 = .ok (.iload_n 1, 1) := by decide +kernel
theorem dX2_lay_7 : decode cX2_lay 7 = .ok (.ifCond .ne 7, 3) := by decide +kernel
theorem dX2_lay_10 : decode cX2_lay 10 = .ok (.iconst 0, 1) := by decide +kernel
theorem dX2_lay_11 : decode cX2_lay 11 = .ok (.goto 4, 3) := by decide +kernel
theorem dX2_lay_14 : decode cX2_lay 14 = .ok (.iload_n 2, 1) := by decide +kernel
theorem dX2_lay_15 : decode cX2_lay 15 = .ok (.putfield 19, 3) := by decide +kernel
theorem dX2_lay_18 : decode cX2_lay 18 = .ok (.aload_n 0, 1) := by decide +kernel
theorem dX2_lay_19 : decode cX2_lay 19 = .ok (.getfield 9, 3) := by decide +kernel
theorem dX2_lay_22 : decode cX2_lay 22 = .ok (.iconst 0, 1) := by decide +kernel
theorem dX2_lay_23 : decode cX2_lay 23 = .ok (.invokestatic 22, 3) := by decide +kernel
theorem dX2_lay_26 : decode cX2_lay 26 = .ok (.return_, 1) := by decide +kernel
theorem dX2_has_0 : decode cX2_has 0 = .ok (.iload_n 1, 1) := by decide +kernel
theorem dX2_has_1 : decode cX2_has 1 = .ok (.ifCond .lt 21, 3) := by decide +kernel
theorem dX2_has_4 : decode cX2_has 4 = .ok (.iload_n 2, 1) := by decide +kernel
theorem dX2_has_5 : decode cX2_has 5 = .ok (.ifCond .lt 17, 3) := by decide +kernel
theorem dX2_has_8 : decode cX2_has 8 = .ok (.iload_n 1, 1) := by decide +kernel
theorem dX2_has_9 : decode cX2_has 9 = .ok (.aload_n 0, 1) := by decide +kernel
theorem dX2_has_10 : decode cX2_has 10 = .ok (.getfield 19, 3) := by decide +kernel
theorem dX2_has_13 : decode cX2_has 13 = .ok (.iload_n 2, 1) := by decide +kernel
theorem dX2_has_14 : decode cX2_has 14 = .ok (.isub, 1) := by decide +kernel
theorem dX2_has_15 : decode cX2_has 15 = .ok (.if_icmp .gt 7, 3) := by decide +kernel
theorem dX2_has_18 : decode cX2_has 18 = .ok (.iconst 1, 1) := by decide +kernel
theorem dX2_has_19 : decode cX2_has 19 = .ok (.goto 4, 3) := by decide +kernel
theorem dX2_has_22 : decode cX2_has 22 = .ok (.iconst 0, 1) := by decide +kernel
theorem dX2_has_23 : decode cX2_has 23 = .ok (.ireturn, 1) := by decide +kernel
theorem dX2_put_0 : decode cX2_put 0 = .ok (.aload_n 0, 1) := by decide +kernel
theorem dX2_put_1 : decode cX2_put 1 = .ok (.getfield 15, 3) := by decide +kernel
theorem dX2_put_4 : decode cX2_put 4 = .ok (.lookupswitch 50 #[(8, 28), (16, 39)], 28) := by decide +kernel
theorem dX2_put_32 : decode cX2_put 32 = .ok (.aload_n 0, 1) := by decide +kernel
theorem dX2_put_33 : decode cX2_put 33 = .ok (.getfield 9, 3) := by decide +kernel
theorem dX2_put_36 : decode cX2_put 36 = .ok (.iload_n 1, 1) := by decide +kernel
theorem dX2_put_37 : decode cX2_put 37 = .ok (.iload_n 2, 1) := by decide +kernel
theorem dX2_put_38 : decode cX2_put 38 = .ok (.i2b, 1) := by decide +kernel
theorem dX2_put_39 : decode cX2_put 39 = .ok (.iastore, 1) := by decide +kernel
theorem dX2_put_40 : decode cX2_put 40 = .ok (.goto 21, 3) := by decide +kernel
theorem dX2_put_43 : decode cX2_put 43 = .ok (.aload_n 0, 1) := by decide +kernel
theorem dX2_put_44 : decode cX2_put 44 = .ok (.getfield 9, 3) := by decide +kernel
theorem dX2_put_47 : decode cX2_put 47 = .ok (.iload_n 1, 1) := by decide +kernel
theorem dX2_put_48 : decode cX2_put 48 = .ok (.iload_n 2, 1) := by decide +kernel
theorem dX2_put_49 : decode cX2_put 49 = .ok (.i2s, 1) := by decide +kernel
theorem dX2_put_50 : decode cX2_put 50 = .ok (.iastore, 1) := by decide +kernel
theorem dX2_put_51 : decode cX2_put 51 = .ok (.goto 10, 3) := by decide +kernel
theorem dX2_put_54 : decode cX2_put 54 = .ok (.aload_n 0, 1) := by decide +kernel
theorem dX2_put_55 : decode cX2_put 55 = .ok (.getfield 9, 3) := by decide +kernel
theorem dX2_put_58 : decode cX2_put 58 = .ok (.iload_n 1, 1) := by decide +kernel
theorem dX2_put_59 : decode cX2_put 59 = .ok (.iload_n 2, 1) := by decide +kernel
theorem dX2_put_60 : decode cX2_put 60 = .ok (.iastore, 1) := by decide +kernel
theorem dX2_put_61 : decode cX2_put 61 = .ok (.return_, 1) := by decide +kernel
theorem dX3_init_0 : decode cX3_init 0 = .ok (.aload_n 0, 1) := by decide +kernel
theorem dX3_init_1 : decode cX3_init 1 = .ok (.invokespecial 3, 3) := by decide +kernel
theorem dX3_init_4 : decode cX3_init 4 = .ok (.aload_n 0, 1) := by decide +kernel
theorem dX3_init_5 : decode cX3_init 5 = .ok (.bipush 120, 2) := by decide +kernel
theorem dX3_init_7 : decode cX3_init 7 = .ok (.newarray .int, 2) := by decide +kernel
theorem dX3_init_9 : decode cX3_init 9 = .ok (.putfield 9, 3) := by decide +kernel
theorem dX3_init_12 : decode cX3_init 12 = .ok (.aload_n 0, 1) := by decide +kernel
theorem dX3_init_13 : decode cX3_init 13 = .ok (.iconst 0, 1) := by decide +kernel
theorem dX3_init_14 : decode cX3_init 14 = .ok (.putfield 15, 3) := by decide +kernel
theorem dX3_init_17 : decode cX3_init 17 = .ok (.aload_n 0, 1) := by decide +kernel
theorem dX3_init_18 : decode cX3_init 18 = .ok (.bipush 121, 2) := by decide +kernel
theorem dX3_init_20 : decode cX3_init 20 = .ok (.newarray .int, 2) := by decide +kernel
theorem dX3_init_22 : decode cX3_init 22 = .ok (.putfield 19, 3) := by decide +kernel
theorem dX3_init_25 : decode cX3_init 25 = .ok (.aload_n 0, 1) := by decide +kernel
theorem dX3_init_26 : decode cX3_init 26 = .ok (.bipush 121, 2) := by decide +kernel
theorem dX3_init_28 : decode cX3_init 28 = .ok (.newarray .int, 2) := by decide +kernel
theorem dX3_init_30 : decode cX3_init 30 = .ok (.putfield 22, 3) := by decide +kernel
theorem dX3_init_33 : decode cX3_init 33 = .ok (.aload_n 0, 1) := by decide +kernel
theorem dX3_init_34 : decode cX3_init 34 = .ok (.bipush 121, 2) := by decide +kernel
theorem dX3_init_36 : decode cX3_init 36 = .ok (.newarray .int, 2) := by decide +kernel
theorem dX3_init_38 : decode cX3_init 38 = .ok (.putfield 25, 3) := by decide +kernel
theorem dX3_init_41 : decode cX3_init 41 = .ok (.aload_n 0, 1) := by decide +kernel
theorem dX3_init_42 : decode cX3_init 42 = .ok (.bipush 121, 2) := by decide +kernel
theorem dX3_init_44 : decode cX3_init 44 = .ok (.newarray .int, 2) := by decide +kernel
theorem dX3_init_46 : decode cX3_init 46 = .ok (.putfield 28, 3) := by decide +kernel
theorem dX3_init_49 : decode cX3_init 49 = .ok (.aload_n 0, 1) := by decide +kernel
theorem dX3_init_50 : decode cX3_init 50 = .ok (.iconst 0, 1) := by decide +kernel
theorem dX3_init_51 : decode cX3_init 51 = .ok (.putfield 31, 3) := by decide +kernel
theorem dX3_init_54 : decode cX3_init 54 = .ok (.aload_n 0, 1) := by decide +kernel
theorem dX3_init_55 : decode cX3_init 55 = .ok (.iconst 0, 1) := by decide +kernel
theorem dX3_init_56 : decode cX3_init 56 = .ok (.putfield 34, 3) := by decide +kernel
theorem dX3_init_59 : decode cX3_init 59 = .ok (.return_, 1) := by decide +kernel
theorem dX3_add_0 : decode cX3_add 0 = .ok (.aload_n 0, 1) := by decide +kernel
theorem dX3_add_1 : decode cX3_add 1 = .ok (.getfield 15, 3) := by decide +kernel
theorem dX3_add_4 : decode cX3_add 4 = .ok (.bipush 120, 2) := by decide +kernel
theorem dX3_add_6 : decode cX3_add 6 = .ok (.if_icmp .ge 23, 3) := by decide +kernel
theorem dX3_add_9 : decode cX3_add 9 = .ok (.aload_n 0, 1) := by decide +kernel
theorem dX3_add_10 : decode cX3_add 10 = .ok (.getfield 9, 3) := by decide +kernel
theorem dX3_add_13 : decode cX3_add 13 = .ok (.aload_n 0, 1) := by decide +kernel
theorem dX3_add_14 : decode cX3_add 14 = .ok (.getfield 15, 3) := by decide +kernel
theorem dX3_add_17 : decode cX3_add 17 = .ok (.iload_n 1, 1) := by decide +kernel
theorem dX3_add_18 : decode cX3_add 18 = .ok (.iastore, 1) := by decide +kernel
theorem dX3_add_19 : decode cX3_add 19 = .ok (.aload_n 0, 1) := by decide +kernel
theorem dX3_add_20 : decode cX3_add 20 = .ok (.dup, 1) := by decide +kernel
theorem dX3_add_21 : decode cX3_add 21 = .ok (.getfield 15, 3) := by decide +kernel
theorem dX3_add_24 : decode cX3_add 24 = .ok (.iconst 1, 1) := by decide +kernel
theorem dX3_add_25 : decode cX3_add 25 = .ok (.iadd, 1) := by decide +kernel
theorem dX3_add_26 : decode cX3_add 26 = .ok (.putfield 15, 3) := by decide +kernel
theorem dX3_add_29 : decode cX3_add 29 = .ok (.return_, 1) := by decide +kernel
theorem dX3_cut_0 : decode cX3_cut 0 = .ok (.aload_n 0, 1) := by decide +kernel
theorem dX3_cut_1 : decode cX3_cut 1 = .ok (.iconst 0, 1) := by decide +kernel
theorem dX3_cut_2 : decode cX3_cut 2 = .ok (.putfield 31, 3) := by decide +kernel
theorem dX3_cut_5 : decode cX3_cut 5 = .ok (.aload_n 0, 1) := by decide +kernel
theorem dX3_cut_6 : decode cX3_cut 6 = .ok (.iconst 0, 1) := by decide +kernel
theorem dX3_cut_7 : decode cX3_cut 7 = .ok (.putfield 34, 3) := by decide +kernel
theorem dX3_cut_10 : decode cX3_cut 10 = .ok (.iconst 0, 1) := by decide +kernel
theorem dX3_cut_11 : decode cX3_cut 11 = .ok (.istore_n 1, 1) := by decide +kernel
theorem dX3_cut_12 : decode cX3_cut 12 = .ok (.iconst 0, 1) := by decide +kernel
theorem dX3_cut_13 : decode cX3_cut 13 = .ok (.istore_n 2, 1) := by decide +kernel
theorem dX3_cut_14 : decode cX3_cut 14 = .ok (.iload_n 2, 1) := by decide +kernel
theorem dX3_cut_15 : decode cX3_cut 15 = .ok (.aload_n 0, 1) := by decide +kernel
theorem dX3_cut_16 : decode cX3_cut 16 = .ok (.getfield 15, 3) := by decide +kernel
theorem dX3_cut_19 : decode cX3_cut 19 = .ok (.if_icmp .ge 67, 3) := by decide +kernel
theorem dX3_cut_22 : decode cX3_cut 22 = .ok (.aload_n 0, 1) := by decide +kernel
theorem dX3_cut_23 : decode cX3_cut 23 = .ok (.getfield 9, 3) := by decide +kernel
theorem dX3_cut_26 : decode cX3_cut 26 = .ok (.iload_n 2, 1) := by decide +kernel
theorem dX3_cut_27 : decode cX3_cut 27 = .ok (.iaload, 1) := by decide +kernel
theorem dX3_cut_28 : decode cX3_cut 28 = .ok (.invokestatic 37, 3) := by decide +kernel
theorem dX3_cut_31 : decode cX3_cut 31 = .ok (.istore_n 3, 1) := by decide +kernel
theorem dX3_cut_32 : decode cX3_cut 32 = .ok (.iload_n 3, 1) := by decide +kernel
theorem dX3_cut_33 : decode cX3_cut 33 = .ok (.iload_n 1, 1) := by decide +kernel
theorem dX3_cut_34 : decode cX3_cut 34 = .ok (.if_icmp .ne 17, 3) := by decide +kernel
theorem dX3_cut_37 : decode cX3_cut 37 = .ok (.iload_n 3, 1) := by decide +kernel
theorem dX3_cut_38 : decode cX3_cut 38 = .ok (.iconst 1, 1) := by decide +kernel
theorem dX3_cut_39 : decode cX3_cut 39 = .ok (.if_icmp .eq 8, 3) := by decide +kernel
theorem dX3_cut_42 : decode cX3_cut 42 = .ok (.iload_n 3, 1) := by decide +kernel
theorem dX3_cut_43 : decode cX3_cut 43 = .ok (.iconst 2, 1) := by decide +kernel
theorem dX3_cut_44 : decode cX3_cut 44 = .ok (.if_icmp .ne 7, 3) := by decide +kernel
theorem dX3_cut_47 : decode cX3_cut 47 = .ok (.iconst 1, 1) := by decide +kernel
theorem dX3_cut_48 : decode cX3_cut 48 = .ok (.goto 4, 3) := by decide +kernel
theorem dX3_cut_51 : decode cX3_cut 51 = .ok (.iconst 0, 1) := by decide +kernel
theorem dX3_cut_52 : decode cX3_cut 52 = .ok (.istore 4, 2) := by decide +kernel
theorem dX3_cut_54 : decode cX3_cut 54 = .ok (.iload 4, 2) := by decide +kernel
theorem dX3_cut_56 : decode cX3_cut 56 = .ok (.ifCond .ne 13, 3) := by decide +kernel
theorem dX3_cut_59 : decode cX3_cut 59 = .ok (.iload_n 3, 1) := by decide +kernel
theorem dX3_cut_60 : decode cX3_cut 60 = .ok (.ifCond .eq 9, 3) := by decide +kernel
theorem dX3_cut_63 : decode cX3_cut 63 = .ok (.aload_n 0, 1) := by decide +kernel
theorem dX3_cut_64 : decode cX3_cut 64 = .ok (.iload_n 3, 1) := by decide +kernel
theorem dX3_cut_65 : decode cX3_cut 65 = .ok (.iload_n 2, 1) := by decide +kernel
theorem dX3_cut_66 : decode cX3_cut 66 = .ok (.invokevirtual 41, 3) := by decide +kernel
theorem dX3_cut_69 : decode cX3_cut 69 = .ok (.iload_n 3, 1) := by decide +kernel
theorem dX3_cut_70 : decode cX3_cut 70 = .ok (.ifCond .eq 8, 3) := by decide +kernel
theorem dX3_cut_73 : decode cX3_cut 73 = .ok (.aload_n 0, 1) := by decide +kernel
theorem dX3_cut_74 : decode cX3_cut 74 = .ok (.iload_n 2, 1) := by decide +kernel
theorem dX3_cut_75 : decode cX3_cut 75 = .ok (.invokevirtual 45, 3) := by decide +kernel
theorem dX3_cut_78 : decode cX3_cut 78 = .ok (.iload_n 3, 1) := by decide +kernel
theorem dX3_cut_79 : decode cX3_cut 79 = .ok (.istore_n 1, 1) := by decide +kernel
theorem dX3_cut_80 : decode cX3_cut 80 = .ok (.iinc 2 1, 3) := by decide +kernel
theorem dX3_cut_83 : decode cX3_cut 83 = .ok (.goto (-69), 3) := by decide +kernel
theorem dX3_cut_86 : decode cX3_cut 86 = .ok (.aload_n 0, 1) := by decide +kernel
theorem dX3_cut_87 : decode cX3_cut 87 = .ok (.iconst 5, 1) := by decide +kernel
theorem dX3_cut_88 : decode cX3_cut 88 = .ok (.aload_n 0, 1) := by decide +kernel
theorem dX3_cut_89 : decode cX3_cut 89 = .ok (.getfield 15, 3) := by decide +kernel
theorem dX3_cut_92 : decode cX3_cut 92 = .ok (.invokevirtual 41, 3) := by decide +kernel
theorem dX3_cut_95 : decode cX3_cut 95 = .ok (.return_, 1) := by decide +kernel
theorem dX3_kindOf_0 : decode cX3_kindOf 0 = .ok (.iload_n 0, 1) := by decide +kernel
theorem dX3_kindOf_1 : decode cX3_kindOf 1 = .ok (.bipush 97, 2) := by decide +kernel
theorem dX3_kindOf_3 : decode cX3_kindOf 3 = .ok (.bipush 122, 2) := by decide +kernel
theorem dX3_kindOf_5 : decode cX3_kindOf 5 = .ok (.invokestatic 49, 3) := by decide +kernel
theorem dX3_kindOf_8 : decode cX3_kindOf 8 = .ok (.ifCond .eq 5, 3) := by decide +kernel
theorem dX3_kindOf_11 : decode cX3_kindOf 11 = .ok (.iconst 1, 1) := by decide +kernel
theorem dX3_kindOf_12 : decode cX3_kindOf 12 = .ok (.ireturn, 1) := by decide +kernel
theorem dX3_kindOf_13 : decode cX3_kindOf 13 = .ok (.iload_n 0, 1) := by decide +kernel
theorem dX3_kindOf_14 : decode cX3_kindOf 14 = .ok (.bipush 48, 2) := by decide +kernel
theorem dX3_kindOf_16 : decode cX3_kindOf 16 = .ok (.bipush 57, 2) := by decide +kernel
theorem dX3_kindOf_18 : decode cX3_kindOf 18 = .ok (.invokestatic 49, 3) := by decide +kernel
theorem dX3_kindOf_21 : decode cX3_kindOf 21 = .ok (.ifCond .eq 5, 3) := by decide +kernel
theorem dX3_kindOf_24 : decode cX3_kindOf 24 = .ok (.iconst 2, 1) := by decide +kernel
theorem dX3_kindOf_25 : decode cX3_kindOf 25 = .ok (.ireturn, 1) := by decide +kernel
theorem dX3_kindOf_26 : decode cX3_kindOf 26 = .ok (.iload_n 0, 1) := by decide +kernel
theorem dX3_kindOf_27 : decode cX3_kindOf 27 = .ok (.bipush 59, 2) := by decide +kernel
theorem dX3_kindOf_29 : decode cX3_kindOf 29 = .ok (.if_icmp .ne 5, 3) := by decide +kernel
theorem dX3_kindOf_32 : decode cX3_kindOf 32 = .ok (.iconst 3, 1) := by decide +kernel
theorem dX3_kindOf_33 : decode cX3_kindOf 33 = .ok (.ireturn, 1) := by decide +kernel
theorem dX3_kindOf_34 : decode cX3_kindOf 34 = .ok (.iload_n 0, 1) := by decide +kernel
theorem dX3_kindOf_35 : decode cX3_kindOf 35 = .ok (.bipush 32, 2) := by decide +kernel
theorem dX3_kindOf_37 : decode cX3_kindOf 37 = .ok (.if_icmp .ne 7, 3) := by decide +kernel
theorem dX3_kindOf_40 : decode cX3_kindOf 40 = .ok (.iconst 0, 1) := by decide +kernel
theorem dX3_kindOf_41 : decode cX3_kindOf 41 = .ok (.goto 4, 3) := by decide +kernel
theorem dX3_kindOf_44 : decode cX3_kindOf 44 = .ok (.iconst 4, 1) := by decide +kernel
theorem dX3_kindOf_45 : decode cX3_kindOf 45 = .ok (.ireturn, 1) := by decide +kernel
theorem dX3_begin_0 : decode cX3_begin 0 = .ok (.aload_n 0, 1) := by decide +kernel
theorem dX3_begin_1 : decode cX3_begin 1 = .ok (.getfield 31, 3) := by decide +kernel
theorem dX3_begin_4 : decode cX3_begin 4 = .ok (.bipush 120, 2) := by decide +kernel
theorem dX3_begin_6 : decode cX3_begin 6 = .ok (.if_icmp .gt 53, 3) := by decide +kernel
theorem dX3_begin_9 : decode cX3_begin 9 = .ok (.aload_n 0, 1) := by decide +kernel
theorem dX3_begin_10 : decode cX3_begin 10 = .ok (.getfield 19, 3) := by decide +kernel
theorem dX3_begin_13 : decode cX3_begin 13 = .ok (.aload_n 0, 1) := by decide +kernel
theorem dX3_begin_14 : decode cX3_begin 14 = .ok (.getfield 31, 3) := by decide +kernel
theorem dX3_begin_17 : decode cX3_begin 17 = .ok (.iload_n 1, 1) := by decide +kernel
theorem dX3_begin_18 : decode cX3_begin 18 = .ok (.iastore, 1) := by decide +kernel
theorem dX3_begin_19 : decode cX3_begin 19 = .ok (.aload_n 0, 1) := by decide +kernel
theorem dX3_begin_20 : decode cX3_begin 20 = .ok (.getfield 22, 3) := by decide +kernel
theorem dX3_begin_23 : decode cX3_begin 23 = .ok (.aload_n 0, 1) := by decide +kernel
theorem dX3_begin_24 : decode cX3_begin 24 = .ok (.getfield 31, 3) := by decide +kernel
theorem dX3_begin_27 : decode cX3_begin 27 = .ok (.iload_n 2, 1) := by decide +kernel
theorem dX3_begin_28 : decode cX3_begin 28 = .ok (.iastore, 1) := by decide +kernel
theorem dX3_begin_29 : decode cX3_begin 29 = .ok (.aload_n 0, 1) := by decide +kernel
theorem dX3_begin_30 : decode cX3_begin 30 = .ok (.getfield 25, 3) := by decide +kernel
theorem dX3_begin_33 : decode cX3_begin 33 = .ok (.aload_n 0, 1) := by decide +kernel
theorem dX3_begin_34 : decode cX3_begin 34 = .ok (.getfield 31, 3) := by decide +kernel
theorem dX3_begin_37 : decode cX3_begin 37 = .ok (.iconst 0, 1) := by decide +kernel
theorem dX3_begin_38 : decode cX3_begin 38 = .ok (.iastore, 1) := by decide +kernel
theorem dX3_begin_39 : decode cX3_begin 39 = .ok (.aload_n 0, 1) := by decide +kernel
theorem dX3_begin_40 : decode cX3_begin 40 = .ok (.getfield 28, 3) := by decide +kernel
theorem dX3_begin_43 : decode cX3_begin 43 = .ok (.aload_n 0, 1) := by decide +kernel
theorem dX3_begin_44 : decode cX3_begin 44 = .ok (.getfield 31, 3) := by decide +kernel
theorem dX3_begin_47 : decode cX3_begin 47 = .ok (.iconst 0, 1) := by decide +kernel
theorem dX3_begin_48 : decode cX3_begin 48 = .ok (.iastore, 1) := by decide +kernel
theorem dX3_begin_49 : decode cX3_begin 49 = .ok (.aload_n 0, 1) := by decide +kernel
theorem dX3_begin_50 : decode cX3_begin 50 = .ok (.dup, 1) := by decide +kernel
theorem dX3_begin_51 : decode cX3_begin 51 = .ok (.getfield 31, 3) := by decide +kernel
theorem dX3_begin_54 : decode cX3_begin 54 = .ok (.iconst 1, 1) := by decide +kernel
theorem dX3_begin_55 : decode cX3_begin 55 = .ok (.iadd, 1) := by decide +kernel
theorem dX3_begin_56 : decode cX3_begin 56 = .ok (.putfield 31, 3) := by decide +kernel
theorem dX3_begin_59 : decode cX3_begin 59 = .ok (.return_, 1) := by decide +kernel
theorem dX3_lengthen_0 : decode cX3_lengthen 0 = .ok (.aload_n 0, 1) := by decide +kernel
theorem dX3_lengthen_1 : decode cX3_lengthen 1 = .ok (.getfield 31, 3) := by decide +kernel
theorem dX3_lengthen_4 : decode cX3_lengthen 4 = .ok (.iconst 1, 1) := by decide +kernel
theorem dX3_lengthen_5 : decode cX3_lengthen 5 = .ok (.isub, 1) := by decide +kernel
theorem dX3_lengthen_6 : decode cX3_lengthen 6 = .ok (.istore_n 2, 1) := by decide +kernel
theorem dX3_lengthen_7 : decode cX3_lengthen 7 = .ok (.iload_n 2, 1) := by decide +kernel
theorem dX3_lengthen_8 : decode cX3_lengthen 8 = .ok (.ifCond .lt 54, 3) := by decide +kernel
theorem dX3_lengthen_11 : decode cX3_lengthen 11 = .ok (.aload_n 0, 1) := by decide +kernel
theorem dX3_lengthen_12 : decode cX3_lengthen 12 = .ok (.getfield 25, 3) := by decide +kernel
theorem dX3_lengthen_15 : decode cX3_lengthen 15 = .ok (.iload_n 2, 1) := by decide +kernel
theorem dX3_lengthen_16 : decode cX3_lengthen 16 = .ok (.dup2, 1) := by decide +kernel
theorem dX3_lengthen_17 : decode cX3_lengthen 17 = .ok (.iaload, 1) := by decide +kernel
theorem dX3_lengthen_18 : decode cX3_lengthen 18 = .ok (.iconst 1, 1) := by decide +kernel
theorem dX3_lengthen_19 : decode cX3_lengthen 19 = .ok (.iadd, 1) := by decide +kernel
theorem dX3_lengthen_20 : decode cX3_lengthen 20 = .ok (.iastore, 1) := by decide +kernel
theorem dX3_lengthen_21 : decode cX3_lengthen 21 = .ok (.aload_n 0, 1) := by decide +kernel
theorem dX3_lengthen_22 : decode cX3_lengthen 22 = .ok (.getfield 19, 3) := by decide +kernel
theorem dX3_lengthen_25 : decode cX3_lengthen 25 = .ok (.iload_n 2, 1) := by decide +kernel
theorem dX3_lengthen_26 : decode cX3_lengthen 26 = .ok (.iaload, 1) := by decide +kernel
theorem dX3_lengthen_27 : decode cX3_lengthen 27 = .ok (.iconst 2, 1) := by decide +kernel
theorem dX3_lengthen_28 : decode cX3_lengthen 28 = .ok (.if_icmp .ne 34, 3) := by decide +kernel
theorem dX3_lengthen_31 : decode cX3_lengthen 31 = .ok (.aload_n 0, 1) := by decide +kernel
theorem dX3_lengthen_32 : decode cX3_lengthen 32 = .ok (.getfield 28, 3) := by decide +kernel
theorem dX3_lengthen_35 : decode cX3_lengthen 35 = .ok (.iload_n 2, 1) := by decide +kernel
theorem dX3_lengthen_36 : decode cX3_lengthen 36 = .ok (.sipush 10000, 3) := by decide +kernel
theorem dX3_lengthen_39 : decode cX3_lengthen 39 = .ok (.aload_n 0, 1) := by decide +kernel
theorem dX3_lengthen_40 : decode cX3_lengthen 40 = .ok (.getfield 28, 3) := by decide +kernel
theorem dX3_lengthen_43 : decode cX3_lengthen 43 = .ok (.iload_n 2, 1) := by decide +kernel
theorem dX3_lengthen_44 : decode cX3_lengthen 44 = .ok (.iaload, 1) := by decide +kernel
theorem dX3_lengthen_45 : decode cX3_lengthen 45 = .ok (.bipush 10, 2) := by decide +kernel
theorem dX3_lengthen_47 : decode cX3_lengthen 47 = .ok (.imul, 1) := by decide +kernel
theorem dX3_lengthen_48 : decode cX3_lengthen 48 = .ok (.aload_n 0, 1) := by decide +kernel
theorem dX3_lengthen_49 : decode cX3_lengthen 49 = .ok (.getfield 9, 3) := by decide +kernel
theorem dX3_lengthen_52 : decode cX3_lengthen 52 = .ok (.iload_n 1, 1) := by decide +kernel
theorem dX3_lengthen_53 : decode cX3_lengthen 53 = .ok (.iaload, 1) := by decide +kernel
theorem dX3_lengthen_54 : decode cX3_lengthen 54 = .ok (.iadd, 1) := by decide +kernel
theorem dX3_lengthen_55 : decode cX3_lengthen 55 = .ok (.bipush 48, 2) := by decide +kernel
theorem dX3_lengthen_57 : decode cX3_lengthen 57 = .ok (.isub, 1) := by decide +kernel
theorem dX3_lengthen_58 : decode cX3_lengthen 58 = .ok (.invokestatic 53, 3) := by decide +kernel
theorem dX3_lengthen_61 : decode cX3_lengthen 61 = .ok (.iastore, 1) := by decide +kernel
theorem dX3_lengthen_62 : decode cX3_lengthen 62 = .ok (.return_, 1) := by decide +kernel
theorem dX3_place_0 : decode cX3_place 0 = .ok (.aload_n 0, 1) := by decide +kernel
theorem dX3_place_1 : decode cX3_place 1 = .ok (.getfield 22, 3) := by decide +kernel
theorem dX3_place_4 : decode cX3_place 4 = .ok (.aload_n 0, 1) := by decide +kernel
theorem dX3_place_5 : decode cX3_place 5 = .ok (.getfield 34, 3) := by decide +kernel
theorem dX3_place_8 : decode cX3_place 8 = .ok (.iaload, 1) := by decide +kernel
theorem dX3_place_9 : decode cX3_place 9 = .ok (.ireturn, 1) := by decide +kernel
theorem dX3_isAtEnd_0 : decode cX3_isAtEnd 0 = .ok (.aload_n 0, 1) := by decide +kernel
theorem dX3_isAtEnd_1 : decode cX3_isAtEnd 1 = .ok (.getfield 19, 3) := by decide +kernel
theorem dX3_isAtEnd_4 : decode cX3_isAtEnd 4 = .ok (.aload_n 0, 1) := by decide +kernel
theorem dX3_isAtEnd_5 : decode cX3_isAtEnd 5 = .ok (.getfield 34, 3) := by decide +kernel
theorem dX3_isAtEnd_8 : decode cX3_isAtEnd 8 = .ok (.iaload, 1) := by decide +kernel
theorem dX3_isAtEnd_9 : decode cX3_isAtEnd 9 = .ok (.iconst 5, 1) := by decide +kernel
theorem dX3_isAtEnd_10 : decode cX3_isAtEnd 10 = .ok (.if_icmp .ne 7, 3) := by decide +kernel
theorem dX3_isAtEnd_13 : decode cX3_isAtEnd 13 = .ok (.iconst 1, 1) := by decide +kernel
theorem dX3_isAtEnd_14 : decode cX3_isAtEnd 14 = .ok (.goto 4, 3) := by decide +kernel
theorem dX3_isAtEnd_17 : decode cX3_isAtEnd 17 = .ok (.iconst 0, 1) := by decide +kernel
theorem dX3_isAtEnd_18 : decode cX3_isAtEnd 18 = .ok (.ireturn, 1) := by decide +kernel
theorem dX3_isAtNumber_0 : decode cX3_isAtNumber 0 = .ok (.aload_n 0, 1) := by decide +kernel
theorem dX3_isAtNumber_1 : decode cX3_isAtNumber 1 = .ok (.getfield 19, 3) := by decide +kernel
theorem dX3_isAtNumber_4 : decode cX3_isAtNumber 4 = .ok (.aload_n 0, 1) := by decide +kernel
theorem dX3_isAtNumber_5 : decode cX3_isAtNumber 5 = .ok (.getfield 34, 3) := by decide +kernel
theorem dX3_isAtNumber_8 : decode cX3_isAtNumber 8 = .ok (.iaload, 1) := by decide +kernel
theorem dX3_isAtNumber_9 : decode cX3_isAtNumber 9 = .ok (.iconst 2, 1) := by decide +kernel
theorem dX3_isAtNumber_10 : decode cX3_isAtNumber 10 = .ok (.if_icmp .ne 7, 3) := by decide +kernel
theorem dX3_isAtNumber_13 : decode cX3_isAtNumber 13 = .ok (.iconst 1, 1) := by decide +kernel
theorem dX3_isAtNumber_14 : decode cX3_isAtNumber 14 = .ok (.goto 4, 3) := by decide +kernel
theorem dX3_isAtNumber_17 : decode cX3_isAtNumber 17 = .ok (.iconst 0, 1) := by decide +kernel
theorem dX3_isAtNumber_18 : decode cX3_isAtNumber 18 = .ok (.ireturn, 1) := by decide +kernel
theorem dX3_isAtWord_0 : decode cX3_isAtWord 0 = .ok (.aload_n 0, 1) := by decide +kernel
theorem dX3_isAtWord_1 : decode cX3_isAtWord 1 = .ok (.getfield 19, 3) := by decide +kernel
theorem dX3_isAtWord_4 : decode cX3_isAtWord 4 = .ok (.aload_n 0, 1) := by decide +kernel
theorem dX3_isAtWord_5 : decode cX3_isAtWord 5 = .ok (.getfield 34, 3) := by decide +kernel
theorem dX3_isAtWord_8 : decode cX3_isAtWord 8 = .ok (.iaload, 1) := by decide +kernel
theorem dX3_isAtWord_9 : decode cX3_isAtWord 9 = .ok (.iconst 1, 1) := by decide +kernel
theorem dX3_isAtWord_10 : decode cX3_isAtWord 10 = .ok (.if_icmp .ne 19, 3) := by decide +kernel
theorem dX3_isAtWord_13 : decode cX3_isAtWord 13 = .ok (.aload_n 0, 1) := by decide +kernel
theorem dX3_isAtWord_14 : decode cX3_isAtWord 14 = .ok (.getfield 25, 3) := by decide +kernel
theorem dX3_isAtWord_17 : decode cX3_isAtWord 17 = .ok (.aload_n 0, 1) := by decide +kernel
theorem dX3_isAtWord_18 : decode cX3_isAtWord 18 = .ok (.getfield 34, 3) := by decide +kernel
theorem dX3_isAtWord_21 : decode cX3_isAtWord 21 = .ok (.iaload, 1) := by decide +kernel
theorem dX3_isAtWord_22 : decode cX3_isAtWord 22 = .ok (.aload_n 1, 1) := by decide +kernel
theorem dX3_isAtWord_23 : decode cX3_isAtWord 23 = .ok (.invokevirtual 59, 3) := by decide +kernel
theorem dX3_isAtWord_26 : decode cX3_isAtWord 26 = .ok (.if_icmp .eq 5, 3) := by decide +kernel
theorem dX3_isAtWord_29 : decode cX3_isAtWord 29 = .ok (.iconst 0, 1) := by decide +kernel
theorem dX3_isAtWord_30 : decode cX3_isAtWord 30 = .ok (.ireturn, 1) := by decide +kernel
theorem dX3_isAtWord_31 : decode cX3_isAtWord 31 = .ok (.iconst 0, 1) := by decide +kernel
theorem dX3_isAtWord_32 : decode cX3_isAtWord 32 = .ok (.istore_n 2, 1) := by decide +kernel
theorem dX3_isAtWord_33 : decode cX3_isAtWord 33 = .ok (.iload_n 2, 1) := by decide +kernel
theorem dX3_isAtWord_34 : decode cX3_isAtWord 34 = .ok (.aload_n 1, 1) := by decide +kernel
theorem dX3_isAtWord_35 : decode cX3_isAtWord 35 = .ok (.invokevirtual 59, 3) := by decide +kernel
theorem dX3_isAtWord_38 : decode cX3_isAtWord 38 = .ok (.if_icmp .ge 35, 3) := by decide +kernel
theorem dX3_isAtWord_41 : decode cX3_isAtWord 41 = .ok (.aload_n 0, 1) := by decide +kernel
theorem dX3_isAtWord_42 : decode cX3_isAtWord 42 = .ok (.getfield 9, 3) := by decide +kernel
theorem dX3_isAtWord_45 : decode cX3_isAtWord 45 = .ok (.aload_n 0, 1) := by decide +kernel
theorem dX3_isAtWord_46 : decode cX3_isAtWord 46 = .ok (.getfield 22, 3) := by decide +kernel
theorem dX3_isAtWord_49 : decode cX3_isAtWord 49 = .ok (.aload_n 0, 1) := by decide +kernel
theorem dX3_isAtWord_50 : decode cX3_isAtWord 50 = .ok (.getfield 34, 3) := by decide +kernel
theorem dX3_isAtWord_53 : decode cX3_isAtWord 53 = .ok (.iaload, 1) := by decide +kernel
theorem dX3_isAtWord_54 : decode cX3_isAtWord 54 = .ok (.iload_n 2, 1) := by decide +kernel
theorem dX3_isAtWord_55 : decode cX3_isAtWord 55 = .ok (.iadd, 1) := by decide +kernel
theorem dX3_isAtWord_56 : decode cX3_isAtWord 56 = .ok (.iaload, 1) := by decide +kernel
theorem dX3_isAtWord_57 : decode cX3_isAtWord 57 = .ok (.aload_n 1, 1) := by decide +kernel
theorem dX3_isAtWord_58 : decode cX3_isAtWord 58 = .ok (.iload_n 2, 1) := by decide +kernel
theorem dX3_isAtWord_59 : decode cX3_isAtWord 59 = .ok (.invokevirtual 65, 3) := by decide +kernel
theorem dX3_isAtWord_62 : decode cX3_isAtWord 62 = .ok (.if_icmp .eq 5, 3) := by decide +kernel
theorem dX3_isAtWord_65 : decode cX3_isAtWord 65 = .ok (.iconst 0, 1) := by decide +kernel
theorem dX3_isAtWord_66 : decode cX3_isAtWord 66 = .ok (.ireturn, 1) := by decide +kernel
theorem dX3_isAtWord_67 : decode cX3_isAtWord 67 = .ok (.iinc 2 1, 3) := by decide +kernel
theorem dX3_isAtWord_70 : decode cX3_isAtWord 70 = .ok (.goto (-37), 3) := by decide +kernel
theorem dX3_isAtWord_73 : decode cX3_isAtWord 73 = .ok (.iconst 1, 1) := by decide +kernel
theorem dX3_isAtWord_74 : decode cX3_isAtWord 74 = .ok (.ireturn, 1) := by decide +kernel
theorem dX3_step_0 : decode cX3_step 0 = .ok (.aload_n 0, 1) := by decide +kernel
theorem dX3_step_1 : decode cX3_step 1 = .ok (.getfield 19, 3) := by decide +kernel
theorem dX3_step_4 : decode cX3_step 4 = .ok (.aload_n 0, 1) := by decide +kernel
theorem dX3_step_5 : decode cX3_step 5 = .ok (.getfield 34, 3) := by decide +kernel
theorem dX3_step_8 : decode cX3_step 8 = .ok (.iaload, 1) := by decide +kernel
theorem dX3_step_9 : decode cX3_step 9 = .ok (.iconst 5, 1) := by decide +kernel
theorem dX3_step_10 : decode cX3_step 10 = .ok (.if_icmp .eq 13, 3) := by decide +kernel
theorem dX3_step_13 : decode cX3_step 13 = .ok (.aload_n 0, 1) := by decide +kernel
theorem dX3_step_14 : decode cX3_step 14 = .ok (.dup, 1) := by decide +kernel
theorem dX3_step_15 : decode cX3_step 15 = .ok (.getfield 34, 3) := by decide +kernel
theorem dX3_step_18 : decode cX3_step 18 = .ok (.iconst 1, 1) := by decide +kernel
theorem dX3_step_19 : decode cX3_step 19 = .ok (.iadd, 1) := by decide +kernel
theorem dX3_step_20 : decode cX3_step 20 = .ok (.putfield 34, 3) := by decide +kernel
theorem dX3_step_23 : decode cX3_step 23 = .ok (.return_, 1) := by decide +kernel
theorem dX3_takesSign_0 : decode cX3_takesSign 0 = .ok (.aload_n 0, 1) := by decide +kernel
theorem dX3_takesSign_1 : decode cX3_takesSign 1 = .ok (.getfield 19, 3) := by decide +kernel
theorem dX3_takesSign_4 : decode cX3_takesSign 4 = .ok (.aload_n 0, 1) := by decide +kernel
theorem dX3_takesSign_5 : decode cX3_takesSign 5 = .ok (.getfield 34, 3) := by decide +kernel
theorem dX3_takesSign_8 : decode cX3_takesSign 8 = .ok (.iaload, 1) := by decide +kernel
theorem dX3_takesSign_9 : decode cX3_takesSign 9 = .ok (.iconst 3, 1) := by decide +kernel
theorem dX3_takesSign_10 : decode cX3_takesSign 10 = .ok (.if_icmp .ne 7, 3) := by decide +kernel
theorem dX3_takesSign_13 : decode cX3_takesSign 13 = .ok (.iconst 1, 1) := by decide +kernel
theorem dX3_takesSign_14 : decode cX3_takesSign 14 = .ok (.goto 4, 3) := by decide +kernel
theorem dX3_takesSign_17 : decode cX3_takesSign 17 = .ok (.iconst 0, 1) := by decide +kernel
theorem dX3_takesSign_18 : decode cX3_takesSign 18 = .ok (.istore_n 1, 1) := by decide +kernel
theorem dX3_takesSign_19 : decode cX3_takesSign 19 = .ok (.iload_n 1, 1) := by decide +kernel
theorem dX3_takesSign_20 : decode cX3_takesSign 20 = .ok (.ifCond .eq 7, 3) := by decide +kernel
theorem dX3_takesSign_23 : decode cX3_takesSign 23 = .ok (.aload_n 0, 1) := by decide +kernel
theorem dX3_takesSign_24 : decode cX3_takesSign 24 = .ok (.invokevirtual 69, 3) := by decide +kernel
theorem dX3_takesSign_27 : decode cX3_takesSign 27 = .ok (.iload_n 1, 1) := by decide +kernel
theorem dX3_takesSign_28 : decode cX3_takesSign 28 = .ok (.ireturn, 1) := by decide +kernel
theorem dX3_takenNumber_0 : decode cX3_takenNumber 0 = .ok (.aload_n 0, 1) := by decide +kernel
theorem dX3_takenNumber_1 : decode cX3_takenNumber 1 = .ok (.getfield 19, 3) := by decide +kernel
theorem dX3_takenNumber_4 : decode cX3_takenNumber 4 = .ok (.aload_n 0, 1) := by decide +kernel
theorem dX3_takenNumber_5 : decode cX3_takenNumber 5 = .ok (.getfield 34, 3) := by decide +kernel
theorem dX3_takenNumber_8 : decode cX3_takenNumber 8 = .ok (.iaload, 1) := by decide +kernel
theorem dX3_takenNumber_9 : decode cX3_takenNumber 9 = .ok (.iconst 2, 1) := by decide +kernel
theorem dX3_takenNumber_10 : decode cX3_takenNumber 10 = .ok (.if_icmp .ne 20, 3) := by decide +kernel
theorem dX3_takenNumber_13 : decode cX3_takenNumber 13 = .ok (.aload_n 0, 1) := by decide +kernel
theorem dX3_takenNumber_14 : decode cX3_takenNumber 14 = .ok (.getfield 28, 3) := by decide +kernel
theorem dX3_takenNumber_17 : decode cX3_takenNumber 17 = .ok (.aload_n 0, 1) := by decide +kernel
theorem dX3_takenNumber_18 : decode cX3_takenNumber 18 = .ok (.getfield 34, 3) := by decide +kernel
theorem dX3_takenNumber_21 : decode cX3_takenNumber 21 = .ok (.iaload, 1) := by decide +kernel
theorem dX3_takenNumber_22 : decode cX3_takenNumber 22 = .ok (.iload_n 1, 1) := by decide +kernel
theorem dX3_takenNumber_23 : decode cX3_takenNumber 23 = .ok (.iload_n 2, 1) := by decide +kernel
theorem dX3_takenNumber_24 : decode cX3_takenNumber 24 = .ok (.invokestatic 49, 3) := by decide +kernel
theorem dX3_takenNumber_27 : decode cX3_takenNumber 27 = .ok (.ifCond .ne 5, 3) := by decide +kernel
theorem dX3_takenNumber_30 : decode cX3_takenNumber 30 = .ok (.iconst (-1), 1) := by decide +kernel
theorem dX3_takenNumber_31 : decode cX3_takenNumber 31 = .ok (.ireturn, 1) := by decide +kernel
theorem dX3_takenNumber_32 : decode cX3_takenNumber 32 = .ok (.aload_n 0, 1) := by decide +kernel
theorem dX3_takenNumber_33 : decode cX3_takenNumber 33 = .ok (.getfield 28, 3) := by decide +kernel
theorem dX3_takenNumber_36 : decode cX3_takenNumber 36 = .ok (.aload_n 0, 1) := by decide +kernel
theorem dX3_takenNumber_37 : decode cX3_takenNumber 37 = .ok (.getfield 34, 3) := by decide +kernel
theorem dX3_takenNumber_40 : decode cX3_takenNumber 40 = .ok (.iaload, 1) := by decide +kernel
theorem dX3_takenNumber_41 : decode cX3_takenNumber 41 = .ok (.istore_n 3, 1) := by decide +kernel
theorem dX3_takenNumber_42 : decode cX3_takenNumber 42 = .ok (.aload_n 0, 1) := by decide +kernel
theorem dX3_takenNumber_43 : decode cX3_takenNumber 43 = .ok (.invokevirtual 69, 3) := by decide +kernel
theorem dX3_takenNumber_46 : decode cX3_takenNumber 46 = .ok (.iload_n 3, 1) := by decide +kernel
theorem dX3_takenNumber_47 : decode cX3_takenNumber 47 = .ok (.ireturn, 1) := by decide +kernel
theorem dX3_takenNumberBehindWord_0 : decode cX3_takenNumberBehindWord 0 = .ok (.aload_n 0, 1) := by decide +kernel
theorem dX3_takenNumberBehindWord_1 : decode cX3_takenNumberBehindWord 1 = .ok (.invokevirtual 69, 3) := by decide +kernel
theorem dX3_takenNumberBehindWord_4 : decode cX3_takenNumberBehindWord 4 = .ok (.aload_n 0, 1) := by decide +kernel
theorem dX3_takenNumberBehindWord_5 : decode cX3_takenNumberBehindWord 5 = .ok (.iload_n 1, 1) := by decide +kernel
theorem dX3_takenNumberBehindWord_6 : decode cX3_takenNumberBehindWord 6 = .ok (.iload_n 2, 1) := by decide +kernel
theorem dX3_takenNumberBehindWord_7 : decode cX3_takenNumberBehindWord 7 = .ok (.invokevirtual 72, 3) := by decide +kernel
theorem dX3_takenNumberBehindWord_10 : decode cX3_takenNumberBehindWord 10 = .ok (.ireturn, 1) := by decide +kernel
theorem dX4_read_0 : decode cX4_read 0 = .ok (.aload_n 0, 1) := by decide +kernel
theorem dX4_read_1 : decode cX4_read 1 = .ok (.invokevirtual 9, 3) := by decide +kernel
theorem dX4_read_4 : decode cX4_read 4 = .ok (.iconst 1, 1) := by decide +kernel
theorem dX4_read_5 : decode cX4_read 5 = .ok (.istore_n 2, 1) := by decide +kernel
theorem dX4_read_6 : decode cX4_read 6 = .ok (.iload_n 2, 1) := by decide +kernel
theorem dX4_read_7 : decode cX4_read 7 = .ok (.bipush 120, 2) := by decide +kernel
theorem dX4_read_9 : decode cX4_read 9 = .ok (.if_icmp .gt 39, 3) := by decide +kernel
theorem dX4_read_12 : decode cX4_read 12 = .ok (.aload_n 0, 1) := by decide +kernel
theorem dX4_read_13 : decode cX4_read 13 = .ok (.aload_n 1, 1) := by decide +kernel
theorem dX4_read_14 : decode cX4_read 14 = .ok (.invokestatic 14, 3) := by decide +kernel
theorem dX4_read_17 : decode cX4_read 17 = .ok (.ifCond .ne 5, 3) := by decide +kernel
theorem dX4_read_20 : decode cX4_read 20 = .ok (.iconst (-1), 1) := by decide +kernel
theorem dX4_read_21 : decode cX4_read 21 = .ok (.ireturn, 1) := by decide +kernel
theorem dX4_read_22 : decode cX4_read 22 = .ok (.aload_n 0, 1) := by decide +kernel
theorem dX4_read_23 : decode cX4_read 23 = .ok (.invokevirtual 20, 3) := by decide +kernel
theorem dX4_read_26 : decode cX4_read 26 = .ok (.ifCond .ne 16, 3) := by decide +kernel
theorem dX4_read_29 : decode cX4_read 29 = .ok (.aload_n 0, 1) := by decide +kernel
theorem dX4_read_30 : decode cX4_read 30 = .ok (.invokevirtual 24, 3) := by decide +kernel
theorem dX4_read_33 : decode cX4_read 33 = .ok (.ifCond .eq 7, 3) := by decide +kernel
theorem dX4_read_36 : decode cX4_read 36 = .ok (.iload_n 2, 1) := by decide +kernel
theorem dX4_read_37 : decode cX4_read 37 = .ok (.goto 4, 3) := by decide +kernel
theorem dX4_read_40 : decode cX4_read 40 = .ok (.iconst (-1), 1) := by decide +kernel
theorem dX4_read_41 : decode cX4_read 41 = .ok (.ireturn, 1) := by decide +kernel
theorem dX4_read_42 : decode cX4_read 42 = .ok (.iinc 2 1, 3) := by decide +kernel
theorem dX4_read_45 : decode cX4_read 45 = .ok (.goto (-39), 3) := by decide +kernel
theorem dX4_read_48 : decode cX4_read 48 = .ok (.iconst (-1), 1) := by decide +kernel
theorem dX4_read_49 : decode cX4_read 49 = .ok (.ireturn, 1) := by decide +kernel
theorem dX4_readItem_0 : decode cX4_readItem 0 = .ok (.aload_n 0, 1) := by decide +kernel
theorem dX4_readItem_1 : decode cX4_readItem 1 = .ok (.invokestatic 27, 3) := by decide +kernel
theorem dX4_readItem_4 : decode cX4_readItem 4 = .ok (.istore_n 2, 1) := by decide +kernel
theorem dX4_readItem_5 : decode cX4_readItem 5 = .ok (.iload_n 2, 1) := by decide +kernel
theorem dX4_readItem_6 : decode cX4_readItem 6 = .ok (.ifCond .lt 10, 3) := by decide +kernel
theorem dX4_readItem_9 : decode cX4_readItem 9 = .ok (.aload_n 0, 1) := by decide +kernel
theorem dX4_readItem_10 : decode cX4_readItem 10 = .ok (.aload_n 1, 1) := by decide +kernel
theorem dX4_readItem_11 : decode cX4_readItem 11 = .ok (.iload_n 2, 1) := by decide +kernel
theorem dX4_readItem_12 : decode cX4_readItem 12 = .ok (.invokestatic 31, 3) := by decide +kernel
theorem dX4_readItem_15 : decode cX4_readItem 15 = .ok (.ireturn, 1) := by decide +kernel
theorem dX4_readItem_16 : decode cX4_readItem 16 = .ok (.aload_n 0, 1) := by decide +kernel
theorem dX4_readItem_17 : decode cX4_readItem 17 = .ok (.invokestatic 35, 3) := by decide +kernel
theorem dX4_readItem_20 : decode cX4_readItem 20 = .ok (.istore_n 3, 1) := by decide +kernel
theorem dX4_readItem_21 : decode cX4_readItem 21 = .ok (.iload_n 3, 1) := by decide +kernel
theorem dX4_readItem_22 : decode cX4_readItem 22 = .ok (.ifCond .lt 10, 3) := by decide +kernel
theorem dX4_readItem_25 : decode cX4_readItem 25 = .ok (.aload_n 0, 1) := by decide +kernel
theorem dX4_readItem_26 : decode cX4_readItem 26 = .ok (.aload_n 1, 1) := by decide +kernel
theorem dX4_readItem_27 : decode cX4_readItem 27 = .ok (.iload_n 3, 1) := by decide +kernel
theorem dX4_readItem_28 : decode cX4_readItem 28 = .ok (.invokestatic 38, 3) := by decide +kernel
theorem dX4_readItem_31 : decode cX4_readItem 31 = .ok (.ireturn, 1) := by decide +kernel
theorem dX4_readItem_32 : decode cX4_readItem 32 = .ok (.aload_n 0, 1) := by decide +kernel
theorem dX4_readItem_33 : decode cX4_readItem 33 = .ok (.ldc 41, 2) := by decide +kernel
theorem dX4_readItem_35 : decode cX4_readItem 35 = .ok (.invokevirtual 43, 3) := by decide +kernel
theorem dX4_readItem_38 : decode cX4_readItem 38 = .ok (.ifCond .eq 9, 3) := by decide +kernel
theorem dX4_readItem_41 : decode cX4_readItem 41 = .ok (.aload_n 0, 1) := by decide +kernel
theorem dX4_readItem_42 : decode cX4_readItem 42 = .ok (.aload_n 1, 1) := by decide +kernel
theorem dX4_readItem_43 : decode cX4_readItem 43 = .ok (.invokestatic 47, 3) := by decide +kernel
theorem dX4_readItem_46 : decode cX4_readItem 46 = .ok (.ireturn, 1) := by decide +kernel
theorem dX4_readItem_47 : decode cX4_readItem 47 = .ok (.aload_n 0, 1) := by decide +kernel
theorem dX4_readItem_48 : decode cX4_readItem 48 = .ok (.ldc 50, 2) := by decide +kernel
theorem dX4_readItem_50 : decode cX4_readItem 50 = .ok (.invokevirtual 43, 3) := by decide +kernel
theorem dX4_readItem_53 : decode cX4_readItem 53 = .ok (.ifCond .eq 9, 3) := by decide +kernel
theorem dX4_readItem_56 : decode cX4_readItem 56 = .ok (.aload_n 0, 1) := by decide +kernel
theorem dX4_readItem_57 : decode cX4_readItem 57 = .ok (.aload_n 1, 1) := by decide +kernel
theorem dX4_readItem_58 : decode cX4_readItem 58 = .ok (.invokestatic 52, 3) := by decide +kernel
theorem dX4_readItem_61 : decode cX4_readItem 61 = .ok (.ireturn, 1) := by decide +kernel
theorem dX4_readItem_62 : decode cX4_readItem 62 = .ok (.aload_n 0, 1) := by decide +kernel
theorem dX4_readItem_63 : decode cX4_readItem 63 = .ok (.ldc 55, 2) := by decide +kernel
theorem dX4_readItem_65 : decode cX4_readItem 65 = .ok (.invokevirtual 43, 3) := by decide +kernel
theorem dX4_readItem_68 : decode cX4_readItem 68 = .ok (.ifCond .eq 15, 3) := by decide +kernel
theorem dX4_readItem_71 : decode cX4_readItem 71 = .ok (.aload_n 0, 1) := by decide +kernel
theorem dX4_readItem_72 : decode cX4_readItem 72 = .ok (.aload_n 1, 1) := by decide +kernel
theorem dX4_readItem_73 : decode cX4_readItem 73 = .ok (.invokestatic 57, 3) := by decide +kernel
theorem dX4_readItem_76 : decode cX4_readItem 76 = .ok (.ifCond .eq 7, 3) := by decide +kernel
theorem dX4_readItem_79 : decode cX4_readItem 79 = .ok (.iconst 1, 1) := by decide +kernel
theorem dX4_readItem_80 : decode cX4_readItem 80 = .ok (.goto 4, 3) := by decide +kernel
theorem dX4_readItem_83 : decode cX4_readItem 83 = .ok (.iconst 0, 1) := by decide +kernel
theorem dX4_readItem_84 : decode cX4_readItem 84 = .ok (.ireturn, 1) := by decide +kernel
theorem dX4_partTold_0 : decode cX4_partTold 0 = .ok (.aload_n 0, 1) := by decide +kernel
theorem dX4_partTold_1 : decode cX4_partTold 1 = .ok (.ldc 60, 2) := by decide +kernel
theorem dX4_partTold_3 : decode cX4_partTold 3 = .ok (.invokevirtual 43, 3) := by decide +kernel
theorem dX4_partTold_6 : decode cX4_partTold 6 = .ok (.ifCond .eq 5, 3) := by decide +kernel
theorem dX4_partTold_9 : decode cX4_partTold 9 = .ok (.iconst 0, 1) := by decide +kernel
theorem dX4_partTold_10 : decode cX4_partTold 10 = .ok (.ireturn, 1) := by decide +kernel
theorem dX4_partTold_11 : decode cX4_partTold 11 = .ok (.aload_n 0, 1) := by decide +kernel
theorem dX4_partTold_12 : decode cX4_partTold 12 = .ok (.ldc 62, 2) := by decide +kernel
theorem dX4_partTold_14 : decode cX4_partTold 14 = .ok (.invokevirtual 43, 3) := by decide +kernel
theorem dX4_partTold_17 : decode cX4_partTold 17 = .ok (.ifCond .eq 5, 3) := by decide +kernel
theorem dX4_partTold_20 : decode cX4_partTold 20 = .ok (.iconst 1, 1) := by decide +kernel
theorem dX4_partTold_21 : decode cX4_partTold 21 = .ok (.ireturn, 1) := by decide +kernel
theorem dX4_partTold_22 : decode cX4_partTold 22 = .ok (.aload_n 0, 1) := by decide +kernel
theorem dX4_partTold_23 : decode cX4_partTold 23 = .ok (.ldc 64, 2) := by decide +kernel
theorem dX4_partTold_25 : decode cX4_partTold 25 = .ok (.invokevirtual 43, 3) := by decide +kernel
theorem dX4_partTold_28 : decode cX4_partTold 28 = .ok (.ifCond .eq 5, 3) := by decide +kernel
theorem dX4_partTold_31 : decode cX4_partTold 31 = .ok (.iconst 2, 1) := by decide +kernel
theorem dX4_partTold_32 : decode cX4_partTold 32 = .ok (.ireturn, 1) := by decide +kernel
theorem dX4_partTold_33 : decode cX4_partTold 33 = .ok (.aload_n 0, 1) := by decide +kernel
theorem dX4_partTold_34 : decode cX4_partTold 34 = .ok (.ldc 66, 2) := by decide +kernel
theorem dX4_partTold_36 : decode cX4_partTold 36 = .ok (.invokevirtual 43, 3) := by decide +kernel
theorem dX4_partTold_39 : decode cX4_partTold 39 = .ok (.ifCond .eq 7, 3) := by decide +kernel
theorem dX4_partTold_42 : decode cX4_partTold 42 = .ok (.iconst 3, 1) := by decide +kernel
theorem dX4_partTold_43 : decode cX4_partTold 43 = .ok (.goto 4, 3) := by decide +kernel
theorem dX4_partTold_46 : decode cX4_partTold 46 = .ok (.iconst (-1), 1) := by decide +kernel
theorem dX4_partTold_47 : decode cX4_partTold 47 = .ok (.ireturn, 1) := by decide +kernel
theorem dX4_kindTold_0 : decode cX4_kindTold 0 = .ok (.iconst 0, 1) := by decide +kernel
theorem dX4_kindTold_1 : decode cX4_kindTold 1 = .ok (.istore_n 1, 1) := by decide +kernel
theorem dX4_kindTold_2 : decode cX4_kindTold 2 = .ok (.iload_n 1, 1) := by decide +kernel
theorem dX4_kindTold_3 : decode cX4_kindTold 3 = .ok (.bipush 7, 2) := by decide +kernel
theorem dX4_kindTold_5 : decode cX4_kindTold 5 = .ok (.if_icmp .ge 22, 3) := by decide +kernel
theorem dX4_kindTold_8 : decode cX4_kindTold 8 = .ok (.aload_n 0, 1) := by decide +kernel
theorem dX4_kindTold_9 : decode cX4_kindTold 9 = .ok (.iload_n 1, 1) := by decide +kernel
theorem dX4_kindTold_10 : decode cX4_kindTold 10 = .ok (.invokestatic 68, 3) := by decide +kernel
theorem dX4_kindTold_13 : decode cX4_kindTold 13 = .ok (.invokevirtual 43, 3) := by decide +kernel
theorem dX4_kindTold_16 : decode cX4_kindTold 16 = .ok (.ifCond .eq 5, 3) := by decide +kernel
theorem dX4_kindTold_19 : decode cX4_kindTold 19 = .ok (.iload_n 1, 1) := by decide +kernel
theorem dX4_kindTold_20 : decode cX4_kindTold 20 = .ok (.ireturn, 1) := by decide +kernel
theorem dX4_kindTold_21 : decode cX4_kindTold 21 = .ok (.iinc 1 1, 3) := by decide +kernel
theorem dX4_kindTold_24 : decode cX4_kindTold 24 = .ok (.goto (-22), 3) := by decide +kernel
theorem dX4_kindTold_27 : decode cX4_kindTold 27 = .ok (.iconst (-1), 1) := by decide +kernel
theorem dX4_kindTold_28 : decode cX4_kindTold 28 = .ok (.ireturn, 1) := by decide +kernel
theorem dX4_kindWord_0 : decode cX4_kindWord 0 = .ok (.iload_n 0, 1) := by decide +kernel
theorem dX4_kindWord_1 : decode cX4_kindWord 1 = .ok (.tableswitch 57 1 6 #[39, 42, 45, 48, 51, 54], 39) := by decide +kernel
theorem dX4_kindWord_40 : decode cX4_kindWord 40 = .ok (.ldc 72, 2) := by decide +kernel
theorem dX4_kindWord_42 : decode cX4_kindWord 42 = .ok (.areturn, 1) := by decide +kernel
theorem dX4_kindWord_43 : decode cX4_kindWord 43 = .ok (.ldc 74, 2) := by decide +kernel
theorem dX4_kindWord_45 : decode cX4_kindWord 45 = .ok (.areturn, 1) := by decide +kernel
theorem dX4_kindWord_46 : decode cX4_kindWord 46 = .ok (.ldc 76, 2) := by decide +kernel
theorem dX4_kindWord_48 : decode cX4_kindWord 48 = .ok (.areturn, 1) := by decide +kernel
theorem dX4_kindWord_49 : decode cX4_kindWord 49 = .ok (.ldc 78, 2) := by decide +kernel
theorem dX4_kindWord_51 : decode cX4_kindWord 51 = .ok (.areturn, 1) := by decide +kernel
theorem dX4_kindWord_52 : decode cX4_kindWord 52 = .ok (.ldc 80, 2) := by decide +kernel
theorem dX4_kindWord_54 : decode cX4_kindWord 54 = .ok (.areturn, 1) := by decide +kernel
theorem dX4_kindWord_55 : decode cX4_kindWord 55 = .ok (.ldc 82, 2) := by decide +kernel
theorem dX4_kindWord_57 : decode cX4_kindWord 57 = .ok (.areturn, 1) := by decide +kernel
theorem dX4_kindWord_58 : decode cX4_kindWord 58 = .ok (.ldc 84, 2) := by decide +kernel
theorem dX4_kindWord_60 : decode cX4_kindWord 60 = .ok (.areturn, 1) := by decide +kernel
theorem dX4_readPart_0 : decode cX4_readPart 0 = .ok (.aload_n 0, 1) := by decide +kernel
theorem dX4_readPart_1 : decode cX4_readPart 1 = .ok (.iload_n 2, 1) := by decide +kernel
theorem dX4_readPart_2 : decode cX4_readPart 2 = .ok (.invokestatic 86, 3) := by decide +kernel
theorem dX4_readPart_5 : decode cX4_readPart 5 = .ok (.iload_n 2, 1) := by decide +kernel
theorem dX4_readPart_6 : decode cX4_readPart 6 = .ok (.invokestatic 90, 3) := by decide +kernel
theorem dX4_readPart_9 : decode cX4_readPart 9 = .ok (.invokevirtual 93, 3) := by decide +kernel
theorem dX4_readPart_12 : decode cX4_readPart 12 = .ok (.istore_n 3, 1) := by decide +kernel
theorem dX4_readPart_13 : decode cX4_readPart 13 = .ok (.iload_n 3, 1) := by decide +kernel
theorem dX4_readPart_14 : decode cX4_readPart 14 = .ok (.ifCond .ge 5, 3) := by decide +kernel
theorem dX4_readPart_17 : decode cX4_readPart 17 = .ok (.iconst 0, 1) := by decide +kernel
theorem dX4_readPart_18 : decode cX4_readPart 18 = .ok (.ireturn, 1) := by decide +kernel
theorem dX4_readPart_19 : decode cX4_readPart 19 = .ok (.aload_n 1, 1) := by decide +kernel
theorem dX4_readPart_20 : decode cX4_readPart 20 = .ok (.iload_n 2, 1) := by decide +kernel
theorem dX4_readPart_21 : decode cX4_readPart 21 = .ok (.iload_n 3, 1) := by decide +kernel
theorem dX4_readPart_22 : decode cX4_readPart 22 = .ok (.invokevirtual 97, 3) := by decide +kernel
theorem dX4_readPart_25 : decode cX4_readPart 25 = .ok (.iconst 1, 1) := by decide +kernel
theorem dX4_readPart_26 : decode cX4_readPart 26 = .ok (.ireturn, 1) := by decide +kernel
theorem dX4_readTaste_0 : decode cX4_readTaste 0 = .ok (.aload_n 1, 1) := by decide +kernel
theorem dX4_readTaste_1 : decode cX4_readTaste 1 = .ok (.getfield 103, 3) := by decide +kernel
theorem dX4_readTaste_4 : decode cX4_readTaste 4 = .ok (.invokevirtual 107, 3) := by decide +kernel
theorem dX4_readTaste_7 : decode cX4_readTaste 7 = .ok (.ifCond .eq 5, 3) := by decide +kernel
theorem dX4_readTaste_10 : decode cX4_readTaste 10 = .ok (.iconst 0, 1) := by decide +kernel
theorem dX4_readTaste_11 : decode cX4_readTaste 11 = .ok (.ireturn, 1) := by decide +kernel
theorem dX4_readTaste_12 : decode cX4_readTaste 12 = .ok (.aload_n 0, 1) := by decide +kernel
theorem dX4_readTaste_13 : decode cX4_readTaste 13 = .ok (.iconst 0, 1) := by decide +kernel
theorem dX4_readTaste_14 : decode cX4_readTaste 14 = .ok (.bipush 9, 2) := by decide +kernel
theorem dX4_readTaste_16 : decode cX4_readTaste 16 = .ok (.invokevirtual 93, 3) := by decide +kernel
theorem dX4_readTaste_19 : decode cX4_readTaste 19 = .ok (.istore_n 3, 1) := by decide +kernel
theorem dX4_readTaste_20 : decode cX4_readTaste 20 = .ok (.iload_n 3, 1) := by decide +kernel
theorem dX4_readTaste_21 : decode cX4_readTaste 21 = .ok (.ifCond .ge 5, 3) := by decide +kernel
theorem dX4_readTaste_24 : decode cX4_readTaste 24 = .ok (.iconst 0, 1) := by decide +kernel
theorem dX4_readTaste_25 : decode cX4_readTaste 25 = .ok (.ireturn, 1) := by decide +kernel
theorem dX4_readTaste_26 : decode cX4_readTaste 26 = .ok (.iconst 5, 1) := by decide +kernel
theorem dX4_readTaste_27 : decode cX4_readTaste 27 = .ok (.istore 4, 2) := by decide +kernel
theorem dX4_readTaste_29 : decode cX4_readTaste 29 = .ok (.aload_n 0, 1) := by decide +kernel
theorem dX4_readTaste_30 : decode cX4_readTaste 30 = .ok (.ldc 112, 2) := by decide +kernel
theorem dX4_readTaste_32 : decode cX4_readTaste 32 = .ok (.invokevirtual 43, 3) := by decide +kernel
theorem dX4_readTaste_35 : decode cX4_readTaste 35 = .ok (.ifCond .eq 19, 3) := by decide +kernel
theorem dX4_readTaste_38 : decode cX4_readTaste 38 = .ok (.aload_n 0, 1) := by decide +kernel
theorem dX4_readTaste_39 : decode cX4_readTaste 39 = .ok (.iconst 1, 1) := by decide +kernel
theorem dX4_readTaste_40 : decode cX4_readTaste 40 = .ok (.bipush 20, 2) := by decide +kernel
theorem dX4_readTaste_42 : decode cX4_readTaste 42 = .ok (.invokevirtual 93, 3) := by decide +kernel
theorem dX4_readTaste_45 : decode cX4_readTaste 45 = .ok (.istore 4, 2) := by decide +kernel
theorem dX4_readTaste_47 : decode cX4_readTaste 47 = .ok (.iload 4, 2) := by decide +kernel
theorem dX4_readTaste_49 : decode cX4_readTaste 49 = .ok (.ifCond .ge 5, 3) := by decide +kernel
theorem dX4_readTaste_52 : decode cX4_readTaste 52 = .ok (.iconst 0, 1) := by decide +kernel
theorem dX4_readTaste_53 : decode cX4_readTaste 53 = .ok (.ireturn, 1) := by decide +kernel
theorem dX4_readTaste_54 : decode cX4_readTaste 54 = .ok (.aload_n 1, 1) := by decide +kernel
theorem dX4_readTaste_55 : decode cX4_readTaste 55 = .ok (.getfield 103, 3) := by decide +kernel
theorem dX4_readTaste_58 : decode cX4_readTaste 58 = .ok (.iload_n 2, 1) := by decide +kernel
theorem dX4_readTaste_59 : decode cX4_readTaste 59 = .ok (.iload_n 3, 1) := by decide +kernel
theorem dX4_readTaste_60 : decode cX4_readTaste 60 = .ok (.iload 4, 2) := by decide +kernel
theorem dX4_readTaste_62 : decode cX4_readTaste 62 = .ok (.invokevirtual 114, 3) := by decide +kernel
theorem dX4_readTaste_65 : decode cX4_readTaste 65 = .ok (.pop, 1) := by decide +kernel
theorem dX4_readTaste_66 : decode cX4_readTaste 66 = .ok (.iconst 1, 1) := by decide +kernel
theorem dX4_readTaste_67 : decode cX4_readTaste 67 = .ok (.ireturn, 1) := by decide +kernel
theorem dX4_readFood_0 : decode cX4_readFood 0 = .ok (.aload_n 0, 1) := by decide +kernel
theorem dX4_readFood_1 : decode cX4_readFood 1 = .ok (.iconst 0, 1) := by decide +kernel
theorem dX4_readFood_2 : decode cX4_readFood 2 = .ok (.bipush 9, 2) := by decide +kernel
theorem dX4_readFood_4 : decode cX4_readFood 4 = .ok (.invokevirtual 93, 3) := by decide +kernel
theorem dX4_readFood_7 : decode cX4_readFood 7 = .ok (.istore_n 2, 1) := by decide +kernel
theorem dX4_readFood_8 : decode cX4_readFood 8 = .ok (.iload_n 2, 1) := by decide +kernel
theorem dX4_readFood_9 : decode cX4_readFood 9 = .ok (.ifCond .ge 5, 3) := by decide +kernel
theorem dX4_readFood_12 : decode cX4_readFood 12 = .ok (.iconst 0, 1) := by decide +kernel
theorem dX4_readFood_13 : decode cX4_readFood 13 = .ok (.ireturn, 1) := by decide +kernel
theorem dX4_readFood_14 : decode cX4_readFood 14 = .ok (.aload_n 0, 1) := by decide +kernel
theorem dX4_readFood_15 : decode cX4_readFood 15 = .ok (.ldc 118, 2) := by decide +kernel
theorem dX4_readFood_17 : decode cX4_readFood 17 = .ok (.invokevirtual 43, 3) := by decide +kernel
theorem dX4_readFood_20 : decode cX4_readFood 20 = .ok (.ifCond .eq 24, 3) := by decide +kernel
theorem dX4_readFood_23 : decode cX4_readFood 23 = .ok (.aload_n 0, 1) := by decide +kernel
theorem dX4_readFood_24 : decode cX4_readFood 24 = .ok (.iconst 0, 1) := by decide +kernel
theorem dX4_readFood_25 : decode cX4_readFood 25 = .ok (.bipush 99, 2) := by decide +kernel
theorem dX4_readFood_27 : decode cX4_readFood 27 = .ok (.invokevirtual 93, 3) := by decide +kernel
theorem dX4_readFood_30 : decode cX4_readFood 30 = .ok (.istore_n 3, 1) := by decide +kernel
theorem dX4_readFood_31 : decode cX4_readFood 31 = .ok (.iload_n 3, 1) := by decide +kernel
theorem dX4_readFood_32 : decode cX4_readFood 32 = .ok (.ifCond .ge 5, 3) := by decide +kernel
theorem dX4_readFood_35 : decode cX4_readFood 35 = .ok (.iconst 0, 1) := by decide +kernel
theorem dX4_readFood_36 : decode cX4_readFood 36 = .ok (.ireturn, 1) := by decide +kernel
theorem dX4_readFood_37 : decode cX4_readFood 37 = .ok (.aload_n 1, 1) := by decide +kernel
theorem dX4_readFood_38 : decode cX4_readFood 38 = .ok (.getfield 120, 3) := by decide +kernel
theorem dX4_readFood_41 : decode cX4_readFood 41 = .ok (.iload_n 2, 1) := by decide +kernel
theorem dX4_readFood_42 : decode cX4_readFood 42 = .ok (.iload_n 3, 1) := by decide +kernel
theorem dX4_readFood_43 : decode cX4_readFood 43 = .ok (.iastore, 1) := by decide +kernel
theorem dX4_readFood_44 : decode cX4_readFood 44 = .ok (.aload_n 0, 1) := by decide +kernel
theorem dX4_readFood_45 : decode cX4_readFood 45 = .ok (.ldc 123, 2) := by decide +kernel
theorem dX4_readFood_47 : decode cX4_readFood 47 = .ok (.invokevirtual 43, 3) := by decide +kernel
theorem dX4_readFood_50 : decode cX4_readFood 50 = .ok (.ifCond .eq 24, 3) := by decide +kernel
theorem dX4_readFood_53 : decode cX4_readFood 53 = .ok (.aload_n 0, 1) := by decide +kernel
theorem dX4_readFood_54 : decode cX4_readFood 54 = .ok (.iconst 0, 1) := by decide +kernel
theorem dX4_readFood_55 : decode cX4_readFood 55 = .ok (.bipush 9, 2) := by decide +kernel
theorem dX4_readFood_57 : decode cX4_readFood 57 = .ok (.invokevirtual 93, 3) := by decide +kernel
theorem dX4_readFood_60 : decode cX4_readFood 60 = .ok (.istore_n 3, 1) := by decide +kernel
theorem dX4_readFood_61 : decode cX4_readFood 61 = .ok (.iload_n 3, 1) := by decide +kernel
theorem dX4_readFood_62 : decode cX4_readFood 62 = .ok (.ifCond .ge 5, 3) := by decide +kernel
theorem dX4_readFood_65 : decode cX4_readFood 65 = .ok (.iconst 0, 1) := by decide +kernel
theorem dX4_readFood_66 : decode cX4_readFood 66 = .ok (.ireturn, 1) := by decide +kernel
theorem dX4_readFood_67 : decode cX4_readFood 67 = .ok (.aload_n 1, 1) := by decide +kernel
theorem dX4_readFood_68 : decode cX4_readFood 68 = .ok (.getfield 125, 3) := by decide +kernel
theorem dX4_readFood_71 : decode cX4_readFood 71 = .ok (.iload_n 2, 1) := by decide +kernel
theorem dX4_readFood_72 : decode cX4_readFood 72 = .ok (.iload_n 3, 1) := by decide +kernel
theorem dX4_readFood_73 : decode cX4_readFood 73 = .ok (.iastore, 1) := by decide +kernel
theorem dX4_readFood_74 : decode cX4_readFood 74 = .ok (.iconst 1, 1) := by decide +kernel
theorem dX4_readFood_75 : decode cX4_readFood 75 = .ok (.ireturn, 1) := by decide +kernel
theorem dX4_readPudding_0 : decode cX4_readPudding 0 = .ok (.aload_n 0, 1) := by decide +kernel
theorem dX4_readPudding_1 : decode cX4_readPudding 1 = .ok (.iconst 0, 1) := by decide +kernel
theorem dX4_readPudding_2 : decode cX4_readPudding 2 = .ok (.bipush 9, 2) := by decide +kernel
theorem dX4_readPudding_4 : decode cX4_readPudding 4 = .ok (.invokevirtual 93, 3) := by decide +kernel
theorem dX4_readPudding_7 : decode cX4_readPudding 7 = .ok (.istore_n 2, 1) := by decide +kernel
theorem dX4_readPudding_8 : decode cX4_readPudding 8 = .ok (.iload_n 2, 1) := by decide +kernel
theorem dX4_readPudding_9 : decode cX4_readPudding 9 = .ok (.ifCond .ge 5, 3) := by decide +kernel
theorem dX4_readPudding_12 : decode cX4_readPudding 12 = .ok (.iconst 0, 1) := by decide +kernel
theorem dX4_readPudding_13 : decode cX4_readPudding 13 = .ok (.ireturn, 1) := by decide +kernel
theorem dX4_readPudding_14 : decode cX4_readPudding 14 = .ok (.aload_n 1, 1) := by decide +kernel
theorem dX4_readPudding_15 : decode cX4_readPudding 15 = .ok (.iload_n 2, 1) := by decide +kernel
theorem dX4_readPudding_16 : decode cX4_readPudding 16 = .ok (.putfield 127, 3) := by decide +kernel
theorem dX4_readPudding_19 : decode cX4_readPudding 19 = .ok (.iconst 1, 1) := by decide +kernel
theorem dX4_readPudding_20 : decode cX4_readPudding 20 = .ok (.ireturn, 1) := by decide +kernel
theorem dX4_readFriend_0 : decode cX4_readFriend 0 = .ok (.aload_n 0, 1) := by decide +kernel
theorem dX4_readFriend_1 : decode cX4_readFriend 1 = .ok (.iconst 0, 1) := by decide +kernel
theorem dX4_readFriend_2 : decode cX4_readFriend 2 = .ok (.bipush 9, 2) := by decide +kernel
theorem dX4_readFriend_4 : decode cX4_readFriend 4 = .ok (.invokevirtual 93, 3) := by decide +kernel
theorem dX4_readFriend_7 : decode cX4_readFriend 7 = .ok (.istore_n 2, 1) := by decide +kernel
theorem dX4_readFriend_8 : decode cX4_readFriend 8 = .ok (.iconst 0, 1) := by decide +kernel
theorem dX4_readFriend_9 : decode cX4_readFriend 9 = .ok (.istore_n 3, 1) := by decide +kernel
theorem dX4_readFriend_10 : decode cX4_readFriend 10 = .ok (.iconst 0, 1) := by decide +kernel
theorem dX4_readFriend_11 : decode cX4_readFriend 11 = .ok (.istore 4, 2) := by decide +kernel
theorem dX4_readFriend_13 : decode cX4_readFriend 13 = .ok (.iload 4, 2) := by decide +kernel
theorem dX4_readFriend_15 : decode cX4_readFriend 15 = .ok (.bipush 10, 2) := by decide +kernel
theorem dX4_readFriend_17 : decode cX4_readFriend 17 = .ok (.if_icmp .ge 43, 3) := by decide +kernel
theorem dX4_readFriend_20 : decode cX4_readFriend 20 = .ok (.iload_n 2, 1) := by decide +kernel
theorem dX4_readFriend_21 : decode cX4_readFriend 21 = .ok (.ifCond .lt 39, 3) := by decide +kernel
theorem dX4_readFriend_24 : decode cX4_readFriend 24 = .ok (.iload_n 3, 1) := by decide +kernel
theorem dX4_readFriend_25 : decode cX4_readFriend 25 = .ok (.iconst 1, 1) := by decide +kernel
theorem dX4_readFriend_26 : decode cX4_readFriend 26 = .ok (.iload_n 2, 1) := by decide +kernel
theorem dX4_readFriend_27 : decode cX4_readFriend 27 = .ok (.ishl, 1) := by decide +kernel
theorem dX4_readFriend_28 : decode cX4_readFriend 28 = .ok (.ior, 1) := by decide +kernel
theorem dX4_readFriend_29 : decode cX4_readFriend 29 = .ok (.istore_n 3, 1) := by decide +kernel
theorem dX4_readFriend_30 : decode cX4_readFriend 30 = .ok (.aload_n 0, 1) := by decide +kernel
theorem dX4_readFriend_31 : decode cX4_readFriend 31 = .ok (.invokevirtual 130, 3) := by decide +kernel
theorem dX4_readFriend_34 : decode cX4_readFriend 34 = .ok (.ifCond .ne 10, 3) := by decide +kernel
theorem dX4_readFriend_37 : decode cX4_readFriend 37 = .ok (.aload_n 1, 1) := by decide +kernel
theorem dX4_readFriend_38 : decode cX4_readFriend 38 = .ok (.iload_n 3, 1) := by decide +kernel
theorem dX4_readFriend_39 : decode cX4_readFriend 39 = .ok (.putfield 133, 3) := by decide +kernel
theorem dX4_readFriend_42 : decode cX4_readFriend 42 = .ok (.iconst 1, 1) := by decide +kernel
theorem dX4_readFriend_43 : decode cX4_readFriend 43 = .ok (.ireturn, 1) := by decide +kernel
theorem dX4_readFriend_44 : decode cX4_readFriend 44 = .ok (.aload_n 0, 1) := by decide +kernel
theorem dX4_readFriend_45 : decode cX4_readFriend 45 = .ok (.iload_n 2, 1) := by decide +kernel
theorem dX4_readFriend_46 : decode cX4_readFriend 46 = .ok (.iconst 1, 1) := by decide +kernel
theorem dX4_readFriend_47 : decode cX4_readFriend 47 = .ok (.iadd, 1) := by decide +kernel
theorem dX4_readFriend_48 : decode cX4_readFriend 48 = .ok (.bipush 9, 2) := by decide +kernel
theorem dX4_readFriend_50 : decode cX4_readFriend 50 = .ok (.invokevirtual 135, 3) := by decide +kernel
theorem dX4_readFriend_53 : decode cX4_readFriend 53 = .ok (.istore_n 2, 1) := by decide +kernel
theorem dX4_readFriend_54 : decode cX4_readFriend 54 = .ok (.iinc 4 1, 3) := by decide +kernel
theorem dX4_readFriend_57 : decode cX4_readFriend 57 = .ok (.goto (-44), 3) := by decide +kernel
theorem dX4_readFriend_60 : decode cX4_readFriend 60 = .ok (.iconst 0, 1) := by decide +kernel
theorem dX4_readFriend_61 : decode cX4_readFriend 61 = .ok (.ireturn, 1) := by decide +kernel
