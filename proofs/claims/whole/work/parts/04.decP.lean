theorem dX5_init_0 : decode cX5_init 0 = .ok (.aload_n 0, 1) := by decide +kernel
theorem dX5_init_1 : decode cX5_init 1 = .ok (.invokespecial 3, 3) := by decide +kernel
theorem dX5_init_4 : decode cX5_init 4 = .ok (.aload_n 0, 1) := by decide +kernel
theorem dX5_init_5 : decode cX5_init 5 = .ok (.new 9, 3) := by decide +kernel
theorem dX5_init_8 : decode cX5_init 8 = .ok (.dup, 1) := by decide +kernel
theorem dX5_init_9 : decode cX5_init 9 = .ok (.invokespecial 11, 3) := by decide +kernel
theorem dX5_init_12 : decode cX5_init 12 = .ok (.putfield 12, 3) := by decide +kernel
theorem dX5_init_15 : decode cX5_init 15 = .ok (.aload_n 0, 1) := by decide +kernel
theorem dX5_init_16 : decode cX5_init 16 = .ok (.new 9, 3) := by decide +kernel
theorem dX5_init_19 : decode cX5_init 19 = .ok (.dup, 1) := by decide +kernel
theorem dX5_init_20 : decode cX5_init 20 = .ok (.invokespecial 11, 3) := by decide +kernel
theorem dX5_init_23 : decode cX5_init 23 = .ok (.putfield 16, 3) := by decide +kernel
theorem dX5_init_26 : decode cX5_init 26 = .ok (.aload_n 0, 1) := by decide +kernel
theorem dX5_init_27 : decode cX5_init 27 = .ok (.new 9, 3) := by decide +kernel
theorem dX5_init_30 : decode cX5_init 30 = .ok (.dup, 1) := by decide +kernel
theorem dX5_init_31 : decode cX5_init 31 = .ok (.invokespecial 11, 3) := by decide +kernel
theorem dX5_init_34 : decode cX5_init 34 = .ok (.putfield 19, 3) := by decide +kernel
theorem dX5_init_37 : decode cX5_init 37 = .ok (.aload_n 0, 1) := by decide +kernel
theorem dX5_init_38 : decode cX5_init 38 = .ok (.iconst 0, 1) := by decide +kernel
theorem dX5_init_39 : decode cX5_init 39 = .ok (.putfield 22, 3) := by decide +kernel
theorem dX5_init_42 : decode cX5_init 42 = .ok (.aload_n 0, 1) := by decide +kernel
theorem dX5_init_43 : decode cX5_init 43 = .ok (.new 26, 3) := by decide +kernel
theorem dX5_init_46 : decode cX5_init 46 = .ok (.dup, 1) := by decide +kernel
theorem dX5_init_47 : decode cX5_init 47 = .ok (.invokespecial 28, 3) := by decide +kernel
theorem dX5_init_50 : decode cX5_init 50 = .ok (.putfield 29, 3) := by decide +kernel
theorem dX5_init_53 : decode cX5_init 53 = .ok (.aload_n 0, 1) := by decide +kernel
theorem dX5_init_54 : decode cX5_init 54 = .ok (.iconst 4, 1) := by decide +kernel
theorem dX5_init_55 : decode cX5_init 55 = .ok (.anewarray 33, 3) := by decide +kernel
theorem dX5_init_58 : decode cX5_init 58 = .ok (.putfield 35, 3) := by decide +kernel
theorem dX5_init_61 : decode cX5_init 61 = .ok (.iconst 0, 1) := by decide +kernel
theorem dX5_init_62 : decode cX5_init 62 = .ok (.istore_n 1, 1) := by decide +kernel
theorem dX5_init_63 : decode cX5_init 63 = .ok (.iload_n 1, 1) := by decide +kernel
theorem dX5_init_64 : decode cX5_init 64 = .ok (.iconst 4, 1) := by decide +kernel
theorem dX5_init_65 : decode cX5_init 65 = .ok (.if_icmp .ge 22, 3) := by decide +kernel
theorem dX5_init_68 : decode cX5_init 68 = .ok (.aload_n 0, 1) := by decide +kernel
theorem dX5_init_69 : decode cX5_init 69 = .ok (.getfield 35, 3) := by decide +kernel
theorem dX5_init_72 : decode cX5_init 72 = .ok (.iload_n 1, 1) := by decide +kernel
theorem dX5_init_73 : decode cX5_init 73 = .ok (.new 33, 3) := by decide +kernel
theorem dX5_init_76 : decode cX5_init 76 = .ok (.dup, 1) := by decide +kernel
theorem dX5_init_77 : decode cX5_init 77 = .ok (.invokespecial 39, 3) := by decide +kernel
theorem dX5_init_80 : decode cX5_init 80 = .ok (.aastore, 1) := by decide +kernel
theorem dX5_init_81 : decode cX5_init 81 = .ok (.iinc 1 1, 3) := by decide +kernel
theorem dX5_init_84 : decode cX5_init 84 = .ok (.goto (-21), 3) := by decide +kernel
theorem dX5_init_87 : decode cX5_init 87 = .ok (.aload_n 0, 1) := by decide +kernel
theorem dX5_init_88 : decode cX5_init 88 = .ok (.bipush 7, 2) := by decide +kernel
theorem dX5_init_90 : decode cX5_init 90 = .ok (.newarray .int, 2) := by decide +kernel
theorem dX5_init_92 : decode cX5_init 92 = .ok (.putfield 40, 3) := by decide +kernel
theorem dX5_init_95 : decode cX5_init 95 = .ok (.return_, 1) := by decide +kernel
theorem dX5_finding_0 : decode cX5_finding 0 = .ok (.ldc 44, 2) := by decide +kernel
theorem dX5_finding_2 : decode cX5_finding 2 = .ok (.iload_n 1, 1) := by decide +kernel
theorem dX5_finding_3 : decode cX5_finding 3 = .ok (.isub, 1) := by decide +kernel
theorem dX5_finding_4 : decode cX5_finding 4 = .ok (.istore_n 2, 1) := by decide +kernel
theorem dX5_finding_5 : decode cX5_finding 5 = .ok (.iload_n 2, 1) := by decide +kernel
theorem dX5_finding_6 : decode cX5_finding 6 = .ok (.iconst 0, 1) := by decide +kernel
theorem dX5_finding_7 : decode cX5_finding 7 = .ok (.bipush 6, 2) := by decide +kernel
theorem dX5_finding_9 : decode cX5_finding 9 = .ok (.invokestatic 45, 3) := by decide +kernel
theorem dX5_finding_12 : decode cX5_finding 12 = .ok (.ifCond .eq 13, 3) := by decide +kernel
theorem dX5_finding_15 : decode cX5_finding 15 = .ok (.aload_n 0, 1) := by decide +kernel
theorem dX5_finding_16 : decode cX5_finding 16 = .ok (.getfield 40, 3) := by decide +kernel
theorem dX5_finding_19 : decode cX5_finding 19 = .ok (.iload_n 2, 1) := by decide +kernel
theorem dX5_finding_20 : decode cX5_finding 20 = .ok (.dup2, 1) := by decide +kernel
theorem dX5_finding_21 : decode cX5_finding 21 = .ok (.iaload, 1) := by decide +kernel
theorem dX5_finding_22 : decode cX5_finding 22 = .ok (.iconst 1, 1) := by decide +kernel
theorem dX5_finding_23 : decode cX5_finding 23 = .ok (.iadd, 1) := by decide +kernel
theorem dX5_finding_24 : decode cX5_finding 24 = .ok (.iastore, 1) := by decide +kernel
theorem dX5_finding_25 : decode cX5_finding 25 = .ok (.iload_n 1, 1) := by decide +kernel
theorem dX5_finding_26 : decode cX5_finding 26 = .ok (.ireturn, 1) := by decide +kernel
theorem dX5_within_0 : decode cX5_within 0 = .ok (.iload_n 0, 1) := by decide +kernel
theorem dX5_within_1 : decode cX5_within 1 = .ok (.iload_n 1, 1) := by decide +kernel
theorem dX5_within_2 : decode cX5_within 2 = .ok (.if_icmp .lt 12, 3) := by decide +kernel
theorem dX5_within_5 : decode cX5_within 5 = .ok (.iload_n 0, 1) := by decide +kernel
theorem dX5_within_6 : decode cX5_within 6 = .ok (.iload_n 2, 1) := by decide +kernel
theorem dX5_within_7 : decode cX5_within 7 = .ok (.if_icmp .gt 7, 3) := by decide +kernel
theorem dX5_within_10 : decode cX5_within 10 = .ok (.iconst 1, 1) := by decide +kernel
theorem dX5_within_11 : decode cX5_within 11 = .ok (.goto 4, 3) := by decide +kernel
theorem dX5_within_14 : decode cX5_within 14 = .ok (.iconst 0, 1) := by decide +kernel
theorem dX5_within_15 : decode cX5_within 15 = .ok (.ireturn, 1) := by decide +kernel
theorem dX5_isFood_0 : decode cX5_isFood 0 = .ok (.iload_n 0, 1) := by decide +kernel
theorem dX5_isFood_1 : decode cX5_isFood 1 = .ok (.iconst 0, 1) := by decide +kernel
theorem dX5_isFood_2 : decode cX5_isFood 2 = .ok (.bipush 9, 2) := by decide +kernel
theorem dX5_isFood_4 : decode cX5_isFood 4 = .ok (.invokestatic 45, 3) := by decide +kernel
theorem dX5_isFood_7 : decode cX5_isFood 7 = .ok (.ireturn, 1) := by decide +kernel
theorem dX5_isKind_0 : decode cX5_isKind 0 = .ok (.iload_n 0, 1) := by decide +kernel
theorem dX5_isKind_1 : decode cX5_isKind 1 = .ok (.iconst 0, 1) := by decide +kernel
theorem dX5_isKind_2 : decode cX5_isKind 2 = .ok (.bipush 6, 2) := by decide +kernel
theorem dX5_isKind_4 : decode cX5_isKind 4 = .ok (.invokestatic 45, 3) := by decide +kernel
theorem dX5_isKind_7 : decode cX5_isKind 7 = .ok (.ireturn, 1) := by decide +kernel
theorem dX5_isPut_0 : decode cX5_isPut 0 = .ok (.iload_n 0, 1) := by decide +kernel
theorem dX5_isPut_1 : decode cX5_isPut 1 = .ok (.iconst 1, 1) := by decide +kernel
theorem dX5_isPut_2 : decode cX5_isPut 2 = .ok (.bipush 20, 2) := by decide +kernel
theorem dX5_isPut_4 : decode cX5_isPut 4 = .ok (.invokestatic 45, 3) := by decide +kernel
theorem dX5_isPut_7 : decode cX5_isPut 7 = .ok (.ireturn, 1) := by decide +kernel
theorem dX5_partLow_0 : decode cX5_partLow 0 = .ok (.iload_n 0, 1) := by decide +kernel
theorem dX5_partLow_1 : decode cX5_partLow 1 = .ok (.iconst 3, 1) := by decide +kernel
theorem dX5_partLow_2 : decode cX5_partLow 2 = .ok (.if_icmp .ne 7, 3) := by decide +kernel
theorem dX5_partLow_5 : decode cX5_partLow 5 = .ok (.iconst 1, 1) := by decide +kernel
theorem dX5_partLow_6 : decode cX5_partLow 6 = .ok (.goto 4, 3) := by decide +kernel
theorem dX5_partLow_9 : decode cX5_partLow 9 = .ok (.iconst 0, 1) := by decide +kernel
theorem dX5_partLow_10 : decode cX5_partLow 10 = .ok (.ireturn, 1) := by decide +kernel
theorem dX5_partTop_0 : decode cX5_partTop 0 = .ok (.iload_n 0, 1) := by decide +kernel
theorem dX5_partTop_1 : decode cX5_partTop 1 = .ok (.tableswitch 44 0 3 #[31, 34, 37, 41], 31) := by decide +kernel
theorem dX5_partTop_32 : decode cX5_partTop 32 = .ok (.bipush 9, 2) := by decide +kernel
theorem dX5_partTop_34 : decode cX5_partTop 34 = .ok (.ireturn, 1) := by decide +kernel
theorem dX5_partTop_35 : decode cX5_partTop 35 = .ok (.bipush 99, 2) := by decide +kernel
theorem dX5_partTop_37 : decode cX5_partTop 37 = .ok (.ireturn, 1) := by decide +kernel
theorem dX5_partTop_38 : decode cX5_partTop 38 = .ok (.sipush 9999, 3) := by decide +kernel
theorem dX5_partTop_41 : decode cX5_partTop 41 = .ok (.ireturn, 1) := by decide +kernel
theorem dX5_partTop_42 : decode cX5_partTop 42 = .ok (.bipush 99, 2) := by decide +kernel
theorem dX5_partTop_44 : decode cX5_partTop 44 = .ok (.ireturn, 1) := by decide +kernel
theorem dX5_partTop_45 : decode cX5_partTop 45 = .ok (.iconst (-1), 1) := by decide +kernel
theorem dX5_partTop_46 : decode cX5_partTop 46 = .ok (.ireturn, 1) := by decide +kernel
theorem dX5_traitLow_0 : decode cX5_traitLow 0 = .ok (.iload_n 0, 1) := by decide +kernel
theorem dX5_traitLow_1 : decode cX5_traitLow 1 = .ok (.iconst 2, 1) := by decide +kernel
theorem dX5_traitLow_2 : decode cX5_traitLow 2 = .ok (.if_icmp .ne 7, 3) := by decide +kernel
theorem dX5_traitLow_5 : decode cX5_traitLow 5 = .ok (.iconst 1, 1) := by decide +kernel
theorem dX5_traitLow_6 : decode cX5_traitLow 6 = .ok (.goto 4, 3) := by decide +kernel
theorem dX5_traitLow_9 : decode cX5_traitLow 9 = .ok (.iconst 0, 1) := by decide +kernel
theorem dX5_traitLow_10 : decode cX5_traitLow 10 = .ok (.ireturn, 1) := by decide +kernel
theorem dX5_traitTop_0 : decode cX5_traitTop 0 = .ok (.iload_n 0, 1) := by decide +kernel
theorem dX5_traitTop_1 : decode cX5_traitTop 1 = .ok (.tableswitch 36 0 2 #[27, 30, 33], 27) := by decide +kernel
theorem dX5_traitTop_28 : decode cX5_traitTop 28 = .ok (.bipush 6, 2) := by decide +kernel
theorem dX5_traitTop_30 : decode cX5_traitTop 30 = .ok (.ireturn, 1) := by decide +kernel
theorem dX5_traitTop_31 : decode cX5_traitTop 31 = .ok (.bipush 9, 2) := by decide +kernel
theorem dX5_traitTop_33 : decode cX5_traitTop 33 = .ok (.ireturn, 1) := by decide +kernel
theorem dX5_traitTop_34 : decode cX5_traitTop 34 = .ok (.bipush 20, 2) := by decide +kernel
theorem dX5_traitTop_36 : decode cX5_traitTop 36 = .ok (.ireturn, 1) := by decide +kernel
theorem dX5_traitTop_37 : decode cX5_traitTop 37 = .ok (.iconst (-1), 1) := by decide +kernel
theorem dX5_traitTop_38 : decode cX5_traitTop 38 = .ok (.ireturn, 1) := by decide +kernel
theorem dX5_isTaste_0 : decode cX5_isTaste 0 = .ok (.iload_n 1, 1) := by decide +kernel
theorem dX5_isTaste_1 : decode cX5_isTaste 1 = .ok (.iconst 0, 1) := by decide +kernel
theorem dX5_isTaste_2 : decode cX5_isTaste 2 = .ok (.aload_n 0, 1) := by decide +kernel
theorem dX5_isTaste_3 : decode cX5_isTaste 3 = .ok (.getfield 12, 3) := by decide +kernel
theorem dX5_isTaste_6 : decode cX5_isTaste 6 = .ok (.getfield 49, 3) := by decide +kernel
theorem dX5_isTaste_9 : decode cX5_isTaste 9 = .ok (.getfield 53, 3) := by decide +kernel
theorem dX5_isTaste_12 : decode cX5_isTaste 12 = .ok (.iconst 1, 1) := by decide +kernel
theorem dX5_isTaste_13 : decode cX5_isTaste 13 = .ok (.isub, 1) := by decide +kernel
theorem dX5_isTaste_14 : decode cX5_isTaste 14 = .ok (.invokestatic 45, 3) := by decide +kernel
theorem dX5_isTaste_17 : decode cX5_isTaste 17 = .ok (.ireturn, 1) := by decide +kernel
theorem dX5_isPastLast_0 : decode cX5_isPastLast 0 = .ok (.aload_n 0, 1) := by decide +kernel
theorem dX5_isPastLast_1 : decode cX5_isPastLast 1 = .ok (.getfield 12, 3) := by decide +kernel
theorem dX5_isPastLast_4 : decode cX5_isPastLast 4 = .ok (.getfield 59, 3) := by decide +kernel
theorem dX5_isPastLast_7 : decode cX5_isPastLast 7 = .ok (.ldc 62, 2) := by decide +kernel
theorem dX5_isPastLast_9 : decode cX5_isPastLast 9 = .ok (.iload_n 1, 1) := by decide +kernel
theorem dX5_isPastLast_10 : decode cX5_isPastLast 10 = .ok (.isub, 1) := by decide +kernel
theorem dX5_isPastLast_11 : decode cX5_isPastLast 11 = .ok (.if_icmp .le 7, 3) := by decide +kernel
theorem dX5_isPastLast_14 : decode cX5_isPastLast 14 = .ok (.iconst 1, 1) := by decide +kernel
theorem dX5_isPastLast_15 : decode cX5_isPastLast 15 = .ok (.goto 4, 3) := by decide +kernel
theorem dX5_isPastLast_18 : decode cX5_isPastLast 18 = .ok (.iconst 0, 1) := by decide +kernel
theorem dX5_isPastLast_19 : decode cX5_isPastLast 19 = .ok (.ireturn, 1) := by decide +kernel
theorem dX5_food_0 : decode cX5_food 0 = .ok (.iload_n 1, 1) := by decide +kernel
theorem dX5_food_1 : decode cX5_food 1 = .ok (.invokestatic 63, 3) := by decide +kernel
theorem dX5_food_4 : decode cX5_food 4 = .ok (.ifCond .ne 10, 3) := by decide +kernel
theorem dX5_food_7 : decode cX5_food 7 = .ok (.aload_n 0, 1) := by decide +kernel
theorem dX5_food_8 : decode cX5_food 8 = .ok (.ldc 44, 2) := by decide +kernel
theorem dX5_food_10 : decode cX5_food 10 = .ok (.invokevirtual 67, 3) := by decide +kernel
theorem dX5_food_13 : decode cX5_food 13 = .ok (.ireturn, 1) := by decide +kernel
theorem dX5_food_14 : decode cX5_food 14 = .ok (.iload_n 2, 1) := by decide +kernel
theorem dX5_food_15 : decode cX5_food 15 = .ok (.ifCond .ne 26, 3) := by decide +kernel
theorem dX5_food_18 : decode cX5_food 18 = .ok (.iload_n 3, 1) := by decide +kernel
theorem dX5_food_19 : decode cX5_food 19 = .ok (.iconst 0, 1) := by decide +kernel
theorem dX5_food_20 : decode cX5_food 20 = .ok (.bipush 99, 2) := by decide +kernel
theorem dX5_food_22 : decode cX5_food 22 = .ok (.invokestatic 45, 3) := by decide +kernel
theorem dX5_food_25 : decode cX5_food 25 = .ok (.ifCond .eq 16, 3) := by decide +kernel
theorem dX5_food_28 : decode cX5_food 28 = .ok (.aload_n 0, 1) := by decide +kernel
theorem dX5_food_29 : decode cX5_food 29 = .ok (.getfield 12, 3) := by decide +kernel
theorem dX5_food_32 : decode cX5_food 32 = .ok (.getfield 71, 3) := by decide +kernel
theorem dX5_food_35 : decode cX5_food 35 = .ok (.iload_n 1, 1) := by decide +kernel
theorem dX5_food_36 : decode cX5_food 36 = .ok (.iload_n 3, 1) := by decide +kernel
theorem dX5_food_37 : decode cX5_food 37 = .ok (.invokestatic 74, 3) := by decide +kernel
theorem dX5_food_40 : decode cX5_food 40 = .ok (.ireturn, 1) := by decide +kernel
theorem dX5_food_41 : decode cX5_food 41 = .ok (.iload_n 2, 1) := by decide +kernel
theorem dX5_food_42 : decode cX5_food 42 = .ok (.iconst 1, 1) := by decide +kernel
theorem dX5_food_43 : decode cX5_food 43 = .ok (.if_icmp .ne 26, 3) := by decide +kernel
theorem dX5_food_46 : decode cX5_food 46 = .ok (.iload_n 3, 1) := by decide +kernel
theorem dX5_food_47 : decode cX5_food 47 = .ok (.iconst 0, 1) := by decide +kernel
theorem dX5_food_48 : decode cX5_food 48 = .ok (.bipush 9, 2) := by decide +kernel
theorem dX5_food_50 : decode cX5_food 50 = .ok (.invokestatic 45, 3) := by decide +kernel
theorem dX5_food_53 : decode cX5_food 53 = .ok (.ifCond .eq 16, 3) := by decide +kernel
theorem dX5_food_56 : decode cX5_food 56 = .ok (.aload_n 0, 1) := by decide +kernel
theorem dX5_food_57 : decode cX5_food 57 = .ok (.getfield 12, 3) := by decide +kernel
theorem dX5_food_60 : decode cX5_food 60 = .ok (.getfield 78, 3) := by decide +kernel
theorem dX5_food_63 : decode cX5_food 63 = .ok (.iload_n 1, 1) := by decide +kernel
theorem dX5_food_64 : decode cX5_food 64 = .ok (.iload_n 3, 1) := by decide +kernel
theorem dX5_food_65 : decode cX5_food 65 = .ok (.invokestatic 74, 3) := by decide +kernel
theorem dX5_food_68 : decode cX5_food 68 = .ok (.ireturn, 1) := by decide +kernel
theorem dX5_food_69 : decode cX5_food 69 = .ok (.aload_n 0, 1) := by decide +kernel
theorem dX5_food_70 : decode cX5_food 70 = .ok (.ldc 44, 2) := by decide +kernel
theorem dX5_food_72 : decode cX5_food 72 = .ok (.invokevirtual 67, 3) := by decide +kernel
theorem dX5_food_75 : decode cX5_food 75 = .ok (.ireturn, 1) := by decide +kernel
theorem dX5_replaced_0 : decode cX5_replaced 0 = .ok (.aload_n 0, 1) := by decide +kernel
theorem dX5_replaced_1 : decode cX5_replaced 1 = .ok (.iload_n 1, 1) := by decide +kernel
theorem dX5_replaced_2 : decode cX5_replaced 2 = .ok (.iaload, 1) := by decide +kernel
theorem dX5_replaced_3 : decode cX5_replaced 3 = .ok (.istore_n 3, 1) := by decide +kernel
theorem dX5_replaced_4 : decode cX5_replaced 4 = .ok (.aload_n 0, 1) := by decide +kernel
theorem dX5_replaced_5 : decode cX5_replaced 5 = .ok (.iload_n 1, 1) := by decide +kernel
theorem dX5_replaced_6 : decode cX5_replaced 6 = .ok (.iload_n 2, 1) := by decide +kernel
theorem dX5_replaced_7 : decode cX5_replaced 7 = .ok (.iastore, 1) := by decide +kernel
theorem dX5_replaced_8 : decode cX5_replaced 8 = .ok (.iload_n 3, 1) := by decide +kernel
theorem dX5_replaced_9 : decode cX5_replaced 9 = .ok (.ireturn, 1) := by decide +kernel
theorem dX5_foodOf_0 : decode cX5_foodOf 0 = .ok (.iload_n 1, 1) := by decide +kernel
theorem dX5_foodOf_1 : decode cX5_foodOf 1 = .ok (.invokestatic 63, 3) := by decide +kernel
theorem dX5_foodOf_4 : decode cX5_foodOf 4 = .ok (.ifCond .ne 10, 3) := by decide +kernel
theorem dX5_foodOf_7 : decode cX5_foodOf 7 = .ok (.aload_n 0, 1) := by decide +kernel
theorem dX5_foodOf_8 : decode cX5_foodOf 8 = .ok (.ldc 44, 2) := by decide +kernel
theorem dX5_foodOf_10 : decode cX5_foodOf 10 = .ok (.invokevirtual 67, 3) := by decide +kernel
theorem dX5_foodOf_13 : decode cX5_foodOf 13 = .ok (.ireturn, 1) := by decide +kernel
theorem dX5_foodOf_14 : decode cX5_foodOf 14 = .ok (.iload_n 2, 1) := by decide +kernel
theorem dX5_foodOf_15 : decode cX5_foodOf 15 = .ok (.tableswitch 76 0 3 #[29, 39, 49, 59], 29) := by decide +kernel
theorem dX5_foodOf_44 : decode cX5_foodOf 44 = .ok (.aload_n 0, 1) := by decide +kernel
theorem dX5_foodOf_45 : decode cX5_foodOf 45 = .ok (.getfield 12, 3) := by decide +kernel
theorem dX5_foodOf_48 : decode cX5_foodOf 48 = .ok (.getfield 71, 3) := by decide +kernel
theorem dX5_foodOf_51 : decode cX5_foodOf 51 = .ok (.iload_n 1, 1) := by decide +kernel
theorem dX5_foodOf_52 : decode cX5_foodOf 52 = .ok (.iaload, 1) := by decide +kernel
theorem dX5_foodOf_53 : decode cX5_foodOf 53 = .ok (.ireturn, 1) := by decide +kernel
theorem dX5_foodOf_54 : decode cX5_foodOf 54 = .ok (.aload_n 0, 1) := by decide +kernel
theorem dX5_foodOf_55 : decode cX5_foodOf 55 = .ok (.getfield 12, 3) := by decide +kernel
theorem dX5_foodOf_58 : decode cX5_foodOf 58 = .ok (.getfield 78, 3) := by decide +kernel
theorem dX5_foodOf_61 : decode cX5_foodOf 61 = .ok (.iload_n 1, 1) := by decide +kernel
theorem dX5_foodOf_62 : decode cX5_foodOf 62 = .ok (.iaload, 1) := by decide +kernel
theorem dX5_foodOf_63 : decode cX5_foodOf 63 = .ok (.ireturn, 1) := by decide +kernel
theorem dX5_foodOf_64 : decode cX5_foodOf 64 = .ok (.aload_n 0, 1) := by decide +kernel
theorem dX5_foodOf_65 : decode cX5_foodOf 65 = .ok (.getfield 12, 3) := by decide +kernel
theorem dX5_foodOf_68 : decode cX5_foodOf 68 = .ok (.getfield 81, 3) := by decide +kernel
theorem dX5_foodOf_71 : decode cX5_foodOf 71 = .ok (.iload_n 1, 1) := by decide +kernel
theorem dX5_foodOf_72 : decode cX5_foodOf 72 = .ok (.iaload, 1) := by decide +kernel
theorem dX5_foodOf_73 : decode cX5_foodOf 73 = .ok (.ireturn, 1) := by decide +kernel
theorem dX5_foodOf_74 : decode cX5_foodOf 74 = .ok (.aload_n 0, 1) := by decide +kernel
theorem dX5_foodOf_75 : decode cX5_foodOf 75 = .ok (.getfield 12, 3) := by decide +kernel
theorem dX5_foodOf_78 : decode cX5_foodOf 78 = .ok (.iload_n 1, 1) := by decide +kernel
theorem dX5_foodOf_79 : decode cX5_foodOf 79 = .ok (.invokevirtual 84, 3) := by decide +kernel
theorem dX5_foodOf_82 : decode cX5_foodOf 82 = .ok (.ifCond .eq 7, 3) := by decide +kernel
theorem dX5_foodOf_85 : decode cX5_foodOf 85 = .ok (.iconst 1, 1) := by decide +kernel
theorem dX5_foodOf_86 : decode cX5_foodOf 86 = .ok (.goto 4, 3) := by decide +kernel
theorem dX5_foodOf_89 : decode cX5_foodOf 89 = .ok (.iconst 0, 1) := by decide +kernel
theorem dX5_foodOf_90 : decode cX5_foodOf 90 = .ok (.ireturn, 1) := by decide +kernel
theorem dX5_foodOf_91 : decode cX5_foodOf 91 = .ok (.aload_n 0, 1) := by decide +kernel
theorem dX5_foodOf_92 : decode cX5_foodOf 92 = .ok (.ldc 44, 2) := by decide +kernel
theorem dX5_foodOf_94 : decode cX5_foodOf 94 = .ok (.invokevirtual 67, 3) := by decide +kernel
theorem dX5_foodOf_97 : decode cX5_foodOf 97 = .ok (.ireturn, 1) := by decide +kernel
theorem dX5_child_0 : decode cX5_child 0 = .ok (.iload_n 2, 1) := by decide +kernel
theorem dX5_child_1 : decode cX5_child 1 = .ok (.iload_n 1, 1) := by decide +kernel
theorem dX5_child_2 : decode cX5_child 2 = .ok (.invokestatic 87, 3) := by decide +kernel
theorem dX5_child_5 : decode cX5_child 5 = .ok (.iload_n 1, 1) := by decide +kernel
theorem dX5_child_6 : decode cX5_child 6 = .ok (.invokestatic 90, 3) := by decide +kernel
theorem dX5_child_9 : decode cX5_child 9 = .ok (.invokestatic 45, 3) := by decide +kernel
theorem dX5_child_12 : decode cX5_child 12 = .ok (.ifCond .ne 10, 3) := by decide +kernel
theorem dX5_child_15 : decode cX5_child 15 = .ok (.aload_n 0, 1) := by decide +kernel
theorem dX5_child_16 : decode cX5_child 16 = .ok (.ldc 44, 2) := by decide +kernel
theorem dX5_child_18 : decode cX5_child 18 = .ok (.invokevirtual 67, 3) := by decide +kernel
theorem dX5_child_21 : decode cX5_child 21 = .ok (.ireturn, 1) := by decide +kernel
theorem dX5_child_22 : decode cX5_child 22 = .ok (.aload_n 0, 1) := by decide +kernel
theorem dX5_child_23 : decode cX5_child 23 = .ok (.getfield 12, 3) := by decide +kernel
theorem dX5_child_26 : decode cX5_child 26 = .ok (.iload_n 1, 1) := by decide +kernel
theorem dX5_child_27 : decode cX5_child 27 = .ok (.invokevirtual 93, 3) := by decide +kernel
theorem dX5_child_30 : decode cX5_child 30 = .ok (.istore_n 3, 1) := by decide +kernel
theorem dX5_child_31 : decode cX5_child 31 = .ok (.aload_n 0, 1) := by decide +kernel
theorem dX5_child_32 : decode cX5_child 32 = .ok (.getfield 12, 3) := by decide +kernel
theorem dX5_child_35 : decode cX5_child 35 = .ok (.iload_n 1, 1) := by decide +kernel
theorem dX5_child_36 : decode cX5_child 36 = .ok (.iload_n 2, 1) := by decide +kernel
theorem dX5_child_37 : decode cX5_child 37 = .ok (.invokevirtual 96, 3) := by decide +kernel
theorem dX5_child_40 : decode cX5_child 40 = .ok (.iload_n 3, 1) := by decide +kernel
theorem dX5_child_41 : decode cX5_child 41 = .ok (.ireturn, 1) := by decide +kernel
theorem dX5_pudding_0 : decode cX5_pudding 0 = .ok (.iload_n 1, 1) := by decide +kernel
theorem dX5_pudding_1 : decode cX5_pudding 1 = .ok (.iconst (-1), 1) := by decide +kernel
theorem dX5_pudding_2 : decode cX5_pudding 2 = .ok (.if_icmp .eq 17, 3) := by decide +kernel
theorem dX5_pudding_5 : decode cX5_pudding 5 = .ok (.iload_n 1, 1) := by decide +kernel
theorem dX5_pudding_6 : decode cX5_pudding 6 = .ok (.invokestatic 63, 3) := by decide +kernel
theorem dX5_pudding_9 : decode cX5_pudding 9 = .ok (.ifCond .ne 10, 3) := by decide +kernel
theorem dX5_pudding_12 : decode cX5_pudding 12 = .ok (.aload_n 0, 1) := by decide +kernel
theorem dX5_pudding_13 : decode cX5_pudding 13 = .ok (.ldc 44, 2) := by decide +kernel
theorem dX5_pudding_15 : decode cX5_pudding 15 = .ok (.invokevirtual 67, 3) := by decide +kernel
theorem dX5_pudding_18 : decode cX5_pudding 18 = .ok (.ireturn, 1) := by decide +kernel
theorem dX5_pudding_19 : decode cX5_pudding 19 = .ok (.aload_n 0, 1) := by decide +kernel
theorem dX5_pudding_20 : decode cX5_pudding 20 = .ok (.getfield 12, 3) := by decide +kernel
theorem dX5_pudding_23 : decode cX5_pudding 23 = .ok (.getfield 100, 3) := by decide +kernel
theorem dX5_pudding_26 : decode cX5_pudding 26 = .ok (.istore_n 2, 1) := by decide +kernel
theorem dX5_pudding_27 : decode cX5_pudding 27 = .ok (.aload_n 0, 1) := by decide +kernel
theorem dX5_pudding_28 : decode cX5_pudding 28 = .ok (.getfield 12, 3) := by decide +kernel
theorem dX5_pudding_31 : decode cX5_pudding 31 = .ok (.iload_n 1, 1) := by decide +kernel
theorem dX5_pudding_32 : decode cX5_pudding 32 = .ok (.putfield 100, 3) := by decide +kernel
theorem dX5_pudding_35 : decode cX5_pudding 35 = .ok (.iload_n 2, 1) := by decide +kernel
theorem dX5_pudding_36 : decode cX5_pudding 36 = .ok (.ireturn, 1) := by decide +kernel
theorem dX5_friend_0 : decode cX5_friend 0 = .ok (.iload_n 1, 1) := by decide +kernel
theorem dX5_friend_1 : decode cX5_friend 1 = .ok (.iconst 0, 1) := by decide +kernel
theorem dX5_friend_2 : decode cX5_friend 2 = .ok (.sipush 1023, 3) := by decide +kernel
theorem dX5_friend_5 : decode cX5_friend 5 = .ok (.invokestatic 45, 3) := by decide +kernel
theorem dX5_friend_8 : decode cX5_friend 8 = .ok (.ifCond .ne 10, 3) := by decide +kernel
theorem dX5_friend_11 : decode cX5_friend 11 = .ok (.aload_n 0, 1) := by decide +kernel
theorem dX5_friend_12 : decode cX5_friend 12 = .ok (.ldc 44, 2) := by decide +kernel
theorem dX5_friend_14 : decode cX5_friend 14 = .ok (.invokevirtual 67, 3) := by decide +kernel
theorem dX5_friend_17 : decode cX5_friend 17 = .ok (.ireturn, 1) := by decide +kernel
theorem dX5_friend_18 : decode cX5_friend 18 = .ok (.aload_n 0, 1) := by decide +kernel
theorem dX5_friend_19 : decode cX5_friend 19 = .ok (.getfield 12, 3) := by decide +kernel
theorem dX5_friend_22 : decode cX5_friend 22 = .ok (.getfield 103, 3) := by decide +kernel
theorem dX5_friend_25 : decode cX5_friend 25 = .ok (.istore_n 2, 1) := by decide +kernel
theorem dX5_friend_26 : decode cX5_friend 26 = .ok (.aload_n 0, 1) := by decide +kernel
theorem dX5_friend_27 : decode cX5_friend 27 = .ok (.getfield 12, 3) := by decide +kernel
theorem dX5_friend_30 : decode cX5_friend 30 = .ok (.iload_n 1, 1) := by decide +kernel
theorem dX5_friend_31 : decode cX5_friend 31 = .ok (.putfield 103, 3) := by decide +kernel
theorem dX5_friend_34 : decode cX5_friend 34 = .ok (.iload_n 2, 1) := by decide +kernel
theorem dX5_friend_35 : decode cX5_friend 35 = .ok (.ireturn, 1) := by decide +kernel
theorem dX5_liked_0 : decode cX5_liked 0 = .ok (.aload_n 0, 1) := by decide +kernel
theorem dX5_liked_1 : decode cX5_liked 1 = .ok (.getfield 12, 3) := by decide +kernel
theorem dX5_liked_4 : decode cX5_liked 4 = .ok (.invokevirtual 106, 3) := by decide +kernel
theorem dX5_liked_7 : decode cX5_liked 7 = .ok (.ireturn, 1) := by decide +kernel
theorem dX5_next_0 : decode cX5_next 0 = .ok (.iconst (-1), 1) := by decide +kernel
theorem dX5_next_1 : decode cX5_next 1 = .ok (.istore_n 1, 1) := by decide +kernel
theorem dX5_next_2 : decode cX5_next 2 = .ok (.iconst 0, 1) := by decide +kernel
theorem dX5_next_3 : decode cX5_next 3 = .ok (.istore_n 2, 1) := by decide +kernel
theorem dX5_next_4 : decode cX5_next 4 = .ok (.iload_n 2, 1) := by decide +kernel
theorem dX5_next_5 : decode cX5_next 5 = .ok (.bipush 10, 2) := by decide +kernel
theorem dX5_next_7 : decode cX5_next 7 = .ok (.if_icmp .ge 47, 3) := by decide +kernel
theorem dX5_next_10 : decode cX5_next 10 = .ok (.aload_n 0, 1) := by decide +kernel
theorem dX5_next_11 : decode cX5_next 11 = .ok (.getfield 12, 3) := by decide +kernel
theorem dX5_next_14 : decode cX5_next 14 = .ok (.iload_n 2, 1) := by decide +kernel
theorem dX5_next_15 : decode cX5_next 15 = .ok (.invokevirtual 84, 3) := by decide +kernel
theorem dX5_next_18 : decode cX5_next 18 = .ok (.ifCond .ne 30, 3) := by decide +kernel
theorem dX5_next_21 : decode cX5_next 21 = .ok (.iload_n 1, 1) := by decide +kernel
theorem dX5_next_22 : decode cX5_next 22 = .ok (.ifCond .lt 24, 3) := by decide +kernel
theorem dX5_next_25 : decode cX5_next 25 = .ok (.aload_n 0, 1) := by decide +kernel
theorem dX5_next_26 : decode cX5_next 26 = .ok (.getfield 12, 3) := by decide +kernel
theorem dX5_next_29 : decode cX5_next 29 = .ok (.getfield 71, 3) := by decide +kernel
theorem dX5_next_32 : decode cX5_next 32 = .ok (.iload_n 2, 1) := by decide +kernel
theorem dX5_next_33 : decode cX5_next 33 = .ok (.iaload, 1) := by decide +kernel
theorem dX5_next_34 : decode cX5_next 34 = .ok (.aload_n 0, 1) := by decide +kernel
theorem dX5_next_35 : decode cX5_next 35 = .ok (.getfield 12, 3) := by decide +kernel
theorem dX5_next_38 : decode cX5_next 38 = .ok (.getfield 71, 3) := by decide +kernel
theorem dX5_next_41 : decode cX5_next 41 = .ok (.iload_n 1, 1) := by decide +kernel
theorem dX5_next_42 : decode cX5_next 42 = .ok (.iaload, 1) := by decide +kernel
theorem dX5_next_43 : decode cX5_next 43 = .ok (.if_icmp .le 5, 3) := by decide +kernel
theorem dX5_next_46 : decode cX5_next 46 = .ok (.iload_n 2, 1) := by decide +kernel
theorem dX5_next_47 : decode cX5_next 47 = .ok (.istore_n 1, 1) := by decide +kernel
theorem dX5_next_48 : decode cX5_next 48 = .ok (.iinc 2 1, 3) := by decide +kernel
theorem dX5_next_51 : decode cX5_next 51 = .ok (.goto (-47), 3) := by decide +kernel
theorem dX5_next_54 : decode cX5_next 54 = .ok (.iload_n 1, 1) := by decide +kernel
theorem dX5_next_55 : decode cX5_next 55 = .ok (.ifCond .ge 12, 3) := by decide +kernel
theorem dX5_next_58 : decode cX5_next 58 = .ok (.aload_n 0, 1) := by decide +kernel
theorem dX5_next_59 : decode cX5_next 59 = .ok (.ldc 110, 2) := by decide +kernel
theorem dX5_next_61 : decode cX5_next 61 = .ok (.invokevirtual 67, 3) := by decide +kernel
theorem dX5_next_64 : decode cX5_next 64 = .ok (.goto 4, 3) := by decide +kernel
theorem dX5_next_67 : decode cX5_next 67 = .ok (.iload_n 1, 1) := by decide +kernel
theorem dX5_next_68 : decode cX5_next 68 = .ok (.ireturn, 1) := by decide +kernel
theorem dX5_taste_0 : decode cX5_taste 0 = .ok (.iload_n 1, 1) := by decide +kernel
theorem dX5_taste_1 : decode cX5_taste 1 = .ok (.invokestatic 111, 3) := by decide +kernel
theorem dX5_taste_4 : decode cX5_taste 4 = .ok (.ifCond .eq 17, 3) := by decide +kernel
theorem dX5_taste_7 : decode cX5_taste 7 = .ok (.iload_n 2, 1) := by decide +kernel
theorem dX5_taste_8 : decode cX5_taste 8 = .ok (.invokestatic 63, 3) := by decide +kernel
theorem dX5_taste_11 : decode cX5_taste 11 = .ok (.ifCond .eq 10, 3) := by decide +kernel
theorem dX5_taste_14 : decode cX5_taste 14 = .ok (.iload_n 3, 1) := by decide +kernel
theorem dX5_taste_15 : decode cX5_taste 15 = .ok (.invokestatic 114, 3) := by decide +kernel
theorem dX5_taste_18 : decode cX5_taste 18 = .ok (.ifCond .ne 10, 3) := by decide +kernel
theorem dX5_taste_21 : decode cX5_taste 21 = .ok (.aload_n 0, 1) := by decide +kernel
theorem dX5_taste_22 : decode cX5_taste 22 = .ok (.ldc 44, 2) := by decide +kernel
theorem dX5_taste_24 : decode cX5_taste 24 = .ok (.invokevirtual 67, 3) := by decide +kernel
theorem dX5_taste_27 : decode cX5_taste 27 = .ok (.ireturn, 1) := by decide +kernel
theorem dX5_taste_28 : decode cX5_taste 28 = .ok (.aload_n 0, 1) := by decide +kernel
theorem dX5_taste_29 : decode cX5_taste 29 = .ok (.getfield 12, 3) := by decide +kernel
theorem dX5_taste_32 : decode cX5_taste 32 = .ok (.getfield 49, 3) := by decide +kernel
theorem dX5_taste_35 : decode cX5_taste 35 = .ok (.invokevirtual 117, 3) := by decide +kernel
theorem dX5_taste_38 : decode cX5_taste 38 = .ok (.ifCond .eq 10, 3) := by decide +kernel
theorem dX5_taste_41 : decode cX5_taste 41 = .ok (.aload_n 0, 1) := by decide +kernel
theorem dX5_taste_42 : decode cX5_taste 42 = .ok (.ldc 121, 2) := by decide +kernel
theorem dX5_taste_44 : decode cX5_taste 44 = .ok (.invokevirtual 67, 3) := by decide +kernel
theorem dX5_taste_47 : decode cX5_taste 47 = .ok (.ireturn, 1) := by decide +kernel
theorem dX5_taste_48 : decode cX5_taste 48 = .ok (.aload_n 0, 1) := by decide +kernel
theorem dX5_taste_49 : decode cX5_taste 49 = .ok (.getfield 12, 3) := by decide +kernel
theorem dX5_taste_52 : decode cX5_taste 52 = .ok (.getfield 49, 3) := by decide +kernel
theorem dX5_taste_55 : decode cX5_taste 55 = .ok (.iload_n 1, 1) := by decide +kernel
theorem dX5_taste_56 : decode cX5_taste 56 = .ok (.iload_n 2, 1) := by decide +kernel
theorem dX5_taste_57 : decode cX5_taste 57 = .ok (.iload_n 3, 1) := by decide +kernel
theorem dX5_taste_58 : decode cX5_taste 58 = .ok (.invokevirtual 122, 3) := by decide +kernel
theorem dX5_taste_61 : decode cX5_taste 61 = .ok (.ireturn, 1) := by decide +kernel
theorem dX5_tasteOf_0 : decode cX5_tasteOf 0 = .ok (.aload_n 0, 1) := by decide +kernel
theorem dX5_tasteOf_1 : decode cX5_tasteOf 1 = .ok (.iload_n 1, 1) := by decide +kernel
theorem dX5_tasteOf_2 : decode cX5_tasteOf 2 = .ok (.invokevirtual 126, 3) := by decide +kernel
theorem dX5_tasteOf_5 : decode cX5_tasteOf 5 = .ok (.ifCond .ne 10, 3) := by decide +kernel
theorem dX5_tasteOf_8 : decode cX5_tasteOf 8 = .ok (.aload_n 0, 1) := by decide +kernel
theorem dX5_tasteOf_9 : decode cX5_tasteOf 9 = .ok (.ldc 44, 2) := by decide +kernel
theorem dX5_tasteOf_11 : decode cX5_tasteOf 11 = .ok (.invokevirtual 67, 3) := by decide +kernel
theorem dX5_tasteOf_14 : decode cX5_tasteOf 14 = .ok (.ireturn, 1) := by decide +kernel
theorem dX5_tasteOf_15 : decode cX5_tasteOf 15 = .ok (.iload_n 2, 1) := by decide +kernel
theorem dX5_tasteOf_16 : decode cX5_tasteOf 16 = .ok (.tableswitch 95 0 4 #[36, 49, 62, 75, 85], 36) := by decide +kernel
theorem dX5_tasteOf_52 : decode cX5_tasteOf 52 = .ok (.aload_n 0, 1) := by decide +kernel
theorem dX5_tasteOf_53 : decode cX5_tasteOf 53 = .ok (.getfield 12, 3) := by decide +kernel
theorem dX5_tasteOf_56 : decode cX5_tasteOf 56 = .ok (.getfield 49, 3) := by decide +kernel
theorem dX5_tasteOf_59 : decode cX5_tasteOf 59 = .ok (.getfield 129, 3) := by decide +kernel
theorem dX5_tasteOf_62 : decode cX5_tasteOf 62 = .ok (.iload_n 1, 1) := by decide +kernel
theorem dX5_tasteOf_63 : decode cX5_tasteOf 63 = .ok (.iaload, 1) := by decide +kernel
theorem dX5_tasteOf_64 : decode cX5_tasteOf 64 = .ok (.ireturn, 1) := by decide +kernel
theorem dX5_tasteOf_65 : decode cX5_tasteOf 65 = .ok (.aload_n 0, 1) := by decide +kernel
theorem dX5_tasteOf_66 : decode cX5_tasteOf 66 = .ok (.getfield 12, 3) := by decide +kernel
theorem dX5_tasteOf_69 : decode cX5_tasteOf 69 = .ok (.getfield 49, 3) := by decide +kernel
theorem dX5_tasteOf_72 : decode cX5_tasteOf 72 = .ok (.getfield 132, 3) := by decide +kernel
theorem dX5_tasteOf_75 : decode cX5_tasteOf 75 = .ok (.iload_n 1, 1) := by decide +kernel
theorem dX5_tasteOf_76 : decode cX5_tasteOf 76 = .ok (.iaload, 1) := by decide +kernel
theorem dX5_tasteOf_77 : decode cX5_tasteOf 77 = .ok (.ireturn, 1) := by decide +kernel
theorem dX5_tasteOf_78 : decode cX5_tasteOf 78 = .ok (.aload_n 0, 1) := by decide +kernel
theorem dX5_tasteOf_79 : decode cX5_tasteOf 79 = .ok (.getfield 12, 3) := by decide +kernel
theorem dX5_tasteOf_82 : decode cX5_tasteOf 82 = .ok (.getfield 49, 3) := by decide +kernel
theorem dX5_tasteOf_85 : decode cX5_tasteOf 85 = .ok (.getfield 135, 3) := by decide +kernel
theorem dX5_tasteOf_88 : decode cX5_tasteOf 88 = .ok (.iload_n 1, 1) := by decide +kernel
theorem dX5_tasteOf_89 : decode cX5_tasteOf 89 = .ok (.iaload, 1) := by decide +kernel
theorem dX5_tasteOf_90 : decode cX5_tasteOf 90 = .ok (.ireturn, 1) := by decide +kernel
theorem dX5_tasteOf_91 : decode cX5_tasteOf 91 = .ok (.aload_n 0, 1) := by decide +kernel
theorem dX5_tasteOf_92 : decode cX5_tasteOf 92 = .ok (.getfield 12, 3) := by decide +kernel
theorem dX5_tasteOf_95 : decode cX5_tasteOf 95 = .ok (.iload_n 1, 1) := by decide +kernel
theorem dX5_tasteOf_96 : decode cX5_tasteOf 96 = .ok (.iconst 0, 1) := by decide +kernel
theorem dX5_tasteOf_97 : decode cX5_tasteOf 97 = .ok (.invokevirtual 138, 3) := by decide +kernel
theorem dX5_tasteOf_100 : decode cX5_tasteOf 100 = .ok (.ireturn, 1) := by decide +kernel
theorem dX5_tasteOf_101 : decode cX5_tasteOf 101 = .ok (.aload_n 0, 1) := by decide +kernel
theorem dX5_tasteOf_102 : decode cX5_tasteOf 102 = .ok (.getfield 12, 3) := by decide +kernel
theorem dX5_tasteOf_105 : decode cX5_tasteOf 105 = .ok (.iload_n 1, 1) := by decide +kernel
theorem dX5_tasteOf_106 : decode cX5_tasteOf 106 = .ok (.iconst 0, 1) := by decide +kernel
theorem dX5_tasteOf_107 : decode cX5_tasteOf 107 = .ok (.invokevirtual 142, 3) := by decide +kernel
theorem dX5_tasteOf_110 : decode cX5_tasteOf 110 = .ok (.ireturn, 1) := by decide +kernel
theorem dX5_tasteOf_111 : decode cX5_tasteOf 111 = .ok (.aload_n 0, 1) := by decide +kernel
theorem dX5_tasteOf_112 : decode cX5_tasteOf 112 = .ok (.ldc 44, 2) := by decide +kernel
theorem dX5_tasteOf_114 : decode cX5_tasteOf 114 = .ok (.invokevirtual 67, 3) := by decide +kernel
theorem dX5_tasteOf_117 : decode cX5_tasteOf 117 = .ok (.ireturn, 1) := by decide +kernel
theorem dX5_change_0 : decode cX5_change 0 = .ok (.aload_n 0, 1) := by decide +kernel
theorem dX5_change_1 : decode cX5_change 1 = .ok (.iload_n 1, 1) := by decide +kernel
theorem dX5_change_2 : decode cX5_change 2 = .ok (.invokevirtual 126, 3) := by decide +kernel
theorem dX5_change_5 : decode cX5_change 5 = .ok (.ifCond .ne 10, 3) := by decide +kernel
theorem dX5_change_8 : decode cX5_change 8 = .ok (.aload_n 0, 1) := by decide +kernel
theorem dX5_change_9 : decode cX5_change 9 = .ok (.ldc 44, 2) := by decide +kernel
theorem dX5_change_11 : decode cX5_change 11 = .ok (.invokevirtual 67, 3) := by decide +kernel
theorem dX5_change_14 : decode cX5_change 14 = .ok (.ireturn, 1) := by decide +kernel
theorem dX5_change_15 : decode cX5_change 15 = .ok (.iload_n 3, 1) := by decide +kernel
theorem dX5_change_16 : decode cX5_change 16 = .ok (.iload_n 2, 1) := by decide +kernel
theorem dX5_change_17 : decode cX5_change 17 = .ok (.invokestatic 145, 3) := by decide +kernel
theorem dX5_change_20 : decode cX5_change 20 = .ok (.iload_n 2, 1) := by decide +kernel
theorem dX5_change_21 : decode cX5_change 21 = .ok (.invokestatic 148, 3) := by decide +kernel
theorem dX5_change_24 : decode cX5_change 24 = .ok (.invokestatic 45, 3) := by decide +kernel
theorem dX5_change_27 : decode cX5_change 27 = .ok (.ifCond .ne 10, 3) := by decide +kernel
theorem dX5_change_30 : decode cX5_change 30 = .ok (.aload_n 0, 1) := by decide +kernel
theorem dX5_change_31 : decode cX5_change 31 = .ok (.ldc 44, 2) := by decide +kernel
theorem dX5_change_33 : decode cX5_change 33 = .ok (.invokevirtual 67, 3) := by decide +kernel
theorem dX5_change_36 : decode cX5_change 36 = .ok (.ireturn, 1) := by decide +kernel
theorem dX5_change_37 : decode cX5_change 37 = .ok (.aload_n 0, 1) := by decide +kernel
theorem dX5_change_38 : decode cX5_change 38 = .ok (.getfield 12, 3) := by decide +kernel
theorem dX5_change_41 : decode cX5_change 41 = .ok (.getfield 49, 3) := by decide +kernel
theorem dX5_change_44 : decode cX5_change 44 = .ok (.iload_n 2, 1) := by decide +kernel
theorem dX5_change_45 : decode cX5_change 45 = .ok (.invokevirtual 151, 3) := by decide +kernel
theorem dX5_change_48 : decode cX5_change 48 = .ok (.iload_n 1, 1) := by decide +kernel
theorem dX5_change_49 : decode cX5_change 49 = .ok (.iload_n 3, 1) := by decide +kernel
theorem dX5_change_50 : decode cX5_change 50 = .ok (.invokestatic 74, 3) := by decide +kernel
theorem dX5_change_53 : decode cX5_change 53 = .ok (.ireturn, 1) := by decide +kernel
theorem dX5_swap_0 : decode cX5_swap 0 = .ok (.aload_n 0, 1) := by decide +kernel
theorem dX5_swap_1 : decode cX5_swap 1 = .ok (.iload_n 1, 1) := by decide +kernel
theorem dX5_swap_2 : decode cX5_swap 2 = .ok (.invokevirtual 126, 3) := by decide +kernel
theorem dX5_swap_5 : decode cX5_swap 5 = .ok (.ifCond .eq 11, 3) := by decide +kernel
theorem dX5_swap_8 : decode cX5_swap 8 = .ok (.aload_n 0, 1) := by decide +kernel
theorem dX5_swap_9 : decode cX5_swap 9 = .ok (.iload_n 2, 1) := by decide +kernel
theorem dX5_swap_10 : decode cX5_swap 10 = .ok (.invokevirtual 126, 3) := by decide +kernel
theorem dX5_swap_13 : decode cX5_swap 13 = .ok (.ifCond .ne 10, 3) := by decide +kernel
theorem dX5_swap_16 : decode cX5_swap 16 = .ok (.aload_n 0, 1) := by decide +kernel
theorem dX5_swap_17 : decode cX5_swap 17 = .ok (.ldc 44, 2) := by decide +kernel
theorem dX5_swap_19 : decode cX5_swap 19 = .ok (.invokevirtual 67, 3) := by decide +kernel
theorem dX5_swap_22 : decode cX5_swap 22 = .ok (.ireturn, 1) := by decide +kernel
theorem dX5_swap_23 : decode cX5_swap 23 = .ok (.aload_n 0, 1) := by decide +kernel
theorem dX5_swap_24 : decode cX5_swap 24 = .ok (.getfield 12, 3) := by decide +kernel
theorem dX5_swap_27 : decode cX5_swap 27 = .ok (.getfield 49, 3) := by decide +kernel
theorem dX5_swap_30 : decode cX5_swap 30 = .ok (.iload_n 1, 1) := by decide +kernel
theorem dX5_swap_31 : decode cX5_swap 31 = .ok (.iload_n 2, 1) := by decide +kernel
theorem dX5_swap_32 : decode cX5_swap 32 = .ok (.invokevirtual 155, 3) := by decide +kernel
theorem dX5_swap_35 : decode cX5_swap 35 = .ok (.iconst 1, 1) := by decide +kernel
theorem dX5_swap_36 : decode cX5_swap 36 = .ok (.ireturn, 1) := by decide +kernel
theorem dX5_drop_0 : decode cX5_drop 0 = .ok (.aload_n 0, 1) := by decide +kernel
theorem dX5_drop_1 : decode cX5_drop 1 = .ok (.getfield 12, 3) := by decide +kernel
theorem dX5_drop_4 : decode cX5_drop 4 = .ok (.getfield 49, 3) := by decide +kernel
theorem dX5_drop_7 : decode cX5_drop 7 = .ok (.getfield 53, 3) := by decide +kernel
theorem dX5_drop_10 : decode cX5_drop 10 = .ok (.ifCond .ne 10, 3) := by decide +kernel
theorem dX5_drop_13 : decode cX5_drop 13 = .ok (.aload_n 0, 1) := by decide +kernel
theorem dX5_drop_14 : decode cX5_drop 14 = .ok (.ldc 110, 2) := by decide +kernel
theorem dX5_drop_16 : decode cX5_drop 16 = .ok (.invokevirtual 67, 3) := by decide +kernel
theorem dX5_drop_19 : decode cX5_drop 19 = .ok (.ireturn, 1) := by decide +kernel
theorem dX5_drop_20 : decode cX5_drop 20 = .ok (.aload_n 0, 1) := by decide +kernel
theorem dX5_drop_21 : decode cX5_drop 21 = .ok (.getfield 12, 3) := by decide +kernel
theorem dX5_drop_24 : decode cX5_drop 24 = .ok (.getfield 49, 3) := by decide +kernel
theorem dX5_drop_27 : decode cX5_drop 27 = .ok (.dup, 1) := by decide +kernel
theorem dX5_drop_28 : decode cX5_drop 28 = .ok (.getfield 53, 3) := by decide +kernel
theorem dX5_drop_31 : decode cX5_drop 31 = .ok (.iconst 1, 1) := by decide +kernel
theorem dX5_drop_32 : decode cX5_drop 32 = .ok (.isub, 1) := by decide +kernel
theorem dX5_drop_33 : decode cX5_drop 33 = .ok (.putfield 53, 3) := by decide +kernel
theorem dX5_drop_36 : decode cX5_drop 36 = .ok (.aload_n 0, 1) := by decide +kernel
theorem dX5_drop_37 : decode cX5_drop 37 = .ok (.getfield 12, 3) := by decide +kernel
theorem dX5_drop_40 : decode cX5_drop 40 = .ok (.aload_n 0, 1) := by decide +kernel
theorem dX5_drop_41 : decode cX5_drop 41 = .ok (.getfield 12, 3) := by decide +kernel
theorem dX5_drop_44 : decode cX5_drop 44 = .ok (.getfield 49, 3) := by decide +kernel
theorem dX5_drop_47 : decode cX5_drop 47 = .ok (.getfield 53, 3) := by decide +kernel
theorem dX5_drop_50 : decode cX5_drop 50 = .ok (.invokevirtual 158, 3) := by decide +kernel
theorem dX5_drop_53 : decode cX5_drop 53 = .ok (.aload_n 0, 1) := by decide +kernel
theorem dX5_drop_54 : decode cX5_drop 54 = .ok (.getfield 12, 3) := by decide +kernel
theorem dX5_drop_57 : decode cX5_drop 57 = .ok (.getfield 49, 3) := by decide +kernel
theorem dX5_drop_60 : decode cX5_drop 60 = .ok (.getfield 53, 3) := by decide +kernel
theorem dX5_drop_63 : decode cX5_drop 63 = .ok (.ireturn, 1) := by decide +kernel
theorem dX5_meals_0 : decode cX5_meals 0 = .ok (.iload_n 1, 1) := by decide +kernel
theorem dX5_meals_1 : decode cX5_meals 1 = .ok (.iconst 1, 1) := by decide +kernel
theorem dX5_meals_2 : decode cX5_meals 2 = .ok (.bipush 70, 2) := by decide +kernel
theorem dX5_meals_4 : decode cX5_meals 4 = .ok (.invokestatic 45, 3) := by decide +kernel
theorem dX5_meals_7 : decode cX5_meals 7 = .ok (.ifCond .ne 10, 3) := by decide +kernel
theorem dX5_meals_10 : decode cX5_meals 10 = .ok (.aload_n 0, 1) := by decide +kernel
theorem dX5_meals_11 : decode cX5_meals 11 = .ok (.ldc 44, 2) := by decide +kernel
theorem dX5_meals_13 : decode cX5_meals 13 = .ok (.invokevirtual 67, 3) := by decide +kernel
theorem dX5_meals_16 : decode cX5_meals 16 = .ok (.ireturn, 1) := by decide +kernel
theorem dX5_meals_17 : decode cX5_meals 17 = .ok (.aload_n 0, 1) := by decide +kernel
theorem dX5_meals_18 : decode cX5_meals 18 = .ok (.iload_n 1, 1) := by decide +kernel
theorem dX5_meals_19 : decode cX5_meals 19 = .ok (.invokevirtual 162, 3) := by decide +kernel
theorem dX5_meals_22 : decode cX5_meals 22 = .ok (.ifCond .eq 10, 3) := by decide +kernel
theorem dX5_meals_25 : decode cX5_meals 25 = .ok (.aload_n 0, 1) := by decide +kernel
theorem dX5_meals_26 : decode cX5_meals 26 = .ok (.ldc 165, 2) := by decide +kernel
theorem dX5_meals_28 : decode cX5_meals 28 = .ok (.invokevirtual 67, 3) := by decide +kernel
theorem dX5_meals_31 : decode cX5_meals 31 = .ok (.ireturn, 1) := by decide +kernel
theorem dX5_meals_32 : decode cX5_meals 32 = .ok (.aload_n 0, 1) := by decide +kernel
theorem dX5_meals_33 : decode cX5_meals 33 = .ok (.getfield 12, 3) := by decide +kernel
theorem dX5_meals_36 : decode cX5_meals 36 = .ok (.iload_n 1, 1) := by decide +kernel
theorem dX5_meals_37 : decode cX5_meals 37 = .ok (.invokevirtual 166, 3) := by decide +kernel
theorem dX5_meals_40 : decode cX5_meals 40 = .ok (.ireturn, 1) := by decide +kernel
theorem dX5_now_0 : decode cX5_now 0 = .ok (.iload_n 1, 1) := by decide +kernel
theorem dX5_now_1 : decode cX5_now 1 = .ok (.tableswitch 157 0 10 #[59, 67, 77, 85, 93, 101, 109, 117, 125, 133, 141], 59) := by decide +kernel
theorem dX5_now_60 : decode cX5_now 60 = .ok (.aload_n 0, 1) := by decide +kernel
theorem dX5_now_61 : decode cX5_now 61 = .ok (.getfield 12, 3) := by decide +kernel
theorem dX5_now_64 : decode cX5_now 64 = .ok (.getfield 59, 3) := by decide +kernel
theorem dX5_now_67 : decode cX5_now 67 = .ok (.ireturn, 1) := by decide +kernel
theorem dX5_now_68 : decode cX5_now 68 = .ok (.aload_n 0, 1) := by decide +kernel
theorem dX5_now_69 : decode cX5_now 69 = .ok (.getfield 12, 3) := by decide +kernel
theorem dX5_now_72 : decode cX5_now 72 = .ok (.getfield 59, 3) := by decide +kernel
theorem dX5_now_75 : decode cX5_now 75 = .ok (.iconst 5, 1) := by decide +kernel
theorem dX5_now_76 : decode cX5_now 76 = .ok (.idiv, 1) := by decide +kernel
theorem dX5_now_77 : decode cX5_now 77 = .ok (.ireturn, 1) := by decide +kernel
theorem dX5_now_78 : decode cX5_now 78 = .ok (.aload_n 0, 1) := by decide +kernel
theorem dX5_now_79 : decode cX5_now 79 = .ok (.getfield 12, 3) := by decide +kernel
theorem dX5_now_82 : decode cX5_now 82 = .ok (.getfield 169, 3) := by decide +kernel
theorem dX5_now_85 : decode cX5_now 85 = .ok (.ireturn, 1) := by decide +kernel
theorem dX5_now_86 : decode cX5_now 86 = .ok (.aload_n 0, 1) := by decide +kernel
theorem dX5_now_87 : decode cX5_now 87 = .ok (.getfield 12, 3) := by decide +kernel
theorem dX5_now_90 : decode cX5_now 90 = .ok (.getfield 172, 3) := by decide +kernel
theorem dX5_now_93 : decode cX5_now 93 = .ok (.ireturn, 1) := by decide +kernel
theorem dX5_now_94 : decode cX5_now 94 = .ok (.aload_n 0, 1) := by decide +kernel
theorem dX5_now_95 : decode cX5_now 95 = .ok (.getfield 12, 3) := by decide +kernel
theorem dX5_now_98 : decode cX5_now 98 = .ok (.getfield 175, 3) := by decide +kernel
theorem dX5_now_101 : decode cX5_now 101 = .ok (.ireturn, 1) := by decide +kernel
theorem dX5_now_102 : decode cX5_now 102 = .ok (.aload_n 0, 1) := by decide +kernel
theorem dX5_now_103 : decode cX5_now 103 = .ok (.getfield 12, 3) := by decide +kernel
theorem dX5_now_106 : decode cX5_now 106 = .ok (.getfield 178, 3) := by decide +kernel
theorem dX5_now_109 : decode cX5_now 109 = .ok (.ireturn, 1) := by decide +kernel
theorem dX5_now_110 : decode cX5_now 110 = .ok (.aload_n 0, 1) := by decide +kernel
theorem dX5_now_111 : decode cX5_now 111 = .ok (.getfield 12, 3) := by decide +kernel
theorem dX5_now_114 : decode cX5_now 114 = .ok (.getfield 100, 3) := by decide +kernel
theorem dX5_now_117 : decode cX5_now 117 = .ok (.ireturn, 1) := by decide +kernel
theorem dX5_now_118 : decode cX5_now 118 = .ok (.aload_n 0, 1) := by decide +kernel
theorem dX5_now_119 : decode cX5_now 119 = .ok (.getfield 12, 3) := by decide +kernel
theorem dX5_now_122 : decode cX5_now 122 = .ok (.getfield 103, 3) := by decide +kernel
theorem dX5_now_125 : decode cX5_now 125 = .ok (.ireturn, 1) := by decide +kernel
theorem dX5_now_126 : decode cX5_now 126 = .ok (.aload_n 0, 1) := by decide +kernel
theorem dX5_now_127 : decode cX5_now 127 = .ok (.getfield 12, 3) := by decide +kernel
theorem dX5_now_130 : decode cX5_now 130 = .ok (.invokevirtual 181, 3) := by decide +kernel
theorem dX5_now_133 : decode cX5_now 133 = .ok (.ireturn, 1) := by decide +kernel
theorem dX5_now_134 : decode cX5_now 134 = .ok (.aload_n 0, 1) := by decide +kernel
theorem dX5_now_135 : decode cX5_now 135 = .ok (.getfield 12, 3) := by decide +kernel
theorem dX5_now_138 : decode cX5_now 138 = .ok (.invokevirtual 184, 3) := by decide +kernel
theorem dX5_now_141 : decode cX5_now 141 = .ok (.ireturn, 1) := by decide +kernel
theorem dX5_now_142 : decode cX5_now 142 = .ok (.aload_n 0, 1) := by decide +kernel
theorem dX5_now_143 : decode cX5_now 143 = .ok (.getfield 12, 3) := by decide +kernel
theorem dX5_now_146 : decode cX5_now 146 = .ok (.invokevirtual 187, 3) := by decide +kernel
theorem dX5_now_149 : decode cX5_now 149 = .ok (.ifCond .eq 7, 3) := by decide +kernel
theorem dX5_now_152 : decode cX5_now 152 = .ok (.iconst 1, 1) := by decide +kernel
theorem dX5_now_153 : decode cX5_now 153 = .ok (.goto 4, 3) := by decide +kernel
theorem dX5_now_156 : decode cX5_now 156 = .ok (.iconst 0, 1) := by decide +kernel
theorem dX5_now_157 : decode cX5_now 157 = .ok (.ireturn, 1) := by decide +kernel
theorem dX5_now_158 : decode cX5_now 158 = .ok (.aload_n 0, 1) := by decide +kernel
theorem dX5_now_159 : decode cX5_now 159 = .ok (.ldc 44, 2) := by decide +kernel
theorem dX5_now_161 : decode cX5_now 161 = .ok (.invokevirtual 67, 3) := by decide +kernel
theorem dX5_now_164 : decode cX5_now 164 = .ok (.ireturn, 1) := by decide +kernel
theorem dX5_book_0 : decode cX5_book 0 = .ok (.iload_n 1, 1) := by decide +kernel
theorem dX5_book_1 : decode cX5_book 1 = .ok (.iconst 0, 1) := by decide +kernel
theorem dX5_book_2 : decode cX5_book 2 = .ok (.aload_n 0, 1) := by decide +kernel
theorem dX5_book_3 : decode cX5_book 3 = .ok (.getfield 12, 3) := by decide +kernel
theorem dX5_book_6 : decode cX5_book 6 = .ok (.invokevirtual 184, 3) := by decide +kernel
theorem dX5_book_9 : decode cX5_book 9 = .ok (.iconst 1, 1) := by decide +kernel
theorem dX5_book_10 : decode cX5_book 10 = .ok (.isub, 1) := by decide +kernel
theorem dX5_book_11 : decode cX5_book 11 = .ok (.invokestatic 45, 3) := by decide +kernel
theorem dX5_book_14 : decode cX5_book 14 = .ok (.ifCond .ne 10, 3) := by decide +kernel
theorem dX5_book_17 : decode cX5_book 17 = .ok (.aload_n 0, 1) := by decide +kernel
theorem dX5_book_18 : decode cX5_book 18 = .ok (.ldc 44, 2) := by decide +kernel
theorem dX5_book_20 : decode cX5_book 20 = .ok (.invokevirtual 67, 3) := by decide +kernel
theorem dX5_book_23 : decode cX5_book 23 = .ok (.ireturn, 1) := by decide +kernel
theorem dX5_book_24 : decode cX5_book 24 = .ok (.aload_n 0, 1) := by decide +kernel
theorem dX5_book_25 : decode cX5_book 25 = .ok (.getfield 12, 3) := by decide +kernel
theorem dX5_book_28 : decode cX5_book 28 = .ok (.iload_n 1, 1) := by decide +kernel
theorem dX5_book_29 : decode cX5_book 29 = .ok (.invokevirtual 190, 3) := by decide +kernel
theorem dX5_book_32 : decode cX5_book 32 = .ok (.ireturn, 1) := by decide +kernel
theorem dX5_day_0 : decode cX5_day 0 = .ok (.iload_n 1, 1) := by decide +kernel
theorem dX5_day_1 : decode cX5_day 1 = .ok (.iconst 0, 1) := by decide +kernel
theorem dX5_day_2 : decode cX5_day 2 = .ok (.bipush 7, 2) := by decide +kernel
theorem dX5_day_4 : decode cX5_day 4 = .ok (.invokestatic 45, 3) := by decide +kernel
theorem dX5_day_7 : decode cX5_day 7 = .ok (.ifCond .ne 10, 3) := by decide +kernel
theorem dX5_day_10 : decode cX5_day 10 = .ok (.aload_n 0, 1) := by decide +kernel
theorem dX5_day_11 : decode cX5_day 11 = .ok (.ldc 44, 2) := by decide +kernel
theorem dX5_day_13 : decode cX5_day 13 = .ok (.invokevirtual 67, 3) := by decide +kernel
theorem dX5_day_16 : decode cX5_day 16 = .ok (.ireturn, 1) := by decide +kernel
theorem dX5_day_17 : decode cX5_day 17 = .ok (.aload_n 0, 1) := by decide +kernel
theorem dX5_day_18 : decode cX5_day 18 = .ok (.getfield 12, 3) := by decide +kernel
theorem dX5_day_21 : decode cX5_day 21 = .ok (.invokevirtual 184, 3) := by decide +kernel
theorem dX5_day_24 : decode cX5_day 24 = .ok (.ifCond .ne 10, 3) := by decide +kernel
theorem dX5_day_27 : decode cX5_day 27 = .ok (.aload_n 0, 1) := by decide +kernel
theorem dX5_day_28 : decode cX5_day 28 = .ok (.ldc 110, 2) := by decide +kernel
theorem dX5_day_30 : decode cX5_day 30 = .ok (.invokevirtual 67, 3) := by decide +kernel
theorem dX5_day_33 : decode cX5_day 33 = .ok (.ireturn, 1) := by decide +kernel
theorem dX5_day_34 : decode cX5_day 34 = .ok (.aload_n 0, 1) := by decide +kernel
theorem dX5_day_35 : decode cX5_day 35 = .ok (.getfield 12, 3) := by decide +kernel
theorem dX5_day_38 : decode cX5_day 38 = .ok (.getfield 59, 3) := by decide +kernel
theorem dX5_day_41 : decode cX5_day 41 = .ok (.iconst 1, 1) := by decide +kernel
theorem dX5_day_42 : decode cX5_day 42 = .ok (.isub, 1) := by decide +kernel
theorem dX5_day_43 : decode cX5_day 43 = .ok (.istore_n 2, 1) := by decide +kernel
theorem dX5_day_44 : decode cX5_day 44 = .ok (.iload_n 2, 1) := by decide +kernel
theorem dX5_day_45 : decode cX5_day 45 = .ok (.iconst 5, 1) := by decide +kernel
theorem dX5_day_46 : decode cX5_day 46 = .ok (.idiv, 1) := by decide +kernel
theorem dX5_day_47 : decode cX5_day 47 = .ok (.iload_n 1, 1) := by decide +kernel
theorem dX5_day_48 : decode cX5_day 48 = .ok (.isub, 1) := by decide +kernel
theorem dX5_day_49 : decode cX5_day 49 = .ok (.istore_n 3, 1) := by decide +kernel
theorem dX5_day_50 : decode cX5_day 50 = .ok (.iconst 0, 1) := by decide +kernel
theorem dX5_day_51 : decode cX5_day 51 = .ok (.istore 4, 2) := by decide +kernel
theorem dX5_day_53 : decode cX5_day 53 = .ok (.iconst 0, 1) := by decide +kernel
theorem dX5_day_54 : decode cX5_day 54 = .ok (.istore 5, 2) := by decide +kernel
theorem dX5_day_56 : decode cX5_day 56 = .ok (.iload 5, 2) := by decide +kernel
theorem dX5_day_58 : decode cX5_day 58 = .ok (.aload_n 0, 1) := by decide +kernel
theorem dX5_day_59 : decode cX5_day 59 = .ok (.getfield 12, 3) := by decide +kernel
theorem dX5_day_62 : decode cX5_day 62 = .ok (.invokevirtual 184, 3) := by decide +kernel
theorem dX5_day_65 : decode cX5_day 65 = .ok (.if_icmp .ge 33, 3) := by decide +kernel
theorem dX5_day_68 : decode cX5_day 68 = .ok (.iload_n 2, 1) := by decide +kernel
theorem dX5_day_69 : decode cX5_day 69 = .ok (.iload 5, 2) := by decide +kernel
theorem dX5_day_71 : decode cX5_day 71 = .ok (.isub, 1) := by decide +kernel
theorem dX5_day_72 : decode cX5_day 72 = .ok (.iconst 5, 1) := by decide +kernel
theorem dX5_day_73 : decode cX5_day 73 = .ok (.idiv, 1) := by decide +kernel
theorem dX5_day_74 : decode cX5_day 74 = .ok (.iload_n 3, 1) := by decide +kernel
theorem dX5_day_75 : decode cX5_day 75 = .ok (.if_icmp .ne 17, 3) := by decide +kernel
theorem dX5_day_78 : decode cX5_day 78 = .ok (.iload 4, 2) := by decide +kernel
theorem dX5_day_80 : decode cX5_day 80 = .ok (.aload_n 0, 1) := by decide +kernel
theorem dX5_day_81 : decode cX5_day 81 = .ok (.getfield 12, 3) := by decide +kernel
theorem dX5_day_84 : decode cX5_day 84 = .ok (.iload 5, 2) := by decide +kernel
theorem dX5_day_86 : decode cX5_day 86 = .ok (.invokevirtual 190, 3) := by decide +kernel
theorem dX5_day_89 : decode cX5_day 89 = .ok (.iadd, 1) := by decide +kernel
theorem dX5_day_90 : decode cX5_day 90 = .ok (.istore 4, 2) := by decide +kernel
theorem dX5_day_92 : decode cX5_day 92 = .ok (.iinc 5 1, 3) := by decide +kernel
theorem dX5_day_95 : decode cX5_day 95 = .ok (.goto (-39), 3) := by decide +kernel
theorem dX5_day_98 : decode cX5_day 98 = .ok (.iload 4, 2) := by decide +kernel
theorem dX5_day_100 : decode cX5_day 100 = .ok (.ireturn, 1) := by decide +kernel
theorem dX5_spread_0 : decode cX5_spread 0 = .ok (.aload_n 0, 1) := by decide +kernel
theorem dX5_spread_1 : decode cX5_spread 1 = .ok (.getfield 12, 3) := by decide +kernel
theorem dX5_spread_4 : decode cX5_spread 4 = .ok (.invokevirtual 184, 3) := by decide +kernel
theorem dX5_spread_7 : decode cX5_spread 7 = .ok (.ifCond .ne 10, 3) := by decide +kernel
theorem dX5_spread_10 : decode cX5_spread 10 = .ok (.aload_n 0, 1) := by decide +kernel
theorem dX5_spread_11 : decode cX5_spread 11 = .ok (.ldc 110, 2) := by decide +kernel
theorem dX5_spread_13 : decode cX5_spread 13 = .ok (.invokevirtual 67, 3) := by decide +kernel
theorem dX5_spread_16 : decode cX5_spread 16 = .ok (.ireturn, 1) := by decide +kernel
theorem dX5_spread_17 : decode cX5_spread 17 = .ok (.aload_n 0, 1) := by decide +kernel
theorem dX5_spread_18 : decode cX5_spread 18 = .ok (.getfield 12, 3) := by decide +kernel
theorem dX5_spread_21 : decode cX5_spread 21 = .ok (.iconst 0, 1) := by decide +kernel
theorem dX5_spread_22 : decode cX5_spread 22 = .ok (.invokevirtual 190, 3) := by decide +kernel
theorem dX5_spread_25 : decode cX5_spread 25 = .ok (.istore_n 1, 1) := by decide +kernel
theorem dX5_spread_26 : decode cX5_spread 26 = .ok (.iload_n 1, 1) := by decide +kernel
theorem dX5_spread_27 : decode cX5_spread 27 = .ok (.istore_n 2, 1) := by decide +kernel
theorem dX5_spread_28 : decode cX5_spread 28 = .ok (.iconst 1, 1) := by decide +kernel
theorem dX5_spread_29 : decode cX5_spread 29 = .ok (.istore_n 3, 1) := by decide +kernel
theorem dX5_spread_30 : decode cX5_spread 30 = .ok (.iload_n 3, 1) := by decide +kernel
theorem dX5_spread_31 : decode cX5_spread 31 = .ok (.aload_n 0, 1) := by decide +kernel
theorem dX5_spread_32 : decode cX5_spread 32 = .ok (.getfield 12, 3) := by decide +kernel
theorem dX5_spread_35 : decode cX5_spread 35 = .ok (.invokevirtual 184, 3) := by decide +kernel
theorem dX5_spread_38 : decode cX5_spread 38 = .ok (.if_icmp .ge 35, 3) := by decide +kernel
theorem dX5_spread_41 : decode cX5_spread 41 = .ok (.iload_n 1, 1) := by decide +kernel
theorem dX5_spread_42 : decode cX5_spread 42 = .ok (.aload_n 0, 1) := by decide +kernel
theorem dX5_spread_43 : decode cX5_spread 43 = .ok (.getfield 12, 3) := by decide +kernel
theorem dX5_spread_46 : decode cX5_spread 46 = .ok (.iload_n 3, 1) := by decide +kernel
theorem dX5_spread_47 : decode cX5_spread 47 = .ok (.invokevirtual 190, 3) := by decide +kernel
theorem dX5_spread_50 : decode cX5_spread 50 = .ok (.invokestatic 193, 3) := by decide +kernel
theorem dX5_spread_53 : decode cX5_spread 53 = .ok (.istore_n 1, 1) := by decide +kernel
theorem dX5_spread_54 : decode cX5_spread 54 = .ok (.iload_n 2, 1) := by decide +kernel
theorem dX5_spread_55 : decode cX5_spread 55 = .ok (.aload_n 0, 1) := by decide +kernel
theorem dX5_spread_56 : decode cX5_spread 56 = .ok (.getfield 12, 3) := by decide +kernel
theorem dX5_spread_59 : decode cX5_spread 59 = .ok (.iload_n 3, 1) := by decide +kernel
theorem dX5_spread_60 : decode cX5_spread 60 = .ok (.invokevirtual 190, 3) := by decide +kernel
theorem dX5_spread_63 : decode cX5_spread 63 = .ok (.invokestatic 199, 3) := by decide +kernel
theorem dX5_spread_66 : decode cX5_spread 66 = .ok (.istore_n 2, 1) := by decide +kernel
theorem dX5_spread_67 : decode cX5_spread 67 = .ok (.iinc 3 1, 3) := by decide +kernel
theorem dX5_spread_70 : decode cX5_spread 70 = .ok (.goto (-40), 3) := by decide +kernel
theorem dX5_spread_73 : decode cX5_spread 73 = .ok (.iload_n 2, 1) := by decide +kernel
theorem dX5_spread_74 : decode cX5_spread 74 = .ok (.iload_n 1, 1) := by decide +kernel
theorem dX5_spread_75 : decode cX5_spread 75 = .ok (.isub, 1) := by decide +kernel
theorem dX5_spread_76 : decode cX5_spread 76 = .ok (.ireturn, 1) := by decide +kernel
theorem dX5_ahead_0 : decode cX5_ahead 0 = .ok (.iload_n 1, 1) := by decide +kernel
theorem dX5_ahead_1 : decode cX5_ahead 1 = .ok (.iconst 0, 1) := by decide +kernel
theorem dX5_ahead_2 : decode cX5_ahead 2 = .ok (.sipush 350, 3) := by decide +kernel
theorem dX5_ahead_5 : decode cX5_ahead 5 = .ok (.invokestatic 45, 3) := by decide +kernel
theorem dX5_ahead_8 : decode cX5_ahead 8 = .ok (.ifCond .eq 13, 3) := by decide +kernel
theorem dX5_ahead_11 : decode cX5_ahead 11 = .ok (.iload_n 2, 1) := by decide +kernel
theorem dX5_ahead_12 : decode cX5_ahead 12 = .ok (.iconst 0, 1) := by decide +kernel
theorem dX5_ahead_13 : decode cX5_ahead 13 = .ok (.bipush 13, 2) := by decide +kernel
theorem dX5_ahead_15 : decode cX5_ahead 15 = .ok (.invokestatic 45, 3) := by decide +kernel
theorem dX5_ahead_18 : decode cX5_ahead 18 = .ok (.ifCond .ne 10, 3) := by decide +kernel
theorem dX5_ahead_21 : decode cX5_ahead 21 = .ok (.aload_n 0, 1) := by decide +kernel
theorem dX5_ahead_22 : decode cX5_ahead 22 = .ok (.ldc 44, 2) := by decide +kernel
theorem dX5_ahead_24 : decode cX5_ahead 24 = .ok (.invokevirtual 67, 3) := by decide +kernel
theorem dX5_ahead_27 : decode cX5_ahead 27 = .ok (.ireturn, 1) := by decide +kernel
theorem dX5_ahead_28 : decode cX5_ahead 28 = .ok (.aload_n 0, 1) := by decide +kernel
theorem dX5_ahead_29 : decode cX5_ahead 29 = .ok (.iload_n 1, 1) := by decide +kernel
theorem dX5_ahead_30 : decode cX5_ahead 30 = .ok (.invokevirtual 162, 3) := by decide +kernel
theorem dX5_ahead_33 : decode cX5_ahead 33 = .ok (.ifCond .eq 10, 3) := by decide +kernel
theorem dX5_ahead_36 : decode cX5_ahead 36 = .ok (.aload_n 0, 1) := by decide +kernel
theorem dX5_ahead_37 : decode cX5_ahead 37 = .ok (.ldc 165, 2) := by decide +kernel
theorem dX5_ahead_39 : decode cX5_ahead 39 = .ok (.invokevirtual 67, 3) := by decide +kernel
theorem dX5_ahead_42 : decode cX5_ahead 42 = .ok (.ireturn, 1) := by decide +kernel
theorem dX5_ahead_43 : decode cX5_ahead 43 = .ok (.aload_n 0, 1) := by decide +kernel
theorem dX5_ahead_44 : decode cX5_ahead 44 = .ok (.getfield 16, 3) := by decide +kernel
theorem dX5_ahead_47 : decode cX5_ahead 47 = .ok (.aload_n 0, 1) := by decide +kernel
theorem dX5_ahead_48 : decode cX5_ahead 48 = .ok (.getfield 12, 3) := by decide +kernel
theorem dX5_ahead_51 : decode cX5_ahead 51 = .ok (.invokevirtual 202, 3) := by decide +kernel
theorem dX5_ahead_54 : decode cX5_ahead 54 = .ok (.aload_n 0, 1) := by decide +kernel
theorem dX5_ahead_55 : decode cX5_ahead 55 = .ok (.getfield 16, 3) := by decide +kernel
theorem dX5_ahead_58 : decode cX5_ahead 58 = .ok (.iload_n 1, 1) := by decide +kernel
theorem dX5_ahead_59 : decode cX5_ahead 59 = .ok (.invokevirtual 166, 3) := by decide +kernel
theorem dX5_ahead_62 : decode cX5_ahead 62 = .ok (.istore_n 3, 1) := by decide +kernel
theorem dX5_ahead_63 : decode cX5_ahead 63 = .ok (.iload_n 2, 1) := by decide +kernel
theorem dX5_ahead_64 : decode cX5_ahead 64 = .ok (.tableswitch 58 0 3 #[32, 34, 42, 50], 32) := by decide +kernel
theorem dX5_ahead_96 : decode cX5_ahead 96 = .ok (.iload_n 3, 1) := by decide +kernel
theorem dX5_ahead_97 : decode cX5_ahead 97 = .ok (.ireturn, 1) := by decide +kernel
theorem dX5_ahead_98 : decode cX5_ahead 98 = .ok (.aload_n 0, 1) := by decide +kernel
theorem dX5_ahead_99 : decode cX5_ahead 99 = .ok (.getfield 16, 3) := by decide +kernel
theorem dX5_ahead_102 : decode cX5_ahead 102 = .ok (.invokevirtual 106, 3) := by decide +kernel
theorem dX5_ahead_105 : decode cX5_ahead 105 = .ok (.ireturn, 1) := by decide +kernel
theorem dX5_ahead_106 : decode cX5_ahead 106 = .ok (.aload_n 0, 1) := by decide +kernel
theorem dX5_ahead_107 : decode cX5_ahead 107 = .ok (.getfield 16, 3) := by decide +kernel
theorem dX5_ahead_110 : decode cX5_ahead 110 = .ok (.getfield 175, 3) := by decide +kernel
theorem dX5_ahead_113 : decode cX5_ahead 113 = .ok (.ireturn, 1) := by decide +kernel
theorem dX5_ahead_114 : decode cX5_ahead 114 = .ok (.aload_n 0, 1) := by decide +kernel
theorem dX5_ahead_115 : decode cX5_ahead 115 = .ok (.getfield 16, 3) := by decide +kernel
theorem dX5_ahead_118 : decode cX5_ahead 118 = .ok (.getfield 172, 3) := by decide +kernel
theorem dX5_ahead_121 : decode cX5_ahead 121 = .ok (.ireturn, 1) := by decide +kernel
theorem dX5_ahead_122 : decode cX5_ahead 122 = .ok (.aload_n 0, 1) := by decide +kernel
theorem dX5_ahead_123 : decode cX5_ahead 123 = .ok (.getfield 16, 3) := by decide +kernel
theorem dX5_ahead_126 : decode cX5_ahead 126 = .ok (.getfield 71, 3) := by decide +kernel
theorem dX5_ahead_129 : decode cX5_ahead 129 = .ok (.iload_n 2, 1) := by decide +kernel
theorem dX5_ahead_130 : decode cX5_ahead 130 = .ok (.iconst 4, 1) := by decide +kernel
theorem dX5_ahead_131 : decode cX5_ahead 131 = .ok (.isub, 1) := by decide +kernel
theorem dX5_ahead_132 : decode cX5_ahead 132 = .ok (.iaload, 1) := by decide +kernel
theorem dX5_ahead_133 : decode cX5_ahead 133 = .ok (.ireturn, 1) := by decide +kernel
theorem dX5_when_0 : decode cX5_when 0 = .ok (.iload_n 1, 1) := by decide +kernel
theorem dX5_when_1 : decode cX5_when 1 = .ok (.invokestatic 63, 3) := by decide +kernel
theorem dX5_when_4 : decode cX5_when 4 = .ok (.ifCond .ne 10, 3) := by decide +kernel
theorem dX5_when_7 : decode cX5_when 7 = .ok (.aload_n 0, 1) := by decide +kernel
theorem dX5_when_8 : decode cX5_when 8 = .ok (.ldc 44, 2) := by decide +kernel
theorem dX5_when_10 : decode cX5_when 10 = .ok (.invokevirtual 67, 3) := by decide +kernel
theorem dX5_when_13 : decode cX5_when 13 = .ok (.ireturn, 1) := by decide +kernel
theorem dX5_when_14 : decode cX5_when 14 = .ok (.aload_n 0, 1) := by decide +kernel
theorem dX5_when_15 : decode cX5_when 15 = .ok (.sipush 350, 3) := by decide +kernel
theorem dX5_when_18 : decode cX5_when 18 = .ok (.invokevirtual 162, 3) := by decide +kernel
theorem dX5_when_21 : decode cX5_when 21 = .ok (.ifCond .eq 10, 3) := by decide +kernel
theorem dX5_when_24 : decode cX5_when 24 = .ok (.aload_n 0, 1) := by decide +kernel
theorem dX5_when_25 : decode cX5_when 25 = .ok (.ldc 165, 2) := by decide +kernel
theorem dX5_when_27 : decode cX5_when 27 = .ok (.invokevirtual 67, 3) := by decide +kernel
theorem dX5_when_30 : decode cX5_when 30 = .ok (.ireturn, 1) := by decide +kernel
theorem dX5_when_31 : decode cX5_when 31 = .ok (.aload_n 0, 1) := by decide +kernel
theorem dX5_when_32 : decode cX5_when 32 = .ok (.getfield 16, 3) := by decide +kernel
theorem dX5_when_35 : decode cX5_when 35 = .ok (.aload_n 0, 1) := by decide +kernel
theorem dX5_when_36 : decode cX5_when 36 = .ok (.getfield 12, 3) := by decide +kernel
theorem dX5_when_39 : decode cX5_when 39 = .ok (.invokevirtual 202, 3) := by decide +kernel
theorem dX5_when_42 : decode cX5_when 42 = .ok (.aload_n 0, 1) := by decide +kernel
theorem dX5_when_43 : decode cX5_when 43 = .ok (.iload_n 1, 1) := by decide +kernel
theorem dX5_when_44 : decode cX5_when 44 = .ok (.sipush 350, 3) := by decide +kernel
theorem dX5_when_47 : decode cX5_when 47 = .ok (.invokevirtual 206, 3) := by decide +kernel
theorem dX5_when_50 : decode cX5_when 50 = .ok (.ireturn, 1) := by decide +kernel
theorem dX5_times_0 : decode cX5_times 0 = .ok (.aload_n 0, 1) := by decide +kernel
theorem dX5_times_1 : decode cX5_times 1 = .ok (.iload_n 1, 1) := by decide +kernel
theorem dX5_times_2 : decode cX5_times 2 = .ok (.invokevirtual 126, 3) := by decide +kernel
theorem dX5_times_5 : decode cX5_times 5 = .ok (.ifCond .ne 10, 3) := by decide +kernel
theorem dX5_times_8 : decode cX5_times 8 = .ok (.aload_n 0, 1) := by decide +kernel
theorem dX5_times_9 : decode cX5_times 9 = .ok (.ldc 44, 2) := by decide +kernel
theorem dX5_times_11 : decode cX5_times 11 = .ok (.invokevirtual 67, 3) := by decide +kernel
theorem dX5_times_14 : decode cX5_times 14 = .ok (.ireturn, 1) := by decide +kernel
theorem dX5_times_15 : decode cX5_times 15 = .ok (.aload_n 0, 1) := by decide +kernel
theorem dX5_times_16 : decode cX5_times 16 = .ok (.bipush 99, 2) := by decide +kernel
theorem dX5_times_18 : decode cX5_times 18 = .ok (.invokevirtual 162, 3) := by decide +kernel
theorem dX5_times_21 : decode cX5_times 21 = .ok (.ifCond .eq 10, 3) := by decide +kernel
theorem dX5_times_24 : decode cX5_times 24 = .ok (.aload_n 0, 1) := by decide +kernel
theorem dX5_times_25 : decode cX5_times 25 = .ok (.ldc 165, 2) := by decide +kernel
theorem dX5_times_27 : decode cX5_times 27 = .ok (.invokevirtual 67, 3) := by decide +kernel
theorem dX5_times_30 : decode cX5_times 30 = .ok (.ireturn, 1) := by decide +kernel
theorem dX5_times_31 : decode cX5_times 31 = .ok (.aload_n 0, 1) := by decide +kernel
theorem dX5_times_32 : decode cX5_times 32 = .ok (.getfield 16, 3) := by decide +kernel
theorem dX5_times_35 : decode cX5_times 35 = .ok (.aload_n 0, 1) := by decide +kernel
theorem dX5_times_36 : decode cX5_times 36 = .ok (.getfield 12, 3) := by decide +kernel
theorem dX5_times_39 : decode cX5_times 39 = .ok (.invokevirtual 202, 3) := by decide +kernel
theorem dX5_times_42 : decode cX5_times 42 = .ok (.aload_n 0, 1) := by decide +kernel
theorem dX5_times_43 : decode cX5_times 43 = .ok (.getfield 16, 3) := by decide +kernel
theorem dX5_times_46 : decode cX5_times 46 = .ok (.getfield 49, 3) := by decide +kernel
theorem dX5_times_49 : decode cX5_times 49 = .ok (.iload_n 1, 1) := by decide +kernel
theorem dX5_times_50 : decode cX5_times 50 = .ok (.invokevirtual 209, 3) := by decide +kernel
theorem dX5_times_53 : decode cX5_times 53 = .ok (.aload_n 0, 1) := by decide +kernel
theorem dX5_times_54 : decode cX5_times 54 = .ok (.aload_n 0, 1) := by decide +kernel
theorem dX5_times_55 : decode cX5_times 55 = .ok (.getfield 12, 3) := by decide +kernel
theorem dX5_times_58 : decode cX5_times 58 = .ok (.getfield 49, 3) := by decide +kernel
theorem dX5_times_61 : decode cX5_times 61 = .ok (.getfield 132, 3) := by decide +kernel
theorem dX5_times_64 : decode cX5_times 64 = .ok (.iload_n 1, 1) := by decide +kernel
theorem dX5_times_65 : decode cX5_times 65 = .ok (.iaload, 1) := by decide +kernel
theorem dX5_times_66 : decode cX5_times 66 = .ok (.bipush 99, 2) := by decide +kernel
theorem dX5_times_68 : decode cX5_times 68 = .ok (.invokevirtual 206, 3) := by decide +kernel
theorem dX5_times_71 : decode cX5_times 71 = .ok (.ireturn, 1) := by decide +kernel
theorem dX5_mealsTillLiked_0 : decode cX5_mealsTillLiked 0 = .ok (.iconst 0, 1) := by decide +kernel
theorem dX5_mealsTillLiked_1 : decode cX5_mealsTillLiked 1 = .ok (.istore_n 3, 1) := by decide +kernel
theorem dX5_mealsTillLiked_2 : decode cX5_mealsTillLiked 2 = .ok (.iload_n 3, 1) := by decide +kernel
theorem dX5_mealsTillLiked_3 : decode cX5_mealsTillLiked 3 = .ok (.iload_n 2, 1) := by decide +kernel
theorem dX5_mealsTillLiked_4 : decode cX5_mealsTillLiked 4 = .ok (.if_icmp .ge 30, 3) := by decide +kernel
theorem dX5_mealsTillLiked_7 : decode cX5_mealsTillLiked 7 = .ok (.aload_n 0, 1) := by decide +kernel
theorem dX5_mealsTillLiked_8 : decode cX5_mealsTillLiked 8 = .ok (.getfield 16, 3) := by decide +kernel
theorem dX5_mealsTillLiked_11 : decode cX5_mealsTillLiked 11 = .ok (.iload_n 1, 1) := by decide +kernel
theorem dX5_mealsTillLiked_12 : decode cX5_mealsTillLiked 12 = .ok (.invokevirtual 84, 3) := by decide +kernel
theorem dX5_mealsTillLiked_15 : decode cX5_mealsTillLiked 15 = .ok (.ifCond .eq 5, 3) := by decide +kernel
theorem dX5_mealsTillLiked_18 : decode cX5_mealsTillLiked 18 = .ok (.iload_n 3, 1) := by decide +kernel
theorem dX5_mealsTillLiked_19 : decode cX5_mealsTillLiked 19 = .ok (.ireturn, 1) := by decide +kernel
theorem dX5_mealsTillLiked_20 : decode cX5_mealsTillLiked 20 = .ok (.aload_n 0, 1) := by decide +kernel
theorem dX5_mealsTillLiked_21 : decode cX5_mealsTillLiked 21 = .ok (.getfield 16, 3) := by decide +kernel
theorem dX5_mealsTillLiked_24 : decode cX5_mealsTillLiked 24 = .ok (.invokevirtual 212, 3) := by decide +kernel
theorem dX5_mealsTillLiked_27 : decode cX5_mealsTillLiked 27 = .ok (.pop, 1) := by decide +kernel
theorem dX5_mealsTillLiked_28 : decode cX5_mealsTillLiked 28 = .ok (.iinc 3 1, 3) := by decide +kernel
theorem dX5_mealsTillLiked_31 : decode cX5_mealsTillLiked 31 = .ok (.goto (-29), 3) := by decide +kernel
theorem dX5_mealsTillLiked_34 : decode cX5_mealsTillLiked 34 = .ok (.aload_n 0, 1) := by decide +kernel
theorem dX5_mealsTillLiked_35 : decode cX5_mealsTillLiked 35 = .ok (.getfield 16, 3) := by decide +kernel
theorem dX5_mealsTillLiked_38 : decode cX5_mealsTillLiked 38 = .ok (.iload_n 1, 1) := by decide +kernel
theorem dX5_mealsTillLiked_39 : decode cX5_mealsTillLiked 39 = .ok (.invokevirtual 84, 3) := by decide +kernel
theorem dX5_mealsTillLiked_42 : decode cX5_mealsTillLiked 42 = .ok (.ifCond .eq 7, 3) := by decide +kernel
theorem dX5_mealsTillLiked_45 : decode cX5_mealsTillLiked 45 = .ok (.iload_n 2, 1) := by decide +kernel
theorem dX5_mealsTillLiked_46 : decode cX5_mealsTillLiked 46 = .ok (.goto 9, 3) := by decide +kernel
theorem dX5_mealsTillLiked_49 : decode cX5_mealsTillLiked 49 = .ok (.aload_n 0, 1) := by decide +kernel
theorem dX5_mealsTillLiked_50 : decode cX5_mealsTillLiked 50 = .ok (.ldc 110, 2) := by decide +kernel
theorem dX5_mealsTillLiked_52 : decode cX5_mealsTillLiked 52 = .ok (.invokevirtual 67, 3) := by decide +kernel
theorem dX5_mealsTillLiked_55 : decode cX5_mealsTillLiked 55 = .ok (.ireturn, 1) := by decide +kernel
theorem dX5_kindFor_0 : decode cX5_kindFor 0 = .ok (.aload_n 0, 1) := by decide +kernel
theorem dX5_kindFor_1 : decode cX5_kindFor 1 = .ok (.iload_n 1, 1) := by decide +kernel
theorem dX5_kindFor_2 : decode cX5_kindFor 2 = .ok (.iload_n 2, 1) := by decide +kernel
theorem dX5_kindFor_3 : decode cX5_kindFor 3 = .ok (.iconst 0, 1) := by decide +kernel
theorem dX5_kindFor_4 : decode cX5_kindFor 4 = .ok (.invokevirtual 215, 3) := by decide +kernel
theorem dX5_kindFor_7 : decode cX5_kindFor 7 = .ok (.ireturn, 1) := by decide +kernel
theorem dX5_foodFor_0 : decode cX5_foodFor 0 = .ok (.aload_n 0, 1) := by decide +kernel
theorem dX5_foodFor_1 : decode cX5_foodFor 1 = .ok (.iload_n 1, 1) := by decide +kernel
theorem dX5_foodFor_2 : decode cX5_foodFor 2 = .ok (.iload_n 2, 1) := by decide +kernel
theorem dX5_foodFor_3 : decode cX5_foodFor 3 = .ok (.iconst 1, 1) := by decide +kernel
theorem dX5_foodFor_4 : decode cX5_foodFor 4 = .ok (.invokevirtual 215, 3) := by decide +kernel
theorem dX5_foodFor_7 : decode cX5_foodFor 7 = .ok (.ireturn, 1) := by decide +kernel
theorem dX5_putFor_0 : decode cX5_putFor 0 = .ok (.aload_n 0, 1) := by decide +kernel
theorem dX5_putFor_1 : decode cX5_putFor 1 = .ok (.iload_n 1, 1) := by decide +kernel
theorem dX5_putFor_2 : decode cX5_putFor 2 = .ok (.iload_n 2, 1) := by decide +kernel
theorem dX5_putFor_3 : decode cX5_putFor 3 = .ok (.iconst 2, 1) := by decide +kernel
theorem dX5_putFor_4 : decode cX5_putFor 4 = .ok (.invokevirtual 215, 3) := by decide +kernel
theorem dX5_putFor_7 : decode cX5_putFor 7 = .ok (.ireturn, 1) := by decide +kernel
theorem dX5_bestFor_0 : decode cX5_bestFor 0 = .ok (.aload_n 0, 1) := by decide +kernel
theorem dX5_bestFor_1 : decode cX5_bestFor 1 = .ok (.iload_n 1, 1) := by decide +kernel
theorem dX5_bestFor_2 : decode cX5_bestFor 2 = .ok (.invokevirtual 126, 3) := by decide +kernel
theorem dX5_bestFor_5 : decode cX5_bestFor 5 = .ok (.ifCond .eq 14, 3) := by decide +kernel
theorem dX5_bestFor_8 : decode cX5_bestFor 8 = .ok (.iload_n 2, 1) := by decide +kernel
theorem dX5_bestFor_9 : decode cX5_bestFor 9 = .ok (.iconst 1, 1) := by decide +kernel
theorem dX5_bestFor_10 : decode cX5_bestFor 10 = .ok (.sipush 175, 3) := by decide +kernel
theorem dX5_bestFor_13 : decode cX5_bestFor 13 = .ok (.invokestatic 45, 3) := by decide +kernel
theorem dX5_bestFor_16 : decode cX5_bestFor 16 = .ok (.ifCond .ne 10, 3) := by decide +kernel
theorem dX5_bestFor_19 : decode cX5_bestFor 19 = .ok (.aload_n 0, 1) := by decide +kernel
theorem dX5_bestFor_20 : decode cX5_bestFor 20 = .ok (.ldc 44, 2) := by decide +kernel
theorem dX5_bestFor_22 : decode cX5_bestFor 22 = .ok (.invokevirtual 67, 3) := by decide +kernel
theorem dX5_bestFor_25 : decode cX5_bestFor 25 = .ok (.ireturn, 1) := by decide +kernel
theorem dX5_bestFor_26 : decode cX5_bestFor 26 = .ok (.aload_n 0, 1) := by decide +kernel
theorem dX5_bestFor_27 : decode cX5_bestFor 27 = .ok (.iload_n 2, 1) := by decide +kernel
theorem dX5_bestFor_28 : decode cX5_bestFor 28 = .ok (.invokevirtual 162, 3) := by decide +kernel
theorem dX5_bestFor_31 : decode cX5_bestFor 31 = .ok (.ifCond .eq 10, 3) := by decide +kernel
theorem dX5_bestFor_34 : decode cX5_bestFor 34 = .ok (.aload_n 0, 1) := by decide +kernel
theorem dX5_bestFor_35 : decode cX5_bestFor 35 = .ok (.ldc 165, 2) := by decide +kernel
theorem dX5_bestFor_37 : decode cX5_bestFor 37 = .ok (.invokevirtual 67, 3) := by decide +kernel
theorem dX5_bestFor_40 : decode cX5_bestFor 40 = .ok (.ireturn, 1) := by decide +kernel
theorem dX5_bestFor_41 : decode cX5_bestFor 41 = .ok (.iconst (-1), 1) := by decide +kernel
theorem dX5_bestFor_42 : decode cX5_bestFor 42 = .ok (.istore 4, 2) := by decide +kernel
theorem dX5_bestFor_44 : decode cX5_bestFor 44 = .ok (.iconst (-1), 1) := by decide +kernel
theorem dX5_bestFor_45 : decode cX5_bestFor 45 = .ok (.istore 5, 2) := by decide +kernel
theorem dX5_bestFor_47 : decode cX5_bestFor 47 = .ok (.iload_n 3, 1) := by decide +kernel
theorem dX5_bestFor_48 : decode cX5_bestFor 48 = .ok (.invokestatic 145, 3) := by decide +kernel
theorem dX5_bestFor_51 : decode cX5_bestFor 51 = .ok (.istore 6, 2) := by decide +kernel
theorem dX5_bestFor_53 : decode cX5_bestFor 53 = .ok (.iload 6, 2) := by decide +kernel
theorem dX5_bestFor_55 : decode cX5_bestFor 55 = .ok (.iload_n 3, 1) := by decide +kernel
theorem dX5_bestFor_56 : decode cX5_bestFor 56 = .ok (.invokestatic 148, 3) := by decide +kernel
theorem dX5_bestFor_59 : decode cX5_bestFor 59 = .ok (.if_icmp .gt 82, 3) := by decide +kernel
theorem dX5_bestFor_62 : decode cX5_bestFor 62 = .ok (.aload_n 0, 1) := by decide +kernel
theorem dX5_bestFor_63 : decode cX5_bestFor 63 = .ok (.getfield 16, 3) := by decide +kernel
theorem dX5_bestFor_66 : decode cX5_bestFor 66 = .ok (.aload_n 0, 1) := by decide +kernel
theorem dX5_bestFor_67 : decode cX5_bestFor 67 = .ok (.getfield 12, 3) := by decide +kernel
theorem dX5_bestFor_70 : decode cX5_bestFor 70 = .ok (.invokevirtual 202, 3) := by decide +kernel
theorem dX5_bestFor_73 : decode cX5_bestFor 73 = .ok (.aload_n 0, 1) := by decide +kernel
theorem dX5_bestFor_74 : decode cX5_bestFor 74 = .ok (.getfield 16, 3) := by decide +kernel
theorem dX5_bestFor_77 : decode cX5_bestFor 77 = .ok (.getfield 49, 3) := by decide +kernel
theorem dX5_bestFor_80 : decode cX5_bestFor 80 = .ok (.iload_n 3, 1) := by decide +kernel
theorem dX5_bestFor_81 : decode cX5_bestFor 81 = .ok (.invokevirtual 151, 3) := by decide +kernel
theorem dX5_bestFor_84 : decode cX5_bestFor 84 = .ok (.iload_n 1, 1) := by decide +kernel
theorem dX5_bestFor_85 : decode cX5_bestFor 85 = .ok (.iload 6, 2) := by decide +kernel
theorem dX5_bestFor_87 : decode cX5_bestFor 87 = .ok (.iastore, 1) := by decide +kernel
theorem dX5_bestFor_88 : decode cX5_bestFor 88 = .ok (.aload_n 0, 1) := by decide +kernel
theorem dX5_bestFor_89 : decode cX5_bestFor 89 = .ok (.getfield 16, 3) := by decide +kernel
theorem dX5_bestFor_92 : decode cX5_bestFor 92 = .ok (.iload_n 2, 1) := by decide +kernel
theorem dX5_bestFor_93 : decode cX5_bestFor 93 = .ok (.invokevirtual 166, 3) := by decide +kernel
theorem dX5_bestFor_96 : decode cX5_bestFor 96 = .ok (.istore 7, 2) := by decide +kernel
theorem dX5_bestFor_98 : decode cX5_bestFor 98 = .ok (.iload_n 3, 1) := by decide +kernel
theorem dX5_bestFor_99 : decode cX5_bestFor 99 = .ok (.iconst 2, 1) := by decide +kernel
theorem dX5_bestFor_100 : decode cX5_bestFor 100 = .ok (.if_icmp .ne 8, 3) := by decide +kernel
theorem dX5_bestFor_103 : decode cX5_bestFor 103 = .ok (.iload 7, 2) := by decide +kernel
theorem dX5_bestFor_105 : decode cX5_bestFor 105 = .ok (.goto 13, 3) := by decide +kernel
theorem dX5_bestFor_108 : decode cX5_bestFor 108 = .ok (.aload_n 0, 1) := by decide +kernel
theorem dX5_bestFor_109 : decode cX5_bestFor 109 = .ok (.getfield 16, 3) := by decide +kernel
theorem dX5_bestFor_112 : decode cX5_bestFor 112 = .ok (.invokevirtual 106, 3) := by decide +kernel
theorem dX5_bestFor_115 : decode cX5_bestFor 115 = .ok (.invokestatic 218, 3) := by decide +kernel
theorem dX5_bestFor_118 : decode cX5_bestFor 118 = .ok (.istore 8, 2) := by decide +kernel
theorem dX5_bestFor_120 : decode cX5_bestFor 120 = .ok (.iload 8, 2) := by decide +kernel
theorem dX5_bestFor_122 : decode cX5_bestFor 122 = .ok (.iload 5, 2) := by decide +kernel
theorem dX5_bestFor_124 : decode cX5_bestFor 124 = .ok (.if_icmp .le 11, 3) := by decide +kernel
theorem dX5_bestFor_127 : decode cX5_bestFor 127 = .ok (.iload 8, 2) := by decide +kernel
theorem dX5_bestFor_129 : decode cX5_bestFor 129 = .ok (.istore 5, 2) := by decide +kernel
theorem dX5_bestFor_131 : decode cX5_bestFor 131 = .ok (.iload 6, 2) := by decide +kernel
theorem dX5_bestFor_133 : decode cX5_bestFor 133 = .ok (.istore 4, 2) := by decide +kernel
theorem dX5_bestFor_135 : decode cX5_bestFor 135 = .ok (.iinc 6 1, 3) := by decide +kernel
theorem dX5_bestFor_138 : decode cX5_bestFor 138 = .ok (.goto (-85), 3) := by decide +kernel
theorem dX5_bestFor_141 : decode cX5_bestFor 141 = .ok (.iload 4, 2) := by decide +kernel
theorem dX5_bestFor_143 : decode cX5_bestFor 143 = .ok (.ireturn, 1) := by decide +kernel
theorem dX5_paid_0 : decode cX5_paid 0 = .ok (.iload_n 1, 1) := by decide +kernel
theorem dX5_paid_1 : decode cX5_paid 1 = .ok (.iconst 0, 1) := by decide +kernel
theorem dX5_paid_2 : decode cX5_paid 2 = .ok (.sipush 175, 3) := by decide +kernel
theorem dX5_paid_5 : decode cX5_paid 5 = .ok (.invokestatic 45, 3) := by decide +kernel
theorem dX5_paid_8 : decode cX5_paid 8 = .ok (.ifCond .ne 10, 3) := by decide +kernel
theorem dX5_paid_11 : decode cX5_paid 11 = .ok (.aload_n 0, 1) := by decide +kernel
theorem dX5_paid_12 : decode cX5_paid 12 = .ok (.ldc 44, 2) := by decide +kernel
theorem dX5_paid_14 : decode cX5_paid 14 = .ok (.invokevirtual 67, 3) := by decide +kernel
theorem dX5_paid_17 : decode cX5_paid 17 = .ok (.ireturn, 1) := by decide +kernel
theorem dX5_paid_18 : decode cX5_paid 18 = .ok (.aload_n 0, 1) := by decide +kernel
theorem dX5_paid_19 : decode cX5_paid 19 = .ok (.iload_n 1, 1) := by decide +kernel
theorem dX5_paid_20 : decode cX5_paid 20 = .ok (.invokevirtual 162, 3) := by decide +kernel
theorem dX5_paid_23 : decode cX5_paid 23 = .ok (.ifCond .eq 10, 3) := by decide +kernel
theorem dX5_paid_26 : decode cX5_paid 26 = .ok (.aload_n 0, 1) := by decide +kernel
theorem dX5_paid_27 : decode cX5_paid 27 = .ok (.ldc 165, 2) := by decide +kernel
theorem dX5_paid_29 : decode cX5_paid 29 = .ok (.invokevirtual 67, 3) := by decide +kernel
theorem dX5_paid_32 : decode cX5_paid 32 = .ok (.ireturn, 1) := by decide +kernel
theorem dX5_paid_33 : decode cX5_paid 33 = .ok (.aload_n 0, 1) := by decide +kernel
theorem dX5_paid_34 : decode cX5_paid 34 = .ok (.getfield 12, 3) := by decide +kernel
theorem dX5_paid_37 : decode cX5_paid 37 = .ok (.getfield 100, 3) := by decide +kernel
theorem dX5_paid_40 : decode cX5_paid 40 = .ok (.istore_n 2, 1) := by decide +kernel
theorem dX5_paid_41 : decode cX5_paid 41 = .ok (.iload_n 2, 1) := by decide +kernel
theorem dX5_paid_42 : decode cX5_paid 42 = .ok (.invokestatic 63, 3) := by decide +kernel
theorem dX5_paid_45 : decode cX5_paid 45 = .ok (.ifCond .ne 10, 3) := by decide +kernel
theorem dX5_paid_48 : decode cX5_paid 48 = .ok (.aload_n 0, 1) := by decide +kernel
theorem dX5_paid_49 : decode cX5_paid 49 = .ok (.ldc 110, 2) := by decide +kernel
theorem dX5_paid_51 : decode cX5_paid 51 = .ok (.invokevirtual 67, 3) := by decide +kernel
theorem dX5_paid_54 : decode cX5_paid 54 = .ok (.ireturn, 1) := by decide +kernel
theorem dX5_paid_55 : decode cX5_paid 55 = .ok (.aload_n 0, 1) := by decide +kernel
theorem dX5_paid_56 : decode cX5_paid 56 = .ok (.getfield 16, 3) := by decide +kernel
theorem dX5_paid_59 : decode cX5_paid 59 = .ok (.aload_n 0, 1) := by decide +kernel
theorem dX5_paid_60 : decode cX5_paid 60 = .ok (.getfield 12, 3) := by decide +kernel
theorem dX5_paid_63 : decode cX5_paid 63 = .ok (.invokevirtual 202, 3) := by decide +kernel
theorem dX5_paid_66 : decode cX5_paid 66 = .ok (.aload_n 0, 1) := by decide +kernel
theorem dX5_paid_67 : decode cX5_paid 67 = .ok (.getfield 16, 3) := by decide +kernel
theorem dX5_paid_70 : decode cX5_paid 70 = .ok (.iload_n 1, 1) := by decide +kernel
theorem dX5_paid_71 : decode cX5_paid 71 = .ok (.invokevirtual 166, 3) := by decide +kernel
theorem dX5_paid_74 : decode cX5_paid 74 = .ok (.pop, 1) := by decide +kernel
theorem dX5_paid_75 : decode cX5_paid 75 = .ok (.aload_n 0, 1) := by decide +kernel
theorem dX5_paid_76 : decode cX5_paid 76 = .ok (.getfield 16, 3) := by decide +kernel
theorem dX5_paid_79 : decode cX5_paid 79 = .ok (.getfield 71, 3) := by decide +kernel
theorem dX5_paid_82 : decode cX5_paid 82 = .ok (.iload_n 2, 1) := by decide +kernel
theorem dX5_paid_83 : decode cX5_paid 83 = .ok (.iaload, 1) := by decide +kernel
theorem dX5_paid_84 : decode cX5_paid 84 = .ok (.istore_n 3, 1) := by decide +kernel
theorem dX5_paid_85 : decode cX5_paid 85 = .ok (.aload_n 0, 1) := by decide +kernel
theorem dX5_paid_86 : decode cX5_paid 86 = .ok (.getfield 16, 3) := by decide +kernel
theorem dX5_paid_89 : decode cX5_paid 89 = .ok (.aload_n 0, 1) := by decide +kernel
theorem dX5_paid_90 : decode cX5_paid 90 = .ok (.getfield 12, 3) := by decide +kernel
theorem dX5_paid_93 : decode cX5_paid 93 = .ok (.invokevirtual 202, 3) := by decide +kernel
theorem dX5_paid_96 : decode cX5_paid 96 = .ok (.aload_n 0, 1) := by decide +kernel
theorem dX5_paid_97 : decode cX5_paid 97 = .ok (.getfield 16, 3) := by decide +kernel
theorem dX5_paid_100 : decode cX5_paid 100 = .ok (.getfield 49, 3) := by decide +kernel
theorem dX5_paid_103 : decode cX5_paid 103 = .ok (.invokevirtual 223, 3) := by decide +kernel
theorem dX5_paid_106 : decode cX5_paid 106 = .ok (.aload_n 0, 1) := by decide +kernel
theorem dX5_paid_107 : decode cX5_paid 107 = .ok (.getfield 16, 3) := by decide +kernel
theorem dX5_paid_110 : decode cX5_paid 110 = .ok (.iload_n 1, 1) := by decide +kernel
theorem dX5_paid_111 : decode cX5_paid 111 = .ok (.invokevirtual 166, 3) := by decide +kernel
theorem dX5_paid_114 : decode cX5_paid 114 = .ok (.pop, 1) := by decide +kernel
theorem dX5_paid_115 : decode cX5_paid 115 = .ok (.iload_n 3, 1) := by decide +kernel
theorem dX5_paid_116 : decode cX5_paid 116 = .ok (.aload_n 0, 1) := by decide +kernel
theorem dX5_paid_117 : decode cX5_paid 117 = .ok (.getfield 16, 3) := by decide +kernel
theorem dX5_paid_120 : decode cX5_paid 120 = .ok (.getfield 71, 3) := by decide +kernel
theorem dX5_paid_123 : decode cX5_paid 123 = .ok (.iload_n 2, 1) := by decide +kernel
theorem dX5_paid_124 : decode cX5_paid 124 = .ok (.iaload, 1) := by decide +kernel
theorem dX5_paid_125 : decode cX5_paid 125 = .ok (.isub, 1) := by decide +kernel
theorem dX5_paid_126 : decode cX5_paid 126 = .ok (.ireturn, 1) := by decide +kernel
theorem dX5_worry_0 : decode cX5_worry 0 = .ok (.aload_n 0, 1) := by decide +kernel
theorem dX5_worry_1 : decode cX5_worry 1 = .ok (.sipush 175, 3) := by decide +kernel
theorem dX5_worry_4 : decode cX5_worry 4 = .ok (.invokevirtual 162, 3) := by decide +kernel
theorem dX5_worry_7 : decode cX5_worry 7 = .ok (.ifCond .eq 10, 3) := by decide +kernel
theorem dX5_worry_10 : decode cX5_worry 10 = .ok (.aload_n 0, 1) := by decide +kernel
theorem dX5_worry_11 : decode cX5_worry 11 = .ok (.ldc 165, 2) := by decide +kernel
theorem dX5_worry_13 : decode cX5_worry 13 = .ok (.invokevirtual 67, 3) := by decide +kernel
theorem dX5_worry_16 : decode cX5_worry 16 = .ok (.ireturn, 1) := by decide +kernel
theorem dX5_worry_17 : decode cX5_worry 17 = .ok (.aload_n 0, 1) := by decide +kernel
theorem dX5_worry_18 : decode cX5_worry 18 = .ok (.getfield 16, 3) := by decide +kernel
theorem dX5_worry_21 : decode cX5_worry 21 = .ok (.aload_n 0, 1) := by decide +kernel
theorem dX5_worry_22 : decode cX5_worry 22 = .ok (.getfield 12, 3) := by decide +kernel
theorem dX5_worry_25 : decode cX5_worry 25 = .ok (.invokevirtual 202, 3) := by decide +kernel
theorem dX5_worry_28 : decode cX5_worry 28 = .ok (.iconst 1, 1) := by decide +kernel
theorem dX5_worry_29 : decode cX5_worry 29 = .ok (.istore_n 1, 1) := by decide +kernel
theorem dX5_worry_30 : decode cX5_worry 30 = .ok (.iload_n 1, 1) := by decide +kernel
theorem dX5_worry_31 : decode cX5_worry 31 = .ok (.sipush 175, 3) := by decide +kernel
theorem dX5_worry_34 : decode cX5_worry 34 = .ok (.if_icmp .gt 29, 3) := by decide +kernel
theorem dX5_worry_37 : decode cX5_worry 37 = .ok (.aload_n 0, 1) := by decide +kernel
theorem dX5_worry_38 : decode cX5_worry 38 = .ok (.getfield 16, 3) := by decide +kernel
theorem dX5_worry_41 : decode cX5_worry 41 = .ok (.invokevirtual 212, 3) := by decide +kernel
theorem dX5_worry_44 : decode cX5_worry 44 = .ok (.pop, 1) := by decide +kernel
theorem dX5_worry_45 : decode cX5_worry 45 = .ok (.aload_n 0, 1) := by decide +kernel
theorem dX5_worry_46 : decode cX5_worry 46 = .ok (.getfield 16, 3) := by decide +kernel
theorem dX5_worry_49 : decode cX5_worry 49 = .ok (.invokevirtual 187, 3) := by decide +kernel
theorem dX5_worry_52 : decode cX5_worry 52 = .ok (.ifCond .eq 5, 3) := by decide +kernel
theorem dX5_worry_55 : decode cX5_worry 55 = .ok (.iload_n 1, 1) := by decide +kernel
theorem dX5_worry_56 : decode cX5_worry 56 = .ok (.ireturn, 1) := by decide +kernel
theorem dX5_worry_57 : decode cX5_worry 57 = .ok (.iinc 1 1, 3) := by decide +kernel
theorem dX5_worry_60 : decode cX5_worry 60 = .ok (.goto (-30), 3) := by decide +kernel
theorem dX5_worry_63 : decode cX5_worry 63 = .ok (.aload_n 0, 1) := by decide +kernel
theorem dX5_worry_64 : decode cX5_worry 64 = .ok (.ldc 110, 2) := by decide +kernel
theorem dX5_worry_66 : decode cX5_worry 66 = .ok (.invokevirtual 67, 3) := by decide +kernel
theorem dX5_worry_69 : decode cX5_worry 69 = .ok (.ireturn, 1) := by decide +kernel
theorem dX5_likedBehind_0 : decode cX5_likedBehind 0 = .ok (.aload_n 0, 1) := by decide +kernel
theorem dX5_likedBehind_1 : decode cX5_likedBehind 1 = .ok (.getfield 16, 3) := by decide +kernel
theorem dX5_likedBehind_4 : decode cX5_likedBehind 4 = .ok (.iload_n 1, 1) := by decide +kernel
theorem dX5_likedBehind_5 : decode cX5_likedBehind 5 = .ok (.invokevirtual 166, 3) := by decide +kernel
theorem dX5_likedBehind_8 : decode cX5_likedBehind 8 = .ok (.pop, 1) := by decide +kernel
theorem dX5_likedBehind_9 : decode cX5_likedBehind 9 = .ok (.aload_n 0, 1) := by decide +kernel
theorem dX5_likedBehind_10 : decode cX5_likedBehind 10 = .ok (.getfield 16, 3) := by decide +kernel
theorem dX5_likedBehind_13 : decode cX5_likedBehind 13 = .ok (.invokevirtual 106, 3) := by decide +kernel
theorem dX5_likedBehind_16 : decode cX5_likedBehind 16 = .ok (.invokestatic 218, 3) := by decide +kernel
theorem dX5_likedBehind_19 : decode cX5_likedBehind 19 = .ok (.ireturn, 1) := by decide +kernel
theorem dX5_order_0 : decode cX5_order 0 = .ok (.iload_n 1, 1) := by decide +kernel
theorem dX5_order_1 : decode cX5_order 1 = .ok (.iconst 1, 1) := by decide +kernel
theorem dX5_order_2 : decode cX5_order 2 = .ok (.bipush 70, 2) := by decide +kernel
theorem dX5_order_4 : decode cX5_order 4 = .ok (.invokestatic 45, 3) := by decide +kernel
theorem dX5_order_7 : decode cX5_order 7 = .ok (.ifCond .ne 10, 3) := by decide +kernel
theorem dX5_order_10 : decode cX5_order 10 = .ok (.aload_n 0, 1) := by decide +kernel
theorem dX5_order_11 : decode cX5_order 11 = .ok (.ldc 44, 2) := by decide +kernel
theorem dX5_order_13 : decode cX5_order 13 = .ok (.invokevirtual 67, 3) := by decide +kernel
theorem dX5_order_16 : decode cX5_order 16 = .ok (.ireturn, 1) := by decide +kernel
theorem dX5_order_17 : decode cX5_order 17 = .ok (.aload_n 0, 1) := by decide +kernel
theorem dX5_order_18 : decode cX5_order 18 = .ok (.iload_n 1, 1) := by decide +kernel
theorem dX5_order_19 : decode cX5_order 19 = .ok (.invokevirtual 162, 3) := by decide +kernel
theorem dX5_order_22 : decode cX5_order 22 = .ok (.ifCond .eq 10, 3) := by decide +kernel
theorem dX5_order_25 : decode cX5_order 25 = .ok (.aload_n 0, 1) := by decide +kernel
theorem dX5_order_26 : decode cX5_order 26 = .ok (.ldc 165, 2) := by decide +kernel
theorem dX5_order_28 : decode cX5_order 28 = .ok (.invokevirtual 67, 3) := by decide +kernel
theorem dX5_order_31 : decode cX5_order 31 = .ok (.ireturn, 1) := by decide +kernel
theorem dX5_order_32 : decode cX5_order 32 = .ok (.aload_n 0, 1) := by decide +kernel
theorem dX5_order_33 : decode cX5_order 33 = .ok (.getfield 16, 3) := by decide +kernel
theorem dX5_order_36 : decode cX5_order 36 = .ok (.aload_n 0, 1) := by decide +kernel
theorem dX5_order_37 : decode cX5_order 37 = .ok (.getfield 12, 3) := by decide +kernel
theorem dX5_order_40 : decode cX5_order 40 = .ok (.invokevirtual 202, 3) := by decide +kernel
theorem dX5_order_43 : decode cX5_order 43 = .ok (.aload_n 0, 1) := by decide +kernel
theorem dX5_order_44 : decode cX5_order 44 = .ok (.iload_n 1, 1) := by decide +kernel
theorem dX5_order_45 : decode cX5_order 45 = .ok (.invokevirtual 226, 3) := by decide +kernel
theorem dX5_order_48 : decode cX5_order 48 = .ok (.istore_n 2, 1) := by decide +kernel
theorem dX5_order_49 : decode cX5_order 49 = .ok (.iconst (-1), 1) := by decide +kernel
theorem dX5_order_50 : decode cX5_order 50 = .ok (.istore_n 3, 1) := by decide +kernel
theorem dX5_order_51 : decode cX5_order 51 = .ok (.iconst 0, 1) := by decide +kernel
theorem dX5_order_52 : decode cX5_order 52 = .ok (.istore 4, 2) := by decide +kernel
theorem dX5_order_54 : decode cX5_order 54 = .ok (.iload 4, 2) := by decide +kernel
theorem dX5_order_56 : decode cX5_order 56 = .ok (.aload_n 0, 1) := by decide +kernel
theorem dX5_order_57 : decode cX5_order 57 = .ok (.getfield 12, 3) := by decide +kernel
theorem dX5_order_60 : decode cX5_order 60 = .ok (.getfield 49, 3) := by decide +kernel
theorem dX5_order_63 : decode cX5_order 63 = .ok (.getfield 53, 3) := by decide +kernel
theorem dX5_order_66 : decode cX5_order 66 = .ok (.if_icmp .ge 86, 3) := by decide +kernel
theorem dX5_order_69 : decode cX5_order 69 = .ok (.iload 4, 2) := by decide +kernel
theorem dX5_order_71 : decode cX5_order 71 = .ok (.iconst 1, 1) := by decide +kernel
theorem dX5_order_72 : decode cX5_order 72 = .ok (.iadd, 1) := by decide +kernel
theorem dX5_order_73 : decode cX5_order 73 = .ok (.istore 5, 2) := by decide +kernel
theorem dX5_order_75 : decode cX5_order 75 = .ok (.iload 5, 2) := by decide +kernel
theorem dX5_order_77 : decode cX5_order 77 = .ok (.aload_n 0, 1) := by decide +kernel
theorem dX5_order_78 : decode cX5_order 78 = .ok (.getfield 12, 3) := by decide +kernel
theorem dX5_order_81 : decode cX5_order 81 = .ok (.getfield 49, 3) := by decide +kernel
theorem dX5_order_84 : decode cX5_order 84 = .ok (.getfield 53, 3) := by decide +kernel
theorem dX5_order_87 : decode cX5_order 87 = .ok (.if_icmp .ge 59, 3) := by decide +kernel
theorem dX5_order_90 : decode cX5_order 90 = .ok (.aload_n 0, 1) := by decide +kernel
theorem dX5_order_91 : decode cX5_order 91 = .ok (.getfield 16, 3) := by decide +kernel
theorem dX5_order_94 : decode cX5_order 94 = .ok (.aload_n 0, 1) := by decide +kernel
theorem dX5_order_95 : decode cX5_order 95 = .ok (.getfield 12, 3) := by decide +kernel
theorem dX5_order_98 : decode cX5_order 98 = .ok (.invokevirtual 202, 3) := by decide +kernel
theorem dX5_order_101 : decode cX5_order 101 = .ok (.aload_n 0, 1) := by decide +kernel
theorem dX5_order_102 : decode cX5_order 102 = .ok (.getfield 16, 3) := by decide +kernel
theorem dX5_order_105 : decode cX5_order 105 = .ok (.getfield 49, 3) := by decide +kernel
theorem dX5_order_108 : decode cX5_order 108 = .ok (.iload 4, 2) := by decide +kernel
theorem dX5_order_110 : decode cX5_order 110 = .ok (.iload 5, 2) := by decide +kernel
theorem dX5_order_112 : decode cX5_order 112 = .ok (.invokevirtual 155, 3) := by decide +kernel
theorem dX5_order_115 : decode cX5_order 115 = .ok (.aload_n 0, 1) := by decide +kernel
theorem dX5_order_116 : decode cX5_order 116 = .ok (.iload_n 1, 1) := by decide +kernel
theorem dX5_order_117 : decode cX5_order 117 = .ok (.invokevirtual 226, 3) := by decide +kernel
theorem dX5_order_120 : decode cX5_order 120 = .ok (.istore 6, 2) := by decide +kernel
theorem dX5_order_122 : decode cX5_order 122 = .ok (.iload 6, 2) := by decide +kernel
theorem dX5_order_124 : decode cX5_order 124 = .ok (.iload_n 2, 1) := by decide +kernel
theorem dX5_order_125 : decode cX5_order 125 = .ok (.if_icmp .le 15, 3) := by decide +kernel
theorem dX5_order_128 : decode cX5_order 128 = .ok (.iload 6, 2) := by decide +kernel
theorem dX5_order_130 : decode cX5_order 130 = .ok (.istore_n 2, 1) := by decide +kernel
theorem dX5_order_131 : decode cX5_order 131 = .ok (.bipush 10, 2) := by decide +kernel
theorem dX5_order_133 : decode cX5_order 133 = .ok (.iload 4, 2) := by decide +kernel
theorem dX5_order_135 : decode cX5_order 135 = .ok (.imul, 1) := by decide +kernel
theorem dX5_order_136 : decode cX5_order 136 = .ok (.iload 5, 2) := by decide +kernel
theorem dX5_order_138 : decode cX5_order 138 = .ok (.iadd, 1) := by decide +kernel
theorem dX5_order_139 : decode cX5_order 139 = .ok (.istore_n 3, 1) := by decide +kernel
theorem dX5_order_140 : decode cX5_order 140 = .ok (.iinc 5 1, 3) := by decide +kernel
theorem dX5_order_143 : decode cX5_order 143 = .ok (.goto (-68), 3) := by decide +kernel
theorem dX5_order_146 : decode cX5_order 146 = .ok (.iinc 4 1, 3) := by decide +kernel
theorem dX5_order_149 : decode cX5_order 149 = .ok (.goto (-95), 3) := by decide +kernel
theorem dX5_order_152 : decode cX5_order 152 = .ok (.iload_n 3, 1) := by decide +kernel
theorem dX5_order_153 : decode cX5_order 153 = .ok (.ifCond .ge 12, 3) := by decide +kernel
theorem dX5_order_156 : decode cX5_order 156 = .ok (.aload_n 0, 1) := by decide +kernel
theorem dX5_order_157 : decode cX5_order 157 = .ok (.ldc 110, 2) := by decide +kernel
theorem dX5_order_159 : decode cX5_order 159 = .ok (.invokevirtual 67, 3) := by decide +kernel
theorem dX5_order_162 : decode cX5_order 162 = .ok (.goto 4, 3) := by decide +kernel
theorem dX5_order_165 : decode cX5_order 165 = .ok (.iload_n 3, 1) := by decide +kernel
theorem dX5_order_166 : decode cX5_order 166 = .ok (.ireturn, 1) := by decide +kernel
theorem dX5_chance_0 : decode cX5_chance 0 = .ok (.iload_n 1, 1) := by decide +kernel
theorem dX5_chance_1 : decode cX5_chance 1 = .ok (.invokestatic 63, 3) := by decide +kernel
theorem dX5_chance_4 : decode cX5_chance 4 = .ok (.ifCond .eq 23, 3) := by decide +kernel
theorem dX5_chance_7 : decode cX5_chance 7 = .ok (.iload_n 2, 1) := by decide +kernel
theorem dX5_chance_8 : decode cX5_chance 8 = .ok (.iconst 1, 1) := by decide +kernel
theorem dX5_chance_9 : decode cX5_chance 9 = .ok (.bipush 20, 2) := by decide +kernel
theorem dX5_chance_11 : decode cX5_chance 11 = .ok (.invokestatic 45, 3) := by decide +kernel
theorem dX5_chance_14 : decode cX5_chance 14 = .ok (.ifCond .eq 13, 3) := by decide +kernel
theorem dX5_chance_17 : decode cX5_chance 17 = .ok (.iload_n 3, 1) := by decide +kernel
theorem dX5_chance_18 : decode cX5_chance 18 = .ok (.iconst 0, 1) := by decide +kernel
theorem dX5_chance_19 : decode cX5_chance 19 = .ok (.bipush 70, 2) := by decide +kernel
theorem dX5_chance_21 : decode cX5_chance 21 = .ok (.invokestatic 45, 3) := by decide +kernel
theorem dX5_chance_24 : decode cX5_chance 24 = .ok (.ifCond .ne 10, 3) := by decide +kernel
theorem dX5_chance_27 : decode cX5_chance 27 = .ok (.aload_n 0, 1) := by decide +kernel
theorem dX5_chance_28 : decode cX5_chance 28 = .ok (.ldc 44, 2) := by decide +kernel
theorem dX5_chance_30 : decode cX5_chance 30 = .ok (.invokevirtual 67, 3) := by decide +kernel
theorem dX5_chance_33 : decode cX5_chance 33 = .ok (.ireturn, 1) := by decide +kernel
theorem dX5_chance_34 : decode cX5_chance 34 = .ok (.aload_n 0, 1) := by decide +kernel
theorem dX5_chance_35 : decode cX5_chance 35 = .ok (.iload_n 3, 1) := by decide +kernel
theorem dX5_chance_36 : decode cX5_chance 36 = .ok (.invokevirtual 162, 3) := by decide +kernel
theorem dX5_chance_39 : decode cX5_chance 39 = .ok (.ifCond .eq 10, 3) := by decide +kernel
theorem dX5_chance_42 : decode cX5_chance 42 = .ok (.aload_n 0, 1) := by decide +kernel
theorem dX5_chance_43 : decode cX5_chance 43 = .ok (.ldc 165, 2) := by decide +kernel
theorem dX5_chance_45 : decode cX5_chance 45 = .ok (.invokevirtual 67, 3) := by decide +kernel
theorem dX5_chance_48 : decode cX5_chance 48 = .ok (.ireturn, 1) := by decide +kernel
theorem dX5_chance_49 : decode cX5_chance 49 = .ok (.iconst 0, 1) := by decide +kernel
theorem dX5_chance_50 : decode cX5_chance 50 = .ok (.istore 4, 2) := by decide +kernel
theorem dX5_chance_52 : decode cX5_chance 52 = .ok (.iconst 0, 1) := by decide +kernel
theorem dX5_chance_53 : decode cX5_chance 53 = .ok (.istore 5, 2) := by decide +kernel
theorem dX5_chance_55 : decode cX5_chance 55 = .ok (.iload 5, 2) := by decide +kernel
theorem dX5_chance_57 : decode cX5_chance 57 = .ok (.iload_n 2, 1) := by decide +kernel
theorem dX5_chance_58 : decode cX5_chance 58 = .ok (.if_icmp .ge 57, 3) := by decide +kernel
theorem dX5_chance_61 : decode cX5_chance 61 = .ok (.aload_n 0, 1) := by decide +kernel
theorem dX5_chance_62 : decode cX5_chance 62 = .ok (.getfield 16, 3) := by decide +kernel
theorem dX5_chance_65 : decode cX5_chance 65 = .ok (.aload_n 0, 1) := by decide +kernel
theorem dX5_chance_66 : decode cX5_chance 66 = .ok (.getfield 12, 3) := by decide +kernel
theorem dX5_chance_69 : decode cX5_chance 69 = .ok (.invokevirtual 202, 3) := by decide +kernel
theorem dX5_chance_72 : decode cX5_chance 72 = .ok (.aload_n 0, 1) := by decide +kernel
theorem dX5_chance_73 : decode cX5_chance 73 = .ok (.getfield 16, 3) := by decide +kernel
theorem dX5_chance_76 : decode cX5_chance 76 = .ok (.iload_n 3, 1) := by decide +kernel
theorem dX5_chance_77 : decode cX5_chance 77 = .ok (.invokevirtual 166, 3) := by decide +kernel
theorem dX5_chance_80 : decode cX5_chance 80 = .ok (.pop, 1) := by decide +kernel
theorem dX5_chance_81 : decode cX5_chance 81 = .ok (.aload_n 0, 1) := by decide +kernel
theorem dX5_chance_82 : decode cX5_chance 82 = .ok (.getfield 12, 3) := by decide +kernel
theorem dX5_chance_85 : decode cX5_chance 85 = .ok (.aload_n 0, 1) := by decide +kernel
theorem dX5_chance_86 : decode cX5_chance 86 = .ok (.getfield 16, 3) := by decide +kernel
theorem dX5_chance_89 : decode cX5_chance 89 = .ok (.getfield 229, 3) := by decide +kernel
theorem dX5_chance_92 : decode cX5_chance 92 = .ok (.putfield 229, 3) := by decide +kernel
theorem dX5_chance_95 : decode cX5_chance 95 = .ok (.aload_n 0, 1) := by decide +kernel
theorem dX5_chance_96 : decode cX5_chance 96 = .ok (.getfield 16, 3) := by decide +kernel
theorem dX5_chance_99 : decode cX5_chance 99 = .ok (.iload_n 1, 1) := by decide +kernel
theorem dX5_chance_100 : decode cX5_chance 100 = .ok (.invokevirtual 84, 3) := by decide +kernel
theorem dX5_chance_103 : decode cX5_chance 103 = .ok (.ifCond .eq 6, 3) := by decide +kernel
theorem dX5_chance_106 : decode cX5_chance 106 = .ok (.iinc 4 1, 3) := by decide +kernel
theorem dX5_chance_109 : decode cX5_chance 109 = .ok (.iinc 5 1, 3) := by decide +kernel
theorem dX5_chance_112 : decode cX5_chance 112 = .ok (.goto (-57), 3) := by decide +kernel
theorem dX5_chance_115 : decode cX5_chance 115 = .ok (.iload 4, 2) := by decide +kernel
theorem dX5_chance_117 : decode cX5_chance 117 = .ok (.ireturn, 1) := by decide +kernel
theorem dX5_seed_0 : decode cX5_seed 0 = .ok (.aload_n 0, 1) := by decide +kernel
theorem dX5_seed_1 : decode cX5_seed 1 = .ok (.getfield 12, 3) := by decide +kernel
theorem dX5_seed_4 : decode cX5_seed 4 = .ok (.getfield 229, 3) := by decide +kernel
theorem dX5_seed_7 : decode cX5_seed 7 = .ok (.istore_n 2, 1) := by decide +kernel
theorem dX5_seed_8 : decode cX5_seed 8 = .ok (.aload_n 0, 1) := by decide +kernel
theorem dX5_seed_9 : decode cX5_seed 9 = .ok (.getfield 12, 3) := by decide +kernel
theorem dX5_seed_12 : decode cX5_seed 12 = .ok (.iload_n 1, 1) := by decide +kernel
theorem dX5_seed_13 : decode cX5_seed 13 = .ok (.putfield 229, 3) := by decide +kernel
theorem dX5_seed_16 : decode cX5_seed 16 = .ok (.iload_n 2, 1) := by decide +kernel
theorem dX5_seed_17 : decode cX5_seed 17 = .ok (.ireturn, 1) := by decide +kernel
theorem dX5_feed_0 : decode cX5_feed 0 = .ok (.iload_n 2, 1) := by decide +kernel
theorem dX5_feed_1 : decode cX5_feed 1 = .ok (.iconst 1, 1) := by decide +kernel
theorem dX5_feed_2 : decode cX5_feed 2 = .ok (.iconst 4, 1) := by decide +kernel
theorem dX5_feed_3 : decode cX5_feed 3 = .ok (.invokestatic 45, 3) := by decide +kernel
theorem dX5_feed_6 : decode cX5_feed 6 = .ok (.ifCond .ne 10, 3) := by decide +kernel
theorem dX5_feed_9 : decode cX5_feed 9 = .ok (.aload_n 0, 1) := by decide +kernel
theorem dX5_feed_10 : decode cX5_feed 10 = .ok (.ldc 44, 2) := by decide +kernel
theorem dX5_feed_12 : decode cX5_feed 12 = .ok (.invokevirtual 67, 3) := by decide +kernel
theorem dX5_feed_15 : decode cX5_feed 15 = .ok (.ireturn, 1) := by decide +kernel
theorem dX5_feed_16 : decode cX5_feed 16 = .ok (.aload_n 0, 1) := by decide +kernel
theorem dX5_feed_17 : decode cX5_feed 17 = .ok (.getfield 29, 3) := by decide +kernel
theorem dX5_feed_20 : decode cX5_feed 20 = .ok (.getfield 232, 3) := by decide +kernel
theorem dX5_feed_23 : decode cX5_feed 23 = .ok (.bipush 120, 2) := by decide +kernel
theorem dX5_feed_25 : decode cX5_feed 25 = .ok (.iload_n 2, 1) := by decide +kernel
theorem dX5_feed_26 : decode cX5_feed 26 = .ok (.isub, 1) := by decide +kernel
theorem dX5_feed_27 : decode cX5_feed 27 = .ok (.if_icmp .le 10, 3) := by decide +kernel
theorem dX5_feed_30 : decode cX5_feed 30 = .ok (.aload_n 0, 1) := by decide +kernel
theorem dX5_feed_31 : decode cX5_feed 31 = .ok (.ldc 121, 2) := by decide +kernel
theorem dX5_feed_33 : decode cX5_feed 33 = .ok (.invokevirtual 67, 3) := by decide +kernel
theorem dX5_feed_36 : decode cX5_feed 36 = .ok (.ireturn, 1) := by decide +kernel
theorem dX5_feed_37 : decode cX5_feed 37 = .ok (.iload_n 2, 1) := by decide +kernel
theorem dX5_feed_38 : decode cX5_feed 38 = .ok (.iconst 1, 1) := by decide +kernel
theorem dX5_feed_39 : decode cX5_feed 39 = .ok (.isub, 1) := by decide +kernel
theorem dX5_feed_40 : decode cX5_feed 40 = .ok (.istore_n 3, 1) := by decide +kernel
theorem dX5_feed_41 : decode cX5_feed 41 = .ok (.iload_n 3, 1) := by decide +kernel
theorem dX5_feed_42 : decode cX5_feed 42 = .ok (.ifCond .lt 26, 3) := by decide +kernel
theorem dX5_feed_45 : decode cX5_feed 45 = .ok (.aload_n 0, 1) := by decide +kernel
theorem dX5_feed_46 : decode cX5_feed 46 = .ok (.getfield 29, 3) := by decide +kernel
theorem dX5_feed_49 : decode cX5_feed 49 = .ok (.iload_n 1, 1) := by decide +kernel
theorem dX5_feed_50 : decode cX5_feed 50 = .ok (.bipush 8, 2) := by decide +kernel
theorem dX5_feed_52 : decode cX5_feed 52 = .ok (.iload_n 3, 1) := by decide +kernel
theorem dX5_feed_53 : decode cX5_feed 53 = .ok (.imul, 1) := by decide +kernel
theorem dX5_feed_54 : decode cX5_feed 54 = .ok (.iushr, 1) := by decide +kernel
theorem dX5_feed_55 : decode cX5_feed 55 = .ok (.sipush 255, 3) := by decide +kernel
theorem dX5_feed_58 : decode cX5_feed 58 = .ok (.iand, 1) := by decide +kernel
theorem dX5_feed_59 : decode cX5_feed 59 = .ok (.invokevirtual 233, 3) := by decide +kernel
theorem dX5_feed_62 : decode cX5_feed 62 = .ok (.iinc 3 (-1), 3) := by decide +kernel
theorem dX5_feed_65 : decode cX5_feed 65 = .ok (.goto (-24), 3) := by decide +kernel
theorem dX5_feed_68 : decode cX5_feed 68 = .ok (.aload_n 0, 1) := by decide +kernel
theorem dX5_feed_69 : decode cX5_feed 69 = .ok (.getfield 29, 3) := by decide +kernel
theorem dX5_feed_72 : decode cX5_feed 72 = .ok (.getfield 232, 3) := by decide +kernel
theorem dX5_feed_75 : decode cX5_feed 75 = .ok (.ireturn, 1) := by decide +kernel
theorem dX5_wipe_0 : decode cX5_wipe 0 = .ok (.aload_n 0, 1) := by decide +kernel
theorem dX5_wipe_1 : decode cX5_wipe 1 = .ok (.getfield 29, 3) := by decide +kernel
theorem dX5_wipe_4 : decode cX5_wipe 4 = .ok (.getfield 232, 3) := by decide +kernel
theorem dX5_wipe_7 : decode cX5_wipe 7 = .ok (.istore_n 1, 1) := by decide +kernel
theorem dX5_wipe_8 : decode cX5_wipe 8 = .ok (.aload_n 0, 1) := by decide +kernel
theorem dX5_wipe_9 : decode cX5_wipe 9 = .ok (.getfield 29, 3) := by decide +kernel
theorem dX5_wipe_12 : decode cX5_wipe 12 = .ok (.iconst 0, 1) := by decide +kernel
theorem dX5_wipe_13 : decode cX5_wipe 13 = .ok (.putfield 232, 3) := by decide +kernel
theorem dX5_wipe_16 : decode cX5_wipe 16 = .ok (.iload_n 1, 1) := by decide +kernel
theorem dX5_wipe_17 : decode cX5_wipe 17 = .ok (.ireturn, 1) := by decide +kernel
theorem dX5_text_0 : decode cX5_text 0 = .ok (.aload_n 0, 1) := by decide +kernel
theorem dX5_text_1 : decode cX5_text 1 = .ok (.getfield 16, 3) := by decide +kernel
theorem dX5_text_4 : decode cX5_text 4 = .ok (.aload_n 0, 1) := by decide +kernel
theorem dX5_text_5 : decode cX5_text 5 = .ok (.getfield 12, 3) := by decide +kernel
theorem dX5_text_8 : decode cX5_text 8 = .ok (.invokevirtual 202, 3) := by decide +kernel
theorem dX5_text_11 : decode cX5_text 11 = .ok (.aload_n 0, 1) := by decide +kernel
theorem dX5_text_12 : decode cX5_text 12 = .ok (.getfield 29, 3) := by decide +kernel
theorem dX5_text_15 : decode cX5_text 15 = .ok (.aload_n 0, 1) := by decide +kernel
theorem dX5_text_16 : decode cX5_text 16 = .ok (.getfield 16, 3) := by decide +kernel
theorem dX5_text_19 : decode cX5_text 19 = .ok (.invokestatic 235, 3) := by decide +kernel
theorem dX5_text_22 : decode cX5_text 22 = .ok (.istore_n 1, 1) := by decide +kernel
theorem dX5_text_23 : decode cX5_text 23 = .ok (.aload_n 0, 1) := by decide +kernel
theorem dX5_text_24 : decode cX5_text 24 = .ok (.getfield 29, 3) := by decide +kernel
theorem dX5_text_27 : decode cX5_text 27 = .ok (.iconst 0, 1) := by decide +kernel
theorem dX5_text_28 : decode cX5_text 28 = .ok (.putfield 232, 3) := by decide +kernel
theorem dX5_text_31 : decode cX5_text 31 = .ok (.iload_n 1, 1) := by decide +kernel
theorem dX5_text_32 : decode cX5_text 32 = .ok (.ifCond .ge 13, 3) := by decide +kernel
theorem dX5_text_35 : decode cX5_text 35 = .ok (.iconst (-1), 1) := by decide +kernel
theorem dX5_text_36 : decode cX5_text 36 = .ok (.aload_n 0, 1) := by decide +kernel
theorem dX5_text_37 : decode cX5_text 37 = .ok (.getfield 29, 3) := by decide +kernel
theorem dX5_text_40 : decode cX5_text 40 = .ok (.invokevirtual 241, 3) := by decide +kernel
theorem dX5_text_43 : decode cX5_text 43 = .ok (.isub, 1) := by decide +kernel
theorem dX5_text_44 : decode cX5_text 44 = .ok (.ireturn, 1) := by decide +kernel
theorem dX5_text_45 : decode cX5_text 45 = .ok (.aload_n 0, 1) := by decide +kernel
theorem dX5_text_46 : decode cX5_text 46 = .ok (.getfield 12, 3) := by decide +kernel
theorem dX5_text_49 : decode cX5_text 49 = .ok (.aload_n 0, 1) := by decide +kernel
theorem dX5_text_50 : decode cX5_text 50 = .ok (.getfield 16, 3) := by decide +kernel
theorem dX5_text_53 : decode cX5_text 53 = .ok (.invokevirtual 202, 3) := by decide +kernel
theorem dX5_text_56 : decode cX5_text 56 = .ok (.iload_n 1, 1) := by decide +kernel
theorem dX5_text_57 : decode cX5_text 57 = .ok (.ireturn, 1) := by decide +kernel
theorem dX5_hold_0 : decode cX5_hold 0 = .ok (.iload_n 1, 1) := by decide +kernel
theorem dX5_hold_1 : decode cX5_hold 1 = .ok (.iconst 0, 1) := by decide +kernel
theorem dX5_hold_2 : decode cX5_hold 2 = .ok (.bipush 9, 2) := by decide +kernel
theorem dX5_hold_4 : decode cX5_hold 4 = .ok (.invokestatic 45, 3) := by decide +kernel
theorem dX5_hold_7 : decode cX5_hold 7 = .ok (.ifCond .eq 16, 3) := by decide +kernel
theorem dX5_hold_10 : decode cX5_hold 10 = .ok (.iload_n 2, 1) := by decide +kernel
theorem dX5_hold_11 : decode cX5_hold 11 = .ok (.iconst (-1), 1) := by decide +kernel
theorem dX5_hold_12 : decode cX5_hold 12 = .ok (.if_icmp .eq 18, 3) := by decide +kernel
theorem dX5_hold_15 : decode cX5_hold 15 = .ok (.aload_n 0, 1) := by decide +kernel
theorem dX5_hold_16 : decode cX5_hold 16 = .ok (.iload_n 2, 1) := by decide +kernel
theorem dX5_hold_17 : decode cX5_hold 17 = .ok (.invokevirtual 126, 3) := by decide +kernel
theorem dX5_hold_20 : decode cX5_hold 20 = .ok (.ifCond .ne 10, 3) := by decide +kernel
theorem dX5_hold_23 : decode cX5_hold 23 = .ok (.aload_n 0, 1) := by decide +kernel
theorem dX5_hold_24 : decode cX5_hold 24 = .ok (.ldc 44, 2) := by decide +kernel
theorem dX5_hold_26 : decode cX5_hold 26 = .ok (.invokevirtual 67, 3) := by decide +kernel
theorem dX5_hold_29 : decode cX5_hold 29 = .ok (.ireturn, 1) := by decide +kernel
theorem dX5_hold_30 : decode cX5_hold 30 = .ok (.aload_n 0, 1) := by decide +kernel
theorem dX5_hold_31 : decode cX5_hold 31 = .ok (.getfield 12, 3) := by decide +kernel
theorem dX5_hold_34 : decode cX5_hold 34 = .ok (.getfield 244, 3) := by decide +kernel
theorem dX5_hold_37 : decode cX5_hold 37 = .ok (.iload_n 1, 1) := by decide +kernel
theorem dX5_hold_38 : decode cX5_hold 38 = .ok (.iload_n 2, 1) := by decide +kernel
theorem dX5_hold_39 : decode cX5_hold 39 = .ok (.iastore, 1) := by decide +kernel
theorem dX5_hold_40 : decode cX5_hold 40 = .ok (.iconst 1, 1) := by decide +kernel
theorem dX5_hold_41 : decode cX5_hold 41 = .ok (.ireturn, 1) := by decide +kernel
theorem dX5_as_0 : decode cX5_as 0 = .ok (.iload_n 1, 1) := by decide +kernel
theorem dX5_as_1 : decode cX5_as 1 = .ok (.iconst 0, 1) := by decide +kernel
theorem dX5_as_2 : decode cX5_as 2 = .ok (.bipush 9, 2) := by decide +kernel
theorem dX5_as_4 : decode cX5_as 4 = .ok (.invokestatic 45, 3) := by decide +kernel
theorem dX5_as_7 : decode cX5_as 7 = .ok (.ifCond .eq 10, 3) := by decide +kernel
theorem dX5_as_10 : decode cX5_as 10 = .ok (.iload_n 2, 1) := by decide +kernel
theorem dX5_as_11 : decode cX5_as 11 = .ok (.invokestatic 111, 3) := by decide +kernel
theorem dX5_as_14 : decode cX5_as 14 = .ok (.ifCond .ne 10, 3) := by decide +kernel
theorem dX5_as_17 : decode cX5_as 17 = .ok (.aload_n 0, 1) := by decide +kernel
theorem dX5_as_18 : decode cX5_as 18 = .ok (.ldc 44, 2) := by decide +kernel
theorem dX5_as_20 : decode cX5_as 20 = .ok (.invokevirtual 67, 3) := by decide +kernel
theorem dX5_as_23 : decode cX5_as 23 = .ok (.ireturn, 1) := by decide +kernel
theorem dX5_as_24 : decode cX5_as 24 = .ok (.aload_n 0, 1) := by decide +kernel
theorem dX5_as_25 : decode cX5_as 25 = .ok (.getfield 12, 3) := by decide +kernel
theorem dX5_as_28 : decode cX5_as 28 = .ok (.getfield 244, 3) := by decide +kernel
theorem dX5_as_31 : decode cX5_as 31 = .ok (.iload_n 1, 1) := by decide +kernel
theorem dX5_as_32 : decode cX5_as 32 = .ok (.iaload, 1) := by decide +kernel
theorem dX5_as_33 : decode cX5_as 33 = .ok (.istore_n 3, 1) := by decide +kernel
theorem dX5_as_34 : decode cX5_as 34 = .ok (.aload_n 0, 1) := by decide +kernel
theorem dX5_as_35 : decode cX5_as 35 = .ok (.iload_n 3, 1) := by decide +kernel
theorem dX5_as_36 : decode cX5_as 36 = .ok (.invokevirtual 126, 3) := by decide +kernel
theorem dX5_as_39 : decode cX5_as 39 = .ok (.ifCond .ne 10, 3) := by decide +kernel
theorem dX5_as_42 : decode cX5_as 42 = .ok (.aload_n 0, 1) := by decide +kernel
theorem dX5_as_43 : decode cX5_as 43 = .ok (.ldc 247, 2) := by decide +kernel
theorem dX5_as_45 : decode cX5_as 45 = .ok (.invokevirtual 67, 3) := by decide +kernel
theorem dX5_as_48 : decode cX5_as 48 = .ok (.ireturn, 1) := by decide +kernel
theorem dX5_as_49 : decode cX5_as 49 = .ok (.aload_n 0, 1) := by decide +kernel
theorem dX5_as_50 : decode cX5_as 50 = .ok (.getfield 12, 3) := by decide +kernel
theorem dX5_as_53 : decode cX5_as 53 = .ok (.getfield 49, 3) := by decide +kernel
theorem dX5_as_56 : decode cX5_as 56 = .ok (.getfield 129, 3) := by decide +kernel
theorem dX5_as_59 : decode cX5_as 59 = .ok (.iload_n 3, 1) := by decide +kernel
theorem dX5_as_60 : decode cX5_as 60 = .ok (.iaload, 1) := by decide +kernel
theorem dX5_as_61 : decode cX5_as 61 = .ok (.iload_n 2, 1) := by decide +kernel
theorem dX5_as_62 : decode cX5_as 62 = .ok (.invokestatic 248, 3) := by decide +kernel
theorem dX5_as_65 : decode cX5_as 65 = .ok (.ifCond .eq 7, 3) := by decide +kernel
theorem dX5_as_68 : decode cX5_as 68 = .ok (.iload_n 3, 1) := by decide +kernel
theorem dX5_as_69 : decode cX5_as 69 = .ok (.goto 9, 3) := by decide +kernel
theorem dX5_as_72 : decode cX5_as 72 = .ok (.aload_n 0, 1) := by decide +kernel
theorem dX5_as_73 : decode cX5_as 73 = .ok (.ldc 252, 2) := by decide +kernel
theorem dX5_as_75 : decode cX5_as 75 = .ok (.invokevirtual 67, 3) := by decide +kernel
theorem dX5_as_78 : decode cX5_as 78 = .ok (.ireturn, 1) := by decide +kernel
theorem dX5_isUnder_0 : decode cX5_isUnder 0 = .ok (.iload_n 0, 1) := by decide +kernel
theorem dX5_isUnder_1 : decode cX5_isUnder 1 = .ok (.istore_n 2, 1) := by decide +kernel
theorem dX5_isUnder_2 : decode cX5_isUnder 2 = .ok (.iconst 0, 1) := by decide +kernel
theorem dX5_isUnder_3 : decode cX5_isUnder 3 = .ok (.istore_n 3, 1) := by decide +kernel
theorem dX5_isUnder_4 : decode cX5_isUnder 4 = .ok (.iload_n 3, 1) := by decide +kernel
theorem dX5_isUnder_5 : decode cX5_isUnder 5 = .ok (.bipush 7, 2) := by decide +kernel
theorem dX5_isUnder_7 : decode cX5_isUnder 7 = .ok (.if_icmp .ge 29, 3) := by decide +kernel
theorem dX5_isUnder_10 : decode cX5_isUnder 10 = .ok (.iload_n 2, 1) := by decide +kernel
theorem dX5_isUnder_11 : decode cX5_isUnder 11 = .ok (.invokestatic 111, 3) := by decide +kernel
theorem dX5_isUnder_14 : decode cX5_isUnder 14 = .ok (.ifCond .eq 22, 3) := by decide +kernel
theorem dX5_isUnder_17 : decode cX5_isUnder 17 = .ok (.iload_n 2, 1) := by decide +kernel
theorem dX5_isUnder_18 : decode cX5_isUnder 18 = .ok (.iload_n 1, 1) := by decide +kernel
theorem dX5_isUnder_19 : decode cX5_isUnder 19 = .ok (.if_icmp .ne 5, 3) := by decide +kernel
theorem dX5_isUnder_22 : decode cX5_isUnder 22 = .ok (.iconst 1, 1) := by decide +kernel
theorem dX5_isUnder_23 : decode cX5_isUnder 23 = .ok (.ireturn, 1) := by decide +kernel
theorem dX5_isUnder_24 : decode cX5_isUnder 24 = .ok (.getstatic 253, 3) := by decide +kernel
theorem dX5_isUnder_27 : decode cX5_isUnder 27 = .ok (.iload_n 2, 1) := by decide +kernel
theorem dX5_isUnder_28 : decode cX5_isUnder 28 = .ok (.iaload, 1) := by decide +kernel
theorem dX5_isUnder_29 : decode cX5_isUnder 29 = .ok (.istore_n 2, 1) := by decide +kernel
theorem dX5_isUnder_30 : decode cX5_isUnder 30 = .ok (.iinc 3 1, 3) := by decide +kernel
theorem dX5_isUnder_33 : decode cX5_isUnder 33 = .ok (.goto (-29), 3) := by decide +kernel
theorem dX5_isUnder_36 : decode cX5_isUnder 36 = .ok (.iconst 0, 1) := by decide +kernel
theorem dX5_isUnder_37 : decode cX5_isUnder 37 = .ok (.ireturn, 1) := by decide +kernel
theorem dX5_isSheet_0 : decode cX5_isSheet 0 = .ok (.iload_n 0, 1) := by decide +kernel
theorem dX5_isSheet_1 : decode cX5_isSheet 1 = .ok (.iconst 0, 1) := by decide +kernel
theorem dX5_isSheet_2 : decode cX5_isSheet 2 = .ok (.iconst 3, 1) := by decide +kernel
theorem dX5_isSheet_3 : decode cX5_isSheet 3 = .ok (.invokestatic 45, 3) := by decide +kernel
theorem dX5_isSheet_6 : decode cX5_isSheet 6 = .ok (.ireturn, 1) := by decide +kernel
theorem dX5_sheet_0 : decode cX5_sheet 0 = .ok (.iload_n 1, 1) := by decide +kernel
theorem dX5_sheet_1 : decode cX5_sheet 1 = .ok (.invokestatic 256, 3) := by decide +kernel
theorem dX5_sheet_4 : decode cX5_sheet 4 = .ok (.ifCond .eq 25, 3) := by decide +kernel
theorem dX5_sheet_7 : decode cX5_sheet 7 = .ok (.iload_n 2, 1) := by decide +kernel
theorem dX5_sheet_8 : decode cX5_sheet 8 = .ok (.ifCond .eq 28, 3) := by decide +kernel
theorem dX5_sheet_11 : decode cX5_sheet 11 = .ok (.iload_n 2, 1) := by decide +kernel
theorem dX5_sheet_12 : decode cX5_sheet 12 = .ok (.bipush 8, 2) := by decide +kernel
theorem dX5_sheet_14 : decode cX5_sheet 14 = .ok (.if_icmp .eq 22, 3) := by decide +kernel
theorem dX5_sheet_17 : decode cX5_sheet 17 = .ok (.iload_n 2, 1) := by decide +kernel
theorem dX5_sheet_18 : decode cX5_sheet 18 = .ok (.bipush 16, 2) := by decide +kernel
theorem dX5_sheet_20 : decode cX5_sheet 20 = .ok (.if_icmp .eq 16, 3) := by decide +kernel
theorem dX5_sheet_23 : decode cX5_sheet 23 = .ok (.iload_n 2, 1) := by decide +kernel
theorem dX5_sheet_24 : decode cX5_sheet 24 = .ok (.bipush 32, 2) := by decide +kernel
theorem dX5_sheet_26 : decode cX5_sheet 26 = .ok (.if_icmp .eq 10, 3) := by decide +kernel
theorem dX5_sheet_29 : decode cX5_sheet 29 = .ok (.aload_n 0, 1) := by decide +kernel
theorem dX5_sheet_30 : decode cX5_sheet 30 = .ok (.ldc 44, 2) := by decide +kernel
theorem dX5_sheet_32 : decode cX5_sheet 32 = .ok (.invokevirtual 67, 3) := by decide +kernel
theorem dX5_sheet_35 : decode cX5_sheet 35 = .ok (.ireturn, 1) := by decide +kernel
theorem dX5_sheet_36 : decode cX5_sheet 36 = .ok (.iload_n 3, 1) := by decide +kernel
theorem dX5_sheet_37 : decode cX5_sheet 37 = .ok (.ifCond .ge 11, 3) := by decide +kernel
theorem dX5_sheet_40 : decode cX5_sheet 40 = .ok (.aload_n 0, 1) := by decide +kernel
theorem dX5_sheet_41 : decode cX5_sheet 41 = .ok (.ldc_w 259, 3) := by decide +kernel
theorem dX5_sheet_44 : decode cX5_sheet 44 = .ok (.invokevirtual 67, 3) := by decide +kernel
theorem dX5_sheet_47 : decode cX5_sheet 47 = .ok (.ireturn, 1) := by decide +kernel
theorem dX5_sheet_48 : decode cX5_sheet 48 = .ok (.iload_n 3, 1) := by decide +kernel
theorem dX5_sheet_49 : decode cX5_sheet 49 = .ok (.bipush 40, 2) := by decide +kernel
theorem dX5_sheet_51 : decode cX5_sheet 51 = .ok (.if_icmp .le 10, 3) := by decide +kernel
theorem dX5_sheet_54 : decode cX5_sheet 54 = .ok (.aload_n 0, 1) := by decide +kernel
theorem dX5_sheet_55 : decode cX5_sheet 55 = .ok (.ldc 44, 2) := by decide +kernel
theorem dX5_sheet_57 : decode cX5_sheet 57 = .ok (.invokevirtual 67, 3) := by decide +kernel
theorem dX5_sheet_60 : decode cX5_sheet 60 = .ok (.ireturn, 1) := by decide +kernel
theorem dX5_sheet_61 : decode cX5_sheet 61 = .ok (.aload_n 0, 1) := by decide +kernel
theorem dX5_sheet_62 : decode cX5_sheet 62 = .ok (.getfield 35, 3) := by decide +kernel
theorem dX5_sheet_65 : decode cX5_sheet 65 = .ok (.iload_n 1, 1) := by decide +kernel
theorem dX5_sheet_66 : decode cX5_sheet 66 = .ok (.aaload, 1) := by decide +kernel
theorem dX5_sheet_67 : decode cX5_sheet 67 = .ok (.iload_n 2, 1) := by decide +kernel
theorem dX5_sheet_68 : decode cX5_sheet 68 = .ok (.iload_n 3, 1) := by decide +kernel
theorem dX5_sheet_69 : decode cX5_sheet 69 = .ok (.invokevirtual 260, 3) := by decide +kernel
theorem dX5_sheet_72 : decode cX5_sheet 72 = .ok (.aload_n 0, 1) := by decide +kernel
theorem dX5_sheet_73 : decode cX5_sheet 73 = .ok (.getfield 35, 3) := by decide +kernel
theorem dX5_sheet_76 : decode cX5_sheet 76 = .ok (.iload_n 1, 1) := by decide +kernel
theorem dX5_sheet_77 : decode cX5_sheet 77 = .ok (.aaload, 1) := by decide +kernel
theorem dX5_sheet_78 : decode cX5_sheet 78 = .ok (.getfield 263, 3) := by decide +kernel
theorem dX5_sheet_81 : decode cX5_sheet 81 = .ok (.ireturn, 1) := by decide +kernel
theorem dX5_write_0 : decode cX5_write 0 = .ok (.iload_n 1, 1) := by decide +kernel
theorem dX5_write_1 : decode cX5_write 1 = .ok (.invokestatic 256, 3) := by decide +kernel
theorem dX5_write_4 : decode cX5_write 4 = .ok (.ifCond .ne 10, 3) := by decide +kernel
theorem dX5_write_7 : decode cX5_write 7 = .ok (.aload_n 0, 1) := by decide +kernel
theorem dX5_write_8 : decode cX5_write 8 = .ok (.ldc 44, 2) := by decide +kernel
theorem dX5_write_10 : decode cX5_write 10 = .ok (.invokevirtual 67, 3) := by decide +kernel
theorem dX5_write_13 : decode cX5_write 13 = .ok (.ireturn, 1) := by decide +kernel
theorem dX5_write_14 : decode cX5_write 14 = .ok (.aload_n 0, 1) := by decide +kernel
theorem dX5_write_15 : decode cX5_write 15 = .ok (.getfield 35, 3) := by decide +kernel
theorem dX5_write_18 : decode cX5_write 18 = .ok (.iload_n 1, 1) := by decide +kernel
theorem dX5_write_19 : decode cX5_write 19 = .ok (.aaload, 1) := by decide +kernel
theorem dX5_write_20 : decode cX5_write 20 = .ok (.astore 4, 2) := by decide +kernel
theorem dX5_write_22 : decode cX5_write 22 = .ok (.aload 4, 2) := by decide +kernel
theorem dX5_write_24 : decode cX5_write 24 = .ok (.invokevirtual 264, 3) := by decide +kernel
theorem dX5_write_27 : decode cX5_write 27 = .ok (.ifCond .eq 10, 3) := by decide +kernel
theorem dX5_write_30 : decode cX5_write 30 = .ok (.aload_n 0, 1) := by decide +kernel
theorem dX5_write_31 : decode cX5_write 31 = .ok (.ldc 247, 2) := by decide +kernel
theorem dX5_write_33 : decode cX5_write 33 = .ok (.invokevirtual 67, 3) := by decide +kernel
theorem dX5_write_36 : decode cX5_write 36 = .ok (.ireturn, 1) := by decide +kernel
theorem dX5_write_37 : decode cX5_write 37 = .ok (.iload_n 2, 1) := by decide +kernel
theorem dX5_write_38 : decode cX5_write 38 = .ok (.iconst 0, 1) := by decide +kernel
theorem dX5_write_39 : decode cX5_write 39 = .ok (.aload 4, 2) := by decide +kernel
theorem dX5_write_41 : decode cX5_write 41 = .ok (.getfield 263, 3) := by decide +kernel
theorem dX5_write_44 : decode cX5_write 44 = .ok (.iconst 1, 1) := by decide +kernel
theorem dX5_write_45 : decode cX5_write 45 = .ok (.isub, 1) := by decide +kernel
theorem dX5_write_46 : decode cX5_write 46 = .ok (.invokestatic 45, 3) := by decide +kernel
theorem dX5_write_49 : decode cX5_write 49 = .ok (.ifCond .ne 10, 3) := by decide +kernel
theorem dX5_write_52 : decode cX5_write 52 = .ok (.aload_n 0, 1) := by decide +kernel
theorem dX5_write_53 : decode cX5_write 53 = .ok (.ldc 44, 2) := by decide +kernel
theorem dX5_write_55 : decode cX5_write 55 = .ok (.invokevirtual 67, 3) := by decide +kernel
theorem dX5_write_58 : decode cX5_write 58 = .ok (.ireturn, 1) := by decide +kernel
theorem dX5_write_59 : decode cX5_write 59 = .ok (.aload 4, 2) := by decide +kernel
theorem dX5_write_61 : decode cX5_write 61 = .ok (.iload_n 2, 1) := by decide +kernel
theorem dX5_write_62 : decode cX5_write 62 = .ok (.iload_n 3, 1) := by decide +kernel
theorem dX5_write_63 : decode cX5_write 63 = .ok (.invokevirtual 267, 3) := by decide +kernel
theorem dX5_write_66 : decode cX5_write 66 = .ok (.iconst 1, 1) := by decide +kernel
theorem dX5_write_67 : decode cX5_write 67 = .ok (.ireturn, 1) := by decide +kernel
theorem dX5_copy_0 : decode cX5_copy 0 = .ok (.iload_n 1, 1) := by decide +kernel
theorem dX5_copy_1 : decode cX5_copy 1 = .ok (.invokestatic 256, 3) := by decide +kernel
theorem dX5_copy_4 : decode cX5_copy 4 = .ok (.ifCond .eq 10, 3) := by decide +kernel
theorem dX5_copy_7 : decode cX5_copy 7 = .ok (.iload_n 3, 1) := by decide +kernel
theorem dX5_copy_8 : decode cX5_copy 8 = .ok (.invokestatic 256, 3) := by decide +kernel
theorem dX5_copy_11 : decode cX5_copy 11 = .ok (.ifCond .ne 10, 3) := by decide +kernel
theorem dX5_copy_14 : decode cX5_copy 14 = .ok (.aload_n 0, 1) := by decide +kernel
theorem dX5_copy_15 : decode cX5_copy 15 = .ok (.ldc 44, 2) := by decide +kernel
theorem dX5_copy_17 : decode cX5_copy 17 = .ok (.invokevirtual 67, 3) := by decide +kernel
theorem dX5_copy_20 : decode cX5_copy 20 = .ok (.ireturn, 1) := by decide +kernel
theorem dX5_copy_21 : decode cX5_copy 21 = .ok (.aload_n 0, 1) := by decide +kernel
theorem dX5_copy_22 : decode cX5_copy 22 = .ok (.getfield 35, 3) := by decide +kernel
theorem dX5_copy_25 : decode cX5_copy 25 = .ok (.iload_n 1, 1) := by decide +kernel
theorem dX5_copy_26 : decode cX5_copy 26 = .ok (.aaload, 1) := by decide +kernel
theorem dX5_copy_27 : decode cX5_copy 27 = .ok (.astore 6, 2) := by decide +kernel
theorem dX5_copy_29 : decode cX5_copy 29 = .ok (.aload_n 0, 1) := by decide +kernel
theorem dX5_copy_30 : decode cX5_copy 30 = .ok (.getfield 35, 3) := by decide +kernel
theorem dX5_copy_33 : decode cX5_copy 33 = .ok (.iload_n 3, 1) := by decide +kernel
theorem dX5_copy_34 : decode cX5_copy 34 = .ok (.aaload, 1) := by decide +kernel
theorem dX5_copy_35 : decode cX5_copy 35 = .ok (.astore 7, 2) := by decide +kernel
theorem dX5_copy_37 : decode cX5_copy 37 = .ok (.aload 6, 2) := by decide +kernel
theorem dX5_copy_39 : decode cX5_copy 39 = .ok (.invokevirtual 264, 3) := by decide +kernel
theorem dX5_copy_42 : decode cX5_copy 42 = .ok (.ifCond .ne 11, 3) := by decide +kernel
theorem dX5_copy_45 : decode cX5_copy 45 = .ok (.aload 7, 2) := by decide +kernel
theorem dX5_copy_47 : decode cX5_copy 47 = .ok (.invokevirtual 264, 3) := by decide +kernel
theorem dX5_copy_50 : decode cX5_copy 50 = .ok (.ifCond .eq 10, 3) := by decide +kernel
theorem dX5_copy_53 : decode cX5_copy 53 = .ok (.aload_n 0, 1) := by decide +kernel
theorem dX5_copy_54 : decode cX5_copy 54 = .ok (.ldc 247, 2) := by decide +kernel
theorem dX5_copy_56 : decode cX5_copy 56 = .ok (.invokevirtual 67, 3) := by decide +kernel
theorem dX5_copy_59 : decode cX5_copy 59 = .ok (.ireturn, 1) := by decide +kernel
theorem dX5_copy_60 : decode cX5_copy 60 = .ok (.aload 6, 2) := by decide +kernel
theorem dX5_copy_62 : decode cX5_copy 62 = .ok (.getfield 270, 3) := by decide +kernel
theorem dX5_copy_65 : decode cX5_copy 65 = .ok (.aload 7, 2) := by decide +kernel
theorem dX5_copy_67 : decode cX5_copy 67 = .ok (.getfield 270, 3) := by decide +kernel
theorem dX5_copy_70 : decode cX5_copy 70 = .ok (.if_icmp .eq 10, 3) := by decide +kernel
theorem dX5_copy_73 : decode cX5_copy 73 = .ok (.aload_n 0, 1) := by decide +kernel
theorem dX5_copy_74 : decode cX5_copy 74 = .ok (.ldc 252, 2) := by decide +kernel
theorem dX5_copy_76 : decode cX5_copy 76 = .ok (.invokevirtual 67, 3) := by decide +kernel
theorem dX5_copy_79 : decode cX5_copy 79 = .ok (.ireturn, 1) := by decide +kernel
theorem dX5_copy_80 : decode cX5_copy 80 = .ok (.aload 6, 2) := by decide +kernel
theorem dX5_copy_82 : decode cX5_copy 82 = .ok (.iload_n 2, 1) := by decide +kernel
theorem dX5_copy_83 : decode cX5_copy 83 = .ok (.iload 5, 2) := by decide +kernel
theorem dX5_copy_85 : decode cX5_copy 85 = .ok (.invokevirtual 273, 3) := by decide +kernel
theorem dX5_copy_88 : decode cX5_copy 88 = .ok (.ifCond .eq 15, 3) := by decide +kernel
theorem dX5_copy_91 : decode cX5_copy 91 = .ok (.aload 7, 2) := by decide +kernel
theorem dX5_copy_93 : decode cX5_copy 93 = .ok (.iload 4, 2) := by decide +kernel
theorem dX5_copy_95 : decode cX5_copy 95 = .ok (.iload 5, 2) := by decide +kernel
theorem dX5_copy_97 : decode cX5_copy 97 = .ok (.invokevirtual 273, 3) := by decide +kernel
theorem dX5_copy_100 : decode cX5_copy 100 = .ok (.ifCond .ne 10, 3) := by decide +kernel
theorem dX5_copy_103 : decode cX5_copy 103 = .ok (.aload_n 0, 1) := by decide +kernel
theorem dX5_copy_104 : decode cX5_copy 104 = .ok (.ldc 44, 2) := by decide +kernel
theorem dX5_copy_106 : decode cX5_copy 106 = .ok (.invokevirtual 67, 3) := by decide +kernel
theorem dX5_copy_109 : decode cX5_copy 109 = .ok (.ireturn, 1) := by decide +kernel
theorem dX5_copy_110 : decode cX5_copy 110 = .ok (.aload 6, 2) := by decide +kernel
theorem dX5_copy_112 : decode cX5_copy 112 = .ok (.getfield 276, 3) := by decide +kernel
theorem dX5_copy_115 : decode cX5_copy 115 = .ok (.iload_n 2, 1) := by decide +kernel
theorem dX5_copy_116 : decode cX5_copy 116 = .ok (.aload 7, 2) := by decide +kernel
theorem dX5_copy_118 : decode cX5_copy 118 = .ok (.getfield 276, 3) := by decide +kernel
theorem dX5_copy_121 : decode cX5_copy 121 = .ok (.iload 4, 2) := by decide +kernel
theorem dX5_copy_123 : decode cX5_copy 123 = .ok (.iload 5, 2) := by decide +kernel
theorem dX5_copy_125 : decode cX5_copy 125 = .ok (.invokestatic 279, 3) := by decide +kernel
theorem dX5_copy_128 : decode cX5_copy 128 = .ok (.iload 5, 2) := by decide +kernel
theorem dX5_copy_130 : decode cX5_copy 130 = .ok (.ireturn, 1) := by decide +kernel
theorem dX5_load_0 : decode cX5_load 0 = .ok (.iload_n 1, 1) := by decide +kernel
theorem dX5_load_1 : decode cX5_load 1 = .ok (.invokestatic 256, 3) := by decide +kernel
theorem dX5_load_4 : decode cX5_load 4 = .ok (.ifCond .ne 10, 3) := by decide +kernel
theorem dX5_load_7 : decode cX5_load 7 = .ok (.aload_n 0, 1) := by decide +kernel
theorem dX5_load_8 : decode cX5_load 8 = .ok (.ldc 44, 2) := by decide +kernel
theorem dX5_load_10 : decode cX5_load 10 = .ok (.invokevirtual 67, 3) := by decide +kernel
theorem dX5_load_13 : decode cX5_load 13 = .ok (.ireturn, 1) := by decide +kernel
theorem dX5_load_14 : decode cX5_load 14 = .ok (.aload_n 0, 1) := by decide +kernel
theorem dX5_load_15 : decode cX5_load 15 = .ok (.getfield 35, 3) := by decide +kernel
theorem dX5_load_18 : decode cX5_load 18 = .ok (.iload_n 1, 1) := by decide +kernel
theorem dX5_load_19 : decode cX5_load 19 = .ok (.aaload, 1) := by decide +kernel
theorem dX5_load_20 : decode cX5_load 20 = .ok (.astore_n 2, 1) := by decide +kernel
theorem dX5_load_21 : decode cX5_load 21 = .ok (.aload_n 2, 1) := by decide +kernel
theorem dX5_load_22 : decode cX5_load 22 = .ok (.invokevirtual 264, 3) := by decide +kernel
theorem dX5_load_25 : decode cX5_load 25 = .ok (.ifCond .eq 10, 3) := by decide +kernel
theorem dX5_load_28 : decode cX5_load 28 = .ok (.aload_n 0, 1) := by decide +kernel
theorem dX5_load_29 : decode cX5_load 29 = .ok (.ldc 247, 2) := by decide +kernel
theorem dX5_load_31 : decode cX5_load 31 = .ok (.invokevirtual 67, 3) := by decide +kernel
theorem dX5_load_34 : decode cX5_load 34 = .ok (.ireturn, 1) := by decide +kernel
theorem dX5_load_35 : decode cX5_load 35 = .ok (.iconst 0, 1) := by decide +kernel
theorem dX5_load_36 : decode cX5_load 36 = .ok (.istore_n 3, 1) := by decide +kernel
theorem dX5_load_37 : decode cX5_load 37 = .ok (.iload_n 3, 1) := by decide +kernel
theorem dX5_load_38 : decode cX5_load 38 = .ok (.aload_n 2, 1) := by decide +kernel
theorem dX5_load_39 : decode cX5_load 39 = .ok (.getfield 263, 3) := by decide +kernel
theorem dX5_load_42 : decode cX5_load 42 = .ok (.if_icmp .ge 45, 3) := by decide +kernel
theorem dX5_load_45 : decode cX5_load 45 = .ok (.iload_n 3, 1) := by decide +kernel
theorem dX5_load_46 : decode cX5_load 46 = .ok (.bipush 10, 2) := by decide +kernel
theorem dX5_load_48 : decode cX5_load 48 = .ok (.if_icmp .ge 39, 3) := by decide +kernel
theorem dX5_load_51 : decode cX5_load 51 = .ok (.aload_n 2, 1) := by decide +kernel
theorem dX5_load_52 : decode cX5_load 52 = .ok (.getfield 276, 3) := by decide +kernel
theorem dX5_load_55 : decode cX5_load 55 = .ok (.iload_n 3, 1) := by decide +kernel
theorem dX5_load_56 : decode cX5_load 56 = .ok (.iaload, 1) := by decide +kernel
theorem dX5_load_57 : decode cX5_load 57 = .ok (.iconst 0, 1) := by decide +kernel
theorem dX5_load_58 : decode cX5_load 58 = .ok (.bipush 99, 2) := by decide +kernel
theorem dX5_load_60 : decode cX5_load 60 = .ok (.invokestatic 45, 3) := by decide +kernel
theorem dX5_load_63 : decode cX5_load 63 = .ok (.ifCond .eq 24, 3) := by decide +kernel
theorem dX5_load_66 : decode cX5_load 66 = .ok (.aload_n 0, 1) := by decide +kernel
theorem dX5_load_67 : decode cX5_load 67 = .ok (.getfield 12, 3) := by decide +kernel
theorem dX5_load_70 : decode cX5_load 70 = .ok (.getfield 71, 3) := by decide +kernel
theorem dX5_load_73 : decode cX5_load 73 = .ok (.iload_n 3, 1) := by decide +kernel
theorem dX5_load_74 : decode cX5_load 74 = .ok (.aload_n 2, 1) := by decide +kernel
theorem dX5_load_75 : decode cX5_load 75 = .ok (.getfield 276, 3) := by decide +kernel
theorem dX5_load_78 : decode cX5_load 78 = .ok (.iload_n 3, 1) := by decide +kernel
theorem dX5_load_79 : decode cX5_load 79 = .ok (.iaload, 1) := by decide +kernel
theorem dX5_load_80 : decode cX5_load 80 = .ok (.iastore, 1) := by decide +kernel
theorem dX5_load_81 : decode cX5_load 81 = .ok (.iinc 3 1, 3) := by decide +kernel
theorem dX5_load_84 : decode cX5_load 84 = .ok (.goto (-47), 3) := by decide +kernel
theorem dX5_load_87 : decode cX5_load 87 = .ok (.iload_n 3, 1) := by decide +kernel
theorem dX5_load_88 : decode cX5_load 88 = .ok (.ireturn, 1) := by decide +kernel
theorem dX5_judge_0 : decode cX5_judge 0 = .ok (.iload_n 1, 1) := by decide +kernel
theorem dX5_judge_1 : decode cX5_judge 1 = .ok (.invokestatic 256, 3) := by decide +kernel
theorem dX5_judge_4 : decode cX5_judge 4 = .ok (.ifCond .ne 10, 3) := by decide +kernel
theorem dX5_judge_7 : decode cX5_judge 7 = .ok (.aload_n 0, 1) := by decide +kernel
theorem dX5_judge_8 : decode cX5_judge 8 = .ok (.ldc 44, 2) := by decide +kernel
theorem dX5_judge_10 : decode cX5_judge 10 = .ok (.invokevirtual 67, 3) := by decide +kernel
theorem dX5_judge_13 : decode cX5_judge 13 = .ok (.ireturn, 1) := by decide +kernel
theorem dX5_judge_14 : decode cX5_judge 14 = .ok (.aload_n 0, 1) := by decide +kernel
theorem dX5_judge_15 : decode cX5_judge 15 = .ok (.getfield 35, 3) := by decide +kernel
theorem dX5_judge_18 : decode cX5_judge 18 = .ok (.iload_n 1, 1) := by decide +kernel
theorem dX5_judge_19 : decode cX5_judge 19 = .ok (.aaload, 1) := by decide +kernel
theorem dX5_judge_20 : decode cX5_judge 20 = .ok (.astore_n 2, 1) := by decide +kernel
theorem dX5_judge_21 : decode cX5_judge 21 = .ok (.aload_n 2, 1) := by decide +kernel
theorem dX5_judge_22 : decode cX5_judge 22 = .ok (.invokevirtual 264, 3) := by decide +kernel
theorem dX5_judge_25 : decode cX5_judge 25 = .ok (.ifCond .eq 10, 3) := by decide +kernel
theorem dX5_judge_28 : decode cX5_judge 28 = .ok (.aload_n 0, 1) := by decide +kernel
theorem dX5_judge_29 : decode cX5_judge 29 = .ok (.ldc 247, 2) := by decide +kernel
theorem dX5_judge_31 : decode cX5_judge 31 = .ok (.invokevirtual 67, 3) := by decide +kernel
theorem dX5_judge_34 : decode cX5_judge 34 = .ok (.ireturn, 1) := by decide +kernel
theorem dX5_judge_35 : decode cX5_judge 35 = .ok (.aload_n 0, 1) := by decide +kernel
theorem dX5_judge_36 : decode cX5_judge 36 = .ok (.aload_n 2, 1) := by decide +kernel
theorem dX5_judge_37 : decode cX5_judge 37 = .ok (.getfield 263, 3) := by decide +kernel
theorem dX5_judge_40 : decode cX5_judge 40 = .ok (.invokevirtual 162, 3) := by decide +kernel
theorem dX5_judge_43 : decode cX5_judge 43 = .ok (.ifCond .eq 10, 3) := by decide +kernel
theorem dX5_judge_46 : decode cX5_judge 46 = .ok (.aload_n 0, 1) := by decide +kernel
theorem dX5_judge_47 : decode cX5_judge 47 = .ok (.ldc 165, 2) := by decide +kernel
theorem dX5_judge_49 : decode cX5_judge 49 = .ok (.invokevirtual 67, 3) := by decide +kernel
theorem dX5_judge_52 : decode cX5_judge 52 = .ok (.ireturn, 1) := by decide +kernel
theorem dX5_judge_53 : decode cX5_judge 53 = .ok (.aload_n 0, 1) := by decide +kernel
theorem dX5_judge_54 : decode cX5_judge 54 = .ok (.getfield 16, 3) := by decide +kernel
theorem dX5_judge_57 : decode cX5_judge 57 = .ok (.aload_n 0, 1) := by decide +kernel
theorem dX5_judge_58 : decode cX5_judge 58 = .ok (.getfield 12, 3) := by decide +kernel
theorem dX5_judge_61 : decode cX5_judge 61 = .ok (.invokevirtual 202, 3) := by decide +kernel
theorem dX5_judge_64 : decode cX5_judge 64 = .ok (.iconst 0, 1) := by decide +kernel
theorem dX5_judge_65 : decode cX5_judge 65 = .ok (.istore_n 3, 1) := by decide +kernel
theorem dX5_judge_66 : decode cX5_judge 66 = .ok (.iload_n 3, 1) := by decide +kernel
theorem dX5_judge_67 : decode cX5_judge 67 = .ok (.aload_n 2, 1) := by decide +kernel
theorem dX5_judge_68 : decode cX5_judge 68 = .ok (.getfield 263, 3) := by decide +kernel
theorem dX5_judge_71 : decode cX5_judge 71 = .ok (.if_icmp .ge 29, 3) := by decide +kernel
theorem dX5_judge_74 : decode cX5_judge 74 = .ok (.aload_n 0, 1) := by decide +kernel
theorem dX5_judge_75 : decode cX5_judge 75 = .ok (.getfield 16, 3) := by decide +kernel
theorem dX5_judge_78 : decode cX5_judge 78 = .ok (.invokevirtual 212, 3) := by decide +kernel
theorem dX5_judge_81 : decode cX5_judge 81 = .ok (.aload_n 2, 1) := by decide +kernel
theorem dX5_judge_82 : decode cX5_judge 82 = .ok (.getfield 276, 3) := by decide +kernel
theorem dX5_judge_85 : decode cX5_judge 85 = .ok (.iload_n 3, 1) := by decide +kernel
theorem dX5_judge_86 : decode cX5_judge 86 = .ok (.iaload, 1) := by decide +kernel
theorem dX5_judge_87 : decode cX5_judge 87 = .ok (.if_icmp .eq 7, 3) := by decide +kernel
theorem dX5_judge_90 : decode cX5_judge 90 = .ok (.iconst 1, 1) := by decide +kernel
theorem dX5_judge_91 : decode cX5_judge 91 = .ok (.iload_n 3, 1) := by decide +kernel
theorem dX5_judge_92 : decode cX5_judge 92 = .ok (.iadd, 1) := by decide +kernel
theorem dX5_judge_93 : decode cX5_judge 93 = .ok (.ireturn, 1) := by decide +kernel
theorem dX5_judge_94 : decode cX5_judge 94 = .ok (.iinc 3 1, 3) := by decide +kernel
theorem dX5_judge_97 : decode cX5_judge 97 = .ok (.goto (-31), 3) := by decide +kernel
theorem dX5_judge_100 : decode cX5_judge 100 = .ok (.iconst 0, 1) := by decide +kernel
theorem dX5_judge_101 : decode cX5_judge 101 = .ok (.ireturn, 1) := by decide +kernel
theorem dX5_image_0 : decode cX5_image 0 = .ok (.aload_n 0, 1) := by decide +kernel
theorem dX5_image_1 : decode cX5_image 1 = .ok (.getfield 19, 3) := by decide +kernel
theorem dX5_image_4 : decode cX5_image 4 = .ok (.aload_n 0, 1) := by decide +kernel
theorem dX5_image_5 : decode cX5_image 5 = .ok (.getfield 12, 3) := by decide +kernel
theorem dX5_image_8 : decode cX5_image 8 = .ok (.invokevirtual 202, 3) := by decide +kernel
theorem dX5_image_11 : decode cX5_image 11 = .ok (.aload_n 0, 1) := by decide +kernel
theorem dX5_image_12 : decode cX5_image 12 = .ok (.iconst 1, 1) := by decide +kernel
theorem dX5_image_13 : decode cX5_image 13 = .ok (.putfield 22, 3) := by decide +kernel
theorem dX5_image_16 : decode cX5_image 16 = .ok (.iconst 1, 1) := by decide +kernel
theorem dX5_image_17 : decode cX5_image 17 = .ok (.ireturn, 1) := by decide +kernel
theorem dX5_undo_0 : decode cX5_undo 0 = .ok (.aload_n 0, 1) := by decide +kernel
theorem dX5_undo_1 : decode cX5_undo 1 = .ok (.getfield 22, 3) := by decide +kernel
theorem dX5_undo_4 : decode cX5_undo 4 = .ok (.ifCond .ne 10, 3) := by decide +kernel
theorem dX5_undo_7 : decode cX5_undo 7 = .ok (.aload_n 0, 1) := by decide +kernel
theorem dX5_undo_8 : decode cX5_undo 8 = .ok (.ldc 110, 2) := by decide +kernel
theorem dX5_undo_10 : decode cX5_undo 10 = .ok (.invokevirtual 67, 3) := by decide +kernel
theorem dX5_undo_13 : decode cX5_undo 13 = .ok (.ireturn, 1) := by decide +kernel
theorem dX5_undo_14 : decode cX5_undo 14 = .ok (.aload_n 0, 1) := by decide +kernel
theorem dX5_undo_15 : decode cX5_undo 15 = .ok (.getfield 12, 3) := by decide +kernel
theorem dX5_undo_18 : decode cX5_undo 18 = .ok (.aload_n 0, 1) := by decide +kernel
theorem dX5_undo_19 : decode cX5_undo 19 = .ok (.getfield 19, 3) := by decide +kernel
theorem dX5_undo_22 : decode cX5_undo 22 = .ok (.invokevirtual 202, 3) := by decide +kernel
theorem dX5_undo_25 : decode cX5_undo 25 = .ok (.aload_n 0, 1) := by decide +kernel
theorem dX5_undo_26 : decode cX5_undo 26 = .ok (.getfield 12, 3) := by decide +kernel
theorem dX5_undo_29 : decode cX5_undo 29 = .ok (.getfield 59, 3) := by decide +kernel
theorem dX5_undo_32 : decode cX5_undo 32 = .ok (.ireturn, 1) := by decide +kernel
theorem dX5_tear_0 : decode cX5_tear 0 = .ok (.aload_n 0, 1) := by decide +kernel
theorem dX5_tear_1 : decode cX5_tear 1 = .ok (.getfield 22, 3) := by decide +kernel
theorem dX5_tear_4 : decode cX5_tear 4 = .ok (.ifCond .eq 7, 3) := by decide +kernel
theorem dX5_tear_7 : decode cX5_tear 7 = .ok (.iconst 1, 1) := by decide +kernel
theorem dX5_tear_8 : decode cX5_tear 8 = .ok (.goto 4, 3) := by decide +kernel
theorem dX5_tear_11 : decode cX5_tear 11 = .ok (.iconst 0, 1) := by decide +kernel
theorem dX5_tear_12 : decode cX5_tear 12 = .ok (.istore_n 1, 1) := by decide +kernel
theorem dX5_tear_13 : decode cX5_tear 13 = .ok (.aload_n 0, 1) := by decide +kernel
theorem dX5_tear_14 : decode cX5_tear 14 = .ok (.iconst 0, 1) := by decide +kernel
theorem dX5_tear_15 : decode cX5_tear 15 = .ok (.putfield 22, 3) := by decide +kernel
theorem dX5_tear_18 : decode cX5_tear 18 = .ok (.iload_n 1, 1) := by decide +kernel
theorem dX5_tear_19 : decode cX5_tear 19 = .ok (.ireturn, 1) := by decide +kernel
theorem dX5_count_0 : decode cX5_count 0 = .ok (.iload_n 1, 1) := by decide +kernel
theorem dX5_count_1 : decode cX5_count 1 = .ok (.tableswitch 93 0 5 #[39, 50, 61, 69, 77, 85], 39) := by decide +kernel
theorem dX5_count_40 : decode cX5_count 40 = .ok (.aload_n 0, 1) := by decide +kernel
theorem dX5_count_41 : decode cX5_count 41 = .ok (.getfield 12, 3) := by decide +kernel
theorem dX5_count_44 : decode cX5_count 44 = .ok (.getfield 49, 3) := by decide +kernel
theorem dX5_count_47 : decode cX5_count 47 = .ok (.getfield 53, 3) := by decide +kernel
theorem dX5_count_50 : decode cX5_count 50 = .ok (.ireturn, 1) := by decide +kernel
theorem dX5_count_51 : decode cX5_count 51 = .ok (.aload_n 0, 1) := by decide +kernel
theorem dX5_count_52 : decode cX5_count 52 = .ok (.getfield 12, 3) := by decide +kernel
theorem dX5_count_55 : decode cX5_count 55 = .ok (.invokevirtual 106, 3) := by decide +kernel
theorem dX5_count_58 : decode cX5_count 58 = .ok (.invokestatic 218, 3) := by decide +kernel
theorem dX5_count_61 : decode cX5_count 61 = .ok (.ireturn, 1) := by decide +kernel
theorem dX5_count_62 : decode cX5_count 62 = .ok (.aload_n 0, 1) := by decide +kernel
theorem dX5_count_63 : decode cX5_count 63 = .ok (.getfield 12, 3) := by decide +kernel
theorem dX5_count_66 : decode cX5_count 66 = .ok (.invokevirtual 285, 3) := by decide +kernel
theorem dX5_count_69 : decode cX5_count 69 = .ok (.ireturn, 1) := by decide +kernel
theorem dX5_count_70 : decode cX5_count 70 = .ok (.aload_n 0, 1) := by decide +kernel
theorem dX5_count_71 : decode cX5_count 71 = .ok (.getfield 29, 3) := by decide +kernel
theorem dX5_count_74 : decode cX5_count 74 = .ok (.getfield 232, 3) := by decide +kernel
theorem dX5_count_77 : decode cX5_count 77 = .ok (.ireturn, 1) := by decide +kernel
theorem dX5_count_78 : decode cX5_count 78 = .ok (.aload_n 0, 1) := by decide +kernel
theorem dX5_count_79 : decode cX5_count 79 = .ok (.getfield 12, 3) := by decide +kernel
theorem dX5_count_82 : decode cX5_count 82 = .ok (.getfield 229, 3) := by decide +kernel
theorem dX5_count_85 : decode cX5_count 85 = .ok (.ireturn, 1) := by decide +kernel
theorem dX5_count_86 : decode cX5_count 86 = .ok (.aload_n 0, 1) := by decide +kernel
theorem dX5_count_87 : decode cX5_count 87 = .ok (.getfield 12, 3) := by decide +kernel
theorem dX5_count_90 : decode cX5_count 90 = .ok (.invokevirtual 288, 3) := by decide +kernel
theorem dX5_count_93 : decode cX5_count 93 = .ok (.ireturn, 1) := by decide +kernel
theorem dX5_count_94 : decode cX5_count 94 = .ok (.aload_n 0, 1) := by decide +kernel
theorem dX5_count_95 : decode cX5_count 95 = .ok (.ldc 44, 2) := by decide +kernel
theorem dX5_count_97 : decode cX5_count 97 = .ok (.invokevirtual 67, 3) := by decide +kernel
theorem dX5_count_100 : decode cX5_count 100 = .ok (.ireturn, 1) := by decide +kernel
theorem dX5_status_0 : decode cX5_status 0 = .ok (.iload_n 1, 1) := by decide +kernel
theorem dX5_status_1 : decode cX5_status 1 = .ok (.iconst (-1), 1) := by decide +kernel
theorem dX5_status_2 : decode cX5_status 2 = .ok (.bipush 6, 2) := by decide +kernel
theorem dX5_status_4 : decode cX5_status 4 = .ok (.invokestatic 45, 3) := by decide +kernel
theorem dX5_status_7 : decode cX5_status 7 = .ok (.ifCond .ne 10, 3) := by decide +kernel
theorem dX5_status_10 : decode cX5_status 10 = .ok (.aload_n 0, 1) := by decide +kernel
theorem dX5_status_11 : decode cX5_status 11 = .ok (.ldc 44, 2) := by decide +kernel
theorem dX5_status_13 : decode cX5_status 13 = .ok (.invokevirtual 67, 3) := by decide +kernel
theorem dX5_status_16 : decode cX5_status 16 = .ok (.ireturn, 1) := by decide +kernel
theorem dX5_status_17 : decode cX5_status 17 = .ok (.iload_n 1, 1) := by decide +kernel
theorem dX5_status_18 : decode cX5_status 18 = .ok (.ifCond .lt 10, 3) := by decide +kernel
theorem dX5_status_21 : decode cX5_status 21 = .ok (.aload_n 0, 1) := by decide +kernel
theorem dX5_status_22 : decode cX5_status 22 = .ok (.getfield 40, 3) := by decide +kernel
theorem dX5_status_25 : decode cX5_status 25 = .ok (.iload_n 1, 1) := by decide +kernel
theorem dX5_status_26 : decode cX5_status 26 = .ok (.iaload, 1) := by decide +kernel
theorem dX5_status_27 : decode cX5_status 27 = .ok (.ireturn, 1) := by decide +kernel
theorem dX5_status_28 : decode cX5_status 28 = .ok (.iconst 0, 1) := by decide +kernel
theorem dX5_status_29 : decode cX5_status 29 = .ok (.istore_n 2, 1) := by decide +kernel
theorem dX5_status_30 : decode cX5_status 30 = .ok (.iconst 0, 1) := by decide +kernel
theorem dX5_status_31 : decode cX5_status 31 = .ok (.istore_n 3, 1) := by decide +kernel
theorem dX5_status_32 : decode cX5_status 32 = .ok (.iload_n 3, 1) := by decide +kernel
theorem dX5_status_33 : decode cX5_status 33 = .ok (.bipush 7, 2) := by decide +kernel
theorem dX5_status_35 : decode cX5_status 35 = .ok (.if_icmp .ge 18, 3) := by decide +kernel
theorem dX5_status_38 : decode cX5_status 38 = .ok (.iload_n 2, 1) := by decide +kernel
theorem dX5_status_39 : decode cX5_status 39 = .ok (.aload_n 0, 1) := by decide +kernel
theorem dX5_status_40 : decode cX5_status 40 = .ok (.getfield 40, 3) := by decide +kernel
theorem dX5_status_43 : decode cX5_status 43 = .ok (.iload_n 3, 1) := by decide +kernel
theorem dX5_status_44 : decode cX5_status 44 = .ok (.iaload, 1) := by decide +kernel
theorem dX5_status_45 : decode cX5_status 45 = .ok (.iadd, 1) := by decide +kernel
theorem dX5_status_46 : decode cX5_status 46 = .ok (.istore_n 2, 1) := by decide +kernel
theorem dX5_status_47 : decode cX5_status 47 = .ok (.iinc 3 1, 3) := by decide +kernel
theorem dX5_status_50 : decode cX5_status 50 = .ok (.goto (-18), 3) := by decide +kernel
theorem dX5_status_53 : decode cX5_status 53 = .ok (.iload_n 2, 1) := by decide +kernel
theorem dX5_status_54 : decode cX5_status 54 = .ok (.ireturn, 1) := by decide +kernel
