theorem dX9_goes_18 : decode cX9_goes 18 = .ok (.ifCond .ne 7, 3) := by decide +kernel
theorem dX9_goes_21 : decode cX9_goes 21 = .ok (.iconst 3, 1) := by decide +kernel
theorem dX9_goes_22 : decode cX9_goes 22 = .ok (.goto 4, 3) := by decide +kernel
theorem dX9_goes_25 : decode cX9_goes 25 = .ok (.iconst 0, 1) := by decide +kernel
theorem dX9_goes_26 : decode cX9_goes 26 = .ok (.putfield 149, 3) := by decide +kernel
theorem dX9_goes_29 : decode cX9_goes 29 = .ok (.aload_n 0, 1) := by decide +kernel
theorem dX9_goes_30 : decode cX9_goes 30 = .ok (.getfield 149, 3) := by decide +kernel
theorem dX9_goes_33 : decode cX9_goes 33 = .ok (.ifCond .ne 7, 3) := by decide +kernel
theorem dX9_goes_36 : decode cX9_goes 36 = .ok (.iconst 1, 1) := by decide +kernel
theorem dX9_goes_37 : decode cX9_goes 37 = .ok (.goto 4, 3) := by decide +kernel
theorem dX9_goes_40 : decode cX9_goes 40 = .ok (.iconst 0, 1) := by decide +kernel
theorem dX9_goes_41 : decode cX9_goes 41 = .ok (.ireturn, 1) := by decide +kernel
theorem dX9_isStreet_0 : decode cX9_isStreet 0 = .ok (.iload_n 0, 1) := by decide +kernel
theorem dX9_isStreet_1 : decode cX9_isStreet 1 = .ok (.iconst 0, 1) := by decide +kernel
theorem dX9_isStreet_2 : decode cX9_isStreet 2 = .ok (.iconst 3, 1) := by decide +kernel
theorem dX9_isStreet_3 : decode cX9_isStreet 3 = .ok (.invokestatic 153, 3) := by decide +kernel
theorem dX9_isStreet_6 : decode cX9_isStreet 6 = .ok (.ireturn, 1) := by decide +kernel
theorem dX9_isMetre_0 : decode cX9_isMetre 0 = .ok (.iload_n 0, 1) := by decide +kernel
theorem dX9_isMetre_1 : decode cX9_isMetre 1 = .ok (.iconst 0, 1) := by decide +kernel
theorem dX9_isMetre_2 : decode cX9_isMetre 2 = .ok (.bipush 59, 2) := by decide +kernel
theorem dX9_isMetre_4 : decode cX9_isMetre 4 = .ok (.invokestatic 153, 3) := by decide +kernel
theorem dX9_isMetre_7 : decode cX9_isMetre 7 = .ok (.ireturn, 1) := by decide +kernel
theorem dX9_isCar_0 : decode cX9_isCar 0 = .ok (.iload_n 1, 1) := by decide +kernel
theorem dX9_isCar_1 : decode cX9_isCar 1 = .ok (.iconst 0, 1) := by decide +kernel
theorem dX9_isCar_2 : decode cX9_isCar 2 = .ok (.aload_n 0, 1) := by decide +kernel
theorem dX9_isCar_3 : decode cX9_isCar 3 = .ok (.getfield 157, 3) := by decide +kernel
theorem dX9_isCar_6 : decode cX9_isCar 6 = .ok (.iconst 1, 1) := by decide +kernel
theorem dX9_isCar_7 : decode cX9_isCar 7 = .ok (.isub, 1) := by decide +kernel
theorem dX9_isCar_8 : decode cX9_isCar 8 = .ok (.invokestatic 153, 3) := by decide +kernel
theorem dX9_isCar_11 : decode cX9_isCar 11 = .ok (.ireturn, 1) := by decide +kernel
theorem dX9_has_0 : decode cX9_has 0 = .ok (.iload_n 0, 1) := by decide +kernel
theorem dX9_has_1 : decode cX9_has 1 = .ok (.iload_n 1, 1) := by decide +kernel
theorem dX9_has_2 : decode cX9_has 2 = .ok (.ishr, 1) := by decide +kernel
theorem dX9_has_3 : decode cX9_has 3 = .ok (.iconst 1, 1) := by decide +kernel
theorem dX9_has_4 : decode cX9_has 4 = .ok (.iand, 1) := by decide +kernel
theorem dX9_has_5 : decode cX9_has 5 = .ok (.iconst 1, 1) := by decide +kernel
theorem dX9_has_6 : decode cX9_has 6 = .ok (.if_icmp .ne 7, 3) := by decide +kernel
theorem dX9_has_9 : decode cX9_has 9 = .ok (.iconst 1, 1) := by decide +kernel
theorem dX9_has_10 : decode cX9_has 10 = .ok (.goto 4, 3) := by decide +kernel
theorem dX9_has_13 : decode cX9_has 13 = .ok (.iconst 0, 1) := by decide +kernel
theorem dX9_has_14 : decode cX9_has 14 = .ok (.ireturn, 1) := by decide +kernel
theorem dX9_block_0 : decode cX9_block 0 = .ok (.aload_n 0, 1) := by decide +kernel
theorem dX9_block_1 : decode cX9_block 1 = .ok (.iload_n 1, 1) := by decide +kernel
theorem dX9_block_2 : decode cX9_block 2 = .ok (.invokestatic 160, 3) := by decide +kernel
theorem dX9_block_5 : decode cX9_block 5 = .ok (.ifCond .eq 14, 3) := by decide +kernel
theorem dX9_block_8 : decode cX9_block 8 = .ok (.iload_n 2, 1) := by decide +kernel
theorem dX9_block_9 : decode cX9_block 9 = .ok (.invokestatic 164, 3) := by decide +kernel
theorem dX9_block_12 : decode cX9_block 12 = .ok (.ifCond .eq 7, 3) := by decide +kernel
theorem dX9_block_15 : decode cX9_block 15 = .ok (.iconst 1, 1) := by decide +kernel
theorem dX9_block_16 : decode cX9_block 16 = .ok (.goto 4, 3) := by decide +kernel
theorem dX9_block_19 : decode cX9_block 19 = .ok (.iconst 0, 1) := by decide +kernel
theorem dX9_block_20 : decode cX9_block 20 = .ok (.iconst 1, 1) := by decide +kernel
theorem dX9_block_21 : decode cX9_block 21 = .ok (.iconst 1, 1) := by decide +kernel
theorem dX9_block_22 : decode cX9_block 22 = .ok (.invokevirtual 167, 3) := by decide +kernel
theorem dX9_block_25 : decode cX9_block 25 = .ok (.ifCond .ne 5, 3) := by decide +kernel
theorem dX9_block_28 : decode cX9_block 28 = .ok (.iconst 0, 1) := by decide +kernel
theorem dX9_block_29 : decode cX9_block 29 = .ok (.ireturn, 1) := by decide +kernel
theorem dX9_block_30 : decode cX9_block 30 = .ok (.aload_n 0, 1) := by decide +kernel
theorem dX9_block_31 : decode cX9_block 31 = .ok (.getfield 7, 3) := by decide +kernel
theorem dX9_block_34 : decode cX9_block 34 = .ok (.bipush 60, 2) := by decide +kernel
theorem dX9_block_36 : decode cX9_block 36 = .ok (.iload_n 1, 1) := by decide +kernel
theorem dX9_block_37 : decode cX9_block 37 = .ok (.imul, 1) := by decide +kernel
theorem dX9_block_38 : decode cX9_block 38 = .ok (.iload_n 2, 1) := by decide +kernel
theorem dX9_block_39 : decode cX9_block 39 = .ok (.iadd, 1) := by decide +kernel
theorem dX9_block_40 : decode cX9_block 40 = .ok (.baload, 1) := by decide +kernel
theorem dX9_block_41 : decode cX9_block 41 = .ok (.istore 4, 2) := by decide +kernel
theorem dX9_block_43 : decode cX9_block 43 = .ok (.aload_n 0, 1) := by decide +kernel
theorem dX9_block_44 : decode cX9_block 44 = .ok (.getfield 7, 3) := by decide +kernel
theorem dX9_block_47 : decode cX9_block 47 = .ok (.bipush 60, 2) := by decide +kernel
theorem dX9_block_49 : decode cX9_block 49 = .ok (.iload_n 1, 1) := by decide +kernel
theorem dX9_block_50 : decode cX9_block 50 = .ok (.imul, 1) := by decide +kernel
theorem dX9_block_51 : decode cX9_block 51 = .ok (.iload_n 2, 1) := by decide +kernel
theorem dX9_block_52 : decode cX9_block 52 = .ok (.iadd, 1) := by decide +kernel
theorem dX9_block_53 : decode cX9_block 53 = .ok (.iload_n 3, 1) := by decide +kernel
theorem dX9_block_54 : decode cX9_block 54 = .ok (.bastore, 1) := by decide +kernel
theorem dX9_block_55 : decode cX9_block 55 = .ok (.iload 4, 2) := by decide +kernel
theorem dX9_block_57 : decode cX9_block 57 = .ok (.ireturn, 1) := by decide +kernel
theorem dX9_resets_0 : decode cX9_resets 0 = .ok (.aload_n 0, 1) := by decide +kernel
theorem dX9_resets_1 : decode cX9_resets 1 = .ok (.bipush 127, 2) := by decide +kernel
theorem dX9_resets_3 : decode cX9_resets 3 = .ok (.putfield 171, 3) := by decide +kernel
theorem dX9_resets_6 : decode cX9_resets 6 = .ok (.aload_n 0, 1) := by decide +kernel
theorem dX9_resets_7 : decode cX9_resets 7 = .ok (.iconst 0, 1) := by decide +kernel
theorem dX9_resets_8 : decode cX9_resets 8 = .ok (.putfield 174, 3) := by decide +kernel
theorem dX9_resets_11 : decode cX9_resets 11 = .ok (.aload_n 0, 1) := by decide +kernel
theorem dX9_resets_12 : decode cX9_resets 12 = .ok (.bipush 96, 2) := by decide +kernel
theorem dX9_resets_14 : decode cX9_resets 14 = .ok (.putfield 177, 3) := by decide +kernel
theorem dX9_resets_17 : decode cX9_resets 17 = .ok (.aload_n 0, 1) := by decide +kernel
theorem dX9_resets_18 : decode cX9_resets 18 = .ok (.iconst 0, 1) := by decide +kernel
theorem dX9_resets_19 : decode cX9_resets 19 = .ok (.putfield 180, 3) := by decide +kernel
theorem dX9_resets_22 : decode cX9_resets 22 = .ok (.aload_n 0, 1) := by decide +kernel
theorem dX9_resets_23 : decode cX9_resets 23 = .ok (.sipush 520, 3) := by decide +kernel
theorem dX9_resets_26 : decode cX9_resets 26 = .ok (.putfield 183, 3) := by decide +kernel
theorem dX9_resets_29 : decode cX9_resets 29 = .ok (.return_, 1) := by decide +kernel
theorem dX9_times_0 : decode cX9_times 0 = .ok (.aload_n 0, 1) := by decide +kernel
theorem dX9_times_1 : decode cX9_times 1 = .ok (.iload_n 1, 1) := by decide +kernel
theorem dX9_times_2 : decode cX9_times 2 = .ok (.iconst 1, 1) := by decide +kernel
theorem dX9_times_3 : decode cX9_times 3 = .ok (.bipush 127, 2) := by decide +kernel
theorem dX9_times_5 : decode cX9_times 5 = .ok (.invokestatic 153, 3) := by decide +kernel
theorem dX9_times_8 : decode cX9_times 8 = .ok (.ifCond .eq 28, 3) := by decide +kernel
theorem dX9_times_11 : decode cX9_times 11 = .ok (.iload_n 2, 1) := by decide +kernel
theorem dX9_times_12 : decode cX9_times 12 = .ok (.iconst 0, 1) := by decide +kernel
theorem dX9_times_13 : decode cX9_times 13 = .ok (.bipush 95, 2) := by decide +kernel
theorem dX9_times_15 : decode cX9_times 15 = .ok (.invokestatic 153, 3) := by decide +kernel
theorem dX9_times_18 : decode cX9_times 18 = .ok (.ifCond .eq 18, 3) := by decide +kernel
theorem dX9_times_21 : decode cX9_times 21 = .ok (.iload_n 3, 1) := by decide +kernel
theorem dX9_times_22 : decode cX9_times 22 = .ok (.iload_n 2, 1) := by decide +kernel
theorem dX9_times_23 : decode cX9_times 23 = .ok (.if_icmp .le 13, 3) := by decide +kernel
theorem dX9_times_26 : decode cX9_times 26 = .ok (.iload_n 3, 1) := by decide +kernel
theorem dX9_times_27 : decode cX9_times 27 = .ok (.bipush 96, 2) := by decide +kernel
theorem dX9_times_29 : decode cX9_times 29 = .ok (.if_icmp .gt 7, 3) := by decide +kernel
theorem dX9_times_32 : decode cX9_times 32 = .ok (.iconst 1, 1) := by decide +kernel
theorem dX9_times_33 : decode cX9_times 33 = .ok (.goto 4, 3) := by decide +kernel
theorem dX9_times_36 : decode cX9_times 36 = .ok (.iconst 0, 1) := by decide +kernel
theorem dX9_times_37 : decode cX9_times 37 = .ok (.iconst 1, 1) := by decide +kernel
theorem dX9_times_38 : decode cX9_times 38 = .ok (.iconst 1, 1) := by decide +kernel
theorem dX9_times_39 : decode cX9_times 39 = .ok (.invokevirtual 167, 3) := by decide +kernel
theorem dX9_times_42 : decode cX9_times 42 = .ok (.ifCond .eq 18, 3) := by decide +kernel
theorem dX9_times_45 : decode cX9_times 45 = .ok (.aload_n 0, 1) := by decide +kernel
theorem dX9_times_46 : decode cX9_times 46 = .ok (.iload_n 1, 1) := by decide +kernel
theorem dX9_times_47 : decode cX9_times 47 = .ok (.putfield 171, 3) := by decide +kernel
theorem dX9_times_50 : decode cX9_times 50 = .ok (.aload_n 0, 1) := by decide +kernel
theorem dX9_times_51 : decode cX9_times 51 = .ok (.iload_n 2, 1) := by decide +kernel
theorem dX9_times_52 : decode cX9_times 52 = .ok (.putfield 174, 3) := by decide +kernel
theorem dX9_times_55 : decode cX9_times 55 = .ok (.aload_n 0, 1) := by decide +kernel
theorem dX9_times_56 : decode cX9_times 56 = .ok (.iload_n 3, 1) := by decide +kernel
theorem dX9_times_57 : decode cX9_times 57 = .ok (.putfield 177, 3) := by decide +kernel
theorem dX9_times_60 : decode cX9_times 60 = .ok (.return_, 1) := by decide +kernel
theorem dX9_dates_0 : decode cX9_dates 0 = .ok (.aload_n 0, 1) := by decide +kernel
theorem dX9_dates_1 : decode cX9_dates 1 = .ok (.iload_n 1, 1) := by decide +kernel
theorem dX9_dates_2 : decode cX9_dates 2 = .ok (.iconst 0, 1) := by decide +kernel
theorem dX9_dates_3 : decode cX9_dates 3 = .ok (.sipush 520, 3) := by decide +kernel
theorem dX9_dates_6 : decode cX9_dates 6 = .ok (.invokestatic 153, 3) := by decide +kernel
theorem dX9_dates_9 : decode cX9_dates 9 = .ok (.ifCond .eq 18, 3) := by decide +kernel
theorem dX9_dates_12 : decode cX9_dates 12 = .ok (.iload_n 2, 1) := by decide +kernel
theorem dX9_dates_13 : decode cX9_dates 13 = .ok (.iload_n 1, 1) := by decide +kernel
theorem dX9_dates_14 : decode cX9_dates 14 = .ok (.sipush 520, 3) := by decide +kernel
theorem dX9_dates_17 : decode cX9_dates 17 = .ok (.invokestatic 153, 3) := by decide +kernel
theorem dX9_dates_20 : decode cX9_dates 20 = .ok (.ifCond .eq 7, 3) := by decide +kernel
theorem dX9_dates_23 : decode cX9_dates 23 = .ok (.iconst 1, 1) := by decide +kernel
theorem dX9_dates_24 : decode cX9_dates 24 = .ok (.goto 4, 3) := by decide +kernel
theorem dX9_dates_27 : decode cX9_dates 27 = .ok (.iconst 0, 1) := by decide +kernel
theorem dX9_dates_28 : decode cX9_dates 28 = .ok (.iconst 1, 1) := by decide +kernel
theorem dX9_dates_29 : decode cX9_dates 29 = .ok (.iconst 1, 1) := by decide +kernel
theorem dX9_dates_30 : decode cX9_dates 30 = .ok (.invokevirtual 167, 3) := by decide +kernel
theorem dX9_dates_33 : decode cX9_dates 33 = .ok (.ifCond .eq 13, 3) := by decide +kernel
theorem dX9_dates_36 : decode cX9_dates 36 = .ok (.aload_n 0, 1) := by decide +kernel
theorem dX9_dates_37 : decode cX9_dates 37 = .ok (.iload_n 1, 1) := by decide +kernel
theorem dX9_dates_38 : decode cX9_dates 38 = .ok (.putfield 180, 3) := by decide +kernel
theorem dX9_dates_41 : decode cX9_dates 41 = .ok (.aload_n 0, 1) := by decide +kernel
theorem dX9_dates_42 : decode cX9_dates 42 = .ok (.iload_n 2, 1) := by decide +kernel
theorem dX9_dates_43 : decode cX9_dates 43 = .ok (.putfield 183, 3) := by decide +kernel
theorem dX9_dates_46 : decode cX9_dates 46 = .ok (.return_, 1) := by decide +kernel
theorem dX9_sign_0 : decode cX9_sign 0 = .ok (.aload_n 0, 1) := by decide +kernel
theorem dX9_sign_1 : decode cX9_sign 1 = .ok (.iload_n 1, 1) := by decide +kernel
theorem dX9_sign_2 : decode cX9_sign 2 = .ok (.invokestatic 160, 3) := by decide +kernel
theorem dX9_sign_5 : decode cX9_sign 5 = .ok (.ifCond .eq 21, 3) := by decide +kernel
theorem dX9_sign_8 : decode cX9_sign 8 = .ok (.iload_n 2, 1) := by decide +kernel
theorem dX9_sign_9 : decode cX9_sign 9 = .ok (.invokestatic 164, 3) := by decide +kernel
theorem dX9_sign_12 : decode cX9_sign 12 = .ok (.ifCond .eq 14, 3) := by decide +kernel
theorem dX9_sign_15 : decode cX9_sign 15 = .ok (.iload_n 3, 1) := by decide +kernel
theorem dX9_sign_16 : decode cX9_sign 16 = .ok (.invokestatic 164, 3) := by decide +kernel
theorem dX9_sign_19 : decode cX9_sign 19 = .ok (.ifCond .eq 7, 3) := by decide +kernel
theorem dX9_sign_22 : decode cX9_sign 22 = .ok (.iconst 1, 1) := by decide +kernel
theorem dX9_sign_23 : decode cX9_sign 23 = .ok (.goto 4, 3) := by decide +kernel
theorem dX9_sign_26 : decode cX9_sign 26 = .ok (.iconst 0, 1) := by decide +kernel
theorem dX9_sign_27 : decode cX9_sign 27 = .ok (.iload_n 3, 1) := by decide +kernel
theorem dX9_sign_28 : decode cX9_sign 28 = .ok (.iload_n 2, 1) := by decide +kernel
theorem dX9_sign_29 : decode cX9_sign 29 = .ok (.if_icmp .lt 29, 3) := by decide +kernel
theorem dX9_sign_32 : decode cX9_sign 32 = .ok (.iload 4, 2) := by decide +kernel
theorem dX9_sign_34 : decode cX9_sign 34 = .ok (.iconst 0, 1) := by decide +kernel
theorem dX9_sign_35 : decode cX9_sign 35 = .ok (.bipush 31, 2) := by decide +kernel
theorem dX9_sign_37 : decode cX9_sign 37 = .ok (.invokestatic 153, 3) := by decide +kernel
theorem dX9_sign_40 : decode cX9_sign 40 = .ok (.ifCond .eq 18, 3) := by decide +kernel
theorem dX9_sign_43 : decode cX9_sign 43 = .ok (.iload 5, 2) := by decide +kernel
theorem dX9_sign_45 : decode cX9_sign 45 = .ok (.iconst 0, 1) := by decide +kernel
theorem dX9_sign_46 : decode cX9_sign 46 = .ok (.bipush 96, 2) := by decide +kernel
theorem dX9_sign_48 : decode cX9_sign 48 = .ok (.invokestatic 153, 3) := by decide +kernel
theorem dX9_sign_51 : decode cX9_sign 51 = .ok (.ifCond .eq 7, 3) := by decide +kernel
theorem dX9_sign_54 : decode cX9_sign 54 = .ok (.iconst 1, 1) := by decide +kernel
theorem dX9_sign_55 : decode cX9_sign 55 = .ok (.goto 4, 3) := by decide +kernel
theorem dX9_sign_58 : decode cX9_sign 58 = .ok (.iconst 0, 1) := by decide +kernel
theorem dX9_sign_59 : decode cX9_sign 59 = .ok (.aload_n 0, 1) := by decide +kernel
theorem dX9_sign_60 : decode cX9_sign 60 = .ok (.getfield 186, 3) := by decide +kernel
theorem dX9_sign_63 : decode cX9_sign 63 = .ok (.bipush 30, 2) := by decide +kernel
theorem dX9_sign_65 : decode cX9_sign 65 = .ok (.if_icmp .ge 7, 3) := by decide +kernel
theorem dX9_sign_68 : decode cX9_sign 68 = .ok (.iconst 1, 1) := by decide +kernel
theorem dX9_sign_69 : decode cX9_sign 69 = .ok (.goto 4, 3) := by decide +kernel
theorem dX9_sign_72 : decode cX9_sign 72 = .ok (.iconst 0, 1) := by decide +kernel
theorem dX9_sign_73 : decode cX9_sign 73 = .ok (.invokevirtual 167, 3) := by decide +kernel
theorem dX9_sign_76 : decode cX9_sign 76 = .ok (.ifCond .ne 5, 3) := by decide +kernel
theorem dX9_sign_79 : decode cX9_sign 79 = .ok (.iconst 0, 1) := by decide +kernel
theorem dX9_sign_80 : decode cX9_sign 80 = .ok (.ireturn, 1) := by decide +kernel
theorem dX9_sign_81 : decode cX9_sign 81 = .ok (.aload_n 0, 1) := by decide +kernel
theorem dX9_sign_82 : decode cX9_sign 82 = .ok (.getfield 13, 3) := by decide +kernel
theorem dX9_sign_85 : decode cX9_sign 85 = .ok (.aload_n 0, 1) := by decide +kernel
theorem dX9_sign_86 : decode cX9_sign 86 = .ok (.getfield 186, 3) := by decide +kernel
theorem dX9_sign_89 : decode cX9_sign 89 = .ok (.iload_n 1, 1) := by decide +kernel
theorem dX9_sign_90 : decode cX9_sign 90 = .ok (.iastore, 1) := by decide +kernel
theorem dX9_sign_91 : decode cX9_sign 91 = .ok (.aload_n 0, 1) := by decide +kernel
theorem dX9_sign_92 : decode cX9_sign 92 = .ok (.getfield 17, 3) := by decide +kernel
theorem dX9_sign_95 : decode cX9_sign 95 = .ok (.aload_n 0, 1) := by decide +kernel
theorem dX9_sign_96 : decode cX9_sign 96 = .ok (.getfield 186, 3) := by decide +kernel
theorem dX9_sign_99 : decode cX9_sign 99 = .ok (.iload_n 2, 1) := by decide +kernel
theorem dX9_sign_100 : decode cX9_sign 100 = .ok (.iastore, 1) := by decide +kernel
theorem dX9_sign_101 : decode cX9_sign 101 = .ok (.aload_n 0, 1) := by decide +kernel
theorem dX9_sign_102 : decode cX9_sign 102 = .ok (.getfield 20, 3) := by decide +kernel
theorem dX9_sign_105 : decode cX9_sign 105 = .ok (.aload_n 0, 1) := by decide +kernel
theorem dX9_sign_106 : decode cX9_sign 106 = .ok (.getfield 186, 3) := by decide +kernel
theorem dX9_sign_109 : decode cX9_sign 109 = .ok (.iload_n 3, 1) := by decide +kernel
theorem dX9_sign_110 : decode cX9_sign 110 = .ok (.iastore, 1) := by decide +kernel
theorem dX9_sign_111 : decode cX9_sign 111 = .ok (.aload_n 0, 1) := by decide +kernel
theorem dX9_sign_112 : decode cX9_sign 112 = .ok (.getfield 23, 3) := by decide +kernel
theorem dX9_sign_115 : decode cX9_sign 115 = .ok (.aload_n 0, 1) := by decide +kernel
theorem dX9_sign_116 : decode cX9_sign 116 = .ok (.getfield 186, 3) := by decide +kernel
theorem dX9_sign_119 : decode cX9_sign 119 = .ok (.iload 4, 2) := by decide +kernel
theorem dX9_sign_121 : decode cX9_sign 121 = .ok (.iastore, 1) := by decide +kernel
theorem dX9_sign_122 : decode cX9_sign 122 = .ok (.aload_n 0, 1) := by decide +kernel
theorem dX9_sign_123 : decode cX9_sign 123 = .ok (.getfield 26, 3) := by decide +kernel
theorem dX9_sign_126 : decode cX9_sign 126 = .ok (.aload_n 0, 1) := by decide +kernel
theorem dX9_sign_127 : decode cX9_sign 127 = .ok (.getfield 186, 3) := by decide +kernel
theorem dX9_sign_130 : decode cX9_sign 130 = .ok (.iload 5, 2) := by decide +kernel
theorem dX9_sign_132 : decode cX9_sign 132 = .ok (.iastore, 1) := by decide +kernel
theorem dX9_sign_133 : decode cX9_sign 133 = .ok (.aload_n 0, 1) := by decide +kernel
theorem dX9_sign_134 : decode cX9_sign 134 = .ok (.getfield 29, 3) := by decide +kernel
theorem dX9_sign_137 : decode cX9_sign 137 = .ok (.aload_n 0, 1) := by decide +kernel
theorem dX9_sign_138 : decode cX9_sign 138 = .ok (.getfield 186, 3) := by decide +kernel
theorem dX9_sign_141 : decode cX9_sign 141 = .ok (.iload 6, 2) := by decide +kernel
theorem dX9_sign_143 : decode cX9_sign 143 = .ok (.bastore, 1) := by decide +kernel
theorem dX9_sign_144 : decode cX9_sign 144 = .ok (.aload_n 0, 1) := by decide +kernel
theorem dX9_sign_145 : decode cX9_sign 145 = .ok (.getfield 32, 3) := by decide +kernel
theorem dX9_sign_148 : decode cX9_sign 148 = .ok (.aload_n 0, 1) := by decide +kernel
theorem dX9_sign_149 : decode cX9_sign 149 = .ok (.getfield 186, 3) := by decide +kernel
theorem dX9_sign_152 : decode cX9_sign 152 = .ok (.iload 7, 2) := by decide +kernel
theorem dX9_sign_154 : decode cX9_sign 154 = .ok (.bastore, 1) := by decide +kernel
theorem dX9_sign_155 : decode cX9_sign 155 = .ok (.aload_n 0, 1) := by decide +kernel
theorem dX9_sign_156 : decode cX9_sign 156 = .ok (.getfield 35, 3) := by decide +kernel
theorem dX9_sign_159 : decode cX9_sign 159 = .ok (.aload_n 0, 1) := by decide +kernel
theorem dX9_sign_160 : decode cX9_sign 160 = .ok (.getfield 186, 3) := by decide +kernel
theorem dX9_sign_163 : decode cX9_sign 163 = .ok (.aload_n 0, 1) := by decide +kernel
theorem dX9_sign_164 : decode cX9_sign 164 = .ok (.getfield 171, 3) := by decide +kernel
theorem dX9_sign_167 : decode cX9_sign 167 = .ok (.iastore, 1) := by decide +kernel
theorem dX9_sign_168 : decode cX9_sign 168 = .ok (.aload_n 0, 1) := by decide +kernel
theorem dX9_sign_169 : decode cX9_sign 169 = .ok (.getfield 38, 3) := by decide +kernel
theorem dX9_sign_172 : decode cX9_sign 172 = .ok (.aload_n 0, 1) := by decide +kernel
theorem dX9_sign_173 : decode cX9_sign 173 = .ok (.getfield 186, 3) := by decide +kernel
theorem dX9_sign_176 : decode cX9_sign 176 = .ok (.aload_n 0, 1) := by decide +kernel
theorem dX9_sign_177 : decode cX9_sign 177 = .ok (.getfield 174, 3) := by decide +kernel
theorem dX9_sign_180 : decode cX9_sign 180 = .ok (.iastore, 1) := by decide +kernel
theorem dX9_sign_181 : decode cX9_sign 181 = .ok (.aload_n 0, 1) := by decide +kernel
theorem dX9_sign_182 : decode cX9_sign 182 = .ok (.getfield 41, 3) := by decide +kernel
theorem dX9_sign_185 : decode cX9_sign 185 = .ok (.aload_n 0, 1) := by decide +kernel
theorem dX9_sign_186 : decode cX9_sign 186 = .ok (.getfield 186, 3) := by decide +kernel
theorem dX9_sign_189 : decode cX9_sign 189 = .ok (.aload_n 0, 1) := by decide +kernel
theorem dX9_sign_190 : decode cX9_sign 190 = .ok (.getfield 177, 3) := by decide +kernel
theorem dX9_sign_193 : decode cX9_sign 193 = .ok (.iastore, 1) := by decide +kernel
theorem dX9_sign_194 : decode cX9_sign 194 = .ok (.aload_n 0, 1) := by decide +kernel
theorem dX9_sign_195 : decode cX9_sign 195 = .ok (.getfield 44, 3) := by decide +kernel
theorem dX9_sign_198 : decode cX9_sign 198 = .ok (.aload_n 0, 1) := by decide +kernel
theorem dX9_sign_199 : decode cX9_sign 199 = .ok (.getfield 186, 3) := by decide +kernel
theorem dX9_sign_202 : decode cX9_sign 202 = .ok (.aload_n 0, 1) := by decide +kernel
theorem dX9_sign_203 : decode cX9_sign 203 = .ok (.getfield 180, 3) := by decide +kernel
theorem dX9_sign_206 : decode cX9_sign 206 = .ok (.iastore, 1) := by decide +kernel
theorem dX9_sign_207 : decode cX9_sign 207 = .ok (.aload_n 0, 1) := by decide +kernel
theorem dX9_sign_208 : decode cX9_sign 208 = .ok (.getfield 47, 3) := by decide +kernel
theorem dX9_sign_211 : decode cX9_sign 211 = .ok (.aload_n 0, 1) := by decide +kernel
theorem dX9_sign_212 : decode cX9_sign 212 = .ok (.getfield 186, 3) := by decide +kernel
theorem dX9_sign_215 : decode cX9_sign 215 = .ok (.aload_n 0, 1) := by decide +kernel
theorem dX9_sign_216 : decode cX9_sign 216 = .ok (.getfield 183, 3) := by decide +kernel
theorem dX9_sign_219 : decode cX9_sign 219 = .ok (.iastore, 1) := by decide +kernel
theorem dX9_sign_220 : decode cX9_sign 220 = .ok (.aload_n 0, 1) := by decide +kernel
theorem dX9_sign_221 : decode cX9_sign 221 = .ok (.getfield 50, 3) := by decide +kernel
theorem dX9_sign_224 : decode cX9_sign 224 = .ok (.aload_n 0, 1) := by decide +kernel
theorem dX9_sign_225 : decode cX9_sign 225 = .ok (.getfield 186, 3) := by decide +kernel
theorem dX9_sign_228 : decode cX9_sign 228 = .ok (.aload_n 0, 1) := by decide +kernel
theorem dX9_sign_229 : decode cX9_sign 229 = .ok (.getfield 189, 3) := by decide +kernel
theorem dX9_sign_232 : decode cX9_sign 232 = .ok (.iastore, 1) := by decide +kernel
theorem dX9_sign_233 : decode cX9_sign 233 = .ok (.aload_n 0, 1) := by decide +kernel
theorem dX9_sign_234 : decode cX9_sign 234 = .ok (.getfield 53, 3) := by decide +kernel
theorem dX9_sign_237 : decode cX9_sign 237 = .ok (.aload_n 0, 1) := by decide +kernel
theorem dX9_sign_238 : decode cX9_sign 238 = .ok (.getfield 186, 3) := by decide +kernel
theorem dX9_sign_241 : decode cX9_sign 241 = .ok (.ldc 192, 2) := by decide +kernel
theorem dX9_sign_243 : decode cX9_sign 243 = .ok (.iastore, 1) := by decide +kernel
theorem dX9_sign_244 : decode cX9_sign 244 = .ok (.aload_n 0, 1) := by decide +kernel
theorem dX9_sign_245 : decode cX9_sign 245 = .ok (.invokevirtual 146, 3) := by decide +kernel
theorem dX9_sign_248 : decode cX9_sign 248 = .ok (.aload_n 0, 1) := by decide +kernel
theorem dX9_sign_249 : decode cX9_sign 249 = .ok (.dup, 1) := by decide +kernel
theorem dX9_sign_250 : decode cX9_sign 250 = .ok (.getfield 186, 3) := by decide +kernel
theorem dX9_sign_253 : decode cX9_sign 253 = .ok (.iconst 1, 1) := by decide +kernel
theorem dX9_sign_254 : decode cX9_sign 254 = .ok (.iadd, 1) := by decide +kernel
theorem dX9_sign_255 : decode cX9_sign 255 = .ok (.putfield 186, 3) := by decide +kernel
theorem dX9_sign_258 : decode cX9_sign 258 = .ok (.aload_n 0, 1) := by decide +kernel
theorem dX9_sign_259 : decode cX9_sign 259 = .ok (.getfield 186, 3) := by decide +kernel
theorem dX9_sign_262 : decode cX9_sign 262 = .ok (.iconst 1, 1) := by decide +kernel
theorem dX9_sign_263 : decode cX9_sign 263 = .ok (.isub, 1) := by decide +kernel
theorem dX9_sign_264 : decode cX9_sign 264 = .ok (.ireturn, 1) := by decide +kernel
theorem dX9_takeDown_0 : decode cX9_takeDown 0 = .ok (.iload_n 1, 1) := by decide +kernel
theorem dX9_takeDown_1 : decode cX9_takeDown 1 = .ok (.iconst 0, 1) := by decide +kernel
theorem dX9_takeDown_2 : decode cX9_takeDown 2 = .ok (.aload_n 0, 1) := by decide +kernel
theorem dX9_takeDown_3 : decode cX9_takeDown 3 = .ok (.getfield 186, 3) := by decide +kernel
theorem dX9_takeDown_6 : decode cX9_takeDown 6 = .ok (.iconst 1, 1) := by decide +kernel
theorem dX9_takeDown_7 : decode cX9_takeDown 7 = .ok (.isub, 1) := by decide +kernel
theorem dX9_takeDown_8 : decode cX9_takeDown 8 = .ok (.invokestatic 153, 3) := by decide +kernel
theorem dX9_takeDown_11 : decode cX9_takeDown 11 = .ok (.istore_n 2, 1) := by decide +kernel
theorem dX9_takeDown_12 : decode cX9_takeDown 12 = .ok (.aload_n 0, 1) := by decide +kernel
theorem dX9_takeDown_13 : decode cX9_takeDown 13 = .ok (.iload_n 2, 1) := by decide +kernel
theorem dX9_takeDown_14 : decode cX9_takeDown 14 = .ok (.iload_n 2, 1) := by decide +kernel
theorem dX9_takeDown_15 : decode cX9_takeDown 15 = .ok (.ifCond .eq 26, 3) := by decide +kernel
theorem dX9_takeDown_18 : decode cX9_takeDown 18 = .ok (.aload_n 0, 1) := by decide +kernel
theorem dX9_takeDown_19 : decode cX9_takeDown 19 = .ok (.getfield 53, 3) := by decide +kernel
theorem dX9_takeDown_22 : decode cX9_takeDown 22 = .ok (.iload_n 2, 1) := by decide +kernel
theorem dX9_takeDown_23 : decode cX9_takeDown 23 = .ok (.ifCond .eq 7, 3) := by decide +kernel
theorem dX9_takeDown_26 : decode cX9_takeDown 26 = .ok (.iload_n 1, 1) := by decide +kernel
theorem dX9_takeDown_27 : decode cX9_takeDown 27 = .ok (.goto 4, 3) := by decide +kernel
theorem dX9_takeDown_30 : decode cX9_takeDown 30 = .ok (.iconst 0, 1) := by decide +kernel
theorem dX9_takeDown_31 : decode cX9_takeDown 31 = .ok (.iaload, 1) := by decide +kernel
theorem dX9_takeDown_32 : decode cX9_takeDown 32 = .ok (.ldc 193, 2) := by decide +kernel
theorem dX9_takeDown_34 : decode cX9_takeDown 34 = .ok (.if_icmp .le 7, 3) := by decide +kernel
theorem dX9_takeDown_37 : decode cX9_takeDown 37 = .ok (.iconst 1, 1) := by decide +kernel
theorem dX9_takeDown_38 : decode cX9_takeDown 38 = .ok (.goto 4, 3) := by decide +kernel
theorem dX9_takeDown_41 : decode cX9_takeDown 41 = .ok (.iconst 0, 1) := by decide +kernel
theorem dX9_takeDown_42 : decode cX9_takeDown 42 = .ok (.iconst 1, 1) := by decide +kernel
theorem dX9_takeDown_43 : decode cX9_takeDown 43 = .ok (.invokevirtual 167, 3) := by decide +kernel
theorem dX9_takeDown_46 : decode cX9_takeDown 46 = .ok (.ifCond .eq 13, 3) := by decide +kernel
theorem dX9_takeDown_49 : decode cX9_takeDown 49 = .ok (.aload_n 0, 1) := by decide +kernel
theorem dX9_takeDown_50 : decode cX9_takeDown 50 = .ok (.getfield 53, 3) := by decide +kernel
theorem dX9_takeDown_53 : decode cX9_takeDown 53 = .ok (.iload_n 1, 1) := by decide +kernel
theorem dX9_takeDown_54 : decode cX9_takeDown 54 = .ok (.aload_n 0, 1) := by decide +kernel
theorem dX9_takeDown_55 : decode cX9_takeDown 55 = .ok (.getfield 189, 3) := by decide +kernel
theorem dX9_takeDown_58 : decode cX9_takeDown 58 = .ok (.iastore, 1) := by decide +kernel
theorem dX9_takeDown_59 : decode cX9_takeDown 59 = .ok (.return_, 1) := by decide +kernel
theorem dX9_holds_0 : decode cX9_holds 0 = .ok (.iload 4, 2) := by decide +kernel
theorem dX9_holds_2 : decode cX9_holds 2 = .ok (.bipush 96, 2) := by decide +kernel
theorem dX9_holds_4 : decode cX9_holds 4 = .ok (.idiv, 1) := by decide +kernel
theorem dX9_holds_5 : decode cX9_holds 5 = .ok (.istore 5, 2) := by decide +kernel
theorem dX9_holds_7 : decode cX9_holds 7 = .ok (.aload_n 0, 1) := by decide +kernel
theorem dX9_holds_8 : decode cX9_holds 8 = .ok (.getfield 13, 3) := by decide +kernel
theorem dX9_holds_11 : decode cX9_holds 11 = .ok (.iload_n 1, 1) := by decide +kernel
theorem dX9_holds_12 : decode cX9_holds 12 = .ok (.iaload, 1) := by decide +kernel
theorem dX9_holds_13 : decode cX9_holds 13 = .ok (.iload_n 2, 1) := by decide +kernel
theorem dX9_holds_14 : decode cX9_holds 14 = .ok (.if_icmp .ne 48, 3) := by decide +kernel
theorem dX9_holds_17 : decode cX9_holds 17 = .ok (.iload_n 3, 1) := by decide +kernel
theorem dX9_holds_18 : decode cX9_holds 18 = .ok (.aload_n 0, 1) := by decide +kernel
theorem dX9_holds_19 : decode cX9_holds 19 = .ok (.getfield 17, 3) := by decide +kernel
theorem dX9_holds_22 : decode cX9_holds 22 = .ok (.iload_n 1, 1) := by decide +kernel
theorem dX9_holds_23 : decode cX9_holds 23 = .ok (.iaload, 1) := by decide +kernel
theorem dX9_holds_24 : decode cX9_holds 24 = .ok (.aload_n 0, 1) := by decide +kernel
theorem dX9_holds_25 : decode cX9_holds 25 = .ok (.getfield 20, 3) := by decide +kernel
theorem dX9_holds_28 : decode cX9_holds 28 = .ok (.iload_n 1, 1) := by decide +kernel
theorem dX9_holds_29 : decode cX9_holds 29 = .ok (.iaload, 1) := by decide +kernel
theorem dX9_holds_30 : decode cX9_holds 30 = .ok (.invokestatic 153, 3) := by decide +kernel
theorem dX9_holds_33 : decode cX9_holds 33 = .ok (.ifCond .eq 29, 3) := by decide +kernel
theorem dX9_holds_36 : decode cX9_holds 36 = .ok (.aload_n 0, 1) := by decide +kernel
theorem dX9_holds_37 : decode cX9_holds 37 = .ok (.getfield 50, 3) := by decide +kernel
theorem dX9_holds_40 : decode cX9_holds 40 = .ok (.iload_n 1, 1) := by decide +kernel
theorem dX9_holds_41 : decode cX9_holds 41 = .ok (.iaload, 1) := by decide +kernel
theorem dX9_holds_42 : decode cX9_holds 42 = .ok (.iload 4, 2) := by decide +kernel
theorem dX9_holds_44 : decode cX9_holds 44 = .ok (.if_icmp .gt 18, 3) := by decide +kernel
theorem dX9_holds_47 : decode cX9_holds 47 = .ok (.aload_n 0, 1) := by decide +kernel
theorem dX9_holds_48 : decode cX9_holds 48 = .ok (.getfield 53, 3) := by decide +kernel
theorem dX9_holds_51 : decode cX9_holds 51 = .ok (.iload_n 1, 1) := by decide +kernel
theorem dX9_holds_52 : decode cX9_holds 52 = .ok (.iaload, 1) := by decide +kernel
theorem dX9_holds_53 : decode cX9_holds 53 = .ok (.iload 4, 2) := by decide +kernel
theorem dX9_holds_55 : decode cX9_holds 55 = .ok (.if_icmp .le 7, 3) := by decide +kernel
theorem dX9_holds_58 : decode cX9_holds 58 = .ok (.iconst 1, 1) := by decide +kernel
theorem dX9_holds_59 : decode cX9_holds 59 = .ok (.goto 4, 3) := by decide +kernel
theorem dX9_holds_62 : decode cX9_holds 62 = .ok (.iconst 0, 1) := by decide +kernel
theorem dX9_holds_63 : decode cX9_holds 63 = .ok (.istore 6, 2) := by decide +kernel
theorem dX9_holds_65 : decode cX9_holds 65 = .ok (.iload 6, 2) := by decide +kernel
theorem dX9_holds_67 : decode cX9_holds 67 = .ok (.ifCond .eq 72, 3) := by decide +kernel
theorem dX9_holds_70 : decode cX9_holds 70 = .ok (.aload_n 0, 1) := by decide +kernel
theorem dX9_holds_71 : decode cX9_holds 71 = .ok (.getfield 35, 3) := by decide +kernel
theorem dX9_holds_74 : decode cX9_holds 74 = .ok (.iload_n 1, 1) := by decide +kernel
theorem dX9_holds_75 : decode cX9_holds 75 = .ok (.iaload, 1) := by decide +kernel
theorem dX9_holds_76 : decode cX9_holds 76 = .ok (.iload 5, 2) := by decide +kernel
theorem dX9_holds_78 : decode cX9_holds 78 = .ok (.bipush 7, 2) := by decide +kernel
theorem dX9_holds_80 : decode cX9_holds 80 = .ok (.irem, 1) := by decide +kernel
theorem dX9_holds_81 : decode cX9_holds 81 = .ok (.invokestatic 194, 3) := by decide +kernel
theorem dX9_holds_84 : decode cX9_holds 84 = .ok (.ifCond .eq 55, 3) := by decide +kernel
theorem dX9_holds_87 : decode cX9_holds 87 = .ok (.iload 4, 2) := by decide +kernel
theorem dX9_holds_89 : decode cX9_holds 89 = .ok (.bipush 96, 2) := by decide +kernel
theorem dX9_holds_91 : decode cX9_holds 91 = .ok (.irem, 1) := by decide +kernel
theorem dX9_holds_92 : decode cX9_holds 92 = .ok (.aload_n 0, 1) := by decide +kernel
theorem dX9_holds_93 : decode cX9_holds 93 = .ok (.getfield 38, 3) := by decide +kernel
theorem dX9_holds_96 : decode cX9_holds 96 = .ok (.iload_n 1, 1) := by decide +kernel
theorem dX9_holds_97 : decode cX9_holds 97 = .ok (.iaload, 1) := by decide +kernel
theorem dX9_holds_98 : decode cX9_holds 98 = .ok (.if_icmp .lt 41, 3) := by decide +kernel
theorem dX9_holds_101 : decode cX9_holds 101 = .ok (.iload 4, 2) := by decide +kernel
theorem dX9_holds_103 : decode cX9_holds 103 = .ok (.bipush 96, 2) := by decide +kernel
theorem dX9_holds_105 : decode cX9_holds 105 = .ok (.irem, 1) := by decide +kernel
theorem dX9_holds_106 : decode cX9_holds 106 = .ok (.aload_n 0, 1) := by decide +kernel
theorem dX9_holds_107 : decode cX9_holds 107 = .ok (.getfield 41, 3) := by decide +kernel
theorem dX9_holds_110 : decode cX9_holds 110 = .ok (.iload_n 1, 1) := by decide +kernel
theorem dX9_holds_111 : decode cX9_holds 111 = .ok (.iaload, 1) := by decide +kernel
theorem dX9_holds_112 : decode cX9_holds 112 = .ok (.if_icmp .ge 27, 3) := by decide +kernel
theorem dX9_holds_115 : decode cX9_holds 115 = .ok (.iload 5, 2) := by decide +kernel
theorem dX9_holds_117 : decode cX9_holds 117 = .ok (.aload_n 0, 1) := by decide +kernel
theorem dX9_holds_118 : decode cX9_holds 118 = .ok (.getfield 44, 3) := by decide +kernel
theorem dX9_holds_121 : decode cX9_holds 121 = .ok (.iload_n 1, 1) := by decide +kernel
theorem dX9_holds_122 : decode cX9_holds 122 = .ok (.iaload, 1) := by decide +kernel
theorem dX9_holds_123 : decode cX9_holds 123 = .ok (.aload_n 0, 1) := by decide +kernel
theorem dX9_holds_124 : decode cX9_holds 124 = .ok (.getfield 47, 3) := by decide +kernel
theorem dX9_holds_127 : decode cX9_holds 127 = .ok (.iload_n 1, 1) := by decide +kernel
theorem dX9_holds_128 : decode cX9_holds 128 = .ok (.iaload, 1) := by decide +kernel
theorem dX9_holds_129 : decode cX9_holds 129 = .ok (.invokestatic 153, 3) := by decide +kernel
theorem dX9_holds_132 : decode cX9_holds 132 = .ok (.ifCond .eq 7, 3) := by decide +kernel
theorem dX9_holds_135 : decode cX9_holds 135 = .ok (.iconst 1, 1) := by decide +kernel
theorem dX9_holds_136 : decode cX9_holds 136 = .ok (.goto 4, 3) := by decide +kernel
theorem dX9_holds_139 : decode cX9_holds 139 = .ok (.iconst 0, 1) := by decide +kernel
theorem dX9_holds_140 : decode cX9_holds 140 = .ok (.istore 6, 2) := by decide +kernel
theorem dX9_holds_142 : decode cX9_holds 142 = .ok (.iload 6, 2) := by decide +kernel
theorem dX9_holds_144 : decode cX9_holds 144 = .ok (.ifCond .eq 32, 3) := by decide +kernel
theorem dX9_holds_147 : decode cX9_holds 147 = .ok (.aload_n 0, 1) := by decide +kernel
theorem dX9_holds_148 : decode cX9_holds 148 = .ok (.getfield 32, 3) := by decide +kernel
theorem dX9_holds_151 : decode cX9_holds 151 = .ok (.iload_n 1, 1) := by decide +kernel
theorem dX9_holds_152 : decode cX9_holds 152 = .ok (.baload, 1) := by decide +kernel
theorem dX9_holds_153 : decode cX9_holds 153 = .ok (.ifCond .eq 19, 3) := by decide +kernel
theorem dX9_holds_156 : decode cX9_holds 156 = .ok (.iload 5, 2) := by decide +kernel
theorem dX9_holds_158 : decode cX9_holds 158 = .ok (.aload_n 0, 1) := by decide +kernel
theorem dX9_holds_159 : decode cX9_holds 159 = .ok (.getfield 50, 3) := by decide +kernel
theorem dX9_holds_162 : decode cX9_holds 162 = .ok (.iload_n 1, 1) := by decide +kernel
theorem dX9_holds_163 : decode cX9_holds 163 = .ok (.iaload, 1) := by decide +kernel
theorem dX9_holds_164 : decode cX9_holds 164 = .ok (.bipush 96, 2) := by decide +kernel
theorem dX9_holds_166 : decode cX9_holds 166 = .ok (.idiv, 1) := by decide +kernel
theorem dX9_holds_167 : decode cX9_holds 167 = .ok (.iconst 2, 1) := by decide +kernel
theorem dX9_holds_168 : decode cX9_holds 168 = .ok (.iadd, 1) := by decide +kernel
theorem dX9_holds_169 : decode cX9_holds 169 = .ok (.if_icmp .le 7, 3) := by decide +kernel
theorem dX9_holds_172 : decode cX9_holds 172 = .ok (.iconst 1, 1) := by decide +kernel
theorem dX9_holds_173 : decode cX9_holds 173 = .ok (.goto 4, 3) := by decide +kernel
theorem dX9_holds_176 : decode cX9_holds 176 = .ok (.iconst 0, 1) := by decide +kernel
theorem dX9_holds_177 : decode cX9_holds 177 = .ok (.ireturn, 1) := by decide +kernel
theorem dX9_isAhead_0 : decode cX9_isAhead 0 = .ok (.aload_n 0, 1) := by decide +kernel
theorem dX9_isAhead_1 : decode cX9_isAhead 1 = .ok (.getfield 20, 3) := by decide +kernel
theorem dX9_isAhead_4 : decode cX9_isAhead 4 = .ok (.iload_n 1, 1) := by decide +kernel
theorem dX9_isAhead_5 : decode cX9_isAhead 5 = .ok (.iaload, 1) := by decide +kernel
theorem dX9_isAhead_6 : decode cX9_isAhead 6 = .ok (.aload_n 0, 1) := by decide +kernel
theorem dX9_isAhead_7 : decode cX9_isAhead 7 = .ok (.getfield 17, 3) := by decide +kernel
theorem dX9_isAhead_10 : decode cX9_isAhead 10 = .ok (.iload_n 1, 1) := by decide +kernel
theorem dX9_isAhead_11 : decode cX9_isAhead 11 = .ok (.iaload, 1) := by decide +kernel
theorem dX9_isAhead_12 : decode cX9_isAhead 12 = .ok (.isub, 1) := by decide +kernel
theorem dX9_isAhead_13 : decode cX9_isAhead 13 = .ok (.istore_n 3, 1) := by decide +kernel
theorem dX9_isAhead_14 : decode cX9_isAhead 14 = .ok (.aload_n 0, 1) := by decide +kernel
theorem dX9_isAhead_15 : decode cX9_isAhead 15 = .ok (.getfield 20, 3) := by decide +kernel
theorem dX9_isAhead_18 : decode cX9_isAhead 18 = .ok (.iload_n 2, 1) := by decide +kernel
theorem dX9_isAhead_19 : decode cX9_isAhead 19 = .ok (.iaload, 1) := by decide +kernel
theorem dX9_isAhead_20 : decode cX9_isAhead 20 = .ok (.aload_n 0, 1) := by decide +kernel
theorem dX9_isAhead_21 : decode cX9_isAhead 21 = .ok (.getfield 17, 3) := by decide +kernel
theorem dX9_isAhead_24 : decode cX9_isAhead 24 = .ok (.iload_n 2, 1) := by decide +kernel
theorem dX9_isAhead_25 : decode cX9_isAhead 25 = .ok (.iaload, 1) := by decide +kernel
theorem dX9_isAhead_26 : decode cX9_isAhead 26 = .ok (.isub, 1) := by decide +kernel
theorem dX9_isAhead_27 : decode cX9_isAhead 27 = .ok (.istore 4, 2) := by decide +kernel
theorem dX9_isAhead_29 : decode cX9_isAhead 29 = .ok (.aload_n 0, 1) := by decide +kernel
theorem dX9_isAhead_30 : decode cX9_isAhead 30 = .ok (.getfield 32, 3) := by decide +kernel
theorem dX9_isAhead_33 : decode cX9_isAhead 33 = .ok (.iload_n 1, 1) := by decide +kernel
theorem dX9_isAhead_34 : decode cX9_isAhead 34 = .ok (.baload, 1) := by decide +kernel
theorem dX9_isAhead_35 : decode cX9_isAhead 35 = .ok (.aload_n 0, 1) := by decide +kernel
theorem dX9_isAhead_36 : decode cX9_isAhead 36 = .ok (.getfield 32, 3) := by decide +kernel
theorem dX9_isAhead_39 : decode cX9_isAhead 39 = .ok (.iload_n 2, 1) := by decide +kernel
theorem dX9_isAhead_40 : decode cX9_isAhead 40 = .ok (.baload, 1) := by decide +kernel
theorem dX9_isAhead_41 : decode cX9_isAhead 41 = .ok (.if_icmp .eq 12, 3) := by decide +kernel
theorem dX9_isAhead_44 : decode cX9_isAhead 44 = .ok (.aload_n 0, 1) := by decide +kernel
theorem dX9_isAhead_45 : decode cX9_isAhead 45 = .ok (.getfield 32, 3) := by decide +kernel
theorem dX9_isAhead_48 : decode cX9_isAhead 48 = .ok (.iload_n 1, 1) := by decide +kernel
theorem dX9_isAhead_49 : decode cX9_isAhead 49 = .ok (.baload, 1) := by decide +kernel
theorem dX9_isAhead_50 : decode cX9_isAhead 50 = .ok (.goto 14, 3) := by decide +kernel
theorem dX9_isAhead_53 : decode cX9_isAhead 53 = .ok (.iload_n 3, 1) := by decide +kernel
theorem dX9_isAhead_54 : decode cX9_isAhead 54 = .ok (.iload 4, 2) := by decide +kernel
theorem dX9_isAhead_56 : decode cX9_isAhead 56 = .ok (.if_icmp .gt 7, 3) := by decide +kernel
theorem dX9_isAhead_59 : decode cX9_isAhead 59 = .ok (.iconst 1, 1) := by decide +kernel
theorem dX9_isAhead_60 : decode cX9_isAhead 60 = .ok (.goto 4, 3) := by decide +kernel
theorem dX9_isAhead_63 : decode cX9_isAhead 63 = .ok (.iconst 0, 1) := by decide +kernel
theorem dX9_isAhead_64 : decode cX9_isAhead 64 = .ok (.ireturn, 1) := by decide +kernel
theorem dX9_ruleAt_0 : decode cX9_ruleAt 0 = .ok (.iconst (-1), 1) := by decide +kernel
theorem dX9_ruleAt_1 : decode cX9_ruleAt 1 = .ok (.istore 4, 2) := by decide +kernel
theorem dX9_ruleAt_3 : decode cX9_ruleAt 3 = .ok (.iconst 0, 1) := by decide +kernel
theorem dX9_ruleAt_4 : decode cX9_ruleAt 4 = .ok (.istore 5, 2) := by decide +kernel
theorem dX9_ruleAt_6 : decode cX9_ruleAt 6 = .ok (.iload 5, 2) := by decide +kernel
theorem dX9_ruleAt_8 : decode cX9_ruleAt 8 = .ok (.aload_n 0, 1) := by decide +kernel
theorem dX9_ruleAt_9 : decode cX9_ruleAt 9 = .ok (.getfield 186, 3) := by decide +kernel
theorem dX9_ruleAt_12 : decode cX9_ruleAt 12 = .ok (.if_icmp .ge 47, 3) := by decide +kernel
theorem dX9_ruleAt_15 : decode cX9_ruleAt 15 = .ok (.aload_n 0, 1) := by decide +kernel
theorem dX9_ruleAt_16 : decode cX9_ruleAt 16 = .ok (.iload 5, 2) := by decide +kernel
theorem dX9_ruleAt_18 : decode cX9_ruleAt 18 = .ok (.iload_n 1, 1) := by decide +kernel
theorem dX9_ruleAt_19 : decode cX9_ruleAt 19 = .ok (.iload_n 2, 1) := by decide +kernel
theorem dX9_ruleAt_20 : decode cX9_ruleAt 20 = .ok (.iload_n 3, 1) := by decide +kernel
theorem dX9_ruleAt_21 : decode cX9_ruleAt 21 = .ok (.invokevirtual 198, 3) := by decide +kernel
theorem dX9_ruleAt_24 : decode cX9_ruleAt 24 = .ok (.ifCond .eq 25, 3) := by decide +kernel
theorem dX9_ruleAt_27 : decode cX9_ruleAt 27 = .ok (.iload 4, 2) := by decide +kernel
theorem dX9_ruleAt_29 : decode cX9_ruleAt 29 = .ok (.iconst (-1), 1) := by decide +kernel
theorem dX9_ruleAt_30 : decode cX9_ruleAt 30 = .ok (.if_icmp .eq 14, 3) := by decide +kernel
theorem dX9_ruleAt_33 : decode cX9_ruleAt 33 = .ok (.aload_n 0, 1) := by decide +kernel
theorem dX9_ruleAt_34 : decode cX9_ruleAt 34 = .ok (.iload 5, 2) := by decide +kernel
theorem dX9_ruleAt_36 : decode cX9_ruleAt 36 = .ok (.iload 4, 2) := by decide +kernel
theorem dX9_ruleAt_38 : decode cX9_ruleAt 38 = .ok (.invokevirtual 202, 3) := by decide +kernel
theorem dX9_ruleAt_41 : decode cX9_ruleAt 41 = .ok (.ifCond .eq 8, 3) := by decide +kernel
theorem dX9_ruleAt_44 : decode cX9_ruleAt 44 = .ok (.iload 5, 2) := by decide +kernel
theorem dX9_ruleAt_46 : decode cX9_ruleAt 46 = .ok (.goto 5, 3) := by decide +kernel
theorem dX9_ruleAt_49 : decode cX9_ruleAt 49 = .ok (.iload 4, 2) := by decide +kernel
theorem dX9_ruleAt_51 : decode cX9_ruleAt 51 = .ok (.istore 4, 2) := by decide +kernel
theorem dX9_ruleAt_53 : decode cX9_ruleAt 53 = .ok (.iinc 5 1, 3) := by decide +kernel
theorem dX9_ruleAt_56 : decode cX9_ruleAt 56 = .ok (.goto (-50), 3) := by decide +kernel
theorem dX9_ruleAt_59 : decode cX9_ruleAt 59 = .ok (.iload 4, 2) := by decide +kernel
theorem dX9_ruleAt_61 : decode cX9_ruleAt 61 = .ok (.ireturn, 1) := by decide +kernel
theorem dX9_rule_0 : decode cX9_rule 0 = .ok (.aload_n 0, 1) := by decide +kernel
theorem dX9_rule_1 : decode cX9_rule 1 = .ok (.iload_n 1, 1) := by decide +kernel
theorem dX9_rule_2 : decode cX9_rule 2 = .ok (.invokestatic 160, 3) := by decide +kernel
theorem dX9_rule_5 : decode cX9_rule 5 = .ok (.ifCond .eq 14, 3) := by decide +kernel
theorem dX9_rule_8 : decode cX9_rule 8 = .ok (.iload_n 2, 1) := by decide +kernel
theorem dX9_rule_9 : decode cX9_rule 9 = .ok (.invokestatic 164, 3) := by decide +kernel
theorem dX9_rule_12 : decode cX9_rule 12 = .ok (.ifCond .eq 7, 3) := by decide +kernel
theorem dX9_rule_15 : decode cX9_rule 15 = .ok (.iconst 1, 1) := by decide +kernel
theorem dX9_rule_16 : decode cX9_rule 16 = .ok (.goto 4, 3) := by decide +kernel
theorem dX9_rule_19 : decode cX9_rule 19 = .ok (.iconst 0, 1) := by decide +kernel
theorem dX9_rule_20 : decode cX9_rule 20 = .ok (.iload_n 3, 1) := by decide +kernel
theorem dX9_rule_21 : decode cX9_rule 21 = .ok (.iconst 0, 1) := by decide +kernel
theorem dX9_rule_22 : decode cX9_rule 22 = .ok (.ldc 193, 2) := by decide +kernel
theorem dX9_rule_24 : decode cX9_rule 24 = .ok (.invokestatic 153, 3) := by decide +kernel
theorem dX9_rule_27 : decode cX9_rule 27 = .ok (.iconst 1, 1) := by decide +kernel
theorem dX9_rule_28 : decode cX9_rule 28 = .ok (.invokevirtual 167, 3) := by decide +kernel
theorem dX9_rule_31 : decode cX9_rule 31 = .ok (.ifCond .eq 13, 3) := by decide +kernel
theorem dX9_rule_34 : decode cX9_rule 34 = .ok (.aload_n 0, 1) := by decide +kernel
theorem dX9_rule_35 : decode cX9_rule 35 = .ok (.iload_n 1, 1) := by decide +kernel
theorem dX9_rule_36 : decode cX9_rule 36 = .ok (.iload_n 2, 1) := by decide +kernel
theorem dX9_rule_37 : decode cX9_rule 37 = .ok (.iload_n 3, 1) := by decide +kernel
theorem dX9_rule_38 : decode cX9_rule 38 = .ok (.invokevirtual 205, 3) := by decide +kernel
theorem dX9_rule_41 : decode cX9_rule 41 = .ok (.goto 4, 3) := by decide +kernel
theorem dX9_rule_44 : decode cX9_rule 44 = .ok (.iconst 0, 1) := by decide +kernel
theorem dX9_rule_45 : decode cX9_rule 45 = .ok (.ireturn, 1) := by decide +kernel
theorem dX9_ruleAnew_0 : decode cX9_ruleAnew 0 = .ok (.aload_n 0, 1) := by decide +kernel
theorem dX9_ruleAnew_1 : decode cX9_ruleAnew 1 = .ok (.iload_n 1, 1) := by decide +kernel
theorem dX9_ruleAnew_2 : decode cX9_ruleAnew 2 = .ok (.iload_n 2, 1) := by decide +kernel
theorem dX9_ruleAnew_3 : decode cX9_ruleAnew 3 = .ok (.iload_n 3, 1) := by decide +kernel
theorem dX9_ruleAnew_4 : decode cX9_ruleAnew 4 = .ok (.invokevirtual 209, 3) := by decide +kernel
theorem dX9_ruleAnew_7 : decode cX9_ruleAnew 7 = .ok (.ireturn, 1) := by decide +kernel
theorem dX9_car_0 : decode cX9_car 0 = .ok (.aload_n 0, 1) := by decide +kernel
theorem dX9_car_1 : decode cX9_car 1 = .ok (.iload_n 1, 1) := by decide +kernel
theorem dX9_car_2 : decode cX9_car 2 = .ok (.iconst 3, 1) := by decide +kernel
theorem dX9_car_3 : decode cX9_car 3 = .ok (.bipush 12, 2) := by decide +kernel
theorem dX9_car_5 : decode cX9_car 5 = .ok (.invokestatic 153, 3) := by decide +kernel
theorem dX9_car_8 : decode cX9_car 8 = .ok (.ifCond .eq 16, 3) := by decide +kernel
theorem dX9_car_11 : decode cX9_car 11 = .ok (.iload_n 2, 1) := by decide +kernel
theorem dX9_car_12 : decode cX9_car 12 = .ok (.iconst 0, 1) := by decide +kernel
theorem dX9_car_13 : decode cX9_car 13 = .ok (.iconst 4, 1) := by decide +kernel
theorem dX9_car_14 : decode cX9_car 14 = .ok (.invokestatic 153, 3) := by decide +kernel
theorem dX9_car_17 : decode cX9_car 17 = .ok (.ifCond .eq 7, 3) := by decide +kernel
theorem dX9_car_20 : decode cX9_car 20 = .ok (.iconst 1, 1) := by decide +kernel
theorem dX9_car_21 : decode cX9_car 21 = .ok (.goto 4, 3) := by decide +kernel
theorem dX9_car_24 : decode cX9_car 24 = .ok (.iconst 0, 1) := by decide +kernel
theorem dX9_car_25 : decode cX9_car 25 = .ok (.aload_n 0, 1) := by decide +kernel
theorem dX9_car_26 : decode cX9_car 26 = .ok (.getfield 157, 3) := by decide +kernel
theorem dX9_car_29 : decode cX9_car 29 = .ok (.bipush 30, 2) := by decide +kernel
theorem dX9_car_31 : decode cX9_car 31 = .ok (.if_icmp .ge 7, 3) := by decide +kernel
theorem dX9_car_34 : decode cX9_car 34 = .ok (.iconst 1, 1) := by decide +kernel
theorem dX9_car_35 : decode cX9_car 35 = .ok (.goto 4, 3) := by decide +kernel
theorem dX9_car_38 : decode cX9_car 38 = .ok (.iconst 0, 1) := by decide +kernel
theorem dX9_car_39 : decode cX9_car 39 = .ok (.iconst 1, 1) := by decide +kernel
theorem dX9_car_40 : decode cX9_car 40 = .ok (.invokevirtual 167, 3) := by decide +kernel
theorem dX9_car_43 : decode cX9_car 43 = .ok (.ifCond .ne 5, 3) := by decide +kernel
theorem dX9_car_46 : decode cX9_car 46 = .ok (.iconst 0, 1) := by decide +kernel
theorem dX9_car_47 : decode cX9_car 47 = .ok (.ireturn, 1) := by decide +kernel
theorem dX9_car_48 : decode cX9_car 48 = .ok (.aload_n 0, 1) := by decide +kernel
theorem dX9_car_49 : decode cX9_car 49 = .ok (.getfield 56, 3) := by decide +kernel
theorem dX9_car_52 : decode cX9_car 52 = .ok (.aload_n 0, 1) := by decide +kernel
theorem dX9_car_53 : decode cX9_car 53 = .ok (.getfield 157, 3) := by decide +kernel
theorem dX9_car_56 : decode cX9_car 56 = .ok (.iload_n 1, 1) := by decide +kernel
theorem dX9_car_57 : decode cX9_car 57 = .ok (.iastore, 1) := by decide +kernel
theorem dX9_car_58 : decode cX9_car 58 = .ok (.aload_n 0, 1) := by decide +kernel
theorem dX9_car_59 : decode cX9_car 59 = .ok (.getfield 59, 3) := by decide +kernel
theorem dX9_car_62 : decode cX9_car 62 = .ok (.aload_n 0, 1) := by decide +kernel
theorem dX9_car_63 : decode cX9_car 63 = .ok (.getfield 157, 3) := by decide +kernel
theorem dX9_car_66 : decode cX9_car 66 = .ok (.iload_n 2, 1) := by decide +kernel
theorem dX9_car_67 : decode cX9_car 67 = .ok (.iastore, 1) := by decide +kernel
theorem dX9_car_68 : decode cX9_car 68 = .ok (.aload_n 0, 1) := by decide +kernel
theorem dX9_car_69 : decode cX9_car 69 = .ok (.getfield 62, 3) := by decide +kernel
theorem dX9_car_72 : decode cX9_car 72 = .ok (.aload_n 0, 1) := by decide +kernel
theorem dX9_car_73 : decode cX9_car 73 = .ok (.getfield 157, 3) := by decide +kernel
theorem dX9_car_76 : decode cX9_car 76 = .ok (.iconst (-1), 1) := by decide +kernel
theorem dX9_car_77 : decode cX9_car 77 = .ok (.iastore, 1) := by decide +kernel
theorem dX9_car_78 : decode cX9_car 78 = .ok (.aload_n 0, 1) := by decide +kernel
theorem dX9_car_79 : decode cX9_car 79 = .ok (.dup, 1) := by decide +kernel
theorem dX9_car_80 : decode cX9_car 80 = .ok (.getfield 157, 3) := by decide +kernel
theorem dX9_car_83 : decode cX9_car 83 = .ok (.iconst 1, 1) := by decide +kernel
theorem dX9_car_84 : decode cX9_car 84 = .ok (.iadd, 1) := by decide +kernel
theorem dX9_car_85 : decode cX9_car 85 = .ok (.putfield 157, 3) := by decide +kernel
theorem dX9_car_88 : decode cX9_car 88 = .ok (.aload_n 0, 1) := by decide +kernel
theorem dX9_car_89 : decode cX9_car 89 = .ok (.getfield 157, 3) := by decide +kernel
theorem dX9_car_92 : decode cX9_car 92 = .ok (.iconst 1, 1) := by decide +kernel
theorem dX9_car_93 : decode cX9_car 93 = .ok (.isub, 1) := by decide +kernel
theorem dX9_car_94 : decode cX9_car 94 = .ok (.ireturn, 1) := by decide +kernel
theorem dX9_ofHome_0 : decode cX9_ofHome 0 = .ok (.iconst 0, 1) := by decide +kernel
theorem dX9_ofHome_1 : decode cX9_ofHome 1 = .ok (.istore_n 3, 1) := by decide +kernel
theorem dX9_ofHome_2 : decode cX9_ofHome 2 = .ok (.iconst 0, 1) := by decide +kernel
theorem dX9_ofHome_3 : decode cX9_ofHome 3 = .ok (.istore 4, 2) := by decide +kernel
theorem dX9_ofHome_5 : decode cX9_ofHome 5 = .ok (.iload 4, 2) := by decide +kernel
theorem dX9_ofHome_7 : decode cX9_ofHome 7 = .ok (.aload_n 0, 1) := by decide +kernel
theorem dX9_ofHome_8 : decode cX9_ofHome 8 = .ok (.getfield 212, 3) := by decide +kernel
theorem dX9_ofHome_11 : decode cX9_ofHome 11 = .ok (.if_icmp .ge 49, 3) := by decide +kernel
theorem dX9_ofHome_14 : decode cX9_ofHome 14 = .ok (.iload_n 3, 1) := by decide +kernel
theorem dX9_ofHome_15 : decode cX9_ofHome 15 = .ok (.aload_n 0, 1) := by decide +kernel
theorem dX9_ofHome_16 : decode cX9_ofHome 16 = .ok (.getfield 80, 3) := by decide +kernel
theorem dX9_ofHome_19 : decode cX9_ofHome 19 = .ok (.iload 4, 2) := by decide +kernel
theorem dX9_ofHome_21 : decode cX9_ofHome 21 = .ok (.iaload, 1) := by decide +kernel
theorem dX9_ofHome_22 : decode cX9_ofHome 22 = .ok (.iload_n 1, 1) := by decide +kernel
theorem dX9_ofHome_23 : decode cX9_ofHome 23 = .ok (.if_icmp .ne 28, 3) := by decide +kernel
theorem dX9_ofHome_26 : decode cX9_ofHome 26 = .ok (.iload_n 2, 1) := by decide +kernel
theorem dX9_ofHome_27 : decode cX9_ofHome 27 = .ok (.aload_n 0, 1) := by decide +kernel
theorem dX9_ofHome_28 : decode cX9_ofHome 28 = .ok (.getfield 83, 3) := by decide +kernel
theorem dX9_ofHome_31 : decode cX9_ofHome 31 = .ok (.iload 4, 2) := by decide +kernel
theorem dX9_ofHome_33 : decode cX9_ofHome 33 = .ok (.iaload, 1) := by decide +kernel
theorem dX9_ofHome_34 : decode cX9_ofHome 34 = .ok (.aload_n 0, 1) := by decide +kernel
theorem dX9_ofHome_35 : decode cX9_ofHome 35 = .ok (.getfield 86, 3) := by decide +kernel
theorem dX9_ofHome_38 : decode cX9_ofHome 38 = .ok (.iload 4, 2) := by decide +kernel
theorem dX9_ofHome_40 : decode cX9_ofHome 40 = .ok (.iaload, 1) := by decide +kernel
theorem dX9_ofHome_41 : decode cX9_ofHome 41 = .ok (.invokestatic 153, 3) := by decide +kernel
theorem dX9_ofHome_44 : decode cX9_ofHome 44 = .ok (.ifCond .eq 7, 3) := by decide +kernel
theorem dX9_ofHome_47 : decode cX9_ofHome 47 = .ok (.iconst 1, 1) := by decide +kernel
theorem dX9_ofHome_48 : decode cX9_ofHome 48 = .ok (.goto 4, 3) := by decide +kernel
theorem dX9_ofHome_51 : decode cX9_ofHome 51 = .ok (.iconst 0, 1) := by decide +kernel
theorem dX9_ofHome_52 : decode cX9_ofHome 52 = .ok (.iadd, 1) := by decide +kernel
theorem dX9_ofHome_53 : decode cX9_ofHome 53 = .ok (.istore_n 3, 1) := by decide +kernel
theorem dX9_ofHome_54 : decode cX9_ofHome 54 = .ok (.iinc 4 1, 3) := by decide +kernel
theorem dX9_ofHome_57 : decode cX9_ofHome 57 = .ok (.goto (-52), 3) := by decide +kernel
theorem dX9_ofHome_60 : decode cX9_ofHome 60 = .ok (.iload_n 3, 1) := by decide +kernel
theorem dX9_ofHome_61 : decode cX9_ofHome 61 = .ok (.ireturn, 1) := by decide +kernel
theorem dX9_hasRoom_0 : decode cX9_hasRoom 0 = .ok (.iconst 1, 1) := by decide +kernel
theorem dX9_hasRoom_1 : decode cX9_hasRoom 1 = .ok (.istore 4, 2) := by decide +kernel
theorem dX9_hasRoom_3 : decode cX9_hasRoom 3 = .ok (.iload_n 2, 1) := by decide +kernel
theorem dX9_hasRoom_4 : decode cX9_hasRoom 4 = .ok (.istore 5, 2) := by decide +kernel
theorem dX9_hasRoom_6 : decode cX9_hasRoom 6 = .ok (.iload 5, 2) := by decide +kernel
theorem dX9_hasRoom_8 : decode cX9_hasRoom 8 = .ok (.iload_n 3, 1) := by decide +kernel
theorem dX9_hasRoom_9 : decode cX9_hasRoom 9 = .ok (.if_icmp .gt 32, 3) := by decide +kernel
theorem dX9_hasRoom_12 : decode cX9_hasRoom 12 = .ok (.iload 4, 2) := by decide +kernel
theorem dX9_hasRoom_14 : decode cX9_hasRoom 14 = .ok (.ifCond .eq 27, 3) := by decide +kernel
theorem dX9_hasRoom_17 : decode cX9_hasRoom 17 = .ok (.aload_n 0, 1) := by decide +kernel
theorem dX9_hasRoom_18 : decode cX9_hasRoom 18 = .ok (.iload_n 1, 1) := by decide +kernel
theorem dX9_hasRoom_19 : decode cX9_hasRoom 19 = .ok (.iload 5, 2) := by decide +kernel
theorem dX9_hasRoom_21 : decode cX9_hasRoom 21 = .ok (.invokevirtual 215, 3) := by decide +kernel
theorem dX9_hasRoom_24 : decode cX9_hasRoom 24 = .ok (.iconst 2, 1) := by decide +kernel
theorem dX9_hasRoom_25 : decode cX9_hasRoom 25 = .ok (.if_icmp .ge 7, 3) := by decide +kernel
theorem dX9_hasRoom_28 : decode cX9_hasRoom 28 = .ok (.iconst 1, 1) := by decide +kernel
theorem dX9_hasRoom_29 : decode cX9_hasRoom 29 = .ok (.goto 4, 3) := by decide +kernel
theorem dX9_hasRoom_32 : decode cX9_hasRoom 32 = .ok (.iconst 0, 1) := by decide +kernel
theorem dX9_hasRoom_33 : decode cX9_hasRoom 33 = .ok (.istore 4, 2) := by decide +kernel
theorem dX9_hasRoom_35 : decode cX9_hasRoom 35 = .ok (.iinc 5 1, 3) := by decide +kernel
theorem dX9_hasRoom_38 : decode cX9_hasRoom 38 = .ok (.goto (-32), 3) := by decide +kernel
theorem dX9_hasRoom_41 : decode cX9_hasRoom 41 = .ok (.iload 4, 2) := by decide +kernel
theorem dX9_hasRoom_43 : decode cX9_hasRoom 43 = .ok (.ireturn, 1) := by decide +kernel
theorem dX9_permit_0 : decode cX9_permit 0 = .ok (.iload 4, 2) := by decide +kernel
theorem dX9_permit_2 : decode cX9_permit 2 = .ok (.iconst 0, 1) := by decide +kernel
theorem dX9_permit_3 : decode cX9_permit 3 = .ok (.sipush 520, 3) := by decide +kernel
theorem dX9_permit_6 : decode cX9_permit 6 = .ok (.invokestatic 153, 3) := by decide +kernel
theorem dX9_permit_9 : decode cX9_permit 9 = .ok (.ifCond .eq 20, 3) := by decide +kernel
theorem dX9_permit_12 : decode cX9_permit 12 = .ok (.iload 5, 2) := by decide +kernel
theorem dX9_permit_14 : decode cX9_permit 14 = .ok (.iload 4, 2) := by decide +kernel
theorem dX9_permit_16 : decode cX9_permit 16 = .ok (.sipush 520, 3) := by decide +kernel
theorem dX9_permit_19 : decode cX9_permit 19 = .ok (.invokestatic 153, 3) := by decide +kernel
theorem dX9_permit_22 : decode cX9_permit 22 = .ok (.ifCond .eq 7, 3) := by decide +kernel
theorem dX9_permit_25 : decode cX9_permit 25 = .ok (.iconst 1, 1) := by decide +kernel
theorem dX9_permit_26 : decode cX9_permit 26 = .ok (.goto 4, 3) := by decide +kernel
theorem dX9_permit_29 : decode cX9_permit 29 = .ok (.iconst 0, 1) := by decide +kernel
theorem dX9_permit_30 : decode cX9_permit 30 = .ok (.istore 6, 2) := by decide +kernel
theorem dX9_permit_32 : decode cX9_permit 32 = .ok (.aload_n 0, 1) := by decide +kernel
theorem dX9_permit_33 : decode cX9_permit 33 = .ok (.aload_n 0, 1) := by decide +kernel
theorem dX9_permit_34 : decode cX9_permit 34 = .ok (.iload_n 1, 1) := by decide +kernel
theorem dX9_permit_35 : decode cX9_permit 35 = .ok (.invokevirtual 219, 3) := by decide +kernel
theorem dX9_permit_38 : decode cX9_permit 38 = .ok (.ifCond .eq 24, 3) := by decide +kernel
theorem dX9_permit_41 : decode cX9_permit 41 = .ok (.iload_n 2, 1) := by decide +kernel
theorem dX9_permit_42 : decode cX9_permit 42 = .ok (.invokestatic 160, 3) := by decide +kernel
theorem dX9_permit_45 : decode cX9_permit 45 = .ok (.ifCond .eq 17, 3) := by decide +kernel
theorem dX9_permit_48 : decode cX9_permit 48 = .ok (.iload_n 3, 1) := by decide +kernel
theorem dX9_permit_49 : decode cX9_permit 49 = .ok (.iconst 0, 1) := by decide +kernel
theorem dX9_permit_50 : decode cX9_permit 50 = .ok (.bipush 9, 2) := by decide +kernel
theorem dX9_permit_52 : decode cX9_permit 52 = .ok (.invokestatic 153, 3) := by decide +kernel
theorem dX9_permit_55 : decode cX9_permit 55 = .ok (.ifCond .eq 7, 3) := by decide +kernel
theorem dX9_permit_58 : decode cX9_permit 58 = .ok (.iconst 1, 1) := by decide +kernel
theorem dX9_permit_59 : decode cX9_permit 59 = .ok (.goto 4, 3) := by decide +kernel
theorem dX9_permit_62 : decode cX9_permit 62 = .ok (.iconst 0, 1) := by decide +kernel
theorem dX9_permit_63 : decode cX9_permit 63 = .ok (.iload 6, 2) := by decide +kernel
theorem dX9_permit_65 : decode cX9_permit 65 = .ok (.aload_n 0, 1) := by decide +kernel
theorem dX9_permit_66 : decode cX9_permit 66 = .ok (.getfield 212, 3) := by decide +kernel
theorem dX9_permit_69 : decode cX9_permit 69 = .ok (.bipush 40, 2) := by decide +kernel
theorem dX9_permit_71 : decode cX9_permit 71 = .ok (.if_icmp .ge 24, 3) := by decide +kernel
theorem dX9_permit_74 : decode cX9_permit 74 = .ok (.iload 6, 2) := by decide +kernel
theorem dX9_permit_76 : decode cX9_permit 76 = .ok (.ifCond .eq 19, 3) := by decide +kernel
theorem dX9_permit_79 : decode cX9_permit 79 = .ok (.aload_n 0, 1) := by decide +kernel
theorem dX9_permit_80 : decode cX9_permit 80 = .ok (.iload_n 3, 1) := by decide +kernel
theorem dX9_permit_81 : decode cX9_permit 81 = .ok (.iload 4, 2) := by decide +kernel
theorem dX9_permit_83 : decode cX9_permit 83 = .ok (.iload 5, 2) := by decide +kernel
theorem dX9_permit_85 : decode cX9_permit 85 = .ok (.invokevirtual 222, 3) := by decide +kernel
theorem dX9_permit_88 : decode cX9_permit 88 = .ok (.ifCond .eq 7, 3) := by decide +kernel
theorem dX9_permit_91 : decode cX9_permit 91 = .ok (.iconst 1, 1) := by decide +kernel
theorem dX9_permit_92 : decode cX9_permit 92 = .ok (.goto 4, 3) := by decide +kernel
theorem dX9_permit_95 : decode cX9_permit 95 = .ok (.iconst 0, 1) := by decide +kernel
theorem dX9_permit_96 : decode cX9_permit 96 = .ok (.invokevirtual 167, 3) := by decide +kernel
theorem dX9_permit_99 : decode cX9_permit 99 = .ok (.ifCond .ne 5, 3) := by decide +kernel
theorem dX9_permit_102 : decode cX9_permit 102 = .ok (.iconst 0, 1) := by decide +kernel
theorem dX9_permit_103 : decode cX9_permit 103 = .ok (.ireturn, 1) := by decide +kernel
theorem dX9_permit_104 : decode cX9_permit 104 = .ok (.aload_n 0, 1) := by decide +kernel
theorem dX9_permit_105 : decode cX9_permit 105 = .ok (.getfield 74, 3) := by decide +kernel
theorem dX9_permit_108 : decode cX9_permit 108 = .ok (.aload_n 0, 1) := by decide +kernel
theorem dX9_permit_109 : decode cX9_permit 109 = .ok (.getfield 212, 3) := by decide +kernel
