theorem dX8_ruleAnew_63 : decode cX8_ruleAnew 63 = .ok (.iload_n 2, 1) := by decide +kernel
theorem dX8_ruleAnew_64 : decode cX8_ruleAnew 64 = .ok (.iload_n 3, 1) := by decide +kernel
theorem dX8_ruleAnew_65 : decode cX8_ruleAnew 65 = .ok (.invokevirtual 137, 3) := by decide +kernel
theorem dX8_ruleAnew_68 : decode cX8_ruleAnew 68 = .ok (.ifCond .ne 9, 3) := by decide +kernel
theorem dX8_ruleAnew_71 : decode cX8_ruleAnew 71 = .ok (.aload 5, 2) := by decide +kernel
theorem dX8_ruleAnew_73 : decode cX8_ruleAnew 73 = .ok (.getfield 108, 3) := by decide +kernel
theorem dX8_ruleAnew_76 : decode cX8_ruleAnew 76 = .ok (.ireturn, 1) := by decide +kernel
theorem dX8_ruleAnew_77 : decode cX8_ruleAnew 77 = .ok (.iinc 4 1, 3) := by decide +kernel
theorem dX8_ruleAnew_80 : decode cX8_ruleAnew 80 = .ok (.goto (-57), 3) := by decide +kernel
theorem dX8_ruleAnew_83 : decode cX8_ruleAnew 83 = .ok (.iconst (-1), 1) := by decide +kernel
theorem dX8_ruleAnew_84 : decode cX8_ruleAnew 84 = .ok (.ireturn, 1) := by decide +kernel
theorem dX8_car_0 : decode cX8_car 0 = .ok (.iload_n 1, 1) := by decide +kernel
theorem dX8_car_1 : decode cX8_car 1 = .ok (.iconst 3, 1) := by decide +kernel
theorem dX8_car_2 : decode cX8_car 2 = .ok (.bipush 12, 2) := by decide +kernel
theorem dX8_car_4 : decode cX8_car 4 = .ok (.invokestatic 65, 3) := by decide +kernel
theorem dX8_car_7 : decode cX8_car 7 = .ok (.ifCond .eq 16, 3) := by decide +kernel
theorem dX8_car_10 : decode cX8_car 10 = .ok (.iload_n 2, 1) := by decide +kernel
theorem dX8_car_11 : decode cX8_car 11 = .ok (.iconst 0, 1) := by decide +kernel
theorem dX8_car_12 : decode cX8_car 12 = .ok (.iconst 4, 1) := by decide +kernel
theorem dX8_car_13 : decode cX8_car 13 = .ok (.invokestatic 65, 3) := by decide +kernel
theorem dX8_car_16 : decode cX8_car 16 = .ok (.ifCond .eq 7, 3) := by decide +kernel
theorem dX8_car_19 : decode cX8_car 19 = .ok (.iconst 1, 1) := by decide +kernel
theorem dX8_car_20 : decode cX8_car 20 = .ok (.goto 4, 3) := by decide +kernel
theorem dX8_car_23 : decode cX8_car 23 = .ok (.iconst 0, 1) := by decide +kernel
theorem dX8_car_24 : decode cX8_car 24 = .ok (.invokestatic 69, 3) := by decide +kernel
theorem dX8_car_27 : decode cX8_car 27 = .ok (.aload_n 0, 1) := by decide +kernel
theorem dX8_car_28 : decode cX8_car 28 = .ok (.getfield 19, 3) := by decide +kernel
theorem dX8_car_31 : decode cX8_car 31 = .ok (.invokevirtual 88, 3) := by decide +kernel
theorem dX8_car_34 : decode cX8_car 34 = .ok (.bipush 30, 2) := by decide +kernel
theorem dX8_car_36 : decode cX8_car 36 = .ok (.if_icmp .ge 7, 3) := by decide +kernel
theorem dX8_car_39 : decode cX8_car 39 = .ok (.iconst 1, 1) := by decide +kernel
theorem dX8_car_40 : decode cX8_car 40 = .ok (.goto 4, 3) := by decide +kernel
theorem dX8_car_43 : decode cX8_car 43 = .ok (.iconst 0, 1) := by decide +kernel
theorem dX8_car_44 : decode cX8_car 44 = .ok (.invokestatic 92, 3) := by decide +kernel
theorem dX8_car_47 : decode cX8_car 47 = .ok (.new 141, 3) := by decide +kernel
theorem dX8_car_50 : decode cX8_car 50 = .ok (.dup, 1) := by decide +kernel
theorem dX8_car_51 : decode cX8_car 51 = .ok (.aload_n 0, 1) := by decide +kernel
theorem dX8_car_52 : decode cX8_car 52 = .ok (.getfield 19, 3) := by decide +kernel
theorem dX8_car_55 : decode cX8_car 55 = .ok (.invokevirtual 88, 3) := by decide +kernel
theorem dX8_car_58 : decode cX8_car 58 = .ok (.iload_n 1, 1) := by decide +kernel
theorem dX8_car_59 : decode cX8_car 59 = .ok (.iload_n 2, 1) := by decide +kernel
theorem dX8_car_60 : decode cX8_car 60 = .ok (.invokespecial 143, 3) := by decide +kernel
theorem dX8_car_63 : decode cX8_car 63 = .ok (.astore_n 3, 1) := by decide +kernel
theorem dX8_car_64 : decode cX8_car 64 = .ok (.aload_n 0, 1) := by decide +kernel
theorem dX8_car_65 : decode cX8_car 65 = .ok (.getfield 19, 3) := by decide +kernel
theorem dX8_car_68 : decode cX8_car 68 = .ok (.aload_n 3, 1) := by decide +kernel
theorem dX8_car_69 : decode cX8_car 69 = .ok (.invokevirtual 45, 3) := by decide +kernel
theorem dX8_car_72 : decode cX8_car 72 = .ok (.pop, 1) := by decide +kernel
theorem dX8_car_73 : decode cX8_car 73 = .ok (.aload_n 3, 1) := by decide +kernel
theorem dX8_car_74 : decode cX8_car 74 = .ok (.getfield 145, 3) := by decide +kernel
theorem dX8_car_77 : decode cX8_car 77 = .ok (.ireturn, 1) := by decide +kernel
theorem dX8_permit_0 : decode cX8_permit 0 = .ok (.aload_n 0, 1) := by decide +kernel
theorem dX8_permit_1 : decode cX8_permit 1 = .ok (.iload_n 1, 1) := by decide +kernel
theorem dX8_permit_2 : decode cX8_permit 2 = .ok (.invokevirtual 146, 3) := by decide +kernel
theorem dX8_permit_5 : decode cX8_permit 5 = .ok (.astore 6, 2) := by decide +kernel
theorem dX8_permit_7 : decode cX8_permit 7 = .ok (.aload_n 0, 1) := by decide +kernel
theorem dX8_permit_8 : decode cX8_permit 8 = .ok (.iload_n 2, 1) := by decide +kernel
theorem dX8_permit_9 : decode cX8_permit 9 = .ok (.invokevirtual 49, 3) := by decide +kernel
theorem dX8_permit_12 : decode cX8_permit 12 = .ok (.pop, 1) := by decide +kernel
theorem dX8_permit_13 : decode cX8_permit 13 = .ok (.iload_n 3, 1) := by decide +kernel
theorem dX8_permit_14 : decode cX8_permit 14 = .ok (.bipush 10, 2) := by decide +kernel
theorem dX8_permit_16 : decode cX8_permit 16 = .ok (.invokestatic 111, 3) := by decide +kernel
theorem dX8_permit_19 : decode cX8_permit 19 = .ok (.ifCond .ne 13, 3) := by decide +kernel
theorem dX8_permit_22 : decode cX8_permit 22 = .ok (.new 115, 3) := by decide +kernel
theorem dX8_permit_25 : decode cX8_permit 25 = .ok (.dup, 1) := by decide +kernel
theorem dX8_permit_26 : decode cX8_permit 26 = .ok (.ldc 150, 2) := by decide +kernel
theorem dX8_permit_28 : decode cX8_permit 28 = .ok (.invokespecial 119, 3) := by decide +kernel
theorem dX8_permit_31 : decode cX8_permit 31 = .ok (.athrow, 1) := by decide +kernel
theorem dX8_permit_32 : decode cX8_permit 32 = .ok (.iload 4, 2) := by decide +kernel
theorem dX8_permit_34 : decode cX8_permit 34 = .ok (.iconst 0, 1) := by decide +kernel
theorem dX8_permit_35 : decode cX8_permit 35 = .ok (.sipush 520, 3) := by decide +kernel
theorem dX8_permit_38 : decode cX8_permit 38 = .ok (.invokestatic 65, 3) := by decide +kernel
theorem dX8_permit_41 : decode cX8_permit 41 = .ok (.ifCond .eq 20, 3) := by decide +kernel
theorem dX8_permit_44 : decode cX8_permit 44 = .ok (.iload 5, 2) := by decide +kernel
theorem dX8_permit_46 : decode cX8_permit 46 = .ok (.iload 4, 2) := by decide +kernel
theorem dX8_permit_48 : decode cX8_permit 48 = .ok (.sipush 520, 3) := by decide +kernel
theorem dX8_permit_51 : decode cX8_permit 51 = .ok (.invokestatic 65, 3) := by decide +kernel
theorem dX8_permit_54 : decode cX8_permit 54 = .ok (.ifCond .eq 7, 3) := by decide +kernel
theorem dX8_permit_57 : decode cX8_permit 57 = .ok (.iconst 1, 1) := by decide +kernel
theorem dX8_permit_58 : decode cX8_permit 58 = .ok (.goto 4, 3) := by decide +kernel
theorem dX8_permit_61 : decode cX8_permit 61 = .ok (.iconst 0, 1) := by decide +kernel
theorem dX8_permit_62 : decode cX8_permit 62 = .ok (.invokestatic 69, 3) := by decide +kernel
theorem dX8_permit_65 : decode cX8_permit 65 = .ok (.aload_n 0, 1) := by decide +kernel
theorem dX8_permit_66 : decode cX8_permit 66 = .ok (.getfield 22, 3) := by decide +kernel
theorem dX8_permit_69 : decode cX8_permit 69 = .ok (.invokevirtual 88, 3) := by decide +kernel
theorem dX8_permit_72 : decode cX8_permit 72 = .ok (.bipush 40, 2) := by decide +kernel
theorem dX8_permit_74 : decode cX8_permit 74 = .ok (.if_icmp .ge 19, 3) := by decide +kernel
theorem dX8_permit_77 : decode cX8_permit 77 = .ok (.aload_n 0, 1) := by decide +kernel
theorem dX8_permit_78 : decode cX8_permit 78 = .ok (.iload_n 3, 1) := by decide +kernel
theorem dX8_permit_79 : decode cX8_permit 79 = .ok (.iload 4, 2) := by decide +kernel
theorem dX8_permit_81 : decode cX8_permit 81 = .ok (.iload 5, 2) := by decide +kernel
theorem dX8_permit_83 : decode cX8_permit 83 = .ok (.invokevirtual 152, 3) := by decide +kernel
theorem dX8_permit_86 : decode cX8_permit 86 = .ok (.ifCond .ne 7, 3) := by decide +kernel
theorem dX8_permit_89 : decode cX8_permit 89 = .ok (.iconst 1, 1) := by decide +kernel
theorem dX8_permit_90 : decode cX8_permit 90 = .ok (.goto 4, 3) := by decide +kernel
theorem dX8_permit_93 : decode cX8_permit 93 = .ok (.iconst 0, 1) := by decide +kernel
theorem dX8_permit_94 : decode cX8_permit 94 = .ok (.invokestatic 92, 3) := by decide +kernel
theorem dX8_permit_97 : decode cX8_permit 97 = .ok (.aload_n 0, 1) := by decide +kernel
theorem dX8_permit_98 : decode cX8_permit 98 = .ok (.getfield 22, 3) := by decide +kernel
theorem dX8_permit_101 : decode cX8_permit 101 = .ok (.new 155, 3) := by decide +kernel
theorem dX8_permit_104 : decode cX8_permit 104 = .ok (.dup, 1) := by decide +kernel
theorem dX8_permit_105 : decode cX8_permit 105 = .ok (.aload 6, 2) := by decide +kernel
theorem dX8_permit_107 : decode cX8_permit 107 = .ok (.getfield 145, 3) := by decide +kernel
theorem dX8_permit_110 : decode cX8_permit 110 = .ok (.iload_n 2, 1) := by decide +kernel
theorem dX8_permit_111 : decode cX8_permit 111 = .ok (.iload_n 3, 1) := by decide +kernel
theorem dX8_permit_112 : decode cX8_permit 112 = .ok (.iload 4, 2) := by decide +kernel
theorem dX8_permit_114 : decode cX8_permit 114 = .ok (.iload 5, 2) := by decide +kernel
theorem dX8_permit_116 : decode cX8_permit 116 = .ok (.invokespecial 157, 3) := by decide +kernel
theorem dX8_permit_119 : decode cX8_permit 119 = .ok (.invokevirtual 45, 3) := by decide +kernel
theorem dX8_permit_122 : decode cX8_permit 122 = .ok (.pop, 1) := by decide +kernel
theorem dX8_permit_123 : decode cX8_permit 123 = .ok (.aload_n 0, 1) := by decide +kernel
theorem dX8_permit_124 : decode cX8_permit 124 = .ok (.getfield 22, 3) := by decide +kernel
theorem dX8_permit_127 : decode cX8_permit 127 = .ok (.invokevirtual 88, 3) := by decide +kernel
theorem dX8_permit_130 : decode cX8_permit 130 = .ok (.iconst 1, 1) := by decide +kernel
theorem dX8_permit_131 : decode cX8_permit 131 = .ok (.isub, 1) := by decide +kernel
theorem dX8_permit_132 : decode cX8_permit 132 = .ok (.ireturn, 1) := by decide +kernel
theorem dX8_countsAs_0 : decode cX8_countsAs 0 = .ok (.aload_n 0, 1) := by decide +kernel
theorem dX8_countsAs_1 : decode cX8_countsAs 1 = .ok (.iload_n 1, 1) := by decide +kernel
theorem dX8_countsAs_2 : decode cX8_countsAs 2 = .ok (.invokevirtual 146, 3) := by decide +kernel
theorem dX8_countsAs_5 : decode cX8_countsAs 5 = .ok (.astore_n 3, 1) := by decide +kernel
theorem dX8_countsAs_6 : decode cX8_countsAs 6 = .ok (.aload_n 0, 1) := by decide +kernel
theorem dX8_countsAs_7 : decode cX8_countsAs 7 = .ok (.iload_n 2, 1) := by decide +kernel
theorem dX8_countsAs_8 : decode cX8_countsAs 8 = .ok (.invokevirtual 49, 3) := by decide +kernel
theorem dX8_countsAs_11 : decode cX8_countsAs 11 = .ok (.pop, 1) := by decide +kernel
theorem dX8_countsAs_12 : decode cX8_countsAs 12 = .ok (.aload_n 0, 1) := by decide +kernel
theorem dX8_countsAs_13 : decode cX8_countsAs 13 = .ok (.aload_n 3, 1) := by decide +kernel
theorem dX8_countsAs_14 : decode cX8_countsAs 14 = .ok (.iload_n 2, 1) := by decide +kernel
theorem dX8_countsAs_15 : decode cX8_countsAs 15 = .ok (.aload_n 0, 1) := by decide +kernel
theorem dX8_countsAs_16 : decode cX8_countsAs 16 = .ok (.getfield 38, 3) := by decide +kernel
theorem dX8_countsAs_19 : decode cX8_countsAs 19 = .ok (.invokevirtual 165, 3) := by decide +kernel
theorem dX8_countsAs_22 : decode cX8_countsAs 22 = .ok (.ireturn, 1) := by decide +kernel
theorem dX8_park_0 : decode cX8_park 0 = .ok (.aload_n 0, 1) := by decide +kernel
theorem dX8_park_1 : decode cX8_park 1 = .ok (.iload_n 1, 1) := by decide +kernel
theorem dX8_park_2 : decode cX8_park 2 = .ok (.invokevirtual 146, 3) := by decide +kernel
theorem dX8_park_5 : decode cX8_park 5 = .ok (.astore 4, 2) := by decide +kernel
theorem dX8_park_7 : decode cX8_park 7 = .ok (.aload_n 0, 1) := by decide +kernel
theorem dX8_park_8 : decode cX8_park 8 = .ok (.iload_n 2, 1) := by decide +kernel
theorem dX8_park_9 : decode cX8_park 9 = .ok (.invokevirtual 49, 3) := by decide +kernel
theorem dX8_park_12 : decode cX8_park 12 = .ok (.astore 5, 2) := by decide +kernel
theorem dX8_park_14 : decode cX8_park 14 = .ok (.iload_n 3, 1) := by decide +kernel
theorem dX8_park_15 : decode cX8_park 15 = .ok (.invokestatic 53, 3) := by decide +kernel
theorem dX8_park_18 : decode cX8_park 18 = .ok (.aload 4, 2) := by decide +kernel
theorem dX8_park_20 : decode cX8_park 20 = .ok (.getfield 169, 3) := by decide +kernel
theorem dX8_park_23 : decode cX8_park 23 = .ok (.ifnonnull 21, 3) := by decide +kernel
theorem dX8_park_26 : decode cX8_park 26 = .ok (.aload_n 0, 1) := by decide +kernel
theorem dX8_park_27 : decode cX8_park 27 = .ok (.iload_n 2, 1) := by decide +kernel
theorem dX8_park_28 : decode cX8_park 28 = .ok (.iload_n 3, 1) := by decide +kernel
theorem dX8_park_29 : decode cX8_park 29 = .ok (.aload 4, 2) := by decide +kernel
theorem dX8_park_31 : decode cX8_park 31 = .ok (.getfield 173, 3) := by decide +kernel
theorem dX8_park_34 : decode cX8_park 34 = .ok (.invokevirtual 176, 3) := by decide +kernel
theorem dX8_park_37 : decode cX8_park 37 = .ok (.ifCond .eq 7, 3) := by decide +kernel
theorem dX8_park_40 : decode cX8_park 40 = .ok (.iconst 1, 1) := by decide +kernel
theorem dX8_park_41 : decode cX8_park 41 = .ok (.goto 4, 3) := by decide +kernel
theorem dX8_park_44 : decode cX8_park 44 = .ok (.iconst 0, 1) := by decide +kernel
theorem dX8_park_45 : decode cX8_park 45 = .ok (.invokestatic 92, 3) := by decide +kernel
theorem dX8_park_48 : decode cX8_park 48 = .ok (.aload 4, 2) := by decide +kernel
theorem dX8_park_50 : decode cX8_park 50 = .ok (.new 179, 3) := by decide +kernel
theorem dX8_park_53 : decode cX8_park 53 = .ok (.dup, 1) := by decide +kernel
theorem dX8_park_54 : decode cX8_park 54 = .ok (.aload 4, 2) := by decide +kernel
theorem dX8_park_56 : decode cX8_park 56 = .ok (.iload_n 2, 1) := by decide +kernel
theorem dX8_park_57 : decode cX8_park 57 = .ok (.iload_n 3, 1) := by decide +kernel
theorem dX8_park_58 : decode cX8_park 58 = .ok (.aload_n 0, 1) := by decide +kernel
theorem dX8_park_59 : decode cX8_park 59 = .ok (.getfield 38, 3) := by decide +kernel
theorem dX8_park_62 : decode cX8_park 62 = .ok (.invokespecial 181, 3) := by decide +kernel
theorem dX8_park_65 : decode cX8_park 65 = .ok (.putfield 169, 3) := by decide +kernel
theorem dX8_park_68 : decode cX8_park 68 = .ok (.aload 5, 2) := by decide +kernel
theorem dX8_park_70 : decode cX8_park 70 = .ok (.dup, 1) := by decide +kernel
theorem dX8_park_71 : decode cX8_park 71 = .ok (.getfield 184, 3) := by decide +kernel
theorem dX8_park_74 : decode cX8_park 74 = .ok (.aload 4, 2) := by decide +kernel
theorem dX8_park_76 : decode cX8_park 76 = .ok (.getfield 173, 3) := by decide +kernel
theorem dX8_park_79 : decode cX8_park 79 = .ok (.iadd, 1) := by decide +kernel
theorem dX8_park_80 : decode cX8_park 80 = .ok (.putfield 184, 3) := by decide +kernel
theorem dX8_park_83 : decode cX8_park 83 = .ok (.return_, 1) := by decide +kernel
theorem dX8_leave_0 : decode cX8_leave 0 = .ok (.aload_n 0, 1) := by decide +kernel
theorem dX8_leave_1 : decode cX8_leave 1 = .ok (.iload_n 1, 1) := by decide +kernel
theorem dX8_leave_2 : decode cX8_leave 2 = .ok (.invokevirtual 146, 3) := by decide +kernel
theorem dX8_leave_5 : decode cX8_leave 5 = .ok (.astore_n 2, 1) := by decide +kernel
theorem dX8_leave_6 : decode cX8_leave 6 = .ok (.aload_n 2, 1) := by decide +kernel
theorem dX8_leave_7 : decode cX8_leave 7 = .ok (.getfield 169, 3) := by decide +kernel
theorem dX8_leave_10 : decode cX8_leave 10 = .ok (.astore_n 3, 1) := by decide +kernel
theorem dX8_leave_11 : decode cX8_leave 11 = .ok (.aload_n 3, 1) := by decide +kernel
theorem dX8_leave_12 : decode cX8_leave 12 = .ok (.ifnonnull 13, 3) := by decide +kernel
theorem dX8_leave_15 : decode cX8_leave 15 = .ok (.new 187, 3) := by decide +kernel
theorem dX8_leave_18 : decode cX8_leave 18 = .ok (.dup, 1) := by decide +kernel
theorem dX8_leave_19 : decode cX8_leave 19 = .ok (.ldc 189, 2) := by decide +kernel
theorem dX8_leave_21 : decode cX8_leave 21 = .ok (.invokespecial 191, 3) := by decide +kernel
theorem dX8_leave_24 : decode cX8_leave 24 = .ok (.athrow, 1) := by decide +kernel
theorem dX8_leave_25 : decode cX8_leave 25 = .ok (.aload_n 0, 1) := by decide +kernel
theorem dX8_leave_26 : decode cX8_leave 26 = .ok (.aload_n 3, 1) := by decide +kernel
theorem dX8_leave_27 : decode cX8_leave 27 = .ok (.invokevirtual 192, 3) := by decide +kernel
theorem dX8_leave_30 : decode cX8_leave 30 = .ok (.aload_n 0, 1) := by decide +kernel
theorem dX8_leave_31 : decode cX8_leave 31 = .ok (.getfield 38, 3) := by decide +kernel
theorem dX8_leave_34 : decode cX8_leave 34 = .ok (.aload_n 3, 1) := by decide +kernel
theorem dX8_leave_35 : decode cX8_leave 35 = .ok (.getfield 196, 3) := by decide +kernel
theorem dX8_leave_38 : decode cX8_leave 38 = .ok (.isub, 1) := by decide +kernel
theorem dX8_leave_39 : decode cX8_leave 39 = .ok (.ireturn, 1) := by decide +kernel
theorem dX8_gap_0 : decode cX8_gap 0 = .ok (.aload_n 0, 1) := by decide +kernel
theorem dX8_gap_1 : decode cX8_gap 1 = .ok (.iload_n 1, 1) := by decide +kernel
theorem dX8_gap_2 : decode cX8_gap 2 = .ok (.invokevirtual 49, 3) := by decide +kernel
theorem dX8_gap_5 : decode cX8_gap 5 = .ok (.pop, 1) := by decide +kernel
theorem dX8_gap_6 : decode cX8_gap 6 = .ok (.iload_n 2, 1) := by decide +kernel
theorem dX8_gap_7 : decode cX8_gap 7 = .ok (.iconst 3, 1) := by decide +kernel
theorem dX8_gap_8 : decode cX8_gap 8 = .ok (.bipush 12, 2) := by decide +kernel
theorem dX8_gap_10 : decode cX8_gap 10 = .ok (.invokestatic 65, 3) := by decide +kernel
theorem dX8_gap_13 : decode cX8_gap 13 = .ok (.invokestatic 69, 3) := by decide +kernel
theorem dX8_gap_16 : decode cX8_gap 16 = .ok (.iconst 0, 1) := by decide +kernel
theorem dX8_gap_17 : decode cX8_gap 17 = .ok (.istore_n 3, 1) := by decide +kernel
theorem dX8_gap_18 : decode cX8_gap 18 = .ok (.iload_n 3, 1) := by decide +kernel
theorem dX8_gap_19 : decode cX8_gap 19 = .ok (.bipush 60, 2) := by decide +kernel
theorem dX8_gap_21 : decode cX8_gap 21 = .ok (.if_icmp .ge 21, 3) := by decide +kernel
theorem dX8_gap_24 : decode cX8_gap 24 = .ok (.aload_n 0, 1) := by decide +kernel
theorem dX8_gap_25 : decode cX8_gap 25 = .ok (.iload_n 1, 1) := by decide +kernel
theorem dX8_gap_26 : decode cX8_gap 26 = .ok (.iload_n 3, 1) := by decide +kernel
theorem dX8_gap_27 : decode cX8_gap 27 = .ok (.iload_n 2, 1) := by decide +kernel
theorem dX8_gap_28 : decode cX8_gap 28 = .ok (.invokevirtual 176, 3) := by decide +kernel
theorem dX8_gap_31 : decode cX8_gap 31 = .ok (.ifCond .eq 5, 3) := by decide +kernel
theorem dX8_gap_34 : decode cX8_gap 34 = .ok (.iload_n 3, 1) := by decide +kernel
theorem dX8_gap_35 : decode cX8_gap 35 = .ok (.ireturn, 1) := by decide +kernel
theorem dX8_gap_36 : decode cX8_gap 36 = .ok (.iinc 3 1, 3) := by decide +kernel
theorem dX8_gap_39 : decode cX8_gap 39 = .ok (.goto (-21), 3) := by decide +kernel
theorem dX8_gap_42 : decode cX8_gap 42 = .ok (.iconst (-1), 1) := by decide +kernel
theorem dX8_gap_43 : decode cX8_gap 43 = .ok (.ireturn, 1) := by decide +kernel
theorem dX8_pay_0 : decode cX8_pay 0 = .ok (.aload_n 0, 1) := by decide +kernel
theorem dX8_pay_1 : decode cX8_pay 1 = .ok (.iload_n 1, 1) := by decide +kernel
theorem dX8_pay_2 : decode cX8_pay 2 = .ok (.invokevirtual 146, 3) := by decide +kernel
theorem dX8_pay_5 : decode cX8_pay 5 = .ok (.astore 5, 2) := by decide +kernel
theorem dX8_pay_7 : decode cX8_pay 7 = .ok (.aload_n 0, 1) := by decide +kernel
theorem dX8_pay_8 : decode cX8_pay 8 = .ok (.iload_n 2, 1) := by decide +kernel
theorem dX8_pay_9 : decode cX8_pay 9 = .ok (.invokevirtual 49, 3) := by decide +kernel
theorem dX8_pay_12 : decode cX8_pay 12 = .ok (.astore 6, 2) := by decide +kernel
theorem dX8_pay_14 : decode cX8_pay 14 = .ok (.iload_n 3, 1) := by decide +kernel
theorem dX8_pay_15 : decode cX8_pay 15 = .ok (.iconst 0, 1) := by decide +kernel
theorem dX8_pay_16 : decode cX8_pay 16 = .ok (.aload_n 0, 1) := by decide +kernel
theorem dX8_pay_17 : decode cX8_pay 17 = .ok (.getfield 38, 3) := by decide +kernel
theorem dX8_pay_20 : decode cX8_pay 20 = .ok (.bipush 96, 2) := by decide +kernel
theorem dX8_pay_22 : decode cX8_pay 22 = .ok (.isub, 1) := by decide +kernel
theorem dX8_pay_23 : decode cX8_pay 23 = .ok (.invokestatic 199, 3) := by decide +kernel
theorem dX8_pay_26 : decode cX8_pay 26 = .ok (.aload_n 0, 1) := by decide +kernel
theorem dX8_pay_27 : decode cX8_pay 27 = .ok (.getfield 38, 3) := by decide +kernel
theorem dX8_pay_30 : decode cX8_pay 30 = .ok (.invokestatic 65, 3) := by decide +kernel
theorem dX8_pay_33 : decode cX8_pay 33 = .ok (.ifCond .eq 18, 3) := by decide +kernel
theorem dX8_pay_36 : decode cX8_pay 36 = .ok (.iload 4, 2) := by decide +kernel
theorem dX8_pay_38 : decode cX8_pay 38 = .ok (.iconst 1, 1) := by decide +kernel
theorem dX8_pay_39 : decode cX8_pay 39 = .ok (.bipush 96, 2) := by decide +kernel
theorem dX8_pay_41 : decode cX8_pay 41 = .ok (.invokestatic 65, 3) := by decide +kernel
theorem dX8_pay_44 : decode cX8_pay 44 = .ok (.ifCond .eq 7, 3) := by decide +kernel
theorem dX8_pay_47 : decode cX8_pay 47 = .ok (.iconst 1, 1) := by decide +kernel
theorem dX8_pay_48 : decode cX8_pay 48 = .ok (.goto 4, 3) := by decide +kernel
theorem dX8_pay_51 : decode cX8_pay 51 = .ok (.iconst 0, 1) := by decide +kernel
theorem dX8_pay_52 : decode cX8_pay 52 = .ok (.invokestatic 69, 3) := by decide +kernel
theorem dX8_pay_55 : decode cX8_pay 55 = .ok (.aload_n 0, 1) := by decide +kernel
theorem dX8_pay_56 : decode cX8_pay 56 = .ok (.getfield 25, 3) := by decide +kernel
theorem dX8_pay_59 : decode cX8_pay 59 = .ok (.invokevirtual 88, 3) := by decide +kernel
theorem dX8_pay_62 : decode cX8_pay 62 = .ok (.sipush 200, 3) := by decide +kernel
theorem dX8_pay_65 : decode cX8_pay 65 = .ok (.if_icmp .ge 7, 3) := by decide +kernel
theorem dX8_pay_68 : decode cX8_pay 68 = .ok (.iconst 1, 1) := by decide +kernel
theorem dX8_pay_69 : decode cX8_pay 69 = .ok (.goto 4, 3) := by decide +kernel
theorem dX8_pay_72 : decode cX8_pay 72 = .ok (.iconst 0, 1) := by decide +kernel
theorem dX8_pay_73 : decode cX8_pay 73 = .ok (.invokestatic 92, 3) := by decide +kernel
theorem dX8_pay_76 : decode cX8_pay 76 = .ok (.aload_n 0, 1) := by decide +kernel
theorem dX8_pay_77 : decode cX8_pay 77 = .ok (.getfield 25, 3) := by decide +kernel
theorem dX8_pay_80 : decode cX8_pay 80 = .ok (.new 205, 3) := by decide +kernel
theorem dX8_pay_83 : decode cX8_pay 83 = .ok (.dup, 1) := by decide +kernel
theorem dX8_pay_84 : decode cX8_pay 84 = .ok (.aload 5, 2) := by decide +kernel
theorem dX8_pay_86 : decode cX8_pay 86 = .ok (.getfield 145, 3) := by decide +kernel
theorem dX8_pay_89 : decode cX8_pay 89 = .ok (.iload_n 2, 1) := by decide +kernel
theorem dX8_pay_90 : decode cX8_pay 90 = .ok (.iload_n 3, 1) := by decide +kernel
theorem dX8_pay_91 : decode cX8_pay 91 = .ok (.iload 4, 2) := by decide +kernel
theorem dX8_pay_93 : decode cX8_pay 93 = .ok (.invokespecial 207, 3) := by decide +kernel
theorem dX8_pay_96 : decode cX8_pay 96 = .ok (.invokevirtual 45, 3) := by decide +kernel
theorem dX8_pay_99 : decode cX8_pay 99 = .ok (.pop, 1) := by decide +kernel
theorem dX8_pay_100 : decode cX8_pay 100 = .ok (.iload 4, 2) := by decide +kernel
theorem dX8_pay_102 : decode cX8_pay 102 = .ok (.aload 6, 2) := by decide +kernel
theorem dX8_pay_104 : decode cX8_pay 104 = .ok (.getfield 210, 3) := by decide +kernel
theorem dX8_pay_107 : decode cX8_pay 107 = .ok (.imul, 1) := by decide +kernel
theorem dX8_pay_108 : decode cX8_pay 108 = .ok (.istore 7, 2) := by decide +kernel
theorem dX8_pay_110 : decode cX8_pay 110 = .ok (.aload 6, 2) := by decide +kernel
theorem dX8_pay_112 : decode cX8_pay 112 = .ok (.dup, 1) := by decide +kernel
theorem dX8_pay_113 : decode cX8_pay 113 = .ok (.getfield 213, 3) := by decide +kernel
theorem dX8_pay_116 : decode cX8_pay 116 = .ok (.iload 7, 2) := by decide +kernel
theorem dX8_pay_118 : decode cX8_pay 118 = .ok (.iadd, 1) := by decide +kernel
theorem dX8_pay_119 : decode cX8_pay 119 = .ok (.putfield 213, 3) := by decide +kernel
theorem dX8_pay_122 : decode cX8_pay 122 = .ok (.iload 7, 2) := by decide +kernel
theorem dX8_pay_124 : decode cX8_pay 124 = .ok (.ireturn, 1) := by decide +kernel
theorem dX8_judge_0 : decode cX8_judge 0 = .ok (.aload_n 0, 1) := by decide +kernel
theorem dX8_judge_1 : decode cX8_judge 1 = .ok (.iload_n 1, 1) := by decide +kernel
theorem dX8_judge_2 : decode cX8_judge 2 = .ok (.invokevirtual 146, 3) := by decide +kernel
theorem dX8_judge_5 : decode cX8_judge 5 = .ok (.getfield 169, 3) := by decide +kernel
theorem dX8_judge_8 : decode cX8_judge 8 = .ok (.astore_n 2, 1) := by decide +kernel
theorem dX8_judge_9 : decode cX8_judge 9 = .ok (.aload_n 2, 1) := by decide +kernel
theorem dX8_judge_10 : decode cX8_judge 10 = .ok (.ifnonnull 7, 3) := by decide +kernel
theorem dX8_judge_13 : decode cX8_judge 13 = .ok (.iconst (-1), 1) := by decide +kernel
theorem dX8_judge_14 : decode cX8_judge 14 = .ok (.goto 17, 3) := by decide +kernel
theorem dX8_judge_17 : decode cX8_judge 17 = .ok (.aload_n 0, 1) := by decide +kernel
theorem dX8_judge_18 : decode cX8_judge 18 = .ok (.aload_n 2, 1) := by decide +kernel
theorem dX8_judge_19 : decode cX8_judge 19 = .ok (.aload_n 0, 1) := by decide +kernel
theorem dX8_judge_20 : decode cX8_judge 20 = .ok (.getfield 38, 3) := by decide +kernel
theorem dX8_judge_23 : decode cX8_judge 23 = .ok (.aload_n 0, 1) := by decide +kernel
theorem dX8_judge_24 : decode cX8_judge 24 = .ok (.aload_n 2, 1) := by decide +kernel
theorem dX8_judge_25 : decode cX8_judge 25 = .ok (.invokevirtual 216, 3) := by decide +kernel
theorem dX8_judge_28 : decode cX8_judge 28 = .ok (.invokevirtual 220, 3) := by decide +kernel
theorem dX8_judge_31 : decode cX8_judge 31 = .ok (.ireturn, 1) := by decide +kernel
theorem dX8_look_0 : decode cX8_look 0 = .ok (.aload_n 0, 1) := by decide +kernel
theorem dX8_look_1 : decode cX8_look 1 = .ok (.iload_n 1, 1) := by decide +kernel
theorem dX8_look_2 : decode cX8_look 2 = .ok (.invokevirtual 49, 3) := by decide +kernel
theorem dX8_look_5 : decode cX8_look 5 = .ok (.astore_n 2, 1) := by decide +kernel
theorem dX8_look_6 : decode cX8_look 6 = .ok (.aload_n 2, 1) := by decide +kernel
theorem dX8_look_7 : decode cX8_look 7 = .ok (.getfield 224, 3) := by decide +kernel
theorem dX8_look_10 : decode cX8_look 10 = .ok (.istore_n 3, 1) := by decide +kernel
theorem dX8_look_11 : decode cX8_look 11 = .ok (.iconst 0, 1) := by decide +kernel
theorem dX8_look_12 : decode cX8_look 12 = .ok (.istore 4, 2) := by decide +kernel
theorem dX8_look_14 : decode cX8_look 14 = .ok (.iload 4, 2) := by decide +kernel
theorem dX8_look_16 : decode cX8_look 16 = .ok (.aload_n 0, 1) := by decide +kernel
theorem dX8_look_17 : decode cX8_look 17 = .ok (.getfield 19, 3) := by decide +kernel
theorem dX8_look_20 : decode cX8_look 20 = .ok (.invokevirtual 88, 3) := by decide +kernel
theorem dX8_look_23 : decode cX8_look 23 = .ok (.if_icmp .ge 47, 3) := by decide +kernel
theorem dX8_look_26 : decode cX8_look 26 = .ok (.aload_n 0, 1) := by decide +kernel
theorem dX8_look_27 : decode cX8_look 27 = .ok (.getfield 19, 3) := by decide +kernel
theorem dX8_look_30 : decode cX8_look 30 = .ok (.iload 4, 2) := by decide +kernel
theorem dX8_look_32 : decode cX8_look 32 = .ok (.invokevirtual 122, 3) := by decide +kernel
theorem dX8_look_35 : decode cX8_look 35 = .ok (.checkcast 141, 3) := by decide +kernel
theorem dX8_look_38 : decode cX8_look 38 = .ok (.getfield 169, 3) := by decide +kernel
theorem dX8_look_41 : decode cX8_look 41 = .ok (.astore 5, 2) := by decide +kernel
theorem dX8_look_43 : decode cX8_look 43 = .ok (.aload 5, 2) := by decide +kernel
theorem dX8_look_45 : decode cX8_look 45 = .ok (.ifnull 19, 3) := by decide +kernel
theorem dX8_look_48 : decode cX8_look 48 = .ok (.aload 5, 2) := by decide +kernel
theorem dX8_look_50 : decode cX8_look 50 = .ok (.getfield 226, 3) := by decide +kernel
theorem dX8_look_53 : decode cX8_look 53 = .ok (.iload_n 1, 1) := by decide +kernel
theorem dX8_look_54 : decode cX8_look 54 = .ok (.if_icmp .ne 10, 3) := by decide +kernel
theorem dX8_look_57 : decode cX8_look 57 = .ok (.aload_n 0, 1) := by decide +kernel
theorem dX8_look_58 : decode cX8_look 58 = .ok (.aload 5, 2) := by decide +kernel
theorem dX8_look_60 : decode cX8_look 60 = .ok (.aload_n 2, 1) := by decide +kernel
theorem dX8_look_61 : decode cX8_look 61 = .ok (.invokevirtual 229, 3) := by decide +kernel
theorem dX8_look_64 : decode cX8_look 64 = .ok (.iinc 4 1, 3) := by decide +kernel
theorem dX8_look_67 : decode cX8_look 67 = .ok (.goto (-53), 3) := by decide +kernel
theorem dX8_look_70 : decode cX8_look 70 = .ok (.aload_n 2, 1) := by decide +kernel
theorem dX8_look_71 : decode cX8_look 71 = .ok (.getfield 224, 3) := by decide +kernel
theorem dX8_look_74 : decode cX8_look 74 = .ok (.iload_n 3, 1) := by decide +kernel
theorem dX8_look_75 : decode cX8_look 75 = .ok (.isub, 1) := by decide +kernel
theorem dX8_look_76 : decode cX8_look 76 = .ok (.ireturn, 1) := by decide +kernel
theorem dX8_appeal_0 : decode cX8_appeal 0 = .ok (.aload_n 0, 1) := by decide +kernel
theorem dX8_appeal_1 : decode cX8_appeal 1 = .ok (.iload_n 1, 1) := by decide +kernel
theorem dX8_appeal_2 : decode cX8_appeal 2 = .ok (.invokevirtual 233, 3) := by decide +kernel
theorem dX8_appeal_5 : decode cX8_appeal 5 = .ok (.astore_n 2, 1) := by decide +kernel
theorem dX8_appeal_6 : decode cX8_appeal 6 = .ok (.aload_n 2, 1) := by decide +kernel
theorem dX8_appeal_7 : decode cX8_appeal 7 = .ok (.getfield 237, 3) := by decide +kernel
theorem dX8_appeal_10 : decode cX8_appeal 10 = .ok (.ifCond .ne 14, 3) := by decide +kernel
theorem dX8_appeal_13 : decode cX8_appeal 13 = .ok (.aload_n 2, 1) := by decide +kernel
theorem dX8_appeal_14 : decode cX8_appeal 14 = .ok (.getfield 243, 3) := by decide +kernel
theorem dX8_appeal_17 : decode cX8_appeal 17 = .ok (.ifCond .ne 7, 3) := by decide +kernel
theorem dX8_appeal_20 : decode cX8_appeal 20 = .ok (.iconst 1, 1) := by decide +kernel
theorem dX8_appeal_21 : decode cX8_appeal 21 = .ok (.goto 4, 3) := by decide +kernel
theorem dX8_appeal_24 : decode cX8_appeal 24 = .ok (.iconst 0, 1) := by decide +kernel
theorem dX8_appeal_25 : decode cX8_appeal 25 = .ok (.invokestatic 92, 3) := by decide +kernel
theorem dX8_appeal_28 : decode cX8_appeal 28 = .ok (.aload_n 2, 1) := by decide +kernel
theorem dX8_appeal_29 : decode cX8_appeal 29 = .ok (.getfield 246, 3) := by decide +kernel
theorem dX8_appeal_32 : decode cX8_appeal 32 = .ok (.iconst 1, 1) := by decide +kernel
theorem dX8_appeal_33 : decode cX8_appeal 33 = .ok (.if_icmp .ne 7, 3) := by decide +kernel
theorem dX8_appeal_36 : decode cX8_appeal 36 = .ok (.iconst 1, 1) := by decide +kernel
theorem dX8_appeal_37 : decode cX8_appeal 37 = .ok (.goto 4, 3) := by decide +kernel
theorem dX8_appeal_40 : decode cX8_appeal 40 = .ok (.iconst 0, 1) := by decide +kernel
theorem dX8_appeal_41 : decode cX8_appeal 41 = .ok (.istore_n 3, 1) := by decide +kernel
theorem dX8_appeal_42 : decode cX8_appeal 42 = .ok (.aload_n 2, 1) := by decide +kernel
theorem dX8_appeal_43 : decode cX8_appeal 43 = .ok (.iconst 1, 1) := by decide +kernel
theorem dX8_appeal_44 : decode cX8_appeal 44 = .ok (.putfield 237, 3) := by decide +kernel
theorem dX8_appeal_47 : decode cX8_appeal 47 = .ok (.aload_n 2, 1) := by decide +kernel
theorem dX8_appeal_48 : decode cX8_appeal 48 = .ok (.aload_n 0, 1) := by decide +kernel
theorem dX8_appeal_49 : decode cX8_appeal 49 = .ok (.aload_n 2, 1) := by decide +kernel
theorem dX8_appeal_50 : decode cX8_appeal 50 = .ok (.getfield 249, 3) := by decide +kernel
theorem dX8_appeal_53 : decode cX8_appeal 53 = .ok (.aload_n 2, 1) := by decide +kernel
theorem dX8_appeal_54 : decode cX8_appeal 54 = .ok (.getfield 250, 3) := by decide +kernel
theorem dX8_appeal_57 : decode cX8_appeal 57 = .ok (.iload_n 3, 1) := by decide +kernel
theorem dX8_appeal_58 : decode cX8_appeal 58 = .ok (.invokevirtual 220, 3) := by decide +kernel
theorem dX8_appeal_61 : decode cX8_appeal 61 = .ok (.ifCond .ne 7, 3) := by decide +kernel
theorem dX8_appeal_64 : decode cX8_appeal 64 = .ok (.iconst 1, 1) := by decide +kernel
theorem dX8_appeal_65 : decode cX8_appeal 65 = .ok (.goto 4, 3) := by decide +kernel
theorem dX8_appeal_68 : decode cX8_appeal 68 = .ok (.iconst 0, 1) := by decide +kernel
theorem dX8_appeal_69 : decode cX8_appeal 69 = .ok (.putfield 253, 3) := by decide +kernel
theorem dX8_appeal_72 : decode cX8_appeal 72 = .ok (.aload_n 2, 1) := by decide +kernel
theorem dX8_appeal_73 : decode cX8_appeal 73 = .ok (.getfield 253, 3) := by decide +kernel
theorem dX8_appeal_76 : decode cX8_appeal 76 = .ok (.ireturn, 1) := by decide +kernel
theorem dX8_payFine_0 : decode cX8_payFine 0 = .ok (.aload_n 0, 1) := by decide +kernel
theorem dX8_payFine_1 : decode cX8_payFine 1 = .ok (.iload_n 1, 1) := by decide +kernel
theorem dX8_payFine_2 : decode cX8_payFine 2 = .ok (.invokevirtual 233, 3) := by decide +kernel
theorem dX8_payFine_5 : decode cX8_payFine 5 = .ok (.astore_n 2, 1) := by decide +kernel
theorem dX8_payFine_6 : decode cX8_payFine 6 = .ok (.aload_n 2, 1) := by decide +kernel
theorem dX8_payFine_7 : decode cX8_payFine 7 = .ok (.invokevirtual 256, 3) := by decide +kernel
theorem dX8_payFine_10 : decode cX8_payFine 10 = .ok (.invokestatic 92, 3) := by decide +kernel
theorem dX8_payFine_13 : decode cX8_payFine 13 = .ok (.aload_n 2, 1) := by decide +kernel
theorem dX8_payFine_14 : decode cX8_payFine 14 = .ok (.iconst 1, 1) := by decide +kernel
theorem dX8_payFine_15 : decode cX8_payFine 15 = .ok (.putfield 243, 3) := by decide +kernel
theorem dX8_payFine_18 : decode cX8_payFine 18 = .ok (.aload_n 2, 1) := by decide +kernel
theorem dX8_payFine_19 : decode cX8_payFine 19 = .ok (.invokevirtual 260, 3) := by decide +kernel
theorem dX8_payFine_22 : decode cX8_payFine 22 = .ok (.ireturn, 1) := by decide +kernel
theorem dX8_fine_0 : decode cX8_fine 0 = .ok (.aload_n 0, 1) := by decide +kernel
theorem dX8_fine_1 : decode cX8_fine 1 = .ok (.iload_n 1, 1) := by decide +kernel
theorem dX8_fine_2 : decode cX8_fine 2 = .ok (.invokevirtual 233, 3) := by decide +kernel
theorem dX8_fine_5 : decode cX8_fine 5 = .ok (.astore_n 3, 1) := by decide +kernel
theorem dX8_fine_6 : decode cX8_fine 6 = .ok (.iload_n 2, 1) := by decide +kernel
theorem dX8_fine_7 : decode cX8_fine 7 = .ok (.tableswitch 92 0 5 #[37, 48, 56, 61, 66, 79], 37) := by decide +kernel
theorem dX8_fine_44 : decode cX8_fine 44 = .ok (.aload_n 3, 1) := by decide +kernel
theorem dX8_fine_45 : decode cX8_fine 45 = .ok (.getfield 249, 3) := by decide +kernel
theorem dX8_fine_48 : decode cX8_fine 48 = .ok (.getfield 263, 3) := by decide +kernel
theorem dX8_fine_51 : decode cX8_fine 51 = .ok (.getfield 145, 3) := by decide +kernel
theorem dX8_fine_54 : decode cX8_fine 54 = .ok (.ireturn, 1) := by decide +kernel
theorem dX8_fine_55 : decode cX8_fine 55 = .ok (.aload_n 3, 1) := by decide +kernel
theorem dX8_fine_56 : decode cX8_fine 56 = .ok (.getfield 249, 3) := by decide +kernel
theorem dX8_fine_59 : decode cX8_fine 59 = .ok (.getfield 226, 3) := by decide +kernel
theorem dX8_fine_62 : decode cX8_fine 62 = .ok (.ireturn, 1) := by decide +kernel
theorem dX8_fine_63 : decode cX8_fine 63 = .ok (.aload_n 3, 1) := by decide +kernel
theorem dX8_fine_64 : decode cX8_fine 64 = .ok (.getfield 250, 3) := by decide +kernel
theorem dX8_fine_67 : decode cX8_fine 67 = .ok (.ireturn, 1) := by decide +kernel
theorem dX8_fine_68 : decode cX8_fine 68 = .ok (.aload_n 3, 1) := by decide +kernel
theorem dX8_fine_69 : decode cX8_fine 69 = .ok (.getfield 246, 3) := by decide +kernel
theorem dX8_fine_72 : decode cX8_fine 72 = .ok (.ireturn, 1) := by decide +kernel
theorem dX8_fine_73 : decode cX8_fine 73 = .ok (.aload_n 3, 1) := by decide +kernel
theorem dX8_fine_74 : decode cX8_fine 74 = .ok (.getfield 253, 3) := by decide +kernel
theorem dX8_fine_77 : decode cX8_fine 77 = .ok (.ifCond .eq 7, 3) := by decide +kernel
theorem dX8_fine_80 : decode cX8_fine 80 = .ok (.iconst 1, 1) := by decide +kernel
theorem dX8_fine_81 : decode cX8_fine 81 = .ok (.goto 4, 3) := by decide +kernel
theorem dX8_fine_84 : decode cX8_fine 84 = .ok (.iconst 0, 1) := by decide +kernel
theorem dX8_fine_85 : decode cX8_fine 85 = .ok (.ireturn, 1) := by decide +kernel
theorem dX8_fine_86 : decode cX8_fine 86 = .ok (.aload_n 3, 1) := by decide +kernel
theorem dX8_fine_87 : decode cX8_fine 87 = .ok (.getfield 243, 3) := by decide +kernel
theorem dX8_fine_90 : decode cX8_fine 90 = .ok (.ifCond .eq 7, 3) := by decide +kernel
theorem dX8_fine_93 : decode cX8_fine 93 = .ok (.iconst 1, 1) := by decide +kernel
theorem dX8_fine_94 : decode cX8_fine 94 = .ok (.goto 4, 3) := by decide +kernel
theorem dX8_fine_97 : decode cX8_fine 97 = .ok (.iconst 0, 1) := by decide +kernel
theorem dX8_fine_98 : decode cX8_fine 98 = .ok (.ireturn, 1) := by decide +kernel
theorem dX8_fine_99 : decode cX8_fine 99 = .ok (.new 266, 3) := by decide +kernel
theorem dX8_fine_102 : decode cX8_fine 102 = .ok (.dup, 1) := by decide +kernel
theorem dX8_fine_103 : decode cX8_fine 103 = .ok (.ldc_w 268, 3) := by decide +kernel
theorem dX8_fine_106 : decode cX8_fine 106 = .ok (.invokespecial 270, 3) := by decide +kernel
theorem dX8_fine_109 : decode cX8_fine 109 = .ok (.athrow, 1) := by decide +kernel
theorem dX8_debt_0 : decode cX8_debt 0 = .ok (.aload_n 0, 1) := by decide +kernel
theorem dX8_debt_1 : decode cX8_debt 1 = .ok (.aload_n 0, 1) := by decide +kernel
theorem dX8_debt_2 : decode cX8_debt 2 = .ok (.iload_n 1, 1) := by decide +kernel
theorem dX8_debt_3 : decode cX8_debt 3 = .ok (.invokevirtual 146, 3) := by decide +kernel
theorem dX8_debt_6 : decode cX8_debt 6 = .ok (.invokevirtual 271, 3) := by decide +kernel
theorem dX8_debt_9 : decode cX8_debt 9 = .ok (.ireturn, 1) := by decide +kernel
theorem dX8_tow_0 : decode cX8_tow 0 = .ok (.aload_n 0, 1) := by decide +kernel
theorem dX8_tow_1 : decode cX8_tow 1 = .ok (.iload_n 1, 1) := by decide +kernel
theorem dX8_tow_2 : decode cX8_tow 2 = .ok (.invokevirtual 146, 3) := by decide +kernel
theorem dX8_tow_5 : decode cX8_tow 5 = .ok (.astore_n 2, 1) := by decide +kernel
theorem dX8_tow_6 : decode cX8_tow 6 = .ok (.aload_n 2, 1) := by decide +kernel
theorem dX8_tow_7 : decode cX8_tow 7 = .ok (.getfield 169, 3) := by decide +kernel
theorem dX8_tow_10 : decode cX8_tow 10 = .ok (.astore_n 3, 1) := by decide +kernel
theorem dX8_tow_11 : decode cX8_tow 11 = .ok (.aload_n 0, 1) := by decide +kernel
theorem dX8_tow_12 : decode cX8_tow 12 = .ok (.aload_n 2, 1) := by decide +kernel
theorem dX8_tow_13 : decode cX8_tow 13 = .ok (.invokevirtual 271, 3) := by decide +kernel
theorem dX8_tow_16 : decode cX8_tow 16 = .ok (.istore 4, 2) := by decide +kernel
theorem dX8_tow_18 : decode cX8_tow 18 = .ok (.aload_n 3, 1) := by decide +kernel
theorem dX8_tow_19 : decode cX8_tow 19 = .ok (.ifnull 11, 3) := by decide +kernel
theorem dX8_tow_22 : decode cX8_tow 22 = .ok (.iload 4, 2) := by decide +kernel
theorem dX8_tow_24 : decode cX8_tow 24 = .ok (.sipush 200, 3) := by decide +kernel
theorem dX8_tow_27 : decode cX8_tow 27 = .ok (.if_icmp .ge 14, 3) := by decide +kernel
theorem dX8_tow_30 : decode cX8_tow 30 = .ok (.new 187, 3) := by decide +kernel
theorem dX8_tow_33 : decode cX8_tow 33 = .ok (.dup, 1) := by decide +kernel
theorem dX8_tow_34 : decode cX8_tow 34 = .ok (.ldc_w 275, 3) := by decide +kernel
theorem dX8_tow_37 : decode cX8_tow 37 = .ok (.invokespecial 191, 3) := by decide +kernel
theorem dX8_tow_40 : decode cX8_tow 40 = .ok (.athrow, 1) := by decide +kernel
theorem dX8_tow_41 : decode cX8_tow 41 = .ok (.aload_n 0, 1) := by decide +kernel
theorem dX8_tow_42 : decode cX8_tow 42 = .ok (.aload_n 3, 1) := by decide +kernel
theorem dX8_tow_43 : decode cX8_tow 43 = .ok (.invokevirtual 192, 3) := by decide +kernel
theorem dX8_tow_46 : decode cX8_tow 46 = .ok (.iload 4, 2) := by decide +kernel
theorem dX8_tow_48 : decode cX8_tow 48 = .ok (.ireturn, 1) := by decide +kernel
theorem dX8_streetIs_0 : decode cX8_streetIs 0 = .ok (.aload_n 0, 1) := by decide +kernel
theorem dX8_streetIs_1 : decode cX8_streetIs 1 = .ok (.iload_n 1, 1) := by decide +kernel
theorem dX8_streetIs_2 : decode cX8_streetIs 2 = .ok (.invokevirtual 49, 3) := by decide +kernel
theorem dX8_streetIs_5 : decode cX8_streetIs 5 = .ok (.astore_n 3, 1) := by decide +kernel
theorem dX8_streetIs_6 : decode cX8_streetIs 6 = .ok (.iload_n 2, 1) := by decide +kernel
theorem dX8_streetIs_7 : decode cX8_streetIs 7 = .ok (.tableswitch 58 0 4 #[33, 38, 43, 48, 53], 33) := by decide +kernel
theorem dX8_streetIs_40 : decode cX8_streetIs 40 = .ok (.aload_n 3, 1) := by decide +kernel
theorem dX8_streetIs_41 : decode cX8_streetIs 41 = .ok (.getfield 210, 3) := by decide +kernel
theorem dX8_streetIs_44 : decode cX8_streetIs 44 = .ok (.ireturn, 1) := by decide +kernel
theorem dX8_streetIs_45 : decode cX8_streetIs 45 = .ok (.aload_n 3, 1) := by decide +kernel
theorem dX8_streetIs_46 : decode cX8_streetIs 46 = .ok (.getfield 184, 3) := by decide +kernel
theorem dX8_streetIs_49 : decode cX8_streetIs 49 = .ok (.ireturn, 1) := by decide +kernel
theorem dX8_streetIs_50 : decode cX8_streetIs 50 = .ok (.aload_n 3, 1) := by decide +kernel
theorem dX8_streetIs_51 : decode cX8_streetIs 51 = .ok (.getfield 213, 3) := by decide +kernel
theorem dX8_streetIs_54 : decode cX8_streetIs 54 = .ok (.ireturn, 1) := by decide +kernel
theorem dX8_streetIs_55 : decode cX8_streetIs 55 = .ok (.aload_n 3, 1) := by decide +kernel
theorem dX8_streetIs_56 : decode cX8_streetIs 56 = .ok (.getfield 224, 3) := by decide +kernel
theorem dX8_streetIs_59 : decode cX8_streetIs 59 = .ok (.ireturn, 1) := by decide +kernel
theorem dX8_streetIs_60 : decode cX8_streetIs 60 = .ok (.aload_n 3, 1) := by decide +kernel
theorem dX8_streetIs_61 : decode cX8_streetIs 61 = .ok (.getfield 277, 3) := by decide +kernel
theorem dX8_streetIs_64 : decode cX8_streetIs 64 = .ok (.ireturn, 1) := by decide +kernel
theorem dX8_streetIs_65 : decode cX8_streetIs 65 = .ok (.new 266, 3) := by decide +kernel
theorem dX8_streetIs_68 : decode cX8_streetIs 68 = .ok (.dup, 1) := by decide +kernel
theorem dX8_streetIs_69 : decode cX8_streetIs 69 = .ok (.ldc_w 280, 3) := by decide +kernel
theorem dX8_streetIs_72 : decode cX8_streetIs 72 = .ok (.invokespecial 270, 3) := by decide +kernel
theorem dX8_streetIs_75 : decode cX8_streetIs 75 = .ok (.athrow, 1) := by decide +kernel
theorem dX8_pass_0 : decode cX8_pass 0 = .ok (.iload_n 1, 1) := by decide +kernel
theorem dX8_pass_1 : decode cX8_pass 1 = .ok (.iconst 1, 1) := by decide +kernel
theorem dX8_pass_2 : decode cX8_pass 2 = .ok (.bipush 96, 2) := by decide +kernel
theorem dX8_pass_4 : decode cX8_pass 4 = .ok (.invokestatic 65, 3) := by decide +kernel
theorem dX8_pass_7 : decode cX8_pass 7 = .ok (.invokestatic 69, 3) := by decide +kernel
theorem dX8_pass_10 : decode cX8_pass 10 = .ok (.aload_n 0, 1) := by decide +kernel
theorem dX8_pass_11 : decode cX8_pass 11 = .ok (.getfield 38, 3) := by decide +kernel
theorem dX8_pass_14 : decode cX8_pass 14 = .ok (.iload_n 1, 1) := by decide +kernel
theorem dX8_pass_15 : decode cX8_pass 15 = .ok (.iadd, 1) := by decide +kernel
theorem dX8_pass_16 : decode cX8_pass 16 = .ok (.ldc 129, 2) := by decide +kernel
theorem dX8_pass_18 : decode cX8_pass 18 = .ok (.if_icmp .gt 7, 3) := by decide +kernel
theorem dX8_pass_21 : decode cX8_pass 21 = .ok (.iconst 1, 1) := by decide +kernel
theorem dX8_pass_22 : decode cX8_pass 22 = .ok (.goto 4, 3) := by decide +kernel
theorem dX8_pass_25 : decode cX8_pass 25 = .ok (.iconst 0, 1) := by decide +kernel
theorem dX8_pass_26 : decode cX8_pass 26 = .ok (.invokestatic 92, 3) := by decide +kernel
theorem dX8_pass_29 : decode cX8_pass 29 = .ok (.iconst 0, 1) := by decide +kernel
theorem dX8_pass_30 : decode cX8_pass 30 = .ok (.istore_n 2, 1) := by decide +kernel
theorem dX8_pass_31 : decode cX8_pass 31 = .ok (.iload_n 2, 1) := by decide +kernel
theorem dX8_pass_32 : decode cX8_pass 32 = .ok (.iload_n 1, 1) := by decide +kernel
theorem dX8_pass_33 : decode cX8_pass 33 = .ok (.if_icmp .ge 13, 3) := by decide +kernel
theorem dX8_pass_36 : decode cX8_pass 36 = .ok (.aload_n 0, 1) := by decide +kernel
theorem dX8_pass_37 : decode cX8_pass 37 = .ok (.invokevirtual 282, 3) := by decide +kernel
theorem dX8_pass_40 : decode cX8_pass 40 = .ok (.iinc 2 1, 3) := by decide +kernel
theorem dX8_pass_43 : decode cX8_pass 43 = .ok (.goto (-12), 3) := by decide +kernel
theorem dX8_pass_46 : decode cX8_pass 46 = .ok (.aload_n 0, 1) := by decide +kernel
theorem dX8_pass_47 : decode cX8_pass 47 = .ok (.getfield 38, 3) := by decide +kernel
theorem dX8_pass_50 : decode cX8_pass 50 = .ok (.ireturn, 1) := by decide +kernel
theorem dX8_isIn_0 : decode cX8_isIn 0 = .ok (.iload_n 0, 1) := by decide +kernel
theorem dX8_isIn_1 : decode cX8_isIn 1 = .ok (.iload_n 1, 1) := by decide +kernel
theorem dX8_isIn_2 : decode cX8_isIn 2 = .ok (.if_icmp .lt 12, 3) := by decide +kernel
theorem dX8_isIn_5 : decode cX8_isIn 5 = .ok (.iload_n 0, 1) := by decide +kernel
theorem dX8_isIn_6 : decode cX8_isIn 6 = .ok (.iload_n 2, 1) := by decide +kernel
theorem dX8_isIn_7 : decode cX8_isIn 7 = .ok (.if_icmp .gt 7, 3) := by decide +kernel
theorem dX8_isIn_10 : decode cX8_isIn 10 = .ok (.iconst 1, 1) := by decide +kernel
theorem dX8_isIn_11 : decode cX8_isIn 11 = .ok (.goto 4, 3) := by decide +kernel
theorem dX8_isIn_14 : decode cX8_isIn 14 = .ok (.iconst 0, 1) := by decide +kernel
theorem dX8_isIn_15 : decode cX8_isIn 15 = .ok (.ireturn, 1) := by decide +kernel
theorem dX8_isIndex_0 : decode cX8_isIndex 0 = .ok (.iload_n 0, 1) := by decide +kernel
theorem dX8_isIndex_1 : decode cX8_isIndex 1 = .ok (.ifCond .lt 12, 3) := by decide +kernel
theorem dX8_isIndex_4 : decode cX8_isIndex 4 = .ok (.iload_n 0, 1) := by decide +kernel
theorem dX8_isIndex_5 : decode cX8_isIndex 5 = .ok (.iload_n 1, 1) := by decide +kernel
theorem dX8_isIndex_6 : decode cX8_isIndex 6 = .ok (.if_icmp .ge 7, 3) := by decide +kernel
theorem dX8_isIndex_9 : decode cX8_isIndex 9 = .ok (.iconst 1, 1) := by decide +kernel
theorem dX8_isIndex_10 : decode cX8_isIndex 10 = .ok (.goto 4, 3) := by decide +kernel
theorem dX8_isIndex_13 : decode cX8_isIndex 13 = .ok (.iconst 0, 1) := by decide +kernel
theorem dX8_isIndex_14 : decode cX8_isIndex 14 = .ok (.ireturn, 1) := by decide +kernel
theorem dX8_need_0 : decode cX8_need 0 = .ok (.iload_n 0, 1) := by decide +kernel
theorem dX8_need_1 : decode cX8_need 1 = .ok (.ifCond .ne 14, 3) := by decide +kernel
theorem dX8_need_4 : decode cX8_need 4 = .ok (.new 266, 3) := by decide +kernel
theorem dX8_need_7 : decode cX8_need 7 = .ok (.dup, 1) := by decide +kernel
theorem dX8_need_8 : decode cX8_need 8 = .ok (.ldc_w 285, 3) := by decide +kernel
theorem dX8_need_11 : decode cX8_need 11 = .ok (.invokespecial 270, 3) := by decide +kernel
theorem dX8_need_14 : decode cX8_need 14 = .ok (.athrow, 1) := by decide +kernel
theorem dX8_need_15 : decode cX8_need 15 = .ok (.return_, 1) := by decide +kernel
theorem dX8_needState_0 : decode cX8_needState 0 = .ok (.iload_n 0, 1) := by decide +kernel
theorem dX8_needState_1 : decode cX8_needState 1 = .ok (.ifCond .ne 14, 3) := by decide +kernel
theorem dX8_needState_4 : decode cX8_needState 4 = .ok (.new 187, 3) := by decide +kernel
theorem dX8_needState_7 : decode cX8_needState 7 = .ok (.dup, 1) := by decide +kernel
theorem dX8_needState_8 : decode cX8_needState 8 = .ok (.ldc_w 287, 3) := by decide +kernel
theorem dX8_needState_11 : decode cX8_needState 11 = .ok (.invokespecial 191, 3) := by decide +kernel
theorem dX8_needState_14 : decode cX8_needState 14 = .ok (.athrow, 1) := by decide +kernel
theorem dX8_needState_15 : decode cX8_needState 15 = .ok (.return_, 1) := by decide +kernel
theorem dX8_needMetre_0 : decode cX8_needMetre 0 = .ok (.iload_n 0, 1) := by decide +kernel
theorem dX8_needMetre_1 : decode cX8_needMetre 1 = .ok (.bipush 60, 2) := by decide +kernel
theorem dX8_needMetre_3 : decode cX8_needMetre 3 = .ok (.invokestatic 111, 3) := by decide +kernel
theorem dX8_needMetre_6 : decode cX8_needMetre 6 = .ok (.ifCond .ne 14, 3) := by decide +kernel
theorem dX8_needMetre_9 : decode cX8_needMetre 9 = .ok (.new 115, 3) := by decide +kernel
theorem dX8_needMetre_12 : decode cX8_needMetre 12 = .ok (.dup, 1) := by decide +kernel
theorem dX8_needMetre_13 : decode cX8_needMetre 13 = .ok (.ldc_w 289, 3) := by decide +kernel
theorem dX8_needMetre_16 : decode cX8_needMetre 16 = .ok (.invokespecial 119, 3) := by decide +kernel
theorem dX8_needMetre_19 : decode cX8_needMetre 19 = .ok (.athrow, 1) := by decide +kernel
theorem dX8_needMetre_20 : decode cX8_needMetre 20 = .ok (.return_, 1) := by decide +kernel
theorem dX8_streetOf_0 : decode cX8_streetOf 0 = .ok (.iload_n 1, 1) := by decide +kernel
theorem dX8_streetOf_1 : decode cX8_streetOf 1 = .ok (.aload_n 0, 1) := by decide +kernel
theorem dX8_streetOf_2 : decode cX8_streetOf 2 = .ok (.getfield 12, 3) := by decide +kernel
theorem dX8_streetOf_5 : decode cX8_streetOf 5 = .ok (.invokevirtual 88, 3) := by decide +kernel
theorem dX8_streetOf_8 : decode cX8_streetOf 8 = .ok (.invokestatic 111, 3) := by decide +kernel
theorem dX8_streetOf_11 : decode cX8_streetOf 11 = .ok (.ifCond .ne 14, 3) := by decide +kernel
theorem dX8_streetOf_14 : decode cX8_streetOf 14 = .ok (.new 115, 3) := by decide +kernel
theorem dX8_streetOf_17 : decode cX8_streetOf 17 = .ok (.dup, 1) := by decide +kernel
theorem dX8_streetOf_18 : decode cX8_streetOf 18 = .ok (.ldc_w 291, 3) := by decide +kernel
theorem dX8_streetOf_21 : decode cX8_streetOf 21 = .ok (.invokespecial 119, 3) := by decide +kernel
theorem dX8_streetOf_24 : decode cX8_streetOf 24 = .ok (.athrow, 1) := by decide +kernel
theorem dX8_streetOf_25 : decode cX8_streetOf 25 = .ok (.aload_n 0, 1) := by decide +kernel
theorem dX8_streetOf_26 : decode cX8_streetOf 26 = .ok (.getfield 12, 3) := by decide +kernel
theorem dX8_streetOf_29 : decode cX8_streetOf 29 = .ok (.iload_n 1, 1) := by decide +kernel
theorem dX8_streetOf_30 : decode cX8_streetOf 30 = .ok (.invokevirtual 122, 3) := by decide +kernel
theorem dX8_streetOf_33 : decode cX8_streetOf 33 = .ok (.checkcast 42, 3) := by decide +kernel
theorem dX8_streetOf_36 : decode cX8_streetOf 36 = .ok (.areturn, 1) := by decide +kernel
theorem dX8_carOf_0 : decode cX8_carOf 0 = .ok (.iload_n 1, 1) := by decide +kernel
theorem dX8_carOf_1 : decode cX8_carOf 1 = .ok (.aload_n 0, 1) := by decide +kernel
theorem dX8_carOf_2 : decode cX8_carOf 2 = .ok (.getfield 19, 3) := by decide +kernel
theorem dX8_carOf_5 : decode cX8_carOf 5 = .ok (.invokevirtual 88, 3) := by decide +kernel
theorem dX8_carOf_8 : decode cX8_carOf 8 = .ok (.invokestatic 111, 3) := by decide +kernel
theorem dX8_carOf_11 : decode cX8_carOf 11 = .ok (.ifCond .ne 14, 3) := by decide +kernel
theorem dX8_carOf_14 : decode cX8_carOf 14 = .ok (.new 115, 3) := by decide +kernel
theorem dX8_carOf_17 : decode cX8_carOf 17 = .ok (.dup, 1) := by decide +kernel
theorem dX8_carOf_18 : decode cX8_carOf 18 = .ok (.ldc_w 293, 3) := by decide +kernel
theorem dX8_carOf_21 : decode cX8_carOf 21 = .ok (.invokespecial 119, 3) := by decide +kernel
theorem dX8_carOf_24 : decode cX8_carOf 24 = .ok (.athrow, 1) := by decide +kernel
theorem dX8_carOf_25 : decode cX8_carOf 25 = .ok (.aload_n 0, 1) := by decide +kernel
theorem dX8_carOf_26 : decode cX8_carOf 26 = .ok (.getfield 19, 3) := by decide +kernel
theorem dX8_carOf_29 : decode cX8_carOf 29 = .ok (.iload_n 1, 1) := by decide +kernel
theorem dX8_carOf_30 : decode cX8_carOf 30 = .ok (.invokevirtual 122, 3) := by decide +kernel
theorem dX8_carOf_33 : decode cX8_carOf 33 = .ok (.checkcast 141, 3) := by decide +kernel
theorem dX8_carOf_36 : decode cX8_carOf 36 = .ok (.areturn, 1) := by decide +kernel
theorem dX8_fineOf_0 : decode cX8_fineOf 0 = .ok (.iload_n 1, 1) := by decide +kernel
theorem dX8_fineOf_1 : decode cX8_fineOf 1 = .ok (.aload_n 0, 1) := by decide +kernel
theorem dX8_fineOf_2 : decode cX8_fineOf 2 = .ok (.getfield 28, 3) := by decide +kernel
theorem dX8_fineOf_5 : decode cX8_fineOf 5 = .ok (.invokevirtual 88, 3) := by decide +kernel
theorem dX8_fineOf_8 : decode cX8_fineOf 8 = .ok (.invokestatic 111, 3) := by decide +kernel
theorem dX8_fineOf_11 : decode cX8_fineOf 11 = .ok (.ifCond .ne 14, 3) := by decide +kernel
theorem dX8_fineOf_14 : decode cX8_fineOf 14 = .ok (.new 115, 3) := by decide +kernel
theorem dX8_fineOf_17 : decode cX8_fineOf 17 = .ok (.dup, 1) := by decide +kernel
theorem dX8_fineOf_18 : decode cX8_fineOf 18 = .ok (.ldc_w 295, 3) := by decide +kernel
theorem dX8_fineOf_21 : decode cX8_fineOf 21 = .ok (.invokespecial 119, 3) := by decide +kernel
theorem dX8_fineOf_24 : decode cX8_fineOf 24 = .ok (.athrow, 1) := by decide +kernel
theorem dX8_fineOf_25 : decode cX8_fineOf 25 = .ok (.aload_n 0, 1) := by decide +kernel
theorem dX8_fineOf_26 : decode cX8_fineOf 26 = .ok (.getfield 28, 3) := by decide +kernel
theorem dX8_fineOf_29 : decode cX8_fineOf 29 = .ok (.iload_n 1, 1) := by decide +kernel
theorem dX8_fineOf_30 : decode cX8_fineOf 30 = .ok (.invokevirtual 122, 3) := by decide +kernel
theorem dX8_fineOf_33 : decode cX8_fineOf 33 = .ok (.checkcast 238, 3) := by decide +kernel
theorem dX8_fineOf_36 : decode cX8_fineOf 36 = .ok (.areturn, 1) := by decide +kernel
theorem dX8_signThatCounts_0 : decode cX8_signThatCounts 0 = .ok (.aconst_null, 1) := by decide +kernel
theorem dX8_signThatCounts_1 : decode cX8_signThatCounts 1 = .ok (.astore 4, 2) := by decide +kernel
theorem dX8_signThatCounts_3 : decode cX8_signThatCounts 3 = .ok (.iconst 0, 1) := by decide +kernel
theorem dX8_signThatCounts_4 : decode cX8_signThatCounts 4 = .ok (.istore 5, 2) := by decide +kernel
theorem dX8_signThatCounts_6 : decode cX8_signThatCounts 6 = .ok (.iload 5, 2) := by decide +kernel
theorem dX8_signThatCounts_8 : decode cX8_signThatCounts 8 = .ok (.aload_n 0, 1) := by decide +kernel
theorem dX8_signThatCounts_9 : decode cX8_signThatCounts 9 = .ok (.getfield 16, 3) := by decide +kernel
theorem dX8_signThatCounts_12 : decode cX8_signThatCounts 12 = .ok (.invokevirtual 88, 3) := by decide +kernel
theorem dX8_signThatCounts_15 : decode cX8_signThatCounts 15 = .ok (.if_icmp .ge 53, 3) := by decide +kernel
theorem dX8_signThatCounts_18 : decode cX8_signThatCounts 18 = .ok (.aload_n 0, 1) := by decide +kernel
theorem dX8_signThatCounts_19 : decode cX8_signThatCounts 19 = .ok (.getfield 16, 3) := by decide +kernel
theorem dX8_signThatCounts_22 : decode cX8_signThatCounts 22 = .ok (.iload 5, 2) := by decide +kernel
theorem dX8_signThatCounts_24 : decode cX8_signThatCounts 24 = .ok (.invokevirtual 122, 3) := by decide +kernel
theorem dX8_signThatCounts_27 : decode cX8_signThatCounts 27 = .ok (.checkcast 95, 3) := by decide +kernel
theorem dX8_signThatCounts_30 : decode cX8_signThatCounts 30 = .ok (.astore 6, 2) := by decide +kernel
theorem dX8_signThatCounts_32 : decode cX8_signThatCounts 32 = .ok (.aload 6, 2) := by decide +kernel
theorem dX8_signThatCounts_34 : decode cX8_signThatCounts 34 = .ok (.iload_n 1, 1) := by decide +kernel
theorem dX8_signThatCounts_35 : decode cX8_signThatCounts 35 = .ok (.iload_n 2, 1) := by decide +kernel
theorem dX8_signThatCounts_36 : decode cX8_signThatCounts 36 = .ok (.iload_n 3, 1) := by decide +kernel
theorem dX8_signThatCounts_37 : decode cX8_signThatCounts 37 = .ok (.invokevirtual 134, 3) := by decide +kernel
theorem dX8_signThatCounts_40 : decode cX8_signThatCounts 40 = .ok (.ifCond .eq 22, 3) := by decide +kernel
theorem dX8_signThatCounts_43 : decode cX8_signThatCounts 43 = .ok (.aload 4, 2) := by decide +kernel
theorem dX8_signThatCounts_45 : decode cX8_signThatCounts 45 = .ok (.ifnull 13, 3) := by decide +kernel
theorem dX8_signThatCounts_48 : decode cX8_signThatCounts 48 = .ok (.aload 6, 2) := by decide +kernel
theorem dX8_signThatCounts_50 : decode cX8_signThatCounts 50 = .ok (.aload 4, 2) := by decide +kernel
theorem dX8_signThatCounts_52 : decode cX8_signThatCounts 52 = .ok (.invokevirtual 297, 3) := by decide +kernel
theorem dX8_signThatCounts_55 : decode cX8_signThatCounts 55 = .ok (.ifCond .eq 7, 3) := by decide +kernel
theorem dX8_signThatCounts_58 : decode cX8_signThatCounts 58 = .ok (.aload 6, 2) := by decide +kernel
theorem dX8_signThatCounts_60 : decode cX8_signThatCounts 60 = .ok (.astore 4, 2) := by decide +kernel
theorem dX8_signThatCounts_62 : decode cX8_signThatCounts 62 = .ok (.iinc 5 1, 3) := by decide +kernel
theorem dX8_signThatCounts_65 : decode cX8_signThatCounts 65 = .ok (.goto (-59), 3) := by decide +kernel
theorem dX8_signThatCounts_68 : decode cX8_signThatCounts 68 = .ok (.aload 4, 2) := by decide +kernel
theorem dX8_signThatCounts_70 : decode cX8_signThatCounts 70 = .ok (.areturn, 1) := by decide +kernel
theorem dX8_isLeftOut_0 : decode cX8_isLeftOut 0 = .ok (.iconst 0, 1) := by decide +kernel
theorem dX8_isLeftOut_1 : decode cX8_isLeftOut 1 = .ok (.istore 4, 2) := by decide +kernel
theorem dX8_isLeftOut_3 : decode cX8_isLeftOut 3 = .ok (.iload 4, 2) := by decide +kernel
theorem dX8_isLeftOut_5 : decode cX8_isLeftOut 5 = .ok (.aload_n 0, 1) := by decide +kernel
theorem dX8_isLeftOut_6 : decode cX8_isLeftOut 6 = .ok (.getfield 16, 3) := by decide +kernel
theorem dX8_isLeftOut_9 : decode cX8_isLeftOut 9 = .ok (.invokevirtual 88, 3) := by decide +kernel
theorem dX8_isLeftOut_12 : decode cX8_isLeftOut 12 = .ok (.if_icmp .ge 48, 3) := by decide +kernel
theorem dX8_isLeftOut_15 : decode cX8_isLeftOut 15 = .ok (.aload_n 0, 1) := by decide +kernel
theorem dX8_isLeftOut_16 : decode cX8_isLeftOut 16 = .ok (.getfield 16, 3) := by decide +kernel
theorem dX8_isLeftOut_19 : decode cX8_isLeftOut 19 = .ok (.iload 4, 2) := by decide +kernel
theorem dX8_isLeftOut_21 : decode cX8_isLeftOut 21 = .ok (.invokevirtual 122, 3) := by decide +kernel
theorem dX8_isLeftOut_24 : decode cX8_isLeftOut 24 = .ok (.checkcast 95, 3) := by decide +kernel
theorem dX8_isLeftOut_27 : decode cX8_isLeftOut 27 = .ok (.astore 5, 2) := by decide +kernel
theorem dX8_isLeftOut_29 : decode cX8_isLeftOut 29 = .ok (.aload 5, 2) := by decide +kernel
theorem dX8_isLeftOut_31 : decode cX8_isLeftOut 31 = .ok (.aload_n 1, 1) := by decide +kernel
theorem dX8_isLeftOut_32 : decode cX8_isLeftOut 32 = .ok (.getfield 301, 3) := by decide +kernel
theorem dX8_isLeftOut_35 : decode cX8_isLeftOut 35 = .ok (.iload_n 2, 1) := by decide +kernel
theorem dX8_isLeftOut_36 : decode cX8_isLeftOut 36 = .ok (.iload_n 3, 1) := by decide +kernel
theorem dX8_isLeftOut_37 : decode cX8_isLeftOut 37 = .ok (.invokevirtual 134, 3) := by decide +kernel
theorem dX8_isLeftOut_40 : decode cX8_isLeftOut 40 = .ok (.ifCond .eq 14, 3) := by decide +kernel
theorem dX8_isLeftOut_43 : decode cX8_isLeftOut 43 = .ok (.aload 5, 2) := by decide +kernel
theorem dX8_isLeftOut_45 : decode cX8_isLeftOut 45 = .ok (.aload_n 1, 1) := by decide +kernel
theorem dX8_isLeftOut_46 : decode cX8_isLeftOut 46 = .ok (.invokevirtual 297, 3) := by decide +kernel
theorem dX8_isLeftOut_49 : decode cX8_isLeftOut 49 = .ok (.ifCond .eq 5, 3) := by decide +kernel
theorem dX8_isLeftOut_52 : decode cX8_isLeftOut 52 = .ok (.iconst 1, 1) := by decide +kernel
theorem dX8_isLeftOut_53 : decode cX8_isLeftOut 53 = .ok (.ireturn, 1) := by decide +kernel
theorem dX8_isLeftOut_54 : decode cX8_isLeftOut 54 = .ok (.iinc 4 1, 3) := by decide +kernel
theorem dX8_isLeftOut_57 : decode cX8_isLeftOut 57 = .ok (.goto (-54), 3) := by decide +kernel
theorem dX8_isLeftOut_60 : decode cX8_isLeftOut 60 = .ok (.iconst 0, 1) := by decide +kernel
theorem dX8_isLeftOut_61 : decode cX8_isLeftOut 61 = .ok (.ireturn, 1) := by decide +kernel
theorem dX8_isHomeFull_0 : decode cX8_isHomeFull 0 = .ok (.aload_n 0, 1) := by decide +kernel
theorem dX8_isHomeFull_1 : decode cX8_isHomeFull 1 = .ok (.iload_n 1, 1) := by decide +kernel
theorem dX8_isHomeFull_2 : decode cX8_isHomeFull 2 = .ok (.iload_n 2, 1) := by decide +kernel
theorem dX8_isHomeFull_3 : decode cX8_isHomeFull 3 = .ok (.invokevirtual 302, 3) := by decide +kernel
theorem dX8_isHomeFull_6 : decode cX8_isHomeFull 6 = .ok (.iconst 2, 1) := by decide +kernel
theorem dX8_isHomeFull_7 : decode cX8_isHomeFull 7 = .ok (.if_icmp .lt 5, 3) := by decide +kernel
theorem dX8_isHomeFull_10 : decode cX8_isHomeFull 10 = .ok (.iconst 1, 1) := by decide +kernel
theorem dX8_isHomeFull_11 : decode cX8_isHomeFull 11 = .ok (.ireturn, 1) := by decide +kernel
theorem dX8_isHomeFull_12 : decode cX8_isHomeFull 12 = .ok (.iconst 0, 1) := by decide +kernel
theorem dX8_isHomeFull_13 : decode cX8_isHomeFull 13 = .ok (.istore 4, 2) := by decide +kernel
theorem dX8_isHomeFull_15 : decode cX8_isHomeFull 15 = .ok (.iload 4, 2) := by decide +kernel
theorem dX8_isHomeFull_17 : decode cX8_isHomeFull 17 = .ok (.aload_n 0, 1) := by decide +kernel
theorem dX8_isHomeFull_18 : decode cX8_isHomeFull 18 = .ok (.getfield 22, 3) := by decide +kernel
theorem dX8_isHomeFull_21 : decode cX8_isHomeFull 21 = .ok (.invokevirtual 88, 3) := by decide +kernel
theorem dX8_isHomeFull_24 : decode cX8_isHomeFull 24 = .ok (.if_icmp .ge 49, 3) := by decide +kernel
theorem dX8_isHomeFull_27 : decode cX8_isHomeFull 27 = .ok (.aload_n 0, 1) := by decide +kernel
theorem dX8_isHomeFull_28 : decode cX8_isHomeFull 28 = .ok (.getfield 22, 3) := by decide +kernel
theorem dX8_isHomeFull_31 : decode cX8_isHomeFull 31 = .ok (.iload 4, 2) := by decide +kernel
theorem dX8_isHomeFull_33 : decode cX8_isHomeFull 33 = .ok (.invokevirtual 122, 3) := by decide +kernel
theorem dX8_isHomeFull_36 : decode cX8_isHomeFull 36 = .ok (.checkcast 155, 3) := by decide +kernel
theorem dX8_isHomeFull_39 : decode cX8_isHomeFull 39 = .ok (.getfield 305, 3) := by decide +kernel
theorem dX8_isHomeFull_42 : decode cX8_isHomeFull 42 = .ok (.istore 5, 2) := by decide +kernel
