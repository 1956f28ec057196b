theorem dX9_hasFine_30 : decode cX9_hasFine 30 = .ok (.iload_n 3, 1) := by decide +kernel
theorem dX9_hasFine_31 : decode cX9_hasFine 31 = .ok (.iaload, 1) := by decide +kernel
theorem dX9_hasFine_32 : decode cX9_hasFine 32 = .ok (.aload_n 0, 1) := by decide +kernel
theorem dX9_hasFine_33 : decode cX9_hasFine 33 = .ok (.getfield 71, 3) := by decide +kernel
theorem dX9_hasFine_36 : decode cX9_hasFine 36 = .ok (.iload_n 1, 1) := by decide +kernel
theorem dX9_hasFine_37 : decode cX9_hasFine 37 = .ok (.iaload, 1) := by decide +kernel
theorem dX9_hasFine_38 : decode cX9_hasFine 38 = .ok (.if_icmp .ne 26, 3) := by decide +kernel
theorem dX9_hasFine_41 : decode cX9_hasFine 41 = .ok (.aload_n 0, 1) := by decide +kernel
theorem dX9_hasFine_42 : decode cX9_hasFine 42 = .ok (.getfield 116, 3) := by decide +kernel
theorem dX9_hasFine_45 : decode cX9_hasFine 45 = .ok (.iload_n 3, 1) := by decide +kernel
theorem dX9_hasFine_46 : decode cX9_hasFine 46 = .ok (.iaload, 1) := by decide +kernel
theorem dX9_hasFine_47 : decode cX9_hasFine 47 = .ok (.bipush 96, 2) := by decide +kernel
theorem dX9_hasFine_49 : decode cX9_hasFine 49 = .ok (.idiv, 1) := by decide +kernel
theorem dX9_hasFine_50 : decode cX9_hasFine 50 = .ok (.aload_n 0, 1) := by decide +kernel
theorem dX9_hasFine_51 : decode cX9_hasFine 51 = .ok (.getfield 189, 3) := by decide +kernel
theorem dX9_hasFine_54 : decode cX9_hasFine 54 = .ok (.bipush 96, 2) := by decide +kernel
theorem dX9_hasFine_56 : decode cX9_hasFine 56 = .ok (.idiv, 1) := by decide +kernel
theorem dX9_hasFine_57 : decode cX9_hasFine 57 = .ok (.if_icmp .ne 7, 3) := by decide +kernel
theorem dX9_hasFine_60 : decode cX9_hasFine 60 = .ok (.iconst 1, 1) := by decide +kernel
theorem dX9_hasFine_61 : decode cX9_hasFine 61 = .ok (.goto 4, 3) := by decide +kernel
theorem dX9_hasFine_64 : decode cX9_hasFine 64 = .ok (.iconst 0, 1) := by decide +kernel
theorem dX9_hasFine_65 : decode cX9_hasFine 65 = .ok (.istore_n 2, 1) := by decide +kernel
theorem dX9_hasFine_66 : decode cX9_hasFine 66 = .ok (.iinc 3 1, 3) := by decide +kernel
theorem dX9_hasFine_69 : decode cX9_hasFine 69 = .ok (.goto (-65), 3) := by decide +kernel
theorem dX9_hasFine_72 : decode cX9_hasFine 72 = .ok (.iload_n 2, 1) := by decide +kernel
theorem dX9_hasFine_73 : decode cX9_hasFine 73 = .ok (.ireturn, 1) := by decide +kernel
theorem dX9_gives_0 : decode cX9_gives 0 = .ok (.aload_n 0, 1) := by decide +kernel
theorem dX9_gives_1 : decode cX9_gives 1 = .ok (.getfield 101, 3) := by decide +kernel
theorem dX9_gives_4 : decode cX9_gives 4 = .ok (.aload_n 0, 1) := by decide +kernel
theorem dX9_gives_5 : decode cX9_gives 5 = .ok (.getfield 251, 3) := by decide +kernel
theorem dX9_gives_8 : decode cX9_gives 8 = .ok (.iload_n 1, 1) := by decide +kernel
theorem dX9_gives_9 : decode cX9_gives 9 = .ok (.iastore, 1) := by decide +kernel
theorem dX9_gives_10 : decode cX9_gives 10 = .ok (.aload_n 0, 1) := by decide +kernel
theorem dX9_gives_11 : decode cX9_gives 11 = .ok (.getfield 104, 3) := by decide +kernel
theorem dX9_gives_14 : decode cX9_gives 14 = .ok (.aload_n 0, 1) := by decide +kernel
theorem dX9_gives_15 : decode cX9_gives 15 = .ok (.getfield 251, 3) := by decide +kernel
theorem dX9_gives_18 : decode cX9_gives 18 = .ok (.aload_n 0, 1) := by decide +kernel
theorem dX9_gives_19 : decode cX9_gives 19 = .ok (.getfield 62, 3) := by decide +kernel
theorem dX9_gives_22 : decode cX9_gives 22 = .ok (.iload_n 1, 1) := by decide +kernel
theorem dX9_gives_23 : decode cX9_gives 23 = .ok (.iaload, 1) := by decide +kernel
theorem dX9_gives_24 : decode cX9_gives 24 = .ok (.iastore, 1) := by decide +kernel
theorem dX9_gives_25 : decode cX9_gives 25 = .ok (.aload_n 0, 1) := by decide +kernel
theorem dX9_gives_26 : decode cX9_gives 26 = .ok (.getfield 107, 3) := by decide +kernel
theorem dX9_gives_29 : decode cX9_gives 29 = .ok (.aload_n 0, 1) := by decide +kernel
theorem dX9_gives_30 : decode cX9_gives 30 = .ok (.getfield 251, 3) := by decide +kernel
theorem dX9_gives_33 : decode cX9_gives 33 = .ok (.aload_n 0, 1) := by decide +kernel
theorem dX9_gives_34 : decode cX9_gives 34 = .ok (.getfield 65, 3) := by decide +kernel
theorem dX9_gives_37 : decode cX9_gives 37 = .ok (.iload_n 1, 1) := by decide +kernel
theorem dX9_gives_38 : decode cX9_gives 38 = .ok (.iaload, 1) := by decide +kernel
theorem dX9_gives_39 : decode cX9_gives 39 = .ok (.iastore, 1) := by decide +kernel
theorem dX9_gives_40 : decode cX9_gives 40 = .ok (.aload_n 0, 1) := by decide +kernel
theorem dX9_gives_41 : decode cX9_gives 41 = .ok (.getfield 110, 3) := by decide +kernel
theorem dX9_gives_44 : decode cX9_gives 44 = .ok (.aload_n 0, 1) := by decide +kernel
theorem dX9_gives_45 : decode cX9_gives 45 = .ok (.getfield 251, 3) := by decide +kernel
theorem dX9_gives_48 : decode cX9_gives 48 = .ok (.aload_n 0, 1) := by decide +kernel
theorem dX9_gives_49 : decode cX9_gives 49 = .ok (.getfield 68, 3) := by decide +kernel
theorem dX9_gives_52 : decode cX9_gives 52 = .ok (.iload_n 1, 1) := by decide +kernel
theorem dX9_gives_53 : decode cX9_gives 53 = .ok (.iaload, 1) := by decide +kernel
theorem dX9_gives_54 : decode cX9_gives 54 = .ok (.iastore, 1) := by decide +kernel
theorem dX9_gives_55 : decode cX9_gives 55 = .ok (.aload_n 0, 1) := by decide +kernel
theorem dX9_gives_56 : decode cX9_gives 56 = .ok (.getfield 113, 3) := by decide +kernel
theorem dX9_gives_59 : decode cX9_gives 59 = .ok (.aload_n 0, 1) := by decide +kernel
theorem dX9_gives_60 : decode cX9_gives 60 = .ok (.getfield 251, 3) := by decide +kernel
theorem dX9_gives_63 : decode cX9_gives 63 = .ok (.aload_n 0, 1) := by decide +kernel
theorem dX9_gives_64 : decode cX9_gives 64 = .ok (.getfield 71, 3) := by decide +kernel
theorem dX9_gives_67 : decode cX9_gives 67 = .ok (.iload_n 1, 1) := by decide +kernel
theorem dX9_gives_68 : decode cX9_gives 68 = .ok (.iaload, 1) := by decide +kernel
theorem dX9_gives_69 : decode cX9_gives 69 = .ok (.iastore, 1) := by decide +kernel
theorem dX9_gives_70 : decode cX9_gives 70 = .ok (.aload_n 0, 1) := by decide +kernel
theorem dX9_gives_71 : decode cX9_gives 71 = .ok (.getfield 116, 3) := by decide +kernel
theorem dX9_gives_74 : decode cX9_gives 74 = .ok (.aload_n 0, 1) := by decide +kernel
theorem dX9_gives_75 : decode cX9_gives 75 = .ok (.getfield 251, 3) := by decide +kernel
theorem dX9_gives_78 : decode cX9_gives 78 = .ok (.aload_n 0, 1) := by decide +kernel
theorem dX9_gives_79 : decode cX9_gives 79 = .ok (.getfield 189, 3) := by decide +kernel
theorem dX9_gives_82 : decode cX9_gives 82 = .ok (.iastore, 1) := by decide +kernel
theorem dX9_gives_83 : decode cX9_gives 83 = .ok (.aload_n 0, 1) := by decide +kernel
theorem dX9_gives_84 : decode cX9_gives 84 = .ok (.getfield 119, 3) := by decide +kernel
theorem dX9_gives_87 : decode cX9_gives 87 = .ok (.aload_n 0, 1) := by decide +kernel
theorem dX9_gives_88 : decode cX9_gives 88 = .ok (.getfield 251, 3) := by decide +kernel
theorem dX9_gives_91 : decode cX9_gives 91 = .ok (.iload_n 2, 1) := by decide +kernel
theorem dX9_gives_92 : decode cX9_gives 92 = .ok (.iastore, 1) := by decide +kernel
theorem dX9_gives_93 : decode cX9_gives 93 = .ok (.aload_n 0, 1) := by decide +kernel
theorem dX9_gives_94 : decode cX9_gives 94 = .ok (.getfield 122, 3) := by decide +kernel
theorem dX9_gives_97 : decode cX9_gives 97 = .ok (.aload_n 0, 1) := by decide +kernel
theorem dX9_gives_98 : decode cX9_gives 98 = .ok (.getfield 251, 3) := by decide +kernel
theorem dX9_gives_101 : decode cX9_gives 101 = .ok (.iload_n 2, 1) := by decide +kernel
theorem dX9_gives_102 : decode cX9_gives 102 = .ok (.iconst 1, 1) := by decide +kernel
theorem dX9_gives_103 : decode cX9_gives 103 = .ok (.if_icmp .ne 7, 3) := by decide +kernel
theorem dX9_gives_106 : decode cX9_gives 106 = .ok (.iconst 1, 1) := by decide +kernel
theorem dX9_gives_107 : decode cX9_gives 107 = .ok (.goto 4, 3) := by decide +kernel
theorem dX9_gives_110 : decode cX9_gives 110 = .ok (.iconst 0, 1) := by decide +kernel
theorem dX9_gives_111 : decode cX9_gives 111 = .ok (.bastore, 1) := by decide +kernel
theorem dX9_gives_112 : decode cX9_gives 112 = .ok (.aload_n 0, 1) := by decide +kernel
theorem dX9_gives_113 : decode cX9_gives 113 = .ok (.getfield 140, 3) := by decide +kernel
theorem dX9_gives_116 : decode cX9_gives 116 = .ok (.aload_n 0, 1) := by decide +kernel
theorem dX9_gives_117 : decode cX9_gives 117 = .ok (.getfield 62, 3) := by decide +kernel
theorem dX9_gives_120 : decode cX9_gives 120 = .ok (.iload_n 1, 1) := by decide +kernel
theorem dX9_gives_121 : decode cX9_gives 121 = .ok (.iaload, 1) := by decide +kernel
theorem dX9_gives_122 : decode cX9_gives 122 = .ok (.dup2, 1) := by decide +kernel
theorem dX9_gives_123 : decode cX9_gives 123 = .ok (.iaload, 1) := by decide +kernel
theorem dX9_gives_124 : decode cX9_gives 124 = .ok (.iconst 1, 1) := by decide +kernel
theorem dX9_gives_125 : decode cX9_gives 125 = .ok (.iadd, 1) := by decide +kernel
theorem dX9_gives_126 : decode cX9_gives 126 = .ok (.iastore, 1) := by decide +kernel
theorem dX9_gives_127 : decode cX9_gives 127 = .ok (.aload_n 0, 1) := by decide +kernel
theorem dX9_gives_128 : decode cX9_gives 128 = .ok (.dup, 1) := by decide +kernel
theorem dX9_gives_129 : decode cX9_gives 129 = .ok (.getfield 251, 3) := by decide +kernel
theorem dX9_gives_132 : decode cX9_gives 132 = .ok (.iconst 1, 1) := by decide +kernel
theorem dX9_gives_133 : decode cX9_gives 133 = .ok (.iadd, 1) := by decide +kernel
theorem dX9_gives_134 : decode cX9_gives 134 = .ok (.putfield 251, 3) := by decide +kernel
theorem dX9_gives_137 : decode cX9_gives 137 = .ok (.return_, 1) := by decide +kernel
theorem dX9_look_0 : decode cX9_look 0 = .ok (.aload_n 0, 1) := by decide +kernel
theorem dX9_look_1 : decode cX9_look 1 = .ok (.iload_n 1, 1) := by decide +kernel
theorem dX9_look_2 : decode cX9_look 2 = .ok (.invokestatic 160, 3) := by decide +kernel
theorem dX9_look_5 : decode cX9_look 5 = .ok (.iconst 1, 1) := by decide +kernel
theorem dX9_look_6 : decode cX9_look 6 = .ok (.iconst 1, 1) := by decide +kernel
theorem dX9_look_7 : decode cX9_look 7 = .ok (.invokevirtual 167, 3) := by decide +kernel
theorem dX9_look_10 : decode cX9_look 10 = .ok (.ifCond .ne 5, 3) := by decide +kernel
theorem dX9_look_13 : decode cX9_look 13 = .ok (.iconst 0, 1) := by decide +kernel
theorem dX9_look_14 : decode cX9_look 14 = .ok (.ireturn, 1) := by decide +kernel
theorem dX9_look_15 : decode cX9_look 15 = .ok (.aload_n 0, 1) := by decide +kernel
theorem dX9_look_16 : decode cX9_look 16 = .ok (.getfield 251, 3) := by decide +kernel
theorem dX9_look_19 : decode cX9_look 19 = .ok (.istore_n 2, 1) := by decide +kernel
theorem dX9_look_20 : decode cX9_look 20 = .ok (.iconst 0, 1) := by decide +kernel
theorem dX9_look_21 : decode cX9_look 21 = .ok (.istore_n 3, 1) := by decide +kernel
theorem dX9_look_22 : decode cX9_look 22 = .ok (.iload_n 3, 1) := by decide +kernel
theorem dX9_look_23 : decode cX9_look 23 = .ok (.aload_n 0, 1) := by decide +kernel
theorem dX9_look_24 : decode cX9_look 24 = .ok (.getfield 157, 3) := by decide +kernel
theorem dX9_look_27 : decode cX9_look 27 = .ok (.if_icmp .ge 55, 3) := by decide +kernel
theorem dX9_look_30 : decode cX9_look 30 = .ok (.aload_n 0, 1) := by decide +kernel
theorem dX9_look_31 : decode cX9_look 31 = .ok (.getfield 62, 3) := by decide +kernel
theorem dX9_look_34 : decode cX9_look 34 = .ok (.iload_n 3, 1) := by decide +kernel
theorem dX9_look_35 : decode cX9_look 35 = .ok (.iaload, 1) := by decide +kernel
theorem dX9_look_36 : decode cX9_look 36 = .ok (.iload_n 1, 1) := by decide +kernel
theorem dX9_look_37 : decode cX9_look 37 = .ok (.if_icmp .ne 39, 3) := by decide +kernel
theorem dX9_look_40 : decode cX9_look 40 = .ok (.aload_n 0, 1) := by decide +kernel
theorem dX9_look_41 : decode cX9_look 41 = .ok (.getfield 251, 3) := by decide +kernel
theorem dX9_look_44 : decode cX9_look 44 = .ok (.bipush 60, 2) := by decide +kernel
theorem dX9_look_46 : decode cX9_look 46 = .ok (.if_icmp .ge 30, 3) := by decide +kernel
theorem dX9_look_49 : decode cX9_look 49 = .ok (.aload_n 0, 1) := by decide +kernel
theorem dX9_look_50 : decode cX9_look 50 = .ok (.iload_n 3, 1) := by decide +kernel
theorem dX9_look_51 : decode cX9_look 51 = .ok (.invokevirtual 254, 3) := by decide +kernel
theorem dX9_look_54 : decode cX9_look 54 = .ok (.ifCond .ne 22, 3) := by decide +kernel
theorem dX9_look_57 : decode cX9_look 57 = .ok (.aload_n 0, 1) := by decide +kernel
theorem dX9_look_58 : decode cX9_look 58 = .ok (.iload_n 3, 1) := by decide +kernel
theorem dX9_look_59 : decode cX9_look 59 = .ok (.invokevirtual 247, 3) := by decide +kernel
theorem dX9_look_62 : decode cX9_look 62 = .ok (.istore 4, 2) := by decide +kernel
theorem dX9_look_64 : decode cX9_look 64 = .ok (.iload 4, 2) := by decide +kernel
theorem dX9_look_66 : decode cX9_look 66 = .ok (.ifCond .eq 10, 3) := by decide +kernel
theorem dX9_look_69 : decode cX9_look 69 = .ok (.aload_n 0, 1) := by decide +kernel
theorem dX9_look_70 : decode cX9_look 70 = .ok (.iload_n 3, 1) := by decide +kernel
theorem dX9_look_71 : decode cX9_look 71 = .ok (.iload 4, 2) := by decide +kernel
theorem dX9_look_73 : decode cX9_look 73 = .ok (.invokevirtual 257, 3) := by decide +kernel
theorem dX9_look_76 : decode cX9_look 76 = .ok (.iinc 3 1, 3) := by decide +kernel
theorem dX9_look_79 : decode cX9_look 79 = .ok (.goto (-57), 3) := by decide +kernel
theorem dX9_look_82 : decode cX9_look 82 = .ok (.aload_n 0, 1) := by decide +kernel
theorem dX9_look_83 : decode cX9_look 83 = .ok (.getfield 251, 3) := by decide +kernel
theorem dX9_look_86 : decode cX9_look 86 = .ok (.iload_n 2, 1) := by decide +kernel
theorem dX9_look_87 : decode cX9_look 87 = .ok (.isub, 1) := by decide +kernel
theorem dX9_look_88 : decode cX9_look 88 = .ok (.ireturn, 1) := by decide +kernel
theorem dX9_isFine_0 : decode cX9_isFine 0 = .ok (.iload_n 1, 1) := by decide +kernel
theorem dX9_isFine_1 : decode cX9_isFine 1 = .ok (.iconst 0, 1) := by decide +kernel
theorem dX9_isFine_2 : decode cX9_isFine 2 = .ok (.aload_n 0, 1) := by decide +kernel
theorem dX9_isFine_3 : decode cX9_isFine 3 = .ok (.getfield 251, 3) := by decide +kernel
theorem dX9_isFine_6 : decode cX9_isFine 6 = .ok (.iconst 1, 1) := by decide +kernel
theorem dX9_isFine_7 : decode cX9_isFine 7 = .ok (.isub, 1) := by decide +kernel
theorem dX9_isFine_8 : decode cX9_isFine 8 = .ok (.invokestatic 153, 3) := by decide +kernel
theorem dX9_isFine_11 : decode cX9_isFine 11 = .ok (.ireturn, 1) := by decide +kernel
theorem dX9_appeal_0 : decode cX9_appeal 0 = .ok (.aload_n 0, 1) := by decide +kernel
theorem dX9_appeal_1 : decode cX9_appeal 1 = .ok (.iload_n 1, 1) := by decide +kernel
theorem dX9_appeal_2 : decode cX9_appeal 2 = .ok (.invokevirtual 261, 3) := by decide +kernel
theorem dX9_appeal_5 : decode cX9_appeal 5 = .ok (.istore_n 2, 1) := by decide +kernel
theorem dX9_appeal_6 : decode cX9_appeal 6 = .ok (.aload_n 0, 1) := by decide +kernel
theorem dX9_appeal_7 : decode cX9_appeal 7 = .ok (.iload_n 2, 1) := by decide +kernel
theorem dX9_appeal_8 : decode cX9_appeal 8 = .ok (.iload_n 2, 1) := by decide +kernel
theorem dX9_appeal_9 : decode cX9_appeal 9 = .ok (.ifCond .eq 41, 3) := by decide +kernel
theorem dX9_appeal_12 : decode cX9_appeal 12 = .ok (.aload_n 0, 1) := by decide +kernel
theorem dX9_appeal_13 : decode cX9_appeal 13 = .ok (.getfield 125, 3) := by decide +kernel
theorem dX9_appeal_16 : decode cX9_appeal 16 = .ok (.iload_n 2, 1) := by decide +kernel
theorem dX9_appeal_17 : decode cX9_appeal 17 = .ok (.ifCond .eq 7, 3) := by decide +kernel
theorem dX9_appeal_20 : decode cX9_appeal 20 = .ok (.iload_n 1, 1) := by decide +kernel
theorem dX9_appeal_21 : decode cX9_appeal 21 = .ok (.goto 4, 3) := by decide +kernel
theorem dX9_appeal_24 : decode cX9_appeal 24 = .ok (.iconst 0, 1) := by decide +kernel
theorem dX9_appeal_25 : decode cX9_appeal 25 = .ok (.baload, 1) := by decide +kernel
theorem dX9_appeal_26 : decode cX9_appeal 26 = .ok (.ifCond .ne 24, 3) := by decide +kernel
theorem dX9_appeal_29 : decode cX9_appeal 29 = .ok (.aload_n 0, 1) := by decide +kernel
theorem dX9_appeal_30 : decode cX9_appeal 30 = .ok (.getfield 131, 3) := by decide +kernel
theorem dX9_appeal_33 : decode cX9_appeal 33 = .ok (.iload_n 2, 1) := by decide +kernel
theorem dX9_appeal_34 : decode cX9_appeal 34 = .ok (.ifCond .eq 7, 3) := by decide +kernel
theorem dX9_appeal_37 : decode cX9_appeal 37 = .ok (.iload_n 1, 1) := by decide +kernel
theorem dX9_appeal_38 : decode cX9_appeal 38 = .ok (.goto 4, 3) := by decide +kernel
theorem dX9_appeal_41 : decode cX9_appeal 41 = .ok (.iconst 0, 1) := by decide +kernel
theorem dX9_appeal_42 : decode cX9_appeal 42 = .ok (.baload, 1) := by decide +kernel
theorem dX9_appeal_43 : decode cX9_appeal 43 = .ok (.ifCond .ne 7, 3) := by decide +kernel
theorem dX9_appeal_46 : decode cX9_appeal 46 = .ok (.iconst 1, 1) := by decide +kernel
theorem dX9_appeal_47 : decode cX9_appeal 47 = .ok (.goto 4, 3) := by decide +kernel
theorem dX9_appeal_50 : decode cX9_appeal 50 = .ok (.iconst 0, 1) := by decide +kernel
theorem dX9_appeal_51 : decode cX9_appeal 51 = .ok (.iconst 1, 1) := by decide +kernel
theorem dX9_appeal_52 : decode cX9_appeal 52 = .ok (.invokevirtual 167, 3) := by decide +kernel
theorem dX9_appeal_55 : decode cX9_appeal 55 = .ok (.ifCond .ne 5, 3) := by decide +kernel
theorem dX9_appeal_58 : decode cX9_appeal 58 = .ok (.iconst 0, 1) := by decide +kernel
theorem dX9_appeal_59 : decode cX9_appeal 59 = .ok (.ireturn, 1) := by decide +kernel
theorem dX9_appeal_60 : decode cX9_appeal 60 = .ok (.aload_n 0, 1) := by decide +kernel
theorem dX9_appeal_61 : decode cX9_appeal 61 = .ok (.getfield 125, 3) := by decide +kernel
theorem dX9_appeal_64 : decode cX9_appeal 64 = .ok (.iload_n 1, 1) := by decide +kernel
theorem dX9_appeal_65 : decode cX9_appeal 65 = .ok (.iconst 1, 1) := by decide +kernel
theorem dX9_appeal_66 : decode cX9_appeal 66 = .ok (.bastore, 1) := by decide +kernel
theorem dX9_appeal_67 : decode cX9_appeal 67 = .ok (.aload_n 0, 1) := by decide +kernel
theorem dX9_appeal_68 : decode cX9_appeal 68 = .ok (.getfield 128, 3) := by decide +kernel
theorem dX9_appeal_71 : decode cX9_appeal 71 = .ok (.iload_n 1, 1) := by decide +kernel
theorem dX9_appeal_72 : decode cX9_appeal 72 = .ok (.aload_n 0, 1) := by decide +kernel
theorem dX9_appeal_73 : decode cX9_appeal 73 = .ok (.getfield 122, 3) := by decide +kernel
theorem dX9_appeal_76 : decode cX9_appeal 76 = .ok (.iload_n 1, 1) := by decide +kernel
theorem dX9_appeal_77 : decode cX9_appeal 77 = .ok (.baload, 1) := by decide +kernel
theorem dX9_appeal_78 : decode cX9_appeal 78 = .ok (.ifCond .ne 44, 3) := by decide +kernel
theorem dX9_appeal_81 : decode cX9_appeal 81 = .ok (.aload_n 0, 1) := by decide +kernel
theorem dX9_appeal_82 : decode cX9_appeal 82 = .ok (.aload_n 0, 1) := by decide +kernel
theorem dX9_appeal_83 : decode cX9_appeal 83 = .ok (.getfield 101, 3) := by decide +kernel
theorem dX9_appeal_86 : decode cX9_appeal 86 = .ok (.iload_n 1, 1) := by decide +kernel
theorem dX9_appeal_87 : decode cX9_appeal 87 = .ok (.iaload, 1) := by decide +kernel
theorem dX9_appeal_88 : decode cX9_appeal 88 = .ok (.aload_n 0, 1) := by decide +kernel
theorem dX9_appeal_89 : decode cX9_appeal 89 = .ok (.getfield 104, 3) := by decide +kernel
theorem dX9_appeal_92 : decode cX9_appeal 92 = .ok (.iload_n 1, 1) := by decide +kernel
theorem dX9_appeal_93 : decode cX9_appeal 93 = .ok (.iaload, 1) := by decide +kernel
theorem dX9_appeal_94 : decode cX9_appeal 94 = .ok (.aload_n 0, 1) := by decide +kernel
theorem dX9_appeal_95 : decode cX9_appeal 95 = .ok (.getfield 107, 3) := by decide +kernel
theorem dX9_appeal_98 : decode cX9_appeal 98 = .ok (.iload_n 1, 1) := by decide +kernel
theorem dX9_appeal_99 : decode cX9_appeal 99 = .ok (.iaload, 1) := by decide +kernel
theorem dX9_appeal_100 : decode cX9_appeal 100 = .ok (.aload_n 0, 1) := by decide +kernel
theorem dX9_appeal_101 : decode cX9_appeal 101 = .ok (.getfield 110, 3) := by decide +kernel
theorem dX9_appeal_104 : decode cX9_appeal 104 = .ok (.iload_n 1, 1) := by decide +kernel
theorem dX9_appeal_105 : decode cX9_appeal 105 = .ok (.iaload, 1) := by decide +kernel
theorem dX9_appeal_106 : decode cX9_appeal 106 = .ok (.aload_n 0, 1) := by decide +kernel
theorem dX9_appeal_107 : decode cX9_appeal 107 = .ok (.getfield 116, 3) := by decide +kernel
theorem dX9_appeal_110 : decode cX9_appeal 110 = .ok (.iload_n 1, 1) := by decide +kernel
theorem dX9_appeal_111 : decode cX9_appeal 111 = .ok (.iaload, 1) := by decide +kernel
theorem dX9_appeal_112 : decode cX9_appeal 112 = .ok (.invokevirtual 243, 3) := by decide +kernel
theorem dX9_appeal_115 : decode cX9_appeal 115 = .ok (.ifCond .ne 7, 3) := by decide +kernel
theorem dX9_appeal_118 : decode cX9_appeal 118 = .ok (.iconst 1, 1) := by decide +kernel
theorem dX9_appeal_119 : decode cX9_appeal 119 = .ok (.goto 4, 3) := by decide +kernel
theorem dX9_appeal_122 : decode cX9_appeal 122 = .ok (.iconst 0, 1) := by decide +kernel
theorem dX9_appeal_123 : decode cX9_appeal 123 = .ok (.bastore, 1) := by decide +kernel
theorem dX9_appeal_124 : decode cX9_appeal 124 = .ok (.aload_n 0, 1) := by decide +kernel
theorem dX9_appeal_125 : decode cX9_appeal 125 = .ok (.getfield 128, 3) := by decide +kernel
theorem dX9_appeal_128 : decode cX9_appeal 128 = .ok (.iload_n 1, 1) := by decide +kernel
theorem dX9_appeal_129 : decode cX9_appeal 129 = .ok (.baload, 1) := by decide +kernel
theorem dX9_appeal_130 : decode cX9_appeal 130 = .ok (.ireturn, 1) := by decide +kernel
theorem dX9_amount_0 : decode cX9_amount 0 = .ok (.aload_n 0, 1) := by decide +kernel
theorem dX9_amount_1 : decode cX9_amount 1 = .ok (.getfield 119, 3) := by decide +kernel
theorem dX9_amount_4 : decode cX9_amount 4 = .ok (.iload_n 1, 1) := by decide +kernel
theorem dX9_amount_5 : decode cX9_amount 5 = .ok (.iaload, 1) := by decide +kernel
theorem dX9_amount_6 : decode cX9_amount 6 = .ok (.iconst 1, 1) := by decide +kernel
theorem dX9_amount_7 : decode cX9_amount 7 = .ok (.if_icmp .ne 8, 3) := by decide +kernel
theorem dX9_amount_10 : decode cX9_amount 10 = .ok (.bipush 100, 2) := by decide +kernel
theorem dX9_amount_12 : decode cX9_amount 12 = .ok (.goto 35, 3) := by decide +kernel
theorem dX9_amount_15 : decode cX9_amount 15 = .ok (.aload_n 0, 1) := by decide +kernel
theorem dX9_amount_16 : decode cX9_amount 16 = .ok (.getfield 119, 3) := by decide +kernel
theorem dX9_amount_19 : decode cX9_amount 19 = .ok (.iload_n 1, 1) := by decide +kernel
theorem dX9_amount_20 : decode cX9_amount 20 = .ok (.iaload, 1) := by decide +kernel
theorem dX9_amount_21 : decode cX9_amount 21 = .ok (.iconst 2, 1) := by decide +kernel
theorem dX9_amount_22 : decode cX9_amount 22 = .ok (.if_icmp .ne 8, 3) := by decide +kernel
theorem dX9_amount_25 : decode cX9_amount 25 = .ok (.bipush 60, 2) := by decide +kernel
theorem dX9_amount_27 : decode cX9_amount 27 = .ok (.goto 20, 3) := by decide +kernel
theorem dX9_amount_30 : decode cX9_amount 30 = .ok (.aload_n 0, 1) := by decide +kernel
theorem dX9_amount_31 : decode cX9_amount 31 = .ok (.getfield 119, 3) := by decide +kernel
theorem dX9_amount_34 : decode cX9_amount 34 = .ok (.iload_n 1, 1) := by decide +kernel
theorem dX9_amount_35 : decode cX9_amount 35 = .ok (.iaload, 1) := by decide +kernel
theorem dX9_amount_36 : decode cX9_amount 36 = .ok (.iconst 3, 1) := by decide +kernel
theorem dX9_amount_37 : decode cX9_amount 37 = .ok (.if_icmp .ne 8, 3) := by decide +kernel
theorem dX9_amount_40 : decode cX9_amount 40 = .ok (.bipush 30, 2) := by decide +kernel
theorem dX9_amount_42 : decode cX9_amount 42 = .ok (.goto 5, 3) := by decide +kernel
theorem dX9_amount_45 : decode cX9_amount 45 = .ok (.bipush 40, 2) := by decide +kernel
theorem dX9_amount_47 : decode cX9_amount 47 = .ok (.ireturn, 1) := by decide +kernel
theorem dX9_payFine_0 : decode cX9_payFine 0 = .ok (.aload_n 0, 1) := by decide +kernel
theorem dX9_payFine_1 : decode cX9_payFine 1 = .ok (.iload_n 1, 1) := by decide +kernel
theorem dX9_payFine_2 : decode cX9_payFine 2 = .ok (.invokevirtual 261, 3) := by decide +kernel
theorem dX9_payFine_5 : decode cX9_payFine 5 = .ok (.istore_n 2, 1) := by decide +kernel
theorem dX9_payFine_6 : decode cX9_payFine 6 = .ok (.aload_n 0, 1) := by decide +kernel
theorem dX9_payFine_7 : decode cX9_payFine 7 = .ok (.iload_n 2, 1) := by decide +kernel
theorem dX9_payFine_8 : decode cX9_payFine 8 = .ok (.iload_n 2, 1) := by decide +kernel
theorem dX9_payFine_9 : decode cX9_payFine 9 = .ok (.ifCond .eq 41, 3) := by decide +kernel
theorem dX9_payFine_12 : decode cX9_payFine 12 = .ok (.aload_n 0, 1) := by decide +kernel
theorem dX9_payFine_13 : decode cX9_payFine 13 = .ok (.getfield 131, 3) := by decide +kernel
theorem dX9_payFine_16 : decode cX9_payFine 16 = .ok (.iload_n 2, 1) := by decide +kernel
theorem dX9_payFine_17 : decode cX9_payFine 17 = .ok (.ifCond .eq 7, 3) := by decide +kernel
theorem dX9_payFine_20 : decode cX9_payFine 20 = .ok (.iload_n 1, 1) := by decide +kernel
theorem dX9_payFine_21 : decode cX9_payFine 21 = .ok (.goto 4, 3) := by decide +kernel
theorem dX9_payFine_24 : decode cX9_payFine 24 = .ok (.iconst 0, 1) := by decide +kernel
theorem dX9_payFine_25 : decode cX9_payFine 25 = .ok (.baload, 1) := by decide +kernel
theorem dX9_payFine_26 : decode cX9_payFine 26 = .ok (.ifCond .ne 24, 3) := by decide +kernel
theorem dX9_payFine_29 : decode cX9_payFine 29 = .ok (.aload_n 0, 1) := by decide +kernel
theorem dX9_payFine_30 : decode cX9_payFine 30 = .ok (.getfield 128, 3) := by decide +kernel
theorem dX9_payFine_33 : decode cX9_payFine 33 = .ok (.iload_n 2, 1) := by decide +kernel
theorem dX9_payFine_34 : decode cX9_payFine 34 = .ok (.ifCond .eq 7, 3) := by decide +kernel
theorem dX9_payFine_37 : decode cX9_payFine 37 = .ok (.iload_n 1, 1) := by decide +kernel
theorem dX9_payFine_38 : decode cX9_payFine 38 = .ok (.goto 4, 3) := by decide +kernel
theorem dX9_payFine_41 : decode cX9_payFine 41 = .ok (.iconst 0, 1) := by decide +kernel
theorem dX9_payFine_42 : decode cX9_payFine 42 = .ok (.baload, 1) := by decide +kernel
theorem dX9_payFine_43 : decode cX9_payFine 43 = .ok (.ifCond .ne 7, 3) := by decide +kernel
theorem dX9_payFine_46 : decode cX9_payFine 46 = .ok (.iconst 1, 1) := by decide +kernel
theorem dX9_payFine_47 : decode cX9_payFine 47 = .ok (.goto 4, 3) := by decide +kernel
theorem dX9_payFine_50 : decode cX9_payFine 50 = .ok (.iconst 0, 1) := by decide +kernel
theorem dX9_payFine_51 : decode cX9_payFine 51 = .ok (.iconst 1, 1) := by decide +kernel
theorem dX9_payFine_52 : decode cX9_payFine 52 = .ok (.invokevirtual 167, 3) := by decide +kernel
theorem dX9_payFine_55 : decode cX9_payFine 55 = .ok (.ifCond .ne 5, 3) := by decide +kernel
theorem dX9_payFine_58 : decode cX9_payFine 58 = .ok (.iconst 0, 1) := by decide +kernel
theorem dX9_payFine_59 : decode cX9_payFine 59 = .ok (.ireturn, 1) := by decide +kernel
theorem dX9_payFine_60 : decode cX9_payFine 60 = .ok (.aload_n 0, 1) := by decide +kernel
theorem dX9_payFine_61 : decode cX9_payFine 61 = .ok (.getfield 131, 3) := by decide +kernel
theorem dX9_payFine_64 : decode cX9_payFine 64 = .ok (.iload_n 1, 1) := by decide +kernel
theorem dX9_payFine_65 : decode cX9_payFine 65 = .ok (.iconst 1, 1) := by decide +kernel
theorem dX9_payFine_66 : decode cX9_payFine 66 = .ok (.bastore, 1) := by decide +kernel
theorem dX9_payFine_67 : decode cX9_payFine 67 = .ok (.aload_n 0, 1) := by decide +kernel
theorem dX9_payFine_68 : decode cX9_payFine 68 = .ok (.iload_n 1, 1) := by decide +kernel
theorem dX9_payFine_69 : decode cX9_payFine 69 = .ok (.invokevirtual 264, 3) := by decide +kernel
theorem dX9_payFine_72 : decode cX9_payFine 72 = .ok (.ireturn, 1) := by decide +kernel
theorem dX9_fine_0 : decode cX9_fine 0 = .ok (.aload_n 0, 1) := by decide +kernel
theorem dX9_fine_1 : decode cX9_fine 1 = .ok (.aload_n 0, 1) := by decide +kernel
theorem dX9_fine_2 : decode cX9_fine 2 = .ok (.iload_n 1, 1) := by decide +kernel
theorem dX9_fine_3 : decode cX9_fine 3 = .ok (.invokevirtual 261, 3) := by decide +kernel
theorem dX9_fine_6 : decode cX9_fine 6 = .ok (.iload_n 2, 1) := by decide +kernel
theorem dX9_fine_7 : decode cX9_fine 7 = .ok (.iconst 0, 1) := by decide +kernel
theorem dX9_fine_8 : decode cX9_fine 8 = .ok (.iconst 5, 1) := by decide +kernel
theorem dX9_fine_9 : decode cX9_fine 9 = .ok (.invokestatic 153, 3) := by decide +kernel
theorem dX9_fine_12 : decode cX9_fine 12 = .ok (.iconst 1, 1) := by decide +kernel
theorem dX9_fine_13 : decode cX9_fine 13 = .ok (.invokevirtual 167, 3) := by decide +kernel
theorem dX9_fine_16 : decode cX9_fine 16 = .ok (.ifCond .ne 5, 3) := by decide +kernel
theorem dX9_fine_19 : decode cX9_fine 19 = .ok (.iconst 0, 1) := by decide +kernel
theorem dX9_fine_20 : decode cX9_fine 20 = .ok (.ireturn, 1) := by decide +kernel
theorem dX9_fine_21 : decode cX9_fine 21 = .ok (.iload_n 2, 1) := by decide +kernel
theorem dX9_fine_22 : decode cX9_fine 22 = .ok (.ifCond .ne 12, 3) := by decide +kernel
theorem dX9_fine_25 : decode cX9_fine 25 = .ok (.aload_n 0, 1) := by decide +kernel
theorem dX9_fine_26 : decode cX9_fine 26 = .ok (.getfield 101, 3) := by decide +kernel
theorem dX9_fine_29 : decode cX9_fine 29 = .ok (.iload_n 1, 1) := by decide +kernel
theorem dX9_fine_30 : decode cX9_fine 30 = .ok (.iaload, 1) := by decide +kernel
theorem dX9_fine_31 : decode cX9_fine 31 = .ok (.goto 76, 3) := by decide +kernel
theorem dX9_fine_34 : decode cX9_fine 34 = .ok (.iload_n 2, 1) := by decide +kernel
theorem dX9_fine_35 : decode cX9_fine 35 = .ok (.iconst 1, 1) := by decide +kernel
theorem dX9_fine_36 : decode cX9_fine 36 = .ok (.if_icmp .ne 12, 3) := by decide +kernel
theorem dX9_fine_39 : decode cX9_fine 39 = .ok (.aload_n 0, 1) := by decide +kernel
theorem dX9_fine_40 : decode cX9_fine 40 = .ok (.getfield 104, 3) := by decide +kernel
theorem dX9_fine_43 : decode cX9_fine 43 = .ok (.iload_n 1, 1) := by decide +kernel
theorem dX9_fine_44 : decode cX9_fine 44 = .ok (.iaload, 1) := by decide +kernel
theorem dX9_fine_45 : decode cX9_fine 45 = .ok (.goto 62, 3) := by decide +kernel
theorem dX9_fine_48 : decode cX9_fine 48 = .ok (.iload_n 2, 1) := by decide +kernel
theorem dX9_fine_49 : decode cX9_fine 49 = .ok (.iconst 2, 1) := by decide +kernel
theorem dX9_fine_50 : decode cX9_fine 50 = .ok (.if_icmp .ne 12, 3) := by decide +kernel
theorem dX9_fine_53 : decode cX9_fine 53 = .ok (.aload_n 0, 1) := by decide +kernel
theorem dX9_fine_54 : decode cX9_fine 54 = .ok (.getfield 116, 3) := by decide +kernel
theorem dX9_fine_57 : decode cX9_fine 57 = .ok (.iload_n 1, 1) := by decide +kernel
theorem dX9_fine_58 : decode cX9_fine 58 = .ok (.iaload, 1) := by decide +kernel
theorem dX9_fine_59 : decode cX9_fine 59 = .ok (.goto 48, 3) := by decide +kernel
theorem dX9_fine_62 : decode cX9_fine 62 = .ok (.iload_n 2, 1) := by decide +kernel
theorem dX9_fine_63 : decode cX9_fine 63 = .ok (.iconst 3, 1) := by decide +kernel
theorem dX9_fine_64 : decode cX9_fine 64 = .ok (.if_icmp .ne 12, 3) := by decide +kernel
theorem dX9_fine_67 : decode cX9_fine 67 = .ok (.aload_n 0, 1) := by decide +kernel
theorem dX9_fine_68 : decode cX9_fine 68 = .ok (.getfield 119, 3) := by decide +kernel
theorem dX9_fine_71 : decode cX9_fine 71 = .ok (.iload_n 1, 1) := by decide +kernel
theorem dX9_fine_72 : decode cX9_fine 72 = .ok (.iaload, 1) := by decide +kernel
theorem dX9_fine_73 : decode cX9_fine 73 = .ok (.goto 34, 3) := by decide +kernel
theorem dX9_fine_76 : decode cX9_fine 76 = .ok (.iload_n 2, 1) := by decide +kernel
theorem dX9_fine_77 : decode cX9_fine 77 = .ok (.iconst 4, 1) := by decide +kernel
theorem dX9_fine_78 : decode cX9_fine 78 = .ok (.if_icmp .ne 15, 3) := by decide +kernel
theorem dX9_fine_81 : decode cX9_fine 81 = .ok (.aload_n 0, 1) := by decide +kernel
theorem dX9_fine_82 : decode cX9_fine 82 = .ok (.getfield 128, 3) := by decide +kernel
theorem dX9_fine_85 : decode cX9_fine 85 = .ok (.iload_n 1, 1) := by decide +kernel
theorem dX9_fine_86 : decode cX9_fine 86 = .ok (.baload, 1) := by decide +kernel
theorem dX9_fine_87 : decode cX9_fine 87 = .ok (.ifCond .eq 19, 3) := by decide +kernel
theorem dX9_fine_90 : decode cX9_fine 90 = .ok (.goto 12, 3) := by decide +kernel
theorem dX9_fine_93 : decode cX9_fine 93 = .ok (.aload_n 0, 1) := by decide +kernel
theorem dX9_fine_94 : decode cX9_fine 94 = .ok (.getfield 131, 3) := by decide +kernel
theorem dX9_fine_97 : decode cX9_fine 97 = .ok (.iload_n 1, 1) := by decide +kernel
theorem dX9_fine_98 : decode cX9_fine 98 = .ok (.baload, 1) := by decide +kernel
theorem dX9_fine_99 : decode cX9_fine 99 = .ok (.ifCond .eq 7, 3) := by decide +kernel
theorem dX9_fine_102 : decode cX9_fine 102 = .ok (.iconst 1, 1) := by decide +kernel
theorem dX9_fine_103 : decode cX9_fine 103 = .ok (.goto 4, 3) := by decide +kernel
theorem dX9_fine_106 : decode cX9_fine 106 = .ok (.iconst 0, 1) := by decide +kernel
theorem dX9_fine_107 : decode cX9_fine 107 = .ok (.ireturn, 1) := by decide +kernel
theorem dX9_debtOf_0 : decode cX9_debtOf 0 = .ok (.iconst 0, 1) := by decide +kernel
theorem dX9_debtOf_1 : decode cX9_debtOf 1 = .ok (.istore_n 2, 1) := by decide +kernel
theorem dX9_debtOf_2 : decode cX9_debtOf 2 = .ok (.iconst 0, 1) := by decide +kernel
theorem dX9_debtOf_3 : decode cX9_debtOf 3 = .ok (.istore_n 3, 1) := by decide +kernel
theorem dX9_debtOf_4 : decode cX9_debtOf 4 = .ok (.iload_n 3, 1) := by decide +kernel
theorem dX9_debtOf_5 : decode cX9_debtOf 5 = .ok (.aload_n 0, 1) := by decide +kernel
theorem dX9_debtOf_6 : decode cX9_debtOf 6 = .ok (.getfield 251, 3) := by decide +kernel
theorem dX9_debtOf_9 : decode cX9_debtOf 9 = .ok (.if_icmp .ge 49, 3) := by decide +kernel
theorem dX9_debtOf_12 : decode cX9_debtOf 12 = .ok (.iload_n 2, 1) := by decide +kernel
theorem dX9_debtOf_13 : decode cX9_debtOf 13 = .ok (.aload_n 0, 1) := by decide +kernel
theorem dX9_debtOf_14 : decode cX9_debtOf 14 = .ok (.getfield 101, 3) := by decide +kernel
theorem dX9_debtOf_17 : decode cX9_debtOf 17 = .ok (.iload_n 3, 1) := by decide +kernel
theorem dX9_debtOf_18 : decode cX9_debtOf 18 = .ok (.iaload, 1) := by decide +kernel
theorem dX9_debtOf_19 : decode cX9_debtOf 19 = .ok (.iload_n 1, 1) := by decide +kernel
theorem dX9_debtOf_20 : decode cX9_debtOf 20 = .ok (.if_icmp .ne 29, 3) := by decide +kernel
theorem dX9_debtOf_23 : decode cX9_debtOf 23 = .ok (.aload_n 0, 1) := by decide +kernel
theorem dX9_debtOf_24 : decode cX9_debtOf 24 = .ok (.getfield 131, 3) := by decide +kernel
theorem dX9_debtOf_27 : decode cX9_debtOf 27 = .ok (.iload_n 3, 1) := by decide +kernel
theorem dX9_debtOf_28 : decode cX9_debtOf 28 = .ok (.baload, 1) := by decide +kernel
theorem dX9_debtOf_29 : decode cX9_debtOf 29 = .ok (.ifCond .ne 20, 3) := by decide +kernel
theorem dX9_debtOf_32 : decode cX9_debtOf 32 = .ok (.aload_n 0, 1) := by decide +kernel
theorem dX9_debtOf_33 : decode cX9_debtOf 33 = .ok (.getfield 128, 3) := by decide +kernel
theorem dX9_debtOf_36 : decode cX9_debtOf 36 = .ok (.iload_n 3, 1) := by decide +kernel
theorem dX9_debtOf_37 : decode cX9_debtOf 37 = .ok (.baload, 1) := by decide +kernel
theorem dX9_debtOf_38 : decode cX9_debtOf 38 = .ok (.ifCond .ne 11, 3) := by decide +kernel
theorem dX9_debtOf_41 : decode cX9_debtOf 41 = .ok (.aload_n 0, 1) := by decide +kernel
theorem dX9_debtOf_42 : decode cX9_debtOf 42 = .ok (.iload_n 3, 1) := by decide +kernel
theorem dX9_debtOf_43 : decode cX9_debtOf 43 = .ok (.invokevirtual 264, 3) := by decide +kernel
theorem dX9_debtOf_46 : decode cX9_debtOf 46 = .ok (.goto 4, 3) := by decide +kernel
theorem dX9_debtOf_49 : decode cX9_debtOf 49 = .ok (.iconst 0, 1) := by decide +kernel
theorem dX9_debtOf_50 : decode cX9_debtOf 50 = .ok (.iadd, 1) := by decide +kernel
theorem dX9_debtOf_51 : decode cX9_debtOf 51 = .ok (.istore_n 2, 1) := by decide +kernel
theorem dX9_debtOf_52 : decode cX9_debtOf 52 = .ok (.iinc 3 1, 3) := by decide +kernel
theorem dX9_debtOf_55 : decode cX9_debtOf 55 = .ok (.goto (-51), 3) := by decide +kernel
theorem dX9_debtOf_58 : decode cX9_debtOf 58 = .ok (.iload_n 2, 1) := by decide +kernel
theorem dX9_debtOf_59 : decode cX9_debtOf 59 = .ok (.ireturn, 1) := by decide +kernel
theorem dX9_debt_0 : decode cX9_debt 0 = .ok (.aload_n 0, 1) := by decide +kernel
theorem dX9_debt_1 : decode cX9_debt 1 = .ok (.aload_n 0, 1) := by decide +kernel
theorem dX9_debt_2 : decode cX9_debt 2 = .ok (.iload_n 1, 1) := by decide +kernel
theorem dX9_debt_3 : decode cX9_debt 3 = .ok (.invokevirtual 219, 3) := by decide +kernel
theorem dX9_debt_6 : decode cX9_debt 6 = .ok (.iconst 1, 1) := by decide +kernel
theorem dX9_debt_7 : decode cX9_debt 7 = .ok (.iconst 1, 1) := by decide +kernel
theorem dX9_debt_8 : decode cX9_debt 8 = .ok (.invokevirtual 167, 3) := by decide +kernel
theorem dX9_debt_11 : decode cX9_debt 11 = .ok (.ifCond .eq 11, 3) := by decide +kernel
theorem dX9_debt_14 : decode cX9_debt 14 = .ok (.aload_n 0, 1) := by decide +kernel
theorem dX9_debt_15 : decode cX9_debt 15 = .ok (.iload_n 1, 1) := by decide +kernel
theorem dX9_debt_16 : decode cX9_debt 16 = .ok (.invokevirtual 267, 3) := by decide +kernel
theorem dX9_debt_19 : decode cX9_debt 19 = .ok (.goto 4, 3) := by decide +kernel
theorem dX9_debt_22 : decode cX9_debt 22 = .ok (.iconst 0, 1) := by decide +kernel
theorem dX9_debt_23 : decode cX9_debt 23 = .ok (.ireturn, 1) := by decide +kernel
theorem dX9_tow_0 : decode cX9_tow 0 = .ok (.aload_n 0, 1) := by decide +kernel
theorem dX9_tow_1 : decode cX9_tow 1 = .ok (.iload_n 1, 1) := by decide +kernel
theorem dX9_tow_2 : decode cX9_tow 2 = .ok (.invokevirtual 219, 3) := by decide +kernel
theorem dX9_tow_5 : decode cX9_tow 5 = .ok (.istore_n 2, 1) := by decide +kernel
theorem dX9_tow_6 : decode cX9_tow 6 = .ok (.aload_n 0, 1) := by decide +kernel
theorem dX9_tow_7 : decode cX9_tow 7 = .ok (.iload_n 2, 1) := by decide +kernel
theorem dX9_tow_8 : decode cX9_tow 8 = .ok (.iload_n 2, 1) := by decide +kernel
theorem dX9_tow_9 : decode cX9_tow 9 = .ok (.ifCond .eq 36, 3) := by decide +kernel
theorem dX9_tow_12 : decode cX9_tow 12 = .ok (.aload_n 0, 1) := by decide +kernel
theorem dX9_tow_13 : decode cX9_tow 13 = .ok (.getfield 62, 3) := by decide +kernel
theorem dX9_tow_16 : decode cX9_tow 16 = .ok (.iload_n 2, 1) := by decide +kernel
theorem dX9_tow_17 : decode cX9_tow 17 = .ok (.ifCond .eq 7, 3) := by decide +kernel
theorem dX9_tow_20 : decode cX9_tow 20 = .ok (.iload_n 1, 1) := by decide +kernel
theorem dX9_tow_21 : decode cX9_tow 21 = .ok (.goto 4, 3) := by decide +kernel
theorem dX9_tow_24 : decode cX9_tow 24 = .ok (.iconst 0, 1) := by decide +kernel
theorem dX9_tow_25 : decode cX9_tow 25 = .ok (.iaload, 1) := by decide +kernel
theorem dX9_tow_26 : decode cX9_tow 26 = .ok (.iconst (-1), 1) := by decide +kernel
theorem dX9_tow_27 : decode cX9_tow 27 = .ok (.if_icmp .eq 18, 3) := by decide +kernel
theorem dX9_tow_30 : decode cX9_tow 30 = .ok (.aload_n 0, 1) := by decide +kernel
theorem dX9_tow_31 : decode cX9_tow 31 = .ok (.iload_n 1, 1) := by decide +kernel
theorem dX9_tow_32 : decode cX9_tow 32 = .ok (.invokevirtual 267, 3) := by decide +kernel
theorem dX9_tow_35 : decode cX9_tow 35 = .ok (.sipush 200, 3) := by decide +kernel
theorem dX9_tow_38 : decode cX9_tow 38 = .ok (.if_icmp .lt 7, 3) := by decide +kernel
theorem dX9_tow_41 : decode cX9_tow 41 = .ok (.iconst 1, 1) := by decide +kernel
theorem dX9_tow_42 : decode cX9_tow 42 = .ok (.goto 4, 3) := by decide +kernel
theorem dX9_tow_45 : decode cX9_tow 45 = .ok (.iconst 0, 1) := by decide +kernel
theorem dX9_tow_46 : decode cX9_tow 46 = .ok (.iconst 1, 1) := by decide +kernel
theorem dX9_tow_47 : decode cX9_tow 47 = .ok (.invokevirtual 167, 3) := by decide +kernel
theorem dX9_tow_50 : decode cX9_tow 50 = .ok (.ifCond .ne 5, 3) := by decide +kernel
theorem dX9_tow_53 : decode cX9_tow 53 = .ok (.iconst 0, 1) := by decide +kernel
theorem dX9_tow_54 : decode cX9_tow 54 = .ok (.ireturn, 1) := by decide +kernel
theorem dX9_tow_55 : decode cX9_tow 55 = .ok (.aload_n 0, 1) := by decide +kernel
theorem dX9_tow_56 : decode cX9_tow 56 = .ok (.getfield 62, 3) := by decide +kernel
theorem dX9_tow_59 : decode cX9_tow 59 = .ok (.iload_n 1, 1) := by decide +kernel
theorem dX9_tow_60 : decode cX9_tow 60 = .ok (.iconst (-1), 1) := by decide +kernel
theorem dX9_tow_61 : decode cX9_tow 61 = .ok (.iastore, 1) := by decide +kernel
theorem dX9_tow_62 : decode cX9_tow 62 = .ok (.aload_n 0, 1) := by decide +kernel
theorem dX9_tow_63 : decode cX9_tow 63 = .ok (.iload_n 1, 1) := by decide +kernel
theorem dX9_tow_64 : decode cX9_tow 64 = .ok (.invokevirtual 267, 3) := by decide +kernel
theorem dX9_tow_67 : decode cX9_tow 67 = .ok (.ireturn, 1) := by decide +kernel
theorem dX9_takenIn_0 : decode cX9_takenIn 0 = .ok (.iconst 0, 1) := by decide +kernel
theorem dX9_takenIn_1 : decode cX9_takenIn 1 = .ok (.istore_n 2, 1) := by decide +kernel
theorem dX9_takenIn_2 : decode cX9_takenIn 2 = .ok (.iconst 0, 1) := by decide +kernel
theorem dX9_takenIn_3 : decode cX9_takenIn 3 = .ok (.istore_n 3, 1) := by decide +kernel
theorem dX9_takenIn_4 : decode cX9_takenIn 4 = .ok (.iload_n 3, 1) := by decide +kernel
theorem dX9_takenIn_5 : decode cX9_takenIn 5 = .ok (.aload_n 0, 1) := by decide +kernel
theorem dX9_takenIn_6 : decode cX9_takenIn 6 = .ok (.getfield 157, 3) := by decide +kernel
theorem dX9_takenIn_9 : decode cX9_takenIn 9 = .ok (.if_icmp .ge 32, 3) := by decide +kernel
theorem dX9_takenIn_12 : decode cX9_takenIn 12 = .ok (.iload_n 2, 1) := by decide +kernel
theorem dX9_takenIn_13 : decode cX9_takenIn 13 = .ok (.aload_n 0, 1) := by decide +kernel
theorem dX9_takenIn_14 : decode cX9_takenIn 14 = .ok (.getfield 62, 3) := by decide +kernel
theorem dX9_takenIn_17 : decode cX9_takenIn 17 = .ok (.iload_n 3, 1) := by decide +kernel
theorem dX9_takenIn_18 : decode cX9_takenIn 18 = .ok (.iaload, 1) := by decide +kernel
theorem dX9_takenIn_19 : decode cX9_takenIn 19 = .ok (.iload_n 1, 1) := by decide +kernel
theorem dX9_takenIn_20 : decode cX9_takenIn 20 = .ok (.if_icmp .ne 12, 3) := by decide +kernel
theorem dX9_takenIn_23 : decode cX9_takenIn 23 = .ok (.aload_n 0, 1) := by decide +kernel
theorem dX9_takenIn_24 : decode cX9_takenIn 24 = .ok (.getfield 56, 3) := by decide +kernel
theorem dX9_takenIn_27 : decode cX9_takenIn 27 = .ok (.iload_n 3, 1) := by decide +kernel
theorem dX9_takenIn_28 : decode cX9_takenIn 28 = .ok (.iaload, 1) := by decide +kernel
theorem dX9_takenIn_29 : decode cX9_takenIn 29 = .ok (.goto 4, 3) := by decide +kernel
theorem dX9_takenIn_32 : decode cX9_takenIn 32 = .ok (.iconst 0, 1) := by decide +kernel
theorem dX9_takenIn_33 : decode cX9_takenIn 33 = .ok (.iadd, 1) := by decide +kernel
theorem dX9_takenIn_34 : decode cX9_takenIn 34 = .ok (.istore_n 2, 1) := by decide +kernel
theorem dX9_takenIn_35 : decode cX9_takenIn 35 = .ok (.iinc 3 1, 3) := by decide +kernel
theorem dX9_takenIn_38 : decode cX9_takenIn 38 = .ok (.goto (-34), 3) := by decide +kernel
theorem dX9_takenIn_41 : decode cX9_takenIn 41 = .ok (.iload_n 2, 1) := by decide +kernel
theorem dX9_takenIn_42 : decode cX9_takenIn 42 = .ok (.ireturn, 1) := by decide +kernel
theorem dX9_streetIs_0 : decode cX9_streetIs 0 = .ok (.aload_n 0, 1) := by decide +kernel
theorem dX9_streetIs_1 : decode cX9_streetIs 1 = .ok (.iload_n 1, 1) := by decide +kernel
theorem dX9_streetIs_2 : decode cX9_streetIs 2 = .ok (.invokestatic 160, 3) := by decide +kernel
theorem dX9_streetIs_5 : decode cX9_streetIs 5 = .ok (.iload_n 2, 1) := by decide +kernel
theorem dX9_streetIs_6 : decode cX9_streetIs 6 = .ok (.iconst 0, 1) := by decide +kernel
theorem dX9_streetIs_7 : decode cX9_streetIs 7 = .ok (.iconst 4, 1) := by decide +kernel
theorem dX9_streetIs_8 : decode cX9_streetIs 8 = .ok (.invokestatic 153, 3) := by decide +kernel
theorem dX9_streetIs_11 : decode cX9_streetIs 11 = .ok (.iconst 1, 1) := by decide +kernel
theorem dX9_streetIs_12 : decode cX9_streetIs 12 = .ok (.invokevirtual 167, 3) := by decide +kernel
theorem dX9_streetIs_15 : decode cX9_streetIs 15 = .ok (.ifCond .ne 5, 3) := by decide +kernel
theorem dX9_streetIs_18 : decode cX9_streetIs 18 = .ok (.iconst 0, 1) := by decide +kernel
theorem dX9_streetIs_19 : decode cX9_streetIs 19 = .ok (.ireturn, 1) := by decide +kernel
theorem dX9_streetIs_20 : decode cX9_streetIs 20 = .ok (.iload_n 2, 1) := by decide +kernel
theorem dX9_streetIs_21 : decode cX9_streetIs 21 = .ok (.ifCond .ne 12, 3) := by decide +kernel
theorem dX9_streetIs_24 : decode cX9_streetIs 24 = .ok (.aload_n 0, 1) := by decide +kernel
theorem dX9_streetIs_25 : decode cX9_streetIs 25 = .ok (.getfield 134, 3) := by decide +kernel
theorem dX9_streetIs_28 : decode cX9_streetIs 28 = .ok (.iload_n 1, 1) := by decide +kernel
theorem dX9_streetIs_29 : decode cX9_streetIs 29 = .ok (.iaload, 1) := by decide +kernel
theorem dX9_streetIs_30 : decode cX9_streetIs 30 = .ok (.goto 50, 3) := by decide +kernel
theorem dX9_streetIs_33 : decode cX9_streetIs 33 = .ok (.iload_n 2, 1) := by decide +kernel
theorem dX9_streetIs_34 : decode cX9_streetIs 34 = .ok (.iconst 1, 1) := by decide +kernel
theorem dX9_streetIs_35 : decode cX9_streetIs 35 = .ok (.if_icmp .ne 11, 3) := by decide +kernel
theorem dX9_streetIs_38 : decode cX9_streetIs 38 = .ok (.aload_n 0, 1) := by decide +kernel
theorem dX9_streetIs_39 : decode cX9_streetIs 39 = .ok (.iload_n 1, 1) := by decide +kernel
theorem dX9_streetIs_40 : decode cX9_streetIs 40 = .ok (.invokevirtual 270, 3) := by decide +kernel
theorem dX9_streetIs_43 : decode cX9_streetIs 43 = .ok (.goto 37, 3) := by decide +kernel
theorem dX9_streetIs_46 : decode cX9_streetIs 46 = .ok (.iload_n 2, 1) := by decide +kernel
theorem dX9_streetIs_47 : decode cX9_streetIs 47 = .ok (.iconst 2, 1) := by decide +kernel
theorem dX9_streetIs_48 : decode cX9_streetIs 48 = .ok (.if_icmp .ne 12, 3) := by decide +kernel
theorem dX9_streetIs_51 : decode cX9_streetIs 51 = .ok (.aload_n 0, 1) := by decide +kernel
theorem dX9_streetIs_52 : decode cX9_streetIs 52 = .ok (.getfield 137, 3) := by decide +kernel
theorem dX9_streetIs_55 : decode cX9_streetIs 55 = .ok (.iload_n 1, 1) := by decide +kernel
theorem dX9_streetIs_56 : decode cX9_streetIs 56 = .ok (.iaload, 1) := by decide +kernel
theorem dX9_streetIs_57 : decode cX9_streetIs 57 = .ok (.goto 23, 3) := by decide +kernel
theorem dX9_streetIs_60 : decode cX9_streetIs 60 = .ok (.iload_n 2, 1) := by decide +kernel
theorem dX9_streetIs_61 : decode cX9_streetIs 61 = .ok (.iconst 3, 1) := by decide +kernel
theorem dX9_streetIs_62 : decode cX9_streetIs 62 = .ok (.if_icmp .ne 12, 3) := by decide +kernel
theorem dX9_streetIs_65 : decode cX9_streetIs 65 = .ok (.aload_n 0, 1) := by decide +kernel
theorem dX9_streetIs_66 : decode cX9_streetIs 66 = .ok (.getfield 140, 3) := by decide +kernel
theorem dX9_streetIs_69 : decode cX9_streetIs 69 = .ok (.iload_n 1, 1) := by decide +kernel
theorem dX9_streetIs_70 : decode cX9_streetIs 70 = .ok (.iaload, 1) := by decide +kernel
theorem dX9_streetIs_71 : decode cX9_streetIs 71 = .ok (.goto 9, 3) := by decide +kernel
theorem dX9_streetIs_74 : decode cX9_streetIs 74 = .ok (.aload_n 0, 1) := by decide +kernel
theorem dX9_streetIs_75 : decode cX9_streetIs 75 = .ok (.getfield 143, 3) := by decide +kernel
theorem dX9_streetIs_78 : decode cX9_streetIs 78 = .ok (.iload_n 1, 1) := by decide +kernel
theorem dX9_streetIs_79 : decode cX9_streetIs 79 = .ok (.iaload, 1) := by decide +kernel
theorem dX9_streetIs_80 : decode cX9_streetIs 80 = .ok (.ireturn, 1) := by decide +kernel
theorem dX9_begins_0 : decode cX9_begins 0 = .ok (.bipush 100, 2) := by decide +kernel
theorem dX9_begins_2 : decode cX9_begins 2 = .ok (.aload_n 0, 1) := by decide +kernel
theorem dX9_begins_3 : decode cX9_begins 3 = .ok (.getfield 143, 3) := by decide +kernel
theorem dX9_begins_6 : decode cX9_begins 6 = .ok (.iload_n 1, 1) := by decide +kernel
theorem dX9_begins_7 : decode cX9_begins 7 = .ok (.iaload, 1) := by decide +kernel
theorem dX9_begins_8 : decode cX9_begins 8 = .ok (.imul, 1) := by decide +kernel
theorem dX9_begins_9 : decode cX9_begins 9 = .ok (.istore_n 2, 1) := by decide +kernel
theorem dX9_begins_10 : decode cX9_begins 10 = .ok (.aload_n 0, 1) := by decide +kernel
theorem dX9_begins_11 : decode cX9_begins 11 = .ok (.getfield 134, 3) := by decide +kernel
theorem dX9_begins_14 : decode cX9_begins 14 = .ok (.iload_n 1, 1) := by decide +kernel
theorem dX9_begins_15 : decode cX9_begins 15 = .ok (.dup2, 1) := by decide +kernel
theorem dX9_begins_16 : decode cX9_begins 16 = .ok (.iaload, 1) := by decide +kernel
theorem dX9_begins_17 : decode cX9_begins 17 = .ok (.iload_n 2, 1) := by decide +kernel
theorem dX9_begins_18 : decode cX9_begins 18 = .ok (.ldc_w 273, 3) := by decide +kernel
theorem dX9_begins_21 : decode cX9_begins 21 = .ok (.if_icmp .le 18, 3) := by decide +kernel
theorem dX9_begins_24 : decode cX9_begins 24 = .ok (.aload_n 0, 1) := by decide +kernel
theorem dX9_begins_25 : decode cX9_begins 25 = .ok (.getfield 134, 3) := by decide +kernel
theorem dX9_begins_28 : decode cX9_begins 28 = .ok (.iload_n 1, 1) := by decide +kernel
theorem dX9_begins_29 : decode cX9_begins 29 = .ok (.iaload, 1) := by decide +kernel
theorem dX9_begins_30 : decode cX9_begins 30 = .ok (.bipush 20, 2) := by decide +kernel
theorem dX9_begins_32 : decode cX9_begins 32 = .ok (.if_icmp .ge 7, 3) := by decide +kernel
theorem dX9_begins_35 : decode cX9_begins 35 = .ok (.iconst 1, 1) := by decide +kernel
theorem dX9_begins_36 : decode cX9_begins 36 = .ok (.goto 24, 3) := by decide +kernel
theorem dX9_begins_39 : decode cX9_begins 39 = .ok (.iload_n 2, 1) := by decide +kernel
theorem dX9_begins_40 : decode cX9_begins 40 = .ok (.ldc_w 274, 3) := by decide +kernel
theorem dX9_begins_43 : decode cX9_begins 43 = .ok (.if_icmp .ge 16, 3) := by decide +kernel
theorem dX9_begins_46 : decode cX9_begins 46 = .ok (.aload_n 0, 1) := by decide +kernel
theorem dX9_begins_47 : decode cX9_begins 47 = .ok (.getfield 134, 3) := by decide +kernel
theorem dX9_begins_50 : decode cX9_begins 50 = .ok (.iload_n 1, 1) := by decide +kernel
theorem dX9_begins_51 : decode cX9_begins 51 = .ok (.iaload, 1) := by decide +kernel
theorem dX9_begins_52 : decode cX9_begins 52 = .ok (.ifCond .le 7, 3) := by decide +kernel
theorem dX9_begins_55 : decode cX9_begins 55 = .ok (.iconst (-1), 1) := by decide +kernel
theorem dX9_begins_56 : decode cX9_begins 56 = .ok (.goto 4, 3) := by decide +kernel
theorem dX9_begins_59 : decode cX9_begins 59 = .ok (.iconst 0, 1) := by decide +kernel
theorem dX9_begins_60 : decode cX9_begins 60 = .ok (.iadd, 1) := by decide +kernel
theorem dX9_begins_61 : decode cX9_begins 61 = .ok (.iastore, 1) := by decide +kernel
theorem dX9_begins_62 : decode cX9_begins 62 = .ok (.aload_n 0, 1) := by decide +kernel
theorem dX9_begins_63 : decode cX9_begins 63 = .ok (.getfield 143, 3) := by decide +kernel
theorem dX9_begins_66 : decode cX9_begins 66 = .ok (.iload_n 1, 1) := by decide +kernel
theorem dX9_begins_67 : decode cX9_begins 67 = .ok (.iconst 0, 1) := by decide +kernel
theorem dX9_begins_68 : decode cX9_begins 68 = .ok (.iastore, 1) := by decide +kernel
theorem dX9_begins_69 : decode cX9_begins 69 = .ok (.return_, 1) := by decide +kernel
theorem dX9_pass_0 : decode cX9_pass 0 = .ok (.aload_n 0, 1) := by decide +kernel
theorem dX9_pass_1 : decode cX9_pass 1 = .ok (.iload_n 1, 1) := by decide +kernel
theorem dX9_pass_2 : decode cX9_pass 2 = .ok (.iconst 1, 1) := by decide +kernel
theorem dX9_pass_3 : decode cX9_pass 3 = .ok (.bipush 96, 2) := by decide +kernel
theorem dX9_pass_5 : decode cX9_pass 5 = .ok (.invokestatic 153, 3) := by decide +kernel
theorem dX9_pass_8 : decode cX9_pass 8 = .ok (.aload_n 0, 1) := by decide +kernel
theorem dX9_pass_9 : decode cX9_pass 9 = .ok (.getfield 189, 3) := by decide +kernel
theorem dX9_pass_12 : decode cX9_pass 12 = .ok (.iload_n 1, 1) := by decide +kernel
theorem dX9_pass_13 : decode cX9_pass 13 = .ok (.iadd, 1) := by decide +kernel
theorem dX9_pass_14 : decode cX9_pass 14 = .ok (.ldc 193, 2) := by decide +kernel
theorem dX9_pass_16 : decode cX9_pass 16 = .ok (.if_icmp .gt 7, 3) := by decide +kernel
theorem dX9_pass_19 : decode cX9_pass 19 = .ok (.iconst 1, 1) := by decide +kernel
theorem dX9_pass_20 : decode cX9_pass 20 = .ok (.goto 4, 3) := by decide +kernel
theorem dX9_pass_23 : decode cX9_pass 23 = .ok (.iconst 0, 1) := by decide +kernel
theorem dX9_pass_24 : decode cX9_pass 24 = .ok (.iconst 1, 1) := by decide +kernel
theorem dX9_pass_25 : decode cX9_pass 25 = .ok (.invokevirtual 167, 3) := by decide +kernel
theorem dX9_pass_28 : decode cX9_pass 28 = .ok (.ifCond .ne 5, 3) := by decide +kernel
theorem dX9_pass_31 : decode cX9_pass 31 = .ok (.iconst 0, 1) := by decide +kernel
theorem dX9_pass_32 : decode cX9_pass 32 = .ok (.ireturn, 1) := by decide +kernel
theorem dX9_pass_33 : decode cX9_pass 33 = .ok (.iconst 0, 1) := by decide +kernel
theorem dX9_pass_34 : decode cX9_pass 34 = .ok (.istore_n 2, 1) := by decide +kernel
theorem dX9_pass_35 : decode cX9_pass 35 = .ok (.iload_n 2, 1) := by decide +kernel
theorem dX9_pass_36 : decode cX9_pass 36 = .ok (.iload_n 1, 1) := by decide +kernel
theorem dX9_pass_37 : decode cX9_pass 37 = .ok (.if_icmp .ge 74, 3) := by decide +kernel
theorem dX9_pass_40 : decode cX9_pass 40 = .ok (.iconst 0, 1) := by decide +kernel
theorem dX9_pass_41 : decode cX9_pass 41 = .ok (.istore_n 3, 1) := by decide +kernel
theorem dX9_pass_42 : decode cX9_pass 42 = .ok (.iload_n 3, 1) := by decide +kernel
theorem dX9_pass_43 : decode cX9_pass 43 = .ok (.iconst 4, 1) := by decide +kernel
theorem dX9_pass_44 : decode cX9_pass 44 = .ok (.if_icmp .ge 23, 3) := by decide +kernel
theorem dX9_pass_47 : decode cX9_pass 47 = .ok (.aload_n 0, 1) := by decide +kernel
theorem dX9_pass_48 : decode cX9_pass 48 = .ok (.getfield 143, 3) := by decide +kernel
theorem dX9_pass_51 : decode cX9_pass 51 = .ok (.iload_n 3, 1) := by decide +kernel
theorem dX9_pass_52 : decode cX9_pass 52 = .ok (.dup2, 1) := by decide +kernel
theorem dX9_pass_53 : decode cX9_pass 53 = .ok (.iaload, 1) := by decide +kernel
theorem dX9_pass_54 : decode cX9_pass 54 = .ok (.aload_n 0, 1) := by decide +kernel
theorem dX9_pass_55 : decode cX9_pass 55 = .ok (.iload_n 3, 1) := by decide +kernel
theorem dX9_pass_56 : decode cX9_pass 56 = .ok (.invokevirtual 270, 3) := by decide +kernel
theorem dX9_pass_59 : decode cX9_pass 59 = .ok (.iadd, 1) := by decide +kernel
theorem dX9_pass_60 : decode cX9_pass 60 = .ok (.iastore, 1) := by decide +kernel
theorem dX9_pass_61 : decode cX9_pass 61 = .ok (.iinc 3 1, 3) := by decide +kernel
theorem dX9_pass_64 : decode cX9_pass 64 = .ok (.goto (-22), 3) := by decide +kernel
theorem dX9_pass_67 : decode cX9_pass 67 = .ok (.aload_n 0, 1) := by decide +kernel
theorem dX9_pass_68 : decode cX9_pass 68 = .ok (.dup, 1) := by decide +kernel
theorem dX9_pass_69 : decode cX9_pass 69 = .ok (.getfield 189, 3) := by decide +kernel
theorem dX9_pass_72 : decode cX9_pass 72 = .ok (.iconst 1, 1) := by decide +kernel
theorem dX9_pass_73 : decode cX9_pass 73 = .ok (.iadd, 1) := by decide +kernel
theorem dX9_pass_74 : decode cX9_pass 74 = .ok (.putfield 189, 3) := by decide +kernel
theorem dX9_pass_77 : decode cX9_pass 77 = .ok (.iconst 0, 1) := by decide +kernel
theorem dX9_pass_78 : decode cX9_pass 78 = .ok (.istore_n 3, 1) := by decide +kernel
theorem dX9_pass_79 : decode cX9_pass 79 = .ok (.iload_n 3, 1) := by decide +kernel
theorem dX9_pass_80 : decode cX9_pass 80 = .ok (.iconst 4, 1) := by decide +kernel
theorem dX9_pass_81 : decode cX9_pass 81 = .ok (.if_icmp .ge 24, 3) := by decide +kernel
theorem dX9_pass_84 : decode cX9_pass 84 = .ok (.aload_n 0, 1) := by decide +kernel
theorem dX9_pass_85 : decode cX9_pass 85 = .ok (.getfield 189, 3) := by decide +kernel
theorem dX9_pass_88 : decode cX9_pass 88 = .ok (.bipush 96, 2) := by decide +kernel
theorem dX9_pass_90 : decode cX9_pass 90 = .ok (.irem, 1) := by decide +kernel
theorem dX9_pass_91 : decode cX9_pass 91 = .ok (.ifCond .ne 14, 3) := by decide +kernel
theorem dX9_pass_94 : decode cX9_pass 94 = .ok (.aload_n 0, 1) := by decide +kernel
theorem dX9_pass_95 : decode cX9_pass 95 = .ok (.iload_n 3, 1) := by decide +kernel
theorem dX9_pass_96 : decode cX9_pass 96 = .ok (.invokevirtual 275, 3) := by decide +kernel
theorem dX9_pass_99 : decode cX9_pass 99 = .ok (.iinc 3 1, 3) := by decide +kernel
theorem dX9_pass_102 : decode cX9_pass 102 = .ok (.goto (-23), 3) := by decide +kernel
theorem dX9_pass_105 : decode cX9_pass 105 = .ok (.iinc 2 1, 3) := by decide +kernel
theorem dX9_pass_108 : decode cX9_pass 108 = .ok (.goto (-73), 3) := by decide +kernel
theorem dX9_pass_111 : decode cX9_pass 111 = .ok (.aload_n 0, 1) := by decide +kernel
theorem dX9_pass_112 : decode cX9_pass 112 = .ok (.getfield 189, 3) := by decide +kernel
theorem dX9_pass_115 : decode cX9_pass 115 = .ok (.ireturn, 1) := by decide +kernel
theorem dJ9_max_7cf53_0 : decode cJ9_max_7cf53 0 = .ok (.iload_n 0, 1) := by decide +kernel
theorem dJ9_max_7cf53_1 : decode cJ9_max_7cf53 1 = .ok (.iload_n 1, 1) := by decide +kernel
theorem dJ9_max_7cf53_2 : decode cJ9_max_7cf53 2 = .ok (.if_icmp .lt 7, 3) := by decide +kernel
theorem dJ9_max_7cf53_5 : decode cJ9_max_7cf53 5 = .ok (.iload_n 0, 1) := by decide +kernel
theorem dJ9_max_7cf53_6 : decode cJ9_max_7cf53 6 = .ok (.goto 4, 3) := by decide +kernel
theorem dJ9_max_7cf53_9 : decode cJ9_max_7cf53 9 = .ok (.iload_n 1, 1) := by decide +kernel
theorem dJ9_max_7cf53_10 : decode cJ9_max_7cf53 10 = .ok (.ireturn, 1) := by decide +kernel
theorem dJ9_min_7cf53_0 : decode cJ9_min_7cf53 0 = .ok (.iload_n 0, 1) := by decide +kernel
theorem dJ9_min_7cf53_1 : decode cJ9_min_7cf53 1 = .ok (.iload_n 1, 1) := by decide +kernel
theorem dJ9_min_7cf53_2 : decode cJ9_min_7cf53 2 = .ok (.if_icmp .gt 7, 3) := by decide +kernel
theorem dJ9_min_7cf53_5 : decode cJ9_min_7cf53 5 = .ok (.iload_n 0, 1) := by decide +kernel
theorem dJ9_min_7cf53_6 : decode cJ9_min_7cf53 6 = .ok (.goto 4, 3) := by decide +kernel
theorem dJ9_min_7cf53_9 : decode cJ9_min_7cf53 9 = .ok (.iload_n 1, 1) := by decide +kernel
theorem dJ9_min_7cf53_10 : decode cJ9_min_7cf53 10 = .ok (.ireturn, 1) := by decide +kernel
theorem dJxa1e45_init_da8c8_0 : decode cJxa1e45_init_da8c8 0 = .ok (.aload_n 0, 1) := by decide +kernel
theorem dJxa1e45_init_da8c8_1 : decode cJxa1e45_init_da8c8 1 = .ok (.invokespecial 1, 3) := by decide +kernel
theorem dJxa1e45_init_da8c8_4 : decode cJxa1e45_init_da8c8 4 = .ok (.return_, 1) := by decide +kernel
theorem dJxc12de_init_da8c8_0 : decode cJxc12de_init_da8c8 0 = .ok (.aload_n 0, 1) := by decide +kernel
theorem dJxc12de_init_da8c8_1 : decode cJxc12de_init_da8c8 1 = .ok (.invokespecial 1, 3) := by decide +kernel
theorem dJxc12de_init_da8c8_4 : decode cJxc12de_init_da8c8 4 = .ok (.aload_n 0, 1) := by decide +kernel
theorem dJxc12de_init_da8c8_5 : decode cJxc12de_init_da8c8 5 = .ok (.iconst 0, 1) := by decide +kernel
theorem dJxc12de_init_da8c8_6 : decode cJxc12de_init_da8c8 6 = .ok (.putfield 7, 3) := by decide +kernel
theorem dJxc12de_init_da8c8_9 : decode cJxc12de_init_da8c8 9 = .ok (.return_, 1) := by decide +kernel
theorem dJx4a65c_init_da8c8_0 : decode cJx4a65c_init_da8c8 0 = .ok (.aload_n 0, 1) := by decide +kernel
theorem dJx4a65c_init_da8c8_1 : decode cJx4a65c_init_da8c8 1 = .ok (.invokespecial 1, 3) := by decide +kernel
theorem dJx4a65c_init_da8c8_4 : decode cJx4a65c_init_da8c8 4 = .ok (.aload_n 0, 1) := by decide +kernel
theorem dJx4a65c_init_da8c8_5 : decode cJx4a65c_init_da8c8 5 = .ok (.getstatic 39, 3) := by decide +kernel
theorem dJx4a65c_init_da8c8_8 : decode cJx4a65c_init_da8c8 8 = .ok (.putfield 9, 3) := by decide +kernel
theorem dJx4a65c_init_da8c8_11 : decode cJx4a65c_init_da8c8 11 = .ok (.return_, 1) := by decide +kernel
theorem dJx4a65c_grow_92f84_0 : decode cJx4a65c_grow_92f84 0 = .ok (.aload_n 0, 1) := by decide +kernel
theorem dJx4a65c_grow_92f84_1 : decode cJx4a65c_grow_92f84 1 = .ok (.getfield 9, 3) := by decide +kernel
theorem dJx4a65c_grow_92f84_4 : decode cJx4a65c_grow_92f84 4 = .ok (.arraylength, 1) := by decide +kernel
theorem dJx4a65c_grow_92f84_5 : decode cJx4a65c_grow_92f84 5 = .ok (.istore_n 2, 1) := by decide +kernel
theorem dJx4a65c_grow_92f84_6 : decode cJx4a65c_grow_92f84 6 = .ok (.iload_n 2, 1) := by decide +kernel
theorem dJx4a65c_grow_92f84_7 : decode cJx4a65c_grow_92f84 7 = .ok (.ifCond .gt 13, 3) := by decide +kernel
theorem dJx4a65c_grow_92f84_10 : decode cJx4a65c_grow_92f84 10 = .ok (.aload_n 0, 1) := by decide +kernel
theorem dJx4a65c_grow_92f84_11 : decode cJx4a65c_grow_92f84 11 = .ok (.getfield 9, 3) := by decide +kernel
theorem dJx4a65c_grow_92f84_14 : decode cJx4a65c_grow_92f84 14 = .ok (.getstatic 39, 3) := by decide +kernel
theorem dJx4a65c_grow_92f84_17 : decode cJx4a65c_grow_92f84 17 = .ok (.if_acmp .eq 28, 3) := by decide +kernel
theorem dJx4a65c_grow_92f84_20 : decode cJx4a65c_grow_92f84 20 = .ok (.iload_n 2, 1) := by decide +kernel
theorem dJx4a65c_grow_92f84_21 : decode cJx4a65c_grow_92f84 21 = .ok (.iload_n 1, 1) := by decide +kernel
theorem dJx4a65c_grow_92f84_22 : decode cJx4a65c_grow_92f84 22 = .ok (.iload_n 2, 1) := by decide +kernel
theorem dJx4a65c_grow_92f84_23 : decode cJx4a65c_grow_92f84 23 = .ok (.isub, 1) := by decide +kernel
theorem dJx4a65c_grow_92f84_24 : decode cJx4a65c_grow_92f84 24 = .ok (.iload_n 2, 1) := by decide +kernel
theorem dJx4a65c_grow_92f84_25 : decode cJx4a65c_grow_92f84 25 = .ok (.iconst 1, 1) := by decide +kernel
theorem dJx4a65c_grow_92f84_26 : decode cJx4a65c_grow_92f84 26 = .ok (.ishr, 1) := by decide +kernel
theorem dJx4a65c_grow_92f84_27 : decode cJx4a65c_grow_92f84 27 = .ok (.invokestatic 73, 3) := by decide +kernel
theorem dJx4a65c_grow_92f84_30 : decode cJx4a65c_grow_92f84 30 = .ok (.istore_n 3, 1) := by decide +kernel
theorem dJx4a65c_grow_92f84_31 : decode cJx4a65c_grow_92f84 31 = .ok (.aload_n 0, 1) := by decide +kernel
theorem dJx4a65c_grow_92f84_32 : decode cJx4a65c_grow_92f84 32 = .ok (.aload_n 0, 1) := by decide +kernel
