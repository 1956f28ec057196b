theorem dX9_permit_112 : decode cX9_permit 112 = .ok (.iload_n 1, 1) := by decide +kernel
theorem dX9_permit_113 : decode cX9_permit 113 = .ok (.iastore, 1) := by decide +kernel
theorem dX9_permit_114 : decode cX9_permit 114 = .ok (.aload_n 0, 1) := by decide +kernel
theorem dX9_permit_115 : decode cX9_permit 115 = .ok (.getfield 77, 3) := by decide +kernel
theorem dX9_permit_118 : decode cX9_permit 118 = .ok (.aload_n 0, 1) := by decide +kernel
theorem dX9_permit_119 : decode cX9_permit 119 = .ok (.getfield 212, 3) := by decide +kernel
theorem dX9_permit_122 : decode cX9_permit 122 = .ok (.iload_n 2, 1) := by decide +kernel
theorem dX9_permit_123 : decode cX9_permit 123 = .ok (.iastore, 1) := by decide +kernel
theorem dX9_permit_124 : decode cX9_permit 124 = .ok (.aload_n 0, 1) := by decide +kernel
theorem dX9_permit_125 : decode cX9_permit 125 = .ok (.getfield 80, 3) := by decide +kernel
theorem dX9_permit_128 : decode cX9_permit 128 = .ok (.aload_n 0, 1) := by decide +kernel
theorem dX9_permit_129 : decode cX9_permit 129 = .ok (.getfield 212, 3) := by decide +kernel
theorem dX9_permit_132 : decode cX9_permit 132 = .ok (.iload_n 3, 1) := by decide +kernel
theorem dX9_permit_133 : decode cX9_permit 133 = .ok (.iastore, 1) := by decide +kernel
theorem dX9_permit_134 : decode cX9_permit 134 = .ok (.aload_n 0, 1) := by decide +kernel
theorem dX9_permit_135 : decode cX9_permit 135 = .ok (.getfield 83, 3) := by decide +kernel
theorem dX9_permit_138 : decode cX9_permit 138 = .ok (.aload_n 0, 1) := by decide +kernel
theorem dX9_permit_139 : decode cX9_permit 139 = .ok (.getfield 212, 3) := by decide +kernel
theorem dX9_permit_142 : decode cX9_permit 142 = .ok (.iload 4, 2) := by decide +kernel
theorem dX9_permit_144 : decode cX9_permit 144 = .ok (.iastore, 1) := by decide +kernel
theorem dX9_permit_145 : decode cX9_permit 145 = .ok (.aload_n 0, 1) := by decide +kernel
theorem dX9_permit_146 : decode cX9_permit 146 = .ok (.getfield 86, 3) := by decide +kernel
theorem dX9_permit_149 : decode cX9_permit 149 = .ok (.aload_n 0, 1) := by decide +kernel
theorem dX9_permit_150 : decode cX9_permit 150 = .ok (.getfield 212, 3) := by decide +kernel
theorem dX9_permit_153 : decode cX9_permit 153 = .ok (.iload 5, 2) := by decide +kernel
theorem dX9_permit_155 : decode cX9_permit 155 = .ok (.iastore, 1) := by decide +kernel
theorem dX9_permit_156 : decode cX9_permit 156 = .ok (.aload_n 0, 1) := by decide +kernel
theorem dX9_permit_157 : decode cX9_permit 157 = .ok (.dup, 1) := by decide +kernel
theorem dX9_permit_158 : decode cX9_permit 158 = .ok (.getfield 212, 3) := by decide +kernel
theorem dX9_permit_161 : decode cX9_permit 161 = .ok (.iconst 1, 1) := by decide +kernel
theorem dX9_permit_162 : decode cX9_permit 162 = .ok (.iadd, 1) := by decide +kernel
theorem dX9_permit_163 : decode cX9_permit 163 = .ok (.putfield 212, 3) := by decide +kernel
theorem dX9_permit_166 : decode cX9_permit 166 = .ok (.aload_n 0, 1) := by decide +kernel
theorem dX9_permit_167 : decode cX9_permit 167 = .ok (.getfield 212, 3) := by decide +kernel
theorem dX9_permit_170 : decode cX9_permit 170 = .ok (.iconst 1, 1) := by decide +kernel
theorem dX9_permit_171 : decode cX9_permit 171 = .ok (.isub, 1) := by decide +kernel
theorem dX9_permit_172 : decode cX9_permit 172 = .ok (.ireturn, 1) := by decide +kernel
theorem dX9_hand_0 : decode cX9_hand 0 = .ok (.aload_n 0, 1) := by decide +kernel
theorem dX9_hand_1 : decode cX9_hand 1 = .ok (.iload_n 1, 1) := by decide +kernel
theorem dX9_hand_2 : decode cX9_hand 2 = .ok (.iconst 0, 1) := by decide +kernel
theorem dX9_hand_3 : decode cX9_hand 3 = .ok (.aload_n 0, 1) := by decide +kernel
theorem dX9_hand_4 : decode cX9_hand 4 = .ok (.getfield 212, 3) := by decide +kernel
theorem dX9_hand_7 : decode cX9_hand 7 = .ok (.iconst 1, 1) := by decide +kernel
theorem dX9_hand_8 : decode cX9_hand 8 = .ok (.isub, 1) := by decide +kernel
theorem dX9_hand_9 : decode cX9_hand 9 = .ok (.invokestatic 153, 3) := by decide +kernel
theorem dX9_hand_12 : decode cX9_hand 12 = .ok (.ifCond .eq 15, 3) := by decide +kernel
theorem dX9_hand_15 : decode cX9_hand 15 = .ok (.aload_n 0, 1) := by decide +kernel
theorem dX9_hand_16 : decode cX9_hand 16 = .ok (.iload_n 2, 1) := by decide +kernel
theorem dX9_hand_17 : decode cX9_hand 17 = .ok (.invokevirtual 219, 3) := by decide +kernel
theorem dX9_hand_20 : decode cX9_hand 20 = .ok (.ifCond .eq 7, 3) := by decide +kernel
theorem dX9_hand_23 : decode cX9_hand 23 = .ok (.iconst 1, 1) := by decide +kernel
theorem dX9_hand_24 : decode cX9_hand 24 = .ok (.goto 4, 3) := by decide +kernel
theorem dX9_hand_27 : decode cX9_hand 27 = .ok (.iconst 0, 1) := by decide +kernel
theorem dX9_hand_28 : decode cX9_hand 28 = .ok (.iconst 1, 1) := by decide +kernel
theorem dX9_hand_29 : decode cX9_hand 29 = .ok (.iconst 1, 1) := by decide +kernel
theorem dX9_hand_30 : decode cX9_hand 30 = .ok (.invokevirtual 167, 3) := by decide +kernel
theorem dX9_hand_33 : decode cX9_hand 33 = .ok (.ifCond .ne 5, 3) := by decide +kernel
theorem dX9_hand_36 : decode cX9_hand 36 = .ok (.iconst 0, 1) := by decide +kernel
theorem dX9_hand_37 : decode cX9_hand 37 = .ok (.ireturn, 1) := by decide +kernel
theorem dX9_hand_38 : decode cX9_hand 38 = .ok (.aload_n 0, 1) := by decide +kernel
theorem dX9_hand_39 : decode cX9_hand 39 = .ok (.getfield 74, 3) := by decide +kernel
theorem dX9_hand_42 : decode cX9_hand 42 = .ok (.iload_n 1, 1) := by decide +kernel
theorem dX9_hand_43 : decode cX9_hand 43 = .ok (.iaload, 1) := by decide +kernel
theorem dX9_hand_44 : decode cX9_hand 44 = .ok (.istore_n 3, 1) := by decide +kernel
theorem dX9_hand_45 : decode cX9_hand 45 = .ok (.aload_n 0, 1) := by decide +kernel
theorem dX9_hand_46 : decode cX9_hand 46 = .ok (.getfield 74, 3) := by decide +kernel
theorem dX9_hand_49 : decode cX9_hand 49 = .ok (.iload_n 1, 1) := by decide +kernel
theorem dX9_hand_50 : decode cX9_hand 50 = .ok (.iload_n 2, 1) := by decide +kernel
theorem dX9_hand_51 : decode cX9_hand 51 = .ok (.iastore, 1) := by decide +kernel
theorem dX9_hand_52 : decode cX9_hand 52 = .ok (.iload_n 3, 1) := by decide +kernel
theorem dX9_hand_53 : decode cX9_hand 53 = .ok (.ireturn, 1) := by decide +kernel
theorem dX9_userOn_0 : decode cX9_userOn 0 = .ok (.aload_n 0, 1) := by decide +kernel
theorem dX9_userOn_1 : decode cX9_userOn 1 = .ok (.getfield 59, 3) := by decide +kernel
theorem dX9_userOn_4 : decode cX9_userOn 4 = .ok (.iload_n 1, 1) := by decide +kernel
theorem dX9_userOn_5 : decode cX9_userOn 5 = .ok (.iaload, 1) := by decide +kernel
theorem dX9_userOn_6 : decode cX9_userOn 6 = .ok (.ifCond .eq 7, 3) := by decide +kernel
theorem dX9_userOn_9 : decode cX9_userOn 9 = .ok (.iconst 1, 1) := by decide +kernel
theorem dX9_userOn_10 : decode cX9_userOn 10 = .ok (.goto 4, 3) := by decide +kernel
theorem dX9_userOn_13 : decode cX9_userOn 13 = .ok (.iconst 0, 1) := by decide +kernel
theorem dX9_userOn_14 : decode cX9_userOn 14 = .ok (.istore 4, 2) := by decide +kernel
theorem dX9_userOn_16 : decode cX9_userOn 16 = .ok (.iconst 0, 1) := by decide +kernel
theorem dX9_userOn_17 : decode cX9_userOn 17 = .ok (.istore 5, 2) := by decide +kernel
theorem dX9_userOn_19 : decode cX9_userOn 19 = .ok (.iload 5, 2) := by decide +kernel
theorem dX9_userOn_21 : decode cX9_userOn 21 = .ok (.aload_n 0, 1) := by decide +kernel
theorem dX9_userOn_22 : decode cX9_userOn 22 = .ok (.getfield 212, 3) := by decide +kernel
theorem dX9_userOn_25 : decode cX9_userOn 25 = .ok (.if_icmp .ge 64, 3) := by decide +kernel
theorem dX9_userOn_28 : decode cX9_userOn 28 = .ok (.iload 4, 2) := by decide +kernel
theorem dX9_userOn_30 : decode cX9_userOn 30 = .ok (.ifCond .ne 46, 3) := by decide +kernel
theorem dX9_userOn_33 : decode cX9_userOn 33 = .ok (.aload_n 0, 1) := by decide +kernel
theorem dX9_userOn_34 : decode cX9_userOn 34 = .ok (.getfield 74, 3) := by decide +kernel
theorem dX9_userOn_37 : decode cX9_userOn 37 = .ok (.iload 5, 2) := by decide +kernel
theorem dX9_userOn_39 : decode cX9_userOn 39 = .ok (.iaload, 1) := by decide +kernel
theorem dX9_userOn_40 : decode cX9_userOn 40 = .ok (.iload_n 1, 1) := by decide +kernel
theorem dX9_userOn_41 : decode cX9_userOn 41 = .ok (.if_icmp .ne 39, 3) := by decide +kernel
theorem dX9_userOn_44 : decode cX9_userOn 44 = .ok (.aload_n 0, 1) := by decide +kernel
theorem dX9_userOn_45 : decode cX9_userOn 45 = .ok (.getfield 77, 3) := by decide +kernel
theorem dX9_userOn_48 : decode cX9_userOn 48 = .ok (.iload 5, 2) := by decide +kernel
theorem dX9_userOn_50 : decode cX9_userOn 50 = .ok (.iaload, 1) := by decide +kernel
theorem dX9_userOn_51 : decode cX9_userOn 51 = .ok (.iload_n 2, 1) := by decide +kernel
theorem dX9_userOn_52 : decode cX9_userOn 52 = .ok (.if_icmp .ne 28, 3) := by decide +kernel
theorem dX9_userOn_55 : decode cX9_userOn 55 = .ok (.iload_n 3, 1) := by decide +kernel
theorem dX9_userOn_56 : decode cX9_userOn 56 = .ok (.aload_n 0, 1) := by decide +kernel
theorem dX9_userOn_57 : decode cX9_userOn 57 = .ok (.getfield 83, 3) := by decide +kernel
theorem dX9_userOn_60 : decode cX9_userOn 60 = .ok (.iload 5, 2) := by decide +kernel
theorem dX9_userOn_62 : decode cX9_userOn 62 = .ok (.iaload, 1) := by decide +kernel
theorem dX9_userOn_63 : decode cX9_userOn 63 = .ok (.aload_n 0, 1) := by decide +kernel
theorem dX9_userOn_64 : decode cX9_userOn 64 = .ok (.getfield 86, 3) := by decide +kernel
theorem dX9_userOn_67 : decode cX9_userOn 67 = .ok (.iload 5, 2) := by decide +kernel
theorem dX9_userOn_69 : decode cX9_userOn 69 = .ok (.iaload, 1) := by decide +kernel
theorem dX9_userOn_70 : decode cX9_userOn 70 = .ok (.invokestatic 153, 3) := by decide +kernel
theorem dX9_userOn_73 : decode cX9_userOn 73 = .ok (.ifCond .eq 7, 3) := by decide +kernel
theorem dX9_userOn_76 : decode cX9_userOn 76 = .ok (.iconst 1, 1) := by decide +kernel
theorem dX9_userOn_77 : decode cX9_userOn 77 = .ok (.goto 4, 3) := by decide +kernel
theorem dX9_userOn_80 : decode cX9_userOn 80 = .ok (.iconst 0, 1) := by decide +kernel
theorem dX9_userOn_81 : decode cX9_userOn 81 = .ok (.istore 4, 2) := by decide +kernel
theorem dX9_userOn_83 : decode cX9_userOn 83 = .ok (.iinc 5 1, 3) := by decide +kernel
theorem dX9_userOn_86 : decode cX9_userOn 86 = .ok (.goto (-67), 3) := by decide +kernel
theorem dX9_userOn_89 : decode cX9_userOn 89 = .ok (.iload 4, 2) := by decide +kernel
theorem dX9_userOn_91 : decode cX9_userOn 91 = .ok (.ifCond .eq 12, 3) := by decide +kernel
theorem dX9_userOn_94 : decode cX9_userOn 94 = .ok (.aload_n 0, 1) := by decide +kernel
theorem dX9_userOn_95 : decode cX9_userOn 95 = .ok (.getfield 59, 3) := by decide +kernel
theorem dX9_userOn_98 : decode cX9_userOn 98 = .ok (.iload_n 1, 1) := by decide +kernel
theorem dX9_userOn_99 : decode cX9_userOn 99 = .ok (.iaload, 1) := by decide +kernel
theorem dX9_userOn_100 : decode cX9_userOn 100 = .ok (.goto 4, 3) := by decide +kernel
theorem dX9_userOn_103 : decode cX9_userOn 103 = .ok (.iconst 4, 1) := by decide +kernel
theorem dX9_userOn_104 : decode cX9_userOn 104 = .ok (.ireturn, 1) := by decide +kernel
theorem dX9_countsAs_0 : decode cX9_countsAs 0 = .ok (.aload_n 0, 1) := by decide +kernel
theorem dX9_countsAs_1 : decode cX9_countsAs 1 = .ok (.aload_n 0, 1) := by decide +kernel
theorem dX9_countsAs_2 : decode cX9_countsAs 2 = .ok (.iload_n 1, 1) := by decide +kernel
theorem dX9_countsAs_3 : decode cX9_countsAs 3 = .ok (.invokevirtual 219, 3) := by decide +kernel
theorem dX9_countsAs_6 : decode cX9_countsAs 6 = .ok (.ifCond .eq 14, 3) := by decide +kernel
theorem dX9_countsAs_9 : decode cX9_countsAs 9 = .ok (.iload_n 2, 1) := by decide +kernel
theorem dX9_countsAs_10 : decode cX9_countsAs 10 = .ok (.invokestatic 160, 3) := by decide +kernel
theorem dX9_countsAs_13 : decode cX9_countsAs 13 = .ok (.ifCond .eq 7, 3) := by decide +kernel
theorem dX9_countsAs_16 : decode cX9_countsAs 16 = .ok (.iconst 1, 1) := by decide +kernel
theorem dX9_countsAs_17 : decode cX9_countsAs 17 = .ok (.goto 4, 3) := by decide +kernel
theorem dX9_countsAs_20 : decode cX9_countsAs 20 = .ok (.iconst 0, 1) := by decide +kernel
theorem dX9_countsAs_21 : decode cX9_countsAs 21 = .ok (.iconst 1, 1) := by decide +kernel
theorem dX9_countsAs_22 : decode cX9_countsAs 22 = .ok (.iconst 1, 1) := by decide +kernel
theorem dX9_countsAs_23 : decode cX9_countsAs 23 = .ok (.invokevirtual 167, 3) := by decide +kernel
theorem dX9_countsAs_26 : decode cX9_countsAs 26 = .ok (.ifCond .eq 19, 3) := by decide +kernel
theorem dX9_countsAs_29 : decode cX9_countsAs 29 = .ok (.aload_n 0, 1) := by decide +kernel
theorem dX9_countsAs_30 : decode cX9_countsAs 30 = .ok (.iload_n 1, 1) := by decide +kernel
theorem dX9_countsAs_31 : decode cX9_countsAs 31 = .ok (.iload_n 2, 1) := by decide +kernel
theorem dX9_countsAs_32 : decode cX9_countsAs 32 = .ok (.aload_n 0, 1) := by decide +kernel
theorem dX9_countsAs_33 : decode cX9_countsAs 33 = .ok (.getfield 189, 3) := by decide +kernel
theorem dX9_countsAs_36 : decode cX9_countsAs 36 = .ok (.bipush 96, 2) := by decide +kernel
theorem dX9_countsAs_38 : decode cX9_countsAs 38 = .ok (.idiv, 1) := by decide +kernel
theorem dX9_countsAs_39 : decode cX9_countsAs 39 = .ok (.invokevirtual 225, 3) := by decide +kernel
theorem dX9_countsAs_42 : decode cX9_countsAs 42 = .ok (.goto 4, 3) := by decide +kernel
theorem dX9_countsAs_45 : decode cX9_countsAs 45 = .ok (.iconst 0, 1) := by decide +kernel
theorem dX9_countsAs_46 : decode cX9_countsAs 46 = .ok (.ireturn, 1) := by decide +kernel
theorem dX9_isGap_0 : decode cX9_isGap 0 = .ok (.iload_n 2, 1) := by decide +kernel
theorem dX9_isGap_1 : decode cX9_isGap 1 = .ok (.iload_n 3, 1) := by decide +kernel
theorem dX9_isGap_2 : decode cX9_isGap 2 = .ok (.iadd, 1) := by decide +kernel
theorem dX9_isGap_3 : decode cX9_isGap 3 = .ok (.bipush 60, 2) := by decide +kernel
theorem dX9_isGap_5 : decode cX9_isGap 5 = .ok (.if_icmp .gt 7, 3) := by decide +kernel
theorem dX9_isGap_8 : decode cX9_isGap 8 = .ok (.iconst 1, 1) := by decide +kernel
theorem dX9_isGap_9 : decode cX9_isGap 9 = .ok (.goto 4, 3) := by decide +kernel
theorem dX9_isGap_12 : decode cX9_isGap 12 = .ok (.iconst 0, 1) := by decide +kernel
theorem dX9_isGap_13 : decode cX9_isGap 13 = .ok (.istore 4, 2) := by decide +kernel
theorem dX9_isGap_15 : decode cX9_isGap 15 = .ok (.iconst 0, 1) := by decide +kernel
theorem dX9_isGap_16 : decode cX9_isGap 16 = .ok (.istore 5, 2) := by decide +kernel
theorem dX9_isGap_18 : decode cX9_isGap 18 = .ok (.iload 5, 2) := by decide +kernel
theorem dX9_isGap_20 : decode cX9_isGap 20 = .ok (.aload_n 0, 1) := by decide +kernel
theorem dX9_isGap_21 : decode cX9_isGap 21 = .ok (.getfield 157, 3) := by decide +kernel
theorem dX9_isGap_24 : decode cX9_isGap 24 = .ok (.if_icmp .ge 76, 3) := by decide +kernel
theorem dX9_isGap_27 : decode cX9_isGap 27 = .ok (.aload_n 0, 1) := by decide +kernel
theorem dX9_isGap_28 : decode cX9_isGap 28 = .ok (.getfield 62, 3) := by decide +kernel
theorem dX9_isGap_31 : decode cX9_isGap 31 = .ok (.iload 5, 2) := by decide +kernel
theorem dX9_isGap_33 : decode cX9_isGap 33 = .ok (.iaload, 1) := by decide +kernel
theorem dX9_isGap_34 : decode cX9_isGap 34 = .ok (.iload_n 1, 1) := by decide +kernel
theorem dX9_isGap_35 : decode cX9_isGap 35 = .ok (.if_icmp .ne 35, 3) := by decide +kernel
theorem dX9_isGap_38 : decode cX9_isGap 38 = .ok (.aload_n 0, 1) := by decide +kernel
theorem dX9_isGap_39 : decode cX9_isGap 39 = .ok (.getfield 65, 3) := by decide +kernel
theorem dX9_isGap_42 : decode cX9_isGap 42 = .ok (.iload 5, 2) := by decide +kernel
theorem dX9_isGap_44 : decode cX9_isGap 44 = .ok (.iaload, 1) := by decide +kernel
theorem dX9_isGap_45 : decode cX9_isGap 45 = .ok (.iload_n 2, 1) := by decide +kernel
theorem dX9_isGap_46 : decode cX9_isGap 46 = .ok (.iload_n 3, 1) := by decide +kernel
theorem dX9_isGap_47 : decode cX9_isGap 47 = .ok (.iadd, 1) := by decide +kernel
theorem dX9_isGap_48 : decode cX9_isGap 48 = .ok (.if_icmp .gt 22, 3) := by decide +kernel
theorem dX9_isGap_51 : decode cX9_isGap 51 = .ok (.aload_n 0, 1) := by decide +kernel
theorem dX9_isGap_52 : decode cX9_isGap 52 = .ok (.getfield 65, 3) := by decide +kernel
theorem dX9_isGap_55 : decode cX9_isGap 55 = .ok (.iload 5, 2) := by decide +kernel
theorem dX9_isGap_57 : decode cX9_isGap 57 = .ok (.iaload, 1) := by decide +kernel
theorem dX9_isGap_58 : decode cX9_isGap 58 = .ok (.aload_n 0, 1) := by decide +kernel
theorem dX9_isGap_59 : decode cX9_isGap 59 = .ok (.getfield 56, 3) := by decide +kernel
theorem dX9_isGap_62 : decode cX9_isGap 62 = .ok (.iload 5, 2) := by decide +kernel
theorem dX9_isGap_64 : decode cX9_isGap 64 = .ok (.iaload, 1) := by decide +kernel
theorem dX9_isGap_65 : decode cX9_isGap 65 = .ok (.iadd, 1) := by decide +kernel
theorem dX9_isGap_66 : decode cX9_isGap 66 = .ok (.iload_n 2, 1) := by decide +kernel
theorem dX9_isGap_67 : decode cX9_isGap 67 = .ok (.if_icmp .ge 7, 3) := by decide +kernel
theorem dX9_isGap_70 : decode cX9_isGap 70 = .ok (.iconst 1, 1) := by decide +kernel
theorem dX9_isGap_71 : decode cX9_isGap 71 = .ok (.goto 4, 3) := by decide +kernel
theorem dX9_isGap_74 : decode cX9_isGap 74 = .ok (.iconst 0, 1) := by decide +kernel
theorem dX9_isGap_75 : decode cX9_isGap 75 = .ok (.istore 6, 2) := by decide +kernel
theorem dX9_isGap_77 : decode cX9_isGap 77 = .ok (.iload 4, 2) := by decide +kernel
theorem dX9_isGap_79 : decode cX9_isGap 79 = .ok (.ifCond .eq 12, 3) := by decide +kernel
theorem dX9_isGap_82 : decode cX9_isGap 82 = .ok (.iload 6, 2) := by decide +kernel
theorem dX9_isGap_84 : decode cX9_isGap 84 = .ok (.ifCond .eq 7, 3) := by decide +kernel
theorem dX9_isGap_87 : decode cX9_isGap 87 = .ok (.iconst 1, 1) := by decide +kernel
theorem dX9_isGap_88 : decode cX9_isGap 88 = .ok (.goto 4, 3) := by decide +kernel
theorem dX9_isGap_91 : decode cX9_isGap 91 = .ok (.iconst 0, 1) := by decide +kernel
theorem dX9_isGap_92 : decode cX9_isGap 92 = .ok (.istore 4, 2) := by decide +kernel
theorem dX9_isGap_94 : decode cX9_isGap 94 = .ok (.iinc 5 1, 3) := by decide +kernel
theorem dX9_isGap_97 : decode cX9_isGap 97 = .ok (.goto (-79), 3) := by decide +kernel
theorem dX9_isGap_100 : decode cX9_isGap 100 = .ok (.iload 4, 2) := by decide +kernel
theorem dX9_isGap_102 : decode cX9_isGap 102 = .ok (.ireturn, 1) := by decide +kernel
theorem dX9_park_0 : decode cX9_park 0 = .ok (.aload_n 0, 1) := by decide +kernel
theorem dX9_park_1 : decode cX9_park 1 = .ok (.iload_n 1, 1) := by decide +kernel
theorem dX9_park_2 : decode cX9_park 2 = .ok (.invokevirtual 219, 3) := by decide +kernel
theorem dX9_park_5 : decode cX9_park 5 = .ok (.ifCond .eq 21, 3) := by decide +kernel
theorem dX9_park_8 : decode cX9_park 8 = .ok (.iload_n 2, 1) := by decide +kernel
theorem dX9_park_9 : decode cX9_park 9 = .ok (.invokestatic 160, 3) := by decide +kernel
theorem dX9_park_12 : decode cX9_park 12 = .ok (.ifCond .eq 14, 3) := by decide +kernel
theorem dX9_park_15 : decode cX9_park 15 = .ok (.iload_n 3, 1) := by decide +kernel
theorem dX9_park_16 : decode cX9_park 16 = .ok (.invokestatic 164, 3) := by decide +kernel
theorem dX9_park_19 : decode cX9_park 19 = .ok (.ifCond .eq 7, 3) := by decide +kernel
theorem dX9_park_22 : decode cX9_park 22 = .ok (.iconst 1, 1) := by decide +kernel
theorem dX9_park_23 : decode cX9_park 23 = .ok (.goto 4, 3) := by decide +kernel
theorem dX9_park_26 : decode cX9_park 26 = .ok (.iconst 0, 1) := by decide +kernel
theorem dX9_park_27 : decode cX9_park 27 = .ok (.istore 4, 2) := by decide +kernel
theorem dX9_park_29 : decode cX9_park 29 = .ok (.aload_n 0, 1) := by decide +kernel
theorem dX9_park_30 : decode cX9_park 30 = .ok (.iload 4, 2) := by decide +kernel
theorem dX9_park_32 : decode cX9_park 32 = .ok (.iload 4, 2) := by decide +kernel
theorem dX9_park_34 : decode cX9_park 34 = .ok (.ifCond .eq 50, 3) := by decide +kernel
theorem dX9_park_37 : decode cX9_park 37 = .ok (.aload_n 0, 1) := by decide +kernel
theorem dX9_park_38 : decode cX9_park 38 = .ok (.getfield 62, 3) := by decide +kernel
theorem dX9_park_41 : decode cX9_park 41 = .ok (.iload 4, 2) := by decide +kernel
theorem dX9_park_43 : decode cX9_park 43 = .ok (.ifCond .eq 7, 3) := by decide +kernel
theorem dX9_park_46 : decode cX9_park 46 = .ok (.iload_n 1, 1) := by decide +kernel
theorem dX9_park_47 : decode cX9_park 47 = .ok (.goto 4, 3) := by decide +kernel
theorem dX9_park_50 : decode cX9_park 50 = .ok (.iconst 0, 1) := by decide +kernel
theorem dX9_park_51 : decode cX9_park 51 = .ok (.iaload, 1) := by decide +kernel
theorem dX9_park_52 : decode cX9_park 52 = .ok (.iconst (-1), 1) := by decide +kernel
theorem dX9_park_53 : decode cX9_park 53 = .ok (.if_icmp .ne 31, 3) := by decide +kernel
theorem dX9_park_56 : decode cX9_park 56 = .ok (.aload_n 0, 1) := by decide +kernel
theorem dX9_park_57 : decode cX9_park 57 = .ok (.iload_n 2, 1) := by decide +kernel
theorem dX9_park_58 : decode cX9_park 58 = .ok (.iload_n 3, 1) := by decide +kernel
theorem dX9_park_59 : decode cX9_park 59 = .ok (.aload_n 0, 1) := by decide +kernel
theorem dX9_park_60 : decode cX9_park 60 = .ok (.getfield 56, 3) := by decide +kernel
theorem dX9_park_63 : decode cX9_park 63 = .ok (.iload 4, 2) := by decide +kernel
theorem dX9_park_65 : decode cX9_park 65 = .ok (.ifCond .eq 7, 3) := by decide +kernel
theorem dX9_park_68 : decode cX9_park 68 = .ok (.iload_n 1, 1) := by decide +kernel
theorem dX9_park_69 : decode cX9_park 69 = .ok (.goto 4, 3) := by decide +kernel
theorem dX9_park_72 : decode cX9_park 72 = .ok (.iconst 0, 1) := by decide +kernel
theorem dX9_park_73 : decode cX9_park 73 = .ok (.iaload, 1) := by decide +kernel
theorem dX9_park_74 : decode cX9_park 74 = .ok (.invokevirtual 228, 3) := by decide +kernel
theorem dX9_park_77 : decode cX9_park 77 = .ok (.ifCond .eq 7, 3) := by decide +kernel
theorem dX9_park_80 : decode cX9_park 80 = .ok (.iconst 1, 1) := by decide +kernel
theorem dX9_park_81 : decode cX9_park 81 = .ok (.goto 4, 3) := by decide +kernel
theorem dX9_park_84 : decode cX9_park 84 = .ok (.iconst 0, 1) := by decide +kernel
theorem dX9_park_85 : decode cX9_park 85 = .ok (.iconst 1, 1) := by decide +kernel
theorem dX9_park_86 : decode cX9_park 86 = .ok (.invokevirtual 167, 3) := by decide +kernel
theorem dX9_park_89 : decode cX9_park 89 = .ok (.ifCond .eq 37, 3) := by decide +kernel
theorem dX9_park_92 : decode cX9_park 92 = .ok (.aload_n 0, 1) := by decide +kernel
theorem dX9_park_93 : decode cX9_park 93 = .ok (.getfield 62, 3) := by decide +kernel
theorem dX9_park_96 : decode cX9_park 96 = .ok (.iload_n 1, 1) := by decide +kernel
theorem dX9_park_97 : decode cX9_park 97 = .ok (.iload_n 2, 1) := by decide +kernel
theorem dX9_park_98 : decode cX9_park 98 = .ok (.iastore, 1) := by decide +kernel
theorem dX9_park_99 : decode cX9_park 99 = .ok (.aload_n 0, 1) := by decide +kernel
theorem dX9_park_100 : decode cX9_park 100 = .ok (.getfield 65, 3) := by decide +kernel
theorem dX9_park_103 : decode cX9_park 103 = .ok (.iload_n 1, 1) := by decide +kernel
theorem dX9_park_104 : decode cX9_park 104 = .ok (.iload_n 3, 1) := by decide +kernel
theorem dX9_park_105 : decode cX9_park 105 = .ok (.iastore, 1) := by decide +kernel
theorem dX9_park_106 : decode cX9_park 106 = .ok (.aload_n 0, 1) := by decide +kernel
theorem dX9_park_107 : decode cX9_park 107 = .ok (.getfield 68, 3) := by decide +kernel
theorem dX9_park_110 : decode cX9_park 110 = .ok (.iload_n 1, 1) := by decide +kernel
theorem dX9_park_111 : decode cX9_park 111 = .ok (.aload_n 0, 1) := by decide +kernel
theorem dX9_park_112 : decode cX9_park 112 = .ok (.getfield 189, 3) := by decide +kernel
theorem dX9_park_115 : decode cX9_park 115 = .ok (.iastore, 1) := by decide +kernel
theorem dX9_park_116 : decode cX9_park 116 = .ok (.aload_n 0, 1) := by decide +kernel
theorem dX9_park_117 : decode cX9_park 117 = .ok (.getfield 71, 3) := by decide +kernel
theorem dX9_park_120 : decode cX9_park 120 = .ok (.iload_n 1, 1) := by decide +kernel
theorem dX9_park_121 : decode cX9_park 121 = .ok (.dup2, 1) := by decide +kernel
theorem dX9_park_122 : decode cX9_park 122 = .ok (.iaload, 1) := by decide +kernel
theorem dX9_park_123 : decode cX9_park 123 = .ok (.iconst 1, 1) := by decide +kernel
theorem dX9_park_124 : decode cX9_park 124 = .ok (.iadd, 1) := by decide +kernel
theorem dX9_park_125 : decode cX9_park 125 = .ok (.iastore, 1) := by decide +kernel
theorem dX9_park_126 : decode cX9_park 126 = .ok (.return_, 1) := by decide +kernel
theorem dX9_leave_0 : decode cX9_leave 0 = .ok (.aload_n 0, 1) := by decide +kernel
theorem dX9_leave_1 : decode cX9_leave 1 = .ok (.iload_n 1, 1) := by decide +kernel
theorem dX9_leave_2 : decode cX9_leave 2 = .ok (.invokevirtual 219, 3) := by decide +kernel
theorem dX9_leave_5 : decode cX9_leave 5 = .ok (.istore_n 2, 1) := by decide +kernel
theorem dX9_leave_6 : decode cX9_leave 6 = .ok (.aload_n 0, 1) := by decide +kernel
theorem dX9_leave_7 : decode cX9_leave 7 = .ok (.iload_n 2, 1) := by decide +kernel
theorem dX9_leave_8 : decode cX9_leave 8 = .ok (.iload_n 2, 1) := by decide +kernel
theorem dX9_leave_9 : decode cX9_leave 9 = .ok (.ifCond .eq 25, 3) := by decide +kernel
theorem dX9_leave_12 : decode cX9_leave 12 = .ok (.aload_n 0, 1) := by decide +kernel
theorem dX9_leave_13 : decode cX9_leave 13 = .ok (.getfield 62, 3) := by decide +kernel
theorem dX9_leave_16 : decode cX9_leave 16 = .ok (.iload_n 2, 1) := by decide +kernel
theorem dX9_leave_17 : decode cX9_leave 17 = .ok (.ifCond .eq 7, 3) := by decide +kernel
theorem dX9_leave_20 : decode cX9_leave 20 = .ok (.iload_n 1, 1) := by decide +kernel
theorem dX9_leave_21 : decode cX9_leave 21 = .ok (.goto 4, 3) := by decide +kernel
theorem dX9_leave_24 : decode cX9_leave 24 = .ok (.iconst 0, 1) := by decide +kernel
theorem dX9_leave_25 : decode cX9_leave 25 = .ok (.iaload, 1) := by decide +kernel
theorem dX9_leave_26 : decode cX9_leave 26 = .ok (.iconst (-1), 1) := by decide +kernel
theorem dX9_leave_27 : decode cX9_leave 27 = .ok (.if_icmp .eq 7, 3) := by decide +kernel
theorem dX9_leave_30 : decode cX9_leave 30 = .ok (.iconst 1, 1) := by decide +kernel
theorem dX9_leave_31 : decode cX9_leave 31 = .ok (.goto 4, 3) := by decide +kernel
theorem dX9_leave_34 : decode cX9_leave 34 = .ok (.iconst 0, 1) := by decide +kernel
theorem dX9_leave_35 : decode cX9_leave 35 = .ok (.iconst 1, 1) := by decide +kernel
theorem dX9_leave_36 : decode cX9_leave 36 = .ok (.invokevirtual 167, 3) := by decide +kernel
theorem dX9_leave_39 : decode cX9_leave 39 = .ok (.ifCond .ne 5, 3) := by decide +kernel
theorem dX9_leave_42 : decode cX9_leave 42 = .ok (.iconst 0, 1) := by decide +kernel
theorem dX9_leave_43 : decode cX9_leave 43 = .ok (.ireturn, 1) := by decide +kernel
theorem dX9_leave_44 : decode cX9_leave 44 = .ok (.aload_n 0, 1) := by decide +kernel
theorem dX9_leave_45 : decode cX9_leave 45 = .ok (.getfield 62, 3) := by decide +kernel
theorem dX9_leave_48 : decode cX9_leave 48 = .ok (.iload_n 1, 1) := by decide +kernel
theorem dX9_leave_49 : decode cX9_leave 49 = .ok (.iconst (-1), 1) := by decide +kernel
theorem dX9_leave_50 : decode cX9_leave 50 = .ok (.iastore, 1) := by decide +kernel
theorem dX9_leave_51 : decode cX9_leave 51 = .ok (.aload_n 0, 1) := by decide +kernel
theorem dX9_leave_52 : decode cX9_leave 52 = .ok (.getfield 189, 3) := by decide +kernel
theorem dX9_leave_55 : decode cX9_leave 55 = .ok (.aload_n 0, 1) := by decide +kernel
theorem dX9_leave_56 : decode cX9_leave 56 = .ok (.getfield 68, 3) := by decide +kernel
theorem dX9_leave_59 : decode cX9_leave 59 = .ok (.iload_n 1, 1) := by decide +kernel
theorem dX9_leave_60 : decode cX9_leave 60 = .ok (.iaload, 1) := by decide +kernel
theorem dX9_leave_61 : decode cX9_leave 61 = .ok (.isub, 1) := by decide +kernel
theorem dX9_leave_62 : decode cX9_leave 62 = .ok (.ireturn, 1) := by decide +kernel
theorem dX9_gap_0 : decode cX9_gap 0 = .ok (.aload_n 0, 1) := by decide +kernel
theorem dX9_gap_1 : decode cX9_gap 1 = .ok (.iload_n 1, 1) := by decide +kernel
theorem dX9_gap_2 : decode cX9_gap 2 = .ok (.invokestatic 160, 3) := by decide +kernel
theorem dX9_gap_5 : decode cX9_gap 5 = .ok (.iload_n 2, 1) := by decide +kernel
theorem dX9_gap_6 : decode cX9_gap 6 = .ok (.iconst 3, 1) := by decide +kernel
theorem dX9_gap_7 : decode cX9_gap 7 = .ok (.bipush 12, 2) := by decide +kernel
theorem dX9_gap_9 : decode cX9_gap 9 = .ok (.invokestatic 153, 3) := by decide +kernel
theorem dX9_gap_12 : decode cX9_gap 12 = .ok (.iconst 1, 1) := by decide +kernel
theorem dX9_gap_13 : decode cX9_gap 13 = .ok (.invokevirtual 167, 3) := by decide +kernel
theorem dX9_gap_16 : decode cX9_gap 16 = .ok (.ifCond .ne 5, 3) := by decide +kernel
theorem dX9_gap_19 : decode cX9_gap 19 = .ok (.iconst 0, 1) := by decide +kernel
theorem dX9_gap_20 : decode cX9_gap 20 = .ok (.ireturn, 1) := by decide +kernel
theorem dX9_gap_21 : decode cX9_gap 21 = .ok (.iconst (-1), 1) := by decide +kernel
theorem dX9_gap_22 : decode cX9_gap 22 = .ok (.istore_n 3, 1) := by decide +kernel
theorem dX9_gap_23 : decode cX9_gap 23 = .ok (.bipush 59, 2) := by decide +kernel
theorem dX9_gap_25 : decode cX9_gap 25 = .ok (.istore 4, 2) := by decide +kernel
theorem dX9_gap_27 : decode cX9_gap 27 = .ok (.iload 4, 2) := by decide +kernel
theorem dX9_gap_29 : decode cX9_gap 29 = .ok (.ifCond .lt 27, 3) := by decide +kernel
theorem dX9_gap_32 : decode cX9_gap 32 = .ok (.aload_n 0, 1) := by decide +kernel
theorem dX9_gap_33 : decode cX9_gap 33 = .ok (.iload_n 1, 1) := by decide +kernel
theorem dX9_gap_34 : decode cX9_gap 34 = .ok (.iload 4, 2) := by decide +kernel
theorem dX9_gap_36 : decode cX9_gap 36 = .ok (.iload_n 2, 1) := by decide +kernel
theorem dX9_gap_37 : decode cX9_gap 37 = .ok (.invokevirtual 228, 3) := by decide +kernel
theorem dX9_gap_40 : decode cX9_gap 40 = .ok (.ifCond .eq 8, 3) := by decide +kernel
theorem dX9_gap_43 : decode cX9_gap 43 = .ok (.iload 4, 2) := by decide +kernel
theorem dX9_gap_45 : decode cX9_gap 45 = .ok (.goto 4, 3) := by decide +kernel
theorem dX9_gap_48 : decode cX9_gap 48 = .ok (.iload_n 3, 1) := by decide +kernel
theorem dX9_gap_49 : decode cX9_gap 49 = .ok (.istore_n 3, 1) := by decide +kernel
theorem dX9_gap_50 : decode cX9_gap 50 = .ok (.iinc 4 (-1), 3) := by decide +kernel
theorem dX9_gap_53 : decode cX9_gap 53 = .ok (.goto (-26), 3) := by decide +kernel
theorem dX9_gap_56 : decode cX9_gap 56 = .ok (.iload_n 3, 1) := by decide +kernel
theorem dX9_gap_57 : decode cX9_gap 57 = .ok (.ireturn, 1) := by decide +kernel
theorem dX9_pay_0 : decode cX9_pay 0 = .ok (.iload_n 3, 1) := by decide +kernel
theorem dX9_pay_1 : decode cX9_pay 1 = .ok (.aload_n 0, 1) := by decide +kernel
theorem dX9_pay_2 : decode cX9_pay 2 = .ok (.getfield 189, 3) := by decide +kernel
theorem dX9_pay_5 : decode cX9_pay 5 = .ok (.bipush 96, 2) := by decide +kernel
theorem dX9_pay_7 : decode cX9_pay 7 = .ok (.if_icmp .ge 7, 3) := by decide +kernel
theorem dX9_pay_10 : decode cX9_pay 10 = .ok (.iconst 0, 1) := by decide +kernel
theorem dX9_pay_11 : decode cX9_pay 11 = .ok (.goto 10, 3) := by decide +kernel
theorem dX9_pay_14 : decode cX9_pay 14 = .ok (.aload_n 0, 1) := by decide +kernel
theorem dX9_pay_15 : decode cX9_pay 15 = .ok (.getfield 189, 3) := by decide +kernel
theorem dX9_pay_18 : decode cX9_pay 18 = .ok (.bipush 96, 2) := by decide +kernel
theorem dX9_pay_20 : decode cX9_pay 20 = .ok (.isub, 1) := by decide +kernel
theorem dX9_pay_21 : decode cX9_pay 21 = .ok (.aload_n 0, 1) := by decide +kernel
theorem dX9_pay_22 : decode cX9_pay 22 = .ok (.getfield 189, 3) := by decide +kernel
theorem dX9_pay_25 : decode cX9_pay 25 = .ok (.invokestatic 153, 3) := by decide +kernel
theorem dX9_pay_28 : decode cX9_pay 28 = .ok (.ifCond .eq 18, 3) := by decide +kernel
theorem dX9_pay_31 : decode cX9_pay 31 = .ok (.iload 4, 2) := by decide +kernel
theorem dX9_pay_33 : decode cX9_pay 33 = .ok (.iconst 1, 1) := by decide +kernel
theorem dX9_pay_34 : decode cX9_pay 34 = .ok (.bipush 96, 2) := by decide +kernel
theorem dX9_pay_36 : decode cX9_pay 36 = .ok (.invokestatic 153, 3) := by decide +kernel
theorem dX9_pay_39 : decode cX9_pay 39 = .ok (.ifCond .eq 7, 3) := by decide +kernel
theorem dX9_pay_42 : decode cX9_pay 42 = .ok (.iconst 1, 1) := by decide +kernel
theorem dX9_pay_43 : decode cX9_pay 43 = .ok (.goto 4, 3) := by decide +kernel
theorem dX9_pay_46 : decode cX9_pay 46 = .ok (.iconst 0, 1) := by decide +kernel
theorem dX9_pay_47 : decode cX9_pay 47 = .ok (.istore 5, 2) := by decide +kernel
theorem dX9_pay_49 : decode cX9_pay 49 = .ok (.aload_n 0, 1) := by decide +kernel
theorem dX9_pay_50 : decode cX9_pay 50 = .ok (.aload_n 0, 1) := by decide +kernel
theorem dX9_pay_51 : decode cX9_pay 51 = .ok (.iload_n 1, 1) := by decide +kernel
theorem dX9_pay_52 : decode cX9_pay 52 = .ok (.invokevirtual 219, 3) := by decide +kernel
theorem dX9_pay_55 : decode cX9_pay 55 = .ok (.ifCond .eq 14, 3) := by decide +kernel
theorem dX9_pay_58 : decode cX9_pay 58 = .ok (.iload_n 2, 1) := by decide +kernel
theorem dX9_pay_59 : decode cX9_pay 59 = .ok (.invokestatic 160, 3) := by decide +kernel
theorem dX9_pay_62 : decode cX9_pay 62 = .ok (.ifCond .eq 7, 3) := by decide +kernel
theorem dX9_pay_65 : decode cX9_pay 65 = .ok (.iconst 1, 1) := by decide +kernel
theorem dX9_pay_66 : decode cX9_pay 66 = .ok (.goto 4, 3) := by decide +kernel
theorem dX9_pay_69 : decode cX9_pay 69 = .ok (.iconst 0, 1) := by decide +kernel
theorem dX9_pay_70 : decode cX9_pay 70 = .ok (.iload 5, 2) := by decide +kernel
theorem dX9_pay_72 : decode cX9_pay 72 = .ok (.aload_n 0, 1) := by decide +kernel
theorem dX9_pay_73 : decode cX9_pay 73 = .ok (.getfield 231, 3) := by decide +kernel
theorem dX9_pay_76 : decode cX9_pay 76 = .ok (.sipush 200, 3) := by decide +kernel
theorem dX9_pay_79 : decode cX9_pay 79 = .ok (.if_icmp .ge 7, 3) := by decide +kernel
theorem dX9_pay_82 : decode cX9_pay 82 = .ok (.iconst 1, 1) := by decide +kernel
theorem dX9_pay_83 : decode cX9_pay 83 = .ok (.goto 4, 3) := by decide +kernel
theorem dX9_pay_86 : decode cX9_pay 86 = .ok (.iconst 0, 1) := by decide +kernel
theorem dX9_pay_87 : decode cX9_pay 87 = .ok (.invokevirtual 167, 3) := by decide +kernel
theorem dX9_pay_90 : decode cX9_pay 90 = .ok (.ifCond .ne 5, 3) := by decide +kernel
theorem dX9_pay_93 : decode cX9_pay 93 = .ok (.iconst 0, 1) := by decide +kernel
theorem dX9_pay_94 : decode cX9_pay 94 = .ok (.ireturn, 1) := by decide +kernel
theorem dX9_pay_95 : decode cX9_pay 95 = .ok (.aload_n 0, 1) := by decide +kernel
theorem dX9_pay_96 : decode cX9_pay 96 = .ok (.getfield 89, 3) := by decide +kernel
theorem dX9_pay_99 : decode cX9_pay 99 = .ok (.aload_n 0, 1) := by decide +kernel
theorem dX9_pay_100 : decode cX9_pay 100 = .ok (.getfield 231, 3) := by decide +kernel
theorem dX9_pay_103 : decode cX9_pay 103 = .ok (.iload_n 1, 1) := by decide +kernel
theorem dX9_pay_104 : decode cX9_pay 104 = .ok (.iastore, 1) := by decide +kernel
theorem dX9_pay_105 : decode cX9_pay 105 = .ok (.aload_n 0, 1) := by decide +kernel
theorem dX9_pay_106 : decode cX9_pay 106 = .ok (.getfield 92, 3) := by decide +kernel
theorem dX9_pay_109 : decode cX9_pay 109 = .ok (.aload_n 0, 1) := by decide +kernel
theorem dX9_pay_110 : decode cX9_pay 110 = .ok (.getfield 231, 3) := by decide +kernel
theorem dX9_pay_113 : decode cX9_pay 113 = .ok (.iload_n 2, 1) := by decide +kernel
theorem dX9_pay_114 : decode cX9_pay 114 = .ok (.iastore, 1) := by decide +kernel
theorem dX9_pay_115 : decode cX9_pay 115 = .ok (.aload_n 0, 1) := by decide +kernel
theorem dX9_pay_116 : decode cX9_pay 116 = .ok (.getfield 95, 3) := by decide +kernel
theorem dX9_pay_119 : decode cX9_pay 119 = .ok (.aload_n 0, 1) := by decide +kernel
theorem dX9_pay_120 : decode cX9_pay 120 = .ok (.getfield 231, 3) := by decide +kernel
theorem dX9_pay_123 : decode cX9_pay 123 = .ok (.iload_n 3, 1) := by decide +kernel
theorem dX9_pay_124 : decode cX9_pay 124 = .ok (.iastore, 1) := by decide +kernel
theorem dX9_pay_125 : decode cX9_pay 125 = .ok (.aload_n 0, 1) := by decide +kernel
theorem dX9_pay_126 : decode cX9_pay 126 = .ok (.getfield 98, 3) := by decide +kernel
theorem dX9_pay_129 : decode cX9_pay 129 = .ok (.aload_n 0, 1) := by decide +kernel
theorem dX9_pay_130 : decode cX9_pay 130 = .ok (.getfield 231, 3) := by decide +kernel
theorem dX9_pay_133 : decode cX9_pay 133 = .ok (.iload 4, 2) := by decide +kernel
theorem dX9_pay_135 : decode cX9_pay 135 = .ok (.iastore, 1) := by decide +kernel
theorem dX9_pay_136 : decode cX9_pay 136 = .ok (.aload_n 0, 1) := by decide +kernel
theorem dX9_pay_137 : decode cX9_pay 137 = .ok (.dup, 1) := by decide +kernel
theorem dX9_pay_138 : decode cX9_pay 138 = .ok (.getfield 231, 3) := by decide +kernel
theorem dX9_pay_141 : decode cX9_pay 141 = .ok (.iconst 1, 1) := by decide +kernel
theorem dX9_pay_142 : decode cX9_pay 142 = .ok (.iadd, 1) := by decide +kernel
theorem dX9_pay_143 : decode cX9_pay 143 = .ok (.putfield 231, 3) := by decide +kernel
theorem dX9_pay_146 : decode cX9_pay 146 = .ok (.aload_n 0, 1) := by decide +kernel
theorem dX9_pay_147 : decode cX9_pay 147 = .ok (.getfield 137, 3) := by decide +kernel
theorem dX9_pay_150 : decode cX9_pay 150 = .ok (.iload_n 2, 1) := by decide +kernel
theorem dX9_pay_151 : decode cX9_pay 151 = .ok (.dup2, 1) := by decide +kernel
theorem dX9_pay_152 : decode cX9_pay 152 = .ok (.iaload, 1) := by decide +kernel
theorem dX9_pay_153 : decode cX9_pay 153 = .ok (.iload 4, 2) := by decide +kernel
theorem dX9_pay_155 : decode cX9_pay 155 = .ok (.aload_n 0, 1) := by decide +kernel
theorem dX9_pay_156 : decode cX9_pay 156 = .ok (.getfield 134, 3) := by decide +kernel
theorem dX9_pay_159 : decode cX9_pay 159 = .ok (.iload_n 2, 1) := by decide +kernel
theorem dX9_pay_160 : decode cX9_pay 160 = .ok (.iaload, 1) := by decide +kernel
theorem dX9_pay_161 : decode cX9_pay 161 = .ok (.imul, 1) := by decide +kernel
theorem dX9_pay_162 : decode cX9_pay 162 = .ok (.iadd, 1) := by decide +kernel
theorem dX9_pay_163 : decode cX9_pay 163 = .ok (.iastore, 1) := by decide +kernel
theorem dX9_pay_164 : decode cX9_pay 164 = .ok (.iload 4, 2) := by decide +kernel
theorem dX9_pay_166 : decode cX9_pay 166 = .ok (.aload_n 0, 1) := by decide +kernel
theorem dX9_pay_167 : decode cX9_pay 167 = .ok (.getfield 134, 3) := by decide +kernel
theorem dX9_pay_170 : decode cX9_pay 170 = .ok (.iload_n 2, 1) := by decide +kernel
theorem dX9_pay_171 : decode cX9_pay 171 = .ok (.iaload, 1) := by decide +kernel
theorem dX9_pay_172 : decode cX9_pay 172 = .ok (.imul, 1) := by decide +kernel
theorem dX9_pay_173 : decode cX9_pay 173 = .ok (.ireturn, 1) := by decide +kernel
theorem dX9_isCovered_0 : decode cX9_isCovered 0 = .ok (.iconst 0, 1) := by decide +kernel
theorem dX9_isCovered_1 : decode cX9_isCovered 1 = .ok (.istore 4, 2) := by decide +kernel
theorem dX9_isCovered_3 : decode cX9_isCovered 3 = .ok (.iconst 0, 1) := by decide +kernel
theorem dX9_isCovered_4 : decode cX9_isCovered 4 = .ok (.istore 5, 2) := by decide +kernel
theorem dX9_isCovered_6 : decode cX9_isCovered 6 = .ok (.iload 5, 2) := by decide +kernel
theorem dX9_isCovered_8 : decode cX9_isCovered 8 = .ok (.aload_n 0, 1) := by decide +kernel
theorem dX9_isCovered_9 : decode cX9_isCovered 9 = .ok (.getfield 231, 3) := by decide +kernel
theorem dX9_isCovered_12 : decode cX9_isCovered 12 = .ok (.if_icmp .ge 73, 3) := by decide +kernel
theorem dX9_isCovered_15 : decode cX9_isCovered 15 = .ok (.iload 4, 2) := by decide +kernel
theorem dX9_isCovered_17 : decode cX9_isCovered 17 = .ok (.ifCond .ne 55, 3) := by decide +kernel
theorem dX9_isCovered_20 : decode cX9_isCovered 20 = .ok (.aload_n 0, 1) := by decide +kernel
theorem dX9_isCovered_21 : decode cX9_isCovered 21 = .ok (.getfield 89, 3) := by decide +kernel
theorem dX9_isCovered_24 : decode cX9_isCovered 24 = .ok (.iload 5, 2) := by decide +kernel
theorem dX9_isCovered_26 : decode cX9_isCovered 26 = .ok (.iaload, 1) := by decide +kernel
theorem dX9_isCovered_27 : decode cX9_isCovered 27 = .ok (.iload_n 1, 1) := by decide +kernel
theorem dX9_isCovered_28 : decode cX9_isCovered 28 = .ok (.if_icmp .ne 48, 3) := by decide +kernel
theorem dX9_isCovered_31 : decode cX9_isCovered 31 = .ok (.aload_n 0, 1) := by decide +kernel
theorem dX9_isCovered_32 : decode cX9_isCovered 32 = .ok (.getfield 92, 3) := by decide +kernel
theorem dX9_isCovered_35 : decode cX9_isCovered 35 = .ok (.iload 5, 2) := by decide +kernel
theorem dX9_isCovered_37 : decode cX9_isCovered 37 = .ok (.iaload, 1) := by decide +kernel
theorem dX9_isCovered_38 : decode cX9_isCovered 38 = .ok (.iload_n 2, 1) := by decide +kernel
theorem dX9_isCovered_39 : decode cX9_isCovered 39 = .ok (.if_icmp .ne 37, 3) := by decide +kernel
theorem dX9_isCovered_42 : decode cX9_isCovered 42 = .ok (.iload_n 3, 1) := by decide +kernel
theorem dX9_isCovered_43 : decode cX9_isCovered 43 = .ok (.aload_n 0, 1) := by decide +kernel
theorem dX9_isCovered_44 : decode cX9_isCovered 44 = .ok (.getfield 95, 3) := by decide +kernel
theorem dX9_isCovered_47 : decode cX9_isCovered 47 = .ok (.iload 5, 2) := by decide +kernel
theorem dX9_isCovered_49 : decode cX9_isCovered 49 = .ok (.iaload, 1) := by decide +kernel
theorem dX9_isCovered_50 : decode cX9_isCovered 50 = .ok (.if_icmp .lt 26, 3) := by decide +kernel
theorem dX9_isCovered_53 : decode cX9_isCovered 53 = .ok (.iload_n 3, 1) := by decide +kernel
theorem dX9_isCovered_54 : decode cX9_isCovered 54 = .ok (.aload_n 0, 1) := by decide +kernel
theorem dX9_isCovered_55 : decode cX9_isCovered 55 = .ok (.getfield 95, 3) := by decide +kernel
theorem dX9_isCovered_58 : decode cX9_isCovered 58 = .ok (.iload 5, 2) := by decide +kernel
theorem dX9_isCovered_60 : decode cX9_isCovered 60 = .ok (.iaload, 1) := by decide +kernel
theorem dX9_isCovered_61 : decode cX9_isCovered 61 = .ok (.aload_n 0, 1) := by decide +kernel
theorem dX9_isCovered_62 : decode cX9_isCovered 62 = .ok (.getfield 98, 3) := by decide +kernel
theorem dX9_isCovered_65 : decode cX9_isCovered 65 = .ok (.iload 5, 2) := by decide +kernel
theorem dX9_isCovered_67 : decode cX9_isCovered 67 = .ok (.iaload, 1) := by decide +kernel
theorem dX9_isCovered_68 : decode cX9_isCovered 68 = .ok (.iadd, 1) := by decide +kernel
theorem dX9_isCovered_69 : decode cX9_isCovered 69 = .ok (.if_icmp .ge 7, 3) := by decide +kernel
theorem dX9_isCovered_72 : decode cX9_isCovered 72 = .ok (.iconst 1, 1) := by decide +kernel
theorem dX9_isCovered_73 : decode cX9_isCovered 73 = .ok (.goto 4, 3) := by decide +kernel
theorem dX9_isCovered_76 : decode cX9_isCovered 76 = .ok (.iconst 0, 1) := by decide +kernel
theorem dX9_isCovered_77 : decode cX9_isCovered 77 = .ok (.istore 4, 2) := by decide +kernel
theorem dX9_isCovered_79 : decode cX9_isCovered 79 = .ok (.iinc 5 1, 3) := by decide +kernel
theorem dX9_isCovered_82 : decode cX9_isCovered 82 = .ok (.goto (-76), 3) := by decide +kernel
theorem dX9_isCovered_85 : decode cX9_isCovered 85 = .ok (.iload 4, 2) := by decide +kernel
theorem dX9_isCovered_87 : decode cX9_isCovered 87 = .ok (.ireturn, 1) := by decide +kernel
theorem dX9_isBlockedAt_0 : decode cX9_isBlockedAt 0 = .ok (.iconst 0, 1) := by decide +kernel
theorem dX9_isBlockedAt_1 : decode cX9_isBlockedAt 1 = .ok (.istore_n 2, 1) := by decide +kernel
theorem dX9_isBlockedAt_2 : decode cX9_isBlockedAt 2 = .ok (.iconst 0, 1) := by decide +kernel
theorem dX9_isBlockedAt_3 : decode cX9_isBlockedAt 3 = .ok (.istore_n 3, 1) := by decide +kernel
theorem dX9_isBlockedAt_4 : decode cX9_isBlockedAt 4 = .ok (.iload_n 3, 1) := by decide +kernel
theorem dX9_isBlockedAt_5 : decode cX9_isBlockedAt 5 = .ok (.aload_n 0, 1) := by decide +kernel
theorem dX9_isBlockedAt_6 : decode cX9_isBlockedAt 6 = .ok (.getfield 56, 3) := by decide +kernel
theorem dX9_isBlockedAt_9 : decode cX9_isBlockedAt 9 = .ok (.iload_n 1, 1) := by decide +kernel
theorem dX9_isBlockedAt_10 : decode cX9_isBlockedAt 10 = .ok (.iaload, 1) := by decide +kernel
theorem dX9_isBlockedAt_11 : decode cX9_isBlockedAt 11 = .ok (.if_icmp .ge 45, 3) := by decide +kernel
theorem dX9_isBlockedAt_14 : decode cX9_isBlockedAt 14 = .ok (.iload_n 2, 1) := by decide +kernel
theorem dX9_isBlockedAt_15 : decode cX9_isBlockedAt 15 = .ok (.ifCond .ne 29, 3) := by decide +kernel
theorem dX9_isBlockedAt_18 : decode cX9_isBlockedAt 18 = .ok (.aload_n 0, 1) := by decide +kernel
theorem dX9_isBlockedAt_19 : decode cX9_isBlockedAt 19 = .ok (.getfield 7, 3) := by decide +kernel
theorem dX9_isBlockedAt_22 : decode cX9_isBlockedAt 22 = .ok (.bipush 60, 2) := by decide +kernel
theorem dX9_isBlockedAt_24 : decode cX9_isBlockedAt 24 = .ok (.aload_n 0, 1) := by decide +kernel
theorem dX9_isBlockedAt_25 : decode cX9_isBlockedAt 25 = .ok (.getfield 62, 3) := by decide +kernel
theorem dX9_isBlockedAt_28 : decode cX9_isBlockedAt 28 = .ok (.iload_n 1, 1) := by decide +kernel
theorem dX9_isBlockedAt_29 : decode cX9_isBlockedAt 29 = .ok (.iaload, 1) := by decide +kernel
theorem dX9_isBlockedAt_30 : decode cX9_isBlockedAt 30 = .ok (.imul, 1) := by decide +kernel
theorem dX9_isBlockedAt_31 : decode cX9_isBlockedAt 31 = .ok (.aload_n 0, 1) := by decide +kernel
theorem dX9_isBlockedAt_32 : decode cX9_isBlockedAt 32 = .ok (.getfield 65, 3) := by decide +kernel
theorem dX9_isBlockedAt_35 : decode cX9_isBlockedAt 35 = .ok (.iload_n 1, 1) := by decide +kernel
theorem dX9_isBlockedAt_36 : decode cX9_isBlockedAt 36 = .ok (.iaload, 1) := by decide +kernel
theorem dX9_isBlockedAt_37 : decode cX9_isBlockedAt 37 = .ok (.iadd, 1) := by decide +kernel
theorem dX9_isBlockedAt_38 : decode cX9_isBlockedAt 38 = .ok (.iload_n 3, 1) := by decide +kernel
theorem dX9_isBlockedAt_39 : decode cX9_isBlockedAt 39 = .ok (.iadd, 1) := by decide +kernel
theorem dX9_isBlockedAt_40 : decode cX9_isBlockedAt 40 = .ok (.baload, 1) := by decide +kernel
theorem dX9_isBlockedAt_41 : decode cX9_isBlockedAt 41 = .ok (.ifCond .eq 7, 3) := by decide +kernel
theorem dX9_isBlockedAt_44 : decode cX9_isBlockedAt 44 = .ok (.iconst 1, 1) := by decide +kernel
theorem dX9_isBlockedAt_45 : decode cX9_isBlockedAt 45 = .ok (.goto 4, 3) := by decide +kernel
theorem dX9_isBlockedAt_48 : decode cX9_isBlockedAt 48 = .ok (.iconst 0, 1) := by decide +kernel
theorem dX9_isBlockedAt_49 : decode cX9_isBlockedAt 49 = .ok (.istore_n 2, 1) := by decide +kernel
theorem dX9_isBlockedAt_50 : decode cX9_isBlockedAt 50 = .ok (.iinc 3 1, 3) := by decide +kernel
theorem dX9_isBlockedAt_53 : decode cX9_isBlockedAt 53 = .ok (.goto (-49), 3) := by decide +kernel
theorem dX9_isBlockedAt_56 : decode cX9_isBlockedAt 56 = .ok (.iload_n 2, 1) := by decide +kernel
theorem dX9_isBlockedAt_57 : decode cX9_isBlockedAt 57 = .ok (.ireturn, 1) := by decide +kernel
theorem dX9_isForbidden_0 : decode cX9_isForbidden 0 = .ok (.aload_n 0, 1) := by decide +kernel
theorem dX9_isForbidden_1 : decode cX9_isForbidden 1 = .ok (.iload_n 1, 1) := by decide +kernel
theorem dX9_isForbidden_2 : decode cX9_isForbidden 2 = .ok (.iload_n 2, 1) := by decide +kernel
theorem dX9_isForbidden_3 : decode cX9_isForbidden 3 = .ok (.iload 4, 2) := by decide +kernel
theorem dX9_isForbidden_5 : decode cX9_isForbidden 5 = .ok (.bipush 96, 2) := by decide +kernel
theorem dX9_isForbidden_7 : decode cX9_isForbidden 7 = .ok (.idiv, 1) := by decide +kernel
theorem dX9_isForbidden_8 : decode cX9_isForbidden 8 = .ok (.invokevirtual 225, 3) := by decide +kernel
theorem dX9_isForbidden_11 : decode cX9_isForbidden 11 = .ok (.istore 5, 2) := by decide +kernel
theorem dX9_isForbidden_13 : decode cX9_isForbidden 13 = .ok (.iconst 0, 1) := by decide +kernel
theorem dX9_isForbidden_14 : decode cX9_isForbidden 14 = .ok (.istore 6, 2) := by decide +kernel
theorem dX9_isForbidden_16 : decode cX9_isForbidden 16 = .ok (.iconst 0, 1) := by decide +kernel
theorem dX9_isForbidden_17 : decode cX9_isForbidden 17 = .ok (.istore 7, 2) := by decide +kernel
theorem dX9_isForbidden_19 : decode cX9_isForbidden 19 = .ok (.iload 7, 2) := by decide +kernel
theorem dX9_isForbidden_21 : decode cX9_isForbidden 21 = .ok (.aload_n 0, 1) := by decide +kernel
theorem dX9_isForbidden_22 : decode cX9_isForbidden 22 = .ok (.getfield 56, 3) := by decide +kernel
theorem dX9_isForbidden_25 : decode cX9_isForbidden 25 = .ok (.iload_n 1, 1) := by decide +kernel
theorem dX9_isForbidden_26 : decode cX9_isForbidden 26 = .ok (.iaload, 1) := by decide +kernel
theorem dX9_isForbidden_27 : decode cX9_isForbidden 27 = .ok (.if_icmp .ge 55, 3) := by decide +kernel
theorem dX9_isForbidden_30 : decode cX9_isForbidden 30 = .ok (.iload 6, 2) := by decide +kernel
theorem dX9_isForbidden_32 : decode cX9_isForbidden 32 = .ok (.ifCond .ne 50, 3) := by decide +kernel
theorem dX9_isForbidden_35 : decode cX9_isForbidden 35 = .ok (.aload_n 0, 1) := by decide +kernel
theorem dX9_isForbidden_36 : decode cX9_isForbidden 36 = .ok (.iload_n 2, 1) := by decide +kernel
theorem dX9_isForbidden_37 : decode cX9_isForbidden 37 = .ok (.iload_n 3, 1) := by decide +kernel
theorem dX9_isForbidden_38 : decode cX9_isForbidden 38 = .ok (.iload 7, 2) := by decide +kernel
theorem dX9_isForbidden_40 : decode cX9_isForbidden 40 = .ok (.iadd, 1) := by decide +kernel
theorem dX9_isForbidden_41 : decode cX9_isForbidden 41 = .ok (.iload 4, 2) := by decide +kernel
theorem dX9_isForbidden_43 : decode cX9_isForbidden 43 = .ok (.invokevirtual 205, 3) := by decide +kernel
theorem dX9_isForbidden_46 : decode cX9_isForbidden 46 = .ok (.istore 8, 2) := by decide +kernel
theorem dX9_isForbidden_48 : decode cX9_isForbidden 48 = .ok (.iload 8, 2) := by decide +kernel
theorem dX9_isForbidden_50 : decode cX9_isForbidden 50 = .ok (.iconst (-1), 1) := by decide +kernel
theorem dX9_isForbidden_51 : decode cX9_isForbidden 51 = .ok (.if_icmp .eq 22, 3) := by decide +kernel
theorem dX9_isForbidden_54 : decode cX9_isForbidden 54 = .ok (.aload_n 0, 1) := by decide +kernel
theorem dX9_isForbidden_55 : decode cX9_isForbidden 55 = .ok (.getfield 23, 3) := by decide +kernel
theorem dX9_isForbidden_58 : decode cX9_isForbidden 58 = .ok (.iload 8, 2) := by decide +kernel
theorem dX9_isForbidden_60 : decode cX9_isForbidden 60 = .ok (.iaload, 1) := by decide +kernel
theorem dX9_isForbidden_61 : decode cX9_isForbidden 61 = .ok (.iload 5, 2) := by decide +kernel
theorem dX9_isForbidden_63 : decode cX9_isForbidden 63 = .ok (.invokestatic 194, 3) := by decide +kernel
theorem dX9_isForbidden_66 : decode cX9_isForbidden 66 = .ok (.ifCond .ne 7, 3) := by decide +kernel
theorem dX9_isForbidden_69 : decode cX9_isForbidden 69 = .ok (.iconst 1, 1) := by decide +kernel
theorem dX9_isForbidden_70 : decode cX9_isForbidden 70 = .ok (.goto 4, 3) := by decide +kernel
theorem dX9_isForbidden_73 : decode cX9_isForbidden 73 = .ok (.iconst 0, 1) := by decide +kernel
theorem dX9_isForbidden_74 : decode cX9_isForbidden 74 = .ok (.istore 6, 2) := by decide +kernel
theorem dX9_isForbidden_76 : decode cX9_isForbidden 76 = .ok (.iinc 7 1, 3) := by decide +kernel
theorem dX9_isForbidden_79 : decode cX9_isForbidden 79 = .ok (.goto (-60), 3) := by decide +kernel
theorem dX9_isForbidden_82 : decode cX9_isForbidden 82 = .ok (.iload 6, 2) := by decide +kernel
theorem dX9_isForbidden_84 : decode cX9_isForbidden 84 = .ok (.ireturn, 1) := by decide +kernel
theorem dX9_judged_0 : decode cX9_judged 0 = .ok (.aload_n 0, 1) := by decide +kernel
theorem dX9_judged_1 : decode cX9_judged 1 = .ok (.iload_n 1, 1) := by decide +kernel
theorem dX9_judged_2 : decode cX9_judged 2 = .ok (.iload_n 2, 1) := by decide +kernel
theorem dX9_judged_3 : decode cX9_judged 3 = .ok (.iload_n 3, 1) := by decide +kernel
theorem dX9_judged_4 : decode cX9_judged 4 = .ok (.iload 5, 2) := by decide +kernel
theorem dX9_judged_6 : decode cX9_judged 6 = .ok (.invokevirtual 234, 3) := by decide +kernel
theorem dX9_judged_9 : decode cX9_judged 9 = .ok (.ifCond .eq 5, 3) := by decide +kernel
theorem dX9_judged_12 : decode cX9_judged 12 = .ok (.iconst 2, 1) := by decide +kernel
theorem dX9_judged_13 : decode cX9_judged 13 = .ok (.ireturn, 1) := by decide +kernel
theorem dX9_judged_14 : decode cX9_judged 14 = .ok (.aload_n 0, 1) := by decide +kernel
theorem dX9_judged_15 : decode cX9_judged 15 = .ok (.iload_n 2, 1) := by decide +kernel
theorem dX9_judged_16 : decode cX9_judged 16 = .ok (.iload_n 3, 1) := by decide +kernel
theorem dX9_judged_17 : decode cX9_judged 17 = .ok (.iload 5, 2) := by decide +kernel
theorem dX9_judged_19 : decode cX9_judged 19 = .ok (.invokevirtual 205, 3) := by decide +kernel
theorem dX9_judged_22 : decode cX9_judged 22 = .ok (.istore 6, 2) := by decide +kernel
theorem dX9_judged_24 : decode cX9_judged 24 = .ok (.iload 5, 2) := by decide +kernel
theorem dX9_judged_26 : decode cX9_judged 26 = .ok (.iload 4, 2) := by decide +kernel
theorem dX9_judged_28 : decode cX9_judged 28 = .ok (.isub, 1) := by decide +kernel
theorem dX9_judged_29 : decode cX9_judged 29 = .ok (.istore 7, 2) := by decide +kernel
theorem dX9_judged_31 : decode cX9_judged 31 = .ok (.iload 6, 2) := by decide +kernel
theorem dX9_judged_33 : decode cX9_judged 33 = .ok (.iconst (-1), 1) := by decide +kernel
theorem dX9_judged_34 : decode cX9_judged 34 = .ok (.if_icmp .eq 29, 3) := by decide +kernel
theorem dX9_judged_37 : decode cX9_judged 37 = .ok (.aload_n 0, 1) := by decide +kernel
theorem dX9_judged_38 : decode cX9_judged 38 = .ok (.getfield 26, 3) := by decide +kernel
theorem dX9_judged_41 : decode cX9_judged 41 = .ok (.iload 6, 2) := by decide +kernel
theorem dX9_judged_43 : decode cX9_judged 43 = .ok (.iaload, 1) := by decide +kernel
theorem dX9_judged_44 : decode cX9_judged 44 = .ok (.ifCond .le 19, 3) := by decide +kernel
theorem dX9_judged_47 : decode cX9_judged 47 = .ok (.iload 7, 2) := by decide +kernel
theorem dX9_judged_49 : decode cX9_judged 49 = .ok (.aload_n 0, 1) := by decide +kernel
theorem dX9_judged_50 : decode cX9_judged 50 = .ok (.getfield 26, 3) := by decide +kernel
theorem dX9_judged_53 : decode cX9_judged 53 = .ok (.iload 6, 2) := by decide +kernel
theorem dX9_judged_55 : decode cX9_judged 55 = .ok (.iaload, 1) := by decide +kernel
theorem dX9_judged_56 : decode cX9_judged 56 = .ok (.iconst 1, 1) := by decide +kernel
theorem dX9_judged_57 : decode cX9_judged 57 = .ok (.iadd, 1) := by decide +kernel
theorem dX9_judged_58 : decode cX9_judged 58 = .ok (.if_icmp .le 5, 3) := by decide +kernel
theorem dX9_judged_61 : decode cX9_judged 61 = .ok (.iconst 3, 1) := by decide +kernel
theorem dX9_judged_62 : decode cX9_judged 62 = .ok (.ireturn, 1) := by decide +kernel
theorem dX9_judged_63 : decode cX9_judged 63 = .ok (.iload 6, 2) := by decide +kernel
theorem dX9_judged_65 : decode cX9_judged 65 = .ok (.iconst (-1), 1) := by decide +kernel
theorem dX9_judged_66 : decode cX9_judged 66 = .ok (.if_icmp .eq 34, 3) := by decide +kernel
theorem dX9_judged_69 : decode cX9_judged 69 = .ok (.aload_n 0, 1) := by decide +kernel
theorem dX9_judged_70 : decode cX9_judged 70 = .ok (.getfield 29, 3) := by decide +kernel
theorem dX9_judged_73 : decode cX9_judged 73 = .ok (.iload 6, 2) := by decide +kernel
theorem dX9_judged_75 : decode cX9_judged 75 = .ok (.baload, 1) := by decide +kernel
theorem dX9_judged_76 : decode cX9_judged 76 = .ok (.ifCond .eq 24, 3) := by decide +kernel
theorem dX9_judged_79 : decode cX9_judged 79 = .ok (.iload 7, 2) := by decide +kernel
theorem dX9_judged_81 : decode cX9_judged 81 = .ok (.iconst 1, 1) := by decide +kernel
theorem dX9_judged_82 : decode cX9_judged 82 = .ok (.if_icmp .le 18, 3) := by decide +kernel
theorem dX9_judged_85 : decode cX9_judged 85 = .ok (.aload_n 0, 1) := by decide +kernel
theorem dX9_judged_86 : decode cX9_judged 86 = .ok (.iload_n 1, 1) := by decide +kernel
theorem dX9_judged_87 : decode cX9_judged 87 = .ok (.iload_n 2, 1) := by decide +kernel
theorem dX9_judged_88 : decode cX9_judged 88 = .ok (.iload 5, 2) := by decide +kernel
theorem dX9_judged_90 : decode cX9_judged 90 = .ok (.invokevirtual 237, 3) := by decide +kernel
theorem dX9_judged_93 : decode cX9_judged 93 = .ok (.ifCond .ne 7, 3) := by decide +kernel
theorem dX9_judged_96 : decode cX9_judged 96 = .ok (.iconst 4, 1) := by decide +kernel
theorem dX9_judged_97 : decode cX9_judged 97 = .ok (.goto 4, 3) := by decide +kernel
theorem dX9_judged_100 : decode cX9_judged 100 = .ok (.iconst 0, 1) := by decide +kernel
theorem dX9_judged_101 : decode cX9_judged 101 = .ok (.ireturn, 1) := by decide +kernel
theorem dX9_judgedNow_0 : decode cX9_judgedNow 0 = .ok (.aload_n 0, 1) := by decide +kernel
theorem dX9_judgedNow_1 : decode cX9_judgedNow 1 = .ok (.iload_n 1, 1) := by decide +kernel
theorem dX9_judgedNow_2 : decode cX9_judgedNow 2 = .ok (.invokevirtual 240, 3) := by decide +kernel
theorem dX9_judgedNow_5 : decode cX9_judgedNow 5 = .ok (.ifCond .eq 7, 3) := by decide +kernel
theorem dX9_judgedNow_8 : decode cX9_judgedNow 8 = .ok (.iconst 1, 1) := by decide +kernel
theorem dX9_judgedNow_9 : decode cX9_judgedNow 9 = .ok (.goto 30, 3) := by decide +kernel
theorem dX9_judgedNow_12 : decode cX9_judgedNow 12 = .ok (.aload_n 0, 1) := by decide +kernel
theorem dX9_judgedNow_13 : decode cX9_judgedNow 13 = .ok (.iload_n 1, 1) := by decide +kernel
theorem dX9_judgedNow_14 : decode cX9_judgedNow 14 = .ok (.aload_n 0, 1) := by decide +kernel
theorem dX9_judgedNow_15 : decode cX9_judgedNow 15 = .ok (.getfield 62, 3) := by decide +kernel
theorem dX9_judgedNow_18 : decode cX9_judgedNow 18 = .ok (.iload_n 1, 1) := by decide +kernel
theorem dX9_judgedNow_19 : decode cX9_judgedNow 19 = .ok (.iaload, 1) := by decide +kernel
theorem dX9_judgedNow_20 : decode cX9_judgedNow 20 = .ok (.aload_n 0, 1) := by decide +kernel
theorem dX9_judgedNow_21 : decode cX9_judgedNow 21 = .ok (.getfield 65, 3) := by decide +kernel
theorem dX9_judgedNow_24 : decode cX9_judgedNow 24 = .ok (.iload_n 1, 1) := by decide +kernel
theorem dX9_judgedNow_25 : decode cX9_judgedNow 25 = .ok (.iaload, 1) := by decide +kernel
theorem dX9_judgedNow_26 : decode cX9_judgedNow 26 = .ok (.aload_n 0, 1) := by decide +kernel
theorem dX9_judgedNow_27 : decode cX9_judgedNow 27 = .ok (.getfield 68, 3) := by decide +kernel
theorem dX9_judgedNow_30 : decode cX9_judgedNow 30 = .ok (.iload_n 1, 1) := by decide +kernel
theorem dX9_judgedNow_31 : decode cX9_judgedNow 31 = .ok (.iaload, 1) := by decide +kernel
theorem dX9_judgedNow_32 : decode cX9_judgedNow 32 = .ok (.aload_n 0, 1) := by decide +kernel
theorem dX9_judgedNow_33 : decode cX9_judgedNow 33 = .ok (.getfield 189, 3) := by decide +kernel
theorem dX9_judgedNow_36 : decode cX9_judgedNow 36 = .ok (.invokevirtual 243, 3) := by decide +kernel
theorem dX9_judgedNow_39 : decode cX9_judgedNow 39 = .ok (.ireturn, 1) := by decide +kernel
theorem dX9_judge_0 : decode cX9_judge 0 = .ok (.aload_n 0, 1) := by decide +kernel
theorem dX9_judge_1 : decode cX9_judge 1 = .ok (.aload_n 0, 1) := by decide +kernel
theorem dX9_judge_2 : decode cX9_judge 2 = .ok (.iload_n 1, 1) := by decide +kernel
theorem dX9_judge_3 : decode cX9_judge 3 = .ok (.invokevirtual 219, 3) := by decide +kernel
theorem dX9_judge_6 : decode cX9_judge 6 = .ok (.iconst 1, 1) := by decide +kernel
theorem dX9_judge_7 : decode cX9_judge 7 = .ok (.iconst 1, 1) := by decide +kernel
theorem dX9_judge_8 : decode cX9_judge 8 = .ok (.invokevirtual 167, 3) := by decide +kernel
theorem dX9_judge_11 : decode cX9_judge 11 = .ok (.ifCond .ne 5, 3) := by decide +kernel
theorem dX9_judge_14 : decode cX9_judge 14 = .ok (.iconst 0, 1) := by decide +kernel
theorem dX9_judge_15 : decode cX9_judge 15 = .ok (.ireturn, 1) := by decide +kernel
theorem dX9_judge_16 : decode cX9_judge 16 = .ok (.aload_n 0, 1) := by decide +kernel
theorem dX9_judge_17 : decode cX9_judge 17 = .ok (.getfield 62, 3) := by decide +kernel
theorem dX9_judge_20 : decode cX9_judge 20 = .ok (.iload_n 1, 1) := by decide +kernel
theorem dX9_judge_21 : decode cX9_judge 21 = .ok (.iaload, 1) := by decide +kernel
theorem dX9_judge_22 : decode cX9_judge 22 = .ok (.iconst (-1), 1) := by decide +kernel
theorem dX9_judge_23 : decode cX9_judge 23 = .ok (.if_icmp .ne 7, 3) := by decide +kernel
theorem dX9_judge_26 : decode cX9_judge 26 = .ok (.iconst (-1), 1) := by decide +kernel
theorem dX9_judge_27 : decode cX9_judge 27 = .ok (.goto 8, 3) := by decide +kernel
theorem dX9_judge_30 : decode cX9_judge 30 = .ok (.aload_n 0, 1) := by decide +kernel
theorem dX9_judge_31 : decode cX9_judge 31 = .ok (.iload_n 1, 1) := by decide +kernel
theorem dX9_judge_32 : decode cX9_judge 32 = .ok (.invokevirtual 247, 3) := by decide +kernel
theorem dX9_judge_35 : decode cX9_judge 35 = .ok (.ireturn, 1) := by decide +kernel
theorem dX9_hasFine_0 : decode cX9_hasFine 0 = .ok (.iconst 0, 1) := by decide +kernel
theorem dX9_hasFine_1 : decode cX9_hasFine 1 = .ok (.istore_n 2, 1) := by decide +kernel
theorem dX9_hasFine_2 : decode cX9_hasFine 2 = .ok (.iconst 0, 1) := by decide +kernel
theorem dX9_hasFine_3 : decode cX9_hasFine 3 = .ok (.istore_n 3, 1) := by decide +kernel
theorem dX9_hasFine_4 : decode cX9_hasFine 4 = .ok (.iload_n 3, 1) := by decide +kernel
theorem dX9_hasFine_5 : decode cX9_hasFine 5 = .ok (.aload_n 0, 1) := by decide +kernel
theorem dX9_hasFine_6 : decode cX9_hasFine 6 = .ok (.getfield 251, 3) := by decide +kernel
theorem dX9_hasFine_9 : decode cX9_hasFine 9 = .ok (.if_icmp .ge 63, 3) := by decide +kernel
theorem dX9_hasFine_12 : decode cX9_hasFine 12 = .ok (.iload_n 2, 1) := by decide +kernel
theorem dX9_hasFine_13 : decode cX9_hasFine 13 = .ok (.ifCond .ne 47, 3) := by decide +kernel
theorem dX9_hasFine_16 : decode cX9_hasFine 16 = .ok (.aload_n 0, 1) := by decide +kernel
theorem dX9_hasFine_17 : decode cX9_hasFine 17 = .ok (.getfield 101, 3) := by decide +kernel
theorem dX9_hasFine_20 : decode cX9_hasFine 20 = .ok (.iload_n 3, 1) := by decide +kernel
theorem dX9_hasFine_21 : decode cX9_hasFine 21 = .ok (.iaload, 1) := by decide +kernel
theorem dX9_hasFine_22 : decode cX9_hasFine 22 = .ok (.iload_n 1, 1) := by decide +kernel
theorem dX9_hasFine_23 : decode cX9_hasFine 23 = .ok (.if_icmp .ne 41, 3) := by decide +kernel
theorem dX9_hasFine_26 : decode cX9_hasFine 26 = .ok (.aload_n 0, 1) := by decide +kernel
theorem dX9_hasFine_27 : decode cX9_hasFine 27 = .ok (.getfield 113, 3) := by decide +kernel
