theorem dX8_signThatCounts_52 : decode cX8_signThatCounts 52 = .ok (.invokevirtual 297, 3) := by decide +kernel
theorem dX8_signThatCounts_55 : decode cX8_signThatCounts 55 = .ok (.ifCond .eq 7, 3) := by decide +kernel
theorem dX8_signThatCounts_58 : decode cX8_signThatCounts 58 = .ok (.aload 6, 2) := by decide +kernel
theorem dX8_signThatCounts_60 : decode cX8_signThatCounts 60 = .ok (.astore 4, 2) := by decide +kernel
theorem dX8_signThatCounts_62 : decode cX8_signThatCounts 62 = .ok (.iinc 5 1, 3) := by decide +kernel
theorem dX8_signThatCounts_65 : decode cX8_signThatCounts 65 = .ok (.goto (-59), 3) := by decide +kernel
theorem dX8_signThatCounts_68 : decode cX8_signThatCounts 68 = .ok (.aload 4, 2) := by decide +kernel
theorem dX8_signThatCounts_70 : decode cX8_signThatCounts 70 = .ok (.areturn, 1) := by decide +kernel
theorem dX8_isLeftOut_0 : decode cX8_isLeftOut 0 = .ok (.iconst 0, 1) := by decide +kernel
theorem dX8_isLeftOut_1 : decode cX8_isLeftOut 1 = .ok (.istore 4, 2) := by decide +kernel
theorem dX8_isLeftOut_3 : decode cX8_isLeftOut 3 = .ok (.iload 4, 2) := by decide +kernel
theorem dX8_isLeftOut_5 : decode cX8_isLeftOut 5 = .ok (.aload_n 0, 1) := by decide +kernel
theorem dX8_isLeftOut_6 : decode cX8_isLeftOut 6 = .ok (.getfield 16, 3) := by decide +kernel
theorem dX8_isLeftOut_9 : decode cX8_isLeftOut 9 = .ok (.invokevirtual 88, 3) := by decide +kernel
theorem dX8_isLeftOut_12 : decode cX8_isLeftOut 12 = .ok (.if_icmp .ge 48, 3) := by decide +kernel
theorem dX8_isLeftOut_15 : decode cX8_isLeftOut 15 = .ok (.aload_n 0, 1) := by decide +kernel
theorem dX8_isLeftOut_16 : decode cX8_isLeftOut 16 = .ok (.getfield 16, 3) := by decide +kernel
theorem dX8_isLeftOut_19 : decode cX8_isLeftOut 19 = .ok (.iload 4, 2) := by decide +kernel
theorem dX8_isLeftOut_21 : decode cX8_isLeftOut 21 = .ok (.invokevirtual 122, 3) := by decide +kernel
theorem dX8_isLeftOut_24 : decode cX8_isLeftOut 24 = .ok (.checkcast 95, 3) := by decide +kernel
theorem dX8_isLeftOut_27 : decode cX8_isLeftOut 27 = .ok (.astore 5, 2) := by decide +kernel
theorem dX8_isLeftOut_29 : decode cX8_isLeftOut 29 = .ok (.aload 5, 2) := by decide +kernel
theorem dX8_isLeftOut_31 : decode cX8_isLeftOut 31 = .ok (.aload_n 1, 1) := by decide +kernel
theorem dX8_isLeftOut_32 : decode cX8_isLeftOut 32 = .ok (.getfield 301, 3) := by decide +kernel
theorem dX8_isLeftOut_35 : decode cX8_isLeftOut 35 = .ok (.iload_n 2, 1) := by decide +kernel
theorem dX8_isLeftOut_36 : decode cX8_isLeftOut 36 = .ok (.iload_n 3, 1) := by decide +kernel
theorem dX8_isLeftOut_37 : decode cX8_isLeftOut 37 = .ok (.invokevirtual 134, 3) := by decide +kernel
theorem dX8_isLeftOut_40 : decode cX8_isLeftOut 40 = .ok (.ifCond .eq 14, 3) := by decide +kernel
theorem dX8_isLeftOut_43 : decode cX8_isLeftOut 43 = .ok (.aload 5, 2) := by decide +kernel
theorem dX8_isLeftOut_45 : decode cX8_isLeftOut 45 = .ok (.aload_n 1, 1) := by decide +kernel
theorem dX8_isLeftOut_46 : decode cX8_isLeftOut 46 = .ok (.invokevirtual 297, 3) := by decide +kernel
theorem dX8_isLeftOut_49 : decode cX8_isLeftOut 49 = .ok (.ifCond .eq 5, 3) := by decide +kernel
theorem dX8_isLeftOut_52 : decode cX8_isLeftOut 52 = .ok (.iconst 1, 1) := by decide +kernel
theorem dX8_isLeftOut_53 : decode cX8_isLeftOut 53 = .ok (.ireturn, 1) := by decide +kernel
theorem dX8_isLeftOut_54 : decode cX8_isLeftOut 54 = .ok (.iinc 4 1, 3) := by decide +kernel
theorem dX8_isLeftOut_57 : decode cX8_isLeftOut 57 = .ok (.goto (-54), 3) := by decide +kernel
theorem dX8_isLeftOut_60 : decode cX8_isLeftOut 60 = .ok (.iconst 0, 1) := by decide +kernel
theorem dX8_isLeftOut_61 : decode cX8_isLeftOut 61 = .ok (.ireturn, 1) := by decide +kernel
theorem dX8_isHomeFull_0 : decode cX8_isHomeFull 0 = .ok (.aload_n 0, 1) := by decide +kernel
theorem dX8_isHomeFull_1 : decode cX8_isHomeFull 1 = .ok (.iload_n 1, 1) := by decide +kernel
theorem dX8_isHomeFull_2 : decode cX8_isHomeFull 2 = .ok (.iload_n 2, 1) := by decide +kernel
theorem dX8_isHomeFull_3 : decode cX8_isHomeFull 3 = .ok (.invokevirtual 302, 3) := by decide +kernel
theorem dX8_isHomeFull_6 : decode cX8_isHomeFull 6 = .ok (.iconst 2, 1) := by decide +kernel
theorem dX8_isHomeFull_7 : decode cX8_isHomeFull 7 = .ok (.if_icmp .lt 5, 3) := by decide +kernel
theorem dX8_isHomeFull_10 : decode cX8_isHomeFull 10 = .ok (.iconst 1, 1) := by decide +kernel
theorem dX8_isHomeFull_11 : decode cX8_isHomeFull 11 = .ok (.ireturn, 1) := by decide +kernel
theorem dX8_isHomeFull_12 : decode cX8_isHomeFull 12 = .ok (.iconst 0, 1) := by decide +kernel
theorem dX8_isHomeFull_13 : decode cX8_isHomeFull 13 = .ok (.istore 4, 2) := by decide +kernel
theorem dX8_isHomeFull_15 : decode cX8_isHomeFull 15 = .ok (.iload 4, 2) := by decide +kernel
theorem dX8_isHomeFull_17 : decode cX8_isHomeFull 17 = .ok (.aload_n 0, 1) := by decide +kernel
theorem dX8_isHomeFull_18 : decode cX8_isHomeFull 18 = .ok (.getfield 22, 3) := by decide +kernel
theorem dX8_isHomeFull_21 : decode cX8_isHomeFull 21 = .ok (.invokevirtual 88, 3) := by decide +kernel
theorem dX8_isHomeFull_24 : decode cX8_isHomeFull 24 = .ok (.if_icmp .ge 49, 3) := by decide +kernel
theorem dX8_isHomeFull_27 : decode cX8_isHomeFull 27 = .ok (.aload_n 0, 1) := by decide +kernel
theorem dX8_isHomeFull_28 : decode cX8_isHomeFull 28 = .ok (.getfield 22, 3) := by decide +kernel
theorem dX8_isHomeFull_31 : decode cX8_isHomeFull 31 = .ok (.iload 4, 2) := by decide +kernel
theorem dX8_isHomeFull_33 : decode cX8_isHomeFull 33 = .ok (.invokevirtual 122, 3) := by decide +kernel
theorem dX8_isHomeFull_36 : decode cX8_isHomeFull 36 = .ok (.checkcast 155, 3) := by decide +kernel
theorem dX8_isHomeFull_39 : decode cX8_isHomeFull 39 = .ok (.getfield 305, 3) := by decide +kernel
theorem dX8_isHomeFull_42 : decode cX8_isHomeFull 42 = .ok (.istore 5, 2) := by decide +kernel
theorem dX8_isHomeFull_44 : decode cX8_isHomeFull 44 = .ok (.iload 5, 2) := by decide +kernel
theorem dX8_isHomeFull_46 : decode cX8_isHomeFull 46 = .ok (.iload_n 2, 1) := by decide +kernel
theorem dX8_isHomeFull_47 : decode cX8_isHomeFull 47 = .ok (.iload_n 3, 1) := by decide +kernel
theorem dX8_isHomeFull_48 : decode cX8_isHomeFull 48 = .ok (.invokestatic 65, 3) := by decide +kernel
theorem dX8_isHomeFull_51 : decode cX8_isHomeFull 51 = .ok (.ifCond .eq 16, 3) := by decide +kernel
theorem dX8_isHomeFull_54 : decode cX8_isHomeFull 54 = .ok (.aload_n 0, 1) := by decide +kernel
theorem dX8_isHomeFull_55 : decode cX8_isHomeFull 55 = .ok (.iload_n 1, 1) := by decide +kernel
theorem dX8_isHomeFull_56 : decode cX8_isHomeFull 56 = .ok (.iload 5, 2) := by decide +kernel
theorem dX8_isHomeFull_58 : decode cX8_isHomeFull 58 = .ok (.invokevirtual 302, 3) := by decide +kernel
theorem dX8_isHomeFull_61 : decode cX8_isHomeFull 61 = .ok (.iconst 2, 1) := by decide +kernel
theorem dX8_isHomeFull_62 : decode cX8_isHomeFull 62 = .ok (.if_icmp .lt 5, 3) := by decide +kernel
theorem dX8_isHomeFull_65 : decode cX8_isHomeFull 65 = .ok (.iconst 1, 1) := by decide +kernel
theorem dX8_isHomeFull_66 : decode cX8_isHomeFull 66 = .ok (.ireturn, 1) := by decide +kernel
theorem dX8_isHomeFull_67 : decode cX8_isHomeFull 67 = .ok (.iinc 4 1, 3) := by decide +kernel
theorem dX8_isHomeFull_70 : decode cX8_isHomeFull 70 = .ok (.goto (-55), 3) := by decide +kernel
theorem dX8_isHomeFull_73 : decode cX8_isHomeFull 73 = .ok (.iconst 0, 1) := by decide +kernel
theorem dX8_isHomeFull_74 : decode cX8_isHomeFull 74 = .ok (.ireturn, 1) := by decide +kernel
theorem dX8_permitsOf_0 : decode cX8_permitsOf 0 = .ok (.iconst 0, 1) := by decide +kernel
theorem dX8_permitsOf_1 : decode cX8_permitsOf 1 = .ok (.istore_n 3, 1) := by decide +kernel
theorem dX8_permitsOf_2 : decode cX8_permitsOf 2 = .ok (.iconst 0, 1) := by decide +kernel
theorem dX8_permitsOf_3 : decode cX8_permitsOf 3 = .ok (.istore 4, 2) := by decide +kernel
theorem dX8_permitsOf_5 : decode cX8_permitsOf 5 = .ok (.iload 4, 2) := by decide +kernel
theorem dX8_permitsOf_7 : decode cX8_permitsOf 7 = .ok (.aload_n 0, 1) := by decide +kernel
theorem dX8_permitsOf_8 : decode cX8_permitsOf 8 = .ok (.getfield 22, 3) := by decide +kernel
theorem dX8_permitsOf_11 : decode cX8_permitsOf 11 = .ok (.invokevirtual 88, 3) := by decide +kernel
theorem dX8_permitsOf_14 : decode cX8_permitsOf 14 = .ok (.if_icmp .ge 44, 3) := by decide +kernel
theorem dX8_permitsOf_17 : decode cX8_permitsOf 17 = .ok (.aload_n 0, 1) := by decide +kernel
theorem dX8_permitsOf_18 : decode cX8_permitsOf 18 = .ok (.getfield 22, 3) := by decide +kernel
theorem dX8_permitsOf_21 : decode cX8_permitsOf 21 = .ok (.iload 4, 2) := by decide +kernel
theorem dX8_permitsOf_23 : decode cX8_permitsOf 23 = .ok (.invokevirtual 122, 3) := by decide +kernel
theorem dX8_permitsOf_26 : decode cX8_permitsOf 26 = .ok (.checkcast 155, 3) := by decide +kernel
theorem dX8_permitsOf_29 : decode cX8_permitsOf 29 = .ok (.astore 5, 2) := by decide +kernel
theorem dX8_permitsOf_31 : decode cX8_permitsOf 31 = .ok (.aload 5, 2) := by decide +kernel
theorem dX8_permitsOf_33 : decode cX8_permitsOf 33 = .ok (.getfield 308, 3) := by decide +kernel
theorem dX8_permitsOf_36 : decode cX8_permitsOf 36 = .ok (.iload_n 1, 1) := by decide +kernel
theorem dX8_permitsOf_37 : decode cX8_permitsOf 37 = .ok (.if_icmp .ne 15, 3) := by decide +kernel
theorem dX8_permitsOf_40 : decode cX8_permitsOf 40 = .ok (.aload 5, 2) := by decide +kernel
theorem dX8_permitsOf_42 : decode cX8_permitsOf 42 = .ok (.iload_n 2, 1) := by decide +kernel
theorem dX8_permitsOf_43 : decode cX8_permitsOf 43 = .ok (.invokevirtual 311, 3) := by decide +kernel
theorem dX8_permitsOf_46 : decode cX8_permitsOf 46 = .ok (.ifCond .eq 6, 3) := by decide +kernel
theorem dX8_permitsOf_49 : decode cX8_permitsOf 49 = .ok (.iinc 3 1, 3) := by decide +kernel
theorem dX8_permitsOf_52 : decode cX8_permitsOf 52 = .ok (.iinc 4 1, 3) := by decide +kernel
theorem dX8_permitsOf_55 : decode cX8_permitsOf 55 = .ok (.goto (-50), 3) := by decide +kernel
theorem dX8_permitsOf_58 : decode cX8_permitsOf 58 = .ok (.iload_n 3, 1) := by decide +kernel
theorem dX8_permitsOf_59 : decode cX8_permitsOf 59 = .ok (.ireturn, 1) := by decide +kernel
theorem dX8_userOf_0 : decode cX8_userOf 0 = .ok (.aload_n 1, 1) := by decide +kernel
theorem dX8_userOf_1 : decode cX8_userOf 1 = .ok (.getfield 314, 3) := by decide +kernel
theorem dX8_userOf_4 : decode cX8_userOf 4 = .ok (.ifCond .ne 20, 3) := by decide +kernel
theorem dX8_userOf_7 : decode cX8_userOf 7 = .ok (.aload_n 0, 1) := by decide +kernel
theorem dX8_userOf_8 : decode cX8_userOf 8 = .ok (.aload_n 1, 1) := by decide +kernel
theorem dX8_userOf_9 : decode cX8_userOf 9 = .ok (.iload_n 2, 1) := by decide +kernel
theorem dX8_userOf_10 : decode cX8_userOf 10 = .ok (.iload_n 3, 1) := by decide +kernel
theorem dX8_userOf_11 : decode cX8_userOf 11 = .ok (.bipush 96, 2) := by decide +kernel
theorem dX8_userOf_13 : decode cX8_userOf 13 = .ok (.idiv, 1) := by decide +kernel
theorem dX8_userOf_14 : decode cX8_userOf 14 = .ok (.invokevirtual 317, 3) := by decide +kernel
theorem dX8_userOf_17 : decode cX8_userOf 17 = .ok (.ifCond .ne 7, 3) := by decide +kernel
theorem dX8_userOf_20 : decode cX8_userOf 20 = .ok (.iconst 4, 1) := by decide +kernel
theorem dX8_userOf_21 : decode cX8_userOf 21 = .ok (.goto 7, 3) := by decide +kernel
theorem dX8_userOf_24 : decode cX8_userOf 24 = .ok (.aload_n 1, 1) := by decide +kernel
theorem dX8_userOf_25 : decode cX8_userOf 25 = .ok (.getfield 314, 3) := by decide +kernel
theorem dX8_userOf_28 : decode cX8_userOf 28 = .ok (.ireturn, 1) := by decide +kernel
theorem dX8_hasPermit_0 : decode cX8_hasPermit 0 = .ok (.iconst 0, 1) := by decide +kernel
theorem dX8_hasPermit_1 : decode cX8_hasPermit 1 = .ok (.istore 4, 2) := by decide +kernel
theorem dX8_hasPermit_3 : decode cX8_hasPermit 3 = .ok (.iload 4, 2) := by decide +kernel
theorem dX8_hasPermit_5 : decode cX8_hasPermit 5 = .ok (.aload_n 0, 1) := by decide +kernel
theorem dX8_hasPermit_6 : decode cX8_hasPermit 6 = .ok (.getfield 22, 3) := by decide +kernel
theorem dX8_hasPermit_9 : decode cX8_hasPermit 9 = .ok (.invokevirtual 88, 3) := by decide +kernel
theorem dX8_hasPermit_12 : decode cX8_hasPermit 12 = .ok (.if_icmp .ge 55, 3) := by decide +kernel
theorem dX8_hasPermit_15 : decode cX8_hasPermit 15 = .ok (.aload_n 0, 1) := by decide +kernel
theorem dX8_hasPermit_16 : decode cX8_hasPermit 16 = .ok (.getfield 22, 3) := by decide +kernel
theorem dX8_hasPermit_19 : decode cX8_hasPermit 19 = .ok (.iload 4, 2) := by decide +kernel
theorem dX8_hasPermit_21 : decode cX8_hasPermit 21 = .ok (.invokevirtual 122, 3) := by decide +kernel
theorem dX8_hasPermit_24 : decode cX8_hasPermit 24 = .ok (.checkcast 155, 3) := by decide +kernel
theorem dX8_hasPermit_27 : decode cX8_hasPermit 27 = .ok (.astore 5, 2) := by decide +kernel
theorem dX8_hasPermit_29 : decode cX8_hasPermit 29 = .ok (.aload 5, 2) := by decide +kernel
theorem dX8_hasPermit_31 : decode cX8_hasPermit 31 = .ok (.getfield 162, 3) := by decide +kernel
theorem dX8_hasPermit_34 : decode cX8_hasPermit 34 = .ok (.aload_n 1, 1) := by decide +kernel
theorem dX8_hasPermit_35 : decode cX8_hasPermit 35 = .ok (.getfield 145, 3) := by decide +kernel
theorem dX8_hasPermit_38 : decode cX8_hasPermit 38 = .ok (.if_icmp .ne 23, 3) := by decide +kernel
theorem dX8_hasPermit_41 : decode cX8_hasPermit 41 = .ok (.aload 5, 2) := by decide +kernel
theorem dX8_hasPermit_43 : decode cX8_hasPermit 43 = .ok (.getfield 321, 3) := by decide +kernel
theorem dX8_hasPermit_46 : decode cX8_hasPermit 46 = .ok (.iload_n 2, 1) := by decide +kernel
theorem dX8_hasPermit_47 : decode cX8_hasPermit 47 = .ok (.if_icmp .ne 14, 3) := by decide +kernel
theorem dX8_hasPermit_50 : decode cX8_hasPermit 50 = .ok (.aload 5, 2) := by decide +kernel
theorem dX8_hasPermit_52 : decode cX8_hasPermit 52 = .ok (.iload_n 3, 1) := by decide +kernel
theorem dX8_hasPermit_53 : decode cX8_hasPermit 53 = .ok (.invokevirtual 311, 3) := by decide +kernel
theorem dX8_hasPermit_56 : decode cX8_hasPermit 56 = .ok (.ifCond .eq 5, 3) := by decide +kernel
theorem dX8_hasPermit_59 : decode cX8_hasPermit 59 = .ok (.iconst 1, 1) := by decide +kernel
theorem dX8_hasPermit_60 : decode cX8_hasPermit 60 = .ok (.ireturn, 1) := by decide +kernel
theorem dX8_hasPermit_61 : decode cX8_hasPermit 61 = .ok (.iinc 4 1, 3) := by decide +kernel
theorem dX8_hasPermit_64 : decode cX8_hasPermit 64 = .ok (.goto (-61), 3) := by decide +kernel
theorem dX8_hasPermit_67 : decode cX8_hasPermit 67 = .ok (.iconst 0, 1) := by decide +kernel
theorem dX8_hasPermit_68 : decode cX8_hasPermit 68 = .ok (.ireturn, 1) := by decide +kernel
theorem dX8_isGap_0 : decode cX8_isGap 0 = .ok (.iload_n 2, 1) := by decide +kernel
theorem dX8_isGap_1 : decode cX8_isGap 1 = .ok (.iload_n 3, 1) := by decide +kernel
theorem dX8_isGap_2 : decode cX8_isGap 2 = .ok (.iadd, 1) := by decide +kernel
theorem dX8_isGap_3 : decode cX8_isGap 3 = .ok (.bipush 60, 2) := by decide +kernel
theorem dX8_isGap_5 : decode cX8_isGap 5 = .ok (.if_icmp .le 5, 3) := by decide +kernel
theorem dX8_isGap_8 : decode cX8_isGap 8 = .ok (.iconst 0, 1) := by decide +kernel
theorem dX8_isGap_9 : decode cX8_isGap 9 = .ok (.ireturn, 1) := by decide +kernel
theorem dX8_isGap_10 : decode cX8_isGap 10 = .ok (.iconst 0, 1) := by decide +kernel
theorem dX8_isGap_11 : decode cX8_isGap 11 = .ok (.istore 4, 2) := by decide +kernel
theorem dX8_isGap_13 : decode cX8_isGap 13 = .ok (.iload 4, 2) := by decide +kernel
theorem dX8_isGap_15 : decode cX8_isGap 15 = .ok (.aload_n 0, 1) := by decide +kernel
theorem dX8_isGap_16 : decode cX8_isGap 16 = .ok (.getfield 19, 3) := by decide +kernel
theorem dX8_isGap_19 : decode cX8_isGap 19 = .ok (.invokevirtual 88, 3) := by decide +kernel
theorem dX8_isGap_22 : decode cX8_isGap 22 = .ok (.if_icmp .ge 52, 3) := by decide +kernel
theorem dX8_isGap_25 : decode cX8_isGap 25 = .ok (.aload_n 0, 1) := by decide +kernel
theorem dX8_isGap_26 : decode cX8_isGap 26 = .ok (.getfield 19, 3) := by decide +kernel
theorem dX8_isGap_29 : decode cX8_isGap 29 = .ok (.iload 4, 2) := by decide +kernel
theorem dX8_isGap_31 : decode cX8_isGap 31 = .ok (.invokevirtual 122, 3) := by decide +kernel
theorem dX8_isGap_34 : decode cX8_isGap 34 = .ok (.checkcast 141, 3) := by decide +kernel
theorem dX8_isGap_37 : decode cX8_isGap 37 = .ok (.getfield 169, 3) := by decide +kernel
theorem dX8_isGap_40 : decode cX8_isGap 40 = .ok (.astore 5, 2) := by decide +kernel
theorem dX8_isGap_42 : decode cX8_isGap 42 = .ok (.aload 5, 2) := by decide +kernel
theorem dX8_isGap_44 : decode cX8_isGap 44 = .ok (.ifnull 24, 3) := by decide +kernel
theorem dX8_isGap_47 : decode cX8_isGap 47 = .ok (.aload 5, 2) := by decide +kernel
theorem dX8_isGap_49 : decode cX8_isGap 49 = .ok (.getfield 226, 3) := by decide +kernel
theorem dX8_isGap_52 : decode cX8_isGap 52 = .ok (.iload_n 1, 1) := by decide +kernel
theorem dX8_isGap_53 : decode cX8_isGap 53 = .ok (.if_icmp .ne 15, 3) := by decide +kernel
theorem dX8_isGap_56 : decode cX8_isGap 56 = .ok (.aload 5, 2) := by decide +kernel
theorem dX8_isGap_58 : decode cX8_isGap 58 = .ok (.iload_n 2, 1) := by decide +kernel
theorem dX8_isGap_59 : decode cX8_isGap 59 = .ok (.iload_n 3, 1) := by decide +kernel
theorem dX8_isGap_60 : decode cX8_isGap 60 = .ok (.invokevirtual 322, 3) := by decide +kernel
theorem dX8_isGap_63 : decode cX8_isGap 63 = .ok (.ifCond .eq 5, 3) := by decide +kernel
theorem dX8_isGap_66 : decode cX8_isGap 66 = .ok (.iconst 0, 1) := by decide +kernel
theorem dX8_isGap_67 : decode cX8_isGap 67 = .ok (.ireturn, 1) := by decide +kernel
theorem dX8_isGap_68 : decode cX8_isGap 68 = .ok (.iinc 4 1, 3) := by decide +kernel
theorem dX8_isGap_71 : decode cX8_isGap 71 = .ok (.goto (-58), 3) := by decide +kernel
theorem dX8_isGap_74 : decode cX8_isGap 74 = .ok (.iconst 1, 1) := by decide +kernel
theorem dX8_isGap_75 : decode cX8_isGap 75 = .ok (.ireturn, 1) := by decide +kernel
theorem dX8_endStand_0 : decode cX8_endStand 0 = .ok (.aload_n 0, 1) := by decide +kernel
theorem dX8_endStand_1 : decode cX8_endStand 1 = .ok (.aload_n 1, 1) := by decide +kernel
theorem dX8_endStand_2 : decode cX8_endStand 2 = .ok (.getfield 226, 3) := by decide +kernel
theorem dX8_endStand_5 : decode cX8_endStand 5 = .ok (.invokevirtual 49, 3) := by decide +kernel
theorem dX8_endStand_8 : decode cX8_endStand 8 = .ok (.dup, 1) := by decide +kernel
theorem dX8_endStand_9 : decode cX8_endStand 9 = .ok (.getfield 184, 3) := by decide +kernel
theorem dX8_endStand_12 : decode cX8_endStand 12 = .ok (.aload_n 1, 1) := by decide +kernel
theorem dX8_endStand_13 : decode cX8_endStand 13 = .ok (.getfield 263, 3) := by decide +kernel
theorem dX8_endStand_16 : decode cX8_endStand 16 = .ok (.getfield 173, 3) := by decide +kernel
theorem dX8_endStand_19 : decode cX8_endStand 19 = .ok (.isub, 1) := by decide +kernel
theorem dX8_endStand_20 : decode cX8_endStand 20 = .ok (.putfield 184, 3) := by decide +kernel
theorem dX8_endStand_23 : decode cX8_endStand 23 = .ok (.aload_n 1, 1) := by decide +kernel
theorem dX8_endStand_24 : decode cX8_endStand 24 = .ok (.getfield 263, 3) := by decide +kernel
theorem dX8_endStand_27 : decode cX8_endStand 27 = .ok (.aconst_null, 1) := by decide +kernel
theorem dX8_endStand_28 : decode cX8_endStand 28 = .ok (.putfield 169, 3) := by decide +kernel
theorem dX8_endStand_31 : decode cX8_endStand 31 = .ok (.return_, 1) := by decide +kernel
theorem dX8_isOnBlocked_0 : decode cX8_isOnBlocked 0 = .ok (.aload_n 0, 1) := by decide +kernel
theorem dX8_isOnBlocked_1 : decode cX8_isOnBlocked 1 = .ok (.aload_n 1, 1) := by decide +kernel
theorem dX8_isOnBlocked_2 : decode cX8_isOnBlocked 2 = .ok (.getfield 226, 3) := by decide +kernel
theorem dX8_isOnBlocked_5 : decode cX8_isOnBlocked 5 = .ok (.invokevirtual 49, 3) := by decide +kernel
theorem dX8_isOnBlocked_8 : decode cX8_isOnBlocked 8 = .ok (.astore_n 2, 1) := by decide +kernel
theorem dX8_isOnBlocked_9 : decode cX8_isOnBlocked 9 = .ok (.iconst 0, 1) := by decide +kernel
theorem dX8_isOnBlocked_10 : decode cX8_isOnBlocked 10 = .ok (.istore_n 3, 1) := by decide +kernel
theorem dX8_isOnBlocked_11 : decode cX8_isOnBlocked 11 = .ok (.iload_n 3, 1) := by decide +kernel
theorem dX8_isOnBlocked_12 : decode cX8_isOnBlocked 12 = .ok (.aload_n 1, 1) := by decide +kernel
theorem dX8_isOnBlocked_13 : decode cX8_isOnBlocked 13 = .ok (.getfield 263, 3) := by decide +kernel
theorem dX8_isOnBlocked_16 : decode cX8_isOnBlocked 16 = .ok (.getfield 173, 3) := by decide +kernel
theorem dX8_isOnBlocked_19 : decode cX8_isOnBlocked 19 = .ok (.if_icmp .ge 24, 3) := by decide +kernel
theorem dX8_isOnBlocked_22 : decode cX8_isOnBlocked 22 = .ok (.aload_n 2, 1) := by decide +kernel
theorem dX8_isOnBlocked_23 : decode cX8_isOnBlocked 23 = .ok (.aload_n 1, 1) := by decide +kernel
theorem dX8_isOnBlocked_24 : decode cX8_isOnBlocked 24 = .ok (.getfield 325, 3) := by decide +kernel
theorem dX8_isOnBlocked_27 : decode cX8_isOnBlocked 27 = .ok (.iload_n 3, 1) := by decide +kernel
theorem dX8_isOnBlocked_28 : decode cX8_isOnBlocked 28 = .ok (.iadd, 1) := by decide +kernel
theorem dX8_isOnBlocked_29 : decode cX8_isOnBlocked 29 = .ok (.invokevirtual 57, 3) := by decide +kernel
theorem dX8_isOnBlocked_32 : decode cX8_isOnBlocked 32 = .ok (.ifCond .eq 5, 3) := by decide +kernel
theorem dX8_isOnBlocked_35 : decode cX8_isOnBlocked 35 = .ok (.iconst 1, 1) := by decide +kernel
theorem dX8_isOnBlocked_36 : decode cX8_isOnBlocked 36 = .ok (.ireturn, 1) := by decide +kernel
theorem dX8_isOnBlocked_37 : decode cX8_isOnBlocked 37 = .ok (.iinc 3 1, 3) := by decide +kernel
theorem dX8_isOnBlocked_40 : decode cX8_isOnBlocked 40 = .ok (.goto (-29), 3) := by decide +kernel
theorem dX8_isOnBlocked_43 : decode cX8_isOnBlocked 43 = .ok (.iconst 0, 1) := by decide +kernel
theorem dX8_isOnBlocked_44 : decode cX8_isOnBlocked 44 = .ok (.ireturn, 1) := by decide +kernel
theorem dX8_judgementOf_0 : decode cX8_judgementOf 0 = .ok (.iload_n 3, 1) := by decide +kernel
theorem dX8_judgementOf_1 : decode cX8_judgementOf 1 = .ok (.ifCond .eq 5, 3) := by decide +kernel
theorem dX8_judgementOf_4 : decode cX8_judgementOf 4 = .ok (.iconst 1, 1) := by decide +kernel
theorem dX8_judgementOf_5 : decode cX8_judgementOf 5 = .ok (.ireturn, 1) := by decide +kernel
theorem dX8_judgementOf_6 : decode cX8_judgementOf 6 = .ok (.aload_n 0, 1) := by decide +kernel
theorem dX8_judgementOf_7 : decode cX8_judgementOf 7 = .ok (.aload_n 1, 1) := by decide +kernel
theorem dX8_judgementOf_8 : decode cX8_judgementOf 8 = .ok (.iload_n 2, 1) := by decide +kernel
theorem dX8_judgementOf_9 : decode cX8_judgementOf 9 = .ok (.invokevirtual 328, 3) := by decide +kernel
theorem dX8_judgementOf_12 : decode cX8_judgementOf 12 = .ok (.ifCond .eq 5, 3) := by decide +kernel
theorem dX8_judgementOf_15 : decode cX8_judgementOf 15 = .ok (.iconst 2, 1) := by decide +kernel
theorem dX8_judgementOf_16 : decode cX8_judgementOf 16 = .ok (.ireturn, 1) := by decide +kernel
theorem dX8_judgementOf_17 : decode cX8_judgementOf 17 = .ok (.aload_n 0, 1) := by decide +kernel
theorem dX8_judgementOf_18 : decode cX8_judgementOf 18 = .ok (.aload_n 1, 1) := by decide +kernel
theorem dX8_judgementOf_19 : decode cX8_judgementOf 19 = .ok (.getfield 226, 3) := by decide +kernel
theorem dX8_judgementOf_22 : decode cX8_judgementOf 22 = .ok (.aload_n 1, 1) := by decide +kernel
theorem dX8_judgementOf_23 : decode cX8_judgementOf 23 = .ok (.getfield 325, 3) := by decide +kernel
theorem dX8_judgementOf_26 : decode cX8_judgementOf 26 = .ok (.iload_n 2, 1) := by decide +kernel
theorem dX8_judgementOf_27 : decode cX8_judgementOf 27 = .ok (.invokevirtual 130, 3) := by decide +kernel
theorem dX8_judgementOf_30 : decode cX8_judgementOf 30 = .ok (.astore 4, 2) := by decide +kernel
theorem dX8_judgementOf_32 : decode cX8_judgementOf 32 = .ok (.aload 4, 2) := by decide +kernel
theorem dX8_judgementOf_34 : decode cX8_judgementOf 34 = .ok (.ifnonnull 5, 3) := by decide +kernel
theorem dX8_judgementOf_37 : decode cX8_judgementOf 37 = .ok (.iconst 0, 1) := by decide +kernel
theorem dX8_judgementOf_38 : decode cX8_judgementOf 38 = .ok (.ireturn, 1) := by decide +kernel
theorem dX8_judgementOf_39 : decode cX8_judgementOf 39 = .ok (.iload_n 2, 1) := by decide +kernel
theorem dX8_judgementOf_40 : decode cX8_judgementOf 40 = .ok (.aload_n 1, 1) := by decide +kernel
theorem dX8_judgementOf_41 : decode cX8_judgementOf 41 = .ok (.getfield 196, 3) := by decide +kernel
theorem dX8_judgementOf_44 : decode cX8_judgementOf 44 = .ok (.isub, 1) := by decide +kernel
theorem dX8_judgementOf_45 : decode cX8_judgementOf 45 = .ok (.istore 5, 2) := by decide +kernel
theorem dX8_judgementOf_47 : decode cX8_judgementOf 47 = .ok (.aload 4, 2) := by decide +kernel
theorem dX8_judgementOf_49 : decode cX8_judgementOf 49 = .ok (.getfield 332, 3) := by decide +kernel
theorem dX8_judgementOf_52 : decode cX8_judgementOf 52 = .ok (.ifCond .le 17, 3) := by decide +kernel
theorem dX8_judgementOf_55 : decode cX8_judgementOf 55 = .ok (.iload 5, 2) := by decide +kernel
theorem dX8_judgementOf_57 : decode cX8_judgementOf 57 = .ok (.aload 4, 2) := by decide +kernel
theorem dX8_judgementOf_59 : decode cX8_judgementOf 59 = .ok (.getfield 332, 3) := by decide +kernel
theorem dX8_judgementOf_62 : decode cX8_judgementOf 62 = .ok (.iconst 1, 1) := by decide +kernel
theorem dX8_judgementOf_63 : decode cX8_judgementOf 63 = .ok (.iadd, 1) := by decide +kernel
theorem dX8_judgementOf_64 : decode cX8_judgementOf 64 = .ok (.if_icmp .le 5, 3) := by decide +kernel
theorem dX8_judgementOf_67 : decode cX8_judgementOf 67 = .ok (.iconst 3, 1) := by decide +kernel
theorem dX8_judgementOf_68 : decode cX8_judgementOf 68 = .ok (.ireturn, 1) := by decide +kernel
theorem dX8_judgementOf_69 : decode cX8_judgementOf 69 = .ok (.aload 4, 2) := by decide +kernel
theorem dX8_judgementOf_71 : decode cX8_judgementOf 71 = .ok (.getfield 335, 3) := by decide +kernel
theorem dX8_judgementOf_74 : decode cX8_judgementOf 74 = .ok (.ifCond .eq 22, 3) := by decide +kernel
theorem dX8_judgementOf_77 : decode cX8_judgementOf 77 = .ok (.iload 5, 2) := by decide +kernel
theorem dX8_judgementOf_79 : decode cX8_judgementOf 79 = .ok (.iconst 1, 1) := by decide +kernel
theorem dX8_judgementOf_80 : decode cX8_judgementOf 80 = .ok (.if_icmp .le 16, 3) := by decide +kernel
theorem dX8_judgementOf_83 : decode cX8_judgementOf 83 = .ok (.aload_n 0, 1) := by decide +kernel
theorem dX8_judgementOf_84 : decode cX8_judgementOf 84 = .ok (.aload_n 1, 1) := by decide +kernel
theorem dX8_judgementOf_85 : decode cX8_judgementOf 85 = .ok (.iload_n 2, 1) := by decide +kernel
theorem dX8_judgementOf_86 : decode cX8_judgementOf 86 = .ok (.invokevirtual 338, 3) := by decide +kernel
theorem dX8_judgementOf_89 : decode cX8_judgementOf 89 = .ok (.ifCond .ne 7, 3) := by decide +kernel
theorem dX8_judgementOf_92 : decode cX8_judgementOf 92 = .ok (.iconst 4, 1) := by decide +kernel
theorem dX8_judgementOf_93 : decode cX8_judgementOf 93 = .ok (.goto 4, 3) := by decide +kernel
theorem dX8_judgementOf_96 : decode cX8_judgementOf 96 = .ok (.iconst 0, 1) := by decide +kernel
theorem dX8_judgementOf_97 : decode cX8_judgementOf 97 = .ok (.ireturn, 1) := by decide +kernel
theorem dX8_isForbidden_0 : decode cX8_isForbidden 0 = .ok (.aload_n 0, 1) := by decide +kernel
theorem dX8_isForbidden_1 : decode cX8_isForbidden 1 = .ok (.aload_n 1, 1) := by decide +kernel
theorem dX8_isForbidden_2 : decode cX8_isForbidden 2 = .ok (.getfield 263, 3) := by decide +kernel
theorem dX8_isForbidden_5 : decode cX8_isForbidden 5 = .ok (.aload_n 1, 1) := by decide +kernel
theorem dX8_isForbidden_6 : decode cX8_isForbidden 6 = .ok (.getfield 226, 3) := by decide +kernel
theorem dX8_isForbidden_9 : decode cX8_isForbidden 9 = .ok (.iload_n 2, 1) := by decide +kernel
theorem dX8_isForbidden_10 : decode cX8_isForbidden 10 = .ok (.invokevirtual 165, 3) := by decide +kernel
theorem dX8_isForbidden_13 : decode cX8_isForbidden 13 = .ok (.istore_n 3, 1) := by decide +kernel
theorem dX8_isForbidden_14 : decode cX8_isForbidden 14 = .ok (.iconst 0, 1) := by decide +kernel
theorem dX8_isForbidden_15 : decode cX8_isForbidden 15 = .ok (.istore 4, 2) := by decide +kernel
theorem dX8_isForbidden_17 : decode cX8_isForbidden 17 = .ok (.iload 4, 2) := by decide +kernel
theorem dX8_isForbidden_19 : decode cX8_isForbidden 19 = .ok (.aload_n 1, 1) := by decide +kernel
theorem dX8_isForbidden_20 : decode cX8_isForbidden 20 = .ok (.getfield 263, 3) := by decide +kernel
theorem dX8_isForbidden_23 : decode cX8_isForbidden 23 = .ok (.getfield 173, 3) := by decide +kernel
theorem dX8_isForbidden_26 : decode cX8_isForbidden 26 = .ok (.if_icmp .ge 43, 3) := by decide +kernel
theorem dX8_isForbidden_29 : decode cX8_isForbidden 29 = .ok (.aload_n 0, 1) := by decide +kernel
theorem dX8_isForbidden_30 : decode cX8_isForbidden 30 = .ok (.aload_n 1, 1) := by decide +kernel
theorem dX8_isForbidden_31 : decode cX8_isForbidden 31 = .ok (.getfield 226, 3) := by decide +kernel
theorem dX8_isForbidden_34 : decode cX8_isForbidden 34 = .ok (.aload_n 1, 1) := by decide +kernel
theorem dX8_isForbidden_35 : decode cX8_isForbidden 35 = .ok (.getfield 325, 3) := by decide +kernel
theorem dX8_isForbidden_38 : decode cX8_isForbidden 38 = .ok (.iload 4, 2) := by decide +kernel
theorem dX8_isForbidden_40 : decode cX8_isForbidden 40 = .ok (.iadd, 1) := by decide +kernel
theorem dX8_isForbidden_41 : decode cX8_isForbidden 41 = .ok (.iload_n 2, 1) := by decide +kernel
theorem dX8_isForbidden_42 : decode cX8_isForbidden 42 = .ok (.invokevirtual 130, 3) := by decide +kernel
theorem dX8_isForbidden_45 : decode cX8_isForbidden 45 = .ok (.astore 5, 2) := by decide +kernel
theorem dX8_isForbidden_47 : decode cX8_isForbidden 47 = .ok (.aload 5, 2) := by decide +kernel
theorem dX8_isForbidden_49 : decode cX8_isForbidden 49 = .ok (.ifnull 14, 3) := by decide +kernel
theorem dX8_isForbidden_52 : decode cX8_isForbidden 52 = .ok (.aload 5, 2) := by decide +kernel
theorem dX8_isForbidden_54 : decode cX8_isForbidden 54 = .ok (.iload_n 3, 1) := by decide +kernel
theorem dX8_isForbidden_55 : decode cX8_isForbidden 55 = .ok (.invokevirtual 341, 3) := by decide +kernel
theorem dX8_isForbidden_58 : decode cX8_isForbidden 58 = .ok (.ifCond .ne 5, 3) := by decide +kernel
theorem dX8_isForbidden_61 : decode cX8_isForbidden 61 = .ok (.iconst 1, 1) := by decide +kernel
theorem dX8_isForbidden_62 : decode cX8_isForbidden 62 = .ok (.ireturn, 1) := by decide +kernel
theorem dX8_isForbidden_63 : decode cX8_isForbidden 63 = .ok (.iinc 4 1, 3) := by decide +kernel
theorem dX8_isForbidden_66 : decode cX8_isForbidden 66 = .ok (.goto (-49), 3) := by decide +kernel
theorem dX8_isForbidden_69 : decode cX8_isForbidden 69 = .ok (.iconst 0, 1) := by decide +kernel
theorem dX8_isForbidden_70 : decode cX8_isForbidden 70 = .ok (.ireturn, 1) := by decide +kernel
theorem dX8_isPaidFor_0 : decode cX8_isPaidFor 0 = .ok (.iconst 0, 1) := by decide +kernel
theorem dX8_isPaidFor_1 : decode cX8_isPaidFor 1 = .ok (.istore_n 3, 1) := by decide +kernel
theorem dX8_isPaidFor_2 : decode cX8_isPaidFor 2 = .ok (.iload_n 3, 1) := by decide +kernel
theorem dX8_isPaidFor_3 : decode cX8_isPaidFor 3 = .ok (.aload_n 0, 1) := by decide +kernel
theorem dX8_isPaidFor_4 : decode cX8_isPaidFor 4 = .ok (.getfield 25, 3) := by decide +kernel
theorem dX8_isPaidFor_7 : decode cX8_isPaidFor 7 = .ok (.invokevirtual 88, 3) := by decide +kernel
theorem dX8_isPaidFor_10 : decode cX8_isPaidFor 10 = .ok (.if_icmp .ge 60, 3) := by decide +kernel
theorem dX8_isPaidFor_13 : decode cX8_isPaidFor 13 = .ok (.aload_n 0, 1) := by decide +kernel
theorem dX8_isPaidFor_14 : decode cX8_isPaidFor 14 = .ok (.getfield 25, 3) := by decide +kernel
theorem dX8_isPaidFor_17 : decode cX8_isPaidFor 17 = .ok (.iload_n 3, 1) := by decide +kernel
theorem dX8_isPaidFor_18 : decode cX8_isPaidFor 18 = .ok (.invokevirtual 122, 3) := by decide +kernel
theorem dX8_isPaidFor_21 : decode cX8_isPaidFor 21 = .ok (.checkcast 205, 3) := by decide +kernel
theorem dX8_isPaidFor_24 : decode cX8_isPaidFor 24 = .ok (.astore 4, 2) := by decide +kernel
theorem dX8_isPaidFor_26 : decode cX8_isPaidFor 26 = .ok (.aload 4, 2) := by decide +kernel
theorem dX8_isPaidFor_28 : decode cX8_isPaidFor 28 = .ok (.getfield 344, 3) := by decide +kernel
theorem dX8_isPaidFor_31 : decode cX8_isPaidFor 31 = .ok (.aload_n 1, 1) := by decide +kernel
theorem dX8_isPaidFor_32 : decode cX8_isPaidFor 32 = .ok (.getfield 263, 3) := by decide +kernel
theorem dX8_isPaidFor_35 : decode cX8_isPaidFor 35 = .ok (.getfield 145, 3) := by decide +kernel
theorem dX8_isPaidFor_38 : decode cX8_isPaidFor 38 = .ok (.if_icmp .ne 26, 3) := by decide +kernel
theorem dX8_isPaidFor_41 : decode cX8_isPaidFor 41 = .ok (.aload 4, 2) := by decide +kernel
theorem dX8_isPaidFor_43 : decode cX8_isPaidFor 43 = .ok (.getfield 345, 3) := by decide +kernel
theorem dX8_isPaidFor_46 : decode cX8_isPaidFor 46 = .ok (.aload_n 1, 1) := by decide +kernel
theorem dX8_isPaidFor_47 : decode cX8_isPaidFor 47 = .ok (.getfield 226, 3) := by decide +kernel
theorem dX8_isPaidFor_50 : decode cX8_isPaidFor 50 = .ok (.if_icmp .ne 14, 3) := by decide +kernel
theorem dX8_isPaidFor_53 : decode cX8_isPaidFor 53 = .ok (.aload 4, 2) := by decide +kernel
theorem dX8_isPaidFor_55 : decode cX8_isPaidFor 55 = .ok (.iload_n 2, 1) := by decide +kernel
theorem dX8_isPaidFor_56 : decode cX8_isPaidFor 56 = .ok (.invokevirtual 346, 3) := by decide +kernel
theorem dX8_isPaidFor_59 : decode cX8_isPaidFor 59 = .ok (.ifCond .eq 5, 3) := by decide +kernel
theorem dX8_isPaidFor_62 : decode cX8_isPaidFor 62 = .ok (.iconst 1, 1) := by decide +kernel
theorem dX8_isPaidFor_63 : decode cX8_isPaidFor 63 = .ok (.ireturn, 1) := by decide +kernel
theorem dX8_isPaidFor_64 : decode cX8_isPaidFor 64 = .ok (.iinc 3 1, 3) := by decide +kernel
theorem dX8_isPaidFor_67 : decode cX8_isPaidFor 67 = .ok (.goto (-65), 3) := by decide +kernel
theorem dX8_isPaidFor_70 : decode cX8_isPaidFor 70 = .ok (.iconst 0, 1) := by decide +kernel
theorem dX8_isPaidFor_71 : decode cX8_isPaidFor 71 = .ok (.ireturn, 1) := by decide +kernel
theorem dX8_lookAt_0 : decode cX8_lookAt 0 = .ok (.aload_n 0, 1) := by decide +kernel
theorem dX8_lookAt_1 : decode cX8_lookAt 1 = .ok (.aload_n 1, 1) := by decide +kernel
theorem dX8_lookAt_2 : decode cX8_lookAt 2 = .ok (.aload_n 0, 1) := by decide +kernel
theorem dX8_lookAt_3 : decode cX8_lookAt 3 = .ok (.getfield 38, 3) := by decide +kernel
theorem dX8_lookAt_6 : decode cX8_lookAt 6 = .ok (.aload_n 0, 1) := by decide +kernel
theorem dX8_lookAt_7 : decode cX8_lookAt 7 = .ok (.aload_n 1, 1) := by decide +kernel
theorem dX8_lookAt_8 : decode cX8_lookAt 8 = .ok (.invokevirtual 216, 3) := by decide +kernel
theorem dX8_lookAt_11 : decode cX8_lookAt 11 = .ok (.invokevirtual 220, 3) := by decide +kernel
theorem dX8_lookAt_14 : decode cX8_lookAt 14 = .ok (.istore_n 3, 1) := by decide +kernel
theorem dX8_lookAt_15 : decode cX8_lookAt 15 = .ok (.aload_n 0, 1) := by decide +kernel
theorem dX8_lookAt_16 : decode cX8_lookAt 16 = .ok (.getfield 38, 3) := by decide +kernel
theorem dX8_lookAt_19 : decode cX8_lookAt 19 = .ok (.bipush 96, 2) := by decide +kernel
theorem dX8_lookAt_21 : decode cX8_lookAt 21 = .ok (.idiv, 1) := by decide +kernel
theorem dX8_lookAt_22 : decode cX8_lookAt 22 = .ok (.istore 4, 2) := by decide +kernel
theorem dX8_lookAt_24 : decode cX8_lookAt 24 = .ok (.iload_n 3, 1) := by decide +kernel
theorem dX8_lookAt_25 : decode cX8_lookAt 25 = .ok (.ifCond .eq 24, 3) := by decide +kernel
theorem dX8_lookAt_28 : decode cX8_lookAt 28 = .ok (.aload_n 1, 1) := by decide +kernel
theorem dX8_lookAt_29 : decode cX8_lookAt 29 = .ok (.getfield 349, 3) := by decide +kernel
theorem dX8_lookAt_32 : decode cX8_lookAt 32 = .ok (.iload 4, 2) := by decide +kernel
theorem dX8_lookAt_34 : decode cX8_lookAt 34 = .ok (.if_icmp .eq 15, 3) := by decide +kernel
theorem dX8_lookAt_37 : decode cX8_lookAt 37 = .ok (.aload_n 0, 1) := by decide +kernel
theorem dX8_lookAt_38 : decode cX8_lookAt 38 = .ok (.getfield 28, 3) := by decide +kernel
theorem dX8_lookAt_41 : decode cX8_lookAt 41 = .ok (.invokevirtual 88, 3) := by decide +kernel
theorem dX8_lookAt_44 : decode cX8_lookAt 44 = .ok (.bipush 60, 2) := by decide +kernel
theorem dX8_lookAt_46 : decode cX8_lookAt 46 = .ok (.if_icmp .lt 4, 3) := by decide +kernel
theorem dX8_lookAt_49 : decode cX8_lookAt 49 = .ok (.return_, 1) := by decide +kernel
theorem dX8_lookAt_50 : decode cX8_lookAt 50 = .ok (.aload_n 0, 1) := by decide +kernel
theorem dX8_lookAt_51 : decode cX8_lookAt 51 = .ok (.getfield 28, 3) := by decide +kernel
theorem dX8_lookAt_54 : decode cX8_lookAt 54 = .ok (.new 238, 3) := by decide +kernel
theorem dX8_lookAt_57 : decode cX8_lookAt 57 = .ok (.dup, 1) := by decide +kernel
theorem dX8_lookAt_58 : decode cX8_lookAt 58 = .ok (.aload_n 1, 1) := by decide +kernel
theorem dX8_lookAt_59 : decode cX8_lookAt 59 = .ok (.aload_n 0, 1) := by decide +kernel
theorem dX8_lookAt_60 : decode cX8_lookAt 60 = .ok (.getfield 38, 3) := by decide +kernel
theorem dX8_lookAt_63 : decode cX8_lookAt 63 = .ok (.iload_n 3, 1) := by decide +kernel
theorem dX8_lookAt_64 : decode cX8_lookAt 64 = .ok (.invokespecial 352, 3) := by decide +kernel
theorem dX8_lookAt_67 : decode cX8_lookAt 67 = .ok (.invokevirtual 45, 3) := by decide +kernel
theorem dX8_lookAt_70 : decode cX8_lookAt 70 = .ok (.pop, 1) := by decide +kernel
theorem dX8_lookAt_71 : decode cX8_lookAt 71 = .ok (.aload_n 1, 1) := by decide +kernel
theorem dX8_lookAt_72 : decode cX8_lookAt 72 = .ok (.iload 4, 2) := by decide +kernel
theorem dX8_lookAt_74 : decode cX8_lookAt 74 = .ok (.putfield 349, 3) := by decide +kernel
theorem dX8_lookAt_77 : decode cX8_lookAt 77 = .ok (.aload_n 2, 1) := by decide +kernel
theorem dX8_lookAt_78 : decode cX8_lookAt 78 = .ok (.dup, 1) := by decide +kernel
theorem dX8_lookAt_79 : decode cX8_lookAt 79 = .ok (.getfield 224, 3) := by decide +kernel
theorem dX8_lookAt_82 : decode cX8_lookAt 82 = .ok (.iconst 1, 1) := by decide +kernel
theorem dX8_lookAt_83 : decode cX8_lookAt 83 = .ok (.iadd, 1) := by decide +kernel
theorem dX8_lookAt_84 : decode cX8_lookAt 84 = .ok (.putfield 224, 3) := by decide +kernel
theorem dX8_lookAt_87 : decode cX8_lookAt 87 = .ok (.return_, 1) := by decide +kernel
theorem dX8_debtOf_0 : decode cX8_debtOf 0 = .ok (.iconst 0, 1) := by decide +kernel
theorem dX8_debtOf_1 : decode cX8_debtOf 1 = .ok (.istore_n 2, 1) := by decide +kernel
theorem dX8_debtOf_2 : decode cX8_debtOf 2 = .ok (.iconst 0, 1) := by decide +kernel
theorem dX8_debtOf_3 : decode cX8_debtOf 3 = .ok (.istore_n 3, 1) := by decide +kernel
theorem dX8_debtOf_4 : decode cX8_debtOf 4 = .ok (.iload_n 3, 1) := by decide +kernel
theorem dX8_debtOf_5 : decode cX8_debtOf 5 = .ok (.aload_n 0, 1) := by decide +kernel
theorem dX8_debtOf_6 : decode cX8_debtOf 6 = .ok (.getfield 28, 3) := by decide +kernel
theorem dX8_debtOf_9 : decode cX8_debtOf 9 = .ok (.invokevirtual 88, 3) := by decide +kernel
theorem dX8_debtOf_12 : decode cX8_debtOf 12 = .ok (.if_icmp .ge 56, 3) := by decide +kernel
theorem dX8_debtOf_15 : decode cX8_debtOf 15 = .ok (.aload_n 0, 1) := by decide +kernel
theorem dX8_debtOf_16 : decode cX8_debtOf 16 = .ok (.getfield 28, 3) := by decide +kernel
theorem dX8_debtOf_19 : decode cX8_debtOf 19 = .ok (.iload_n 3, 1) := by decide +kernel
theorem dX8_debtOf_20 : decode cX8_debtOf 20 = .ok (.invokevirtual 122, 3) := by decide +kernel
theorem dX8_debtOf_23 : decode cX8_debtOf 23 = .ok (.checkcast 238, 3) := by decide +kernel
theorem dX8_debtOf_26 : decode cX8_debtOf 26 = .ok (.astore 4, 2) := by decide +kernel
theorem dX8_debtOf_28 : decode cX8_debtOf 28 = .ok (.aload 4, 2) := by decide +kernel
theorem dX8_debtOf_30 : decode cX8_debtOf 30 = .ok (.getfield 249, 3) := by decide +kernel
theorem dX8_debtOf_33 : decode cX8_debtOf 33 = .ok (.getfield 263, 3) := by decide +kernel
theorem dX8_debtOf_36 : decode cX8_debtOf 36 = .ok (.getfield 145, 3) := by decide +kernel
theorem dX8_debtOf_39 : decode cX8_debtOf 39 = .ok (.aload_n 1, 1) := by decide +kernel
theorem dX8_debtOf_40 : decode cX8_debtOf 40 = .ok (.getfield 145, 3) := by decide +kernel
theorem dX8_debtOf_43 : decode cX8_debtOf 43 = .ok (.if_icmp .ne 19, 3) := by decide +kernel
theorem dX8_debtOf_46 : decode cX8_debtOf 46 = .ok (.aload 4, 2) := by decide +kernel
theorem dX8_debtOf_48 : decode cX8_debtOf 48 = .ok (.invokevirtual 256, 3) := by decide +kernel
theorem dX8_debtOf_51 : decode cX8_debtOf 51 = .ok (.ifCond .eq 11, 3) := by decide +kernel
theorem dX8_debtOf_54 : decode cX8_debtOf 54 = .ok (.iload_n 2, 1) := by decide +kernel
theorem dX8_debtOf_55 : decode cX8_debtOf 55 = .ok (.aload 4, 2) := by decide +kernel
theorem dX8_debtOf_57 : decode cX8_debtOf 57 = .ok (.invokevirtual 260, 3) := by decide +kernel
theorem dX8_debtOf_60 : decode cX8_debtOf 60 = .ok (.iadd, 1) := by decide +kernel
theorem dX8_debtOf_61 : decode cX8_debtOf 61 = .ok (.istore_n 2, 1) := by decide +kernel
theorem dX8_debtOf_62 : decode cX8_debtOf 62 = .ok (.iinc 3 1, 3) := by decide +kernel
theorem dX8_debtOf_65 : decode cX8_debtOf 65 = .ok (.goto (-61), 3) := by decide +kernel
theorem dX8_debtOf_68 : decode cX8_debtOf 68 = .ok (.iload_n 2, 1) := by decide +kernel
theorem dX8_debtOf_69 : decode cX8_debtOf 69 = .ok (.ireturn, 1) := by decide +kernel
theorem dX8_passQuarter_0 : decode cX8_passQuarter 0 = .ok (.aload_n 0, 1) := by decide +kernel
theorem dX8_passQuarter_1 : decode cX8_passQuarter 1 = .ok (.dup, 1) := by decide +kernel
theorem dX8_passQuarter_2 : decode cX8_passQuarter 2 = .ok (.getfield 38, 3) := by decide +kernel
theorem dX8_passQuarter_5 : decode cX8_passQuarter 5 = .ok (.iconst 1, 1) := by decide +kernel
theorem dX8_passQuarter_6 : decode cX8_passQuarter 6 = .ok (.iadd, 1) := by decide +kernel
theorem dX8_passQuarter_7 : decode cX8_passQuarter 7 = .ok (.putfield 38, 3) := by decide +kernel
theorem dX8_passQuarter_10 : decode cX8_passQuarter 10 = .ok (.aload_n 0, 1) := by decide +kernel
theorem dX8_passQuarter_11 : decode cX8_passQuarter 11 = .ok (.getfield 38, 3) := by decide +kernel
theorem dX8_passQuarter_14 : decode cX8_passQuarter 14 = .ok (.bipush 96, 2) := by decide +kernel
theorem dX8_passQuarter_16 : decode cX8_passQuarter 16 = .ok (.irem, 1) := by decide +kernel
theorem dX8_passQuarter_17 : decode cX8_passQuarter 17 = .ok (.ifCond .ne 7, 3) := by decide +kernel
theorem dX8_passQuarter_20 : decode cX8_passQuarter 20 = .ok (.iconst 1, 1) := by decide +kernel
theorem dX8_passQuarter_21 : decode cX8_passQuarter 21 = .ok (.goto 4, 3) := by decide +kernel
theorem dX8_passQuarter_24 : decode cX8_passQuarter 24 = .ok (.iconst 0, 1) := by decide +kernel
theorem dX8_passQuarter_25 : decode cX8_passQuarter 25 = .ok (.istore_n 1, 1) := by decide +kernel
theorem dX8_passQuarter_26 : decode cX8_passQuarter 26 = .ok (.iconst 0, 1) := by decide +kernel
theorem dX8_passQuarter_27 : decode cX8_passQuarter 27 = .ok (.istore_n 2, 1) := by decide +kernel
theorem dX8_passQuarter_28 : decode cX8_passQuarter 28 = .ok (.iload_n 2, 1) := by decide +kernel
theorem dX8_passQuarter_29 : decode cX8_passQuarter 29 = .ok (.aload_n 0, 1) := by decide +kernel
theorem dX8_passQuarter_30 : decode cX8_passQuarter 30 = .ok (.getfield 12, 3) := by decide +kernel
theorem dX8_passQuarter_33 : decode cX8_passQuarter 33 = .ok (.invokevirtual 88, 3) := by decide +kernel
theorem dX8_passQuarter_36 : decode cX8_passQuarter 36 = .ok (.if_icmp .ge 42, 3) := by decide +kernel
theorem dX8_passQuarter_39 : decode cX8_passQuarter 39 = .ok (.aload_n 0, 1) := by decide +kernel
theorem dX8_passQuarter_40 : decode cX8_passQuarter 40 = .ok (.getfield 12, 3) := by decide +kernel
theorem dX8_passQuarter_43 : decode cX8_passQuarter 43 = .ok (.iload_n 2, 1) := by decide +kernel
theorem dX8_passQuarter_44 : decode cX8_passQuarter 44 = .ok (.invokevirtual 122, 3) := by decide +kernel
theorem dX8_passQuarter_47 : decode cX8_passQuarter 47 = .ok (.checkcast 42, 3) := by decide +kernel
theorem dX8_passQuarter_50 : decode cX8_passQuarter 50 = .ok (.astore_n 3, 1) := by decide +kernel
theorem dX8_passQuarter_51 : decode cX8_passQuarter 51 = .ok (.aload_n 3, 1) := by decide +kernel
theorem dX8_passQuarter_52 : decode cX8_passQuarter 52 = .ok (.dup, 1) := by decide +kernel
theorem dX8_passQuarter_53 : decode cX8_passQuarter 53 = .ok (.getfield 277, 3) := by decide +kernel
theorem dX8_passQuarter_56 : decode cX8_passQuarter 56 = .ok (.aload_n 3, 1) := by decide +kernel
theorem dX8_passQuarter_57 : decode cX8_passQuarter 57 = .ok (.getfield 184, 3) := by decide +kernel
theorem dX8_passQuarter_60 : decode cX8_passQuarter 60 = .ok (.iadd, 1) := by decide +kernel
theorem dX8_passQuarter_61 : decode cX8_passQuarter 61 = .ok (.putfield 277, 3) := by decide +kernel
theorem dX8_passQuarter_64 : decode cX8_passQuarter 64 = .ok (.iload_n 1, 1) := by decide +kernel
theorem dX8_passQuarter_65 : decode cX8_passQuarter 65 = .ok (.ifCond .eq 7, 3) := by decide +kernel
theorem dX8_passQuarter_68 : decode cX8_passQuarter 68 = .ok (.aload_n 3, 1) := by decide +kernel
theorem dX8_passQuarter_69 : decode cX8_passQuarter 69 = .ok (.invokevirtual 355, 3) := by decide +kernel
theorem dX8_passQuarter_72 : decode cX8_passQuarter 72 = .ok (.iinc 2 1, 3) := by decide +kernel
theorem dX8_passQuarter_75 : decode cX8_passQuarter 75 = .ok (.goto (-47), 3) := by decide +kernel
theorem dX8_passQuarter_78 : decode cX8_passQuarter 78 = .ok (.return_, 1) := by decide +kernel
theorem dX9_init_0 : decode cX9_init 0 = .ok (.aload_n 0, 1) := by decide +kernel
theorem dX9_init_1 : decode cX9_init 1 = .ok (.invokespecial 1, 3) := by decide +kernel
theorem dX9_init_4 : decode cX9_init 4 = .ok (.aload_n 0, 1) := by decide +kernel
theorem dX9_init_5 : decode cX9_init 5 = .ok (.sipush 240, 3) := by decide +kernel
theorem dX9_init_8 : decode cX9_init 8 = .ok (.newarray .boolean, 2) := by decide +kernel
theorem dX9_init_10 : decode cX9_init 10 = .ok (.putfield 7, 3) := by decide +kernel
theorem dX9_init_13 : decode cX9_init 13 = .ok (.aload_n 0, 1) := by decide +kernel
theorem dX9_init_14 : decode cX9_init 14 = .ok (.bipush 30, 2) := by decide +kernel
theorem dX9_init_16 : decode cX9_init 16 = .ok (.newarray .int, 2) := by decide +kernel
theorem dX9_init_18 : decode cX9_init 18 = .ok (.putfield 13, 3) := by decide +kernel
theorem dX9_init_21 : decode cX9_init 21 = .ok (.aload_n 0, 1) := by decide +kernel
theorem dX9_init_22 : decode cX9_init 22 = .ok (.bipush 30, 2) := by decide +kernel
theorem dX9_init_24 : decode cX9_init 24 = .ok (.newarray .int, 2) := by decide +kernel
theorem dX9_init_26 : decode cX9_init 26 = .ok (.putfield 17, 3) := by decide +kernel
theorem dX9_init_29 : decode cX9_init 29 = .ok (.aload_n 0, 1) := by decide +kernel
theorem dX9_init_30 : decode cX9_init 30 = .ok (.bipush 30, 2) := by decide +kernel
theorem dX9_init_32 : decode cX9_init 32 = .ok (.newarray .int, 2) := by decide +kernel
theorem dX9_init_34 : decode cX9_init 34 = .ok (.putfield 20, 3) := by decide +kernel
theorem dX9_init_37 : decode cX9_init 37 = .ok (.aload_n 0, 1) := by decide +kernel
theorem dX9_init_38 : decode cX9_init 38 = .ok (.bipush 30, 2) := by decide +kernel
theorem dX9_init_40 : decode cX9_init 40 = .ok (.newarray .int, 2) := by decide +kernel
theorem dX9_init_42 : decode cX9_init 42 = .ok (.putfield 23, 3) := by decide +kernel
theorem dX9_init_45 : decode cX9_init 45 = .ok (.aload_n 0, 1) := by decide +kernel
theorem dX9_init_46 : decode cX9_init 46 = .ok (.bipush 30, 2) := by decide +kernel
theorem dX9_init_48 : decode cX9_init 48 = .ok (.newarray .int, 2) := by decide +kernel
theorem dX9_init_50 : decode cX9_init 50 = .ok (.putfield 26, 3) := by decide +kernel
theorem dX9_init_53 : decode cX9_init 53 = .ok (.aload_n 0, 1) := by decide +kernel
theorem dX9_init_54 : decode cX9_init 54 = .ok (.bipush 30, 2) := by decide +kernel
theorem dX9_init_56 : decode cX9_init 56 = .ok (.newarray .boolean, 2) := by decide +kernel
theorem dX9_init_58 : decode cX9_init 58 = .ok (.putfield 29, 3) := by decide +kernel
theorem dX9_init_61 : decode cX9_init 61 = .ok (.aload_n 0, 1) := by decide +kernel
theorem dX9_init_62 : decode cX9_init 62 = .ok (.bipush 30, 2) := by decide +kernel
theorem dX9_init_64 : decode cX9_init 64 = .ok (.newarray .boolean, 2) := by decide +kernel
theorem dX9_init_66 : decode cX9_init 66 = .ok (.putfield 32, 3) := by decide +kernel
theorem dX9_init_69 : decode cX9_init 69 = .ok (.aload_n 0, 1) := by decide +kernel
theorem dX9_init_70 : decode cX9_init 70 = .ok (.bipush 30, 2) := by decide +kernel
theorem dX9_init_72 : decode cX9_init 72 = .ok (.newarray .int, 2) := by decide +kernel
theorem dX9_init_74 : decode cX9_init 74 = .ok (.putfield 35, 3) := by decide +kernel
theorem dX9_init_77 : decode cX9_init 77 = .ok (.aload_n 0, 1) := by decide +kernel
theorem dX9_init_78 : decode cX9_init 78 = .ok (.bipush 30, 2) := by decide +kernel
theorem dX9_init_80 : decode cX9_init 80 = .ok (.newarray .int, 2) := by decide +kernel
theorem dX9_init_82 : decode cX9_init 82 = .ok (.putfield 38, 3) := by decide +kernel
theorem dX9_init_85 : decode cX9_init 85 = .ok (.aload_n 0, 1) := by decide +kernel
theorem dX9_init_86 : decode cX9_init 86 = .ok (.bipush 30, 2) := by decide +kernel
theorem dX9_init_88 : decode cX9_init 88 = .ok (.newarray .int, 2) := by decide +kernel
theorem dX9_init_90 : decode cX9_init 90 = .ok (.putfield 41, 3) := by decide +kernel
theorem dX9_init_93 : decode cX9_init 93 = .ok (.aload_n 0, 1) := by decide +kernel
theorem dX9_init_94 : decode cX9_init 94 = .ok (.bipush 30, 2) := by decide +kernel
theorem dX9_init_96 : decode cX9_init 96 = .ok (.newarray .int, 2) := by decide +kernel
theorem dX9_init_98 : decode cX9_init 98 = .ok (.putfield 44, 3) := by decide +kernel
theorem dX9_init_101 : decode cX9_init 101 = .ok (.aload_n 0, 1) := by decide +kernel
theorem dX9_init_102 : decode cX9_init 102 = .ok (.bipush 30, 2) := by decide +kernel
theorem dX9_init_104 : decode cX9_init 104 = .ok (.newarray .int, 2) := by decide +kernel
theorem dX9_init_106 : decode cX9_init 106 = .ok (.putfield 47, 3) := by decide +kernel
theorem dX9_init_109 : decode cX9_init 109 = .ok (.aload_n 0, 1) := by decide +kernel
theorem dX9_init_110 : decode cX9_init 110 = .ok (.bipush 30, 2) := by decide +kernel
theorem dX9_init_112 : decode cX9_init 112 = .ok (.newarray .int, 2) := by decide +kernel
theorem dX9_init_114 : decode cX9_init 114 = .ok (.putfield 50, 3) := by decide +kernel
theorem dX9_init_117 : decode cX9_init 117 = .ok (.aload_n 0, 1) := by decide +kernel
theorem dX9_init_118 : decode cX9_init 118 = .ok (.bipush 30, 2) := by decide +kernel
theorem dX9_init_120 : decode cX9_init 120 = .ok (.newarray .int, 2) := by decide +kernel
theorem dX9_init_122 : decode cX9_init 122 = .ok (.putfield 53, 3) := by decide +kernel
theorem dX9_init_125 : decode cX9_init 125 = .ok (.aload_n 0, 1) := by decide +kernel
theorem dX9_init_126 : decode cX9_init 126 = .ok (.bipush 30, 2) := by decide +kernel
theorem dX9_init_128 : decode cX9_init 128 = .ok (.newarray .int, 2) := by decide +kernel
theorem dX9_init_130 : decode cX9_init 130 = .ok (.putfield 56, 3) := by decide +kernel
theorem dX9_init_133 : decode cX9_init 133 = .ok (.aload_n 0, 1) := by decide +kernel
theorem dX9_init_134 : decode cX9_init 134 = .ok (.bipush 30, 2) := by decide +kernel
theorem dX9_init_136 : decode cX9_init 136 = .ok (.newarray .int, 2) := by decide +kernel
theorem dX9_init_138 : decode cX9_init 138 = .ok (.putfield 59, 3) := by decide +kernel
theorem dX9_init_141 : decode cX9_init 141 = .ok (.aload_n 0, 1) := by decide +kernel
theorem dX9_init_142 : decode cX9_init 142 = .ok (.bipush 30, 2) := by decide +kernel
theorem dX9_init_144 : decode cX9_init 144 = .ok (.newarray .int, 2) := by decide +kernel
theorem dX9_init_146 : decode cX9_init 146 = .ok (.putfield 62, 3) := by decide +kernel
theorem dX9_init_149 : decode cX9_init 149 = .ok (.aload_n 0, 1) := by decide +kernel
theorem dX9_init_150 : decode cX9_init 150 = .ok (.bipush 30, 2) := by decide +kernel
theorem dX9_init_152 : decode cX9_init 152 = .ok (.newarray .int, 2) := by decide +kernel
theorem dX9_init_154 : decode cX9_init 154 = .ok (.putfield 65, 3) := by decide +kernel
theorem dX9_init_157 : decode cX9_init 157 = .ok (.aload_n 0, 1) := by decide +kernel
theorem dX9_init_158 : decode cX9_init 158 = .ok (.bipush 30, 2) := by decide +kernel
theorem dX9_init_160 : decode cX9_init 160 = .ok (.newarray .int, 2) := by decide +kernel
theorem dX9_init_162 : decode cX9_init 162 = .ok (.putfield 68, 3) := by decide +kernel
theorem dX9_init_165 : decode cX9_init 165 = .ok (.aload_n 0, 1) := by decide +kernel
theorem dX9_init_166 : decode cX9_init 166 = .ok (.bipush 30, 2) := by decide +kernel
theorem dX9_init_168 : decode cX9_init 168 = .ok (.newarray .int, 2) := by decide +kernel
theorem dX9_init_170 : decode cX9_init 170 = .ok (.putfield 71, 3) := by decide +kernel
theorem dX9_init_173 : decode cX9_init 173 = .ok (.aload_n 0, 1) := by decide +kernel
theorem dX9_init_174 : decode cX9_init 174 = .ok (.bipush 40, 2) := by decide +kernel
theorem dX9_init_176 : decode cX9_init 176 = .ok (.newarray .int, 2) := by decide +kernel
theorem dX9_init_178 : decode cX9_init 178 = .ok (.putfield 74, 3) := by decide +kernel
theorem dX9_init_181 : decode cX9_init 181 = .ok (.aload_n 0, 1) := by decide +kernel
theorem dX9_init_182 : decode cX9_init 182 = .ok (.bipush 40, 2) := by decide +kernel
theorem dX9_init_184 : decode cX9_init 184 = .ok (.newarray .int, 2) := by decide +kernel
theorem dX9_init_186 : decode cX9_init 186 = .ok (.putfield 77, 3) := by decide +kernel
theorem dX9_init_189 : decode cX9_init 189 = .ok (.aload_n 0, 1) := by decide +kernel
theorem dX9_init_190 : decode cX9_init 190 = .ok (.bipush 40, 2) := by decide +kernel
theorem dX9_init_192 : decode cX9_init 192 = .ok (.newarray .int, 2) := by decide +kernel
theorem dX9_init_194 : decode cX9_init 194 = .ok (.putfield 80, 3) := by decide +kernel
theorem dX9_init_197 : decode cX9_init 197 = .ok (.aload_n 0, 1) := by decide +kernel
theorem dX9_init_198 : decode cX9_init 198 = .ok (.bipush 40, 2) := by decide +kernel
theorem dX9_init_200 : decode cX9_init 200 = .ok (.newarray .int, 2) := by decide +kernel
theorem dX9_init_202 : decode cX9_init 202 = .ok (.putfield 83, 3) := by decide +kernel
theorem dX9_init_205 : decode cX9_init 205 = .ok (.aload_n 0, 1) := by decide +kernel
theorem dX9_init_206 : decode cX9_init 206 = .ok (.bipush 40, 2) := by decide +kernel
theorem dX9_init_208 : decode cX9_init 208 = .ok (.newarray .int, 2) := by decide +kernel
theorem dX9_init_210 : decode cX9_init 210 = .ok (.putfield 86, 3) := by decide +kernel
theorem dX9_init_213 : decode cX9_init 213 = .ok (.aload_n 0, 1) := by decide +kernel
theorem dX9_init_214 : decode cX9_init 214 = .ok (.sipush 200, 3) := by decide +kernel
theorem dX9_init_217 : decode cX9_init 217 = .ok (.newarray .int, 2) := by decide +kernel
theorem dX9_init_219 : decode cX9_init 219 = .ok (.putfield 89, 3) := by decide +kernel
theorem dX9_init_222 : decode cX9_init 222 = .ok (.aload_n 0, 1) := by decide +kernel
theorem dX9_init_223 : decode cX9_init 223 = .ok (.sipush 200, 3) := by decide +kernel
theorem dX9_init_226 : decode cX9_init 226 = .ok (.newarray .int, 2) := by decide +kernel
theorem dX9_init_228 : decode cX9_init 228 = .ok (.putfield 92, 3) := by decide +kernel
theorem dX9_init_231 : decode cX9_init 231 = .ok (.aload_n 0, 1) := by decide +kernel
theorem dX9_init_232 : decode cX9_init 232 = .ok (.sipush 200, 3) := by decide +kernel
theorem dX9_init_235 : decode cX9_init 235 = .ok (.newarray .int, 2) := by decide +kernel
theorem dX9_init_237 : decode cX9_init 237 = .ok (.putfield 95, 3) := by decide +kernel
theorem dX9_init_240 : decode cX9_init 240 = .ok (.aload_n 0, 1) := by decide +kernel
theorem dX9_init_241 : decode cX9_init 241 = .ok (.sipush 200, 3) := by decide +kernel
theorem dX9_init_244 : decode cX9_init 244 = .ok (.newarray .int, 2) := by decide +kernel
theorem dX9_init_246 : decode cX9_init 246 = .ok (.putfield 98, 3) := by decide +kernel
theorem dX9_init_249 : decode cX9_init 249 = .ok (.aload_n 0, 1) := by decide +kernel
theorem dX9_init_250 : decode cX9_init 250 = .ok (.bipush 60, 2) := by decide +kernel
theorem dX9_init_252 : decode cX9_init 252 = .ok (.newarray .int, 2) := by decide +kernel
theorem dX9_init_254 : decode cX9_init 254 = .ok (.putfield 101, 3) := by decide +kernel
theorem dX9_init_257 : decode cX9_init 257 = .ok (.aload_n 0, 1) := by decide +kernel
theorem dX9_init_258 : decode cX9_init 258 = .ok (.bipush 60, 2) := by decide +kernel
theorem dX9_init_260 : decode cX9_init 260 = .ok (.newarray .int, 2) := by decide +kernel
theorem dX9_init_262 : decode cX9_init 262 = .ok (.putfield 104, 3) := by decide +kernel
theorem dX9_init_265 : decode cX9_init 265 = .ok (.aload_n 0, 1) := by decide +kernel
theorem dX9_init_266 : decode cX9_init 266 = .ok (.bipush 60, 2) := by decide +kernel
theorem dX9_init_268 : decode cX9_init 268 = .ok (.newarray .int, 2) := by decide +kernel
theorem dX9_init_270 : decode cX9_init 270 = .ok (.putfield 107, 3) := by decide +kernel
theorem dX9_init_273 : decode cX9_init 273 = .ok (.aload_n 0, 1) := by decide +kernel
theorem dX9_init_274 : decode cX9_init 274 = .ok (.bipush 60, 2) := by decide +kernel
theorem dX9_init_276 : decode cX9_init 276 = .ok (.newarray .int, 2) := by decide +kernel
theorem dX9_init_278 : decode cX9_init 278 = .ok (.putfield 110, 3) := by decide +kernel
theorem dX9_init_281 : decode cX9_init 281 = .ok (.aload_n 0, 1) := by decide +kernel
theorem dX9_init_282 : decode cX9_init 282 = .ok (.bipush 60, 2) := by decide +kernel
theorem dX9_init_284 : decode cX9_init 284 = .ok (.newarray .int, 2) := by decide +kernel
theorem dX9_init_286 : decode cX9_init 286 = .ok (.putfield 113, 3) := by decide +kernel
theorem dX9_init_289 : decode cX9_init 289 = .ok (.aload_n 0, 1) := by decide +kernel
theorem dX9_init_290 : decode cX9_init 290 = .ok (.bipush 60, 2) := by decide +kernel
theorem dX9_init_292 : decode cX9_init 292 = .ok (.newarray .int, 2) := by decide +kernel
theorem dX9_init_294 : decode cX9_init 294 = .ok (.putfield 116, 3) := by decide +kernel
theorem dX9_init_297 : decode cX9_init 297 = .ok (.aload_n 0, 1) := by decide +kernel
theorem dX9_init_298 : decode cX9_init 298 = .ok (.bipush 60, 2) := by decide +kernel
theorem dX9_init_300 : decode cX9_init 300 = .ok (.newarray .int, 2) := by decide +kernel
theorem dX9_init_302 : decode cX9_init 302 = .ok (.putfield 119, 3) := by decide +kernel
theorem dX9_init_305 : decode cX9_init 305 = .ok (.aload_n 0, 1) := by decide +kernel
theorem dX9_init_306 : decode cX9_init 306 = .ok (.bipush 60, 2) := by decide +kernel
theorem dX9_init_308 : decode cX9_init 308 = .ok (.newarray .boolean, 2) := by decide +kernel
theorem dX9_init_310 : decode cX9_init 310 = .ok (.putfield 122, 3) := by decide +kernel
theorem dX9_init_313 : decode cX9_init 313 = .ok (.aload_n 0, 1) := by decide +kernel
theorem dX9_init_314 : decode cX9_init 314 = .ok (.bipush 60, 2) := by decide +kernel
theorem dX9_init_316 : decode cX9_init 316 = .ok (.newarray .boolean, 2) := by decide +kernel
theorem dX9_init_318 : decode cX9_init 318 = .ok (.putfield 125, 3) := by decide +kernel
theorem dX9_init_321 : decode cX9_init 321 = .ok (.aload_n 0, 1) := by decide +kernel
theorem dX9_init_322 : decode cX9_init 322 = .ok (.bipush 60, 2) := by decide +kernel
theorem dX9_init_324 : decode cX9_init 324 = .ok (.newarray .boolean, 2) := by decide +kernel
theorem dX9_init_326 : decode cX9_init 326 = .ok (.putfield 128, 3) := by decide +kernel
theorem dX9_init_329 : decode cX9_init 329 = .ok (.aload_n 0, 1) := by decide +kernel
theorem dX9_init_330 : decode cX9_init 330 = .ok (.bipush 60, 2) := by decide +kernel
theorem dX9_init_332 : decode cX9_init 332 = .ok (.newarray .boolean, 2) := by decide +kernel
theorem dX9_init_334 : decode cX9_init 334 = .ok (.putfield 131, 3) := by decide +kernel
theorem dX9_init_337 : decode cX9_init 337 = .ok (.aload_n 0, 1) := by decide +kernel
theorem dX9_init_338 : decode cX9_init 338 = .ok (.iconst 4, 1) := by decide +kernel
theorem dX9_init_339 : decode cX9_init 339 = .ok (.newarray .int, 2) := by decide +kernel
theorem dX9_init_341 : decode cX9_init 341 = .ok (.putfield 134, 3) := by decide +kernel
theorem dX9_init_344 : decode cX9_init 344 = .ok (.aload_n 0, 1) := by decide +kernel
theorem dX9_init_345 : decode cX9_init 345 = .ok (.iconst 4, 1) := by decide +kernel
theorem dX9_init_346 : decode cX9_init 346 = .ok (.newarray .int, 2) := by decide +kernel
theorem dX9_init_348 : decode cX9_init 348 = .ok (.putfield 137, 3) := by decide +kernel
theorem dX9_init_351 : decode cX9_init 351 = .ok (.aload_n 0, 1) := by decide +kernel
theorem dX9_init_352 : decode cX9_init 352 = .ok (.iconst 4, 1) := by decide +kernel
theorem dX9_init_353 : decode cX9_init 353 = .ok (.newarray .int, 2) := by decide +kernel
theorem dX9_init_355 : decode cX9_init 355 = .ok (.putfield 140, 3) := by decide +kernel
theorem dX9_init_358 : decode cX9_init 358 = .ok (.aload_n 0, 1) := by decide +kernel
theorem dX9_init_359 : decode cX9_init 359 = .ok (.iconst 4, 1) := by decide +kernel
theorem dX9_init_360 : decode cX9_init 360 = .ok (.newarray .int, 2) := by decide +kernel
theorem dX9_init_362 : decode cX9_init 362 = .ok (.putfield 143, 3) := by decide +kernel
theorem dX9_init_365 : decode cX9_init 365 = .ok (.aload_n 0, 1) := by decide +kernel
theorem dX9_init_366 : decode cX9_init 366 = .ok (.invokevirtual 146, 3) := by decide +kernel
theorem dX9_init_369 : decode cX9_init 369 = .ok (.iconst 0, 1) := by decide +kernel
theorem dX9_init_370 : decode cX9_init 370 = .ok (.istore_n 1, 1) := by decide +kernel
theorem dX9_init_371 : decode cX9_init 371 = .ok (.iload_n 1, 1) := by decide +kernel
theorem dX9_init_372 : decode cX9_init 372 = .ok (.iconst 4, 1) := by decide +kernel
theorem dX9_init_373 : decode cX9_init 373 = .ok (.if_icmp .ge 16, 3) := by decide +kernel
theorem dX9_init_376 : decode cX9_init 376 = .ok (.aload_n 0, 1) := by decide +kernel
theorem dX9_init_377 : decode cX9_init 377 = .ok (.getfield 134, 3) := by decide +kernel
theorem dX9_init_380 : decode cX9_init 380 = .ok (.iload_n 1, 1) := by decide +kernel
theorem dX9_init_381 : decode cX9_init 381 = .ok (.iconst 4, 1) := by decide +kernel
theorem dX9_init_382 : decode cX9_init 382 = .ok (.iastore, 1) := by decide +kernel
theorem dX9_init_383 : decode cX9_init 383 = .ok (.iinc 1 1, 3) := by decide +kernel
theorem dX9_init_386 : decode cX9_init 386 = .ok (.goto (-15), 3) := by decide +kernel
theorem dX9_init_389 : decode cX9_init 389 = .ok (.return_, 1) := by decide +kernel
theorem dX9_thrown_0 : decode cX9_thrown 0 = .ok (.aload_n 0, 1) := by decide +kernel
theorem dX9_thrown_1 : decode cX9_thrown 1 = .ok (.getfield 149, 3) := by decide +kernel
theorem dX9_thrown_4 : decode cX9_thrown 4 = .ok (.ireturn, 1) := by decide +kernel
theorem dX9_in_0 : decode cX9_in 0 = .ok (.iload_n 0, 1) := by decide +kernel
theorem dX9_in_1 : decode cX9_in 1 = .ok (.iload_n 1, 1) := by decide +kernel
theorem dX9_in_2 : decode cX9_in 2 = .ok (.if_icmp .lt 12, 3) := by decide +kernel
theorem dX9_in_5 : decode cX9_in 5 = .ok (.iload_n 0, 1) := by decide +kernel
theorem dX9_in_6 : decode cX9_in 6 = .ok (.iload_n 2, 1) := by decide +kernel
theorem dX9_in_7 : decode cX9_in 7 = .ok (.if_icmp .gt 7, 3) := by decide +kernel
theorem dX9_in_10 : decode cX9_in 10 = .ok (.iconst 1, 1) := by decide +kernel
theorem dX9_in_11 : decode cX9_in 11 = .ok (.goto 4, 3) := by decide +kernel
theorem dX9_in_14 : decode cX9_in 14 = .ok (.iconst 0, 1) := by decide +kernel
theorem dX9_in_15 : decode cX9_in 15 = .ok (.ireturn, 1) := by decide +kernel
theorem dX9_goes_0 : decode cX9_goes 0 = .ok (.aload_n 0, 1) := by decide +kernel
theorem dX9_goes_1 : decode cX9_goes 1 = .ok (.iload_n 1, 1) := by decide +kernel
theorem dX9_goes_2 : decode cX9_goes 2 = .ok (.ifCond .ne 7, 3) := by decide +kernel
theorem dX9_goes_5 : decode cX9_goes 5 = .ok (.iconst 1, 1) := by decide +kernel
theorem dX9_goes_6 : decode cX9_goes 6 = .ok (.goto 20, 3) := by decide +kernel
theorem dX9_goes_9 : decode cX9_goes 9 = .ok (.iload_n 2, 1) := by decide +kernel
theorem dX9_goes_10 : decode cX9_goes 10 = .ok (.ifCond .ne 7, 3) := by decide +kernel
theorem dX9_goes_13 : decode cX9_goes 13 = .ok (.iconst 2, 1) := by decide +kernel
theorem dX9_goes_14 : decode cX9_goes 14 = .ok (.goto 12, 3) := by decide +kernel
theorem dX9_goes_17 : decode cX9_goes 17 = .ok (.iload_n 3, 1) := by decide +kernel
