theorem dX8_isHomeFull_44 : decode cX8_isHomeFull 44 = .ok (.iload 5, 2) := by decide +kernel
theorem dX8_isHomeFull_46 : decode cX8_isHomeFull 46 = .ok (.iload_n 2, 1) := by decide +kernel
theorem dX8_isHomeFull_47 : decode cX8_isHomeFull 47 = .ok (.iload_n 3, 1) := by decide +kernel
theorem dX8_isHomeFull_48 : decode cX8_isHomeFull 48 = .ok (.invokestatic 65, 3) := by decide +kernel
theorem dX8_isHomeFull_51 : decode cX8_isHomeFull 51 = .ok (.ifCond .eq 16, 3) := by decide +kernel
theorem dX8_isHomeFull_54 : decode cX8_isHomeFull 54 = .ok (.aload_n 0, 1) := by decide +kernel
theorem dX8_isHomeFull_55 : decode cX8_isHomeFull 55 = .ok (.iload_n 1, 1) := by decide +kernel
theorem dX8_isHomeFull_56 : decode cX8_isHomeFull 56 = .ok (.iload 5, 2) := by decide +kernel
theorem dX8_isHomeFull_58 : decode cX8_isHomeFull 58 = .ok (.invokevirtual 302, 3) := by decide +kernel
theorem dX8_isHomeFull_61 : decode cX8_isHomeFull 61 = .ok (.iconst 2, 1) := by decide +kernel
theorem dX8_isHomeFull_62 : decode cX8_isHomeFull 62 = .ok (.if_icmp .lt 5, 3) := by decide +kernel
theorem dX8_isHomeFull_65 : decode cX8_isHomeFull 65 = .ok (.iconst 1, 1) := by decide +kernel
theorem dX8_isHomeFull_66 : decode cX8_isHomeFull 66 = .ok (.ireturn, 1) := by decide +kernel
theorem dX8_isHomeFull_67 : decode cX8_isHomeFull 67 = .ok (.iinc 4 1, 3) := by decide +kernel
theorem dX8_isHomeFull_70 : decode cX8_isHomeFull 70 = .ok (.goto (-55), 3) := by decide +kernel
theorem dX8_isHomeFull_73 : decode cX8_isHomeFull 73 = .ok (.iconst 0, 1) := by decide +kernel
theorem dX8_isHomeFull_74 : decode cX8_isHomeFull 74 = .ok (.ireturn, 1) := by decide +kernel
theorem dX8_permitsOf_0 : decode cX8_permitsOf 0 = .ok (.iconst 0, 1) := by decide +kernel
theorem dX8_permitsOf_1 : decode cX8_permitsOf 1 = .ok (.istore_n 3, 1) := by decide +kernel
theorem dX8_permitsOf_2 : decode cX8_permitsOf 2 = .ok (.iconst 0, 1) := by decide +kernel
theorem dX8_permitsOf_3 : decode cX8_permitsOf 3 = .ok (.istore 4, 2) := by decide +kernel
theorem dX8_permitsOf_5 : decode cX8_permitsOf 5 = .ok (.iload 4, 2) := by decide +kernel
theorem dX8_permitsOf_7 : decode cX8_permitsOf 7 = .ok (.aload_n 0, 1) := by decide +kernel
theorem dX8_permitsOf_8 : decode cX8_permitsOf 8 = .ok (.getfield 22, 3) := by decide +kernel
theorem dX8_permitsOf_11 : decode cX8_permitsOf 11 = .ok (.invokevirtual 88, 3) := by decide +kernel
theorem dX8_permitsOf_14 : decode cX8_permitsOf 14 = .ok (.if_icmp .ge 44, 3) := by decide +kernel
theorem dX8_permitsOf_17 : decode cX8_permitsOf 17 = .ok (.aload_n 0, 1) := by decide +kernel
theorem dX8_permitsOf_18 : decode cX8_permitsOf 18 = .ok (.getfield 22, 3) := by decide +kernel
theorem dX8_permitsOf_21 : decode cX8_permitsOf 21 = .ok (.iload 4, 2) := by decide +kernel
theorem dX8_permitsOf_23 : decode cX8_permitsOf 23 = .ok (.invokevirtual 122, 3) := by decide +kernel
theorem dX8_permitsOf_26 : decode cX8_permitsOf 26 = .ok (.checkcast 155, 3) := by decide +kernel
theorem dX8_permitsOf_29 : decode cX8_permitsOf 29 = .ok (.astore 5, 2) := by decide +kernel
theorem dX8_permitsOf_31 : decode cX8_permitsOf 31 = .ok (.aload 5, 2) := by decide +kernel
theorem dX8_permitsOf_33 : decode cX8_permitsOf 33 = .ok (.getfield 308, 3) := by decide +kernel
theorem dX8_permitsOf_36 : decode cX8_permitsOf 36 = .ok (.iload_n 1, 1) := by decide +kernel
theorem dX8_permitsOf_37 : decode cX8_permitsOf 37 = .ok (.if_icmp .ne 15, 3) := by decide +kernel
theorem dX8_permitsOf_40 : decode cX8_permitsOf 40 = .ok (.aload 5, 2) := by decide +kernel
theorem dX8_permitsOf_42 : decode cX8_permitsOf 42 = .ok (.iload_n 2, 1) := by decide +kernel
theorem dX8_permitsOf_43 : decode cX8_permitsOf 43 = .ok (.invokevirtual 311, 3) := by decide +kernel
theorem dX8_permitsOf_46 : decode cX8_permitsOf 46 = .ok (.ifCond .eq 6, 3) := by decide +kernel
theorem dX8_permitsOf_49 : decode cX8_permitsOf 49 = .ok (.iinc 3 1, 3) := by decide +kernel
theorem dX8_permitsOf_52 : decode cX8_permitsOf 52 = .ok (.iinc 4 1, 3) := by decide +kernel
theorem dX8_permitsOf_55 : decode cX8_permitsOf 55 = .ok (.goto (-50), 3) := by decide +kernel
theorem dX8_permitsOf_58 : decode cX8_permitsOf 58 = .ok (.iload_n 3, 1) := by decide +kernel
theorem dX8_permitsOf_59 : decode cX8_permitsOf 59 = .ok (.ireturn, 1) := by decide +kernel
theorem dX8_userOf_0 : decode cX8_userOf 0 = .ok (.aload_n 1, 1) := by decide +kernel
theorem dX8_userOf_1 : decode cX8_userOf 1 = .ok (.getfield 314, 3) := by decide +kernel
theorem dX8_userOf_4 : decode cX8_userOf 4 = .ok (.ifCond .ne 20, 3) := by decide +kernel
theorem dX8_userOf_7 : decode cX8_userOf 7 = .ok (.aload_n 0, 1) := by decide +kernel
theorem dX8_userOf_8 : decode cX8_userOf 8 = .ok (.aload_n 1, 1) := by decide +kernel
theorem dX8_userOf_9 : decode cX8_userOf 9 = .ok (.iload_n 2, 1) := by decide +kernel
theorem dX8_userOf_10 : decode cX8_userOf 10 = .ok (.iload_n 3, 1) := by decide +kernel
theorem dX8_userOf_11 : decode cX8_userOf 11 = .ok (.bipush 96, 2) := by decide +kernel
theorem dX8_userOf_13 : decode cX8_userOf 13 = .ok (.idiv, 1) := by decide +kernel
theorem dX8_userOf_14 : decode cX8_userOf 14 = .ok (.invokevirtual 317, 3) := by decide +kernel
theorem dX8_userOf_17 : decode cX8_userOf 17 = .ok (.ifCond .ne 7, 3) := by decide +kernel
theorem dX8_userOf_20 : decode cX8_userOf 20 = .ok (.iconst 4, 1) := by decide +kernel
theorem dX8_userOf_21 : decode cX8_userOf 21 = .ok (.goto 7, 3) := by decide +kernel
theorem dX8_userOf_24 : decode cX8_userOf 24 = .ok (.aload_n 1, 1) := by decide +kernel
theorem dX8_userOf_25 : decode cX8_userOf 25 = .ok (.getfield 314, 3) := by decide +kernel
theorem dX8_userOf_28 : decode cX8_userOf 28 = .ok (.ireturn, 1) := by decide +kernel
theorem dX8_hasPermit_0 : decode cX8_hasPermit 0 = .ok (.iconst 0, 1) := by decide +kernel
theorem dX8_hasPermit_1 : decode cX8_hasPermit 1 = .ok (.istore 4, 2) := by decide +kernel
theorem dX8_hasPermit_3 : decode cX8_hasPermit 3 = .ok (.iload 4, 2) := by decide +kernel
theorem dX8_hasPermit_5 : decode cX8_hasPermit 5 = .ok (.aload_n 0, 1) := by decide +kernel
theorem dX8_hasPermit_6 : decode cX8_hasPermit 6 = .ok (.getfield 22, 3) := by decide +kernel
theorem dX8_hasPermit_9 : decode cX8_hasPermit 9 = .ok (.invokevirtual 88, 3) := by decide +kernel
theorem dX8_hasPermit_12 : decode cX8_hasPermit 12 = .ok (.if_icmp .ge 55, 3) := by decide +kernel
theorem dX8_hasPermit_15 : decode cX8_hasPermit 15 = .ok (.aload_n 0, 1) := by decide +kernel
theorem dX8_hasPermit_16 : decode cX8_hasPermit 16 = .ok (.getfield 22, 3) := by decide +kernel
theorem dX8_hasPermit_19 : decode cX8_hasPermit 19 = .ok (.iload 4, 2) := by decide +kernel
theorem dX8_hasPermit_21 : decode cX8_hasPermit 21 = .ok (.invokevirtual 122, 3) := by decide +kernel
theorem dX8_hasPermit_24 : decode cX8_hasPermit 24 = .ok (.checkcast 155, 3) := by decide +kernel
theorem dX8_hasPermit_27 : decode cX8_hasPermit 27 = .ok (.astore 5, 2) := by decide +kernel
theorem dX8_hasPermit_29 : decode cX8_hasPermit 29 = .ok (.aload 5, 2) := by decide +kernel
theorem dX8_hasPermit_31 : decode cX8_hasPermit 31 = .ok (.getfield 162, 3) := by decide +kernel
theorem dX8_hasPermit_34 : decode cX8_hasPermit 34 = .ok (.aload_n 1, 1) := by decide +kernel
theorem dX8_hasPermit_35 : decode cX8_hasPermit 35 = .ok (.getfield 145, 3) := by decide +kernel
theorem dX8_hasPermit_38 : decode cX8_hasPermit 38 = .ok (.if_icmp .ne 23, 3) := by decide +kernel
theorem dX8_hasPermit_41 : decode cX8_hasPermit 41 = .ok (.aload 5, 2) := by decide +kernel
theorem dX8_hasPermit_43 : decode cX8_hasPermit 43 = .ok (.getfield 321, 3) := by decide +kernel
theorem dX8_hasPermit_46 : decode cX8_hasPermit 46 = .ok (.iload_n 2, 1) := by decide +kernel
theorem dX8_hasPermit_47 : decode cX8_hasPermit 47 = .ok (.if_icmp .ne 14, 3) := by decide +kernel
theorem dX8_hasPermit_50 : decode cX8_hasPermit 50 = .ok (.aload 5, 2) := by decide +kernel
theorem dX8_hasPermit_52 : decode cX8_hasPermit 52 = .ok (.iload_n 3, 1) := by decide +kernel
theorem dX8_hasPermit_53 : decode cX8_hasPermit 53 = .ok (.invokevirtual 311, 3) := by decide +kernel
theorem dX8_hasPermit_56 : decode cX8_hasPermit 56 = .ok (.ifCond .eq 5, 3) := by decide +kernel
theorem dX8_hasPermit_59 : decode cX8_hasPermit 59 = .ok (.iconst 1, 1) := by decide +kernel
theorem dX8_hasPermit_60 : decode cX8_hasPermit 60 = .ok (.ireturn, 1) := by decide +kernel
theorem dX8_hasPermit_61 : decode cX8_hasPermit 61 = .ok (.iinc 4 1, 3) := by decide +kernel
theorem dX8_hasPermit_64 : decode cX8_hasPermit 64 = .ok (.goto (-61), 3) := by decide +kernel
theorem dX8_hasPermit_67 : decode cX8_hasPermit 67 = .ok (.iconst 0, 1) := by decide +kernel
theorem dX8_hasPermit_68 : decode cX8_hasPermit 68 = .ok (.ireturn, 1) := by decide +kernel
theorem dX8_isGap_0 : decode cX8_isGap 0 = .ok (.iload_n 2, 1) := by decide +kernel
theorem dX8_isGap_1 : decode cX8_isGap 1 = .ok (.iload_n 3, 1) := by decide +kernel
theorem dX8_isGap_2 : decode cX8_isGap 2 = .ok (.iadd, 1) := by decide +kernel
theorem dX8_isGap_3 : decode cX8_isGap 3 = .ok (.bipush 60, 2) := by decide +kernel
theorem dX8_isGap_5 : decode cX8_isGap 5 = .ok (.if_icmp .le 5, 3) := by decide +kernel
theorem dX8_isGap_8 : decode cX8_isGap 8 = .ok (.iconst 0, 1) := by decide +kernel
theorem dX8_isGap_9 : decode cX8_isGap 9 = .ok (.ireturn, 1) := by decide +kernel
theorem dX8_isGap_10 : decode cX8_isGap 10 = .ok (.iconst 0, 1) := by decide +kernel
theorem dX8_isGap_11 : decode cX8_isGap 11 = .ok (.istore 4, 2) := by decide +kernel
theorem dX8_isGap_13 : decode cX8_isGap 13 = .ok (.iload 4, 2) := by decide +kernel
theorem dX8_isGap_15 : decode cX8_isGap 15 = .ok (.aload_n 0, 1) := by decide +kernel
theorem dX8_isGap_16 : decode cX8_isGap 16 = .ok (.getfield 19, 3) := by decide +kernel
theorem dX8_isGap_19 : decode cX8_isGap 19 = .ok (.invokevirtual 88, 3) := by decide +kernel
theorem dX8_isGap_22 : decode cX8_isGap 22 = .ok (.if_icmp .ge 52, 3) := by decide +kernel
theorem dX8_isGap_25 : decode cX8_isGap 25 = .ok (.aload_n 0, 1) := by decide +kernel
theorem dX8_isGap_26 : decode cX8_isGap 26 = .ok (.getfield 19, 3) := by decide +kernel
theorem dX8_isGap_29 : decode cX8_isGap 29 = .ok (.iload 4, 2) := by decide +kernel
theorem dX8_isGap_31 : decode cX8_isGap 31 = .ok (.invokevirtual 122, 3) := by decide +kernel
theorem dX8_isGap_34 : decode cX8_isGap 34 = .ok (.checkcast 141, 3) := by decide +kernel
theorem dX8_isGap_37 : decode cX8_isGap 37 = .ok (.getfield 169, 3) := by decide +kernel
theorem dX8_isGap_40 : decode cX8_isGap 40 = .ok (.astore 5, 2) := by decide +kernel
theorem dX8_isGap_42 : decode cX8_isGap 42 = .ok (.aload 5, 2) := by decide +kernel
theorem dX8_isGap_44 : decode cX8_isGap 44 = .ok (.ifnull 24, 3) := by decide +kernel
theorem dX8_isGap_47 : decode cX8_isGap 47 = .ok (.aload 5, 2) := by decide +kernel
theorem dX8_isGap_49 : decode cX8_isGap 49 = .ok (.getfield 226, 3) := by decide +kernel
theorem dX8_isGap_52 : decode cX8_isGap 52 = .ok (.iload_n 1, 1) := by decide +kernel
theorem dX8_isGap_53 : decode cX8_isGap 53 = .ok (.if_icmp .ne 15, 3) := by decide +kernel
theorem dX8_isGap_56 : decode cX8_isGap 56 = .ok (.aload 5, 2) := by decide +kernel
theorem dX8_isGap_58 : decode cX8_isGap 58 = .ok (.iload_n 2, 1) := by decide +kernel
theorem dX8_isGap_59 : decode cX8_isGap 59 = .ok (.iload_n 3, 1) := by decide +kernel
theorem dX8_isGap_60 : decode cX8_isGap 60 = .ok (.invokevirtual 322, 3) := by decide +kernel
theorem dX8_isGap_63 : decode cX8_isGap 63 = .ok (.ifCond .eq 5, 3) := by decide +kernel
theorem dX8_isGap_66 : decode cX8_isGap 66 = .ok (.iconst 0, 1) := by decide +kernel
theorem dX8_isGap_67 : decode cX8_isGap 67 = .ok (.ireturn, 1) := by decide +kernel
theorem dX8_isGap_68 : decode cX8_isGap 68 = .ok (.iinc 4 1, 3) := by decide +kernel
theorem dX8_isGap_71 : decode cX8_isGap 71 = .ok (.goto (-58), 3) := by decide +kernel
theorem dX8_isGap_74 : decode cX8_isGap 74 = .ok (.iconst 1, 1) := by decide +kernel
theorem dX8_isGap_75 : decode cX8_isGap 75 = .ok (.ireturn, 1) := by decide +kernel
theorem dX8_endStand_0 : decode cX8_endStand 0 = .ok (.aload_n 0, 1) := by decide +kernel
theorem dX8_endStand_1 : decode cX8_endStand 1 = .ok (.aload_n 1, 1) := by decide +kernel
theorem dX8_endStand_2 : decode cX8_endStand 2 = .ok (.getfield 226, 3) := by decide +kernel
theorem dX8_endStand_5 : decode cX8_endStand 5 = .ok (.invokevirtual 49, 3) := by decide +kernel
theorem dX8_endStand_8 : decode cX8_endStand 8 = .ok (.dup, 1) := by decide +kernel
theorem dX8_endStand_9 : decode cX8_endStand 9 = .ok (.getfield 184, 3) := by decide +kernel
theorem dX8_endStand_12 : decode cX8_endStand 12 = .ok (.aload_n 1, 1) := by decide +kernel
theorem dX8_endStand_13 : decode cX8_endStand 13 = .ok (.getfield 263, 3) := by decide +kernel
theorem dX8_endStand_16 : decode cX8_endStand 16 = .ok (.getfield 173, 3) := by decide +kernel
theorem dX8_endStand_19 : decode cX8_endStand 19 = .ok (.isub, 1) := by decide +kernel
theorem dX8_endStand_20 : decode cX8_endStand 20 = .ok (.putfield 184, 3) := by decide +kernel
theorem dX8_endStand_23 : decode cX8_endStand 23 = .ok (.aload_n 1, 1) := by decide +kernel
theorem dX8_endStand_24 : decode cX8_endStand 24 = .ok (.getfield 263, 3) := by decide +kernel
theorem dX8_endStand_27 : decode cX8_endStand 27 = .ok (.aconst_null, 1) := by decide +kernel
theorem dX8_endStand_28 : decode cX8_endStand 28 = .ok (.putfield 169, 3) := by decide +kernel
theorem dX8_endStand_31 : decode cX8_endStand 31 = .ok (.return_, 1) := by decide +kernel
theorem dX8_isOnBlocked_0 : decode cX8_isOnBlocked 0 = .ok (.aload_n 0, 1) := by decide +kernel
theorem dX8_isOnBlocked_1 : decode cX8_isOnBlocked 1 = .ok (.aload_n 1, 1) := by decide +kernel
theorem dX8_isOnBlocked_2 : decode cX8_isOnBlocked 2 = .ok (.getfield 226, 3) := by decide +kernel
theorem dX8_isOnBlocked_5 : decode cX8_isOnBlocked 5 = .ok (.invokevirtual 49, 3) := by decide +kernel
theorem dX8_isOnBlocked_8 : decode cX8_isOnBlocked 8 = .ok (.astore_n 2, 1) := by decide +kernel
theorem dX8_isOnBlocked_9 : decode cX8_isOnBlocked 9 = .ok (.iconst 0, 1) := by decide +kernel
theorem dX8_isOnBlocked_10 : decode cX8_isOnBlocked 10 = .ok (.istore_n 3, 1) := by decide +kernel
theorem dX8_isOnBlocked_11 : decode cX8_isOnBlocked 11 = .ok (.iload_n 3, 1) := by decide +kernel
theorem dX8_isOnBlocked_12 : decode cX8_isOnBlocked 12 = .ok (.aload_n 1, 1) := by decide +kernel
theorem dX8_isOnBlocked_13 : decode cX8_isOnBlocked 13 = .ok (.getfield 263, 3) := by decide +kernel
theorem dX8_isOnBlocked_16 : decode cX8_isOnBlocked 16 = .ok (.getfield 173, 3) := by decide +kernel
theorem dX8_isOnBlocked_19 : decode cX8_isOnBlocked 19 = .ok (.if_icmp .ge 24, 3) := by decide +kernel
theorem dX8_isOnBlocked_22 : decode cX8_isOnBlocked 22 = .ok (.aload_n 2, 1) := by decide +kernel
theorem dX8_isOnBlocked_23 : decode cX8_isOnBlocked 23 = .ok (.aload_n 1, 1) := by decide +kernel
theorem dX8_isOnBlocked_24 : decode cX8_isOnBlocked 24 = .ok (.getfield 325, 3) := by decide +kernel
theorem dX8_isOnBlocked_27 : decode cX8_isOnBlocked 27 = .ok (.iload_n 3, 1) := by decide +kernel
theorem dX8_isOnBlocked_28 : decode cX8_isOnBlocked 28 = .ok (.iadd, 1) := by decide +kernel
theorem dX8_isOnBlocked_29 : decode cX8_isOnBlocked 29 = .ok (.invokevirtual 57, 3) := by decide +kernel
theorem dX8_isOnBlocked_32 : decode cX8_isOnBlocked 32 = .ok (.ifCond .eq 5, 3) := by decide +kernel
theorem dX8_isOnBlocked_35 : decode cX8_isOnBlocked 35 = .ok (.iconst 1, 1) := by decide +kernel
theorem dX8_isOnBlocked_36 : decode cX8_isOnBlocked 36 = .ok (.ireturn, 1) := by decide +kernel
theorem dX8_isOnBlocked_37 : decode cX8_isOnBlocked 37 = .ok (.iinc 3 1, 3) := by decide +kernel
theorem dX8_isOnBlocked_40 : decode cX8_isOnBlocked 40 = .ok (.goto (-29), 3) := by decide +kernel
theorem dX8_isOnBlocked_43 : decode cX8_isOnBlocked 43 = .ok (.iconst 0, 1) := by decide +kernel
theorem dX8_isOnBlocked_44 : decode cX8_isOnBlocked 44 = .ok (.ireturn, 1) := by decide +kernel
theorem dX8_judgementOf_0 : decode cX8_judgementOf 0 = .ok (.iload_n 3, 1) := by decide +kernel
theorem dX8_judgementOf_1 : decode cX8_judgementOf 1 = .ok (.ifCond .eq 5, 3) := by decide +kernel
theorem dX8_judgementOf_4 : decode cX8_judgementOf 4 = .ok (.iconst 1, 1) := by decide +kernel
theorem dX8_judgementOf_5 : decode cX8_judgementOf 5 = .ok (.ireturn, 1) := by decide +kernel
theorem dX8_judgementOf_6 : decode cX8_judgementOf 6 = .ok (.aload_n 0, 1) := by decide +kernel
theorem dX8_judgementOf_7 : decode cX8_judgementOf 7 = .ok (.aload_n 1, 1) := by decide +kernel
theorem dX8_judgementOf_8 : decode cX8_judgementOf 8 = .ok (.iload_n 2, 1) := by decide +kernel
theorem dX8_judgementOf_9 : decode cX8_judgementOf 9 = .ok (.invokevirtual 328, 3) := by decide +kernel
theorem dX8_judgementOf_12 : decode cX8_judgementOf 12 = .ok (.ifCond .eq 5, 3) := by decide +kernel
theorem dX8_judgementOf_15 : decode cX8_judgementOf 15 = .ok (.iconst 2, 1) := by decide +kernel
theorem dX8_judgementOf_16 : decode cX8_judgementOf 16 = .ok (.ireturn, 1) := by decide +kernel
theorem dX8_judgementOf_17 : decode cX8_judgementOf 17 = .ok (.aload_n 0, 1) := by decide +kernel
theorem dX8_judgementOf_18 : decode cX8_judgementOf 18 = .ok (.aload_n 1, 1) := by decide +kernel
theorem dX8_judgementOf_19 : decode cX8_judgementOf 19 = .ok (.getfield 226, 3) := by decide +kernel
theorem dX8_judgementOf_22 : decode cX8_judgementOf 22 = .ok (.aload_n 1, 1) := by decide +kernel
theorem dX8_judgementOf_23 : decode cX8_judgementOf 23 = .ok (.getfield 325, 3) := by decide +kernel
theorem dX8_judgementOf_26 : decode cX8_judgementOf 26 = .ok (.iload_n 2, 1) := by decide +kernel
theorem dX8_judgementOf_27 : decode cX8_judgementOf 27 = .ok (.invokevirtual 130, 3) := by decide +kernel
theorem dX8_judgementOf_30 : decode cX8_judgementOf 30 = .ok (.astore 4, 2) := by decide +kernel
theorem dX8_judgementOf_32 : decode cX8_judgementOf 32 = .ok (.aload 4, 2) := by decide +kernel
theorem dX8_judgementOf_34 : decode cX8_judgementOf 34 = .ok (.ifnonnull 5, 3) := by decide +kernel
theorem dX8_judgementOf_37 : decode cX8_judgementOf 37 = .ok (.iconst 0, 1) := by decide +kernel
theorem dX8_judgementOf_38 : decode cX8_judgementOf 38 = .ok (.ireturn, 1) := by decide +kernel
theorem dX8_judgementOf_39 : decode cX8_judgementOf 39 = .ok (.iload_n 2, 1) := by decide +kernel
theorem dX8_judgementOf_40 : decode cX8_judgementOf 40 = .ok (.aload_n 1, 1) := by decide +kernel
theorem dX8_judgementOf_41 : decode cX8_judgementOf 41 = .ok (.getfield 196, 3) := by decide +kernel
theorem dX8_judgementOf_44 : decode cX8_judgementOf 44 = .ok (.isub, 1) := by decide +kernel
theorem dX8_judgementOf_45 : decode cX8_judgementOf 45 = .ok (.istore 5, 2) := by decide +kernel
theorem dX8_judgementOf_47 : decode cX8_judgementOf 47 = .ok (.aload 4, 2) := by decide +kernel
theorem dX8_judgementOf_49 : decode cX8_judgementOf 49 = .ok (.getfield 332, 3) := by decide +kernel
theorem dX8_judgementOf_52 : decode cX8_judgementOf 52 = .ok (.ifCond .le 17, 3) := by decide +kernel
theorem dX8_judgementOf_55 : decode cX8_judgementOf 55 = .ok (.iload 5, 2) := by decide +kernel
theorem dX8_judgementOf_57 : decode cX8_judgementOf 57 = .ok (.aload 4, 2) := by decide +kernel
theorem dX8_judgementOf_59 : decode cX8_judgementOf 59 = .ok (.getfield 332, 3) := by decide +kernel
theorem dX8_judgementOf_62 : decode cX8_judgementOf 62 = .ok (.iconst 1, 1) := by decide +kernel
theorem dX8_judgementOf_63 : decode cX8_judgementOf 63 = .ok (.iadd, 1) := by decide +kernel
theorem dX8_judgementOf_64 : decode cX8_judgementOf 64 = .ok (.if_icmp .le 5, 3) := by decide +kernel
theorem dX8_judgementOf_67 : decode cX8_judgementOf 67 = .ok (.iconst 3, 1) := by decide +kernel
theorem dX8_judgementOf_68 : decode cX8_judgementOf 68 = .ok (.ireturn, 1) := by decide +kernel
theorem dX8_judgementOf_69 : decode cX8_judgementOf 69 = .ok (.aload 4, 2) := by decide +kernel
theorem dX8_judgementOf_71 : decode cX8_judgementOf 71 = .ok (.getfield 335, 3) := by decide +kernel
theorem dX8_judgementOf_74 : decode cX8_judgementOf 74 = .ok (.ifCond .eq 22, 3) := by decide +kernel
theorem dX8_judgementOf_77 : decode cX8_judgementOf 77 = .ok (.iload 5, 2) := by decide +kernel
theorem dX8_judgementOf_79 : decode cX8_judgementOf 79 = .ok (.iconst 1, 1) := by decide +kernel
theorem dX8_judgementOf_80 : decode cX8_judgementOf 80 = .ok (.if_icmp .le 16, 3) := by decide +kernel
theorem dX8_judgementOf_83 : decode cX8_judgementOf 83 = .ok (.aload_n 0, 1) := by decide +kernel
theorem dX8_judgementOf_84 : decode cX8_judgementOf 84 = .ok (.aload_n 1, 1) := by decide +kernel
theorem dX8_judgementOf_85 : decode cX8_judgementOf 85 = .ok (.iload_n 2, 1) := by decide +kernel
theorem dX8_judgementOf_86 : decode cX8_judgementOf 86 = .ok (.invokevirtual 338, 3) := by decide +kernel
theorem dX8_judgementOf_89 : decode cX8_judgementOf 89 = .ok (.ifCond .ne 7, 3) := by decide +kernel
theorem dX8_judgementOf_92 : decode cX8_judgementOf 92 = .ok (.iconst 4, 1) := by decide +kernel
theorem dX8_judgementOf_93 : decode cX8_judgementOf 93 = .ok (.goto 4, 3) := by decide +kernel
theorem dX8_judgementOf_96 : decode cX8_judgementOf 96 = .ok (.iconst 0, 1) := by decide +kernel
theorem dX8_judgementOf_97 : decode cX8_judgementOf 97 = .ok (.ireturn, 1) := by decide +kernel
theorem dX8_isForbidden_0 : decode cX8_isForbidden 0 = .ok (.aload_n 0, 1) := by decide +kernel
theorem dX8_isForbidden_1 : decode cX8_isForbidden 1 = .ok (.aload_n 1, 1) := by decide +kernel
theorem dX8_isForbidden_2 : decode cX8_isForbidden 2 = .ok (.getfield 263, 3) := by decide +kernel
theorem dX8_isForbidden_5 : decode cX8_isForbidden 5 = .ok (.aload_n 1, 1) := by decide +kernel
theorem dX8_isForbidden_6 : decode cX8_isForbidden 6 = .ok (.getfield 226, 3) := by decide +kernel
theorem dX8_isForbidden_9 : decode cX8_isForbidden 9 = .ok (.iload_n 2, 1) := by decide +kernel
theorem dX8_isForbidden_10 : decode cX8_isForbidden 10 = .ok (.invokevirtual 165, 3) := by decide +kernel
theorem dX8_isForbidden_13 : decode cX8_isForbidden 13 = .ok (.istore_n 3, 1) := by decide +kernel
theorem dX8_isForbidden_14 : decode cX8_isForbidden 14 = .ok (.iconst 0, 1) := by decide +kernel
theorem dX8_isForbidden_15 : decode cX8_isForbidden 15 = .ok (.istore 4, 2) := by decide +kernel
theorem dX8_isForbidden_17 : decode cX8_isForbidden 17 = .ok (.iload 4, 2) := by decide +kernel
theorem dX8_isForbidden_19 : decode cX8_isForbidden 19 = .ok (.aload_n 1, 1) := by decide +kernel
theorem dX8_isForbidden_20 : decode cX8_isForbidden 20 = .ok (.getfield 263, 3) := by decide +kernel
theorem dX8_isForbidden_23 : decode cX8_isForbidden 23 = .ok (.getfield 173, 3) := by decide +kernel
theorem dX8_isForbidden_26 : decode cX8_isForbidden 26 = .ok (.if_icmp .ge 43, 3) := by decide +kernel
theorem dX8_isForbidden_29 : decode cX8_isForbidden 29 = .ok (.aload_n 0, 1) := by decide +kernel
theorem dX8_isForbidden_30 : decode cX8_isForbidden 30 = .ok (.aload_n 1, 1) := by decide +kernel
theorem dX8_isForbidden_31 : decode cX8_isForbidden 31 = .ok (.getfield 226, 3) := by decide +kernel
theorem dX8_isForbidden_34 : decode cX8_isForbidden 34 = .ok (.aload_n 1, 1) := by decide +kernel
theorem dX8_isForbidden_35 : decode cX8_isForbidden 35 = .ok (.getfield 325, 3) := by decide +kernel
theorem dX8_isForbidden_38 : decode cX8_isForbidden 38 = .ok (.iload 4, 2) := by decide +kernel
theorem dX8_isForbidden_40 : decode cX8_isForbidden 40 = .ok (.iadd, 1) := by decide +kernel
theorem dX8_isForbidden_41 : decode cX8_isForbidden 41 = .ok (.iload_n 2, 1) := by decide +kernel
theorem dX8_isForbidden_42 : decode cX8_isForbidden 42 = .ok (.invokevirtual 130, 3) := by decide +kernel
theorem dX8_isForbidden_45 : decode cX8_isForbidden 45 = .ok (.astore 5, 2) := by decide +kernel
theorem dX8_isForbidden_47 : decode cX8_isForbidden 47 = .ok (.aload 5, 2) := by decide +kernel
theorem dX8_isForbidden_49 : decode cX8_isForbidden 49 = .ok (.ifnull 14, 3) := by decide +kernel
theorem dX8_isForbidden_52 : decode cX8_isForbidden 52 = .ok (.aload 5, 2) := by decide +kernel
theorem dX8_isForbidden_54 : decode cX8_isForbidden 54 = .ok (.iload_n 3, 1) := by decide +kernel
theorem dX8_isForbidden_55 : decode cX8_isForbidden 55 = .ok (.invokevirtual 341, 3) := by decide +kernel
theorem dX8_isForbidden_58 : decode cX8_isForbidden 58 = .ok (.ifCond .ne 5, 3) := by decide +kernel
theorem dX8_isForbidden_61 : decode cX8_isForbidden 61 = .ok (.iconst 1, 1) := by decide +kernel
theorem dX8_isForbidden_62 : decode cX8_isForbidden 62 = .ok (.ireturn, 1) := by decide +kernel
theorem dX8_isForbidden_63 : decode cX8_isForbidden 63 = .ok (.iinc 4 1, 3) := by decide +kernel
theorem dX8_isForbidden_66 : decode cX8_isForbidden 66 = .ok (.goto (-49), 3) := by decide +kernel
theorem dX8_isForbidden_69 : decode cX8_isForbidden 69 = .ok (.iconst 0, 1) := by decide +kernel
theorem dX8_isForbidden_70 : decode cX8_isForbidden 70 = .ok (.ireturn, 1) := by decide +kernel
theorem dX8_isPaidFor_0 : decode cX8_isPaidFor 0 = .ok (.iconst 0, 1) := by decide +kernel
theorem dX8_isPaidFor_1 : decode cX8_isPaidFor 1 = .ok (.istore_n 3, 1) := by decide +kernel
theorem dX8_isPaidFor_2 : decode cX8_isPaidFor 2 = .ok (.iload_n 3, 1) := by decide +kernel
theorem dX8_isPaidFor_3 : decode cX8_isPaidFor 3 = .ok (.aload_n 0, 1) := by decide +kernel
theorem dX8_isPaidFor_4 : decode cX8_isPaidFor 4 = .ok (.getfield 25, 3) := by decide +kernel
theorem dX8_isPaidFor_7 : decode cX8_isPaidFor 7 = .ok (.invokevirtual 88, 3) := by decide +kernel
theorem dX8_isPaidFor_10 : decode cX8_isPaidFor 10 = .ok (.if_icmp .ge 60, 3) := by decide +kernel
theorem dX8_isPaidFor_13 : decode cX8_isPaidFor 13 = .ok (.aload_n 0, 1) := by decide +kernel
theorem dX8_isPaidFor_14 : decode cX8_isPaidFor 14 = .ok (.getfield 25, 3) := by decide +kernel
theorem dX8_isPaidFor_17 : decode cX8_isPaidFor 17 = .ok (.iload_n 3, 1) := by decide +kernel
theorem dX8_isPaidFor_18 : decode cX8_isPaidFor 18 = .ok (.invokevirtual 122, 3) := by decide +kernel
theorem dX8_isPaidFor_21 : decode cX8_isPaidFor 21 = .ok (.checkcast 205, 3) := by decide +kernel
theorem dX8_isPaidFor_24 : decode cX8_isPaidFor 24 = .ok (.astore 4, 2) := by decide +kernel
theorem dX8_isPaidFor_26 : decode cX8_isPaidFor 26 = .ok (.aload 4, 2) := by decide +kernel
theorem dX8_isPaidFor_28 : decode cX8_isPaidFor 28 = .ok (.getfield 344, 3) := by decide +kernel
theorem dX8_isPaidFor_31 : decode cX8_isPaidFor 31 = .ok (.aload_n 1, 1) := by decide +kernel
theorem dX8_isPaidFor_32 : decode cX8_isPaidFor 32 = .ok (.getfield 263, 3) := by decide +kernel
theorem dX8_isPaidFor_35 : decode cX8_isPaidFor 35 = .ok (.getfield 145, 3) := by decide +kernel
theorem dX8_isPaidFor_38 : decode cX8_isPaidFor 38 = .ok (.if_icmp .ne 26, 3) := by decide +kernel
theorem dX8_isPaidFor_41 : decode cX8_isPaidFor 41 = .ok (.aload 4, 2) := by decide +kernel
theorem dX8_isPaidFor_43 : decode cX8_isPaidFor 43 = .ok (.getfield 345, 3) := by decide +kernel
theorem dX8_isPaidFor_46 : decode cX8_isPaidFor 46 = .ok (.aload_n 1, 1) := by decide +kernel
theorem dX8_isPaidFor_47 : decode cX8_isPaidFor 47 = .ok (.getfield 226, 3) := by decide +kernel
theorem dX8_isPaidFor_50 : decode cX8_isPaidFor 50 = .ok (.if_icmp .ne 14, 3) := by decide +kernel
theorem dX8_isPaidFor_53 : decode cX8_isPaidFor 53 = .ok (.aload 4, 2) := by decide +kernel
theorem dX8_isPaidFor_55 : decode cX8_isPaidFor 55 = .ok (.iload_n 2, 1) := by decide +kernel
theorem dX8_isPaidFor_56 : decode cX8_isPaidFor 56 = .ok (.invokevirtual 346, 3) := by decide +kernel
theorem dX8_isPaidFor_59 : decode cX8_isPaidFor 59 = .ok (.ifCond .eq 5, 3) := by decide +kernel
theorem dX8_isPaidFor_62 : decode cX8_isPaidFor 62 = .ok (.iconst 1, 1) := by decide +kernel
theorem dX8_isPaidFor_63 : decode cX8_isPaidFor 63 = .ok (.ireturn, 1) := by decide +kernel
theorem dX8_isPaidFor_64 : decode cX8_isPaidFor 64 = .ok (.iinc 3 1, 3) := by decide +kernel
theorem dX8_isPaidFor_67 : decode cX8_isPaidFor 67 = .ok (.goto (-65), 3) := by decide +kernel
theorem dX8_isPaidFor_70 : decode cX8_isPaidFor 70 = .ok (.iconst 0, 1) := by decide +kernel
theorem dX8_isPaidFor_71 : decode cX8_isPaidFor 71 = .ok (.ireturn, 1) := by decide +kernel
theorem dX8_lookAt_0 : decode cX8_lookAt 0 = .ok (.aload_n 0, 1) := by decide +kernel
theorem dX8_lookAt_1 : decode cX8_lookAt 1 = .ok (.aload_n 1, 1) := by decide +kernel
theorem dX8_lookAt_2 : decode cX8_lookAt 2 = .ok (.aload_n 0, 1) := by decide +kernel
theorem dX8_lookAt_3 : decode cX8_lookAt 3 = .ok (.getfield 38, 3) := by decide +kernel
theorem dX8_lookAt_6 : decode cX8_lookAt 6 = .ok (.aload_n 0, 1) := by decide +kernel
theorem dX8_lookAt_7 : decode cX8_lookAt 7 = .ok (.aload_n 1, 1) := by decide +kernel
theorem dX8_lookAt_8 : decode cX8_lookAt 8 = .ok (.invokevirtual 216, 3) := by decide +kernel
theorem dX8_lookAt_11 : decode cX8_lookAt 11 = .ok (.invokevirtual 220, 3) := by decide +kernel
theorem dX8_lookAt_14 : decode cX8_lookAt 14 = .ok (.istore_n 3, 1) := by decide +kernel
theorem dX8_lookAt_15 : decode cX8_lookAt 15 = .ok (.aload_n 0, 1) := by decide +kernel
theorem dX8_lookAt_16 : decode cX8_lookAt 16 = .ok (.getfield 38, 3) := by decide +kernel
theorem dX8_lookAt_19 : decode cX8_lookAt 19 = .ok (.bipush 96, 2) := by decide +kernel
theorem dX8_lookAt_21 : decode cX8_lookAt 21 = .ok (.idiv, 1) := by decide +kernel
theorem dX8_lookAt_22 : decode cX8_lookAt 22 = .ok (.istore 4, 2) := by decide +kernel
theorem dX8_lookAt_24 : decode cX8_lookAt 24 = .ok (.iload_n 3, 1) := by decide +kernel
theorem dX8_lookAt_25 : decode cX8_lookAt 25 = .ok (.ifCond .eq 24, 3) := by decide +kernel
theorem dX8_lookAt_28 : decode cX8_lookAt 28 = .ok (.aload_n 1, 1) := by decide +kernel
theorem dX8_lookAt_29 : decode cX8_lookAt 29 = .ok (.getfield 349, 3) := by decide +kernel
theorem dX8_lookAt_32 : decode cX8_lookAt 32 = .ok (.iload 4, 2) := by decide +kernel
theorem dX8_lookAt_34 : decode cX8_lookAt 34 = .ok (.if_icmp .eq 15, 3) := by decide +kernel
theorem dX8_lookAt_37 : decode cX8_lookAt 37 = .ok (.aload_n 0, 1) := by decide +kernel
theorem dX8_lookAt_38 : decode cX8_lookAt 38 = .ok (.getfield 28, 3) := by decide +kernel
theorem dX8_lookAt_41 : decode cX8_lookAt 41 = .ok (.invokevirtual 88, 3) := by decide +kernel
theorem dX8_lookAt_44 : decode cX8_lookAt 44 = .ok (.bipush 60, 2) := by decide +kernel
theorem dX8_lookAt_46 : decode cX8_lookAt 46 = .ok (.if_icmp .lt 4, 3) := by decide +kernel
theorem dX8_lookAt_49 : decode cX8_lookAt 49 = .ok (.return_, 1) := by decide +kernel
theorem dX8_lookAt_50 : decode cX8_lookAt 50 = .ok (.aload_n 0, 1) := by decide +kernel
theorem dX8_lookAt_51 : decode cX8_lookAt 51 = .ok (.getfield 28, 3) := by decide +kernel
theorem dX8_lookAt_54 : decode cX8_lookAt 54 = .ok (.new 238, 3) := by decide +kernel
theorem dX8_lookAt_57 : decode cX8_lookAt 57 = .ok (.dup, 1) := by decide +kernel
theorem dX8_lookAt_58 : decode cX8_lookAt 58 = .ok (.aload_n 1, 1) := by decide +kernel
theorem dX8_lookAt_59 : decode cX8_lookAt 59 = .ok (.aload_n 0, 1) := by decide +kernel
theorem dX8_lookAt_60 : decode cX8_lookAt 60 = .ok (.getfield 38, 3) := by decide +kernel
theorem dX8_lookAt_63 : decode cX8_lookAt 63 = .ok (.iload_n 3, 1) := by decide +kernel
theorem dX8_lookAt_64 : decode cX8_lookAt 64 = .ok (.invokespecial 352, 3) := by decide +kernel
theorem dX8_lookAt_67 : decode cX8_lookAt 67 = .ok (.invokevirtual 45, 3) := by decide +kernel
theorem dX8_lookAt_70 : decode cX8_lookAt 70 = .ok (.pop, 1) := by decide +kernel
theorem dX8_lookAt_71 : decode cX8_lookAt 71 = .ok (.aload_n 1, 1) := by decide +kernel
theorem dX8_lookAt_72 : decode cX8_lookAt 72 = .ok (.iload 4, 2) := by decide +kernel
theorem dX8_lookAt_74 : decode cX8_lookAt 74 = .ok (.putfield 349, 3) := by decide +kernel
theorem dX8_lookAt_77 : decode cX8_lookAt 77 = .ok (.aload_n 2, 1) := by decide +kernel
theorem dX8_lookAt_78 : decode cX8_lookAt 78 = .ok (.dup, 1) := by decide +kernel
theorem dX8_lookAt_79 : decode cX8_lookAt 79 = .ok (.getfield 224, 3) := by decide +kernel
theorem dX8_lookAt_82 : decode cX8_lookAt 82 = .ok (.iconst 1, 1) := by decide +kernel
theorem dX8_lookAt_83 : decode cX8_lookAt 83 = .ok (.iadd, 1) := by decide +kernel
theorem dX8_lookAt_84 : decode cX8_lookAt 84 = .ok (.putfield 224, 3) := by decide +kernel
theorem dX8_lookAt_87 : decode cX8_lookAt 87 = .ok (.return_, 1) := by decide +kernel
theorem dX8_debtOf_0 : decode cX8_debtOf 0 = .ok (.iconst 0, 1) := by decide +kernel
theorem dX8_debtOf_1 : decode cX8_debtOf 1 = .ok (.istore_n 2, 1) := by decide +kernel
theorem dX8_debtOf_2 : decode cX8_debtOf 2 = .ok (.iconst 0, 1) := by decide +kernel
theorem dX8_debtOf_3 : decode cX8_debtOf 3 = .ok (.istore_n 3, 1) := by decide +kernel
theorem dX8_debtOf_4 : decode cX8_debtOf 4 = .ok (.iload_n 3, 1) := by decide +kernel
theorem dX8_debtOf_5 : decode cX8_debtOf 5 = .ok (.aload_n 0, 1) := by decide +kernel
theorem dX8_debtOf_6 : decode cX8_debtOf 6 = .ok (.getfield 28, 3) := by decide +kernel
theorem dX8_debtOf_9 : decode cX8_debtOf 9 = .ok (.invokevirtual 88, 3) := by decide +kernel
theorem dX8_debtOf_12 : decode cX8_debtOf 12 = .ok (.if_icmp .ge 56, 3) := by decide +kernel
theorem dX8_debtOf_15 : decode cX8_debtOf 15 = .ok (.aload_n 0, 1) := by decide +kernel
theorem dX8_debtOf_16 : decode cX8_debtOf 16 = .ok (.getfield 28, 3) := by decide +kernel
theorem dX8_debtOf_19 : decode cX8_debtOf 19 = .ok (.iload_n 3, 1) := by decide +kernel
theorem dX8_debtOf_20 : decode cX8_debtOf 20 = .ok (.invokevirtual 122, 3) := by decide +kernel
theorem dX8_debtOf_23 : decode cX8_debtOf 23 = .ok (.checkcast 238, 3) := by decide +kernel
theorem dX8_debtOf_26 : decode cX8_debtOf 26 = .ok (.astore 4, 2) := by decide +kernel
theorem dX8_debtOf_28 : decode cX8_debtOf 28 = .ok (.aload 4, 2) := by decide +kernel
theorem dX8_debtOf_30 : decode cX8_debtOf 30 = .ok (.getfield 249, 3) := by decide +kernel
theorem dX8_debtOf_33 : decode cX8_debtOf 33 = .ok (.getfield 263, 3) := by decide +kernel
theorem dX8_debtOf_36 : decode cX8_debtOf 36 = .ok (.getfield 145, 3) := by decide +kernel
theorem dX8_debtOf_39 : decode cX8_debtOf 39 = .ok (.aload_n 1, 1) := by decide +kernel
theorem dX8_debtOf_40 : decode cX8_debtOf 40 = .ok (.getfield 145, 3) := by decide +kernel
theorem dX8_debtOf_43 : decode cX8_debtOf 43 = .ok (.if_icmp .ne 19, 3) := by decide +kernel
theorem dX8_debtOf_46 : decode cX8_debtOf 46 = .ok (.aload 4, 2) := by decide +kernel
theorem dX8_debtOf_48 : decode cX8_debtOf 48 = .ok (.invokevirtual 256, 3) := by decide +kernel
theorem dX8_debtOf_51 : decode cX8_debtOf 51 = .ok (.ifCond .eq 11, 3) := by decide +kernel
theorem dX8_debtOf_54 : decode cX8_debtOf 54 = .ok (.iload_n 2, 1) := by decide +kernel
theorem dX8_debtOf_55 : decode cX8_debtOf 55 = .ok (.aload 4, 2) := by decide +kernel
theorem dX8_debtOf_57 : decode cX8_debtOf 57 = .ok (.invokevirtual 260, 3) := by decide +kernel
theorem dX8_debtOf_60 : decode cX8_debtOf 60 = .ok (.iadd, 1) := by decide +kernel
theorem dX8_debtOf_61 : decode cX8_debtOf 61 = .ok (.istore_n 2, 1) := by decide +kernel
theorem dX8_debtOf_62 : decode cX8_debtOf 62 = .ok (.iinc 3 1, 3) := by decide +kernel
theorem dX8_debtOf_65 : decode cX8_debtOf 65 = .ok (.goto (-61), 3) := by decide +kernel
theorem dX8_debtOf_68 : decode cX8_debtOf 68 = .ok (.iload_n 2, 1) := by decide +kernel
theorem dX8_debtOf_69 : decode cX8_debtOf 69 = .ok (.ireturn, 1) := by decide +kernel
theorem dX8_passQuarter_0 : decode cX8_passQuarter 0 = .ok (.aload_n 0, 1) := by decide +kernel
theorem dX8_passQuarter_1 : decode cX8_passQuarter 1 = .ok (.dup, 1) := by decide +kernel
theorem dX8_passQuarter_2 : decode cX8_passQuarter 2 = .ok (.getfield 38, 3) := by decide +kernel
theorem dX8_passQuarter_5 : decode cX8_passQuarter 5 = .ok (.iconst 1, 1) := by decide +kernel
theorem dX8_passQuarter_6 : decode cX8_passQuarter 6 = .ok (.iadd, 1) := by decide +kernel
theorem dX8_passQuarter_7 : decode cX8_passQuarter 7 = .ok (.putfield 38, 3) := by decide +kernel
theorem dX8_passQuarter_10 : decode cX8_passQuarter 10 = .ok (.aload_n 0, 1) := by decide +kernel
theorem dX8_passQuarter_11 : decode cX8_passQuarter 11 = .ok (.getfield 38, 3) := by decide +kernel
theorem dX8_passQuarter_14 : decode cX8_passQuarter 14 = .ok (.bipush 96, 2) := by decide +kernel
theorem dX8_passQuarter_16 : decode cX8_passQuarter 16 = .ok (.irem, 1) := by decide +kernel
theorem dX8_passQuarter_17 : decode cX8_passQuarter 17 = .ok (.ifCond .ne 7, 3) := by decide +kernel
theorem dX8_passQuarter_20 : decode cX8_passQuarter 20 = .ok (.iconst 1, 1) := by decide +kernel
theorem dX8_passQuarter_21 : decode cX8_passQuarter 21 = .ok (.goto 4, 3) := by decide +kernel
theorem dX8_passQuarter_24 : decode cX8_passQuarter 24 = .ok (.iconst 0, 1) := by decide +kernel
theorem dX8_passQuarter_25 : decode cX8_passQuarter 25 = .ok (.istore_n 1, 1) := by decide +kernel
theorem dX8_passQuarter_26 : decode cX8_passQuarter 26 = .ok (.iconst 0, 1) := by decide +kernel
theorem dX8_passQuarter_27 : decode cX8_passQuarter 27 = .ok (.istore_n 2, 1) := by decide +kernel
theorem dX8_passQuarter_28 : decode cX8_passQuarter 28 = .ok (.iload_n 2, 1) := by decide +kernel
theorem dX8_passQuarter_29 : decode cX8_passQuarter 29 = .ok (.aload_n 0, 1) := by decide +kernel
theorem dX8_passQuarter_30 : decode cX8_passQuarter 30 = .ok (.getfield 12, 3) := by decide +kernel
theorem dX8_passQuarter_33 : decode cX8_passQuarter 33 = .ok (.invokevirtual 88, 3) := by decide +kernel
theorem dX8_passQuarter_36 : decode cX8_passQuarter 36 = .ok (.if_icmp .ge 42, 3) := by decide +kernel
theorem dX8_passQuarter_39 : decode cX8_passQuarter 39 = .ok (.aload_n 0, 1) := by decide +kernel
theorem dX8_passQuarter_40 : decode cX8_passQuarter 40 = .ok (.getfield 12, 3) := by decide +kernel
theorem dX8_passQuarter_43 : decode cX8_passQuarter 43 = .ok (.iload_n 2, 1) := by decide +kernel
theorem dX8_passQuarter_44 : decode cX8_passQuarter 44 = .ok (.invokevirtual 122, 3) := by decide +kernel
theorem dX8_passQuarter_47 : decode cX8_passQuarter 47 = .ok (.checkcast 42, 3) := by decide +kernel
theorem dX8_passQuarter_50 : decode cX8_passQuarter 50 = .ok (.astore_n 3, 1) := by decide +kernel
theorem dX8_passQuarter_51 : decode cX8_passQuarter 51 = .ok (.aload_n 3, 1) := by decide +kernel
theorem dX8_passQuarter_52 : decode cX8_passQuarter 52 = .ok (.dup, 1) := by decide +kernel
theorem dX8_passQuarter_53 : decode cX8_passQuarter 53 = .ok (.getfield 277, 3) := by decide +kernel
theorem dX8_passQuarter_56 : decode cX8_passQuarter 56 = .ok (.aload_n 3, 1) := by decide +kernel
theorem dX8_passQuarter_57 : decode cX8_passQuarter 57 = .ok (.getfield 184, 3) := by decide +kernel
theorem dX8_passQuarter_60 : decode cX8_passQuarter 60 = .ok (.iadd, 1) := by decide +kernel
theorem dX8_passQuarter_61 : decode cX8_passQuarter 61 = .ok (.putfield 277, 3) := by decide +kernel
theorem dX8_passQuarter_64 : decode cX8_passQuarter 64 = .ok (.iload_n 1, 1) := by decide +kernel
theorem dX8_passQuarter_65 : decode cX8_passQuarter 65 = .ok (.ifCond .eq 7, 3) := by decide +kernel
theorem dX8_passQuarter_68 : decode cX8_passQuarter 68 = .ok (.aload_n 3, 1) := by decide +kernel
theorem dX8_passQuarter_69 : decode cX8_passQuarter 69 = .ok (.invokevirtual 355, 3) := by decide +kernel
theorem dX8_passQuarter_72 : decode cX8_passQuarter 72 = .ok (.iinc 2 1, 3) := by decide +kernel
theorem dX8_passQuarter_75 : decode cX8_passQuarter 75 = .ok (.goto (-47), 3) := by decide +kernel
theorem dX8_passQuarter_78 : decode cX8_passQuarter 78 = .ok (.return_, 1) := by decide +kernel
theorem dJ9_max_7cf53_0 : decode cJ9_max_7cf53 0 = .ok (.iload_n 0, 1) := by decide +kernel
theorem dJ9_max_7cf53_1 : decode cJ9_max_7cf53 1 = .ok (.iload_n 1, 1) := by decide +kernel
theorem dJ9_max_7cf53_2 : decode cJ9_max_7cf53 2 = .ok (.if_icmp .lt 7, 3) := by decide +kernel
theorem dJ9_max_7cf53_5 : decode cJ9_max_7cf53 5 = .ok (.iload_n 0, 1) := by decide +kernel
theorem dJ9_max_7cf53_6 : decode cJ9_max_7cf53 6 = .ok (.goto 4, 3) := by decide +kernel
theorem dJ9_max_7cf53_9 : decode cJ9_max_7cf53 9 = .ok (.iload_n 1, 1) := by decide +kernel
theorem dJ9_max_7cf53_10 : decode cJ9_max_7cf53 10 = .ok (.ireturn, 1) := by decide +kernel
theorem dJ9_min_7cf53_0 : decode cJ9_min_7cf53 0 = .ok (.iload_n 0, 1) := by decide +kernel
theorem dJ9_min_7cf53_1 : decode cJ9_min_7cf53 1 = .ok (.iload_n 1, 1) := by decide +kernel
theorem dJ9_min_7cf53_2 : decode cJ9_min_7cf53 2 = .ok (.if_icmp .gt 7, 3) := by decide +kernel
theorem dJ9_min_7cf53_5 : decode cJ9_min_7cf53 5 = .ok (.iload_n 0, 1) := by decide +kernel
theorem dJ9_min_7cf53_6 : decode cJ9_min_7cf53 6 = .ok (.goto 4, 3) := by decide +kernel
theorem dJ9_min_7cf53_9 : decode cJ9_min_7cf53 9 = .ok (.iload_n 1, 1) := by decide +kernel
theorem dJ9_min_7cf53_10 : decode cJ9_min_7cf53 10 = .ok (.ireturn, 1) := by decide +kernel
theorem dJxa1e45_init_da8c8_0 : decode cJxa1e45_init_da8c8 0 = .ok (.aload_n 0, 1) := by decide +kernel
theorem dJxa1e45_init_da8c8_1 : decode cJxa1e45_init_da8c8 1 = .ok (.invokespecial 1, 3) := by decide +kernel
theorem dJxa1e45_init_da8c8_4 : decode cJxa1e45_init_da8c8 4 = .ok (.return_, 1) := by decide +kernel
theorem dJxc12de_init_da8c8_0 : decode cJxc12de_init_da8c8 0 = .ok (.aload_n 0, 1) := by decide +kernel
theorem dJxc12de_init_da8c8_1 : decode cJxc12de_init_da8c8 1 = .ok (.invokespecial 1, 3) := by decide +kernel
theorem dJxc12de_init_da8c8_4 : decode cJxc12de_init_da8c8 4 = .ok (.aload_n 0, 1) := by decide +kernel
theorem dJxc12de_init_da8c8_5 : decode cJxc12de_init_da8c8 5 = .ok (.iconst 0, 1) := by decide +kernel
theorem dJxc12de_init_da8c8_6 : decode cJxc12de_init_da8c8 6 = .ok (.putfield 7, 3) := by decide +kernel
theorem dJxc12de_init_da8c8_9 : decode cJxc12de_init_da8c8 9 = .ok (.return_, 1) := by decide +kernel
theorem dJx4a65c_init_da8c8_0 : decode cJx4a65c_init_da8c8 0 = .ok (.aload_n 0, 1) := by decide +kernel
theorem dJx4a65c_init_da8c8_1 : decode cJx4a65c_init_da8c8 1 = .ok (.invokespecial 1, 3) := by decide +kernel
theorem dJx4a65c_init_da8c8_4 : decode cJx4a65c_init_da8c8 4 = .ok (.aload_n 0, 1) := by decide +kernel
theorem dJx4a65c_init_da8c8_5 : decode cJx4a65c_init_da8c8 5 = .ok (.getstatic 39, 3) := by decide +kernel
theorem dJx4a65c_init_da8c8_8 : decode cJx4a65c_init_da8c8 8 = .ok (.putfield 9, 3) := by decide +kernel
theorem dJx4a65c_init_da8c8_11 : decode cJx4a65c_init_da8c8 11 = .ok (.return_, 1) := by decide +kernel
theorem dJx4a65c_grow_92f84_0 : decode cJx4a65c_grow_92f84 0 = .ok (.aload_n 0, 1) := by decide +kernel
theorem dJx4a65c_grow_92f84_1 : decode cJx4a65c_grow_92f84 1 = .ok (.getfield 9, 3) := by decide +kernel
theorem dJx4a65c_grow_92f84_4 : decode cJx4a65c_grow_92f84 4 = .ok (.arraylength, 1) := by decide +kernel
theorem dJx4a65c_grow_92f84_5 : decode cJx4a65c_grow_92f84 5 = .ok (.istore_n 2, 1) := by decide +kernel
theorem dJx4a65c_grow_92f84_6 : decode cJx4a65c_grow_92f84 6 = .ok (.iload_n 2, 1) := by decide +kernel
theorem dJx4a65c_grow_92f84_7 : decode cJx4a65c_grow_92f84 7 = .ok (.ifCond .gt 13, 3) := by decide +kernel
theorem dJx4a65c_grow_92f84_10 : decode cJx4a65c_grow_92f84 10 = .ok (.aload_n 0, 1) := by decide +kernel
theorem dJx4a65c_grow_92f84_11 : decode cJx4a65c_grow_92f84 11 = .ok (.getfield 9, 3) := by decide +kernel
theorem dJx4a65c_grow_92f84_14 : decode cJx4a65c_grow_92f84 14 = .ok (.getstatic 39, 3) := by decide +kernel
theorem dJx4a65c_grow_92f84_17 : decode cJx4a65c_grow_92f84 17 = .ok (.if_acmp .eq 28, 3) := by decide +kernel
theorem dJx4a65c_grow_92f84_20 : decode cJx4a65c_grow_92f84 20 = .ok (.iload_n 2, 1) := by decide +kernel
theorem dJx4a65c_grow_92f84_21 : decode cJx4a65c_grow_92f84 21 = .ok (.iload_n 1, 1) := by decide +kernel
theorem dJx4a65c_grow_92f84_22 : decode cJx4a65c_grow_92f84 22 = .ok (.iload_n 2, 1) := by decide +kernel
theorem dJx4a65c_grow_92f84_23 : decode cJx4a65c_grow_92f84 23 = .ok (.isub, 1) := by decide +kernel
theorem dJx4a65c_grow_92f84_24 : decode cJx4a65c_grow_92f84 24 = .ok (.iload_n 2, 1) := by decide +kernel
theorem dJx4a65c_grow_92f84_25 : decode cJx4a65c_grow_92f84 25 = .ok (.iconst 1, 1) := by decide +kernel
theorem dJx4a65c_grow_92f84_26 : decode cJx4a65c_grow_92f84 26 = .ok (.ishr, 1) := by decide +kernel
theorem dJx4a65c_grow_92f84_27 : decode cJx4a65c_grow_92f84 27 = .ok (.invokestatic 73, 3) := by decide +kernel
theorem dJx4a65c_grow_92f84_30 : decode cJx4a65c_grow_92f84 30 = .ok (.istore_n 3, 1) := by decide +kernel
theorem dJx4a65c_grow_92f84_31 : decode cJx4a65c_grow_92f84 31 = .ok (.aload_n 0, 1) := by decide +kernel
theorem dJx4a65c_grow_92f84_32 : decode cJx4a65c_grow_92f84 32 = .ok (.aload_n 0, 1) := by decide +kernel
theorem dJx4a65c_grow_92f84_33 : decode cJx4a65c_grow_92f84 33 = .ok (.getfield 9, 3) := by decide +kernel
theorem dJx4a65c_grow_92f84_36 : decode cJx4a65c_grow_92f84 36 = .ok (.iload_n 3, 1) := by decide +kernel
theorem dJx4a65c_grow_92f84_37 : decode cJx4a65c_grow_92f84 37 = .ok (.invokestatic 66, 3) := by decide +kernel
theorem dJx4a65c_grow_92f84_40 : decode cJx4a65c_grow_92f84 40 = .ok (.dup_x1, 1) := by decide +kernel
theorem dJx4a65c_grow_92f84_41 : decode cJx4a65c_grow_92f84 41 = .ok (.putfield 9, 3) := by decide +kernel
theorem dJx4a65c_grow_92f84_44 : decode cJx4a65c_grow_92f84 44 = .ok (.areturn, 1) := by decide +kernel
theorem dJx4a65c_grow_92f84_45 : decode cJx4a65c_grow_92f84 45 = .ok (.aload_n 0, 1) := by decide +kernel
theorem dJx4a65c_grow_92f84_46 : decode cJx4a65c_grow_92f84 46 = .ok (.bipush 10, 2) := by decide +kernel
theorem dJx4a65c_grow_92f84_48 : decode cJx4a65c_grow_92f84 48 = .ok (.iload_n 1, 1) := by decide +kernel
theorem dJx4a65c_grow_92f84_49 : decode cJx4a65c_grow_92f84 49 = .ok (.invokestatic 79, 3) := by decide +kernel
theorem dJx4a65c_grow_92f84_52 : decode cJx4a65c_grow_92f84 52 = .ok (.anewarray 7, 3) := by decide +kernel
theorem dJx4a65c_grow_92f84_55 : decode cJx4a65c_grow_92f84 55 = .ok (.dup_x1, 1) := by decide +kernel
theorem dJx4a65c_grow_92f84_56 : decode cJx4a65c_grow_92f84 56 = .ok (.putfield 9, 3) := by decide +kernel
theorem dJx4a65c_grow_92f84_59 : decode cJx4a65c_grow_92f84 59 = .ok (.areturn, 1) := by decide +kernel
theorem dJx4a65c_grow_d5877_0 : decode cJx4a65c_grow_d5877 0 = .ok (.aload_n 0, 1) := by decide +kernel
theorem dJx4a65c_grow_d5877_1 : decode cJx4a65c_grow_d5877 1 = .ok (.aload_n 0, 1) := by decide +kernel
theorem dJx4a65c_grow_d5877_2 : decode cJx4a65c_grow_d5877 2 = .ok (.getfield 48, 3) := by decide +kernel
theorem dJx4a65c_grow_d5877_5 : decode cJx4a65c_grow_d5877 5 = .ok (.iconst 1, 1) := by decide +kernel
theorem dJx4a65c_grow_d5877_6 : decode cJx4a65c_grow_d5877 6 = .ok (.iadd, 1) := by decide +kernel
theorem dJx4a65c_grow_d5877_7 : decode cJx4a65c_grow_d5877 7 = .ok (.invokevirtual 69, 3) := by decide +kernel
theorem dJx4a65c_grow_d5877_10 : decode cJx4a65c_grow_d5877 10 = .ok (.areturn, 1) := by decide +kernel
theorem dJx4a65c_size_8abf5_0 : decode cJx4a65c_size_8abf5 0 = .ok (.aload_n 0, 1) := by decide +kernel
theorem dJx4a65c_size_8abf5_1 : decode cJx4a65c_size_8abf5 1 = .ok (.getfield 48, 3) := by decide +kernel
theorem dJx4a65c_size_8abf5_4 : decode cJx4a65c_size_8abf5 4 = .ok (.ireturn, 1) := by decide +kernel
theorem dJx4a65c_elementData_915e3_0 : decode cJx4a65c_elementData_915e3 0 = .ok (.aload_n 0, 1) := by decide +kernel
theorem dJx4a65c_elementData_915e3_1 : decode cJx4a65c_elementData_915e3 1 = .ok (.getfield 9, 3) := by decide +kernel
theorem dJx4a65c_elementData_915e3_4 : decode cJx4a65c_elementData_915e3 4 = .ok (.iload_n 1, 1) := by decide +kernel
theorem dJx4a65c_elementData_915e3_5 : decode cJx4a65c_elementData_915e3 5 = .ok (.aaload, 1) := by decide +kernel
theorem dJx4a65c_elementData_915e3_6 : decode cJx4a65c_elementData_915e3 6 = .ok (.areturn, 1) := by decide +kernel
theorem dJx4a65c_get_915e3_0 : decode cJx4a65c_get_915e3 0 = .ok (.iload_n 1, 1) := by decide +kernel
theorem dJx4a65c_get_915e3_1 : decode cJx4a65c_get_915e3 1 = .ok (.aload_n 0, 1) := by decide +kernel
theorem dJx4a65c_get_915e3_2 : decode cJx4a65c_get_915e3 2 = .ok (.getfield 48, 3) := by decide +kernel
theorem dJx4a65c_get_915e3_5 : decode cJx4a65c_get_915e3 5 = .ok (.invokestatic 118, 3) := by decide +kernel
theorem dJx4a65c_get_915e3_8 : decode cJx4a65c_get_915e3 8 = .ok (.pop, 1) := by decide +kernel
theorem dJx4a65c_get_915e3_9 : decode cJx4a65c_get_915e3 9 = .ok (.aload_n 0, 1) := by decide +kernel
theorem dJx4a65c_get_915e3_10 : decode cJx4a65c_get_915e3 10 = .ok (.iload_n 1, 1) := by decide +kernel
theorem dJx4a65c_get_915e3_11 : decode cJx4a65c_get_915e3 11 = .ok (.invokevirtual 123, 3) := by decide +kernel
theorem dJx4a65c_get_915e3_14 : decode cJx4a65c_get_915e3 14 = .ok (.areturn, 1) := by decide +kernel
theorem dJx4a65c_add_72be8_0 : decode cJx4a65c_add_72be8 0 = .ok (.iload_n 3, 1) := by decide +kernel
theorem dJx4a65c_add_72be8_1 : decode cJx4a65c_add_72be8 1 = .ok (.aload_n 2, 1) := by decide +kernel
theorem dJx4a65c_add_72be8_2 : decode cJx4a65c_add_72be8 2 = .ok (.arraylength, 1) := by decide +kernel
theorem dJx4a65c_add_72be8_3 : decode cJx4a65c_add_72be8 3 = .ok (.if_icmp .ne 8, 3) := by decide +kernel
theorem dJx4a65c_add_72be8_6 : decode cJx4a65c_add_72be8 6 = .ok (.aload_n 0, 1) := by decide +kernel
theorem dJx4a65c_add_72be8_7 : decode cJx4a65c_add_72be8 7 = .ok (.invokevirtual 129, 3) := by decide +kernel
theorem dJx4a65c_add_72be8_10 : decode cJx4a65c_add_72be8 10 = .ok (.astore_n 2, 1) := by decide +kernel
theorem dJx4a65c_add_72be8_11 : decode cJx4a65c_add_72be8 11 = .ok (.aload_n 2, 1) := by decide +kernel
theorem dJx4a65c_add_72be8_12 : decode cJx4a65c_add_72be8 12 = .ok (.iload_n 3, 1) := by decide +kernel
theorem dJx4a65c_add_72be8_13 : decode cJx4a65c_add_72be8 13 = .ok (.aload_n 1, 1) := by decide +kernel
theorem dJx4a65c_add_72be8_14 : decode cJx4a65c_add_72be8 14 = .ok (.aastore, 1) := by decide +kernel
theorem dJx4a65c_add_72be8_15 : decode cJx4a65c_add_72be8 15 = .ok (.aload_n 0, 1) := by decide +kernel
theorem dJx4a65c_add_72be8_16 : decode cJx4a65c_add_72be8 16 = .ok (.iload_n 3, 1) := by decide +kernel
theorem dJx4a65c_add_72be8_17 : decode cJx4a65c_add_72be8 17 = .ok (.iconst 1, 1) := by decide +kernel
theorem dJx4a65c_add_72be8_18 : decode cJx4a65c_add_72be8 18 = .ok (.iadd, 1) := by decide +kernel
theorem dJx4a65c_add_72be8_19 : decode cJx4a65c_add_72be8 19 = .ok (.putfield 48, 3) := by decide +kernel
theorem dJx4a65c_add_72be8_22 : decode cJx4a65c_add_72be8 22 = .ok (.return_, 1) := by decide +kernel
theorem dJx4a65c_add_9ea2d_0 : decode cJx4a65c_add_9ea2d 0 = .ok (.aload_n 0, 1) := by decide +kernel
theorem dJx4a65c_add_9ea2d_1 : decode cJx4a65c_add_9ea2d 1 = .ok (.dup, 1) := by decide +kernel
theorem dJx4a65c_add_9ea2d_2 : decode cJx4a65c_add_9ea2d 2 = .ok (.getfield 63, 3) := by decide +kernel
theorem dJx4a65c_add_9ea2d_5 : decode cJx4a65c_add_9ea2d 5 = .ok (.iconst 1, 1) := by decide +kernel
theorem dJx4a65c_add_9ea2d_6 : decode cJx4a65c_add_9ea2d 6 = .ok (.iadd, 1) := by decide +kernel
theorem dJx4a65c_add_9ea2d_7 : decode cJx4a65c_add_9ea2d 7 = .ok (.putfield 63, 3) := by decide +kernel
theorem dJx4a65c_add_9ea2d_10 : decode cJx4a65c_add_9ea2d 10 = .ok (.aload_n 0, 1) := by decide +kernel
theorem dJx4a65c_add_9ea2d_11 : decode cJx4a65c_add_9ea2d 11 = .ok (.aload_n 1, 1) := by decide +kernel
theorem dJx4a65c_add_9ea2d_12 : decode cJx4a65c_add_9ea2d 12 = .ok (.aload_n 0, 1) := by decide +kernel
theorem dJx4a65c_add_9ea2d_13 : decode cJx4a65c_add_9ea2d 13 = .ok (.getfield 9, 3) := by decide +kernel
theorem dJx4a65c_add_9ea2d_16 : decode cJx4a65c_add_9ea2d 16 = .ok (.aload_n 0, 1) := by decide +kernel
theorem dJx4a65c_add_9ea2d_17 : decode cJx4a65c_add_9ea2d 17 = .ok (.getfield 48, 3) := by decide +kernel
theorem dJx4a65c_add_9ea2d_20 : decode cJx4a65c_add_9ea2d 20 = .ok (.invokevirtual 131, 3) := by decide +kernel
theorem dJx4a65c_add_9ea2d_23 : decode cJx4a65c_add_9ea2d 23 = .ok (.iconst 1, 1) := by decide +kernel
theorem dJx4a65c_add_9ea2d_24 : decode cJx4a65c_add_9ea2d 24 = .ok (.ireturn, 1) := by decide +kernel
theorem dJ7_copyOf_1904c_0 : decode cJ7_copyOf_1904c 0 = .ok (.aload_n 0, 1) := by decide +kernel
theorem dJ7_copyOf_1904c_1 : decode cJ7_copyOf_1904c 1 = .ok (.iload_n 1, 1) := by decide +kernel
theorem dJ7_copyOf_1904c_2 : decode cJ7_copyOf_1904c 2 = .ok (.aload_n 0, 1) := by decide +kernel
theorem dJ7_copyOf_1904c_3 : decode cJ7_copyOf_1904c 3 = .ok (.invokevirtual 86, 3) := by decide +kernel
theorem dJ7_copyOf_1904c_6 : decode cJ7_copyOf_1904c 6 = .ok (.invokestatic 300, 3) := by decide +kernel
theorem dJ7_copyOf_1904c_9 : decode cJ7_copyOf_1904c 9 = .ok (.areturn, 1) := by decide +kernel
theorem dJ7_copyOf_6403c_0 : decode cJ7_copyOf_6403c 0 = .ok (.aload_n 2, 1) := by decide +kernel
theorem dJ7_copyOf_6403c_1 : decode cJ7_copyOf_6403c 1 = .ok (.ldc 110, 2) := by decide +kernel
theorem dJ7_copyOf_6403c_3 : decode cJ7_copyOf_6403c 3 = .ok (.if_acmp .ne 10, 3) := by decide +kernel
theorem dJ7_copyOf_6403c_6 : decode cJ7_copyOf_6403c 6 = .ok (.iload_n 1, 1) := by decide +kernel
theorem dJ7_copyOf_6403c_7 : decode cJ7_copyOf_6403c 7 = .ok (.anewarray 2, 3) := by decide +kernel
theorem dJ7_copyOf_6403c_10 : decode cJ7_copyOf_6403c 10 = .ok (.goto 14, 3) := by decide +kernel
theorem dJ7_copyOf_6403c_13 : decode cJ7_copyOf_6403c 13 = .ok (.aload_n 2, 1) := by decide +kernel
theorem dJ7_copyOf_6403c_14 : decode cJ7_copyOf_6403c 14 = .ok (.invokevirtual 90, 3) := by decide +kernel
theorem dJ7_copyOf_6403c_17 : decode cJ7_copyOf_6403c 17 = .ok (.iload_n 1, 1) := by decide +kernel
theorem dJ7_copyOf_6403c_18 : decode cJ7_copyOf_6403c 18 = .ok (.invokestatic 95, 3) := by decide +kernel
theorem dJ7_copyOf_6403c_21 : decode cJ7_copyOf_6403c 21 = .ok (.checkcast 110, 3) := by decide +kernel
theorem dJ7_copyOf_6403c_24 : decode cJ7_copyOf_6403c 24 = .ok (.astore_n 3, 1) := by decide +kernel
theorem dJ7_copyOf_6403c_25 : decode cJ7_copyOf_6403c 25 = .ok (.aload_n 0, 1) := by decide +kernel
theorem dJ7_copyOf_6403c_26 : decode cJ7_copyOf_6403c 26 = .ok (.iconst 0, 1) := by decide +kernel
theorem dJ7_copyOf_6403c_27 : decode cJ7_copyOf_6403c 27 = .ok (.aload_n 3, 1) := by decide +kernel
theorem dJ7_copyOf_6403c_28 : decode cJ7_copyOf_6403c 28 = .ok (.iconst 0, 1) := by decide +kernel
theorem dJ7_copyOf_6403c_29 : decode cJ7_copyOf_6403c 29 = .ok (.aload_n 0, 1) := by decide +kernel
theorem dJ7_copyOf_6403c_30 : decode cJ7_copyOf_6403c 30 = .ok (.arraylength, 1) := by decide +kernel
theorem dJ7_copyOf_6403c_31 : decode cJ7_copyOf_6403c 31 = .ok (.iload_n 1, 1) := by decide +kernel
theorem dJ7_copyOf_6403c_32 : decode cJ7_copyOf_6403c 32 = .ok (.invokestatic 304, 3) := by decide +kernel
theorem dJ7_copyOf_6403c_35 : decode cJ7_copyOf_6403c 35 = .ok (.invokestatic 150, 3) := by decide +kernel
theorem dJ7_copyOf_6403c_38 : decode cJ7_copyOf_6403c 38 = .ok (.aload_n 3, 1) := by decide +kernel
theorem dJ7_copyOf_6403c_39 : decode cJ7_copyOf_6403c 39 = .ok (.areturn, 1) := by decide +kernel
theorem dJ15_checkIndex_7cf53_0 : decode cJ15_checkIndex_7cf53 0 = .ok (.iload_n 0, 1) := by decide +kernel
theorem dJ15_checkIndex_7cf53_1 : decode cJ15_checkIndex_7cf53 1 = .ok (.iload_n 1, 1) := by decide +kernel
theorem dJ15_checkIndex_7cf53_2 : decode cJ15_checkIndex_7cf53 2 = .ok (.aconst_null, 1) := by decide +kernel
theorem dJ15_checkIndex_7cf53_3 : decode cJ15_checkIndex_7cf53 3 = .ok (.invokestatic 105, 3) := by decide +kernel
theorem dJ15_checkIndex_7cf53_6 : decode cJ15_checkIndex_7cf53 6 = .ok (.ireturn, 1) := by decide +kernel
theorem dJ8_newLength_cabcc_0 : decode cJ8_newLength_cabcc 0 = .ok (.iload_n 0, 1) := by decide +kernel
theorem dJ8_newLength_cabcc_1 : decode cJ8_newLength_cabcc 1 = .ok (.iload_n 1, 1) := by decide +kernel
theorem dJ8_newLength_cabcc_2 : decode cJ8_newLength_cabcc 2 = .ok (.iload_n 2, 1) := by decide +kernel
theorem dJ8_newLength_cabcc_3 : decode cJ8_newLength_cabcc 3 = .ok (.invokestatic 194, 3) := by decide +kernel
theorem dJ8_newLength_cabcc_6 : decode cJ8_newLength_cabcc 6 = .ok (.iadd, 1) := by decide +kernel
theorem dJ8_newLength_cabcc_7 : decode cJ8_newLength_cabcc 7 = .ok (.istore_n 3, 1) := by decide +kernel
theorem dJ8_newLength_cabcc_8 : decode cJ8_newLength_cabcc 8 = .ok (.iconst 0, 1) := by decide +kernel
theorem dJ8_newLength_cabcc_9 : decode cJ8_newLength_cabcc 9 = .ok (.iload_n 3, 1) := by decide +kernel
theorem dJ8_newLength_cabcc_10 : decode cJ8_newLength_cabcc 10 = .ok (.if_icmp .ge 11, 3) := by decide +kernel
theorem dJ8_newLength_cabcc_13 : decode cJ8_newLength_cabcc 13 = .ok (.iload_n 3, 1) := by decide +kernel
theorem dJ8_newLength_cabcc_14 : decode cJ8_newLength_cabcc 14 = .ok (.ldc 200, 2) := by decide +kernel
theorem dJ8_newLength_cabcc_16 : decode cJ8_newLength_cabcc 16 = .ok (.if_icmp .gt 5, 3) := by decide +kernel
theorem dJ8_newLength_cabcc_19 : decode cJ8_newLength_cabcc 19 = .ok (.iload_n 3, 1) := by decide +kernel
theorem dJ8_newLength_cabcc_20 : decode cJ8_newLength_cabcc 20 = .ok (.ireturn, 1) := by decide +kernel
theorem dJ8_newLength_cabcc_21 : decode cJ8_newLength_cabcc 21 = .ok (.iload_n 0, 1) := by decide +kernel
theorem dJ8_newLength_cabcc_22 : decode cJ8_newLength_cabcc 22 = .ok (.iload_n 1, 1) := by decide +kernel
theorem dJ8_newLength_cabcc_23 : decode cJ8_newLength_cabcc 23 = .ok (.invokestatic 201, 3) := by decide +kernel
theorem dJ8_newLength_cabcc_26 : decode cJ8_newLength_cabcc 26 = .ok (.ireturn, 1) := by decide +kernel
theorem dJ8_hugeLength_7cf53_0 : decode cJ8_hugeLength_7cf53 0 = .ok (.iload_n 0, 1) := by decide +kernel
theorem dJ8_hugeLength_7cf53_1 : decode cJ8_hugeLength_7cf53 1 = .ok (.iload_n 1, 1) := by decide +kernel
theorem dJ8_hugeLength_7cf53_2 : decode cJ8_hugeLength_7cf53 2 = .ok (.iadd, 1) := by decide +kernel
theorem dJ8_hugeLength_7cf53_3 : decode cJ8_hugeLength_7cf53 3 = .ok (.istore_n 2, 1) := by decide +kernel
theorem dJ8_hugeLength_7cf53_4 : decode cJ8_hugeLength_7cf53 4 = .ok (.iload_n 2, 1) := by decide +kernel
theorem dJ8_hugeLength_7cf53_5 : decode cJ8_hugeLength_7cf53 5 = .ok (.ifCond .ge 44, 3) := by decide +kernel
theorem dJ8_hugeLength_7cf53_8 : decode cJ8_hugeLength_7cf53 8 = .ok (.new 204, 3) := by decide +kernel
theorem dJ8_hugeLength_7cf53_11 : decode cJ8_hugeLength_7cf53 11 = .ok (.dup, 1) := by decide +kernel
theorem dJ8_hugeLength_7cf53_12 : decode cJ8_hugeLength_7cf53 12 = .ok (.new 89, 3) := by decide +kernel
theorem dJ8_hugeLength_7cf53_15 : decode cJ8_hugeLength_7cf53 15 = .ok (.dup, 1) := by decide +kernel
theorem dJ8_hugeLength_7cf53_16 : decode cJ8_hugeLength_7cf53 16 = .ok (.invokespecial 91, 3) := by decide +kernel
theorem dJ8_hugeLength_7cf53_19 : decode cJ8_hugeLength_7cf53 19 = .ok (.ldc 206, 2) := by decide +kernel
theorem dJ8_hugeLength_7cf53_21 : decode cJ8_hugeLength_7cf53 21 = .ok (.invokevirtual 94, 3) := by decide +kernel
theorem dJ8_hugeLength_7cf53_24 : decode cJ8_hugeLength_7cf53 24 = .ok (.iload_n 0, 1) := by decide +kernel
theorem dJ8_hugeLength_7cf53_25 : decode cJ8_hugeLength_7cf53 25 = .ok (.invokevirtual 98, 3) := by decide +kernel
theorem dJ8_hugeLength_7cf53_28 : decode cJ8_hugeLength_7cf53 28 = .ok (.ldc 208, 2) := by decide +kernel
theorem dJ8_hugeLength_7cf53_30 : decode cJ8_hugeLength_7cf53 30 = .ok (.invokevirtual 94, 3) := by decide +kernel
theorem dJ8_hugeLength_7cf53_33 : decode cJ8_hugeLength_7cf53 33 = .ok (.iload_n 1, 1) := by decide +kernel
theorem dJ8_hugeLength_7cf53_34 : decode cJ8_hugeLength_7cf53 34 = .ok (.invokevirtual 98, 3) := by decide +kernel
theorem dJ8_hugeLength_7cf53_37 : decode cJ8_hugeLength_7cf53 37 = .ok (.ldc 210, 2) := by decide +kernel
theorem dJ8_hugeLength_7cf53_39 : decode cJ8_hugeLength_7cf53 39 = .ok (.invokevirtual 94, 3) := by decide +kernel
theorem dJ8_hugeLength_7cf53_42 : decode cJ8_hugeLength_7cf53 42 = .ok (.invokevirtual 101, 3) := by decide +kernel
theorem dJ8_hugeLength_7cf53_45 : decode cJ8_hugeLength_7cf53 45 = .ok (.invokespecial 212, 3) := by decide +kernel
theorem dJ8_hugeLength_7cf53_48 : decode cJ8_hugeLength_7cf53 48 = .ok (.athrow, 1) := by decide +kernel
theorem dJ8_hugeLength_7cf53_49 : decode cJ8_hugeLength_7cf53 49 = .ok (.iload_n 2, 1) := by decide +kernel
theorem dJ8_hugeLength_7cf53_50 : decode cJ8_hugeLength_7cf53 50 = .ok (.ldc 200, 2) := by decide +kernel
theorem dJ8_hugeLength_7cf53_52 : decode cJ8_hugeLength_7cf53 52 = .ok (.if_icmp .gt 6, 3) := by decide +kernel
theorem dJ8_hugeLength_7cf53_55 : decode cJ8_hugeLength_7cf53 55 = .ok (.ldc 200, 2) := by decide +kernel
theorem dJ8_hugeLength_7cf53_57 : decode cJ8_hugeLength_7cf53 57 = .ok (.ireturn, 1) := by decide +kernel
theorem dJ8_hugeLength_7cf53_58 : decode cJ8_hugeLength_7cf53 58 = .ok (.iload_n 2, 1) := by decide +kernel
theorem dJ8_hugeLength_7cf53_59 : decode cJ8_hugeLength_7cf53 59 = .ok (.ireturn, 1) := by decide +kernel
theorem dJ3_checkIndex_8e157_0 : decode cJ3_checkIndex_8e157 0 = .ok (.iload_n 0, 1) := by decide +kernel
theorem dJ3_checkIndex_8e157_1 : decode cJ3_checkIndex_8e157 1 = .ok (.ifCond .lt 8, 3) := by decide +kernel
theorem dJ3_checkIndex_8e157_4 : decode cJ3_checkIndex_8e157 4 = .ok (.iload_n 0, 1) := by decide +kernel
theorem dJ3_checkIndex_8e157_5 : decode cJ3_checkIndex_8e157 5 = .ok (.iload_n 1, 1) := by decide +kernel
theorem dJ3_checkIndex_8e157_6 : decode cJ3_checkIndex_8e157 6 = .ok (.if_icmp .lt 10, 3) := by decide +kernel
theorem dJ3_checkIndex_8e157_9 : decode cJ3_checkIndex_8e157 9 = .ok (.aload_n 2, 1) := by decide +kernel
theorem dJ3_checkIndex_8e157_10 : decode cJ3_checkIndex_8e157 10 = .ok (.iload_n 0, 1) := by decide +kernel
theorem dJ3_checkIndex_8e157_11 : decode cJ3_checkIndex_8e157 11 = .ok (.iload_n 1, 1) := by decide +kernel
theorem dJ3_checkIndex_8e157_12 : decode cJ3_checkIndex_8e157 12 = .ok (.invokestatic 95, 3) := by decide +kernel
theorem dJ3_checkIndex_8e157_15 : decode cJ3_checkIndex_8e157 15 = .ok (.athrow, 1) := by decide +kernel
theorem dJ3_checkIndex_8e157_16 : decode cJ3_checkIndex_8e157 16 = .ok (.iload_n 0, 1) := by decide +kernel
theorem dJ3_checkIndex_8e157_17 : decode cJ3_checkIndex_8e157 17 = .ok (.ireturn, 1) := by decide +kernel
theorem dL_at_0 : decode cL_at 0 = .ok (.iload_n 1, 1) := by decide +kernel
theorem dL_at_1 : decode cL_at 1 = .ok (.aload_n 0, 1) := by decide +kernel
theorem dL_at_2 : decode cL_at 2 = .ok (.arraylength, 1) := by decide +kernel
theorem dL_at_3 : decode cL_at 3 = .ok (.if_icmp .ge 9, 3) := by decide +kernel
theorem dL_at_6 : decode cL_at 6 = .ok (.aload_n 0, 1) := by decide +kernel
theorem dL_at_7 : decode cL_at 7 = .ok (.iload_n 1, 1) := by decide +kernel
theorem dL_at_8 : decode cL_at 8 = .ok (.iaload, 1) := by decide +kernel
theorem dL_at_9 : decode cL_at 9 = .ok (.goto 12, 3) := by decide +kernel
theorem dL_at_12 : decode cL_at 12 = .ok (.ldc 7, 2) := by decide +kernel
theorem dL_at_14 : decode cL_at 14 = .ok (.iload_n 1, 1) := by decide +kernel
theorem dL_at_15 : decode cL_at 15 = .ok (.iconst 1, 1) := by decide +kernel
theorem dL_at_16 : decode cL_at 16 = .ok (.iadd, 1) := by decide +kernel
theorem dL_at_17 : decode cL_at 17 = .ok (.imul, 1) := by decide +kernel
theorem dL_at_18 : decode cL_at 18 = .ok (.ldc 8, 2) := by decide +kernel
theorem dL_at_20 : decode cL_at 20 = .ok (.iadd, 1) := by decide +kernel
theorem dL_at_21 : decode cL_at 21 = .ok (.ireturn, 1) := by decide +kernel
theorem dL_low_0 : decode cL_low 0 = .ok (.iload_n 0, 1) := by decide +kernel
theorem dL_low_1 : decode cL_low 1 = .ok (.ldc 9, 2) := by decide +kernel
theorem dL_low_3 : decode cL_low 3 = .ok (.iand, 1) := by decide +kernel
theorem dL_low_4 : decode cL_low 4 = .ok (.iload_n 1, 1) := by decide +kernel
theorem dL_low_5 : decode cL_low 5 = .ok (.irem, 1) := by decide +kernel
theorem dL_low_6 : decode cL_low 6 = .ok (.ireturn, 1) := by decide +kernel
theorem dL_block_0 : decode cL_block 0 = .ok (.aload_n 0, 1) := by decide +kernel
theorem dL_block_1 : decode cL_block 1 = .ok (.iload_n 1, 1) := by decide +kernel
theorem dL_block_2 : decode cL_block 2 = .ok (.iload_n 2, 1) := by decide +kernel
theorem dL_block_3 : decode cL_block 3 = .ok (.iload_n 3, 1) := by decide +kernel
theorem dL_block_4 : decode cL_block 4 = .ok (.invokevirtual 10, 3) := by decide +kernel
theorem dL_block_7 : decode cL_block 7 = .ok (.ifCond .eq 7, 3) := by decide +kernel
theorem dL_block_10 : decode cL_block 10 = .ok (.iconst 1, 1) := by decide +kernel
theorem dL_block_11 : decode cL_block 11 = .ok (.goto 4, 3) := by decide +kernel
theorem dL_block_14 : decode cL_block 14 = .ok (.iconst 0, 1) := by decide +kernel
theorem dL_block_15 : decode cL_block 15 = .ok (.ireturn, 1) := by decide +kernel
theorem dL_block_16 : decode cL_block 16 = .ok (.astore 4, 2) := by decide +kernel
theorem dL_block_18 : decode cL_block 18 = .ok (.ldc 18, 2) := by decide +kernel
theorem dL_block_20 : decode cL_block 20 = .ok (.ireturn, 1) := by decide +kernel
theorem dL_times_0 : decode cL_times 0 = .ok (.aload_n 0, 1) := by decide +kernel
theorem dL_times_1 : decode cL_times 1 = .ok (.iload_n 1, 1) := by decide +kernel
theorem dL_times_2 : decode cL_times 2 = .ok (.iload_n 2, 1) := by decide +kernel
theorem dL_times_3 : decode cL_times 3 = .ok (.iload_n 3, 1) := by decide +kernel
theorem dL_times_4 : decode cL_times 4 = .ok (.invokevirtual 19, 3) := by decide +kernel
theorem dL_times_7 : decode cL_times 7 = .ok (.iconst 0, 1) := by decide +kernel
theorem dL_times_8 : decode cL_times 8 = .ok (.ireturn, 1) := by decide +kernel
theorem dL_times_9 : decode cL_times 9 = .ok (.astore 4, 2) := by decide +kernel
theorem dL_times_11 : decode cL_times 11 = .ok (.ldc 25, 2) := by decide +kernel
theorem dL_times_13 : decode cL_times 13 = .ok (.ireturn, 1) := by decide +kernel
theorem dL_dates_0 : decode cL_dates 0 = .ok (.aload_n 0, 1) := by decide +kernel
theorem dL_dates_1 : decode cL_dates 1 = .ok (.iload_n 1, 1) := by decide +kernel
theorem dL_dates_2 : decode cL_dates 2 = .ok (.iload_n 2, 1) := by decide +kernel
theorem dL_dates_3 : decode cL_dates 3 = .ok (.invokevirtual 26, 3) := by decide +kernel
theorem dL_dates_6 : decode cL_dates 6 = .ok (.iconst 0, 1) := by decide +kernel
theorem dL_dates_7 : decode cL_dates 7 = .ok (.ireturn, 1) := by decide +kernel
theorem dL_dates_8 : decode cL_dates 8 = .ok (.astore_n 3, 1) := by decide +kernel
theorem dL_dates_9 : decode cL_dates 9 = .ok (.ldc 25, 2) := by decide +kernel
theorem dL_dates_11 : decode cL_dates 11 = .ok (.ireturn, 1) := by decide +kernel
theorem dL_sign_0 : decode cL_sign 0 = .ok (.aload_n 0, 1) := by decide +kernel
theorem dL_sign_1 : decode cL_sign 1 = .ok (.iload_n 1, 1) := by decide +kernel
theorem dL_sign_2 : decode cL_sign 2 = .ok (.iload_n 2, 1) := by decide +kernel
theorem dL_sign_3 : decode cL_sign 3 = .ok (.iload_n 3, 1) := by decide +kernel
theorem dL_sign_4 : decode cL_sign 4 = .ok (.iload 4, 2) := by decide +kernel
theorem dL_sign_6 : decode cL_sign 6 = .ok (.iload 5, 2) := by decide +kernel
theorem dL_sign_8 : decode cL_sign 8 = .ok (.iload 6, 2) := by decide +kernel
theorem dL_sign_10 : decode cL_sign 10 = .ok (.iload 7, 2) := by decide +kernel
theorem dL_sign_12 : decode cL_sign 12 = .ok (.invokevirtual 30, 3) := by decide +kernel
theorem dL_sign_15 : decode cL_sign 15 = .ok (.ireturn, 1) := by decide +kernel
theorem dL_sign_16 : decode cL_sign 16 = .ok (.astore 8, 2) := by decide +kernel
