theorem dX0_init_0 : decode cX0_init 0 = .ok (.aload_n 0, 1) := by decide +kernel
theorem dX0_init_1 : decode cX0_init 1 = .ok (.invokespecial 1, 3) := by decide +kernel
theorem dX0_init_4 : decode cX0_init 4 = .ok (.aload_n 0, 1) := by decide +kernel
theorem dX0_init_5 : decode cX0_init 5 = .ok (.aconst_null, 1) := by decide +kernel
theorem dX0_init_6 : decode cX0_init 6 = .ok (.putfield 7, 3) := by decide +kernel
theorem dX0_init_9 : decode cX0_init 9 = .ok (.aload_n 0, 1) := by decide +kernel
theorem dX0_init_10 : decode cX0_init 10 = .ok (.iload_n 1, 1) := by decide +kernel
theorem dX0_init_11 : decode cX0_init 11 = .ok (.putfield 13, 3) := by decide +kernel
theorem dX0_init_14 : decode cX0_init 14 = .ok (.aload_n 0, 1) := by decide +kernel
theorem dX0_init_15 : decode cX0_init 15 = .ok (.iload_n 2, 1) := by decide +kernel
theorem dX0_init_16 : decode cX0_init 16 = .ok (.putfield 17, 3) := by decide +kernel
theorem dX0_init_19 : decode cX0_init 19 = .ok (.aload_n 0, 1) := by decide +kernel
theorem dX0_init_20 : decode cX0_init 20 = .ok (.iload_n 3, 1) := by decide +kernel
theorem dX0_init_21 : decode cX0_init 21 = .ok (.putfield 20, 3) := by decide +kernel
theorem dX0_init_24 : decode cX0_init 24 = .ok (.return_, 1) := by decide +kernel
theorem dX1_init_0 : decode cX1_init 0 = .ok (.aload_n 0, 1) := by decide +kernel
theorem dX1_init_1 : decode cX1_init 1 = .ok (.invokespecial 3, 3) := by decide +kernel
theorem dX1_init_4 : decode cX1_init 4 = .ok (.aload_n 0, 1) := by decide +kernel
theorem dX1_init_5 : decode cX1_init 5 = .ok (.iconst 0, 1) := by decide +kernel
theorem dX1_init_6 : decode cX1_init 6 = .ok (.putfield 9, 3) := by decide +kernel
theorem dX1_init_9 : decode cX1_init 9 = .ok (.aload_n 0, 1) := by decide +kernel
theorem dX1_init_10 : decode cX1_init 10 = .ok (.iconst 0, 1) := by decide +kernel
theorem dX1_init_11 : decode cX1_init 11 = .ok (.putfield 15, 3) := by decide +kernel
theorem dX1_init_14 : decode cX1_init 14 = .ok (.aload_n 0, 1) := by decide +kernel
theorem dX1_init_15 : decode cX1_init 15 = .ok (.iconst 0, 1) := by decide +kernel
theorem dX1_init_16 : decode cX1_init 16 = .ok (.putfield 18, 3) := by decide +kernel
theorem dX1_init_19 : decode cX1_init 19 = .ok (.aload_n 0, 1) := by decide +kernel
theorem dX1_init_20 : decode cX1_init 20 = .ok (.aload_n 1, 1) := by decide +kernel
theorem dX1_init_21 : decode cX1_init 21 = .ok (.putfield 21, 3) := by decide +kernel
theorem dX1_init_24 : decode cX1_init 24 = .ok (.aload_n 0, 1) := by decide +kernel
theorem dX1_init_25 : decode cX1_init 25 = .ok (.iload_n 2, 1) := by decide +kernel
theorem dX1_init_26 : decode cX1_init 26 = .ok (.putfield 25, 3) := by decide +kernel
theorem dX1_init_29 : decode cX1_init 29 = .ok (.aload_n 0, 1) := by decide +kernel
theorem dX1_init_30 : decode cX1_init 30 = .ok (.iload_n 3, 1) := by decide +kernel
theorem dX1_init_31 : decode cX1_init 31 = .ok (.putfield 29, 3) := by decide +kernel
theorem dX1_init_34 : decode cX1_init 34 = .ok (.return_, 1) := by decide +kernel
theorem dX1_isOpen_0 : decode cX1_isOpen 0 = .ok (.aload_n 0, 1) := by decide +kernel
theorem dX1_isOpen_1 : decode cX1_isOpen 1 = .ok (.getfield 18, 3) := by decide +kernel
theorem dX1_isOpen_4 : decode cX1_isOpen 4 = .ok (.ifCond .ne 14, 3) := by decide +kernel
theorem dX1_isOpen_7 : decode cX1_isOpen 7 = .ok (.aload_n 0, 1) := by decide +kernel
theorem dX1_isOpen_8 : decode cX1_isOpen 8 = .ok (.getfield 15, 3) := by decide +kernel
theorem dX1_isOpen_11 : decode cX1_isOpen 11 = .ok (.ifCond .ne 7, 3) := by decide +kernel
theorem dX1_isOpen_14 : decode cX1_isOpen 14 = .ok (.iconst 1, 1) := by decide +kernel
theorem dX1_isOpen_15 : decode cX1_isOpen 15 = .ok (.goto 4, 3) := by decide +kernel
theorem dX1_isOpen_18 : decode cX1_isOpen 18 = .ok (.iconst 0, 1) := by decide +kernel
theorem dX1_isOpen_19 : decode cX1_isOpen 19 = .ok (.ireturn, 1) := by decide +kernel
theorem dX1_amount_0 : decode cX1_amount 0 = .ok (.aload_n 0, 1) := by decide +kernel
theorem dX1_amount_1 : decode cX1_amount 1 = .ok (.getfield 29, 3) := by decide +kernel
theorem dX1_amount_4 : decode cX1_amount 4 = .ok (.tableswitch 44 1 4 #[32, 35, 38, 41], 32) := by decide +kernel
theorem dX1_amount_36 : decode cX1_amount 36 = .ok (.bipush 100, 2) := by decide +kernel
theorem dX1_amount_38 : decode cX1_amount 38 = .ok (.ireturn, 1) := by decide +kernel
theorem dX1_amount_39 : decode cX1_amount 39 = .ok (.bipush 60, 2) := by decide +kernel
theorem dX1_amount_41 : decode cX1_amount 41 = .ok (.ireturn, 1) := by decide +kernel
theorem dX1_amount_42 : decode cX1_amount 42 = .ok (.bipush 30, 2) := by decide +kernel
theorem dX1_amount_44 : decode cX1_amount 44 = .ok (.ireturn, 1) := by decide +kernel
theorem dX1_amount_45 : decode cX1_amount 45 = .ok (.bipush 40, 2) := by decide +kernel
theorem dX1_amount_47 : decode cX1_amount 47 = .ok (.ireturn, 1) := by decide +kernel
theorem dX1_amount_48 : decode cX1_amount 48 = .ok (.iconst 0, 1) := by decide +kernel
theorem dX1_amount_49 : decode cX1_amount 49 = .ok (.ireturn, 1) := by decide +kernel
theorem dX2_init_0 : decode cX2_init 0 = .ok (.aload_n 0, 1) := by decide +kernel
theorem dX2_init_1 : decode cX2_init 1 = .ok (.invokespecial 1, 3) := by decide +kernel
theorem dX2_init_4 : decode cX2_init 4 = .ok (.aload_n 0, 1) := by decide +kernel
theorem dX2_init_5 : decode cX2_init 5 = .ok (.iload_n 1, 1) := by decide +kernel
theorem dX2_init_6 : decode cX2_init 6 = .ok (.putfield 7, 3) := by decide +kernel
theorem dX2_init_9 : decode cX2_init 9 = .ok (.aload_n 0, 1) := by decide +kernel
theorem dX2_init_10 : decode cX2_init 10 = .ok (.iload_n 2, 1) := by decide +kernel
theorem dX2_init_11 : decode cX2_init 11 = .ok (.putfield 13, 3) := by decide +kernel
theorem dX2_init_14 : decode cX2_init 14 = .ok (.aload_n 0, 1) := by decide +kernel
theorem dX2_init_15 : decode cX2_init 15 = .ok (.iload_n 3, 1) := by decide +kernel
theorem dX2_init_16 : decode cX2_init 16 = .ok (.putfield 16, 3) := by decide +kernel
theorem dX2_init_19 : decode cX2_init 19 = .ok (.aload_n 0, 1) := by decide +kernel
theorem dX2_init_20 : decode cX2_init 20 = .ok (.iload 4, 2) := by decide +kernel
theorem dX2_init_22 : decode cX2_init 22 = .ok (.putfield 19, 3) := by decide +kernel
theorem dX2_init_25 : decode cX2_init 25 = .ok (.return_, 1) := by decide +kernel
theorem dX2_covers_0 : decode cX2_covers 0 = .ok (.iload_n 1, 1) := by decide +kernel
theorem dX2_covers_1 : decode cX2_covers 1 = .ok (.aload_n 0, 1) := by decide +kernel
theorem dX2_covers_2 : decode cX2_covers 2 = .ok (.getfield 16, 3) := by decide +kernel
theorem dX2_covers_5 : decode cX2_covers 5 = .ok (.if_icmp .lt 20, 3) := by decide +kernel
theorem dX2_covers_8 : decode cX2_covers 8 = .ok (.iload_n 1, 1) := by decide +kernel
theorem dX2_covers_9 : decode cX2_covers 9 = .ok (.aload_n 0, 1) := by decide +kernel
theorem dX2_covers_10 : decode cX2_covers 10 = .ok (.getfield 16, 3) := by decide +kernel
theorem dX2_covers_13 : decode cX2_covers 13 = .ok (.aload_n 0, 1) := by decide +kernel
theorem dX2_covers_14 : decode cX2_covers 14 = .ok (.getfield 19, 3) := by decide +kernel
theorem dX2_covers_17 : decode cX2_covers 17 = .ok (.iadd, 1) := by decide +kernel
theorem dX2_covers_18 : decode cX2_covers 18 = .ok (.if_icmp .ge 7, 3) := by decide +kernel
theorem dX2_covers_21 : decode cX2_covers 21 = .ok (.iconst 1, 1) := by decide +kernel
theorem dX2_covers_22 : decode cX2_covers 22 = .ok (.goto 4, 3) := by decide +kernel
theorem dX2_covers_25 : decode cX2_covers 25 = .ok (.iconst 0, 1) := by decide +kernel
theorem dX2_covers_26 : decode cX2_covers 26 = .ok (.ireturn, 1) := by decide +kernel
theorem dX3_init_0 : decode cX3_init 0 = .ok (.aload_n 0, 1) := by decide +kernel
theorem dX3_init_1 : decode cX3_init 1 = .ok (.invokespecial 1, 3) := by decide +kernel
theorem dX3_init_4 : decode cX3_init 4 = .ok (.aload_n 0, 1) := by decide +kernel
theorem dX3_init_5 : decode cX3_init 5 = .ok (.iload_n 1, 1) := by decide +kernel
theorem dX3_init_6 : decode cX3_init 6 = .ok (.putfield 7, 3) := by decide +kernel
theorem dX3_init_9 : decode cX3_init 9 = .ok (.aload_n 0, 1) := by decide +kernel
theorem dX3_init_10 : decode cX3_init 10 = .ok (.iload_n 2, 1) := by decide +kernel
theorem dX3_init_11 : decode cX3_init 11 = .ok (.putfield 13, 3) := by decide +kernel
theorem dX3_init_14 : decode cX3_init 14 = .ok (.aload_n 0, 1) := by decide +kernel
theorem dX3_init_15 : decode cX3_init 15 = .ok (.iload_n 3, 1) := by decide +kernel
theorem dX3_init_16 : decode cX3_init 16 = .ok (.putfield 16, 3) := by decide +kernel
theorem dX3_init_19 : decode cX3_init 19 = .ok (.aload_n 0, 1) := by decide +kernel
theorem dX3_init_20 : decode cX3_init 20 = .ok (.iload 4, 2) := by decide +kernel
theorem dX3_init_22 : decode cX3_init 22 = .ok (.putfield 19, 3) := by decide +kernel
theorem dX3_init_25 : decode cX3_init 25 = .ok (.aload_n 0, 1) := by decide +kernel
theorem dX3_init_26 : decode cX3_init 26 = .ok (.iload 5, 2) := by decide +kernel
theorem dX3_init_28 : decode cX3_init 28 = .ok (.putfield 22, 3) := by decide +kernel
theorem dX3_init_31 : decode cX3_init 31 = .ok (.return_, 1) := by decide +kernel
theorem dX3_holdsOn_0 : decode cX3_holdsOn 0 = .ok (.iload_n 1, 1) := by decide +kernel
theorem dX3_holdsOn_1 : decode cX3_holdsOn 1 = .ok (.aload_n 0, 1) := by decide +kernel
theorem dX3_holdsOn_2 : decode cX3_holdsOn 2 = .ok (.getfield 19, 3) := by decide +kernel
theorem dX3_holdsOn_5 : decode cX3_holdsOn 5 = .ok (.if_icmp .lt 15, 3) := by decide +kernel
theorem dX3_holdsOn_8 : decode cX3_holdsOn 8 = .ok (.iload_n 1, 1) := by decide +kernel
theorem dX3_holdsOn_9 : decode cX3_holdsOn 9 = .ok (.aload_n 0, 1) := by decide +kernel
theorem dX3_holdsOn_10 : decode cX3_holdsOn 10 = .ok (.getfield 22, 3) := by decide +kernel
theorem dX3_holdsOn_13 : decode cX3_holdsOn 13 = .ok (.if_icmp .gt 7, 3) := by decide +kernel
theorem dX3_holdsOn_16 : decode cX3_holdsOn 16 = .ok (.iconst 1, 1) := by decide +kernel
theorem dX3_holdsOn_17 : decode cX3_holdsOn 17 = .ok (.goto 4, 3) := by decide +kernel
theorem dX3_holdsOn_20 : decode cX3_holdsOn 20 = .ok (.iconst 0, 1) := by decide +kernel
theorem dX3_holdsOn_21 : decode cX3_holdsOn 21 = .ok (.ireturn, 1) := by decide +kernel
theorem dX4_init_0 : decode cX4_init 0 = .ok (.aload_n 0, 1) := by decide +kernel
theorem dX4_init_1 : decode cX4_init 1 = .ok (.invokespecial 3, 3) := by decide +kernel
theorem dX4_init_4 : decode cX4_init 4 = .ok (.aload_n 0, 1) := by decide +kernel
theorem dX4_init_5 : decode cX4_init 5 = .ok (.iconst (-1), 1) := by decide +kernel
theorem dX4_init_6 : decode cX4_init 6 = .ok (.putfield 9, 3) := by decide +kernel
theorem dX4_init_9 : decode cX4_init 9 = .ok (.aload_n 0, 1) := by decide +kernel
theorem dX4_init_10 : decode cX4_init 10 = .ok (.iload_n 1, 1) := by decide +kernel
theorem dX4_init_11 : decode cX4_init 11 = .ok (.putfield 15, 3) := by decide +kernel
theorem dX4_init_14 : decode cX4_init 14 = .ok (.aload_n 0, 1) := by decide +kernel
theorem dX4_init_15 : decode cX4_init 15 = .ok (.iload_n 2, 1) := by decide +kernel
theorem dX4_init_16 : decode cX4_init 16 = .ok (.putfield 18, 3) := by decide +kernel
theorem dX4_init_19 : decode cX4_init 19 = .ok (.aload_n 0, 1) := by decide +kernel
theorem dX4_init_20 : decode cX4_init 20 = .ok (.aload_n 3, 1) := by decide +kernel
theorem dX4_init_21 : decode cX4_init 21 = .ok (.putfield 21, 3) := by decide +kernel
theorem dX4_init_24 : decode cX4_init 24 = .ok (.return_, 1) := by decide +kernel
theorem dX4_setPlace_0 : decode cX4_setPlace 0 = .ok (.aload_n 0, 1) := by decide +kernel
theorem dX4_setPlace_1 : decode cX4_setPlace 1 = .ok (.iload_n 1, 1) := by decide +kernel
theorem dX4_setPlace_2 : decode cX4_setPlace 2 = .ok (.putfield 25, 3) := by decide +kernel
theorem dX4_setPlace_5 : decode cX4_setPlace 5 = .ok (.aload_n 0, 1) := by decide +kernel
theorem dX4_setPlace_6 : decode cX4_setPlace 6 = .ok (.iload_n 2, 1) := by decide +kernel
theorem dX4_setPlace_7 : decode cX4_setPlace 7 = .ok (.putfield 28, 3) := by decide +kernel
theorem dX4_setPlace_10 : decode cX4_setPlace 10 = .ok (.aload_n 0, 1) := by decide +kernel
theorem dX4_setPlace_11 : decode cX4_setPlace 11 = .ok (.iload_n 3, 1) := by decide +kernel
theorem dX4_setPlace_12 : decode cX4_setPlace 12 = .ok (.putfield 31, 3) := by decide +kernel
theorem dX4_setPlace_15 : decode cX4_setPlace 15 = .ok (.return_, 1) := by decide +kernel
theorem dX4_setTerms_0 : decode cX4_setTerms 0 = .ok (.aload_n 0, 1) := by decide +kernel
theorem dX4_setTerms_1 : decode cX4_setTerms 1 = .ok (.iload_n 1, 1) := by decide +kernel
theorem dX4_setTerms_2 : decode cX4_setTerms 2 = .ok (.putfield 34, 3) := by decide +kernel
theorem dX4_setTerms_5 : decode cX4_setTerms 5 = .ok (.aload_n 0, 1) := by decide +kernel
theorem dX4_setTerms_6 : decode cX4_setTerms 6 = .ok (.iload_n 2, 1) := by decide +kernel
theorem dX4_setTerms_7 : decode cX4_setTerms 7 = .ok (.putfield 37, 3) := by decide +kernel
theorem dX4_setTerms_10 : decode cX4_setTerms 10 = .ok (.aload_n 0, 1) := by decide +kernel
theorem dX4_setTerms_11 : decode cX4_setTerms 11 = .ok (.iload_n 3, 1) := by decide +kernel
theorem dX4_setTerms_12 : decode cX4_setTerms 12 = .ok (.putfield 40, 3) := by decide +kernel
theorem dX4_setTerms_15 : decode cX4_setTerms 15 = .ok (.aload_n 0, 1) := by decide +kernel
theorem dX4_setTerms_16 : decode cX4_setTerms 16 = .ok (.iload 4, 2) := by decide +kernel
theorem dX4_setTerms_18 : decode cX4_setTerms 18 = .ok (.putfield 44, 3) := by decide +kernel
theorem dX4_setTerms_21 : decode cX4_setTerms 21 = .ok (.return_, 1) := by decide +kernel
theorem dX4_holdsAt_0 : decode cX4_holdsAt 0 = .ok (.aload_n 0, 1) := by decide +kernel
theorem dX4_holdsAt_1 : decode cX4_holdsAt 1 = .ok (.getfield 25, 3) := by decide +kernel
theorem dX4_holdsAt_4 : decode cX4_holdsAt 4 = .ok (.iload_n 1, 1) := by decide +kernel
theorem dX4_holdsAt_5 : decode cX4_holdsAt 5 = .ok (.if_icmp .ne 50, 3) := by decide +kernel
theorem dX4_holdsAt_8 : decode cX4_holdsAt 8 = .ok (.iload_n 2, 1) := by decide +kernel
theorem dX4_holdsAt_9 : decode cX4_holdsAt 9 = .ok (.aload_n 0, 1) := by decide +kernel
theorem dX4_holdsAt_10 : decode cX4_holdsAt 10 = .ok (.getfield 28, 3) := by decide +kernel
theorem dX4_holdsAt_13 : decode cX4_holdsAt 13 = .ok (.if_icmp .lt 42, 3) := by decide +kernel
theorem dX4_holdsAt_16 : decode cX4_holdsAt 16 = .ok (.iload_n 2, 1) := by decide +kernel
theorem dX4_holdsAt_17 : decode cX4_holdsAt 17 = .ok (.aload_n 0, 1) := by decide +kernel
theorem dX4_holdsAt_18 : decode cX4_holdsAt 18 = .ok (.getfield 31, 3) := by decide +kernel
theorem dX4_holdsAt_21 : decode cX4_holdsAt 21 = .ok (.if_icmp .gt 34, 3) := by decide +kernel
theorem dX4_holdsAt_24 : decode cX4_holdsAt 24 = .ok (.aload_n 0, 1) := by decide +kernel
theorem dX4_holdsAt_25 : decode cX4_holdsAt 25 = .ok (.iload_n 3, 1) := by decide +kernel
theorem dX4_holdsAt_26 : decode cX4_holdsAt 26 = .ok (.invokevirtual 47, 3) := by decide +kernel
theorem dX4_holdsAt_29 : decode cX4_holdsAt 29 = .ok (.ifCond .eq 26, 3) := by decide +kernel
theorem dX4_holdsAt_32 : decode cX4_holdsAt 32 = .ok (.aload_n 0, 1) := by decide +kernel
theorem dX4_holdsAt_33 : decode cX4_holdsAt 33 = .ok (.iload_n 3, 1) := by decide +kernel
theorem dX4_holdsAt_34 : decode cX4_holdsAt 34 = .ok (.invokevirtual 51, 3) := by decide +kernel
theorem dX4_holdsAt_37 : decode cX4_holdsAt 37 = .ok (.ifCond .eq 18, 3) := by decide +kernel
theorem dX4_holdsAt_40 : decode cX4_holdsAt 40 = .ok (.aload_n 0, 1) := by decide +kernel
theorem dX4_holdsAt_41 : decode cX4_holdsAt 41 = .ok (.getfield 21, 3) := by decide +kernel
theorem dX4_holdsAt_44 : decode cX4_holdsAt 44 = .ok (.iload_n 3, 1) := by decide +kernel
theorem dX4_holdsAt_45 : decode cX4_holdsAt 45 = .ok (.invokevirtual 54, 3) := by decide +kernel
theorem dX4_holdsAt_48 : decode cX4_holdsAt 48 = .ok (.ifCond .eq 7, 3) := by decide +kernel
theorem dX4_holdsAt_51 : decode cX4_holdsAt 51 = .ok (.iconst 1, 1) := by decide +kernel
theorem dX4_holdsAt_52 : decode cX4_holdsAt 52 = .ok (.goto 4, 3) := by decide +kernel
theorem dX4_holdsAt_55 : decode cX4_holdsAt 55 = .ok (.iconst 0, 1) := by decide +kernel
theorem dX4_holdsAt_56 : decode cX4_holdsAt 56 = .ok (.ireturn, 1) := by decide +kernel
theorem dX4_isUp_0 : decode cX4_isUp 0 = .ok (.aload_n 0, 1) := by decide +kernel
theorem dX4_isUp_1 : decode cX4_isUp 1 = .ok (.getfield 18, 3) := by decide +kernel
theorem dX4_isUp_4 : decode cX4_isUp 4 = .ok (.iload_n 1, 1) := by decide +kernel
theorem dX4_isUp_5 : decode cX4_isUp 5 = .ok (.if_icmp .gt 23, 3) := by decide +kernel
theorem dX4_isUp_8 : decode cX4_isUp 8 = .ok (.aload_n 0, 1) := by decide +kernel
theorem dX4_isUp_9 : decode cX4_isUp 9 = .ok (.getfield 9, 3) := by decide +kernel
theorem dX4_isUp_12 : decode cX4_isUp 12 = .ok (.iconst (-1), 1) := by decide +kernel
theorem dX4_isUp_13 : decode cX4_isUp 13 = .ok (.if_icmp .eq 11, 3) := by decide +kernel
theorem dX4_isUp_16 : decode cX4_isUp 16 = .ok (.aload_n 0, 1) := by decide +kernel
theorem dX4_isUp_17 : decode cX4_isUp 17 = .ok (.getfield 9, 3) := by decide +kernel
theorem dX4_isUp_20 : decode cX4_isUp 20 = .ok (.iload_n 1, 1) := by decide +kernel
theorem dX4_isUp_21 : decode cX4_isUp 21 = .ok (.if_icmp .le 7, 3) := by decide +kernel
theorem dX4_isUp_24 : decode cX4_isUp 24 = .ok (.iconst 1, 1) := by decide +kernel
theorem dX4_isUp_25 : decode cX4_isUp 25 = .ok (.goto 4, 3) := by decide +kernel
theorem dX4_isUp_28 : decode cX4_isUp 28 = .ok (.iconst 0, 1) := by decide +kernel
theorem dX4_isUp_29 : decode cX4_isUp 29 = .ok (.ireturn, 1) := by decide +kernel
theorem dX4_isNoticed_0 : decode cX4_isNoticed 0 = .ok (.aload_n 0, 1) := by decide +kernel
theorem dX4_isNoticed_1 : decode cX4_isNoticed 1 = .ok (.getfield 44, 3) := by decide +kernel
theorem dX4_isNoticed_4 : decode cX4_isNoticed 4 = .ok (.ifCond .eq 19, 3) := by decide +kernel
theorem dX4_isNoticed_7 : decode cX4_isNoticed 7 = .ok (.iload_n 1, 1) := by decide +kernel
theorem dX4_isNoticed_8 : decode cX4_isNoticed 8 = .ok (.bipush 96, 2) := by decide +kernel
theorem dX4_isNoticed_10 : decode cX4_isNoticed 10 = .ok (.idiv, 1) := by decide +kernel
theorem dX4_isNoticed_11 : decode cX4_isNoticed 11 = .ok (.aload_n 0, 1) := by decide +kernel
theorem dX4_isNoticed_12 : decode cX4_isNoticed 12 = .ok (.getfield 18, 3) := by decide +kernel
theorem dX4_isNoticed_15 : decode cX4_isNoticed 15 = .ok (.bipush 96, 2) := by decide +kernel
theorem dX4_isNoticed_17 : decode cX4_isNoticed 17 = .ok (.idiv, 1) := by decide +kernel
theorem dX4_isNoticed_18 : decode cX4_isNoticed 18 = .ok (.iconst 3, 1) := by decide +kernel
theorem dX4_isNoticed_19 : decode cX4_isNoticed 19 = .ok (.iadd, 1) := by decide +kernel
theorem dX4_isNoticed_20 : decode cX4_isNoticed 20 = .ok (.if_icmp .lt 7, 3) := by decide +kernel
theorem dX4_isNoticed_23 : decode cX4_isNoticed 23 = .ok (.iconst 1, 1) := by decide +kernel
theorem dX4_isNoticed_24 : decode cX4_isNoticed 24 = .ok (.goto 4, 3) := by decide +kernel
theorem dX4_isNoticed_27 : decode cX4_isNoticed 27 = .ok (.iconst 0, 1) := by decide +kernel
theorem dX4_isNoticed_28 : decode cX4_isNoticed 28 = .ok (.ireturn, 1) := by decide +kernel
theorem dX4_goesAheadOf_0 : decode cX4_goesAheadOf 0 = .ok (.aload_n 0, 1) := by decide +kernel
theorem dX4_goesAheadOf_1 : decode cX4_goesAheadOf 1 = .ok (.getfield 44, 3) := by decide +kernel
theorem dX4_goesAheadOf_4 : decode cX4_goesAheadOf 4 = .ok (.aload_n 1, 1) := by decide +kernel
theorem dX4_goesAheadOf_5 : decode cX4_goesAheadOf 5 = .ok (.getfield 44, 3) := by decide +kernel
theorem dX4_goesAheadOf_8 : decode cX4_goesAheadOf 8 = .ok (.if_icmp .eq 8, 3) := by decide +kernel
theorem dX4_goesAheadOf_11 : decode cX4_goesAheadOf 11 = .ok (.aload_n 0, 1) := by decide +kernel
theorem dX4_goesAheadOf_12 : decode cX4_goesAheadOf 12 = .ok (.getfield 44, 3) := by decide +kernel
theorem dX4_goesAheadOf_15 : decode cX4_goesAheadOf 15 = .ok (.ireturn, 1) := by decide +kernel
theorem dX4_goesAheadOf_16 : decode cX4_goesAheadOf 16 = .ok (.aload_n 0, 1) := by decide +kernel
theorem dX4_goesAheadOf_17 : decode cX4_goesAheadOf 17 = .ok (.getfield 31, 3) := by decide +kernel
theorem dX4_goesAheadOf_20 : decode cX4_goesAheadOf 20 = .ok (.aload_n 0, 1) := by decide +kernel
theorem dX4_goesAheadOf_21 : decode cX4_goesAheadOf 21 = .ok (.getfield 28, 3) := by decide +kernel
theorem dX4_goesAheadOf_24 : decode cX4_goesAheadOf 24 = .ok (.isub, 1) := by decide +kernel
theorem dX4_goesAheadOf_25 : decode cX4_goesAheadOf 25 = .ok (.aload_n 1, 1) := by decide +kernel
theorem dX4_goesAheadOf_26 : decode cX4_goesAheadOf 26 = .ok (.getfield 31, 3) := by decide +kernel
theorem dX4_goesAheadOf_29 : decode cX4_goesAheadOf 29 = .ok (.aload_n 1, 1) := by decide +kernel
theorem dX4_goesAheadOf_30 : decode cX4_goesAheadOf 30 = .ok (.getfield 28, 3) := by decide +kernel
theorem dX4_goesAheadOf_33 : decode cX4_goesAheadOf 33 = .ok (.isub, 1) := by decide +kernel
theorem dX4_goesAheadOf_34 : decode cX4_goesAheadOf 34 = .ok (.if_icmp .eq 30, 3) := by decide +kernel
theorem dX4_goesAheadOf_37 : decode cX4_goesAheadOf 37 = .ok (.aload_n 0, 1) := by decide +kernel
theorem dX4_goesAheadOf_38 : decode cX4_goesAheadOf 38 = .ok (.getfield 31, 3) := by decide +kernel
theorem dX4_goesAheadOf_41 : decode cX4_goesAheadOf 41 = .ok (.aload_n 0, 1) := by decide +kernel
theorem dX4_goesAheadOf_42 : decode cX4_goesAheadOf 42 = .ok (.getfield 28, 3) := by decide +kernel
theorem dX4_goesAheadOf_45 : decode cX4_goesAheadOf 45 = .ok (.isub, 1) := by decide +kernel
theorem dX4_goesAheadOf_46 : decode cX4_goesAheadOf 46 = .ok (.aload_n 1, 1) := by decide +kernel
theorem dX4_goesAheadOf_47 : decode cX4_goesAheadOf 47 = .ok (.getfield 31, 3) := by decide +kernel
theorem dX4_goesAheadOf_50 : decode cX4_goesAheadOf 50 = .ok (.aload_n 1, 1) := by decide +kernel
theorem dX4_goesAheadOf_51 : decode cX4_goesAheadOf 51 = .ok (.getfield 28, 3) := by decide +kernel
theorem dX4_goesAheadOf_54 : decode cX4_goesAheadOf 54 = .ok (.isub, 1) := by decide +kernel
theorem dX4_goesAheadOf_55 : decode cX4_goesAheadOf 55 = .ok (.if_icmp .ge 7, 3) := by decide +kernel
theorem dX4_goesAheadOf_58 : decode cX4_goesAheadOf 58 = .ok (.iconst 1, 1) := by decide +kernel
theorem dX4_goesAheadOf_59 : decode cX4_goesAheadOf 59 = .ok (.goto 4, 3) := by decide +kernel
theorem dX4_goesAheadOf_62 : decode cX4_goesAheadOf 62 = .ok (.iconst 0, 1) := by decide +kernel
theorem dX4_goesAheadOf_63 : decode cX4_goesAheadOf 63 = .ok (.ireturn, 1) := by decide +kernel
theorem dX4_goesAheadOf_64 : decode cX4_goesAheadOf 64 = .ok (.aload_n 0, 1) := by decide +kernel
theorem dX4_goesAheadOf_65 : decode cX4_goesAheadOf 65 = .ok (.getfield 15, 3) := by decide +kernel
theorem dX4_goesAheadOf_68 : decode cX4_goesAheadOf 68 = .ok (.aload_n 1, 1) := by decide +kernel
theorem dX4_goesAheadOf_69 : decode cX4_goesAheadOf 69 = .ok (.getfield 15, 3) := by decide +kernel
theorem dX4_goesAheadOf_72 : decode cX4_goesAheadOf 72 = .ok (.if_icmp .le 7, 3) := by decide +kernel
theorem dX4_goesAheadOf_75 : decode cX4_goesAheadOf 75 = .ok (.iconst 1, 1) := by decide +kernel
theorem dX4_goesAheadOf_76 : decode cX4_goesAheadOf 76 = .ok (.goto 4, 3) := by decide +kernel
theorem dX4_goesAheadOf_79 : decode cX4_goesAheadOf 79 = .ok (.iconst 0, 1) := by decide +kernel
theorem dX4_goesAheadOf_80 : decode cX4_goesAheadOf 80 = .ok (.ireturn, 1) := by decide +kernel
theorem dX4_letsStand_0 : decode cX4_letsStand 0 = .ok (.aload_n 0, 1) := by decide +kernel
theorem dX4_letsStand_1 : decode cX4_letsStand 1 = .ok (.getfield 34, 3) := by decide +kernel
theorem dX4_letsStand_4 : decode cX4_letsStand 4 = .ok (.iload_n 1, 1) := by decide +kernel
theorem dX4_letsStand_5 : decode cX4_letsStand 5 = .ok (.ishr, 1) := by decide +kernel
theorem dX4_letsStand_6 : decode cX4_letsStand 6 = .ok (.iconst 1, 1) := by decide +kernel
theorem dX4_letsStand_7 : decode cX4_letsStand 7 = .ok (.iand, 1) := by decide +kernel
theorem dX4_letsStand_8 : decode cX4_letsStand 8 = .ok (.iconst 1, 1) := by decide +kernel
theorem dX4_letsStand_9 : decode cX4_letsStand 9 = .ok (.if_icmp .ne 7, 3) := by decide +kernel
theorem dX4_letsStand_12 : decode cX4_letsStand 12 = .ok (.iconst 1, 1) := by decide +kernel
theorem dX4_letsStand_13 : decode cX4_letsStand 13 = .ok (.goto 4, 3) := by decide +kernel
theorem dX4_letsStand_16 : decode cX4_letsStand 16 = .ok (.iconst 0, 1) := by decide +kernel
theorem dX4_letsStand_17 : decode cX4_letsStand 17 = .ok (.ireturn, 1) := by decide +kernel
theorem dX5_init_0 : decode cX5_init 0 = .ok (.aload_n 0, 1) := by decide +kernel
theorem dX5_init_1 : decode cX5_init 1 = .ok (.invokespecial 3, 3) := by decide +kernel
theorem dX5_init_4 : decode cX5_init 4 = .ok (.aload_n 0, 1) := by decide +kernel
theorem dX5_init_5 : decode cX5_init 5 = .ok (.iconst (-1), 1) := by decide +kernel
theorem dX5_init_6 : decode cX5_init 6 = .ok (.putfield 9, 3) := by decide +kernel
theorem dX5_init_9 : decode cX5_init 9 = .ok (.aload_n 0, 1) := by decide +kernel
theorem dX5_init_10 : decode cX5_init 10 = .ok (.aload_n 1, 1) := by decide +kernel
theorem dX5_init_11 : decode cX5_init 11 = .ok (.putfield 15, 3) := by decide +kernel
theorem dX5_init_14 : decode cX5_init 14 = .ok (.aload_n 0, 1) := by decide +kernel
theorem dX5_init_15 : decode cX5_init 15 = .ok (.iload_n 2, 1) := by decide +kernel
theorem dX5_init_16 : decode cX5_init 16 = .ok (.putfield 19, 3) := by decide +kernel
theorem dX5_init_19 : decode cX5_init 19 = .ok (.aload_n 0, 1) := by decide +kernel
theorem dX5_init_20 : decode cX5_init 20 = .ok (.iload_n 3, 1) := by decide +kernel
theorem dX5_init_21 : decode cX5_init 21 = .ok (.putfield 22, 3) := by decide +kernel
theorem dX5_init_24 : decode cX5_init 24 = .ok (.aload_n 0, 1) := by decide +kernel
theorem dX5_init_25 : decode cX5_init 25 = .ok (.iload 4, 2) := by decide +kernel
theorem dX5_init_27 : decode cX5_init 27 = .ok (.putfield 25, 3) := by decide +kernel
theorem dX5_init_30 : decode cX5_init 30 = .ok (.return_, 1) := by decide +kernel
theorem dX5_isTooNear_0 : decode cX5_isTooNear 0 = .ok (.iload_n 1, 1) := by decide +kernel
theorem dX5_isTooNear_1 : decode cX5_isTooNear 1 = .ok (.aload_n 0, 1) := by decide +kernel
theorem dX5_isTooNear_2 : decode cX5_isTooNear 2 = .ok (.getfield 22, 3) := by decide +kernel
theorem dX5_isTooNear_5 : decode cX5_isTooNear 5 = .ok (.aload_n 0, 1) := by decide +kernel
theorem dX5_isTooNear_6 : decode cX5_isTooNear 6 = .ok (.getfield 15, 3) := by decide +kernel
theorem dX5_isTooNear_9 : decode cX5_isTooNear 9 = .ok (.getfield 28, 3) := by decide +kernel
theorem dX5_isTooNear_12 : decode cX5_isTooNear 12 = .ok (.iadd, 1) := by decide +kernel
theorem dX5_isTooNear_13 : decode cX5_isTooNear 13 = .ok (.if_icmp .gt 17, 3) := by decide +kernel
theorem dX5_isTooNear_16 : decode cX5_isTooNear 16 = .ok (.aload_n 0, 1) := by decide +kernel
theorem dX5_isTooNear_17 : decode cX5_isTooNear 17 = .ok (.getfield 22, 3) := by decide +kernel
theorem dX5_isTooNear_20 : decode cX5_isTooNear 20 = .ok (.iload_n 1, 1) := by decide +kernel
theorem dX5_isTooNear_21 : decode cX5_isTooNear 21 = .ok (.iload_n 2, 1) := by decide +kernel
theorem dX5_isTooNear_22 : decode cX5_isTooNear 22 = .ok (.iadd, 1) := by decide +kernel
theorem dX5_isTooNear_23 : decode cX5_isTooNear 23 = .ok (.if_icmp .gt 7, 3) := by decide +kernel
theorem dX5_isTooNear_26 : decode cX5_isTooNear 26 = .ok (.iconst 1, 1) := by decide +kernel
theorem dX5_isTooNear_27 : decode cX5_isTooNear 27 = .ok (.goto 4, 3) := by decide +kernel
theorem dX5_isTooNear_30 : decode cX5_isTooNear 30 = .ok (.iconst 0, 1) := by decide +kernel
theorem dX5_isTooNear_31 : decode cX5_isTooNear 31 = .ok (.ireturn, 1) := by decide +kernel
theorem dX6_init_0 : decode cX6_init 0 = .ok (.aload_n 0, 1) := by decide +kernel
theorem dX6_init_1 : decode cX6_init 1 = .ok (.invokespecial 3, 3) := by decide +kernel
theorem dX6_init_4 : decode cX6_init 4 = .ok (.aload_n 0, 1) := by decide +kernel
theorem dX6_init_5 : decode cX6_init 5 = .ok (.bipush 60, 2) := by decide +kernel
theorem dX6_init_7 : decode cX6_init 7 = .ok (.newarray .boolean, 2) := by decide +kernel
theorem dX6_init_9 : decode cX6_init 9 = .ok (.putfield 9, 3) := by decide +kernel
theorem dX6_init_12 : decode cX6_init 12 = .ok (.aload_n 0, 1) := by decide +kernel
theorem dX6_init_13 : decode cX6_init 13 = .ok (.iconst 4, 1) := by decide +kernel
theorem dX6_init_14 : decode cX6_init 14 = .ok (.putfield 15, 3) := by decide +kernel
theorem dX6_init_17 : decode cX6_init 17 = .ok (.aload_n 0, 1) := by decide +kernel
theorem dX6_init_18 : decode cX6_init 18 = .ok (.iconst 0, 1) := by decide +kernel
theorem dX6_init_19 : decode cX6_init 19 = .ok (.putfield 19, 3) := by decide +kernel
theorem dX6_init_22 : decode cX6_init 22 = .ok (.aload_n 0, 1) := by decide +kernel
theorem dX6_init_23 : decode cX6_init 23 = .ok (.iconst 0, 1) := by decide +kernel
theorem dX6_init_24 : decode cX6_init 24 = .ok (.putfield 22, 3) := by decide +kernel
theorem dX6_init_27 : decode cX6_init 27 = .ok (.aload_n 0, 1) := by decide +kernel
theorem dX6_init_28 : decode cX6_init 28 = .ok (.iconst 0, 1) := by decide +kernel
theorem dX6_init_29 : decode cX6_init 29 = .ok (.putfield 25, 3) := by decide +kernel
theorem dX6_init_32 : decode cX6_init 32 = .ok (.aload_n 0, 1) := by decide +kernel
theorem dX6_init_33 : decode cX6_init 33 = .ok (.iconst 0, 1) := by decide +kernel
theorem dX6_init_34 : decode cX6_init 34 = .ok (.putfield 28, 3) := by decide +kernel
theorem dX6_init_37 : decode cX6_init 37 = .ok (.return_, 1) := by decide +kernel
theorem dX6_isBlocked_0 : decode cX6_isBlocked 0 = .ok (.iload_n 1, 1) := by decide +kernel
theorem dX6_isBlocked_1 : decode cX6_isBlocked 1 = .ok (.aload_n 0, 1) := by decide +kernel
theorem dX6_isBlocked_2 : decode cX6_isBlocked 2 = .ok (.getfield 9, 3) := by decide +kernel
theorem dX6_isBlocked_5 : decode cX6_isBlocked 5 = .ok (.arraylength, 1) := by decide +kernel
theorem dX6_isBlocked_6 : decode cX6_isBlocked 6 = .ok (.invokestatic 31, 3) := by decide +kernel
theorem dX6_isBlocked_9 : decode cX6_isBlocked 9 = .ok (.ifCond .eq 16, 3) := by decide +kernel
theorem dX6_isBlocked_12 : decode cX6_isBlocked 12 = .ok (.aload_n 0, 1) := by decide +kernel
theorem dX6_isBlocked_13 : decode cX6_isBlocked 13 = .ok (.getfield 9, 3) := by decide +kernel
theorem dX6_isBlocked_16 : decode cX6_isBlocked 16 = .ok (.iload_n 1, 1) := by decide +kernel
theorem dX6_isBlocked_17 : decode cX6_isBlocked 17 = .ok (.baload, 1) := by decide +kernel
theorem dX6_isBlocked_18 : decode cX6_isBlocked 18 = .ok (.ifCond .eq 7, 3) := by decide +kernel
theorem dX6_isBlocked_21 : decode cX6_isBlocked 21 = .ok (.iconst 1, 1) := by decide +kernel
theorem dX6_isBlocked_22 : decode cX6_isBlocked 22 = .ok (.goto 4, 3) := by decide +kernel
theorem dX6_isBlocked_25 : decode cX6_isBlocked 25 = .ok (.iconst 0, 1) := by decide +kernel
theorem dX6_isBlocked_26 : decode cX6_isBlocked 26 = .ok (.ireturn, 1) := by decide +kernel
theorem dX6_setBlocked_0 : decode cX6_setBlocked 0 = .ok (.iload_n 1, 1) := by decide +kernel
theorem dX6_setBlocked_1 : decode cX6_setBlocked 1 = .ok (.aload_n 0, 1) := by decide +kernel
theorem dX6_setBlocked_2 : decode cX6_setBlocked 2 = .ok (.getfield 9, 3) := by decide +kernel
theorem dX6_setBlocked_5 : decode cX6_setBlocked 5 = .ok (.arraylength, 1) := by decide +kernel
theorem dX6_setBlocked_6 : decode cX6_setBlocked 6 = .ok (.invokestatic 31, 3) := by decide +kernel
theorem dX6_setBlocked_9 : decode cX6_setBlocked 9 = .ok (.ifCond .eq 10, 3) := by decide +kernel
theorem dX6_setBlocked_12 : decode cX6_setBlocked 12 = .ok (.aload_n 0, 1) := by decide +kernel
theorem dX6_setBlocked_13 : decode cX6_setBlocked 13 = .ok (.getfield 9, 3) := by decide +kernel
theorem dX6_setBlocked_16 : decode cX6_setBlocked 16 = .ok (.iload_n 1, 1) := by decide +kernel
theorem dX6_setBlocked_17 : decode cX6_setBlocked 17 = .ok (.iload_n 2, 1) := by decide +kernel
theorem dX6_setBlocked_18 : decode cX6_setBlocked 18 = .ok (.bastore, 1) := by decide +kernel
theorem dX6_setBlocked_19 : decode cX6_setBlocked 19 = .ok (.return_, 1) := by decide +kernel
theorem dX6_beginDay_0 : decode cX6_beginDay 0 = .ok (.aload_n 0, 1) := by decide +kernel
theorem dX6_beginDay_1 : decode cX6_beginDay 1 = .ok (.getfield 22, 3) := by decide +kernel
theorem dX6_beginDay_4 : decode cX6_beginDay 4 = .ok (.bipush 100, 2) := by decide +kernel
theorem dX6_beginDay_6 : decode cX6_beginDay 6 = .ok (.imul, 1) := by decide +kernel
theorem dX6_beginDay_7 : decode cX6_beginDay 7 = .ok (.istore_n 1, 1) := by decide +kernel
theorem dX6_beginDay_8 : decode cX6_beginDay 8 = .ok (.iload_n 1, 1) := by decide +kernel
theorem dX6_beginDay_9 : decode cX6_beginDay 9 = .ok (.ldc 35, 2) := by decide +kernel
theorem dX6_beginDay_11 : decode cX6_beginDay 11 = .ok (.if_icmp .le 21, 3) := by decide +kernel
theorem dX6_beginDay_14 : decode cX6_beginDay 14 = .ok (.aload_n 0, 1) := by decide +kernel
theorem dX6_beginDay_15 : decode cX6_beginDay 15 = .ok (.aload_n 0, 1) := by decide +kernel
theorem dX6_beginDay_16 : decode cX6_beginDay 16 = .ok (.getfield 15, 3) := by decide +kernel
theorem dX6_beginDay_19 : decode cX6_beginDay 19 = .ok (.iconst 1, 1) := by decide +kernel
theorem dX6_beginDay_20 : decode cX6_beginDay 20 = .ok (.iadd, 1) := by decide +kernel
theorem dX6_beginDay_21 : decode cX6_beginDay 21 = .ok (.bipush 20, 2) := by decide +kernel
theorem dX6_beginDay_23 : decode cX6_beginDay 23 = .ok (.invokestatic 36, 3) := by decide +kernel
theorem dX6_beginDay_26 : decode cX6_beginDay 26 = .ok (.putfield 15, 3) := by decide +kernel
theorem dX6_beginDay_29 : decode cX6_beginDay 29 = .ok (.goto 23, 3) := by decide +kernel
theorem dX6_beginDay_32 : decode cX6_beginDay 32 = .ok (.iload_n 1, 1) := by decide +kernel
theorem dX6_beginDay_33 : decode cX6_beginDay 33 = .ok (.ldc 42, 2) := by decide +kernel
theorem dX6_beginDay_35 : decode cX6_beginDay 35 = .ok (.if_icmp .ge 17, 3) := by decide +kernel
theorem dX6_beginDay_38 : decode cX6_beginDay 38 = .ok (.aload_n 0, 1) := by decide +kernel
theorem dX6_beginDay_39 : decode cX6_beginDay 39 = .ok (.aload_n 0, 1) := by decide +kernel
theorem dX6_beginDay_40 : decode cX6_beginDay 40 = .ok (.getfield 15, 3) := by decide +kernel
theorem dX6_beginDay_43 : decode cX6_beginDay 43 = .ok (.iconst 1, 1) := by decide +kernel
theorem dX6_beginDay_44 : decode cX6_beginDay 44 = .ok (.isub, 1) := by decide +kernel
theorem dX6_beginDay_45 : decode cX6_beginDay 45 = .ok (.iconst 0, 1) := by decide +kernel
theorem dX6_beginDay_46 : decode cX6_beginDay 46 = .ok (.invokestatic 43, 3) := by decide +kernel
theorem dX6_beginDay_49 : decode cX6_beginDay 49 = .ok (.putfield 15, 3) := by decide +kernel
theorem dX6_beginDay_52 : decode cX6_beginDay 52 = .ok (.aload_n 0, 1) := by decide +kernel
theorem dX6_beginDay_53 : decode cX6_beginDay 53 = .ok (.iconst 0, 1) := by decide +kernel
theorem dX6_beginDay_54 : decode cX6_beginDay 54 = .ok (.putfield 22, 3) := by decide +kernel
theorem dX6_beginDay_57 : decode cX6_beginDay 57 = .ok (.return_, 1) := by decide +kernel
theorem dX7_init_0 : decode cX7_init 0 = .ok (.aload_n 0, 1) := by decide +kernel
theorem dX7_init_1 : decode cX7_init 1 = .ok (.invokespecial 3, 3) := by decide +kernel
theorem dX7_init_4 : decode cX7_init 4 = .ok (.aload_n 0, 1) := by decide +kernel
theorem dX7_init_5 : decode cX7_init 5 = .ok (.bipush 127, 2) := by decide +kernel
theorem dX7_init_7 : decode cX7_init 7 = .ok (.putfield 9, 3) := by decide +kernel
theorem dX7_init_10 : decode cX7_init 10 = .ok (.aload_n 0, 1) := by decide +kernel
theorem dX7_init_11 : decode cX7_init 11 = .ok (.iconst 0, 1) := by decide +kernel
theorem dX7_init_12 : decode cX7_init 12 = .ok (.putfield 15, 3) := by decide +kernel
theorem dX7_init_15 : decode cX7_init 15 = .ok (.aload_n 0, 1) := by decide +kernel
theorem dX7_init_16 : decode cX7_init 16 = .ok (.bipush 96, 2) := by decide +kernel
theorem dX7_init_18 : decode cX7_init 18 = .ok (.putfield 18, 3) := by decide +kernel
theorem dX7_init_21 : decode cX7_init 21 = .ok (.aload_n 0, 1) := by decide +kernel
theorem dX7_init_22 : decode cX7_init 22 = .ok (.iconst 0, 1) := by decide +kernel
theorem dX7_init_23 : decode cX7_init 23 = .ok (.putfield 21, 3) := by decide +kernel
theorem dX7_init_26 : decode cX7_init 26 = .ok (.aload_n 0, 1) := by decide +kernel
theorem dX7_init_27 : decode cX7_init 27 = .ok (.sipush 520, 3) := by decide +kernel
theorem dX7_init_30 : decode cX7_init 30 = .ok (.putfield 24, 3) := by decide +kernel
theorem dX7_init_33 : decode cX7_init 33 = .ok (.return_, 1) := by decide +kernel
theorem dX7_has_0 : decode cX7_has 0 = .ok (.iload_n 1, 1) := by decide +kernel
theorem dX7_has_1 : decode cX7_has 1 = .ok (.bipush 96, 2) := by decide +kernel
theorem dX7_has_3 : decode cX7_has 3 = .ok (.idiv, 1) := by decide +kernel
theorem dX7_has_4 : decode cX7_has 4 = .ok (.istore_n 2, 1) := by decide +kernel
theorem dX7_has_5 : decode cX7_has 5 = .ok (.iload_n 1, 1) := by decide +kernel
theorem dX7_has_6 : decode cX7_has 6 = .ok (.bipush 96, 2) := by decide +kernel
theorem dX7_has_8 : decode cX7_has 8 = .ok (.irem, 1) := by decide +kernel
theorem dX7_has_9 : decode cX7_has 9 = .ok (.istore_n 3, 1) := by decide +kernel
theorem dX7_has_10 : decode cX7_has 10 = .ok (.aload_n 0, 1) := by decide +kernel
theorem dX7_has_11 : decode cX7_has 11 = .ok (.getfield 9, 3) := by decide +kernel
theorem dX7_has_14 : decode cX7_has 14 = .ok (.iload_n 2, 1) := by decide +kernel
theorem dX7_has_15 : decode cX7_has 15 = .ok (.bipush 7, 2) := by decide +kernel
theorem dX7_has_17 : decode cX7_has 17 = .ok (.irem, 1) := by decide +kernel
theorem dX7_has_18 : decode cX7_has 18 = .ok (.ishr, 1) := by decide +kernel
theorem dX7_has_19 : decode cX7_has 19 = .ok (.iconst 1, 1) := by decide +kernel
theorem dX7_has_20 : decode cX7_has 20 = .ok (.iand, 1) := by decide +kernel
theorem dX7_has_21 : decode cX7_has 21 = .ok (.iconst 1, 1) := by decide +kernel
theorem dX7_has_22 : decode cX7_has 22 = .ok (.if_icmp .ne 39, 3) := by decide +kernel
theorem dX7_has_25 : decode cX7_has 25 = .ok (.iload_n 3, 1) := by decide +kernel
theorem dX7_has_26 : decode cX7_has 26 = .ok (.aload_n 0, 1) := by decide +kernel
theorem dX7_has_27 : decode cX7_has 27 = .ok (.getfield 15, 3) := by decide +kernel
theorem dX7_has_30 : decode cX7_has 30 = .ok (.if_icmp .lt 31, 3) := by decide +kernel
theorem dX7_has_33 : decode cX7_has 33 = .ok (.iload_n 3, 1) := by decide +kernel
theorem dX7_has_34 : decode cX7_has 34 = .ok (.aload_n 0, 1) := by decide +kernel
theorem dX7_has_35 : decode cX7_has 35 = .ok (.getfield 18, 3) := by decide +kernel
theorem dX7_has_38 : decode cX7_has 38 = .ok (.if_icmp .ge 23, 3) := by decide +kernel
theorem dX7_has_41 : decode cX7_has 41 = .ok (.iload_n 2, 1) := by decide +kernel
theorem dX7_has_42 : decode cX7_has 42 = .ok (.aload_n 0, 1) := by decide +kernel
theorem dX7_has_43 : decode cX7_has 43 = .ok (.getfield 21, 3) := by decide +kernel
theorem dX7_has_46 : decode cX7_has 46 = .ok (.if_icmp .lt 15, 3) := by decide +kernel
theorem dX7_has_49 : decode cX7_has 49 = .ok (.iload_n 2, 1) := by decide +kernel
theorem dX7_has_50 : decode cX7_has 50 = .ok (.aload_n 0, 1) := by decide +kernel
theorem dX7_has_51 : decode cX7_has 51 = .ok (.getfield 24, 3) := by decide +kernel
theorem dX7_has_54 : decode cX7_has 54 = .ok (.if_icmp .gt 7, 3) := by decide +kernel
theorem dX7_has_57 : decode cX7_has 57 = .ok (.iconst 1, 1) := by decide +kernel
theorem dX7_has_58 : decode cX7_has 58 = .ok (.goto 4, 3) := by decide +kernel
theorem dX7_has_61 : decode cX7_has 61 = .ok (.iconst 0, 1) := by decide +kernel
theorem dX7_has_62 : decode cX7_has 62 = .ok (.ireturn, 1) := by decide +kernel
theorem dX8_init_0 : decode cX8_init 0 = .ok (.aload_n 0, 1) := by decide +kernel
theorem dX8_init_1 : decode cX8_init 1 = .ok (.invokespecial 3, 3) := by decide +kernel
theorem dX8_init_4 : decode cX8_init 4 = .ok (.aload_n 0, 1) := by decide +kernel
theorem dX8_init_5 : decode cX8_init 5 = .ok (.new 9, 3) := by decide +kernel
theorem dX8_init_8 : decode cX8_init 8 = .ok (.dup, 1) := by decide +kernel
theorem dX8_init_9 : decode cX8_init 9 = .ok (.invokespecial 11, 3) := by decide +kernel
theorem dX8_init_12 : decode cX8_init 12 = .ok (.putfield 12, 3) := by decide +kernel
theorem dX8_init_15 : decode cX8_init 15 = .ok (.aload_n 0, 1) := by decide +kernel
theorem dX8_init_16 : decode cX8_init 16 = .ok (.new 9, 3) := by decide +kernel
theorem dX8_init_19 : decode cX8_init 19 = .ok (.dup, 1) := by decide +kernel
theorem dX8_init_20 : decode cX8_init 20 = .ok (.invokespecial 11, 3) := by decide +kernel
theorem dX8_init_23 : decode cX8_init 23 = .ok (.putfield 16, 3) := by decide +kernel
theorem dX8_init_26 : decode cX8_init 26 = .ok (.aload_n 0, 1) := by decide +kernel
theorem dX8_init_27 : decode cX8_init 27 = .ok (.new 9, 3) := by decide +kernel
theorem dX8_init_30 : decode cX8_init 30 = .ok (.dup, 1) := by decide +kernel
theorem dX8_init_31 : decode cX8_init 31 = .ok (.invokespecial 11, 3) := by decide +kernel
theorem dX8_init_34 : decode cX8_init 34 = .ok (.putfield 19, 3) := by decide +kernel
theorem dX8_init_37 : decode cX8_init 37 = .ok (.aload_n 0, 1) := by decide +kernel
theorem dX8_init_38 : decode cX8_init 38 = .ok (.new 9, 3) := by decide +kernel
theorem dX8_init_41 : decode cX8_init 41 = .ok (.dup, 1) := by decide +kernel
theorem dX8_init_42 : decode cX8_init 42 = .ok (.invokespecial 11, 3) := by decide +kernel
theorem dX8_init_45 : decode cX8_init 45 = .ok (.putfield 22, 3) := by decide +kernel
theorem dX8_init_48 : decode cX8_init 48 = .ok (.aload_n 0, 1) := by decide +kernel
theorem dX8_init_49 : decode cX8_init 49 = .ok (.new 9, 3) := by decide +kernel
theorem dX8_init_52 : decode cX8_init 52 = .ok (.dup, 1) := by decide +kernel
theorem dX8_init_53 : decode cX8_init 53 = .ok (.invokespecial 11, 3) := by decide +kernel
theorem dX8_init_56 : decode cX8_init 56 = .ok (.putfield 25, 3) := by decide +kernel
theorem dX8_init_59 : decode cX8_init 59 = .ok (.aload_n 0, 1) := by decide +kernel
theorem dX8_init_60 : decode cX8_init 60 = .ok (.new 9, 3) := by decide +kernel
theorem dX8_init_63 : decode cX8_init 63 = .ok (.dup, 1) := by decide +kernel
theorem dX8_init_64 : decode cX8_init 64 = .ok (.invokespecial 11, 3) := by decide +kernel
theorem dX8_init_67 : decode cX8_init 67 = .ok (.putfield 28, 3) := by decide +kernel
theorem dX8_init_70 : decode cX8_init 70 = .ok (.aload_n 0, 1) := by decide +kernel
theorem dX8_init_71 : decode cX8_init 71 = .ok (.new 31, 3) := by decide +kernel
theorem dX8_init_74 : decode cX8_init 74 = .ok (.dup, 1) := by decide +kernel
theorem dX8_init_75 : decode cX8_init 75 = .ok (.invokespecial 33, 3) := by decide +kernel
theorem dX8_init_78 : decode cX8_init 78 = .ok (.putfield 34, 3) := by decide +kernel
theorem dX8_init_81 : decode cX8_init 81 = .ok (.aload_n 0, 1) := by decide +kernel
theorem dX8_init_82 : decode cX8_init 82 = .ok (.iconst 0, 1) := by decide +kernel
theorem dX8_init_83 : decode cX8_init 83 = .ok (.putfield 38, 3) := by decide +kernel
theorem dX8_init_86 : decode cX8_init 86 = .ok (.iconst 0, 1) := by decide +kernel
theorem dX8_init_87 : decode cX8_init 87 = .ok (.istore_n 1, 1) := by decide +kernel
theorem dX8_init_88 : decode cX8_init 88 = .ok (.iload_n 1, 1) := by decide +kernel
theorem dX8_init_89 : decode cX8_init 89 = .ok (.iconst 4, 1) := by decide +kernel
theorem dX8_init_90 : decode cX8_init 90 = .ok (.if_icmp .ge 24, 3) := by decide +kernel
theorem dX8_init_93 : decode cX8_init 93 = .ok (.aload_n 0, 1) := by decide +kernel
theorem dX8_init_94 : decode cX8_init 94 = .ok (.getfield 12, 3) := by decide +kernel
theorem dX8_init_97 : decode cX8_init 97 = .ok (.new 42, 3) := by decide +kernel
theorem dX8_init_100 : decode cX8_init 100 = .ok (.dup, 1) := by decide +kernel
theorem dX8_init_101 : decode cX8_init 101 = .ok (.invokespecial 44, 3) := by decide +kernel
theorem dX8_init_104 : decode cX8_init 104 = .ok (.invokevirtual 45, 3) := by decide +kernel
theorem dX8_init_107 : decode cX8_init 107 = .ok (.pop, 1) := by decide +kernel
theorem dX8_init_108 : decode cX8_init 108 = .ok (.iinc 1 1, 3) := by decide +kernel
theorem dX8_init_111 : decode cX8_init 111 = .ok (.goto (-23), 3) := by decide +kernel
theorem dX8_init_114 : decode cX8_init 114 = .ok (.return_, 1) := by decide +kernel
theorem dX8_block_0 : decode cX8_block 0 = .ok (.aload_n 0, 1) := by decide +kernel
theorem dX8_block_1 : decode cX8_block 1 = .ok (.iload_n 1, 1) := by decide +kernel
theorem dX8_block_2 : decode cX8_block 2 = .ok (.invokevirtual 49, 3) := by decide +kernel
theorem dX8_block_5 : decode cX8_block 5 = .ok (.astore 4, 2) := by decide +kernel
theorem dX8_block_7 : decode cX8_block 7 = .ok (.iload_n 2, 1) := by decide +kernel
theorem dX8_block_8 : decode cX8_block 8 = .ok (.invokestatic 53, 3) := by decide +kernel
theorem dX8_block_11 : decode cX8_block 11 = .ok (.aload 4, 2) := by decide +kernel
theorem dX8_block_13 : decode cX8_block 13 = .ok (.iload_n 2, 1) := by decide +kernel
theorem dX8_block_14 : decode cX8_block 14 = .ok (.invokevirtual 57, 3) := by decide +kernel
theorem dX8_block_17 : decode cX8_block 17 = .ok (.istore 5, 2) := by decide +kernel
theorem dX8_block_19 : decode cX8_block 19 = .ok (.aload 4, 2) := by decide +kernel
theorem dX8_block_21 : decode cX8_block 21 = .ok (.iload_n 2, 1) := by decide +kernel
theorem dX8_block_22 : decode cX8_block 22 = .ok (.iload_n 3, 1) := by decide +kernel
theorem dX8_block_23 : decode cX8_block 23 = .ok (.invokevirtual 61, 3) := by decide +kernel
theorem dX8_block_26 : decode cX8_block 26 = .ok (.iload 5, 2) := by decide +kernel
theorem dX8_block_28 : decode cX8_block 28 = .ok (.ireturn, 1) := by decide +kernel
theorem dX8_times_0 : decode cX8_times 0 = .ok (.iload_n 1, 1) := by decide +kernel
theorem dX8_times_1 : decode cX8_times 1 = .ok (.iconst 1, 1) := by decide +kernel
theorem dX8_times_2 : decode cX8_times 2 = .ok (.bipush 127, 2) := by decide +kernel
theorem dX8_times_4 : decode cX8_times 4 = .ok (.invokestatic 65, 3) := by decide +kernel
theorem dX8_times_7 : decode cX8_times 7 = .ok (.ifCond .eq 29, 3) := by decide +kernel
theorem dX8_times_10 : decode cX8_times 10 = .ok (.iload_n 2, 1) := by decide +kernel
theorem dX8_times_11 : decode cX8_times 11 = .ok (.iconst 0, 1) := by decide +kernel
theorem dX8_times_12 : decode cX8_times 12 = .ok (.bipush 95, 2) := by decide +kernel
theorem dX8_times_14 : decode cX8_times 14 = .ok (.invokestatic 65, 3) := by decide +kernel
theorem dX8_times_17 : decode cX8_times 17 = .ok (.ifCond .eq 19, 3) := by decide +kernel
theorem dX8_times_20 : decode cX8_times 20 = .ok (.iload_n 3, 1) := by decide +kernel
theorem dX8_times_21 : decode cX8_times 21 = .ok (.iload_n 2, 1) := by decide +kernel
theorem dX8_times_22 : decode cX8_times 22 = .ok (.iconst 1, 1) := by decide +kernel
theorem dX8_times_23 : decode cX8_times 23 = .ok (.iadd, 1) := by decide +kernel
theorem dX8_times_24 : decode cX8_times 24 = .ok (.bipush 96, 2) := by decide +kernel
theorem dX8_times_26 : decode cX8_times 26 = .ok (.invokestatic 65, 3) := by decide +kernel
theorem dX8_times_29 : decode cX8_times 29 = .ok (.ifCond .eq 7, 3) := by decide +kernel
theorem dX8_times_32 : decode cX8_times 32 = .ok (.iconst 1, 1) := by decide +kernel
theorem dX8_times_33 : decode cX8_times 33 = .ok (.goto 4, 3) := by decide +kernel
theorem dX8_times_36 : decode cX8_times 36 = .ok (.iconst 0, 1) := by decide +kernel
theorem dX8_times_37 : decode cX8_times 37 = .ok (.invokestatic 69, 3) := by decide +kernel
theorem dX8_times_40 : decode cX8_times 40 = .ok (.aload_n 0, 1) := by decide +kernel
theorem dX8_times_41 : decode cX8_times 41 = .ok (.getfield 34, 3) := by decide +kernel
theorem dX8_times_44 : decode cX8_times 44 = .ok (.iload_n 1, 1) := by decide +kernel
theorem dX8_times_45 : decode cX8_times 45 = .ok (.putfield 73, 3) := by decide +kernel
theorem dX8_times_48 : decode cX8_times 48 = .ok (.aload_n 0, 1) := by decide +kernel
theorem dX8_times_49 : decode cX8_times 49 = .ok (.getfield 34, 3) := by decide +kernel
theorem dX8_times_52 : decode cX8_times 52 = .ok (.iload_n 2, 1) := by decide +kernel
theorem dX8_times_53 : decode cX8_times 53 = .ok (.putfield 76, 3) := by decide +kernel
theorem dX8_times_56 : decode cX8_times 56 = .ok (.aload_n 0, 1) := by decide +kernel
theorem dX8_times_57 : decode cX8_times 57 = .ok (.getfield 34, 3) := by decide +kernel
theorem dX8_times_60 : decode cX8_times 60 = .ok (.iload_n 3, 1) := by decide +kernel
theorem dX8_times_61 : decode cX8_times 61 = .ok (.putfield 79, 3) := by decide +kernel
theorem dX8_times_64 : decode cX8_times 64 = .ok (.return_, 1) := by decide +kernel
theorem dX8_dates_0 : decode cX8_dates 0 = .ok (.iload_n 1, 1) := by decide +kernel
theorem dX8_dates_1 : decode cX8_dates 1 = .ok (.iconst 0, 1) := by decide +kernel
theorem dX8_dates_2 : decode cX8_dates 2 = .ok (.sipush 520, 3) := by decide +kernel
theorem dX8_dates_5 : decode cX8_dates 5 = .ok (.invokestatic 65, 3) := by decide +kernel
theorem dX8_dates_8 : decode cX8_dates 8 = .ok (.ifCond .eq 18, 3) := by decide +kernel
theorem dX8_dates_11 : decode cX8_dates 11 = .ok (.iload_n 2, 1) := by decide +kernel
theorem dX8_dates_12 : decode cX8_dates 12 = .ok (.iload_n 1, 1) := by decide +kernel
theorem dX8_dates_13 : decode cX8_dates 13 = .ok (.sipush 520, 3) := by decide +kernel
theorem dX8_dates_16 : decode cX8_dates 16 = .ok (.invokestatic 65, 3) := by decide +kernel
theorem dX8_dates_19 : decode cX8_dates 19 = .ok (.ifCond .eq 7, 3) := by decide +kernel
theorem dX8_dates_22 : decode cX8_dates 22 = .ok (.iconst 1, 1) := by decide +kernel
theorem dX8_dates_23 : decode cX8_dates 23 = .ok (.goto 4, 3) := by decide +kernel
theorem dX8_dates_26 : decode cX8_dates 26 = .ok (.iconst 0, 1) := by decide +kernel
theorem dX8_dates_27 : decode cX8_dates 27 = .ok (.invokestatic 69, 3) := by decide +kernel
theorem dX8_dates_30 : decode cX8_dates 30 = .ok (.aload_n 0, 1) := by decide +kernel
theorem dX8_dates_31 : decode cX8_dates 31 = .ok (.getfield 34, 3) := by decide +kernel
theorem dX8_dates_34 : decode cX8_dates 34 = .ok (.iload_n 1, 1) := by decide +kernel
theorem dX8_dates_35 : decode cX8_dates 35 = .ok (.putfield 82, 3) := by decide +kernel
theorem dX8_dates_38 : decode cX8_dates 38 = .ok (.aload_n 0, 1) := by decide +kernel
theorem dX8_dates_39 : decode cX8_dates 39 = .ok (.getfield 34, 3) := by decide +kernel
theorem dX8_dates_42 : decode cX8_dates 42 = .ok (.iload_n 2, 1) := by decide +kernel
theorem dX8_dates_43 : decode cX8_dates 43 = .ok (.putfield 85, 3) := by decide +kernel
theorem dX8_dates_46 : decode cX8_dates 46 = .ok (.return_, 1) := by decide +kernel
theorem dX8_sign_0 : decode cX8_sign 0 = .ok (.aload_n 0, 1) := by decide +kernel
theorem dX8_sign_1 : decode cX8_sign 1 = .ok (.iload_n 1, 1) := by decide +kernel
theorem dX8_sign_2 : decode cX8_sign 2 = .ok (.invokevirtual 49, 3) := by decide +kernel
theorem dX8_sign_5 : decode cX8_sign 5 = .ok (.pop, 1) := by decide +kernel
theorem dX8_sign_6 : decode cX8_sign 6 = .ok (.iload_n 2, 1) := by decide +kernel
theorem dX8_sign_7 : decode cX8_sign 7 = .ok (.invokestatic 53, 3) := by decide +kernel
theorem dX8_sign_10 : decode cX8_sign 10 = .ok (.iload_n 3, 1) := by decide +kernel
theorem dX8_sign_11 : decode cX8_sign 11 = .ok (.invokestatic 53, 3) := by decide +kernel
theorem dX8_sign_14 : decode cX8_sign 14 = .ok (.iload_n 3, 1) := by decide +kernel
theorem dX8_sign_15 : decode cX8_sign 15 = .ok (.iload_n 2, 1) := by decide +kernel
theorem dX8_sign_16 : decode cX8_sign 16 = .ok (.if_icmp .lt 29, 3) := by decide +kernel
theorem dX8_sign_19 : decode cX8_sign 19 = .ok (.iload 4, 2) := by decide +kernel
theorem dX8_sign_21 : decode cX8_sign 21 = .ok (.iconst 0, 1) := by decide +kernel
theorem dX8_sign_22 : decode cX8_sign 22 = .ok (.bipush 31, 2) := by decide +kernel
theorem dX8_sign_24 : decode cX8_sign 24 = .ok (.invokestatic 65, 3) := by decide +kernel
theorem dX8_sign_27 : decode cX8_sign 27 = .ok (.ifCond .eq 18, 3) := by decide +kernel
theorem dX8_sign_30 : decode cX8_sign 30 = .ok (.iload 5, 2) := by decide +kernel
theorem dX8_sign_32 : decode cX8_sign 32 = .ok (.iconst 0, 1) := by decide +kernel
theorem dX8_sign_33 : decode cX8_sign 33 = .ok (.bipush 96, 2) := by decide +kernel
theorem dX8_sign_35 : decode cX8_sign 35 = .ok (.invokestatic 65, 3) := by decide +kernel
theorem dX8_sign_38 : decode cX8_sign 38 = .ok (.ifCond .eq 7, 3) := by decide +kernel
theorem dX8_sign_41 : decode cX8_sign 41 = .ok (.iconst 1, 1) := by decide +kernel
theorem dX8_sign_42 : decode cX8_sign 42 = .ok (.goto 4, 3) := by decide +kernel
theorem dX8_sign_45 : decode cX8_sign 45 = .ok (.iconst 0, 1) := by decide +kernel
theorem dX8_sign_46 : decode cX8_sign 46 = .ok (.invokestatic 69, 3) := by decide +kernel
theorem dX8_sign_49 : decode cX8_sign 49 = .ok (.aload_n 0, 1) := by decide +kernel
theorem dX8_sign_50 : decode cX8_sign 50 = .ok (.getfield 16, 3) := by decide +kernel
theorem dX8_sign_53 : decode cX8_sign 53 = .ok (.invokevirtual 88, 3) := by decide +kernel
theorem dX8_sign_56 : decode cX8_sign 56 = .ok (.bipush 30, 2) := by decide +kernel
theorem dX8_sign_58 : decode cX8_sign 58 = .ok (.if_icmp .ge 7, 3) := by decide +kernel
theorem dX8_sign_61 : decode cX8_sign 61 = .ok (.iconst 1, 1) := by decide +kernel
theorem dX8_sign_62 : decode cX8_sign 62 = .ok (.goto 4, 3) := by decide +kernel
theorem dX8_sign_65 : decode cX8_sign 65 = .ok (.iconst 0, 1) := by decide +kernel
theorem dX8_sign_66 : decode cX8_sign 66 = .ok (.invokestatic 92, 3) := by decide +kernel
theorem dX8_sign_69 : decode cX8_sign 69 = .ok (.new 95, 3) := by decide +kernel
theorem dX8_sign_72 : decode cX8_sign 72 = .ok (.dup, 1) := by decide +kernel
theorem dX8_sign_73 : decode cX8_sign 73 = .ok (.aload_n 0, 1) := by decide +kernel
theorem dX8_sign_74 : decode cX8_sign 74 = .ok (.getfield 16, 3) := by decide +kernel
theorem dX8_sign_77 : decode cX8_sign 77 = .ok (.invokevirtual 88, 3) := by decide +kernel
theorem dX8_sign_80 : decode cX8_sign 80 = .ok (.aload_n 0, 1) := by decide +kernel
theorem dX8_sign_81 : decode cX8_sign 81 = .ok (.getfield 38, 3) := by decide +kernel
theorem dX8_sign_84 : decode cX8_sign 84 = .ok (.aload_n 0, 1) := by decide +kernel
theorem dX8_sign_85 : decode cX8_sign 85 = .ok (.getfield 34, 3) := by decide +kernel
theorem dX8_sign_88 : decode cX8_sign 88 = .ok (.invokespecial 97, 3) := by decide +kernel
theorem dX8_sign_91 : decode cX8_sign 91 = .ok (.astore 8, 2) := by decide +kernel
theorem dX8_sign_93 : decode cX8_sign 93 = .ok (.aload 8, 2) := by decide +kernel
theorem dX8_sign_95 : decode cX8_sign 95 = .ok (.iload_n 1, 1) := by decide +kernel
theorem dX8_sign_96 : decode cX8_sign 96 = .ok (.iload_n 2, 1) := by decide +kernel
theorem dX8_sign_97 : decode cX8_sign 97 = .ok (.iload_n 3, 1) := by decide +kernel
theorem dX8_sign_98 : decode cX8_sign 98 = .ok (.invokevirtual 100, 3) := by decide +kernel
theorem dX8_sign_101 : decode cX8_sign 101 = .ok (.aload 8, 2) := by decide +kernel
theorem dX8_sign_103 : decode cX8_sign 103 = .ok (.iload 4, 2) := by decide +kernel
theorem dX8_sign_105 : decode cX8_sign 105 = .ok (.iload 5, 2) := by decide +kernel
theorem dX8_sign_107 : decode cX8_sign 107 = .ok (.iload 6, 2) := by decide +kernel
theorem dX8_sign_109 : decode cX8_sign 109 = .ok (.iload 7, 2) := by decide +kernel
theorem dX8_sign_111 : decode cX8_sign 111 = .ok (.invokevirtual 104, 3) := by decide +kernel
theorem dX8_sign_114 : decode cX8_sign 114 = .ok (.aload_n 0, 1) := by decide +kernel
theorem dX8_sign_115 : decode cX8_sign 115 = .ok (.getfield 16, 3) := by decide +kernel
theorem dX8_sign_118 : decode cX8_sign 118 = .ok (.aload 8, 2) := by decide +kernel
theorem dX8_sign_120 : decode cX8_sign 120 = .ok (.invokevirtual 45, 3) := by decide +kernel
theorem dX8_sign_123 : decode cX8_sign 123 = .ok (.pop, 1) := by decide +kernel
theorem dX8_sign_124 : decode cX8_sign 124 = .ok (.aload_n 0, 1) := by decide +kernel
theorem dX8_sign_125 : decode cX8_sign 125 = .ok (.new 31, 3) := by decide +kernel
theorem dX8_sign_128 : decode cX8_sign 128 = .ok (.dup, 1) := by decide +kernel
theorem dX8_sign_129 : decode cX8_sign 129 = .ok (.invokespecial 33, 3) := by decide +kernel
theorem dX8_sign_132 : decode cX8_sign 132 = .ok (.putfield 34, 3) := by decide +kernel
theorem dX8_sign_135 : decode cX8_sign 135 = .ok (.aload 8, 2) := by decide +kernel
theorem dX8_sign_137 : decode cX8_sign 137 = .ok (.getfield 108, 3) := by decide +kernel
theorem dX8_sign_140 : decode cX8_sign 140 = .ok (.ireturn, 1) := by decide +kernel
theorem dX8_rule_0 : decode cX8_rule 0 = .ok (.aload_n 0, 1) := by decide +kernel
theorem dX8_rule_1 : decode cX8_rule 1 = .ok (.iload_n 1, 1) := by decide +kernel
theorem dX8_rule_2 : decode cX8_rule 2 = .ok (.invokevirtual 49, 3) := by decide +kernel
theorem dX8_rule_5 : decode cX8_rule 5 = .ok (.pop, 1) := by decide +kernel
theorem dX8_rule_6 : decode cX8_rule 6 = .ok (.iload_n 2, 1) := by decide +kernel
theorem dX8_rule_7 : decode cX8_rule 7 = .ok (.invokestatic 53, 3) := by decide +kernel
theorem dX8_rule_10 : decode cX8_rule 10 = .ok (.iload_n 3, 1) := by decide +kernel
theorem dX8_rule_11 : decode cX8_rule 11 = .ok (.iconst 0, 1) := by decide +kernel
theorem dX8_rule_12 : decode cX8_rule 12 = .ok (.ldc 129, 2) := by decide +kernel
theorem dX8_rule_14 : decode cX8_rule 14 = .ok (.invokestatic 65, 3) := by decide +kernel
theorem dX8_rule_17 : decode cX8_rule 17 = .ok (.invokestatic 69, 3) := by decide +kernel
theorem dX8_rule_20 : decode cX8_rule 20 = .ok (.aload_n 0, 1) := by decide +kernel
theorem dX8_rule_21 : decode cX8_rule 21 = .ok (.iload_n 1, 1) := by decide +kernel
theorem dX8_rule_22 : decode cX8_rule 22 = .ok (.iload_n 2, 1) := by decide +kernel
theorem dX8_rule_23 : decode cX8_rule 23 = .ok (.iload_n 3, 1) := by decide +kernel
theorem dX8_rule_24 : decode cX8_rule 24 = .ok (.invokevirtual 130, 3) := by decide +kernel
theorem dX8_rule_27 : decode cX8_rule 27 = .ok (.astore 4, 2) := by decide +kernel
theorem dX8_rule_29 : decode cX8_rule 29 = .ok (.aload 4, 2) := by decide +kernel
theorem dX8_rule_31 : decode cX8_rule 31 = .ok (.ifnonnull 7, 3) := by decide +kernel
theorem dX8_rule_34 : decode cX8_rule 34 = .ok (.iconst (-1), 1) := by decide +kernel
theorem dX8_rule_35 : decode cX8_rule 35 = .ok (.goto 8, 3) := by decide +kernel
theorem dX8_rule_38 : decode cX8_rule 38 = .ok (.aload 4, 2) := by decide +kernel
theorem dX8_rule_40 : decode cX8_rule 40 = .ok (.getfield 108, 3) := by decide +kernel
theorem dX8_rule_43 : decode cX8_rule 43 = .ok (.ireturn, 1) := by decide +kernel
theorem dX8_ruleAnew_0 : decode cX8_ruleAnew 0 = .ok (.aload_n 0, 1) := by decide +kernel
theorem dX8_ruleAnew_1 : decode cX8_ruleAnew 1 = .ok (.iload_n 1, 1) := by decide +kernel
theorem dX8_ruleAnew_2 : decode cX8_ruleAnew 2 = .ok (.invokevirtual 49, 3) := by decide +kernel
theorem dX8_ruleAnew_5 : decode cX8_ruleAnew 5 = .ok (.pop, 1) := by decide +kernel
theorem dX8_ruleAnew_6 : decode cX8_ruleAnew 6 = .ok (.iload_n 2, 1) := by decide +kernel
theorem dX8_ruleAnew_7 : decode cX8_ruleAnew 7 = .ok (.invokestatic 53, 3) := by decide +kernel
theorem dX8_ruleAnew_10 : decode cX8_ruleAnew 10 = .ok (.iload_n 3, 1) := by decide +kernel
theorem dX8_ruleAnew_11 : decode cX8_ruleAnew 11 = .ok (.iconst 0, 1) := by decide +kernel
theorem dX8_ruleAnew_12 : decode cX8_ruleAnew 12 = .ok (.ldc 129, 2) := by decide +kernel
theorem dX8_ruleAnew_14 : decode cX8_ruleAnew 14 = .ok (.invokestatic 65, 3) := by decide +kernel
theorem dX8_ruleAnew_17 : decode cX8_ruleAnew 17 = .ok (.invokestatic 69, 3) := by decide +kernel
theorem dX8_ruleAnew_20 : decode cX8_ruleAnew 20 = .ok (.iconst 0, 1) := by decide +kernel
theorem dX8_ruleAnew_21 : decode cX8_ruleAnew 21 = .ok (.istore 4, 2) := by decide +kernel
theorem dX8_ruleAnew_23 : decode cX8_ruleAnew 23 = .ok (.iload 4, 2) := by decide +kernel
theorem dX8_ruleAnew_25 : decode cX8_ruleAnew 25 = .ok (.aload_n 0, 1) := by decide +kernel
theorem dX8_ruleAnew_26 : decode cX8_ruleAnew 26 = .ok (.getfield 16, 3) := by decide +kernel
theorem dX8_ruleAnew_29 : decode cX8_ruleAnew 29 = .ok (.invokevirtual 88, 3) := by decide +kernel
theorem dX8_ruleAnew_32 : decode cX8_ruleAnew 32 = .ok (.if_icmp .ge 51, 3) := by decide +kernel
theorem dX8_ruleAnew_35 : decode cX8_ruleAnew 35 = .ok (.aload_n 0, 1) := by decide +kernel
theorem dX8_ruleAnew_36 : decode cX8_ruleAnew 36 = .ok (.getfield 16, 3) := by decide +kernel
theorem dX8_ruleAnew_39 : decode cX8_ruleAnew 39 = .ok (.iload 4, 2) := by decide +kernel
theorem dX8_ruleAnew_41 : decode cX8_ruleAnew 41 = .ok (.invokevirtual 122, 3) := by decide +kernel
theorem dX8_ruleAnew_44 : decode cX8_ruleAnew 44 = .ok (.checkcast 95, 3) := by decide +kernel
theorem dX8_ruleAnew_47 : decode cX8_ruleAnew 47 = .ok (.astore 5, 2) := by decide +kernel
theorem dX8_ruleAnew_49 : decode cX8_ruleAnew 49 = .ok (.aload 5, 2) := by decide +kernel
theorem dX8_ruleAnew_51 : decode cX8_ruleAnew 51 = .ok (.iload_n 1, 1) := by decide +kernel
theorem dX8_ruleAnew_52 : decode cX8_ruleAnew 52 = .ok (.iload_n 2, 1) := by decide +kernel
theorem dX8_ruleAnew_53 : decode cX8_ruleAnew 53 = .ok (.iload_n 3, 1) := by decide +kernel
theorem dX8_ruleAnew_54 : decode cX8_ruleAnew 54 = .ok (.invokevirtual 134, 3) := by decide +kernel
theorem dX8_ruleAnew_57 : decode cX8_ruleAnew 57 = .ok (.ifCond .eq 20, 3) := by decide +kernel
theorem dX8_ruleAnew_60 : decode cX8_ruleAnew 60 = .ok (.aload_n 0, 1) := by decide +kernel
theorem dX8_ruleAnew_61 : decode cX8_ruleAnew 61 = .ok (.aload 5, 2) := by decide +kernel
