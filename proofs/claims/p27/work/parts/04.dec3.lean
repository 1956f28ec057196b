theorem dL_sign_18 : decode cL_sign 18 = .ok (.ldc 18, 2) := by decide +kernel
theorem dL_sign_20 : decode cL_sign 20 = .ok (.ireturn, 1) := by decide +kernel
theorem dL_sign_21 : decode cL_sign 21 = .ok (.astore 8, 2) := by decide +kernel
theorem dL_sign_23 : decode cL_sign 23 = .ok (.ldc 25, 2) := by decide +kernel
theorem dL_sign_25 : decode cL_sign 25 = .ok (.ireturn, 1) := by decide +kernel
theorem dL_sign_26 : decode cL_sign 26 = .ok (.astore 8, 2) := by decide +kernel
theorem dL_sign_28 : decode cL_sign 28 = .ok (.ldc 36, 2) := by decide +kernel
theorem dL_sign_30 : decode cL_sign 30 = .ok (.ireturn, 1) := by decide +kernel
theorem dL_rule_0 : decode cL_rule 0 = .ok (.aload_n 0, 1) := by decide +kernel
theorem dL_rule_1 : decode cL_rule 1 = .ok (.iload_n 1, 1) := by decide +kernel
theorem dL_rule_2 : decode cL_rule 2 = .ok (.iload_n 2, 1) := by decide +kernel
theorem dL_rule_3 : decode cL_rule 3 = .ok (.iload_n 3, 1) := by decide +kernel
theorem dL_rule_4 : decode cL_rule 4 = .ok (.invokevirtual 41, 3) := by decide +kernel
theorem dL_rule_7 : decode cL_rule 7 = .ok (.ireturn, 1) := by decide +kernel
theorem dL_rule_8 : decode cL_rule 8 = .ok (.astore 4, 2) := by decide +kernel
theorem dL_rule_10 : decode cL_rule 10 = .ok (.ldc 18, 2) := by decide +kernel
theorem dL_rule_12 : decode cL_rule 12 = .ok (.ireturn, 1) := by decide +kernel
theorem dL_rule_13 : decode cL_rule 13 = .ok (.astore 4, 2) := by decide +kernel
theorem dL_rule_15 : decode cL_rule 15 = .ok (.ldc 25, 2) := by decide +kernel
theorem dL_rule_17 : decode cL_rule 17 = .ok (.ireturn, 1) := by decide +kernel
theorem dL_ruleAnew_0 : decode cL_ruleAnew 0 = .ok (.aload_n 0, 1) := by decide +kernel
theorem dL_ruleAnew_1 : decode cL_ruleAnew 1 = .ok (.iload_n 1, 1) := by decide +kernel
theorem dL_ruleAnew_2 : decode cL_ruleAnew 2 = .ok (.iload_n 2, 1) := by decide +kernel
theorem dL_ruleAnew_3 : decode cL_ruleAnew 3 = .ok (.iload_n 3, 1) := by decide +kernel
theorem dL_ruleAnew_4 : decode cL_ruleAnew 4 = .ok (.invokevirtual 45, 3) := by decide +kernel
theorem dL_ruleAnew_7 : decode cL_ruleAnew 7 = .ok (.ireturn, 1) := by decide +kernel
theorem dL_ruleAnew_8 : decode cL_ruleAnew 8 = .ok (.astore 4, 2) := by decide +kernel
theorem dL_ruleAnew_10 : decode cL_ruleAnew 10 = .ok (.ldc 18, 2) := by decide +kernel
theorem dL_ruleAnew_12 : decode cL_ruleAnew 12 = .ok (.ireturn, 1) := by decide +kernel
theorem dL_ruleAnew_13 : decode cL_ruleAnew 13 = .ok (.astore 4, 2) := by decide +kernel
theorem dL_ruleAnew_15 : decode cL_ruleAnew 15 = .ok (.ldc 25, 2) := by decide +kernel
theorem dL_ruleAnew_17 : decode cL_ruleAnew 17 = .ok (.ireturn, 1) := by decide +kernel
theorem dL_car_0 : decode cL_car 0 = .ok (.aload_n 0, 1) := by decide +kernel
theorem dL_car_1 : decode cL_car 1 = .ok (.iload_n 1, 1) := by decide +kernel
theorem dL_car_2 : decode cL_car 2 = .ok (.iload_n 2, 1) := by decide +kernel
theorem dL_car_3 : decode cL_car 3 = .ok (.invokevirtual 48, 3) := by decide +kernel
theorem dL_car_6 : decode cL_car 6 = .ok (.ireturn, 1) := by decide +kernel
theorem dL_car_7 : decode cL_car 7 = .ok (.astore_n 3, 1) := by decide +kernel
theorem dL_car_8 : decode cL_car 8 = .ok (.ldc 25, 2) := by decide +kernel
theorem dL_car_10 : decode cL_car 10 = .ok (.ireturn, 1) := by decide +kernel
theorem dL_car_11 : decode cL_car 11 = .ok (.astore_n 3, 1) := by decide +kernel
theorem dL_car_12 : decode cL_car 12 = .ok (.ldc 36, 2) := by decide +kernel
theorem dL_car_14 : decode cL_car 14 = .ok (.ireturn, 1) := by decide +kernel
theorem dL_permit_0 : decode cL_permit 0 = .ok (.aload_n 0, 1) := by decide +kernel
theorem dL_permit_1 : decode cL_permit 1 = .ok (.iload_n 1, 1) := by decide +kernel
theorem dL_permit_2 : decode cL_permit 2 = .ok (.iload_n 2, 1) := by decide +kernel
theorem dL_permit_3 : decode cL_permit 3 = .ok (.iload_n 3, 1) := by decide +kernel
theorem dL_permit_4 : decode cL_permit 4 = .ok (.iload 4, 2) := by decide +kernel
theorem dL_permit_6 : decode cL_permit 6 = .ok (.iload 5, 2) := by decide +kernel
theorem dL_permit_8 : decode cL_permit 8 = .ok (.invokevirtual 52, 3) := by decide +kernel
theorem dL_permit_11 : decode cL_permit 11 = .ok (.ireturn, 1) := by decide +kernel
theorem dL_permit_12 : decode cL_permit 12 = .ok (.astore 6, 2) := by decide +kernel
theorem dL_permit_14 : decode cL_permit 14 = .ok (.ldc 18, 2) := by decide +kernel
theorem dL_permit_16 : decode cL_permit 16 = .ok (.ireturn, 1) := by decide +kernel
theorem dL_permit_17 : decode cL_permit 17 = .ok (.astore 6, 2) := by decide +kernel
theorem dL_permit_19 : decode cL_permit 19 = .ok (.ldc 25, 2) := by decide +kernel
theorem dL_permit_21 : decode cL_permit 21 = .ok (.ireturn, 1) := by decide +kernel
theorem dL_permit_22 : decode cL_permit 22 = .ok (.astore 6, 2) := by decide +kernel
theorem dL_permit_24 : decode cL_permit 24 = .ok (.ldc 36, 2) := by decide +kernel
theorem dL_permit_26 : decode cL_permit 26 = .ok (.ireturn, 1) := by decide +kernel
theorem dL_countsAs_0 : decode cL_countsAs 0 = .ok (.aload_n 0, 1) := by decide +kernel
theorem dL_countsAs_1 : decode cL_countsAs 1 = .ok (.iload_n 1, 1) := by decide +kernel
theorem dL_countsAs_2 : decode cL_countsAs 2 = .ok (.iload_n 2, 1) := by decide +kernel
theorem dL_countsAs_3 : decode cL_countsAs 3 = .ok (.invokevirtual 59, 3) := by decide +kernel
theorem dL_countsAs_6 : decode cL_countsAs 6 = .ok (.ireturn, 1) := by decide +kernel
theorem dL_countsAs_7 : decode cL_countsAs 7 = .ok (.astore_n 3, 1) := by decide +kernel
theorem dL_countsAs_8 : decode cL_countsAs 8 = .ok (.ldc 18, 2) := by decide +kernel
theorem dL_countsAs_10 : decode cL_countsAs 10 = .ok (.ireturn, 1) := by decide +kernel
theorem dL_park_0 : decode cL_park 0 = .ok (.aload_n 0, 1) := by decide +kernel
theorem dL_park_1 : decode cL_park 1 = .ok (.iload_n 1, 1) := by decide +kernel
theorem dL_park_2 : decode cL_park 2 = .ok (.iload_n 2, 1) := by decide +kernel
theorem dL_park_3 : decode cL_park 3 = .ok (.iload_n 3, 1) := by decide +kernel
theorem dL_park_4 : decode cL_park 4 = .ok (.invokevirtual 62, 3) := by decide +kernel
theorem dL_park_7 : decode cL_park 7 = .ok (.iconst 0, 1) := by decide +kernel
theorem dL_park_8 : decode cL_park 8 = .ok (.ireturn, 1) := by decide +kernel
theorem dL_park_9 : decode cL_park 9 = .ok (.astore 4, 2) := by decide +kernel
theorem dL_park_11 : decode cL_park 11 = .ok (.ldc 18, 2) := by decide +kernel
theorem dL_park_13 : decode cL_park 13 = .ok (.ireturn, 1) := by decide +kernel
theorem dL_park_14 : decode cL_park 14 = .ok (.astore 4, 2) := by decide +kernel
theorem dL_park_16 : decode cL_park 16 = .ok (.ldc 36, 2) := by decide +kernel
theorem dL_park_18 : decode cL_park 18 = .ok (.ireturn, 1) := by decide +kernel
theorem dL_leave_0 : decode cL_leave 0 = .ok (.aload_n 0, 1) := by decide +kernel
theorem dL_leave_1 : decode cL_leave 1 = .ok (.iload_n 1, 1) := by decide +kernel
theorem dL_leave_2 : decode cL_leave 2 = .ok (.invokevirtual 65, 3) := by decide +kernel
theorem dL_leave_5 : decode cL_leave 5 = .ok (.ireturn, 1) := by decide +kernel
theorem dL_leave_6 : decode cL_leave 6 = .ok (.astore_n 2, 1) := by decide +kernel
theorem dL_leave_7 : decode cL_leave 7 = .ok (.ldc 18, 2) := by decide +kernel
theorem dL_leave_9 : decode cL_leave 9 = .ok (.ireturn, 1) := by decide +kernel
theorem dL_leave_10 : decode cL_leave 10 = .ok (.astore_n 2, 1) := by decide +kernel
theorem dL_leave_11 : decode cL_leave 11 = .ok (.ldc 36, 2) := by decide +kernel
theorem dL_leave_13 : decode cL_leave 13 = .ok (.ireturn, 1) := by decide +kernel
theorem dL_gap_0 : decode cL_gap 0 = .ok (.aload_n 0, 1) := by decide +kernel
theorem dL_gap_1 : decode cL_gap 1 = .ok (.iload_n 1, 1) := by decide +kernel
theorem dL_gap_2 : decode cL_gap 2 = .ok (.iload_n 2, 1) := by decide +kernel
theorem dL_gap_3 : decode cL_gap 3 = .ok (.invokevirtual 69, 3) := by decide +kernel
theorem dL_gap_6 : decode cL_gap 6 = .ok (.ireturn, 1) := by decide +kernel
theorem dL_gap_7 : decode cL_gap 7 = .ok (.astore_n 3, 1) := by decide +kernel
theorem dL_gap_8 : decode cL_gap 8 = .ok (.ldc 18, 2) := by decide +kernel
theorem dL_gap_10 : decode cL_gap 10 = .ok (.ireturn, 1) := by decide +kernel
theorem dL_gap_11 : decode cL_gap 11 = .ok (.astore_n 3, 1) := by decide +kernel
theorem dL_gap_12 : decode cL_gap 12 = .ok (.ldc 25, 2) := by decide +kernel
theorem dL_gap_14 : decode cL_gap 14 = .ok (.ireturn, 1) := by decide +kernel
theorem dL_pay_0 : decode cL_pay 0 = .ok (.aload_n 0, 1) := by decide +kernel
theorem dL_pay_1 : decode cL_pay 1 = .ok (.iload_n 1, 1) := by decide +kernel
theorem dL_pay_2 : decode cL_pay 2 = .ok (.iload_n 2, 1) := by decide +kernel
theorem dL_pay_3 : decode cL_pay 3 = .ok (.iload_n 3, 1) := by decide +kernel
theorem dL_pay_4 : decode cL_pay 4 = .ok (.iload 4, 2) := by decide +kernel
theorem dL_pay_6 : decode cL_pay 6 = .ok (.invokevirtual 72, 3) := by decide +kernel
theorem dL_pay_9 : decode cL_pay 9 = .ok (.ireturn, 1) := by decide +kernel
theorem dL_pay_10 : decode cL_pay 10 = .ok (.astore 5, 2) := by decide +kernel
theorem dL_pay_12 : decode cL_pay 12 = .ok (.ldc 18, 2) := by decide +kernel
theorem dL_pay_14 : decode cL_pay 14 = .ok (.ireturn, 1) := by decide +kernel
theorem dL_pay_15 : decode cL_pay 15 = .ok (.astore 5, 2) := by decide +kernel
theorem dL_pay_17 : decode cL_pay 17 = .ok (.ldc 25, 2) := by decide +kernel
theorem dL_pay_19 : decode cL_pay 19 = .ok (.ireturn, 1) := by decide +kernel
theorem dL_pay_20 : decode cL_pay 20 = .ok (.astore 5, 2) := by decide +kernel
theorem dL_pay_22 : decode cL_pay 22 = .ok (.ldc 36, 2) := by decide +kernel
theorem dL_pay_24 : decode cL_pay 24 = .ok (.ireturn, 1) := by decide +kernel
theorem dL_judge_0 : decode cL_judge 0 = .ok (.aload_n 0, 1) := by decide +kernel
theorem dL_judge_1 : decode cL_judge 1 = .ok (.iload_n 1, 1) := by decide +kernel
theorem dL_judge_2 : decode cL_judge 2 = .ok (.invokevirtual 76, 3) := by decide +kernel
theorem dL_judge_5 : decode cL_judge 5 = .ok (.ireturn, 1) := by decide +kernel
theorem dL_judge_6 : decode cL_judge 6 = .ok (.astore_n 2, 1) := by decide +kernel
theorem dL_judge_7 : decode cL_judge 7 = .ok (.ldc 18, 2) := by decide +kernel
theorem dL_judge_9 : decode cL_judge 9 = .ok (.ireturn, 1) := by decide +kernel
theorem dL_look_0 : decode cL_look 0 = .ok (.aload_n 0, 1) := by decide +kernel
theorem dL_look_1 : decode cL_look 1 = .ok (.iload_n 1, 1) := by decide +kernel
theorem dL_look_2 : decode cL_look 2 = .ok (.invokevirtual 79, 3) := by decide +kernel
theorem dL_look_5 : decode cL_look 5 = .ok (.ireturn, 1) := by decide +kernel
theorem dL_look_6 : decode cL_look 6 = .ok (.astore_n 2, 1) := by decide +kernel
theorem dL_look_7 : decode cL_look 7 = .ok (.ldc 18, 2) := by decide +kernel
theorem dL_look_9 : decode cL_look 9 = .ok (.ireturn, 1) := by decide +kernel
theorem dL_appeal_0 : decode cL_appeal 0 = .ok (.aload_n 0, 1) := by decide +kernel
theorem dL_appeal_1 : decode cL_appeal 1 = .ok (.iload_n 1, 1) := by decide +kernel
theorem dL_appeal_2 : decode cL_appeal 2 = .ok (.invokevirtual 82, 3) := by decide +kernel
theorem dL_appeal_5 : decode cL_appeal 5 = .ok (.ifCond .eq 7, 3) := by decide +kernel
theorem dL_appeal_8 : decode cL_appeal 8 = .ok (.iconst 1, 1) := by decide +kernel
theorem dL_appeal_9 : decode cL_appeal 9 = .ok (.goto 4, 3) := by decide +kernel
theorem dL_appeal_12 : decode cL_appeal 12 = .ok (.iconst 0, 1) := by decide +kernel
theorem dL_appeal_13 : decode cL_appeal 13 = .ok (.ireturn, 1) := by decide +kernel
theorem dL_appeal_14 : decode cL_appeal 14 = .ok (.astore_n 2, 1) := by decide +kernel
theorem dL_appeal_15 : decode cL_appeal 15 = .ok (.ldc 18, 2) := by decide +kernel
theorem dL_appeal_17 : decode cL_appeal 17 = .ok (.ireturn, 1) := by decide +kernel
theorem dL_appeal_18 : decode cL_appeal 18 = .ok (.astore_n 2, 1) := by decide +kernel
theorem dL_appeal_19 : decode cL_appeal 19 = .ok (.ldc 36, 2) := by decide +kernel
theorem dL_appeal_21 : decode cL_appeal 21 = .ok (.ireturn, 1) := by decide +kernel
theorem dL_payFine_0 : decode cL_payFine 0 = .ok (.aload_n 0, 1) := by decide +kernel
theorem dL_payFine_1 : decode cL_payFine 1 = .ok (.iload_n 1, 1) := by decide +kernel
theorem dL_payFine_2 : decode cL_payFine 2 = .ok (.invokevirtual 86, 3) := by decide +kernel
theorem dL_payFine_5 : decode cL_payFine 5 = .ok (.ireturn, 1) := by decide +kernel
theorem dL_payFine_6 : decode cL_payFine 6 = .ok (.astore_n 2, 1) := by decide +kernel
theorem dL_payFine_7 : decode cL_payFine 7 = .ok (.ldc 18, 2) := by decide +kernel
theorem dL_payFine_9 : decode cL_payFine 9 = .ok (.ireturn, 1) := by decide +kernel
theorem dL_payFine_10 : decode cL_payFine 10 = .ok (.astore_n 2, 1) := by decide +kernel
theorem dL_payFine_11 : decode cL_payFine 11 = .ok (.ldc 36, 2) := by decide +kernel
theorem dL_payFine_13 : decode cL_payFine 13 = .ok (.ireturn, 1) := by decide +kernel
theorem dL_fine_0 : decode cL_fine 0 = .ok (.aload_n 0, 1) := by decide +kernel
theorem dL_fine_1 : decode cL_fine 1 = .ok (.iload_n 1, 1) := by decide +kernel
theorem dL_fine_2 : decode cL_fine 2 = .ok (.iload_n 2, 1) := by decide +kernel
theorem dL_fine_3 : decode cL_fine 3 = .ok (.invokevirtual 89, 3) := by decide +kernel
theorem dL_fine_6 : decode cL_fine 6 = .ok (.ireturn, 1) := by decide +kernel
theorem dL_fine_7 : decode cL_fine 7 = .ok (.astore_n 3, 1) := by decide +kernel
theorem dL_fine_8 : decode cL_fine 8 = .ok (.ldc 18, 2) := by decide +kernel
theorem dL_fine_10 : decode cL_fine 10 = .ok (.ireturn, 1) := by decide +kernel
theorem dL_fine_11 : decode cL_fine 11 = .ok (.astore_n 3, 1) := by decide +kernel
theorem dL_fine_12 : decode cL_fine 12 = .ok (.ldc 25, 2) := by decide +kernel
theorem dL_fine_14 : decode cL_fine 14 = .ok (.ireturn, 1) := by decide +kernel
theorem dL_debt_0 : decode cL_debt 0 = .ok (.aload_n 0, 1) := by decide +kernel
theorem dL_debt_1 : decode cL_debt 1 = .ok (.iload_n 1, 1) := by decide +kernel
theorem dL_debt_2 : decode cL_debt 2 = .ok (.invokevirtual 92, 3) := by decide +kernel
theorem dL_debt_5 : decode cL_debt 5 = .ok (.ireturn, 1) := by decide +kernel
theorem dL_debt_6 : decode cL_debt 6 = .ok (.astore_n 2, 1) := by decide +kernel
theorem dL_debt_7 : decode cL_debt 7 = .ok (.ldc 18, 2) := by decide +kernel
theorem dL_debt_9 : decode cL_debt 9 = .ok (.ireturn, 1) := by decide +kernel
theorem dL_tow_0 : decode cL_tow 0 = .ok (.aload_n 0, 1) := by decide +kernel
theorem dL_tow_1 : decode cL_tow 1 = .ok (.iload_n 1, 1) := by decide +kernel
theorem dL_tow_2 : decode cL_tow 2 = .ok (.invokevirtual 95, 3) := by decide +kernel
theorem dL_tow_5 : decode cL_tow 5 = .ok (.ireturn, 1) := by decide +kernel
theorem dL_tow_6 : decode cL_tow 6 = .ok (.astore_n 2, 1) := by decide +kernel
theorem dL_tow_7 : decode cL_tow 7 = .ok (.ldc 18, 2) := by decide +kernel
theorem dL_tow_9 : decode cL_tow 9 = .ok (.ireturn, 1) := by decide +kernel
theorem dL_tow_10 : decode cL_tow 10 = .ok (.astore_n 2, 1) := by decide +kernel
theorem dL_tow_11 : decode cL_tow 11 = .ok (.ldc 36, 2) := by decide +kernel
theorem dL_tow_13 : decode cL_tow 13 = .ok (.ireturn, 1) := by decide +kernel
theorem dL_streetIs_0 : decode cL_streetIs 0 = .ok (.aload_n 0, 1) := by decide +kernel
theorem dL_streetIs_1 : decode cL_streetIs 1 = .ok (.iload_n 1, 1) := by decide +kernel
theorem dL_streetIs_2 : decode cL_streetIs 2 = .ok (.iload_n 2, 1) := by decide +kernel
theorem dL_streetIs_3 : decode cL_streetIs 3 = .ok (.invokevirtual 98, 3) := by decide +kernel
theorem dL_streetIs_6 : decode cL_streetIs 6 = .ok (.ireturn, 1) := by decide +kernel
theorem dL_streetIs_7 : decode cL_streetIs 7 = .ok (.astore_n 3, 1) := by decide +kernel
theorem dL_streetIs_8 : decode cL_streetIs 8 = .ok (.ldc 18, 2) := by decide +kernel
theorem dL_streetIs_10 : decode cL_streetIs 10 = .ok (.ireturn, 1) := by decide +kernel
theorem dL_streetIs_11 : decode cL_streetIs 11 = .ok (.astore_n 3, 1) := by decide +kernel
theorem dL_streetIs_12 : decode cL_streetIs 12 = .ok (.ldc 25, 2) := by decide +kernel
theorem dL_streetIs_14 : decode cL_streetIs 14 = .ok (.ireturn, 1) := by decide +kernel
theorem dL_pass_0 : decode cL_pass 0 = .ok (.aload_n 0, 1) := by decide +kernel
theorem dL_pass_1 : decode cL_pass 1 = .ok (.iload_n 1, 1) := by decide +kernel
theorem dL_pass_2 : decode cL_pass 2 = .ok (.invokevirtual 101, 3) := by decide +kernel
theorem dL_pass_5 : decode cL_pass 5 = .ok (.ireturn, 1) := by decide +kernel
theorem dL_pass_6 : decode cL_pass 6 = .ok (.astore_n 2, 1) := by decide +kernel
theorem dL_pass_7 : decode cL_pass 7 = .ok (.ldc 25, 2) := by decide +kernel
theorem dL_pass_9 : decode cL_pass 9 = .ok (.ireturn, 1) := by decide +kernel
theorem dL_pass_10 : decode cL_pass 10 = .ok (.astore_n 2, 1) := by decide +kernel
theorem dL_pass_11 : decode cL_pass 11 = .ok (.ldc 36, 2) := by decide +kernel
theorem dL_pass_13 : decode cL_pass 13 = .ok (.ireturn, 1) := by decide +kernel
theorem dL_isRule_0 : decode cL_isRule 0 = .ok (.iload_n 2, 1) := by decide +kernel
theorem dL_isRule_1 : decode cL_isRule 1 = .ok (.iconst 4, 1) := by decide +kernel
theorem dL_isRule_2 : decode cL_isRule 2 = .ok (.invokestatic 104, 3) := by decide +kernel
theorem dL_isRule_5 : decode cL_isRule 5 = .ok (.istore 4, 2) := by decide +kernel
theorem dL_isRule_7 : decode cL_isRule 7 = .ok (.iload_n 2, 1) := by decide +kernel
theorem dL_isRule_8 : decode cL_isRule 8 = .ok (.iconst 2, 1) := by decide +kernel
theorem dL_isRule_9 : decode cL_isRule 9 = .ok (.ishr, 1) := by decide +kernel
theorem dL_isRule_10 : decode cL_isRule 10 = .ok (.bipush 60, 2) := by decide +kernel
theorem dL_isRule_12 : decode cL_isRule 12 = .ok (.invokestatic 104, 3) := by decide +kernel
theorem dL_isRule_15 : decode cL_isRule 15 = .ok (.istore 5, 2) := by decide +kernel
theorem dL_isRule_17 : decode cL_isRule 17 = .ok (.iload_n 3, 1) := by decide +kernel
theorem dL_isRule_18 : decode cL_isRule 18 = .ok (.ldc 109, 2) := by decide +kernel
theorem dL_isRule_20 : decode cL_isRule 20 = .ok (.invokestatic 104, 3) := by decide +kernel
theorem dL_isRule_23 : decode cL_isRule 23 = .ok (.istore 6, 2) := by decide +kernel
theorem dL_isRule_25 : decode cL_isRule 25 = .ok (.aload_n 0, 1) := by decide +kernel
theorem dL_isRule_26 : decode cL_isRule 26 = .ok (.iload 4, 2) := by decide +kernel
theorem dL_isRule_28 : decode cL_isRule 28 = .ok (.iload 5, 2) := by decide +kernel
theorem dL_isRule_30 : decode cL_isRule 30 = .ok (.iload 6, 2) := by decide +kernel
theorem dL_isRule_32 : decode cL_isRule 32 = .ok (.invokestatic 110, 3) := by decide +kernel
theorem dL_isRule_35 : decode cL_isRule 35 = .ok (.istore 7, 2) := by decide +kernel
theorem dL_isRule_37 : decode cL_isRule 37 = .ok (.iload 7, 2) := by decide +kernel
theorem dL_isRule_39 : decode cL_isRule 39 = .ok (.iconst (-1), 1) := by decide +kernel
theorem dL_isRule_40 : decode cL_isRule 40 = .ok (.if_icmp .lt 74, 3) := by decide +kernel
theorem dL_isRule_43 : decode cL_isRule 43 = .ok (.iload 7, 2) := by decide +kernel
theorem dL_isRule_45 : decode cL_isRule 45 = .ok (.aload_n 1, 1) := by decide +kernel
theorem dL_isRule_46 : decode cL_isRule 46 = .ok (.iconst 1, 1) := by decide +kernel
theorem dL_isRule_47 : decode cL_isRule 47 = .ok (.iaload, 1) := by decide +kernel
theorem dL_isRule_48 : decode cL_isRule 48 = .ok (.if_icmp .ge 66, 3) := by decide +kernel
theorem dL_isRule_51 : decode cL_isRule 51 = .ok (.aload_n 0, 1) := by decide +kernel
theorem dL_isRule_52 : decode cL_isRule 52 = .ok (.iload 4, 2) := by decide +kernel
theorem dL_isRule_54 : decode cL_isRule 54 = .ok (.iload 5, 2) := by decide +kernel
theorem dL_isRule_56 : decode cL_isRule 56 = .ok (.iload 6, 2) := by decide +kernel
theorem dL_isRule_58 : decode cL_isRule 58 = .ok (.invokestatic 113, 3) := by decide +kernel
theorem dL_isRule_61 : decode cL_isRule 61 = .ok (.iload 7, 2) := by decide +kernel
theorem dL_isRule_63 : decode cL_isRule 63 = .ok (.if_icmp .ne 51, 3) := by decide +kernel
theorem dL_isRule_66 : decode cL_isRule 66 = .ok (.aload_n 0, 1) := by decide +kernel
theorem dL_isRule_67 : decode cL_isRule 67 = .ok (.iconst 4, 1) := by decide +kernel
theorem dL_isRule_68 : decode cL_isRule 68 = .ok (.iload 5, 2) := by decide +kernel
theorem dL_isRule_70 : decode cL_isRule 70 = .ok (.iload 6, 2) := by decide +kernel
theorem dL_isRule_72 : decode cL_isRule 72 = .ok (.invokestatic 110, 3) := by decide +kernel
theorem dL_isRule_75 : decode cL_isRule 75 = .ok (.ldc 18, 2) := by decide +kernel
theorem dL_isRule_77 : decode cL_isRule 77 = .ok (.if_icmp .ne 37, 3) := by decide +kernel
theorem dL_isRule_80 : decode cL_isRule 80 = .ok (.aload_n 0, 1) := by decide +kernel
theorem dL_isRule_81 : decode cL_isRule 81 = .ok (.iload 4, 2) := by decide +kernel
theorem dL_isRule_83 : decode cL_isRule 83 = .ok (.bipush 60, 2) := by decide +kernel
theorem dL_isRule_85 : decode cL_isRule 85 = .ok (.iload 6, 2) := by decide +kernel
theorem dL_isRule_87 : decode cL_isRule 87 = .ok (.invokestatic 110, 3) := by decide +kernel
theorem dL_isRule_90 : decode cL_isRule 90 = .ok (.ldc 18, 2) := by decide +kernel
theorem dL_isRule_92 : decode cL_isRule 92 = .ok (.if_icmp .ne 22, 3) := by decide +kernel
theorem dL_isRule_95 : decode cL_isRule 95 = .ok (.aload_n 0, 1) := by decide +kernel
theorem dL_isRule_96 : decode cL_isRule 96 = .ok (.iload 4, 2) := by decide +kernel
theorem dL_isRule_98 : decode cL_isRule 98 = .ok (.iload 5, 2) := by decide +kernel
theorem dL_isRule_100 : decode cL_isRule 100 = .ok (.ldc 109, 2) := by decide +kernel
theorem dL_isRule_102 : decode cL_isRule 102 = .ok (.invokestatic 110, 3) := by decide +kernel
theorem dL_isRule_105 : decode cL_isRule 105 = .ok (.ldc 25, 2) := by decide +kernel
theorem dL_isRule_107 : decode cL_isRule 107 = .ok (.if_icmp .ne 7, 3) := by decide +kernel
theorem dL_isRule_110 : decode cL_isRule 110 = .ok (.iconst 1, 1) := by decide +kernel
theorem dL_isRule_111 : decode cL_isRule 111 = .ok (.goto 4, 3) := by decide +kernel
theorem dL_isRule_114 : decode cL_isRule 114 = .ok (.iconst 0, 1) := by decide +kernel
theorem dL_isRule_115 : decode cL_isRule 115 = .ok (.ireturn, 1) := by decide +kernel
theorem dL_isStreet_0 : decode cL_isStreet 0 = .ok (.iconst 0, 1) := by decide +kernel
theorem dL_isStreet_1 : decode cL_isStreet 1 = .ok (.istore 5, 2) := by decide +kernel
theorem dL_isStreet_3 : decode cL_isStreet 3 = .ok (.iconst 0, 1) := by decide +kernel
theorem dL_isStreet_4 : decode cL_isStreet 4 = .ok (.istore 6, 2) := by decide +kernel
theorem dL_isStreet_6 : decode cL_isStreet 6 = .ok (.iload 6, 2) := by decide +kernel
theorem dL_isStreet_8 : decode cL_isStreet 8 = .ok (.aload_n 1, 1) := by decide +kernel
theorem dL_isStreet_9 : decode cL_isStreet 9 = .ok (.iconst 2, 1) := by decide +kernel
theorem dL_isStreet_10 : decode cL_isStreet 10 = .ok (.iaload, 1) := by decide +kernel
theorem dL_isStreet_11 : decode cL_isStreet 11 = .ok (.if_icmp .ge 31, 3) := by decide +kernel
theorem dL_isStreet_14 : decode cL_isStreet 14 = .ok (.iload 5, 2) := by decide +kernel
theorem dL_isStreet_16 : decode cL_isStreet 16 = .ok (.aload_n 3, 1) := by decide +kernel
theorem dL_isStreet_17 : decode cL_isStreet 17 = .ok (.iload 6, 2) := by decide +kernel
theorem dL_isStreet_19 : decode cL_isStreet 19 = .ok (.iaload, 1) := by decide +kernel
theorem dL_isStreet_20 : decode cL_isStreet 20 = .ok (.iload 4, 2) := by decide +kernel
theorem dL_isStreet_22 : decode cL_isStreet 22 = .ok (.if_icmp .ne 10, 3) := by decide +kernel
theorem dL_isStreet_25 : decode cL_isStreet 25 = .ok (.aload_n 2, 1) := by decide +kernel
theorem dL_isStreet_26 : decode cL_isStreet 26 = .ok (.iload 6, 2) := by decide +kernel
theorem dL_isStreet_28 : decode cL_isStreet 28 = .ok (.iaload, 1) := by decide +kernel
theorem dL_isStreet_29 : decode cL_isStreet 29 = .ok (.goto 4, 3) := by decide +kernel
theorem dL_isStreet_32 : decode cL_isStreet 32 = .ok (.iconst 0, 1) := by decide +kernel
theorem dL_isStreet_33 : decode cL_isStreet 33 = .ok (.iadd, 1) := by decide +kernel
theorem dL_isStreet_34 : decode cL_isStreet 34 = .ok (.istore 5, 2) := by decide +kernel
theorem dL_isStreet_36 : decode cL_isStreet 36 = .ok (.iinc 6 1, 3) := by decide +kernel
theorem dL_isStreet_39 : decode cL_isStreet 39 = .ok (.goto (-33), 3) := by decide +kernel
theorem dL_isStreet_42 : decode cL_isStreet 42 = .ok (.aload_n 0, 1) := by decide +kernel
theorem dL_isStreet_43 : decode cL_isStreet 43 = .ok (.iload 4, 2) := by decide +kernel
theorem dL_isStreet_45 : decode cL_isStreet 45 = .ok (.iconst 0, 1) := by decide +kernel
theorem dL_isStreet_46 : decode cL_isStreet 46 = .ok (.invokestatic 115, 3) := by decide +kernel
theorem dL_isStreet_49 : decode cL_isStreet 49 = .ok (.istore 6, 2) := by decide +kernel
theorem dL_isStreet_51 : decode cL_isStreet 51 = .ok (.aload_n 0, 1) := by decide +kernel
theorem dL_isStreet_52 : decode cL_isStreet 52 = .ok (.iload 4, 2) := by decide +kernel
theorem dL_isStreet_54 : decode cL_isStreet 54 = .ok (.iconst 4, 1) := by decide +kernel
theorem dL_isStreet_55 : decode cL_isStreet 55 = .ok (.invokestatic 115, 3) := by decide +kernel
theorem dL_isStreet_58 : decode cL_isStreet 58 = .ok (.istore 7, 2) := by decide +kernel
theorem dL_isStreet_60 : decode cL_isStreet 60 = .ok (.aload_n 0, 1) := by decide +kernel
theorem dL_isStreet_61 : decode cL_isStreet 61 = .ok (.iload 4, 2) := by decide +kernel
theorem dL_isStreet_63 : decode cL_isStreet 63 = .ok (.iconst 1, 1) := by decide +kernel
theorem dL_isStreet_64 : decode cL_isStreet 64 = .ok (.invokestatic 115, 3) := by decide +kernel
theorem dL_isStreet_67 : decode cL_isStreet 67 = .ok (.iload 5, 2) := by decide +kernel
theorem dL_isStreet_69 : decode cL_isStreet 69 = .ok (.if_icmp .ne 74, 3) := by decide +kernel
theorem dL_isStreet_72 : decode cL_isStreet 72 = .ok (.iload 6, 2) := by decide +kernel
theorem dL_isStreet_74 : decode cL_isStreet 74 = .ok (.ifCond .lt 69, 3) := by decide +kernel
theorem dL_isStreet_77 : decode cL_isStreet 77 = .ok (.iload 6, 2) := by decide +kernel
theorem dL_isStreet_79 : decode cL_isStreet 79 = .ok (.bipush 20, 2) := by decide +kernel
theorem dL_isStreet_81 : decode cL_isStreet 81 = .ok (.if_icmp .gt 62, 3) := by decide +kernel
theorem dL_isStreet_84 : decode cL_isStreet 84 = .ok (.aload_n 0, 1) := by decide +kernel
theorem dL_isStreet_85 : decode cL_isStreet 85 = .ok (.iload 4, 2) := by decide +kernel
theorem dL_isStreet_87 : decode cL_isStreet 87 = .ok (.iconst 2, 1) := by decide +kernel
theorem dL_isStreet_88 : decode cL_isStreet 88 = .ok (.invokestatic 115, 3) := by decide +kernel
theorem dL_isStreet_91 : decode cL_isStreet 91 = .ok (.ifCond .lt 52, 3) := by decide +kernel
theorem dL_isStreet_94 : decode cL_isStreet 94 = .ok (.iload 7, 2) := by decide +kernel
theorem dL_isStreet_96 : decode cL_isStreet 96 = .ok (.ifCond .lt 47, 3) := by decide +kernel
theorem dL_isStreet_99 : decode cL_isStreet 99 = .ok (.iload 7, 2) := by decide +kernel
theorem dL_isStreet_101 : decode cL_isStreet 101 = .ok (.bipush 60, 2) := by decide +kernel
theorem dL_isStreet_103 : decode cL_isStreet 103 = .ok (.aload_n 1, 1) := by decide +kernel
theorem dL_isStreet_104 : decode cL_isStreet 104 = .ok (.iconst 0, 1) := by decide +kernel
theorem dL_isStreet_105 : decode cL_isStreet 105 = .ok (.iaload, 1) := by decide +kernel
theorem dL_isStreet_106 : decode cL_isStreet 106 = .ok (.bipush 96, 2) := by decide +kernel
theorem dL_isStreet_108 : decode cL_isStreet 108 = .ok (.irem, 1) := by decide +kernel
theorem dL_isStreet_109 : decode cL_isStreet 109 = .ok (.imul, 1) := by decide +kernel
theorem dL_isStreet_110 : decode cL_isStreet 110 = .ok (.if_icmp .gt 33, 3) := by decide +kernel
theorem dL_isStreet_113 : decode cL_isStreet 113 = .ok (.aload_n 1, 1) := by decide +kernel
theorem dL_isStreet_114 : decode cL_isStreet 114 = .ok (.iconst 0, 1) := by decide +kernel
theorem dL_isStreet_115 : decode cL_isStreet 115 = .ok (.iaload, 1) := by decide +kernel
theorem dL_isStreet_116 : decode cL_isStreet 116 = .ok (.bipush 96, 2) := by decide +kernel
theorem dL_isStreet_118 : decode cL_isStreet 118 = .ok (.irem, 1) := by decide +kernel
theorem dL_isStreet_119 : decode cL_isStreet 119 = .ok (.ifCond .gt 8, 3) := by decide +kernel
theorem dL_isStreet_122 : decode cL_isStreet 122 = .ok (.iload 7, 2) := by decide +kernel
theorem dL_isStreet_124 : decode cL_isStreet 124 = .ok (.ifCond .ne 19, 3) := by decide +kernel
theorem dL_isStreet_127 : decode cL_isStreet 127 = .ok (.aload_n 0, 1) := by decide +kernel
theorem dL_isStreet_128 : decode cL_isStreet 128 = .ok (.iload 4, 2) := by decide +kernel
theorem dL_isStreet_130 : decode cL_isStreet 130 = .ok (.iconst 5, 1) := by decide +kernel
theorem dL_isStreet_131 : decode cL_isStreet 131 = .ok (.invokestatic 115, 3) := by decide +kernel
theorem dL_isStreet_134 : decode cL_isStreet 134 = .ok (.ldc 25, 2) := by decide +kernel
theorem dL_isStreet_136 : decode cL_isStreet 136 = .ok (.if_icmp .ne 7, 3) := by decide +kernel
theorem dL_isStreet_139 : decode cL_isStreet 139 = .ok (.iconst 1, 1) := by decide +kernel
theorem dL_isStreet_140 : decode cL_isStreet 140 = .ok (.goto 4, 3) := by decide +kernel
theorem dL_isStreet_143 : decode cL_isStreet 143 = .ok (.iconst 0, 1) := by decide +kernel
theorem dL_isStreet_144 : decode cL_isStreet 144 = .ok (.ireturn, 1) := by decide +kernel
theorem dL_areFines_0 : decode cL_areFines 0 = .ok (.iconst 0, 1) := by decide +kernel
theorem dL_areFines_1 : decode cL_areFines 1 = .ok (.istore_n 2, 1) := by decide +kernel
theorem dL_areFines_2 : decode cL_areFines 2 = .ok (.iconst 0, 1) := by decide +kernel
theorem dL_areFines_3 : decode cL_areFines 3 = .ok (.istore_n 3, 1) := by decide +kernel
theorem dL_areFines_4 : decode cL_areFines 4 = .ok (.iconst 0, 1) := by decide +kernel
theorem dL_areFines_5 : decode cL_areFines 5 = .ok (.istore 4, 2) := by decide +kernel
theorem dL_areFines_7 : decode cL_areFines 7 = .ok (.aload_n 0, 1) := by decide +kernel
theorem dL_areFines_8 : decode cL_areFines 8 = .ok (.aload_n 1, 1) := by decide +kernel
theorem dL_areFines_9 : decode cL_areFines 9 = .ok (.iconst 5, 1) := by decide +kernel
theorem dL_areFines_10 : decode cL_areFines 10 = .ok (.iaload, 1) := by decide +kernel
theorem dL_areFines_11 : decode cL_areFines 11 = .ok (.iconst 0, 1) := by decide +kernel
theorem dL_areFines_12 : decode cL_areFines 12 = .ok (.invokestatic 118, 3) := by decide +kernel
theorem dL_areFines_15 : decode cL_areFines 15 = .ok (.ldc 18, 2) := by decide +kernel
theorem dL_areFines_17 : decode cL_areFines 17 = .ok (.if_icmp .ne 7, 3) := by decide +kernel
theorem dL_areFines_20 : decode cL_areFines 20 = .ok (.iconst 1, 1) := by decide +kernel
theorem dL_areFines_21 : decode cL_areFines 21 = .ok (.goto 4, 3) := by decide +kernel
theorem dL_areFines_24 : decode cL_areFines 24 = .ok (.iconst 0, 1) := by decide +kernel
theorem dL_areFines_25 : decode cL_areFines 25 = .ok (.istore 5, 2) := by decide +kernel
theorem dL_areFines_27 : decode cL_areFines 27 = .ok (.iconst 0, 1) := by decide +kernel
theorem dL_areFines_28 : decode cL_areFines 28 = .ok (.istore 6, 2) := by decide +kernel
theorem dL_areFines_30 : decode cL_areFines 30 = .ok (.iload 6, 2) := by decide +kernel
theorem dL_areFines_32 : decode cL_areFines 32 = .ok (.aload_n 1, 1) := by decide +kernel
theorem dL_areFines_33 : decode cL_areFines 33 = .ok (.iconst 5, 1) := by decide +kernel
theorem dL_areFines_34 : decode cL_areFines 34 = .ok (.iaload, 1) := by decide +kernel
theorem dL_areFines_35 : decode cL_areFines 35 = .ok (.if_icmp .ge 178, 3) := by decide +kernel
theorem dL_areFines_38 : decode cL_areFines 38 = .ok (.iload 5, 2) := by decide +kernel
theorem dL_areFines_40 : decode cL_areFines 40 = .ok (.ifCond .eq 173, 3) := by decide +kernel
theorem dL_areFines_43 : decode cL_areFines 43 = .ok (.aload_n 0, 1) := by decide +kernel
theorem dL_areFines_44 : decode cL_areFines 44 = .ok (.iload 6, 2) := by decide +kernel
theorem dL_areFines_46 : decode cL_areFines 46 = .ok (.iconst 3, 1) := by decide +kernel
theorem dL_areFines_47 : decode cL_areFines 47 = .ok (.invokestatic 118, 3) := by decide +kernel
theorem dL_areFines_50 : decode cL_areFines 50 = .ok (.istore 7, 2) := by decide +kernel
theorem dL_areFines_52 : decode cL_areFines 52 = .ok (.aload_n 0, 1) := by decide +kernel
theorem dL_areFines_53 : decode cL_areFines 53 = .ok (.iload 6, 2) := by decide +kernel
theorem dL_areFines_55 : decode cL_areFines 55 = .ok (.iconst 4, 1) := by decide +kernel
theorem dL_areFines_56 : decode cL_areFines 56 = .ok (.invokestatic 118, 3) := by decide +kernel
theorem dL_areFines_59 : decode cL_areFines 59 = .ok (.istore 8, 2) := by decide +kernel
theorem dL_areFines_61 : decode cL_areFines 61 = .ok (.aload_n 0, 1) := by decide +kernel
theorem dL_areFines_62 : decode cL_areFines 62 = .ok (.iload 6, 2) := by decide +kernel
theorem dL_areFines_64 : decode cL_areFines 64 = .ok (.iconst 5, 1) := by decide +kernel
theorem dL_areFines_65 : decode cL_areFines 65 = .ok (.invokestatic 118, 3) := by decide +kernel
theorem dL_areFines_68 : decode cL_areFines 68 = .ok (.istore 9, 2) := by decide +kernel
theorem dL_areFines_70 : decode cL_areFines 70 = .ok (.iload_n 2, 1) := by decide +kernel
theorem dL_areFines_71 : decode cL_areFines 71 = .ok (.iload 8, 2) := by decide +kernel
theorem dL_areFines_73 : decode cL_areFines 73 = .ok (.iload 9, 2) := by decide +kernel
theorem dL_areFines_75 : decode cL_areFines 75 = .ok (.iadd, 1) := by decide +kernel
theorem dL_areFines_76 : decode cL_areFines 76 = .ok (.ifCond .le 7, 3) := by decide +kernel
theorem dL_areFines_79 : decode cL_areFines 79 = .ok (.iconst 0, 1) := by decide +kernel
theorem dL_areFines_80 : decode cL_areFines 80 = .ok (.goto 38, 3) := by decide +kernel
theorem dL_areFines_83 : decode cL_areFines 83 = .ok (.iload 7, 2) := by decide +kernel
theorem dL_areFines_85 : decode cL_areFines 85 = .ok (.iconst 1, 1) := by decide +kernel
theorem dL_areFines_86 : decode cL_areFines 86 = .ok (.if_icmp .ne 8, 3) := by decide +kernel
theorem dL_areFines_89 : decode cL_areFines 89 = .ok (.bipush 100, 2) := by decide +kernel
theorem dL_areFines_91 : decode cL_areFines 91 = .ok (.goto 27, 3) := by decide +kernel
theorem dL_areFines_94 : decode cL_areFines 94 = .ok (.iload 7, 2) := by decide +kernel
theorem dL_areFines_96 : decode cL_areFines 96 = .ok (.iconst 2, 1) := by decide +kernel
theorem dL_areFines_97 : decode cL_areFines 97 = .ok (.if_icmp .ne 8, 3) := by decide +kernel
theorem dL_areFines_100 : decode cL_areFines 100 = .ok (.bipush 60, 2) := by decide +kernel
theorem dL_areFines_102 : decode cL_areFines 102 = .ok (.goto 16, 3) := by decide +kernel
theorem dL_areFines_105 : decode cL_areFines 105 = .ok (.iload 7, 2) := by decide +kernel
theorem dL_areFines_107 : decode cL_areFines 107 = .ok (.iconst 3, 1) := by decide +kernel
theorem dL_areFines_108 : decode cL_areFines 108 = .ok (.if_icmp .ne 8, 3) := by decide +kernel
theorem dL_areFines_111 : decode cL_areFines 111 = .ok (.bipush 30, 2) := by decide +kernel
theorem dL_areFines_113 : decode cL_areFines 113 = .ok (.goto 5, 3) := by decide +kernel
theorem dL_areFines_116 : decode cL_areFines 116 = .ok (.bipush 40, 2) := by decide +kernel
theorem dL_areFines_118 : decode cL_areFines 118 = .ok (.iadd, 1) := by decide +kernel
theorem dL_areFines_119 : decode cL_areFines 119 = .ok (.istore_n 2, 1) := by decide +kernel
theorem dL_areFines_120 : decode cL_areFines 120 = .ok (.iload 7, 2) := by decide +kernel
theorem dL_areFines_122 : decode cL_areFines 122 = .ok (.ifCond .le 82, 3) := by decide +kernel
theorem dL_areFines_125 : decode cL_areFines 125 = .ok (.iload 7, 2) := by decide +kernel
theorem dL_areFines_127 : decode cL_areFines 127 = .ok (.iconst 5, 1) := by decide +kernel
theorem dL_areFines_128 : decode cL_areFines 128 = .ok (.if_icmp .ge 76, 3) := by decide +kernel
theorem dL_areFines_131 : decode cL_areFines 131 = .ok (.iload 8, 2) := by decide +kernel
theorem dL_areFines_133 : decode cL_areFines 133 = .ok (.ifCond .lt 71, 3) := by decide +kernel
theorem dL_areFines_136 : decode cL_areFines 136 = .ok (.iload 9, 2) := by decide +kernel
theorem dL_areFines_138 : decode cL_areFines 138 = .ok (.ifCond .lt 66, 3) := by decide +kernel
theorem dL_areFines_141 : decode cL_areFines 141 = .ok (.iload 8, 2) := by decide +kernel
theorem dL_areFines_143 : decode cL_areFines 143 = .ok (.iload 9, 2) := by decide +kernel
theorem dL_areFines_145 : decode cL_areFines 145 = .ok (.iadd, 1) := by decide +kernel
theorem dL_areFines_146 : decode cL_areFines 146 = .ok (.iconst 2, 1) := by decide +kernel
theorem dL_areFines_147 : decode cL_areFines 147 = .ok (.if_icmp .ge 57, 3) := by decide +kernel
theorem dL_areFines_150 : decode cL_areFines 150 = .ok (.aload_n 0, 1) := by decide +kernel
theorem dL_areFines_151 : decode cL_areFines 151 = .ok (.iload 6, 2) := by decide +kernel
theorem dL_areFines_153 : decode cL_areFines 153 = .ok (.iconst 0, 1) := by decide +kernel
theorem dL_areFines_154 : decode cL_areFines 154 = .ok (.invokestatic 118, 3) := by decide +kernel
theorem dL_areFines_157 : decode cL_areFines 157 = .ok (.aload_n 1, 1) := by decide +kernel
theorem dL_areFines_158 : decode cL_areFines 158 = .ok (.iconst 2, 1) := by decide +kernel
theorem dL_areFines_159 : decode cL_areFines 159 = .ok (.iaload, 1) := by decide +kernel
theorem dL_areFines_160 : decode cL_areFines 160 = .ok (.if_icmp .ge 44, 3) := by decide +kernel
theorem dL_areFines_163 : decode cL_areFines 163 = .ok (.aload_n 0, 1) := by decide +kernel
theorem dL_areFines_164 : decode cL_areFines 164 = .ok (.iload 6, 2) := by decide +kernel
theorem dL_areFines_166 : decode cL_areFines 166 = .ok (.iconst 2, 1) := by decide +kernel
theorem dL_areFines_167 : decode cL_areFines 167 = .ok (.invokestatic 118, 3) := by decide +kernel
theorem dL_areFines_170 : decode cL_areFines 170 = .ok (.aload_n 1, 1) := by decide +kernel
theorem dL_areFines_171 : decode cL_areFines 171 = .ok (.iconst 0, 1) := by decide +kernel
theorem dL_areFines_172 : decode cL_areFines 172 = .ok (.iaload, 1) := by decide +kernel
theorem dL_areFines_173 : decode cL_areFines 173 = .ok (.if_icmp .gt 31, 3) := by decide +kernel
theorem dL_areFines_176 : decode cL_areFines 176 = .ok (.iload 6, 2) := by decide +kernel
theorem dL_areFines_178 : decode cL_areFines 178 = .ok (.ifCond .eq 22, 3) := by decide +kernel
theorem dL_areFines_181 : decode cL_areFines 181 = .ok (.aload_n 0, 1) := by decide +kernel
theorem dL_areFines_182 : decode cL_areFines 182 = .ok (.iload 6, 2) := by decide +kernel
theorem dL_areFines_184 : decode cL_areFines 184 = .ok (.iconst 2, 1) := by decide +kernel
theorem dL_areFines_185 : decode cL_areFines 185 = .ok (.invokestatic 118, 3) := by decide +kernel
theorem dL_areFines_188 : decode cL_areFines 188 = .ok (.aload_n 0, 1) := by decide +kernel
theorem dL_areFines_189 : decode cL_areFines 189 = .ok (.iload 6, 2) := by decide +kernel
theorem dL_areFines_191 : decode cL_areFines 191 = .ok (.iconst 1, 1) := by decide +kernel
theorem dL_areFines_192 : decode cL_areFines 192 = .ok (.isub, 1) := by decide +kernel
theorem dL_areFines_193 : decode cL_areFines 193 = .ok (.iconst 2, 1) := by decide +kernel
theorem dL_areFines_194 : decode cL_areFines 194 = .ok (.invokestatic 118, 3) := by decide +kernel
theorem dL_areFines_197 : decode cL_areFines 197 = .ok (.if_icmp .lt 7, 3) := by decide +kernel
theorem dL_areFines_200 : decode cL_areFines 200 = .ok (.iconst 1, 1) := by decide +kernel
theorem dL_areFines_201 : decode cL_areFines 201 = .ok (.goto 4, 3) := by decide +kernel
theorem dL_areFines_204 : decode cL_areFines 204 = .ok (.iconst 0, 1) := by decide +kernel
theorem dL_areFines_205 : decode cL_areFines 205 = .ok (.istore 5, 2) := by decide +kernel
theorem dL_areFines_207 : decode cL_areFines 207 = .ok (.iinc 6 1, 3) := by decide +kernel
theorem dL_areFines_210 : decode cL_areFines 210 = .ok (.goto (-180), 3) := by decide +kernel
theorem dL_areFines_213 : decode cL_areFines 213 = .ok (.iconst 0, 1) := by decide +kernel
theorem dL_areFines_214 : decode cL_areFines 214 = .ok (.istore 6, 2) := by decide +kernel
theorem dL_areFines_216 : decode cL_areFines 216 = .ok (.iload 6, 2) := by decide +kernel
theorem dL_areFines_218 : decode cL_areFines 218 = .ok (.aload_n 1, 1) := by decide +kernel
theorem dL_areFines_219 : decode cL_areFines 219 = .ok (.iconst 2, 1) := by decide +kernel
theorem dL_areFines_220 : decode cL_areFines 220 = .ok (.iaload, 1) := by decide +kernel
theorem dL_areFines_221 : decode cL_areFines 221 = .ok (.if_icmp .ge 18, 3) := by decide +kernel
theorem dL_areFines_224 : decode cL_areFines 224 = .ok (.iload_n 3, 1) := by decide +kernel
theorem dL_areFines_225 : decode cL_areFines 225 = .ok (.aload_n 0, 1) := by decide +kernel
theorem dL_areFines_226 : decode cL_areFines 226 = .ok (.iload 6, 2) := by decide +kernel
theorem dL_areFines_228 : decode cL_areFines 228 = .ok (.invokestatic 120, 3) := by decide +kernel
theorem dL_areFines_231 : decode cL_areFines 231 = .ok (.iadd, 1) := by decide +kernel
theorem dL_areFines_232 : decode cL_areFines 232 = .ok (.istore_n 3, 1) := by decide +kernel
theorem dL_areFines_233 : decode cL_areFines 233 = .ok (.iinc 6 1, 3) := by decide +kernel
theorem dL_areFines_236 : decode cL_areFines 236 = .ok (.goto (-20), 3) := by decide +kernel
theorem dL_areFines_239 : decode cL_areFines 239 = .ok (.iconst 0, 1) := by decide +kernel
theorem dL_areFines_240 : decode cL_areFines 240 = .ok (.istore 6, 2) := by decide +kernel
theorem dL_areFines_242 : decode cL_areFines 242 = .ok (.iload 6, 2) := by decide +kernel
theorem dL_areFines_244 : decode cL_areFines 244 = .ok (.iconst 4, 1) := by decide +kernel
theorem dL_areFines_245 : decode cL_areFines 245 = .ok (.if_icmp .ge 21, 3) := by decide +kernel
theorem dL_areFines_248 : decode cL_areFines 248 = .ok (.iload 4, 2) := by decide +kernel
theorem dL_areFines_250 : decode cL_areFines 250 = .ok (.aload_n 0, 1) := by decide +kernel
theorem dL_areFines_251 : decode cL_areFines 251 = .ok (.iload 6, 2) := by decide +kernel
theorem dL_areFines_253 : decode cL_areFines 253 = .ok (.iconst 3, 1) := by decide +kernel
theorem dL_areFines_254 : decode cL_areFines 254 = .ok (.invokestatic 115, 3) := by decide +kernel
theorem dL_areFines_257 : decode cL_areFines 257 = .ok (.iadd, 1) := by decide +kernel
theorem dL_areFines_258 : decode cL_areFines 258 = .ok (.istore 4, 2) := by decide +kernel
theorem dL_areFines_260 : decode cL_areFines 260 = .ok (.iinc 6 1, 3) := by decide +kernel
theorem dL_areFines_263 : decode cL_areFines 263 = .ok (.goto (-21), 3) := by decide +kernel
theorem dL_areFines_266 : decode cL_areFines 266 = .ok (.iload 5, 2) := by decide +kernel
theorem dL_areFines_268 : decode cL_areFines 268 = .ok (.ifCond .eq 20, 3) := by decide +kernel
theorem dL_areFines_271 : decode cL_areFines 271 = .ok (.iload_n 3, 1) := by decide +kernel
theorem dL_areFines_272 : decode cL_areFines 272 = .ok (.iload_n 2, 1) := by decide +kernel
theorem dL_areFines_273 : decode cL_areFines 273 = .ok (.if_icmp .ne 15, 3) := by decide +kernel
theorem dL_areFines_276 : decode cL_areFines 276 = .ok (.iload 4, 2) := by decide +kernel
theorem dL_areFines_278 : decode cL_areFines 278 = .ok (.aload_n 1, 1) := by decide +kernel
theorem dL_areFines_279 : decode cL_areFines 279 = .ok (.iconst 5, 1) := by decide +kernel
theorem dL_areFines_280 : decode cL_areFines 280 = .ok (.iaload, 1) := by decide +kernel
theorem dL_areFines_281 : decode cL_areFines 281 = .ok (.if_icmp .ne 7, 3) := by decide +kernel
theorem dL_areFines_284 : decode cL_areFines 284 = .ok (.iconst 1, 1) := by decide +kernel
theorem dL_areFines_285 : decode cL_areFines 285 = .ok (.goto 4, 3) := by decide +kernel
theorem dL_areFines_288 : decode cL_areFines 288 = .ok (.iconst 0, 1) := by decide +kernel
theorem dL_areFines_289 : decode cL_areFines 289 = .ok (.ireturn, 1) := by decide +kernel
theorem dL_tells_0 : decode cL_tells 0 = .ok (.iload 4, 2) := by decide +kernel
theorem dL_tells_2 : decode cL_tells 2 = .ok (.bipush 6, 2) := by decide +kernel
theorem dL_tells_4 : decode cL_tells 4 = .ok (.invokestatic 104, 3) := by decide +kernel
theorem dL_tells_7 : decode cL_tells 7 = .ok (.istore 6, 2) := by decide +kernel
theorem dL_tells_9 : decode cL_tells 9 = .ok (.iload 6, 2) := by decide +kernel
theorem dL_tells_11 : decode cL_tells 11 = .ok (.iconst 2, 1) := by decide +kernel
theorem dL_tells_12 : decode cL_tells 12 = .ok (.if_icmp .lt 9, 3) := by decide +kernel
theorem dL_tells_15 : decode cL_tells 15 = .ok (.aload_n 1, 1) := by decide +kernel
theorem dL_tells_16 : decode cL_tells 16 = .ok (.iconst 2, 1) := by decide +kernel
theorem dL_tells_17 : decode cL_tells 17 = .ok (.iaload, 1) := by decide +kernel
theorem dL_tells_18 : decode cL_tells 18 = .ok (.ifCond .ne 123, 3) := by decide +kernel
theorem dL_tells_21 : decode cL_tells 21 = .ok (.iconst 3, 1) := by decide +kernel
theorem dL_tells_22 : decode cL_tells 22 = .ok (.iload 5, 2) := by decide +kernel
theorem dL_tells_24 : decode cL_tells 24 = .ok (.bipush 10, 2) := by decide +kernel
theorem dL_tells_26 : decode cL_tells 26 = .ok (.invokestatic 104, 3) := by decide +kernel
theorem dL_tells_29 : decode cL_tells 29 = .ok (.iadd, 1) := by decide +kernel
theorem dL_tells_30 : decode cL_tells 30 = .ok (.istore 7, 2) := by decide +kernel
theorem dL_tells_32 : decode cL_tells 32 = .ok (.iload 5, 2) := by decide +kernel
theorem dL_tells_34 : decode cL_tells 34 = .ok (.iconst 4, 1) := by decide +kernel
theorem dL_tells_35 : decode cL_tells 35 = .ok (.ishr, 1) := by decide +kernel
theorem dL_tells_36 : decode cL_tells 36 = .ok (.iconst 5, 1) := by decide +kernel
theorem dL_tells_37 : decode cL_tells 37 = .ok (.invokestatic 104, 3) := by decide +kernel
theorem dL_tells_40 : decode cL_tells 40 = .ok (.istore 8, 2) := by decide +kernel
theorem dL_tells_42 : decode cL_tells 42 = .ok (.aload_n 0, 1) := by decide +kernel
theorem dL_tells_43 : decode cL_tells 43 = .ok (.iload 7, 2) := by decide +kernel
theorem dL_tells_45 : decode cL_tells 45 = .ok (.iload 8, 2) := by decide +kernel
theorem dL_tells_47 : decode cL_tells 47 = .ok (.invokestatic 123, 3) := by decide +kernel
theorem dL_tells_50 : decode cL_tells 50 = .ok (.istore 9, 2) := by decide +kernel
theorem dL_tells_52 : decode cL_tells 52 = .ok (.aload_n 1, 1) := by decide +kernel
theorem dL_tells_53 : decode cL_tells 53 = .ok (.iconst 2, 1) := by decide +kernel
theorem dL_tells_54 : decode cL_tells 54 = .ok (.iaload, 1) := by decide +kernel
theorem dL_tells_55 : decode cL_tells 55 = .ok (.bipush 30, 2) := by decide +kernel
theorem dL_tells_57 : decode cL_tells 57 = .ok (.if_icmp .ne 16, 3) := by decide +kernel
theorem dL_tells_60 : decode cL_tells 60 = .ok (.iload 9, 2) := by decide +kernel
theorem dL_tells_62 : decode cL_tells 62 = .ok (.ldc 36, 2) := by decide +kernel
theorem dL_tells_64 : decode cL_tells 64 = .ok (.if_icmp .ne 7, 3) := by decide +kernel
theorem dL_tells_67 : decode cL_tells 67 = .ok (.iconst 1, 1) := by decide +kernel
theorem dL_tells_68 : decode cL_tells 68 = .ok (.goto 4, 3) := by decide +kernel
theorem dL_tells_71 : decode cL_tells 71 = .ok (.iconst 0, 1) := by decide +kernel
theorem dL_tells_72 : decode cL_tells 72 = .ok (.ireturn, 1) := by decide +kernel
theorem dL_tells_73 : decode cL_tells 73 = .ok (.aload_n 2, 1) := by decide +kernel
theorem dL_tells_74 : decode cL_tells 74 = .ok (.aload_n 1, 1) := by decide +kernel
theorem dL_tells_75 : decode cL_tells 75 = .ok (.iconst 2, 1) := by decide +kernel
theorem dL_tells_76 : decode cL_tells 76 = .ok (.iaload, 1) := by decide +kernel
theorem dL_tells_77 : decode cL_tells 77 = .ok (.iload 7, 2) := by decide +kernel
theorem dL_tells_79 : decode cL_tells 79 = .ok (.iastore, 1) := by decide +kernel
theorem dL_tells_80 : decode cL_tells 80 = .ok (.aload_n 3, 1) := by decide +kernel
theorem dL_tells_81 : decode cL_tells 81 = .ok (.aload_n 1, 1) := by decide +kernel
theorem dL_tells_82 : decode cL_tells 82 = .ok (.iconst 2, 1) := by decide +kernel
theorem dL_tells_83 : decode cL_tells 83 = .ok (.iaload, 1) := by decide +kernel
theorem dL_tells_84 : decode cL_tells 84 = .ok (.iload 8, 2) := by decide +kernel
theorem dL_tells_86 : decode cL_tells 86 = .ok (.iastore, 1) := by decide +kernel
theorem dL_tells_87 : decode cL_tells 87 = .ok (.aload_n 1, 1) := by decide +kernel
theorem dL_tells_88 : decode cL_tells 88 = .ok (.iconst 2, 1) := by decide +kernel
theorem dL_tells_89 : decode cL_tells 89 = .ok (.dup2, 1) := by decide +kernel
theorem dL_tells_90 : decode cL_tells 90 = .ok (.iaload, 1) := by decide +kernel
theorem dL_tells_91 : decode cL_tells 91 = .ok (.iconst 1, 1) := by decide +kernel
theorem dL_tells_92 : decode cL_tells 92 = .ok (.iadd, 1) := by decide +kernel
theorem dL_tells_93 : decode cL_tells 93 = .ok (.iastore, 1) := by decide +kernel
theorem dL_tells_94 : decode cL_tells 94 = .ok (.iload 9, 2) := by decide +kernel
theorem dL_tells_96 : decode cL_tells 96 = .ok (.aload_n 1, 1) := by decide +kernel
theorem dL_tells_97 : decode cL_tells 97 = .ok (.iconst 2, 1) := by decide +kernel
theorem dL_tells_98 : decode cL_tells 98 = .ok (.iaload, 1) := by decide +kernel
theorem dL_tells_99 : decode cL_tells 99 = .ok (.iconst 1, 1) := by decide +kernel
theorem dL_tells_100 : decode cL_tells 100 = .ok (.isub, 1) := by decide +kernel
theorem dL_tells_101 : decode cL_tells 101 = .ok (.if_icmp .ne 38, 3) := by decide +kernel
theorem dL_tells_104 : decode cL_tells 104 = .ok (.aload_n 0, 1) := by decide +kernel
theorem dL_tells_105 : decode cL_tells 105 = .ok (.iload 9, 2) := by decide +kernel
theorem dL_tells_107 : decode cL_tells 107 = .ok (.invokestatic 125, 3) := by decide +kernel
theorem dL_tells_110 : decode cL_tells 110 = .ok (.iconst (-1), 1) := by decide +kernel
theorem dL_tells_111 : decode cL_tells 111 = .ok (.if_icmp .ne 28, 3) := by decide +kernel
theorem dL_tells_114 : decode cL_tells 114 = .ok (.aload_n 0, 1) := by decide +kernel
theorem dL_tells_115 : decode cL_tells 115 = .ok (.iload 9, 2) := by decide +kernel
theorem dL_tells_117 : decode cL_tells 117 = .ok (.iconst 0, 1) := by decide +kernel
theorem dL_tells_118 : decode cL_tells 118 = .ok (.invokestatic 127, 3) := by decide +kernel
theorem dL_tells_121 : decode cL_tells 121 = .ok (.iload 8, 2) := by decide +kernel
theorem dL_tells_123 : decode cL_tells 123 = .ok (.ifCond .ne 7, 3) := by decide +kernel
theorem dL_tells_126 : decode cL_tells 126 = .ok (.iconst 4, 1) := by decide +kernel
theorem dL_tells_127 : decode cL_tells 127 = .ok (.goto 5, 3) := by decide +kernel
theorem dL_tells_130 : decode cL_tells 130 = .ok (.iload 8, 2) := by decide +kernel
theorem dL_tells_132 : decode cL_tells 132 = .ok (.if_icmp .ne 7, 3) := by decide +kernel
theorem dL_tells_135 : decode cL_tells 135 = .ok (.iconst 1, 1) := by decide +kernel
theorem dL_tells_136 : decode cL_tells 136 = .ok (.goto 4, 3) := by decide +kernel
theorem dL_tells_139 : decode cL_tells 139 = .ok (.iconst 0, 1) := by decide +kernel
theorem dL_tells_140 : decode cL_tells 140 = .ok (.ireturn, 1) := by decide +kernel
theorem dL_tells_141 : decode cL_tells 141 = .ok (.iload 6, 2) := by decide +kernel
theorem dL_tells_143 : decode cL_tells 143 = .ok (.iconst 5, 1) := by decide +kernel
theorem dL_tells_144 : decode cL_tells 144 = .ok (.if_icmp .ge 159, 3) := by decide +kernel
theorem dL_tells_147 : decode cL_tells 147 = .ok (.iload 5, 2) := by decide +kernel
theorem dL_tells_149 : decode cL_tells 149 = .ok (.bipush 60, 2) := by decide +kernel
theorem dL_tells_151 : decode cL_tells 151 = .ok (.invokestatic 104, 3) := by decide +kernel
theorem dL_tells_154 : decode cL_tells 154 = .ok (.istore 7, 2) := by decide +kernel
theorem dL_tells_156 : decode cL_tells 156 = .ok (.iload 5, 2) := by decide +kernel
theorem dL_tells_158 : decode cL_tells 158 = .ok (.bipush 6, 2) := by decide +kernel
theorem dL_tells_160 : decode cL_tells 160 = .ok (.ishr, 1) := by decide +kernel
theorem dL_tells_161 : decode cL_tells 161 = .ok (.bipush 60, 2) := by decide +kernel
theorem dL_tells_163 : decode cL_tells 163 = .ok (.invokestatic 104, 3) := by decide +kernel
theorem dL_tells_166 : decode cL_tells 166 = .ok (.istore 8, 2) := by decide +kernel
theorem dL_tells_168 : decode cL_tells 168 = .ok (.aload_n 0, 1) := by decide +kernel
theorem dL_tells_169 : decode cL_tells 169 = .ok (.iload 4, 2) := by decide +kernel
theorem dL_tells_171 : decode cL_tells 171 = .ok (.iconst 3, 1) := by decide +kernel
theorem dL_tells_172 : decode cL_tells 172 = .ok (.ishr, 1) := by decide +kernel
theorem dL_tells_173 : decode cL_tells 173 = .ok (.iconst 4, 1) := by decide +kernel
theorem dL_tells_174 : decode cL_tells 174 = .ok (.invokestatic 104, 3) := by decide +kernel
theorem dL_tells_177 : decode cL_tells 177 = .ok (.iload 7, 2) := by decide +kernel
theorem dL_tells_179 : decode cL_tells 179 = .ok (.iload 8, 2) := by decide +kernel
theorem dL_tells_181 : decode cL_tells 181 = .ok (.iload 5, 2) := by decide +kernel
theorem dL_tells_183 : decode cL_tells 183 = .ok (.bipush 12, 2) := by decide +kernel
theorem dL_tells_185 : decode cL_tells 185 = .ok (.ishr, 1) := by decide +kernel
theorem dL_tells_186 : decode cL_tells 186 = .ok (.bipush 32, 2) := by decide +kernel
theorem dL_tells_188 : decode cL_tells 188 = .ok (.invokestatic 104, 3) := by decide +kernel
theorem dL_tells_191 : decode cL_tells 191 = .ok (.iload 5, 2) := by decide +kernel
theorem dL_tells_193 : decode cL_tells 193 = .ok (.bipush 17, 2) := by decide +kernel
theorem dL_tells_195 : decode cL_tells 195 = .ok (.ishr, 1) := by decide +kernel
theorem dL_tells_196 : decode cL_tells 196 = .ok (.bipush 10, 2) := by decide +kernel
theorem dL_tells_198 : decode cL_tells 198 = .ok (.invokestatic 104, 3) := by decide +kernel
theorem dL_tells_201 : decode cL_tells 201 = .ok (.iload 5, 2) := by decide +kernel
theorem dL_tells_203 : decode cL_tells 203 = .ok (.bipush 21, 2) := by decide +kernel
theorem dL_tells_205 : decode cL_tells 205 = .ok (.ishr, 1) := by decide +kernel
theorem dL_tells_206 : decode cL_tells 206 = .ok (.iconst 1, 1) := by decide +kernel
theorem dL_tells_207 : decode cL_tells 207 = .ok (.iand, 1) := by decide +kernel
theorem dL_tells_208 : decode cL_tells 208 = .ok (.iconst 1, 1) := by decide +kernel
theorem dL_tells_209 : decode cL_tells 209 = .ok (.if_icmp .ne 7, 3) := by decide +kernel
theorem dL_tells_212 : decode cL_tells 212 = .ok (.iconst 1, 1) := by decide +kernel
theorem dL_tells_213 : decode cL_tells 213 = .ok (.goto 4, 3) := by decide +kernel
theorem dL_tells_216 : decode cL_tells 216 = .ok (.iconst 0, 1) := by decide +kernel
theorem dL_tells_217 : decode cL_tells 217 = .ok (.iload 5, 2) := by decide +kernel
theorem dL_tells_219 : decode cL_tells 219 = .ok (.bipush 22, 2) := by decide +kernel
theorem dL_tells_221 : decode cL_tells 221 = .ok (.ishr, 1) := by decide +kernel
theorem dL_tells_222 : decode cL_tells 222 = .ok (.bipush 6, 2) := by decide +kernel
theorem dL_tells_224 : decode cL_tells 224 = .ok (.invokestatic 104, 3) := by decide +kernel
theorem dL_tells_227 : decode cL_tells 227 = .ok (.ifCond .ne 7, 3) := by decide +kernel
theorem dL_tells_230 : decode cL_tells 230 = .ok (.iconst 1, 1) := by decide +kernel
theorem dL_tells_231 : decode cL_tells 231 = .ok (.goto 4, 3) := by decide +kernel
theorem dL_tells_234 : decode cL_tells 234 = .ok (.iconst 0, 1) := by decide +kernel
theorem dL_tells_235 : decode cL_tells 235 = .ok (.invokestatic 129, 3) := by decide +kernel
theorem dL_tells_238 : decode cL_tells 238 = .ok (.istore 9, 2) := by decide +kernel
theorem dL_tells_240 : decode cL_tells 240 = .ok (.iload 7, 2) := by decide +kernel
theorem dL_tells_242 : decode cL_tells 242 = .ok (.iload 8, 2) := by decide +kernel
theorem dL_tells_244 : decode cL_tells 244 = .ok (.if_icmp .gt 11, 3) := by decide +kernel
theorem dL_tells_247 : decode cL_tells 247 = .ok (.aload_n 1, 1) := by decide +kernel
theorem dL_tells_248 : decode cL_tells 248 = .ok (.iconst 1, 1) := by decide +kernel
theorem dL_tells_249 : decode cL_tells 249 = .ok (.iaload, 1) := by decide +kernel
theorem dL_tells_250 : decode cL_tells 250 = .ok (.bipush 30, 2) := by decide +kernel
theorem dL_tells_252 : decode cL_tells 252 = .ok (.if_icmp .ne 28, 3) := by decide +kernel
theorem dL_tells_255 : decode cL_tells 255 = .ok (.iload 9, 2) := by decide +kernel
theorem dL_tells_257 : decode cL_tells 257 = .ok (.iload 7, 2) := by decide +kernel
theorem dL_tells_259 : decode cL_tells 259 = .ok (.iload 8, 2) := by decide +kernel
theorem dL_tells_261 : decode cL_tells 261 = .ok (.if_icmp .le 8, 3) := by decide +kernel
theorem dL_tells_264 : decode cL_tells 264 = .ok (.ldc 25, 2) := by decide +kernel
theorem dL_tells_266 : decode cL_tells 266 = .ok (.goto 5, 3) := by decide +kernel
theorem dL_tells_269 : decode cL_tells 269 = .ok (.ldc 36, 2) := by decide +kernel
theorem dL_tells_271 : decode cL_tells 271 = .ok (.if_icmp .ne 7, 3) := by decide +kernel
theorem dL_tells_274 : decode cL_tells 274 = .ok (.iconst 1, 1) := by decide +kernel
theorem dL_tells_275 : decode cL_tells 275 = .ok (.goto 4, 3) := by decide +kernel
theorem dL_tells_278 : decode cL_tells 278 = .ok (.iconst 0, 1) := by decide +kernel
theorem dL_tells_279 : decode cL_tells 279 = .ok (.ireturn, 1) := by decide +kernel
theorem dL_tells_280 : decode cL_tells 280 = .ok (.aload_n 1, 1) := by decide +kernel
theorem dL_tells_281 : decode cL_tells 281 = .ok (.iconst 1, 1) := by decide +kernel
theorem dL_tells_282 : decode cL_tells 282 = .ok (.dup2, 1) := by decide +kernel
theorem dL_tells_283 : decode cL_tells 283 = .ok (.iaload, 1) := by decide +kernel
theorem dL_tells_284 : decode cL_tells 284 = .ok (.iconst 1, 1) := by decide +kernel
theorem dL_tells_285 : decode cL_tells 285 = .ok (.iadd, 1) := by decide +kernel
theorem dL_tells_286 : decode cL_tells 286 = .ok (.iastore, 1) := by decide +kernel
theorem dL_tells_287 : decode cL_tells 287 = .ok (.iload 9, 2) := by decide +kernel
theorem dL_tells_289 : decode cL_tells 289 = .ok (.aload_n 1, 1) := by decide +kernel
theorem dL_tells_290 : decode cL_tells 290 = .ok (.iconst 1, 1) := by decide +kernel
theorem dL_tells_291 : decode cL_tells 291 = .ok (.iaload, 1) := by decide +kernel
theorem dL_tells_292 : decode cL_tells 292 = .ok (.iconst 1, 1) := by decide +kernel
theorem dL_tells_293 : decode cL_tells 293 = .ok (.isub, 1) := by decide +kernel
theorem dL_tells_294 : decode cL_tells 294 = .ok (.if_icmp .ne 7, 3) := by decide +kernel
theorem dL_tells_297 : decode cL_tells 297 = .ok (.iconst 1, 1) := by decide +kernel
theorem dL_tells_298 : decode cL_tells 298 = .ok (.goto 4, 3) := by decide +kernel
theorem dL_tells_301 : decode cL_tells 301 = .ok (.iconst 0, 1) := by decide +kernel
theorem dL_tells_302 : decode cL_tells 302 = .ok (.ireturn, 1) := by decide +kernel
theorem dL_tells_303 : decode cL_tells 303 = .ok (.iload 5, 2) := by decide +kernel
theorem dL_tells_305 : decode cL_tells 305 = .ok (.iconst 2, 1) := by decide +kernel
theorem dL_tells_306 : decode cL_tells 306 = .ok (.invokestatic 104, 3) := by decide +kernel
theorem dL_tells_309 : decode cL_tells 309 = .ok (.ifCond .ne 52, 3) := by decide +kernel
theorem dL_tells_312 : decode cL_tells 312 = .ok (.aload_n 0, 1) := by decide +kernel
theorem dL_tells_313 : decode cL_tells 313 = .ok (.iconst 1, 1) := by decide +kernel
theorem dL_tells_314 : decode cL_tells 314 = .ok (.iload 5, 2) := by decide +kernel
theorem dL_tells_316 : decode cL_tells 316 = .ok (.iconst 1, 1) := by decide +kernel
theorem dL_tells_317 : decode cL_tells 317 = .ok (.ishr, 1) := by decide +kernel
theorem dL_tells_318 : decode cL_tells 318 = .ok (.bipush 127, 2) := by decide +kernel
theorem dL_tells_320 : decode cL_tells 320 = .ok (.invokestatic 104, 3) := by decide +kernel
theorem dL_tells_323 : decode cL_tells 323 = .ok (.iadd, 1) := by decide +kernel
theorem dL_tells_324 : decode cL_tells 324 = .ok (.iload 5, 2) := by decide +kernel
theorem dL_tells_326 : decode cL_tells 326 = .ok (.bipush 8, 2) := by decide +kernel
theorem dL_tells_328 : decode cL_tells 328 = .ok (.ishr, 1) := by decide +kernel
theorem dL_tells_329 : decode cL_tells 329 = .ok (.bipush 48, 2) := by decide +kernel
theorem dL_tells_331 : decode cL_tells 331 = .ok (.invokestatic 104, 3) := by decide +kernel
theorem dL_tells_334 : decode cL_tells 334 = .ok (.bipush 49, 2) := by decide +kernel
theorem dL_tells_336 : decode cL_tells 336 = .ok (.iload 5, 2) := by decide +kernel
theorem dL_tells_338 : decode cL_tells 338 = .ok (.bipush 14, 2) := by decide +kernel
theorem dL_tells_340 : decode cL_tells 340 = .ok (.ishr, 1) := by decide +kernel
theorem dL_tells_341 : decode cL_tells 341 = .ok (.bipush 48, 2) := by decide +kernel
