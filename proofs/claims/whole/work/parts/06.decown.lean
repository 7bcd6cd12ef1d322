theorem d_MB_init_0 : decode b_MB_init 0 = .ok (.aload_n 0, 1) := by decide +kernel
theorem d_MB_init_1 : decode b_MB_init 1 = .ok (.invokespecial 1, 3) := by decide +kernel
theorem d_MB_init_4 : decode b_MB_init 4 = .ok (.aload_n 0, 1) := by decide +kernel
theorem d_MB_init_5 : decode b_MB_init 5 = .ok (.new 7, 3) := by decide +kernel
theorem d_MB_init_8 : decode b_MB_init 8 = .ok (.dup, 1) := by decide +kernel
theorem d_MB_init_9 : decode b_MB_init 9 = .ok (.invokespecial 9, 3) := by decide +kernel
theorem d_MB_init_12 : decode b_MB_init 12 = .ok (.putfield 10, 3) := by decide +kernel
theorem d_MB_init_15 : decode b_MB_init 15 = .ok (.aload_n 0, 1) := by decide +kernel
theorem d_MB_init_16 : decode b_MB_init 16 = .ok (.new 7, 3) := by decide +kernel
theorem d_MB_init_19 : decode b_MB_init 19 = .ok (.dup, 1) := by decide +kernel
theorem d_MB_init_20 : decode b_MB_init 20 = .ok (.invokespecial 9, 3) := by decide +kernel
theorem d_MB_init_23 : decode b_MB_init 23 = .ok (.putfield 16, 3) := by decide +kernel
theorem d_MB_init_26 : decode b_MB_init 26 = .ok (.aload_n 0, 1) := by decide +kernel
theorem d_MB_init_27 : decode b_MB_init 27 = .ok (.iconst 4, 1) := by decide +kernel
theorem d_MB_init_28 : decode b_MB_init 28 = .ok (.newarray .boolean, 2) := by decide +kernel
theorem d_MB_init_30 : decode b_MB_init 30 = .ok (.putfield 19, 3) := by decide +kernel
theorem d_MB_init_33 : decode b_MB_init 33 = .ok (.aload_n 0, 1) := by decide +kernel
theorem d_MB_init_34 : decode b_MB_init 34 = .ok (.new 23, 3) := by decide +kernel
theorem d_MB_init_37 : decode b_MB_init 37 = .ok (.dup, 1) := by decide +kernel
theorem d_MB_init_38 : decode b_MB_init 38 = .ok (.invokespecial 25, 3) := by decide +kernel
theorem d_MB_init_41 : decode b_MB_init 41 = .ok (.putfield 26, 3) := by decide +kernel
theorem d_MB_init_44 : decode b_MB_init 44 = .ok (.aload_n 0, 1) := by decide +kernel
theorem d_MB_init_45 : decode b_MB_init 45 = .ok (.iconst (-1), 1) := by decide +kernel
theorem d_MB_init_46 : decode b_MB_init 46 = .ok (.putfield 30, 3) := by decide +kernel
theorem d_MB_init_49 : decode b_MB_init 49 = .ok (.return_, 1) := by decide +kernel
theorem d_Ma_init_0 : decode b_Ma_init 0 = .ok (.aload_n 0, 1) := by decide +kernel
theorem d_Ma_init_1 : decode b_Ma_init 1 = .ok (.invokespecial 3, 3) := by decide +kernel
theorem d_Ma_init_4 : decode b_Ma_init 4 = .ok (.aload_n 0, 1) := by decide +kernel
theorem d_Ma_init_5 : decode b_Ma_init 5 = .ok (.iconst 3, 1) := by decide +kernel
theorem d_Ma_init_6 : decode b_Ma_init 6 = .ok (.newarray .int, 2) := by decide +kernel
theorem d_Ma_init_8 : decode b_Ma_init 8 = .ok (.putfield 9, 3) := by decide +kernel
theorem d_Ma_init_11 : decode b_Ma_init 11 = .ok (.aload_n 0, 1) := by decide +kernel
theorem d_Ma_init_12 : decode b_Ma_init 12 = .ok (.iconst 3, 1) := by decide +kernel
theorem d_Ma_init_13 : decode b_Ma_init 13 = .ok (.newarray .int, 2) := by decide +kernel
theorem d_Ma_init_15 : decode b_Ma_init 15 = .ok (.putfield 15, 3) := by decide +kernel
theorem d_Ma_init_18 : decode b_Ma_init 18 = .ok (.aload_n 0, 1) := by decide +kernel
theorem d_Ma_init_19 : decode b_Ma_init 19 = .ok (.iconst 0, 1) := by decide +kernel
theorem d_Ma_init_20 : decode b_Ma_init 20 = .ok (.putfield 18, 3) := by decide +kernel
theorem d_Ma_init_23 : decode b_Ma_init 23 = .ok (.return_, 1) := by decide +kernel
theorem d_MB_matcher_0 : decode b_MB_matcher 0 = .ok (.iload_n 1, 1) := by decide +kernel
theorem d_MB_matcher_1 : decode b_MB_matcher 1 = .ok (.iconst 0, 1) := by decide +kernel
theorem d_MB_matcher_2 : decode b_MB_matcher 2 = .ok (.iconst 5, 1) := by decide +kernel
theorem d_MB_matcher_3 : decode b_MB_matcher 3 = .ok (.invokestatic 34, 3) := by decide +kernel
theorem d_MB_matcher_6 : decode b_MB_matcher 6 = .ok (.ifCond .ne 5, 3) := by decide +kernel
theorem d_MB_matcher_9 : decode b_MB_matcher 9 = .ok (.iconst (-1), 1) := by decide +kernel
theorem d_MB_matcher_10 : decode b_MB_matcher 10 = .ok (.ireturn, 1) := by decide +kernel
theorem d_MB_matcher_11 : decode b_MB_matcher 11 = .ok (.aload_n 0, 1) := by decide +kernel
theorem d_MB_matcher_12 : decode b_MB_matcher 12 = .ok (.getfield 26, 3) := by decide +kernel
theorem d_MB_matcher_15 : decode b_MB_matcher 15 = .ok (.getfield 38, 3) := by decide +kernel
theorem d_MB_matcher_18 : decode b_MB_matcher 18 = .ok (.iconst 3, 1) := by decide +kernel
theorem d_MB_matcher_19 : decode b_MB_matcher 19 = .ok (.if_icmp .lt 6, 3) := by decide +kernel
theorem d_MB_matcher_22 : decode b_MB_matcher 22 = .ok (.bipush (-2), 2) := by decide +kernel
theorem d_MB_matcher_24 : decode b_MB_matcher 24 = .ok (.ireturn, 1) := by decide +kernel
theorem d_MB_matcher_25 : decode b_MB_matcher 25 = .ok (.aload_n 0, 1) := by decide +kernel
theorem d_MB_matcher_26 : decode b_MB_matcher 26 = .ok (.getfield 26, 3) := by decide +kernel
theorem d_MB_matcher_29 : decode b_MB_matcher 29 = .ok (.iload_n 1, 1) := by decide +kernel
theorem d_MB_matcher_30 : decode b_MB_matcher 30 = .ok (.iload_n 2, 1) := by decide +kernel
theorem d_MB_matcher_31 : decode b_MB_matcher 31 = .ok (.invokevirtual 41, 3) := by decide +kernel
theorem d_MB_matcher_34 : decode b_MB_matcher 34 = .ok (.aload_n 0, 1) := by decide +kernel
theorem d_MB_matcher_35 : decode b_MB_matcher 35 = .ok (.getfield 26, 3) := by decide +kernel
theorem d_MB_matcher_38 : decode b_MB_matcher 38 = .ok (.getfield 38, 3) := by decide +kernel
theorem d_MB_matcher_41 : decode b_MB_matcher 41 = .ok (.ireturn, 1) := by decide +kernel
theorem d_MB_isWithin_0 : decode b_MB_isWithin 0 = .ok (.iload_n 0, 1) := by decide +kernel
theorem d_MB_isWithin_1 : decode b_MB_isWithin 1 = .ok (.iload_n 1, 1) := by decide +kernel
theorem d_MB_isWithin_2 : decode b_MB_isWithin 2 = .ok (.if_icmp .lt 12, 3) := by decide +kernel
theorem d_MB_isWithin_5 : decode b_MB_isWithin 5 = .ok (.iload_n 0, 1) := by decide +kernel
theorem d_MB_isWithin_6 : decode b_MB_isWithin 6 = .ok (.iload_n 2, 1) := by decide +kernel
theorem d_MB_isWithin_7 : decode b_MB_isWithin 7 = .ok (.if_icmp .gt 7, 3) := by decide +kernel
theorem d_MB_isWithin_10 : decode b_MB_isWithin 10 = .ok (.iconst 1, 1) := by decide +kernel
theorem d_MB_isWithin_11 : decode b_MB_isWithin 11 = .ok (.goto 4, 3) := by decide +kernel
theorem d_MB_isWithin_14 : decode b_MB_isWithin 14 = .ok (.iconst 0, 1) := by decide +kernel
theorem d_MB_isWithin_15 : decode b_MB_isWithin 15 = .ok (.ireturn, 1) := by decide +kernel
theorem d_Ma_add_0 : decode b_Ma_add 0 = .ok (.aload_n 0, 1) := by decide +kernel
theorem d_Ma_add_1 : decode b_Ma_add 1 = .ok (.getfield 18, 3) := by decide +kernel
theorem d_Ma_add_4 : decode b_Ma_add 4 = .ok (.iconst 3, 1) := by decide +kernel
theorem d_Ma_add_5 : decode b_Ma_add 5 = .ok (.if_icmp .ge 33, 3) := by decide +kernel
theorem d_Ma_add_8 : decode b_Ma_add 8 = .ok (.aload_n 0, 1) := by decide +kernel
theorem d_Ma_add_9 : decode b_Ma_add 9 = .ok (.getfield 9, 3) := by decide +kernel
theorem d_Ma_add_12 : decode b_Ma_add 12 = .ok (.aload_n 0, 1) := by decide +kernel
theorem d_Ma_add_13 : decode b_Ma_add 13 = .ok (.getfield 18, 3) := by decide +kernel
theorem d_Ma_add_16 : decode b_Ma_add 16 = .ok (.iload_n 1, 1) := by decide +kernel
theorem d_Ma_add_17 : decode b_Ma_add 17 = .ok (.iastore, 1) := by decide +kernel
theorem d_Ma_add_18 : decode b_Ma_add 18 = .ok (.aload_n 0, 1) := by decide +kernel
theorem d_Ma_add_19 : decode b_Ma_add 19 = .ok (.getfield 15, 3) := by decide +kernel
theorem d_Ma_add_22 : decode b_Ma_add 22 = .ok (.aload_n 0, 1) := by decide +kernel
theorem d_Ma_add_23 : decode b_Ma_add 23 = .ok (.getfield 18, 3) := by decide +kernel
theorem d_Ma_add_26 : decode b_Ma_add 26 = .ok (.iload_n 2, 1) := by decide +kernel
theorem d_Ma_add_27 : decode b_Ma_add 27 = .ok (.iastore, 1) := by decide +kernel
theorem d_Ma_add_28 : decode b_Ma_add 28 = .ok (.aload_n 0, 1) := by decide +kernel
theorem d_Ma_add_29 : decode b_Ma_add 29 = .ok (.dup, 1) := by decide +kernel
theorem d_Ma_add_30 : decode b_Ma_add 30 = .ok (.getfield 18, 3) := by decide +kernel
theorem d_Ma_add_33 : decode b_Ma_add 33 = .ok (.iconst 1, 1) := by decide +kernel
theorem d_Ma_add_34 : decode b_Ma_add 34 = .ok (.iadd, 1) := by decide +kernel
theorem d_Ma_add_35 : decode b_Ma_add 35 = .ok (.putfield 18, 3) := by decide +kernel
theorem d_Ma_add_38 : decode b_Ma_add 38 = .ok (.return_, 1) := by decide +kernel
theorem d_MB_drop_0 : decode b_MB_drop 0 = .ok (.aload_n 0, 1) := by decide +kernel
theorem d_MB_drop_1 : decode b_MB_drop 1 = .ok (.getfield 26, 3) := by decide +kernel
theorem d_MB_drop_4 : decode b_MB_drop 4 = .ok (.invokevirtual 45, 3) := by decide +kernel
theorem d_MB_drop_7 : decode b_MB_drop 7 = .ok (.return_, 1) := by decide +kernel
theorem d_Ma_clear_0 : decode b_Ma_clear 0 = .ok (.aload_n 0, 1) := by decide +kernel
theorem d_Ma_clear_1 : decode b_Ma_clear 1 = .ok (.iconst 0, 1) := by decide +kernel
theorem d_Ma_clear_2 : decode b_Ma_clear 2 = .ok (.putfield 18, 3) := by decide +kernel
theorem d_Ma_clear_5 : decode b_Ma_clear 5 = .ok (.return_, 1) := by decide +kernel
theorem d_MB_rule_0 : decode b_MB_rule 0 = .ok (.iload_n 1, 1) := by decide +kernel
theorem d_MB_rule_1 : decode b_MB_rule 1 = .ok (.iload_n 2, 1) := by decide +kernel
theorem d_MB_rule_2 : decode b_MB_rule 2 = .ok (.invokestatic 48, 3) := by decide +kernel
theorem d_MB_rule_5 : decode b_MB_rule 5 = .ok (.ifCond .eq 14, 3) := by decide +kernel
theorem d_MB_rule_8 : decode b_MB_rule 8 = .ok (.aload_n 0, 1) := by decide +kernel
theorem d_MB_rule_9 : decode b_MB_rule 9 = .ok (.getfield 26, 3) := by decide +kernel
theorem d_MB_rule_12 : decode b_MB_rule 12 = .ok (.iload_n 2, 1) := by decide +kernel
theorem d_MB_rule_13 : decode b_MB_rule 13 = .ok (.invokevirtual 52, 3) := by decide +kernel
theorem d_MB_rule_16 : decode b_MB_rule 16 = .ok (.ifCond .ne 5, 3) := by decide +kernel
theorem d_MB_rule_19 : decode b_MB_rule 19 = .ok (.iconst (-1), 1) := by decide +kernel
theorem d_MB_rule_20 : decode b_MB_rule 20 = .ok (.ireturn, 1) := by decide +kernel
theorem d_MB_rule_21 : decode b_MB_rule 21 = .ok (.aload_n 0, 1) := by decide +kernel
theorem d_MB_rule_22 : decode b_MB_rule 22 = .ok (.getfield 10, 3) := by decide +kernel
theorem d_MB_rule_25 : decode b_MB_rule 25 = .ok (.invokevirtual 56, 3) := by decide +kernel
theorem d_MB_rule_28 : decode b_MB_rule 28 = .ok (.bipush 24, 2) := by decide +kernel
theorem d_MB_rule_30 : decode b_MB_rule 30 = .ok (.if_icmp .lt 6, 3) := by decide +kernel
theorem d_MB_rule_33 : decode b_MB_rule 33 = .ok (.bipush (-2), 2) := by decide +kernel
theorem d_MB_rule_35 : decode b_MB_rule 35 = .ok (.ireturn, 1) := by decide +kernel
theorem d_MB_rule_36 : decode b_MB_rule 36 = .ok (.aload_n 0, 1) := by decide +kernel
theorem d_MB_rule_37 : decode b_MB_rule 37 = .ok (.getfield 10, 3) := by decide +kernel
theorem d_MB_rule_40 : decode b_MB_rule 40 = .ok (.new 59, 3) := by decide +kernel
theorem d_MB_rule_43 : decode b_MB_rule 43 = .ok (.dup, 1) := by decide +kernel
theorem d_MB_rule_44 : decode b_MB_rule 44 = .ok (.iload_n 1, 1) := by decide +kernel
theorem d_MB_rule_45 : decode b_MB_rule 45 = .ok (.iload_n 2, 1) := by decide +kernel
theorem d_MB_rule_46 : decode b_MB_rule 46 = .ok (.aload_n 0, 1) := by decide +kernel
theorem d_MB_rule_47 : decode b_MB_rule 47 = .ok (.getfield 26, 3) := by decide +kernel
theorem d_MB_rule_50 : decode b_MB_rule 50 = .ok (.invokespecial 61, 3) := by decide +kernel
theorem d_MB_rule_53 : decode b_MB_rule 53 = .ok (.invokevirtual 64, 3) := by decide +kernel
theorem d_MB_rule_56 : decode b_MB_rule 56 = .ok (.pop, 1) := by decide +kernel
theorem d_MB_rule_57 : decode b_MB_rule 57 = .ok (.aload_n 0, 1) := by decide +kernel
theorem d_MB_rule_58 : decode b_MB_rule 58 = .ok (.new 23, 3) := by decide +kernel
theorem d_MB_rule_61 : decode b_MB_rule 61 = .ok (.dup, 1) := by decide +kernel
theorem d_MB_rule_62 : decode b_MB_rule 62 = .ok (.invokespecial 25, 3) := by decide +kernel
theorem d_MB_rule_65 : decode b_MB_rule 65 = .ok (.putfield 26, 3) := by decide +kernel
theorem d_MB_rule_68 : decode b_MB_rule 68 = .ok (.aload_n 0, 1) := by decide +kernel
theorem d_MB_rule_69 : decode b_MB_rule 69 = .ok (.getfield 10, 3) := by decide +kernel
theorem d_MB_rule_72 : decode b_MB_rule 72 = .ok (.invokevirtual 56, 3) := by decide +kernel
theorem d_MB_rule_75 : decode b_MB_rule 75 = .ok (.iconst 1, 1) := by decide +kernel
theorem d_MB_rule_76 : decode b_MB_rule 76 = .ok (.isub, 1) := by decide +kernel
theorem d_MB_rule_77 : decode b_MB_rule 77 = .ok (.ireturn, 1) := by decide +kernel
theorem d_MB_isMethod_0 : decode b_MB_isMethod 0 = .ok (.iload_n 0, 1) := by decide +kernel
theorem d_MB_isMethod_1 : decode b_MB_isMethod 1 = .ok (.invokestatic 87, 3) := by decide +kernel
theorem d_MB_isMethod_4 : decode b_MB_isMethod 4 = .ok (.ifCond .eq 17, 3) := by decide +kernel
theorem d_MB_isMethod_7 : decode b_MB_isMethod 7 = .ok (.iload_n 1, 1) := by decide +kernel
theorem d_MB_isMethod_8 : decode b_MB_isMethod 8 = .ok (.iconst 0, 1) := by decide +kernel
theorem d_MB_isMethod_9 : decode b_MB_isMethod 9 = .ok (.bipush 7, 2) := by decide +kernel
theorem d_MB_isMethod_11 : decode b_MB_isMethod 11 = .ok (.invokestatic 34, 3) := by decide +kernel
theorem d_MB_isMethod_14 : decode b_MB_isMethod 14 = .ok (.ifCond .eq 7, 3) := by decide +kernel
theorem d_MB_isMethod_17 : decode b_MB_isMethod 17 = .ok (.iconst 1, 1) := by decide +kernel
theorem d_MB_isMethod_18 : decode b_MB_isMethod 18 = .ok (.goto 4, 3) := by decide +kernel
theorem d_MB_isMethod_21 : decode b_MB_isMethod 21 = .ok (.iconst 0, 1) := by decide +kernel
theorem d_MB_isMethod_22 : decode b_MB_isMethod 22 = .ok (.ireturn, 1) := by decide +kernel
theorem d_MB_isMock_0 : decode b_MB_isMock 0 = .ok (.iload_n 0, 1) := by decide +kernel
theorem d_MB_isMock_1 : decode b_MB_isMock 1 = .ok (.iconst 0, 1) := by decide +kernel
theorem d_MB_isMock_2 : decode b_MB_isMock 2 = .ok (.iconst 3, 1) := by decide +kernel
theorem d_MB_isMock_3 : decode b_MB_isMock 3 = .ok (.invokestatic 34, 3) := by decide +kernel
theorem d_MB_isMock_6 : decode b_MB_isMock 6 = .ok (.ireturn, 1) := by decide +kernel
theorem d_Ma_suits_0 : decode b_Ma_suits 0 = .ok (.aload_n 0, 1) := by decide +kernel
theorem d_Ma_suits_1 : decode b_Ma_suits 1 = .ok (.getfield 18, 3) := by decide +kernel
theorem d_Ma_suits_4 : decode b_Ma_suits 4 = .ok (.iload_n 1, 1) := by decide +kernel
theorem d_Ma_suits_5 : decode b_Ma_suits 5 = .ok (.invokestatic 22, 3) := by decide +kernel
theorem d_Ma_suits_8 : decode b_Ma_suits 8 = .ok (.if_icmp .ne 7, 3) := by decide +kernel
theorem d_Ma_suits_11 : decode b_Ma_suits 11 = .ok (.iconst 1, 1) := by decide +kernel
theorem d_Ma_suits_12 : decode b_Ma_suits 12 = .ok (.goto 4, 3) := by decide +kernel
theorem d_Ma_suits_15 : decode b_Ma_suits 15 = .ok (.iconst 0, 1) := by decide +kernel
theorem d_Ma_suits_16 : decode b_Ma_suits 16 = .ok (.ireturn, 1) := by decide +kernel
theorem d_MB_argumentsOf_0 : decode b_MB_argumentsOf 0 = .ok (.iload_n 0, 1) := by decide +kernel
theorem d_MB_argumentsOf_1 : decode b_MB_argumentsOf 1 = .ok (.iconst 4, 1) := by decide +kernel
theorem d_MB_argumentsOf_2 : decode b_MB_argumentsOf 2 = .ok (.irem, 1) := by decide +kernel
theorem d_MB_argumentsOf_3 : decode b_MB_argumentsOf 3 = .ok (.ireturn, 1) := by decide +kernel
theorem d_Ru_init_0 : decode b_Ru_init 0 = .ok (.aload_n 0, 1) := by decide +kernel
theorem d_Ru_init_1 : decode b_Ru_init 1 = .ok (.invokespecial 3, 3) := by decide +kernel
theorem d_Ru_init_4 : decode b_Ru_init 4 = .ok (.aload_n 0, 1) := by decide +kernel
theorem d_Ru_init_5 : decode b_Ru_init 5 = .ok (.iconst 4, 1) := by decide +kernel
theorem d_Ru_init_6 : decode b_Ru_init 6 = .ok (.newarray .int, 2) := by decide +kernel
theorem d_Ru_init_8 : decode b_Ru_init 8 = .ok (.putfield 9, 3) := by decide +kernel
theorem d_Ru_init_11 : decode b_Ru_init 11 = .ok (.aload_n 0, 1) := by decide +kernel
theorem d_Ru_init_12 : decode b_Ru_init 12 = .ok (.iconst 4, 1) := by decide +kernel
theorem d_Ru_init_13 : decode b_Ru_init 13 = .ok (.newarray .int, 2) := by decide +kernel
theorem d_Ru_init_15 : decode b_Ru_init 15 = .ok (.putfield 15, 3) := by decide +kernel
theorem d_Ru_init_18 : decode b_Ru_init 18 = .ok (.aload_n 0, 1) := by decide +kernel
theorem d_Ru_init_19 : decode b_Ru_init 19 = .ok (.iconst 0, 1) := by decide +kernel
theorem d_Ru_init_20 : decode b_Ru_init 20 = .ok (.putfield 18, 3) := by decide +kernel
theorem d_Ru_init_23 : decode b_Ru_init 23 = .ok (.aload_n 0, 1) := by decide +kernel
theorem d_Ru_init_24 : decode b_Ru_init 24 = .ok (.iconst 0, 1) := by decide +kernel
theorem d_Ru_init_25 : decode b_Ru_init 25 = .ok (.putfield 22, 3) := by decide +kernel
theorem d_Ru_init_28 : decode b_Ru_init 28 = .ok (.aload_n 0, 1) := by decide +kernel
theorem d_Ru_init_29 : decode b_Ru_init 29 = .ok (.iconst 1, 1) := by decide +kernel
theorem d_Ru_init_30 : decode b_Ru_init 30 = .ok (.putfield 25, 3) := by decide +kernel
theorem d_Ru_init_33 : decode b_Ru_init 33 = .ok (.aload_n 0, 1) := by decide +kernel
theorem d_Ru_init_34 : decode b_Ru_init 34 = .ok (.iload_n 1, 1) := by decide +kernel
theorem d_Ru_init_35 : decode b_Ru_init 35 = .ok (.putfield 29, 3) := by decide +kernel
theorem d_Ru_init_38 : decode b_Ru_init 38 = .ok (.aload_n 0, 1) := by decide +kernel
theorem d_Ru_init_39 : decode b_Ru_init 39 = .ok (.iload_n 2, 1) := by decide +kernel
theorem d_Ru_init_40 : decode b_Ru_init 40 = .ok (.putfield 32, 3) := by decide +kernel
theorem d_Ru_init_43 : decode b_Ru_init 43 = .ok (.aload_n 0, 1) := by decide +kernel
theorem d_Ru_init_44 : decode b_Ru_init 44 = .ok (.aload_n 3, 1) := by decide +kernel
theorem d_Ru_init_45 : decode b_Ru_init 45 = .ok (.putfield 35, 3) := by decide +kernel
theorem d_Ru_init_48 : decode b_Ru_init 48 = .ok (.return_, 1) := by decide +kernel
theorem d_MB_then_0 : decode b_MB_then 0 = .ok (.aload_n 0, 1) := by decide +kernel
theorem d_MB_then_1 : decode b_MB_then 1 = .ok (.iload_n 1, 1) := by decide +kernel
theorem d_MB_then_2 : decode b_MB_then 2 = .ok (.invokevirtual 67, 3) := by decide +kernel
theorem d_MB_then_5 : decode b_MB_then 5 = .ok (.ifCond .ne 5, 3) := by decide +kernel
theorem d_MB_then_8 : decode b_MB_then 8 = .ok (.iconst (-1), 1) := by decide +kernel
theorem d_MB_then_9 : decode b_MB_then 9 = .ok (.ireturn, 1) := by decide +kernel
theorem d_MB_then_10 : decode b_MB_then 10 = .ok (.aload_n 0, 1) := by decide +kernel
theorem d_MB_then_11 : decode b_MB_then 11 = .ok (.getfield 10, 3) := by decide +kernel
theorem d_MB_then_14 : decode b_MB_then 14 = .ok (.iload_n 1, 1) := by decide +kernel
theorem d_MB_then_15 : decode b_MB_then 15 = .ok (.invokevirtual 70, 3) := by decide +kernel
theorem d_MB_then_18 : decode b_MB_then 18 = .ok (.checkcast 59, 3) := by decide +kernel
theorem d_MB_then_21 : decode b_MB_then 21 = .ok (.astore 4, 2) := by decide +kernel
theorem d_MB_then_23 : decode b_MB_then 23 = .ok (.aload 4, 2) := by decide +kernel
theorem d_MB_then_25 : decode b_MB_then 25 = .ok (.getfield 74, 3) := by decide +kernel
theorem d_MB_then_28 : decode b_MB_then 28 = .ok (.ifCond .eq 13, 3) := by decide +kernel
theorem d_MB_then_31 : decode b_MB_then 31 = .ok (.aload 4, 2) := by decide +kernel
theorem d_MB_then_33 : decode b_MB_then 33 = .ok (.iload_n 2, 1) := by decide +kernel
theorem d_MB_then_34 : decode b_MB_then 34 = .ok (.iload_n 3, 1) := by decide +kernel
theorem d_MB_then_35 : decode b_MB_then 35 = .ok (.invokevirtual 78, 3) := by decide +kernel
theorem d_MB_then_38 : decode b_MB_then 38 = .ok (.ifCond .ne 5, 3) := by decide +kernel
theorem d_MB_then_41 : decode b_MB_then 41 = .ok (.iconst (-1), 1) := by decide +kernel
theorem d_MB_then_42 : decode b_MB_then 42 = .ok (.ireturn, 1) := by decide +kernel
theorem d_MB_then_43 : decode b_MB_then 43 = .ok (.aload 4, 2) := by decide +kernel
theorem d_MB_then_45 : decode b_MB_then 45 = .ok (.getfield 81, 3) := by decide +kernel
theorem d_MB_then_48 : decode b_MB_then 48 = .ok (.iconst 4, 1) := by decide +kernel
theorem d_MB_then_49 : decode b_MB_then 49 = .ok (.if_icmp .lt 6, 3) := by decide +kernel
theorem d_MB_then_52 : decode b_MB_then 52 = .ok (.bipush (-2), 2) := by decide +kernel
theorem d_MB_then_54 : decode b_MB_then 54 = .ok (.ireturn, 1) := by decide +kernel
theorem d_MB_then_55 : decode b_MB_then 55 = .ok (.aload 4, 2) := by decide +kernel
theorem d_MB_then_57 : decode b_MB_then 57 = .ok (.iload_n 2, 1) := by decide +kernel
theorem d_MB_then_58 : decode b_MB_then 58 = .ok (.iload_n 3, 1) := by decide +kernel
theorem d_MB_then_59 : decode b_MB_then 59 = .ok (.invokevirtual 84, 3) := by decide +kernel
theorem d_MB_then_62 : decode b_MB_then 62 = .ok (.aload 4, 2) := by decide +kernel
theorem d_MB_then_64 : decode b_MB_then 64 = .ok (.getfield 81, 3) := by decide +kernel
theorem d_MB_then_67 : decode b_MB_then 67 = .ok (.ireturn, 1) := by decide +kernel
theorem d_MB_isRule_0 : decode b_MB_isRule 0 = .ok (.iload_n 1, 1) := by decide +kernel
theorem d_MB_isRule_1 : decode b_MB_isRule 1 = .ok (.iconst 0, 1) := by decide +kernel
theorem d_MB_isRule_2 : decode b_MB_isRule 2 = .ok (.aload_n 0, 1) := by decide +kernel
theorem d_MB_isRule_3 : decode b_MB_isRule 3 = .ok (.getfield 10, 3) := by decide +kernel
theorem d_MB_isRule_6 : decode b_MB_isRule 6 = .ok (.invokevirtual 56, 3) := by decide +kernel
theorem d_MB_isRule_9 : decode b_MB_isRule 9 = .ok (.iconst 1, 1) := by decide +kernel
theorem d_MB_isRule_10 : decode b_MB_isRule 10 = .ok (.isub, 1) := by decide +kernel
theorem d_MB_isRule_11 : decode b_MB_isRule 11 = .ok (.invokestatic 34, 3) := by decide +kernel
theorem d_MB_isRule_14 : decode b_MB_isRule 14 = .ok (.ireturn, 1) := by decide +kernel
theorem d_Ru_allows_0 : decode b_Ru_allows 0 = .ok (.iload_n 1, 1) := by decide +kernel
theorem d_Ru_allows_1 : decode b_Ru_allows 1 = .ok (.tableswitch 85 0 4 #[35, 37, 35, 35, 52], 35) := by decide +kernel
theorem d_Ru_allows_36 : decode b_Ru_allows 36 = .ok (.iconst 1, 1) := by decide +kernel
theorem d_Ru_allows_37 : decode b_Ru_allows 37 = .ok (.ireturn, 1) := by decide +kernel
theorem d_Ru_allows_38 : decode b_Ru_allows 38 = .ok (.iload_n 2, 1) := by decide +kernel
theorem d_Ru_allows_39 : decode b_Ru_allows 39 = .ok (.iconst 0, 1) := by decide +kernel
theorem d_Ru_allows_40 : decode b_Ru_allows 40 = .ok (.aload_n 0, 1) := by decide +kernel
theorem d_Ru_allows_41 : decode b_Ru_allows 41 = .ok (.getfield 32, 3) := by decide +kernel
theorem d_Ru_allows_44 : decode b_Ru_allows 44 = .ok (.invokestatic 49, 3) := by decide +kernel
theorem d_Ru_allows_47 : decode b_Ru_allows 47 = .ok (.iconst 1, 1) := by decide +kernel
theorem d_Ru_allows_48 : decode b_Ru_allows 48 = .ok (.isub, 1) := by decide +kernel
theorem d_Ru_allows_49 : decode b_Ru_allows 49 = .ok (.invokestatic 53, 3) := by decide +kernel
theorem d_Ru_allows_52 : decode b_Ru_allows 52 = .ok (.ireturn, 1) := by decide +kernel
theorem d_Ru_allows_53 : decode b_Ru_allows 53 = .ok (.iload_n 2, 1) := by decide +kernel
theorem d_Ru_allows_54 : decode b_Ru_allows 54 = .ok (.iconst 0, 1) := by decide +kernel
theorem d_Ru_allows_55 : decode b_Ru_allows 55 = .ok (.bipush 31, 2) := by decide +kernel
theorem d_Ru_allows_57 : decode b_Ru_allows 57 = .ok (.invokestatic 53, 3) := by decide +kernel
theorem d_Ru_allows_60 : decode b_Ru_allows 60 = .ok (.ifCond .eq 24, 3) := by decide +kernel
theorem d_Ru_allows_63 : decode b_Ru_allows 63 = .ok (.iload_n 2, 1) := by decide +kernel
theorem d_Ru_allows_64 : decode b_Ru_allows 64 = .ok (.bipush 8, 2) := by decide +kernel
theorem d_Ru_allows_66 : decode b_Ru_allows 66 = .ok (.irem, 1) := by decide +kernel
theorem d_Ru_allows_67 : decode b_Ru_allows 67 = .ok (.invokestatic 49, 3) := by decide +kernel
theorem d_Ru_allows_70 : decode b_Ru_allows 70 = .ok (.aload_n 0, 1) := by decide +kernel
theorem d_Ru_allows_71 : decode b_Ru_allows 71 = .ok (.getfield 32, 3) := by decide +kernel
theorem d_Ru_allows_74 : decode b_Ru_allows 74 = .ok (.invokestatic 49, 3) := by decide +kernel
theorem d_Ru_allows_77 : decode b_Ru_allows 77 = .ok (.if_icmp .gt 7, 3) := by decide +kernel
theorem d_Ru_allows_80 : decode b_Ru_allows 80 = .ok (.iconst 1, 1) := by decide +kernel
theorem d_Ru_allows_81 : decode b_Ru_allows 81 = .ok (.goto 4, 3) := by decide +kernel
theorem d_Ru_allows_84 : decode b_Ru_allows 84 = .ok (.iconst 0, 1) := by decide +kernel
theorem d_Ru_allows_85 : decode b_Ru_allows 85 = .ok (.ireturn, 1) := by decide +kernel
theorem d_Ru_allows_86 : decode b_Ru_allows 86 = .ok (.iconst 0, 1) := by decide +kernel
theorem d_Ru_allows_87 : decode b_Ru_allows 87 = .ok (.ireturn, 1) := by decide +kernel
theorem d_Ru_addAction_0 : decode b_Ru_addAction 0 = .ok (.aload_n 0, 1) := by decide +kernel
theorem d_Ru_addAction_1 : decode b_Ru_addAction 1 = .ok (.getfield 18, 3) := by decide +kernel
theorem d_Ru_addAction_4 : decode b_Ru_addAction 4 = .ok (.iconst 4, 1) := by decide +kernel
theorem d_Ru_addAction_5 : decode b_Ru_addAction 5 = .ok (.if_icmp .ge 33, 3) := by decide +kernel
theorem d_Ru_addAction_8 : decode b_Ru_addAction 8 = .ok (.aload_n 0, 1) := by decide +kernel
theorem d_Ru_addAction_9 : decode b_Ru_addAction 9 = .ok (.getfield 9, 3) := by decide +kernel
theorem d_Ru_addAction_12 : decode b_Ru_addAction 12 = .ok (.aload_n 0, 1) := by decide +kernel
theorem d_Ru_addAction_13 : decode b_Ru_addAction 13 = .ok (.getfield 18, 3) := by decide +kernel
theorem d_Ru_addAction_16 : decode b_Ru_addAction 16 = .ok (.iload_n 1, 1) := by decide +kernel
theorem d_Ru_addAction_17 : decode b_Ru_addAction 17 = .ok (.iastore, 1) := by decide +kernel
theorem d_Ru_addAction_18 : decode b_Ru_addAction 18 = .ok (.aload_n 0, 1) := by decide +kernel
theorem d_Ru_addAction_19 : decode b_Ru_addAction 19 = .ok (.getfield 15, 3) := by decide +kernel
theorem d_Ru_addAction_22 : decode b_Ru_addAction 22 = .ok (.aload_n 0, 1) := by decide +kernel
theorem d_Ru_addAction_23 : decode b_Ru_addAction 23 = .ok (.getfield 18, 3) := by decide +kernel
theorem d_Ru_addAction_26 : decode b_Ru_addAction 26 = .ok (.iload_n 2, 1) := by decide +kernel
theorem d_Ru_addAction_27 : decode b_Ru_addAction 27 = .ok (.iastore, 1) := by decide +kernel
theorem d_Ru_addAction_28 : decode b_Ru_addAction 28 = .ok (.aload_n 0, 1) := by decide +kernel
theorem d_Ru_addAction_29 : decode b_Ru_addAction 29 = .ok (.dup, 1) := by decide +kernel
theorem d_Ru_addAction_30 : decode b_Ru_addAction 30 = .ok (.getfield 18, 3) := by decide +kernel
theorem d_Ru_addAction_33 : decode b_Ru_addAction 33 = .ok (.iconst 1, 1) := by decide +kernel
theorem d_Ru_addAction_34 : decode b_Ru_addAction 34 = .ok (.iadd, 1) := by decide +kernel
theorem d_Ru_addAction_35 : decode b_Ru_addAction 35 = .ok (.putfield 18, 3) := by decide +kernel
theorem d_Ru_addAction_38 : decode b_Ru_addAction 38 = .ok (.return_, 1) := by decide +kernel
theorem d_MB_strict_0 : decode b_MB_strict 0 = .ok (.iload_n 1, 1) := by decide +kernel
theorem d_MB_strict_1 : decode b_MB_strict 1 = .ok (.invokestatic 87, 3) := by decide +kernel
theorem d_MB_strict_4 : decode b_MB_strict 4 = .ok (.ifCond .ne 5, 3) := by decide +kernel
theorem d_MB_strict_7 : decode b_MB_strict 7 = .ok (.iconst (-1), 1) := by decide +kernel
theorem d_MB_strict_8 : decode b_MB_strict 8 = .ok (.ireturn, 1) := by decide +kernel
theorem d_MB_strict_9 : decode b_MB_strict 9 = .ok (.aload_n 0, 1) := by decide +kernel
theorem d_MB_strict_10 : decode b_MB_strict 10 = .ok (.getfield 19, 3) := by decide +kernel
theorem d_MB_strict_13 : decode b_MB_strict 13 = .ok (.iload_n 1, 1) := by decide +kernel
theorem d_MB_strict_14 : decode b_MB_strict 14 = .ok (.baload, 1) := by decide +kernel
theorem d_MB_strict_15 : decode b_MB_strict 15 = .ok (.istore_n 3, 1) := by decide +kernel
theorem d_MB_strict_16 : decode b_MB_strict 16 = .ok (.aload_n 0, 1) := by decide +kernel
theorem d_MB_strict_17 : decode b_MB_strict 17 = .ok (.getfield 19, 3) := by decide +kernel
theorem d_MB_strict_20 : decode b_MB_strict 20 = .ok (.iload_n 1, 1) := by decide +kernel
theorem d_MB_strict_21 : decode b_MB_strict 21 = .ok (.iload_n 2, 1) := by decide +kernel
theorem d_MB_strict_22 : decode b_MB_strict 22 = .ok (.bastore, 1) := by decide +kernel
theorem d_MB_strict_23 : decode b_MB_strict 23 = .ok (.iload_n 3, 1) := by decide +kernel
theorem d_MB_strict_24 : decode b_MB_strict 24 = .ok (.invokestatic 90, 3) := by decide +kernel
theorem d_MB_strict_27 : decode b_MB_strict 27 = .ok (.ireturn, 1) := by decide +kernel
theorem d_MB_asNumber_0 : decode b_MB_asNumber 0 = .ok (.iload_n 0, 1) := by decide +kernel
theorem d_MB_asNumber_1 : decode b_MB_asNumber 1 = .ok (.ifCond .eq 7, 3) := by decide +kernel
theorem d_MB_asNumber_4 : decode b_MB_asNumber 4 = .ok (.iconst 1, 1) := by decide +kernel
theorem d_MB_asNumber_5 : decode b_MB_asNumber 5 = .ok (.goto 4, 3) := by decide +kernel
theorem d_MB_asNumber_8 : decode b_MB_asNumber 8 = .ok (.iconst 0, 1) := by decide +kernel
theorem d_MB_asNumber_9 : decode b_MB_asNumber 9 = .ok (.ireturn, 1) := by decide +kernel
theorem d_MB_call_0 : decode b_MB_call 0 = .ok (.iload_n 1, 1) := by decide +kernel
theorem d_MB_call_1 : decode b_MB_call 1 = .ok (.iload_n 2, 1) := by decide +kernel
theorem d_MB_call_2 : decode b_MB_call 2 = .ok (.invokestatic 48, 3) := by decide +kernel
theorem d_MB_call_5 : decode b_MB_call 5 = .ok (.ifCond .eq 16, 3) := by decide +kernel
theorem d_MB_call_8 : decode b_MB_call 8 = .ok (.aload_n 0, 1) := by decide +kernel
theorem d_MB_call_9 : decode b_MB_call 9 = .ok (.getfield 16, 3) := by decide +kernel
theorem d_MB_call_12 : decode b_MB_call 12 = .ok (.invokevirtual 56, 3) := by decide +kernel
theorem d_MB_call_15 : decode b_MB_call 15 = .ok (.sipush 160, 3) := by decide +kernel
theorem d_MB_call_18 : decode b_MB_call 18 = .ok (.if_icmp .lt 7, 3) := by decide +kernel
theorem d_MB_call_21 : decode b_MB_call 21 = .ok (.ldc2_w 94, 3) := by decide +kernel
theorem d_MB_call_24 : decode b_MB_call 24 = .ok (.lreturn, 1) := by decide +kernel
theorem d_MB_call_25 : decode b_MB_call 25 = .ok (.aload_n 0, 1) := by decide +kernel
theorem d_MB_call_26 : decode b_MB_call 26 = .ok (.iload_n 1, 1) := by decide +kernel
theorem d_MB_call_27 : decode b_MB_call 27 = .ok (.iload_n 2, 1) := by decide +kernel
theorem d_MB_call_28 : decode b_MB_call 28 = .ok (.iload_n 3, 1) := by decide +kernel
theorem d_MB_call_29 : decode b_MB_call 29 = .ok (.iload 4, 2) := by decide +kernel
theorem d_MB_call_31 : decode b_MB_call 31 = .ok (.iload 5, 2) := by decide +kernel
theorem d_MB_call_33 : decode b_MB_call 33 = .ok (.iconst 0, 1) := by decide +kernel
theorem d_MB_call_34 : decode b_MB_call 34 = .ok (.iconst (-1), 1) := by decide +kernel
theorem d_MB_call_35 : decode b_MB_call 35 = .ok (.invokevirtual 96, 3) := by decide +kernel
theorem d_MB_call_38 : decode b_MB_call 38 = .ok (.lreturn, 1) := by decide +kernel
theorem d_MB_noteAndRespond_0 : decode b_MB_noteAndRespond 0 = .ok (.iload 6, 2) := by decide +kernel
theorem d_MB_noteAndRespond_2 : decode b_MB_noteAndRespond 2 = .ok (.iconst 3, 1) := by decide +kernel
theorem d_MB_noteAndRespond_3 : decode b_MB_noteAndRespond 3 = .ok (.if_icmp .gt 16, 3) := by decide +kernel
theorem d_MB_noteAndRespond_6 : decode b_MB_noteAndRespond 6 = .ok (.aload_n 0, 1) := by decide +kernel
theorem d_MB_noteAndRespond_7 : decode b_MB_noteAndRespond 7 = .ok (.getfield 16, 3) := by decide +kernel
theorem d_MB_noteAndRespond_10 : decode b_MB_noteAndRespond 10 = .ok (.invokevirtual 56, 3) := by decide +kernel
theorem d_MB_noteAndRespond_13 : decode b_MB_noteAndRespond 13 = .ok (.sipush 160, 3) := by decide +kernel
theorem d_MB_noteAndRespond_16 : decode b_MB_noteAndRespond 16 = .ok (.if_icmp .lt 7, 3) := by decide +kernel
theorem d_MB_noteAndRespond_19 : decode b_MB_noteAndRespond 19 = .ok (.ldc2_w 167, 3) := by decide +kernel
theorem d_MB_noteAndRespond_22 : decode b_MB_noteAndRespond 22 = .ok (.lreturn, 1) := by decide +kernel
theorem d_MB_noteAndRespond_23 : decode b_MB_noteAndRespond 23 = .ok (.aload_n 0, 1) := by decide +kernel
theorem d_MB_noteAndRespond_24 : decode b_MB_noteAndRespond 24 = .ok (.getfield 16, 3) := by decide +kernel
theorem d_MB_noteAndRespond_27 : decode b_MB_noteAndRespond 27 = .ok (.invokevirtual 56, 3) := by decide +kernel
theorem d_MB_noteAndRespond_30 : decode b_MB_noteAndRespond 30 = .ok (.istore 8, 2) := by decide +kernel
theorem d_MB_noteAndRespond_32 : decode b_MB_noteAndRespond 32 = .ok (.new 113, 3) := by decide +kernel
theorem d_MB_noteAndRespond_35 : decode b_MB_noteAndRespond 35 = .ok (.dup, 1) := by decide +kernel
theorem d_MB_noteAndRespond_36 : decode b_MB_noteAndRespond 36 = .ok (.iload_n 1, 1) := by decide +kernel
theorem d_MB_noteAndRespond_37 : decode b_MB_noteAndRespond 37 = .ok (.iload_n 2, 1) := by decide +kernel
theorem d_MB_noteAndRespond_38 : decode b_MB_noteAndRespond 38 = .ok (.iload_n 3, 1) := by decide +kernel
theorem d_MB_noteAndRespond_39 : decode b_MB_noteAndRespond 39 = .ok (.iload 4, 2) := by decide +kernel
theorem d_MB_noteAndRespond_41 : decode b_MB_noteAndRespond 41 = .ok (.iload 5, 2) := by decide +kernel
theorem d_MB_noteAndRespond_43 : decode b_MB_noteAndRespond 43 = .ok (.iload 6, 2) := by decide +kernel
theorem d_MB_noteAndRespond_45 : decode b_MB_noteAndRespond 45 = .ok (.iload 7, 2) := by decide +kernel
theorem d_MB_noteAndRespond_47 : decode b_MB_noteAndRespond 47 = .ok (.invokespecial 169, 3) := by decide +kernel
theorem d_MB_noteAndRespond_50 : decode b_MB_noteAndRespond 50 = .ok (.astore 9, 2) := by decide +kernel
theorem d_MB_noteAndRespond_52 : decode b_MB_noteAndRespond 52 = .ok (.aload_n 0, 1) := by decide +kernel
theorem d_MB_noteAndRespond_53 : decode b_MB_noteAndRespond 53 = .ok (.getfield 16, 3) := by decide +kernel
theorem d_MB_noteAndRespond_56 : decode b_MB_noteAndRespond 56 = .ok (.aload 9, 2) := by decide +kernel
theorem d_MB_noteAndRespond_58 : decode b_MB_noteAndRespond 58 = .ok (.invokevirtual 64, 3) := by decide +kernel
theorem d_MB_noteAndRespond_61 : decode b_MB_noteAndRespond 61 = .ok (.pop, 1) := by decide +kernel
theorem d_MB_noteAndRespond_62 : decode b_MB_noteAndRespond 62 = .ok (.aload 9, 2) := by decide +kernel
theorem d_MB_noteAndRespond_64 : decode b_MB_noteAndRespond 64 = .ok (.aload_n 0, 1) := by decide +kernel
theorem d_MB_noteAndRespond_65 : decode b_MB_noteAndRespond 65 = .ok (.aload 9, 2) := by decide +kernel
theorem d_MB_noteAndRespond_67 : decode b_MB_noteAndRespond 67 = .ok (.invokevirtual 172, 3) := by decide +kernel
theorem d_MB_noteAndRespond_70 : decode b_MB_noteAndRespond 70 = .ok (.putfield 154, 3) := by decide +kernel
theorem d_MB_noteAndRespond_73 : decode b_MB_noteAndRespond 73 = .ok (.aload 9, 2) := by decide +kernel
theorem d_MB_noteAndRespond_75 : decode b_MB_noteAndRespond 75 = .ok (.aload_n 0, 1) := by decide +kernel
theorem d_MB_noteAndRespond_76 : decode b_MB_noteAndRespond 76 = .ok (.aload 9, 2) := by decide +kernel
theorem d_MB_noteAndRespond_78 : decode b_MB_noteAndRespond 78 = .ok (.iload 8, 2) := by decide +kernel
theorem d_MB_noteAndRespond_80 : decode b_MB_noteAndRespond 80 = .ok (.iload 6, 2) := by decide +kernel
theorem d_MB_noteAndRespond_82 : decode b_MB_noteAndRespond 82 = .ok (.invokevirtual 176, 3) := by decide +kernel
theorem d_MB_noteAndRespond_85 : decode b_MB_noteAndRespond 85 = .ok (.putfield 157, 3) := by decide +kernel
theorem d_MB_noteAndRespond_88 : decode b_MB_noteAndRespond 88 = .ok (.aload 9, 2) := by decide +kernel
theorem d_MB_noteAndRespond_90 : decode b_MB_noteAndRespond 90 = .ok (.getfield 157, 3) := by decide +kernel
theorem d_MB_noteAndRespond_93 : decode b_MB_noteAndRespond 93 = .ok (.lreturn, 1) := by decide +kernel
theorem d_In_init_0 : decode b_In_init 0 = .ok (.aload_n 0, 1) := by decide +kernel
theorem d_In_init_1 : decode b_In_init 1 = .ok (.invokespecial 3, 3) := by decide +kernel
theorem d_In_init_4 : decode b_In_init 4 = .ok (.aload_n 0, 1) := by decide +kernel
theorem d_In_init_5 : decode b_In_init 5 = .ok (.iconst (-1), 1) := by decide +kernel
theorem d_In_init_6 : decode b_In_init 6 = .ok (.putfield 9, 3) := by decide +kernel
theorem d_In_init_9 : decode b_In_init 9 = .ok (.aload_n 0, 1) := by decide +kernel
theorem d_In_init_10 : decode b_In_init 10 = .ok (.ldc2_w 15, 3) := by decide +kernel
theorem d_In_init_13 : decode b_In_init 13 = .ok (.putfield 17, 3) := by decide +kernel
theorem d_In_init_16 : decode b_In_init 16 = .ok (.aload_n 0, 1) := by decide +kernel
theorem d_In_init_17 : decode b_In_init 17 = .ok (.iconst 0, 1) := by decide +kernel
theorem d_In_init_18 : decode b_In_init 18 = .ok (.putfield 21, 3) := by decide +kernel
theorem d_In_init_21 : decode b_In_init 21 = .ok (.aload_n 0, 1) := by decide +kernel
theorem d_In_init_22 : decode b_In_init 22 = .ok (.iconst 1, 1) := by decide +kernel
theorem d_In_init_23 : decode b_In_init 23 = .ok (.putfield 25, 3) := by decide +kernel
theorem d_In_init_26 : decode b_In_init 26 = .ok (.iload_n 2, 1) := by decide +kernel
theorem d_In_init_27 : decode b_In_init 27 = .ok (.invokestatic 28, 3) := by decide +kernel
theorem d_In_init_30 : decode b_In_init 30 = .ok (.istore 8, 2) := by decide +kernel
theorem d_In_init_32 : decode b_In_init 32 = .ok (.aload_n 0, 1) := by decide +kernel
theorem d_In_init_33 : decode b_In_init 33 = .ok (.iload_n 1, 1) := by decide +kernel
theorem d_In_init_34 : decode b_In_init 34 = .ok (.putfield 32, 3) := by decide +kernel
theorem d_In_init_37 : decode b_In_init 37 = .ok (.aload_n 0, 1) := by decide +kernel
theorem d_In_init_38 : decode b_In_init 38 = .ok (.iload_n 2, 1) := by decide +kernel
theorem d_In_init_39 : decode b_In_init 39 = .ok (.putfield 35, 3) := by decide +kernel
theorem d_In_init_42 : decode b_In_init 42 = .ok (.aload_n 0, 1) := by decide +kernel
theorem d_In_init_43 : decode b_In_init 43 = .ok (.iload 8, 2) := by decide +kernel
theorem d_In_init_45 : decode b_In_init 45 = .ok (.ifCond .le 7, 3) := by decide +kernel
theorem d_In_init_48 : decode b_In_init 48 = .ok (.iload_n 3, 1) := by decide +kernel
theorem d_In_init_49 : decode b_In_init 49 = .ok (.goto 4, 3) := by decide +kernel
theorem d_In_init_52 : decode b_In_init 52 = .ok (.iconst 0, 1) := by decide +kernel
theorem d_In_init_53 : decode b_In_init 53 = .ok (.putfield 38, 3) := by decide +kernel
theorem d_In_init_56 : decode b_In_init 56 = .ok (.aload_n 0, 1) := by decide +kernel
theorem d_In_init_57 : decode b_In_init 57 = .ok (.iload 8, 2) := by decide +kernel
theorem d_In_init_59 : decode b_In_init 59 = .ok (.iconst 1, 1) := by decide +kernel
theorem d_In_init_60 : decode b_In_init 60 = .ok (.if_icmp .le 8, 3) := by decide +kernel
theorem d_In_init_63 : decode b_In_init 63 = .ok (.iload 4, 2) := by decide +kernel
theorem d_In_init_65 : decode b_In_init 65 = .ok (.goto 4, 3) := by decide +kernel
theorem d_In_init_68 : decode b_In_init 68 = .ok (.iconst 0, 1) := by decide +kernel
theorem d_In_init_69 : decode b_In_init 69 = .ok (.putfield 41, 3) := by decide +kernel
theorem d_In_init_72 : decode b_In_init 72 = .ok (.aload_n 0, 1) := by decide +kernel
theorem d_In_init_73 : decode b_In_init 73 = .ok (.iload 8, 2) := by decide +kernel
theorem d_In_init_75 : decode b_In_init 75 = .ok (.iconst 2, 1) := by decide +kernel
theorem d_In_init_76 : decode b_In_init 76 = .ok (.if_icmp .le 8, 3) := by decide +kernel
theorem d_In_init_79 : decode b_In_init 79 = .ok (.iload 5, 2) := by decide +kernel
theorem d_In_init_81 : decode b_In_init 81 = .ok (.goto 4, 3) := by decide +kernel
theorem d_In_init_84 : decode b_In_init 84 = .ok (.iconst 0, 1) := by decide +kernel
theorem d_In_init_85 : decode b_In_init 85 = .ok (.putfield 44, 3) := by decide +kernel
theorem d_In_init_88 : decode b_In_init 88 = .ok (.aload_n 0, 1) := by decide +kernel
theorem d_In_init_89 : decode b_In_init 89 = .ok (.iload 6, 2) := by decide +kernel
theorem d_In_init_91 : decode b_In_init 91 = .ok (.putfield 47, 3) := by decide +kernel
theorem d_In_init_94 : decode b_In_init 94 = .ok (.aload_n 0, 1) := by decide +kernel
theorem d_In_init_95 : decode b_In_init 95 = .ok (.iload 7, 2) := by decide +kernel
theorem d_In_init_97 : decode b_In_init 97 = .ok (.putfield 50, 3) := by decide +kernel
theorem d_In_init_100 : decode b_In_init 100 = .ok (.return_, 1) := by decide +kernel
theorem d_MB_ruleNumberFor_0 : decode b_MB_ruleNumberFor 0 = .ok (.aload_n 0, 1) := by decide +kernel
theorem d_MB_ruleNumberFor_1 : decode b_MB_ruleNumberFor 1 = .ok (.getfield 10, 3) := by decide +kernel
theorem d_MB_ruleNumberFor_4 : decode b_MB_ruleNumberFor 4 = .ok (.invokevirtual 56, 3) := by decide +kernel
theorem d_MB_ruleNumberFor_7 : decode b_MB_ruleNumberFor 7 = .ok (.iconst 1, 1) := by decide +kernel
theorem d_MB_ruleNumberFor_8 : decode b_MB_ruleNumberFor 8 = .ok (.isub, 1) := by decide +kernel
theorem d_MB_ruleNumberFor_9 : decode b_MB_ruleNumberFor 9 = .ok (.istore_n 2, 1) := by decide +kernel
theorem d_MB_ruleNumberFor_10 : decode b_MB_ruleNumberFor 10 = .ok (.iload_n 2, 1) := by decide +kernel
theorem d_MB_ruleNumberFor_11 : decode b_MB_ruleNumberFor 11 = .ok (.ifCond .lt 29, 3) := by decide +kernel
theorem d_MB_ruleNumberFor_14 : decode b_MB_ruleNumberFor 14 = .ok (.aload_n 0, 1) := by decide +kernel
theorem d_MB_ruleNumberFor_15 : decode b_MB_ruleNumberFor 15 = .ok (.getfield 10, 3) := by decide +kernel
theorem d_MB_ruleNumberFor_18 : decode b_MB_ruleNumberFor 18 = .ok (.iload_n 2, 1) := by decide +kernel
theorem d_MB_ruleNumberFor_19 : decode b_MB_ruleNumberFor 19 = .ok (.invokevirtual 70, 3) := by decide +kernel
theorem d_MB_ruleNumberFor_22 : decode b_MB_ruleNumberFor 22 = .ok (.checkcast 59, 3) := by decide +kernel
theorem d_MB_ruleNumberFor_25 : decode b_MB_ruleNumberFor 25 = .ok (.aload_n 1, 1) := by decide +kernel
theorem d_MB_ruleNumberFor_26 : decode b_MB_ruleNumberFor 26 = .ok (.invokevirtual 201, 3) := by decide +kernel
theorem d_MB_ruleNumberFor_29 : decode b_MB_ruleNumberFor 29 = .ok (.ifCond .eq 5, 3) := by decide +kernel
theorem d_MB_ruleNumberFor_32 : decode b_MB_ruleNumberFor 32 = .ok (.iload_n 2, 1) := by decide +kernel
theorem d_MB_ruleNumberFor_33 : decode b_MB_ruleNumberFor 33 = .ok (.ireturn, 1) := by decide +kernel
theorem d_MB_ruleNumberFor_34 : decode b_MB_ruleNumberFor 34 = .ok (.iinc 2 (-1), 3) := by decide +kernel
theorem d_MB_ruleNumberFor_37 : decode b_MB_ruleNumberFor 37 = .ok (.goto (-27), 3) := by decide +kernel
theorem d_MB_ruleNumberFor_40 : decode b_MB_ruleNumberFor 40 = .ok (.iconst (-1), 1) := by decide +kernel
theorem d_MB_ruleNumberFor_41 : decode b_MB_ruleNumberFor 41 = .ok (.ireturn, 1) := by decide +kernel
theorem d_Ru_answersTo_0 : decode b_Ru_answersTo 0 = .ok (.aload_n 0, 1) := by decide +kernel
theorem d_Ru_answersTo_1 : decode b_Ru_answersTo 1 = .ok (.getfield 25, 3) := by decide +kernel
theorem d_Ru_answersTo_4 : decode b_Ru_answersTo 4 = .ok (.ifCond .eq 40, 3) := by decide +kernel
theorem d_Ru_answersTo_7 : decode b_Ru_answersTo 7 = .ok (.aload_n 0, 1) := by decide +kernel
theorem d_Ru_answersTo_8 : decode b_Ru_answersTo 8 = .ok (.getfield 29, 3) := by decide +kernel
theorem d_Ru_answersTo_11 : decode b_Ru_answersTo 11 = .ok (.aload_n 1, 1) := by decide +kernel
theorem d_Ru_answersTo_12 : decode b_Ru_answersTo 12 = .ok (.getfield 39, 3) := by decide +kernel
theorem d_Ru_answersTo_15 : decode b_Ru_answersTo 15 = .ok (.if_icmp .ne 29, 3) := by decide +kernel
theorem d_Ru_answersTo_18 : decode b_Ru_answersTo 18 = .ok (.aload_n 0, 1) := by decide +kernel
theorem d_Ru_answersTo_19 : decode b_Ru_answersTo 19 = .ok (.getfield 32, 3) := by decide +kernel
theorem d_Ru_answersTo_22 : decode b_Ru_answersTo 22 = .ok (.aload_n 1, 1) := by decide +kernel
theorem d_Ru_answersTo_23 : decode b_Ru_answersTo 23 = .ok (.getfield 42, 3) := by decide +kernel
theorem d_Ru_answersTo_26 : decode b_Ru_answersTo 26 = .ok (.if_icmp .ne 18, 3) := by decide +kernel
theorem d_Ru_answersTo_29 : decode b_Ru_answersTo 29 = .ok (.aload_n 0, 1) := by decide +kernel
theorem d_Ru_answersTo_30 : decode b_Ru_answersTo 30 = .ok (.getfield 35, 3) := by decide +kernel
theorem d_Ru_answersTo_33 : decode b_Ru_answersTo 33 = .ok (.aload_n 1, 1) := by decide +kernel
theorem d_Ru_answersTo_34 : decode b_Ru_answersTo 34 = .ok (.invokevirtual 43, 3) := by decide +kernel
theorem d_Ru_answersTo_37 : decode b_Ru_answersTo 37 = .ok (.ifCond .eq 7, 3) := by decide +kernel
theorem d_Ru_answersTo_40 : decode b_Ru_answersTo 40 = .ok (.iconst 1, 1) := by decide +kernel
theorem d_Ru_answersTo_41 : decode b_Ru_answersTo 41 = .ok (.goto 4, 3) := by decide +kernel
theorem d_Ru_answersTo_44 : decode b_Ru_answersTo 44 = .ok (.iconst 0, 1) := by decide +kernel
theorem d_Ru_answersTo_45 : decode b_Ru_answersTo 45 = .ok (.ireturn, 1) := by decide +kernel
theorem d_Ma_fit_0 : decode b_Ma_fit 0 = .ok (.iconst 0, 1) := by decide +kernel
theorem d_Ma_fit_1 : decode b_Ma_fit 1 = .ok (.istore_n 2, 1) := by decide +kernel
theorem d_Ma_fit_2 : decode b_Ma_fit 2 = .ok (.iload_n 2, 1) := by decide +kernel
theorem d_Ma_fit_3 : decode b_Ma_fit 3 = .ok (.aload_n 0, 1) := by decide +kernel
theorem d_Ma_fit_4 : decode b_Ma_fit 4 = .ok (.getfield 18, 3) := by decide +kernel
theorem d_Ma_fit_7 : decode b_Ma_fit 7 = .ok (.if_icmp .ge 34, 3) := by decide +kernel
theorem d_Ma_fit_10 : decode b_Ma_fit 10 = .ok (.aload_n 0, 1) := by decide +kernel
theorem d_Ma_fit_11 : decode b_Ma_fit 11 = .ok (.getfield 9, 3) := by decide +kernel
theorem d_Ma_fit_14 : decode b_Ma_fit 14 = .ok (.iload_n 2, 1) := by decide +kernel
theorem d_Ma_fit_15 : decode b_Ma_fit 15 = .ok (.iaload, 1) := by decide +kernel
theorem d_Ma_fit_16 : decode b_Ma_fit 16 = .ok (.aload_n 0, 1) := by decide +kernel
theorem d_Ma_fit_17 : decode b_Ma_fit 17 = .ok (.getfield 15, 3) := by decide +kernel
theorem d_Ma_fit_20 : decode b_Ma_fit 20 = .ok (.iload_n 2, 1) := by decide +kernel
theorem d_Ma_fit_21 : decode b_Ma_fit 21 = .ok (.iaload, 1) := by decide +kernel
theorem d_Ma_fit_22 : decode b_Ma_fit 22 = .ok (.aload_n 1, 1) := by decide +kernel
theorem d_Ma_fit_23 : decode b_Ma_fit 23 = .ok (.iload_n 2, 1) := by decide +kernel
theorem d_Ma_fit_24 : decode b_Ma_fit 24 = .ok (.invokevirtual 26, 3) := by decide +kernel
theorem d_Ma_fit_27 : decode b_Ma_fit 27 = .ok (.invokestatic 31, 3) := by decide +kernel
theorem d_Ma_fit_30 : decode b_Ma_fit 30 = .ok (.ifCond .ne 5, 3) := by decide +kernel
theorem d_Ma_fit_33 : decode b_Ma_fit 33 = .ok (.iconst 0, 1) := by decide +kernel
theorem d_Ma_fit_34 : decode b_Ma_fit 34 = .ok (.ireturn, 1) := by decide +kernel
theorem d_Ma_fit_35 : decode b_Ma_fit 35 = .ok (.iinc 2 1, 3) := by decide +kernel
theorem d_Ma_fit_38 : decode b_Ma_fit 38 = .ok (.goto (-36), 3) := by decide +kernel
theorem d_Ma_fit_41 : decode b_Ma_fit 41 = .ok (.iconst 1, 1) := by decide +kernel
theorem d_Ma_fit_42 : decode b_Ma_fit 42 = .ok (.ireturn, 1) := by decide +kernel
theorem d_In_argument_0 : decode b_In_argument 0 = .ok (.iload_n 1, 1) := by decide +kernel
theorem d_In_argument_1 : decode b_In_argument 1 = .ok (.lookupswitch 37 #[(0, 27), (1, 32)], 27) := by decide +kernel
theorem d_In_argument_28 : decode b_In_argument 28 = .ok (.aload_n 0, 1) := by decide +kernel
theorem d_In_argument_29 : decode b_In_argument 29 = .ok (.getfield 38, 3) := by decide +kernel
theorem d_In_argument_32 : decode b_In_argument 32 = .ok (.ireturn, 1) := by decide +kernel
theorem d_In_argument_33 : decode b_In_argument 33 = .ok (.aload_n 0, 1) := by decide +kernel
theorem d_In_argument_34 : decode b_In_argument 34 = .ok (.getfield 41, 3) := by decide +kernel
theorem d_In_argument_37 : decode b_In_argument 37 = .ok (.ireturn, 1) := by decide +kernel
theorem d_In_argument_38 : decode b_In_argument 38 = .ok (.aload_n 0, 1) := by decide +kernel
theorem d_In_argument_39 : decode b_In_argument 39 = .ok (.getfield 44, 3) := by decide +kernel
theorem d_In_argument_42 : decode b_In_argument 42 = .ok (.ireturn, 1) := by decide +kernel
theorem d_Ma_fitsOne_0 : decode b_Ma_fitsOne 0 = .ok (.iload_n 0, 1) := by decide +kernel
theorem d_Ma_fitsOne_1 : decode b_Ma_fitsOne 1 = .ok (.tableswitch 98 1 5 #[35, 46, 57, 68, 79], 35) := by decide +kernel
theorem d_Ma_fitsOne_36 : decode b_Ma_fitsOne 36 = .ok (.iload_n 2, 1) := by decide +kernel
theorem d_Ma_fitsOne_37 : decode b_Ma_fitsOne 37 = .ok (.iload_n 1, 1) := by decide +kernel
theorem d_Ma_fitsOne_38 : decode b_Ma_fitsOne 38 = .ok (.if_icmp .ne 7, 3) := by decide +kernel
theorem d_Ma_fitsOne_41 : decode b_Ma_fitsOne 41 = .ok (.iconst 1, 1) := by decide +kernel
theorem d_Ma_fitsOne_42 : decode b_Ma_fitsOne 42 = .ok (.goto 4, 3) := by decide +kernel
theorem d_Ma_fitsOne_45 : decode b_Ma_fitsOne 45 = .ok (.iconst 0, 1) := by decide +kernel
theorem d_Ma_fitsOne_46 : decode b_Ma_fitsOne 46 = .ok (.ireturn, 1) := by decide +kernel
theorem d_Ma_fitsOne_47 : decode b_Ma_fitsOne 47 = .ok (.iload_n 2, 1) := by decide +kernel
theorem d_Ma_fitsOne_48 : decode b_Ma_fitsOne 48 = .ok (.iload_n 1, 1) := by decide +kernel
theorem d_Ma_fitsOne_49 : decode b_Ma_fitsOne 49 = .ok (.if_icmp .eq 7, 3) := by decide +kernel
theorem d_Ma_fitsOne_52 : decode b_Ma_fitsOne 52 = .ok (.iconst 1, 1) := by decide +kernel
theorem d_Ma_fitsOne_53 : decode b_Ma_fitsOne 53 = .ok (.goto 4, 3) := by decide +kernel
theorem d_Ma_fitsOne_56 : decode b_Ma_fitsOne 56 = .ok (.iconst 0, 1) := by decide +kernel
theorem d_Ma_fitsOne_57 : decode b_Ma_fitsOne 57 = .ok (.ireturn, 1) := by decide +kernel
theorem d_Ma_fitsOne_58 : decode b_Ma_fitsOne 58 = .ok (.iload_n 2, 1) := by decide +kernel
theorem d_Ma_fitsOne_59 : decode b_Ma_fitsOne 59 = .ok (.iload_n 1, 1) := by decide +kernel
theorem d_Ma_fitsOne_60 : decode b_Ma_fitsOne 60 = .ok (.if_icmp .ge 7, 3) := by decide +kernel
theorem d_Ma_fitsOne_63 : decode b_Ma_fitsOne 63 = .ok (.iconst 1, 1) := by decide +kernel
theorem d_Ma_fitsOne_64 : decode b_Ma_fitsOne 64 = .ok (.goto 4, 3) := by decide +kernel
theorem d_Ma_fitsOne_67 : decode b_Ma_fitsOne 67 = .ok (.iconst 0, 1) := by decide +kernel
theorem d_Ma_fitsOne_68 : decode b_Ma_fitsOne 68 = .ok (.ireturn, 1) := by decide +kernel
theorem d_Ma_fitsOne_69 : decode b_Ma_fitsOne 69 = .ok (.iload_n 2, 1) := by decide +kernel
theorem d_Ma_fitsOne_70 : decode b_Ma_fitsOne 70 = .ok (.iload_n 1, 1) := by decide +kernel
theorem d_Ma_fitsOne_71 : decode b_Ma_fitsOne 71 = .ok (.if_icmp .le 7, 3) := by decide +kernel
theorem d_Ma_fitsOne_74 : decode b_Ma_fitsOne 74 = .ok (.iconst 1, 1) := by decide +kernel
theorem d_Ma_fitsOne_75 : decode b_Ma_fitsOne 75 = .ok (.goto 4, 3) := by decide +kernel
theorem d_Ma_fitsOne_78 : decode b_Ma_fitsOne 78 = .ok (.iconst 0, 1) := by decide +kernel
theorem d_Ma_fitsOne_79 : decode b_Ma_fitsOne 79 = .ok (.ireturn, 1) := by decide +kernel
theorem d_Ma_fitsOne_80 : decode b_Ma_fitsOne 80 = .ok (.iload_n 2, 1) := by decide +kernel
theorem d_Ma_fitsOne_81 : decode b_Ma_fitsOne 81 = .ok (.iconst 4, 1) := by decide +kernel
theorem d_Ma_fitsOne_82 : decode b_Ma_fitsOne 82 = .ok (.invokestatic 35, 3) := by decide +kernel
theorem d_Ma_fitsOne_85 : decode b_Ma_fitsOne 85 = .ok (.iload_n 1, 1) := by decide +kernel
theorem d_Ma_fitsOne_86 : decode b_Ma_fitsOne 86 = .ok (.iconst 4, 1) := by decide +kernel
theorem d_Ma_fitsOne_87 : decode b_Ma_fitsOne 87 = .ok (.invokestatic 35, 3) := by decide +kernel
theorem d_Ma_fitsOne_90 : decode b_Ma_fitsOne 90 = .ok (.if_icmp .ne 7, 3) := by decide +kernel
theorem d_Ma_fitsOne_93 : decode b_Ma_fitsOne 93 = .ok (.iconst 1, 1) := by decide +kernel
theorem d_Ma_fitsOne_94 : decode b_Ma_fitsOne 94 = .ok (.goto 4, 3) := by decide +kernel
theorem d_Ma_fitsOne_97 : decode b_Ma_fitsOne 97 = .ok (.iconst 0, 1) := by decide +kernel
theorem d_Ma_fitsOne_98 : decode b_Ma_fitsOne 98 = .ok (.ireturn, 1) := by decide +kernel
theorem d_Ma_fitsOne_99 : decode b_Ma_fitsOne 99 = .ok (.iconst 1, 1) := by decide +kernel
theorem d_Ma_fitsOne_100 : decode b_Ma_fitsOne 100 = .ok (.ireturn, 1) := by decide +kernel
theorem d_MB_respond_0 : decode b_MB_respond 0 = .ok (.aload_n 0, 1) := by decide +kernel
theorem d_MB_respond_1 : decode b_MB_respond 1 = .ok (.aload_n 1, 1) := by decide +kernel
theorem d_MB_respond_2 : decode b_MB_respond 2 = .ok (.getfield 154, 3) := by decide +kernel
theorem d_MB_respond_5 : decode b_MB_respond 5 = .ok (.invokevirtual 67, 3) := by decide +kernel
theorem d_MB_respond_8 : decode b_MB_respond 8 = .ok (.ifCond .ne 23, 3) := by decide +kernel
theorem d_MB_respond_11 : decode b_MB_respond 11 = .ok (.aload_n 0, 1) := by decide +kernel
theorem d_MB_respond_12 : decode b_MB_respond 12 = .ok (.getfield 19, 3) := by decide +kernel
theorem d_MB_respond_15 : decode b_MB_respond 15 = .ok (.aload_n 1, 1) := by decide +kernel
theorem d_MB_respond_16 : decode b_MB_respond 16 = .ok (.getfield 119, 3) := by decide +kernel
theorem d_MB_respond_19 : decode b_MB_respond 19 = .ok (.baload, 1) := by decide +kernel
theorem d_MB_respond_20 : decode b_MB_respond 20 = .ok (.ifCond .eq 9, 3) := by decide +kernel
theorem d_MB_respond_23 : decode b_MB_respond 23 = .ok (.ldc2_w 180, 3) := by decide +kernel
theorem d_MB_respond_26 : decode b_MB_respond 26 = .ok (.goto 4, 3) := by decide +kernel
theorem d_MB_respond_29 : decode b_MB_respond 29 = .ok (.lconst 0, 1) := by decide +kernel
theorem d_MB_respond_30 : decode b_MB_respond 30 = .ok (.lreturn, 1) := by decide +kernel
theorem d_MB_respond_31 : decode b_MB_respond 31 = .ok (.aload_n 0, 1) := by decide +kernel
theorem d_MB_respond_32 : decode b_MB_respond 32 = .ok (.getfield 10, 3) := by decide +kernel
theorem d_MB_respond_35 : decode b_MB_respond 35 = .ok (.aload_n 1, 1) := by decide +kernel
theorem d_MB_respond_36 : decode b_MB_respond 36 = .ok (.getfield 154, 3) := by decide +kernel
theorem d_MB_respond_39 : decode b_MB_respond 39 = .ok (.invokevirtual 70, 3) := by decide +kernel
theorem d_MB_respond_42 : decode b_MB_respond 42 = .ok (.checkcast 59, 3) := by decide +kernel
theorem d_MB_respond_45 : decode b_MB_respond 45 = .ok (.astore 4, 2) := by decide +kernel
theorem d_MB_respond_47 : decode b_MB_respond 47 = .ok (.aload 4, 2) := by decide +kernel
theorem d_MB_respond_49 : decode b_MB_respond 49 = .ok (.getfield 122, 3) := by decide +kernel
theorem d_MB_respond_52 : decode b_MB_respond 52 = .ok (.istore 5, 2) := by decide +kernel
theorem d_MB_respond_54 : decode b_MB_respond 54 = .ok (.aload 4, 2) := by decide +kernel
theorem d_MB_respond_56 : decode b_MB_respond 56 = .ok (.invokevirtual 182, 3) := by decide +kernel
theorem d_MB_respond_59 : decode b_MB_respond 59 = .ok (.istore 6, 2) := by decide +kernel
theorem d_MB_respond_61 : decode b_MB_respond 61 = .ok (.aload 4, 2) := by decide +kernel
theorem d_MB_respond_63 : decode b_MB_respond 63 = .ok (.dup, 1) := by decide +kernel
theorem d_MB_respond_64 : decode b_MB_respond 64 = .ok (.getfield 122, 3) := by decide +kernel
theorem d_MB_respond_67 : decode b_MB_respond 67 = .ok (.iconst 1, 1) := by decide +kernel
theorem d_MB_respond_68 : decode b_MB_respond 68 = .ok (.iadd, 1) := by decide +kernel
theorem d_MB_respond_69 : decode b_MB_respond 69 = .ok (.putfield 122, 3) := by decide +kernel
theorem d_MB_respond_72 : decode b_MB_respond 72 = .ok (.aload 4, 2) := by decide +kernel
theorem d_MB_respond_74 : decode b_MB_respond 74 = .ok (.getfield 185, 3) := by decide +kernel
theorem d_MB_respond_77 : decode b_MB_respond 77 = .ok (.iload 6, 2) := by decide +kernel
theorem d_MB_respond_79 : decode b_MB_respond 79 = .ok (.iaload, 1) := by decide +kernel
theorem d_MB_respond_80 : decode b_MB_respond 80 = .ok (.istore 7, 2) := by decide +kernel
theorem d_MB_respond_82 : decode b_MB_respond 82 = .ok (.aload 4, 2) := by decide +kernel
theorem d_MB_respond_84 : decode b_MB_respond 84 = .ok (.getfield 189, 3) := by decide +kernel
theorem d_MB_respond_87 : decode b_MB_respond 87 = .ok (.iload 6, 2) := by decide +kernel
theorem d_MB_respond_89 : decode b_MB_respond 89 = .ok (.iaload, 1) := by decide +kernel
theorem d_MB_respond_90 : decode b_MB_respond 90 = .ok (.tableswitch 60 1 4 #[30, 38, 42, 50], 30) := by decide +kernel
theorem d_MB_respond_120 : decode b_MB_respond 120 = .ok (.aload_n 1, 1) := by decide +kernel
theorem d_MB_respond_121 : decode b_MB_respond 121 = .ok (.iload 7, 2) := by decide +kernel
theorem d_MB_respond_123 : decode b_MB_respond 123 = .ok (.invokevirtual 192, 3) := by decide +kernel
theorem d_MB_respond_126 : decode b_MB_respond 126 = .ok (.i2l, 1) := by decide +kernel
theorem d_MB_respond_127 : decode b_MB_respond 127 = .ok (.lreturn, 1) := by decide +kernel
theorem d_MB_respond_128 : decode b_MB_respond 128 = .ok (.iload 5, 2) := by decide +kernel
theorem d_MB_respond_130 : decode b_MB_respond 130 = .ok (.i2l, 1) := by decide +kernel
theorem d_MB_respond_131 : decode b_MB_respond 131 = .ok (.lreturn, 1) := by decide +kernel
theorem d_MB_respond_132 : decode b_MB_respond 132 = .ok (.ldc2_w 195, 3) := by decide +kernel
theorem d_MB_respond_135 : decode b_MB_respond 135 = .ok (.iload 7, 2) := by decide +kernel
theorem d_MB_respond_137 : decode b_MB_respond 137 = .ok (.i2l, 1) := by decide +kernel
theorem d_MB_respond_138 : decode b_MB_respond 138 = .ok (.ladd, 1) := by decide +kernel
theorem d_MB_respond_139 : decode b_MB_respond 139 = .ok (.lreturn, 1) := by decide +kernel
theorem d_MB_respond_140 : decode b_MB_respond 140 = .ok (.aload_n 0, 1) := by decide +kernel
theorem d_MB_respond_141 : decode b_MB_respond 141 = .ok (.aload_n 1, 1) := by decide +kernel
theorem d_MB_respond_142 : decode b_MB_respond 142 = .ok (.iload_n 2, 1) := by decide +kernel
theorem d_MB_respond_143 : decode b_MB_respond 143 = .ok (.iload 7, 2) := by decide +kernel
theorem d_MB_respond_145 : decode b_MB_respond 145 = .ok (.iload_n 3, 1) := by decide +kernel
theorem d_MB_respond_146 : decode b_MB_respond 146 = .ok (.invokevirtual 197, 3) := by decide +kernel
theorem d_MB_respond_149 : decode b_MB_respond 149 = .ok (.lreturn, 1) := by decide +kernel
theorem d_MB_respond_150 : decode b_MB_respond 150 = .ok (.iload 7, 2) := by decide +kernel
theorem d_MB_respond_152 : decode b_MB_respond 152 = .ok (.i2l, 1) := by decide +kernel
theorem d_MB_respond_153 : decode b_MB_respond 153 = .ok (.lreturn, 1) := by decide +kernel
theorem d_Ru_placeInTurn_0 : decode b_Ru_placeInTurn 0 = .ok (.iconst 0, 1) := by decide +kernel
theorem d_Ru_placeInTurn_1 : decode b_Ru_placeInTurn 1 = .ok (.aload_n 0, 1) := by decide +kernel
theorem d_Ru_placeInTurn_2 : decode b_Ru_placeInTurn 2 = .ok (.getfield 22, 3) := by decide +kernel
theorem d_Ru_placeInTurn_5 : decode b_Ru_placeInTurn 5 = .ok (.aload_n 0, 1) := by decide +kernel
theorem d_Ru_placeInTurn_6 : decode b_Ru_placeInTurn 6 = .ok (.getfield 18, 3) := by decide +kernel
theorem d_Ru_placeInTurn_9 : decode b_Ru_placeInTurn 9 = .ok (.iconst 1, 1) := by decide +kernel
theorem d_Ru_placeInTurn_10 : decode b_Ru_placeInTurn 10 = .ok (.isub, 1) := by decide +kernel
theorem d_Ru_placeInTurn_11 : decode b_Ru_placeInTurn 11 = .ok (.invokestatic 57, 3) := by decide +kernel
theorem d_Ru_placeInTurn_14 : decode b_Ru_placeInTurn 14 = .ok (.invokestatic 63, 3) := by decide +kernel
theorem d_Ru_placeInTurn_17 : decode b_Ru_placeInTurn 17 = .ok (.ireturn, 1) := by decide +kernel
theorem d_MB_pass_0 : decode b_MB_pass 0 = .ok (.iload_n 3, 1) := by decide +kernel
theorem d_MB_pass_1 : decode b_MB_pass 1 = .ok (.bipush 8, 2) := by decide +kernel
theorem d_MB_pass_3 : decode b_MB_pass 3 = .ok (.idiv, 1) := by decide +kernel
theorem d_MB_pass_4 : decode b_MB_pass 4 = .ok (.istore 5, 2) := by decide +kernel
theorem d_MB_pass_6 : decode b_MB_pass 6 = .ok (.iload_n 3, 1) := by decide +kernel
theorem d_MB_pass_7 : decode b_MB_pass 7 = .ok (.bipush 8, 2) := by decide +kernel
theorem d_MB_pass_9 : decode b_MB_pass 9 = .ok (.irem, 1) := by decide +kernel
theorem d_MB_pass_10 : decode b_MB_pass 10 = .ok (.istore 6, 2) := by decide +kernel
theorem d_MB_pass_12 : decode b_MB_pass 12 = .ok (.aload_n 0, 1) := by decide +kernel
theorem d_MB_pass_13 : decode b_MB_pass 13 = .ok (.iload 5, 2) := by decide +kernel
theorem d_MB_pass_15 : decode b_MB_pass 15 = .ok (.iload 6, 2) := by decide +kernel
theorem d_MB_pass_17 : decode b_MB_pass 17 = .ok (.aload_n 1, 1) := by decide +kernel
theorem d_MB_pass_18 : decode b_MB_pass 18 = .ok (.getfield 139, 3) := by decide +kernel
theorem d_MB_pass_21 : decode b_MB_pass 21 = .ok (.aload_n 1, 1) := by decide +kernel
theorem d_MB_pass_22 : decode b_MB_pass 22 = .ok (.getfield 142, 3) := by decide +kernel
theorem d_MB_pass_25 : decode b_MB_pass 25 = .ok (.aload_n 1, 1) := by decide +kernel
theorem d_MB_pass_26 : decode b_MB_pass 26 = .ok (.getfield 145, 3) := by decide +kernel
theorem d_MB_pass_29 : decode b_MB_pass 29 = .ok (.iload 4, 2) := by decide +kernel
theorem d_MB_pass_31 : decode b_MB_pass 31 = .ok (.iconst 1, 1) := by decide +kernel
theorem d_MB_pass_32 : decode b_MB_pass 32 = .ok (.iadd, 1) := by decide +kernel
theorem d_MB_pass_33 : decode b_MB_pass 33 = .ok (.iload_n 2, 1) := by decide +kernel
theorem d_MB_pass_34 : decode b_MB_pass 34 = .ok (.invokevirtual 96, 3) := by decide +kernel
theorem d_MB_pass_37 : decode b_MB_pass 37 = .ok (.lreturn, 1) := by decide +kernel
theorem d_MB_verify_0 : decode b_MB_verify 0 = .ok (.iload_n 1, 1) := by decide +kernel
theorem d_MB_verify_1 : decode b_MB_verify 1 = .ok (.iload_n 2, 1) := by decide +kernel
theorem d_MB_verify_2 : decode b_MB_verify 2 = .ok (.invokestatic 48, 3) := by decide +kernel
theorem d_MB_verify_5 : decode b_MB_verify 5 = .ok (.ifCond .eq 23, 3) := by decide +kernel
theorem d_MB_verify_8 : decode b_MB_verify 8 = .ok (.iload_n 3, 1) := by decide +kernel
theorem d_MB_verify_9 : decode b_MB_verify 9 = .ok (.iconst 0, 1) := by decide +kernel
theorem d_MB_verify_10 : decode b_MB_verify 10 = .ok (.iconst 2, 1) := by decide +kernel
theorem d_MB_verify_11 : decode b_MB_verify 11 = .ok (.invokestatic 34, 3) := by decide +kernel
theorem d_MB_verify_14 : decode b_MB_verify 14 = .ok (.ifCond .eq 14, 3) := by decide +kernel
theorem d_MB_verify_17 : decode b_MB_verify 17 = .ok (.aload_n 0, 1) := by decide +kernel
theorem d_MB_verify_18 : decode b_MB_verify 18 = .ok (.getfield 26, 3) := by decide +kernel
theorem d_MB_verify_21 : decode b_MB_verify 21 = .ok (.iload_n 2, 1) := by decide +kernel
theorem d_MB_verify_22 : decode b_MB_verify 22 = .ok (.invokevirtual 52, 3) := by decide +kernel
theorem d_MB_verify_25 : decode b_MB_verify 25 = .ok (.ifCond .ne 5, 3) := by decide +kernel
theorem d_MB_verify_28 : decode b_MB_verify 28 = .ok (.iconst (-1), 1) := by decide +kernel
theorem d_MB_verify_29 : decode b_MB_verify 29 = .ok (.ireturn, 1) := by decide +kernel
theorem d_MB_verify_30 : decode b_MB_verify 30 = .ok (.aload_n 0, 1) := by decide +kernel
theorem d_MB_verify_31 : decode b_MB_verify 31 = .ok (.iload_n 1, 1) := by decide +kernel
theorem d_MB_verify_32 : decode b_MB_verify 32 = .ok (.iload_n 2, 1) := by decide +kernel
theorem d_MB_verify_33 : decode b_MB_verify 33 = .ok (.invokevirtual 100, 3) := by decide +kernel
theorem d_MB_verify_36 : decode b_MB_verify 36 = .ok (.istore 5, 2) := by decide +kernel
theorem d_MB_verify_38 : decode b_MB_verify 38 = .ok (.iload 5, 2) := by decide +kernel
theorem d_MB_verify_40 : decode b_MB_verify 40 = .ok (.iload_n 3, 1) := by decide +kernel
theorem d_MB_verify_41 : decode b_MB_verify 41 = .ok (.iload 4, 2) := by decide +kernel
theorem d_MB_verify_43 : decode b_MB_verify 43 = .ok (.invokestatic 104, 3) := by decide +kernel
theorem d_MB_verify_46 : decode b_MB_verify 46 = .ok (.istore 6, 2) := by decide +kernel
theorem d_MB_verify_48 : decode b_MB_verify 48 = .ok (.iload 6, 2) := by decide +kernel
theorem d_MB_verify_50 : decode b_MB_verify 50 = .ok (.ifCond .eq 9, 3) := by decide +kernel
theorem d_MB_verify_53 : decode b_MB_verify 53 = .ok (.aload_n 0, 1) := by decide +kernel
theorem d_MB_verify_54 : decode b_MB_verify 54 = .ok (.iload_n 1, 1) := by decide +kernel
theorem d_MB_verify_55 : decode b_MB_verify 55 = .ok (.iload_n 2, 1) := by decide +kernel
theorem d_MB_verify_56 : decode b_MB_verify 56 = .ok (.invokevirtual 107, 3) := by decide +kernel
theorem d_MB_verify_59 : decode b_MB_verify 59 = .ok (.aload_n 0, 1) := by decide +kernel
theorem d_MB_verify_60 : decode b_MB_verify 60 = .ok (.getfield 26, 3) := by decide +kernel
theorem d_MB_verify_63 : decode b_MB_verify 63 = .ok (.invokevirtual 45, 3) := by decide +kernel
theorem d_MB_verify_66 : decode b_MB_verify 66 = .ok (.iload 6, 2) := by decide +kernel
theorem d_MB_verify_68 : decode b_MB_verify 68 = .ok (.ifCond .eq 8, 3) := by decide +kernel
theorem d_MB_verify_71 : decode b_MB_verify 71 = .ok (.iload 5, 2) := by decide +kernel
theorem d_MB_verify_73 : decode b_MB_verify 73 = .ok (.goto 8, 3) := by decide +kernel
theorem d_MB_verify_76 : decode b_MB_verify 76 = .ok (.bipush (-10), 2) := by decide +kernel
theorem d_MB_verify_78 : decode b_MB_verify 78 = .ok (.iload 5, 2) := by decide +kernel
theorem d_MB_verify_80 : decode b_MB_verify 80 = .ok (.isub, 1) := by decide +kernel
theorem d_MB_verify_81 : decode b_MB_verify 81 = .ok (.ireturn, 1) := by decide +kernel
theorem d_MB_countSought_0 : decode b_MB_countSought 0 = .ok (.iconst 0, 1) := by decide +kernel
theorem d_MB_countSought_1 : decode b_MB_countSought 1 = .ok (.istore_n 3, 1) := by decide +kernel
theorem d_MB_countSought_2 : decode b_MB_countSought 2 = .ok (.iconst 0, 1) := by decide +kernel
theorem d_MB_countSought_3 : decode b_MB_countSought 3 = .ok (.istore 4, 2) := by decide +kernel
theorem d_MB_countSought_5 : decode b_MB_countSought 5 = .ok (.iload 4, 2) := by decide +kernel
theorem d_MB_countSought_7 : decode b_MB_countSought 7 = .ok (.aload_n 0, 1) := by decide +kernel
theorem d_MB_countSought_8 : decode b_MB_countSought 8 = .ok (.getfield 16, 3) := by decide +kernel
theorem d_MB_countSought_11 : decode b_MB_countSought 11 = .ok (.invokevirtual 56, 3) := by decide +kernel
theorem d_MB_countSought_14 : decode b_MB_countSought 14 = .ok (.if_icmp .ge 33, 3) := by decide +kernel
theorem d_MB_countSought_17 : decode b_MB_countSought 17 = .ok (.aload_n 0, 1) := by decide +kernel
theorem d_MB_countSought_18 : decode b_MB_countSought 18 = .ok (.aload_n 0, 1) := by decide +kernel
theorem d_MB_countSought_19 : decode b_MB_countSought 19 = .ok (.getfield 16, 3) := by decide +kernel
theorem d_MB_countSought_22 : decode b_MB_countSought 22 = .ok (.iload 4, 2) := by decide +kernel
theorem d_MB_countSought_24 : decode b_MB_countSought 24 = .ok (.invokevirtual 70, 3) := by decide +kernel
theorem d_MB_countSought_27 : decode b_MB_countSought 27 = .ok (.checkcast 113, 3) := by decide +kernel
theorem d_MB_countSought_30 : decode b_MB_countSought 30 = .ok (.iload_n 1, 1) := by decide +kernel
theorem d_MB_countSought_31 : decode b_MB_countSought 31 = .ok (.iload_n 2, 1) := by decide +kernel
theorem d_MB_countSought_32 : decode b_MB_countSought 32 = .ok (.invokevirtual 208, 3) := by decide +kernel
theorem d_MB_countSought_35 : decode b_MB_countSought 35 = .ok (.ifCond .eq 6, 3) := by decide +kernel
theorem d_MB_countSought_38 : decode b_MB_countSought 38 = .ok (.iinc 3 1, 3) := by decide +kernel
theorem d_MB_countSought_41 : decode b_MB_countSought 41 = .ok (.iinc 4 1, 3) := by decide +kernel
theorem d_MB_countSought_44 : decode b_MB_countSought 44 = .ok (.goto (-39), 3) := by decide +kernel
theorem d_MB_countSought_47 : decode b_MB_countSought 47 = .ok (.iload_n 3, 1) := by decide +kernel
theorem d_MB_countSought_48 : decode b_MB_countSought 48 = .ok (.ireturn, 1) := by decide +kernel
theorem d_MB_isSought_0 : decode b_MB_isSought 0 = .ok (.aload_n 1, 1) := by decide +kernel
theorem d_MB_isSought_1 : decode b_MB_isSought 1 = .ok (.getfield 118, 3) := by decide +kernel
theorem d_MB_isSought_4 : decode b_MB_isSought 4 = .ok (.ifCond .eq 34, 3) := by decide +kernel
theorem d_MB_isSought_7 : decode b_MB_isSought 7 = .ok (.aload_n 1, 1) := by decide +kernel
theorem d_MB_isSought_8 : decode b_MB_isSought 8 = .ok (.getfield 119, 3) := by decide +kernel
theorem d_MB_isSought_11 : decode b_MB_isSought 11 = .ok (.iload_n 2, 1) := by decide +kernel
theorem d_MB_isSought_12 : decode b_MB_isSought 12 = .ok (.if_icmp .ne 26, 3) := by decide +kernel
theorem d_MB_isSought_15 : decode b_MB_isSought 15 = .ok (.aload_n 1, 1) := by decide +kernel
theorem d_MB_isSought_16 : decode b_MB_isSought 16 = .ok (.getfield 136, 3) := by decide +kernel
theorem d_MB_isSought_19 : decode b_MB_isSought 19 = .ok (.iload_n 3, 1) := by decide +kernel
theorem d_MB_isSought_20 : decode b_MB_isSought 20 = .ok (.if_icmp .ne 18, 3) := by decide +kernel
theorem d_MB_isSought_23 : decode b_MB_isSought 23 = .ok (.aload_n 0, 1) := by decide +kernel
theorem d_MB_isSought_24 : decode b_MB_isSought 24 = .ok (.getfield 26, 3) := by decide +kernel
theorem d_MB_isSought_27 : decode b_MB_isSought 27 = .ok (.aload_n 1, 1) := by decide +kernel
theorem d_MB_isSought_28 : decode b_MB_isSought 28 = .ok (.invokevirtual 205, 3) := by decide +kernel
theorem d_MB_isSought_31 : decode b_MB_isSought 31 = .ok (.ifCond .eq 7, 3) := by decide +kernel
theorem d_MB_isSought_34 : decode b_MB_isSought 34 = .ok (.iconst 1, 1) := by decide +kernel
theorem d_MB_isSought_35 : decode b_MB_isSought 35 = .ok (.goto 4, 3) := by decide +kernel
theorem d_MB_isSought_38 : decode b_MB_isSought 38 = .ok (.iconst 0, 1) := by decide +kernel
theorem d_MB_isSought_39 : decode b_MB_isSought 39 = .ok (.ireturn, 1) := by decide +kernel
theorem d_MB_isWanted_0 : decode b_MB_isWanted 0 = .ok (.iload_n 1, 1) := by decide +kernel
theorem d_MB_isWanted_1 : decode b_MB_isWanted 1 = .ok (.lookupswitch 49 #[(0, 27), (1, 38)], 27) := by decide +kernel
theorem d_MB_isWanted_28 : decode b_MB_isWanted 28 = .ok (.iload_n 0, 1) := by decide +kernel
theorem d_MB_isWanted_29 : decode b_MB_isWanted 29 = .ok (.iload_n 2, 1) := by decide +kernel
theorem d_MB_isWanted_30 : decode b_MB_isWanted 30 = .ok (.if_icmp .ne 7, 3) := by decide +kernel
theorem d_MB_isWanted_33 : decode b_MB_isWanted 33 = .ok (.iconst 1, 1) := by decide +kernel
theorem d_MB_isWanted_34 : decode b_MB_isWanted 34 = .ok (.goto 4, 3) := by decide +kernel
theorem d_MB_isWanted_37 : decode b_MB_isWanted 37 = .ok (.iconst 0, 1) := by decide +kernel
theorem d_MB_isWanted_38 : decode b_MB_isWanted 38 = .ok (.ireturn, 1) := by decide +kernel
theorem d_MB_isWanted_39 : decode b_MB_isWanted 39 = .ok (.iload_n 0, 1) := by decide +kernel
theorem d_MB_isWanted_40 : decode b_MB_isWanted 40 = .ok (.iload_n 2, 1) := by decide +kernel
theorem d_MB_isWanted_41 : decode b_MB_isWanted 41 = .ok (.if_icmp .lt 7, 3) := by decide +kernel
theorem d_MB_isWanted_44 : decode b_MB_isWanted 44 = .ok (.iconst 1, 1) := by decide +kernel
theorem d_MB_isWanted_45 : decode b_MB_isWanted 45 = .ok (.goto 4, 3) := by decide +kernel
theorem d_MB_isWanted_48 : decode b_MB_isWanted 48 = .ok (.iconst 0, 1) := by decide +kernel
theorem d_MB_isWanted_49 : decode b_MB_isWanted 49 = .ok (.ireturn, 1) := by decide +kernel
theorem d_MB_isWanted_50 : decode b_MB_isWanted 50 = .ok (.iload_n 0, 1) := by decide +kernel
theorem d_MB_isWanted_51 : decode b_MB_isWanted 51 = .ok (.iload_n 2, 1) := by decide +kernel
theorem d_MB_isWanted_52 : decode b_MB_isWanted 52 = .ok (.if_icmp .gt 7, 3) := by decide +kernel
theorem d_MB_isWanted_55 : decode b_MB_isWanted 55 = .ok (.iconst 1, 1) := by decide +kernel
theorem d_MB_isWanted_56 : decode b_MB_isWanted 56 = .ok (.goto 4, 3) := by decide +kernel
theorem d_MB_isWanted_59 : decode b_MB_isWanted 59 = .ok (.iconst 0, 1) := by decide +kernel
theorem d_MB_isWanted_60 : decode b_MB_isWanted 60 = .ok (.ireturn, 1) := by decide +kernel
theorem d_MB_verifySought_0 : decode b_MB_verifySought 0 = .ok (.iconst 0, 1) := by decide +kernel
theorem d_MB_verifySought_1 : decode b_MB_verifySought 1 = .ok (.istore_n 3, 1) := by decide +kernel
theorem d_MB_verifySought_2 : decode b_MB_verifySought 2 = .ok (.iload_n 3, 1) := by decide +kernel
theorem d_MB_verifySought_3 : decode b_MB_verifySought 3 = .ok (.aload_n 0, 1) := by decide +kernel
theorem d_MB_verifySought_4 : decode b_MB_verifySought 4 = .ok (.getfield 16, 3) := by decide +kernel
theorem d_MB_verifySought_7 : decode b_MB_verifySought 7 = .ok (.invokevirtual 56, 3) := by decide +kernel
theorem d_MB_verifySought_10 : decode b_MB_verifySought 10 = .ok (.if_icmp .ge 39, 3) := by decide +kernel
theorem d_MB_verifySought_13 : decode b_MB_verifySought 13 = .ok (.aload_n 0, 1) := by decide +kernel
theorem d_MB_verifySought_14 : decode b_MB_verifySought 14 = .ok (.getfield 16, 3) := by decide +kernel
theorem d_MB_verifySought_17 : decode b_MB_verifySought 17 = .ok (.iload_n 3, 1) := by decide +kernel
theorem d_MB_verifySought_18 : decode b_MB_verifySought 18 = .ok (.invokevirtual 70, 3) := by decide +kernel
theorem d_MB_verifySought_21 : decode b_MB_verifySought 21 = .ok (.checkcast 113, 3) := by decide +kernel
theorem d_MB_verifySought_24 : decode b_MB_verifySought 24 = .ok (.astore 4, 2) := by decide +kernel
theorem d_MB_verifySought_26 : decode b_MB_verifySought 26 = .ok (.aload_n 0, 1) := by decide +kernel
theorem d_MB_verifySought_27 : decode b_MB_verifySought 27 = .ok (.aload 4, 2) := by decide +kernel
theorem d_MB_verifySought_29 : decode b_MB_verifySought 29 = .ok (.iload_n 1, 1) := by decide +kernel
theorem d_MB_verifySought_30 : decode b_MB_verifySought 30 = .ok (.iload_n 2, 1) := by decide +kernel
theorem d_MB_verifySought_31 : decode b_MB_verifySought 31 = .ok (.invokevirtual 208, 3) := by decide +kernel
theorem d_MB_verifySought_34 : decode b_MB_verifySought 34 = .ok (.ifCond .eq 9, 3) := by decide +kernel
theorem d_MB_verifySought_37 : decode b_MB_verifySought 37 = .ok (.aload 4, 2) := by decide +kernel
theorem d_MB_verifySought_39 : decode b_MB_verifySought 39 = .ok (.iconst 1, 1) := by decide +kernel
theorem d_MB_verifySought_40 : decode b_MB_verifySought 40 = .ok (.putfield 115, 3) := by decide +kernel
theorem d_MB_verifySought_43 : decode b_MB_verifySought 43 = .ok (.iinc 3 1, 3) := by decide +kernel
theorem d_MB_verifySought_46 : decode b_MB_verifySought 46 = .ok (.goto (-44), 3) := by decide +kernel
theorem d_MB_verifySought_49 : decode b_MB_verifySought 49 = .ok (.return_, 1) := by decide +kernel
theorem d_MB_inOrder_0 : decode b_MB_inOrder 0 = .ok (.iload_n 1, 1) := by decide +kernel
theorem d_MB_inOrder_1 : decode b_MB_inOrder 1 = .ok (.iload_n 2, 1) := by decide +kernel
theorem d_MB_inOrder_2 : decode b_MB_inOrder 2 = .ok (.invokestatic 48, 3) := by decide +kernel
theorem d_MB_inOrder_5 : decode b_MB_inOrder 5 = .ok (.ifCond .eq 14, 3) := by decide +kernel
theorem d_MB_inOrder_8 : decode b_MB_inOrder 8 = .ok (.aload_n 0, 1) := by decide +kernel
theorem d_MB_inOrder_9 : decode b_MB_inOrder 9 = .ok (.getfield 26, 3) := by decide +kernel
theorem d_MB_inOrder_12 : decode b_MB_inOrder 12 = .ok (.iload_n 2, 1) := by decide +kernel
theorem d_MB_inOrder_13 : decode b_MB_inOrder 13 = .ok (.invokevirtual 52, 3) := by decide +kernel
theorem d_MB_inOrder_16 : decode b_MB_inOrder 16 = .ok (.ifCond .ne 5, 3) := by decide +kernel
theorem d_MB_inOrder_19 : decode b_MB_inOrder 19 = .ok (.iconst (-1), 1) := by decide +kernel
theorem d_MB_inOrder_20 : decode b_MB_inOrder 20 = .ok (.ireturn, 1) := by decide +kernel
theorem d_MB_inOrder_21 : decode b_MB_inOrder 21 = .ok (.aload_n 0, 1) := by decide +kernel
theorem d_MB_inOrder_22 : decode b_MB_inOrder 22 = .ok (.iload_n 1, 1) := by decide +kernel
theorem d_MB_inOrder_23 : decode b_MB_inOrder 23 = .ok (.iload_n 2, 1) := by decide +kernel
theorem d_MB_inOrder_24 : decode b_MB_inOrder 24 = .ok (.invokevirtual 110, 3) := by decide +kernel
theorem d_MB_inOrder_27 : decode b_MB_inOrder 27 = .ok (.istore_n 3, 1) := by decide +kernel
theorem d_MB_inOrder_28 : decode b_MB_inOrder 28 = .ok (.aload_n 0, 1) := by decide +kernel
theorem d_MB_inOrder_29 : decode b_MB_inOrder 29 = .ok (.getfield 26, 3) := by decide +kernel
theorem d_MB_inOrder_32 : decode b_MB_inOrder 32 = .ok (.invokevirtual 45, 3) := by decide +kernel
theorem d_MB_inOrder_35 : decode b_MB_inOrder 35 = .ok (.iload_n 3, 1) := by decide +kernel
theorem d_MB_inOrder_36 : decode b_MB_inOrder 36 = .ok (.bipush (-10), 2) := by decide +kernel
theorem d_MB_inOrder_38 : decode b_MB_inOrder 38 = .ok (.if_icmp .ne 6, 3) := by decide +kernel
theorem d_MB_inOrder_41 : decode b_MB_inOrder 41 = .ok (.bipush (-10), 2) := by decide +kernel
theorem d_MB_inOrder_43 : decode b_MB_inOrder 43 = .ok (.ireturn, 1) := by decide +kernel
theorem d_MB_inOrder_44 : decode b_MB_inOrder 44 = .ok (.aload_n 0, 1) := by decide +kernel
theorem d_MB_inOrder_45 : decode b_MB_inOrder 45 = .ok (.getfield 16, 3) := by decide +kernel
theorem d_MB_inOrder_48 : decode b_MB_inOrder 48 = .ok (.iload_n 3, 1) := by decide +kernel
theorem d_MB_inOrder_49 : decode b_MB_inOrder 49 = .ok (.invokevirtual 70, 3) := by decide +kernel
theorem d_MB_inOrder_52 : decode b_MB_inOrder 52 = .ok (.checkcast 113, 3) := by decide +kernel
theorem d_MB_inOrder_55 : decode b_MB_inOrder 55 = .ok (.iconst 1, 1) := by decide +kernel
theorem d_MB_inOrder_56 : decode b_MB_inOrder 56 = .ok (.putfield 115, 3) := by decide +kernel
theorem d_MB_inOrder_59 : decode b_MB_inOrder 59 = .ok (.aload_n 0, 1) := by decide +kernel
theorem d_MB_inOrder_60 : decode b_MB_inOrder 60 = .ok (.iload_n 3, 1) := by decide +kernel
theorem d_MB_inOrder_61 : decode b_MB_inOrder 61 = .ok (.putfield 30, 3) := by decide +kernel
theorem d_MB_inOrder_64 : decode b_MB_inOrder 64 = .ok (.iload_n 3, 1) := by decide +kernel
theorem d_MB_inOrder_65 : decode b_MB_inOrder 65 = .ok (.ireturn, 1) := by decide +kernel
theorem d_MB_firstSoughtAfterMark_0 : decode b_MB_firstSoughtAfterMark 0 = .ok (.aload_n 0, 1) := by decide +kernel
theorem d_MB_firstSoughtAfterMark_1 : decode b_MB_firstSoughtAfterMark 1 = .ok (.getfield 30, 3) := by decide +kernel
theorem d_MB_firstSoughtAfterMark_4 : decode b_MB_firstSoughtAfterMark 4 = .ok (.iconst 1, 1) := by decide +kernel
theorem d_MB_firstSoughtAfterMark_5 : decode b_MB_firstSoughtAfterMark 5 = .ok (.iadd, 1) := by decide +kernel
theorem d_MB_firstSoughtAfterMark_6 : decode b_MB_firstSoughtAfterMark 6 = .ok (.istore_n 3, 1) := by decide +kernel
theorem d_MB_firstSoughtAfterMark_7 : decode b_MB_firstSoughtAfterMark 7 = .ok (.iload_n 3, 1) := by decide +kernel
theorem d_MB_firstSoughtAfterMark_8 : decode b_MB_firstSoughtAfterMark 8 = .ok (.aload_n 0, 1) := by decide +kernel
theorem d_MB_firstSoughtAfterMark_9 : decode b_MB_firstSoughtAfterMark 9 = .ok (.getfield 16, 3) := by decide +kernel
theorem d_MB_firstSoughtAfterMark_12 : decode b_MB_firstSoughtAfterMark 12 = .ok (.invokevirtual 56, 3) := by decide +kernel
theorem d_MB_firstSoughtAfterMark_15 : decode b_MB_firstSoughtAfterMark 15 = .ok (.if_icmp .ge 31, 3) := by decide +kernel
theorem d_MB_firstSoughtAfterMark_18 : decode b_MB_firstSoughtAfterMark 18 = .ok (.aload_n 0, 1) := by decide +kernel
theorem d_MB_firstSoughtAfterMark_19 : decode b_MB_firstSoughtAfterMark 19 = .ok (.aload_n 0, 1) := by decide +kernel
theorem d_MB_firstSoughtAfterMark_20 : decode b_MB_firstSoughtAfterMark 20 = .ok (.getfield 16, 3) := by decide +kernel
theorem d_MB_firstSoughtAfterMark_23 : decode b_MB_firstSoughtAfterMark 23 = .ok (.iload_n 3, 1) := by decide +kernel
theorem d_MB_firstSoughtAfterMark_24 : decode b_MB_firstSoughtAfterMark 24 = .ok (.invokevirtual 70, 3) := by decide +kernel
theorem d_MB_firstSoughtAfterMark_27 : decode b_MB_firstSoughtAfterMark 27 = .ok (.checkcast 113, 3) := by decide +kernel
theorem d_MB_firstSoughtAfterMark_30 : decode b_MB_firstSoughtAfterMark 30 = .ok (.iload_n 1, 1) := by decide +kernel
theorem d_MB_firstSoughtAfterMark_31 : decode b_MB_firstSoughtAfterMark 31 = .ok (.iload_n 2, 1) := by decide +kernel
theorem d_MB_firstSoughtAfterMark_32 : decode b_MB_firstSoughtAfterMark 32 = .ok (.invokevirtual 208, 3) := by decide +kernel
theorem d_MB_firstSoughtAfterMark_35 : decode b_MB_firstSoughtAfterMark 35 = .ok (.ifCond .eq 5, 3) := by decide +kernel
theorem d_MB_firstSoughtAfterMark_38 : decode b_MB_firstSoughtAfterMark 38 = .ok (.iload_n 3, 1) := by decide +kernel
theorem d_MB_firstSoughtAfterMark_39 : decode b_MB_firstSoughtAfterMark 39 = .ok (.ireturn, 1) := by decide +kernel
theorem d_MB_firstSoughtAfterMark_40 : decode b_MB_firstSoughtAfterMark 40 = .ok (.iinc 3 1, 3) := by decide +kernel
theorem d_MB_firstSoughtAfterMark_43 : decode b_MB_firstSoughtAfterMark 43 = .ok (.goto (-36), 3) := by decide +kernel
theorem d_MB_firstSoughtAfterMark_46 : decode b_MB_firstSoughtAfterMark 46 = .ok (.bipush (-10), 2) := by decide +kernel
theorem d_MB_firstSoughtAfterMark_48 : decode b_MB_firstSoughtAfterMark 48 = .ok (.ireturn, 1) := by decide +kernel
theorem d_MB_rewind_0 : decode b_MB_rewind 0 = .ok (.aload_n 0, 1) := by decide +kernel
theorem d_MB_rewind_1 : decode b_MB_rewind 1 = .ok (.getfield 30, 3) := by decide +kernel
theorem d_MB_rewind_4 : decode b_MB_rewind 4 = .ok (.istore_n 1, 1) := by decide +kernel
theorem d_MB_rewind_5 : decode b_MB_rewind 5 = .ok (.aload_n 0, 1) := by decide +kernel
theorem d_MB_rewind_6 : decode b_MB_rewind 6 = .ok (.iconst (-1), 1) := by decide +kernel
theorem d_MB_rewind_7 : decode b_MB_rewind 7 = .ok (.putfield 30, 3) := by decide +kernel
theorem d_MB_rewind_10 : decode b_MB_rewind 10 = .ok (.iload_n 1, 1) := by decide +kernel
theorem d_MB_rewind_11 : decode b_MB_rewind 11 = .ok (.ireturn, 1) := by decide +kernel
theorem d_MB_open_0 : decode b_MB_open 0 = .ok (.iload_n 1, 1) := by decide +kernel
theorem d_MB_open_1 : decode b_MB_open 1 = .ok (.invokestatic 87, 3) := by decide +kernel
theorem d_MB_open_4 : decode b_MB_open 4 = .ok (.ifCond .ne 5, 3) := by decide +kernel
theorem d_MB_open_7 : decode b_MB_open 7 = .ok (.iconst (-1), 1) := by decide +kernel
theorem d_MB_open_8 : decode b_MB_open 8 = .ok (.ireturn, 1) := by decide +kernel
theorem d_MB_open_9 : decode b_MB_open 9 = .ok (.iconst 0, 1) := by decide +kernel
theorem d_MB_open_10 : decode b_MB_open 10 = .ok (.istore_n 2, 1) := by decide +kernel
theorem d_MB_open_11 : decode b_MB_open 11 = .ok (.iload_n 2, 1) := by decide +kernel
theorem d_MB_open_12 : decode b_MB_open 12 = .ok (.aload_n 0, 1) := by decide +kernel
theorem d_MB_open_13 : decode b_MB_open 13 = .ok (.getfield 16, 3) := by decide +kernel
theorem d_MB_open_16 : decode b_MB_open 16 = .ok (.invokevirtual 56, 3) := by decide +kernel
theorem d_MB_open_19 : decode b_MB_open 19 = .ok (.if_icmp .ge 45, 3) := by decide +kernel
theorem d_MB_open_22 : decode b_MB_open 22 = .ok (.aload_n 0, 1) := by decide +kernel
theorem d_MB_open_23 : decode b_MB_open 23 = .ok (.getfield 16, 3) := by decide +kernel
theorem d_MB_open_26 : decode b_MB_open 26 = .ok (.iload_n 2, 1) := by decide +kernel
theorem d_MB_open_27 : decode b_MB_open 27 = .ok (.invokevirtual 70, 3) := by decide +kernel
theorem d_MB_open_30 : decode b_MB_open 30 = .ok (.checkcast 113, 3) := by decide +kernel
theorem d_MB_open_33 : decode b_MB_open 33 = .ok (.astore_n 3, 1) := by decide +kernel
theorem d_MB_open_34 : decode b_MB_open 34 = .ok (.aload_n 3, 1) := by decide +kernel
theorem d_MB_open_35 : decode b_MB_open 35 = .ok (.getfield 118, 3) := by decide +kernel
theorem d_MB_open_38 : decode b_MB_open 38 = .ok (.ifCond .eq 20, 3) := by decide +kernel
theorem d_MB_open_41 : decode b_MB_open 41 = .ok (.aload_n 3, 1) := by decide +kernel
theorem d_MB_open_42 : decode b_MB_open 42 = .ok (.getfield 119, 3) := by decide +kernel
theorem d_MB_open_45 : decode b_MB_open 45 = .ok (.iload_n 1, 1) := by decide +kernel
theorem d_MB_open_46 : decode b_MB_open 46 = .ok (.if_icmp .ne 12, 3) := by decide +kernel
theorem d_MB_open_49 : decode b_MB_open 49 = .ok (.aload_n 3, 1) := by decide +kernel
theorem d_MB_open_50 : decode b_MB_open 50 = .ok (.getfield 115, 3) := by decide +kernel
theorem d_MB_open_53 : decode b_MB_open 53 = .ok (.ifCond .ne 5, 3) := by decide +kernel
theorem d_MB_open_56 : decode b_MB_open 56 = .ok (.iload_n 2, 1) := by decide +kernel
theorem d_MB_open_57 : decode b_MB_open 57 = .ok (.ireturn, 1) := by decide +kernel
theorem d_MB_open_58 : decode b_MB_open 58 = .ok (.iinc 2 1, 3) := by decide +kernel
theorem d_MB_open_61 : decode b_MB_open 61 = .ok (.goto (-50), 3) := by decide +kernel
theorem d_MB_open_64 : decode b_MB_open 64 = .ok (.bipush (-10), 2) := by decide +kernel
theorem d_MB_open_66 : decode b_MB_open 66 = .ok (.ireturn, 1) := by decide +kernel
theorem d_MB_unused_0 : decode b_MB_unused 0 = .ok (.iconst 0, 1) := by decide +kernel
theorem d_MB_unused_1 : decode b_MB_unused 1 = .ok (.istore_n 1, 1) := by decide +kernel
theorem d_MB_unused_2 : decode b_MB_unused 2 = .ok (.iload_n 1, 1) := by decide +kernel
theorem d_MB_unused_3 : decode b_MB_unused 3 = .ok (.aload_n 0, 1) := by decide +kernel
theorem d_MB_unused_4 : decode b_MB_unused 4 = .ok (.getfield 10, 3) := by decide +kernel
theorem d_MB_unused_7 : decode b_MB_unused 7 = .ok (.invokevirtual 56, 3) := by decide +kernel
theorem d_MB_unused_10 : decode b_MB_unused 10 = .ok (.if_icmp .ge 37, 3) := by decide +kernel
theorem d_MB_unused_13 : decode b_MB_unused 13 = .ok (.aload_n 0, 1) := by decide +kernel
theorem d_MB_unused_14 : decode b_MB_unused 14 = .ok (.getfield 10, 3) := by decide +kernel
theorem d_MB_unused_17 : decode b_MB_unused 17 = .ok (.iload_n 1, 1) := by decide +kernel
theorem d_MB_unused_18 : decode b_MB_unused 18 = .ok (.invokevirtual 70, 3) := by decide +kernel
theorem d_MB_unused_21 : decode b_MB_unused 21 = .ok (.checkcast 59, 3) := by decide +kernel
theorem d_MB_unused_24 : decode b_MB_unused 24 = .ok (.astore_n 2, 1) := by decide +kernel
theorem d_MB_unused_25 : decode b_MB_unused 25 = .ok (.aload_n 2, 1) := by decide +kernel
theorem d_MB_unused_26 : decode b_MB_unused 26 = .ok (.getfield 74, 3) := by decide +kernel
theorem d_MB_unused_29 : decode b_MB_unused 29 = .ok (.ifCond .eq 12, 3) := by decide +kernel
theorem d_MB_unused_32 : decode b_MB_unused 32 = .ok (.aload_n 2, 1) := by decide +kernel
theorem d_MB_unused_33 : decode b_MB_unused 33 = .ok (.getfield 122, 3) := by decide +kernel
theorem d_MB_unused_36 : decode b_MB_unused 36 = .ok (.ifCond .ne 5, 3) := by decide +kernel
theorem d_MB_unused_39 : decode b_MB_unused 39 = .ok (.iload_n 1, 1) := by decide +kernel
theorem d_MB_unused_40 : decode b_MB_unused 40 = .ok (.ireturn, 1) := by decide +kernel
theorem d_MB_unused_41 : decode b_MB_unused 41 = .ok (.iinc 1 1, 3) := by decide +kernel
theorem d_MB_unused_44 : decode b_MB_unused 44 = .ok (.goto (-42), 3) := by decide +kernel
theorem d_MB_unused_47 : decode b_MB_unused 47 = .ok (.bipush (-10), 2) := by decide +kernel
theorem d_MB_unused_49 : decode b_MB_unused 49 = .ok (.ireturn, 1) := by decide +kernel
theorem d_MB_reset_0 : decode b_MB_reset 0 = .ok (.iload_n 1, 1) := by decide +kernel
theorem d_MB_reset_1 : decode b_MB_reset 1 = .ok (.invokestatic 87, 3) := by decide +kernel
theorem d_MB_reset_4 : decode b_MB_reset 4 = .ok (.ifCond .ne 5, 3) := by decide +kernel
theorem d_MB_reset_7 : decode b_MB_reset 7 = .ok (.iconst (-1), 1) := by decide +kernel
theorem d_MB_reset_8 : decode b_MB_reset 8 = .ok (.ireturn, 1) := by decide +kernel
theorem d_MB_reset_9 : decode b_MB_reset 9 = .ok (.aload_n 0, 1) := by decide +kernel
theorem d_MB_reset_10 : decode b_MB_reset 10 = .ok (.iload_n 1, 1) := by decide +kernel
theorem d_MB_reset_11 : decode b_MB_reset 11 = .ok (.invokevirtual 125, 3) := by decide +kernel
theorem d_MB_reset_14 : decode b_MB_reset 14 = .ok (.aload_n 0, 1) := by decide +kernel
theorem d_MB_reset_15 : decode b_MB_reset 15 = .ok (.iload_n 1, 1) := by decide +kernel
theorem d_MB_reset_16 : decode b_MB_reset 16 = .ok (.invokevirtual 129, 3) := by decide +kernel
theorem d_MB_reset_19 : decode b_MB_reset 19 = .ok (.ireturn, 1) := by decide +kernel
theorem d_MB_endRules_0 : decode b_MB_endRules 0 = .ok (.iconst 0, 1) := by decide +kernel
theorem d_MB_endRules_1 : decode b_MB_endRules 1 = .ok (.istore_n 2, 1) := by decide +kernel
theorem d_MB_endRules_2 : decode b_MB_endRules 2 = .ok (.iload_n 2, 1) := by decide +kernel
theorem d_MB_endRules_3 : decode b_MB_endRules 3 = .ok (.aload_n 0, 1) := by decide +kernel
theorem d_MB_endRules_4 : decode b_MB_endRules 4 = .ok (.getfield 10, 3) := by decide +kernel
theorem d_MB_endRules_7 : decode b_MB_endRules 7 = .ok (.invokevirtual 56, 3) := by decide +kernel
theorem d_MB_endRules_10 : decode b_MB_endRules 10 = .ok (.if_icmp .ge 34, 3) := by decide +kernel
theorem d_MB_endRules_13 : decode b_MB_endRules 13 = .ok (.aload_n 0, 1) := by decide +kernel
theorem d_MB_endRules_14 : decode b_MB_endRules 14 = .ok (.getfield 10, 3) := by decide +kernel
theorem d_MB_endRules_17 : decode b_MB_endRules 17 = .ok (.iload_n 2, 1) := by decide +kernel
theorem d_MB_endRules_18 : decode b_MB_endRules 18 = .ok (.invokevirtual 70, 3) := by decide +kernel
theorem d_MB_endRules_21 : decode b_MB_endRules 21 = .ok (.checkcast 59, 3) := by decide +kernel
theorem d_MB_endRules_24 : decode b_MB_endRules 24 = .ok (.astore_n 3, 1) := by decide +kernel
theorem d_MB_endRules_25 : decode b_MB_endRules 25 = .ok (.aload_n 3, 1) := by decide +kernel
theorem d_MB_endRules_26 : decode b_MB_endRules 26 = .ok (.getfield 212, 3) := by decide +kernel
theorem d_MB_endRules_29 : decode b_MB_endRules 29 = .ok (.iload_n 1, 1) := by decide +kernel
theorem d_MB_endRules_30 : decode b_MB_endRules 30 = .ok (.if_icmp .ne 8, 3) := by decide +kernel
theorem d_MB_endRules_33 : decode b_MB_endRules 33 = .ok (.aload_n 3, 1) := by decide +kernel
theorem d_MB_endRules_34 : decode b_MB_endRules 34 = .ok (.iconst 0, 1) := by decide +kernel
theorem d_MB_endRules_35 : decode b_MB_endRules 35 = .ok (.putfield 74, 3) := by decide +kernel
theorem d_MB_endRules_38 : decode b_MB_endRules 38 = .ok (.iinc 2 1, 3) := by decide +kernel
theorem d_MB_endRules_41 : decode b_MB_endRules 41 = .ok (.goto (-39), 3) := by decide +kernel
theorem d_MB_endRules_44 : decode b_MB_endRules 44 = .ok (.return_, 1) := by decide +kernel
theorem d_MB_endInteractions_0 : decode b_MB_endInteractions 0 = .ok (.iconst 0, 1) := by decide +kernel
theorem d_MB_endInteractions_1 : decode b_MB_endInteractions 1 = .ok (.istore_n 2, 1) := by decide +kernel
theorem d_MB_endInteractions_2 : decode b_MB_endInteractions 2 = .ok (.iconst 0, 1) := by decide +kernel
theorem d_MB_endInteractions_3 : decode b_MB_endInteractions 3 = .ok (.istore_n 3, 1) := by decide +kernel
theorem d_MB_endInteractions_4 : decode b_MB_endInteractions 4 = .ok (.iload_n 3, 1) := by decide +kernel
theorem d_MB_endInteractions_5 : decode b_MB_endInteractions 5 = .ok (.aload_n 0, 1) := by decide +kernel
theorem d_MB_endInteractions_6 : decode b_MB_endInteractions 6 = .ok (.getfield 16, 3) := by decide +kernel
theorem d_MB_endInteractions_9 : decode b_MB_endInteractions 9 = .ok (.invokevirtual 56, 3) := by decide +kernel
theorem d_MB_endInteractions_12 : decode b_MB_endInteractions 12 = .ok (.if_icmp .ge 48, 3) := by decide +kernel
theorem d_MB_endInteractions_15 : decode b_MB_endInteractions 15 = .ok (.aload_n 0, 1) := by decide +kernel
theorem d_MB_endInteractions_16 : decode b_MB_endInteractions 16 = .ok (.getfield 16, 3) := by decide +kernel
theorem d_MB_endInteractions_19 : decode b_MB_endInteractions 19 = .ok (.iload_n 3, 1) := by decide +kernel
theorem d_MB_endInteractions_20 : decode b_MB_endInteractions 20 = .ok (.invokevirtual 70, 3) := by decide +kernel
theorem d_MB_endInteractions_23 : decode b_MB_endInteractions 23 = .ok (.checkcast 113, 3) := by decide +kernel
theorem d_MB_endInteractions_26 : decode b_MB_endInteractions 26 = .ok (.astore 4, 2) := by decide +kernel
theorem d_MB_endInteractions_28 : decode b_MB_endInteractions 28 = .ok (.aload 4, 2) := by decide +kernel
theorem d_MB_endInteractions_30 : decode b_MB_endInteractions 30 = .ok (.getfield 118, 3) := by decide +kernel
theorem d_MB_endInteractions_33 : decode b_MB_endInteractions 33 = .ok (.ifCond .eq 21, 3) := by decide +kernel
theorem d_MB_endInteractions_36 : decode b_MB_endInteractions 36 = .ok (.aload 4, 2) := by decide +kernel
theorem d_MB_endInteractions_38 : decode b_MB_endInteractions 38 = .ok (.getfield 119, 3) := by decide +kernel
theorem d_MB_endInteractions_41 : decode b_MB_endInteractions 41 = .ok (.iload_n 1, 1) := by decide +kernel
theorem d_MB_endInteractions_42 : decode b_MB_endInteractions 42 = .ok (.if_icmp .ne 12, 3) := by decide +kernel
theorem d_MB_endInteractions_45 : decode b_MB_endInteractions 45 = .ok (.aload 4, 2) := by decide +kernel
theorem d_MB_endInteractions_47 : decode b_MB_endInteractions 47 = .ok (.iconst 0, 1) := by decide +kernel
theorem d_MB_endInteractions_48 : decode b_MB_endInteractions 48 = .ok (.putfield 118, 3) := by decide +kernel
theorem d_MB_endInteractions_51 : decode b_MB_endInteractions 51 = .ok (.iinc 2 1, 3) := by decide +kernel
theorem d_MB_endInteractions_54 : decode b_MB_endInteractions 54 = .ok (.iinc 3 1, 3) := by decide +kernel
theorem d_MB_endInteractions_57 : decode b_MB_endInteractions 57 = .ok (.goto (-53), 3) := by decide +kernel
theorem d_MB_endInteractions_60 : decode b_MB_endInteractions 60 = .ok (.iload_n 2, 1) := by decide +kernel
theorem d_MB_endInteractions_61 : decode b_MB_endInteractions 61 = .ok (.ireturn, 1) := by decide +kernel
theorem d_MB_noted_0 : decode b_MB_noted 0 = .ok (.aload_n 0, 1) := by decide +kernel
theorem d_MB_noted_1 : decode b_MB_noted 1 = .ok (.iload_n 1, 1) := by decide +kernel
theorem d_MB_noted_2 : decode b_MB_noted 2 = .ok (.invokevirtual 133, 3) := by decide +kernel
theorem d_MB_noted_5 : decode b_MB_noted 5 = .ok (.ifCond .ne 7, 3) := by decide +kernel
theorem d_MB_noted_8 : decode b_MB_noted 8 = .ok (.ldc2_w 94, 3) := by decide +kernel
theorem d_MB_noted_11 : decode b_MB_noted 11 = .ok (.lreturn, 1) := by decide +kernel
theorem d_MB_noted_12 : decode b_MB_noted 12 = .ok (.aload_n 0, 1) := by decide +kernel
theorem d_MB_noted_13 : decode b_MB_noted 13 = .ok (.getfield 16, 3) := by decide +kernel
theorem d_MB_noted_16 : decode b_MB_noted 16 = .ok (.iload_n 1, 1) := by decide +kernel
theorem d_MB_noted_17 : decode b_MB_noted 17 = .ok (.invokevirtual 70, 3) := by decide +kernel
theorem d_MB_noted_20 : decode b_MB_noted 20 = .ok (.checkcast 113, 3) := by decide +kernel
theorem d_MB_noted_23 : decode b_MB_noted 23 = .ok (.astore_n 3, 1) := by decide +kernel
theorem d_MB_noted_24 : decode b_MB_noted 24 = .ok (.iload_n 2, 1) := by decide +kernel
theorem d_MB_noted_25 : decode b_MB_noted 25 = .ok (.tableswitch 121 0 9 #[55, 61, 67, 73, 79, 85, 91, 97, 106, 112], 55) := by decide +kernel
theorem d_MB_noted_80 : decode b_MB_noted 80 = .ok (.aload_n 3, 1) := by decide +kernel
theorem d_MB_noted_81 : decode b_MB_noted 81 = .ok (.getfield 119, 3) := by decide +kernel
theorem d_MB_noted_84 : decode b_MB_noted 84 = .ok (.i2l, 1) := by decide +kernel
theorem d_MB_noted_85 : decode b_MB_noted 85 = .ok (.lreturn, 1) := by decide +kernel
theorem d_MB_noted_86 : decode b_MB_noted 86 = .ok (.aload_n 3, 1) := by decide +kernel
theorem d_MB_noted_87 : decode b_MB_noted 87 = .ok (.getfield 136, 3) := by decide +kernel
theorem d_MB_noted_90 : decode b_MB_noted 90 = .ok (.i2l, 1) := by decide +kernel
theorem d_MB_noted_91 : decode b_MB_noted 91 = .ok (.lreturn, 1) := by decide +kernel
theorem d_MB_noted_92 : decode b_MB_noted 92 = .ok (.aload_n 3, 1) := by decide +kernel
theorem d_MB_noted_93 : decode b_MB_noted 93 = .ok (.getfield 139, 3) := by decide +kernel
theorem d_MB_noted_96 : decode b_MB_noted 96 = .ok (.i2l, 1) := by decide +kernel
theorem d_MB_noted_97 : decode b_MB_noted 97 = .ok (.lreturn, 1) := by decide +kernel
theorem d_MB_noted_98 : decode b_MB_noted 98 = .ok (.aload_n 3, 1) := by decide +kernel
theorem d_MB_noted_99 : decode b_MB_noted 99 = .ok (.getfield 142, 3) := by decide +kernel
theorem d_MB_noted_102 : decode b_MB_noted 102 = .ok (.i2l, 1) := by decide +kernel
theorem d_MB_noted_103 : decode b_MB_noted 103 = .ok (.lreturn, 1) := by decide +kernel
theorem d_MB_noted_104 : decode b_MB_noted 104 = .ok (.aload_n 3, 1) := by decide +kernel
theorem d_MB_noted_105 : decode b_MB_noted 105 = .ok (.getfield 145, 3) := by decide +kernel
theorem d_MB_noted_108 : decode b_MB_noted 108 = .ok (.i2l, 1) := by decide +kernel
theorem d_MB_noted_109 : decode b_MB_noted 109 = .ok (.lreturn, 1) := by decide +kernel
theorem d_MB_noted_110 : decode b_MB_noted 110 = .ok (.aload_n 3, 1) := by decide +kernel
theorem d_MB_noted_111 : decode b_MB_noted 111 = .ok (.getfield 148, 3) := by decide +kernel
theorem d_MB_noted_114 : decode b_MB_noted 114 = .ok (.i2l, 1) := by decide +kernel
theorem d_MB_noted_115 : decode b_MB_noted 115 = .ok (.lreturn, 1) := by decide +kernel
theorem d_MB_noted_116 : decode b_MB_noted 116 = .ok (.aload_n 3, 1) := by decide +kernel
theorem d_MB_noted_117 : decode b_MB_noted 117 = .ok (.getfield 151, 3) := by decide +kernel
theorem d_MB_noted_120 : decode b_MB_noted 120 = .ok (.i2l, 1) := by decide +kernel
theorem d_MB_noted_121 : decode b_MB_noted 121 = .ok (.lreturn, 1) := by decide +kernel
theorem d_MB_noted_122 : decode b_MB_noted 122 = .ok (.aload_n 3, 1) := by decide +kernel
theorem d_MB_noted_123 : decode b_MB_noted 123 = .ok (.getfield 115, 3) := by decide +kernel
theorem d_MB_noted_126 : decode b_MB_noted 126 = .ok (.invokestatic 90, 3) := by decide +kernel
theorem d_MB_noted_129 : decode b_MB_noted 129 = .ok (.i2l, 1) := by decide +kernel
theorem d_MB_noted_130 : decode b_MB_noted 130 = .ok (.lreturn, 1) := by decide +kernel
theorem d_MB_noted_131 : decode b_MB_noted 131 = .ok (.aload_n 3, 1) := by decide +kernel
theorem d_MB_noted_132 : decode b_MB_noted 132 = .ok (.getfield 154, 3) := by decide +kernel
theorem d_MB_noted_135 : decode b_MB_noted 135 = .ok (.i2l, 1) := by decide +kernel
theorem d_MB_noted_136 : decode b_MB_noted 136 = .ok (.lreturn, 1) := by decide +kernel
theorem d_MB_noted_137 : decode b_MB_noted 137 = .ok (.aload_n 3, 1) := by decide +kernel
theorem d_MB_noted_138 : decode b_MB_noted 138 = .ok (.getfield 118, 3) := by decide +kernel
theorem d_MB_noted_141 : decode b_MB_noted 141 = .ok (.invokestatic 90, 3) := by decide +kernel
theorem d_MB_noted_144 : decode b_MB_noted 144 = .ok (.i2l, 1) := by decide +kernel
theorem d_MB_noted_145 : decode b_MB_noted 145 = .ok (.lreturn, 1) := by decide +kernel
theorem d_MB_noted_146 : decode b_MB_noted 146 = .ok (.ldc2_w 94, 3) := by decide +kernel
theorem d_MB_noted_149 : decode b_MB_noted 149 = .ok (.lreturn, 1) := by decide +kernel
theorem d_MB_isInteraction_0 : decode b_MB_isInteraction 0 = .ok (.iload_n 1, 1) := by decide +kernel
theorem d_MB_isInteraction_1 : decode b_MB_isInteraction 1 = .ok (.iconst 0, 1) := by decide +kernel
theorem d_MB_isInteraction_2 : decode b_MB_isInteraction 2 = .ok (.aload_n 0, 1) := by decide +kernel
theorem d_MB_isInteraction_3 : decode b_MB_isInteraction 3 = .ok (.getfield 16, 3) := by decide +kernel
theorem d_MB_isInteraction_6 : decode b_MB_isInteraction 6 = .ok (.invokevirtual 56, 3) := by decide +kernel
theorem d_MB_isInteraction_9 : decode b_MB_isInteraction 9 = .ok (.iconst 1, 1) := by decide +kernel
theorem d_MB_isInteraction_10 : decode b_MB_isInteraction 10 = .ok (.isub, 1) := by decide +kernel
theorem d_MB_isInteraction_11 : decode b_MB_isInteraction 11 = .ok (.invokestatic 34, 3) := by decide +kernel
theorem d_MB_isInteraction_14 : decode b_MB_isInteraction 14 = .ok (.ireturn, 1) := by decide +kernel
theorem d_MB_answer_0 : decode b_MB_answer 0 = .ok (.aload_n 0, 1) := by decide +kernel
theorem d_MB_answer_1 : decode b_MB_answer 1 = .ok (.iload_n 1, 1) := by decide +kernel
theorem d_MB_answer_2 : decode b_MB_answer 2 = .ok (.invokevirtual 133, 3) := by decide +kernel
theorem d_MB_answer_5 : decode b_MB_answer 5 = .ok (.ifCond .eq 20, 3) := by decide +kernel
theorem d_MB_answer_8 : decode b_MB_answer 8 = .ok (.aload_n 0, 1) := by decide +kernel
theorem d_MB_answer_9 : decode b_MB_answer 9 = .ok (.getfield 16, 3) := by decide +kernel
theorem d_MB_answer_12 : decode b_MB_answer 12 = .ok (.iload_n 1, 1) := by decide +kernel
theorem d_MB_answer_13 : decode b_MB_answer 13 = .ok (.invokevirtual 70, 3) := by decide +kernel
theorem d_MB_answer_16 : decode b_MB_answer 16 = .ok (.checkcast 113, 3) := by decide +kernel
theorem d_MB_answer_19 : decode b_MB_answer 19 = .ok (.getfield 157, 3) := by decide +kernel
theorem d_MB_answer_22 : decode b_MB_answer 22 = .ok (.goto 6, 3) := by decide +kernel
theorem d_MB_answer_25 : decode b_MB_answer 25 = .ok (.ldc2_w 94, 3) := by decide +kernel
theorem d_MB_answer_28 : decode b_MB_answer 28 = .ok (.lreturn, 1) := by decide +kernel
theorem d_MB_about_0 : decode b_MB_about 0 = .ok (.aload_n 0, 1) := by decide +kernel
theorem d_MB_about_1 : decode b_MB_about 1 = .ok (.iload_n 1, 1) := by decide +kernel
theorem d_MB_about_2 : decode b_MB_about 2 = .ok (.invokevirtual 67, 3) := by decide +kernel
theorem d_MB_about_5 : decode b_MB_about 5 = .ok (.ifCond .ne 5, 3) := by decide +kernel
theorem d_MB_about_8 : decode b_MB_about 8 = .ok (.iconst (-1), 1) := by decide +kernel
theorem d_MB_about_9 : decode b_MB_about 9 = .ok (.ireturn, 1) := by decide +kernel
theorem d_MB_about_10 : decode b_MB_about 10 = .ok (.aload_n 0, 1) := by decide +kernel
theorem d_MB_about_11 : decode b_MB_about 11 = .ok (.getfield 10, 3) := by decide +kernel
theorem d_MB_about_14 : decode b_MB_about 14 = .ok (.iload_n 1, 1) := by decide +kernel
theorem d_MB_about_15 : decode b_MB_about 15 = .ok (.invokevirtual 70, 3) := by decide +kernel
theorem d_MB_about_18 : decode b_MB_about 18 = .ok (.checkcast 59, 3) := by decide +kernel
theorem d_MB_about_21 : decode b_MB_about 21 = .ok (.astore_n 3, 1) := by decide +kernel
theorem d_MB_about_22 : decode b_MB_about 22 = .ok (.iload_n 2, 1) := by decide +kernel
theorem d_MB_about_23 : decode b_MB_about 23 = .ok (.tableswitch 43 0 2 #[25, 30, 35], 25) := by decide +kernel
theorem d_MB_about_48 : decode b_MB_about 48 = .ok (.aload_n 3, 1) := by decide +kernel
theorem d_MB_about_49 : decode b_MB_about 49 = .ok (.getfield 81, 3) := by decide +kernel
theorem d_MB_about_52 : decode b_MB_about 52 = .ok (.ireturn, 1) := by decide +kernel
theorem d_MB_about_53 : decode b_MB_about 53 = .ok (.aload_n 3, 1) := by decide +kernel
theorem d_MB_about_54 : decode b_MB_about 54 = .ok (.getfield 122, 3) := by decide +kernel
theorem d_MB_about_57 : decode b_MB_about 57 = .ok (.ireturn, 1) := by decide +kernel
theorem d_MB_about_58 : decode b_MB_about 58 = .ok (.aload_n 3, 1) := by decide +kernel
theorem d_MB_about_59 : decode b_MB_about 59 = .ok (.getfield 74, 3) := by decide +kernel
theorem d_MB_about_62 : decode b_MB_about 62 = .ok (.invokestatic 90, 3) := by decide +kernel
theorem d_MB_about_65 : decode b_MB_about 65 = .ok (.ireturn, 1) := by decide +kernel
theorem d_MB_about_66 : decode b_MB_about 66 = .ok (.iconst (-1), 1) := by decide +kernel
theorem d_MB_about_67 : decode b_MB_about 67 = .ok (.ireturn, 1) := by decide +kernel
theorem d_MB_count_0 : decode b_MB_count 0 = .ok (.iload_n 1, 1) := by decide +kernel
theorem d_MB_count_1 : decode b_MB_count 1 = .ok (.tableswitch 80 0 5 #[39, 47, 53, 59, 67, 72], 39) := by decide +kernel
theorem d_MB_count_40 : decode b_MB_count 40 = .ok (.aload_n 0, 1) := by decide +kernel
theorem d_MB_count_41 : decode b_MB_count 41 = .ok (.getfield 16, 3) := by decide +kernel
theorem d_MB_count_44 : decode b_MB_count 44 = .ok (.invokevirtual 56, 3) := by decide +kernel
theorem d_MB_count_47 : decode b_MB_count 47 = .ok (.ireturn, 1) := by decide +kernel
theorem d_MB_count_48 : decode b_MB_count 48 = .ok (.aload_n 0, 1) := by decide +kernel
theorem d_MB_count_49 : decode b_MB_count 49 = .ok (.iconst 0, 1) := by decide +kernel
theorem d_MB_count_50 : decode b_MB_count 50 = .ok (.invokevirtual 161, 3) := by decide +kernel
theorem d_MB_count_53 : decode b_MB_count 53 = .ok (.ireturn, 1) := by decide +kernel
theorem d_MB_count_54 : decode b_MB_count 54 = .ok (.aload_n 0, 1) := by decide +kernel
theorem d_MB_count_55 : decode b_MB_count 55 = .ok (.iconst 1, 1) := by decide +kernel
theorem d_MB_count_56 : decode b_MB_count 56 = .ok (.invokevirtual 161, 3) := by decide +kernel
theorem d_MB_count_59 : decode b_MB_count 59 = .ok (.ireturn, 1) := by decide +kernel
theorem d_MB_count_60 : decode b_MB_count 60 = .ok (.aload_n 0, 1) := by decide +kernel
theorem d_MB_count_61 : decode b_MB_count 61 = .ok (.getfield 10, 3) := by decide +kernel
theorem d_MB_count_64 : decode b_MB_count 64 = .ok (.invokevirtual 56, 3) := by decide +kernel
theorem d_MB_count_67 : decode b_MB_count 67 = .ok (.ireturn, 1) := by decide +kernel
theorem d_MB_count_68 : decode b_MB_count 68 = .ok (.aload_n 0, 1) := by decide +kernel
theorem d_MB_count_69 : decode b_MB_count 69 = .ok (.invokevirtual 164, 3) := by decide +kernel
theorem d_MB_count_72 : decode b_MB_count 72 = .ok (.ireturn, 1) := by decide +kernel
theorem d_MB_count_73 : decode b_MB_count 73 = .ok (.aload_n 0, 1) := by decide +kernel
theorem d_MB_count_74 : decode b_MB_count 74 = .ok (.getfield 26, 3) := by decide +kernel
theorem d_MB_count_77 : decode b_MB_count 77 = .ok (.getfield 38, 3) := by decide +kernel
theorem d_MB_count_80 : decode b_MB_count 80 = .ok (.ireturn, 1) := by decide +kernel
theorem d_MB_count_81 : decode b_MB_count 81 = .ok (.iconst (-1), 1) := by decide +kernel
theorem d_MB_count_82 : decode b_MB_count 82 = .ok (.ireturn, 1) := by decide +kernel
theorem d_MB_countLiveInteractions_0 : decode b_MB_countLiveInteractions 0 = .ok (.iconst 0, 1) := by decide +kernel
theorem d_MB_countLiveInteractions_1 : decode b_MB_countLiveInteractions 1 = .ok (.istore_n 2, 1) := by decide +kernel
theorem d_MB_countLiveInteractions_2 : decode b_MB_countLiveInteractions 2 = .ok (.iconst 0, 1) := by decide +kernel
theorem d_MB_countLiveInteractions_3 : decode b_MB_countLiveInteractions 3 = .ok (.istore_n 3, 1) := by decide +kernel
theorem d_MB_countLiveInteractions_4 : decode b_MB_countLiveInteractions 4 = .ok (.iload_n 3, 1) := by decide +kernel
theorem d_MB_countLiveInteractions_5 : decode b_MB_countLiveInteractions 5 = .ok (.aload_n 0, 1) := by decide +kernel
theorem d_MB_countLiveInteractions_6 : decode b_MB_countLiveInteractions 6 = .ok (.getfield 16, 3) := by decide +kernel
theorem d_MB_countLiveInteractions_9 : decode b_MB_countLiveInteractions 9 = .ok (.invokevirtual 56, 3) := by decide +kernel
theorem d_MB_countLiveInteractions_12 : decode b_MB_countLiveInteractions 12 = .ok (.if_icmp .ge 45, 3) := by decide +kernel
theorem d_MB_countLiveInteractions_15 : decode b_MB_countLiveInteractions 15 = .ok (.aload_n 0, 1) := by decide +kernel
theorem d_MB_countLiveInteractions_16 : decode b_MB_countLiveInteractions 16 = .ok (.getfield 16, 3) := by decide +kernel
theorem d_MB_countLiveInteractions_19 : decode b_MB_countLiveInteractions 19 = .ok (.iload_n 3, 1) := by decide +kernel
theorem d_MB_countLiveInteractions_20 : decode b_MB_countLiveInteractions 20 = .ok (.invokevirtual 70, 3) := by decide +kernel
theorem d_MB_countLiveInteractions_23 : decode b_MB_countLiveInteractions 23 = .ok (.checkcast 113, 3) := by decide +kernel
theorem d_MB_countLiveInteractions_26 : decode b_MB_countLiveInteractions 26 = .ok (.astore 4, 2) := by decide +kernel
theorem d_MB_countLiveInteractions_28 : decode b_MB_countLiveInteractions 28 = .ok (.aload 4, 2) := by decide +kernel
theorem d_MB_countLiveInteractions_30 : decode b_MB_countLiveInteractions 30 = .ok (.getfield 118, 3) := by decide +kernel
theorem d_MB_countLiveInteractions_33 : decode b_MB_countLiveInteractions 33 = .ok (.ifCond .eq 18, 3) := by decide +kernel
theorem d_MB_countLiveInteractions_36 : decode b_MB_countLiveInteractions 36 = .ok (.aload 4, 2) := by decide +kernel
theorem d_MB_countLiveInteractions_38 : decode b_MB_countLiveInteractions 38 = .ok (.getfield 115, 3) := by decide +kernel
theorem d_MB_countLiveInteractions_41 : decode b_MB_countLiveInteractions 41 = .ok (.ifCond .ne 7, 3) := by decide +kernel
theorem d_MB_countLiveInteractions_44 : decode b_MB_countLiveInteractions 44 = .ok (.iload_n 1, 1) := by decide +kernel
theorem d_MB_countLiveInteractions_45 : decode b_MB_countLiveInteractions 45 = .ok (.ifCond .ne 6, 3) := by decide +kernel
theorem d_MB_countLiveInteractions_48 : decode b_MB_countLiveInteractions 48 = .ok (.iinc 2 1, 3) := by decide +kernel
theorem d_MB_countLiveInteractions_51 : decode b_MB_countLiveInteractions 51 = .ok (.iinc 3 1, 3) := by decide +kernel
theorem d_MB_countLiveInteractions_54 : decode b_MB_countLiveInteractions 54 = .ok (.goto (-50), 3) := by decide +kernel
theorem d_MB_countLiveInteractions_57 : decode b_MB_countLiveInteractions 57 = .ok (.iload_n 2, 1) := by decide +kernel
theorem d_MB_countLiveInteractions_58 : decode b_MB_countLiveInteractions 58 = .ok (.ireturn, 1) := by decide +kernel
theorem d_MB_countLiveRules_0 : decode b_MB_countLiveRules 0 = .ok (.iconst 0, 1) := by decide +kernel
theorem d_MB_countLiveRules_1 : decode b_MB_countLiveRules 1 = .ok (.istore_n 1, 1) := by decide +kernel
theorem d_MB_countLiveRules_2 : decode b_MB_countLiveRules 2 = .ok (.iconst 0, 1) := by decide +kernel
theorem d_MB_countLiveRules_3 : decode b_MB_countLiveRules 3 = .ok (.istore_n 2, 1) := by decide +kernel
theorem d_MB_countLiveRules_4 : decode b_MB_countLiveRules 4 = .ok (.iload_n 2, 1) := by decide +kernel
theorem d_MB_countLiveRules_5 : decode b_MB_countLiveRules 5 = .ok (.aload_n 0, 1) := by decide +kernel
theorem d_MB_countLiveRules_6 : decode b_MB_countLiveRules 6 = .ok (.getfield 10, 3) := by decide +kernel
theorem d_MB_countLiveRules_9 : decode b_MB_countLiveRules 9 = .ok (.invokevirtual 56, 3) := by decide +kernel
theorem d_MB_countLiveRules_12 : decode b_MB_countLiveRules 12 = .ok (.if_icmp .ge 29, 3) := by decide +kernel
theorem d_MB_countLiveRules_15 : decode b_MB_countLiveRules 15 = .ok (.aload_n 0, 1) := by decide +kernel
theorem d_MB_countLiveRules_16 : decode b_MB_countLiveRules 16 = .ok (.getfield 10, 3) := by decide +kernel
theorem d_MB_countLiveRules_19 : decode b_MB_countLiveRules 19 = .ok (.iload_n 2, 1) := by decide +kernel
theorem d_MB_countLiveRules_20 : decode b_MB_countLiveRules 20 = .ok (.invokevirtual 70, 3) := by decide +kernel
theorem d_MB_countLiveRules_23 : decode b_MB_countLiveRules 23 = .ok (.checkcast 59, 3) := by decide +kernel
theorem d_MB_countLiveRules_26 : decode b_MB_countLiveRules 26 = .ok (.getfield 74, 3) := by decide +kernel
theorem d_MB_countLiveRules_29 : decode b_MB_countLiveRules 29 = .ok (.ifCond .eq 6, 3) := by decide +kernel
theorem d_MB_countLiveRules_32 : decode b_MB_countLiveRules 32 = .ok (.iinc 1 1, 3) := by decide +kernel
theorem d_MB_countLiveRules_35 : decode b_MB_countLiveRules 35 = .ok (.iinc 2 1, 3) := by decide +kernel
theorem d_MB_countLiveRules_38 : decode b_MB_countLiveRules 38 = .ok (.goto (-34), 3) := by decide +kernel
theorem d_MB_countLiveRules_41 : decode b_MB_countLiveRules 41 = .ok (.iload_n 1, 1) := by decide +kernel
theorem d_MB_countLiveRules_42 : decode b_MB_countLiveRules 42 = .ok (.ireturn, 1) := by decide +kernel
