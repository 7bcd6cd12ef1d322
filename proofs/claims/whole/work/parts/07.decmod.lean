theorem d_MM_init_0 : decode b_MM_init 0 = .ok (.aload_n 0, 1) := by decide +kernel
theorem d_MM_init_1 : decode b_MM_init 1 = .ok (.invokespecial 1, 3) := by decide +kernel
theorem d_MM_init_4 : decode b_MM_init 4 = .ok (.aload_n 0, 1) := by decide +kernel
theorem d_MM_init_5 : decode b_MM_init 5 = .ok (.iconst 3, 1) := by decide +kernel
theorem d_MM_init_6 : decode b_MM_init 6 = .ok (.newarray .int, 2) := by decide +kernel
theorem d_MM_init_8 : decode b_MM_init 8 = .ok (.putfield 7, 3) := by decide +kernel
theorem d_MM_init_11 : decode b_MM_init 11 = .ok (.aload_n 0, 1) := by decide +kernel
theorem d_MM_init_12 : decode b_MM_init 12 = .ok (.iconst 3, 1) := by decide +kernel
theorem d_MM_init_13 : decode b_MM_init 13 = .ok (.newarray .int, 2) := by decide +kernel
theorem d_MM_init_15 : decode b_MM_init 15 = .ok (.putfield 13, 3) := by decide +kernel
theorem d_MM_init_18 : decode b_MM_init 18 = .ok (.aload_n 0, 1) := by decide +kernel
theorem d_MM_init_19 : decode b_MM_init 19 = .ok (.bipush 24, 2) := by decide +kernel
theorem d_MM_init_21 : decode b_MM_init 21 = .ok (.newarray .int, 2) := by decide +kernel
theorem d_MM_init_23 : decode b_MM_init 23 = .ok (.putfield 16, 3) := by decide +kernel
theorem d_MM_init_26 : decode b_MM_init 26 = .ok (.aload_n 0, 1) := by decide +kernel
theorem d_MM_init_27 : decode b_MM_init 27 = .ok (.bipush 24, 2) := by decide +kernel
theorem d_MM_init_29 : decode b_MM_init 29 = .ok (.newarray .int, 2) := by decide +kernel
theorem d_MM_init_31 : decode b_MM_init 31 = .ok (.putfield 19, 3) := by decide +kernel
theorem d_MM_init_34 : decode b_MM_init 34 = .ok (.aload_n 0, 1) := by decide +kernel
theorem d_MM_init_35 : decode b_MM_init 35 = .ok (.bipush 24, 2) := by decide +kernel
theorem d_MM_init_37 : decode b_MM_init 37 = .ok (.newarray .boolean, 2) := by decide +kernel
theorem d_MM_init_39 : decode b_MM_init 39 = .ok (.putfield 22, 3) := by decide +kernel
theorem d_MM_init_42 : decode b_MM_init 42 = .ok (.aload_n 0, 1) := by decide +kernel
theorem d_MM_init_43 : decode b_MM_init 43 = .ok (.bipush 72, 2) := by decide +kernel
theorem d_MM_init_45 : decode b_MM_init 45 = .ok (.newarray .int, 2) := by decide +kernel
theorem d_MM_init_47 : decode b_MM_init 47 = .ok (.putfield 26, 3) := by decide +kernel
theorem d_MM_init_50 : decode b_MM_init 50 = .ok (.aload_n 0, 1) := by decide +kernel
theorem d_MM_init_51 : decode b_MM_init 51 = .ok (.bipush 72, 2) := by decide +kernel
theorem d_MM_init_53 : decode b_MM_init 53 = .ok (.newarray .int, 2) := by decide +kernel
theorem d_MM_init_55 : decode b_MM_init 55 = .ok (.putfield 29, 3) := by decide +kernel
theorem d_MM_init_58 : decode b_MM_init 58 = .ok (.aload_n 0, 1) := by decide +kernel
theorem d_MM_init_59 : decode b_MM_init 59 = .ok (.bipush 96, 2) := by decide +kernel
theorem d_MM_init_61 : decode b_MM_init 61 = .ok (.newarray .int, 2) := by decide +kernel
theorem d_MM_init_63 : decode b_MM_init 63 = .ok (.putfield 32, 3) := by decide +kernel
theorem d_MM_init_66 : decode b_MM_init 66 = .ok (.aload_n 0, 1) := by decide +kernel
theorem d_MM_init_67 : decode b_MM_init 67 = .ok (.bipush 96, 2) := by decide +kernel
theorem d_MM_init_69 : decode b_MM_init 69 = .ok (.newarray .int, 2) := by decide +kernel
theorem d_MM_init_71 : decode b_MM_init 71 = .ok (.putfield 35, 3) := by decide +kernel
theorem d_MM_init_74 : decode b_MM_init 74 = .ok (.aload_n 0, 1) := by decide +kernel
theorem d_MM_init_75 : decode b_MM_init 75 = .ok (.bipush 24, 2) := by decide +kernel
theorem d_MM_init_77 : decode b_MM_init 77 = .ok (.newarray .int, 2) := by decide +kernel
theorem d_MM_init_79 : decode b_MM_init 79 = .ok (.putfield 38, 3) := by decide +kernel
theorem d_MM_init_82 : decode b_MM_init 82 = .ok (.aload_n 0, 1) := by decide +kernel
theorem d_MM_init_83 : decode b_MM_init 83 = .ok (.iconst 4, 1) := by decide +kernel
theorem d_MM_init_84 : decode b_MM_init 84 = .ok (.newarray .boolean, 2) := by decide +kernel
theorem d_MM_init_86 : decode b_MM_init 86 = .ok (.putfield 41, 3) := by decide +kernel
theorem d_MM_init_89 : decode b_MM_init 89 = .ok (.aload_n 0, 1) := by decide +kernel
theorem d_MM_init_90 : decode b_MM_init 90 = .ok (.sipush 160, 3) := by decide +kernel
theorem d_MM_init_93 : decode b_MM_init 93 = .ok (.newarray .int, 2) := by decide +kernel
theorem d_MM_init_95 : decode b_MM_init 95 = .ok (.putfield 44, 3) := by decide +kernel
theorem d_MM_init_98 : decode b_MM_init 98 = .ok (.aload_n 0, 1) := by decide +kernel
theorem d_MM_init_99 : decode b_MM_init 99 = .ok (.sipush 160, 3) := by decide +kernel
theorem d_MM_init_102 : decode b_MM_init 102 = .ok (.newarray .int, 2) := by decide +kernel
theorem d_MM_init_104 : decode b_MM_init 104 = .ok (.putfield 47, 3) := by decide +kernel
theorem d_MM_init_107 : decode b_MM_init 107 = .ok (.aload_n 0, 1) := by decide +kernel
theorem d_MM_init_108 : decode b_MM_init 108 = .ok (.sipush 480, 3) := by decide +kernel
theorem d_MM_init_111 : decode b_MM_init 111 = .ok (.newarray .int, 2) := by decide +kernel
theorem d_MM_init_113 : decode b_MM_init 113 = .ok (.putfield 50, 3) := by decide +kernel
theorem d_MM_init_116 : decode b_MM_init 116 = .ok (.aload_n 0, 1) := by decide +kernel
theorem d_MM_init_117 : decode b_MM_init 117 = .ok (.sipush 160, 3) := by decide +kernel
theorem d_MM_init_120 : decode b_MM_init 120 = .ok (.newarray .int, 2) := by decide +kernel
theorem d_MM_init_122 : decode b_MM_init 122 = .ok (.putfield 53, 3) := by decide +kernel
theorem d_MM_init_125 : decode b_MM_init 125 = .ok (.aload_n 0, 1) := by decide +kernel
theorem d_MM_init_126 : decode b_MM_init 126 = .ok (.sipush 160, 3) := by decide +kernel
theorem d_MM_init_129 : decode b_MM_init 129 = .ok (.newarray .int, 2) := by decide +kernel
theorem d_MM_init_131 : decode b_MM_init 131 = .ok (.putfield 56, 3) := by decide +kernel
theorem d_MM_init_134 : decode b_MM_init 134 = .ok (.aload_n 0, 1) := by decide +kernel
theorem d_MM_init_135 : decode b_MM_init 135 = .ok (.sipush 160, 3) := by decide +kernel
theorem d_MM_init_138 : decode b_MM_init 138 = .ok (.newarray .int, 2) := by decide +kernel
theorem d_MM_init_140 : decode b_MM_init 140 = .ok (.putfield 59, 3) := by decide +kernel
theorem d_MM_init_143 : decode b_MM_init 143 = .ok (.aload_n 0, 1) := by decide +kernel
theorem d_MM_init_144 : decode b_MM_init 144 = .ok (.sipush 160, 3) := by decide +kernel
theorem d_MM_init_147 : decode b_MM_init 147 = .ok (.newarray .long, 2) := by decide +kernel
theorem d_MM_init_149 : decode b_MM_init 149 = .ok (.putfield 62, 3) := by decide +kernel
theorem d_MM_init_152 : decode b_MM_init 152 = .ok (.aload_n 0, 1) := by decide +kernel
theorem d_MM_init_153 : decode b_MM_init 153 = .ok (.sipush 160, 3) := by decide +kernel
theorem d_MM_init_156 : decode b_MM_init 156 = .ok (.newarray .boolean, 2) := by decide +kernel
theorem d_MM_init_158 : decode b_MM_init 158 = .ok (.putfield 66, 3) := by decide +kernel
theorem d_MM_init_161 : decode b_MM_init 161 = .ok (.aload_n 0, 1) := by decide +kernel
theorem d_MM_init_162 : decode b_MM_init 162 = .ok (.sipush 160, 3) := by decide +kernel
theorem d_MM_init_165 : decode b_MM_init 165 = .ok (.newarray .boolean, 2) := by decide +kernel
theorem d_MM_init_167 : decode b_MM_init 167 = .ok (.putfield 69, 3) := by decide +kernel
theorem d_MM_init_170 : decode b_MM_init 170 = .ok (.aload_n 0, 1) := by decide +kernel
theorem d_MM_init_171 : decode b_MM_init 171 = .ok (.iconst (-1), 1) := by decide +kernel
theorem d_MM_init_172 : decode b_MM_init 172 = .ok (.putfield 72, 3) := by decide +kernel
theorem d_MM_init_175 : decode b_MM_init 175 = .ok (.return_, 1) := by decide +kernel
theorem d_MM_matcher_0 : decode b_MM_matcher 0 = .ok (.iload_n 1, 1) := by decide +kernel
theorem d_MM_matcher_1 : decode b_MM_matcher 1 = .ok (.ifCond .lt 8, 3) := by decide +kernel
theorem d_MM_matcher_4 : decode b_MM_matcher 4 = .ok (.iload_n 1, 1) := by decide +kernel
theorem d_MM_matcher_5 : decode b_MM_matcher 5 = .ok (.iconst 5, 1) := by decide +kernel
theorem d_MM_matcher_6 : decode b_MM_matcher 6 = .ok (.if_icmp .le 5, 3) := by decide +kernel
theorem d_MM_matcher_9 : decode b_MM_matcher 9 = .ok (.iconst (-1), 1) := by decide +kernel
theorem d_MM_matcher_10 : decode b_MM_matcher 10 = .ok (.ireturn, 1) := by decide +kernel
theorem d_MM_matcher_11 : decode b_MM_matcher 11 = .ok (.aload_n 0, 1) := by decide +kernel
theorem d_MM_matcher_12 : decode b_MM_matcher 12 = .ok (.getfield 76, 3) := by decide +kernel
theorem d_MM_matcher_15 : decode b_MM_matcher 15 = .ok (.iconst 3, 1) := by decide +kernel
theorem d_MM_matcher_16 : decode b_MM_matcher 16 = .ok (.if_icmp .ne 6, 3) := by decide +kernel
theorem d_MM_matcher_19 : decode b_MM_matcher 19 = .ok (.bipush (-2), 2) := by decide +kernel
theorem d_MM_matcher_21 : decode b_MM_matcher 21 = .ok (.ireturn, 1) := by decide +kernel
theorem d_MM_matcher_22 : decode b_MM_matcher 22 = .ok (.aload_n 0, 1) := by decide +kernel
theorem d_MM_matcher_23 : decode b_MM_matcher 23 = .ok (.getfield 7, 3) := by decide +kernel
theorem d_MM_matcher_26 : decode b_MM_matcher 26 = .ok (.aload_n 0, 1) := by decide +kernel
theorem d_MM_matcher_27 : decode b_MM_matcher 27 = .ok (.getfield 76, 3) := by decide +kernel
theorem d_MM_matcher_30 : decode b_MM_matcher 30 = .ok (.iload_n 1, 1) := by decide +kernel
theorem d_MM_matcher_31 : decode b_MM_matcher 31 = .ok (.iastore, 1) := by decide +kernel
theorem d_MM_matcher_32 : decode b_MM_matcher 32 = .ok (.aload_n 0, 1) := by decide +kernel
theorem d_MM_matcher_33 : decode b_MM_matcher 33 = .ok (.getfield 13, 3) := by decide +kernel
theorem d_MM_matcher_36 : decode b_MM_matcher 36 = .ok (.aload_n 0, 1) := by decide +kernel
theorem d_MM_matcher_37 : decode b_MM_matcher 37 = .ok (.getfield 76, 3) := by decide +kernel
theorem d_MM_matcher_40 : decode b_MM_matcher 40 = .ok (.iload_n 2, 1) := by decide +kernel
theorem d_MM_matcher_41 : decode b_MM_matcher 41 = .ok (.iastore, 1) := by decide +kernel
theorem d_MM_matcher_42 : decode b_MM_matcher 42 = .ok (.aload_n 0, 1) := by decide +kernel
theorem d_MM_matcher_43 : decode b_MM_matcher 43 = .ok (.dup, 1) := by decide +kernel
theorem d_MM_matcher_44 : decode b_MM_matcher 44 = .ok (.getfield 76, 3) := by decide +kernel
theorem d_MM_matcher_47 : decode b_MM_matcher 47 = .ok (.iconst 1, 1) := by decide +kernel
theorem d_MM_matcher_48 : decode b_MM_matcher 48 = .ok (.iadd, 1) := by decide +kernel
theorem d_MM_matcher_49 : decode b_MM_matcher 49 = .ok (.putfield 76, 3) := by decide +kernel
theorem d_MM_matcher_52 : decode b_MM_matcher 52 = .ok (.aload_n 0, 1) := by decide +kernel
theorem d_MM_matcher_53 : decode b_MM_matcher 53 = .ok (.getfield 76, 3) := by decide +kernel
theorem d_MM_matcher_56 : decode b_MM_matcher 56 = .ok (.ireturn, 1) := by decide +kernel
theorem d_MM_drop_0 : decode b_MM_drop 0 = .ok (.aload_n 0, 1) := by decide +kernel
theorem d_MM_drop_1 : decode b_MM_drop 1 = .ok (.iconst 0, 1) := by decide +kernel
theorem d_MM_drop_2 : decode b_MM_drop 2 = .ok (.putfield 76, 3) := by decide +kernel
theorem d_MM_drop_5 : decode b_MM_drop 5 = .ok (.return_, 1) := by decide +kernel
theorem d_MM_rule_0 : decode b_MM_rule 0 = .ok (.iload_n 1, 1) := by decide +kernel
theorem d_MM_rule_1 : decode b_MM_rule 1 = .ok (.iload_n 2, 1) := by decide +kernel
theorem d_MM_rule_2 : decode b_MM_rule 2 = .ok (.invokestatic 79, 3) := by decide +kernel
theorem d_MM_rule_5 : decode b_MM_rule 5 = .ok (.ifCond .ne 13, 3) := by decide +kernel
theorem d_MM_rule_8 : decode b_MM_rule 8 = .ok (.aload_n 0, 1) := by decide +kernel
theorem d_MM_rule_9 : decode b_MM_rule 9 = .ok (.getfield 76, 3) := by decide +kernel
theorem d_MM_rule_12 : decode b_MM_rule 12 = .ok (.iload_n 2, 1) := by decide +kernel
theorem d_MM_rule_13 : decode b_MM_rule 13 = .ok (.iconst 4, 1) := by decide +kernel
theorem d_MM_rule_14 : decode b_MM_rule 14 = .ok (.irem, 1) := by decide +kernel
theorem d_MM_rule_15 : decode b_MM_rule 15 = .ok (.if_icmp .eq 5, 3) := by decide +kernel
theorem d_MM_rule_18 : decode b_MM_rule 18 = .ok (.iconst (-1), 1) := by decide +kernel
theorem d_MM_rule_19 : decode b_MM_rule 19 = .ok (.ireturn, 1) := by decide +kernel
theorem d_MM_rule_20 : decode b_MM_rule 20 = .ok (.aload_n 0, 1) := by decide +kernel
theorem d_MM_rule_21 : decode b_MM_rule 21 = .ok (.getfield 83, 3) := by decide +kernel
theorem d_MM_rule_24 : decode b_MM_rule 24 = .ok (.bipush 24, 2) := by decide +kernel
theorem d_MM_rule_26 : decode b_MM_rule 26 = .ok (.if_icmp .ne 6, 3) := by decide +kernel
theorem d_MM_rule_29 : decode b_MM_rule 29 = .ok (.bipush (-2), 2) := by decide +kernel
theorem d_MM_rule_31 : decode b_MM_rule 31 = .ok (.ireturn, 1) := by decide +kernel
theorem d_MM_rule_32 : decode b_MM_rule 32 = .ok (.aload_n 0, 1) := by decide +kernel
theorem d_MM_rule_33 : decode b_MM_rule 33 = .ok (.getfield 16, 3) := by decide +kernel
theorem d_MM_rule_36 : decode b_MM_rule 36 = .ok (.aload_n 0, 1) := by decide +kernel
theorem d_MM_rule_37 : decode b_MM_rule 37 = .ok (.getfield 83, 3) := by decide +kernel
theorem d_MM_rule_40 : decode b_MM_rule 40 = .ok (.iload_n 1, 1) := by decide +kernel
theorem d_MM_rule_41 : decode b_MM_rule 41 = .ok (.iastore, 1) := by decide +kernel
theorem d_MM_rule_42 : decode b_MM_rule 42 = .ok (.aload_n 0, 1) := by decide +kernel
theorem d_MM_rule_43 : decode b_MM_rule 43 = .ok (.getfield 19, 3) := by decide +kernel
theorem d_MM_rule_46 : decode b_MM_rule 46 = .ok (.aload_n 0, 1) := by decide +kernel
theorem d_MM_rule_47 : decode b_MM_rule 47 = .ok (.getfield 83, 3) := by decide +kernel
theorem d_MM_rule_50 : decode b_MM_rule 50 = .ok (.iload_n 2, 1) := by decide +kernel
theorem d_MM_rule_51 : decode b_MM_rule 51 = .ok (.iastore, 1) := by decide +kernel
theorem d_MM_rule_52 : decode b_MM_rule 52 = .ok (.aload_n 0, 1) := by decide +kernel
theorem d_MM_rule_53 : decode b_MM_rule 53 = .ok (.getfield 22, 3) := by decide +kernel
theorem d_MM_rule_56 : decode b_MM_rule 56 = .ok (.aload_n 0, 1) := by decide +kernel
theorem d_MM_rule_57 : decode b_MM_rule 57 = .ok (.getfield 83, 3) := by decide +kernel
theorem d_MM_rule_60 : decode b_MM_rule 60 = .ok (.iconst 1, 1) := by decide +kernel
theorem d_MM_rule_61 : decode b_MM_rule 61 = .ok (.bastore, 1) := by decide +kernel
theorem d_MM_rule_62 : decode b_MM_rule 62 = .ok (.iconst 0, 1) := by decide +kernel
theorem d_MM_rule_63 : decode b_MM_rule 63 = .ok (.istore_n 3, 1) := by decide +kernel
theorem d_MM_rule_64 : decode b_MM_rule 64 = .ok (.iload_n 3, 1) := by decide +kernel
theorem d_MM_rule_65 : decode b_MM_rule 65 = .ok (.aload_n 0, 1) := by decide +kernel
theorem d_MM_rule_66 : decode b_MM_rule 66 = .ok (.getfield 76, 3) := by decide +kernel
theorem d_MM_rule_69 : decode b_MM_rule 69 = .ok (.if_icmp .ge 47, 3) := by decide +kernel
theorem d_MM_rule_72 : decode b_MM_rule 72 = .ok (.aload_n 0, 1) := by decide +kernel
theorem d_MM_rule_73 : decode b_MM_rule 73 = .ok (.getfield 26, 3) := by decide +kernel
theorem d_MM_rule_76 : decode b_MM_rule 76 = .ok (.iconst 3, 1) := by decide +kernel
theorem d_MM_rule_77 : decode b_MM_rule 77 = .ok (.aload_n 0, 1) := by decide +kernel
theorem d_MM_rule_78 : decode b_MM_rule 78 = .ok (.getfield 83, 3) := by decide +kernel
theorem d_MM_rule_81 : decode b_MM_rule 81 = .ok (.imul, 1) := by decide +kernel
theorem d_MM_rule_82 : decode b_MM_rule 82 = .ok (.iload_n 3, 1) := by decide +kernel
theorem d_MM_rule_83 : decode b_MM_rule 83 = .ok (.iadd, 1) := by decide +kernel
theorem d_MM_rule_84 : decode b_MM_rule 84 = .ok (.aload_n 0, 1) := by decide +kernel
theorem d_MM_rule_85 : decode b_MM_rule 85 = .ok (.getfield 7, 3) := by decide +kernel
theorem d_MM_rule_88 : decode b_MM_rule 88 = .ok (.iload_n 3, 1) := by decide +kernel
theorem d_MM_rule_89 : decode b_MM_rule 89 = .ok (.iaload, 1) := by decide +kernel
theorem d_MM_rule_90 : decode b_MM_rule 90 = .ok (.iastore, 1) := by decide +kernel
theorem d_MM_rule_91 : decode b_MM_rule 91 = .ok (.aload_n 0, 1) := by decide +kernel
theorem d_MM_rule_92 : decode b_MM_rule 92 = .ok (.getfield 29, 3) := by decide +kernel
theorem d_MM_rule_95 : decode b_MM_rule 95 = .ok (.iconst 3, 1) := by decide +kernel
theorem d_MM_rule_96 : decode b_MM_rule 96 = .ok (.aload_n 0, 1) := by decide +kernel
theorem d_MM_rule_97 : decode b_MM_rule 97 = .ok (.getfield 83, 3) := by decide +kernel
theorem d_MM_rule_100 : decode b_MM_rule 100 = .ok (.imul, 1) := by decide +kernel
theorem d_MM_rule_101 : decode b_MM_rule 101 = .ok (.iload_n 3, 1) := by decide +kernel
theorem d_MM_rule_102 : decode b_MM_rule 102 = .ok (.iadd, 1) := by decide +kernel
theorem d_MM_rule_103 : decode b_MM_rule 103 = .ok (.aload_n 0, 1) := by decide +kernel
theorem d_MM_rule_104 : decode b_MM_rule 104 = .ok (.getfield 13, 3) := by decide +kernel
theorem d_MM_rule_107 : decode b_MM_rule 107 = .ok (.iload_n 3, 1) := by decide +kernel
theorem d_MM_rule_108 : decode b_MM_rule 108 = .ok (.iaload, 1) := by decide +kernel
theorem d_MM_rule_109 : decode b_MM_rule 109 = .ok (.iastore, 1) := by decide +kernel
theorem d_MM_rule_110 : decode b_MM_rule 110 = .ok (.iinc 3 1, 3) := by decide +kernel
theorem d_MM_rule_113 : decode b_MM_rule 113 = .ok (.goto (-49), 3) := by decide +kernel
theorem d_MM_rule_116 : decode b_MM_rule 116 = .ok (.aload_n 0, 1) := by decide +kernel
theorem d_MM_rule_117 : decode b_MM_rule 117 = .ok (.iconst 0, 1) := by decide +kernel
theorem d_MM_rule_118 : decode b_MM_rule 118 = .ok (.putfield 76, 3) := by decide +kernel
theorem d_MM_rule_121 : decode b_MM_rule 121 = .ok (.aload_n 0, 1) := by decide +kernel
theorem d_MM_rule_122 : decode b_MM_rule 122 = .ok (.dup, 1) := by decide +kernel
theorem d_MM_rule_123 : decode b_MM_rule 123 = .ok (.getfield 83, 3) := by decide +kernel
theorem d_MM_rule_126 : decode b_MM_rule 126 = .ok (.iconst 1, 1) := by decide +kernel
theorem d_MM_rule_127 : decode b_MM_rule 127 = .ok (.iadd, 1) := by decide +kernel
theorem d_MM_rule_128 : decode b_MM_rule 128 = .ok (.putfield 83, 3) := by decide +kernel
theorem d_MM_rule_131 : decode b_MM_rule 131 = .ok (.aload_n 0, 1) := by decide +kernel
theorem d_MM_rule_132 : decode b_MM_rule 132 = .ok (.getfield 83, 3) := by decide +kernel
theorem d_MM_rule_135 : decode b_MM_rule 135 = .ok (.iconst 1, 1) := by decide +kernel
theorem d_MM_rule_136 : decode b_MM_rule 136 = .ok (.isub, 1) := by decide +kernel
theorem d_MM_rule_137 : decode b_MM_rule 137 = .ok (.ireturn, 1) := by decide +kernel
theorem d_MM_bad_0 : decode b_MM_bad 0 = .ok (.iload_n 0, 1) := by decide +kernel
theorem d_MM_bad_1 : decode b_MM_bad 1 = .ok (.ifCond .lt 18, 3) := by decide +kernel
theorem d_MM_bad_4 : decode b_MM_bad 4 = .ok (.iload_n 0, 1) := by decide +kernel
theorem d_MM_bad_5 : decode b_MM_bad 5 = .ok (.iconst 3, 1) := by decide +kernel
theorem d_MM_bad_6 : decode b_MM_bad 6 = .ok (.if_icmp .gt 13, 3) := by decide +kernel
theorem d_MM_bad_9 : decode b_MM_bad 9 = .ok (.iload_n 1, 1) := by decide +kernel
theorem d_MM_bad_10 : decode b_MM_bad 10 = .ok (.ifCond .lt 9, 3) := by decide +kernel
theorem d_MM_bad_13 : decode b_MM_bad 13 = .ok (.iload_n 1, 1) := by decide +kernel
theorem d_MM_bad_14 : decode b_MM_bad 14 = .ok (.bipush 7, 2) := by decide +kernel
theorem d_MM_bad_16 : decode b_MM_bad 16 = .ok (.if_icmp .le 7, 3) := by decide +kernel
theorem d_MM_bad_19 : decode b_MM_bad 19 = .ok (.iconst 1, 1) := by decide +kernel
theorem d_MM_bad_20 : decode b_MM_bad 20 = .ok (.goto 4, 3) := by decide +kernel
theorem d_MM_bad_23 : decode b_MM_bad 23 = .ok (.iconst 0, 1) := by decide +kernel
theorem d_MM_bad_24 : decode b_MM_bad 24 = .ok (.ireturn, 1) := by decide +kernel
theorem d_MM_then_0 : decode b_MM_then 0 = .ok (.iload_n 1, 1) := by decide +kernel
theorem d_MM_then_1 : decode b_MM_then 1 = .ok (.ifCond .lt 29, 3) := by decide +kernel
theorem d_MM_then_4 : decode b_MM_then 4 = .ok (.iload_n 1, 1) := by decide +kernel
theorem d_MM_then_5 : decode b_MM_then 5 = .ok (.aload_n 0, 1) := by decide +kernel
theorem d_MM_then_6 : decode b_MM_then 6 = .ok (.getfield 83, 3) := by decide +kernel
theorem d_MM_then_9 : decode b_MM_then 9 = .ok (.if_icmp .ge 21, 3) := by decide +kernel
theorem d_MM_then_12 : decode b_MM_then 12 = .ok (.aload_n 0, 1) := by decide +kernel
theorem d_MM_then_13 : decode b_MM_then 13 = .ok (.getfield 22, 3) := by decide +kernel
theorem d_MM_then_16 : decode b_MM_then 16 = .ok (.iload_n 1, 1) := by decide +kernel
theorem d_MM_then_17 : decode b_MM_then 17 = .ok (.baload, 1) := by decide +kernel
theorem d_MM_then_18 : decode b_MM_then 18 = .ok (.ifCond .eq 12, 3) := by decide +kernel
theorem d_MM_then_21 : decode b_MM_then 21 = .ok (.iload_n 2, 1) := by decide +kernel
theorem d_MM_then_22 : decode b_MM_then 22 = .ok (.ifCond .lt 8, 3) := by decide +kernel
theorem d_MM_then_25 : decode b_MM_then 25 = .ok (.iload_n 2, 1) := by decide +kernel
theorem d_MM_then_26 : decode b_MM_then 26 = .ok (.iconst 4, 1) := by decide +kernel
theorem d_MM_then_27 : decode b_MM_then 27 = .ok (.if_icmp .le 5, 3) := by decide +kernel
theorem d_MM_then_30 : decode b_MM_then 30 = .ok (.iconst (-1), 1) := by decide +kernel
theorem d_MM_then_31 : decode b_MM_then 31 = .ok (.ireturn, 1) := by decide +kernel
theorem d_MM_then_32 : decode b_MM_then 32 = .ok (.aload_n 0, 1) := by decide +kernel
theorem d_MM_then_33 : decode b_MM_then 33 = .ok (.getfield 19, 3) := by decide +kernel
theorem d_MM_then_36 : decode b_MM_then 36 = .ok (.iload_n 1, 1) := by decide +kernel
theorem d_MM_then_37 : decode b_MM_then 37 = .ok (.iaload, 1) := by decide +kernel
theorem d_MM_then_38 : decode b_MM_then 38 = .ok (.iconst 4, 1) := by decide +kernel
theorem d_MM_then_39 : decode b_MM_then 39 = .ok (.irem, 1) := by decide +kernel
theorem d_MM_then_40 : decode b_MM_then 40 = .ok (.istore 4, 2) := by decide +kernel
theorem d_MM_then_42 : decode b_MM_then 42 = .ok (.iload_n 2, 1) := by decide +kernel
theorem d_MM_then_43 : decode b_MM_then 43 = .ok (.iconst 1, 1) := by decide +kernel
theorem d_MM_then_44 : decode b_MM_then 44 = .ok (.if_icmp .ne 15, 3) := by decide +kernel
theorem d_MM_then_47 : decode b_MM_then 47 = .ok (.iload_n 3, 1) := by decide +kernel
theorem d_MM_then_48 : decode b_MM_then 48 = .ok (.ifCond .lt 9, 3) := by decide +kernel
theorem d_MM_then_51 : decode b_MM_then 51 = .ok (.iload_n 3, 1) := by decide +kernel
theorem d_MM_then_52 : decode b_MM_then 52 = .ok (.iload 4, 2) := by decide +kernel
theorem d_MM_then_54 : decode b_MM_then 54 = .ok (.if_icmp .lt 5, 3) := by decide +kernel
theorem d_MM_then_57 : decode b_MM_then 57 = .ok (.iconst (-1), 1) := by decide +kernel
theorem d_MM_then_58 : decode b_MM_then 58 = .ok (.ireturn, 1) := by decide +kernel
theorem d_MM_then_59 : decode b_MM_then 59 = .ok (.iload_n 2, 1) := by decide +kernel
theorem d_MM_then_60 : decode b_MM_then 60 = .ok (.iconst 4, 1) := by decide +kernel
theorem d_MM_then_61 : decode b_MM_then 61 = .ok (.if_icmp .ne 23, 3) := by decide +kernel
theorem d_MM_then_64 : decode b_MM_then 64 = .ok (.iload_n 3, 1) := by decide +kernel
theorem d_MM_then_65 : decode b_MM_then 65 = .ok (.ifCond .lt 17, 3) := by decide +kernel
theorem d_MM_then_68 : decode b_MM_then 68 = .ok (.iload_n 3, 1) := by decide +kernel
theorem d_MM_then_69 : decode b_MM_then 69 = .ok (.bipush 31, 2) := by decide +kernel
theorem d_MM_then_71 : decode b_MM_then 71 = .ok (.if_icmp .gt 11, 3) := by decide +kernel
theorem d_MM_then_74 : decode b_MM_then 74 = .ok (.iload_n 3, 1) := by decide +kernel
theorem d_MM_then_75 : decode b_MM_then 75 = .ok (.iconst 4, 1) := by decide +kernel
theorem d_MM_then_76 : decode b_MM_then 76 = .ok (.irem, 1) := by decide +kernel
theorem d_MM_then_77 : decode b_MM_then 77 = .ok (.iload 4, 2) := by decide +kernel
theorem d_MM_then_79 : decode b_MM_then 79 = .ok (.if_icmp .le 5, 3) := by decide +kernel
theorem d_MM_then_82 : decode b_MM_then 82 = .ok (.iconst (-1), 1) := by decide +kernel
theorem d_MM_then_83 : decode b_MM_then 83 = .ok (.ireturn, 1) := by decide +kernel
theorem d_MM_then_84 : decode b_MM_then 84 = .ok (.aload_n 0, 1) := by decide +kernel
theorem d_MM_then_85 : decode b_MM_then 85 = .ok (.getfield 38, 3) := by decide +kernel
theorem d_MM_then_88 : decode b_MM_then 88 = .ok (.iload_n 1, 1) := by decide +kernel
theorem d_MM_then_89 : decode b_MM_then 89 = .ok (.iaload, 1) := by decide +kernel
theorem d_MM_then_90 : decode b_MM_then 90 = .ok (.iconst 4, 1) := by decide +kernel
theorem d_MM_then_91 : decode b_MM_then 91 = .ok (.if_icmp .ne 6, 3) := by decide +kernel
theorem d_MM_then_94 : decode b_MM_then 94 = .ok (.bipush (-2), 2) := by decide +kernel
theorem d_MM_then_96 : decode b_MM_then 96 = .ok (.ireturn, 1) := by decide +kernel
theorem d_MM_then_97 : decode b_MM_then 97 = .ok (.aload_n 0, 1) := by decide +kernel
theorem d_MM_then_98 : decode b_MM_then 98 = .ok (.getfield 32, 3) := by decide +kernel
theorem d_MM_then_101 : decode b_MM_then 101 = .ok (.iconst 4, 1) := by decide +kernel
theorem d_MM_then_102 : decode b_MM_then 102 = .ok (.iload_n 1, 1) := by decide +kernel
theorem d_MM_then_103 : decode b_MM_then 103 = .ok (.imul, 1) := by decide +kernel
theorem d_MM_then_104 : decode b_MM_then 104 = .ok (.aload_n 0, 1) := by decide +kernel
theorem d_MM_then_105 : decode b_MM_then 105 = .ok (.getfield 38, 3) := by decide +kernel
theorem d_MM_then_108 : decode b_MM_then 108 = .ok (.iload_n 1, 1) := by decide +kernel
theorem d_MM_then_109 : decode b_MM_then 109 = .ok (.iaload, 1) := by decide +kernel
theorem d_MM_then_110 : decode b_MM_then 110 = .ok (.iadd, 1) := by decide +kernel
theorem d_MM_then_111 : decode b_MM_then 111 = .ok (.iload_n 2, 1) := by decide +kernel
theorem d_MM_then_112 : decode b_MM_then 112 = .ok (.iastore, 1) := by decide +kernel
theorem d_MM_then_113 : decode b_MM_then 113 = .ok (.aload_n 0, 1) := by decide +kernel
theorem d_MM_then_114 : decode b_MM_then 114 = .ok (.getfield 35, 3) := by decide +kernel
theorem d_MM_then_117 : decode b_MM_then 117 = .ok (.iconst 4, 1) := by decide +kernel
theorem d_MM_then_118 : decode b_MM_then 118 = .ok (.iload_n 1, 1) := by decide +kernel
theorem d_MM_then_119 : decode b_MM_then 119 = .ok (.imul, 1) := by decide +kernel
theorem d_MM_then_120 : decode b_MM_then 120 = .ok (.aload_n 0, 1) := by decide +kernel
theorem d_MM_then_121 : decode b_MM_then 121 = .ok (.getfield 38, 3) := by decide +kernel
theorem d_MM_then_124 : decode b_MM_then 124 = .ok (.iload_n 1, 1) := by decide +kernel
theorem d_MM_then_125 : decode b_MM_then 125 = .ok (.iaload, 1) := by decide +kernel
theorem d_MM_then_126 : decode b_MM_then 126 = .ok (.iadd, 1) := by decide +kernel
theorem d_MM_then_127 : decode b_MM_then 127 = .ok (.iload_n 3, 1) := by decide +kernel
theorem d_MM_then_128 : decode b_MM_then 128 = .ok (.iastore, 1) := by decide +kernel
theorem d_MM_then_129 : decode b_MM_then 129 = .ok (.aload_n 0, 1) := by decide +kernel
theorem d_MM_then_130 : decode b_MM_then 130 = .ok (.getfield 38, 3) := by decide +kernel
theorem d_MM_then_133 : decode b_MM_then 133 = .ok (.iload_n 1, 1) := by decide +kernel
theorem d_MM_then_134 : decode b_MM_then 134 = .ok (.dup2, 1) := by decide +kernel
theorem d_MM_then_135 : decode b_MM_then 135 = .ok (.iaload, 1) := by decide +kernel
theorem d_MM_then_136 : decode b_MM_then 136 = .ok (.iconst 1, 1) := by decide +kernel
theorem d_MM_then_137 : decode b_MM_then 137 = .ok (.iadd, 1) := by decide +kernel
theorem d_MM_then_138 : decode b_MM_then 138 = .ok (.iastore, 1) := by decide +kernel
theorem d_MM_then_139 : decode b_MM_then 139 = .ok (.aload_n 0, 1) := by decide +kernel
theorem d_MM_then_140 : decode b_MM_then 140 = .ok (.getfield 38, 3) := by decide +kernel
theorem d_MM_then_143 : decode b_MM_then 143 = .ok (.iload_n 1, 1) := by decide +kernel
theorem d_MM_then_144 : decode b_MM_then 144 = .ok (.iaload, 1) := by decide +kernel
theorem d_MM_then_145 : decode b_MM_then 145 = .ok (.ireturn, 1) := by decide +kernel
theorem d_MM_strict_0 : decode b_MM_strict 0 = .ok (.iload_n 1, 1) := by decide +kernel
theorem d_MM_strict_1 : decode b_MM_strict 1 = .ok (.ifCond .lt 8, 3) := by decide +kernel
theorem d_MM_strict_4 : decode b_MM_strict 4 = .ok (.iload_n 1, 1) := by decide +kernel
theorem d_MM_strict_5 : decode b_MM_strict 5 = .ok (.iconst 3, 1) := by decide +kernel
theorem d_MM_strict_6 : decode b_MM_strict 6 = .ok (.if_icmp .le 5, 3) := by decide +kernel
theorem d_MM_strict_9 : decode b_MM_strict 9 = .ok (.iconst (-1), 1) := by decide +kernel
theorem d_MM_strict_10 : decode b_MM_strict 10 = .ok (.ireturn, 1) := by decide +kernel
theorem d_MM_strict_11 : decode b_MM_strict 11 = .ok (.aload_n 0, 1) := by decide +kernel
theorem d_MM_strict_12 : decode b_MM_strict 12 = .ok (.getfield 41, 3) := by decide +kernel
theorem d_MM_strict_15 : decode b_MM_strict 15 = .ok (.iload_n 1, 1) := by decide +kernel
theorem d_MM_strict_16 : decode b_MM_strict 16 = .ok (.baload, 1) := by decide +kernel
theorem d_MM_strict_17 : decode b_MM_strict 17 = .ok (.ifCond .eq 7, 3) := by decide +kernel
theorem d_MM_strict_20 : decode b_MM_strict 20 = .ok (.iconst 1, 1) := by decide +kernel
theorem d_MM_strict_21 : decode b_MM_strict 21 = .ok (.goto 4, 3) := by decide +kernel
theorem d_MM_strict_24 : decode b_MM_strict 24 = .ok (.iconst 0, 1) := by decide +kernel
theorem d_MM_strict_25 : decode b_MM_strict 25 = .ok (.istore_n 3, 1) := by decide +kernel
theorem d_MM_strict_26 : decode b_MM_strict 26 = .ok (.aload_n 0, 1) := by decide +kernel
theorem d_MM_strict_27 : decode b_MM_strict 27 = .ok (.getfield 41, 3) := by decide +kernel
theorem d_MM_strict_30 : decode b_MM_strict 30 = .ok (.iload_n 1, 1) := by decide +kernel
theorem d_MM_strict_31 : decode b_MM_strict 31 = .ok (.iload_n 2, 1) := by decide +kernel
theorem d_MM_strict_32 : decode b_MM_strict 32 = .ok (.bastore, 1) := by decide +kernel
theorem d_MM_strict_33 : decode b_MM_strict 33 = .ok (.iload_n 3, 1) := by decide +kernel
theorem d_MM_strict_34 : decode b_MM_strict 34 = .ok (.ireturn, 1) := by decide +kernel
theorem d_MM_call_0 : decode b_MM_call 0 = .ok (.iload_n 1, 1) := by decide +kernel
theorem d_MM_call_1 : decode b_MM_call 1 = .ok (.iload_n 2, 1) := by decide +kernel
theorem d_MM_call_2 : decode b_MM_call 2 = .ok (.invokestatic 79, 3) := by decide +kernel
theorem d_MM_call_5 : decode b_MM_call 5 = .ok (.ifCond .ne 13, 3) := by decide +kernel
theorem d_MM_call_8 : decode b_MM_call 8 = .ok (.aload_n 0, 1) := by decide +kernel
theorem d_MM_call_9 : decode b_MM_call 9 = .ok (.getfield 90, 3) := by decide +kernel
theorem d_MM_call_12 : decode b_MM_call 12 = .ok (.sipush 160, 3) := by decide +kernel
theorem d_MM_call_15 : decode b_MM_call 15 = .ok (.if_icmp .ne 7, 3) := by decide +kernel
theorem d_MM_call_18 : decode b_MM_call 18 = .ok (.ldc2_w 106, 3) := by decide +kernel
theorem d_MM_call_21 : decode b_MM_call 21 = .ok (.lreturn, 1) := by decide +kernel
theorem d_MM_call_22 : decode b_MM_call 22 = .ok (.aload_n 0, 1) := by decide +kernel
theorem d_MM_call_23 : decode b_MM_call 23 = .ok (.iload_n 1, 1) := by decide +kernel
theorem d_MM_call_24 : decode b_MM_call 24 = .ok (.iload_n 2, 1) := by decide +kernel
theorem d_MM_call_25 : decode b_MM_call 25 = .ok (.iconst 0, 1) := by decide +kernel
theorem d_MM_call_26 : decode b_MM_call 26 = .ok (.iconst (-1), 1) := by decide +kernel
theorem d_MM_call_27 : decode b_MM_call 27 = .ok (.invokevirtual 108, 3) := by decide +kernel
theorem d_MM_call_30 : decode b_MM_call 30 = .ok (.istore 6, 2) := by decide +kernel
theorem d_MM_call_32 : decode b_MM_call 32 = .ok (.aload_n 0, 1) := by decide +kernel
theorem d_MM_call_33 : decode b_MM_call 33 = .ok (.getfield 50, 3) := by decide +kernel
theorem d_MM_call_36 : decode b_MM_call 36 = .ok (.iconst 3, 1) := by decide +kernel
theorem d_MM_call_37 : decode b_MM_call 37 = .ok (.iload 6, 2) := by decide +kernel
theorem d_MM_call_39 : decode b_MM_call 39 = .ok (.imul, 1) := by decide +kernel
theorem d_MM_call_40 : decode b_MM_call 40 = .ok (.iload_n 2, 1) := by decide +kernel
theorem d_MM_call_41 : decode b_MM_call 41 = .ok (.iconst 4, 1) := by decide +kernel
theorem d_MM_call_42 : decode b_MM_call 42 = .ok (.irem, 1) := by decide +kernel
theorem d_MM_call_43 : decode b_MM_call 43 = .ok (.ifCond .le 7, 3) := by decide +kernel
theorem d_MM_call_46 : decode b_MM_call 46 = .ok (.iload_n 3, 1) := by decide +kernel
theorem d_MM_call_47 : decode b_MM_call 47 = .ok (.goto 4, 3) := by decide +kernel
theorem d_MM_call_50 : decode b_MM_call 50 = .ok (.iconst 0, 1) := by decide +kernel
theorem d_MM_call_51 : decode b_MM_call 51 = .ok (.iastore, 1) := by decide +kernel
theorem d_MM_call_52 : decode b_MM_call 52 = .ok (.aload_n 0, 1) := by decide +kernel
theorem d_MM_call_53 : decode b_MM_call 53 = .ok (.getfield 50, 3) := by decide +kernel
theorem d_MM_call_56 : decode b_MM_call 56 = .ok (.iconst 3, 1) := by decide +kernel
theorem d_MM_call_57 : decode b_MM_call 57 = .ok (.iload 6, 2) := by decide +kernel
theorem d_MM_call_59 : decode b_MM_call 59 = .ok (.imul, 1) := by decide +kernel
theorem d_MM_call_60 : decode b_MM_call 60 = .ok (.iconst 1, 1) := by decide +kernel
theorem d_MM_call_61 : decode b_MM_call 61 = .ok (.iadd, 1) := by decide +kernel
theorem d_MM_call_62 : decode b_MM_call 62 = .ok (.iload_n 2, 1) := by decide +kernel
theorem d_MM_call_63 : decode b_MM_call 63 = .ok (.iconst 4, 1) := by decide +kernel
theorem d_MM_call_64 : decode b_MM_call 64 = .ok (.irem, 1) := by decide +kernel
theorem d_MM_call_65 : decode b_MM_call 65 = .ok (.iconst 1, 1) := by decide +kernel
theorem d_MM_call_66 : decode b_MM_call 66 = .ok (.if_icmp .le 8, 3) := by decide +kernel
theorem d_MM_call_69 : decode b_MM_call 69 = .ok (.iload 4, 2) := by decide +kernel
theorem d_MM_call_71 : decode b_MM_call 71 = .ok (.goto 4, 3) := by decide +kernel
theorem d_MM_call_74 : decode b_MM_call 74 = .ok (.iconst 0, 1) := by decide +kernel
theorem d_MM_call_75 : decode b_MM_call 75 = .ok (.iastore, 1) := by decide +kernel
theorem d_MM_call_76 : decode b_MM_call 76 = .ok (.aload_n 0, 1) := by decide +kernel
theorem d_MM_call_77 : decode b_MM_call 77 = .ok (.getfield 50, 3) := by decide +kernel
theorem d_MM_call_80 : decode b_MM_call 80 = .ok (.iconst 3, 1) := by decide +kernel
theorem d_MM_call_81 : decode b_MM_call 81 = .ok (.iload 6, 2) := by decide +kernel
theorem d_MM_call_83 : decode b_MM_call 83 = .ok (.imul, 1) := by decide +kernel
theorem d_MM_call_84 : decode b_MM_call 84 = .ok (.iconst 2, 1) := by decide +kernel
theorem d_MM_call_85 : decode b_MM_call 85 = .ok (.iadd, 1) := by decide +kernel
theorem d_MM_call_86 : decode b_MM_call 86 = .ok (.iload_n 2, 1) := by decide +kernel
theorem d_MM_call_87 : decode b_MM_call 87 = .ok (.iconst 4, 1) := by decide +kernel
theorem d_MM_call_88 : decode b_MM_call 88 = .ok (.irem, 1) := by decide +kernel
theorem d_MM_call_89 : decode b_MM_call 89 = .ok (.iconst 2, 1) := by decide +kernel
theorem d_MM_call_90 : decode b_MM_call 90 = .ok (.if_icmp .le 8, 3) := by decide +kernel
theorem d_MM_call_93 : decode b_MM_call 93 = .ok (.iload 5, 2) := by decide +kernel
theorem d_MM_call_95 : decode b_MM_call 95 = .ok (.goto 4, 3) := by decide +kernel
theorem d_MM_call_98 : decode b_MM_call 98 = .ok (.iconst 0, 1) := by decide +kernel
theorem d_MM_call_99 : decode b_MM_call 99 = .ok (.iastore, 1) := by decide +kernel
theorem d_MM_call_100 : decode b_MM_call 100 = .ok (.aload_n 0, 1) := by decide +kernel
theorem d_MM_call_101 : decode b_MM_call 101 = .ok (.iload 6, 2) := by decide +kernel
theorem d_MM_call_103 : decode b_MM_call 103 = .ok (.invokevirtual 112, 3) := by decide +kernel
theorem d_MM_call_106 : decode b_MM_call 106 = .ok (.istore 7, 2) := by decide +kernel
theorem d_MM_call_108 : decode b_MM_call 108 = .ok (.iload 7, 2) := by decide +kernel
theorem d_MM_call_110 : decode b_MM_call 110 = .ok (.ifCond .lt 144, 3) := by decide +kernel
theorem d_MM_call_113 : decode b_MM_call 113 = .ok (.aload_n 0, 1) := by decide +kernel
theorem d_MM_call_114 : decode b_MM_call 114 = .ok (.getfield 32, 3) := by decide +kernel
theorem d_MM_call_117 : decode b_MM_call 117 = .ok (.iload 7, 2) := by decide +kernel
theorem d_MM_call_119 : decode b_MM_call 119 = .ok (.iaload, 1) := by decide +kernel
theorem d_MM_call_120 : decode b_MM_call 120 = .ok (.iconst 4, 1) := by decide +kernel
theorem d_MM_call_121 : decode b_MM_call 121 = .ok (.if_icmp .ne 133, 3) := by decide +kernel
theorem d_MM_call_124 : decode b_MM_call 124 = .ok (.aload_n 0, 1) := by decide +kernel
theorem d_MM_call_125 : decode b_MM_call 125 = .ok (.getfield 53, 3) := by decide +kernel
theorem d_MM_call_128 : decode b_MM_call 128 = .ok (.iload 6, 2) := by decide +kernel
theorem d_MM_call_130 : decode b_MM_call 130 = .ok (.iaload, 1) := by decide +kernel
theorem d_MM_call_131 : decode b_MM_call 131 = .ok (.iconst 3, 1) := by decide +kernel
theorem d_MM_call_132 : decode b_MM_call 132 = .ok (.if_icmp .ge 122, 3) := by decide +kernel
theorem d_MM_call_135 : decode b_MM_call 135 = .ok (.aload_n 0, 1) := by decide +kernel
theorem d_MM_call_136 : decode b_MM_call 136 = .ok (.getfield 90, 3) := by decide +kernel
theorem d_MM_call_139 : decode b_MM_call 139 = .ok (.sipush 160, 3) := by decide +kernel
theorem d_MM_call_142 : decode b_MM_call 142 = .ok (.if_icmp .ge 112, 3) := by decide +kernel
theorem d_MM_call_145 : decode b_MM_call 145 = .ok (.aload_n 0, 1) := by decide +kernel
theorem d_MM_call_146 : decode b_MM_call 146 = .ok (.aload_n 0, 1) := by decide +kernel
theorem d_MM_call_147 : decode b_MM_call 147 = .ok (.getfield 35, 3) := by decide +kernel
theorem d_MM_call_150 : decode b_MM_call 150 = .ok (.iload 7, 2) := by decide +kernel
theorem d_MM_call_152 : decode b_MM_call 152 = .ok (.iaload, 1) := by decide +kernel
theorem d_MM_call_153 : decode b_MM_call 153 = .ok (.bipush 8, 2) := by decide +kernel
theorem d_MM_call_155 : decode b_MM_call 155 = .ok (.idiv, 1) := by decide +kernel
theorem d_MM_call_156 : decode b_MM_call 156 = .ok (.aload_n 0, 1) := by decide +kernel
theorem d_MM_call_157 : decode b_MM_call 157 = .ok (.getfield 35, 3) := by decide +kernel
theorem d_MM_call_160 : decode b_MM_call 160 = .ok (.iload 7, 2) := by decide +kernel
theorem d_MM_call_162 : decode b_MM_call 162 = .ok (.iaload, 1) := by decide +kernel
theorem d_MM_call_163 : decode b_MM_call 163 = .ok (.bipush 8, 2) := by decide +kernel
theorem d_MM_call_165 : decode b_MM_call 165 = .ok (.irem, 1) := by decide +kernel
theorem d_MM_call_166 : decode b_MM_call 166 = .ok (.aload_n 0, 1) := by decide +kernel
theorem d_MM_call_167 : decode b_MM_call 167 = .ok (.getfield 53, 3) := by decide +kernel
theorem d_MM_call_170 : decode b_MM_call 170 = .ok (.iload 6, 2) := by decide +kernel
theorem d_MM_call_172 : decode b_MM_call 172 = .ok (.iaload, 1) := by decide +kernel
theorem d_MM_call_173 : decode b_MM_call 173 = .ok (.iconst 1, 1) := by decide +kernel
theorem d_MM_call_174 : decode b_MM_call 174 = .ok (.iadd, 1) := by decide +kernel
theorem d_MM_call_175 : decode b_MM_call 175 = .ok (.iload 6, 2) := by decide +kernel
theorem d_MM_call_177 : decode b_MM_call 177 = .ok (.invokevirtual 108, 3) := by decide +kernel
theorem d_MM_call_180 : decode b_MM_call 180 = .ok (.istore 8, 2) := by decide +kernel
theorem d_MM_call_182 : decode b_MM_call 182 = .ok (.iconst 0, 1) := by decide +kernel
theorem d_MM_call_183 : decode b_MM_call 183 = .ok (.istore 9, 2) := by decide +kernel
theorem d_MM_call_185 : decode b_MM_call 185 = .ok (.iload 9, 2) := by decide +kernel
theorem d_MM_call_187 : decode b_MM_call 187 = .ok (.iconst 3, 1) := by decide +kernel
theorem d_MM_call_188 : decode b_MM_call 188 = .ok (.if_icmp .ge 51, 3) := by decide +kernel
theorem d_MM_call_191 : decode b_MM_call 191 = .ok (.aload_n 0, 1) := by decide +kernel
theorem d_MM_call_192 : decode b_MM_call 192 = .ok (.getfield 50, 3) := by decide +kernel
theorem d_MM_call_195 : decode b_MM_call 195 = .ok (.iconst 3, 1) := by decide +kernel
theorem d_MM_call_196 : decode b_MM_call 196 = .ok (.iload 8, 2) := by decide +kernel
theorem d_MM_call_198 : decode b_MM_call 198 = .ok (.imul, 1) := by decide +kernel
theorem d_MM_call_199 : decode b_MM_call 199 = .ok (.iload 9, 2) := by decide +kernel
theorem d_MM_call_201 : decode b_MM_call 201 = .ok (.iadd, 1) := by decide +kernel
theorem d_MM_call_202 : decode b_MM_call 202 = .ok (.iload 9, 2) := by decide +kernel
theorem d_MM_call_204 : decode b_MM_call 204 = .ok (.aload_n 0, 1) := by decide +kernel
theorem d_MM_call_205 : decode b_MM_call 205 = .ok (.getfield 47, 3) := by decide +kernel
theorem d_MM_call_208 : decode b_MM_call 208 = .ok (.iload 8, 2) := by decide +kernel
theorem d_MM_call_210 : decode b_MM_call 210 = .ok (.iaload, 1) := by decide +kernel
theorem d_MM_call_211 : decode b_MM_call 211 = .ok (.iconst 4, 1) := by decide +kernel
theorem d_MM_call_212 : decode b_MM_call 212 = .ok (.irem, 1) := by decide +kernel
theorem d_MM_call_213 : decode b_MM_call 213 = .ok (.if_icmp .ge 18, 3) := by decide +kernel
theorem d_MM_call_216 : decode b_MM_call 216 = .ok (.aload_n 0, 1) := by decide +kernel
theorem d_MM_call_217 : decode b_MM_call 217 = .ok (.getfield 50, 3) := by decide +kernel
theorem d_MM_call_220 : decode b_MM_call 220 = .ok (.iconst 3, 1) := by decide +kernel
theorem d_MM_call_221 : decode b_MM_call 221 = .ok (.iload 6, 2) := by decide +kernel
theorem d_MM_call_223 : decode b_MM_call 223 = .ok (.imul, 1) := by decide +kernel
theorem d_MM_call_224 : decode b_MM_call 224 = .ok (.iload 9, 2) := by decide +kernel
theorem d_MM_call_226 : decode b_MM_call 226 = .ok (.iadd, 1) := by decide +kernel
theorem d_MM_call_227 : decode b_MM_call 227 = .ok (.iaload, 1) := by decide +kernel
theorem d_MM_call_228 : decode b_MM_call 228 = .ok (.goto 4, 3) := by decide +kernel
theorem d_MM_call_231 : decode b_MM_call 231 = .ok (.iconst 0, 1) := by decide +kernel
theorem d_MM_call_232 : decode b_MM_call 232 = .ok (.iastore, 1) := by decide +kernel
theorem d_MM_call_233 : decode b_MM_call 233 = .ok (.iinc 9 1, 3) := by decide +kernel
theorem d_MM_call_236 : decode b_MM_call 236 = .ok (.goto (-51), 3) := by decide +kernel
theorem d_MM_call_239 : decode b_MM_call 239 = .ok (.iload 8, 2) := by decide +kernel
theorem d_MM_call_241 : decode b_MM_call 241 = .ok (.istore 6, 2) := by decide +kernel
theorem d_MM_call_243 : decode b_MM_call 243 = .ok (.aload_n 0, 1) := by decide +kernel
theorem d_MM_call_244 : decode b_MM_call 244 = .ok (.iload 6, 2) := by decide +kernel
theorem d_MM_call_246 : decode b_MM_call 246 = .ok (.invokevirtual 112, 3) := by decide +kernel
theorem d_MM_call_249 : decode b_MM_call 249 = .ok (.istore 7, 2) := by decide +kernel
theorem d_MM_call_251 : decode b_MM_call 251 = .ok (.goto (-143), 3) := by decide +kernel
theorem d_MM_call_254 : decode b_MM_call 254 = .ok (.aload_n 0, 1) := by decide +kernel
theorem d_MM_call_255 : decode b_MM_call 255 = .ok (.iload 6, 2) := by decide +kernel
theorem d_MM_call_257 : decode b_MM_call 257 = .ok (.iload 7, 2) := by decide +kernel
theorem d_MM_call_259 : decode b_MM_call 259 = .ok (.invokevirtual 116, 3) := by decide +kernel
theorem d_MM_call_262 : decode b_MM_call 262 = .ok (.lstore 8, 2) := by decide +kernel
theorem d_MM_call_264 : decode b_MM_call 264 = .ok (.iload 6, 2) := by decide +kernel
theorem d_MM_call_266 : decode b_MM_call 266 = .ok (.istore 10, 2) := by decide +kernel
theorem d_MM_call_268 : decode b_MM_call 268 = .ok (.iload 10, 2) := by decide +kernel
theorem d_MM_call_270 : decode b_MM_call 270 = .ok (.ifCond .lt 24, 3) := by decide +kernel
theorem d_MM_call_273 : decode b_MM_call 273 = .ok (.aload_n 0, 1) := by decide +kernel
theorem d_MM_call_274 : decode b_MM_call 274 = .ok (.getfield 62, 3) := by decide +kernel
theorem d_MM_call_277 : decode b_MM_call 277 = .ok (.iload 10, 2) := by decide +kernel
theorem d_MM_call_279 : decode b_MM_call 279 = .ok (.lload 8, 2) := by decide +kernel
theorem d_MM_call_281 : decode b_MM_call 281 = .ok (.lastore, 1) := by decide +kernel
theorem d_MM_call_282 : decode b_MM_call 282 = .ok (.aload_n 0, 1) := by decide +kernel
theorem d_MM_call_283 : decode b_MM_call 283 = .ok (.getfield 56, 3) := by decide +kernel
theorem d_MM_call_286 : decode b_MM_call 286 = .ok (.iload 10, 2) := by decide +kernel
theorem d_MM_call_288 : decode b_MM_call 288 = .ok (.iaload, 1) := by decide +kernel
theorem d_MM_call_289 : decode b_MM_call 289 = .ok (.istore 10, 2) := by decide +kernel
theorem d_MM_call_291 : decode b_MM_call 291 = .ok (.goto (-23), 3) := by decide +kernel
theorem d_MM_call_294 : decode b_MM_call 294 = .ok (.lload 8, 2) := by decide +kernel
theorem d_MM_call_296 : decode b_MM_call 296 = .ok (.lreturn, 1) := by decide +kernel
theorem d_MM_note_0 : decode b_MM_note 0 = .ok (.aload_n 0, 1) := by decide +kernel
theorem d_MM_note_1 : decode b_MM_note 1 = .ok (.getfield 90, 3) := by decide +kernel
theorem d_MM_note_4 : decode b_MM_note 4 = .ok (.istore 5, 2) := by decide +kernel
theorem d_MM_note_6 : decode b_MM_note 6 = .ok (.aload_n 0, 1) := by decide +kernel
theorem d_MM_note_7 : decode b_MM_note 7 = .ok (.getfield 44, 3) := by decide +kernel
theorem d_MM_note_10 : decode b_MM_note 10 = .ok (.iload 5, 2) := by decide +kernel
theorem d_MM_note_12 : decode b_MM_note 12 = .ok (.iload_n 1, 1) := by decide +kernel
theorem d_MM_note_13 : decode b_MM_note 13 = .ok (.iastore, 1) := by decide +kernel
theorem d_MM_note_14 : decode b_MM_note 14 = .ok (.aload_n 0, 1) := by decide +kernel
theorem d_MM_note_15 : decode b_MM_note 15 = .ok (.getfield 47, 3) := by decide +kernel
theorem d_MM_note_18 : decode b_MM_note 18 = .ok (.iload 5, 2) := by decide +kernel
theorem d_MM_note_20 : decode b_MM_note 20 = .ok (.iload_n 2, 1) := by decide +kernel
theorem d_MM_note_21 : decode b_MM_note 21 = .ok (.iastore, 1) := by decide +kernel
theorem d_MM_note_22 : decode b_MM_note 22 = .ok (.aload_n 0, 1) := by decide +kernel
theorem d_MM_note_23 : decode b_MM_note 23 = .ok (.getfield 53, 3) := by decide +kernel
theorem d_MM_note_26 : decode b_MM_note 26 = .ok (.iload 5, 2) := by decide +kernel
theorem d_MM_note_28 : decode b_MM_note 28 = .ok (.iload_n 3, 1) := by decide +kernel
theorem d_MM_note_29 : decode b_MM_note 29 = .ok (.iastore, 1) := by decide +kernel
theorem d_MM_note_30 : decode b_MM_note 30 = .ok (.aload_n 0, 1) := by decide +kernel
theorem d_MM_note_31 : decode b_MM_note 31 = .ok (.getfield 56, 3) := by decide +kernel
theorem d_MM_note_34 : decode b_MM_note 34 = .ok (.iload 5, 2) := by decide +kernel
theorem d_MM_note_36 : decode b_MM_note 36 = .ok (.iload 4, 2) := by decide +kernel
theorem d_MM_note_38 : decode b_MM_note 38 = .ok (.iastore, 1) := by decide +kernel
theorem d_MM_note_39 : decode b_MM_note 39 = .ok (.aload_n 0, 1) := by decide +kernel
theorem d_MM_note_40 : decode b_MM_note 40 = .ok (.getfield 66, 3) := by decide +kernel
theorem d_MM_note_43 : decode b_MM_note 43 = .ok (.iload 5, 2) := by decide +kernel
theorem d_MM_note_45 : decode b_MM_note 45 = .ok (.iconst 1, 1) := by decide +kernel
theorem d_MM_note_46 : decode b_MM_note 46 = .ok (.bastore, 1) := by decide +kernel
theorem d_MM_note_47 : decode b_MM_note 47 = .ok (.aload_n 0, 1) := by decide +kernel
theorem d_MM_note_48 : decode b_MM_note 48 = .ok (.dup, 1) := by decide +kernel
theorem d_MM_note_49 : decode b_MM_note 49 = .ok (.getfield 90, 3) := by decide +kernel
theorem d_MM_note_52 : decode b_MM_note 52 = .ok (.iconst 1, 1) := by decide +kernel
theorem d_MM_note_53 : decode b_MM_note 53 = .ok (.iadd, 1) := by decide +kernel
theorem d_MM_note_54 : decode b_MM_note 54 = .ok (.putfield 90, 3) := by decide +kernel
theorem d_MM_note_57 : decode b_MM_note 57 = .ok (.aload_n 0, 1) := by decide +kernel
theorem d_MM_note_58 : decode b_MM_note 58 = .ok (.getfield 59, 3) := by decide +kernel
theorem d_MM_note_61 : decode b_MM_note 61 = .ok (.iload 5, 2) := by decide +kernel
theorem d_MM_note_63 : decode b_MM_note 63 = .ok (.iconst (-1), 1) := by decide +kernel
theorem d_MM_note_64 : decode b_MM_note 64 = .ok (.iastore, 1) := by decide +kernel
theorem d_MM_note_65 : decode b_MM_note 65 = .ok (.iload 5, 2) := by decide +kernel
theorem d_MM_note_67 : decode b_MM_note 67 = .ok (.ireturn, 1) := by decide +kernel
theorem d_MM_action_0 : decode b_MM_action 0 = .ok (.iconst 0, 1) := by decide +kernel
theorem d_MM_action_1 : decode b_MM_action 1 = .ok (.istore_n 2, 1) := by decide +kernel
theorem d_MM_action_2 : decode b_MM_action 2 = .ok (.iload_n 2, 1) := by decide +kernel
theorem d_MM_action_3 : decode b_MM_action 3 = .ok (.aload_n 0, 1) := by decide +kernel
theorem d_MM_action_4 : decode b_MM_action 4 = .ok (.getfield 83, 3) := by decide +kernel
theorem d_MM_action_7 : decode b_MM_action 7 = .ok (.if_icmp .ge 25, 3) := by decide +kernel
theorem d_MM_action_10 : decode b_MM_action 10 = .ok (.aload_n 0, 1) := by decide +kernel
theorem d_MM_action_11 : decode b_MM_action 11 = .ok (.iload_n 2, 1) := by decide +kernel
theorem d_MM_action_12 : decode b_MM_action 12 = .ok (.iload_n 1, 1) := by decide +kernel
theorem d_MM_action_13 : decode b_MM_action 13 = .ok (.invokevirtual 93, 3) := by decide +kernel
theorem d_MM_action_16 : decode b_MM_action 16 = .ok (.ifCond .eq 10, 3) := by decide +kernel
theorem d_MM_action_19 : decode b_MM_action 19 = .ok (.aload_n 0, 1) := by decide +kernel
theorem d_MM_action_20 : decode b_MM_action 20 = .ok (.getfield 59, 3) := by decide +kernel
theorem d_MM_action_23 : decode b_MM_action 23 = .ok (.iload_n 1, 1) := by decide +kernel
theorem d_MM_action_24 : decode b_MM_action 24 = .ok (.iload_n 2, 1) := by decide +kernel
theorem d_MM_action_25 : decode b_MM_action 25 = .ok (.iastore, 1) := by decide +kernel
theorem d_MM_action_26 : decode b_MM_action 26 = .ok (.iinc 2 1, 3) := by decide +kernel
theorem d_MM_action_29 : decode b_MM_action 29 = .ok (.goto (-27), 3) := by decide +kernel
theorem d_MM_action_32 : decode b_MM_action 32 = .ok (.aload_n 0, 1) := by decide +kernel
theorem d_MM_action_33 : decode b_MM_action 33 = .ok (.getfield 59, 3) := by decide +kernel
theorem d_MM_action_36 : decode b_MM_action 36 = .ok (.iload_n 1, 1) := by decide +kernel
theorem d_MM_action_37 : decode b_MM_action 37 = .ok (.iaload, 1) := by decide +kernel
theorem d_MM_action_38 : decode b_MM_action 38 = .ok (.istore_n 2, 1) := by decide +kernel
theorem d_MM_action_39 : decode b_MM_action 39 = .ok (.iload_n 2, 1) := by decide +kernel
theorem d_MM_action_40 : decode b_MM_action 40 = .ok (.ifCond .lt 12, 3) := by decide +kernel
theorem d_MM_action_43 : decode b_MM_action 43 = .ok (.aload_n 0, 1) := by decide +kernel
theorem d_MM_action_44 : decode b_MM_action 44 = .ok (.getfield 38, 3) := by decide +kernel
theorem d_MM_action_47 : decode b_MM_action 47 = .ok (.iload_n 2, 1) := by decide +kernel
theorem d_MM_action_48 : decode b_MM_action 48 = .ok (.iaload, 1) := by decide +kernel
theorem d_MM_action_49 : decode b_MM_action 49 = .ok (.ifCond .ne 5, 3) := by decide +kernel
theorem d_MM_action_52 : decode b_MM_action 52 = .ok (.iconst (-1), 1) := by decide +kernel
theorem d_MM_action_53 : decode b_MM_action 53 = .ok (.ireturn, 1) := by decide +kernel
theorem d_MM_action_54 : decode b_MM_action 54 = .ok (.aload_n 0, 1) := by decide +kernel
theorem d_MM_action_55 : decode b_MM_action 55 = .ok (.iload_n 2, 1) := by decide +kernel
theorem d_MM_action_56 : decode b_MM_action 56 = .ok (.iload_n 1, 1) := by decide +kernel
theorem d_MM_action_57 : decode b_MM_action 57 = .ok (.invokevirtual 96, 3) := by decide +kernel
theorem d_MM_action_60 : decode b_MM_action 60 = .ok (.istore_n 3, 1) := by decide +kernel
theorem d_MM_action_61 : decode b_MM_action 61 = .ok (.iconst 4, 1) := by decide +kernel
theorem d_MM_action_62 : decode b_MM_action 62 = .ok (.iload_n 2, 1) := by decide +kernel
theorem d_MM_action_63 : decode b_MM_action 63 = .ok (.imul, 1) := by decide +kernel
theorem d_MM_action_64 : decode b_MM_action 64 = .ok (.iload_n 3, 1) := by decide +kernel
theorem d_MM_action_65 : decode b_MM_action 65 = .ok (.aload_n 0, 1) := by decide +kernel
theorem d_MM_action_66 : decode b_MM_action 66 = .ok (.getfield 38, 3) := by decide +kernel
theorem d_MM_action_69 : decode b_MM_action 69 = .ok (.iload_n 2, 1) := by decide +kernel
theorem d_MM_action_70 : decode b_MM_action 70 = .ok (.iaload, 1) := by decide +kernel
theorem d_MM_action_71 : decode b_MM_action 71 = .ok (.if_icmp .ge 7, 3) := by decide +kernel
theorem d_MM_action_74 : decode b_MM_action 74 = .ok (.iload_n 3, 1) := by decide +kernel
theorem d_MM_action_75 : decode b_MM_action 75 = .ok (.goto 11, 3) := by decide +kernel
theorem d_MM_action_78 : decode b_MM_action 78 = .ok (.aload_n 0, 1) := by decide +kernel
theorem d_MM_action_79 : decode b_MM_action 79 = .ok (.getfield 38, 3) := by decide +kernel
theorem d_MM_action_82 : decode b_MM_action 82 = .ok (.iload_n 2, 1) := by decide +kernel
theorem d_MM_action_83 : decode b_MM_action 83 = .ok (.iaload, 1) := by decide +kernel
theorem d_MM_action_84 : decode b_MM_action 84 = .ok (.iconst 1, 1) := by decide +kernel
theorem d_MM_action_85 : decode b_MM_action 85 = .ok (.isub, 1) := by decide +kernel
theorem d_MM_action_86 : decode b_MM_action 86 = .ok (.iadd, 1) := by decide +kernel
theorem d_MM_action_87 : decode b_MM_action 87 = .ok (.ireturn, 1) := by decide +kernel
theorem d_MM_ruleFits_0 : decode b_MM_ruleFits 0 = .ok (.aload_n 0, 1) := by decide +kernel
theorem d_MM_ruleFits_1 : decode b_MM_ruleFits 1 = .ok (.getfield 22, 3) := by decide +kernel
theorem d_MM_ruleFits_4 : decode b_MM_ruleFits 4 = .ok (.iload_n 1, 1) := by decide +kernel
theorem d_MM_ruleFits_5 : decode b_MM_ruleFits 5 = .ok (.baload, 1) := by decide +kernel
theorem d_MM_ruleFits_6 : decode b_MM_ruleFits 6 = .ok (.ifCond .eq 33, 3) := by decide +kernel
theorem d_MM_ruleFits_9 : decode b_MM_ruleFits 9 = .ok (.aload_n 0, 1) := by decide +kernel
theorem d_MM_ruleFits_10 : decode b_MM_ruleFits 10 = .ok (.getfield 16, 3) := by decide +kernel
theorem d_MM_ruleFits_13 : decode b_MM_ruleFits 13 = .ok (.iload_n 1, 1) := by decide +kernel
theorem d_MM_ruleFits_14 : decode b_MM_ruleFits 14 = .ok (.iaload, 1) := by decide +kernel
theorem d_MM_ruleFits_15 : decode b_MM_ruleFits 15 = .ok (.aload_n 0, 1) := by decide +kernel
theorem d_MM_ruleFits_16 : decode b_MM_ruleFits 16 = .ok (.getfield 44, 3) := by decide +kernel
theorem d_MM_ruleFits_19 : decode b_MM_ruleFits 19 = .ok (.iload_n 2, 1) := by decide +kernel
theorem d_MM_ruleFits_20 : decode b_MM_ruleFits 20 = .ok (.iaload, 1) := by decide +kernel
theorem d_MM_ruleFits_21 : decode b_MM_ruleFits 21 = .ok (.if_icmp .ne 18, 3) := by decide +kernel
theorem d_MM_ruleFits_24 : decode b_MM_ruleFits 24 = .ok (.aload_n 0, 1) := by decide +kernel
theorem d_MM_ruleFits_25 : decode b_MM_ruleFits 25 = .ok (.getfield 19, 3) := by decide +kernel
theorem d_MM_ruleFits_28 : decode b_MM_ruleFits 28 = .ok (.iload_n 1, 1) := by decide +kernel
theorem d_MM_ruleFits_29 : decode b_MM_ruleFits 29 = .ok (.iaload, 1) := by decide +kernel
theorem d_MM_ruleFits_30 : decode b_MM_ruleFits 30 = .ok (.aload_n 0, 1) := by decide +kernel
theorem d_MM_ruleFits_31 : decode b_MM_ruleFits 31 = .ok (.getfield 47, 3) := by decide +kernel
theorem d_MM_ruleFits_34 : decode b_MM_ruleFits 34 = .ok (.iload_n 2, 1) := by decide +kernel
theorem d_MM_ruleFits_35 : decode b_MM_ruleFits 35 = .ok (.iaload, 1) := by decide +kernel
theorem d_MM_ruleFits_36 : decode b_MM_ruleFits 36 = .ok (.if_icmp .eq 5, 3) := by decide +kernel
theorem d_MM_ruleFits_39 : decode b_MM_ruleFits 39 = .ok (.iconst 0, 1) := by decide +kernel
theorem d_MM_ruleFits_40 : decode b_MM_ruleFits 40 = .ok (.ireturn, 1) := by decide +kernel
theorem d_MM_ruleFits_41 : decode b_MM_ruleFits 41 = .ok (.iconst 0, 1) := by decide +kernel
theorem d_MM_ruleFits_42 : decode b_MM_ruleFits 42 = .ok (.istore_n 3, 1) := by decide +kernel
theorem d_MM_ruleFits_43 : decode b_MM_ruleFits 43 = .ok (.iload_n 3, 1) := by decide +kernel
theorem d_MM_ruleFits_44 : decode b_MM_ruleFits 44 = .ok (.aload_n 0, 1) := by decide +kernel
theorem d_MM_ruleFits_45 : decode b_MM_ruleFits 45 = .ok (.getfield 19, 3) := by decide +kernel
theorem d_MM_ruleFits_48 : decode b_MM_ruleFits 48 = .ok (.iload_n 1, 1) := by decide +kernel
theorem d_MM_ruleFits_49 : decode b_MM_ruleFits 49 = .ok (.iaload, 1) := by decide +kernel
theorem d_MM_ruleFits_50 : decode b_MM_ruleFits 50 = .ok (.iconst 4, 1) := by decide +kernel
theorem d_MM_ruleFits_51 : decode b_MM_ruleFits 51 = .ok (.irem, 1) := by decide +kernel
theorem d_MM_ruleFits_52 : decode b_MM_ruleFits 52 = .ok (.if_icmp .ge 47, 3) := by decide +kernel
theorem d_MM_ruleFits_55 : decode b_MM_ruleFits 55 = .ok (.aload_n 0, 1) := by decide +kernel
theorem d_MM_ruleFits_56 : decode b_MM_ruleFits 56 = .ok (.getfield 26, 3) := by decide +kernel
theorem d_MM_ruleFits_59 : decode b_MM_ruleFits 59 = .ok (.iconst 3, 1) := by decide +kernel
theorem d_MM_ruleFits_60 : decode b_MM_ruleFits 60 = .ok (.iload_n 1, 1) := by decide +kernel
theorem d_MM_ruleFits_61 : decode b_MM_ruleFits 61 = .ok (.imul, 1) := by decide +kernel
theorem d_MM_ruleFits_62 : decode b_MM_ruleFits 62 = .ok (.iload_n 3, 1) := by decide +kernel
theorem d_MM_ruleFits_63 : decode b_MM_ruleFits 63 = .ok (.iadd, 1) := by decide +kernel
theorem d_MM_ruleFits_64 : decode b_MM_ruleFits 64 = .ok (.iaload, 1) := by decide +kernel
theorem d_MM_ruleFits_65 : decode b_MM_ruleFits 65 = .ok (.aload_n 0, 1) := by decide +kernel
theorem d_MM_ruleFits_66 : decode b_MM_ruleFits 66 = .ok (.getfield 29, 3) := by decide +kernel
theorem d_MM_ruleFits_69 : decode b_MM_ruleFits 69 = .ok (.iconst 3, 1) := by decide +kernel
theorem d_MM_ruleFits_70 : decode b_MM_ruleFits 70 = .ok (.iload_n 1, 1) := by decide +kernel
theorem d_MM_ruleFits_71 : decode b_MM_ruleFits 71 = .ok (.imul, 1) := by decide +kernel
theorem d_MM_ruleFits_72 : decode b_MM_ruleFits 72 = .ok (.iload_n 3, 1) := by decide +kernel
theorem d_MM_ruleFits_73 : decode b_MM_ruleFits 73 = .ok (.iadd, 1) := by decide +kernel
theorem d_MM_ruleFits_74 : decode b_MM_ruleFits 74 = .ok (.iaload, 1) := by decide +kernel
theorem d_MM_ruleFits_75 : decode b_MM_ruleFits 75 = .ok (.aload_n 0, 1) := by decide +kernel
theorem d_MM_ruleFits_76 : decode b_MM_ruleFits 76 = .ok (.getfield 50, 3) := by decide +kernel
theorem d_MM_ruleFits_79 : decode b_MM_ruleFits 79 = .ok (.iconst 3, 1) := by decide +kernel
theorem d_MM_ruleFits_80 : decode b_MM_ruleFits 80 = .ok (.iload_n 2, 1) := by decide +kernel
theorem d_MM_ruleFits_81 : decode b_MM_ruleFits 81 = .ok (.imul, 1) := by decide +kernel
theorem d_MM_ruleFits_82 : decode b_MM_ruleFits 82 = .ok (.iload_n 3, 1) := by decide +kernel
theorem d_MM_ruleFits_83 : decode b_MM_ruleFits 83 = .ok (.iadd, 1) := by decide +kernel
theorem d_MM_ruleFits_84 : decode b_MM_ruleFits 84 = .ok (.iaload, 1) := by decide +kernel
theorem d_MM_ruleFits_85 : decode b_MM_ruleFits 85 = .ok (.invokestatic 86, 3) := by decide +kernel
theorem d_MM_ruleFits_88 : decode b_MM_ruleFits 88 = .ok (.ifCond .ne 5, 3) := by decide +kernel
theorem d_MM_ruleFits_91 : decode b_MM_ruleFits 91 = .ok (.iconst 0, 1) := by decide +kernel
theorem d_MM_ruleFits_92 : decode b_MM_ruleFits 92 = .ok (.ireturn, 1) := by decide +kernel
theorem d_MM_ruleFits_93 : decode b_MM_ruleFits 93 = .ok (.iinc 3 1, 3) := by decide +kernel
theorem d_MM_ruleFits_96 : decode b_MM_ruleFits 96 = .ok (.goto (-53), 3) := by decide +kernel
theorem d_MM_ruleFits_99 : decode b_MM_ruleFits 99 = .ok (.iconst 1, 1) := by decide +kernel
theorem d_MM_ruleFits_100 : decode b_MM_ruleFits 100 = .ok (.ireturn, 1) := by decide +kernel
theorem d_MM_fits_0 : decode b_MM_fits 0 = .ok (.iload_n 0, 1) := by decide +kernel
theorem d_MM_fits_1 : decode b_MM_fits 1 = .ok (.tableswitch 81 0 4 #[35, 37, 48, 59, 70], 35) := by decide +kernel
theorem d_MM_fits_36 : decode b_MM_fits 36 = .ok (.iconst 1, 1) := by decide +kernel
theorem d_MM_fits_37 : decode b_MM_fits 37 = .ok (.ireturn, 1) := by decide +kernel
theorem d_MM_fits_38 : decode b_MM_fits 38 = .ok (.iload_n 2, 1) := by decide +kernel
theorem d_MM_fits_39 : decode b_MM_fits 39 = .ok (.iload_n 1, 1) := by decide +kernel
theorem d_MM_fits_40 : decode b_MM_fits 40 = .ok (.if_icmp .ne 7, 3) := by decide +kernel
theorem d_MM_fits_43 : decode b_MM_fits 43 = .ok (.iconst 1, 1) := by decide +kernel
theorem d_MM_fits_44 : decode b_MM_fits 44 = .ok (.goto 4, 3) := by decide +kernel
theorem d_MM_fits_47 : decode b_MM_fits 47 = .ok (.iconst 0, 1) := by decide +kernel
theorem d_MM_fits_48 : decode b_MM_fits 48 = .ok (.ireturn, 1) := by decide +kernel
theorem d_MM_fits_49 : decode b_MM_fits 49 = .ok (.iload_n 2, 1) := by decide +kernel
theorem d_MM_fits_50 : decode b_MM_fits 50 = .ok (.iload_n 1, 1) := by decide +kernel
theorem d_MM_fits_51 : decode b_MM_fits 51 = .ok (.if_icmp .eq 7, 3) := by decide +kernel
theorem d_MM_fits_54 : decode b_MM_fits 54 = .ok (.iconst 1, 1) := by decide +kernel
theorem d_MM_fits_55 : decode b_MM_fits 55 = .ok (.goto 4, 3) := by decide +kernel
theorem d_MM_fits_58 : decode b_MM_fits 58 = .ok (.iconst 0, 1) := by decide +kernel
theorem d_MM_fits_59 : decode b_MM_fits 59 = .ok (.ireturn, 1) := by decide +kernel
theorem d_MM_fits_60 : decode b_MM_fits 60 = .ok (.iload_n 2, 1) := by decide +kernel
theorem d_MM_fits_61 : decode b_MM_fits 61 = .ok (.iload_n 1, 1) := by decide +kernel
theorem d_MM_fits_62 : decode b_MM_fits 62 = .ok (.if_icmp .ge 7, 3) := by decide +kernel
theorem d_MM_fits_65 : decode b_MM_fits 65 = .ok (.iconst 1, 1) := by decide +kernel
theorem d_MM_fits_66 : decode b_MM_fits 66 = .ok (.goto 4, 3) := by decide +kernel
theorem d_MM_fits_69 : decode b_MM_fits 69 = .ok (.iconst 0, 1) := by decide +kernel
theorem d_MM_fits_70 : decode b_MM_fits 70 = .ok (.ireturn, 1) := by decide +kernel
theorem d_MM_fits_71 : decode b_MM_fits 71 = .ok (.iload_n 2, 1) := by decide +kernel
theorem d_MM_fits_72 : decode b_MM_fits 72 = .ok (.iload_n 1, 1) := by decide +kernel
theorem d_MM_fits_73 : decode b_MM_fits 73 = .ok (.if_icmp .le 7, 3) := by decide +kernel
theorem d_MM_fits_76 : decode b_MM_fits 76 = .ok (.iconst 1, 1) := by decide +kernel
theorem d_MM_fits_77 : decode b_MM_fits 77 = .ok (.goto 4, 3) := by decide +kernel
theorem d_MM_fits_80 : decode b_MM_fits 80 = .ok (.iconst 0, 1) := by decide +kernel
theorem d_MM_fits_81 : decode b_MM_fits 81 = .ok (.ireturn, 1) := by decide +kernel
theorem d_MM_fits_82 : decode b_MM_fits 82 = .ok (.iload_n 2, 1) := by decide +kernel
theorem d_MM_fits_83 : decode b_MM_fits 83 = .ok (.iconst 3, 1) := by decide +kernel
theorem d_MM_fits_84 : decode b_MM_fits 84 = .ok (.iand, 1) := by decide +kernel
theorem d_MM_fits_85 : decode b_MM_fits 85 = .ok (.iload_n 1, 1) := by decide +kernel
theorem d_MM_fits_86 : decode b_MM_fits 86 = .ok (.iconst 3, 1) := by decide +kernel
theorem d_MM_fits_87 : decode b_MM_fits 87 = .ok (.iand, 1) := by decide +kernel
theorem d_MM_fits_88 : decode b_MM_fits 88 = .ok (.if_icmp .ne 7, 3) := by decide +kernel
theorem d_MM_fits_91 : decode b_MM_fits 91 = .ok (.iconst 1, 1) := by decide +kernel
theorem d_MM_fits_92 : decode b_MM_fits 92 = .ok (.goto 4, 3) := by decide +kernel
theorem d_MM_fits_95 : decode b_MM_fits 95 = .ok (.iconst 0, 1) := by decide +kernel
theorem d_MM_fits_96 : decode b_MM_fits 96 = .ok (.ireturn, 1) := by decide +kernel
theorem d_MM_uses_0 : decode b_MM_uses 0 = .ok (.iconst 0, 1) := by decide +kernel
theorem d_MM_uses_1 : decode b_MM_uses 1 = .ok (.istore_n 3, 1) := by decide +kernel
theorem d_MM_uses_2 : decode b_MM_uses 2 = .ok (.iconst 0, 1) := by decide +kernel
theorem d_MM_uses_3 : decode b_MM_uses 3 = .ok (.istore 4, 2) := by decide +kernel
theorem d_MM_uses_5 : decode b_MM_uses 5 = .ok (.iload 4, 2) := by decide +kernel
theorem d_MM_uses_7 : decode b_MM_uses 7 = .ok (.iload_n 2, 1) := by decide +kernel
theorem d_MM_uses_8 : decode b_MM_uses 8 = .ok (.if_icmp .ge 23, 3) := by decide +kernel
theorem d_MM_uses_11 : decode b_MM_uses 11 = .ok (.aload_n 0, 1) := by decide +kernel
theorem d_MM_uses_12 : decode b_MM_uses 12 = .ok (.getfield 59, 3) := by decide +kernel
theorem d_MM_uses_15 : decode b_MM_uses 15 = .ok (.iload 4, 2) := by decide +kernel
theorem d_MM_uses_17 : decode b_MM_uses 17 = .ok (.iaload, 1) := by decide +kernel
theorem d_MM_uses_18 : decode b_MM_uses 18 = .ok (.iload_n 1, 1) := by decide +kernel
theorem d_MM_uses_19 : decode b_MM_uses 19 = .ok (.if_icmp .ne 6, 3) := by decide +kernel
theorem d_MM_uses_22 : decode b_MM_uses 22 = .ok (.iinc 3 1, 3) := by decide +kernel
theorem d_MM_uses_25 : decode b_MM_uses 25 = .ok (.iinc 4 1, 3) := by decide +kernel
theorem d_MM_uses_28 : decode b_MM_uses 28 = .ok (.goto (-23), 3) := by decide +kernel
theorem d_MM_uses_31 : decode b_MM_uses 31 = .ok (.iload_n 3, 1) := by decide +kernel
theorem d_MM_uses_32 : decode b_MM_uses 32 = .ok (.ireturn, 1) := by decide +kernel
theorem d_MM_plain_0 : decode b_MM_plain 0 = .ok (.iload_n 2, 1) := by decide +kernel
theorem d_MM_plain_1 : decode b_MM_plain 1 = .ok (.ifCond .ge 34, 3) := by decide +kernel
theorem d_MM_plain_4 : decode b_MM_plain 4 = .ok (.aload_n 0, 1) := by decide +kernel
theorem d_MM_plain_5 : decode b_MM_plain 5 = .ok (.getfield 59, 3) := by decide +kernel
theorem d_MM_plain_8 : decode b_MM_plain 8 = .ok (.iload_n 1, 1) := by decide +kernel
theorem d_MM_plain_9 : decode b_MM_plain 9 = .ok (.iaload, 1) := by decide +kernel
theorem d_MM_plain_10 : decode b_MM_plain 10 = .ok (.ifCond .ge 23, 3) := by decide +kernel
theorem d_MM_plain_13 : decode b_MM_plain 13 = .ok (.aload_n 0, 1) := by decide +kernel
theorem d_MM_plain_14 : decode b_MM_plain 14 = .ok (.getfield 41, 3) := by decide +kernel
theorem d_MM_plain_17 : decode b_MM_plain 17 = .ok (.aload_n 0, 1) := by decide +kernel
theorem d_MM_plain_18 : decode b_MM_plain 18 = .ok (.getfield 44, 3) := by decide +kernel
theorem d_MM_plain_21 : decode b_MM_plain 21 = .ok (.iload_n 1, 1) := by decide +kernel
theorem d_MM_plain_22 : decode b_MM_plain 22 = .ok (.iaload, 1) := by decide +kernel
theorem d_MM_plain_23 : decode b_MM_plain 23 = .ok (.baload, 1) := by decide +kernel
theorem d_MM_plain_24 : decode b_MM_plain 24 = .ok (.ifCond .eq 9, 3) := by decide +kernel
theorem d_MM_plain_27 : decode b_MM_plain 27 = .ok (.ldc2_w 100, 3) := by decide +kernel
theorem d_MM_plain_30 : decode b_MM_plain 30 = .ok (.goto 4, 3) := by decide +kernel
theorem d_MM_plain_33 : decode b_MM_plain 33 = .ok (.lconst 0, 1) := by decide +kernel
theorem d_MM_plain_34 : decode b_MM_plain 34 = .ok (.lreturn, 1) := by decide +kernel
theorem d_MM_plain_35 : decode b_MM_plain 35 = .ok (.aload_n 0, 1) := by decide +kernel
theorem d_MM_plain_36 : decode b_MM_plain 36 = .ok (.getfield 32, 3) := by decide +kernel
theorem d_MM_plain_39 : decode b_MM_plain 39 = .ok (.iload_n 2, 1) := by decide +kernel
theorem d_MM_plain_40 : decode b_MM_plain 40 = .ok (.iaload, 1) := by decide +kernel
theorem d_MM_plain_41 : decode b_MM_plain 41 = .ok (.tableswitch 81 0 3 #[31, 39, 56, 69], 31) := by decide +kernel
theorem d_MM_plain_72 : decode b_MM_plain 72 = .ok (.aload_n 0, 1) := by decide +kernel
theorem d_MM_plain_73 : decode b_MM_plain 73 = .ok (.getfield 35, 3) := by decide +kernel
theorem d_MM_plain_76 : decode b_MM_plain 76 = .ok (.iload_n 2, 1) := by decide +kernel
theorem d_MM_plain_77 : decode b_MM_plain 77 = .ok (.iaload, 1) := by decide +kernel
theorem d_MM_plain_78 : decode b_MM_plain 78 = .ok (.i2l, 1) := by decide +kernel
theorem d_MM_plain_79 : decode b_MM_plain 79 = .ok (.lreturn, 1) := by decide +kernel
theorem d_MM_plain_80 : decode b_MM_plain 80 = .ok (.aload_n 0, 1) := by decide +kernel
theorem d_MM_plain_81 : decode b_MM_plain 81 = .ok (.getfield 50, 3) := by decide +kernel
theorem d_MM_plain_84 : decode b_MM_plain 84 = .ok (.iconst 3, 1) := by decide +kernel
theorem d_MM_plain_85 : decode b_MM_plain 85 = .ok (.iload_n 1, 1) := by decide +kernel
theorem d_MM_plain_86 : decode b_MM_plain 86 = .ok (.imul, 1) := by decide +kernel
theorem d_MM_plain_87 : decode b_MM_plain 87 = .ok (.aload_n 0, 1) := by decide +kernel
theorem d_MM_plain_88 : decode b_MM_plain 88 = .ok (.getfield 35, 3) := by decide +kernel
theorem d_MM_plain_91 : decode b_MM_plain 91 = .ok (.iload_n 2, 1) := by decide +kernel
theorem d_MM_plain_92 : decode b_MM_plain 92 = .ok (.iaload, 1) := by decide +kernel
theorem d_MM_plain_93 : decode b_MM_plain 93 = .ok (.iadd, 1) := by decide +kernel
theorem d_MM_plain_94 : decode b_MM_plain 94 = .ok (.iaload, 1) := by decide +kernel
theorem d_MM_plain_95 : decode b_MM_plain 95 = .ok (.i2l, 1) := by decide +kernel
theorem d_MM_plain_96 : decode b_MM_plain 96 = .ok (.lreturn, 1) := by decide +kernel
theorem d_MM_plain_97 : decode b_MM_plain 97 = .ok (.aload_n 0, 1) := by decide +kernel
theorem d_MM_plain_98 : decode b_MM_plain 98 = .ok (.aload_n 0, 1) := by decide +kernel
theorem d_MM_plain_99 : decode b_MM_plain 99 = .ok (.getfield 59, 3) := by decide +kernel
theorem d_MM_plain_102 : decode b_MM_plain 102 = .ok (.iload_n 1, 1) := by decide +kernel
theorem d_MM_plain_103 : decode b_MM_plain 103 = .ok (.iaload, 1) := by decide +kernel
theorem d_MM_plain_104 : decode b_MM_plain 104 = .ok (.iload_n 1, 1) := by decide +kernel
theorem d_MM_plain_105 : decode b_MM_plain 105 = .ok (.invokevirtual 96, 3) := by decide +kernel
theorem d_MM_plain_108 : decode b_MM_plain 108 = .ok (.i2l, 1) := by decide +kernel
theorem d_MM_plain_109 : decode b_MM_plain 109 = .ok (.lreturn, 1) := by decide +kernel
theorem d_MM_plain_110 : decode b_MM_plain 110 = .ok (.ldc2_w 102, 3) := by decide +kernel
theorem d_MM_plain_113 : decode b_MM_plain 113 = .ok (.aload_n 0, 1) := by decide +kernel
theorem d_MM_plain_114 : decode b_MM_plain 114 = .ok (.getfield 35, 3) := by decide +kernel
theorem d_MM_plain_117 : decode b_MM_plain 117 = .ok (.iload_n 2, 1) := by decide +kernel
theorem d_MM_plain_118 : decode b_MM_plain 118 = .ok (.iaload, 1) := by decide +kernel
theorem d_MM_plain_119 : decode b_MM_plain 119 = .ok (.i2l, 1) := by decide +kernel
theorem d_MM_plain_120 : decode b_MM_plain 120 = .ok (.ladd, 1) := by decide +kernel
theorem d_MM_plain_121 : decode b_MM_plain 121 = .ok (.lreturn, 1) := by decide +kernel
theorem d_MM_plain_122 : decode b_MM_plain 122 = .ok (.ldc2_w 104, 3) := by decide +kernel
theorem d_MM_plain_125 : decode b_MM_plain 125 = .ok (.lreturn, 1) := by decide +kernel
theorem d_MM_verify_0 : decode b_MM_verify 0 = .ok (.iload_n 1, 1) := by decide +kernel
theorem d_MM_verify_1 : decode b_MM_verify 1 = .ok (.iload_n 2, 1) := by decide +kernel
theorem d_MM_verify_2 : decode b_MM_verify 2 = .ok (.invokestatic 79, 3) := by decide +kernel
theorem d_MM_verify_5 : decode b_MM_verify 5 = .ok (.ifCond .ne 22, 3) := by decide +kernel
theorem d_MM_verify_8 : decode b_MM_verify 8 = .ok (.iload_n 3, 1) := by decide +kernel
theorem d_MM_verify_9 : decode b_MM_verify 9 = .ok (.ifCond .lt 18, 3) := by decide +kernel
theorem d_MM_verify_12 : decode b_MM_verify 12 = .ok (.iload_n 3, 1) := by decide +kernel
theorem d_MM_verify_13 : decode b_MM_verify 13 = .ok (.iconst 2, 1) := by decide +kernel
theorem d_MM_verify_14 : decode b_MM_verify 14 = .ok (.if_icmp .gt 13, 3) := by decide +kernel
theorem d_MM_verify_17 : decode b_MM_verify 17 = .ok (.aload_n 0, 1) := by decide +kernel
theorem d_MM_verify_18 : decode b_MM_verify 18 = .ok (.getfield 76, 3) := by decide +kernel
theorem d_MM_verify_21 : decode b_MM_verify 21 = .ok (.iload_n 2, 1) := by decide +kernel
theorem d_MM_verify_22 : decode b_MM_verify 22 = .ok (.iconst 4, 1) := by decide +kernel
theorem d_MM_verify_23 : decode b_MM_verify 23 = .ok (.irem, 1) := by decide +kernel
theorem d_MM_verify_24 : decode b_MM_verify 24 = .ok (.if_icmp .eq 5, 3) := by decide +kernel
theorem d_MM_verify_27 : decode b_MM_verify 27 = .ok (.iconst (-1), 1) := by decide +kernel
theorem d_MM_verify_28 : decode b_MM_verify 28 = .ok (.ireturn, 1) := by decide +kernel
theorem d_MM_verify_29 : decode b_MM_verify 29 = .ok (.iconst 0, 1) := by decide +kernel
theorem d_MM_verify_30 : decode b_MM_verify 30 = .ok (.istore 5, 2) := by decide +kernel
theorem d_MM_verify_32 : decode b_MM_verify 32 = .ok (.iconst 0, 1) := by decide +kernel
theorem d_MM_verify_33 : decode b_MM_verify 33 = .ok (.istore 6, 2) := by decide +kernel
theorem d_MM_verify_35 : decode b_MM_verify 35 = .ok (.iload 6, 2) := by decide +kernel
theorem d_MM_verify_37 : decode b_MM_verify 37 = .ok (.aload_n 0, 1) := by decide +kernel
theorem d_MM_verify_38 : decode b_MM_verify 38 = .ok (.getfield 90, 3) := by decide +kernel
theorem d_MM_verify_41 : decode b_MM_verify 41 = .ok (.if_icmp .ge 23, 3) := by decide +kernel
theorem d_MM_verify_44 : decode b_MM_verify 44 = .ok (.aload_n 0, 1) := by decide +kernel
theorem d_MM_verify_45 : decode b_MM_verify 45 = .ok (.iload 6, 2) := by decide +kernel
theorem d_MM_verify_47 : decode b_MM_verify 47 = .ok (.iload_n 1, 1) := by decide +kernel
theorem d_MM_verify_48 : decode b_MM_verify 48 = .ok (.iload_n 2, 1) := by decide +kernel
theorem d_MM_verify_49 : decode b_MM_verify 49 = .ok (.invokevirtual 120, 3) := by decide +kernel
theorem d_MM_verify_52 : decode b_MM_verify 52 = .ok (.ifCond .eq 6, 3) := by decide +kernel
theorem d_MM_verify_55 : decode b_MM_verify 55 = .ok (.iinc 5 1, 3) := by decide +kernel
theorem d_MM_verify_58 : decode b_MM_verify 58 = .ok (.iinc 6 1, 3) := by decide +kernel
theorem d_MM_verify_61 : decode b_MM_verify 61 = .ok (.goto (-26), 3) := by decide +kernel
theorem d_MM_verify_64 : decode b_MM_verify 64 = .ok (.iload_n 3, 1) := by decide +kernel
theorem d_MM_verify_65 : decode b_MM_verify 65 = .ok (.ifCond .ne 18, 3) := by decide +kernel
theorem d_MM_verify_68 : decode b_MM_verify 68 = .ok (.iload 5, 2) := by decide +kernel
theorem d_MM_verify_70 : decode b_MM_verify 70 = .ok (.iload 4, 2) := by decide +kernel
theorem d_MM_verify_72 : decode b_MM_verify 72 = .ok (.if_icmp .ne 7, 3) := by decide +kernel
theorem d_MM_verify_75 : decode b_MM_verify 75 = .ok (.iconst 1, 1) := by decide +kernel
theorem d_MM_verify_76 : decode b_MM_verify 76 = .ok (.goto 39, 3) := by decide +kernel
theorem d_MM_verify_79 : decode b_MM_verify 79 = .ok (.iconst 0, 1) := by decide +kernel
theorem d_MM_verify_80 : decode b_MM_verify 80 = .ok (.goto 35, 3) := by decide +kernel
theorem d_MM_verify_83 : decode b_MM_verify 83 = .ok (.iload_n 3, 1) := by decide +kernel
theorem d_MM_verify_84 : decode b_MM_verify 84 = .ok (.iconst 1, 1) := by decide +kernel
theorem d_MM_verify_85 : decode b_MM_verify 85 = .ok (.if_icmp .ne 18, 3) := by decide +kernel
theorem d_MM_verify_88 : decode b_MM_verify 88 = .ok (.iload 5, 2) := by decide +kernel
theorem d_MM_verify_90 : decode b_MM_verify 90 = .ok (.iload 4, 2) := by decide +kernel
theorem d_MM_verify_92 : decode b_MM_verify 92 = .ok (.if_icmp .lt 7, 3) := by decide +kernel
theorem d_MM_verify_95 : decode b_MM_verify 95 = .ok (.iconst 1, 1) := by decide +kernel
theorem d_MM_verify_96 : decode b_MM_verify 96 = .ok (.goto 19, 3) := by decide +kernel
theorem d_MM_verify_99 : decode b_MM_verify 99 = .ok (.iconst 0, 1) := by decide +kernel
theorem d_MM_verify_100 : decode b_MM_verify 100 = .ok (.goto 15, 3) := by decide +kernel
theorem d_MM_verify_103 : decode b_MM_verify 103 = .ok (.iload 5, 2) := by decide +kernel
theorem d_MM_verify_105 : decode b_MM_verify 105 = .ok (.iload 4, 2) := by decide +kernel
theorem d_MM_verify_107 : decode b_MM_verify 107 = .ok (.if_icmp .gt 7, 3) := by decide +kernel
theorem d_MM_verify_110 : decode b_MM_verify 110 = .ok (.iconst 1, 1) := by decide +kernel
theorem d_MM_verify_111 : decode b_MM_verify 111 = .ok (.goto 4, 3) := by decide +kernel
theorem d_MM_verify_114 : decode b_MM_verify 114 = .ok (.iconst 0, 1) := by decide +kernel
theorem d_MM_verify_115 : decode b_MM_verify 115 = .ok (.istore 6, 2) := by decide +kernel
theorem d_MM_verify_117 : decode b_MM_verify 117 = .ok (.iconst 0, 1) := by decide +kernel
theorem d_MM_verify_118 : decode b_MM_verify 118 = .ok (.istore 7, 2) := by decide +kernel
theorem d_MM_verify_120 : decode b_MM_verify 120 = .ok (.iload 7, 2) := by decide +kernel
theorem d_MM_verify_122 : decode b_MM_verify 122 = .ok (.aload_n 0, 1) := by decide +kernel
theorem d_MM_verify_123 : decode b_MM_verify 123 = .ok (.getfield 90, 3) := by decide +kernel
theorem d_MM_verify_126 : decode b_MM_verify 126 = .ok (.if_icmp .ge 33, 3) := by decide +kernel
theorem d_MM_verify_129 : decode b_MM_verify 129 = .ok (.iload 6, 2) := by decide +kernel
theorem d_MM_verify_131 : decode b_MM_verify 131 = .ok (.ifCond .eq 28, 3) := by decide +kernel
theorem d_MM_verify_134 : decode b_MM_verify 134 = .ok (.aload_n 0, 1) := by decide +kernel
theorem d_MM_verify_135 : decode b_MM_verify 135 = .ok (.iload 7, 2) := by decide +kernel
theorem d_MM_verify_137 : decode b_MM_verify 137 = .ok (.iload_n 1, 1) := by decide +kernel
theorem d_MM_verify_138 : decode b_MM_verify 138 = .ok (.iload_n 2, 1) := by decide +kernel
theorem d_MM_verify_139 : decode b_MM_verify 139 = .ok (.invokevirtual 120, 3) := by decide +kernel
theorem d_MM_verify_142 : decode b_MM_verify 142 = .ok (.ifCond .eq 11, 3) := by decide +kernel
theorem d_MM_verify_145 : decode b_MM_verify 145 = .ok (.aload_n 0, 1) := by decide +kernel
theorem d_MM_verify_146 : decode b_MM_verify 146 = .ok (.getfield 69, 3) := by decide +kernel
theorem d_MM_verify_149 : decode b_MM_verify 149 = .ok (.iload 7, 2) := by decide +kernel
theorem d_MM_verify_151 : decode b_MM_verify 151 = .ok (.iconst 1, 1) := by decide +kernel
theorem d_MM_verify_152 : decode b_MM_verify 152 = .ok (.bastore, 1) := by decide +kernel
theorem d_MM_verify_153 : decode b_MM_verify 153 = .ok (.iinc 7 1, 3) := by decide +kernel
theorem d_MM_verify_156 : decode b_MM_verify 156 = .ok (.goto (-36), 3) := by decide +kernel
theorem d_MM_verify_159 : decode b_MM_verify 159 = .ok (.aload_n 0, 1) := by decide +kernel
theorem d_MM_verify_160 : decode b_MM_verify 160 = .ok (.iconst 0, 1) := by decide +kernel
theorem d_MM_verify_161 : decode b_MM_verify 161 = .ok (.putfield 76, 3) := by decide +kernel
theorem d_MM_verify_164 : decode b_MM_verify 164 = .ok (.iload 6, 2) := by decide +kernel
theorem d_MM_verify_166 : decode b_MM_verify 166 = .ok (.ifCond .eq 8, 3) := by decide +kernel
theorem d_MM_verify_169 : decode b_MM_verify 169 = .ok (.iload 5, 2) := by decide +kernel
theorem d_MM_verify_171 : decode b_MM_verify 171 = .ok (.goto 8, 3) := by decide +kernel
theorem d_MM_verify_174 : decode b_MM_verify 174 = .ok (.bipush (-10), 2) := by decide +kernel
theorem d_MM_verify_176 : decode b_MM_verify 176 = .ok (.iload 5, 2) := by decide +kernel
theorem d_MM_verify_178 : decode b_MM_verify 178 = .ok (.isub, 1) := by decide +kernel
theorem d_MM_verify_179 : decode b_MM_verify 179 = .ok (.ireturn, 1) := by decide +kernel
theorem d_MM_asked_0 : decode b_MM_asked 0 = .ok (.aload_n 0, 1) := by decide +kernel
theorem d_MM_asked_1 : decode b_MM_asked 1 = .ok (.getfield 66, 3) := by decide +kernel
theorem d_MM_asked_4 : decode b_MM_asked 4 = .ok (.iload_n 1, 1) := by decide +kernel
theorem d_MM_asked_5 : decode b_MM_asked 5 = .ok (.baload, 1) := by decide +kernel
theorem d_MM_asked_6 : decode b_MM_asked 6 = .ok (.ifCond .eq 23, 3) := by decide +kernel
theorem d_MM_asked_9 : decode b_MM_asked 9 = .ok (.aload_n 0, 1) := by decide +kernel
theorem d_MM_asked_10 : decode b_MM_asked 10 = .ok (.getfield 44, 3) := by decide +kernel
theorem d_MM_asked_13 : decode b_MM_asked 13 = .ok (.iload_n 1, 1) := by decide +kernel
theorem d_MM_asked_14 : decode b_MM_asked 14 = .ok (.iaload, 1) := by decide +kernel
theorem d_MM_asked_15 : decode b_MM_asked 15 = .ok (.iload_n 2, 1) := by decide +kernel
theorem d_MM_asked_16 : decode b_MM_asked 16 = .ok (.if_icmp .ne 13, 3) := by decide +kernel
theorem d_MM_asked_19 : decode b_MM_asked 19 = .ok (.aload_n 0, 1) := by decide +kernel
theorem d_MM_asked_20 : decode b_MM_asked 20 = .ok (.getfield 47, 3) := by decide +kernel
theorem d_MM_asked_23 : decode b_MM_asked 23 = .ok (.iload_n 1, 1) := by decide +kernel
theorem d_MM_asked_24 : decode b_MM_asked 24 = .ok (.iaload, 1) := by decide +kernel
theorem d_MM_asked_25 : decode b_MM_asked 25 = .ok (.iload_n 3, 1) := by decide +kernel
theorem d_MM_asked_26 : decode b_MM_asked 26 = .ok (.if_icmp .eq 5, 3) := by decide +kernel
theorem d_MM_asked_29 : decode b_MM_asked 29 = .ok (.iconst 0, 1) := by decide +kernel
theorem d_MM_asked_30 : decode b_MM_asked 30 = .ok (.ireturn, 1) := by decide +kernel
theorem d_MM_asked_31 : decode b_MM_asked 31 = .ok (.iconst 0, 1) := by decide +kernel
theorem d_MM_asked_32 : decode b_MM_asked 32 = .ok (.istore 4, 2) := by decide +kernel
theorem d_MM_asked_34 : decode b_MM_asked 34 = .ok (.iload 4, 2) := by decide +kernel
theorem d_MM_asked_36 : decode b_MM_asked 36 = .ok (.aload_n 0, 1) := by decide +kernel
theorem d_MM_asked_37 : decode b_MM_asked 37 = .ok (.getfield 76, 3) := by decide +kernel
theorem d_MM_asked_40 : decode b_MM_asked 40 = .ok (.if_icmp .ge 42, 3) := by decide +kernel
theorem d_MM_asked_43 : decode b_MM_asked 43 = .ok (.aload_n 0, 1) := by decide +kernel
theorem d_MM_asked_44 : decode b_MM_asked 44 = .ok (.getfield 7, 3) := by decide +kernel
theorem d_MM_asked_47 : decode b_MM_asked 47 = .ok (.iload 4, 2) := by decide +kernel
theorem d_MM_asked_49 : decode b_MM_asked 49 = .ok (.iaload, 1) := by decide +kernel
theorem d_MM_asked_50 : decode b_MM_asked 50 = .ok (.aload_n 0, 1) := by decide +kernel
theorem d_MM_asked_51 : decode b_MM_asked 51 = .ok (.getfield 13, 3) := by decide +kernel
theorem d_MM_asked_54 : decode b_MM_asked 54 = .ok (.iload 4, 2) := by decide +kernel
theorem d_MM_asked_56 : decode b_MM_asked 56 = .ok (.iaload, 1) := by decide +kernel
theorem d_MM_asked_57 : decode b_MM_asked 57 = .ok (.aload_n 0, 1) := by decide +kernel
theorem d_MM_asked_58 : decode b_MM_asked 58 = .ok (.getfield 50, 3) := by decide +kernel
theorem d_MM_asked_61 : decode b_MM_asked 61 = .ok (.iconst 3, 1) := by decide +kernel
theorem d_MM_asked_62 : decode b_MM_asked 62 = .ok (.iload_n 1, 1) := by decide +kernel
theorem d_MM_asked_63 : decode b_MM_asked 63 = .ok (.imul, 1) := by decide +kernel
theorem d_MM_asked_64 : decode b_MM_asked 64 = .ok (.iload 4, 2) := by decide +kernel
theorem d_MM_asked_66 : decode b_MM_asked 66 = .ok (.iadd, 1) := by decide +kernel
theorem d_MM_asked_67 : decode b_MM_asked 67 = .ok (.iaload, 1) := by decide +kernel
theorem d_MM_asked_68 : decode b_MM_asked 68 = .ok (.invokestatic 86, 3) := by decide +kernel
theorem d_MM_asked_71 : decode b_MM_asked 71 = .ok (.ifCond .ne 5, 3) := by decide +kernel
theorem d_MM_asked_74 : decode b_MM_asked 74 = .ok (.iconst 0, 1) := by decide +kernel
theorem d_MM_asked_75 : decode b_MM_asked 75 = .ok (.ireturn, 1) := by decide +kernel
theorem d_MM_asked_76 : decode b_MM_asked 76 = .ok (.iinc 4 1, 3) := by decide +kernel
theorem d_MM_asked_79 : decode b_MM_asked 79 = .ok (.goto (-45), 3) := by decide +kernel
theorem d_MM_asked_82 : decode b_MM_asked 82 = .ok (.iconst 1, 1) := by decide +kernel
theorem d_MM_asked_83 : decode b_MM_asked 83 = .ok (.ireturn, 1) := by decide +kernel
theorem d_MM_inOrder_0 : decode b_MM_inOrder 0 = .ok (.iload_n 1, 1) := by decide +kernel
theorem d_MM_inOrder_1 : decode b_MM_inOrder 1 = .ok (.iload_n 2, 1) := by decide +kernel
theorem d_MM_inOrder_2 : decode b_MM_inOrder 2 = .ok (.invokestatic 79, 3) := by decide +kernel
theorem d_MM_inOrder_5 : decode b_MM_inOrder 5 = .ok (.ifCond .ne 13, 3) := by decide +kernel
theorem d_MM_inOrder_8 : decode b_MM_inOrder 8 = .ok (.aload_n 0, 1) := by decide +kernel
theorem d_MM_inOrder_9 : decode b_MM_inOrder 9 = .ok (.getfield 76, 3) := by decide +kernel
theorem d_MM_inOrder_12 : decode b_MM_inOrder 12 = .ok (.iload_n 2, 1) := by decide +kernel
theorem d_MM_inOrder_13 : decode b_MM_inOrder 13 = .ok (.iconst 4, 1) := by decide +kernel
theorem d_MM_inOrder_14 : decode b_MM_inOrder 14 = .ok (.irem, 1) := by decide +kernel
theorem d_MM_inOrder_15 : decode b_MM_inOrder 15 = .ok (.if_icmp .eq 5, 3) := by decide +kernel
theorem d_MM_inOrder_18 : decode b_MM_inOrder 18 = .ok (.iconst (-1), 1) := by decide +kernel
theorem d_MM_inOrder_19 : decode b_MM_inOrder 19 = .ok (.ireturn, 1) := by decide +kernel
theorem d_MM_inOrder_20 : decode b_MM_inOrder 20 = .ok (.bipush (-10), 2) := by decide +kernel
theorem d_MM_inOrder_22 : decode b_MM_inOrder 22 = .ok (.istore_n 3, 1) := by decide +kernel
theorem d_MM_inOrder_23 : decode b_MM_inOrder 23 = .ok (.aload_n 0, 1) := by decide +kernel
theorem d_MM_inOrder_24 : decode b_MM_inOrder 24 = .ok (.getfield 90, 3) := by decide +kernel
theorem d_MM_inOrder_27 : decode b_MM_inOrder 27 = .ok (.iconst 1, 1) := by decide +kernel
theorem d_MM_inOrder_28 : decode b_MM_inOrder 28 = .ok (.isub, 1) := by decide +kernel
theorem d_MM_inOrder_29 : decode b_MM_inOrder 29 = .ok (.istore 4, 2) := by decide +kernel
theorem d_MM_inOrder_31 : decode b_MM_inOrder 31 = .ok (.iload 4, 2) := by decide +kernel
theorem d_MM_inOrder_33 : decode b_MM_inOrder 33 = .ok (.aload_n 0, 1) := by decide +kernel
theorem d_MM_inOrder_34 : decode b_MM_inOrder 34 = .ok (.getfield 72, 3) := by decide +kernel
theorem d_MM_inOrder_37 : decode b_MM_inOrder 37 = .ok (.if_icmp .le 23, 3) := by decide +kernel
theorem d_MM_inOrder_40 : decode b_MM_inOrder 40 = .ok (.aload_n 0, 1) := by decide +kernel
theorem d_MM_inOrder_41 : decode b_MM_inOrder 41 = .ok (.iload 4, 2) := by decide +kernel
theorem d_MM_inOrder_43 : decode b_MM_inOrder 43 = .ok (.iload_n 1, 1) := by decide +kernel
theorem d_MM_inOrder_44 : decode b_MM_inOrder 44 = .ok (.iload_n 2, 1) := by decide +kernel
theorem d_MM_inOrder_45 : decode b_MM_inOrder 45 = .ok (.invokevirtual 120, 3) := by decide +kernel
theorem d_MM_inOrder_48 : decode b_MM_inOrder 48 = .ok (.ifCond .eq 6, 3) := by decide +kernel
theorem d_MM_inOrder_51 : decode b_MM_inOrder 51 = .ok (.iload 4, 2) := by decide +kernel
theorem d_MM_inOrder_53 : decode b_MM_inOrder 53 = .ok (.istore_n 3, 1) := by decide +kernel
theorem d_MM_inOrder_54 : decode b_MM_inOrder 54 = .ok (.iinc 4 (-1), 3) := by decide +kernel
theorem d_MM_inOrder_57 : decode b_MM_inOrder 57 = .ok (.goto (-26), 3) := by decide +kernel
theorem d_MM_inOrder_60 : decode b_MM_inOrder 60 = .ok (.aload_n 0, 1) := by decide +kernel
theorem d_MM_inOrder_61 : decode b_MM_inOrder 61 = .ok (.iconst 0, 1) := by decide +kernel
theorem d_MM_inOrder_62 : decode b_MM_inOrder 62 = .ok (.putfield 76, 3) := by decide +kernel
theorem d_MM_inOrder_65 : decode b_MM_inOrder 65 = .ok (.iload_n 3, 1) := by decide +kernel
theorem d_MM_inOrder_66 : decode b_MM_inOrder 66 = .ok (.bipush (-10), 2) := by decide +kernel
theorem d_MM_inOrder_68 : decode b_MM_inOrder 68 = .ok (.if_icmp .ne 6, 3) := by decide +kernel
theorem d_MM_inOrder_71 : decode b_MM_inOrder 71 = .ok (.bipush (-10), 2) := by decide +kernel
theorem d_MM_inOrder_73 : decode b_MM_inOrder 73 = .ok (.ireturn, 1) := by decide +kernel
theorem d_MM_inOrder_74 : decode b_MM_inOrder 74 = .ok (.aload_n 0, 1) := by decide +kernel
theorem d_MM_inOrder_75 : decode b_MM_inOrder 75 = .ok (.getfield 69, 3) := by decide +kernel
theorem d_MM_inOrder_78 : decode b_MM_inOrder 78 = .ok (.iload_n 3, 1) := by decide +kernel
theorem d_MM_inOrder_79 : decode b_MM_inOrder 79 = .ok (.iconst 1, 1) := by decide +kernel
theorem d_MM_inOrder_80 : decode b_MM_inOrder 80 = .ok (.bastore, 1) := by decide +kernel
theorem d_MM_inOrder_81 : decode b_MM_inOrder 81 = .ok (.aload_n 0, 1) := by decide +kernel
theorem d_MM_inOrder_82 : decode b_MM_inOrder 82 = .ok (.iload_n 3, 1) := by decide +kernel
theorem d_MM_inOrder_83 : decode b_MM_inOrder 83 = .ok (.putfield 72, 3) := by decide +kernel
theorem d_MM_inOrder_86 : decode b_MM_inOrder 86 = .ok (.iload_n 3, 1) := by decide +kernel
theorem d_MM_inOrder_87 : decode b_MM_inOrder 87 = .ok (.ireturn, 1) := by decide +kernel
theorem d_MM_rewind_0 : decode b_MM_rewind 0 = .ok (.aload_n 0, 1) := by decide +kernel
theorem d_MM_rewind_1 : decode b_MM_rewind 1 = .ok (.getfield 72, 3) := by decide +kernel
theorem d_MM_rewind_4 : decode b_MM_rewind 4 = .ok (.istore_n 1, 1) := by decide +kernel
theorem d_MM_rewind_5 : decode b_MM_rewind 5 = .ok (.aload_n 0, 1) := by decide +kernel
theorem d_MM_rewind_6 : decode b_MM_rewind 6 = .ok (.iconst (-1), 1) := by decide +kernel
theorem d_MM_rewind_7 : decode b_MM_rewind 7 = .ok (.putfield 72, 3) := by decide +kernel
theorem d_MM_rewind_10 : decode b_MM_rewind 10 = .ok (.iload_n 1, 1) := by decide +kernel
theorem d_MM_rewind_11 : decode b_MM_rewind 11 = .ok (.ireturn, 1) := by decide +kernel
theorem d_MM_open_0 : decode b_MM_open 0 = .ok (.iload_n 1, 1) := by decide +kernel
theorem d_MM_open_1 : decode b_MM_open 1 = .ok (.ifCond .lt 8, 3) := by decide +kernel
theorem d_MM_open_4 : decode b_MM_open 4 = .ok (.iload_n 1, 1) := by decide +kernel
theorem d_MM_open_5 : decode b_MM_open 5 = .ok (.iconst 3, 1) := by decide +kernel
theorem d_MM_open_6 : decode b_MM_open 6 = .ok (.if_icmp .le 5, 3) := by decide +kernel
theorem d_MM_open_9 : decode b_MM_open 9 = .ok (.iconst (-1), 1) := by decide +kernel
theorem d_MM_open_10 : decode b_MM_open 10 = .ok (.ireturn, 1) := by decide +kernel
theorem d_MM_open_11 : decode b_MM_open 11 = .ok (.iconst 0, 1) := by decide +kernel
theorem d_MM_open_12 : decode b_MM_open 12 = .ok (.istore_n 2, 1) := by decide +kernel
theorem d_MM_open_13 : decode b_MM_open 13 = .ok (.iload_n 2, 1) := by decide +kernel
theorem d_MM_open_14 : decode b_MM_open 14 = .ok (.aload_n 0, 1) := by decide +kernel
theorem d_MM_open_15 : decode b_MM_open 15 = .ok (.getfield 90, 3) := by decide +kernel
theorem d_MM_open_18 : decode b_MM_open 18 = .ok (.if_icmp .ge 39, 3) := by decide +kernel
theorem d_MM_open_21 : decode b_MM_open 21 = .ok (.aload_n 0, 1) := by decide +kernel
theorem d_MM_open_22 : decode b_MM_open 22 = .ok (.getfield 66, 3) := by decide +kernel
theorem d_MM_open_25 : decode b_MM_open 25 = .ok (.iload_n 2, 1) := by decide +kernel
theorem d_MM_open_26 : decode b_MM_open 26 = .ok (.baload, 1) := by decide +kernel
theorem d_MM_open_27 : decode b_MM_open 27 = .ok (.ifCond .eq 24, 3) := by decide +kernel
theorem d_MM_open_30 : decode b_MM_open 30 = .ok (.aload_n 0, 1) := by decide +kernel
theorem d_MM_open_31 : decode b_MM_open 31 = .ok (.getfield 44, 3) := by decide +kernel
theorem d_MM_open_34 : decode b_MM_open 34 = .ok (.iload_n 2, 1) := by decide +kernel
theorem d_MM_open_35 : decode b_MM_open 35 = .ok (.iaload, 1) := by decide +kernel
theorem d_MM_open_36 : decode b_MM_open 36 = .ok (.iload_n 1, 1) := by decide +kernel
theorem d_MM_open_37 : decode b_MM_open 37 = .ok (.if_icmp .ne 14, 3) := by decide +kernel
theorem d_MM_open_40 : decode b_MM_open 40 = .ok (.aload_n 0, 1) := by decide +kernel
theorem d_MM_open_41 : decode b_MM_open 41 = .ok (.getfield 69, 3) := by decide +kernel
theorem d_MM_open_44 : decode b_MM_open 44 = .ok (.iload_n 2, 1) := by decide +kernel
theorem d_MM_open_45 : decode b_MM_open 45 = .ok (.baload, 1) := by decide +kernel
theorem d_MM_open_46 : decode b_MM_open 46 = .ok (.ifCond .ne 5, 3) := by decide +kernel
theorem d_MM_open_49 : decode b_MM_open 49 = .ok (.iload_n 2, 1) := by decide +kernel
theorem d_MM_open_50 : decode b_MM_open 50 = .ok (.ireturn, 1) := by decide +kernel
theorem d_MM_open_51 : decode b_MM_open 51 = .ok (.iinc 2 1, 3) := by decide +kernel
theorem d_MM_open_54 : decode b_MM_open 54 = .ok (.goto (-41), 3) := by decide +kernel
theorem d_MM_open_57 : decode b_MM_open 57 = .ok (.bipush (-10), 2) := by decide +kernel
theorem d_MM_open_59 : decode b_MM_open 59 = .ok (.ireturn, 1) := by decide +kernel
theorem d_MM_unused_0 : decode b_MM_unused 0 = .ok (.iconst 0, 1) := by decide +kernel
theorem d_MM_unused_1 : decode b_MM_unused 1 = .ok (.istore_n 1, 1) := by decide +kernel
theorem d_MM_unused_2 : decode b_MM_unused 2 = .ok (.iload_n 1, 1) := by decide +kernel
theorem d_MM_unused_3 : decode b_MM_unused 3 = .ok (.aload_n 0, 1) := by decide +kernel
theorem d_MM_unused_4 : decode b_MM_unused 4 = .ok (.getfield 83, 3) := by decide +kernel
theorem d_MM_unused_7 : decode b_MM_unused 7 = .ok (.if_icmp .ge 32, 3) := by decide +kernel
theorem d_MM_unused_10 : decode b_MM_unused 10 = .ok (.aload_n 0, 1) := by decide +kernel
theorem d_MM_unused_11 : decode b_MM_unused 11 = .ok (.getfield 22, 3) := by decide +kernel
theorem d_MM_unused_14 : decode b_MM_unused 14 = .ok (.iload_n 1, 1) := by decide +kernel
theorem d_MM_unused_15 : decode b_MM_unused 15 = .ok (.baload, 1) := by decide +kernel
theorem d_MM_unused_16 : decode b_MM_unused 16 = .ok (.ifCond .eq 17, 3) := by decide +kernel
theorem d_MM_unused_19 : decode b_MM_unused 19 = .ok (.aload_n 0, 1) := by decide +kernel
theorem d_MM_unused_20 : decode b_MM_unused 20 = .ok (.iload_n 1, 1) := by decide +kernel
theorem d_MM_unused_21 : decode b_MM_unused 21 = .ok (.aload_n 0, 1) := by decide +kernel
theorem d_MM_unused_22 : decode b_MM_unused 22 = .ok (.getfield 90, 3) := by decide +kernel
theorem d_MM_unused_25 : decode b_MM_unused 25 = .ok (.invokevirtual 96, 3) := by decide +kernel
theorem d_MM_unused_28 : decode b_MM_unused 28 = .ok (.ifCond .ne 5, 3) := by decide +kernel
theorem d_MM_unused_31 : decode b_MM_unused 31 = .ok (.iload_n 1, 1) := by decide +kernel
theorem d_MM_unused_32 : decode b_MM_unused 32 = .ok (.ireturn, 1) := by decide +kernel
theorem d_MM_unused_33 : decode b_MM_unused 33 = .ok (.iinc 1 1, 3) := by decide +kernel
theorem d_MM_unused_36 : decode b_MM_unused 36 = .ok (.goto (-34), 3) := by decide +kernel
theorem d_MM_unused_39 : decode b_MM_unused 39 = .ok (.bipush (-10), 2) := by decide +kernel
theorem d_MM_unused_41 : decode b_MM_unused 41 = .ok (.ireturn, 1) := by decide +kernel
theorem d_MM_reset_0 : decode b_MM_reset 0 = .ok (.iload_n 1, 1) := by decide +kernel
theorem d_MM_reset_1 : decode b_MM_reset 1 = .ok (.ifCond .lt 8, 3) := by decide +kernel
theorem d_MM_reset_4 : decode b_MM_reset 4 = .ok (.iload_n 1, 1) := by decide +kernel
theorem d_MM_reset_5 : decode b_MM_reset 5 = .ok (.iconst 3, 1) := by decide +kernel
theorem d_MM_reset_6 : decode b_MM_reset 6 = .ok (.if_icmp .le 5, 3) := by decide +kernel
theorem d_MM_reset_9 : decode b_MM_reset 9 = .ok (.iconst (-1), 1) := by decide +kernel
theorem d_MM_reset_10 : decode b_MM_reset 10 = .ok (.ireturn, 1) := by decide +kernel
theorem d_MM_reset_11 : decode b_MM_reset 11 = .ok (.iconst 0, 1) := by decide +kernel
theorem d_MM_reset_12 : decode b_MM_reset 12 = .ok (.istore_n 2, 1) := by decide +kernel
theorem d_MM_reset_13 : decode b_MM_reset 13 = .ok (.iconst 0, 1) := by decide +kernel
theorem d_MM_reset_14 : decode b_MM_reset 14 = .ok (.istore_n 3, 1) := by decide +kernel
theorem d_MM_reset_15 : decode b_MM_reset 15 = .ok (.iload_n 3, 1) := by decide +kernel
theorem d_MM_reset_16 : decode b_MM_reset 16 = .ok (.aload_n 0, 1) := by decide +kernel
theorem d_MM_reset_17 : decode b_MM_reset 17 = .ok (.getfield 90, 3) := by decide +kernel
theorem d_MM_reset_20 : decode b_MM_reset 20 = .ok (.if_icmp .ge 41, 3) := by decide +kernel
theorem d_MM_reset_23 : decode b_MM_reset 23 = .ok (.aload_n 0, 1) := by decide +kernel
theorem d_MM_reset_24 : decode b_MM_reset 24 = .ok (.getfield 44, 3) := by decide +kernel
theorem d_MM_reset_27 : decode b_MM_reset 27 = .ok (.iload_n 3, 1) := by decide +kernel
theorem d_MM_reset_28 : decode b_MM_reset 28 = .ok (.iaload, 1) := by decide +kernel
theorem d_MM_reset_29 : decode b_MM_reset 29 = .ok (.iload_n 1, 1) := by decide +kernel
theorem d_MM_reset_30 : decode b_MM_reset 30 = .ok (.if_icmp .ne 25, 3) := by decide +kernel
theorem d_MM_reset_33 : decode b_MM_reset 33 = .ok (.aload_n 0, 1) := by decide +kernel
theorem d_MM_reset_34 : decode b_MM_reset 34 = .ok (.getfield 66, 3) := by decide +kernel
theorem d_MM_reset_37 : decode b_MM_reset 37 = .ok (.iload_n 3, 1) := by decide +kernel
theorem d_MM_reset_38 : decode b_MM_reset 38 = .ok (.baload, 1) := by decide +kernel
theorem d_MM_reset_39 : decode b_MM_reset 39 = .ok (.ifCond .ne 6, 3) := by decide +kernel
theorem d_MM_reset_42 : decode b_MM_reset 42 = .ok (.goto 13, 3) := by decide +kernel
theorem d_MM_reset_45 : decode b_MM_reset 45 = .ok (.iinc 2 1, 3) := by decide +kernel
theorem d_MM_reset_48 : decode b_MM_reset 48 = .ok (.aload_n 0, 1) := by decide +kernel
theorem d_MM_reset_49 : decode b_MM_reset 49 = .ok (.getfield 66, 3) := by decide +kernel
theorem d_MM_reset_52 : decode b_MM_reset 52 = .ok (.iload_n 3, 1) := by decide +kernel
theorem d_MM_reset_53 : decode b_MM_reset 53 = .ok (.iconst 0, 1) := by decide +kernel
theorem d_MM_reset_54 : decode b_MM_reset 54 = .ok (.bastore, 1) := by decide +kernel
theorem d_MM_reset_55 : decode b_MM_reset 55 = .ok (.iinc 3 1, 3) := by decide +kernel
theorem d_MM_reset_58 : decode b_MM_reset 58 = .ok (.goto (-43), 3) := by decide +kernel
theorem d_MM_reset_61 : decode b_MM_reset 61 = .ok (.iconst 0, 1) := by decide +kernel
theorem d_MM_reset_62 : decode b_MM_reset 62 = .ok (.istore_n 3, 1) := by decide +kernel
theorem d_MM_reset_63 : decode b_MM_reset 63 = .ok (.iload_n 3, 1) := by decide +kernel
theorem d_MM_reset_64 : decode b_MM_reset 64 = .ok (.aload_n 0, 1) := by decide +kernel
theorem d_MM_reset_65 : decode b_MM_reset 65 = .ok (.getfield 83, 3) := by decide +kernel
theorem d_MM_reset_68 : decode b_MM_reset 68 = .ok (.if_icmp .ge 26, 3) := by decide +kernel
theorem d_MM_reset_71 : decode b_MM_reset 71 = .ok (.aload_n 0, 1) := by decide +kernel
theorem d_MM_reset_72 : decode b_MM_reset 72 = .ok (.getfield 16, 3) := by decide +kernel
theorem d_MM_reset_75 : decode b_MM_reset 75 = .ok (.iload_n 3, 1) := by decide +kernel
theorem d_MM_reset_76 : decode b_MM_reset 76 = .ok (.iaload, 1) := by decide +kernel
theorem d_MM_reset_77 : decode b_MM_reset 77 = .ok (.iload_n 1, 1) := by decide +kernel
theorem d_MM_reset_78 : decode b_MM_reset 78 = .ok (.if_icmp .ne 10, 3) := by decide +kernel
theorem d_MM_reset_81 : decode b_MM_reset 81 = .ok (.aload_n 0, 1) := by decide +kernel
theorem d_MM_reset_82 : decode b_MM_reset 82 = .ok (.getfield 22, 3) := by decide +kernel
theorem d_MM_reset_85 : decode b_MM_reset 85 = .ok (.iload_n 3, 1) := by decide +kernel
theorem d_MM_reset_86 : decode b_MM_reset 86 = .ok (.iconst 0, 1) := by decide +kernel
theorem d_MM_reset_87 : decode b_MM_reset 87 = .ok (.bastore, 1) := by decide +kernel
theorem d_MM_reset_88 : decode b_MM_reset 88 = .ok (.iinc 3 1, 3) := by decide +kernel
theorem d_MM_reset_91 : decode b_MM_reset 91 = .ok (.goto (-28), 3) := by decide +kernel
theorem d_MM_reset_94 : decode b_MM_reset 94 = .ok (.iload_n 2, 1) := by decide +kernel
theorem d_MM_reset_95 : decode b_MM_reset 95 = .ok (.ireturn, 1) := by decide +kernel
theorem d_MM_noted_0 : decode b_MM_noted 0 = .ok (.iload_n 1, 1) := by decide +kernel
theorem d_MM_noted_1 : decode b_MM_noted 1 = .ok (.ifCond .lt 11, 3) := by decide +kernel
theorem d_MM_noted_4 : decode b_MM_noted 4 = .ok (.iload_n 1, 1) := by decide +kernel
theorem d_MM_noted_5 : decode b_MM_noted 5 = .ok (.aload_n 0, 1) := by decide +kernel
theorem d_MM_noted_6 : decode b_MM_noted 6 = .ok (.getfield 90, 3) := by decide +kernel
theorem d_MM_noted_9 : decode b_MM_noted 9 = .ok (.if_icmp .lt 7, 3) := by decide +kernel
theorem d_MM_noted_12 : decode b_MM_noted 12 = .ok (.ldc2_w 106, 3) := by decide +kernel
theorem d_MM_noted_15 : decode b_MM_noted 15 = .ok (.lreturn, 1) := by decide +kernel
theorem d_MM_noted_16 : decode b_MM_noted 16 = .ok (.iload_n 2, 1) := by decide +kernel
theorem d_MM_noted_17 : decode b_MM_noted 17 = .ok (.tableswitch 139 0 9 #[55, 63, 71, 71, 71, 85, 93, 101, 116, 124], 55) := by decide +kernel
theorem d_MM_noted_72 : decode b_MM_noted 72 = .ok (.aload_n 0, 1) := by decide +kernel
theorem d_MM_noted_73 : decode b_MM_noted 73 = .ok (.getfield 44, 3) := by decide +kernel
theorem d_MM_noted_76 : decode b_MM_noted 76 = .ok (.iload_n 1, 1) := by decide +kernel
theorem d_MM_noted_77 : decode b_MM_noted 77 = .ok (.iaload, 1) := by decide +kernel
theorem d_MM_noted_78 : decode b_MM_noted 78 = .ok (.i2l, 1) := by decide +kernel
theorem d_MM_noted_79 : decode b_MM_noted 79 = .ok (.lreturn, 1) := by decide +kernel
theorem d_MM_noted_80 : decode b_MM_noted 80 = .ok (.aload_n 0, 1) := by decide +kernel
theorem d_MM_noted_81 : decode b_MM_noted 81 = .ok (.getfield 47, 3) := by decide +kernel
theorem d_MM_noted_84 : decode b_MM_noted 84 = .ok (.iload_n 1, 1) := by decide +kernel
theorem d_MM_noted_85 : decode b_MM_noted 85 = .ok (.iaload, 1) := by decide +kernel
theorem d_MM_noted_86 : decode b_MM_noted 86 = .ok (.i2l, 1) := by decide +kernel
theorem d_MM_noted_87 : decode b_MM_noted 87 = .ok (.lreturn, 1) := by decide +kernel
theorem d_MM_noted_88 : decode b_MM_noted 88 = .ok (.aload_n 0, 1) := by decide +kernel
theorem d_MM_noted_89 : decode b_MM_noted 89 = .ok (.getfield 50, 3) := by decide +kernel
theorem d_MM_noted_92 : decode b_MM_noted 92 = .ok (.iconst 3, 1) := by decide +kernel
theorem d_MM_noted_93 : decode b_MM_noted 93 = .ok (.iload_n 1, 1) := by decide +kernel
theorem d_MM_noted_94 : decode b_MM_noted 94 = .ok (.imul, 1) := by decide +kernel
theorem d_MM_noted_95 : decode b_MM_noted 95 = .ok (.iload_n 2, 1) := by decide +kernel
theorem d_MM_noted_96 : decode b_MM_noted 96 = .ok (.iadd, 1) := by decide +kernel
theorem d_MM_noted_97 : decode b_MM_noted 97 = .ok (.iconst 2, 1) := by decide +kernel
theorem d_MM_noted_98 : decode b_MM_noted 98 = .ok (.isub, 1) := by decide +kernel
theorem d_MM_noted_99 : decode b_MM_noted 99 = .ok (.iaload, 1) := by decide +kernel
theorem d_MM_noted_100 : decode b_MM_noted 100 = .ok (.i2l, 1) := by decide +kernel
theorem d_MM_noted_101 : decode b_MM_noted 101 = .ok (.lreturn, 1) := by decide +kernel
theorem d_MM_noted_102 : decode b_MM_noted 102 = .ok (.aload_n 0, 1) := by decide +kernel
theorem d_MM_noted_103 : decode b_MM_noted 103 = .ok (.getfield 53, 3) := by decide +kernel
theorem d_MM_noted_106 : decode b_MM_noted 106 = .ok (.iload_n 1, 1) := by decide +kernel
theorem d_MM_noted_107 : decode b_MM_noted 107 = .ok (.iaload, 1) := by decide +kernel
theorem d_MM_noted_108 : decode b_MM_noted 108 = .ok (.i2l, 1) := by decide +kernel
theorem d_MM_noted_109 : decode b_MM_noted 109 = .ok (.lreturn, 1) := by decide +kernel
theorem d_MM_noted_110 : decode b_MM_noted 110 = .ok (.aload_n 0, 1) := by decide +kernel
theorem d_MM_noted_111 : decode b_MM_noted 111 = .ok (.getfield 56, 3) := by decide +kernel
theorem d_MM_noted_114 : decode b_MM_noted 114 = .ok (.iload_n 1, 1) := by decide +kernel
theorem d_MM_noted_115 : decode b_MM_noted 115 = .ok (.iaload, 1) := by decide +kernel
theorem d_MM_noted_116 : decode b_MM_noted 116 = .ok (.i2l, 1) := by decide +kernel
theorem d_MM_noted_117 : decode b_MM_noted 117 = .ok (.lreturn, 1) := by decide +kernel
theorem d_MM_noted_118 : decode b_MM_noted 118 = .ok (.aload_n 0, 1) := by decide +kernel
theorem d_MM_noted_119 : decode b_MM_noted 119 = .ok (.getfield 69, 3) := by decide +kernel
theorem d_MM_noted_122 : decode b_MM_noted 122 = .ok (.iload_n 1, 1) := by decide +kernel
theorem d_MM_noted_123 : decode b_MM_noted 123 = .ok (.baload, 1) := by decide +kernel
theorem d_MM_noted_124 : decode b_MM_noted 124 = .ok (.ifCond .eq 7, 3) := by decide +kernel
theorem d_MM_noted_127 : decode b_MM_noted 127 = .ok (.lconst 1, 1) := by decide +kernel
theorem d_MM_noted_128 : decode b_MM_noted 128 = .ok (.goto 4, 3) := by decide +kernel
theorem d_MM_noted_131 : decode b_MM_noted 131 = .ok (.lconst 0, 1) := by decide +kernel
theorem d_MM_noted_132 : decode b_MM_noted 132 = .ok (.lreturn, 1) := by decide +kernel
theorem d_MM_noted_133 : decode b_MM_noted 133 = .ok (.aload_n 0, 1) := by decide +kernel
theorem d_MM_noted_134 : decode b_MM_noted 134 = .ok (.getfield 59, 3) := by decide +kernel
theorem d_MM_noted_137 : decode b_MM_noted 137 = .ok (.iload_n 1, 1) := by decide +kernel
theorem d_MM_noted_138 : decode b_MM_noted 138 = .ok (.iaload, 1) := by decide +kernel
theorem d_MM_noted_139 : decode b_MM_noted 139 = .ok (.i2l, 1) := by decide +kernel
theorem d_MM_noted_140 : decode b_MM_noted 140 = .ok (.lreturn, 1) := by decide +kernel
theorem d_MM_noted_141 : decode b_MM_noted 141 = .ok (.aload_n 0, 1) := by decide +kernel
theorem d_MM_noted_142 : decode b_MM_noted 142 = .ok (.getfield 66, 3) := by decide +kernel
theorem d_MM_noted_145 : decode b_MM_noted 145 = .ok (.iload_n 1, 1) := by decide +kernel
theorem d_MM_noted_146 : decode b_MM_noted 146 = .ok (.baload, 1) := by decide +kernel
theorem d_MM_noted_147 : decode b_MM_noted 147 = .ok (.ifCond .eq 7, 3) := by decide +kernel
theorem d_MM_noted_150 : decode b_MM_noted 150 = .ok (.lconst 1, 1) := by decide +kernel
theorem d_MM_noted_151 : decode b_MM_noted 151 = .ok (.goto 4, 3) := by decide +kernel
theorem d_MM_noted_154 : decode b_MM_noted 154 = .ok (.lconst 0, 1) := by decide +kernel
theorem d_MM_noted_155 : decode b_MM_noted 155 = .ok (.lreturn, 1) := by decide +kernel
theorem d_MM_noted_156 : decode b_MM_noted 156 = .ok (.ldc2_w 106, 3) := by decide +kernel
theorem d_MM_noted_159 : decode b_MM_noted 159 = .ok (.lreturn, 1) := by decide +kernel
theorem d_MM_answer_0 : decode b_MM_answer 0 = .ok (.iload_n 1, 1) := by decide +kernel
theorem d_MM_answer_1 : decode b_MM_answer 1 = .ok (.ifCond .lt 11, 3) := by decide +kernel
theorem d_MM_answer_4 : decode b_MM_answer 4 = .ok (.iload_n 1, 1) := by decide +kernel
theorem d_MM_answer_5 : decode b_MM_answer 5 = .ok (.aload_n 0, 1) := by decide +kernel
theorem d_MM_answer_6 : decode b_MM_answer 6 = .ok (.getfield 90, 3) := by decide +kernel
theorem d_MM_answer_9 : decode b_MM_answer 9 = .ok (.if_icmp .lt 9, 3) := by decide +kernel
theorem d_MM_answer_12 : decode b_MM_answer 12 = .ok (.ldc2_w 106, 3) := by decide +kernel
theorem d_MM_answer_15 : decode b_MM_answer 15 = .ok (.goto 9, 3) := by decide +kernel
theorem d_MM_answer_18 : decode b_MM_answer 18 = .ok (.aload_n 0, 1) := by decide +kernel
theorem d_MM_answer_19 : decode b_MM_answer 19 = .ok (.getfield 62, 3) := by decide +kernel
theorem d_MM_answer_22 : decode b_MM_answer 22 = .ok (.iload_n 1, 1) := by decide +kernel
theorem d_MM_answer_23 : decode b_MM_answer 23 = .ok (.laload, 1) := by decide +kernel
theorem d_MM_answer_24 : decode b_MM_answer 24 = .ok (.lreturn, 1) := by decide +kernel
theorem d_MM_about_0 : decode b_MM_about 0 = .ok (.iload_n 1, 1) := by decide +kernel
theorem d_MM_about_1 : decode b_MM_about 1 = .ok (.ifCond .lt 20, 3) := by decide +kernel
theorem d_MM_about_4 : decode b_MM_about 4 = .ok (.iload_n 1, 1) := by decide +kernel
theorem d_MM_about_5 : decode b_MM_about 5 = .ok (.aload_n 0, 1) := by decide +kernel
theorem d_MM_about_6 : decode b_MM_about 6 = .ok (.getfield 83, 3) := by decide +kernel
theorem d_MM_about_9 : decode b_MM_about 9 = .ok (.if_icmp .ge 12, 3) := by decide +kernel
theorem d_MM_about_12 : decode b_MM_about 12 = .ok (.iload_n 2, 1) := by decide +kernel
theorem d_MM_about_13 : decode b_MM_about 13 = .ok (.ifCond .lt 8, 3) := by decide +kernel
theorem d_MM_about_16 : decode b_MM_about 16 = .ok (.iload_n 2, 1) := by decide +kernel
theorem d_MM_about_17 : decode b_MM_about 17 = .ok (.iconst 2, 1) := by decide +kernel
theorem d_MM_about_18 : decode b_MM_about 18 = .ok (.if_icmp .le 5, 3) := by decide +kernel
theorem d_MM_about_21 : decode b_MM_about 21 = .ok (.iconst (-1), 1) := by decide +kernel
theorem d_MM_about_22 : decode b_MM_about 22 = .ok (.ireturn, 1) := by decide +kernel
theorem d_MM_about_23 : decode b_MM_about 23 = .ok (.iload_n 2, 1) := by decide +kernel
theorem d_MM_about_24 : decode b_MM_about 24 = .ok (.ifCond .ne 12, 3) := by decide +kernel
theorem d_MM_about_27 : decode b_MM_about 27 = .ok (.aload_n 0, 1) := by decide +kernel
theorem d_MM_about_28 : decode b_MM_about 28 = .ok (.getfield 38, 3) := by decide +kernel
theorem d_MM_about_31 : decode b_MM_about 31 = .ok (.iload_n 1, 1) := by decide +kernel
theorem d_MM_about_32 : decode b_MM_about 32 = .ok (.iaload, 1) := by decide +kernel
theorem d_MM_about_33 : decode b_MM_about 33 = .ok (.goto 34, 3) := by decide +kernel
theorem d_MM_about_36 : decode b_MM_about 36 = .ok (.iload_n 2, 1) := by decide +kernel
theorem d_MM_about_37 : decode b_MM_about 37 = .ok (.iconst 1, 1) := by decide +kernel
theorem d_MM_about_38 : decode b_MM_about 38 = .ok (.if_icmp .ne 15, 3) := by decide +kernel
theorem d_MM_about_41 : decode b_MM_about 41 = .ok (.aload_n 0, 1) := by decide +kernel
theorem d_MM_about_42 : decode b_MM_about 42 = .ok (.iload_n 1, 1) := by decide +kernel
theorem d_MM_about_43 : decode b_MM_about 43 = .ok (.aload_n 0, 1) := by decide +kernel
theorem d_MM_about_44 : decode b_MM_about 44 = .ok (.getfield 90, 3) := by decide +kernel
theorem d_MM_about_47 : decode b_MM_about 47 = .ok (.invokevirtual 96, 3) := by decide +kernel
theorem d_MM_about_50 : decode b_MM_about 50 = .ok (.goto 17, 3) := by decide +kernel
theorem d_MM_about_53 : decode b_MM_about 53 = .ok (.aload_n 0, 1) := by decide +kernel
theorem d_MM_about_54 : decode b_MM_about 54 = .ok (.getfield 22, 3) := by decide +kernel
theorem d_MM_about_57 : decode b_MM_about 57 = .ok (.iload_n 1, 1) := by decide +kernel
theorem d_MM_about_58 : decode b_MM_about 58 = .ok (.baload, 1) := by decide +kernel
theorem d_MM_about_59 : decode b_MM_about 59 = .ok (.ifCond .eq 7, 3) := by decide +kernel
theorem d_MM_about_62 : decode b_MM_about 62 = .ok (.iconst 1, 1) := by decide +kernel
theorem d_MM_about_63 : decode b_MM_about 63 = .ok (.goto 4, 3) := by decide +kernel
theorem d_MM_about_66 : decode b_MM_about 66 = .ok (.iconst 0, 1) := by decide +kernel
theorem d_MM_about_67 : decode b_MM_about 67 = .ok (.ireturn, 1) := by decide +kernel
theorem d_MM_count_0 : decode b_MM_count 0 = .ok (.iconst 0, 1) := by decide +kernel
theorem d_MM_count_1 : decode b_MM_count 1 = .ok (.istore_n 2, 1) := by decide +kernel
theorem d_MM_count_2 : decode b_MM_count 2 = .ok (.iload_n 1, 1) := by decide +kernel
theorem d_MM_count_3 : decode b_MM_count 3 = .ok (.tableswitch 126 0 5 #[37, 42, 42, 86, 91, 121], 37) := by decide +kernel
theorem d_MM_count_40 : decode b_MM_count 40 = .ok (.aload_n 0, 1) := by decide +kernel
theorem d_MM_count_41 : decode b_MM_count 41 = .ok (.getfield 90, 3) := by decide +kernel
theorem d_MM_count_44 : decode b_MM_count 44 = .ok (.ireturn, 1) := by decide +kernel
theorem d_MM_count_45 : decode b_MM_count 45 = .ok (.iconst 0, 1) := by decide +kernel
theorem d_MM_count_46 : decode b_MM_count 46 = .ok (.istore_n 3, 1) := by decide +kernel
theorem d_MM_count_47 : decode b_MM_count 47 = .ok (.iload_n 3, 1) := by decide +kernel
theorem d_MM_count_48 : decode b_MM_count 48 = .ok (.aload_n 0, 1) := by decide +kernel
theorem d_MM_count_49 : decode b_MM_count 49 = .ok (.getfield 90, 3) := by decide +kernel
theorem d_MM_count_52 : decode b_MM_count 52 = .ok (.if_icmp .ge 35, 3) := by decide +kernel
theorem d_MM_count_55 : decode b_MM_count 55 = .ok (.aload_n 0, 1) := by decide +kernel
theorem d_MM_count_56 : decode b_MM_count 56 = .ok (.getfield 66, 3) := by decide +kernel
theorem d_MM_count_59 : decode b_MM_count 59 = .ok (.iload_n 3, 1) := by decide +kernel
theorem d_MM_count_60 : decode b_MM_count 60 = .ok (.baload, 1) := by decide +kernel
theorem d_MM_count_61 : decode b_MM_count 61 = .ok (.ifCond .eq 20, 3) := by decide +kernel
theorem d_MM_count_64 : decode b_MM_count 64 = .ok (.iload_n 1, 1) := by decide +kernel
theorem d_MM_count_65 : decode b_MM_count 65 = .ok (.iconst 1, 1) := by decide +kernel
theorem d_MM_count_66 : decode b_MM_count 66 = .ok (.if_icmp .eq 12, 3) := by decide +kernel
theorem d_MM_count_69 : decode b_MM_count 69 = .ok (.aload_n 0, 1) := by decide +kernel
theorem d_MM_count_70 : decode b_MM_count 70 = .ok (.getfield 69, 3) := by decide +kernel
theorem d_MM_count_73 : decode b_MM_count 73 = .ok (.iload_n 3, 1) := by decide +kernel
theorem d_MM_count_74 : decode b_MM_count 74 = .ok (.baload, 1) := by decide +kernel
theorem d_MM_count_75 : decode b_MM_count 75 = .ok (.ifCond .eq 6, 3) := by decide +kernel
theorem d_MM_count_78 : decode b_MM_count 78 = .ok (.iinc 2 1, 3) := by decide +kernel
theorem d_MM_count_81 : decode b_MM_count 81 = .ok (.iinc 3 1, 3) := by decide +kernel
theorem d_MM_count_84 : decode b_MM_count 84 = .ok (.goto (-37), 3) := by decide +kernel
theorem d_MM_count_87 : decode b_MM_count 87 = .ok (.iload_n 2, 1) := by decide +kernel
theorem d_MM_count_88 : decode b_MM_count 88 = .ok (.ireturn, 1) := by decide +kernel
theorem d_MM_count_89 : decode b_MM_count 89 = .ok (.aload_n 0, 1) := by decide +kernel
theorem d_MM_count_90 : decode b_MM_count 90 = .ok (.getfield 83, 3) := by decide +kernel
theorem d_MM_count_93 : decode b_MM_count 93 = .ok (.ireturn, 1) := by decide +kernel
theorem d_MM_count_94 : decode b_MM_count 94 = .ok (.iconst 0, 1) := by decide +kernel
theorem d_MM_count_95 : decode b_MM_count 95 = .ok (.istore_n 3, 1) := by decide +kernel
theorem d_MM_count_96 : decode b_MM_count 96 = .ok (.iload_n 3, 1) := by decide +kernel
theorem d_MM_count_97 : decode b_MM_count 97 = .ok (.aload_n 0, 1) := by decide +kernel
theorem d_MM_count_98 : decode b_MM_count 98 = .ok (.getfield 83, 3) := by decide +kernel
theorem d_MM_count_101 : decode b_MM_count 101 = .ok (.if_icmp .ge 21, 3) := by decide +kernel
theorem d_MM_count_104 : decode b_MM_count 104 = .ok (.aload_n 0, 1) := by decide +kernel
theorem d_MM_count_105 : decode b_MM_count 105 = .ok (.getfield 22, 3) := by decide +kernel
theorem d_MM_count_108 : decode b_MM_count 108 = .ok (.iload_n 3, 1) := by decide +kernel
theorem d_MM_count_109 : decode b_MM_count 109 = .ok (.baload, 1) := by decide +kernel
theorem d_MM_count_110 : decode b_MM_count 110 = .ok (.ifCond .eq 6, 3) := by decide +kernel
theorem d_MM_count_113 : decode b_MM_count 113 = .ok (.iinc 2 1, 3) := by decide +kernel
theorem d_MM_count_116 : decode b_MM_count 116 = .ok (.iinc 3 1, 3) := by decide +kernel
theorem d_MM_count_119 : decode b_MM_count 119 = .ok (.goto (-23), 3) := by decide +kernel
theorem d_MM_count_122 : decode b_MM_count 122 = .ok (.iload_n 2, 1) := by decide +kernel
theorem d_MM_count_123 : decode b_MM_count 123 = .ok (.ireturn, 1) := by decide +kernel
theorem d_MM_count_124 : decode b_MM_count 124 = .ok (.aload_n 0, 1) := by decide +kernel
theorem d_MM_count_125 : decode b_MM_count 125 = .ok (.getfield 76, 3) := by decide +kernel
theorem d_MM_count_128 : decode b_MM_count 128 = .ok (.ireturn, 1) := by decide +kernel
theorem d_MM_count_129 : decode b_MM_count 129 = .ok (.iconst (-1), 1) := by decide +kernel
theorem d_MM_count_130 : decode b_MM_count 130 = .ok (.ireturn, 1) := by decide +kernel
