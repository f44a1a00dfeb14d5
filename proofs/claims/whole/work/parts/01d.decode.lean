theorem dX5_init_0 : decode cX5_init 0 = .ok (.aload_n 0, 1) := by decide +kernel
theorem dX5_init_1 : decode cX5_init 1 = .ok (.invokespecial 1, 3) := by decide +kernel
theorem dX5_init_4 : decode cX5_init 4 = .ok (.aload_n 0, 1) := by decide +kernel
theorem dX5_init_5 : decode cX5_init 5 = .ok (.sipush 200, 3) := by decide +kernel
theorem dX5_init_8 : decode cX5_init 8 = .ok (.newarray .int, 2) := by decide +kernel
theorem dX5_init_10 : decode cX5_init 10 = .ok (.putfield 7, 3) := by decide +kernel
theorem dX5_init_13 : decode cX5_init 13 = .ok (.aload_n 0, 1) := by decide +kernel
theorem dX5_init_14 : decode cX5_init 14 = .ok (.iconst 4, 1) := by decide +kernel
theorem dX5_init_15 : decode cX5_init 15 = .ok (.newarray .int, 2) := by decide +kernel
theorem dX5_init_17 : decode cX5_init 17 = .ok (.putfield 13, 3) := by decide +kernel
theorem dX5_init_20 : decode cX5_init 20 = .ok (.aload_n 0, 1) := by decide +kernel
theorem dX5_init_21 : decode cX5_init 21 = .ok (.bipush 6, 2) := by decide +kernel
theorem dX5_init_23 : decode cX5_init 23 = .ok (.newarray .int, 2) := by decide +kernel
theorem dX5_init_25 : decode cX5_init 25 = .ok (.putfield 16, 3) := by decide +kernel
theorem dX5_init_28 : decode cX5_init 28 = .ok (.aload_n 0, 1) := by decide +kernel
theorem dX5_init_29 : decode cX5_init 29 = .ok (.bipush 6, 2) := by decide +kernel
theorem dX5_init_31 : decode cX5_init 31 = .ok (.newarray .int, 2) := by decide +kernel
theorem dX5_init_33 : decode cX5_init 33 = .ok (.putfield 19, 3) := by decide +kernel
theorem dX5_init_36 : decode cX5_init 36 = .ok (.aload_n 0, 1) := by decide +kernel
theorem dX5_init_37 : decode cX5_init 37 = .ok (.bipush 12, 2) := by decide +kernel
theorem dX5_init_39 : decode cX5_init 39 = .ok (.newarray .int, 2) := by decide +kernel
theorem dX5_init_41 : decode cX5_init 41 = .ok (.putfield 22, 3) := by decide +kernel
theorem dX5_init_44 : decode cX5_init 44 = .ok (.aload_n 0, 1) := by decide +kernel
theorem dX5_init_45 : decode cX5_init 45 = .ok (.bipush 12, 2) := by decide +kernel
theorem dX5_init_47 : decode cX5_init 47 = .ok (.newarray .int, 2) := by decide +kernel
theorem dX5_init_49 : decode cX5_init 49 = .ok (.putfield 25, 3) := by decide +kernel
theorem dX5_init_52 : decode cX5_init 52 = .ok (.aload_n 0, 1) := by decide +kernel
theorem dX5_init_53 : decode cX5_init 53 = .ok (.bipush 12, 2) := by decide +kernel
theorem dX5_init_55 : decode cX5_init 55 = .ok (.newarray .int, 2) := by decide +kernel
theorem dX5_init_57 : decode cX5_init 57 = .ok (.putfield 28, 3) := by decide +kernel
theorem dX5_init_60 : decode cX5_init 60 = .ok (.aload_n 0, 1) := by decide +kernel
theorem dX5_init_61 : decode cX5_init 61 = .ok (.bipush 36, 2) := by decide +kernel
theorem dX5_init_63 : decode cX5_init 63 = .ok (.newarray .int, 2) := by decide +kernel
theorem dX5_init_65 : decode cX5_init 65 = .ok (.putfield 31, 3) := by decide +kernel
theorem dX5_init_68 : decode cX5_init 68 = .ok (.aload_n 0, 1) := by decide +kernel
theorem dX5_init_69 : decode cX5_init 69 = .ok (.bipush 32, 2) := by decide +kernel
theorem dX5_init_71 : decode cX5_init 71 = .ok (.newarray .int, 2) := by decide +kernel
theorem dX5_init_73 : decode cX5_init 73 = .ok (.putfield 34, 3) := by decide +kernel
theorem dX5_init_76 : decode cX5_init 76 = .ok (.aload_n 0, 1) := by decide +kernel
theorem dX5_init_77 : decode cX5_init 77 = .ok (.bipush 32, 2) := by decide +kernel
theorem dX5_init_79 : decode cX5_init 79 = .ok (.newarray .int, 2) := by decide +kernel
theorem dX5_init_81 : decode cX5_init 81 = .ok (.putfield 37, 3) := by decide +kernel
theorem dX5_init_84 : decode cX5_init 84 = .ok (.aload_n 0, 1) := by decide +kernel
theorem dX5_init_85 : decode cX5_init 85 = .ok (.bipush 64, 2) := by decide +kernel
theorem dX5_init_87 : decode cX5_init 87 = .ok (.newarray .int, 2) := by decide +kernel
theorem dX5_init_89 : decode cX5_init 89 = .ok (.putfield 40, 3) := by decide +kernel
theorem dX5_init_92 : decode cX5_init 92 = .ok (.aload_n 0, 1) := by decide +kernel
theorem dX5_init_93 : decode cX5_init 93 = .ok (.iconst 2, 1) := by decide +kernel
theorem dX5_init_94 : decode cX5_init 94 = .ok (.newarray .boolean, 2) := by decide +kernel
theorem dX5_init_96 : decode cX5_init 96 = .ok (.putfield 43, 3) := by decide +kernel
theorem dX5_init_99 : decode cX5_init 99 = .ok (.aload_n 0, 1) := by decide +kernel
theorem dX5_init_100 : decode cX5_init 100 = .ok (.sipush 320, 3) := by decide +kernel
theorem dX5_init_103 : decode cX5_init 103 = .ok (.newarray .int, 2) := by decide +kernel
theorem dX5_init_105 : decode cX5_init 105 = .ok (.putfield 47, 3) := by decide +kernel
theorem dX5_init_108 : decode cX5_init 108 = .ok (.aload_n 0, 1) := by decide +kernel
theorem dX5_init_109 : decode cX5_init 109 = .ok (.iconst 5, 1) := by decide +kernel
theorem dX5_init_110 : decode cX5_init 110 = .ok (.newarray .int, 2) := by decide +kernel
theorem dX5_init_112 : decode cX5_init 112 = .ok (.putfield 50, 3) := by decide +kernel
theorem dX5_init_115 : decode cX5_init 115 = .ok (.aload_n 0, 1) := by decide +kernel
theorem dX5_init_116 : decode cX5_init 116 = .ok (.iconst 5, 1) := by decide +kernel
theorem dX5_init_117 : decode cX5_init 117 = .ok (.newarray .int, 2) := by decide +kernel
theorem dX5_init_119 : decode cX5_init 119 = .ok (.putfield 53, 3) := by decide +kernel
theorem dX5_init_122 : decode cX5_init 122 = .ok (.aload_n 0, 1) := by decide +kernel
theorem dX5_init_123 : decode cX5_init 123 = .ok (.bipush 6, 2) := by decide +kernel
theorem dX5_init_125 : decode cX5_init 125 = .ok (.newarray .int, 2) := by decide +kernel
theorem dX5_init_127 : decode cX5_init 127 = .ok (.putfield 56, 3) := by decide +kernel
theorem dX5_init_130 : decode cX5_init 130 = .ok (.aload_n 0, 1) := by decide +kernel
theorem dX5_init_131 : decode cX5_init 131 = .ok (.bipush 6, 2) := by decide +kernel
theorem dX5_init_133 : decode cX5_init 133 = .ok (.newarray .int, 2) := by decide +kernel
theorem dX5_init_135 : decode cX5_init 135 = .ok (.putfield 59, 3) := by decide +kernel
theorem dX5_init_138 : decode cX5_init 138 = .ok (.return_, 1) := by decide +kernel
theorem dX5_in_0 : decode cX5_in 0 = .ok (.iload_n 0, 1) := by decide +kernel
theorem dX5_in_1 : decode cX5_in 1 = .ok (.iload_n 1, 1) := by decide +kernel
theorem dX5_in_2 : decode cX5_in 2 = .ok (.if_icmp .lt 12, 3) := by decide +kernel
theorem dX5_in_5 : decode cX5_in 5 = .ok (.iload_n 0, 1) := by decide +kernel
theorem dX5_in_6 : decode cX5_in 6 = .ok (.iload_n 2, 1) := by decide +kernel
theorem dX5_in_7 : decode cX5_in 7 = .ok (.if_icmp .gt 7, 3) := by decide +kernel
theorem dX5_in_10 : decode cX5_in 10 = .ok (.iconst 1, 1) := by decide +kernel
theorem dX5_in_11 : decode cX5_in 11 = .ok (.goto 4, 3) := by decide +kernel
theorem dX5_in_14 : decode cX5_in 14 = .ok (.iconst 0, 1) := by decide +kernel
theorem dX5_in_15 : decode cX5_in 15 = .ok (.ireturn, 1) := by decide +kernel
theorem dX5_type_0 : decode cX5_type 0 = .ok (.aload_n 0, 1) := by decide +kernel
theorem dX5_type_1 : decode cX5_type 1 = .ok (.iconst 0, 1) := by decide +kernel
theorem dX5_type_2 : decode cX5_type 2 = .ok (.putfield 62, 3) := by decide +kernel
theorem dX5_type_5 : decode cX5_type 5 = .ok (.iload_n 1, 1) := by decide +kernel
theorem dX5_type_6 : decode cX5_type 6 = .ok (.iconst 0, 1) := by decide +kernel
theorem dX5_type_7 : decode cX5_type 7 = .ok (.sipush 255, 3) := by decide +kernel
theorem dX5_type_10 : decode cX5_type 10 = .ok (.invokestatic 66, 3) := by decide +kernel
theorem dX5_type_13 : decode cX5_type 13 = .ok (.ifCond .ne 5, 3) := by decide +kernel
theorem dX5_type_16 : decode cX5_type 16 = .ok (.iconst (-1), 1) := by decide +kernel
theorem dX5_type_17 : decode cX5_type 17 = .ok (.ireturn, 1) := by decide +kernel
theorem dX5_type_18 : decode cX5_type 18 = .ok (.aload_n 0, 1) := by decide +kernel
theorem dX5_type_19 : decode cX5_type 19 = .ok (.getfield 70, 3) := by decide +kernel
theorem dX5_type_22 : decode cX5_type 22 = .ok (.sipush 200, 3) := by decide +kernel
theorem dX5_type_25 : decode cX5_type 25 = .ok (.if_icmp .ne 6, 3) := by decide +kernel
theorem dX5_type_28 : decode cX5_type 28 = .ok (.bipush (-3), 2) := by decide +kernel
theorem dX5_type_30 : decode cX5_type 30 = .ok (.ireturn, 1) := by decide +kernel
theorem dX5_type_31 : decode cX5_type 31 = .ok (.aload_n 0, 1) := by decide +kernel
theorem dX5_type_32 : decode cX5_type 32 = .ok (.getfield 7, 3) := by decide +kernel
theorem dX5_type_35 : decode cX5_type 35 = .ok (.aload_n 0, 1) := by decide +kernel
theorem dX5_type_36 : decode cX5_type 36 = .ok (.getfield 70, 3) := by decide +kernel
theorem dX5_type_39 : decode cX5_type 39 = .ok (.iload_n 1, 1) := by decide +kernel
theorem dX5_type_40 : decode cX5_type 40 = .ok (.iastore, 1) := by decide +kernel
theorem dX5_type_41 : decode cX5_type 41 = .ok (.aload_n 0, 1) := by decide +kernel
theorem dX5_type_42 : decode cX5_type 42 = .ok (.dup, 1) := by decide +kernel
theorem dX5_type_43 : decode cX5_type 43 = .ok (.getfield 70, 3) := by decide +kernel
theorem dX5_type_46 : decode cX5_type 46 = .ok (.iconst 1, 1) := by decide +kernel
theorem dX5_type_47 : decode cX5_type 47 = .ok (.iadd, 1) := by decide +kernel
theorem dX5_type_48 : decode cX5_type 48 = .ok (.putfield 70, 3) := by decide +kernel
theorem dX5_type_51 : decode cX5_type 51 = .ok (.aload_n 0, 1) := by decide +kernel
theorem dX5_type_52 : decode cX5_type 52 = .ok (.getfield 70, 3) := by decide +kernel
theorem dX5_type_55 : decode cX5_type 55 = .ok (.ireturn, 1) := by decide +kernel
theorem dX5_clear_0 : decode cX5_clear 0 = .ok (.aload_n 0, 1) := by decide +kernel
theorem dX5_clear_1 : decode cX5_clear 1 = .ok (.iconst 0, 1) := by decide +kernel
theorem dX5_clear_2 : decode cX5_clear 2 = .ok (.putfield 62, 3) := by decide +kernel
theorem dX5_clear_5 : decode cX5_clear 5 = .ok (.aload_n 0, 1) := by decide +kernel
theorem dX5_clear_6 : decode cX5_clear 6 = .ok (.getfield 70, 3) := by decide +kernel
theorem dX5_clear_9 : decode cX5_clear 9 = .ok (.istore_n 1, 1) := by decide +kernel
theorem dX5_clear_10 : decode cX5_clear 10 = .ok (.aload_n 0, 1) := by decide +kernel
theorem dX5_clear_11 : decode cX5_clear 11 = .ok (.iconst 0, 1) := by decide +kernel
theorem dX5_clear_12 : decode cX5_clear 12 = .ok (.putfield 70, 3) := by decide +kernel
theorem dX5_clear_15 : decode cX5_clear 15 = .ok (.iload_n 1, 1) := by decide +kernel
theorem dX5_clear_16 : decode cX5_clear 16 = .ok (.ireturn, 1) := by decide +kernel
theorem dX5_letterAt_0 : decode cX5_letterAt 0 = .ok (.iload_n 1, 1) := by decide +kernel
theorem dX5_letterAt_1 : decode cX5_letterAt 1 = .ok (.aload_n 0, 1) := by decide +kernel
theorem dX5_letterAt_2 : decode cX5_letterAt 2 = .ok (.getfield 70, 3) := by decide +kernel
theorem dX5_letterAt_5 : decode cX5_letterAt 5 = .ok (.if_icmp .ge 12, 3) := by decide +kernel
theorem dX5_letterAt_8 : decode cX5_letterAt 8 = .ok (.aload_n 0, 1) := by decide +kernel
theorem dX5_letterAt_9 : decode cX5_letterAt 9 = .ok (.getfield 7, 3) := by decide +kernel
theorem dX5_letterAt_12 : decode cX5_letterAt 12 = .ok (.iload_n 1, 1) := by decide +kernel
theorem dX5_letterAt_13 : decode cX5_letterAt 13 = .ok (.iaload, 1) := by decide +kernel
theorem dX5_letterAt_14 : decode cX5_letterAt 14 = .ok (.goto 4, 3) := by decide +kernel
theorem dX5_letterAt_17 : decode cX5_letterAt 17 = .ok (.iconst (-1), 1) := by decide +kernel
theorem dX5_letterAt_18 : decode cX5_letterAt 18 = .ok (.ireturn, 1) := by decide +kernel
theorem dX5_advances_0 : decode cX5_advances 0 = .ok (.aload_n 0, 1) := by decide +kernel
theorem dX5_advances_1 : decode cX5_advances 1 = .ok (.aload_n 0, 1) := by decide +kernel
theorem dX5_advances_2 : decode cX5_advances 2 = .ok (.getfield 73, 3) := by decide +kernel
theorem dX5_advances_5 : decode cX5_advances 5 = .ok (.invokevirtual 76, 3) := by decide +kernel
theorem dX5_advances_8 : decode cX5_advances 8 = .ok (.bipush 32, 2) := by decide +kernel
theorem dX5_advances_10 : decode cX5_advances 10 = .ok (.if_icmp .ne 16, 3) := by decide +kernel
theorem dX5_advances_13 : decode cX5_advances 13 = .ok (.aload_n 0, 1) := by decide +kernel
theorem dX5_advances_14 : decode cX5_advances 14 = .ok (.dup, 1) := by decide +kernel
theorem dX5_advances_15 : decode cX5_advances 15 = .ok (.getfield 73, 3) := by decide +kernel
theorem dX5_advances_18 : decode cX5_advances 18 = .ok (.iconst 1, 1) := by decide +kernel
theorem dX5_advances_19 : decode cX5_advances 19 = .ok (.iadd, 1) := by decide +kernel
theorem dX5_advances_20 : decode cX5_advances 20 = .ok (.putfield 73, 3) := by decide +kernel
theorem dX5_advances_23 : decode cX5_advances 23 = .ok (.goto (-23), 3) := by decide +kernel
theorem dX5_advances_26 : decode cX5_advances 26 = .ok (.aload_n 0, 1) := by decide +kernel
theorem dX5_advances_27 : decode cX5_advances 27 = .ok (.aload_n 0, 1) := by decide +kernel
theorem dX5_advances_28 : decode cX5_advances 28 = .ok (.getfield 73, 3) := by decide +kernel
theorem dX5_advances_31 : decode cX5_advances 31 = .ok (.putfield 80, 3) := by decide +kernel
theorem dX5_advances_34 : decode cX5_advances 34 = .ok (.aload_n 0, 1) := by decide +kernel
theorem dX5_advances_35 : decode cX5_advances 35 = .ok (.aload_n 0, 1) := by decide +kernel
theorem dX5_advances_36 : decode cX5_advances 36 = .ok (.getfield 73, 3) := by decide +kernel
theorem dX5_advances_39 : decode cX5_advances 39 = .ok (.invokevirtual 76, 3) := by decide +kernel
theorem dX5_advances_42 : decode cX5_advances 42 = .ok (.istore_n 1, 1) := by decide +kernel
theorem dX5_advances_43 : decode cX5_advances 43 = .ok (.iload_n 1, 1) := by decide +kernel
theorem dX5_advances_44 : decode cX5_advances 44 = .ok (.ifCond .ge 11, 3) := by decide +kernel
theorem dX5_advances_47 : decode cX5_advances 47 = .ok (.aload_n 0, 1) := by decide +kernel
theorem dX5_advances_48 : decode cX5_advances 48 = .ok (.iconst 0, 1) := by decide +kernel
theorem dX5_advances_49 : decode cX5_advances 49 = .ok (.putfield 83, 3) := by decide +kernel
theorem dX5_advances_52 : decode cX5_advances 52 = .ok (.goto 175, 3) := by decide +kernel
theorem dX5_advances_55 : decode cX5_advances 55 = .ok (.iload_n 1, 1) := by decide +kernel
theorem dX5_advances_56 : decode cX5_advances 56 = .ok (.bipush 48, 2) := by decide +kernel
theorem dX5_advances_58 : decode cX5_advances 58 = .ok (.bipush 57, 2) := by decide +kernel
theorem dX5_advances_60 : decode cX5_advances 60 = .ok (.invokestatic 66, 3) := by decide +kernel
theorem dX5_advances_63 : decode cX5_advances 63 = .ok (.ifCond .eq 118, 3) := by decide +kernel
theorem dX5_advances_66 : decode cX5_advances 66 = .ok (.aload_n 0, 1) := by decide +kernel
theorem dX5_advances_67 : decode cX5_advances 67 = .ok (.iconst 0, 1) := by decide +kernel
theorem dX5_advances_68 : decode cX5_advances 68 = .ok (.putfield 86, 3) := by decide +kernel
theorem dX5_advances_71 : decode cX5_advances 71 = .ok (.aload_n 0, 1) := by decide +kernel
theorem dX5_advances_72 : decode cX5_advances 72 = .ok (.aload_n 0, 1) := by decide +kernel
theorem dX5_advances_73 : decode cX5_advances 73 = .ok (.getfield 73, 3) := by decide +kernel
theorem dX5_advances_76 : decode cX5_advances 76 = .ok (.invokevirtual 76, 3) := by decide +kernel
theorem dX5_advances_79 : decode cX5_advances 79 = .ok (.bipush 48, 2) := by decide +kernel
theorem dX5_advances_81 : decode cX5_advances 81 = .ok (.bipush 57, 2) := by decide +kernel
theorem dX5_advances_83 : decode cX5_advances 83 = .ok (.invokestatic 66, 3) := by decide +kernel
theorem dX5_advances_86 : decode cX5_advances 86 = .ok (.ifCond .eq 55, 3) := by decide +kernel
theorem dX5_advances_89 : decode cX5_advances 89 = .ok (.aload_n 0, 1) := by decide +kernel
theorem dX5_advances_90 : decode cX5_advances 90 = .ok (.aload_n 0, 1) := by decide +kernel
theorem dX5_advances_91 : decode cX5_advances 91 = .ok (.getfield 86, 3) := by decide +kernel
theorem dX5_advances_94 : decode cX5_advances 94 = .ok (.bipush 99, 2) := by decide +kernel
theorem dX5_advances_96 : decode cX5_advances 96 = .ok (.if_icmp .le 10, 3) := by decide +kernel
theorem dX5_advances_99 : decode cX5_advances 99 = .ok (.aload_n 0, 1) := by decide +kernel
theorem dX5_advances_100 : decode cX5_advances 100 = .ok (.getfield 86, 3) := by decide +kernel
theorem dX5_advances_103 : decode cX5_advances 103 = .ok (.goto 22, 3) := by decide +kernel
theorem dX5_advances_106 : decode cX5_advances 106 = .ok (.bipush 10, 2) := by decide +kernel
theorem dX5_advances_108 : decode cX5_advances 108 = .ok (.aload_n 0, 1) := by decide +kernel
theorem dX5_advances_109 : decode cX5_advances 109 = .ok (.getfield 86, 3) := by decide +kernel
theorem dX5_advances_112 : decode cX5_advances 112 = .ok (.imul, 1) := by decide +kernel
theorem dX5_advances_113 : decode cX5_advances 113 = .ok (.aload_n 0, 1) := by decide +kernel
theorem dX5_advances_114 : decode cX5_advances 114 = .ok (.aload_n 0, 1) := by decide +kernel
theorem dX5_advances_115 : decode cX5_advances 115 = .ok (.getfield 73, 3) := by decide +kernel
theorem dX5_advances_118 : decode cX5_advances 118 = .ok (.invokevirtual 76, 3) := by decide +kernel
theorem dX5_advances_121 : decode cX5_advances 121 = .ok (.iadd, 1) := by decide +kernel
theorem dX5_advances_122 : decode cX5_advances 122 = .ok (.bipush 48, 2) := by decide +kernel
theorem dX5_advances_124 : decode cX5_advances 124 = .ok (.isub, 1) := by decide +kernel
theorem dX5_advances_125 : decode cX5_advances 125 = .ok (.putfield 86, 3) := by decide +kernel
theorem dX5_advances_128 : decode cX5_advances 128 = .ok (.aload_n 0, 1) := by decide +kernel
theorem dX5_advances_129 : decode cX5_advances 129 = .ok (.dup, 1) := by decide +kernel
theorem dX5_advances_130 : decode cX5_advances 130 = .ok (.getfield 73, 3) := by decide +kernel
theorem dX5_advances_133 : decode cX5_advances 133 = .ok (.iconst 1, 1) := by decide +kernel
theorem dX5_advances_134 : decode cX5_advances 134 = .ok (.iadd, 1) := by decide +kernel
theorem dX5_advances_135 : decode cX5_advances 135 = .ok (.putfield 73, 3) := by decide +kernel
theorem dX5_advances_138 : decode cX5_advances 138 = .ok (.goto (-67), 3) := by decide +kernel
theorem dX5_advances_141 : decode cX5_advances 141 = .ok (.aload_n 0, 1) := by decide +kernel
theorem dX5_advances_142 : decode cX5_advances 142 = .ok (.aload_n 0, 1) := by decide +kernel
theorem dX5_advances_143 : decode cX5_advances 143 = .ok (.getfield 86, 3) := by decide +kernel
theorem dX5_advances_146 : decode cX5_advances 146 = .ok (.bipush 99, 2) := by decide +kernel
theorem dX5_advances_148 : decode cX5_advances 148 = .ok (.if_icmp .gt 22, 3) := by decide +kernel
theorem dX5_advances_151 : decode cX5_advances 151 = .ok (.iload_n 1, 1) := by decide +kernel
theorem dX5_advances_152 : decode cX5_advances 152 = .ok (.bipush 48, 2) := by decide +kernel
theorem dX5_advances_154 : decode cX5_advances 154 = .ok (.if_icmp .ne 20, 3) := by decide +kernel
theorem dX5_advances_157 : decode cX5_advances 157 = .ok (.aload_n 0, 1) := by decide +kernel
theorem dX5_advances_158 : decode cX5_advances 158 = .ok (.getfield 73, 3) := by decide +kernel
theorem dX5_advances_161 : decode cX5_advances 161 = .ok (.aload_n 0, 1) := by decide +kernel
theorem dX5_advances_162 : decode cX5_advances 162 = .ok (.getfield 80, 3) := by decide +kernel
theorem dX5_advances_165 : decode cX5_advances 165 = .ok (.isub, 1) := by decide +kernel
theorem dX5_advances_166 : decode cX5_advances 166 = .ok (.iconst 1, 1) := by decide +kernel
theorem dX5_advances_167 : decode cX5_advances 167 = .ok (.if_icmp .le 7, 3) := by decide +kernel
theorem dX5_advances_170 : decode cX5_advances 170 = .ok (.iconst 4, 1) := by decide +kernel
theorem dX5_advances_171 : decode cX5_advances 171 = .ok (.goto 4, 3) := by decide +kernel
theorem dX5_advances_174 : decode cX5_advances 174 = .ok (.iconst 2, 1) := by decide +kernel
theorem dX5_advances_175 : decode cX5_advances 175 = .ok (.putfield 83, 3) := by decide +kernel
theorem dX5_advances_178 : decode cX5_advances 178 = .ok (.goto 49, 3) := by decide +kernel
theorem dX5_advances_181 : decode cX5_advances 181 = .ok (.aload_n 0, 1) := by decide +kernel
theorem dX5_advances_182 : decode cX5_advances 182 = .ok (.dup, 1) := by decide +kernel
theorem dX5_advances_183 : decode cX5_advances 183 = .ok (.getfield 73, 3) := by decide +kernel
theorem dX5_advances_186 : decode cX5_advances 186 = .ok (.iconst 1, 1) := by decide +kernel
theorem dX5_advances_187 : decode cX5_advances 187 = .ok (.iadd, 1) := by decide +kernel
theorem dX5_advances_188 : decode cX5_advances 188 = .ok (.putfield 73, 3) := by decide +kernel
theorem dX5_advances_191 : decode cX5_advances 191 = .ok (.aload_n 0, 1) := by decide +kernel
theorem dX5_advances_192 : decode cX5_advances 192 = .ok (.iload_n 1, 1) := by decide +kernel
theorem dX5_advances_193 : decode cX5_advances 193 = .ok (.putfield 86, 3) := by decide +kernel
theorem dX5_advances_196 : decode cX5_advances 196 = .ok (.aload_n 0, 1) := by decide +kernel
theorem dX5_advances_197 : decode cX5_advances 197 = .ok (.iload_n 1, 1) := by decide +kernel
theorem dX5_advances_198 : decode cX5_advances 198 = .ok (.bipush 59, 2) := by decide +kernel
theorem dX5_advances_200 : decode cX5_advances 200 = .ok (.if_icmp .ne 7, 3) := by decide +kernel
theorem dX5_advances_203 : decode cX5_advances 203 = .ok (.iconst 3, 1) := by decide +kernel
theorem dX5_advances_204 : decode cX5_advances 204 = .ok (.goto 20, 3) := by decide +kernel
theorem dX5_advances_207 : decode cX5_advances 207 = .ok (.iload_n 1, 1) := by decide +kernel
theorem dX5_advances_208 : decode cX5_advances 208 = .ok (.bipush 99, 2) := by decide +kernel
theorem dX5_advances_210 : decode cX5_advances 210 = .ok (.if_icmp .eq 9, 3) := by decide +kernel
theorem dX5_advances_213 : decode cX5_advances 213 = .ok (.iload_n 1, 1) := by decide +kernel
theorem dX5_advances_214 : decode cX5_advances 214 = .ok (.bipush 109, 2) := by decide +kernel
theorem dX5_advances_216 : decode cX5_advances 216 = .ok (.if_icmp .ne 7, 3) := by decide +kernel
theorem dX5_advances_219 : decode cX5_advances 219 = .ok (.iconst 1, 1) := by decide +kernel
theorem dX5_advances_220 : decode cX5_advances 220 = .ok (.goto 4, 3) := by decide +kernel
theorem dX5_advances_223 : decode cX5_advances 223 = .ok (.iconst 4, 1) := by decide +kernel
theorem dX5_advances_224 : decode cX5_advances 224 = .ok (.putfield 83, 3) := by decide +kernel
theorem dX5_advances_227 : decode cX5_advances 227 = .ok (.return_, 1) := by decide +kernel
theorem dX5_isWell_0 : decode cX5_isWell 0 = .ok (.aload_n 0, 1) := by decide +kernel
theorem dX5_isWell_1 : decode cX5_isWell 1 = .ok (.getfield 89, 3) := by decide +kernel
theorem dX5_isWell_4 : decode cX5_isWell 4 = .ok (.ifCond .ge 7, 3) := by decide +kernel
theorem dX5_isWell_7 : decode cX5_isWell 7 = .ok (.iconst 1, 1) := by decide +kernel
theorem dX5_isWell_8 : decode cX5_isWell 8 = .ok (.goto 4, 3) := by decide +kernel
theorem dX5_isWell_11 : decode cX5_isWell 11 = .ok (.iconst 0, 1) := by decide +kernel
theorem dX5_isWell_12 : decode cX5_isWell 12 = .ok (.ireturn, 1) := by decide +kernel
theorem dX5_takesToken_0 : decode cX5_takesToken 0 = .ok (.aload_n 0, 1) := by decide +kernel
theorem dX5_takesToken_1 : decode cX5_takesToken 1 = .ok (.invokevirtual 92, 3) := by decide +kernel
theorem dX5_takesToken_4 : decode cX5_takesToken 4 = .ok (.ifCond .ne 5, 3) := by decide +kernel
theorem dX5_takesToken_7 : decode cX5_takesToken 7 = .ok (.iconst 0, 1) := by decide +kernel
theorem dX5_takesToken_8 : decode cX5_takesToken 8 = .ok (.ireturn, 1) := by decide +kernel
theorem dX5_takesToken_9 : decode cX5_takesToken 9 = .ok (.iload_n 1, 1) := by decide +kernel
theorem dX5_takesToken_10 : decode cX5_takesToken 10 = .ok (.ifCond .ne 13, 3) := by decide +kernel
theorem dX5_takesToken_13 : decode cX5_takesToken 13 = .ok (.aload_n 0, 1) := by decide +kernel
theorem dX5_takesToken_14 : decode cX5_takesToken 14 = .ok (.aload_n 0, 1) := by decide +kernel
theorem dX5_takesToken_15 : decode cX5_takesToken 15 = .ok (.getfield 80, 3) := by decide +kernel
theorem dX5_takesToken_18 : decode cX5_takesToken 18 = .ok (.putfield 89, 3) := by decide +kernel
theorem dX5_takesToken_21 : decode cX5_takesToken 21 = .ok (.iconst 0, 1) := by decide +kernel
theorem dX5_takesToken_22 : decode cX5_takesToken 22 = .ok (.ireturn, 1) := by decide +kernel
theorem dX5_takesToken_23 : decode cX5_takesToken 23 = .ok (.aload_n 0, 1) := by decide +kernel
theorem dX5_takesToken_24 : decode cX5_takesToken 24 = .ok (.getfield 86, 3) := by decide +kernel
theorem dX5_takesToken_27 : decode cX5_takesToken 27 = .ok (.istore_n 2, 1) := by decide +kernel
theorem dX5_takesToken_28 : decode cX5_takesToken 28 = .ok (.aload_n 0, 1) := by decide +kernel
theorem dX5_takesToken_29 : decode cX5_takesToken 29 = .ok (.invokevirtual 96, 3) := by decide +kernel
theorem dX5_takesToken_32 : decode cX5_takesToken 32 = .ok (.iload_n 2, 1) := by decide +kernel
theorem dX5_takesToken_33 : decode cX5_takesToken 33 = .ok (.ireturn, 1) := by decide +kernel
theorem dX5_number_0 : decode cX5_number 0 = .ok (.aload_n 0, 1) := by decide +kernel
theorem dX5_number_1 : decode cX5_number 1 = .ok (.aload_n 0, 1) := by decide +kernel
theorem dX5_number_2 : decode cX5_number 2 = .ok (.getfield 83, 3) := by decide +kernel
theorem dX5_number_5 : decode cX5_number 5 = .ok (.iconst 2, 1) := by decide +kernel
theorem dX5_number_6 : decode cX5_number 6 = .ok (.if_icmp .ne 19, 3) := by decide +kernel
theorem dX5_number_9 : decode cX5_number 9 = .ok (.aload_n 0, 1) := by decide +kernel
theorem dX5_number_10 : decode cX5_number 10 = .ok (.getfield 86, 3) := by decide +kernel
theorem dX5_number_13 : decode cX5_number 13 = .ok (.iload_n 1, 1) := by decide +kernel
theorem dX5_number_14 : decode cX5_number 14 = .ok (.iload_n 2, 1) := by decide +kernel
theorem dX5_number_15 : decode cX5_number 15 = .ok (.invokestatic 66, 3) := by decide +kernel
theorem dX5_number_18 : decode cX5_number 18 = .ok (.ifCond .eq 7, 3) := by decide +kernel
theorem dX5_number_21 : decode cX5_number 21 = .ok (.iconst 1, 1) := by decide +kernel
theorem dX5_number_22 : decode cX5_number 22 = .ok (.goto 4, 3) := by decide +kernel
theorem dX5_number_25 : decode cX5_number 25 = .ok (.iconst 0, 1) := by decide +kernel
theorem dX5_number_26 : decode cX5_number 26 = .ok (.invokevirtual 99, 3) := by decide +kernel
theorem dX5_number_29 : decode cX5_number 29 = .ok (.ireturn, 1) := by decide +kernel
theorem dX5_readsItem_0 : decode cX5_readsItem 0 = .ok (.iload_n 1, 1) := by decide +kernel
theorem dX5_readsItem_1 : decode cX5_readsItem 1 = .ok (.bipush 99, 2) := by decide +kernel
theorem dX5_readsItem_3 : decode cX5_readsItem 3 = .ok (.if_icmp .ne 56, 3) := by decide +kernel
theorem dX5_readsItem_6 : decode cX5_readsItem 6 = .ok (.aload_n 0, 1) := by decide +kernel
theorem dX5_readsItem_7 : decode cX5_readsItem 7 = .ok (.getfield 16, 3) := by decide +kernel
theorem dX5_readsItem_10 : decode cX5_readsItem 10 = .ok (.iconst 3, 1) := by decide +kernel
theorem dX5_readsItem_11 : decode cX5_readsItem 11 = .ok (.aload_n 0, 1) := by decide +kernel
theorem dX5_readsItem_12 : decode cX5_readsItem 12 = .ok (.getfield 13, 3) := by decide +kernel
theorem dX5_readsItem_15 : decode cX5_readsItem 15 = .ok (.iconst 2, 1) := by decide +kernel
theorem dX5_readsItem_16 : decode cX5_readsItem 16 = .ok (.iaload, 1) := by decide +kernel
theorem dX5_readsItem_17 : decode cX5_readsItem 17 = .ok (.iadd, 1) := by decide +kernel
theorem dX5_readsItem_18 : decode cX5_readsItem 18 = .ok (.aload_n 0, 1) := by decide +kernel
theorem dX5_readsItem_19 : decode cX5_readsItem 19 = .ok (.iconst 1, 1) := by decide +kernel
theorem dX5_readsItem_20 : decode cX5_readsItem 20 = .ok (.bipush 9, 2) := by decide +kernel
theorem dX5_readsItem_22 : decode cX5_readsItem 22 = .ok (.invokevirtual 103, 3) := by decide +kernel
theorem dX5_readsItem_25 : decode cX5_readsItem 25 = .ok (.iastore, 1) := by decide +kernel
theorem dX5_readsItem_26 : decode cX5_readsItem 26 = .ok (.aload_n 0, 1) := by decide +kernel
theorem dX5_readsItem_27 : decode cX5_readsItem 27 = .ok (.getfield 19, 3) := by decide +kernel
theorem dX5_readsItem_30 : decode cX5_readsItem 30 = .ok (.iconst 3, 1) := by decide +kernel
theorem dX5_readsItem_31 : decode cX5_readsItem 31 = .ok (.aload_n 0, 1) := by decide +kernel
theorem dX5_readsItem_32 : decode cX5_readsItem 32 = .ok (.getfield 13, 3) := by decide +kernel
theorem dX5_readsItem_35 : decode cX5_readsItem 35 = .ok (.iconst 2, 1) := by decide +kernel
theorem dX5_readsItem_36 : decode cX5_readsItem 36 = .ok (.iaload, 1) := by decide +kernel
theorem dX5_readsItem_37 : decode cX5_readsItem 37 = .ok (.iadd, 1) := by decide +kernel
theorem dX5_readsItem_38 : decode cX5_readsItem 38 = .ok (.aload_n 0, 1) := by decide +kernel
theorem dX5_readsItem_39 : decode cX5_readsItem 39 = .ok (.iconst 1, 1) := by decide +kernel
theorem dX5_readsItem_40 : decode cX5_readsItem 40 = .ok (.bipush 9, 2) := by decide +kernel
theorem dX5_readsItem_42 : decode cX5_readsItem 42 = .ok (.invokevirtual 103, 3) := by decide +kernel
theorem dX5_readsItem_45 : decode cX5_readsItem 45 = .ok (.iastore, 1) := by decide +kernel
theorem dX5_readsItem_46 : decode cX5_readsItem 46 = .ok (.aload_n 0, 1) := by decide +kernel
theorem dX5_readsItem_47 : decode cX5_readsItem 47 = .ok (.getfield 13, 3) := by decide +kernel
theorem dX5_readsItem_50 : decode cX5_readsItem 50 = .ok (.iconst 2, 1) := by decide +kernel
theorem dX5_readsItem_51 : decode cX5_readsItem 51 = .ok (.dup2, 1) := by decide +kernel
theorem dX5_readsItem_52 : decode cX5_readsItem 52 = .ok (.iaload, 1) := by decide +kernel
theorem dX5_readsItem_53 : decode cX5_readsItem 53 = .ok (.iconst 1, 1) := by decide +kernel
theorem dX5_readsItem_54 : decode cX5_readsItem 54 = .ok (.iadd, 1) := by decide +kernel
theorem dX5_readsItem_55 : decode cX5_readsItem 55 = .ok (.iastore, 1) := by decide +kernel
theorem dX5_readsItem_56 : decode cX5_readsItem 56 = .ok (.goto 97, 3) := by decide +kernel
theorem dX5_readsItem_59 : decode cX5_readsItem 59 = .ok (.bipush 6, 2) := by decide +kernel
theorem dX5_readsItem_61 : decode cX5_readsItem 61 = .ok (.aload_n 0, 1) := by decide +kernel
theorem dX5_readsItem_62 : decode cX5_readsItem 62 = .ok (.getfield 13, 3) := by decide +kernel
theorem dX5_readsItem_65 : decode cX5_readsItem 65 = .ok (.iconst 3, 1) := by decide +kernel
theorem dX5_readsItem_66 : decode cX5_readsItem 66 = .ok (.iaload, 1) := by decide +kernel
theorem dX5_readsItem_67 : decode cX5_readsItem 67 = .ok (.iadd, 1) := by decide +kernel
theorem dX5_readsItem_68 : decode cX5_readsItem 68 = .ok (.istore_n 2, 1) := by decide +kernel
theorem dX5_readsItem_69 : decode cX5_readsItem 69 = .ok (.aload_n 0, 1) := by decide +kernel
theorem dX5_readsItem_70 : decode cX5_readsItem 70 = .ok (.getfield 22, 3) := by decide +kernel
theorem dX5_readsItem_73 : decode cX5_readsItem 73 = .ok (.iload_n 2, 1) := by decide +kernel
theorem dX5_readsItem_74 : decode cX5_readsItem 74 = .ok (.aload_n 0, 1) := by decide +kernel
theorem dX5_readsItem_75 : decode cX5_readsItem 75 = .ok (.iconst 1, 1) := by decide +kernel
theorem dX5_readsItem_76 : decode cX5_readsItem 76 = .ok (.bipush 20, 2) := by decide +kernel
theorem dX5_readsItem_78 : decode cX5_readsItem 78 = .ok (.invokevirtual 103, 3) := by decide +kernel
theorem dX5_readsItem_81 : decode cX5_readsItem 81 = .ok (.iastore, 1) := by decide +kernel
theorem dX5_readsItem_82 : decode cX5_readsItem 82 = .ok (.aload_n 0, 1) := by decide +kernel
theorem dX5_readsItem_83 : decode cX5_readsItem 83 = .ok (.getfield 25, 3) := by decide +kernel
theorem dX5_readsItem_86 : decode cX5_readsItem 86 = .ok (.iload_n 2, 1) := by decide +kernel
theorem dX5_readsItem_87 : decode cX5_readsItem 87 = .ok (.aload_n 0, 1) := by decide +kernel
theorem dX5_readsItem_88 : decode cX5_readsItem 88 = .ok (.iconst 0, 1) := by decide +kernel
theorem dX5_readsItem_89 : decode cX5_readsItem 89 = .ok (.bipush 9, 2) := by decide +kernel
theorem dX5_readsItem_91 : decode cX5_readsItem 91 = .ok (.invokevirtual 103, 3) := by decide +kernel
theorem dX5_readsItem_94 : decode cX5_readsItem 94 = .ok (.iastore, 1) := by decide +kernel
theorem dX5_readsItem_95 : decode cX5_readsItem 95 = .ok (.aload_n 0, 1) := by decide +kernel
theorem dX5_readsItem_96 : decode cX5_readsItem 96 = .ok (.getfield 28, 3) := by decide +kernel
theorem dX5_readsItem_99 : decode cX5_readsItem 99 = .ok (.iload_n 2, 1) := by decide +kernel
theorem dX5_readsItem_100 : decode cX5_readsItem 100 = .ok (.aload_n 0, 1) := by decide +kernel
theorem dX5_readsItem_101 : decode cX5_readsItem 101 = .ok (.iconst 0, 1) := by decide +kernel
theorem dX5_readsItem_102 : decode cX5_readsItem 102 = .ok (.bipush 99, 2) := by decide +kernel
theorem dX5_readsItem_104 : decode cX5_readsItem 104 = .ok (.invokevirtual 103, 3) := by decide +kernel
theorem dX5_readsItem_107 : decode cX5_readsItem 107 = .ok (.iastore, 1) := by decide +kernel
theorem dX5_readsItem_108 : decode cX5_readsItem 108 = .ok (.iconst 0, 1) := by decide +kernel
theorem dX5_readsItem_109 : decode cX5_readsItem 109 = .ok (.istore_n 3, 1) := by decide +kernel
theorem dX5_readsItem_110 : decode cX5_readsItem 110 = .ok (.iload_n 3, 1) := by decide +kernel
theorem dX5_readsItem_111 : decode cX5_readsItem 111 = .ok (.aload_n 0, 1) := by decide +kernel
theorem dX5_readsItem_112 : decode cX5_readsItem 112 = .ok (.getfield 13, 3) := by decide +kernel
theorem dX5_readsItem_115 : decode cX5_readsItem 115 = .ok (.iconst 2, 1) := by decide +kernel
theorem dX5_readsItem_116 : decode cX5_readsItem 116 = .ok (.iaload, 1) := by decide +kernel
theorem dX5_readsItem_117 : decode cX5_readsItem 117 = .ok (.if_icmp .ge 26, 3) := by decide +kernel
theorem dX5_readsItem_120 : decode cX5_readsItem 120 = .ok (.aload_n 0, 1) := by decide +kernel
theorem dX5_readsItem_121 : decode cX5_readsItem 121 = .ok (.getfield 31, 3) := by decide +kernel
theorem dX5_readsItem_124 : decode cX5_readsItem 124 = .ok (.iconst 3, 1) := by decide +kernel
theorem dX5_readsItem_125 : decode cX5_readsItem 125 = .ok (.iload_n 2, 1) := by decide +kernel
theorem dX5_readsItem_126 : decode cX5_readsItem 126 = .ok (.imul, 1) := by decide +kernel
theorem dX5_readsItem_127 : decode cX5_readsItem 127 = .ok (.iload_n 3, 1) := by decide +kernel
theorem dX5_readsItem_128 : decode cX5_readsItem 128 = .ok (.iadd, 1) := by decide +kernel
theorem dX5_readsItem_129 : decode cX5_readsItem 129 = .ok (.aload_n 0, 1) := by decide +kernel
theorem dX5_readsItem_130 : decode cX5_readsItem 130 = .ok (.iconst 0, 1) := by decide +kernel
theorem dX5_readsItem_131 : decode cX5_readsItem 131 = .ok (.bipush 40, 2) := by decide +kernel
theorem dX5_readsItem_133 : decode cX5_readsItem 133 = .ok (.invokevirtual 103, 3) := by decide +kernel
theorem dX5_readsItem_136 : decode cX5_readsItem 136 = .ok (.iastore, 1) := by decide +kernel
theorem dX5_readsItem_137 : decode cX5_readsItem 137 = .ok (.iinc 3 1, 3) := by decide +kernel
theorem dX5_readsItem_140 : decode cX5_readsItem 140 = .ok (.goto (-30), 3) := by decide +kernel
theorem dX5_readsItem_143 : decode cX5_readsItem 143 = .ok (.aload_n 0, 1) := by decide +kernel
theorem dX5_readsItem_144 : decode cX5_readsItem 144 = .ok (.getfield 13, 3) := by decide +kernel
theorem dX5_readsItem_147 : decode cX5_readsItem 147 = .ok (.iconst 3, 1) := by decide +kernel
theorem dX5_readsItem_148 : decode cX5_readsItem 148 = .ok (.dup2, 1) := by decide +kernel
theorem dX5_readsItem_149 : decode cX5_readsItem 149 = .ok (.iaload, 1) := by decide +kernel
theorem dX5_readsItem_150 : decode cX5_readsItem 150 = .ok (.iconst 1, 1) := by decide +kernel
theorem dX5_readsItem_151 : decode cX5_readsItem 151 = .ok (.iadd, 1) := by decide +kernel
theorem dX5_readsItem_152 : decode cX5_readsItem 152 = .ok (.iastore, 1) := by decide +kernel
theorem dX5_readsItem_153 : decode cX5_readsItem 153 = .ok (.return_, 1) := by decide +kernel
theorem dX5_valley_0 : decode cX5_valley 0 = .ok (.aload_n 0, 1) := by decide +kernel
theorem dX5_valley_1 : decode cX5_valley 1 = .ok (.iconst 0, 1) := by decide +kernel
theorem dX5_valley_2 : decode cX5_valley 2 = .ok (.putfield 62, 3) := by decide +kernel
theorem dX5_valley_5 : decode cX5_valley 5 = .ok (.aload_n 0, 1) := by decide +kernel
theorem dX5_valley_6 : decode cX5_valley 6 = .ok (.iconst (-1), 1) := by decide +kernel
theorem dX5_valley_7 : decode cX5_valley 7 = .ok (.putfield 89, 3) := by decide +kernel
theorem dX5_valley_10 : decode cX5_valley 10 = .ok (.aload_n 0, 1) := by decide +kernel
theorem dX5_valley_11 : decode cX5_valley 11 = .ok (.iconst 0, 1) := by decide +kernel
theorem dX5_valley_12 : decode cX5_valley 12 = .ok (.putfield 73, 3) := by decide +kernel
theorem dX5_valley_15 : decode cX5_valley 15 = .ok (.iconst 0, 1) := by decide +kernel
theorem dX5_valley_16 : decode cX5_valley 16 = .ok (.istore_n 1, 1) := by decide +kernel
theorem dX5_valley_17 : decode cX5_valley 17 = .ok (.aload_n 0, 1) := by decide +kernel
theorem dX5_valley_18 : decode cX5_valley 18 = .ok (.getfield 13, 3) := by decide +kernel
theorem dX5_valley_21 : decode cX5_valley 21 = .ok (.iconst 2, 1) := by decide +kernel
theorem dX5_valley_22 : decode cX5_valley 22 = .ok (.iconst 0, 1) := by decide +kernel
theorem dX5_valley_23 : decode cX5_valley 23 = .ok (.iastore, 1) := by decide +kernel
theorem dX5_valley_24 : decode cX5_valley 24 = .ok (.aload_n 0, 1) := by decide +kernel
theorem dX5_valley_25 : decode cX5_valley 25 = .ok (.getfield 13, 3) := by decide +kernel
theorem dX5_valley_28 : decode cX5_valley 28 = .ok (.iconst 3, 1) := by decide +kernel
theorem dX5_valley_29 : decode cX5_valley 29 = .ok (.iconst 0, 1) := by decide +kernel
theorem dX5_valley_30 : decode cX5_valley 30 = .ok (.iastore, 1) := by decide +kernel
theorem dX5_valley_31 : decode cX5_valley 31 = .ok (.aload_n 0, 1) := by decide +kernel
theorem dX5_valley_32 : decode cX5_valley 32 = .ok (.invokevirtual 96, 3) := by decide +kernel
theorem dX5_valley_35 : decode cX5_valley 35 = .ok (.aload_n 0, 1) := by decide +kernel
theorem dX5_valley_36 : decode cX5_valley 36 = .ok (.invokevirtual 92, 3) := by decide +kernel
theorem dX5_valley_39 : decode cX5_valley 39 = .ok (.ifCond .eq 115, 3) := by decide +kernel
theorem dX5_valley_42 : decode cX5_valley 42 = .ok (.aload_n 0, 1) := by decide +kernel
theorem dX5_valley_43 : decode cX5_valley 43 = .ok (.getfield 83, 3) := by decide +kernel
theorem dX5_valley_46 : decode cX5_valley 46 = .ok (.ifCond .eq 108, 3) := by decide +kernel
theorem dX5_valley_49 : decode cX5_valley 49 = .ok (.aload_n 0, 1) := by decide +kernel
theorem dX5_valley_50 : decode cX5_valley 50 = .ok (.aload_n 0, 1) := by decide +kernel
theorem dX5_valley_51 : decode cX5_valley 51 = .ok (.getfield 83, 3) := by decide +kernel
theorem dX5_valley_54 : decode cX5_valley 54 = .ok (.iconst 1, 1) := by decide +kernel
theorem dX5_valley_55 : decode cX5_valley 55 = .ok (.if_icmp .ne 58, 3) := by decide +kernel
theorem dX5_valley_58 : decode cX5_valley 58 = .ok (.aload_n 0, 1) := by decide +kernel
theorem dX5_valley_59 : decode cX5_valley 59 = .ok (.getfield 86, 3) := by decide +kernel
theorem dX5_valley_62 : decode cX5_valley 62 = .ok (.bipush 99, 2) := by decide +kernel
theorem dX5_valley_64 : decode cX5_valley 64 = .ok (.if_icmp .ne 25, 3) := by decide +kernel
theorem dX5_valley_67 : decode cX5_valley 67 = .ok (.aload_n 0, 1) := by decide +kernel
theorem dX5_valley_68 : decode cX5_valley 68 = .ok (.getfield 13, 3) := by decide +kernel
theorem dX5_valley_71 : decode cX5_valley 71 = .ok (.iconst 2, 1) := by decide +kernel
theorem dX5_valley_72 : decode cX5_valley 72 = .ok (.iaload, 1) := by decide +kernel
theorem dX5_valley_73 : decode cX5_valley 73 = .ok (.iconst 3, 1) := by decide +kernel
theorem dX5_valley_74 : decode cX5_valley 74 = .ok (.if_icmp .ge 39, 3) := by decide +kernel
theorem dX5_valley_77 : decode cX5_valley 77 = .ok (.aload_n 0, 1) := by decide +kernel
theorem dX5_valley_78 : decode cX5_valley 78 = .ok (.getfield 13, 3) := by decide +kernel
theorem dX5_valley_81 : decode cX5_valley 81 = .ok (.iconst 3, 1) := by decide +kernel
theorem dX5_valley_82 : decode cX5_valley 82 = .ok (.iaload, 1) := by decide +kernel
theorem dX5_valley_83 : decode cX5_valley 83 = .ok (.ifCond .ne 30, 3) := by decide +kernel
theorem dX5_valley_86 : decode cX5_valley 86 = .ok (.goto 23, 3) := by decide +kernel
theorem dX5_valley_89 : decode cX5_valley 89 = .ok (.aload_n 0, 1) := by decide +kernel
theorem dX5_valley_90 : decode cX5_valley 90 = .ok (.getfield 13, 3) := by decide +kernel
theorem dX5_valley_93 : decode cX5_valley 93 = .ok (.iconst 2, 1) := by decide +kernel
theorem dX5_valley_94 : decode cX5_valley 94 = .ok (.iaload, 1) := by decide +kernel
theorem dX5_valley_95 : decode cX5_valley 95 = .ok (.ifCond .le 18, 3) := by decide +kernel
theorem dX5_valley_98 : decode cX5_valley 98 = .ok (.aload_n 0, 1) := by decide +kernel
theorem dX5_valley_99 : decode cX5_valley 99 = .ok (.getfield 13, 3) := by decide +kernel
theorem dX5_valley_102 : decode cX5_valley 102 = .ok (.iconst 3, 1) := by decide +kernel
theorem dX5_valley_103 : decode cX5_valley 103 = .ok (.iaload, 1) := by decide +kernel
theorem dX5_valley_104 : decode cX5_valley 104 = .ok (.bipush 6, 2) := by decide +kernel
theorem dX5_valley_106 : decode cX5_valley 106 = .ok (.if_icmp .ge 7, 3) := by decide +kernel
theorem dX5_valley_109 : decode cX5_valley 109 = .ok (.iconst 1, 1) := by decide +kernel
theorem dX5_valley_110 : decode cX5_valley 110 = .ok (.goto 4, 3) := by decide +kernel
theorem dX5_valley_113 : decode cX5_valley 113 = .ok (.iconst 0, 1) := by decide +kernel
theorem dX5_valley_114 : decode cX5_valley 114 = .ok (.invokevirtual 99, 3) := by decide +kernel
theorem dX5_valley_117 : decode cX5_valley 117 = .ok (.istore_n 2, 1) := by decide +kernel
theorem dX5_valley_118 : decode cX5_valley 118 = .ok (.aload_n 0, 1) := by decide +kernel
theorem dX5_valley_119 : decode cX5_valley 119 = .ok (.invokevirtual 92, 3) := by decide +kernel
theorem dX5_valley_122 : decode cX5_valley 122 = .ok (.ifCond .eq 8, 3) := by decide +kernel
theorem dX5_valley_125 : decode cX5_valley 125 = .ok (.aload_n 0, 1) := by decide +kernel
theorem dX5_valley_126 : decode cX5_valley 126 = .ok (.iload_n 2, 1) := by decide +kernel
theorem dX5_valley_127 : decode cX5_valley 127 = .ok (.invokevirtual 107, 3) := by decide +kernel
theorem dX5_valley_130 : decode cX5_valley 130 = .ok (.aload_n 0, 1) := by decide +kernel
theorem dX5_valley_131 : decode cX5_valley 131 = .ok (.aload_n 0, 1) := by decide +kernel
theorem dX5_valley_132 : decode cX5_valley 132 = .ok (.getfield 83, 3) := by decide +kernel
theorem dX5_valley_135 : decode cX5_valley 135 = .ok (.iconst 3, 1) := by decide +kernel
theorem dX5_valley_136 : decode cX5_valley 136 = .ok (.if_icmp .ne 7, 3) := by decide +kernel
theorem dX5_valley_139 : decode cX5_valley 139 = .ok (.iconst 1, 1) := by decide +kernel
theorem dX5_valley_140 : decode cX5_valley 140 = .ok (.goto 4, 3) := by decide +kernel
theorem dX5_valley_143 : decode cX5_valley 143 = .ok (.iconst 0, 1) := by decide +kernel
theorem dX5_valley_144 : decode cX5_valley 144 = .ok (.invokevirtual 99, 3) := by decide +kernel
theorem dX5_valley_147 : decode cX5_valley 147 = .ok (.pop, 1) := by decide +kernel
theorem dX5_valley_148 : decode cX5_valley 148 = .ok (.iinc 1 1, 3) := by decide +kernel
theorem dX5_valley_151 : decode cX5_valley 151 = .ok (.goto (-116), 3) := by decide +kernel
theorem dX5_valley_154 : decode cX5_valley 154 = .ok (.aload_n 0, 1) := by decide +kernel
theorem dX5_valley_155 : decode cX5_valley 155 = .ok (.invokevirtual 92, 3) := by decide +kernel
theorem dX5_valley_158 : decode cX5_valley 158 = .ok (.ifCond .ne 11, 3) := by decide +kernel
theorem dX5_valley_161 : decode cX5_valley 161 = .ok (.bipush (-10), 2) := by decide +kernel
theorem dX5_valley_163 : decode cX5_valley 163 = .ok (.aload_n 0, 1) := by decide +kernel
theorem dX5_valley_164 : decode cX5_valley 164 = .ok (.getfield 89, 3) := by decide +kernel
theorem dX5_valley_167 : decode cX5_valley 167 = .ok (.isub, 1) := by decide +kernel
theorem dX5_valley_168 : decode cX5_valley 168 = .ok (.ireturn, 1) := by decide +kernel
theorem dX5_valley_169 : decode cX5_valley 169 = .ok (.aload_n 0, 1) := by decide +kernel
theorem dX5_valley_170 : decode cX5_valley 170 = .ok (.invokevirtual 111, 3) := by decide +kernel
theorem dX5_valley_173 : decode cX5_valley 173 = .ok (.iload_n 1, 1) := by decide +kernel
theorem dX5_valley_174 : decode cX5_valley 174 = .ok (.ireturn, 1) := by decide +kernel
theorem dX5_settles_0 : decode cX5_settles 0 = .ok (.aload_n 0, 1) := by decide +kernel
theorem dX5_settles_1 : decode cX5_settles 1 = .ok (.getfield 13, 3) := by decide +kernel
theorem dX5_settles_4 : decode cX5_settles 4 = .ok (.iconst 0, 1) := by decide +kernel
theorem dX5_settles_5 : decode cX5_settles 5 = .ok (.aload_n 0, 1) := by decide +kernel
theorem dX5_settles_6 : decode cX5_settles 6 = .ok (.getfield 13, 3) := by decide +kernel
theorem dX5_settles_9 : decode cX5_settles 9 = .ok (.iconst 2, 1) := by decide +kernel
theorem dX5_settles_10 : decode cX5_settles 10 = .ok (.iaload, 1) := by decide +kernel
theorem dX5_settles_11 : decode cX5_settles 11 = .ok (.iastore, 1) := by decide +kernel
theorem dX5_settles_12 : decode cX5_settles 12 = .ok (.aload_n 0, 1) := by decide +kernel
theorem dX5_settles_13 : decode cX5_settles 13 = .ok (.getfield 13, 3) := by decide +kernel
theorem dX5_settles_16 : decode cX5_settles 16 = .ok (.iconst 1, 1) := by decide +kernel
theorem dX5_settles_17 : decode cX5_settles 17 = .ok (.aload_n 0, 1) := by decide +kernel
theorem dX5_settles_18 : decode cX5_settles 18 = .ok (.getfield 13, 3) := by decide +kernel
theorem dX5_settles_21 : decode cX5_settles 21 = .ok (.iconst 3, 1) := by decide +kernel
theorem dX5_settles_22 : decode cX5_settles 22 = .ok (.iaload, 1) := by decide +kernel
theorem dX5_settles_23 : decode cX5_settles 23 = .ok (.iastore, 1) := by decide +kernel
theorem dX5_settles_24 : decode cX5_settles 24 = .ok (.iconst 0, 1) := by decide +kernel
theorem dX5_settles_25 : decode cX5_settles 25 = .ok (.istore_n 1, 1) := by decide +kernel
theorem dX5_settles_26 : decode cX5_settles 26 = .ok (.iload_n 1, 1) := by decide +kernel
theorem dX5_settles_27 : decode cX5_settles 27 = .ok (.bipush 32, 2) := by decide +kernel
theorem dX5_settles_29 : decode cX5_settles 29 = .ok (.if_icmp .ge 16, 3) := by decide +kernel
theorem dX5_settles_32 : decode cX5_settles 32 = .ok (.aload_n 0, 1) := by decide +kernel
theorem dX5_settles_33 : decode cX5_settles 33 = .ok (.getfield 34, 3) := by decide +kernel
theorem dX5_settles_36 : decode cX5_settles 36 = .ok (.iload_n 1, 1) := by decide +kernel
theorem dX5_settles_37 : decode cX5_settles 37 = .ok (.iconst 0, 1) := by decide +kernel
theorem dX5_settles_38 : decode cX5_settles 38 = .ok (.iastore, 1) := by decide +kernel
theorem dX5_settles_39 : decode cX5_settles 39 = .ok (.iinc 1 1, 3) := by decide +kernel
theorem dX5_settles_42 : decode cX5_settles 42 = .ok (.goto (-16), 3) := by decide +kernel
theorem dX5_settles_45 : decode cX5_settles 45 = .ok (.iconst 0, 1) := by decide +kernel
theorem dX5_settles_46 : decode cX5_settles 46 = .ok (.istore_n 1, 1) := by decide +kernel
theorem dX5_settles_47 : decode cX5_settles 47 = .ok (.iload_n 1, 1) := by decide +kernel
theorem dX5_settles_48 : decode cX5_settles 48 = .ok (.iconst 3, 1) := by decide +kernel
theorem dX5_settles_49 : decode cX5_settles 49 = .ok (.if_icmp .ge 37, 3) := by decide +kernel
theorem dX5_settles_52 : decode cX5_settles 52 = .ok (.aload_n 0, 1) := by decide +kernel
theorem dX5_settles_53 : decode cX5_settles 53 = .ok (.getfield 16, 3) := by decide +kernel
theorem dX5_settles_56 : decode cX5_settles 56 = .ok (.iload_n 1, 1) := by decide +kernel
theorem dX5_settles_57 : decode cX5_settles 57 = .ok (.aload_n 0, 1) := by decide +kernel
theorem dX5_settles_58 : decode cX5_settles 58 = .ok (.getfield 16, 3) := by decide +kernel
theorem dX5_settles_61 : decode cX5_settles 61 = .ok (.iconst 3, 1) := by decide +kernel
theorem dX5_settles_62 : decode cX5_settles 62 = .ok (.iload_n 1, 1) := by decide +kernel
theorem dX5_settles_63 : decode cX5_settles 63 = .ok (.iadd, 1) := by decide +kernel
theorem dX5_settles_64 : decode cX5_settles 64 = .ok (.iaload, 1) := by decide +kernel
theorem dX5_settles_65 : decode cX5_settles 65 = .ok (.iastore, 1) := by decide +kernel
theorem dX5_settles_66 : decode cX5_settles 66 = .ok (.aload_n 0, 1) := by decide +kernel
theorem dX5_settles_67 : decode cX5_settles 67 = .ok (.getfield 19, 3) := by decide +kernel
theorem dX5_settles_70 : decode cX5_settles 70 = .ok (.iload_n 1, 1) := by decide +kernel
theorem dX5_settles_71 : decode cX5_settles 71 = .ok (.aload_n 0, 1) := by decide +kernel
theorem dX5_settles_72 : decode cX5_settles 72 = .ok (.getfield 19, 3) := by decide +kernel
theorem dX5_settles_75 : decode cX5_settles 75 = .ok (.iconst 3, 1) := by decide +kernel
theorem dX5_settles_76 : decode cX5_settles 76 = .ok (.iload_n 1, 1) := by decide +kernel
theorem dX5_settles_77 : decode cX5_settles 77 = .ok (.iadd, 1) := by decide +kernel
theorem dX5_settles_78 : decode cX5_settles 78 = .ok (.iaload, 1) := by decide +kernel
theorem dX5_settles_79 : decode cX5_settles 79 = .ok (.iastore, 1) := by decide +kernel
theorem dX5_settles_80 : decode cX5_settles 80 = .ok (.iinc 1 1, 3) := by decide +kernel
theorem dX5_settles_83 : decode cX5_settles 83 = .ok (.goto (-36), 3) := by decide +kernel
theorem dX5_settles_86 : decode cX5_settles 86 = .ok (.iconst 0, 1) := by decide +kernel
theorem dX5_settles_87 : decode cX5_settles 87 = .ok (.istore_n 1, 1) := by decide +kernel
theorem dX5_settles_88 : decode cX5_settles 88 = .ok (.iload_n 1, 1) := by decide +kernel
theorem dX5_settles_89 : decode cX5_settles 89 = .ok (.bipush 6, 2) := by decide +kernel
theorem dX5_settles_91 : decode cX5_settles 91 = .ok (.if_icmp .ge 106, 3) := by decide +kernel
theorem dX5_settles_94 : decode cX5_settles 94 = .ok (.aload_n 0, 1) := by decide +kernel
theorem dX5_settles_95 : decode cX5_settles 95 = .ok (.getfield 22, 3) := by decide +kernel
theorem dX5_settles_98 : decode cX5_settles 98 = .ok (.iload_n 1, 1) := by decide +kernel
theorem dX5_settles_99 : decode cX5_settles 99 = .ok (.aload_n 0, 1) := by decide +kernel
theorem dX5_settles_100 : decode cX5_settles 100 = .ok (.getfield 22, 3) := by decide +kernel
theorem dX5_settles_103 : decode cX5_settles 103 = .ok (.bipush 6, 2) := by decide +kernel
theorem dX5_settles_105 : decode cX5_settles 105 = .ok (.iload_n 1, 1) := by decide +kernel
theorem dX5_settles_106 : decode cX5_settles 106 = .ok (.iadd, 1) := by decide +kernel
theorem dX5_settles_107 : decode cX5_settles 107 = .ok (.iaload, 1) := by decide +kernel
theorem dX5_settles_108 : decode cX5_settles 108 = .ok (.iastore, 1) := by decide +kernel
theorem dX5_settles_109 : decode cX5_settles 109 = .ok (.aload_n 0, 1) := by decide +kernel
theorem dX5_settles_110 : decode cX5_settles 110 = .ok (.getfield 25, 3) := by decide +kernel
theorem dX5_settles_113 : decode cX5_settles 113 = .ok (.iload_n 1, 1) := by decide +kernel
theorem dX5_settles_114 : decode cX5_settles 114 = .ok (.aload_n 0, 1) := by decide +kernel
theorem dX5_settles_115 : decode cX5_settles 115 = .ok (.getfield 25, 3) := by decide +kernel
theorem dX5_settles_118 : decode cX5_settles 118 = .ok (.bipush 6, 2) := by decide +kernel
theorem dX5_settles_120 : decode cX5_settles 120 = .ok (.iload_n 1, 1) := by decide +kernel
theorem dX5_settles_121 : decode cX5_settles 121 = .ok (.iadd, 1) := by decide +kernel
theorem dX5_settles_122 : decode cX5_settles 122 = .ok (.iaload, 1) := by decide +kernel
theorem dX5_settles_123 : decode cX5_settles 123 = .ok (.iastore, 1) := by decide +kernel
theorem dX5_settles_124 : decode cX5_settles 124 = .ok (.aload_n 0, 1) := by decide +kernel
theorem dX5_settles_125 : decode cX5_settles 125 = .ok (.getfield 28, 3) := by decide +kernel
theorem dX5_settles_128 : decode cX5_settles 128 = .ok (.iload_n 1, 1) := by decide +kernel
theorem dX5_settles_129 : decode cX5_settles 129 = .ok (.aload_n 0, 1) := by decide +kernel
theorem dX5_settles_130 : decode cX5_settles 130 = .ok (.getfield 28, 3) := by decide +kernel
theorem dX5_settles_133 : decode cX5_settles 133 = .ok (.bipush 6, 2) := by decide +kernel
theorem dX5_settles_135 : decode cX5_settles 135 = .ok (.iload_n 1, 1) := by decide +kernel
theorem dX5_settles_136 : decode cX5_settles 136 = .ok (.iadd, 1) := by decide +kernel
theorem dX5_settles_137 : decode cX5_settles 137 = .ok (.iaload, 1) := by decide +kernel
theorem dX5_settles_138 : decode cX5_settles 138 = .ok (.iastore, 1) := by decide +kernel
theorem dX5_settles_139 : decode cX5_settles 139 = .ok (.iload_n 1, 1) := by decide +kernel
theorem dX5_settles_140 : decode cX5_settles 140 = .ok (.iconst 2, 1) := by decide +kernel
theorem dX5_settles_141 : decode cX5_settles 141 = .ok (.irem, 1) := by decide +kernel
theorem dX5_settles_142 : decode cX5_settles 142 = .ok (.ifCond .ne 9, 3) := by decide +kernel
theorem dX5_settles_145 : decode cX5_settles 145 = .ok (.iload_n 1, 1) := by decide +kernel
theorem dX5_settles_146 : decode cX5_settles 146 = .ok (.iconst 1, 1) := by decide +kernel
theorem dX5_settles_147 : decode cX5_settles 147 = .ok (.iadd, 1) := by decide +kernel
theorem dX5_settles_148 : decode cX5_settles 148 = .ok (.goto 6, 3) := by decide +kernel
theorem dX5_settles_151 : decode cX5_settles 151 = .ok (.iload_n 1, 1) := by decide +kernel
theorem dX5_settles_152 : decode cX5_settles 152 = .ok (.iconst 1, 1) := by decide +kernel
theorem dX5_settles_153 : decode cX5_settles 153 = .ok (.isub, 1) := by decide +kernel
theorem dX5_settles_154 : decode cX5_settles 154 = .ok (.istore_n 2, 1) := by decide +kernel
theorem dX5_settles_155 : decode cX5_settles 155 = .ok (.aload_n 0, 1) := by decide +kernel
theorem dX5_settles_156 : decode cX5_settles 156 = .ok (.getfield 34, 3) := by decide +kernel
theorem dX5_settles_159 : decode cX5_settles 159 = .ok (.bipush 6, 2) := by decide +kernel
theorem dX5_settles_161 : decode cX5_settles 161 = .ok (.iload_n 1, 1) := by decide +kernel
theorem dX5_settles_162 : decode cX5_settles 162 = .ok (.iadd, 1) := by decide +kernel
theorem dX5_settles_163 : decode cX5_settles 163 = .ok (.iload_n 1, 1) := by decide +kernel
theorem dX5_settles_164 : decode cX5_settles 164 = .ok (.aload_n 0, 1) := by decide +kernel
theorem dX5_settles_165 : decode cX5_settles 165 = .ok (.getfield 13, 3) := by decide +kernel
theorem dX5_settles_168 : decode cX5_settles 168 = .ok (.iconst 1, 1) := by decide +kernel
theorem dX5_settles_169 : decode cX5_settles 169 = .ok (.iaload, 1) := by decide +kernel
theorem dX5_settles_170 : decode cX5_settles 170 = .ok (.if_icmp .ge 19, 3) := by decide +kernel
theorem dX5_settles_173 : decode cX5_settles 173 = .ok (.iload_n 2, 1) := by decide +kernel
theorem dX5_settles_174 : decode cX5_settles 174 = .ok (.aload_n 0, 1) := by decide +kernel
theorem dX5_settles_175 : decode cX5_settles 175 = .ok (.getfield 13, 3) := by decide +kernel
theorem dX5_settles_178 : decode cX5_settles 178 = .ok (.iconst 1, 1) := by decide +kernel
theorem dX5_settles_179 : decode cX5_settles 179 = .ok (.iaload, 1) := by decide +kernel
theorem dX5_settles_180 : decode cX5_settles 180 = .ok (.if_icmp .ge 9, 3) := by decide +kernel
theorem dX5_settles_183 : decode cX5_settles 183 = .ok (.iload_n 2, 1) := by decide +kernel
theorem dX5_settles_184 : decode cX5_settles 184 = .ok (.iconst 1, 1) := by decide +kernel
theorem dX5_settles_185 : decode cX5_settles 185 = .ok (.iadd, 1) := by decide +kernel
theorem dX5_settles_186 : decode cX5_settles 186 = .ok (.goto 4, 3) := by decide +kernel
theorem dX5_settles_189 : decode cX5_settles 189 = .ok (.iconst 0, 1) := by decide +kernel
theorem dX5_settles_190 : decode cX5_settles 190 = .ok (.iastore, 1) := by decide +kernel
theorem dX5_settles_191 : decode cX5_settles 191 = .ok (.iinc 1 1, 3) := by decide +kernel
theorem dX5_settles_194 : decode cX5_settles 194 = .ok (.goto (-106), 3) := by decide +kernel
theorem dX5_settles_197 : decode cX5_settles 197 = .ok (.iconst 0, 1) := by decide +kernel
theorem dX5_settles_198 : decode cX5_settles 198 = .ok (.istore_n 1, 1) := by decide +kernel
theorem dX5_settles_199 : decode cX5_settles 199 = .ok (.iload_n 1, 1) := by decide +kernel
theorem dX5_settles_200 : decode cX5_settles 200 = .ok (.bipush 18, 2) := by decide +kernel
theorem dX5_settles_202 : decode cX5_settles 202 = .ok (.if_icmp .ge 24, 3) := by decide +kernel
theorem dX5_settles_205 : decode cX5_settles 205 = .ok (.aload_n 0, 1) := by decide +kernel
theorem dX5_settles_206 : decode cX5_settles 206 = .ok (.getfield 31, 3) := by decide +kernel
theorem dX5_settles_209 : decode cX5_settles 209 = .ok (.iload_n 1, 1) := by decide +kernel
theorem dX5_settles_210 : decode cX5_settles 210 = .ok (.aload_n 0, 1) := by decide +kernel
theorem dX5_settles_211 : decode cX5_settles 211 = .ok (.getfield 31, 3) := by decide +kernel
theorem dX5_settles_214 : decode cX5_settles 214 = .ok (.bipush 18, 2) := by decide +kernel
theorem dX5_settles_216 : decode cX5_settles 216 = .ok (.iload_n 1, 1) := by decide +kernel
theorem dX5_settles_217 : decode cX5_settles 217 = .ok (.iadd, 1) := by decide +kernel
theorem dX5_settles_218 : decode cX5_settles 218 = .ok (.iaload, 1) := by decide +kernel
theorem dX5_settles_219 : decode cX5_settles 219 = .ok (.iastore, 1) := by decide +kernel
theorem dX5_settles_220 : decode cX5_settles 220 = .ok (.iinc 1 1, 3) := by decide +kernel
theorem dX5_settles_223 : decode cX5_settles 223 = .ok (.goto (-24), 3) := by decide +kernel
theorem dX5_settles_226 : decode cX5_settles 226 = .ok (.aload_n 0, 1) := by decide +kernel
theorem dX5_settles_227 : decode cX5_settles 227 = .ok (.iconst 0, 1) := by decide +kernel
theorem dX5_settles_228 : decode cX5_settles 228 = .ok (.putfield 70, 3) := by decide +kernel
theorem dX5_settles_231 : decode cX5_settles 231 = .ok (.aload_n 0, 1) := by decide +kernel
theorem dX5_settles_232 : decode cX5_settles 232 = .ok (.iconst 0, 1) := by decide +kernel
theorem dX5_settles_233 : decode cX5_settles 233 = .ok (.putfield 114, 3) := by decide +kernel
theorem dX5_settles_236 : decode cX5_settles 236 = .ok (.aload_n 0, 1) := by decide +kernel
theorem dX5_settles_237 : decode cX5_settles 237 = .ok (.iconst 0, 1) := by decide +kernel
theorem dX5_settles_238 : decode cX5_settles 238 = .ok (.putfield 117, 3) := by decide +kernel
theorem dX5_settles_241 : decode cX5_settles 241 = .ok (.aload_n 0, 1) := by decide +kernel
theorem dX5_settles_242 : decode cX5_settles 242 = .ok (.getfield 43, 3) := by decide +kernel
theorem dX5_settles_245 : decode cX5_settles 245 = .ok (.iconst 0, 1) := by decide +kernel
theorem dX5_settles_246 : decode cX5_settles 246 = .ok (.iconst 0, 1) := by decide +kernel
theorem dX5_settles_247 : decode cX5_settles 247 = .ok (.bastore, 1) := by decide +kernel
theorem dX5_settles_248 : decode cX5_settles 248 = .ok (.aload_n 0, 1) := by decide +kernel
theorem dX5_settles_249 : decode cX5_settles 249 = .ok (.getfield 43, 3) := by decide +kernel
theorem dX5_settles_252 : decode cX5_settles 252 = .ok (.iconst 1, 1) := by decide +kernel
theorem dX5_settles_253 : decode cX5_settles 253 = .ok (.iconst 0, 1) := by decide +kernel
theorem dX5_settles_254 : decode cX5_settles 254 = .ok (.bastore, 1) := by decide +kernel
theorem dX5_settles_255 : decode cX5_settles 255 = .ok (.return_, 1) := by decide +kernel
theorem dX5_isMan_0 : decode cX5_isMan 0 = .ok (.iload_n 1, 1) := by decide +kernel
theorem dX5_isMan_1 : decode cX5_isMan 1 = .ok (.iconst 0, 1) := by decide +kernel
theorem dX5_isMan_2 : decode cX5_isMan 2 = .ok (.aload_n 0, 1) := by decide +kernel
theorem dX5_isMan_3 : decode cX5_isMan 3 = .ok (.getfield 13, 3) := by decide +kernel
theorem dX5_isMan_6 : decode cX5_isMan 6 = .ok (.iconst 1, 1) := by decide +kernel
theorem dX5_isMan_7 : decode cX5_isMan 7 = .ok (.iaload, 1) := by decide +kernel
theorem dX5_isMan_8 : decode cX5_isMan 8 = .ok (.iconst 1, 1) := by decide +kernel
theorem dX5_isMan_9 : decode cX5_isMan 9 = .ok (.isub, 1) := by decide +kernel
theorem dX5_isMan_10 : decode cX5_isMan 10 = .ok (.invokestatic 66, 3) := by decide +kernel
theorem dX5_isMan_13 : decode cX5_isMan 13 = .ok (.ireturn, 1) := by decide +kernel
theorem dX5_isCrop_0 : decode cX5_isCrop 0 = .ok (.iload_n 1, 1) := by decide +kernel
theorem dX5_isCrop_1 : decode cX5_isCrop 1 = .ok (.iconst 0, 1) := by decide +kernel
theorem dX5_isCrop_2 : decode cX5_isCrop 2 = .ok (.aload_n 0, 1) := by decide +kernel
theorem dX5_isCrop_3 : decode cX5_isCrop 3 = .ok (.getfield 13, 3) := by decide +kernel
theorem dX5_isCrop_6 : decode cX5_isCrop 6 = .ok (.iconst 0, 1) := by decide +kernel
theorem dX5_isCrop_7 : decode cX5_isCrop 7 = .ok (.iaload, 1) := by decide +kernel
theorem dX5_isCrop_8 : decode cX5_isCrop 8 = .ok (.iconst 1, 1) := by decide +kernel
theorem dX5_isCrop_9 : decode cX5_isCrop 9 = .ok (.isub, 1) := by decide +kernel
theorem dX5_isCrop_10 : decode cX5_isCrop 10 = .ok (.invokestatic 66, 3) := by decide +kernel
theorem dX5_isCrop_13 : decode cX5_isCrop 13 = .ok (.ireturn, 1) := by decide +kernel
theorem dX5_carriesBy_0 : decode cX5_carriesBy 0 = .ok (.aload_n 0, 1) := by decide +kernel
theorem dX5_carriesBy_1 : decode cX5_carriesBy 1 = .ok (.getfield 22, 3) := by decide +kernel
theorem dX5_carriesBy_4 : decode cX5_carriesBy 4 = .ok (.iload_n 2, 1) := by decide +kernel
theorem dX5_carriesBy_5 : decode cX5_carriesBy 5 = .ok (.iaload, 1) := by decide +kernel
theorem dX5_carriesBy_6 : decode cX5_carriesBy 6 = .ok (.iconst 3, 1) := by decide +kernel
theorem dX5_carriesBy_7 : decode cX5_carriesBy 7 = .ok (.aload_n 1, 1) := by decide +kernel
theorem dX5_carriesBy_8 : decode cX5_carriesBy 8 = .ok (.bipush 12, 2) := by decide +kernel
theorem dX5_carriesBy_10 : decode cX5_carriesBy 10 = .ok (.iload_n 2, 1) := by decide +kernel
theorem dX5_carriesBy_11 : decode cX5_carriesBy 11 = .ok (.iadd, 1) := by decide +kernel
theorem dX5_carriesBy_12 : decode cX5_carriesBy 12 = .ok (.iaload, 1) := by decide +kernel
theorem dX5_carriesBy_13 : decode cX5_carriesBy 13 = .ok (.imul, 1) := by decide +kernel
theorem dX5_carriesBy_14 : decode cX5_carriesBy 14 = .ok (.iadd, 1) := by decide +kernel
theorem dX5_carriesBy_15 : decode cX5_carriesBy 15 = .ok (.aload_n 0, 1) := by decide +kernel
theorem dX5_carriesBy_16 : decode cX5_carriesBy 16 = .ok (.getfield 16, 3) := by decide +kernel
theorem dX5_carriesBy_19 : decode cX5_carriesBy 19 = .ok (.iload_n 3, 1) := by decide +kernel
theorem dX5_carriesBy_20 : decode cX5_carriesBy 20 = .ok (.iaload, 1) := by decide +kernel
theorem dX5_carriesBy_21 : decode cX5_carriesBy 21 = .ok (.aload_n 1, 1) := by decide +kernel
theorem dX5_carriesBy_22 : decode cX5_carriesBy 22 = .ok (.bipush 30, 2) := by decide +kernel
theorem dX5_carriesBy_24 : decode cX5_carriesBy 24 = .ok (.iaload, 1) := by decide +kernel
theorem dX5_carriesBy_25 : decode cX5_carriesBy 25 = .ok (.iadd, 1) := by decide +kernel
theorem dX5_carriesBy_26 : decode cX5_carriesBy 26 = .ok (.idiv, 1) := by decide +kernel
theorem dX5_carriesBy_27 : decode cX5_carriesBy 27 = .ok (.istore 4, 2) := by decide +kernel
theorem dX5_carriesBy_29 : decode cX5_carriesBy 29 = .ok (.aload_n 0, 1) := by decide +kernel
theorem dX5_carriesBy_30 : decode cX5_carriesBy 30 = .ok (.getfield 25, 3) := by decide +kernel
theorem dX5_carriesBy_33 : decode cX5_carriesBy 33 = .ok (.iload_n 2, 1) := by decide +kernel
theorem dX5_carriesBy_34 : decode cX5_carriesBy 34 = .ok (.iaload, 1) := by decide +kernel
theorem dX5_carriesBy_35 : decode cX5_carriesBy 35 = .ok (.iconst 1, 1) := by decide +kernel
theorem dX5_carriesBy_36 : decode cX5_carriesBy 36 = .ok (.aload_n 1, 1) := by decide +kernel
theorem dX5_carriesBy_37 : decode cX5_carriesBy 37 = .ok (.bipush 18, 2) := by decide +kernel
theorem dX5_carriesBy_39 : decode cX5_carriesBy 39 = .ok (.iload_n 2, 1) := by decide +kernel
theorem dX5_carriesBy_40 : decode cX5_carriesBy 40 = .ok (.iadd, 1) := by decide +kernel
theorem dX5_carriesBy_41 : decode cX5_carriesBy 41 = .ok (.iaload, 1) := by decide +kernel
theorem dX5_carriesBy_42 : decode cX5_carriesBy 42 = .ok (.iadd, 1) := by decide +kernel
theorem dX5_carriesBy_43 : decode cX5_carriesBy 43 = .ok (.imul, 1) := by decide +kernel
theorem dX5_carriesBy_44 : decode cX5_carriesBy 44 = .ok (.iload 4, 2) := by decide +kernel
theorem dX5_carriesBy_46 : decode cX5_carriesBy 46 = .ok (.imul, 1) := by decide +kernel
theorem dX5_carriesBy_47 : decode cX5_carriesBy 47 = .ok (.ireturn, 1) := by decide +kernel
theorem dX5_takesBy_0 : decode cX5_takesBy 0 = .ok (.aload_n 1, 1) := by decide +kernel
theorem dX5_takesBy_1 : decode cX5_takesBy 1 = .ok (.bipush 6, 2) := by decide +kernel
theorem dX5_takesBy_3 : decode cX5_takesBy 3 = .ok (.iload_n 2, 1) := by decide +kernel
theorem dX5_takesBy_4 : decode cX5_takesBy 4 = .ok (.iadd, 1) := by decide +kernel
theorem dX5_takesBy_5 : decode cX5_takesBy 5 = .ok (.iaload, 1) := by decide +kernel
theorem dX5_takesBy_6 : decode cX5_takesBy 6 = .ok (.iconst 1, 1) := by decide +kernel
theorem dX5_takesBy_7 : decode cX5_takesBy 7 = .ok (.isub, 1) := by decide +kernel
theorem dX5_takesBy_8 : decode cX5_takesBy 8 = .ok (.istore_n 3, 1) := by decide +kernel
theorem dX5_takesBy_9 : decode cX5_takesBy 9 = .ok (.iload_n 3, 1) := by decide +kernel
theorem dX5_takesBy_10 : decode cX5_takesBy 10 = .ok (.ifCond .ge 5, 3) := by decide +kernel
theorem dX5_takesBy_13 : decode cX5_takesBy 13 = .ok (.iconst 0, 1) := by decide +kernel
theorem dX5_takesBy_14 : decode cX5_takesBy 14 = .ok (.ireturn, 1) := by decide +kernel
theorem dX5_takesBy_15 : decode cX5_takesBy 15 = .ok (.aload_n 1, 1) := by decide +kernel
theorem dX5_takesBy_16 : decode cX5_takesBy 16 = .ok (.iconst 0, 1) := by decide +kernel
theorem dX5_takesBy_17 : decode cX5_takesBy 17 = .ok (.iload_n 3, 1) := by decide +kernel
theorem dX5_takesBy_18 : decode cX5_takesBy 18 = .ok (.iadd, 1) := by decide +kernel
theorem dX5_takesBy_19 : decode cX5_takesBy 19 = .ok (.iaload, 1) := by decide +kernel
theorem dX5_takesBy_20 : decode cX5_takesBy 20 = .ok (.istore 4, 2) := by decide +kernel
theorem dX5_takesBy_22 : decode cX5_takesBy 22 = .ok (.aload_n 0, 1) := by decide +kernel
theorem dX5_takesBy_23 : decode cX5_takesBy 23 = .ok (.aload_n 1, 1) := by decide +kernel
theorem dX5_takesBy_24 : decode cX5_takesBy 24 = .ok (.iload_n 2, 1) := by decide +kernel
theorem dX5_takesBy_25 : decode cX5_takesBy 25 = .ok (.iload 4, 2) := by decide +kernel
theorem dX5_takesBy_27 : decode cX5_takesBy 27 = .ok (.invokevirtual 120, 3) := by decide +kernel
theorem dX5_takesBy_30 : decode cX5_takesBy 30 = .ok (.istore 5, 2) := by decide +kernel
theorem dX5_takesBy_32 : decode cX5_takesBy 32 = .ok (.aload_n 0, 1) := by decide +kernel
theorem dX5_takesBy_33 : decode cX5_takesBy 33 = .ok (.getfield 31, 3) := by decide +kernel
theorem dX5_takesBy_36 : decode cX5_takesBy 36 = .ok (.iconst 3, 1) := by decide +kernel
theorem dX5_takesBy_37 : decode cX5_takesBy 37 = .ok (.iload_n 3, 1) := by decide +kernel
theorem dX5_takesBy_38 : decode cX5_takesBy 38 = .ok (.imul, 1) := by decide +kernel
theorem dX5_takesBy_39 : decode cX5_takesBy 39 = .ok (.iload 4, 2) := by decide +kernel
theorem dX5_takesBy_41 : decode cX5_takesBy 41 = .ok (.iadd, 1) := by decide +kernel
theorem dX5_takesBy_42 : decode cX5_takesBy 42 = .ok (.iaload, 1) := by decide +kernel
theorem dX5_takesBy_43 : decode cX5_takesBy 43 = .ok (.istore 6, 2) := by decide +kernel
theorem dX5_takesBy_45 : decode cX5_takesBy 45 = .ok (.iload 5, 2) := by decide +kernel
theorem dX5_takesBy_47 : decode cX5_takesBy 47 = .ok (.iload 6, 2) := by decide +kernel
theorem dX5_takesBy_49 : decode cX5_takesBy 49 = .ok (.if_icmp .ge 8, 3) := by decide +kernel
theorem dX5_takesBy_52 : decode cX5_takesBy 52 = .ok (.iload 5, 2) := by decide +kernel
theorem dX5_takesBy_54 : decode cX5_takesBy 54 = .ok (.goto 5, 3) := by decide +kernel
theorem dX5_takesBy_57 : decode cX5_takesBy 57 = .ok (.iload 6, 2) := by decide +kernel
theorem dX5_takesBy_59 : decode cX5_takesBy 59 = .ok (.ireturn, 1) := by decide +kernel
theorem dX5_keptBy_0 : decode cX5_keptBy 0 = .ok (.aload_n 1, 1) := by decide +kernel
theorem dX5_keptBy_1 : decode cX5_keptBy 1 = .ok (.bipush 6, 2) := by decide +kernel
theorem dX5_keptBy_3 : decode cX5_keptBy 3 = .ok (.iload_n 2, 1) := by decide +kernel
theorem dX5_keptBy_4 : decode cX5_keptBy 4 = .ok (.iadd, 1) := by decide +kernel
theorem dX5_keptBy_5 : decode cX5_keptBy 5 = .ok (.iaload, 1) := by decide +kernel
theorem dX5_keptBy_6 : decode cX5_keptBy 6 = .ok (.iconst 1, 1) := by decide +kernel
theorem dX5_keptBy_7 : decode cX5_keptBy 7 = .ok (.isub, 1) := by decide +kernel
theorem dX5_keptBy_8 : decode cX5_keptBy 8 = .ok (.istore_n 3, 1) := by decide +kernel
theorem dX5_keptBy_9 : decode cX5_keptBy 9 = .ok (.aload_n 0, 1) := by decide +kernel
theorem dX5_keptBy_10 : decode cX5_keptBy 10 = .ok (.getfield 31, 3) := by decide +kernel
theorem dX5_keptBy_13 : decode cX5_keptBy 13 = .ok (.iconst 3, 1) := by decide +kernel
theorem dX5_keptBy_14 : decode cX5_keptBy 14 = .ok (.iload_n 2, 1) := by decide +kernel
theorem dX5_keptBy_15 : decode cX5_keptBy 15 = .ok (.imul, 1) := by decide +kernel
theorem dX5_keptBy_16 : decode cX5_keptBy 16 = .ok (.aload_n 1, 1) := by decide +kernel
theorem dX5_keptBy_17 : decode cX5_keptBy 17 = .ok (.iconst 0, 1) := by decide +kernel
theorem dX5_keptBy_18 : decode cX5_keptBy 18 = .ok (.iload_n 2, 1) := by decide +kernel
theorem dX5_keptBy_19 : decode cX5_keptBy 19 = .ok (.iadd, 1) := by decide +kernel
theorem dX5_keptBy_20 : decode cX5_keptBy 20 = .ok (.iaload, 1) := by decide +kernel
theorem dX5_keptBy_21 : decode cX5_keptBy 21 = .ok (.iadd, 1) := by decide +kernel
theorem dX5_keptBy_22 : decode cX5_keptBy 22 = .ok (.iaload, 1) := by decide +kernel
theorem dX5_keptBy_23 : decode cX5_keptBy 23 = .ok (.iload_n 3, 1) := by decide +kernel
theorem dX5_keptBy_24 : decode cX5_keptBy 24 = .ok (.ifCond .ge 7, 3) := by decide +kernel
theorem dX5_keptBy_27 : decode cX5_keptBy 27 = .ok (.iconst 0, 1) := by decide +kernel
theorem dX5_keptBy_28 : decode cX5_keptBy 28 = .ok (.goto 9, 3) := by decide +kernel
theorem dX5_keptBy_31 : decode cX5_keptBy 31 = .ok (.aload_n 0, 1) := by decide +kernel
theorem dX5_keptBy_32 : decode cX5_keptBy 32 = .ok (.aload_n 1, 1) := by decide +kernel
theorem dX5_keptBy_33 : decode cX5_keptBy 33 = .ok (.iload_n 3, 1) := by decide +kernel
theorem dX5_keptBy_34 : decode cX5_keptBy 34 = .ok (.invokevirtual 124, 3) := by decide +kernel
theorem dX5_keptBy_37 : decode cX5_keptBy 37 = .ok (.isub, 1) := by decide +kernel
theorem dX5_keptBy_38 : decode cX5_keptBy 38 = .ok (.ireturn, 1) := by decide +kernel
theorem dX5_takenWorth_0 : decode cX5_takenWorth 0 = .ok (.aload_n 1, 1) := by decide +kernel
theorem dX5_takenWorth_1 : decode cX5_takenWorth 1 = .ok (.bipush 6, 2) := by decide +kernel
theorem dX5_takenWorth_3 : decode cX5_takenWorth 3 = .ok (.iload_n 2, 1) := by decide +kernel
theorem dX5_takenWorth_4 : decode cX5_takenWorth 4 = .ok (.iadd, 1) := by decide +kernel
theorem dX5_takenWorth_5 : decode cX5_takenWorth 5 = .ok (.iaload, 1) := by decide +kernel
theorem dX5_takenWorth_6 : decode cX5_takenWorth 6 = .ok (.iconst 1, 1) := by decide +kernel
theorem dX5_takenWorth_7 : decode cX5_takenWorth 7 = .ok (.isub, 1) := by decide +kernel
theorem dX5_takenWorth_8 : decode cX5_takenWorth 8 = .ok (.istore_n 3, 1) := by decide +kernel
theorem dX5_takenWorth_9 : decode cX5_takenWorth 9 = .ok (.iload_n 3, 1) := by decide +kernel
theorem dX5_takenWorth_10 : decode cX5_takenWorth 10 = .ok (.ifCond .ge 7, 3) := by decide +kernel
theorem dX5_takenWorth_13 : decode cX5_takenWorth 13 = .ok (.iconst 0, 1) := by decide +kernel
theorem dX5_takenWorth_14 : decode cX5_takenWorth 14 = .ok (.goto 20, 3) := by decide +kernel
theorem dX5_takenWorth_17 : decode cX5_takenWorth 17 = .ok (.aload_n 0, 1) := by decide +kernel
theorem dX5_takenWorth_18 : decode cX5_takenWorth 18 = .ok (.aload_n 1, 1) := by decide +kernel
theorem dX5_takenWorth_19 : decode cX5_takenWorth 19 = .ok (.iload_n 2, 1) := by decide +kernel
theorem dX5_takenWorth_20 : decode cX5_takenWorth 20 = .ok (.invokevirtual 124, 3) := by decide +kernel
theorem dX5_takenWorth_23 : decode cX5_takenWorth 23 = .ok (.aload_n 0, 1) := by decide +kernel
theorem dX5_takenWorth_24 : decode cX5_takenWorth 24 = .ok (.getfield 19, 3) := by decide +kernel
theorem dX5_takenWorth_27 : decode cX5_takenWorth 27 = .ok (.aload_n 1, 1) := by decide +kernel
theorem dX5_takenWorth_28 : decode cX5_takenWorth 28 = .ok (.iconst 0, 1) := by decide +kernel
theorem dX5_takenWorth_29 : decode cX5_takenWorth 29 = .ok (.iload_n 3, 1) := by decide +kernel
theorem dX5_takenWorth_30 : decode cX5_takenWorth 30 = .ok (.iadd, 1) := by decide +kernel
theorem dX5_takenWorth_31 : decode cX5_takenWorth 31 = .ok (.iaload, 1) := by decide +kernel
theorem dX5_takenWorth_32 : decode cX5_takenWorth 32 = .ok (.iaload, 1) := by decide +kernel
theorem dX5_takenWorth_33 : decode cX5_takenWorth 33 = .ok (.imul, 1) := by decide +kernel
theorem dX5_takenWorth_34 : decode cX5_takenWorth 34 = .ok (.ireturn, 1) := by decide +kernel
theorem dX5_hasBy_0 : decode cX5_hasBy 0 = .ok (.aload_n 0, 1) := by decide +kernel
theorem dX5_hasBy_1 : decode cX5_hasBy 1 = .ok (.aload_n 1, 1) := by decide +kernel
theorem dX5_hasBy_2 : decode cX5_hasBy 2 = .ok (.iload_n 2, 1) := by decide +kernel
theorem dX5_hasBy_3 : decode cX5_hasBy 3 = .ok (.invokevirtual 128, 3) := by decide +kernel
theorem dX5_hasBy_6 : decode cX5_hasBy 6 = .ok (.aload_n 0, 1) := by decide +kernel
theorem dX5_hasBy_7 : decode cX5_hasBy 7 = .ok (.aload_n 1, 1) := by decide +kernel
theorem dX5_hasBy_8 : decode cX5_hasBy 8 = .ok (.iload_n 2, 1) := by decide +kernel
theorem dX5_hasBy_9 : decode cX5_hasBy 9 = .ok (.invokevirtual 131, 3) := by decide +kernel
theorem dX5_hasBy_12 : decode cX5_hasBy 12 = .ok (.aload_n 0, 1) := by decide +kernel
theorem dX5_hasBy_13 : decode cX5_hasBy 13 = .ok (.getfield 19, 3) := by decide +kernel
theorem dX5_hasBy_16 : decode cX5_hasBy 16 = .ok (.aload_n 1, 1) := by decide +kernel
theorem dX5_hasBy_17 : decode cX5_hasBy 17 = .ok (.iconst 0, 1) := by decide +kernel
theorem dX5_hasBy_18 : decode cX5_hasBy 18 = .ok (.iload_n 2, 1) := by decide +kernel
theorem dX5_hasBy_19 : decode cX5_hasBy 19 = .ok (.iadd, 1) := by decide +kernel
theorem dX5_hasBy_20 : decode cX5_hasBy 20 = .ok (.iaload, 1) := by decide +kernel
theorem dX5_hasBy_21 : decode cX5_hasBy 21 = .ok (.iaload, 1) := by decide +kernel
theorem dX5_hasBy_22 : decode cX5_hasBy 22 = .ok (.imul, 1) := by decide +kernel
theorem dX5_hasBy_23 : decode cX5_hasBy 23 = .ok (.iadd, 1) := by decide +kernel
theorem dX5_hasBy_24 : decode cX5_hasBy 24 = .ok (.ireturn, 1) := by decide +kernel
theorem dX5_man_0 : decode cX5_man 0 = .ok (.aload_n 0, 1) := by decide +kernel
theorem dX5_man_1 : decode cX5_man 1 = .ok (.iconst 0, 1) := by decide +kernel
theorem dX5_man_2 : decode cX5_man 2 = .ok (.putfield 62, 3) := by decide +kernel
theorem dX5_man_5 : decode cX5_man 5 = .ok (.aload_n 0, 1) := by decide +kernel
theorem dX5_man_6 : decode cX5_man 6 = .ok (.iload_n 1, 1) := by decide +kernel
theorem dX5_man_7 : decode cX5_man 7 = .ok (.invokevirtual 134, 3) := by decide +kernel
theorem dX5_man_10 : decode cX5_man 10 = .ok (.ifCond .eq 13, 3) := by decide +kernel
theorem dX5_man_13 : decode cX5_man 13 = .ok (.iload_n 2, 1) := by decide +kernel
theorem dX5_man_14 : decode cX5_man 14 = .ok (.iconst 0, 1) := by decide +kernel
theorem dX5_man_15 : decode cX5_man 15 = .ok (.bipush 6, 2) := by decide +kernel
theorem dX5_man_17 : decode cX5_man 17 = .ok (.invokestatic 66, 3) := by decide +kernel
theorem dX5_man_20 : decode cX5_man 20 = .ok (.ifCond .ne 5, 3) := by decide +kernel
theorem dX5_man_23 : decode cX5_man 23 = .ok (.iconst (-1), 1) := by decide +kernel
theorem dX5_man_24 : decode cX5_man 24 = .ok (.ireturn, 1) := by decide +kernel
theorem dX5_man_25 : decode cX5_man 25 = .ok (.iload_n 2, 1) := by decide +kernel
theorem dX5_man_26 : decode cX5_man 26 = .ok (.iconst 3, 1) := by decide +kernel
theorem dX5_man_27 : decode cX5_man 27 = .ok (.if_icmp .ge 37, 3) := by decide +kernel
theorem dX5_man_30 : decode cX5_man 30 = .ok (.iload_n 2, 1) := by decide +kernel
theorem dX5_man_31 : decode cX5_man 31 = .ok (.ifCond .ne 12, 3) := by decide +kernel
theorem dX5_man_34 : decode cX5_man 34 = .ok (.aload_n 0, 1) := by decide +kernel
theorem dX5_man_35 : decode cX5_man 35 = .ok (.getfield 22, 3) := by decide +kernel
theorem dX5_man_38 : decode cX5_man 38 = .ok (.iload_n 1, 1) := by decide +kernel
theorem dX5_man_39 : decode cX5_man 39 = .ok (.iaload, 1) := by decide +kernel
theorem dX5_man_40 : decode cX5_man 40 = .ok (.goto 23, 3) := by decide +kernel
theorem dX5_man_43 : decode cX5_man 43 = .ok (.iload_n 2, 1) := by decide +kernel
theorem dX5_man_44 : decode cX5_man 44 = .ok (.iconst 1, 1) := by decide +kernel
theorem dX5_man_45 : decode cX5_man 45 = .ok (.if_icmp .ne 12, 3) := by decide +kernel
theorem dX5_man_48 : decode cX5_man 48 = .ok (.aload_n 0, 1) := by decide +kernel
theorem dX5_man_49 : decode cX5_man 49 = .ok (.getfield 25, 3) := by decide +kernel
theorem dX5_man_52 : decode cX5_man 52 = .ok (.iload_n 1, 1) := by decide +kernel
theorem dX5_man_53 : decode cX5_man 53 = .ok (.iaload, 1) := by decide +kernel
theorem dX5_man_54 : decode cX5_man 54 = .ok (.goto 9, 3) := by decide +kernel
theorem dX5_man_57 : decode cX5_man 57 = .ok (.aload_n 0, 1) := by decide +kernel
theorem dX5_man_58 : decode cX5_man 58 = .ok (.getfield 28, 3) := by decide +kernel
theorem dX5_man_61 : decode cX5_man 61 = .ok (.iload_n 1, 1) := by decide +kernel
theorem dX5_man_62 : decode cX5_man 62 = .ok (.iaload, 1) := by decide +kernel
theorem dX5_man_63 : decode cX5_man 63 = .ok (.ireturn, 1) := by decide +kernel
theorem dX5_man_64 : decode cX5_man 64 = .ok (.iload_n 2, 1) := by decide +kernel
theorem dX5_man_65 : decode cX5_man 65 = .ok (.iconst 3, 1) := by decide +kernel
theorem dX5_man_66 : decode cX5_man 66 = .ok (.if_icmp .ne 14, 3) := by decide +kernel
theorem dX5_man_69 : decode cX5_man 69 = .ok (.aload_n 0, 1) := by decide +kernel
theorem dX5_man_70 : decode cX5_man 70 = .ok (.getfield 34, 3) := by decide +kernel
theorem dX5_man_73 : decode cX5_man 73 = .ok (.iconst 0, 1) := by decide +kernel
theorem dX5_man_74 : decode cX5_man 74 = .ok (.iload_n 1, 1) := by decide +kernel
theorem dX5_man_75 : decode cX5_man 75 = .ok (.iadd, 1) := by decide +kernel
theorem dX5_man_76 : decode cX5_man 76 = .ok (.iaload, 1) := by decide +kernel
theorem dX5_man_77 : decode cX5_man 77 = .ok (.goto 65, 3) := by decide +kernel
theorem dX5_man_80 : decode cX5_man 80 = .ok (.iload_n 2, 1) := by decide +kernel
theorem dX5_man_81 : decode cX5_man 81 = .ok (.iconst 4, 1) := by decide +kernel
theorem dX5_man_82 : decode cX5_man 82 = .ok (.if_icmp .ne 34, 3) := by decide +kernel
theorem dX5_man_85 : decode cX5_man 85 = .ok (.aload_n 0, 1) := by decide +kernel
theorem dX5_man_86 : decode cX5_man 86 = .ok (.getfield 34, 3) := by decide +kernel
theorem dX5_man_89 : decode cX5_man 89 = .ok (.bipush 6, 2) := by decide +kernel
theorem dX5_man_91 : decode cX5_man 91 = .ok (.iload_n 1, 1) := by decide +kernel
theorem dX5_man_92 : decode cX5_man 92 = .ok (.iadd, 1) := by decide +kernel
theorem dX5_man_93 : decode cX5_man 93 = .ok (.iaload, 1) := by decide +kernel
theorem dX5_man_94 : decode cX5_man 94 = .ok (.ifCond .ne 8, 3) := by decide +kernel
theorem dX5_man_97 : decode cX5_man 97 = .ok (.bipush (-9), 2) := by decide +kernel
theorem dX5_man_99 : decode cX5_man 99 = .ok (.goto 43, 3) := by decide +kernel
theorem dX5_man_102 : decode cX5_man 102 = .ok (.aload_n 0, 1) := by decide +kernel
theorem dX5_man_103 : decode cX5_man 103 = .ok (.getfield 34, 3) := by decide +kernel
theorem dX5_man_106 : decode cX5_man 106 = .ok (.bipush 6, 2) := by decide +kernel
theorem dX5_man_108 : decode cX5_man 108 = .ok (.iload_n 1, 1) := by decide +kernel
theorem dX5_man_109 : decode cX5_man 109 = .ok (.iadd, 1) := by decide +kernel
theorem dX5_man_110 : decode cX5_man 110 = .ok (.iaload, 1) := by decide +kernel
theorem dX5_man_111 : decode cX5_man 111 = .ok (.iconst 1, 1) := by decide +kernel
theorem dX5_man_112 : decode cX5_man 112 = .ok (.isub, 1) := by decide +kernel
theorem dX5_man_113 : decode cX5_man 113 = .ok (.goto 29, 3) := by decide +kernel
theorem dX5_man_116 : decode cX5_man 116 = .ok (.iload_n 2, 1) := by decide +kernel
theorem dX5_man_117 : decode cX5_man 117 = .ok (.iconst 5, 1) := by decide +kernel
theorem dX5_man_118 : decode cX5_man 118 = .ok (.if_icmp .ne 15, 3) := by decide +kernel
theorem dX5_man_121 : decode cX5_man 121 = .ok (.aload_n 0, 1) := by decide +kernel
theorem dX5_man_122 : decode cX5_man 122 = .ok (.getfield 34, 3) := by decide +kernel
theorem dX5_man_125 : decode cX5_man 125 = .ok (.bipush 12, 2) := by decide +kernel
theorem dX5_man_127 : decode cX5_man 127 = .ok (.iload_n 1, 1) := by decide +kernel
theorem dX5_man_128 : decode cX5_man 128 = .ok (.iadd, 1) := by decide +kernel
theorem dX5_man_129 : decode cX5_man 129 = .ok (.iaload, 1) := by decide +kernel
theorem dX5_man_130 : decode cX5_man 130 = .ok (.goto 12, 3) := by decide +kernel
theorem dX5_man_133 : decode cX5_man 133 = .ok (.aload_n 0, 1) := by decide +kernel
theorem dX5_man_134 : decode cX5_man 134 = .ok (.getfield 34, 3) := by decide +kernel
theorem dX5_man_137 : decode cX5_man 137 = .ok (.bipush 18, 2) := by decide +kernel
theorem dX5_man_139 : decode cX5_man 139 = .ok (.iload_n 1, 1) := by decide +kernel
theorem dX5_man_140 : decode cX5_man 140 = .ok (.iadd, 1) := by decide +kernel
theorem dX5_man_141 : decode cX5_man 141 = .ok (.iaload, 1) := by decide +kernel
theorem dX5_man_142 : decode cX5_man 142 = .ok (.ireturn, 1) := by decide +kernel
theorem dX5_yieldOf_0 : decode cX5_yieldOf 0 = .ok (.aload_n 0, 1) := by decide +kernel
theorem dX5_yieldOf_1 : decode cX5_yieldOf 1 = .ok (.iconst 0, 1) := by decide +kernel
theorem dX5_yieldOf_2 : decode cX5_yieldOf 2 = .ok (.putfield 62, 3) := by decide +kernel
theorem dX5_yieldOf_5 : decode cX5_yieldOf 5 = .ok (.aload_n 0, 1) := by decide +kernel
theorem dX5_yieldOf_6 : decode cX5_yieldOf 6 = .ok (.iload_n 1, 1) := by decide +kernel
theorem dX5_yieldOf_7 : decode cX5_yieldOf 7 = .ok (.invokevirtual 134, 3) := by decide +kernel
theorem dX5_yieldOf_10 : decode cX5_yieldOf 10 = .ok (.ifCond .eq 24, 3) := by decide +kernel
theorem dX5_yieldOf_13 : decode cX5_yieldOf 13 = .ok (.aload_n 0, 1) := by decide +kernel
theorem dX5_yieldOf_14 : decode cX5_yieldOf 14 = .ok (.iload_n 2, 1) := by decide +kernel
theorem dX5_yieldOf_15 : decode cX5_yieldOf 15 = .ok (.invokevirtual 138, 3) := by decide +kernel
theorem dX5_yieldOf_18 : decode cX5_yieldOf 18 = .ok (.ifCond .eq 16, 3) := by decide +kernel
theorem dX5_yieldOf_21 : decode cX5_yieldOf 21 = .ok (.aload_n 0, 1) := by decide +kernel
theorem dX5_yieldOf_22 : decode cX5_yieldOf 22 = .ok (.getfield 31, 3) := by decide +kernel
theorem dX5_yieldOf_25 : decode cX5_yieldOf 25 = .ok (.iconst 3, 1) := by decide +kernel
theorem dX5_yieldOf_26 : decode cX5_yieldOf 26 = .ok (.iload_n 1, 1) := by decide +kernel
theorem dX5_yieldOf_27 : decode cX5_yieldOf 27 = .ok (.imul, 1) := by decide +kernel
theorem dX5_yieldOf_28 : decode cX5_yieldOf 28 = .ok (.iload_n 2, 1) := by decide +kernel
theorem dX5_yieldOf_29 : decode cX5_yieldOf 29 = .ok (.iadd, 1) := by decide +kernel
theorem dX5_yieldOf_30 : decode cX5_yieldOf 30 = .ok (.iaload, 1) := by decide +kernel
theorem dX5_yieldOf_31 : decode cX5_yieldOf 31 = .ok (.goto 4, 3) := by decide +kernel
theorem dX5_yieldOf_34 : decode cX5_yieldOf 34 = .ok (.iconst (-1), 1) := by decide +kernel
theorem dX5_yieldOf_35 : decode cX5_yieldOf 35 = .ok (.ireturn, 1) := by decide +kernel
theorem dX5_carries_0 : decode cX5_carries 0 = .ok (.aload_n 0, 1) := by decide +kernel
theorem dX5_carries_1 : decode cX5_carries 1 = .ok (.iconst 0, 1) := by decide +kernel
theorem dX5_carries_2 : decode cX5_carries 2 = .ok (.putfield 62, 3) := by decide +kernel
theorem dX5_carries_5 : decode cX5_carries 5 = .ok (.aload_n 0, 1) := by decide +kernel
theorem dX5_carries_6 : decode cX5_carries 6 = .ok (.iload_n 1, 1) := by decide +kernel
theorem dX5_carries_7 : decode cX5_carries 7 = .ok (.invokevirtual 134, 3) := by decide +kernel
theorem dX5_carries_10 : decode cX5_carries 10 = .ok (.ifCond .eq 24, 3) := by decide +kernel
theorem dX5_carries_13 : decode cX5_carries 13 = .ok (.aload_n 0, 1) := by decide +kernel
theorem dX5_carries_14 : decode cX5_carries 14 = .ok (.iload_n 2, 1) := by decide +kernel
theorem dX5_carries_15 : decode cX5_carries 15 = .ok (.invokevirtual 138, 3) := by decide +kernel
theorem dX5_carries_18 : decode cX5_carries 18 = .ok (.ifCond .eq 16, 3) := by decide +kernel
theorem dX5_carries_21 : decode cX5_carries 21 = .ok (.aload_n 0, 1) := by decide +kernel
theorem dX5_carries_22 : decode cX5_carries 22 = .ok (.aload_n 0, 1) := by decide +kernel
theorem dX5_carries_23 : decode cX5_carries 23 = .ok (.getfield 34, 3) := by decide +kernel
theorem dX5_carries_26 : decode cX5_carries 26 = .ok (.iload_n 1, 1) := by decide +kernel
theorem dX5_carries_27 : decode cX5_carries 27 = .ok (.iload_n 2, 1) := by decide +kernel
theorem dX5_carries_28 : decode cX5_carries 28 = .ok (.invokevirtual 120, 3) := by decide +kernel
theorem dX5_carries_31 : decode cX5_carries 31 = .ok (.goto 4, 3) := by decide +kernel
theorem dX5_carries_34 : decode cX5_carries 34 = .ok (.iconst (-1), 1) := by decide +kernel
theorem dX5_carries_35 : decode cX5_carries 35 = .ok (.ireturn, 1) := by decide +kernel
theorem dX5_has_0 : decode cX5_has 0 = .ok (.aload_n 0, 1) := by decide +kernel
theorem dX5_has_1 : decode cX5_has 1 = .ok (.iconst 0, 1) := by decide +kernel
theorem dX5_has_2 : decode cX5_has 2 = .ok (.putfield 62, 3) := by decide +kernel
theorem dX5_has_5 : decode cX5_has 5 = .ok (.aload_n 0, 1) := by decide +kernel
theorem dX5_has_6 : decode cX5_has 6 = .ok (.iload_n 1, 1) := by decide +kernel
theorem dX5_has_7 : decode cX5_has 7 = .ok (.invokevirtual 134, 3) := by decide +kernel
theorem dX5_has_10 : decode cX5_has 10 = .ok (.ifCond .eq 12, 3) := by decide +kernel
theorem dX5_has_13 : decode cX5_has 13 = .ok (.iload_n 2, 1) := by decide +kernel
theorem dX5_has_14 : decode cX5_has 14 = .ok (.iconst 0, 1) := by decide +kernel
theorem dX5_has_15 : decode cX5_has 15 = .ok (.iconst 3, 1) := by decide +kernel
theorem dX5_has_16 : decode cX5_has 16 = .ok (.invokestatic 66, 3) := by decide +kernel
theorem dX5_has_19 : decode cX5_has 19 = .ok (.ifCond .ne 6, 3) := by decide +kernel
theorem dX5_has_22 : decode cX5_has 22 = .ok (.ldc 141, 2) := by decide +kernel
theorem dX5_has_24 : decode cX5_has 24 = .ok (.ireturn, 1) := by decide +kernel
theorem dX5_has_25 : decode cX5_has 25 = .ok (.iload_n 2, 1) := by decide +kernel
theorem dX5_has_26 : decode cX5_has 26 = .ok (.ifCond .ne 15, 3) := by decide +kernel
theorem dX5_has_29 : decode cX5_has 29 = .ok (.aload_n 0, 1) := by decide +kernel
theorem dX5_has_30 : decode cX5_has 30 = .ok (.aload_n 0, 1) := by decide +kernel
theorem dX5_has_31 : decode cX5_has 31 = .ok (.getfield 34, 3) := by decide +kernel
theorem dX5_has_34 : decode cX5_has 34 = .ok (.iload_n 1, 1) := by decide +kernel
theorem dX5_has_35 : decode cX5_has 35 = .ok (.invokevirtual 124, 3) := by decide +kernel
theorem dX5_has_38 : decode cX5_has 38 = .ok (.goto 46, 3) := by decide +kernel
theorem dX5_has_41 : decode cX5_has 41 = .ok (.iload_n 2, 1) := by decide +kernel
theorem dX5_has_42 : decode cX5_has 42 = .ok (.iconst 1, 1) := by decide +kernel
theorem dX5_has_43 : decode cX5_has 43 = .ok (.if_icmp .ne 15, 3) := by decide +kernel
theorem dX5_has_46 : decode cX5_has 46 = .ok (.aload_n 0, 1) := by decide +kernel
theorem dX5_has_47 : decode cX5_has 47 = .ok (.aload_n 0, 1) := by decide +kernel
theorem dX5_has_48 : decode cX5_has 48 = .ok (.getfield 34, 3) := by decide +kernel
theorem dX5_has_51 : decode cX5_has 51 = .ok (.iload_n 1, 1) := by decide +kernel
theorem dX5_has_52 : decode cX5_has 52 = .ok (.invokevirtual 131, 3) := by decide +kernel
theorem dX5_has_55 : decode cX5_has 55 = .ok (.goto 29, 3) := by decide +kernel
theorem dX5_has_58 : decode cX5_has 58 = .ok (.iload_n 2, 1) := by decide +kernel
theorem dX5_has_59 : decode cX5_has 59 = .ok (.iconst 2, 1) := by decide +kernel
theorem dX5_has_60 : decode cX5_has 60 = .ok (.if_icmp .ne 15, 3) := by decide +kernel
theorem dX5_has_63 : decode cX5_has 63 = .ok (.aload_n 0, 1) := by decide +kernel
theorem dX5_has_64 : decode cX5_has 64 = .ok (.aload_n 0, 1) := by decide +kernel
theorem dX5_has_65 : decode cX5_has 65 = .ok (.getfield 34, 3) := by decide +kernel
theorem dX5_has_68 : decode cX5_has 68 = .ok (.iload_n 1, 1) := by decide +kernel
theorem dX5_has_69 : decode cX5_has 69 = .ok (.invokevirtual 142, 3) := by decide +kernel
theorem dX5_has_72 : decode cX5_has 72 = .ok (.goto 12, 3) := by decide +kernel
theorem dX5_has_75 : decode cX5_has 75 = .ok (.aload_n 0, 1) := by decide +kernel
theorem dX5_has_76 : decode cX5_has 76 = .ok (.getfield 34, 3) := by decide +kernel
theorem dX5_has_79 : decode cX5_has 79 = .ok (.bipush 24, 2) := by decide +kernel
theorem dX5_has_81 : decode cX5_has 81 = .ok (.iload_n 1, 1) := by decide +kernel
theorem dX5_has_82 : decode cX5_has 82 = .ok (.iadd, 1) := by decide +kernel
theorem dX5_has_83 : decode cX5_has 83 = .ok (.iaload, 1) := by decide +kernel
theorem dX5_has_84 : decode cX5_has 84 = .ok (.ireturn, 1) := by decide +kernel
theorem dX5_hasAll_0 : decode cX5_hasAll 0 = .ok (.iconst 0, 1) := by decide +kernel
theorem dX5_hasAll_1 : decode cX5_hasAll 1 = .ok (.istore_n 1, 1) := by decide +kernel
theorem dX5_hasAll_2 : decode cX5_hasAll 2 = .ok (.iconst 0, 1) := by decide +kernel
theorem dX5_hasAll_3 : decode cX5_hasAll 3 = .ok (.istore_n 2, 1) := by decide +kernel
theorem dX5_hasAll_4 : decode cX5_hasAll 4 = .ok (.iload_n 2, 1) := by decide +kernel
theorem dX5_hasAll_5 : decode cX5_hasAll 5 = .ok (.aload_n 0, 1) := by decide +kernel
theorem dX5_hasAll_6 : decode cX5_hasAll 6 = .ok (.getfield 13, 3) := by decide +kernel
theorem dX5_hasAll_9 : decode cX5_hasAll 9 = .ok (.iconst 1, 1) := by decide +kernel
theorem dX5_hasAll_10 : decode cX5_hasAll 10 = .ok (.iaload, 1) := by decide +kernel
theorem dX5_hasAll_11 : decode cX5_hasAll 11 = .ok (.if_icmp .ge 21, 3) := by decide +kernel
theorem dX5_hasAll_14 : decode cX5_hasAll 14 = .ok (.iload_n 1, 1) := by decide +kernel
theorem dX5_hasAll_15 : decode cX5_hasAll 15 = .ok (.aload_n 0, 1) := by decide +kernel
theorem dX5_hasAll_16 : decode cX5_hasAll 16 = .ok (.aload_n 0, 1) := by decide +kernel
theorem dX5_hasAll_17 : decode cX5_hasAll 17 = .ok (.getfield 34, 3) := by decide +kernel
theorem dX5_hasAll_20 : decode cX5_hasAll 20 = .ok (.iload_n 2, 1) := by decide +kernel
theorem dX5_hasAll_21 : decode cX5_hasAll 21 = .ok (.invokevirtual 142, 3) := by decide +kernel
theorem dX5_hasAll_24 : decode cX5_hasAll 24 = .ok (.iadd, 1) := by decide +kernel
theorem dX5_hasAll_25 : decode cX5_hasAll 25 = .ok (.istore_n 1, 1) := by decide +kernel
theorem dX5_hasAll_26 : decode cX5_hasAll 26 = .ok (.iinc 2 1, 3) := by decide +kernel
theorem dX5_hasAll_29 : decode cX5_hasAll 29 = .ok (.goto (-25), 3) := by decide +kernel
theorem dX5_hasAll_32 : decode cX5_hasAll 32 = .ok (.iload_n 1, 1) := by decide +kernel
theorem dX5_hasAll_33 : decode cX5_hasAll 33 = .ok (.ireturn, 1) := by decide +kernel
theorem dX5_hungries_0 : decode cX5_hungries 0 = .ok (.iconst 0, 1) := by decide +kernel
theorem dX5_hungries_1 : decode cX5_hungries 1 = .ok (.istore_n 1, 1) := by decide +kernel
theorem dX5_hungries_2 : decode cX5_hungries 2 = .ok (.iconst 0, 1) := by decide +kernel
theorem dX5_hungries_3 : decode cX5_hungries 3 = .ok (.istore_n 2, 1) := by decide +kernel
theorem dX5_hungries_4 : decode cX5_hungries 4 = .ok (.iload_n 2, 1) := by decide +kernel
theorem dX5_hungries_5 : decode cX5_hungries 5 = .ok (.aload_n 0, 1) := by decide +kernel
theorem dX5_hungries_6 : decode cX5_hungries 6 = .ok (.getfield 13, 3) := by decide +kernel
theorem dX5_hungries_9 : decode cX5_hungries 9 = .ok (.iconst 1, 1) := by decide +kernel
theorem dX5_hungries_10 : decode cX5_hungries 10 = .ok (.iaload, 1) := by decide +kernel
theorem dX5_hungries_11 : decode cX5_hungries 11 = .ok (.if_icmp .ge 27, 3) := by decide +kernel
theorem dX5_hungries_14 : decode cX5_hungries 14 = .ok (.iload_n 1, 1) := by decide +kernel
theorem dX5_hungries_15 : decode cX5_hungries 15 = .ok (.aload_n 0, 1) := by decide +kernel
theorem dX5_hungries_16 : decode cX5_hungries 16 = .ok (.iload_n 2, 1) := by decide +kernel
theorem dX5_hungries_17 : decode cX5_hungries 17 = .ok (.invokevirtual 145, 3) := by decide +kernel
theorem dX5_hungries_20 : decode cX5_hungries 20 = .ok (.ifCond .eq 9, 3) := by decide +kernel
theorem dX5_hungries_23 : decode cX5_hungries 23 = .ok (.iconst 1, 1) := by decide +kernel
theorem dX5_hungries_24 : decode cX5_hungries 24 = .ok (.iload_n 2, 1) := by decide +kernel
theorem dX5_hungries_25 : decode cX5_hungries 25 = .ok (.ishl, 1) := by decide +kernel
theorem dX5_hungries_26 : decode cX5_hungries 26 = .ok (.goto 4, 3) := by decide +kernel
theorem dX5_hungries_29 : decode cX5_hungries 29 = .ok (.iconst 0, 1) := by decide +kernel
theorem dX5_hungries_30 : decode cX5_hungries 30 = .ok (.ior, 1) := by decide +kernel
theorem dX5_hungries_31 : decode cX5_hungries 31 = .ok (.istore_n 1, 1) := by decide +kernel
theorem dX5_hungries_32 : decode cX5_hungries 32 = .ok (.iinc 2 1, 3) := by decide +kernel
theorem dX5_hungries_35 : decode cX5_hungries 35 = .ok (.goto (-31), 3) := by decide +kernel
theorem dX5_hungries_38 : decode cX5_hungries 38 = .ok (.iload_n 1, 1) := by decide +kernel
theorem dX5_hungries_39 : decode cX5_hungries 39 = .ok (.ireturn, 1) := by decide +kernel
theorem dX5_now_0 : decode cX5_now 0 = .ok (.aload_n 0, 1) := by decide +kernel
theorem dX5_now_1 : decode cX5_now 1 = .ok (.iconst 0, 1) := by decide +kernel
theorem dX5_now_2 : decode cX5_now 2 = .ok (.putfield 62, 3) := by decide +kernel
theorem dX5_now_5 : decode cX5_now 5 = .ok (.iload_n 1, 1) := by decide +kernel
theorem dX5_now_6 : decode cX5_now 6 = .ok (.iconst 0, 1) := by decide +kernel
theorem dX5_now_7 : decode cX5_now 7 = .ok (.iconst 5, 1) := by decide +kernel
theorem dX5_now_8 : decode cX5_now 8 = .ok (.invokestatic 66, 3) := by decide +kernel
theorem dX5_now_11 : decode cX5_now 11 = .ok (.ifCond .ne 5, 3) := by decide +kernel
theorem dX5_now_14 : decode cX5_now 14 = .ok (.iconst (-1), 1) := by decide +kernel
theorem dX5_now_15 : decode cX5_now 15 = .ok (.ireturn, 1) := by decide +kernel
theorem dX5_now_16 : decode cX5_now 16 = .ok (.iconst 0, 1) := by decide +kernel
theorem dX5_now_17 : decode cX5_now 17 = .ok (.istore_n 2, 1) := by decide +kernel
theorem dX5_now_18 : decode cX5_now 18 = .ok (.iconst 0, 1) := by decide +kernel
theorem dX5_now_19 : decode cX5_now 19 = .ok (.istore_n 3, 1) := by decide +kernel
theorem dX5_now_20 : decode cX5_now 20 = .ok (.iload_n 3, 1) := by decide +kernel
theorem dX5_now_21 : decode cX5_now 21 = .ok (.aload_n 0, 1) := by decide +kernel
theorem dX5_now_22 : decode cX5_now 22 = .ok (.getfield 13, 3) := by decide +kernel
theorem dX5_now_25 : decode cX5_now 25 = .ok (.iconst 1, 1) := by decide +kernel
theorem dX5_now_26 : decode cX5_now 26 = .ok (.iaload, 1) := by decide +kernel
theorem dX5_now_27 : decode cX5_now 27 = .ok (.if_icmp .ge 21, 3) := by decide +kernel
theorem dX5_now_30 : decode cX5_now 30 = .ok (.iload_n 2, 1) := by decide +kernel
theorem dX5_now_31 : decode cX5_now 31 = .ok (.aload_n 0, 1) := by decide +kernel
theorem dX5_now_32 : decode cX5_now 32 = .ok (.getfield 34, 3) := by decide +kernel
theorem dX5_now_35 : decode cX5_now 35 = .ok (.bipush 12, 2) := by decide +kernel
theorem dX5_now_37 : decode cX5_now 37 = .ok (.iload_n 3, 1) := by decide +kernel
theorem dX5_now_38 : decode cX5_now 38 = .ok (.iadd, 1) := by decide +kernel
theorem dX5_now_39 : decode cX5_now 39 = .ok (.iaload, 1) := by decide +kernel
theorem dX5_now_40 : decode cX5_now 40 = .ok (.iadd, 1) := by decide +kernel
theorem dX5_now_41 : decode cX5_now 41 = .ok (.istore_n 2, 1) := by decide +kernel
theorem dX5_now_42 : decode cX5_now 42 = .ok (.iinc 3 1, 3) := by decide +kernel
theorem dX5_now_45 : decode cX5_now 45 = .ok (.goto (-25), 3) := by decide +kernel
theorem dX5_now_48 : decode cX5_now 48 = .ok (.iload_n 1, 1) := by decide +kernel
theorem dX5_now_49 : decode cX5_now 49 = .ok (.ifCond .ne 13, 3) := by decide +kernel
theorem dX5_now_52 : decode cX5_now 52 = .ok (.aload_n 0, 1) := by decide +kernel
theorem dX5_now_53 : decode cX5_now 53 = .ok (.getfield 34, 3) := by decide +kernel
theorem dX5_now_56 : decode cX5_now 56 = .ok (.bipush 31, 2) := by decide +kernel
theorem dX5_now_58 : decode cX5_now 58 = .ok (.iaload, 1) := by decide +kernel
theorem dX5_now_59 : decode cX5_now 59 = .ok (.goto 55, 3) := by decide +kernel
theorem dX5_now_62 : decode cX5_now 62 = .ok (.iload_n 1, 1) := by decide +kernel
theorem dX5_now_63 : decode cX5_now 63 = .ok (.iconst 1, 1) := by decide +kernel
theorem dX5_now_64 : decode cX5_now 64 = .ok (.if_icmp .ne 13, 3) := by decide +kernel
theorem dX5_now_67 : decode cX5_now 67 = .ok (.aload_n 0, 1) := by decide +kernel
theorem dX5_now_68 : decode cX5_now 68 = .ok (.getfield 34, 3) := by decide +kernel
theorem dX5_now_71 : decode cX5_now 71 = .ok (.bipush 30, 2) := by decide +kernel
theorem dX5_now_73 : decode cX5_now 73 = .ok (.iaload, 1) := by decide +kernel
theorem dX5_now_74 : decode cX5_now 74 = .ok (.goto 40, 3) := by decide +kernel
theorem dX5_now_77 : decode cX5_now 77 = .ok (.iload_n 1, 1) := by decide +kernel
theorem dX5_now_78 : decode cX5_now 78 = .ok (.iconst 2, 1) := by decide +kernel
theorem dX5_now_79 : decode cX5_now 79 = .ok (.if_icmp .ne 7, 3) := by decide +kernel
theorem dX5_now_82 : decode cX5_now 82 = .ok (.iload_n 2, 1) := by decide +kernel
theorem dX5_now_83 : decode cX5_now 83 = .ok (.goto 31, 3) := by decide +kernel
theorem dX5_now_86 : decode cX5_now 86 = .ok (.iload_n 1, 1) := by decide +kernel
theorem dX5_now_87 : decode cX5_now 87 = .ok (.iconst 3, 1) := by decide +kernel
theorem dX5_now_88 : decode cX5_now 88 = .ok (.if_icmp .ne 10, 3) := by decide +kernel
theorem dX5_now_91 : decode cX5_now 91 = .ok (.aload_n 0, 1) := by decide +kernel
theorem dX5_now_92 : decode cX5_now 92 = .ok (.invokevirtual 148, 3) := by decide +kernel
theorem dX5_now_95 : decode cX5_now 95 = .ok (.goto 19, 3) := by decide +kernel
theorem dX5_now_98 : decode cX5_now 98 = .ok (.iload_n 1, 1) := by decide +kernel
theorem dX5_now_99 : decode cX5_now 99 = .ok (.iconst 4, 1) := by decide +kernel
theorem dX5_now_100 : decode cX5_now 100 = .ok (.if_icmp .ne 10, 3) := by decide +kernel
theorem dX5_now_103 : decode cX5_now 103 = .ok (.aload_n 0, 1) := by decide +kernel
theorem dX5_now_104 : decode cX5_now 104 = .ok (.invokevirtual 152, 3) := by decide +kernel
theorem dX5_now_107 : decode cX5_now 107 = .ok (.goto 7, 3) := by decide +kernel
theorem dX5_now_110 : decode cX5_now 110 = .ok (.aload_n 0, 1) := by decide +kernel
theorem dX5_now_111 : decode cX5_now 111 = .ok (.getfield 117, 3) := by decide +kernel
theorem dX5_now_114 : decode cX5_now 114 = .ok (.ireturn, 1) := by decide +kernel
theorem dX5_notes_0 : decode cX5_notes 0 = .ok (.aload_n 0, 1) := by decide +kernel
theorem dX5_notes_1 : decode cX5_notes 1 = .ok (.getfield 117, 3) := by decide +kernel
theorem dX5_notes_4 : decode cX5_notes 4 = .ok (.bipush 10, 2) := by decide +kernel
theorem dX5_notes_6 : decode cX5_notes 6 = .ok (.if_icmp .ne 39, 3) := by decide +kernel
theorem dX5_notes_9 : decode cX5_notes 9 = .ok (.iconst 0, 1) := by decide +kernel
theorem dX5_notes_10 : decode cX5_notes 10 = .ok (.istore_n 1, 1) := by decide +kernel
theorem dX5_notes_11 : decode cX5_notes 11 = .ok (.iload_n 1, 1) := by decide +kernel
theorem dX5_notes_12 : decode cX5_notes 12 = .ok (.sipush 288, 3) := by decide +kernel
theorem dX5_notes_15 : decode cX5_notes 15 = .ok (.if_icmp .ge 24, 3) := by decide +kernel
theorem dX5_notes_18 : decode cX5_notes 18 = .ok (.aload_n 0, 1) := by decide +kernel
theorem dX5_notes_19 : decode cX5_notes 19 = .ok (.getfield 47, 3) := by decide +kernel
theorem dX5_notes_22 : decode cX5_notes 22 = .ok (.iload_n 1, 1) := by decide +kernel
theorem dX5_notes_23 : decode cX5_notes 23 = .ok (.aload_n 0, 1) := by decide +kernel
theorem dX5_notes_24 : decode cX5_notes 24 = .ok (.getfield 47, 3) := by decide +kernel
theorem dX5_notes_27 : decode cX5_notes 27 = .ok (.iload_n 1, 1) := by decide +kernel
theorem dX5_notes_28 : decode cX5_notes 28 = .ok (.bipush 32, 2) := by decide +kernel
theorem dX5_notes_30 : decode cX5_notes 30 = .ok (.iadd, 1) := by decide +kernel
theorem dX5_notes_31 : decode cX5_notes 31 = .ok (.iaload, 1) := by decide +kernel
theorem dX5_notes_32 : decode cX5_notes 32 = .ok (.iastore, 1) := by decide +kernel
theorem dX5_notes_33 : decode cX5_notes 33 = .ok (.iinc 1 1, 3) := by decide +kernel
theorem dX5_notes_36 : decode cX5_notes 36 = .ok (.goto (-25), 3) := by decide +kernel
theorem dX5_notes_39 : decode cX5_notes 39 = .ok (.aload_n 0, 1) := by decide +kernel
theorem dX5_notes_40 : decode cX5_notes 40 = .ok (.bipush 9, 2) := by decide +kernel
theorem dX5_notes_42 : decode cX5_notes 42 = .ok (.putfield 117, 3) := by decide +kernel
theorem dX5_notes_45 : decode cX5_notes 45 = .ok (.iconst 0, 1) := by decide +kernel
theorem dX5_notes_46 : decode cX5_notes 46 = .ok (.istore_n 1, 1) := by decide +kernel
theorem dX5_notes_47 : decode cX5_notes 47 = .ok (.iload_n 1, 1) := by decide +kernel
theorem dX5_notes_48 : decode cX5_notes 48 = .ok (.bipush 32, 2) := by decide +kernel
theorem dX5_notes_50 : decode cX5_notes 50 = .ok (.if_icmp .ge 29, 3) := by decide +kernel
theorem dX5_notes_53 : decode cX5_notes 53 = .ok (.aload_n 0, 1) := by decide +kernel
theorem dX5_notes_54 : decode cX5_notes 54 = .ok (.getfield 47, 3) := by decide +kernel
theorem dX5_notes_57 : decode cX5_notes 57 = .ok (.bipush 32, 2) := by decide +kernel
theorem dX5_notes_59 : decode cX5_notes 59 = .ok (.aload_n 0, 1) := by decide +kernel
theorem dX5_notes_60 : decode cX5_notes 60 = .ok (.getfield 117, 3) := by decide +kernel
theorem dX5_notes_63 : decode cX5_notes 63 = .ok (.imul, 1) := by decide +kernel
theorem dX5_notes_64 : decode cX5_notes 64 = .ok (.iload_n 1, 1) := by decide +kernel
theorem dX5_notes_65 : decode cX5_notes 65 = .ok (.iadd, 1) := by decide +kernel
theorem dX5_notes_66 : decode cX5_notes 66 = .ok (.aload_n 0, 1) := by decide +kernel
theorem dX5_notes_67 : decode cX5_notes 67 = .ok (.getfield 34, 3) := by decide +kernel
theorem dX5_notes_70 : decode cX5_notes 70 = .ok (.iload_n 1, 1) := by decide +kernel
theorem dX5_notes_71 : decode cX5_notes 71 = .ok (.iaload, 1) := by decide +kernel
theorem dX5_notes_72 : decode cX5_notes 72 = .ok (.iastore, 1) := by decide +kernel
theorem dX5_notes_73 : decode cX5_notes 73 = .ok (.iinc 1 1, 3) := by decide +kernel
theorem dX5_notes_76 : decode cX5_notes 76 = .ok (.goto (-29), 3) := by decide +kernel
theorem dX5_notes_79 : decode cX5_notes 79 = .ok (.aload_n 0, 1) := by decide +kernel
theorem dX5_notes_80 : decode cX5_notes 80 = .ok (.dup, 1) := by decide +kernel
theorem dX5_notes_81 : decode cX5_notes 81 = .ok (.getfield 117, 3) := by decide +kernel
theorem dX5_notes_84 : decode cX5_notes 84 = .ok (.iconst 1, 1) := by decide +kernel
theorem dX5_notes_85 : decode cX5_notes 85 = .ok (.iadd, 1) := by decide +kernel
theorem dX5_notes_86 : decode cX5_notes 86 = .ok (.putfield 117, 3) := by decide +kernel
theorem dX5_notes_89 : decode cX5_notes 89 = .ok (.return_, 1) := by decide +kernel
theorem dX5_becomes_0 : decode cX5_becomes 0 = .ok (.aload_n 0, 1) := by decide +kernel
theorem dX5_becomes_1 : decode cX5_becomes 1 = .ok (.invokevirtual 155, 3) := by decide +kernel
theorem dX5_becomes_4 : decode cX5_becomes 4 = .ok (.aload_n 0, 1) := by decide +kernel
theorem dX5_becomes_5 : decode cX5_becomes 5 = .ok (.getfield 34, 3) := by decide +kernel
theorem dX5_becomes_8 : decode cX5_becomes 8 = .ok (.iload_n 1, 1) := by decide +kernel
theorem dX5_becomes_9 : decode cX5_becomes 9 = .ok (.iaload, 1) := by decide +kernel
theorem dX5_becomes_10 : decode cX5_becomes 10 = .ok (.istore_n 3, 1) := by decide +kernel
theorem dX5_becomes_11 : decode cX5_becomes 11 = .ok (.aload_n 0, 1) := by decide +kernel
theorem dX5_becomes_12 : decode cX5_becomes 12 = .ok (.getfield 34, 3) := by decide +kernel
theorem dX5_becomes_15 : decode cX5_becomes 15 = .ok (.iload_n 1, 1) := by decide +kernel
theorem dX5_becomes_16 : decode cX5_becomes 16 = .ok (.iload_n 2, 1) := by decide +kernel
theorem dX5_becomes_17 : decode cX5_becomes 17 = .ok (.iastore, 1) := by decide +kernel
theorem dX5_becomes_18 : decode cX5_becomes 18 = .ok (.iload_n 3, 1) := by decide +kernel
theorem dX5_becomes_19 : decode cX5_becomes 19 = .ok (.ireturn, 1) := by decide +kernel
theorem dX5_sows_0 : decode cX5_sows 0 = .ok (.aload_n 0, 1) := by decide +kernel
theorem dX5_sows_1 : decode cX5_sows 1 = .ok (.iconst 0, 1) := by decide +kernel
theorem dX5_sows_2 : decode cX5_sows 2 = .ok (.putfield 62, 3) := by decide +kernel
theorem dX5_sows_5 : decode cX5_sows 5 = .ok (.aload_n 0, 1) := by decide +kernel
theorem dX5_sows_6 : decode cX5_sows 6 = .ok (.iload_n 1, 1) := by decide +kernel
theorem dX5_sows_7 : decode cX5_sows 7 = .ok (.invokevirtual 134, 3) := by decide +kernel
theorem dX5_sows_10 : decode cX5_sows 10 = .ok (.ifCond .eq 22, 3) := by decide +kernel
theorem dX5_sows_13 : decode cX5_sows 13 = .ok (.aload_n 0, 1) := by decide +kernel
theorem dX5_sows_14 : decode cX5_sows 14 = .ok (.iload_n 2, 1) := by decide +kernel
theorem dX5_sows_15 : decode cX5_sows 15 = .ok (.invokevirtual 138, 3) := by decide +kernel
theorem dX5_sows_18 : decode cX5_sows 18 = .ok (.ifCond .eq 14, 3) := by decide +kernel
theorem dX5_sows_21 : decode cX5_sows 21 = .ok (.aload_n 0, 1) := by decide +kernel
theorem dX5_sows_22 : decode cX5_sows 22 = .ok (.iconst 0, 1) := by decide +kernel
theorem dX5_sows_23 : decode cX5_sows 23 = .ok (.iload_n 1, 1) := by decide +kernel
theorem dX5_sows_24 : decode cX5_sows 24 = .ok (.iadd, 1) := by decide +kernel
theorem dX5_sows_25 : decode cX5_sows 25 = .ok (.iload_n 2, 1) := by decide +kernel
theorem dX5_sows_26 : decode cX5_sows 26 = .ok (.invokevirtual 158, 3) := by decide +kernel
theorem dX5_sows_29 : decode cX5_sows 29 = .ok (.goto 4, 3) := by decide +kernel
theorem dX5_sows_32 : decode cX5_sows 32 = .ok (.iconst (-1), 1) := by decide +kernel
theorem dX5_sows_33 : decode cX5_sows 33 = .ok (.ireturn, 1) := by decide +kernel
theorem dX5_rains_0 : decode cX5_rains 0 = .ok (.aload_n 0, 1) := by decide +kernel
theorem dX5_rains_1 : decode cX5_rains 1 = .ok (.iconst 0, 1) := by decide +kernel
theorem dX5_rains_2 : decode cX5_rains 2 = .ok (.putfield 62, 3) := by decide +kernel
theorem dX5_rains_5 : decode cX5_rains 5 = .ok (.iload_n 1, 1) := by decide +kernel
theorem dX5_rains_6 : decode cX5_rains 6 = .ok (.iconst 0, 1) := by decide +kernel
theorem dX5_rains_7 : decode cX5_rains 7 = .ok (.iconst 1, 1) := by decide +kernel
theorem dX5_rains_8 : decode cX5_rains 8 = .ok (.invokestatic 66, 3) := by decide +kernel
theorem dX5_rains_11 : decode cX5_rains 11 = .ok (.ifCond .eq 13, 3) := by decide +kernel
theorem dX5_rains_14 : decode cX5_rains 14 = .ok (.aload_n 0, 1) := by decide +kernel
theorem dX5_rains_15 : decode cX5_rains 15 = .ok (.bipush 30, 2) := by decide +kernel
theorem dX5_rains_17 : decode cX5_rains 17 = .ok (.iload_n 1, 1) := by decide +kernel
theorem dX5_rains_18 : decode cX5_rains 18 = .ok (.invokevirtual 158, 3) := by decide +kernel
theorem dX5_rains_21 : decode cX5_rains 21 = .ok (.goto 4, 3) := by decide +kernel
theorem dX5_rains_24 : decode cX5_rains 24 = .ok (.iconst (-1), 1) := by decide +kernel
theorem dX5_rains_25 : decode cX5_rains 25 = .ok (.ireturn, 1) := by decide +kernel
theorem dX5_ropes_0 : decode cX5_ropes 0 = .ok (.aload_n 0, 1) := by decide +kernel
theorem dX5_ropes_1 : decode cX5_ropes 1 = .ok (.iconst 0, 1) := by decide +kernel
theorem dX5_ropes_2 : decode cX5_ropes 2 = .ok (.putfield 62, 3) := by decide +kernel
theorem dX5_ropes_5 : decode cX5_ropes 5 = .ok (.aload_n 0, 1) := by decide +kernel
theorem dX5_ropes_6 : decode cX5_ropes 6 = .ok (.iload_n 1, 1) := by decide +kernel
theorem dX5_ropes_7 : decode cX5_ropes 7 = .ok (.invokevirtual 134, 3) := by decide +kernel
theorem dX5_ropes_10 : decode cX5_ropes 10 = .ok (.ifCond .eq 24, 3) := by decide +kernel
theorem dX5_ropes_13 : decode cX5_ropes 13 = .ok (.iload_n 2, 1) := by decide +kernel
theorem dX5_ropes_14 : decode cX5_ropes 14 = .ok (.iconst 0, 1) := by decide +kernel
theorem dX5_ropes_15 : decode cX5_ropes 15 = .ok (.iconst 3, 1) := by decide +kernel
theorem dX5_ropes_16 : decode cX5_ropes 16 = .ok (.invokestatic 66, 3) := by decide +kernel
theorem dX5_ropes_19 : decode cX5_ropes 19 = .ok (.ifCond .eq 15, 3) := by decide +kernel
theorem dX5_ropes_22 : decode cX5_ropes 22 = .ok (.aload_n 0, 1) := by decide +kernel
theorem dX5_ropes_23 : decode cX5_ropes 23 = .ok (.bipush 12, 2) := by decide +kernel
theorem dX5_ropes_25 : decode cX5_ropes 25 = .ok (.iload_n 1, 1) := by decide +kernel
theorem dX5_ropes_26 : decode cX5_ropes 26 = .ok (.iadd, 1) := by decide +kernel
theorem dX5_ropes_27 : decode cX5_ropes 27 = .ok (.iload_n 2, 1) := by decide +kernel
theorem dX5_ropes_28 : decode cX5_ropes 28 = .ok (.invokevirtual 158, 3) := by decide +kernel
theorem dX5_ropes_31 : decode cX5_ropes 31 = .ok (.goto 4, 3) := by decide +kernel
theorem dX5_ropes_34 : decode cX5_ropes 34 = .ok (.iconst (-1), 1) := by decide +kernel
theorem dX5_ropes_35 : decode cX5_ropes 35 = .ok (.ireturn, 1) := by decide +kernel
theorem dX5_mules_0 : decode cX5_mules 0 = .ok (.aload_n 0, 1) := by decide +kernel
theorem dX5_mules_1 : decode cX5_mules 1 = .ok (.iconst 0, 1) := by decide +kernel
theorem dX5_mules_2 : decode cX5_mules 2 = .ok (.putfield 62, 3) := by decide +kernel
theorem dX5_mules_5 : decode cX5_mules 5 = .ok (.aload_n 0, 1) := by decide +kernel
theorem dX5_mules_6 : decode cX5_mules 6 = .ok (.iload_n 1, 1) := by decide +kernel
theorem dX5_mules_7 : decode cX5_mules 7 = .ok (.invokevirtual 134, 3) := by decide +kernel
theorem dX5_mules_10 : decode cX5_mules 10 = .ok (.ifCond .eq 24, 3) := by decide +kernel
theorem dX5_mules_13 : decode cX5_mules 13 = .ok (.iload_n 2, 1) := by decide +kernel
theorem dX5_mules_14 : decode cX5_mules 14 = .ok (.iconst 0, 1) := by decide +kernel
theorem dX5_mules_15 : decode cX5_mules 15 = .ok (.iconst 1, 1) := by decide +kernel
theorem dX5_mules_16 : decode cX5_mules 16 = .ok (.invokestatic 66, 3) := by decide +kernel
theorem dX5_mules_19 : decode cX5_mules 19 = .ok (.ifCond .eq 15, 3) := by decide +kernel
theorem dX5_mules_22 : decode cX5_mules 22 = .ok (.aload_n 0, 1) := by decide +kernel
theorem dX5_mules_23 : decode cX5_mules 23 = .ok (.bipush 18, 2) := by decide +kernel
theorem dX5_mules_25 : decode cX5_mules 25 = .ok (.iload_n 1, 1) := by decide +kernel
theorem dX5_mules_26 : decode cX5_mules 26 = .ok (.iadd, 1) := by decide +kernel
theorem dX5_mules_27 : decode cX5_mules 27 = .ok (.iload_n 2, 1) := by decide +kernel
theorem dX5_mules_28 : decode cX5_mules 28 = .ok (.invokevirtual 158, 3) := by decide +kernel
theorem dX5_mules_31 : decode cX5_mules 31 = .ok (.goto 4, 3) := by decide +kernel
theorem dX5_mules_34 : decode cX5_mules 34 = .ok (.iconst (-1), 1) := by decide +kernel
theorem dX5_mules_35 : decode cX5_mules 35 = .ok (.ireturn, 1) := by decide +kernel
theorem dX5_puts_0 : decode cX5_puts 0 = .ok (.aload_n 1, 1) := by decide +kernel
theorem dX5_puts_1 : decode cX5_puts 1 = .ok (.bipush 6, 2) := by decide +kernel
theorem dX5_puts_3 : decode cX5_puts 3 = .ok (.iload_n 2, 1) := by decide +kernel
theorem dX5_puts_4 : decode cX5_puts 4 = .ok (.iadd, 1) := by decide +kernel
theorem dX5_puts_5 : decode cX5_puts 5 = .ok (.iload_n 3, 1) := by decide +kernel
theorem dX5_puts_6 : decode cX5_puts 6 = .ok (.iastore, 1) := by decide +kernel
theorem dX5_puts_7 : decode cX5_puts 7 = .ok (.iload_n 3, 1) := by decide +kernel
theorem dX5_puts_8 : decode cX5_puts 8 = .ok (.ifCond .le 14, 3) := by decide +kernel
theorem dX5_puts_11 : decode cX5_puts 11 = .ok (.aload_n 1, 1) := by decide +kernel
theorem dX5_puts_12 : decode cX5_puts 12 = .ok (.bipush 6, 2) := by decide +kernel
theorem dX5_puts_14 : decode cX5_puts 14 = .ok (.iload_n 3, 1) := by decide +kernel
theorem dX5_puts_15 : decode cX5_puts 15 = .ok (.iadd, 1) := by decide +kernel
theorem dX5_puts_16 : decode cX5_puts 16 = .ok (.iconst 1, 1) := by decide +kernel
theorem dX5_puts_17 : decode cX5_puts 17 = .ok (.isub, 1) := by decide +kernel
theorem dX5_puts_18 : decode cX5_puts 18 = .ok (.iload_n 2, 1) := by decide +kernel
theorem dX5_puts_19 : decode cX5_puts 19 = .ok (.iconst 1, 1) := by decide +kernel
theorem dX5_puts_20 : decode cX5_puts 20 = .ok (.iadd, 1) := by decide +kernel
theorem dX5_puts_21 : decode cX5_puts 21 = .ok (.iastore, 1) := by decide +kernel
theorem dX5_puts_22 : decode cX5_puts 22 = .ok (.return_, 1) := by decide +kernel
theorem dX5_marries_0 : decode cX5_marries 0 = .ok (.aload_n 0, 1) := by decide +kernel
theorem dX5_marries_1 : decode cX5_marries 1 = .ok (.iconst 0, 1) := by decide +kernel
theorem dX5_marries_2 : decode cX5_marries 2 = .ok (.putfield 62, 3) := by decide +kernel
theorem dX5_marries_5 : decode cX5_marries 5 = .ok (.aload_n 0, 1) := by decide +kernel
theorem dX5_marries_6 : decode cX5_marries 6 = .ok (.iload_n 1, 1) := by decide +kernel
theorem dX5_marries_7 : decode cX5_marries 7 = .ok (.invokevirtual 134, 3) := by decide +kernel
theorem dX5_marries_10 : decode cX5_marries 10 = .ok (.ifCond .eq 16, 3) := by decide +kernel
theorem dX5_marries_13 : decode cX5_marries 13 = .ok (.aload_n 0, 1) := by decide +kernel
theorem dX5_marries_14 : decode cX5_marries 14 = .ok (.iload_n 2, 1) := by decide +kernel
theorem dX5_marries_15 : decode cX5_marries 15 = .ok (.invokevirtual 134, 3) := by decide +kernel
theorem dX5_marries_18 : decode cX5_marries 18 = .ok (.ifCond .eq 8, 3) := by decide +kernel
theorem dX5_marries_21 : decode cX5_marries 21 = .ok (.iload_n 1, 1) := by decide +kernel
theorem dX5_marries_22 : decode cX5_marries 22 = .ok (.iload_n 2, 1) := by decide +kernel
theorem dX5_marries_23 : decode cX5_marries 23 = .ok (.if_icmp .ne 5, 3) := by decide +kernel
theorem dX5_marries_26 : decode cX5_marries 26 = .ok (.iconst (-1), 1) := by decide +kernel
theorem dX5_marries_27 : decode cX5_marries 27 = .ok (.ireturn, 1) := by decide +kernel
theorem dX5_marries_28 : decode cX5_marries 28 = .ok (.aload_n 0, 1) := by decide +kernel
theorem dX5_marries_29 : decode cX5_marries 29 = .ok (.invokevirtual 155, 3) := by decide +kernel
theorem dX5_marries_32 : decode cX5_marries 32 = .ok (.aload_n 0, 1) := by decide +kernel
theorem dX5_marries_33 : decode cX5_marries 33 = .ok (.getfield 34, 3) := by decide +kernel
theorem dX5_marries_36 : decode cX5_marries 36 = .ok (.bipush 6, 2) := by decide +kernel
theorem dX5_marries_38 : decode cX5_marries 38 = .ok (.iload_n 1, 1) := by decide +kernel
theorem dX5_marries_39 : decode cX5_marries 39 = .ok (.iadd, 1) := by decide +kernel
theorem dX5_marries_40 : decode cX5_marries 40 = .ok (.iaload, 1) := by decide +kernel
theorem dX5_marries_41 : decode cX5_marries 41 = .ok (.istore_n 3, 1) := by decide +kernel
theorem dX5_marries_42 : decode cX5_marries 42 = .ok (.aload_n 0, 1) := by decide +kernel
theorem dX5_marries_43 : decode cX5_marries 43 = .ok (.getfield 34, 3) := by decide +kernel
theorem dX5_marries_46 : decode cX5_marries 46 = .ok (.bipush 6, 2) := by decide +kernel
theorem dX5_marries_48 : decode cX5_marries 48 = .ok (.iload_n 2, 1) := by decide +kernel
theorem dX5_marries_49 : decode cX5_marries 49 = .ok (.iadd, 1) := by decide +kernel
theorem dX5_marries_50 : decode cX5_marries 50 = .ok (.iaload, 1) := by decide +kernel
theorem dX5_marries_51 : decode cX5_marries 51 = .ok (.istore 4, 2) := by decide +kernel
theorem dX5_marries_53 : decode cX5_marries 53 = .ok (.iload_n 3, 1) := by decide +kernel
theorem dX5_marries_54 : decode cX5_marries 54 = .ok (.iload_n 2, 1) := by decide +kernel
theorem dX5_marries_55 : decode cX5_marries 55 = .ok (.iconst 1, 1) := by decide +kernel
theorem dX5_marries_56 : decode cX5_marries 56 = .ok (.iadd, 1) := by decide +kernel
theorem dX5_marries_57 : decode cX5_marries 57 = .ok (.if_icmp .eq 24, 3) := by decide +kernel
theorem dX5_marries_60 : decode cX5_marries 60 = .ok (.aload_n 0, 1) := by decide +kernel
theorem dX5_marries_61 : decode cX5_marries 61 = .ok (.aload_n 0, 1) := by decide +kernel
theorem dX5_marries_62 : decode cX5_marries 62 = .ok (.getfield 34, 3) := by decide +kernel
theorem dX5_marries_65 : decode cX5_marries 65 = .ok (.iload_n 1, 1) := by decide +kernel
theorem dX5_marries_66 : decode cX5_marries 66 = .ok (.iload 4, 2) := by decide +kernel
theorem dX5_marries_68 : decode cX5_marries 68 = .ok (.invokevirtual 161, 3) := by decide +kernel
theorem dX5_marries_71 : decode cX5_marries 71 = .ok (.aload_n 0, 1) := by decide +kernel
theorem dX5_marries_72 : decode cX5_marries 72 = .ok (.aload_n 0, 1) := by decide +kernel
theorem dX5_marries_73 : decode cX5_marries 73 = .ok (.getfield 34, 3) := by decide +kernel
theorem dX5_marries_76 : decode cX5_marries 76 = .ok (.iload_n 2, 1) := by decide +kernel
theorem dX5_marries_77 : decode cX5_marries 77 = .ok (.iload_n 3, 1) := by decide +kernel
theorem dX5_marries_78 : decode cX5_marries 78 = .ok (.invokevirtual 161, 3) := by decide +kernel
theorem dX5_marries_81 : decode cX5_marries 81 = .ok (.aload_n 0, 1) := by decide +kernel
theorem dX5_marries_82 : decode cX5_marries 82 = .ok (.getfield 34, 3) := by decide +kernel
theorem dX5_marries_85 : decode cX5_marries 85 = .ok (.bipush 6, 2) := by decide +kernel
theorem dX5_marries_87 : decode cX5_marries 87 = .ok (.iload_n 1, 1) := by decide +kernel
theorem dX5_marries_88 : decode cX5_marries 88 = .ok (.iadd, 1) := by decide +kernel
theorem dX5_marries_89 : decode cX5_marries 89 = .ok (.iaload, 1) := by decide +kernel
theorem dX5_marries_90 : decode cX5_marries 90 = .ok (.ifCond .ne 8, 3) := by decide +kernel
theorem dX5_marries_93 : decode cX5_marries 93 = .ok (.bipush (-9), 2) := by decide +kernel
theorem dX5_marries_95 : decode cX5_marries 95 = .ok (.goto 14, 3) := by decide +kernel
theorem dX5_marries_98 : decode cX5_marries 98 = .ok (.aload_n 0, 1) := by decide +kernel
theorem dX5_marries_99 : decode cX5_marries 99 = .ok (.getfield 34, 3) := by decide +kernel
theorem dX5_marries_102 : decode cX5_marries 102 = .ok (.bipush 6, 2) := by decide +kernel
theorem dX5_marries_104 : decode cX5_marries 104 = .ok (.iload_n 1, 1) := by decide +kernel
theorem dX5_marries_105 : decode cX5_marries 105 = .ok (.iadd, 1) := by decide +kernel
theorem dX5_marries_106 : decode cX5_marries 106 = .ok (.iaload, 1) := by decide +kernel
theorem dX5_marries_107 : decode cX5_marries 107 = .ok (.iconst 1, 1) := by decide +kernel
theorem dX5_marries_108 : decode cX5_marries 108 = .ok (.isub, 1) := by decide +kernel
theorem dX5_marries_109 : decode cX5_marries 109 = .ok (.ireturn, 1) := by decide +kernel
theorem dX5_goes_0 : decode cX5_goes 0 = .ok (.iconst 0, 1) := by decide +kernel
theorem dX5_goes_1 : decode cX5_goes 1 = .ok (.istore_n 2, 1) := by decide +kernel
theorem dX5_goes_2 : decode cX5_goes 2 = .ok (.iconst 0, 1) := by decide +kernel
theorem dX5_goes_3 : decode cX5_goes 3 = .ok (.istore_n 3, 1) := by decide +kernel
theorem dX5_goes_4 : decode cX5_goes 4 = .ok (.iload_n 3, 1) := by decide +kernel
theorem dX5_goes_5 : decode cX5_goes 5 = .ok (.aload_n 0, 1) := by decide +kernel
theorem dX5_goes_6 : decode cX5_goes 6 = .ok (.getfield 13, 3) := by decide +kernel
theorem dX5_goes_9 : decode cX5_goes 9 = .ok (.iconst 1, 1) := by decide +kernel
theorem dX5_goes_10 : decode cX5_goes 10 = .ok (.iaload, 1) := by decide +kernel
theorem dX5_goes_11 : decode cX5_goes 11 = .ok (.if_icmp .ge 84, 3) := by decide +kernel
theorem dX5_goes_14 : decode cX5_goes 14 = .ok (.aload_n 0, 1) := by decide +kernel
theorem dX5_goes_15 : decode cX5_goes 15 = .ok (.aload_n 1, 1) := by decide +kernel
theorem dX5_goes_16 : decode cX5_goes 16 = .ok (.iload_n 3, 1) := by decide +kernel
theorem dX5_goes_17 : decode cX5_goes 17 = .ok (.invokevirtual 142, 3) := by decide +kernel
theorem dX5_goes_20 : decode cX5_goes 20 = .ok (.aload_n 0, 1) := by decide +kernel
theorem dX5_goes_21 : decode cX5_goes 21 = .ok (.getfield 28, 3) := by decide +kernel
theorem dX5_goes_24 : decode cX5_goes 24 = .ok (.iload_n 3, 1) := by decide +kernel
theorem dX5_goes_25 : decode cX5_goes 25 = .ok (.iaload, 1) := by decide +kernel
theorem dX5_goes_26 : decode cX5_goes 26 = .ok (.isub, 1) := by decide +kernel
theorem dX5_goes_27 : decode cX5_goes 27 = .ok (.istore 4, 2) := by decide +kernel
theorem dX5_goes_29 : decode cX5_goes 29 = .ok (.aload_n 1, 1) := by decide +kernel
theorem dX5_goes_30 : decode cX5_goes 30 = .ok (.bipush 24, 2) := by decide +kernel
theorem dX5_goes_32 : decode cX5_goes 32 = .ok (.iload_n 3, 1) := by decide +kernel
theorem dX5_goes_33 : decode cX5_goes 33 = .ok (.iadd, 1) := by decide +kernel
theorem dX5_goes_34 : decode cX5_goes 34 = .ok (.iaload, 1) := by decide +kernel
theorem dX5_goes_35 : decode cX5_goes 35 = .ok (.iload 4, 2) := by decide +kernel
theorem dX5_goes_37 : decode cX5_goes 37 = .ok (.iadd, 1) := by decide +kernel
theorem dX5_goes_38 : decode cX5_goes 38 = .ok (.istore 5, 2) := by decide +kernel
theorem dX5_goes_40 : decode cX5_goes 40 = .ok (.aload_n 1, 1) := by decide +kernel
theorem dX5_goes_41 : decode cX5_goes 41 = .ok (.bipush 24, 2) := by decide +kernel
theorem dX5_goes_43 : decode cX5_goes 43 = .ok (.iload_n 3, 1) := by decide +kernel
theorem dX5_goes_44 : decode cX5_goes 44 = .ok (.iadd, 1) := by decide +kernel
theorem dX5_goes_45 : decode cX5_goes 45 = .ok (.iload 5, 2) := by decide +kernel
theorem dX5_goes_47 : decode cX5_goes 47 = .ok (.sipush (-9999), 3) := by decide +kernel
theorem dX5_goes_50 : decode cX5_goes 50 = .ok (.if_icmp .ge 9, 3) := by decide +kernel
theorem dX5_goes_53 : decode cX5_goes 53 = .ok (.sipush (-9999), 3) := by decide +kernel
theorem dX5_goes_56 : decode cX5_goes 56 = .ok (.goto 19, 3) := by decide +kernel
theorem dX5_goes_59 : decode cX5_goes 59 = .ok (.iload 5, 2) := by decide +kernel
theorem dX5_goes_61 : decode cX5_goes 61 = .ok (.sipush 9999, 3) := by decide +kernel
theorem dX5_goes_64 : decode cX5_goes 64 = .ok (.if_icmp .le 9, 3) := by decide +kernel
theorem dX5_goes_67 : decode cX5_goes 67 = .ok (.sipush 9999, 3) := by decide +kernel
theorem dX5_goes_70 : decode cX5_goes 70 = .ok (.goto 5, 3) := by decide +kernel
theorem dX5_goes_73 : decode cX5_goes 73 = .ok (.iload 5, 2) := by decide +kernel
theorem dX5_goes_75 : decode cX5_goes 75 = .ok (.iastore, 1) := by decide +kernel
theorem dX5_goes_76 : decode cX5_goes 76 = .ok (.iload_n 2, 1) := by decide +kernel
theorem dX5_goes_77 : decode cX5_goes 77 = .ok (.iload 4, 2) := by decide +kernel
theorem dX5_goes_79 : decode cX5_goes 79 = .ok (.ifCond .lt 7, 3) := by decide +kernel
theorem dX5_goes_82 : decode cX5_goes 82 = .ok (.iconst 1, 1) := by decide +kernel
theorem dX5_goes_83 : decode cX5_goes 83 = .ok (.goto 4, 3) := by decide +kernel
theorem dX5_goes_86 : decode cX5_goes 86 = .ok (.iconst 0, 1) := by decide +kernel
theorem dX5_goes_87 : decode cX5_goes 87 = .ok (.iadd, 1) := by decide +kernel
theorem dX5_goes_88 : decode cX5_goes 88 = .ok (.istore_n 2, 1) := by decide +kernel
theorem dX5_goes_89 : decode cX5_goes 89 = .ok (.iinc 3 1, 3) := by decide +kernel
theorem dX5_goes_92 : decode cX5_goes 92 = .ok (.goto (-88), 3) := by decide +kernel
theorem dX5_goes_95 : decode cX5_goes 95 = .ok (.aload_n 1, 1) := by decide +kernel
theorem dX5_goes_96 : decode cX5_goes 96 = .ok (.bipush 31, 2) := by decide +kernel
theorem dX5_goes_98 : decode cX5_goes 98 = .ok (.dup2, 1) := by decide +kernel
theorem dX5_goes_99 : decode cX5_goes 99 = .ok (.iaload, 1) := by decide +kernel
theorem dX5_goes_100 : decode cX5_goes 100 = .ok (.iconst 1, 1) := by decide +kernel
theorem dX5_goes_101 : decode cX5_goes 101 = .ok (.iadd, 1) := by decide +kernel
theorem dX5_goes_102 : decode cX5_goes 102 = .ok (.iastore, 1) := by decide +kernel
theorem dX5_goes_103 : decode cX5_goes 103 = .ok (.iload_n 2, 1) := by decide +kernel
theorem dX5_goes_104 : decode cX5_goes 104 = .ok (.ireturn, 1) := by decide +kernel
theorem dX5_year_0 : decode cX5_year 0 = .ok (.aload_n 0, 1) := by decide +kernel
theorem dX5_year_1 : decode cX5_year 1 = .ok (.iconst 0, 1) := by decide +kernel
theorem dX5_year_2 : decode cX5_year 2 = .ok (.putfield 62, 3) := by decide +kernel
theorem dX5_year_5 : decode cX5_year 5 = .ok (.aload_n 0, 1) := by decide +kernel
theorem dX5_year_6 : decode cX5_year 6 = .ok (.getfield 34, 3) := by decide +kernel
theorem dX5_year_9 : decode cX5_year 9 = .ok (.bipush 31, 2) := by decide +kernel
theorem dX5_year_11 : decode cX5_year 11 = .ok (.iaload, 1) := by decide +kernel
theorem dX5_year_12 : decode cX5_year 12 = .ok (.sipush 999, 3) := by decide +kernel
theorem dX5_year_15 : decode cX5_year 15 = .ok (.if_icmp .ne 6, 3) := by decide +kernel
theorem dX5_year_18 : decode cX5_year 18 = .ok (.bipush (-2), 2) := by decide +kernel
theorem dX5_year_20 : decode cX5_year 20 = .ok (.ireturn, 1) := by decide +kernel
theorem dX5_year_21 : decode cX5_year 21 = .ok (.aload_n 0, 1) := by decide +kernel
theorem dX5_year_22 : decode cX5_year 22 = .ok (.invokevirtual 155, 3) := by decide +kernel
theorem dX5_year_25 : decode cX5_year 25 = .ok (.aload_n 0, 1) := by decide +kernel
theorem dX5_year_26 : decode cX5_year 26 = .ok (.aload_n 0, 1) := by decide +kernel
theorem dX5_year_27 : decode cX5_year 27 = .ok (.getfield 34, 3) := by decide +kernel
theorem dX5_year_30 : decode cX5_year 30 = .ok (.invokevirtual 165, 3) := by decide +kernel
theorem dX5_year_33 : decode cX5_year 33 = .ok (.ireturn, 1) := by decide +kernel
theorem dX5_undo_0 : decode cX5_undo 0 = .ok (.aload_n 0, 1) := by decide +kernel
theorem dX5_undo_1 : decode cX5_undo 1 = .ok (.iconst 0, 1) := by decide +kernel
theorem dX5_undo_2 : decode cX5_undo 2 = .ok (.putfield 62, 3) := by decide +kernel
theorem dX5_undo_5 : decode cX5_undo 5 = .ok (.aload_n 0, 1) := by decide +kernel
theorem dX5_undo_6 : decode cX5_undo 6 = .ok (.getfield 117, 3) := by decide +kernel
theorem dX5_undo_9 : decode cX5_undo 9 = .ok (.ifCond .ne 6, 3) := by decide +kernel
theorem dX5_undo_12 : decode cX5_undo 12 = .ok (.bipush (-2), 2) := by decide +kernel
theorem dX5_undo_14 : decode cX5_undo 14 = .ok (.ireturn, 1) := by decide +kernel
theorem dX5_undo_15 : decode cX5_undo 15 = .ok (.aload_n 0, 1) := by decide +kernel
theorem dX5_undo_16 : decode cX5_undo 16 = .ok (.dup, 1) := by decide +kernel
theorem dX5_undo_17 : decode cX5_undo 17 = .ok (.getfield 117, 3) := by decide +kernel
theorem dX5_undo_20 : decode cX5_undo 20 = .ok (.iconst 1, 1) := by decide +kernel
theorem dX5_undo_21 : decode cX5_undo 21 = .ok (.isub, 1) := by decide +kernel
theorem dX5_undo_22 : decode cX5_undo 22 = .ok (.putfield 117, 3) := by decide +kernel
theorem dX5_undo_25 : decode cX5_undo 25 = .ok (.iconst 0, 1) := by decide +kernel
theorem dX5_undo_26 : decode cX5_undo 26 = .ok (.istore_n 1, 1) := by decide +kernel
theorem dX5_undo_27 : decode cX5_undo 27 = .ok (.iload_n 1, 1) := by decide +kernel
theorem dX5_undo_28 : decode cX5_undo 28 = .ok (.bipush 32, 2) := by decide +kernel
theorem dX5_undo_30 : decode cX5_undo 30 = .ok (.if_icmp .ge 29, 3) := by decide +kernel
theorem dX5_undo_33 : decode cX5_undo 33 = .ok (.aload_n 0, 1) := by decide +kernel
theorem dX5_undo_34 : decode cX5_undo 34 = .ok (.getfield 34, 3) := by decide +kernel
theorem dX5_undo_37 : decode cX5_undo 37 = .ok (.iload_n 1, 1) := by decide +kernel
theorem dX5_undo_38 : decode cX5_undo 38 = .ok (.aload_n 0, 1) := by decide +kernel
theorem dX5_undo_39 : decode cX5_undo 39 = .ok (.getfield 47, 3) := by decide +kernel
theorem dX5_undo_42 : decode cX5_undo 42 = .ok (.bipush 32, 2) := by decide +kernel
theorem dX5_undo_44 : decode cX5_undo 44 = .ok (.aload_n 0, 1) := by decide +kernel
theorem dX5_undo_45 : decode cX5_undo 45 = .ok (.getfield 117, 3) := by decide +kernel
theorem dX5_undo_48 : decode cX5_undo 48 = .ok (.imul, 1) := by decide +kernel
theorem dX5_undo_49 : decode cX5_undo 49 = .ok (.iload_n 1, 1) := by decide +kernel
theorem dX5_undo_50 : decode cX5_undo 50 = .ok (.iadd, 1) := by decide +kernel
theorem dX5_undo_51 : decode cX5_undo 51 = .ok (.iaload, 1) := by decide +kernel
theorem dX5_undo_52 : decode cX5_undo 52 = .ok (.iastore, 1) := by decide +kernel
theorem dX5_undo_53 : decode cX5_undo 53 = .ok (.iinc 1 1, 3) := by decide +kernel
theorem dX5_undo_56 : decode cX5_undo 56 = .ok (.goto (-29), 3) := by decide +kernel
theorem dX5_undo_59 : decode cX5_undo 59 = .ok (.aload_n 0, 1) := by decide +kernel
theorem dX5_undo_60 : decode cX5_undo 60 = .ok (.getfield 117, 3) := by decide +kernel
theorem dX5_undo_63 : decode cX5_undo 63 = .ok (.ireturn, 1) := by decide +kernel
theorem dX5_asNow_0 : decode cX5_asNow 0 = .ok (.iconst 0, 1) := by decide +kernel
theorem dX5_asNow_1 : decode cX5_asNow 1 = .ok (.istore_n 1, 1) := by decide +kernel
theorem dX5_asNow_2 : decode cX5_asNow 2 = .ok (.iload_n 1, 1) := by decide +kernel
theorem dX5_asNow_3 : decode cX5_asNow 3 = .ok (.bipush 32, 2) := by decide +kernel
theorem dX5_asNow_5 : decode cX5_asNow 5 = .ok (.if_icmp .ge 21, 3) := by decide +kernel
theorem dX5_asNow_8 : decode cX5_asNow 8 = .ok (.aload_n 0, 1) := by decide +kernel
theorem dX5_asNow_9 : decode cX5_asNow 9 = .ok (.getfield 37, 3) := by decide +kernel
theorem dX5_asNow_12 : decode cX5_asNow 12 = .ok (.iload_n 1, 1) := by decide +kernel
theorem dX5_asNow_13 : decode cX5_asNow 13 = .ok (.aload_n 0, 1) := by decide +kernel
theorem dX5_asNow_14 : decode cX5_asNow 14 = .ok (.getfield 34, 3) := by decide +kernel
theorem dX5_asNow_17 : decode cX5_asNow 17 = .ok (.iload_n 1, 1) := by decide +kernel
theorem dX5_asNow_18 : decode cX5_asNow 18 = .ok (.iaload, 1) := by decide +kernel
theorem dX5_asNow_19 : decode cX5_asNow 19 = .ok (.iastore, 1) := by decide +kernel
theorem dX5_asNow_20 : decode cX5_asNow 20 = .ok (.iinc 1 1, 3) := by decide +kernel
theorem dX5_asNow_23 : decode cX5_asNow 23 = .ok (.goto (-21), 3) := by decide +kernel
theorem dX5_asNow_26 : decode cX5_asNow 26 = .ok (.return_, 1) := by decide +kernel
theorem dX5_best_0 : decode cX5_best 0 = .ok (.aload_n 0, 1) := by decide +kernel
theorem dX5_best_1 : decode cX5_best 1 = .ok (.iconst 0, 1) := by decide +kernel
theorem dX5_best_2 : decode cX5_best 2 = .ok (.putfield 62, 3) := by decide +kernel
theorem dX5_best_5 : decode cX5_best 5 = .ok (.aload_n 0, 1) := by decide +kernel
theorem dX5_best_6 : decode cX5_best 6 = .ok (.iload_n 1, 1) := by decide +kernel
theorem dX5_best_7 : decode cX5_best 7 = .ok (.invokevirtual 134, 3) := by decide +kernel
theorem dX5_best_10 : decode cX5_best 10 = .ok (.ifCond .eq 23, 3) := by decide +kernel
theorem dX5_best_13 : decode cX5_best 13 = .ok (.iload_n 2, 1) := by decide +kernel
theorem dX5_best_14 : decode cX5_best 14 = .ok (.iconst 0, 1) := by decide +kernel
theorem dX5_best_15 : decode cX5_best 15 = .ok (.sipush 999, 3) := by decide +kernel
theorem dX5_best_18 : decode cX5_best 18 = .ok (.invokestatic 66, 3) := by decide +kernel
theorem dX5_best_21 : decode cX5_best 21 = .ok (.ifCond .eq 12, 3) := by decide +kernel
theorem dX5_best_24 : decode cX5_best 24 = .ok (.iload_n 3, 1) := by decide +kernel
theorem dX5_best_25 : decode cX5_best 25 = .ok (.iconst 0, 1) := by decide +kernel
theorem dX5_best_26 : decode cX5_best 26 = .ok (.iconst 1, 1) := by decide +kernel
theorem dX5_best_27 : decode cX5_best 27 = .ok (.invokestatic 66, 3) := by decide +kernel
theorem dX5_best_30 : decode cX5_best 30 = .ok (.ifCond .ne 5, 3) := by decide +kernel
theorem dX5_best_33 : decode cX5_best 33 = .ok (.iconst (-1), 1) := by decide +kernel
theorem dX5_best_34 : decode cX5_best 34 = .ok (.ireturn, 1) := by decide +kernel
theorem dX5_best_35 : decode cX5_best 35 = .ok (.bipush (-9), 2) := by decide +kernel
theorem dX5_best_37 : decode cX5_best 37 = .ok (.istore 4, 2) := by decide +kernel
theorem dX5_best_39 : decode cX5_best 39 = .ok (.bipush (-9), 2) := by decide +kernel
theorem dX5_best_41 : decode cX5_best 41 = .ok (.istore 5, 2) := by decide +kernel
theorem dX5_best_43 : decode cX5_best 43 = .ok (.aload_n 0, 1) := by decide +kernel
theorem dX5_best_44 : decode cX5_best 44 = .ok (.getfield 34, 3) := by decide +kernel
theorem dX5_best_47 : decode cX5_best 47 = .ok (.bipush 6, 2) := by decide +kernel
theorem dX5_best_49 : decode cX5_best 49 = .ok (.iload_n 1, 1) := by decide +kernel
theorem dX5_best_50 : decode cX5_best 50 = .ok (.iadd, 1) := by decide +kernel
theorem dX5_best_51 : decode cX5_best 51 = .ok (.iaload, 1) := by decide +kernel
theorem dX5_best_52 : decode cX5_best 52 = .ok (.iconst 1, 1) := by decide +kernel
theorem dX5_best_53 : decode cX5_best 53 = .ok (.isub, 1) := by decide +kernel
theorem dX5_best_54 : decode cX5_best 54 = .ok (.istore 6, 2) := by decide +kernel
theorem dX5_best_56 : decode cX5_best 56 = .ok (.aload_n 0, 1) := by decide +kernel
theorem dX5_best_57 : decode cX5_best 57 = .ok (.invokevirtual 169, 3) := by decide +kernel
theorem dX5_best_60 : decode cX5_best 60 = .ok (.iconst 0, 1) := by decide +kernel
theorem dX5_best_61 : decode cX5_best 61 = .ok (.istore 7, 2) := by decide +kernel
theorem dX5_best_63 : decode cX5_best 63 = .ok (.iload 7, 2) := by decide +kernel
theorem dX5_best_65 : decode cX5_best 65 = .ok (.aload_n 0, 1) := by decide +kernel
theorem dX5_best_66 : decode cX5_best 66 = .ok (.getfield 13, 3) := by decide +kernel
theorem dX5_best_69 : decode cX5_best 69 = .ok (.iconst 0, 1) := by decide +kernel
theorem dX5_best_70 : decode cX5_best 70 = .ok (.iaload, 1) := by decide +kernel
theorem dX5_best_71 : decode cX5_best 71 = .ok (.if_icmp .ge 79, 3) := by decide +kernel
theorem dX5_best_74 : decode cX5_best 74 = .ok (.aload_n 0, 1) := by decide +kernel
theorem dX5_best_75 : decode cX5_best 75 = .ok (.getfield 37, 3) := by decide +kernel
theorem dX5_best_78 : decode cX5_best 78 = .ok (.iconst 0, 1) := by decide +kernel
theorem dX5_best_79 : decode cX5_best 79 = .ok (.iload_n 1, 1) := by decide +kernel
theorem dX5_best_80 : decode cX5_best 80 = .ok (.iadd, 1) := by decide +kernel
theorem dX5_best_81 : decode cX5_best 81 = .ok (.iload 7, 2) := by decide +kernel
theorem dX5_best_83 : decode cX5_best 83 = .ok (.iastore, 1) := by decide +kernel
theorem dX5_best_84 : decode cX5_best 84 = .ok (.iload 6, 2) := by decide +kernel
theorem dX5_best_86 : decode cX5_best 86 = .ok (.ifCond .lt 17, 3) := by decide +kernel
theorem dX5_best_89 : decode cX5_best 89 = .ok (.aload_n 0, 1) := by decide +kernel
theorem dX5_best_90 : decode cX5_best 90 = .ok (.aload_n 0, 1) := by decide +kernel
theorem dX5_best_91 : decode cX5_best 91 = .ok (.getfield 37, 3) := by decide +kernel
theorem dX5_best_94 : decode cX5_best 94 = .ok (.iload 6, 2) := by decide +kernel
theorem dX5_best_96 : decode cX5_best 96 = .ok (.invokevirtual 128, 3) := by decide +kernel
theorem dX5_best_99 : decode cX5_best 99 = .ok (.iload_n 2, 1) := by decide +kernel
theorem dX5_best_100 : decode cX5_best 100 = .ok (.if_icmp .lt 7, 3) := by decide +kernel
theorem dX5_best_103 : decode cX5_best 103 = .ok (.iconst 1, 1) := by decide +kernel
theorem dX5_best_104 : decode cX5_best 104 = .ok (.goto 4, 3) := by decide +kernel
theorem dX5_best_107 : decode cX5_best 107 = .ok (.iconst 0, 1) := by decide +kernel
theorem dX5_best_108 : decode cX5_best 108 = .ok (.istore 8, 2) := by decide +kernel
theorem dX5_best_110 : decode cX5_best 110 = .ok (.iload 8, 2) := by decide +kernel
theorem dX5_best_112 : decode cX5_best 112 = .ok (.ifCond .eq 32, 3) := by decide +kernel
theorem dX5_best_115 : decode cX5_best 115 = .ok (.aload_n 0, 1) := by decide +kernel
theorem dX5_best_116 : decode cX5_best 116 = .ok (.aload_n 0, 1) := by decide +kernel
theorem dX5_best_117 : decode cX5_best 117 = .ok (.getfield 37, 3) := by decide +kernel
theorem dX5_best_120 : decode cX5_best 120 = .ok (.iload_n 1, 1) := by decide +kernel
theorem dX5_best_121 : decode cX5_best 121 = .ok (.invokevirtual 142, 3) := by decide +kernel
theorem dX5_best_124 : decode cX5_best 124 = .ok (.iload 5, 2) := by decide +kernel
theorem dX5_best_126 : decode cX5_best 126 = .ok (.if_icmp .le 18, 3) := by decide +kernel
theorem dX5_best_129 : decode cX5_best 129 = .ok (.iload 7, 2) := by decide +kernel
theorem dX5_best_131 : decode cX5_best 131 = .ok (.istore 4, 2) := by decide +kernel
theorem dX5_best_133 : decode cX5_best 133 = .ok (.aload_n 0, 1) := by decide +kernel
theorem dX5_best_134 : decode cX5_best 134 = .ok (.aload_n 0, 1) := by decide +kernel
theorem dX5_best_135 : decode cX5_best 135 = .ok (.getfield 37, 3) := by decide +kernel
theorem dX5_best_138 : decode cX5_best 138 = .ok (.iload_n 1, 1) := by decide +kernel
theorem dX5_best_139 : decode cX5_best 139 = .ok (.invokevirtual 142, 3) := by decide +kernel
theorem dX5_best_142 : decode cX5_best 142 = .ok (.istore 5, 2) := by decide +kernel
theorem dX5_best_144 : decode cX5_best 144 = .ok (.iinc 7 1, 3) := by decide +kernel
theorem dX5_best_147 : decode cX5_best 147 = .ok (.goto (-84), 3) := by decide +kernel
theorem dX5_best_150 : decode cX5_best 150 = .ok (.iload_n 3, 1) := by decide +kernel
theorem dX5_best_151 : decode cX5_best 151 = .ok (.ifCond .ne 8, 3) := by decide +kernel
theorem dX5_best_154 : decode cX5_best 154 = .ok (.iload 4, 2) := by decide +kernel
theorem dX5_best_156 : decode cX5_best 156 = .ok (.goto 5, 3) := by decide +kernel
theorem dX5_best_159 : decode cX5_best 159 = .ok (.iload 5, 2) := by decide +kernel
theorem dX5_best_161 : decode cX5_best 161 = .ok (.ireturn, 1) := by decide +kernel
theorem dX5_hasWith_0 : decode cX5_hasWith 0 = .ok (.aload_n 0, 1) := by decide +kernel
theorem dX5_hasWith_1 : decode cX5_hasWith 1 = .ok (.getfield 37, 3) := by decide +kernel
theorem dX5_hasWith_4 : decode cX5_hasWith 4 = .ok (.iconst 0, 1) := by decide +kernel
theorem dX5_hasWith_5 : decode cX5_hasWith 5 = .ok (.iload_n 1, 1) := by decide +kernel
theorem dX5_hasWith_6 : decode cX5_hasWith 6 = .ok (.iadd, 1) := by decide +kernel
theorem dX5_hasWith_7 : decode cX5_hasWith 7 = .ok (.iload_n 3, 1) := by decide +kernel
theorem dX5_hasWith_8 : decode cX5_hasWith 8 = .ok (.iastore, 1) := by decide +kernel
theorem dX5_hasWith_9 : decode cX5_hasWith 9 = .ok (.aload_n 0, 1) := by decide +kernel
theorem dX5_hasWith_10 : decode cX5_hasWith 10 = .ok (.getfield 37, 3) := by decide +kernel
theorem dX5_hasWith_13 : decode cX5_hasWith 13 = .ok (.iconst 0, 1) := by decide +kernel
theorem dX5_hasWith_14 : decode cX5_hasWith 14 = .ok (.iload_n 2, 1) := by decide +kernel
theorem dX5_hasWith_15 : decode cX5_hasWith 15 = .ok (.iadd, 1) := by decide +kernel
theorem dX5_hasWith_16 : decode cX5_hasWith 16 = .ok (.iload 4, 2) := by decide +kernel
theorem dX5_hasWith_18 : decode cX5_hasWith 18 = .ok (.iastore, 1) := by decide +kernel
theorem dX5_hasWith_19 : decode cX5_hasWith 19 = .ok (.aload_n 0, 1) := by decide +kernel
theorem dX5_hasWith_20 : decode cX5_hasWith 20 = .ok (.aload_n 0, 1) := by decide +kernel
theorem dX5_hasWith_21 : decode cX5_hasWith 21 = .ok (.getfield 37, 3) := by decide +kernel
theorem dX5_hasWith_24 : decode cX5_hasWith 24 = .ok (.iload_n 1, 1) := by decide +kernel
theorem dX5_hasWith_25 : decode cX5_hasWith 25 = .ok (.invokevirtual 142, 3) := by decide +kernel
theorem dX5_hasWith_28 : decode cX5_hasWith 28 = .ok (.ireturn, 1) := by decide +kernel
theorem dX5_isRest_0 : decode cX5_isRest 0 = .ok (.iconst 1, 1) := by decide +kernel
theorem dX5_isRest_1 : decode cX5_isRest 1 = .ok (.istore 5, 2) := by decide +kernel
theorem dX5_isRest_3 : decode cX5_isRest 3 = .ok (.iconst 0, 1) := by decide +kernel
theorem dX5_isRest_4 : decode cX5_isRest 4 = .ok (.istore 6, 2) := by decide +kernel
theorem dX5_isRest_6 : decode cX5_isRest 6 = .ok (.iload 6, 2) := by decide +kernel
theorem dX5_isRest_8 : decode cX5_isRest 8 = .ok (.aload_n 0, 1) := by decide +kernel
theorem dX5_isRest_9 : decode cX5_isRest 9 = .ok (.getfield 13, 3) := by decide +kernel
theorem dX5_isRest_12 : decode cX5_isRest 12 = .ok (.iconst 0, 1) := by decide +kernel
theorem dX5_isRest_13 : decode cX5_isRest 13 = .ok (.iaload, 1) := by decide +kernel
theorem dX5_isRest_14 : decode cX5_isRest 14 = .ok (.if_icmp .ge 64, 3) := by decide +kernel
theorem dX5_isRest_17 : decode cX5_isRest 17 = .ok (.iload 5, 2) := by decide +kernel
theorem dX5_isRest_19 : decode cX5_isRest 19 = .ok (.ifCond .eq 50, 3) := by decide +kernel
theorem dX5_isRest_22 : decode cX5_isRest 22 = .ok (.aload_n 0, 1) := by decide +kernel
theorem dX5_isRest_23 : decode cX5_isRest 23 = .ok (.iload_n 1, 1) := by decide +kernel
theorem dX5_isRest_24 : decode cX5_isRest 24 = .ok (.iload_n 2, 1) := by decide +kernel
theorem dX5_isRest_25 : decode cX5_isRest 25 = .ok (.iload 6, 2) := by decide +kernel
theorem dX5_isRest_27 : decode cX5_isRest 27 = .ok (.iload 4, 2) := by decide +kernel
theorem dX5_isRest_29 : decode cX5_isRest 29 = .ok (.invokevirtual 172, 3) := by decide +kernel
theorem dX5_isRest_32 : decode cX5_isRest 32 = .ok (.aload_n 0, 1) := by decide +kernel
theorem dX5_isRest_33 : decode cX5_isRest 33 = .ok (.iload_n 1, 1) := by decide +kernel
theorem dX5_isRest_34 : decode cX5_isRest 34 = .ok (.iload_n 2, 1) := by decide +kernel
theorem dX5_isRest_35 : decode cX5_isRest 35 = .ok (.iload_n 3, 1) := by decide +kernel
theorem dX5_isRest_36 : decode cX5_isRest 36 = .ok (.iload 4, 2) := by decide +kernel
theorem dX5_isRest_38 : decode cX5_isRest 38 = .ok (.invokevirtual 172, 3) := by decide +kernel
theorem dX5_isRest_41 : decode cX5_isRest 41 = .ok (.if_icmp .gt 28, 3) := by decide +kernel
theorem dX5_isRest_44 : decode cX5_isRest 44 = .ok (.aload_n 0, 1) := by decide +kernel
theorem dX5_isRest_45 : decode cX5_isRest 45 = .ok (.iload_n 2, 1) := by decide +kernel
theorem dX5_isRest_46 : decode cX5_isRest 46 = .ok (.iload_n 1, 1) := by decide +kernel
theorem dX5_isRest_47 : decode cX5_isRest 47 = .ok (.iload 6, 2) := by decide +kernel
theorem dX5_isRest_49 : decode cX5_isRest 49 = .ok (.iload_n 3, 1) := by decide +kernel
theorem dX5_isRest_50 : decode cX5_isRest 50 = .ok (.invokevirtual 172, 3) := by decide +kernel
theorem dX5_isRest_53 : decode cX5_isRest 53 = .ok (.aload_n 0, 1) := by decide +kernel
theorem dX5_isRest_54 : decode cX5_isRest 54 = .ok (.iload_n 2, 1) := by decide +kernel
theorem dX5_isRest_55 : decode cX5_isRest 55 = .ok (.iload_n 1, 1) := by decide +kernel
theorem dX5_isRest_56 : decode cX5_isRest 56 = .ok (.iload 4, 2) := by decide +kernel
theorem dX5_isRest_58 : decode cX5_isRest 58 = .ok (.iload_n 3, 1) := by decide +kernel
theorem dX5_isRest_59 : decode cX5_isRest 59 = .ok (.invokevirtual 172, 3) := by decide +kernel
theorem dX5_isRest_62 : decode cX5_isRest 62 = .ok (.if_icmp .gt 7, 3) := by decide +kernel
theorem dX5_isRest_65 : decode cX5_isRest 65 = .ok (.iconst 1, 1) := by decide +kernel
theorem dX5_isRest_66 : decode cX5_isRest 66 = .ok (.goto 4, 3) := by decide +kernel
theorem dX5_isRest_69 : decode cX5_isRest 69 = .ok (.iconst 0, 1) := by decide +kernel
theorem dX5_isRest_70 : decode cX5_isRest 70 = .ok (.istore 5, 2) := by decide +kernel
theorem dX5_isRest_72 : decode cX5_isRest 72 = .ok (.iinc 6 1, 3) := by decide +kernel
theorem dX5_isRest_75 : decode cX5_isRest 75 = .ok (.goto (-69), 3) := by decide +kernel
theorem dX5_isRest_78 : decode cX5_isRest 78 = .ok (.iload 5, 2) := by decide +kernel
theorem dX5_isRest_80 : decode cX5_isRest 80 = .ok (.ireturn, 1) := by decide +kernel
theorem dX5_rest_0 : decode cX5_rest 0 = .ok (.aload_n 0, 1) := by decide +kernel
theorem dX5_rest_1 : decode cX5_rest 1 = .ok (.iconst 0, 1) := by decide +kernel
theorem dX5_rest_2 : decode cX5_rest 2 = .ok (.putfield 62, 3) := by decide +kernel
theorem dX5_rest_5 : decode cX5_rest 5 = .ok (.aload_n 0, 1) := by decide +kernel
theorem dX5_rest_6 : decode cX5_rest 6 = .ok (.iload_n 1, 1) := by decide +kernel
theorem dX5_rest_7 : decode cX5_rest 7 = .ok (.invokevirtual 134, 3) := by decide +kernel
theorem dX5_rest_10 : decode cX5_rest 10 = .ok (.ifCond .eq 12, 3) := by decide +kernel
theorem dX5_rest_13 : decode cX5_rest 13 = .ok (.iload_n 2, 1) := by decide +kernel
theorem dX5_rest_14 : decode cX5_rest 14 = .ok (.iconst 0, 1) := by decide +kernel
theorem dX5_rest_15 : decode cX5_rest 15 = .ok (.iconst 1, 1) := by decide +kernel
theorem dX5_rest_16 : decode cX5_rest 16 = .ok (.invokestatic 66, 3) := by decide +kernel
theorem dX5_rest_19 : decode cX5_rest 19 = .ok (.ifCond .ne 5, 3) := by decide +kernel
theorem dX5_rest_22 : decode cX5_rest 22 = .ok (.iconst (-1), 1) := by decide +kernel
theorem dX5_rest_23 : decode cX5_rest 23 = .ok (.ireturn, 1) := by decide +kernel
theorem dX5_rest_24 : decode cX5_rest 24 = .ok (.aload_n 0, 1) := by decide +kernel
theorem dX5_rest_25 : decode cX5_rest 25 = .ok (.getfield 34, 3) := by decide +kernel
theorem dX5_rest_28 : decode cX5_rest 28 = .ok (.bipush 6, 2) := by decide +kernel
theorem dX5_rest_30 : decode cX5_rest 30 = .ok (.iload_n 1, 1) := by decide +kernel
theorem dX5_rest_31 : decode cX5_rest 31 = .ok (.iadd, 1) := by decide +kernel
theorem dX5_rest_32 : decode cX5_rest 32 = .ok (.iaload, 1) := by decide +kernel
theorem dX5_rest_33 : decode cX5_rest 33 = .ok (.iconst 1, 1) := by decide +kernel
theorem dX5_rest_34 : decode cX5_rest 34 = .ok (.isub, 1) := by decide +kernel
theorem dX5_rest_35 : decode cX5_rest 35 = .ok (.istore_n 3, 1) := by decide +kernel
theorem dX5_rest_36 : decode cX5_rest 36 = .ok (.iload_n 3, 1) := by decide +kernel
theorem dX5_rest_37 : decode cX5_rest 37 = .ok (.ifCond .ge 6, 3) := by decide +kernel
theorem dX5_rest_40 : decode cX5_rest 40 = .ok (.bipush (-2), 2) := by decide +kernel
theorem dX5_rest_42 : decode cX5_rest 42 = .ok (.ireturn, 1) := by decide +kernel
theorem dX5_rest_43 : decode cX5_rest 43 = .ok (.aload_n 0, 1) := by decide +kernel
theorem dX5_rest_44 : decode cX5_rest 44 = .ok (.invokevirtual 169, 3) := by decide +kernel
theorem dX5_rest_47 : decode cX5_rest 47 = .ok (.iconst 0, 1) := by decide +kernel
theorem dX5_rest_48 : decode cX5_rest 48 = .ok (.istore 4, 2) := by decide +kernel
theorem dX5_rest_50 : decode cX5_rest 50 = .ok (.bipush (-9), 2) := by decide +kernel
theorem dX5_rest_52 : decode cX5_rest 52 = .ok (.istore 5, 2) := by decide +kernel
theorem dX5_rest_54 : decode cX5_rest 54 = .ok (.iconst 0, 1) := by decide +kernel
theorem dX5_rest_55 : decode cX5_rest 55 = .ok (.istore 6, 2) := by decide +kernel
theorem dX5_rest_57 : decode cX5_rest 57 = .ok (.iload 6, 2) := by decide +kernel
theorem dX5_rest_59 : decode cX5_rest 59 = .ok (.aload_n 0, 1) := by decide +kernel
theorem dX5_rest_60 : decode cX5_rest 60 = .ok (.getfield 13, 3) := by decide +kernel
theorem dX5_rest_63 : decode cX5_rest 63 = .ok (.iconst 0, 1) := by decide +kernel
theorem dX5_rest_64 : decode cX5_rest 64 = .ok (.iaload, 1) := by decide +kernel
theorem dX5_rest_65 : decode cX5_rest 65 = .ok (.if_icmp .ge 65, 3) := by decide +kernel
theorem dX5_rest_68 : decode cX5_rest 68 = .ok (.iconst 0, 1) := by decide +kernel
theorem dX5_rest_69 : decode cX5_rest 69 = .ok (.istore 7, 2) := by decide +kernel
theorem dX5_rest_71 : decode cX5_rest 71 = .ok (.iload 7, 2) := by decide +kernel
theorem dX5_rest_73 : decode cX5_rest 73 = .ok (.aload_n 0, 1) := by decide +kernel
theorem dX5_rest_74 : decode cX5_rest 74 = .ok (.getfield 13, 3) := by decide +kernel
theorem dX5_rest_77 : decode cX5_rest 77 = .ok (.iconst 0, 1) := by decide +kernel
theorem dX5_rest_78 : decode cX5_rest 78 = .ok (.iaload, 1) := by decide +kernel
theorem dX5_rest_79 : decode cX5_rest 79 = .ok (.if_icmp .ge 45, 3) := by decide +kernel
theorem dX5_rest_82 : decode cX5_rest 82 = .ok (.aload_n 0, 1) := by decide +kernel
theorem dX5_rest_83 : decode cX5_rest 83 = .ok (.iload_n 1, 1) := by decide +kernel
theorem dX5_rest_84 : decode cX5_rest 84 = .ok (.iload_n 3, 1) := by decide +kernel
theorem dX5_rest_85 : decode cX5_rest 85 = .ok (.iload 6, 2) := by decide +kernel
theorem dX5_rest_87 : decode cX5_rest 87 = .ok (.iload 7, 2) := by decide +kernel
theorem dX5_rest_89 : decode cX5_rest 89 = .ok (.invokevirtual 176, 3) := by decide +kernel
theorem dX5_rest_92 : decode cX5_rest 92 = .ok (.ifCond .eq 26, 3) := by decide +kernel
theorem dX5_rest_95 : decode cX5_rest 95 = .ok (.iload 4, 2) := by decide +kernel
theorem dX5_rest_97 : decode cX5_rest 97 = .ok (.ifCond .ne 14, 3) := by decide +kernel
theorem dX5_rest_100 : decode cX5_rest 100 = .ok (.bipush 10, 2) := by decide +kernel
theorem dX5_rest_102 : decode cX5_rest 102 = .ok (.iload 6, 2) := by decide +kernel
theorem dX5_rest_104 : decode cX5_rest 104 = .ok (.imul, 1) := by decide +kernel
theorem dX5_rest_105 : decode cX5_rest 105 = .ok (.iload 7, 2) := by decide +kernel
theorem dX5_rest_107 : decode cX5_rest 107 = .ok (.iadd, 1) := by decide +kernel
theorem dX5_rest_108 : decode cX5_rest 108 = .ok (.goto 5, 3) := by decide +kernel
theorem dX5_rest_111 : decode cX5_rest 111 = .ok (.iload 5, 2) := by decide +kernel
theorem dX5_rest_113 : decode cX5_rest 113 = .ok (.istore 5, 2) := by decide +kernel
theorem dX5_rest_115 : decode cX5_rest 115 = .ok (.iinc 4 1, 3) := by decide +kernel
theorem dX5_rest_118 : decode cX5_rest 118 = .ok (.iinc 7 1, 3) := by decide +kernel
theorem dX5_rest_121 : decode cX5_rest 121 = .ok (.goto (-50), 3) := by decide +kernel
theorem dX5_rest_124 : decode cX5_rest 124 = .ok (.iinc 6 1, 3) := by decide +kernel
theorem dX5_rest_127 : decode cX5_rest 127 = .ok (.goto (-70), 3) := by decide +kernel
theorem dX5_rest_130 : decode cX5_rest 130 = .ok (.iload_n 2, 1) := by decide +kernel
theorem dX5_rest_131 : decode cX5_rest 131 = .ok (.ifCond .ne 8, 3) := by decide +kernel
theorem dX5_rest_134 : decode cX5_rest 134 = .ok (.iload 4, 2) := by decide +kernel
theorem dX5_rest_136 : decode cX5_rest 136 = .ok (.goto 5, 3) := by decide +kernel
theorem dX5_rest_139 : decode cX5_rest 139 = .ok (.iload 5, 2) := by decide +kernel
theorem dX5_rest_141 : decode cX5_rest 141 = .ok (.ireturn, 1) := by decide +kernel
theorem dX5_isHungry_0 : decode cX5_isHungry 0 = .ok (.aload_n 0, 1) := by decide +kernel
theorem dX5_isHungry_1 : decode cX5_isHungry 1 = .ok (.getfield 34, 3) := by decide +kernel
theorem dX5_isHungry_4 : decode cX5_isHungry 4 = .ok (.bipush 6, 2) := by decide +kernel
theorem dX5_isHungry_6 : decode cX5_isHungry 6 = .ok (.iload_n 1, 1) := by decide +kernel
theorem dX5_isHungry_7 : decode cX5_isHungry 7 = .ok (.iadd, 1) := by decide +kernel
theorem dX5_isHungry_8 : decode cX5_isHungry 8 = .ok (.iaload, 1) := by decide +kernel
theorem dX5_isHungry_9 : decode cX5_isHungry 9 = .ok (.iconst 1, 1) := by decide +kernel
theorem dX5_isHungry_10 : decode cX5_isHungry 10 = .ok (.isub, 1) := by decide +kernel
theorem dX5_isHungry_11 : decode cX5_isHungry 11 = .ok (.istore_n 2, 1) := by decide +kernel
theorem dX5_isHungry_12 : decode cX5_isHungry 12 = .ok (.iconst 1, 1) := by decide +kernel
theorem dX5_isHungry_13 : decode cX5_isHungry 13 = .ok (.istore_n 3, 1) := by decide +kernel
theorem dX5_isHungry_14 : decode cX5_isHungry 14 = .ok (.aload_n 0, 1) := by decide +kernel
theorem dX5_isHungry_15 : decode cX5_isHungry 15 = .ok (.invokevirtual 169, 3) := by decide +kernel
theorem dX5_isHungry_18 : decode cX5_isHungry 18 = .ok (.iconst 0, 1) := by decide +kernel
theorem dX5_isHungry_19 : decode cX5_isHungry 19 = .ok (.istore 4, 2) := by decide +kernel
theorem dX5_isHungry_21 : decode cX5_isHungry 21 = .ok (.iload 4, 2) := by decide +kernel
theorem dX5_isHungry_23 : decode cX5_isHungry 23 = .ok (.aload_n 0, 1) := by decide +kernel
theorem dX5_isHungry_24 : decode cX5_isHungry 24 = .ok (.getfield 13, 3) := by decide +kernel
theorem dX5_isHungry_27 : decode cX5_isHungry 27 = .ok (.iconst 0, 1) := by decide +kernel
theorem dX5_isHungry_28 : decode cX5_isHungry 28 = .ok (.iaload, 1) := by decide +kernel
theorem dX5_isHungry_29 : decode cX5_isHungry 29 = .ok (.if_icmp .ge 81, 3) := by decide +kernel
theorem dX5_isHungry_32 : decode cX5_isHungry 32 = .ok (.iconst 0, 1) := by decide +kernel
theorem dX5_isHungry_33 : decode cX5_isHungry 33 = .ok (.istore 5, 2) := by decide +kernel
theorem dX5_isHungry_35 : decode cX5_isHungry 35 = .ok (.iload 5, 2) := by decide +kernel
theorem dX5_isHungry_37 : decode cX5_isHungry 37 = .ok (.aload_n 0, 1) := by decide +kernel
theorem dX5_isHungry_38 : decode cX5_isHungry 38 = .ok (.getfield 13, 3) := by decide +kernel
theorem dX5_isHungry_41 : decode cX5_isHungry 41 = .ok (.iconst 0, 1) := by decide +kernel
theorem dX5_isHungry_42 : decode cX5_isHungry 42 = .ok (.iaload, 1) := by decide +kernel
theorem dX5_isHungry_43 : decode cX5_isHungry 43 = .ok (.if_icmp .ge 61, 3) := by decide +kernel
theorem dX5_isHungry_46 : decode cX5_isHungry 46 = .ok (.aload_n 0, 1) := by decide +kernel
theorem dX5_isHungry_47 : decode cX5_isHungry 47 = .ok (.getfield 37, 3) := by decide +kernel
theorem dX5_isHungry_50 : decode cX5_isHungry 50 = .ok (.iconst 0, 1) := by decide +kernel
theorem dX5_isHungry_51 : decode cX5_isHungry 51 = .ok (.iload_n 1, 1) := by decide +kernel
theorem dX5_isHungry_52 : decode cX5_isHungry 52 = .ok (.iadd, 1) := by decide +kernel
theorem dX5_isHungry_53 : decode cX5_isHungry 53 = .ok (.iload 4, 2) := by decide +kernel
theorem dX5_isHungry_55 : decode cX5_isHungry 55 = .ok (.iastore, 1) := by decide +kernel
theorem dX5_isHungry_56 : decode cX5_isHungry 56 = .ok (.iload_n 2, 1) := by decide +kernel
theorem dX5_isHungry_57 : decode cX5_isHungry 57 = .ok (.ifCond .lt 13, 3) := by decide +kernel
theorem dX5_isHungry_60 : decode cX5_isHungry 60 = .ok (.aload_n 0, 1) := by decide +kernel
theorem dX5_isHungry_61 : decode cX5_isHungry 61 = .ok (.getfield 37, 3) := by decide +kernel
theorem dX5_isHungry_64 : decode cX5_isHungry 64 = .ok (.iconst 0, 1) := by decide +kernel
theorem dX5_isHungry_65 : decode cX5_isHungry 65 = .ok (.iload_n 2, 1) := by decide +kernel
theorem dX5_isHungry_66 : decode cX5_isHungry 66 = .ok (.iadd, 1) := by decide +kernel
theorem dX5_isHungry_67 : decode cX5_isHungry 67 = .ok (.iload 5, 2) := by decide +kernel
theorem dX5_isHungry_69 : decode cX5_isHungry 69 = .ok (.iastore, 1) := by decide +kernel
theorem dX5_isHungry_70 : decode cX5_isHungry 70 = .ok (.iload_n 3, 1) := by decide +kernel
theorem dX5_isHungry_71 : decode cX5_isHungry 71 = .ok (.ifCond .eq 25, 3) := by decide +kernel
theorem dX5_isHungry_74 : decode cX5_isHungry 74 = .ok (.aload_n 0, 1) := by decide +kernel
theorem dX5_isHungry_75 : decode cX5_isHungry 75 = .ok (.aload_n 0, 1) := by decide +kernel
theorem dX5_isHungry_76 : decode cX5_isHungry 76 = .ok (.getfield 37, 3) := by decide +kernel
theorem dX5_isHungry_79 : decode cX5_isHungry 79 = .ok (.iload_n 1, 1) := by decide +kernel
theorem dX5_isHungry_80 : decode cX5_isHungry 80 = .ok (.invokevirtual 142, 3) := by decide +kernel
theorem dX5_isHungry_83 : decode cX5_isHungry 83 = .ok (.aload_n 0, 1) := by decide +kernel
theorem dX5_isHungry_84 : decode cX5_isHungry 84 = .ok (.getfield 28, 3) := by decide +kernel
theorem dX5_isHungry_87 : decode cX5_isHungry 87 = .ok (.iload_n 1, 1) := by decide +kernel
theorem dX5_isHungry_88 : decode cX5_isHungry 88 = .ok (.iaload, 1) := by decide +kernel
theorem dX5_isHungry_89 : decode cX5_isHungry 89 = .ok (.if_icmp .ge 7, 3) := by decide +kernel
theorem dX5_isHungry_92 : decode cX5_isHungry 92 = .ok (.iconst 1, 1) := by decide +kernel
theorem dX5_isHungry_93 : decode cX5_isHungry 93 = .ok (.goto 4, 3) := by decide +kernel
theorem dX5_isHungry_96 : decode cX5_isHungry 96 = .ok (.iconst 0, 1) := by decide +kernel
theorem dX5_isHungry_97 : decode cX5_isHungry 97 = .ok (.istore_n 3, 1) := by decide +kernel
theorem dX5_isHungry_98 : decode cX5_isHungry 98 = .ok (.iinc 5 1, 3) := by decide +kernel
theorem dX5_isHungry_101 : decode cX5_isHungry 101 = .ok (.goto (-66), 3) := by decide +kernel
theorem dX5_isHungry_104 : decode cX5_isHungry 104 = .ok (.iinc 4 1, 3) := by decide +kernel
theorem dX5_isHungry_107 : decode cX5_isHungry 107 = .ok (.goto (-86), 3) := by decide +kernel
theorem dX5_isHungry_110 : decode cX5_isHungry 110 = .ok (.iload_n 3, 1) := by decide +kernel
theorem dX5_isHungry_111 : decode cX5_isHungry 111 = .ok (.ireturn, 1) := by decide +kernel
theorem dX5_hungry_0 : decode cX5_hungry 0 = .ok (.aload_n 0, 1) := by decide +kernel
theorem dX5_hungry_1 : decode cX5_hungry 1 = .ok (.iconst 0, 1) := by decide +kernel
theorem dX5_hungry_2 : decode cX5_hungry 2 = .ok (.putfield 62, 3) := by decide +kernel
theorem dX5_hungry_5 : decode cX5_hungry 5 = .ok (.aload_n 0, 1) := by decide +kernel
theorem dX5_hungry_6 : decode cX5_hungry 6 = .ok (.iload_n 1, 1) := by decide +kernel
theorem dX5_hungry_7 : decode cX5_hungry 7 = .ok (.invokevirtual 134, 3) := by decide +kernel
theorem dX5_hungry_10 : decode cX5_hungry 10 = .ok (.ifCond .eq 19, 3) := by decide +kernel
theorem dX5_hungry_13 : decode cX5_hungry 13 = .ok (.aload_n 0, 1) := by decide +kernel
theorem dX5_hungry_14 : decode cX5_hungry 14 = .ok (.iload_n 1, 1) := by decide +kernel
theorem dX5_hungry_15 : decode cX5_hungry 15 = .ok (.invokevirtual 145, 3) := by decide +kernel
theorem dX5_hungry_18 : decode cX5_hungry 18 = .ok (.ifCond .eq 7, 3) := by decide +kernel
theorem dX5_hungry_21 : decode cX5_hungry 21 = .ok (.iconst 1, 1) := by decide +kernel
theorem dX5_hungry_22 : decode cX5_hungry 22 = .ok (.goto 8, 3) := by decide +kernel
theorem dX5_hungry_25 : decode cX5_hungry 25 = .ok (.iconst 0, 1) := by decide +kernel
theorem dX5_hungry_26 : decode cX5_hungry 26 = .ok (.goto 4, 3) := by decide +kernel
theorem dX5_hungry_29 : decode cX5_hungry 29 = .ok (.iconst (-1), 1) := by decide +kernel
theorem dX5_hungry_30 : decode cX5_hungry 30 = .ok (.ireturn, 1) := by decide +kernel
theorem dX5_leastBy_0 : decode cX5_leastBy 0 = .ok (.aload_n 0, 1) := by decide +kernel
theorem dX5_leastBy_1 : decode cX5_leastBy 1 = .ok (.invokevirtual 169, 3) := by decide +kernel
theorem dX5_leastBy_4 : decode cX5_leastBy 4 = .ok (.iconst 0, 1) := by decide +kernel
theorem dX5_leastBy_5 : decode cX5_leastBy 5 = .ok (.istore_n 1, 1) := by decide +kernel
theorem dX5_leastBy_6 : decode cX5_leastBy 6 = .ok (.iload_n 1, 1) := by decide +kernel
theorem dX5_leastBy_7 : decode cX5_leastBy 7 = .ok (.aload_n 0, 1) := by decide +kernel
theorem dX5_leastBy_8 : decode cX5_leastBy 8 = .ok (.getfield 13, 3) := by decide +kernel
theorem dX5_leastBy_11 : decode cX5_leastBy 11 = .ok (.iconst 1, 1) := by decide +kernel
theorem dX5_leastBy_12 : decode cX5_leastBy 12 = .ok (.iaload, 1) := by decide +kernel
theorem dX5_leastBy_13 : decode cX5_leastBy 13 = .ok (.if_icmp .ge 24, 3) := by decide +kernel
theorem dX5_leastBy_16 : decode cX5_leastBy 16 = .ok (.aload_n 0, 1) := by decide +kernel
theorem dX5_leastBy_17 : decode cX5_leastBy 17 = .ok (.getfield 37, 3) := by decide +kernel
theorem dX5_leastBy_20 : decode cX5_leastBy 20 = .ok (.bipush 6, 2) := by decide +kernel
theorem dX5_leastBy_22 : decode cX5_leastBy 22 = .ok (.iload_n 1, 1) := by decide +kernel
theorem dX5_leastBy_23 : decode cX5_leastBy 23 = .ok (.iadd, 1) := by decide +kernel
theorem dX5_leastBy_24 : decode cX5_leastBy 24 = .ok (.aload_n 0, 1) := by decide +kernel
theorem dX5_leastBy_25 : decode cX5_leastBy 25 = .ok (.getfield 56, 3) := by decide +kernel
theorem dX5_leastBy_28 : decode cX5_leastBy 28 = .ok (.iload_n 1, 1) := by decide +kernel
theorem dX5_leastBy_29 : decode cX5_leastBy 29 = .ok (.iaload, 1) := by decide +kernel
theorem dX5_leastBy_30 : decode cX5_leastBy 30 = .ok (.iastore, 1) := by decide +kernel
theorem dX5_leastBy_31 : decode cX5_leastBy 31 = .ok (.iinc 1 1, 3) := by decide +kernel
theorem dX5_leastBy_34 : decode cX5_leastBy 34 = .ok (.goto (-28), 3) := by decide +kernel
theorem dX5_leastBy_37 : decode cX5_leastBy 37 = .ok (.ldc 180, 2) := by decide +kernel
theorem dX5_leastBy_39 : decode cX5_leastBy 39 = .ok (.istore_n 1, 1) := by decide +kernel
theorem dX5_leastBy_40 : decode cX5_leastBy 40 = .ok (.iconst 0, 1) := by decide +kernel
theorem dX5_leastBy_41 : decode cX5_leastBy 41 = .ok (.istore_n 2, 1) := by decide +kernel
theorem dX5_leastBy_42 : decode cX5_leastBy 42 = .ok (.iload_n 2, 1) := by decide +kernel
theorem dX5_leastBy_43 : decode cX5_leastBy 43 = .ok (.aload_n 0, 1) := by decide +kernel
theorem dX5_leastBy_44 : decode cX5_leastBy 44 = .ok (.getfield 13, 3) := by decide +kernel
theorem dX5_leastBy_47 : decode cX5_leastBy 47 = .ok (.iconst 1, 1) := by decide +kernel
theorem dX5_leastBy_48 : decode cX5_leastBy 48 = .ok (.iaload, 1) := by decide +kernel
theorem dX5_leastBy_49 : decode cX5_leastBy 49 = .ok (.if_icmp .ge 37, 3) := by decide +kernel
theorem dX5_leastBy_52 : decode cX5_leastBy 52 = .ok (.aload_n 0, 1) := by decide +kernel
theorem dX5_leastBy_53 : decode cX5_leastBy 53 = .ok (.aload_n 0, 1) := by decide +kernel
theorem dX5_leastBy_54 : decode cX5_leastBy 54 = .ok (.getfield 37, 3) := by decide +kernel
theorem dX5_leastBy_57 : decode cX5_leastBy 57 = .ok (.iload_n 2, 1) := by decide +kernel
theorem dX5_leastBy_58 : decode cX5_leastBy 58 = .ok (.invokevirtual 142, 3) := by decide +kernel
theorem dX5_leastBy_61 : decode cX5_leastBy 61 = .ok (.aload_n 0, 1) := by decide +kernel
theorem dX5_leastBy_62 : decode cX5_leastBy 62 = .ok (.getfield 28, 3) := by decide +kernel
theorem dX5_leastBy_65 : decode cX5_leastBy 65 = .ok (.iload_n 2, 1) := by decide +kernel
theorem dX5_leastBy_66 : decode cX5_leastBy 66 = .ok (.iaload, 1) := by decide +kernel
theorem dX5_leastBy_67 : decode cX5_leastBy 67 = .ok (.isub, 1) := by decide +kernel
theorem dX5_leastBy_68 : decode cX5_leastBy 68 = .ok (.istore_n 3, 1) := by decide +kernel
theorem dX5_leastBy_69 : decode cX5_leastBy 69 = .ok (.iload_n 3, 1) := by decide +kernel
theorem dX5_leastBy_70 : decode cX5_leastBy 70 = .ok (.iload_n 1, 1) := by decide +kernel
theorem dX5_leastBy_71 : decode cX5_leastBy 71 = .ok (.if_icmp .ge 7, 3) := by decide +kernel
theorem dX5_leastBy_74 : decode cX5_leastBy 74 = .ok (.iload_n 3, 1) := by decide +kernel
theorem dX5_leastBy_75 : decode cX5_leastBy 75 = .ok (.goto 4, 3) := by decide +kernel
theorem dX5_leastBy_78 : decode cX5_leastBy 78 = .ok (.iload_n 1, 1) := by decide +kernel
theorem dX5_leastBy_79 : decode cX5_leastBy 79 = .ok (.istore_n 1, 1) := by decide +kernel
theorem dX5_leastBy_80 : decode cX5_leastBy 80 = .ok (.iinc 2 1, 3) := by decide +kernel
theorem dX5_leastBy_83 : decode cX5_leastBy 83 = .ok (.goto (-41), 3) := by decide +kernel
theorem dX5_leastBy_86 : decode cX5_leastBy 86 = .ok (.iload_n 1, 1) := by decide +kernel
theorem dX5_leastBy_87 : decode cX5_leastBy 87 = .ok (.ireturn, 1) := by decide +kernel
theorem dX5_isRow_0 : decode cX5_isRow 0 = .ok (.iload_n 1, 1) := by decide +kernel
theorem dX5_isRow_1 : decode cX5_isRow 1 = .ok (.istore_n 2, 1) := by decide +kernel
theorem dX5_isRow_2 : decode cX5_isRow 2 = .ok (.iconst 0, 1) := by decide +kernel
theorem dX5_isRow_3 : decode cX5_isRow 3 = .ok (.istore_n 3, 1) := by decide +kernel
theorem dX5_isRow_4 : decode cX5_isRow 4 = .ok (.iconst 1, 1) := by decide +kernel
theorem dX5_isRow_5 : decode cX5_isRow 5 = .ok (.istore 4, 2) := by decide +kernel
theorem dX5_isRow_7 : decode cX5_isRow 7 = .ok (.aload_n 0, 1) := by decide +kernel
theorem dX5_isRow_8 : decode cX5_isRow 8 = .ok (.getfield 13, 3) := by decide +kernel
theorem dX5_isRow_11 : decode cX5_isRow 11 = .ok (.iconst 1, 1) := by decide +kernel
theorem dX5_isRow_12 : decode cX5_isRow 12 = .ok (.iaload, 1) := by decide +kernel
theorem dX5_isRow_13 : decode cX5_isRow 13 = .ok (.iconst 1, 1) := by decide +kernel
theorem dX5_isRow_14 : decode cX5_isRow 14 = .ok (.isub, 1) := by decide +kernel
theorem dX5_isRow_15 : decode cX5_isRow 15 = .ok (.istore 5, 2) := by decide +kernel
theorem dX5_isRow_17 : decode cX5_isRow 17 = .ok (.iload 5, 2) := by decide +kernel
theorem dX5_isRow_19 : decode cX5_isRow 19 = .ok (.ifCond .lt 81, 3) := by decide +kernel
theorem dX5_isRow_22 : decode cX5_isRow 22 = .ok (.aload_n 0, 1) := by decide +kernel
theorem dX5_isRow_23 : decode cX5_isRow 23 = .ok (.getfield 56, 3) := by decide +kernel
theorem dX5_isRow_26 : decode cX5_isRow 26 = .ok (.iload 5, 2) := by decide +kernel
theorem dX5_isRow_28 : decode cX5_isRow 28 = .ok (.iload_n 2, 1) := by decide +kernel
theorem dX5_isRow_29 : decode cX5_isRow 29 = .ok (.aload_n 0, 1) := by decide +kernel
theorem dX5_isRow_30 : decode cX5_isRow 30 = .ok (.getfield 13, 3) := by decide +kernel
theorem dX5_isRow_33 : decode cX5_isRow 33 = .ok (.iconst 1, 1) := by decide +kernel
theorem dX5_isRow_34 : decode cX5_isRow 34 = .ok (.iaload, 1) := by decide +kernel
theorem dX5_isRow_35 : decode cX5_isRow 35 = .ok (.iconst 1, 1) := by decide +kernel
theorem dX5_isRow_36 : decode cX5_isRow 36 = .ok (.iadd, 1) := by decide +kernel
theorem dX5_isRow_37 : decode cX5_isRow 37 = .ok (.irem, 1) := by decide +kernel
theorem dX5_isRow_38 : decode cX5_isRow 38 = .ok (.iastore, 1) := by decide +kernel
theorem dX5_isRow_39 : decode cX5_isRow 39 = .ok (.iload_n 2, 1) := by decide +kernel
theorem dX5_isRow_40 : decode cX5_isRow 40 = .ok (.aload_n 0, 1) := by decide +kernel
theorem dX5_isRow_41 : decode cX5_isRow 41 = .ok (.getfield 13, 3) := by decide +kernel
theorem dX5_isRow_44 : decode cX5_isRow 44 = .ok (.iconst 1, 1) := by decide +kernel
theorem dX5_isRow_45 : decode cX5_isRow 45 = .ok (.iaload, 1) := by decide +kernel
theorem dX5_isRow_46 : decode cX5_isRow 46 = .ok (.iconst 1, 1) := by decide +kernel
theorem dX5_isRow_47 : decode cX5_isRow 47 = .ok (.iadd, 1) := by decide +kernel
theorem dX5_isRow_48 : decode cX5_isRow 48 = .ok (.idiv, 1) := by decide +kernel
theorem dX5_isRow_49 : decode cX5_isRow 49 = .ok (.istore_n 2, 1) := by decide +kernel
theorem dX5_isRow_50 : decode cX5_isRow 50 = .ok (.iload_n 3, 1) := by decide +kernel
theorem dX5_isRow_51 : decode cX5_isRow 51 = .ok (.aload_n 0, 1) := by decide +kernel
theorem dX5_isRow_52 : decode cX5_isRow 52 = .ok (.getfield 56, 3) := by decide +kernel
theorem dX5_isRow_55 : decode cX5_isRow 55 = .ok (.iload 5, 2) := by decide +kernel
theorem dX5_isRow_57 : decode cX5_isRow 57 = .ok (.iaload, 1) := by decide +kernel
theorem dX5_isRow_58 : decode cX5_isRow 58 = .ok (.ifCond .ne 7, 3) := by decide +kernel
theorem dX5_isRow_61 : decode cX5_isRow 61 = .ok (.iconst 1, 1) := by decide +kernel
theorem dX5_isRow_62 : decode cX5_isRow 62 = .ok (.goto 4, 3) := by decide +kernel
theorem dX5_isRow_65 : decode cX5_isRow 65 = .ok (.iconst 0, 1) := by decide +kernel
theorem dX5_isRow_66 : decode cX5_isRow 66 = .ok (.iadd, 1) := by decide +kernel
theorem dX5_isRow_67 : decode cX5_isRow 67 = .ok (.istore_n 3, 1) := by decide +kernel
theorem dX5_isRow_68 : decode cX5_isRow 68 = .ok (.iload 4, 2) := by decide +kernel
theorem dX5_isRow_70 : decode cX5_isRow 70 = .ok (.ifCond .eq 21, 3) := by decide +kernel
theorem dX5_isRow_73 : decode cX5_isRow 73 = .ok (.aload_n 0, 1) := by decide +kernel
theorem dX5_isRow_74 : decode cX5_isRow 74 = .ok (.getfield 56, 3) := by decide +kernel
theorem dX5_isRow_77 : decode cX5_isRow 77 = .ok (.iload 5, 2) := by decide +kernel
theorem dX5_isRow_79 : decode cX5_isRow 79 = .ok (.iaload, 1) := by decide +kernel
theorem dX5_isRow_80 : decode cX5_isRow 80 = .ok (.iload 5, 2) := by decide +kernel
theorem dX5_isRow_82 : decode cX5_isRow 82 = .ok (.iconst 1, 1) := by decide +kernel
theorem dX5_isRow_83 : decode cX5_isRow 83 = .ok (.iadd, 1) := by decide +kernel
theorem dX5_isRow_84 : decode cX5_isRow 84 = .ok (.if_icmp .eq 7, 3) := by decide +kernel
theorem dX5_isRow_87 : decode cX5_isRow 87 = .ok (.iconst 1, 1) := by decide +kernel
theorem dX5_isRow_88 : decode cX5_isRow 88 = .ok (.goto 4, 3) := by decide +kernel
theorem dX5_isRow_91 : decode cX5_isRow 91 = .ok (.iconst 0, 1) := by decide +kernel
theorem dX5_isRow_92 : decode cX5_isRow 92 = .ok (.istore 4, 2) := by decide +kernel
theorem dX5_isRow_94 : decode cX5_isRow 94 = .ok (.iinc 5 (-1), 3) := by decide +kernel
theorem dX5_isRow_97 : decode cX5_isRow 97 = .ok (.goto (-80), 3) := by decide +kernel
theorem dX5_isRow_100 : decode cX5_isRow 100 = .ok (.iconst 0, 1) := by decide +kernel
theorem dX5_isRow_101 : decode cX5_isRow 101 = .ok (.istore 5, 2) := by decide +kernel
theorem dX5_isRow_103 : decode cX5_isRow 103 = .ok (.iload 5, 2) := by decide +kernel
theorem dX5_isRow_105 : decode cX5_isRow 105 = .ok (.aload_n 0, 1) := by decide +kernel
theorem dX5_isRow_106 : decode cX5_isRow 106 = .ok (.getfield 13, 3) := by decide +kernel
theorem dX5_isRow_109 : decode cX5_isRow 109 = .ok (.iconst 1, 1) := by decide +kernel
theorem dX5_isRow_110 : decode cX5_isRow 110 = .ok (.iaload, 1) := by decide +kernel
theorem dX5_isRow_111 : decode cX5_isRow 111 = .ok (.if_icmp .ge 52, 3) := by decide +kernel
theorem dX5_isRow_114 : decode cX5_isRow 114 = .ok (.iload 4, 2) := by decide +kernel
theorem dX5_isRow_116 : decode cX5_isRow 116 = .ok (.ifCond .eq 47, 3) := by decide +kernel
theorem dX5_isRow_119 : decode cX5_isRow 119 = .ok (.aload_n 0, 1) := by decide +kernel
theorem dX5_isRow_120 : decode cX5_isRow 120 = .ok (.getfield 56, 3) := by decide +kernel
theorem dX5_isRow_123 : decode cX5_isRow 123 = .ok (.iload 5, 2) := by decide +kernel
theorem dX5_isRow_125 : decode cX5_isRow 125 = .ok (.iaload, 1) := by decide +kernel
theorem dX5_isRow_126 : decode cX5_isRow 126 = .ok (.ifCond .eq 24, 3) := by decide +kernel
theorem dX5_isRow_129 : decode cX5_isRow 129 = .ok (.aload_n 0, 1) := by decide +kernel
theorem dX5_isRow_130 : decode cX5_isRow 130 = .ok (.getfield 56, 3) := by decide +kernel
theorem dX5_isRow_133 : decode cX5_isRow 133 = .ok (.aload_n 0, 1) := by decide +kernel
theorem dX5_isRow_134 : decode cX5_isRow 134 = .ok (.getfield 56, 3) := by decide +kernel
theorem dX5_isRow_137 : decode cX5_isRow 137 = .ok (.iload 5, 2) := by decide +kernel
theorem dX5_isRow_139 : decode cX5_isRow 139 = .ok (.iaload, 1) := by decide +kernel
theorem dX5_isRow_140 : decode cX5_isRow 140 = .ok (.iconst 1, 1) := by decide +kernel
theorem dX5_isRow_141 : decode cX5_isRow 141 = .ok (.isub, 1) := by decide +kernel
theorem dX5_isRow_142 : decode cX5_isRow 142 = .ok (.iaload, 1) := by decide +kernel
theorem dX5_isRow_143 : decode cX5_isRow 143 = .ok (.iload 5, 2) := by decide +kernel
theorem dX5_isRow_145 : decode cX5_isRow 145 = .ok (.iconst 1, 1) := by decide +kernel
theorem dX5_isRow_146 : decode cX5_isRow 146 = .ok (.iadd, 1) := by decide +kernel
theorem dX5_isRow_147 : decode cX5_isRow 147 = .ok (.if_icmp .ne 7, 3) := by decide +kernel
theorem dX5_isRow_150 : decode cX5_isRow 150 = .ok (.iconst 1, 1) := by decide +kernel
theorem dX5_isRow_151 : decode cX5_isRow 151 = .ok (.goto 4, 3) := by decide +kernel
theorem dX5_isRow_154 : decode cX5_isRow 154 = .ok (.iconst 0, 1) := by decide +kernel
theorem dX5_isRow_155 : decode cX5_isRow 155 = .ok (.istore 4, 2) := by decide +kernel
theorem dX5_isRow_157 : decode cX5_isRow 157 = .ok (.iinc 5 1, 3) := by decide +kernel
theorem dX5_isRow_160 : decode cX5_isRow 160 = .ok (.goto (-57), 3) := by decide +kernel
theorem dX5_isRow_163 : decode cX5_isRow 163 = .ok (.iload 4, 2) := by decide +kernel
theorem dX5_isRow_165 : decode cX5_isRow 165 = .ok (.ifCond .eq 19, 3) := by decide +kernel
theorem dX5_isRow_168 : decode cX5_isRow 168 = .ok (.iload_n 3, 1) := by decide +kernel
theorem dX5_isRow_169 : decode cX5_isRow 169 = .ok (.aload_n 0, 1) := by decide +kernel
theorem dX5_isRow_170 : decode cX5_isRow 170 = .ok (.getfield 13, 3) := by decide +kernel
theorem dX5_isRow_173 : decode cX5_isRow 173 = .ok (.iconst 1, 1) := by decide +kernel
theorem dX5_isRow_174 : decode cX5_isRow 174 = .ok (.iaload, 1) := by decide +kernel
theorem dX5_isRow_175 : decode cX5_isRow 175 = .ok (.iconst 2, 1) := by decide +kernel
theorem dX5_isRow_176 : decode cX5_isRow 176 = .ok (.irem, 1) := by decide +kernel
theorem dX5_isRow_177 : decode cX5_isRow 177 = .ok (.if_icmp .ne 7, 3) := by decide +kernel
theorem dX5_isRow_180 : decode cX5_isRow 180 = .ok (.iconst 1, 1) := by decide +kernel
theorem dX5_isRow_181 : decode cX5_isRow 181 = .ok (.goto 4, 3) := by decide +kernel
theorem dX5_isRow_184 : decode cX5_isRow 184 = .ok (.iconst 0, 1) := by decide +kernel
theorem dX5_isRow_185 : decode cX5_isRow 185 = .ok (.ireturn, 1) := by decide +kernel
theorem dX5_faces_0 : decode cX5_faces 0 = .ok (.aload_n 0, 1) := by decide +kernel
theorem dX5_faces_1 : decode cX5_faces 1 = .ok (.iconst 0, 1) := by decide +kernel
theorem dX5_faces_2 : decode cX5_faces 2 = .ok (.putfield 62, 3) := by decide +kernel
theorem dX5_faces_5 : decode cX5_faces 5 = .ok (.iload_n 1, 1) := by decide +kernel
theorem dX5_faces_6 : decode cX5_faces 6 = .ok (.iconst (-1), 1) := by decide +kernel
theorem dX5_faces_7 : decode cX5_faces 7 = .ok (.if_icmp .eq 11, 3) := by decide +kernel
theorem dX5_faces_10 : decode cX5_faces 10 = .ok (.aload_n 0, 1) := by decide +kernel
theorem dX5_faces_11 : decode cX5_faces 11 = .ok (.iload_n 1, 1) := by decide +kernel
theorem dX5_faces_12 : decode cX5_faces 12 = .ok (.invokevirtual 134, 3) := by decide +kernel
theorem dX5_faces_15 : decode cX5_faces 15 = .ok (.ifCond .eq 12, 3) := by decide +kernel
theorem dX5_faces_18 : decode cX5_faces 18 = .ok (.aload_n 0, 1) := by decide +kernel
theorem dX5_faces_19 : decode cX5_faces 19 = .ok (.getfield 13, 3) := by decide +kernel
theorem dX5_faces_22 : decode cX5_faces 22 = .ok (.iconst 1, 1) := by decide +kernel
theorem dX5_faces_23 : decode cX5_faces 23 = .ok (.iaload, 1) := by decide +kernel
theorem dX5_faces_24 : decode cX5_faces 24 = .ok (.ifCond .ne 6, 3) := by decide +kernel
theorem dX5_faces_27 : decode cX5_faces 27 = .ok (.ldc 141, 2) := by decide +kernel
theorem dX5_faces_29 : decode cX5_faces 29 = .ok (.ireturn, 1) := by decide +kernel
theorem dX5_faces_30 : decode cX5_faces 30 = .ok (.iconst 1, 1) := by decide +kernel
theorem dX5_faces_31 : decode cX5_faces 31 = .ok (.istore_n 2, 1) := by decide +kernel
theorem dX5_faces_32 : decode cX5_faces 32 = .ok (.iconst 0, 1) := by decide +kernel
theorem dX5_faces_33 : decode cX5_faces 33 = .ok (.istore_n 3, 1) := by decide +kernel
theorem dX5_faces_34 : decode cX5_faces 34 = .ok (.iload_n 3, 1) := by decide +kernel
theorem dX5_faces_35 : decode cX5_faces 35 = .ok (.aload_n 0, 1) := by decide +kernel
theorem dX5_faces_36 : decode cX5_faces 36 = .ok (.getfield 13, 3) := by decide +kernel
theorem dX5_faces_39 : decode cX5_faces 39 = .ok (.iconst 1, 1) := by decide +kernel
theorem dX5_faces_40 : decode cX5_faces 40 = .ok (.iaload, 1) := by decide +kernel
theorem dX5_faces_41 : decode cX5_faces 41 = .ok (.if_icmp .ge 20, 3) := by decide +kernel
theorem dX5_faces_44 : decode cX5_faces 44 = .ok (.iload_n 2, 1) := by decide +kernel
theorem dX5_faces_45 : decode cX5_faces 45 = .ok (.aload_n 0, 1) := by decide +kernel
theorem dX5_faces_46 : decode cX5_faces 46 = .ok (.getfield 13, 3) := by decide +kernel
theorem dX5_faces_49 : decode cX5_faces 49 = .ok (.iconst 1, 1) := by decide +kernel
theorem dX5_faces_50 : decode cX5_faces 50 = .ok (.iaload, 1) := by decide +kernel
theorem dX5_faces_51 : decode cX5_faces 51 = .ok (.iconst 1, 1) := by decide +kernel
theorem dX5_faces_52 : decode cX5_faces 52 = .ok (.iadd, 1) := by decide +kernel
theorem dX5_faces_53 : decode cX5_faces 53 = .ok (.imul, 1) := by decide +kernel
theorem dX5_faces_54 : decode cX5_faces 54 = .ok (.istore_n 2, 1) := by decide +kernel
theorem dX5_faces_55 : decode cX5_faces 55 = .ok (.iinc 3 1, 3) := by decide +kernel
theorem dX5_faces_58 : decode cX5_faces 58 = .ok (.goto (-24), 3) := by decide +kernel
theorem dX5_faces_61 : decode cX5_faces 61 = .ok (.ldc 141, 2) := by decide +kernel
theorem dX5_faces_63 : decode cX5_faces 63 = .ok (.istore_n 3, 1) := by decide +kernel
theorem dX5_faces_64 : decode cX5_faces 64 = .ok (.iconst 0, 1) := by decide +kernel
theorem dX5_faces_65 : decode cX5_faces 65 = .ok (.istore 4, 2) := by decide +kernel
theorem dX5_faces_67 : decode cX5_faces 67 = .ok (.iload 4, 2) := by decide +kernel
theorem dX5_faces_69 : decode cX5_faces 69 = .ok (.iload_n 2, 1) := by decide +kernel
theorem dX5_faces_70 : decode cX5_faces 70 = .ok (.if_icmp .ge 65, 3) := by decide +kernel
theorem dX5_faces_73 : decode cX5_faces 73 = .ok (.aload_n 0, 1) := by decide +kernel
theorem dX5_faces_74 : decode cX5_faces 74 = .ok (.iload 4, 2) := by decide +kernel
theorem dX5_faces_76 : decode cX5_faces 76 = .ok (.invokevirtual 181, 3) := by decide +kernel
theorem dX5_faces_79 : decode cX5_faces 79 = .ok (.ifCond .eq 50, 3) := by decide +kernel
theorem dX5_faces_82 : decode cX5_faces 82 = .ok (.aload_n 0, 1) := by decide +kernel
theorem dX5_faces_83 : decode cX5_faces 83 = .ok (.invokevirtual 184, 3) := by decide +kernel
theorem dX5_faces_86 : decode cX5_faces 86 = .ok (.iload_n 3, 1) := by decide +kernel
theorem dX5_faces_87 : decode cX5_faces 87 = .ok (.if_icmp .le 42, 3) := by decide +kernel
theorem dX5_faces_90 : decode cX5_faces 90 = .ok (.aload_n 0, 1) := by decide +kernel
theorem dX5_faces_91 : decode cX5_faces 91 = .ok (.invokevirtual 184, 3) := by decide +kernel
theorem dX5_faces_94 : decode cX5_faces 94 = .ok (.istore_n 3, 1) := by decide +kernel
theorem dX5_faces_95 : decode cX5_faces 95 = .ok (.iconst 0, 1) := by decide +kernel
theorem dX5_faces_96 : decode cX5_faces 96 = .ok (.istore 5, 2) := by decide +kernel
theorem dX5_faces_98 : decode cX5_faces 98 = .ok (.iload 5, 2) := by decide +kernel
theorem dX5_faces_100 : decode cX5_faces 100 = .ok (.aload_n 0, 1) := by decide +kernel
theorem dX5_faces_101 : decode cX5_faces 101 = .ok (.getfield 13, 3) := by decide +kernel
theorem dX5_faces_104 : decode cX5_faces 104 = .ok (.iconst 1, 1) := by decide +kernel
theorem dX5_faces_105 : decode cX5_faces 105 = .ok (.iaload, 1) := by decide +kernel
theorem dX5_faces_106 : decode cX5_faces 106 = .ok (.if_icmp .ge 23, 3) := by decide +kernel
theorem dX5_faces_109 : decode cX5_faces 109 = .ok (.aload_n 0, 1) := by decide +kernel
theorem dX5_faces_110 : decode cX5_faces 110 = .ok (.getfield 59, 3) := by decide +kernel
theorem dX5_faces_113 : decode cX5_faces 113 = .ok (.iload 5, 2) := by decide +kernel
theorem dX5_faces_115 : decode cX5_faces 115 = .ok (.aload_n 0, 1) := by decide +kernel
theorem dX5_faces_116 : decode cX5_faces 116 = .ok (.getfield 56, 3) := by decide +kernel
theorem dX5_faces_119 : decode cX5_faces 119 = .ok (.iload 5, 2) := by decide +kernel
theorem dX5_faces_121 : decode cX5_faces 121 = .ok (.iaload, 1) := by decide +kernel
theorem dX5_faces_122 : decode cX5_faces 122 = .ok (.iastore, 1) := by decide +kernel
theorem dX5_faces_123 : decode cX5_faces 123 = .ok (.iinc 5 1, 3) := by decide +kernel
theorem dX5_faces_126 : decode cX5_faces 126 = .ok (.goto (-28), 3) := by decide +kernel
theorem dX5_faces_129 : decode cX5_faces 129 = .ok (.iinc 4 1, 3) := by decide +kernel
theorem dX5_faces_132 : decode cX5_faces 132 = .ok (.goto (-65), 3) := by decide +kernel
theorem dX5_faces_135 : decode cX5_faces 135 = .ok (.iload_n 1, 1) := by decide +kernel
theorem dX5_faces_136 : decode cX5_faces 136 = .ok (.iconst (-1), 1) := by decide +kernel
theorem dX5_faces_137 : decode cX5_faces 137 = .ok (.if_icmp .ne 7, 3) := by decide +kernel
theorem dX5_faces_140 : decode cX5_faces 140 = .ok (.iload_n 3, 1) := by decide +kernel
theorem dX5_faces_141 : decode cX5_faces 141 = .ok (.goto 25, 3) := by decide +kernel
theorem dX5_faces_144 : decode cX5_faces 144 = .ok (.aload_n 0, 1) := by decide +kernel
theorem dX5_faces_145 : decode cX5_faces 145 = .ok (.getfield 59, 3) := by decide +kernel
theorem dX5_faces_148 : decode cX5_faces 148 = .ok (.iload_n 1, 1) := by decide +kernel
theorem dX5_faces_149 : decode cX5_faces 149 = .ok (.iaload, 1) := by decide +kernel
theorem dX5_faces_150 : decode cX5_faces 150 = .ok (.ifCond .ne 8, 3) := by decide +kernel
theorem dX5_faces_153 : decode cX5_faces 153 = .ok (.bipush (-9), 2) := by decide +kernel
theorem dX5_faces_155 : decode cX5_faces 155 = .ok (.goto 11, 3) := by decide +kernel
theorem dX5_faces_158 : decode cX5_faces 158 = .ok (.aload_n 0, 1) := by decide +kernel
theorem dX5_faces_159 : decode cX5_faces 159 = .ok (.getfield 59, 3) := by decide +kernel
theorem dX5_faces_162 : decode cX5_faces 162 = .ok (.iload_n 1, 1) := by decide +kernel
theorem dX5_faces_163 : decode cX5_faces 163 = .ok (.iaload, 1) := by decide +kernel
theorem dX5_faces_164 : decode cX5_faces 164 = .ok (.iconst 1, 1) := by decide +kernel
theorem dX5_faces_165 : decode cX5_faces 165 = .ok (.isub, 1) := by decide +kernel
theorem dX5_faces_166 : decode cX5_faces 166 = .ok (.ireturn, 1) := by decide +kernel
theorem dX5_needed_0 : decode cX5_needed 0 = .ok (.aload_n 0, 1) := by decide +kernel
theorem dX5_needed_1 : decode cX5_needed 1 = .ok (.iconst 0, 1) := by decide +kernel
theorem dX5_needed_2 : decode cX5_needed 2 = .ok (.putfield 62, 3) := by decide +kernel
theorem dX5_needed_5 : decode cX5_needed 5 = .ok (.iload_n 1, 1) := by decide +kernel
theorem dX5_needed_6 : decode cX5_needed 6 = .ok (.iconst (-1), 1) := by decide +kernel
theorem dX5_needed_7 : decode cX5_needed 7 = .ok (.if_icmp .eq 13, 3) := by decide +kernel
theorem dX5_needed_10 : decode cX5_needed 10 = .ok (.aload_n 0, 1) := by decide +kernel
theorem dX5_needed_11 : decode cX5_needed 11 = .ok (.iload_n 1, 1) := by decide +kernel
theorem dX5_needed_12 : decode cX5_needed 12 = .ok (.invokevirtual 134, 3) := by decide +kernel
theorem dX5_needed_15 : decode cX5_needed 15 = .ok (.ifCond .ne 5, 3) := by decide +kernel
theorem dX5_needed_18 : decode cX5_needed 18 = .ok (.iconst (-1), 1) := by decide +kernel
theorem dX5_needed_19 : decode cX5_needed 19 = .ok (.ireturn, 1) := by decide +kernel
theorem dX5_needed_20 : decode cX5_needed 20 = .ok (.aload_n 0, 1) := by decide +kernel
theorem dX5_needed_21 : decode cX5_needed 21 = .ok (.invokevirtual 169, 3) := by decide +kernel
theorem dX5_needed_24 : decode cX5_needed 24 = .ok (.ldc 180, 2) := by decide +kernel
theorem dX5_needed_26 : decode cX5_needed 26 = .ok (.istore_n 2, 1) := by decide +kernel
theorem dX5_needed_27 : decode cX5_needed 27 = .ok (.iconst 0, 1) := by decide +kernel
theorem dX5_needed_28 : decode cX5_needed 28 = .ok (.istore_n 3, 1) := by decide +kernel
theorem dX5_needed_29 : decode cX5_needed 29 = .ok (.iload_n 3, 1) := by decide +kernel
theorem dX5_needed_30 : decode cX5_needed 30 = .ok (.iconst 1, 1) := by decide +kernel
theorem dX5_needed_31 : decode cX5_needed 31 = .ok (.iconst 2, 1) := by decide +kernel
theorem dX5_needed_32 : decode cX5_needed 32 = .ok (.aload_n 0, 1) := by decide +kernel
theorem dX5_needed_33 : decode cX5_needed 33 = .ok (.getfield 13, 3) := by decide +kernel
theorem dX5_needed_36 : decode cX5_needed 36 = .ok (.iconst 1, 1) := by decide +kernel
theorem dX5_needed_37 : decode cX5_needed 37 = .ok (.iaload, 1) := by decide +kernel
theorem dX5_needed_38 : decode cX5_needed 38 = .ok (.imul, 1) := by decide +kernel
theorem dX5_needed_39 : decode cX5_needed 39 = .ok (.ishl, 1) := by decide +kernel
theorem dX5_needed_40 : decode cX5_needed 40 = .ok (.if_icmp .ge 193, 3) := by decide +kernel
theorem dX5_needed_43 : decode cX5_needed 43 = .ok (.iconst 0, 1) := by decide +kernel
theorem dX5_needed_44 : decode cX5_needed 44 = .ok (.istore 4, 2) := by decide +kernel
theorem dX5_needed_46 : decode cX5_needed 46 = .ok (.iconst 0, 1) := by decide +kernel
theorem dX5_needed_47 : decode cX5_needed 47 = .ok (.istore 5, 2) := by decide +kernel
theorem dX5_needed_49 : decode cX5_needed 49 = .ok (.iload 5, 2) := by decide +kernel
theorem dX5_needed_51 : decode cX5_needed 51 = .ok (.aload_n 0, 1) := by decide +kernel
theorem dX5_needed_52 : decode cX5_needed 52 = .ok (.getfield 13, 3) := by decide +kernel
theorem dX5_needed_55 : decode cX5_needed 55 = .ok (.iconst 1, 1) := by decide +kernel
theorem dX5_needed_56 : decode cX5_needed 56 = .ok (.iaload, 1) := by decide +kernel
theorem dX5_needed_57 : decode cX5_needed 57 = .ok (.if_icmp .ge 51, 3) := by decide +kernel
theorem dX5_needed_60 : decode cX5_needed 60 = .ok (.aload_n 0, 1) := by decide +kernel
theorem dX5_needed_61 : decode cX5_needed 61 = .ok (.getfield 37, 3) := by decide +kernel
theorem dX5_needed_64 : decode cX5_needed 64 = .ok (.bipush 12, 2) := by decide +kernel
theorem dX5_needed_66 : decode cX5_needed 66 = .ok (.iload 5, 2) := by decide +kernel
theorem dX5_needed_68 : decode cX5_needed 68 = .ok (.iadd, 1) := by decide +kernel
theorem dX5_needed_69 : decode cX5_needed 69 = .ok (.iload_n 3, 1) := by decide +kernel
theorem dX5_needed_70 : decode cX5_needed 70 = .ok (.iconst 2, 1) := by decide +kernel
theorem dX5_needed_71 : decode cX5_needed 71 = .ok (.aload_n 0, 1) := by decide +kernel
theorem dX5_needed_72 : decode cX5_needed 72 = .ok (.getfield 13, 3) := by decide +kernel
theorem dX5_needed_75 : decode cX5_needed 75 = .ok (.iconst 1, 1) := by decide +kernel
theorem dX5_needed_76 : decode cX5_needed 76 = .ok (.iaload, 1) := by decide +kernel
theorem dX5_needed_77 : decode cX5_needed 77 = .ok (.iconst 1, 1) := by decide +kernel
theorem dX5_needed_78 : decode cX5_needed 78 = .ok (.isub, 1) := by decide +kernel
theorem dX5_needed_79 : decode cX5_needed 79 = .ok (.iload 5, 2) := by decide +kernel
theorem dX5_needed_81 : decode cX5_needed 81 = .ok (.isub, 1) := by decide +kernel
theorem dX5_needed_82 : decode cX5_needed 82 = .ok (.imul, 1) := by decide +kernel
theorem dX5_needed_83 : decode cX5_needed 83 = .ok (.ishr, 1) := by decide +kernel
theorem dX5_needed_84 : decode cX5_needed 84 = .ok (.iconst 3, 1) := by decide +kernel
theorem dX5_needed_85 : decode cX5_needed 85 = .ok (.iand, 1) := by decide +kernel
theorem dX5_needed_86 : decode cX5_needed 86 = .ok (.iastore, 1) := by decide +kernel
theorem dX5_needed_87 : decode cX5_needed 87 = .ok (.iload 4, 2) := by decide +kernel
theorem dX5_needed_89 : decode cX5_needed 89 = .ok (.aload_n 0, 1) := by decide +kernel
theorem dX5_needed_90 : decode cX5_needed 90 = .ok (.getfield 37, 3) := by decide +kernel
theorem dX5_needed_93 : decode cX5_needed 93 = .ok (.bipush 12, 2) := by decide +kernel
theorem dX5_needed_95 : decode cX5_needed 95 = .ok (.iload 5, 2) := by decide +kernel
theorem dX5_needed_97 : decode cX5_needed 97 = .ok (.iadd, 1) := by decide +kernel
theorem dX5_needed_98 : decode cX5_needed 98 = .ok (.iaload, 1) := by decide +kernel
theorem dX5_needed_99 : decode cX5_needed 99 = .ok (.iadd, 1) := by decide +kernel
theorem dX5_needed_100 : decode cX5_needed 100 = .ok (.istore 4, 2) := by decide +kernel
theorem dX5_needed_102 : decode cX5_needed 102 = .ok (.iinc 5 1, 3) := by decide +kernel
theorem dX5_needed_105 : decode cX5_needed 105 = .ok (.goto (-56), 3) := by decide +kernel
theorem dX5_needed_108 : decode cX5_needed 108 = .ok (.iload 4, 2) := by decide +kernel
theorem dX5_needed_110 : decode cX5_needed 110 = .ok (.iload_n 2, 1) := by decide +kernel
theorem dX5_needed_111 : decode cX5_needed 111 = .ok (.if_icmp .ge 7, 3) := by decide +kernel
theorem dX5_needed_114 : decode cX5_needed 114 = .ok (.iconst 1, 1) := by decide +kernel
theorem dX5_needed_115 : decode cX5_needed 115 = .ok (.goto 4, 3) := by decide +kernel
theorem dX5_needed_118 : decode cX5_needed 118 = .ok (.iconst 0, 1) := by decide +kernel
theorem dX5_needed_119 : decode cX5_needed 119 = .ok (.istore 5, 2) := by decide +kernel
theorem dX5_needed_121 : decode cX5_needed 121 = .ok (.iconst 0, 1) := by decide +kernel
theorem dX5_needed_122 : decode cX5_needed 122 = .ok (.istore 6, 2) := by decide +kernel
theorem dX5_needed_124 : decode cX5_needed 124 = .ok (.iload 6, 2) := by decide +kernel
theorem dX5_needed_126 : decode cX5_needed 126 = .ok (.aload_n 0, 1) := by decide +kernel
theorem dX5_needed_127 : decode cX5_needed 127 = .ok (.getfield 13, 3) := by decide +kernel
theorem dX5_needed_130 : decode cX5_needed 130 = .ok (.iconst 1, 1) := by decide +kernel
theorem dX5_needed_131 : decode cX5_needed 131 = .ok (.iaload, 1) := by decide +kernel
theorem dX5_needed_132 : decode cX5_needed 132 = .ok (.if_icmp .ge 41, 3) := by decide +kernel
theorem dX5_needed_135 : decode cX5_needed 135 = .ok (.iload 5, 2) := by decide +kernel
theorem dX5_needed_137 : decode cX5_needed 137 = .ok (.ifCond .eq 36, 3) := by decide +kernel
theorem dX5_needed_140 : decode cX5_needed 140 = .ok (.aload_n 0, 1) := by decide +kernel
theorem dX5_needed_141 : decode cX5_needed 141 = .ok (.aload_n 0, 1) := by decide +kernel
theorem dX5_needed_142 : decode cX5_needed 142 = .ok (.getfield 37, 3) := by decide +kernel
theorem dX5_needed_145 : decode cX5_needed 145 = .ok (.iload 6, 2) := by decide +kernel
theorem dX5_needed_147 : decode cX5_needed 147 = .ok (.invokevirtual 142, 3) := by decide +kernel
theorem dX5_needed_150 : decode cX5_needed 150 = .ok (.aload_n 0, 1) := by decide +kernel
theorem dX5_needed_151 : decode cX5_needed 151 = .ok (.getfield 28, 3) := by decide +kernel
theorem dX5_needed_154 : decode cX5_needed 154 = .ok (.iload 6, 2) := by decide +kernel
theorem dX5_needed_156 : decode cX5_needed 156 = .ok (.iaload, 1) := by decide +kernel
theorem dX5_needed_157 : decode cX5_needed 157 = .ok (.if_icmp .lt 7, 3) := by decide +kernel
theorem dX5_needed_160 : decode cX5_needed 160 = .ok (.iconst 1, 1) := by decide +kernel
theorem dX5_needed_161 : decode cX5_needed 161 = .ok (.goto 4, 3) := by decide +kernel
theorem dX5_needed_164 : decode cX5_needed 164 = .ok (.iconst 0, 1) := by decide +kernel
theorem dX5_needed_165 : decode cX5_needed 165 = .ok (.istore 5, 2) := by decide +kernel
theorem dX5_needed_167 : decode cX5_needed 167 = .ok (.iinc 6 1, 3) := by decide +kernel
theorem dX5_needed_170 : decode cX5_needed 170 = .ok (.goto (-46), 3) := by decide +kernel
theorem dX5_needed_173 : decode cX5_needed 173 = .ok (.iconst 0, 1) := by decide +kernel
theorem dX5_needed_174 : decode cX5_needed 174 = .ok (.istore 6, 2) := by decide +kernel
theorem dX5_needed_176 : decode cX5_needed 176 = .ok (.iload 6, 2) := by decide +kernel
theorem dX5_needed_178 : decode cX5_needed 178 = .ok (.aload_n 0, 1) := by decide +kernel
theorem dX5_needed_179 : decode cX5_needed 179 = .ok (.getfield 13, 3) := by decide +kernel
theorem dX5_needed_182 : decode cX5_needed 182 = .ok (.iconst 1, 1) := by decide +kernel
theorem dX5_needed_183 : decode cX5_needed 183 = .ok (.iaload, 1) := by decide +kernel
theorem dX5_needed_184 : decode cX5_needed 184 = .ok (.if_icmp .ge 31, 3) := by decide +kernel
theorem dX5_needed_187 : decode cX5_needed 187 = .ok (.iload 5, 2) := by decide +kernel
theorem dX5_needed_189 : decode cX5_needed 189 = .ok (.ifCond .eq 26, 3) := by decide +kernel
theorem dX5_needed_192 : decode cX5_needed 192 = .ok (.aload_n 0, 1) := by decide +kernel
theorem dX5_needed_193 : decode cX5_needed 193 = .ok (.getfield 59, 3) := by decide +kernel
theorem dX5_needed_196 : decode cX5_needed 196 = .ok (.iload 6, 2) := by decide +kernel
theorem dX5_needed_198 : decode cX5_needed 198 = .ok (.aload_n 0, 1) := by decide +kernel
theorem dX5_needed_199 : decode cX5_needed 199 = .ok (.getfield 37, 3) := by decide +kernel
theorem dX5_needed_202 : decode cX5_needed 202 = .ok (.bipush 12, 2) := by decide +kernel
theorem dX5_needed_204 : decode cX5_needed 204 = .ok (.iload 6, 2) := by decide +kernel
theorem dX5_needed_206 : decode cX5_needed 206 = .ok (.iadd, 1) := by decide +kernel
theorem dX5_needed_207 : decode cX5_needed 207 = .ok (.iaload, 1) := by decide +kernel
theorem dX5_needed_208 : decode cX5_needed 208 = .ok (.iastore, 1) := by decide +kernel
theorem dX5_needed_209 : decode cX5_needed 209 = .ok (.iinc 6 1, 3) := by decide +kernel
theorem dX5_needed_212 : decode cX5_needed 212 = .ok (.goto (-36), 3) := by decide +kernel
theorem dX5_needed_215 : decode cX5_needed 215 = .ok (.iload 5, 2) := by decide +kernel
theorem dX5_needed_217 : decode cX5_needed 217 = .ok (.ifCond .eq 8, 3) := by decide +kernel
theorem dX5_needed_220 : decode cX5_needed 220 = .ok (.iload 4, 2) := by decide +kernel
theorem dX5_needed_222 : decode cX5_needed 222 = .ok (.goto 4, 3) := by decide +kernel
theorem dX5_needed_225 : decode cX5_needed 225 = .ok (.iload_n 2, 1) := by decide +kernel
theorem dX5_needed_226 : decode cX5_needed 226 = .ok (.istore_n 2, 1) := by decide +kernel
theorem dX5_needed_227 : decode cX5_needed 227 = .ok (.iinc 3 1, 3) := by decide +kernel
theorem dX5_needed_230 : decode cX5_needed 230 = .ok (.goto (-201), 3) := by decide +kernel
theorem dX5_needed_233 : decode cX5_needed 233 = .ok (.iload_n 2, 1) := by decide +kernel
theorem dX5_needed_234 : decode cX5_needed 234 = .ok (.ldc 180, 2) := by decide +kernel
theorem dX5_needed_236 : decode cX5_needed 236 = .ok (.if_icmp .ne 8, 3) := by decide +kernel
theorem dX5_needed_239 : decode cX5_needed 239 = .ok (.bipush (-9), 2) := by decide +kernel
theorem dX5_needed_241 : decode cX5_needed 241 = .ok (.goto 18, 3) := by decide +kernel
theorem dX5_needed_244 : decode cX5_needed 244 = .ok (.iload_n 1, 1) := by decide +kernel
theorem dX5_needed_245 : decode cX5_needed 245 = .ok (.iconst (-1), 1) := by decide +kernel
theorem dX5_needed_246 : decode cX5_needed 246 = .ok (.if_icmp .ne 7, 3) := by decide +kernel
theorem dX5_needed_249 : decode cX5_needed 249 = .ok (.iload_n 2, 1) := by decide +kernel
theorem dX5_needed_250 : decode cX5_needed 250 = .ok (.goto 9, 3) := by decide +kernel
theorem dX5_needed_253 : decode cX5_needed 253 = .ok (.aload_n 0, 1) := by decide +kernel
theorem dX5_needed_254 : decode cX5_needed 254 = .ok (.getfield 59, 3) := by decide +kernel
theorem dX5_needed_257 : decode cX5_needed 257 = .ok (.iload_n 1, 1) := by decide +kernel
theorem dX5_needed_258 : decode cX5_needed 258 = .ok (.iaload, 1) := by decide +kernel
theorem dX5_needed_259 : decode cX5_needed 259 = .ok (.ireturn, 1) := by decide +kernel
theorem dX5_stubble_0 : decode cX5_stubble 0 = .ok (.aload_n 0, 1) := by decide +kernel
theorem dX5_stubble_1 : decode cX5_stubble 1 = .ok (.iconst 0, 1) := by decide +kernel
theorem dX5_stubble_2 : decode cX5_stubble 2 = .ok (.putfield 62, 3) := by decide +kernel
theorem dX5_stubble_5 : decode cX5_stubble 5 = .ok (.aload_n 0, 1) := by decide +kernel
theorem dX5_stubble_6 : decode cX5_stubble 6 = .ok (.iload_n 1, 1) := by decide +kernel
theorem dX5_stubble_7 : decode cX5_stubble 7 = .ok (.invokevirtual 134, 3) := by decide +kernel
theorem dX5_stubble_10 : decode cX5_stubble 10 = .ok (.ifCond .eq 14, 3) := by decide +kernel
theorem dX5_stubble_13 : decode cX5_stubble 13 = .ok (.iload_n 2, 1) := by decide +kernel
theorem dX5_stubble_14 : decode cX5_stubble 14 = .ok (.iconst 0, 1) := by decide +kernel
theorem dX5_stubble_15 : decode cX5_stubble 15 = .ok (.sipush 180, 3) := by decide +kernel
theorem dX5_stubble_18 : decode cX5_stubble 18 = .ok (.invokestatic 66, 3) := by decide +kernel
theorem dX5_stubble_21 : decode cX5_stubble 21 = .ok (.ifCond .ne 5, 3) := by decide +kernel
theorem dX5_stubble_24 : decode cX5_stubble 24 = .ok (.iconst (-1), 1) := by decide +kernel
theorem dX5_stubble_25 : decode cX5_stubble 25 = .ok (.ireturn, 1) := by decide +kernel
theorem dX5_stubble_26 : decode cX5_stubble 26 = .ok (.aload_n 0, 1) := by decide +kernel
theorem dX5_stubble_27 : decode cX5_stubble 27 = .ok (.getfield 114, 3) := by decide +kernel
theorem dX5_stubble_30 : decode cX5_stubble 30 = .ok (.iconst 5, 1) := by decide +kernel
theorem dX5_stubble_31 : decode cX5_stubble 31 = .ok (.if_icmp .ne 6, 3) := by decide +kernel
theorem dX5_stubble_34 : decode cX5_stubble 34 = .ok (.bipush (-3), 2) := by decide +kernel
theorem dX5_stubble_36 : decode cX5_stubble 36 = .ok (.ireturn, 1) := by decide +kernel
theorem dX5_stubble_37 : decode cX5_stubble 37 = .ok (.aload_n 0, 1) := by decide +kernel
theorem dX5_stubble_38 : decode cX5_stubble 38 = .ok (.getfield 50, 3) := by decide +kernel
theorem dX5_stubble_41 : decode cX5_stubble 41 = .ok (.aload_n 0, 1) := by decide +kernel
theorem dX5_stubble_42 : decode cX5_stubble 42 = .ok (.getfield 114, 3) := by decide +kernel
theorem dX5_stubble_45 : decode cX5_stubble 45 = .ok (.iload_n 1, 1) := by decide +kernel
theorem dX5_stubble_46 : decode cX5_stubble 46 = .ok (.iastore, 1) := by decide +kernel
theorem dX5_stubble_47 : decode cX5_stubble 47 = .ok (.aload_n 0, 1) := by decide +kernel
theorem dX5_stubble_48 : decode cX5_stubble 48 = .ok (.getfield 53, 3) := by decide +kernel
theorem dX5_stubble_51 : decode cX5_stubble 51 = .ok (.aload_n 0, 1) := by decide +kernel
theorem dX5_stubble_52 : decode cX5_stubble 52 = .ok (.getfield 114, 3) := by decide +kernel
theorem dX5_stubble_55 : decode cX5_stubble 55 = .ok (.iload_n 2, 1) := by decide +kernel
theorem dX5_stubble_56 : decode cX5_stubble 56 = .ok (.iastore, 1) := by decide +kernel
theorem dX5_stubble_57 : decode cX5_stubble 57 = .ok (.aload_n 0, 1) := by decide +kernel
theorem dX5_stubble_58 : decode cX5_stubble 58 = .ok (.dup, 1) := by decide +kernel
theorem dX5_stubble_59 : decode cX5_stubble 59 = .ok (.getfield 114, 3) := by decide +kernel
theorem dX5_stubble_62 : decode cX5_stubble 62 = .ok (.iconst 1, 1) := by decide +kernel
theorem dX5_stubble_63 : decode cX5_stubble 63 = .ok (.iadd, 1) := by decide +kernel
theorem dX5_stubble_64 : decode cX5_stubble 64 = .ok (.putfield 114, 3) := by decide +kernel
theorem dX5_stubble_67 : decode cX5_stubble 67 = .ok (.aload_n 0, 1) := by decide +kernel
theorem dX5_stubble_68 : decode cX5_stubble 68 = .ok (.getfield 114, 3) := by decide +kernel
theorem dX5_stubble_71 : decode cX5_stubble 71 = .ok (.ireturn, 1) := by decide +kernel
theorem dX5_forget_0 : decode cX5_forget 0 = .ok (.aload_n 0, 1) := by decide +kernel
theorem dX5_forget_1 : decode cX5_forget 1 = .ok (.iconst 0, 1) := by decide +kernel
theorem dX5_forget_2 : decode cX5_forget 2 = .ok (.putfield 62, 3) := by decide +kernel
theorem dX5_forget_5 : decode cX5_forget 5 = .ok (.aload_n 0, 1) := by decide +kernel
theorem dX5_forget_6 : decode cX5_forget 6 = .ok (.getfield 114, 3) := by decide +kernel
theorem dX5_forget_9 : decode cX5_forget 9 = .ok (.istore_n 1, 1) := by decide +kernel
theorem dX5_forget_10 : decode cX5_forget 10 = .ok (.aload_n 0, 1) := by decide +kernel
theorem dX5_forget_11 : decode cX5_forget 11 = .ok (.iconst 0, 1) := by decide +kernel
theorem dX5_forget_12 : decode cX5_forget 12 = .ok (.putfield 114, 3) := by decide +kernel
theorem dX5_forget_15 : decode cX5_forget 15 = .ok (.iload_n 1, 1) := by decide +kernel
theorem dX5_forget_16 : decode cX5_forget 16 = .ok (.ireturn, 1) := by decide +kernel
theorem dX5_cut_0 : decode cX5_cut 0 = .ok (.aload_n 0, 1) := by decide +kernel
theorem dX5_cut_1 : decode cX5_cut 1 = .ok (.iconst 0, 1) := by decide +kernel
theorem dX5_cut_2 : decode cX5_cut 2 = .ok (.putfield 62, 3) := by decide +kernel
theorem dX5_cut_5 : decode cX5_cut 5 = .ok (.aload_n 0, 1) := by decide +kernel
theorem dX5_cut_6 : decode cX5_cut 6 = .ok (.iload_n 1, 1) := by decide +kernel
theorem dX5_cut_7 : decode cX5_cut 7 = .ok (.invokevirtual 134, 3) := by decide +kernel
theorem dX5_cut_10 : decode cX5_cut 10 = .ok (.ifCond .ne 5, 3) := by decide +kernel
theorem dX5_cut_13 : decode cX5_cut 13 = .ok (.iconst (-1), 1) := by decide +kernel
theorem dX5_cut_14 : decode cX5_cut 14 = .ok (.ireturn, 1) := by decide +kernel
theorem dX5_cut_15 : decode cX5_cut 15 = .ok (.aload_n 0, 1) := by decide +kernel
theorem dX5_cut_16 : decode cX5_cut 16 = .ok (.getfield 34, 3) := by decide +kernel
theorem dX5_cut_19 : decode cX5_cut 19 = .ok (.bipush 6, 2) := by decide +kernel
theorem dX5_cut_21 : decode cX5_cut 21 = .ok (.iload_n 1, 1) := by decide +kernel
theorem dX5_cut_22 : decode cX5_cut 22 = .ok (.iadd, 1) := by decide +kernel
theorem dX5_cut_23 : decode cX5_cut 23 = .ok (.iaload, 1) := by decide +kernel
theorem dX5_cut_24 : decode cX5_cut 24 = .ok (.iconst 1, 1) := by decide +kernel
theorem dX5_cut_25 : decode cX5_cut 25 = .ok (.isub, 1) := by decide +kernel
theorem dX5_cut_26 : decode cX5_cut 26 = .ok (.istore_n 2, 1) := by decide +kernel
theorem dX5_cut_27 : decode cX5_cut 27 = .ok (.iconst 0, 1) := by decide +kernel
theorem dX5_cut_28 : decode cX5_cut 28 = .ok (.istore_n 3, 1) := by decide +kernel
theorem dX5_cut_29 : decode cX5_cut 29 = .ok (.aload_n 0, 1) := by decide +kernel
theorem dX5_cut_30 : decode cX5_cut 30 = .ok (.invokevirtual 169, 3) := by decide +kernel
theorem dX5_cut_33 : decode cX5_cut 33 = .ok (.iconst 0, 1) := by decide +kernel
theorem dX5_cut_34 : decode cX5_cut 34 = .ok (.istore 4, 2) := by decide +kernel
theorem dX5_cut_36 : decode cX5_cut 36 = .ok (.iload 4, 2) := by decide +kernel
theorem dX5_cut_38 : decode cX5_cut 38 = .ok (.aload_n 0, 1) := by decide +kernel
theorem dX5_cut_39 : decode cX5_cut 39 = .ok (.getfield 13, 3) := by decide +kernel
theorem dX5_cut_42 : decode cX5_cut 42 = .ok (.iconst 0, 1) := by decide +kernel
theorem dX5_cut_43 : decode cX5_cut 43 = .ok (.iaload, 1) := by decide +kernel
theorem dX5_cut_44 : decode cX5_cut 44 = .ok (.if_icmp .ge 102, 3) := by decide +kernel
theorem dX5_cut_47 : decode cX5_cut 47 = .ok (.iload_n 2, 1) := by decide +kernel
theorem dX5_cut_48 : decode cX5_cut 48 = .ok (.ifCond .lt 98, 3) := by decide +kernel
theorem dX5_cut_51 : decode cX5_cut 51 = .ok (.aload_n 0, 1) := by decide +kernel
theorem dX5_cut_52 : decode cX5_cut 52 = .ok (.getfield 37, 3) := by decide +kernel
theorem dX5_cut_55 : decode cX5_cut 55 = .ok (.iconst 0, 1) := by decide +kernel
theorem dX5_cut_56 : decode cX5_cut 56 = .ok (.iload_n 2, 1) := by decide +kernel
theorem dX5_cut_57 : decode cX5_cut 57 = .ok (.iadd, 1) := by decide +kernel
theorem dX5_cut_58 : decode cX5_cut 58 = .ok (.iload 4, 2) := by decide +kernel
theorem dX5_cut_60 : decode cX5_cut 60 = .ok (.iastore, 1) := by decide +kernel
theorem dX5_cut_61 : decode cX5_cut 61 = .ok (.iconst 1, 1) := by decide +kernel
theorem dX5_cut_62 : decode cX5_cut 62 = .ok (.istore 5, 2) := by decide +kernel
theorem dX5_cut_64 : decode cX5_cut 64 = .ok (.iconst 0, 1) := by decide +kernel
theorem dX5_cut_65 : decode cX5_cut 65 = .ok (.istore 6, 2) := by decide +kernel
theorem dX5_cut_67 : decode cX5_cut 67 = .ok (.iload 6, 2) := by decide +kernel
theorem dX5_cut_69 : decode cX5_cut 69 = .ok (.aload_n 0, 1) := by decide +kernel
theorem dX5_cut_70 : decode cX5_cut 70 = .ok (.getfield 114, 3) := by decide +kernel
theorem dX5_cut_73 : decode cX5_cut 73 = .ok (.if_icmp .ge 51, 3) := by decide +kernel
theorem dX5_cut_76 : decode cX5_cut 76 = .ok (.iload 5, 2) := by decide +kernel
theorem dX5_cut_78 : decode cX5_cut 78 = .ok (.ifCond .eq 37, 3) := by decide +kernel
theorem dX5_cut_81 : decode cX5_cut 81 = .ok (.aload_n 0, 1) := by decide +kernel
theorem dX5_cut_82 : decode cX5_cut 82 = .ok (.getfield 50, 3) := by decide +kernel
theorem dX5_cut_85 : decode cX5_cut 85 = .ok (.iload 6, 2) := by decide +kernel
theorem dX5_cut_87 : decode cX5_cut 87 = .ok (.iaload, 1) := by decide +kernel
theorem dX5_cut_88 : decode cX5_cut 88 = .ok (.iload_n 1, 1) := by decide +kernel
theorem dX5_cut_89 : decode cX5_cut 89 = .ok (.if_icmp .ne 22, 3) := by decide +kernel
theorem dX5_cut_92 : decode cX5_cut 92 = .ok (.aload_n 0, 1) := by decide +kernel
theorem dX5_cut_93 : decode cX5_cut 93 = .ok (.aload_n 0, 1) := by decide +kernel
theorem dX5_cut_94 : decode cX5_cut 94 = .ok (.getfield 37, 3) := by decide +kernel
theorem dX5_cut_97 : decode cX5_cut 97 = .ok (.iload_n 1, 1) := by decide +kernel
theorem dX5_cut_98 : decode cX5_cut 98 = .ok (.invokevirtual 124, 3) := by decide +kernel
theorem dX5_cut_101 : decode cX5_cut 101 = .ok (.aload_n 0, 1) := by decide +kernel
theorem dX5_cut_102 : decode cX5_cut 102 = .ok (.getfield 53, 3) := by decide +kernel
theorem dX5_cut_105 : decode cX5_cut 105 = .ok (.iload 6, 2) := by decide +kernel
theorem dX5_cut_107 : decode cX5_cut 107 = .ok (.iaload, 1) := by decide +kernel
theorem dX5_cut_108 : decode cX5_cut 108 = .ok (.if_icmp .ne 7, 3) := by decide +kernel
theorem dX5_cut_111 : decode cX5_cut 111 = .ok (.iconst 1, 1) := by decide +kernel
theorem dX5_cut_112 : decode cX5_cut 112 = .ok (.goto 4, 3) := by decide +kernel
theorem dX5_cut_115 : decode cX5_cut 115 = .ok (.iconst 0, 1) := by decide +kernel
theorem dX5_cut_116 : decode cX5_cut 116 = .ok (.istore 5, 2) := by decide +kernel
theorem dX5_cut_118 : decode cX5_cut 118 = .ok (.iinc 6 1, 3) := by decide +kernel
theorem dX5_cut_121 : decode cX5_cut 121 = .ok (.goto (-54), 3) := by decide +kernel
theorem dX5_cut_124 : decode cX5_cut 124 = .ok (.iload_n 3, 1) := by decide +kernel
theorem dX5_cut_125 : decode cX5_cut 125 = .ok (.iload 5, 2) := by decide +kernel
theorem dX5_cut_127 : decode cX5_cut 127 = .ok (.ifCond .eq 10, 3) := by decide +kernel
theorem dX5_cut_130 : decode cX5_cut 130 = .ok (.iconst 1, 1) := by decide +kernel
theorem dX5_cut_131 : decode cX5_cut 131 = .ok (.iload 4, 2) := by decide +kernel
theorem dX5_cut_133 : decode cX5_cut 133 = .ok (.ishl, 1) := by decide +kernel
theorem dX5_cut_134 : decode cX5_cut 134 = .ok (.goto 4, 3) := by decide +kernel
theorem dX5_cut_137 : decode cX5_cut 137 = .ok (.iconst 0, 1) := by decide +kernel
theorem dX5_cut_138 : decode cX5_cut 138 = .ok (.ior, 1) := by decide +kernel
theorem dX5_cut_139 : decode cX5_cut 139 = .ok (.istore_n 3, 1) := by decide +kernel
theorem dX5_cut_140 : decode cX5_cut 140 = .ok (.iinc 4 1, 3) := by decide +kernel
theorem dX5_cut_143 : decode cX5_cut 143 = .ok (.goto (-107), 3) := by decide +kernel
theorem dX5_cut_146 : decode cX5_cut 146 = .ok (.iload_n 3, 1) := by decide +kernel
theorem dX5_cut_147 : decode cX5_cut 147 = .ok (.ireturn, 1) := by decide +kernel
theorem dX5_power_0 : decode cX5_power 0 = .ok (.iconst 1, 1) := by decide +kernel
theorem dX5_power_1 : decode cX5_power 1 = .ok (.istore_n 2, 1) := by decide +kernel
theorem dX5_power_2 : decode cX5_power 2 = .ok (.iconst 0, 1) := by decide +kernel
theorem dX5_power_3 : decode cX5_power 3 = .ok (.istore_n 3, 1) := by decide +kernel
theorem dX5_power_4 : decode cX5_power 4 = .ok (.iload_n 3, 1) := by decide +kernel
theorem dX5_power_5 : decode cX5_power 5 = .ok (.iload_n 1, 1) := by decide +kernel
theorem dX5_power_6 : decode cX5_power 6 = .ok (.if_icmp .ge 13, 3) := by decide +kernel
theorem dX5_power_9 : decode cX5_power 9 = .ok (.iload_n 2, 1) := by decide +kernel
theorem dX5_power_10 : decode cX5_power 10 = .ok (.iload_n 0, 1) := by decide +kernel
theorem dX5_power_11 : decode cX5_power 11 = .ok (.imul, 1) := by decide +kernel
theorem dX5_power_12 : decode cX5_power 12 = .ok (.istore_n 2, 1) := by decide +kernel
theorem dX5_power_13 : decode cX5_power 13 = .ok (.iinc 3 1, 3) := by decide +kernel
theorem dX5_power_16 : decode cX5_power 16 = .ok (.goto (-12), 3) := by decide +kernel
theorem dX5_power_19 : decode cX5_power 19 = .ok (.iload_n 2, 1) := by decide +kernel
theorem dX5_power_20 : decode cX5_power 20 = .ok (.ireturn, 1) := by decide +kernel
theorem dX5_gcd_0 : decode cX5_gcd 0 = .ok (.iload_n 0, 1) := by decide +kernel
theorem dX5_gcd_1 : decode cX5_gcd 1 = .ok (.istore_n 2, 1) := by decide +kernel
theorem dX5_gcd_2 : decode cX5_gcd 2 = .ok (.iload_n 1, 1) := by decide +kernel
theorem dX5_gcd_3 : decode cX5_gcd 3 = .ok (.istore_n 3, 1) := by decide +kernel
theorem dX5_gcd_4 : decode cX5_gcd 4 = .ok (.iload_n 3, 1) := by decide +kernel
theorem dX5_gcd_5 : decode cX5_gcd 5 = .ok (.ifCond .eq 16, 3) := by decide +kernel
theorem dX5_gcd_8 : decode cX5_gcd 8 = .ok (.iload_n 2, 1) := by decide +kernel
theorem dX5_gcd_9 : decode cX5_gcd 9 = .ok (.iload_n 3, 1) := by decide +kernel
theorem dX5_gcd_10 : decode cX5_gcd 10 = .ok (.irem, 1) := by decide +kernel
theorem dX5_gcd_11 : decode cX5_gcd 11 = .ok (.istore 4, 2) := by decide +kernel
theorem dX5_gcd_13 : decode cX5_gcd 13 = .ok (.iload_n 3, 1) := by decide +kernel
theorem dX5_gcd_14 : decode cX5_gcd 14 = .ok (.istore_n 2, 1) := by decide +kernel
theorem dX5_gcd_15 : decode cX5_gcd 15 = .ok (.iload 4, 2) := by decide +kernel
theorem dX5_gcd_17 : decode cX5_gcd 17 = .ok (.istore_n 3, 1) := by decide +kernel
theorem dX5_gcd_18 : decode cX5_gcd 18 = .ok (.goto (-14), 3) := by decide +kernel
theorem dX5_gcd_21 : decode cX5_gcd 21 = .ok (.iload_n 2, 1) := by decide +kernel
theorem dX5_gcd_22 : decode cX5_gcd 22 = .ok (.ireturn, 1) := by decide +kernel
theorem dX5_odds_0 : decode cX5_odds 0 = .ok (.aload_n 0, 1) := by decide +kernel
theorem dX5_odds_1 : decode cX5_odds 1 = .ok (.iconst 0, 1) := by decide +kernel
theorem dX5_odds_2 : decode cX5_odds 2 = .ok (.putfield 62, 3) := by decide +kernel
theorem dX5_odds_5 : decode cX5_odds 5 = .ok (.iload_n 1, 1) := by decide +kernel
theorem dX5_odds_6 : decode cX5_odds 6 = .ok (.iconst 0, 1) := by decide +kernel
theorem dX5_odds_7 : decode cX5_odds 7 = .ok (.bipush 10, 2) := by decide +kernel
theorem dX5_odds_9 : decode cX5_odds 9 = .ok (.invokestatic 66, 3) := by decide +kernel
theorem dX5_odds_12 : decode cX5_odds 12 = .ok (.ifCond .eq 45, 3) := by decide +kernel
theorem dX5_odds_15 : decode cX5_odds 15 = .ok (.iload_n 2, 1) := by decide +kernel
theorem dX5_odds_16 : decode cX5_odds 16 = .ok (.iconst 0, 1) := by decide +kernel
theorem dX5_odds_17 : decode cX5_odds 17 = .ok (.bipush 6, 2) := by decide +kernel
theorem dX5_odds_19 : decode cX5_odds 19 = .ok (.invokestatic 66, 3) := by decide +kernel
theorem dX5_odds_22 : decode cX5_odds 22 = .ok (.ifCond .eq 35, 3) := by decide +kernel
theorem dX5_odds_25 : decode cX5_odds 25 = .ok (.aload_n 0, 1) := by decide +kernel
theorem dX5_odds_26 : decode cX5_odds 26 = .ok (.iload_n 3, 1) := by decide +kernel
theorem dX5_odds_27 : decode cX5_odds 27 = .ok (.invokevirtual 134, 3) := by decide +kernel
theorem dX5_odds_30 : decode cX5_odds 30 = .ok (.ifCond .eq 27, 3) := by decide +kernel
theorem dX5_odds_33 : decode cX5_odds 33 = .ok (.iload 4, 2) := by decide +kernel
theorem dX5_odds_35 : decode cX5_odds 35 = .ok (.sipush (-9999), 3) := by decide +kernel
theorem dX5_odds_38 : decode cX5_odds 38 = .ok (.sipush 9999, 3) := by decide +kernel
theorem dX5_odds_41 : decode cX5_odds 41 = .ok (.invokestatic 66, 3) := by decide +kernel
theorem dX5_odds_44 : decode cX5_odds 44 = .ok (.ifCond .eq 13, 3) := by decide +kernel
theorem dX5_odds_47 : decode cX5_odds 47 = .ok (.iload 5, 2) := by decide +kernel
theorem dX5_odds_49 : decode cX5_odds 49 = .ok (.iconst 0, 1) := by decide +kernel
theorem dX5_odds_50 : decode cX5_odds 50 = .ok (.iconst 1, 1) := by decide +kernel
theorem dX5_odds_51 : decode cX5_odds 51 = .ok (.invokestatic 66, 3) := by decide +kernel
theorem dX5_odds_54 : decode cX5_odds 54 = .ok (.ifCond .ne 5, 3) := by decide +kernel
theorem dX5_odds_57 : decode cX5_odds 57 = .ok (.iconst (-1), 1) := by decide +kernel
theorem dX5_odds_58 : decode cX5_odds 58 = .ok (.ireturn, 1) := by decide +kernel
theorem dX5_odds_59 : decode cX5_odds 59 = .ok (.iconst 0, 1) := by decide +kernel
theorem dX5_odds_60 : decode cX5_odds 60 = .ok (.istore 6, 2) := by decide +kernel
theorem dX5_odds_62 : decode cX5_odds 62 = .ok (.iconst 0, 1) := by decide +kernel
theorem dX5_odds_63 : decode cX5_odds 63 = .ok (.istore 7, 2) := by decide +kernel
theorem dX5_odds_65 : decode cX5_odds 65 = .ok (.iload 7, 2) := by decide +kernel
theorem dX5_odds_67 : decode cX5_odds 67 = .ok (.iconst 1, 1) := by decide +kernel
theorem dX5_odds_68 : decode cX5_odds 68 = .ok (.iload_n 2, 1) := by decide +kernel
theorem dX5_odds_69 : decode cX5_odds 69 = .ok (.ishl, 1) := by decide +kernel
theorem dX5_odds_70 : decode cX5_odds 70 = .ok (.if_icmp .ge 103, 3) := by decide +kernel
theorem dX5_odds_73 : decode cX5_odds 73 = .ok (.iconst 1, 1) := by decide +kernel
theorem dX5_odds_74 : decode cX5_odds 74 = .ok (.istore 8, 2) := by decide +kernel
theorem dX5_odds_76 : decode cX5_odds 76 = .ok (.aload_n 0, 1) := by decide +kernel
theorem dX5_odds_77 : decode cX5_odds 77 = .ok (.invokevirtual 169, 3) := by decide +kernel
theorem dX5_odds_80 : decode cX5_odds 80 = .ok (.iconst 0, 1) := by decide +kernel
theorem dX5_odds_81 : decode cX5_odds 81 = .ok (.istore 9, 2) := by decide +kernel
theorem dX5_odds_83 : decode cX5_odds 83 = .ok (.iload 9, 2) := by decide +kernel
theorem dX5_odds_85 : decode cX5_odds 85 = .ok (.iload_n 2, 1) := by decide +kernel
theorem dX5_odds_86 : decode cX5_odds 86 = .ok (.if_icmp .ge 56, 3) := by decide +kernel
theorem dX5_odds_89 : decode cX5_odds 89 = .ok (.aload_n 0, 1) := by decide +kernel
theorem dX5_odds_90 : decode cX5_odds 90 = .ok (.getfield 37, 3) := by decide +kernel
theorem dX5_odds_93 : decode cX5_odds 93 = .ok (.bipush 30, 2) := by decide +kernel
theorem dX5_odds_95 : decode cX5_odds 95 = .ok (.iload 7, 2) := by decide +kernel
theorem dX5_odds_97 : decode cX5_odds 97 = .ok (.iload 9, 2) := by decide +kernel
theorem dX5_odds_99 : decode cX5_odds 99 = .ok (.ishr, 1) := by decide +kernel
theorem dX5_odds_100 : decode cX5_odds 100 = .ok (.iconst 1, 1) := by decide +kernel
theorem dX5_odds_101 : decode cX5_odds 101 = .ok (.iand, 1) := by decide +kernel
theorem dX5_odds_102 : decode cX5_odds 102 = .ok (.iastore, 1) := by decide +kernel
theorem dX5_odds_103 : decode cX5_odds 103 = .ok (.iload 8, 2) := by decide +kernel
theorem dX5_odds_105 : decode cX5_odds 105 = .ok (.aload_n 0, 1) := by decide +kernel
theorem dX5_odds_106 : decode cX5_odds 106 = .ok (.getfield 37, 3) := by decide +kernel
theorem dX5_odds_109 : decode cX5_odds 109 = .ok (.bipush 30, 2) := by decide +kernel
theorem dX5_odds_111 : decode cX5_odds 111 = .ok (.iaload, 1) := by decide +kernel
theorem dX5_odds_112 : decode cX5_odds 112 = .ok (.iconst 1, 1) := by decide +kernel
theorem dX5_odds_113 : decode cX5_odds 113 = .ok (.if_icmp .ne 7, 3) := by decide +kernel
theorem dX5_odds_116 : decode cX5_odds 116 = .ok (.iload_n 1, 1) := by decide +kernel
theorem dX5_odds_117 : decode cX5_odds 117 = .ok (.goto 7, 3) := by decide +kernel
theorem dX5_odds_120 : decode cX5_odds 120 = .ok (.bipush 10, 2) := by decide +kernel
theorem dX5_odds_122 : decode cX5_odds 122 = .ok (.iload_n 1, 1) := by decide +kernel
theorem dX5_odds_123 : decode cX5_odds 123 = .ok (.isub, 1) := by decide +kernel
theorem dX5_odds_124 : decode cX5_odds 124 = .ok (.imul, 1) := by decide +kernel
theorem dX5_odds_125 : decode cX5_odds 125 = .ok (.istore 8, 2) := by decide +kernel
theorem dX5_odds_127 : decode cX5_odds 127 = .ok (.aload_n 0, 1) := by decide +kernel
theorem dX5_odds_128 : decode cX5_odds 128 = .ok (.aload_n 0, 1) := by decide +kernel
theorem dX5_odds_129 : decode cX5_odds 129 = .ok (.getfield 37, 3) := by decide +kernel
theorem dX5_odds_132 : decode cX5_odds 132 = .ok (.invokevirtual 165, 3) := by decide +kernel
theorem dX5_odds_135 : decode cX5_odds 135 = .ok (.pop, 1) := by decide +kernel
theorem dX5_odds_136 : decode cX5_odds 136 = .ok (.iinc 9 1, 3) := by decide +kernel
theorem dX5_odds_139 : decode cX5_odds 139 = .ok (.goto (-56), 3) := by decide +kernel
theorem dX5_odds_142 : decode cX5_odds 142 = .ok (.iload 6, 2) := by decide +kernel
theorem dX5_odds_144 : decode cX5_odds 144 = .ok (.aload_n 0, 1) := by decide +kernel
theorem dX5_odds_145 : decode cX5_odds 145 = .ok (.getfield 37, 3) := by decide +kernel
theorem dX5_odds_148 : decode cX5_odds 148 = .ok (.bipush 24, 2) := by decide +kernel
theorem dX5_odds_150 : decode cX5_odds 150 = .ok (.iload_n 3, 1) := by decide +kernel
theorem dX5_odds_151 : decode cX5_odds 151 = .ok (.iadd, 1) := by decide +kernel
theorem dX5_odds_152 : decode cX5_odds 152 = .ok (.iaload, 1) := by decide +kernel
theorem dX5_odds_153 : decode cX5_odds 153 = .ok (.iload 4, 2) := by decide +kernel
theorem dX5_odds_155 : decode cX5_odds 155 = .ok (.if_icmp .lt 8, 3) := by decide +kernel
theorem dX5_odds_158 : decode cX5_odds 158 = .ok (.iload 8, 2) := by decide +kernel
theorem dX5_odds_160 : decode cX5_odds 160 = .ok (.goto 4, 3) := by decide +kernel
theorem dX5_odds_163 : decode cX5_odds 163 = .ok (.iconst 0, 1) := by decide +kernel
theorem dX5_odds_164 : decode cX5_odds 164 = .ok (.iadd, 1) := by decide +kernel
theorem dX5_odds_165 : decode cX5_odds 165 = .ok (.istore 6, 2) := by decide +kernel
theorem dX5_odds_167 : decode cX5_odds 167 = .ok (.iinc 7 1, 3) := by decide +kernel
theorem dX5_odds_170 : decode cX5_odds 170 = .ok (.goto (-105), 3) := by decide +kernel
theorem dX5_odds_173 : decode cX5_odds 173 = .ok (.bipush 10, 2) := by decide +kernel
theorem dX5_odds_175 : decode cX5_odds 175 = .ok (.iload_n 2, 1) := by decide +kernel
theorem dX5_odds_176 : decode cX5_odds 176 = .ok (.invokestatic 187, 3) := by decide +kernel
theorem dX5_odds_179 : decode cX5_odds 179 = .ok (.istore 7, 2) := by decide +kernel
theorem dX5_odds_181 : decode cX5_odds 181 = .ok (.iload 6, 2) := by decide +kernel
theorem dX5_odds_183 : decode cX5_odds 183 = .ok (.iload 7, 2) := by decide +kernel
theorem dX5_odds_185 : decode cX5_odds 185 = .ok (.invokestatic 190, 3) := by decide +kernel
theorem dX5_odds_188 : decode cX5_odds 188 = .ok (.istore 8, 2) := by decide +kernel
theorem dX5_odds_190 : decode cX5_odds 190 = .ok (.iload 5, 2) := by decide +kernel
theorem dX5_odds_192 : decode cX5_odds 192 = .ok (.ifCond .ne 11, 3) := by decide +kernel
theorem dX5_odds_195 : decode cX5_odds 195 = .ok (.iload 6, 2) := by decide +kernel
theorem dX5_odds_197 : decode cX5_odds 197 = .ok (.iload 8, 2) := by decide +kernel
theorem dX5_odds_199 : decode cX5_odds 199 = .ok (.idiv, 1) := by decide +kernel
theorem dX5_odds_200 : decode cX5_odds 200 = .ok (.goto 8, 3) := by decide +kernel
theorem dX5_odds_203 : decode cX5_odds 203 = .ok (.iload 7, 2) := by decide +kernel
theorem dX5_odds_205 : decode cX5_odds 205 = .ok (.iload 8, 2) := by decide +kernel
theorem dX5_odds_207 : decode cX5_odds 207 = .ok (.idiv, 1) := by decide +kernel
theorem dX5_odds_208 : decode cX5_odds 208 = .ok (.ireturn, 1) := by decide +kernel
theorem dX5_rich_0 : decode cX5_rich 0 = .ok (.aload_n 0, 1) := by decide +kernel
theorem dX5_rich_1 : decode cX5_rich 1 = .ok (.iconst 0, 1) := by decide +kernel
theorem dX5_rich_2 : decode cX5_rich 2 = .ok (.putfield 62, 3) := by decide +kernel
theorem dX5_rich_5 : decode cX5_rich 5 = .ok (.aload_n 0, 1) := by decide +kernel
theorem dX5_rich_6 : decode cX5_rich 6 = .ok (.iload_n 1, 1) := by decide +kernel
theorem dX5_rich_7 : decode cX5_rich 7 = .ok (.invokevirtual 134, 3) := by decide +kernel
theorem dX5_rich_10 : decode cX5_rich 10 = .ok (.ifCond .eq 16, 3) := by decide +kernel
theorem dX5_rich_13 : decode cX5_rich 13 = .ok (.iload_n 2, 1) := by decide +kernel
theorem dX5_rich_14 : decode cX5_rich 14 = .ok (.sipush (-9999), 3) := by decide +kernel
theorem dX5_rich_17 : decode cX5_rich 17 = .ok (.sipush 9999, 3) := by decide +kernel
theorem dX5_rich_20 : decode cX5_rich 20 = .ok (.invokestatic 66, 3) := by decide +kernel
theorem dX5_rich_23 : decode cX5_rich 23 = .ok (.ifCond .ne 5, 3) := by decide +kernel
theorem dX5_rich_26 : decode cX5_rich 26 = .ok (.iconst (-1), 1) := by decide +kernel
theorem dX5_rich_27 : decode cX5_rich 27 = .ok (.ireturn, 1) := by decide +kernel
theorem dX5_rich_28 : decode cX5_rich 28 = .ok (.aload_n 0, 1) := by decide +kernel
theorem dX5_rich_29 : decode cX5_rich 29 = .ok (.invokevirtual 169, 3) := by decide +kernel
theorem dX5_rich_32 : decode cX5_rich 32 = .ok (.iconst 0, 1) := by decide +kernel
theorem dX5_rich_33 : decode cX5_rich 33 = .ok (.istore_n 3, 1) := by decide +kernel
theorem dX5_rich_34 : decode cX5_rich 34 = .ok (.iload_n 3, 1) := by decide +kernel
theorem dX5_rich_35 : decode cX5_rich 35 = .ok (.sipush 400, 3) := by decide +kernel
theorem dX5_rich_38 : decode cX5_rich 38 = .ok (.if_icmp .gt 33, 3) := by decide +kernel
theorem dX5_rich_41 : decode cX5_rich 41 = .ok (.aload_n 0, 1) := by decide +kernel
theorem dX5_rich_42 : decode cX5_rich 42 = .ok (.getfield 37, 3) := by decide +kernel
theorem dX5_rich_45 : decode cX5_rich 45 = .ok (.bipush 24, 2) := by decide +kernel
theorem dX5_rich_47 : decode cX5_rich 47 = .ok (.iload_n 1, 1) := by decide +kernel
theorem dX5_rich_48 : decode cX5_rich 48 = .ok (.iadd, 1) := by decide +kernel
theorem dX5_rich_49 : decode cX5_rich 49 = .ok (.iaload, 1) := by decide +kernel
theorem dX5_rich_50 : decode cX5_rich 50 = .ok (.iload_n 2, 1) := by decide +kernel
theorem dX5_rich_51 : decode cX5_rich 51 = .ok (.if_icmp .lt 5, 3) := by decide +kernel
theorem dX5_rich_54 : decode cX5_rich 54 = .ok (.iload_n 3, 1) := by decide +kernel
theorem dX5_rich_55 : decode cX5_rich 55 = .ok (.ireturn, 1) := by decide +kernel
theorem dX5_rich_56 : decode cX5_rich 56 = .ok (.aload_n 0, 1) := by decide +kernel
theorem dX5_rich_57 : decode cX5_rich 57 = .ok (.aload_n 0, 1) := by decide +kernel
theorem dX5_rich_58 : decode cX5_rich 58 = .ok (.getfield 37, 3) := by decide +kernel
theorem dX5_rich_61 : decode cX5_rich 61 = .ok (.invokevirtual 165, 3) := by decide +kernel
theorem dX5_rich_64 : decode cX5_rich 64 = .ok (.pop, 1) := by decide +kernel
theorem dX5_rich_65 : decode cX5_rich 65 = .ok (.iinc 3 1, 3) := by decide +kernel
theorem dX5_rich_68 : decode cX5_rich 68 = .ok (.goto (-34), 3) := by decide +kernel
theorem dX5_rich_71 : decode cX5_rich 71 = .ok (.bipush (-9), 2) := by decide +kernel
theorem dX5_rich_73 : decode cX5_rich 73 = .ok (.ireturn, 1) := by decide +kernel
theorem dX5_poor_0 : decode cX5_poor 0 = .ok (.aload_n 0, 1) := by decide +kernel
theorem dX5_poor_1 : decode cX5_poor 1 = .ok (.iconst 0, 1) := by decide +kernel
theorem dX5_poor_2 : decode cX5_poor 2 = .ok (.putfield 62, 3) := by decide +kernel
theorem dX5_poor_5 : decode cX5_poor 5 = .ok (.aload_n 0, 1) := by decide +kernel
theorem dX5_poor_6 : decode cX5_poor 6 = .ok (.invokevirtual 169, 3) := by decide +kernel
theorem dX5_poor_9 : decode cX5_poor 9 = .ok (.iconst 0, 1) := by decide +kernel
theorem dX5_poor_10 : decode cX5_poor 10 = .ok (.istore_n 1, 1) := by decide +kernel
theorem dX5_poor_11 : decode cX5_poor 11 = .ok (.iload_n 1, 1) := by decide +kernel
theorem dX5_poor_12 : decode cX5_poor 12 = .ok (.sipush 400, 3) := by decide +kernel
theorem dX5_poor_15 : decode cX5_poor 15 = .ok (.if_icmp .gt 50, 3) := by decide +kernel
theorem dX5_poor_18 : decode cX5_poor 18 = .ok (.iconst 0, 1) := by decide +kernel
theorem dX5_poor_19 : decode cX5_poor 19 = .ok (.istore_n 2, 1) := by decide +kernel
theorem dX5_poor_20 : decode cX5_poor 20 = .ok (.iload_n 2, 1) := by decide +kernel
theorem dX5_poor_21 : decode cX5_poor 21 = .ok (.aload_n 0, 1) := by decide +kernel
theorem dX5_poor_22 : decode cX5_poor 22 = .ok (.getfield 13, 3) := by decide +kernel
theorem dX5_poor_25 : decode cX5_poor 25 = .ok (.iconst 1, 1) := by decide +kernel
theorem dX5_poor_26 : decode cX5_poor 26 = .ok (.iaload, 1) := by decide +kernel
theorem dX5_poor_27 : decode cX5_poor 27 = .ok (.if_icmp .ge 23, 3) := by decide +kernel
theorem dX5_poor_30 : decode cX5_poor 30 = .ok (.aload_n 0, 1) := by decide +kernel
theorem dX5_poor_31 : decode cX5_poor 31 = .ok (.getfield 37, 3) := by decide +kernel
theorem dX5_poor_34 : decode cX5_poor 34 = .ok (.bipush 24, 2) := by decide +kernel
theorem dX5_poor_36 : decode cX5_poor 36 = .ok (.iload_n 2, 1) := by decide +kernel
theorem dX5_poor_37 : decode cX5_poor 37 = .ok (.iadd, 1) := by decide +kernel
theorem dX5_poor_38 : decode cX5_poor 38 = .ok (.iaload, 1) := by decide +kernel
theorem dX5_poor_39 : decode cX5_poor 39 = .ok (.ifCond .ge 5, 3) := by decide +kernel
theorem dX5_poor_42 : decode cX5_poor 42 = .ok (.iload_n 1, 1) := by decide +kernel
theorem dX5_poor_43 : decode cX5_poor 43 = .ok (.ireturn, 1) := by decide +kernel
theorem dX5_poor_44 : decode cX5_poor 44 = .ok (.iinc 2 1, 3) := by decide +kernel
theorem dX5_poor_47 : decode cX5_poor 47 = .ok (.goto (-27), 3) := by decide +kernel
theorem dX5_poor_50 : decode cX5_poor 50 = .ok (.aload_n 0, 1) := by decide +kernel
theorem dX5_poor_51 : decode cX5_poor 51 = .ok (.aload_n 0, 1) := by decide +kernel
theorem dX5_poor_52 : decode cX5_poor 52 = .ok (.getfield 37, 3) := by decide +kernel
theorem dX5_poor_55 : decode cX5_poor 55 = .ok (.invokevirtual 165, 3) := by decide +kernel
theorem dX5_poor_58 : decode cX5_poor 58 = .ok (.pop, 1) := by decide +kernel
theorem dX5_poor_59 : decode cX5_poor 59 = .ok (.iinc 1 1, 3) := by decide +kernel
theorem dX5_poor_62 : decode cX5_poor 62 = .ok (.goto (-51), 3) := by decide +kernel
theorem dX5_poor_65 : decode cX5_poor 65 = .ok (.bipush (-9), 2) := by decide +kernel
theorem dX5_poor_67 : decode cX5_poor 67 = .ok (.ireturn, 1) := by decide +kernel
theorem dX5_share_0 : decode cX5_share 0 = .ok (.aload_n 0, 1) := by decide +kernel
theorem dX5_share_1 : decode cX5_share 1 = .ok (.iconst 0, 1) := by decide +kernel
theorem dX5_share_2 : decode cX5_share 2 = .ok (.putfield 62, 3) := by decide +kernel
theorem dX5_share_5 : decode cX5_share 5 = .ok (.aload_n 0, 1) := by decide +kernel
theorem dX5_share_6 : decode cX5_share 6 = .ok (.iload_n 1, 1) := by decide +kernel
theorem dX5_share_7 : decode cX5_share 7 = .ok (.invokevirtual 134, 3) := by decide +kernel
theorem dX5_share_10 : decode cX5_share 10 = .ok (.ifCond .eq 12, 3) := by decide +kernel
theorem dX5_share_13 : decode cX5_share 13 = .ok (.iload_n 2, 1) := by decide +kernel
theorem dX5_share_14 : decode cX5_share 14 = .ok (.iconst 0, 1) := by decide +kernel
theorem dX5_share_15 : decode cX5_share 15 = .ok (.iconst 1, 1) := by decide +kernel
theorem dX5_share_16 : decode cX5_share 16 = .ok (.invokestatic 66, 3) := by decide +kernel
theorem dX5_share_19 : decode cX5_share 19 = .ok (.ifCond .ne 5, 3) := by decide +kernel
theorem dX5_share_22 : decode cX5_share 22 = .ok (.iconst (-1), 1) := by decide +kernel
theorem dX5_share_23 : decode cX5_share 23 = .ok (.ireturn, 1) := by decide +kernel
theorem dX5_share_24 : decode cX5_share 24 = .ok (.aload_n 0, 1) := by decide +kernel
theorem dX5_share_25 : decode cX5_share 25 = .ok (.invokevirtual 152, 3) := by decide +kernel
theorem dX5_share_28 : decode cX5_share 28 = .ok (.ifCond .ne 5, 3) := by decide +kernel
theorem dX5_share_31 : decode cX5_share 31 = .ok (.iload_n 2, 1) := by decide +kernel
theorem dX5_share_32 : decode cX5_share 32 = .ok (.ireturn, 1) := by decide +kernel
theorem dX5_share_33 : decode cX5_share 33 = .ok (.aload_n 0, 1) := by decide +kernel
theorem dX5_share_34 : decode cX5_share 34 = .ok (.aload_n 0, 1) := by decide +kernel
theorem dX5_share_35 : decode cX5_share 35 = .ok (.getfield 34, 3) := by decide +kernel
theorem dX5_share_38 : decode cX5_share 38 = .ok (.iload_n 1, 1) := by decide +kernel
theorem dX5_share_39 : decode cX5_share 39 = .ok (.invokevirtual 142, 3) := by decide +kernel
theorem dX5_share_42 : decode cX5_share 42 = .ok (.aload_n 0, 1) := by decide +kernel
theorem dX5_share_43 : decode cX5_share 43 = .ok (.invokevirtual 152, 3) := by decide +kernel
theorem dX5_share_46 : decode cX5_share 46 = .ok (.invokestatic 190, 3) := by decide +kernel
theorem dX5_share_49 : decode cX5_share 49 = .ok (.istore_n 3, 1) := by decide +kernel
theorem dX5_share_50 : decode cX5_share 50 = .ok (.iload_n 2, 1) := by decide +kernel
theorem dX5_share_51 : decode cX5_share 51 = .ok (.ifCond .ne 17, 3) := by decide +kernel
theorem dX5_share_54 : decode cX5_share 54 = .ok (.aload_n 0, 1) := by decide +kernel
theorem dX5_share_55 : decode cX5_share 55 = .ok (.aload_n 0, 1) := by decide +kernel
theorem dX5_share_56 : decode cX5_share 56 = .ok (.getfield 34, 3) := by decide +kernel
theorem dX5_share_59 : decode cX5_share 59 = .ok (.iload_n 1, 1) := by decide +kernel
theorem dX5_share_60 : decode cX5_share 60 = .ok (.invokevirtual 142, 3) := by decide +kernel
theorem dX5_share_63 : decode cX5_share 63 = .ok (.iload_n 3, 1) := by decide +kernel
theorem dX5_share_64 : decode cX5_share 64 = .ok (.idiv, 1) := by decide +kernel
theorem dX5_share_65 : decode cX5_share 65 = .ok (.goto 9, 3) := by decide +kernel
theorem dX5_share_68 : decode cX5_share 68 = .ok (.aload_n 0, 1) := by decide +kernel
theorem dX5_share_69 : decode cX5_share 69 = .ok (.invokevirtual 152, 3) := by decide +kernel
theorem dX5_share_72 : decode cX5_share 72 = .ok (.iload_n 3, 1) := by decide +kernel
theorem dX5_share_73 : decode cX5_share 73 = .ok (.idiv, 1) := by decide +kernel
theorem dX5_share_74 : decode cX5_share 74 = .ok (.ireturn, 1) := by decide +kernel
theorem dX5_rate_0 : decode cX5_rate 0 = .ok (.aload_n 0, 1) := by decide +kernel
theorem dX5_rate_1 : decode cX5_rate 1 = .ok (.iconst 0, 1) := by decide +kernel
theorem dX5_rate_2 : decode cX5_rate 2 = .ok (.putfield 62, 3) := by decide +kernel
theorem dX5_rate_5 : decode cX5_rate 5 = .ok (.iload_n 1, 1) := by decide +kernel
theorem dX5_rate_6 : decode cX5_rate 6 = .ok (.iconst 0, 1) := by decide +kernel
theorem dX5_rate_7 : decode cX5_rate 7 = .ok (.iconst 5, 1) := by decide +kernel
theorem dX5_rate_8 : decode cX5_rate 8 = .ok (.invokestatic 66, 3) := by decide +kernel
theorem dX5_rate_11 : decode cX5_rate 11 = .ok (.ifCond .eq 11, 3) := by decide +kernel
theorem dX5_rate_14 : decode cX5_rate 14 = .ok (.aload_n 0, 1) := by decide +kernel
theorem dX5_rate_15 : decode cX5_rate 15 = .ok (.iload_n 2, 1) := by decide +kernel
theorem dX5_rate_16 : decode cX5_rate 16 = .ok (.invokevirtual 134, 3) := by decide +kernel
theorem dX5_rate_19 : decode cX5_rate 19 = .ok (.ifCond .ne 6, 3) := by decide +kernel
theorem dX5_rate_22 : decode cX5_rate 22 = .ok (.ldc 141, 2) := by decide +kernel
theorem dX5_rate_24 : decode cX5_rate 24 = .ok (.ireturn, 1) := by decide +kernel
theorem dX5_rate_25 : decode cX5_rate 25 = .ok (.aload_n 0, 1) := by decide +kernel
theorem dX5_rate_26 : decode cX5_rate 26 = .ok (.aload_n 0, 1) := by decide +kernel
theorem dX5_rate_27 : decode cX5_rate 27 = .ok (.getfield 34, 3) := by decide +kernel
theorem dX5_rate_30 : decode cX5_rate 30 = .ok (.iload_n 2, 1) := by decide +kernel
theorem dX5_rate_31 : decode cX5_rate 31 = .ok (.invokevirtual 142, 3) := by decide +kernel
theorem dX5_rate_34 : decode cX5_rate 34 = .ok (.istore_n 3, 1) := by decide +kernel
theorem dX5_rate_35 : decode cX5_rate 35 = .ok (.aload_n 0, 1) := by decide +kernel
theorem dX5_rate_36 : decode cX5_rate 36 = .ok (.dup, 1) := by decide +kernel
theorem dX5_rate_37 : decode cX5_rate 37 = .ok (.getfield 193, 3) := by decide +kernel
theorem dX5_rate_40 : decode cX5_rate 40 = .ok (.iload_n 1, 1) := by decide +kernel
theorem dX5_rate_41 : decode cX5_rate 41 = .ok (.ifCond .ne 7, 3) := by decide +kernel
theorem dX5_rate_44 : decode cX5_rate 44 = .ok (.lconst 1, 1) := by decide +kernel
theorem dX5_rate_45 : decode cX5_rate 45 = .ok (.goto 50, 3) := by decide +kernel
theorem dX5_rate_48 : decode cX5_rate 48 = .ok (.iload_n 1, 1) := by decide +kernel
theorem dX5_rate_49 : decode cX5_rate 49 = .ok (.iconst 1, 1) := by decide +kernel
theorem dX5_rate_50 : decode cX5_rate 50 = .ok (.if_icmp .ne 9, 3) := by decide +kernel
theorem dX5_rate_53 : decode cX5_rate 53 = .ok (.ldc2_w 197, 3) := by decide +kernel
theorem dX5_rate_56 : decode cX5_rate 56 = .ok (.goto 39, 3) := by decide +kernel
theorem dX5_rate_59 : decode cX5_rate 59 = .ok (.iload_n 1, 1) := by decide +kernel
theorem dX5_rate_60 : decode cX5_rate 60 = .ok (.iconst 2, 1) := by decide +kernel
theorem dX5_rate_61 : decode cX5_rate 61 = .ok (.if_icmp .ne 9, 3) := by decide +kernel
theorem dX5_rate_64 : decode cX5_rate 64 = .ok (.ldc2_w 199, 3) := by decide +kernel
theorem dX5_rate_67 : decode cX5_rate 67 = .ok (.goto 28, 3) := by decide +kernel
theorem dX5_rate_70 : decode cX5_rate 70 = .ok (.iload_n 1, 1) := by decide +kernel
theorem dX5_rate_71 : decode cX5_rate 71 = .ok (.iconst 3, 1) := by decide +kernel
theorem dX5_rate_72 : decode cX5_rate 72 = .ok (.if_icmp .ne 9, 3) := by decide +kernel
theorem dX5_rate_75 : decode cX5_rate 75 = .ok (.ldc2_w 201, 3) := by decide +kernel
theorem dX5_rate_78 : decode cX5_rate 78 = .ok (.goto 17, 3) := by decide +kernel
theorem dX5_rate_81 : decode cX5_rate 81 = .ok (.iload_n 1, 1) := by decide +kernel
theorem dX5_rate_82 : decode cX5_rate 82 = .ok (.iconst 4, 1) := by decide +kernel
theorem dX5_rate_83 : decode cX5_rate 83 = .ok (.if_icmp .ne 9, 3) := by decide +kernel
theorem dX5_rate_86 : decode cX5_rate 86 = .ok (.ldc2_w 203, 3) := by decide +kernel
theorem dX5_rate_89 : decode cX5_rate 89 = .ok (.goto 6, 3) := by decide +kernel
theorem dX5_rate_92 : decode cX5_rate 92 = .ok (.ldc2_w 205, 3) := by decide +kernel
theorem dX5_rate_95 : decode cX5_rate 95 = .ok (.ladd, 1) := by decide +kernel
theorem dX5_rate_96 : decode cX5_rate 96 = .ok (.putfield 193, 3) := by decide +kernel
theorem dX5_rate_99 : decode cX5_rate 99 = .ok (.iload_n 1, 1) := by decide +kernel
theorem dX5_rate_100 : decode cX5_rate 100 = .ok (.ifCond .ne 7, 3) := by decide +kernel
theorem dX5_rate_103 : decode cX5_rate 103 = .ok (.iload_n 3, 1) := by decide +kernel
theorem dX5_rate_104 : decode cX5_rate 104 = .ok (.goto 80, 3) := by decide +kernel
theorem dX5_rate_107 : decode cX5_rate 107 = .ok (.iload_n 1, 1) := by decide +kernel
theorem dX5_rate_108 : decode cX5_rate 108 = .ok (.iconst 1, 1) := by decide +kernel
theorem dX5_rate_109 : decode cX5_rate 109 = .ok (.if_icmp .ne 14, 3) := by decide +kernel
theorem dX5_rate_112 : decode cX5_rate 112 = .ok (.iload_n 3, 1) := by decide +kernel
theorem dX5_rate_113 : decode cX5_rate 113 = .ok (.aload_n 0, 1) := by decide +kernel
theorem dX5_rate_114 : decode cX5_rate 114 = .ok (.getfield 22, 3) := by decide +kernel
theorem dX5_rate_117 : decode cX5_rate 117 = .ok (.iload_n 2, 1) := by decide +kernel
theorem dX5_rate_118 : decode cX5_rate 118 = .ok (.iaload, 1) := by decide +kernel
theorem dX5_rate_119 : decode cX5_rate 119 = .ok (.iadd, 1) := by decide +kernel
theorem dX5_rate_120 : decode cX5_rate 120 = .ok (.goto 64, 3) := by decide +kernel
theorem dX5_rate_123 : decode cX5_rate 123 = .ok (.iload_n 1, 1) := by decide +kernel
theorem dX5_rate_124 : decode cX5_rate 124 = .ok (.iconst 2, 1) := by decide +kernel
theorem dX5_rate_125 : decode cX5_rate 125 = .ok (.if_icmp .ne 14, 3) := by decide +kernel
theorem dX5_rate_128 : decode cX5_rate 128 = .ok (.iload_n 3, 1) := by decide +kernel
theorem dX5_rate_129 : decode cX5_rate 129 = .ok (.aload_n 0, 1) := by decide +kernel
theorem dX5_rate_130 : decode cX5_rate 130 = .ok (.getfield 28, 3) := by decide +kernel
theorem dX5_rate_133 : decode cX5_rate 133 = .ok (.iload_n 2, 1) := by decide +kernel
theorem dX5_rate_134 : decode cX5_rate 134 = .ok (.iaload, 1) := by decide +kernel
theorem dX5_rate_135 : decode cX5_rate 135 = .ok (.isub, 1) := by decide +kernel
theorem dX5_rate_136 : decode cX5_rate 136 = .ok (.goto 48, 3) := by decide +kernel
theorem dX5_rate_139 : decode cX5_rate 139 = .ok (.iload_n 1, 1) := by decide +kernel
theorem dX5_rate_140 : decode cX5_rate 140 = .ok (.iconst 3, 1) := by decide +kernel
theorem dX5_rate_141 : decode cX5_rate 141 = .ok (.if_icmp .ne 16, 3) := by decide +kernel
theorem dX5_rate_144 : decode cX5_rate 144 = .ok (.iconst 2, 1) := by decide +kernel
theorem dX5_rate_145 : decode cX5_rate 145 = .ok (.iload_n 3, 1) := by decide +kernel
theorem dX5_rate_146 : decode cX5_rate 146 = .ok (.aload_n 0, 1) := by decide +kernel
theorem dX5_rate_147 : decode cX5_rate 147 = .ok (.getfield 22, 3) := by decide +kernel
theorem dX5_rate_150 : decode cX5_rate 150 = .ok (.iload_n 2, 1) := by decide +kernel
theorem dX5_rate_151 : decode cX5_rate 151 = .ok (.iaload, 1) := by decide +kernel
theorem dX5_rate_152 : decode cX5_rate 152 = .ok (.iadd, 1) := by decide +kernel
theorem dX5_rate_153 : decode cX5_rate 153 = .ok (.imul, 1) := by decide +kernel
theorem dX5_rate_154 : decode cX5_rate 154 = .ok (.goto 30, 3) := by decide +kernel
theorem dX5_rate_157 : decode cX5_rate 157 = .ok (.iload_n 1, 1) := by decide +kernel
theorem dX5_rate_158 : decode cX5_rate 158 = .ok (.iconst 4, 1) := by decide +kernel
theorem dX5_rate_159 : decode cX5_rate 159 = .ok (.if_icmp .ne 16, 3) := by decide +kernel
theorem dX5_rate_162 : decode cX5_rate 162 = .ok (.iload_n 3, 1) := by decide +kernel
theorem dX5_rate_163 : decode cX5_rate 163 = .ok (.aload_n 0, 1) := by decide +kernel
theorem dX5_rate_164 : decode cX5_rate 164 = .ok (.getfield 28, 3) := by decide +kernel
theorem dX5_rate_167 : decode cX5_rate 167 = .ok (.iload_n 2, 1) := by decide +kernel
theorem dX5_rate_168 : decode cX5_rate 168 = .ok (.iaload, 1) := by decide +kernel
theorem dX5_rate_169 : decode cX5_rate 169 = .ok (.isub, 1) := by decide +kernel
theorem dX5_rate_170 : decode cX5_rate 170 = .ok (.iload_n 2, 1) := by decide +kernel
theorem dX5_rate_171 : decode cX5_rate 171 = .ok (.iadd, 1) := by decide +kernel
theorem dX5_rate_172 : decode cX5_rate 172 = .ok (.goto 12, 3) := by decide +kernel
theorem dX5_rate_175 : decode cX5_rate 175 = .ok (.iload_n 3, 1) := by decide +kernel
theorem dX5_rate_176 : decode cX5_rate 176 = .ok (.aload_n 0, 1) := by decide +kernel
theorem dX5_rate_177 : decode cX5_rate 177 = .ok (.getfield 34, 3) := by decide +kernel
theorem dX5_rate_180 : decode cX5_rate 180 = .ok (.bipush 31, 2) := by decide +kernel
theorem dX5_rate_182 : decode cX5_rate 182 = .ok (.iaload, 1) := by decide +kernel
theorem dX5_rate_183 : decode cX5_rate 183 = .ok (.iadd, 1) := by decide +kernel
theorem dX5_rate_184 : decode cX5_rate 184 = .ok (.ireturn, 1) := by decide +kernel
theorem dX5_keep_0 : decode cX5_keep 0 = .ok (.aload_n 0, 1) := by decide +kernel
theorem dX5_keep_1 : decode cX5_keep 1 = .ok (.iconst 0, 1) := by decide +kernel
theorem dX5_keep_2 : decode cX5_keep 2 = .ok (.putfield 62, 3) := by decide +kernel
theorem dX5_keep_5 : decode cX5_keep 5 = .ok (.iload_n 1, 1) := by decide +kernel
theorem dX5_keep_6 : decode cX5_keep 6 = .ok (.iconst 0, 1) := by decide +kernel
theorem dX5_keep_7 : decode cX5_keep 7 = .ok (.iconst 1, 1) := by decide +kernel
theorem dX5_keep_8 : decode cX5_keep 8 = .ok (.invokestatic 66, 3) := by decide +kernel
theorem dX5_keep_11 : decode cX5_keep 11 = .ok (.ifCond .ne 5, 3) := by decide +kernel
theorem dX5_keep_14 : decode cX5_keep 14 = .ok (.iconst (-1), 1) := by decide +kernel
theorem dX5_keep_15 : decode cX5_keep 15 = .ok (.ireturn, 1) := by decide +kernel
theorem dX5_keep_16 : decode cX5_keep 16 = .ok (.iconst 0, 1) := by decide +kernel
theorem dX5_keep_17 : decode cX5_keep 17 = .ok (.istore_n 2, 1) := by decide +kernel
theorem dX5_keep_18 : decode cX5_keep 18 = .ok (.iload_n 2, 1) := by decide +kernel
theorem dX5_keep_19 : decode cX5_keep 19 = .ok (.bipush 32, 2) := by decide +kernel
theorem dX5_keep_21 : decode cX5_keep 21 = .ok (.if_icmp .ge 26, 3) := by decide +kernel
theorem dX5_keep_24 : decode cX5_keep 24 = .ok (.aload_n 0, 1) := by decide +kernel
theorem dX5_keep_25 : decode cX5_keep 25 = .ok (.getfield 40, 3) := by decide +kernel
theorem dX5_keep_28 : decode cX5_keep 28 = .ok (.bipush 32, 2) := by decide +kernel
theorem dX5_keep_30 : decode cX5_keep 30 = .ok (.iload_n 1, 1) := by decide +kernel
theorem dX5_keep_31 : decode cX5_keep 31 = .ok (.imul, 1) := by decide +kernel
theorem dX5_keep_32 : decode cX5_keep 32 = .ok (.iload_n 2, 1) := by decide +kernel
theorem dX5_keep_33 : decode cX5_keep 33 = .ok (.iadd, 1) := by decide +kernel
theorem dX5_keep_34 : decode cX5_keep 34 = .ok (.aload_n 0, 1) := by decide +kernel
theorem dX5_keep_35 : decode cX5_keep 35 = .ok (.getfield 34, 3) := by decide +kernel
theorem dX5_keep_38 : decode cX5_keep 38 = .ok (.iload_n 2, 1) := by decide +kernel
theorem dX5_keep_39 : decode cX5_keep 39 = .ok (.iaload, 1) := by decide +kernel
theorem dX5_keep_40 : decode cX5_keep 40 = .ok (.iastore, 1) := by decide +kernel
theorem dX5_keep_41 : decode cX5_keep 41 = .ok (.iinc 2 1, 3) := by decide +kernel
theorem dX5_keep_44 : decode cX5_keep 44 = .ok (.goto (-26), 3) := by decide +kernel
theorem dX5_keep_47 : decode cX5_keep 47 = .ok (.aload_n 0, 1) := by decide +kernel
theorem dX5_keep_48 : decode cX5_keep 48 = .ok (.getfield 43, 3) := by decide +kernel
theorem dX5_keep_51 : decode cX5_keep 51 = .ok (.iload_n 1, 1) := by decide +kernel
theorem dX5_keep_52 : decode cX5_keep 52 = .ok (.iconst 1, 1) := by decide +kernel
theorem dX5_keep_53 : decode cX5_keep 53 = .ok (.bastore, 1) := by decide +kernel
theorem dX5_keep_54 : decode cX5_keep 54 = .ok (.aload_n 0, 1) := by decide +kernel
theorem dX5_keep_55 : decode cX5_keep 55 = .ok (.getfield 34, 3) := by decide +kernel
theorem dX5_keep_58 : decode cX5_keep 58 = .ok (.bipush 31, 2) := by decide +kernel
theorem dX5_keep_60 : decode cX5_keep 60 = .ok (.iaload, 1) := by decide +kernel
theorem dX5_keep_61 : decode cX5_keep 61 = .ok (.ireturn, 1) := by decide +kernel
theorem dX5_back_0 : decode cX5_back 0 = .ok (.aload_n 0, 1) := by decide +kernel
theorem dX5_back_1 : decode cX5_back 1 = .ok (.iconst 0, 1) := by decide +kernel
theorem dX5_back_2 : decode cX5_back 2 = .ok (.putfield 62, 3) := by decide +kernel
theorem dX5_back_5 : decode cX5_back 5 = .ok (.iload_n 1, 1) := by decide +kernel
theorem dX5_back_6 : decode cX5_back 6 = .ok (.iconst 0, 1) := by decide +kernel
theorem dX5_back_7 : decode cX5_back 7 = .ok (.iconst 1, 1) := by decide +kernel
theorem dX5_back_8 : decode cX5_back 8 = .ok (.invokestatic 66, 3) := by decide +kernel
theorem dX5_back_11 : decode cX5_back 11 = .ok (.ifCond .ne 5, 3) := by decide +kernel
theorem dX5_back_14 : decode cX5_back 14 = .ok (.iconst (-1), 1) := by decide +kernel
theorem dX5_back_15 : decode cX5_back 15 = .ok (.ireturn, 1) := by decide +kernel
theorem dX5_back_16 : decode cX5_back 16 = .ok (.aload_n 0, 1) := by decide +kernel
theorem dX5_back_17 : decode cX5_back 17 = .ok (.getfield 43, 3) := by decide +kernel
theorem dX5_back_20 : decode cX5_back 20 = .ok (.iload_n 1, 1) := by decide +kernel
theorem dX5_back_21 : decode cX5_back 21 = .ok (.baload, 1) := by decide +kernel
theorem dX5_back_22 : decode cX5_back 22 = .ok (.ifCond .ne 6, 3) := by decide +kernel
theorem dX5_back_25 : decode cX5_back 25 = .ok (.bipush (-2), 2) := by decide +kernel
theorem dX5_back_27 : decode cX5_back 27 = .ok (.ireturn, 1) := by decide +kernel
theorem dX5_back_28 : decode cX5_back 28 = .ok (.iconst 0, 1) := by decide +kernel
theorem dX5_back_29 : decode cX5_back 29 = .ok (.istore_n 2, 1) := by decide +kernel
theorem dX5_back_30 : decode cX5_back 30 = .ok (.iload_n 2, 1) := by decide +kernel
theorem dX5_back_31 : decode cX5_back 31 = .ok (.bipush 32, 2) := by decide +kernel
theorem dX5_back_33 : decode cX5_back 33 = .ok (.if_icmp .ge 26, 3) := by decide +kernel
theorem dX5_back_36 : decode cX5_back 36 = .ok (.aload_n 0, 1) := by decide +kernel
theorem dX5_back_37 : decode cX5_back 37 = .ok (.getfield 34, 3) := by decide +kernel
theorem dX5_back_40 : decode cX5_back 40 = .ok (.iload_n 2, 1) := by decide +kernel
theorem dX5_back_41 : decode cX5_back 41 = .ok (.aload_n 0, 1) := by decide +kernel
theorem dX5_back_42 : decode cX5_back 42 = .ok (.getfield 40, 3) := by decide +kernel
theorem dX5_back_45 : decode cX5_back 45 = .ok (.bipush 32, 2) := by decide +kernel
theorem dX5_back_47 : decode cX5_back 47 = .ok (.iload_n 1, 1) := by decide +kernel
theorem dX5_back_48 : decode cX5_back 48 = .ok (.imul, 1) := by decide +kernel
theorem dX5_back_49 : decode cX5_back 49 = .ok (.iload_n 2, 1) := by decide +kernel
theorem dX5_back_50 : decode cX5_back 50 = .ok (.iadd, 1) := by decide +kernel
theorem dX5_back_51 : decode cX5_back 51 = .ok (.iaload, 1) := by decide +kernel
theorem dX5_back_52 : decode cX5_back 52 = .ok (.iastore, 1) := by decide +kernel
theorem dX5_back_53 : decode cX5_back 53 = .ok (.iinc 2 1, 3) := by decide +kernel
theorem dX5_back_56 : decode cX5_back 56 = .ok (.goto (-26), 3) := by decide +kernel
theorem dX5_back_59 : decode cX5_back 59 = .ok (.aload_n 0, 1) := by decide +kernel
theorem dX5_back_60 : decode cX5_back 60 = .ok (.iconst 0, 1) := by decide +kernel
theorem dX5_back_61 : decode cX5_back 61 = .ok (.putfield 117, 3) := by decide +kernel
theorem dX5_back_64 : decode cX5_back 64 = .ok (.aload_n 0, 1) := by decide +kernel
theorem dX5_back_65 : decode cX5_back 65 = .ok (.getfield 34, 3) := by decide +kernel
theorem dX5_back_68 : decode cX5_back 68 = .ok (.bipush 31, 2) := by decide +kernel
theorem dX5_back_70 : decode cX5_back 70 = .ok (.iaload, 1) := by decide +kernel
theorem dX5_back_71 : decode cX5_back 71 = .ok (.ireturn, 1) := by decide +kernel
theorem dX5_count_0 : decode cX5_count 0 = .ok (.aload_n 0, 1) := by decide +kernel
theorem dX5_count_1 : decode cX5_count 1 = .ok (.iconst 0, 1) := by decide +kernel
theorem dX5_count_2 : decode cX5_count 2 = .ok (.putfield 62, 3) := by decide +kernel
theorem dX5_count_5 : decode cX5_count 5 = .ok (.iload_n 1, 1) := by decide +kernel
theorem dX5_count_6 : decode cX5_count 6 = .ok (.iconst 0, 1) := by decide +kernel
theorem dX5_count_7 : decode cX5_count 7 = .ok (.iconst 1, 1) := by decide +kernel
theorem dX5_count_8 : decode cX5_count 8 = .ok (.invokestatic 66, 3) := by decide +kernel
theorem dX5_count_11 : decode cX5_count 11 = .ok (.ifCond .eq 12, 3) := by decide +kernel
theorem dX5_count_14 : decode cX5_count 14 = .ok (.aload_n 0, 1) := by decide +kernel
theorem dX5_count_15 : decode cX5_count 15 = .ok (.getfield 13, 3) := by decide +kernel
theorem dX5_count_18 : decode cX5_count 18 = .ok (.iload_n 1, 1) := by decide +kernel
theorem dX5_count_19 : decode cX5_count 19 = .ok (.iaload, 1) := by decide +kernel
theorem dX5_count_20 : decode cX5_count 20 = .ok (.goto 28, 3) := by decide +kernel
theorem dX5_count_23 : decode cX5_count 23 = .ok (.iload_n 1, 1) := by decide +kernel
theorem dX5_count_24 : decode cX5_count 24 = .ok (.iconst 2, 1) := by decide +kernel
theorem dX5_count_25 : decode cX5_count 25 = .ok (.if_icmp .ne 10, 3) := by decide +kernel
theorem dX5_count_28 : decode cX5_count 28 = .ok (.aload_n 0, 1) := by decide +kernel
theorem dX5_count_29 : decode cX5_count 29 = .ok (.getfield 114, 3) := by decide +kernel
theorem dX5_count_32 : decode cX5_count 32 = .ok (.goto 16, 3) := by decide +kernel
theorem dX5_count_35 : decode cX5_count 35 = .ok (.iload_n 1, 1) := by decide +kernel
theorem dX5_count_36 : decode cX5_count 36 = .ok (.iconst 3, 1) := by decide +kernel
theorem dX5_count_37 : decode cX5_count 37 = .ok (.if_icmp .ne 10, 3) := by decide +kernel
theorem dX5_count_40 : decode cX5_count 40 = .ok (.aload_n 0, 1) := by decide +kernel
theorem dX5_count_41 : decode cX5_count 41 = .ok (.getfield 70, 3) := by decide +kernel
theorem dX5_count_44 : decode cX5_count 44 = .ok (.goto 4, 3) := by decide +kernel
theorem dX5_count_47 : decode cX5_count 47 = .ok (.iconst (-1), 1) := by decide +kernel
theorem dX5_count_48 : decode cX5_count 48 = .ok (.ireturn, 1) := by decide +kernel
theorem dX5_trace_0 : decode cX5_trace 0 = .ok (.aload_n 0, 1) := by decide +kernel
theorem dX5_trace_1 : decode cX5_trace 1 = .ok (.iconst 0, 1) := by decide +kernel
theorem dX5_trace_2 : decode cX5_trace 2 = .ok (.putfield 62, 3) := by decide +kernel
theorem dX5_trace_5 : decode cX5_trace 5 = .ok (.aload_n 0, 1) := by decide +kernel
theorem dX5_trace_6 : decode cX5_trace 6 = .ok (.getfield 193, 3) := by decide +kernel
theorem dX5_trace_9 : decode cX5_trace 9 = .ok (.lreturn, 1) := by decide +kernel
