theorem dX4_init_0 : decode cX4_init 0 = .ok (.aload_n 0, 1) := by decide +kernel
theorem dX4_init_1 : decode cX4_init 1 = .ok (.invokespecial 1, 3) := by decide +kernel
theorem dX4_init_4 : decode cX4_init 4 = .ok (.aload_n 0, 1) := by decide +kernel
theorem dX4_init_5 : decode cX4_init 5 = .ok (.new 7, 3) := by decide +kernel
theorem dX4_init_8 : decode cX4_init 8 = .ok (.dup, 1) := by decide +kernel
theorem dX4_init_9 : decode cX4_init 9 = .ok (.invokespecial 9, 3) := by decide +kernel
theorem dX4_init_12 : decode cX4_init 12 = .ok (.putfield 10, 3) := by decide +kernel
theorem dX4_init_15 : decode cX4_init 15 = .ok (.aload_n 0, 1) := by decide +kernel
theorem dX4_init_16 : decode cX4_init 16 = .ok (.new 16, 3) := by decide +kernel
theorem dX4_init_19 : decode cX4_init 19 = .ok (.dup, 1) := by decide +kernel
theorem dX4_init_20 : decode cX4_init 20 = .ok (.invokespecial 18, 3) := by decide +kernel
theorem dX4_init_23 : decode cX4_init 23 = .ok (.putfield 19, 3) := by decide +kernel
theorem dX4_init_26 : decode cX4_init 26 = .ok (.aload_n 0, 1) := by decide +kernel
theorem dX4_init_27 : decode cX4_init 27 = .ok (.new 16, 3) := by decide +kernel
theorem dX4_init_30 : decode cX4_init 30 = .ok (.dup, 1) := by decide +kernel
theorem dX4_init_31 : decode cX4_init 31 = .ok (.invokespecial 18, 3) := by decide +kernel
theorem dX4_init_34 : decode cX4_init 34 = .ok (.putfield 23, 3) := by decide +kernel
theorem dX4_init_37 : decode cX4_init 37 = .ok (.aload_n 0, 1) := by decide +kernel
theorem dX4_init_38 : decode cX4_init 38 = .ok (.new 26, 3) := by decide +kernel
theorem dX4_init_41 : decode cX4_init 41 = .ok (.dup, 1) := by decide +kernel
theorem dX4_init_42 : decode cX4_init 42 = .ok (.invokespecial 28, 3) := by decide +kernel
theorem dX4_init_45 : decode cX4_init 45 = .ok (.putfield 29, 3) := by decide +kernel
theorem dX4_init_48 : decode cX4_init 48 = .ok (.aload_n 0, 1) := by decide +kernel
theorem dX4_init_49 : decode cX4_init 49 = .ok (.new 26, 3) := by decide +kernel
theorem dX4_init_52 : decode cX4_init 52 = .ok (.dup, 1) := by decide +kernel
theorem dX4_init_53 : decode cX4_init 53 = .ok (.invokespecial 28, 3) := by decide +kernel
theorem dX4_init_56 : decode cX4_init 56 = .ok (.putfield 33, 3) := by decide +kernel
theorem dX4_init_59 : decode cX4_init 59 = .ok (.aload_n 0, 1) := by decide +kernel
theorem dX4_init_60 : decode cX4_init 60 = .ok (.new 36, 3) := by decide +kernel
theorem dX4_init_63 : decode cX4_init 63 = .ok (.dup, 1) := by decide +kernel
theorem dX4_init_64 : decode cX4_init 64 = .ok (.invokespecial 38, 3) := by decide +kernel
theorem dX4_init_67 : decode cX4_init 67 = .ok (.putfield 39, 3) := by decide +kernel
theorem dX4_init_70 : decode cX4_init 70 = .ok (.aload_n 0, 1) := by decide +kernel
theorem dX4_init_71 : decode cX4_init 71 = .ok (.iconst 2, 1) := by decide +kernel
theorem dX4_init_72 : decode cX4_init 72 = .ok (.anewarray 26, 3) := by decide +kernel
theorem dX4_init_75 : decode cX4_init 75 = .ok (.putfield 43, 3) := by decide +kernel
theorem dX4_init_78 : decode cX4_init 78 = .ok (.aload_n 0, 1) := by decide +kernel
theorem dX4_init_79 : decode cX4_init 79 = .ok (.iconst 2, 1) := by decide +kernel
theorem dX4_init_80 : decode cX4_init 80 = .ok (.newarray .boolean, 2) := by decide +kernel
theorem dX4_init_82 : decode cX4_init 82 = .ok (.putfield 47, 3) := by decide +kernel
theorem dX4_init_85 : decode cX4_init 85 = .ok (.aload_n 0, 1) := by decide +kernel
theorem dX4_init_86 : decode cX4_init 86 = .ok (.iconst 5, 1) := by decide +kernel
theorem dX4_init_87 : decode cX4_init 87 = .ok (.newarray .int, 2) := by decide +kernel
theorem dX4_init_89 : decode cX4_init 89 = .ok (.putfield 51, 3) := by decide +kernel
theorem dX4_init_92 : decode cX4_init 92 = .ok (.aload_n 0, 1) := by decide +kernel
theorem dX4_init_93 : decode cX4_init 93 = .ok (.iconst 5, 1) := by decide +kernel
theorem dX4_init_94 : decode cX4_init 94 = .ok (.newarray .int, 2) := by decide +kernel
theorem dX4_init_96 : decode cX4_init 96 = .ok (.putfield 55, 3) := by decide +kernel
theorem dX4_init_99 : decode cX4_init 99 = .ok (.aload_n 0, 1) := by decide +kernel
theorem dX4_init_100 : decode cX4_init 100 = .ok (.bipush 6, 2) := by decide +kernel
theorem dX4_init_102 : decode cX4_init 102 = .ok (.newarray .int, 2) := by decide +kernel
theorem dX4_init_104 : decode cX4_init 104 = .ok (.putfield 58, 3) := by decide +kernel
theorem dX4_init_107 : decode cX4_init 107 = .ok (.aload_n 0, 1) := by decide +kernel
theorem dX4_init_108 : decode cX4_init 108 = .ok (.getfield 29, 3) := by decide +kernel
theorem dX4_init_111 : decode cX4_init 111 = .ok (.iconst 0, 1) := by decide +kernel
theorem dX4_init_112 : decode cX4_init 112 = .ok (.invokevirtual 61, 3) := by decide +kernel
theorem dX4_init_115 : decode cX4_init 115 = .ok (.iconst 0, 1) := by decide +kernel
theorem dX4_init_116 : decode cX4_init 116 = .ok (.istore_n 1, 1) := by decide +kernel
theorem dX4_init_117 : decode cX4_init 117 = .ok (.iload_n 1, 1) := by decide +kernel
theorem dX4_init_118 : decode cX4_init 118 = .ok (.iconst 2, 1) := by decide +kernel
theorem dX4_init_119 : decode cX4_init 119 = .ok (.if_icmp .ge 22, 3) := by decide +kernel
theorem dX4_init_122 : decode cX4_init 122 = .ok (.aload_n 0, 1) := by decide +kernel
theorem dX4_init_123 : decode cX4_init 123 = .ok (.getfield 43, 3) := by decide +kernel
theorem dX4_init_126 : decode cX4_init 126 = .ok (.iload_n 1, 1) := by decide +kernel
theorem dX4_init_127 : decode cX4_init 127 = .ok (.new 26, 3) := by decide +kernel
theorem dX4_init_130 : decode cX4_init 130 = .ok (.dup, 1) := by decide +kernel
theorem dX4_init_131 : decode cX4_init 131 = .ok (.invokespecial 28, 3) := by decide +kernel
theorem dX4_init_134 : decode cX4_init 134 = .ok (.aastore, 1) := by decide +kernel
theorem dX4_init_135 : decode cX4_init 135 = .ok (.iinc 1 1, 3) := by decide +kernel
theorem dX4_init_138 : decode cX4_init 138 = .ok (.goto (-21), 3) := by decide +kernel
theorem dX4_init_141 : decode cX4_init 141 = .ok (.return_, 1) := by decide +kernel
theorem dX4_type_0 : decode cX4_type 0 = .ok (.iload_n 1, 1) := by decide +kernel
theorem dX4_type_1 : decode cX4_type 1 = .ok (.ifCond .lt 10, 3) := by decide +kernel
theorem dX4_type_4 : decode cX4_type 4 = .ok (.iload_n 1, 1) := by decide +kernel
theorem dX4_type_5 : decode cX4_type 5 = .ok (.sipush 255, 3) := by decide +kernel
theorem dX4_type_8 : decode cX4_type 8 = .ok (.if_icmp .le 5, 3) := by decide +kernel
theorem dX4_type_11 : decode cX4_type 11 = .ok (.iconst (-1), 1) := by decide +kernel
theorem dX4_type_12 : decode cX4_type 12 = .ok (.ireturn, 1) := by decide +kernel
theorem dX4_type_13 : decode cX4_type 13 = .ok (.aload_n 0, 1) := by decide +kernel
theorem dX4_type_14 : decode cX4_type 14 = .ok (.getfield 10, 3) := by decide +kernel
theorem dX4_type_17 : decode cX4_type 17 = .ok (.getfield 65, 3) := by decide +kernel
theorem dX4_type_20 : decode cX4_type 20 = .ok (.sipush 200, 3) := by decide +kernel
theorem dX4_type_23 : decode cX4_type 23 = .ok (.if_icmp .lt 6, 3) := by decide +kernel
theorem dX4_type_26 : decode cX4_type 26 = .ok (.bipush (-3), 2) := by decide +kernel
theorem dX4_type_28 : decode cX4_type 28 = .ok (.ireturn, 1) := by decide +kernel
theorem dX4_type_29 : decode cX4_type 29 = .ok (.aload_n 0, 1) := by decide +kernel
theorem dX4_type_30 : decode cX4_type 30 = .ok (.getfield 10, 3) := by decide +kernel
theorem dX4_type_33 : decode cX4_type 33 = .ok (.getfield 69, 3) := by decide +kernel
theorem dX4_type_36 : decode cX4_type 36 = .ok (.aload_n 0, 1) := by decide +kernel
theorem dX4_type_37 : decode cX4_type 37 = .ok (.getfield 10, 3) := by decide +kernel
theorem dX4_type_40 : decode cX4_type 40 = .ok (.getfield 65, 3) := by decide +kernel
theorem dX4_type_43 : decode cX4_type 43 = .ok (.iload_n 1, 1) := by decide +kernel
theorem dX4_type_44 : decode cX4_type 44 = .ok (.iastore, 1) := by decide +kernel
theorem dX4_type_45 : decode cX4_type 45 = .ok (.aload_n 0, 1) := by decide +kernel
theorem dX4_type_46 : decode cX4_type 46 = .ok (.getfield 10, 3) := by decide +kernel
theorem dX4_type_49 : decode cX4_type 49 = .ok (.dup, 1) := by decide +kernel
theorem dX4_type_50 : decode cX4_type 50 = .ok (.getfield 65, 3) := by decide +kernel
theorem dX4_type_53 : decode cX4_type 53 = .ok (.iconst 1, 1) := by decide +kernel
theorem dX4_type_54 : decode cX4_type 54 = .ok (.iadd, 1) := by decide +kernel
theorem dX4_type_55 : decode cX4_type 55 = .ok (.putfield 65, 3) := by decide +kernel
theorem dX4_type_58 : decode cX4_type 58 = .ok (.aload_n 0, 1) := by decide +kernel
theorem dX4_type_59 : decode cX4_type 59 = .ok (.getfield 10, 3) := by decide +kernel
theorem dX4_type_62 : decode cX4_type 62 = .ok (.getfield 65, 3) := by decide +kernel
theorem dX4_type_65 : decode cX4_type 65 = .ok (.ireturn, 1) := by decide +kernel
theorem dX4_clear_0 : decode cX4_clear 0 = .ok (.aload_n 0, 1) := by decide +kernel
theorem dX4_clear_1 : decode cX4_clear 1 = .ok (.getfield 10, 3) := by decide +kernel
theorem dX4_clear_4 : decode cX4_clear 4 = .ok (.getfield 65, 3) := by decide +kernel
theorem dX4_clear_7 : decode cX4_clear 7 = .ok (.istore_n 1, 1) := by decide +kernel
theorem dX4_clear_8 : decode cX4_clear 8 = .ok (.aload_n 0, 1) := by decide +kernel
theorem dX4_clear_9 : decode cX4_clear 9 = .ok (.getfield 10, 3) := by decide +kernel
theorem dX4_clear_12 : decode cX4_clear 12 = .ok (.iconst 0, 1) := by decide +kernel
theorem dX4_clear_13 : decode cX4_clear 13 = .ok (.putfield 65, 3) := by decide +kernel
theorem dX4_clear_16 : decode cX4_clear 16 = .ok (.iload_n 1, 1) := by decide +kernel
theorem dX4_clear_17 : decode cX4_clear 17 = .ok (.ireturn, 1) := by decide +kernel
theorem dX4_valley_0 : decode cX4_valley 0 = .ok (.aload_n 0, 1) := by decide +kernel
theorem dX4_valley_1 : decode cX4_valley 1 = .ok (.getfield 10, 3) := by decide +kernel
theorem dX4_valley_4 : decode cX4_valley 4 = .ok (.aload_n 0, 1) := by decide +kernel
theorem dX4_valley_5 : decode cX4_valley 5 = .ok (.getfield 23, 3) := by decide +kernel
theorem dX4_valley_8 : decode cX4_valley 8 = .ok (.invokevirtual 72, 3) := by decide +kernel
theorem dX4_valley_11 : decode cX4_valley 11 = .ok (.istore_n 1, 1) := by decide +kernel
theorem dX4_valley_12 : decode cX4_valley 12 = .ok (.iload_n 1, 1) := by decide +kernel
theorem dX4_valley_13 : decode cX4_valley 13 = .ok (.ifCond .ge 5, 3) := by decide +kernel
theorem dX4_valley_16 : decode cX4_valley 16 = .ok (.iload_n 1, 1) := by decide +kernel
theorem dX4_valley_17 : decode cX4_valley 17 = .ok (.ireturn, 1) := by decide +kernel
theorem dX4_valley_18 : decode cX4_valley 18 = .ok (.aload_n 0, 1) := by decide +kernel
theorem dX4_valley_19 : decode cX4_valley 19 = .ok (.getfield 19, 3) := by decide +kernel
theorem dX4_valley_22 : decode cX4_valley 22 = .ok (.astore_n 2, 1) := by decide +kernel
theorem dX4_valley_23 : decode cX4_valley 23 = .ok (.aload_n 0, 1) := by decide +kernel
theorem dX4_valley_24 : decode cX4_valley 24 = .ok (.aload_n 0, 1) := by decide +kernel
theorem dX4_valley_25 : decode cX4_valley 25 = .ok (.getfield 23, 3) := by decide +kernel
theorem dX4_valley_28 : decode cX4_valley 28 = .ok (.putfield 19, 3) := by decide +kernel
theorem dX4_valley_31 : decode cX4_valley 31 = .ok (.aload_n 0, 1) := by decide +kernel
theorem dX4_valley_32 : decode cX4_valley 32 = .ok (.aload_n 2, 1) := by decide +kernel
theorem dX4_valley_33 : decode cX4_valley 33 = .ok (.putfield 23, 3) := by decide +kernel
theorem dX4_valley_36 : decode cX4_valley 36 = .ok (.aload_n 0, 1) := by decide +kernel
theorem dX4_valley_37 : decode cX4_valley 37 = .ok (.getfield 10, 3) := by decide +kernel
theorem dX4_valley_40 : decode cX4_valley 40 = .ok (.iconst 0, 1) := by decide +kernel
theorem dX4_valley_41 : decode cX4_valley 41 = .ok (.putfield 65, 3) := by decide +kernel
theorem dX4_valley_44 : decode cX4_valley 44 = .ok (.aload_n 0, 1) := by decide +kernel
theorem dX4_valley_45 : decode cX4_valley 45 = .ok (.getfield 29, 3) := by decide +kernel
theorem dX4_valley_48 : decode cX4_valley 48 = .ok (.aload_n 0, 1) := by decide +kernel
theorem dX4_valley_49 : decode cX4_valley 49 = .ok (.getfield 19, 3) := by decide +kernel
theorem dX4_valley_52 : decode cX4_valley 52 = .ok (.getfield 76, 3) := by decide +kernel
theorem dX4_valley_55 : decode cX4_valley 55 = .ok (.invokevirtual 61, 3) := by decide +kernel
theorem dX4_valley_58 : decode cX4_valley 58 = .ok (.aload_n 0, 1) := by decide +kernel
theorem dX4_valley_59 : decode cX4_valley 59 = .ok (.getfield 39, 3) := by decide +kernel
theorem dX4_valley_62 : decode cX4_valley 62 = .ok (.iconst 0, 1) := by decide +kernel
theorem dX4_valley_63 : decode cX4_valley 63 = .ok (.putfield 79, 3) := by decide +kernel
theorem dX4_valley_66 : decode cX4_valley 66 = .ok (.aload_n 0, 1) := by decide +kernel
theorem dX4_valley_67 : decode cX4_valley 67 = .ok (.iconst 0, 1) := by decide +kernel
theorem dX4_valley_68 : decode cX4_valley 68 = .ok (.putfield 82, 3) := by decide +kernel
theorem dX4_valley_71 : decode cX4_valley 71 = .ok (.iconst 0, 1) := by decide +kernel
theorem dX4_valley_72 : decode cX4_valley 72 = .ok (.istore_n 3, 1) := by decide +kernel
theorem dX4_valley_73 : decode cX4_valley 73 = .ok (.iload_n 3, 1) := by decide +kernel
theorem dX4_valley_74 : decode cX4_valley 74 = .ok (.iconst 2, 1) := by decide +kernel
theorem dX4_valley_75 : decode cX4_valley 75 = .ok (.if_icmp .ge 16, 3) := by decide +kernel
theorem dX4_valley_78 : decode cX4_valley 78 = .ok (.aload_n 0, 1) := by decide +kernel
theorem dX4_valley_79 : decode cX4_valley 79 = .ok (.getfield 47, 3) := by decide +kernel
theorem dX4_valley_82 : decode cX4_valley 82 = .ok (.iload_n 3, 1) := by decide +kernel
theorem dX4_valley_83 : decode cX4_valley 83 = .ok (.iconst 0, 1) := by decide +kernel
theorem dX4_valley_84 : decode cX4_valley 84 = .ok (.bastore, 1) := by decide +kernel
theorem dX4_valley_85 : decode cX4_valley 85 = .ok (.iinc 3 1, 3) := by decide +kernel
theorem dX4_valley_88 : decode cX4_valley 88 = .ok (.goto (-15), 3) := by decide +kernel
theorem dX4_valley_91 : decode cX4_valley 91 = .ok (.iload_n 1, 1) := by decide +kernel
theorem dX4_valley_92 : decode cX4_valley 92 = .ok (.ireturn, 1) := by decide +kernel
theorem dX4_man_0 : decode cX4_man 0 = .ok (.aload_n 0, 1) := by decide +kernel
theorem dX4_man_1 : decode cX4_man 1 = .ok (.iload_n 1, 1) := by decide +kernel
theorem dX4_man_2 : decode cX4_man 2 = .ok (.invokevirtual 85, 3) := by decide +kernel
theorem dX4_man_5 : decode cX4_man 5 = .ok (.ifCond .ne 5, 3) := by decide +kernel
theorem dX4_man_8 : decode cX4_man 8 = .ok (.iconst (-1), 1) := by decide +kernel
theorem dX4_man_9 : decode cX4_man 9 = .ok (.ireturn, 1) := by decide +kernel
theorem dX4_man_10 : decode cX4_man 10 = .ok (.iload_n 2, 1) := by decide +kernel
theorem dX4_man_11 : decode cX4_man 11 = .ok (.tableswitch 111 0 6 #[41, 51, 61, 71, 81, 91, 101], 41) := by decide +kernel
theorem dX4_man_52 : decode cX4_man 52 = .ok (.aload_n 0, 1) := by decide +kernel
theorem dX4_man_53 : decode cX4_man 53 = .ok (.getfield 19, 3) := by decide +kernel
theorem dX4_man_56 : decode cX4_man 56 = .ok (.getfield 89, 3) := by decide +kernel
theorem dX4_man_59 : decode cX4_man 59 = .ok (.iload_n 1, 1) := by decide +kernel
theorem dX4_man_60 : decode cX4_man 60 = .ok (.iaload, 1) := by decide +kernel
theorem dX4_man_61 : decode cX4_man 61 = .ok (.ireturn, 1) := by decide +kernel
theorem dX4_man_62 : decode cX4_man 62 = .ok (.aload_n 0, 1) := by decide +kernel
theorem dX4_man_63 : decode cX4_man 63 = .ok (.getfield 19, 3) := by decide +kernel
theorem dX4_man_66 : decode cX4_man 66 = .ok (.getfield 92, 3) := by decide +kernel
theorem dX4_man_69 : decode cX4_man 69 = .ok (.iload_n 1, 1) := by decide +kernel
theorem dX4_man_70 : decode cX4_man 70 = .ok (.iaload, 1) := by decide +kernel
theorem dX4_man_71 : decode cX4_man 71 = .ok (.ireturn, 1) := by decide +kernel
theorem dX4_man_72 : decode cX4_man 72 = .ok (.aload_n 0, 1) := by decide +kernel
theorem dX4_man_73 : decode cX4_man 73 = .ok (.getfield 19, 3) := by decide +kernel
theorem dX4_man_76 : decode cX4_man 76 = .ok (.getfield 95, 3) := by decide +kernel
theorem dX4_man_79 : decode cX4_man 79 = .ok (.iload_n 1, 1) := by decide +kernel
theorem dX4_man_80 : decode cX4_man 80 = .ok (.iaload, 1) := by decide +kernel
theorem dX4_man_81 : decode cX4_man 81 = .ok (.ireturn, 1) := by decide +kernel
theorem dX4_man_82 : decode cX4_man 82 = .ok (.aload_n 0, 1) := by decide +kernel
theorem dX4_man_83 : decode cX4_man 83 = .ok (.getfield 29, 3) := by decide +kernel
theorem dX4_man_86 : decode cX4_man 86 = .ok (.getfield 98, 3) := by decide +kernel
theorem dX4_man_89 : decode cX4_man 89 = .ok (.iload_n 1, 1) := by decide +kernel
theorem dX4_man_90 : decode cX4_man 90 = .ok (.iaload, 1) := by decide +kernel
theorem dX4_man_91 : decode cX4_man 91 = .ok (.ireturn, 1) := by decide +kernel
theorem dX4_man_92 : decode cX4_man 92 = .ok (.aload_n 0, 1) := by decide +kernel
theorem dX4_man_93 : decode cX4_man 93 = .ok (.getfield 29, 3) := by decide +kernel
theorem dX4_man_96 : decode cX4_man 96 = .ok (.getfield 101, 3) := by decide +kernel
theorem dX4_man_99 : decode cX4_man 99 = .ok (.iload_n 1, 1) := by decide +kernel
theorem dX4_man_100 : decode cX4_man 100 = .ok (.iaload, 1) := by decide +kernel
theorem dX4_man_101 : decode cX4_man 101 = .ok (.ireturn, 1) := by decide +kernel
theorem dX4_man_102 : decode cX4_man 102 = .ok (.aload_n 0, 1) := by decide +kernel
theorem dX4_man_103 : decode cX4_man 103 = .ok (.getfield 29, 3) := by decide +kernel
theorem dX4_man_106 : decode cX4_man 106 = .ok (.getfield 104, 3) := by decide +kernel
theorem dX4_man_109 : decode cX4_man 109 = .ok (.iload_n 1, 1) := by decide +kernel
theorem dX4_man_110 : decode cX4_man 110 = .ok (.iaload, 1) := by decide +kernel
theorem dX4_man_111 : decode cX4_man 111 = .ok (.ireturn, 1) := by decide +kernel
theorem dX4_man_112 : decode cX4_man 112 = .ok (.aload_n 0, 1) := by decide +kernel
theorem dX4_man_113 : decode cX4_man 113 = .ok (.getfield 29, 3) := by decide +kernel
theorem dX4_man_116 : decode cX4_man 116 = .ok (.getfield 107, 3) := by decide +kernel
theorem dX4_man_119 : decode cX4_man 119 = .ok (.iload_n 1, 1) := by decide +kernel
theorem dX4_man_120 : decode cX4_man 120 = .ok (.iaload, 1) := by decide +kernel
theorem dX4_man_121 : decode cX4_man 121 = .ok (.ireturn, 1) := by decide +kernel
theorem dX4_man_122 : decode cX4_man 122 = .ok (.iconst (-1), 1) := by decide +kernel
theorem dX4_man_123 : decode cX4_man 123 = .ok (.ireturn, 1) := by decide +kernel
theorem dX4_yieldOf_0 : decode cX4_yieldOf 0 = .ok (.aload_n 0, 1) := by decide +kernel
theorem dX4_yieldOf_1 : decode cX4_yieldOf 1 = .ok (.iload_n 1, 1) := by decide +kernel
theorem dX4_yieldOf_2 : decode cX4_yieldOf 2 = .ok (.invokevirtual 85, 3) := by decide +kernel
theorem dX4_yieldOf_5 : decode cX4_yieldOf 5 = .ok (.ifCond .eq 11, 3) := by decide +kernel
theorem dX4_yieldOf_8 : decode cX4_yieldOf 8 = .ok (.aload_n 0, 1) := by decide +kernel
theorem dX4_yieldOf_9 : decode cX4_yieldOf 9 = .ok (.iload_n 2, 1) := by decide +kernel
theorem dX4_yieldOf_10 : decode cX4_yieldOf 10 = .ok (.invokevirtual 110, 3) := by decide +kernel
theorem dX4_yieldOf_13 : decode cX4_yieldOf 13 = .ok (.ifCond .ne 5, 3) := by decide +kernel
theorem dX4_yieldOf_16 : decode cX4_yieldOf 16 = .ok (.iconst (-1), 1) := by decide +kernel
theorem dX4_yieldOf_17 : decode cX4_yieldOf 17 = .ok (.ireturn, 1) := by decide +kernel
theorem dX4_yieldOf_18 : decode cX4_yieldOf 18 = .ok (.aload_n 0, 1) := by decide +kernel
theorem dX4_yieldOf_19 : decode cX4_yieldOf 19 = .ok (.getfield 19, 3) := by decide +kernel
theorem dX4_yieldOf_22 : decode cX4_yieldOf 22 = .ok (.getfield 113, 3) := by decide +kernel
theorem dX4_yieldOf_25 : decode cX4_yieldOf 25 = .ok (.iload_n 1, 1) := by decide +kernel
theorem dX4_yieldOf_26 : decode cX4_yieldOf 26 = .ok (.aaload, 1) := by decide +kernel
theorem dX4_yieldOf_27 : decode cX4_yieldOf 27 = .ok (.iload_n 2, 1) := by decide +kernel
theorem dX4_yieldOf_28 : decode cX4_yieldOf 28 = .ok (.iaload, 1) := by decide +kernel
theorem dX4_yieldOf_29 : decode cX4_yieldOf 29 = .ok (.ireturn, 1) := by decide +kernel
theorem dX4_carries_0 : decode cX4_carries 0 = .ok (.aload_n 0, 1) := by decide +kernel
theorem dX4_carries_1 : decode cX4_carries 1 = .ok (.iload_n 1, 1) := by decide +kernel
theorem dX4_carries_2 : decode cX4_carries 2 = .ok (.invokevirtual 85, 3) := by decide +kernel
theorem dX4_carries_5 : decode cX4_carries 5 = .ok (.ifCond .eq 11, 3) := by decide +kernel
theorem dX4_carries_8 : decode cX4_carries 8 = .ok (.aload_n 0, 1) := by decide +kernel
theorem dX4_carries_9 : decode cX4_carries 9 = .ok (.iload_n 2, 1) := by decide +kernel
theorem dX4_carries_10 : decode cX4_carries 10 = .ok (.invokevirtual 110, 3) := by decide +kernel
theorem dX4_carries_13 : decode cX4_carries 13 = .ok (.ifCond .ne 5, 3) := by decide +kernel
theorem dX4_carries_16 : decode cX4_carries 16 = .ok (.iconst (-1), 1) := by decide +kernel
theorem dX4_carries_17 : decode cX4_carries 17 = .ok (.ireturn, 1) := by decide +kernel
theorem dX4_carries_18 : decode cX4_carries 18 = .ok (.aload_n 0, 1) := by decide +kernel
theorem dX4_carries_19 : decode cX4_carries 19 = .ok (.aload_n 0, 1) := by decide +kernel
theorem dX4_carries_20 : decode cX4_carries 20 = .ok (.getfield 29, 3) := by decide +kernel
theorem dX4_carries_23 : decode cX4_carries 23 = .ok (.iload_n 1, 1) := by decide +kernel
theorem dX4_carries_24 : decode cX4_carries 24 = .ok (.iload_n 2, 1) := by decide +kernel
theorem dX4_carries_25 : decode cX4_carries 25 = .ok (.invokevirtual 117, 3) := by decide +kernel
theorem dX4_carries_28 : decode cX4_carries 28 = .ok (.ireturn, 1) := by decide +kernel
theorem dX4_has_0 : decode cX4_has 0 = .ok (.aload_n 0, 1) := by decide +kernel
theorem dX4_has_1 : decode cX4_has 1 = .ok (.iload_n 1, 1) := by decide +kernel
theorem dX4_has_2 : decode cX4_has 2 = .ok (.invokevirtual 85, 3) := by decide +kernel
theorem dX4_has_5 : decode cX4_has 5 = .ok (.ifCond .ne 6, 3) := by decide +kernel
theorem dX4_has_8 : decode cX4_has 8 = .ok (.ldc 121, 2) := by decide +kernel
theorem dX4_has_10 : decode cX4_has 10 = .ok (.ireturn, 1) := by decide +kernel
theorem dX4_has_11 : decode cX4_has 11 = .ok (.iload_n 2, 1) := by decide +kernel
theorem dX4_has_12 : decode cX4_has 12 = .ok (.tableswitch 72 0 3 #[32, 42, 52, 62], 32) := by decide +kernel
theorem dX4_has_44 : decode cX4_has 44 = .ok (.aload_n 0, 1) := by decide +kernel
theorem dX4_has_45 : decode cX4_has 45 = .ok (.aload_n 0, 1) := by decide +kernel
theorem dX4_has_46 : decode cX4_has 46 = .ok (.getfield 29, 3) := by decide +kernel
theorem dX4_has_49 : decode cX4_has 49 = .ok (.iload_n 1, 1) := by decide +kernel
theorem dX4_has_50 : decode cX4_has 50 = .ok (.invokevirtual 122, 3) := by decide +kernel
theorem dX4_has_53 : decode cX4_has 53 = .ok (.ireturn, 1) := by decide +kernel
theorem dX4_has_54 : decode cX4_has 54 = .ok (.aload_n 0, 1) := by decide +kernel
theorem dX4_has_55 : decode cX4_has 55 = .ok (.aload_n 0, 1) := by decide +kernel
theorem dX4_has_56 : decode cX4_has 56 = .ok (.getfield 29, 3) := by decide +kernel
theorem dX4_has_59 : decode cX4_has 59 = .ok (.iload_n 1, 1) := by decide +kernel
theorem dX4_has_60 : decode cX4_has 60 = .ok (.invokevirtual 126, 3) := by decide +kernel
theorem dX4_has_63 : decode cX4_has 63 = .ok (.ireturn, 1) := by decide +kernel
theorem dX4_has_64 : decode cX4_has 64 = .ok (.aload_n 0, 1) := by decide +kernel
theorem dX4_has_65 : decode cX4_has 65 = .ok (.aload_n 0, 1) := by decide +kernel
theorem dX4_has_66 : decode cX4_has 66 = .ok (.getfield 29, 3) := by decide +kernel
theorem dX4_has_69 : decode cX4_has 69 = .ok (.iload_n 1, 1) := by decide +kernel
theorem dX4_has_70 : decode cX4_has 70 = .ok (.invokevirtual 129, 3) := by decide +kernel
theorem dX4_has_73 : decode cX4_has 73 = .ok (.ireturn, 1) := by decide +kernel
theorem dX4_has_74 : decode cX4_has 74 = .ok (.aload_n 0, 1) := by decide +kernel
theorem dX4_has_75 : decode cX4_has 75 = .ok (.getfield 29, 3) := by decide +kernel
theorem dX4_has_78 : decode cX4_has 78 = .ok (.getfield 132, 3) := by decide +kernel
theorem dX4_has_81 : decode cX4_has 81 = .ok (.iload_n 1, 1) := by decide +kernel
theorem dX4_has_82 : decode cX4_has 82 = .ok (.iaload, 1) := by decide +kernel
theorem dX4_has_83 : decode cX4_has 83 = .ok (.ireturn, 1) := by decide +kernel
theorem dX4_has_84 : decode cX4_has 84 = .ok (.ldc 121, 2) := by decide +kernel
theorem dX4_has_86 : decode cX4_has 86 = .ok (.ireturn, 1) := by decide +kernel
theorem dX4_now_0 : decode cX4_now 0 = .ok (.iload_n 1, 1) := by decide +kernel
theorem dX4_now_1 : decode cX4_now 1 = .ok (.tableswitch 78 0 5 #[39, 47, 55, 60, 65, 70], 39) := by decide +kernel
theorem dX4_now_40 : decode cX4_now 40 = .ok (.aload_n 0, 1) := by decide +kernel
theorem dX4_now_41 : decode cX4_now 41 = .ok (.getfield 29, 3) := by decide +kernel
theorem dX4_now_44 : decode cX4_now 44 = .ok (.getfield 135, 3) := by decide +kernel
theorem dX4_now_47 : decode cX4_now 47 = .ok (.ireturn, 1) := by decide +kernel
theorem dX4_now_48 : decode cX4_now 48 = .ok (.aload_n 0, 1) := by decide +kernel
theorem dX4_now_49 : decode cX4_now 49 = .ok (.getfield 29, 3) := by decide +kernel
theorem dX4_now_52 : decode cX4_now 52 = .ok (.getfield 138, 3) := by decide +kernel
theorem dX4_now_55 : decode cX4_now 55 = .ok (.ireturn, 1) := by decide +kernel
theorem dX4_now_56 : decode cX4_now 56 = .ok (.aload_n 0, 1) := by decide +kernel
theorem dX4_now_57 : decode cX4_now 57 = .ok (.invokevirtual 141, 3) := by decide +kernel
theorem dX4_now_60 : decode cX4_now 60 = .ok (.ireturn, 1) := by decide +kernel
theorem dX4_now_61 : decode cX4_now 61 = .ok (.aload_n 0, 1) := by decide +kernel
theorem dX4_now_62 : decode cX4_now 62 = .ok (.invokevirtual 145, 3) := by decide +kernel
theorem dX4_now_65 : decode cX4_now 65 = .ok (.ireturn, 1) := by decide +kernel
theorem dX4_now_66 : decode cX4_now 66 = .ok (.aload_n 0, 1) := by decide +kernel
theorem dX4_now_67 : decode cX4_now 67 = .ok (.invokevirtual 148, 3) := by decide +kernel
theorem dX4_now_70 : decode cX4_now 70 = .ok (.ireturn, 1) := by decide +kernel
theorem dX4_now_71 : decode cX4_now 71 = .ok (.aload_n 0, 1) := by decide +kernel
theorem dX4_now_72 : decode cX4_now 72 = .ok (.getfield 39, 3) := by decide +kernel
theorem dX4_now_75 : decode cX4_now 75 = .ok (.getfield 79, 3) := by decide +kernel
theorem dX4_now_78 : decode cX4_now 78 = .ok (.ireturn, 1) := by decide +kernel
theorem dX4_now_79 : decode cX4_now 79 = .ok (.iconst (-1), 1) := by decide +kernel
theorem dX4_now_80 : decode cX4_now 80 = .ok (.ireturn, 1) := by decide +kernel
theorem dX4_sows_0 : decode cX4_sows 0 = .ok (.aload_n 0, 1) := by decide +kernel
theorem dX4_sows_1 : decode cX4_sows 1 = .ok (.iload_n 1, 1) := by decide +kernel
theorem dX4_sows_2 : decode cX4_sows 2 = .ok (.invokevirtual 85, 3) := by decide +kernel
theorem dX4_sows_5 : decode cX4_sows 5 = .ok (.ifCond .eq 11, 3) := by decide +kernel
theorem dX4_sows_8 : decode cX4_sows 8 = .ok (.aload_n 0, 1) := by decide +kernel
theorem dX4_sows_9 : decode cX4_sows 9 = .ok (.iload_n 2, 1) := by decide +kernel
theorem dX4_sows_10 : decode cX4_sows 10 = .ok (.invokevirtual 110, 3) := by decide +kernel
theorem dX4_sows_13 : decode cX4_sows 13 = .ok (.ifCond .ne 5, 3) := by decide +kernel
theorem dX4_sows_16 : decode cX4_sows 16 = .ok (.iconst (-1), 1) := by decide +kernel
theorem dX4_sows_17 : decode cX4_sows 17 = .ok (.ireturn, 1) := by decide +kernel
theorem dX4_sows_18 : decode cX4_sows 18 = .ok (.aload_n 0, 1) := by decide +kernel
theorem dX4_sows_19 : decode cX4_sows 19 = .ok (.getfield 39, 3) := by decide +kernel
theorem dX4_sows_22 : decode cX4_sows 22 = .ok (.aload_n 0, 1) := by decide +kernel
theorem dX4_sows_23 : decode cX4_sows 23 = .ok (.getfield 29, 3) := by decide +kernel
theorem dX4_sows_26 : decode cX4_sows 26 = .ok (.invokevirtual 151, 3) := by decide +kernel
theorem dX4_sows_29 : decode cX4_sows 29 = .ok (.aload_n 0, 1) := by decide +kernel
theorem dX4_sows_30 : decode cX4_sows 30 = .ok (.getfield 29, 3) := by decide +kernel
theorem dX4_sows_33 : decode cX4_sows 33 = .ok (.getfield 98, 3) := by decide +kernel
theorem dX4_sows_36 : decode cX4_sows 36 = .ok (.iload_n 1, 1) := by decide +kernel
theorem dX4_sows_37 : decode cX4_sows 37 = .ok (.iaload, 1) := by decide +kernel
theorem dX4_sows_38 : decode cX4_sows 38 = .ok (.istore_n 3, 1) := by decide +kernel
theorem dX4_sows_39 : decode cX4_sows 39 = .ok (.aload_n 0, 1) := by decide +kernel
theorem dX4_sows_40 : decode cX4_sows 40 = .ok (.getfield 29, 3) := by decide +kernel
theorem dX4_sows_43 : decode cX4_sows 43 = .ok (.getfield 98, 3) := by decide +kernel
theorem dX4_sows_46 : decode cX4_sows 46 = .ok (.iload_n 1, 1) := by decide +kernel
theorem dX4_sows_47 : decode cX4_sows 47 = .ok (.iload_n 2, 1) := by decide +kernel
theorem dX4_sows_48 : decode cX4_sows 48 = .ok (.iastore, 1) := by decide +kernel
theorem dX4_sows_49 : decode cX4_sows 49 = .ok (.iload_n 3, 1) := by decide +kernel
theorem dX4_sows_50 : decode cX4_sows 50 = .ok (.ireturn, 1) := by decide +kernel
theorem dX4_rains_0 : decode cX4_rains 0 = .ok (.iload_n 1, 1) := by decide +kernel
theorem dX4_rains_1 : decode cX4_rains 1 = .ok (.iconst 2, 1) := by decide +kernel
theorem dX4_rains_2 : decode cX4_rains 2 = .ok (.invokestatic 155, 3) := by decide +kernel
theorem dX4_rains_5 : decode cX4_rains 5 = .ok (.ifCond .ne 5, 3) := by decide +kernel
theorem dX4_rains_8 : decode cX4_rains 8 = .ok (.iconst (-1), 1) := by decide +kernel
theorem dX4_rains_9 : decode cX4_rains 9 = .ok (.ireturn, 1) := by decide +kernel
theorem dX4_rains_10 : decode cX4_rains 10 = .ok (.aload_n 0, 1) := by decide +kernel
theorem dX4_rains_11 : decode cX4_rains 11 = .ok (.getfield 39, 3) := by decide +kernel
theorem dX4_rains_14 : decode cX4_rains 14 = .ok (.aload_n 0, 1) := by decide +kernel
theorem dX4_rains_15 : decode cX4_rains 15 = .ok (.getfield 29, 3) := by decide +kernel
theorem dX4_rains_18 : decode cX4_rains 18 = .ok (.invokevirtual 151, 3) := by decide +kernel
theorem dX4_rains_21 : decode cX4_rains 21 = .ok (.aload_n 0, 1) := by decide +kernel
theorem dX4_rains_22 : decode cX4_rains 22 = .ok (.getfield 29, 3) := by decide +kernel
theorem dX4_rains_25 : decode cX4_rains 25 = .ok (.getfield 138, 3) := by decide +kernel
theorem dX4_rains_28 : decode cX4_rains 28 = .ok (.istore_n 2, 1) := by decide +kernel
theorem dX4_rains_29 : decode cX4_rains 29 = .ok (.aload_n 0, 1) := by decide +kernel
theorem dX4_rains_30 : decode cX4_rains 30 = .ok (.getfield 29, 3) := by decide +kernel
theorem dX4_rains_33 : decode cX4_rains 33 = .ok (.iload_n 1, 1) := by decide +kernel
theorem dX4_rains_34 : decode cX4_rains 34 = .ok (.putfield 138, 3) := by decide +kernel
theorem dX4_rains_37 : decode cX4_rains 37 = .ok (.iload_n 2, 1) := by decide +kernel
theorem dX4_rains_38 : decode cX4_rains 38 = .ok (.ireturn, 1) := by decide +kernel
theorem dX4_ropes_0 : decode cX4_ropes 0 = .ok (.aload_n 0, 1) := by decide +kernel
theorem dX4_ropes_1 : decode cX4_ropes 1 = .ok (.iload_n 1, 1) := by decide +kernel
theorem dX4_ropes_2 : decode cX4_ropes 2 = .ok (.invokevirtual 85, 3) := by decide +kernel
theorem dX4_ropes_5 : decode cX4_ropes 5 = .ok (.ifCond .eq 12, 3) := by decide +kernel
theorem dX4_ropes_8 : decode cX4_ropes 8 = .ok (.iload_n 2, 1) := by decide +kernel
theorem dX4_ropes_9 : decode cX4_ropes 9 = .ok (.ifCond .lt 8, 3) := by decide +kernel
theorem dX4_ropes_12 : decode cX4_ropes 12 = .ok (.iload_n 2, 1) := by decide +kernel
theorem dX4_ropes_13 : decode cX4_ropes 13 = .ok (.iconst 3, 1) := by decide +kernel
theorem dX4_ropes_14 : decode cX4_ropes 14 = .ok (.if_icmp .le 5, 3) := by decide +kernel
theorem dX4_ropes_17 : decode cX4_ropes 17 = .ok (.iconst (-1), 1) := by decide +kernel
theorem dX4_ropes_18 : decode cX4_ropes 18 = .ok (.ireturn, 1) := by decide +kernel
theorem dX4_ropes_19 : decode cX4_ropes 19 = .ok (.aload_n 0, 1) := by decide +kernel
theorem dX4_ropes_20 : decode cX4_ropes 20 = .ok (.getfield 39, 3) := by decide +kernel
theorem dX4_ropes_23 : decode cX4_ropes 23 = .ok (.aload_n 0, 1) := by decide +kernel
theorem dX4_ropes_24 : decode cX4_ropes 24 = .ok (.getfield 29, 3) := by decide +kernel
theorem dX4_ropes_27 : decode cX4_ropes 27 = .ok (.invokevirtual 151, 3) := by decide +kernel
theorem dX4_ropes_30 : decode cX4_ropes 30 = .ok (.aload_n 0, 1) := by decide +kernel
theorem dX4_ropes_31 : decode cX4_ropes 31 = .ok (.getfield 29, 3) := by decide +kernel
theorem dX4_ropes_34 : decode cX4_ropes 34 = .ok (.getfield 104, 3) := by decide +kernel
theorem dX4_ropes_37 : decode cX4_ropes 37 = .ok (.iload_n 1, 1) := by decide +kernel
theorem dX4_ropes_38 : decode cX4_ropes 38 = .ok (.iaload, 1) := by decide +kernel
theorem dX4_ropes_39 : decode cX4_ropes 39 = .ok (.istore_n 3, 1) := by decide +kernel
theorem dX4_ropes_40 : decode cX4_ropes 40 = .ok (.aload_n 0, 1) := by decide +kernel
theorem dX4_ropes_41 : decode cX4_ropes 41 = .ok (.getfield 29, 3) := by decide +kernel
theorem dX4_ropes_44 : decode cX4_ropes 44 = .ok (.getfield 104, 3) := by decide +kernel
theorem dX4_ropes_47 : decode cX4_ropes 47 = .ok (.iload_n 1, 1) := by decide +kernel
theorem dX4_ropes_48 : decode cX4_ropes 48 = .ok (.iload_n 2, 1) := by decide +kernel
theorem dX4_ropes_49 : decode cX4_ropes 49 = .ok (.iastore, 1) := by decide +kernel
theorem dX4_ropes_50 : decode cX4_ropes 50 = .ok (.iload_n 3, 1) := by decide +kernel
theorem dX4_ropes_51 : decode cX4_ropes 51 = .ok (.ireturn, 1) := by decide +kernel
theorem dX4_mules_0 : decode cX4_mules 0 = .ok (.aload_n 0, 1) := by decide +kernel
theorem dX4_mules_1 : decode cX4_mules 1 = .ok (.iload_n 1, 1) := by decide +kernel
theorem dX4_mules_2 : decode cX4_mules 2 = .ok (.invokevirtual 85, 3) := by decide +kernel
theorem dX4_mules_5 : decode cX4_mules 5 = .ok (.ifCond .eq 11, 3) := by decide +kernel
theorem dX4_mules_8 : decode cX4_mules 8 = .ok (.iload_n 2, 1) := by decide +kernel
theorem dX4_mules_9 : decode cX4_mules 9 = .ok (.iconst 2, 1) := by decide +kernel
theorem dX4_mules_10 : decode cX4_mules 10 = .ok (.invokestatic 155, 3) := by decide +kernel
theorem dX4_mules_13 : decode cX4_mules 13 = .ok (.ifCond .ne 5, 3) := by decide +kernel
theorem dX4_mules_16 : decode cX4_mules 16 = .ok (.iconst (-1), 1) := by decide +kernel
theorem dX4_mules_17 : decode cX4_mules 17 = .ok (.ireturn, 1) := by decide +kernel
theorem dX4_mules_18 : decode cX4_mules 18 = .ok (.aload_n 0, 1) := by decide +kernel
theorem dX4_mules_19 : decode cX4_mules 19 = .ok (.getfield 39, 3) := by decide +kernel
theorem dX4_mules_22 : decode cX4_mules 22 = .ok (.aload_n 0, 1) := by decide +kernel
theorem dX4_mules_23 : decode cX4_mules 23 = .ok (.getfield 29, 3) := by decide +kernel
theorem dX4_mules_26 : decode cX4_mules 26 = .ok (.invokevirtual 151, 3) := by decide +kernel
theorem dX4_mules_29 : decode cX4_mules 29 = .ok (.aload_n 0, 1) := by decide +kernel
theorem dX4_mules_30 : decode cX4_mules 30 = .ok (.getfield 29, 3) := by decide +kernel
theorem dX4_mules_33 : decode cX4_mules 33 = .ok (.getfield 107, 3) := by decide +kernel
theorem dX4_mules_36 : decode cX4_mules 36 = .ok (.iload_n 1, 1) := by decide +kernel
theorem dX4_mules_37 : decode cX4_mules 37 = .ok (.iaload, 1) := by decide +kernel
theorem dX4_mules_38 : decode cX4_mules 38 = .ok (.istore_n 3, 1) := by decide +kernel
theorem dX4_mules_39 : decode cX4_mules 39 = .ok (.aload_n 0, 1) := by decide +kernel
theorem dX4_mules_40 : decode cX4_mules 40 = .ok (.getfield 29, 3) := by decide +kernel
theorem dX4_mules_43 : decode cX4_mules 43 = .ok (.getfield 107, 3) := by decide +kernel
theorem dX4_mules_46 : decode cX4_mules 46 = .ok (.iload_n 1, 1) := by decide +kernel
theorem dX4_mules_47 : decode cX4_mules 47 = .ok (.iload_n 2, 1) := by decide +kernel
theorem dX4_mules_48 : decode cX4_mules 48 = .ok (.iastore, 1) := by decide +kernel
theorem dX4_mules_49 : decode cX4_mules 49 = .ok (.iload_n 3, 1) := by decide +kernel
theorem dX4_mules_50 : decode cX4_mules 50 = .ok (.ireturn, 1) := by decide +kernel
theorem dX4_marries_0 : decode cX4_marries 0 = .ok (.aload_n 0, 1) := by decide +kernel
theorem dX4_marries_1 : decode cX4_marries 1 = .ok (.iload_n 1, 1) := by decide +kernel
theorem dX4_marries_2 : decode cX4_marries 2 = .ok (.invokevirtual 85, 3) := by decide +kernel
theorem dX4_marries_5 : decode cX4_marries 5 = .ok (.ifCond .eq 16, 3) := by decide +kernel
theorem dX4_marries_8 : decode cX4_marries 8 = .ok (.aload_n 0, 1) := by decide +kernel
theorem dX4_marries_9 : decode cX4_marries 9 = .ok (.iload_n 2, 1) := by decide +kernel
theorem dX4_marries_10 : decode cX4_marries 10 = .ok (.invokevirtual 85, 3) := by decide +kernel
theorem dX4_marries_13 : decode cX4_marries 13 = .ok (.ifCond .eq 8, 3) := by decide +kernel
theorem dX4_marries_16 : decode cX4_marries 16 = .ok (.iload_n 1, 1) := by decide +kernel
theorem dX4_marries_17 : decode cX4_marries 17 = .ok (.iload_n 2, 1) := by decide +kernel
theorem dX4_marries_18 : decode cX4_marries 18 = .ok (.if_icmp .ne 5, 3) := by decide +kernel
theorem dX4_marries_21 : decode cX4_marries 21 = .ok (.iconst (-1), 1) := by decide +kernel
theorem dX4_marries_22 : decode cX4_marries 22 = .ok (.ireturn, 1) := by decide +kernel
theorem dX4_marries_23 : decode cX4_marries 23 = .ok (.aload_n 0, 1) := by decide +kernel
theorem dX4_marries_24 : decode cX4_marries 24 = .ok (.getfield 39, 3) := by decide +kernel
theorem dX4_marries_27 : decode cX4_marries 27 = .ok (.aload_n 0, 1) := by decide +kernel
theorem dX4_marries_28 : decode cX4_marries 28 = .ok (.getfield 29, 3) := by decide +kernel
theorem dX4_marries_31 : decode cX4_marries 31 = .ok (.invokevirtual 151, 3) := by decide +kernel
theorem dX4_marries_34 : decode cX4_marries 34 = .ok (.aload_n 0, 1) := by decide +kernel
theorem dX4_marries_35 : decode cX4_marries 35 = .ok (.iload_n 1, 1) := by decide +kernel
theorem dX4_marries_36 : decode cX4_marries 36 = .ok (.iload_n 2, 1) := by decide +kernel
theorem dX4_marries_37 : decode cX4_marries 37 = .ok (.invokevirtual 159, 3) := by decide +kernel
theorem dX4_marries_40 : decode cX4_marries 40 = .ok (.aload_n 0, 1) := by decide +kernel
theorem dX4_marries_41 : decode cX4_marries 41 = .ok (.getfield 29, 3) := by decide +kernel
theorem dX4_marries_44 : decode cX4_marries 44 = .ok (.getfield 101, 3) := by decide +kernel
theorem dX4_marries_47 : decode cX4_marries 47 = .ok (.iload_n 1, 1) := by decide +kernel
theorem dX4_marries_48 : decode cX4_marries 48 = .ok (.iaload, 1) := by decide +kernel
theorem dX4_marries_49 : decode cX4_marries 49 = .ok (.ireturn, 1) := by decide +kernel
theorem dX4_year_0 : decode cX4_year 0 = .ok (.aload_n 0, 1) := by decide +kernel
theorem dX4_year_1 : decode cX4_year 1 = .ok (.getfield 29, 3) := by decide +kernel
theorem dX4_year_4 : decode cX4_year 4 = .ok (.getfield 135, 3) := by decide +kernel
theorem dX4_year_7 : decode cX4_year 7 = .ok (.sipush 999, 3) := by decide +kernel
theorem dX4_year_10 : decode cX4_year 10 = .ok (.if_icmp .lt 6, 3) := by decide +kernel
theorem dX4_year_13 : decode cX4_year 13 = .ok (.bipush (-2), 2) := by decide +kernel
theorem dX4_year_15 : decode cX4_year 15 = .ok (.ireturn, 1) := by decide +kernel
theorem dX4_year_16 : decode cX4_year 16 = .ok (.aload_n 0, 1) := by decide +kernel
theorem dX4_year_17 : decode cX4_year 17 = .ok (.getfield 39, 3) := by decide +kernel
theorem dX4_year_20 : decode cX4_year 20 = .ok (.aload_n 0, 1) := by decide +kernel
theorem dX4_year_21 : decode cX4_year 21 = .ok (.getfield 29, 3) := by decide +kernel
theorem dX4_year_24 : decode cX4_year 24 = .ok (.invokevirtual 151, 3) := by decide +kernel
theorem dX4_year_27 : decode cX4_year 27 = .ok (.iconst 0, 1) := by decide +kernel
theorem dX4_year_28 : decode cX4_year 28 = .ok (.istore_n 1, 1) := by decide +kernel
theorem dX4_year_29 : decode cX4_year 29 = .ok (.iconst 0, 1) := by decide +kernel
theorem dX4_year_30 : decode cX4_year 30 = .ok (.istore_n 2, 1) := by decide +kernel
theorem dX4_year_31 : decode cX4_year 31 = .ok (.iload_n 2, 1) := by decide +kernel
theorem dX4_year_32 : decode cX4_year 32 = .ok (.aload_n 0, 1) := by decide +kernel
theorem dX4_year_33 : decode cX4_year 33 = .ok (.getfield 19, 3) := by decide +kernel
theorem dX4_year_36 : decode cX4_year 36 = .ok (.getfield 76, 3) := by decide +kernel
theorem dX4_year_39 : decode cX4_year 39 = .ok (.if_icmp .ge 48, 3) := by decide +kernel
theorem dX4_year_42 : decode cX4_year 42 = .ok (.aload_n 0, 1) := by decide +kernel
theorem dX4_year_43 : decode cX4_year 43 = .ok (.aload_n 0, 1) := by decide +kernel
theorem dX4_year_44 : decode cX4_year 44 = .ok (.getfield 29, 3) := by decide +kernel
theorem dX4_year_47 : decode cX4_year 47 = .ok (.iload_n 2, 1) := by decide +kernel
theorem dX4_year_48 : decode cX4_year 48 = .ok (.invokevirtual 163, 3) := by decide +kernel
theorem dX4_year_51 : decode cX4_year 51 = .ok (.istore_n 3, 1) := by decide +kernel
theorem dX4_year_52 : decode cX4_year 52 = .ok (.iload_n 3, 1) := by decide +kernel
theorem dX4_year_53 : decode cX4_year 53 = .ok (.ifCond .lt 6, 3) := by decide +kernel
theorem dX4_year_56 : decode cX4_year 56 = .ok (.iinc 1 1, 3) := by decide +kernel
theorem dX4_year_59 : decode cX4_year 59 = .ok (.aload_n 0, 1) := by decide +kernel
theorem dX4_year_60 : decode cX4_year 60 = .ok (.getfield 29, 3) := by decide +kernel
theorem dX4_year_63 : decode cX4_year 63 = .ok (.getfield 132, 3) := by decide +kernel
theorem dX4_year_66 : decode cX4_year 66 = .ok (.iload_n 2, 1) := by decide +kernel
theorem dX4_year_67 : decode cX4_year 67 = .ok (.aload_n 0, 1) := by decide +kernel
theorem dX4_year_68 : decode cX4_year 68 = .ok (.getfield 29, 3) := by decide +kernel
theorem dX4_year_71 : decode cX4_year 71 = .ok (.getfield 132, 3) := by decide +kernel
theorem dX4_year_74 : decode cX4_year 74 = .ok (.iload_n 2, 1) := by decide +kernel
theorem dX4_year_75 : decode cX4_year 75 = .ok (.iaload, 1) := by decide +kernel
theorem dX4_year_76 : decode cX4_year 76 = .ok (.iload_n 3, 1) := by decide +kernel
theorem dX4_year_77 : decode cX4_year 77 = .ok (.invokestatic 166, 3) := by decide +kernel
theorem dX4_year_80 : decode cX4_year 80 = .ok (.iastore, 1) := by decide +kernel
theorem dX4_year_81 : decode cX4_year 81 = .ok (.iinc 2 1, 3) := by decide +kernel
theorem dX4_year_84 : decode cX4_year 84 = .ok (.goto (-53), 3) := by decide +kernel
theorem dX4_year_87 : decode cX4_year 87 = .ok (.aload_n 0, 1) := by decide +kernel
theorem dX4_year_88 : decode cX4_year 88 = .ok (.getfield 29, 3) := by decide +kernel
theorem dX4_year_91 : decode cX4_year 91 = .ok (.dup, 1) := by decide +kernel
theorem dX4_year_92 : decode cX4_year 92 = .ok (.getfield 135, 3) := by decide +kernel
theorem dX4_year_95 : decode cX4_year 95 = .ok (.iconst 1, 1) := by decide +kernel
theorem dX4_year_96 : decode cX4_year 96 = .ok (.iadd, 1) := by decide +kernel
theorem dX4_year_97 : decode cX4_year 97 = .ok (.putfield 135, 3) := by decide +kernel
theorem dX4_year_100 : decode cX4_year 100 = .ok (.iload_n 1, 1) := by decide +kernel
theorem dX4_year_101 : decode cX4_year 101 = .ok (.ireturn, 1) := by decide +kernel
theorem dX4_undo_0 : decode cX4_undo 0 = .ok (.aload_n 0, 1) := by decide +kernel
theorem dX4_undo_1 : decode cX4_undo 1 = .ok (.getfield 39, 3) := by decide +kernel
theorem dX4_undo_4 : decode cX4_undo 4 = .ok (.getfield 79, 3) := by decide +kernel
theorem dX4_undo_7 : decode cX4_undo 7 = .ok (.ifCond .ne 6, 3) := by decide +kernel
theorem dX4_undo_10 : decode cX4_undo 10 = .ok (.bipush (-2), 2) := by decide +kernel
theorem dX4_undo_12 : decode cX4_undo 12 = .ok (.ireturn, 1) := by decide +kernel
theorem dX4_undo_13 : decode cX4_undo 13 = .ok (.aload_n 0, 1) := by decide +kernel
theorem dX4_undo_14 : decode cX4_undo 14 = .ok (.getfield 39, 3) := by decide +kernel
theorem dX4_undo_17 : decode cX4_undo 17 = .ok (.aload_n 0, 1) := by decide +kernel
theorem dX4_undo_18 : decode cX4_undo 18 = .ok (.getfield 29, 3) := by decide +kernel
theorem dX4_undo_21 : decode cX4_undo 21 = .ok (.invokevirtual 170, 3) := by decide +kernel
theorem dX4_undo_24 : decode cX4_undo 24 = .ok (.aload_n 0, 1) := by decide +kernel
theorem dX4_undo_25 : decode cX4_undo 25 = .ok (.getfield 39, 3) := by decide +kernel
theorem dX4_undo_28 : decode cX4_undo 28 = .ok (.getfield 79, 3) := by decide +kernel
theorem dX4_undo_31 : decode cX4_undo 31 = .ok (.ireturn, 1) := by decide +kernel
theorem dX4_best_0 : decode cX4_best 0 = .ok (.aload_n 0, 1) := by decide +kernel
theorem dX4_best_1 : decode cX4_best 1 = .ok (.iload_n 1, 1) := by decide +kernel
theorem dX4_best_2 : decode cX4_best 2 = .ok (.invokevirtual 85, 3) := by decide +kernel
theorem dX4_best_5 : decode cX4_best 5 = .ok (.ifCond .eq 22, 3) := by decide +kernel
theorem dX4_best_8 : decode cX4_best 8 = .ok (.iload_n 2, 1) := by decide +kernel
theorem dX4_best_9 : decode cX4_best 9 = .ok (.ifCond .lt 18, 3) := by decide +kernel
theorem dX4_best_12 : decode cX4_best 12 = .ok (.iload_n 2, 1) := by decide +kernel
theorem dX4_best_13 : decode cX4_best 13 = .ok (.sipush 999, 3) := by decide +kernel
theorem dX4_best_16 : decode cX4_best 16 = .ok (.if_icmp .gt 11, 3) := by decide +kernel
theorem dX4_best_19 : decode cX4_best 19 = .ok (.iload_n 3, 1) := by decide +kernel
theorem dX4_best_20 : decode cX4_best 20 = .ok (.iconst 2, 1) := by decide +kernel
theorem dX4_best_21 : decode cX4_best 21 = .ok (.invokestatic 155, 3) := by decide +kernel
theorem dX4_best_24 : decode cX4_best 24 = .ok (.ifCond .ne 5, 3) := by decide +kernel
theorem dX4_best_27 : decode cX4_best 27 = .ok (.iconst (-1), 1) := by decide +kernel
theorem dX4_best_28 : decode cX4_best 28 = .ok (.ireturn, 1) := by decide +kernel
theorem dX4_best_29 : decode cX4_best 29 = .ok (.aload_n 0, 1) := by decide +kernel
theorem dX4_best_30 : decode cX4_best 30 = .ok (.getfield 29, 3) := by decide +kernel
theorem dX4_best_33 : decode cX4_best 33 = .ok (.getfield 101, 3) := by decide +kernel
theorem dX4_best_36 : decode cX4_best 36 = .ok (.iload_n 1, 1) := by decide +kernel
theorem dX4_best_37 : decode cX4_best 37 = .ok (.iaload, 1) := by decide +kernel
theorem dX4_best_38 : decode cX4_best 38 = .ok (.istore 4, 2) := by decide +kernel
theorem dX4_best_40 : decode cX4_best 40 = .ok (.bipush (-9), 2) := by decide +kernel
theorem dX4_best_42 : decode cX4_best 42 = .ok (.istore 5, 2) := by decide +kernel
theorem dX4_best_44 : decode cX4_best 44 = .ok (.bipush (-9), 2) := by decide +kernel
theorem dX4_best_46 : decode cX4_best 46 = .ok (.istore 6, 2) := by decide +kernel
theorem dX4_best_48 : decode cX4_best 48 = .ok (.aload_n 0, 1) := by decide +kernel
theorem dX4_best_49 : decode cX4_best 49 = .ok (.getfield 33, 3) := by decide +kernel
theorem dX4_best_52 : decode cX4_best 52 = .ok (.aload_n 0, 1) := by decide +kernel
theorem dX4_best_53 : decode cX4_best 53 = .ok (.getfield 29, 3) := by decide +kernel
theorem dX4_best_56 : decode cX4_best 56 = .ok (.invokevirtual 173, 3) := by decide +kernel
theorem dX4_best_59 : decode cX4_best 59 = .ok (.iconst 0, 1) := by decide +kernel
theorem dX4_best_60 : decode cX4_best 60 = .ok (.istore 7, 2) := by decide +kernel
theorem dX4_best_62 : decode cX4_best 62 = .ok (.iload 7, 2) := by decide +kernel
theorem dX4_best_64 : decode cX4_best 64 = .ok (.aload_n 0, 1) := by decide +kernel
theorem dX4_best_65 : decode cX4_best 65 = .ok (.getfield 19, 3) := by decide +kernel
theorem dX4_best_68 : decode cX4_best 68 = .ok (.getfield 176, 3) := by decide +kernel
theorem dX4_best_71 : decode cX4_best 71 = .ok (.if_icmp .ge 95, 3) := by decide +kernel
theorem dX4_best_74 : decode cX4_best 74 = .ok (.aload_n 0, 1) := by decide +kernel
theorem dX4_best_75 : decode cX4_best 75 = .ok (.getfield 33, 3) := by decide +kernel
theorem dX4_best_78 : decode cX4_best 78 = .ok (.getfield 98, 3) := by decide +kernel
theorem dX4_best_81 : decode cX4_best 81 = .ok (.iload_n 1, 1) := by decide +kernel
theorem dX4_best_82 : decode cX4_best 82 = .ok (.iload 7, 2) := by decide +kernel
theorem dX4_best_84 : decode cX4_best 84 = .ok (.iastore, 1) := by decide +kernel
theorem dX4_best_85 : decode cX4_best 85 = .ok (.iload 4, 2) := by decide +kernel
theorem dX4_best_87 : decode cX4_best 87 = .ok (.ifCond .lt 28, 3) := by decide +kernel
theorem dX4_best_90 : decode cX4_best 90 = .ok (.aload_n 0, 1) := by decide +kernel
theorem dX4_best_91 : decode cX4_best 91 = .ok (.aload_n 0, 1) := by decide +kernel
theorem dX4_best_92 : decode cX4_best 92 = .ok (.getfield 33, 3) := by decide +kernel
theorem dX4_best_95 : decode cX4_best 95 = .ok (.iload 4, 2) := by decide +kernel
theorem dX4_best_97 : decode cX4_best 97 = .ok (.invokevirtual 122, 3) := by decide +kernel
theorem dX4_best_100 : decode cX4_best 100 = .ok (.aload_n 0, 1) := by decide +kernel
theorem dX4_best_101 : decode cX4_best 101 = .ok (.getfield 19, 3) := by decide +kernel
theorem dX4_best_104 : decode cX4_best 104 = .ok (.getfield 179, 3) := by decide +kernel
theorem dX4_best_107 : decode cX4_best 107 = .ok (.iload 7, 2) := by decide +kernel
theorem dX4_best_109 : decode cX4_best 109 = .ok (.iaload, 1) := by decide +kernel
theorem dX4_best_110 : decode cX4_best 110 = .ok (.imul, 1) := by decide +kernel
theorem dX4_best_111 : decode cX4_best 111 = .ok (.iload_n 2, 1) := by decide +kernel
theorem dX4_best_112 : decode cX4_best 112 = .ok (.if_icmp .lt 7, 3) := by decide +kernel
theorem dX4_best_115 : decode cX4_best 115 = .ok (.iconst 1, 1) := by decide +kernel
theorem dX4_best_116 : decode cX4_best 116 = .ok (.goto 4, 3) := by decide +kernel
theorem dX4_best_119 : decode cX4_best 119 = .ok (.iconst 0, 1) := by decide +kernel
theorem dX4_best_120 : decode cX4_best 120 = .ok (.istore 8, 2) := by decide +kernel
theorem dX4_best_122 : decode cX4_best 122 = .ok (.aload_n 0, 1) := by decide +kernel
theorem dX4_best_123 : decode cX4_best 123 = .ok (.aload_n 0, 1) := by decide +kernel
theorem dX4_best_124 : decode cX4_best 124 = .ok (.getfield 33, 3) := by decide +kernel
theorem dX4_best_127 : decode cX4_best 127 = .ok (.iload_n 1, 1) := by decide +kernel
theorem dX4_best_128 : decode cX4_best 128 = .ok (.invokevirtual 129, 3) := by decide +kernel
theorem dX4_best_131 : decode cX4_best 131 = .ok (.istore 9, 2) := by decide +kernel
theorem dX4_best_133 : decode cX4_best 133 = .ok (.iload 8, 2) := by decide +kernel
theorem dX4_best_135 : decode cX4_best 135 = .ok (.ifCond .eq 25, 3) := by decide +kernel
theorem dX4_best_138 : decode cX4_best 138 = .ok (.iload 5, 2) := by decide +kernel
theorem dX4_best_140 : decode cX4_best 140 = .ok (.bipush (-9), 2) := by decide +kernel
theorem dX4_best_142 : decode cX4_best 142 = .ok (.if_icmp .eq 10, 3) := by decide +kernel
theorem dX4_best_145 : decode cX4_best 145 = .ok (.iload 9, 2) := by decide +kernel
theorem dX4_best_147 : decode cX4_best 147 = .ok (.iload 6, 2) := by decide +kernel
theorem dX4_best_149 : decode cX4_best 149 = .ok (.if_icmp .le 11, 3) := by decide +kernel
theorem dX4_best_152 : decode cX4_best 152 = .ok (.iload 7, 2) := by decide +kernel
theorem dX4_best_154 : decode cX4_best 154 = .ok (.istore 5, 2) := by decide +kernel
theorem dX4_best_156 : decode cX4_best 156 = .ok (.iload 9, 2) := by decide +kernel
theorem dX4_best_158 : decode cX4_best 158 = .ok (.istore 6, 2) := by decide +kernel
theorem dX4_best_160 : decode cX4_best 160 = .ok (.iinc 7 1, 3) := by decide +kernel
theorem dX4_best_163 : decode cX4_best 163 = .ok (.goto (-101), 3) := by decide +kernel
theorem dX4_best_166 : decode cX4_best 166 = .ok (.iload_n 3, 1) := by decide +kernel
theorem dX4_best_167 : decode cX4_best 167 = .ok (.ifCond .ne 8, 3) := by decide +kernel
theorem dX4_best_170 : decode cX4_best 170 = .ok (.iload 5, 2) := by decide +kernel
theorem dX4_best_172 : decode cX4_best 172 = .ok (.goto 5, 3) := by decide +kernel
theorem dX4_best_175 : decode cX4_best 175 = .ok (.iload 6, 2) := by decide +kernel
theorem dX4_best_177 : decode cX4_best 177 = .ok (.ireturn, 1) := by decide +kernel
theorem dX4_rest_0 : decode cX4_rest 0 = .ok (.aload_n 0, 1) := by decide +kernel
theorem dX4_rest_1 : decode cX4_rest 1 = .ok (.iload_n 1, 1) := by decide +kernel
theorem dX4_rest_2 : decode cX4_rest 2 = .ok (.invokevirtual 85, 3) := by decide +kernel
theorem dX4_rest_5 : decode cX4_rest 5 = .ok (.ifCond .eq 11, 3) := by decide +kernel
theorem dX4_rest_8 : decode cX4_rest 8 = .ok (.iload_n 2, 1) := by decide +kernel
theorem dX4_rest_9 : decode cX4_rest 9 = .ok (.iconst 2, 1) := by decide +kernel
theorem dX4_rest_10 : decode cX4_rest 10 = .ok (.invokestatic 155, 3) := by decide +kernel
theorem dX4_rest_13 : decode cX4_rest 13 = .ok (.ifCond .ne 5, 3) := by decide +kernel
theorem dX4_rest_16 : decode cX4_rest 16 = .ok (.iconst (-1), 1) := by decide +kernel
theorem dX4_rest_17 : decode cX4_rest 17 = .ok (.ireturn, 1) := by decide +kernel
theorem dX4_rest_18 : decode cX4_rest 18 = .ok (.aload_n 0, 1) := by decide +kernel
theorem dX4_rest_19 : decode cX4_rest 19 = .ok (.getfield 29, 3) := by decide +kernel
theorem dX4_rest_22 : decode cX4_rest 22 = .ok (.getfield 101, 3) := by decide +kernel
theorem dX4_rest_25 : decode cX4_rest 25 = .ok (.iload_n 1, 1) := by decide +kernel
theorem dX4_rest_26 : decode cX4_rest 26 = .ok (.iaload, 1) := by decide +kernel
theorem dX4_rest_27 : decode cX4_rest 27 = .ok (.istore_n 3, 1) := by decide +kernel
theorem dX4_rest_28 : decode cX4_rest 28 = .ok (.iload_n 3, 1) := by decide +kernel
theorem dX4_rest_29 : decode cX4_rest 29 = .ok (.ifCond .ge 6, 3) := by decide +kernel
theorem dX4_rest_32 : decode cX4_rest 32 = .ok (.bipush (-2), 2) := by decide +kernel
theorem dX4_rest_34 : decode cX4_rest 34 = .ok (.ireturn, 1) := by decide +kernel
theorem dX4_rest_35 : decode cX4_rest 35 = .ok (.iconst 0, 1) := by decide +kernel
theorem dX4_rest_36 : decode cX4_rest 36 = .ok (.istore 4, 2) := by decide +kernel
theorem dX4_rest_38 : decode cX4_rest 38 = .ok (.bipush (-9), 2) := by decide +kernel
theorem dX4_rest_40 : decode cX4_rest 40 = .ok (.istore 5, 2) := by decide +kernel
theorem dX4_rest_42 : decode cX4_rest 42 = .ok (.aload_n 0, 1) := by decide +kernel
theorem dX4_rest_43 : decode cX4_rest 43 = .ok (.getfield 33, 3) := by decide +kernel
theorem dX4_rest_46 : decode cX4_rest 46 = .ok (.aload_n 0, 1) := by decide +kernel
theorem dX4_rest_47 : decode cX4_rest 47 = .ok (.getfield 29, 3) := by decide +kernel
theorem dX4_rest_50 : decode cX4_rest 50 = .ok (.invokevirtual 173, 3) := by decide +kernel
theorem dX4_rest_53 : decode cX4_rest 53 = .ok (.iconst 0, 1) := by decide +kernel
theorem dX4_rest_54 : decode cX4_rest 54 = .ok (.istore 6, 2) := by decide +kernel
theorem dX4_rest_56 : decode cX4_rest 56 = .ok (.iload 6, 2) := by decide +kernel
theorem dX4_rest_58 : decode cX4_rest 58 = .ok (.aload_n 0, 1) := by decide +kernel
theorem dX4_rest_59 : decode cX4_rest 59 = .ok (.getfield 19, 3) := by decide +kernel
theorem dX4_rest_62 : decode cX4_rest 62 = .ok (.getfield 176, 3) := by decide +kernel
theorem dX4_rest_65 : decode cX4_rest 65 = .ok (.if_icmp .ge 91, 3) := by decide +kernel
theorem dX4_rest_68 : decode cX4_rest 68 = .ok (.iconst 0, 1) := by decide +kernel
theorem dX4_rest_69 : decode cX4_rest 69 = .ok (.istore 7, 2) := by decide +kernel
theorem dX4_rest_71 : decode cX4_rest 71 = .ok (.iload 7, 2) := by decide +kernel
theorem dX4_rest_73 : decode cX4_rest 73 = .ok (.aload_n 0, 1) := by decide +kernel
theorem dX4_rest_74 : decode cX4_rest 74 = .ok (.getfield 19, 3) := by decide +kernel
theorem dX4_rest_77 : decode cX4_rest 77 = .ok (.getfield 176, 3) := by decide +kernel
theorem dX4_rest_80 : decode cX4_rest 80 = .ok (.if_icmp .ge 70, 3) := by decide +kernel
theorem dX4_rest_83 : decode cX4_rest 83 = .ok (.aload_n 0, 1) := by decide +kernel
theorem dX4_rest_84 : decode cX4_rest 84 = .ok (.getfield 33, 3) := by decide +kernel
theorem dX4_rest_87 : decode cX4_rest 87 = .ok (.getfield 98, 3) := by decide +kernel
theorem dX4_rest_90 : decode cX4_rest 90 = .ok (.iload_n 1, 1) := by decide +kernel
theorem dX4_rest_91 : decode cX4_rest 91 = .ok (.iload 6, 2) := by decide +kernel
theorem dX4_rest_93 : decode cX4_rest 93 = .ok (.iastore, 1) := by decide +kernel
theorem dX4_rest_94 : decode cX4_rest 94 = .ok (.aload_n 0, 1) := by decide +kernel
theorem dX4_rest_95 : decode cX4_rest 95 = .ok (.getfield 33, 3) := by decide +kernel
theorem dX4_rest_98 : decode cX4_rest 98 = .ok (.getfield 98, 3) := by decide +kernel
theorem dX4_rest_101 : decode cX4_rest 101 = .ok (.iload_n 3, 1) := by decide +kernel
theorem dX4_rest_102 : decode cX4_rest 102 = .ok (.iload 7, 2) := by decide +kernel
theorem dX4_rest_104 : decode cX4_rest 104 = .ok (.iastore, 1) := by decide +kernel
theorem dX4_rest_105 : decode cX4_rest 105 = .ok (.aload_n 0, 1) := by decide +kernel
theorem dX4_rest_106 : decode cX4_rest 106 = .ok (.iload_n 1, 1) := by decide +kernel
theorem dX4_rest_107 : decode cX4_rest 107 = .ok (.invokevirtual 182, 3) := by decide +kernel
theorem dX4_rest_110 : decode cX4_rest 110 = .ok (.ifCond .eq 34, 3) := by decide +kernel
theorem dX4_rest_113 : decode cX4_rest 113 = .ok (.aload_n 0, 1) := by decide +kernel
theorem dX4_rest_114 : decode cX4_rest 114 = .ok (.iload_n 3, 1) := by decide +kernel
theorem dX4_rest_115 : decode cX4_rest 115 = .ok (.invokevirtual 182, 3) := by decide +kernel
theorem dX4_rest_118 : decode cX4_rest 118 = .ok (.ifCond .eq 26, 3) := by decide +kernel
theorem dX4_rest_121 : decode cX4_rest 121 = .ok (.iload 4, 2) := by decide +kernel
theorem dX4_rest_123 : decode cX4_rest 123 = .ok (.ifCond .ne 14, 3) := by decide +kernel
theorem dX4_rest_126 : decode cX4_rest 126 = .ok (.bipush 10, 2) := by decide +kernel
theorem dX4_rest_128 : decode cX4_rest 128 = .ok (.iload 6, 2) := by decide +kernel
theorem dX4_rest_130 : decode cX4_rest 130 = .ok (.imul, 1) := by decide +kernel
theorem dX4_rest_131 : decode cX4_rest 131 = .ok (.iload 7, 2) := by decide +kernel
theorem dX4_rest_133 : decode cX4_rest 133 = .ok (.iadd, 1) := by decide +kernel
theorem dX4_rest_134 : decode cX4_rest 134 = .ok (.goto 5, 3) := by decide +kernel
theorem dX4_rest_137 : decode cX4_rest 137 = .ok (.iload 5, 2) := by decide +kernel
theorem dX4_rest_139 : decode cX4_rest 139 = .ok (.istore 5, 2) := by decide +kernel
theorem dX4_rest_141 : decode cX4_rest 141 = .ok (.iinc 4 1, 3) := by decide +kernel
theorem dX4_rest_144 : decode cX4_rest 144 = .ok (.iinc 7 1, 3) := by decide +kernel
theorem dX4_rest_147 : decode cX4_rest 147 = .ok (.goto (-76), 3) := by decide +kernel
theorem dX4_rest_150 : decode cX4_rest 150 = .ok (.iinc 6 1, 3) := by decide +kernel
theorem dX4_rest_153 : decode cX4_rest 153 = .ok (.goto (-97), 3) := by decide +kernel
theorem dX4_rest_156 : decode cX4_rest 156 = .ok (.iload_n 2, 1) := by decide +kernel
theorem dX4_rest_157 : decode cX4_rest 157 = .ok (.ifCond .ne 8, 3) := by decide +kernel
theorem dX4_rest_160 : decode cX4_rest 160 = .ok (.iload 4, 2) := by decide +kernel
theorem dX4_rest_162 : decode cX4_rest 162 = .ok (.goto 5, 3) := by decide +kernel
theorem dX4_rest_165 : decode cX4_rest 165 = .ok (.iload 5, 2) := by decide +kernel
theorem dX4_rest_167 : decode cX4_rest 167 = .ok (.ireturn, 1) := by decide +kernel
theorem dX4_hungry_0 : decode cX4_hungry 0 = .ok (.aload_n 0, 1) := by decide +kernel
theorem dX4_hungry_1 : decode cX4_hungry 1 = .ok (.iload_n 1, 1) := by decide +kernel
theorem dX4_hungry_2 : decode cX4_hungry 2 = .ok (.invokevirtual 85, 3) := by decide +kernel
theorem dX4_hungry_5 : decode cX4_hungry 5 = .ok (.ifCond .ne 5, 3) := by decide +kernel
theorem dX4_hungry_8 : decode cX4_hungry 8 = .ok (.iconst (-1), 1) := by decide +kernel
theorem dX4_hungry_9 : decode cX4_hungry 9 = .ok (.ireturn, 1) := by decide +kernel
theorem dX4_hungry_10 : decode cX4_hungry 10 = .ok (.aload_n 0, 1) := by decide +kernel
theorem dX4_hungry_11 : decode cX4_hungry 11 = .ok (.iload_n 1, 1) := by decide +kernel
theorem dX4_hungry_12 : decode cX4_hungry 12 = .ok (.invokevirtual 185, 3) := by decide +kernel
theorem dX4_hungry_15 : decode cX4_hungry 15 = .ok (.ifCond .eq 7, 3) := by decide +kernel
theorem dX4_hungry_18 : decode cX4_hungry 18 = .ok (.iconst 1, 1) := by decide +kernel
theorem dX4_hungry_19 : decode cX4_hungry 19 = .ok (.goto 4, 3) := by decide +kernel
theorem dX4_hungry_22 : decode cX4_hungry 22 = .ok (.iconst 0, 1) := by decide +kernel
theorem dX4_hungry_23 : decode cX4_hungry 23 = .ok (.ireturn, 1) := by decide +kernel
theorem dX4_faces_0 : decode cX4_faces 0 = .ok (.aload_n 0, 1) := by decide +kernel
theorem dX4_faces_1 : decode cX4_faces 1 = .ok (.getfield 19, 3) := by decide +kernel
theorem dX4_faces_4 : decode cX4_faces 4 = .ok (.getfield 76, 3) := by decide +kernel
theorem dX4_faces_7 : decode cX4_faces 7 = .ok (.ifCond .eq 16, 3) := by decide +kernel
theorem dX4_faces_10 : decode cX4_faces 10 = .ok (.iload_n 1, 1) := by decide +kernel
theorem dX4_faces_11 : decode cX4_faces 11 = .ok (.iconst (-1), 1) := by decide +kernel
theorem dX4_faces_12 : decode cX4_faces 12 = .ok (.if_icmp .eq 14, 3) := by decide +kernel
theorem dX4_faces_15 : decode cX4_faces 15 = .ok (.aload_n 0, 1) := by decide +kernel
theorem dX4_faces_16 : decode cX4_faces 16 = .ok (.iload_n 1, 1) := by decide +kernel
theorem dX4_faces_17 : decode cX4_faces 17 = .ok (.invokevirtual 85, 3) := by decide +kernel
theorem dX4_faces_20 : decode cX4_faces 20 = .ok (.ifCond .ne 6, 3) := by decide +kernel
theorem dX4_faces_23 : decode cX4_faces 23 = .ok (.ldc 121, 2) := by decide +kernel
theorem dX4_faces_25 : decode cX4_faces 25 = .ok (.ireturn, 1) := by decide +kernel
theorem dX4_faces_26 : decode cX4_faces 26 = .ok (.aload_n 0, 1) := by decide +kernel
theorem dX4_faces_27 : decode cX4_faces 27 = .ok (.getfield 33, 3) := by decide +kernel
theorem dX4_faces_30 : decode cX4_faces 30 = .ok (.aload_n 0, 1) := by decide +kernel
theorem dX4_faces_31 : decode cX4_faces 31 = .ok (.getfield 29, 3) := by decide +kernel
theorem dX4_faces_34 : decode cX4_faces 34 = .ok (.invokevirtual 173, 3) := by decide +kernel
theorem dX4_faces_37 : decode cX4_faces 37 = .ok (.iconst 0, 1) := by decide +kernel
theorem dX4_faces_38 : decode cX4_faces 38 = .ok (.istore_n 2, 1) := by decide +kernel
theorem dX4_faces_39 : decode cX4_faces 39 = .ok (.iload_n 2, 1) := by decide +kernel
theorem dX4_faces_40 : decode cX4_faces 40 = .ok (.aload_n 0, 1) := by decide +kernel
theorem dX4_faces_41 : decode cX4_faces 41 = .ok (.getfield 19, 3) := by decide +kernel
theorem dX4_faces_44 : decode cX4_faces 44 = .ok (.getfield 76, 3) := by decide +kernel
theorem dX4_faces_47 : decode cX4_faces 47 = .ok (.if_icmp .ge 20, 3) := by decide +kernel
theorem dX4_faces_50 : decode cX4_faces 50 = .ok (.aload_n 0, 1) := by decide +kernel
theorem dX4_faces_51 : decode cX4_faces 51 = .ok (.getfield 33, 3) := by decide +kernel
theorem dX4_faces_54 : decode cX4_faces 54 = .ok (.getfield 101, 3) := by decide +kernel
theorem dX4_faces_57 : decode cX4_faces 57 = .ok (.iload_n 2, 1) := by decide +kernel
theorem dX4_faces_58 : decode cX4_faces 58 = .ok (.bipush (-10), 2) := by decide +kernel
theorem dX4_faces_60 : decode cX4_faces 60 = .ok (.iastore, 1) := by decide +kernel
theorem dX4_faces_61 : decode cX4_faces 61 = .ok (.iinc 2 1, 3) := by decide +kernel
theorem dX4_faces_64 : decode cX4_faces 64 = .ok (.goto (-25), 3) := by decide +kernel
theorem dX4_faces_67 : decode cX4_faces 67 = .ok (.aload_n 0, 1) := by decide +kernel
theorem dX4_faces_68 : decode cX4_faces 68 = .ok (.iconst 0, 1) := by decide +kernel
theorem dX4_faces_69 : decode cX4_faces 69 = .ok (.putfield 188, 3) := by decide +kernel
theorem dX4_faces_72 : decode cX4_faces 72 = .ok (.aload_n 0, 1) := by decide +kernel
theorem dX4_faces_73 : decode cX4_faces 73 = .ok (.iconst 0, 1) := by decide +kernel
theorem dX4_faces_74 : decode cX4_faces 74 = .ok (.aload_n 0, 1) := by decide +kernel
theorem dX4_faces_75 : decode cX4_faces 75 = .ok (.getfield 19, 3) := by decide +kernel
theorem dX4_faces_78 : decode cX4_faces 78 = .ok (.getfield 76, 3) := by decide +kernel
theorem dX4_faces_81 : decode cX4_faces 81 = .ok (.iconst 2, 1) := by decide +kernel
theorem dX4_faces_82 : decode cX4_faces 82 = .ok (.irem, 1) := by decide +kernel
theorem dX4_faces_83 : decode cX4_faces 83 = .ok (.iconst 1, 1) := by decide +kernel
theorem dX4_faces_84 : decode cX4_faces 84 = .ok (.if_icmp .ne 7, 3) := by decide +kernel
theorem dX4_faces_87 : decode cX4_faces 87 = .ok (.iconst 1, 1) := by decide +kernel
theorem dX4_faces_88 : decode cX4_faces 88 = .ok (.goto 4, 3) := by decide +kernel
theorem dX4_faces_91 : decode cX4_faces 91 = .ok (.iconst 0, 1) := by decide +kernel
theorem dX4_faces_92 : decode cX4_faces 92 = .ok (.invokevirtual 192, 3) := by decide +kernel
theorem dX4_faces_95 : decode cX4_faces 95 = .ok (.iload_n 1, 1) := by decide +kernel
theorem dX4_faces_96 : decode cX4_faces 96 = .ok (.iconst (-1), 1) := by decide +kernel
theorem dX4_faces_97 : decode cX4_faces 97 = .ok (.if_icmp .ne 10, 3) := by decide +kernel
theorem dX4_faces_100 : decode cX4_faces 100 = .ok (.aload_n 0, 1) := by decide +kernel
theorem dX4_faces_101 : decode cX4_faces 101 = .ok (.getfield 196, 3) := by decide +kernel
theorem dX4_faces_104 : decode cX4_faces 104 = .ok (.goto 9, 3) := by decide +kernel
theorem dX4_faces_107 : decode cX4_faces 107 = .ok (.aload_n 0, 1) := by decide +kernel
theorem dX4_faces_108 : decode cX4_faces 108 = .ok (.getfield 58, 3) := by decide +kernel
theorem dX4_faces_111 : decode cX4_faces 111 = .ok (.iload_n 1, 1) := by decide +kernel
theorem dX4_faces_112 : decode cX4_faces 112 = .ok (.iaload, 1) := by decide +kernel
theorem dX4_faces_113 : decode cX4_faces 113 = .ok (.ireturn, 1) := by decide +kernel
theorem dX4_needed_0 : decode cX4_needed 0 = .ok (.iload_n 1, 1) := by decide +kernel
theorem dX4_needed_1 : decode cX4_needed 1 = .ok (.iconst (-1), 1) := by decide +kernel
theorem dX4_needed_2 : decode cX4_needed 2 = .ok (.if_icmp .eq 13, 3) := by decide +kernel
theorem dX4_needed_5 : decode cX4_needed 5 = .ok (.aload_n 0, 1) := by decide +kernel
theorem dX4_needed_6 : decode cX4_needed 6 = .ok (.iload_n 1, 1) := by decide +kernel
theorem dX4_needed_7 : decode cX4_needed 7 = .ok (.invokevirtual 85, 3) := by decide +kernel
theorem dX4_needed_10 : decode cX4_needed 10 = .ok (.ifCond .ne 5, 3) := by decide +kernel
theorem dX4_needed_13 : decode cX4_needed 13 = .ok (.iconst (-1), 1) := by decide +kernel
theorem dX4_needed_14 : decode cX4_needed 14 = .ok (.ireturn, 1) := by decide +kernel
theorem dX4_needed_15 : decode cX4_needed 15 = .ok (.aload_n 0, 1) := by decide +kernel
theorem dX4_needed_16 : decode cX4_needed 16 = .ok (.invokevirtual 199, 3) := by decide +kernel
theorem dX4_needed_19 : decode cX4_needed 19 = .ok (.istore_n 2, 1) := by decide +kernel
theorem dX4_needed_20 : decode cX4_needed 20 = .ok (.iload_n 2, 1) := by decide +kernel
theorem dX4_needed_21 : decode cX4_needed 21 = .ok (.bipush (-9), 2) := by decide +kernel
theorem dX4_needed_23 : decode cX4_needed 23 = .ok (.if_icmp .eq 8, 3) := by decide +kernel
theorem dX4_needed_26 : decode cX4_needed 26 = .ok (.iload_n 1, 1) := by decide +kernel
theorem dX4_needed_27 : decode cX4_needed 27 = .ok (.iconst (-1), 1) := by decide +kernel
theorem dX4_needed_28 : decode cX4_needed 28 = .ok (.if_icmp .ne 5, 3) := by decide +kernel
theorem dX4_needed_31 : decode cX4_needed 31 = .ok (.iload_n 2, 1) := by decide +kernel
theorem dX4_needed_32 : decode cX4_needed 32 = .ok (.ireturn, 1) := by decide +kernel
theorem dX4_needed_33 : decode cX4_needed 33 = .ok (.aload_n 0, 1) := by decide +kernel
theorem dX4_needed_34 : decode cX4_needed 34 = .ok (.getfield 33, 3) := by decide +kernel
theorem dX4_needed_37 : decode cX4_needed 37 = .ok (.getfield 104, 3) := by decide +kernel
theorem dX4_needed_40 : decode cX4_needed 40 = .ok (.iload_n 1, 1) := by decide +kernel
theorem dX4_needed_41 : decode cX4_needed 41 = .ok (.iaload, 1) := by decide +kernel
theorem dX4_needed_42 : decode cX4_needed 42 = .ok (.ireturn, 1) := by decide +kernel
theorem dX4_stubble_0 : decode cX4_stubble 0 = .ok (.aload_n 0, 1) := by decide +kernel
theorem dX4_stubble_1 : decode cX4_stubble 1 = .ok (.iload_n 1, 1) := by decide +kernel
theorem dX4_stubble_2 : decode cX4_stubble 2 = .ok (.invokevirtual 85, 3) := by decide +kernel
theorem dX4_stubble_5 : decode cX4_stubble 5 = .ok (.ifCond .eq 14, 3) := by decide +kernel
theorem dX4_stubble_8 : decode cX4_stubble 8 = .ok (.iload_n 2, 1) := by decide +kernel
theorem dX4_stubble_9 : decode cX4_stubble 9 = .ok (.ifCond .lt 10, 3) := by decide +kernel
theorem dX4_stubble_12 : decode cX4_stubble 12 = .ok (.iload_n 2, 1) := by decide +kernel
theorem dX4_stubble_13 : decode cX4_stubble 13 = .ok (.sipush 180, 3) := by decide +kernel
theorem dX4_stubble_16 : decode cX4_stubble 16 = .ok (.if_icmp .le 5, 3) := by decide +kernel
theorem dX4_stubble_19 : decode cX4_stubble 19 = .ok (.iconst (-1), 1) := by decide +kernel
theorem dX4_stubble_20 : decode cX4_stubble 20 = .ok (.ireturn, 1) := by decide +kernel
theorem dX4_stubble_21 : decode cX4_stubble 21 = .ok (.aload_n 0, 1) := by decide +kernel
theorem dX4_stubble_22 : decode cX4_stubble 22 = .ok (.getfield 82, 3) := by decide +kernel
theorem dX4_stubble_25 : decode cX4_stubble 25 = .ok (.iconst 5, 1) := by decide +kernel
theorem dX4_stubble_26 : decode cX4_stubble 26 = .ok (.if_icmp .lt 6, 3) := by decide +kernel
theorem dX4_stubble_29 : decode cX4_stubble 29 = .ok (.bipush (-3), 2) := by decide +kernel
theorem dX4_stubble_31 : decode cX4_stubble 31 = .ok (.ireturn, 1) := by decide +kernel
theorem dX4_stubble_32 : decode cX4_stubble 32 = .ok (.aload_n 0, 1) := by decide +kernel
theorem dX4_stubble_33 : decode cX4_stubble 33 = .ok (.getfield 51, 3) := by decide +kernel
theorem dX4_stubble_36 : decode cX4_stubble 36 = .ok (.aload_n 0, 1) := by decide +kernel
theorem dX4_stubble_37 : decode cX4_stubble 37 = .ok (.getfield 82, 3) := by decide +kernel
theorem dX4_stubble_40 : decode cX4_stubble 40 = .ok (.iload_n 1, 1) := by decide +kernel
theorem dX4_stubble_41 : decode cX4_stubble 41 = .ok (.iastore, 1) := by decide +kernel
theorem dX4_stubble_42 : decode cX4_stubble 42 = .ok (.aload_n 0, 1) := by decide +kernel
theorem dX4_stubble_43 : decode cX4_stubble 43 = .ok (.getfield 55, 3) := by decide +kernel
theorem dX4_stubble_46 : decode cX4_stubble 46 = .ok (.aload_n 0, 1) := by decide +kernel
theorem dX4_stubble_47 : decode cX4_stubble 47 = .ok (.getfield 82, 3) := by decide +kernel
theorem dX4_stubble_50 : decode cX4_stubble 50 = .ok (.iload_n 2, 1) := by decide +kernel
theorem dX4_stubble_51 : decode cX4_stubble 51 = .ok (.iastore, 1) := by decide +kernel
theorem dX4_stubble_52 : decode cX4_stubble 52 = .ok (.aload_n 0, 1) := by decide +kernel
theorem dX4_stubble_53 : decode cX4_stubble 53 = .ok (.dup, 1) := by decide +kernel
theorem dX4_stubble_54 : decode cX4_stubble 54 = .ok (.getfield 82, 3) := by decide +kernel
theorem dX4_stubble_57 : decode cX4_stubble 57 = .ok (.iconst 1, 1) := by decide +kernel
theorem dX4_stubble_58 : decode cX4_stubble 58 = .ok (.iadd, 1) := by decide +kernel
theorem dX4_stubble_59 : decode cX4_stubble 59 = .ok (.putfield 82, 3) := by decide +kernel
theorem dX4_stubble_62 : decode cX4_stubble 62 = .ok (.aload_n 0, 1) := by decide +kernel
theorem dX4_stubble_63 : decode cX4_stubble 63 = .ok (.getfield 82, 3) := by decide +kernel
theorem dX4_stubble_66 : decode cX4_stubble 66 = .ok (.ireturn, 1) := by decide +kernel
theorem dX4_forget_0 : decode cX4_forget 0 = .ok (.aload_n 0, 1) := by decide +kernel
theorem dX4_forget_1 : decode cX4_forget 1 = .ok (.getfield 82, 3) := by decide +kernel
theorem dX4_forget_4 : decode cX4_forget 4 = .ok (.istore_n 1, 1) := by decide +kernel
theorem dX4_forget_5 : decode cX4_forget 5 = .ok (.aload_n 0, 1) := by decide +kernel
theorem dX4_forget_6 : decode cX4_forget 6 = .ok (.iconst 0, 1) := by decide +kernel
theorem dX4_forget_7 : decode cX4_forget 7 = .ok (.putfield 82, 3) := by decide +kernel
theorem dX4_forget_10 : decode cX4_forget 10 = .ok (.iload_n 1, 1) := by decide +kernel
theorem dX4_forget_11 : decode cX4_forget 11 = .ok (.ireturn, 1) := by decide +kernel
theorem dX4_cut_0 : decode cX4_cut 0 = .ok (.aload_n 0, 1) := by decide +kernel
theorem dX4_cut_1 : decode cX4_cut 1 = .ok (.iload_n 1, 1) := by decide +kernel
theorem dX4_cut_2 : decode cX4_cut 2 = .ok (.invokevirtual 85, 3) := by decide +kernel
theorem dX4_cut_5 : decode cX4_cut 5 = .ok (.ifCond .ne 5, 3) := by decide +kernel
theorem dX4_cut_8 : decode cX4_cut 8 = .ok (.iconst (-1), 1) := by decide +kernel
theorem dX4_cut_9 : decode cX4_cut 9 = .ok (.ireturn, 1) := by decide +kernel
theorem dX4_cut_10 : decode cX4_cut 10 = .ok (.aload_n 0, 1) := by decide +kernel
theorem dX4_cut_11 : decode cX4_cut 11 = .ok (.getfield 29, 3) := by decide +kernel
theorem dX4_cut_14 : decode cX4_cut 14 = .ok (.getfield 101, 3) := by decide +kernel
theorem dX4_cut_17 : decode cX4_cut 17 = .ok (.iload_n 1, 1) := by decide +kernel
theorem dX4_cut_18 : decode cX4_cut 18 = .ok (.iaload, 1) := by decide +kernel
theorem dX4_cut_19 : decode cX4_cut 19 = .ok (.ifCond .ge 5, 3) := by decide +kernel
theorem dX4_cut_22 : decode cX4_cut 22 = .ok (.iconst 0, 1) := by decide +kernel
theorem dX4_cut_23 : decode cX4_cut 23 = .ok (.ireturn, 1) := by decide +kernel
theorem dX4_cut_24 : decode cX4_cut 24 = .ok (.iconst 0, 1) := by decide +kernel
theorem dX4_cut_25 : decode cX4_cut 25 = .ok (.istore_n 2, 1) := by decide +kernel
theorem dX4_cut_26 : decode cX4_cut 26 = .ok (.iconst 0, 1) := by decide +kernel
theorem dX4_cut_27 : decode cX4_cut 27 = .ok (.istore_n 3, 1) := by decide +kernel
theorem dX4_cut_28 : decode cX4_cut 28 = .ok (.iload_n 3, 1) := by decide +kernel
theorem dX4_cut_29 : decode cX4_cut 29 = .ok (.aload_n 0, 1) := by decide +kernel
theorem dX4_cut_30 : decode cX4_cut 30 = .ok (.getfield 19, 3) := by decide +kernel
theorem dX4_cut_33 : decode cX4_cut 33 = .ok (.getfield 176, 3) := by decide +kernel
theorem dX4_cut_36 : decode cX4_cut 36 = .ok (.if_icmp .ge 33, 3) := by decide +kernel
theorem dX4_cut_39 : decode cX4_cut 39 = .ok (.aload_n 0, 1) := by decide +kernel
theorem dX4_cut_40 : decode cX4_cut 40 = .ok (.iload_n 1, 1) := by decide +kernel
theorem dX4_cut_41 : decode cX4_cut 41 = .ok (.aload_n 0, 1) := by decide +kernel
theorem dX4_cut_42 : decode cX4_cut 42 = .ok (.aload_n 0, 1) := by decide +kernel
theorem dX4_cut_43 : decode cX4_cut 43 = .ok (.getfield 29, 3) := by decide +kernel
theorem dX4_cut_46 : decode cX4_cut 46 = .ok (.iload_n 1, 1) := by decide +kernel
theorem dX4_cut_47 : decode cX4_cut 47 = .ok (.iload_n 3, 1) := by decide +kernel
theorem dX4_cut_48 : decode cX4_cut 48 = .ok (.invokevirtual 202, 3) := by decide +kernel
theorem dX4_cut_51 : decode cX4_cut 51 = .ok (.invokevirtual 205, 3) := by decide +kernel
theorem dX4_cut_54 : decode cX4_cut 54 = .ok (.ifCond .eq 9, 3) := by decide +kernel
theorem dX4_cut_57 : decode cX4_cut 57 = .ok (.iload_n 2, 1) := by decide +kernel
theorem dX4_cut_58 : decode cX4_cut 58 = .ok (.iconst 1, 1) := by decide +kernel
theorem dX4_cut_59 : decode cX4_cut 59 = .ok (.iload_n 3, 1) := by decide +kernel
theorem dX4_cut_60 : decode cX4_cut 60 = .ok (.ishl, 1) := by decide +kernel
theorem dX4_cut_61 : decode cX4_cut 61 = .ok (.ior, 1) := by decide +kernel
theorem dX4_cut_62 : decode cX4_cut 62 = .ok (.istore_n 2, 1) := by decide +kernel
theorem dX4_cut_63 : decode cX4_cut 63 = .ok (.iinc 3 1, 3) := by decide +kernel
theorem dX4_cut_66 : decode cX4_cut 66 = .ok (.goto (-38), 3) := by decide +kernel
theorem dX4_cut_69 : decode cX4_cut 69 = .ok (.iload_n 2, 1) := by decide +kernel
theorem dX4_cut_70 : decode cX4_cut 70 = .ok (.ireturn, 1) := by decide +kernel
theorem dX4_odds_0 : decode cX4_odds 0 = .ok (.iload_n 1, 1) := by decide +kernel
theorem dX4_odds_1 : decode cX4_odds 1 = .ok (.ifCond .lt 27, 3) := by decide +kernel
theorem dX4_odds_4 : decode cX4_odds 4 = .ok (.iload_n 1, 1) := by decide +kernel
theorem dX4_odds_5 : decode cX4_odds 5 = .ok (.bipush 10, 2) := by decide +kernel
theorem dX4_odds_7 : decode cX4_odds 7 = .ok (.if_icmp .gt 21, 3) := by decide +kernel
theorem dX4_odds_10 : decode cX4_odds 10 = .ok (.iload_n 2, 1) := by decide +kernel
theorem dX4_odds_11 : decode cX4_odds 11 = .ok (.ifCond .lt 17, 3) := by decide +kernel
theorem dX4_odds_14 : decode cX4_odds 14 = .ok (.iload_n 2, 1) := by decide +kernel
theorem dX4_odds_15 : decode cX4_odds 15 = .ok (.bipush 6, 2) := by decide +kernel
theorem dX4_odds_17 : decode cX4_odds 17 = .ok (.if_icmp .gt 11, 3) := by decide +kernel
theorem dX4_odds_20 : decode cX4_odds 20 = .ok (.aload_n 0, 1) := by decide +kernel
theorem dX4_odds_21 : decode cX4_odds 21 = .ok (.iload_n 3, 1) := by decide +kernel
theorem dX4_odds_22 : decode cX4_odds 22 = .ok (.invokevirtual 85, 3) := by decide +kernel
theorem dX4_odds_25 : decode cX4_odds 25 = .ok (.ifCond .ne 5, 3) := by decide +kernel
theorem dX4_odds_28 : decode cX4_odds 28 = .ok (.iconst (-1), 1) := by decide +kernel
theorem dX4_odds_29 : decode cX4_odds 29 = .ok (.ireturn, 1) := by decide +kernel
theorem dX4_odds_30 : decode cX4_odds 30 = .ok (.iload 4, 2) := by decide +kernel
theorem dX4_odds_32 : decode cX4_odds 32 = .ok (.invokestatic 208, 3) := by decide +kernel
theorem dX4_odds_35 : decode cX4_odds 35 = .ok (.ifCond .eq 12, 3) := by decide +kernel
theorem dX4_odds_38 : decode cX4_odds 38 = .ok (.iload 5, 2) := by decide +kernel
theorem dX4_odds_40 : decode cX4_odds 40 = .ok (.iconst 2, 1) := by decide +kernel
theorem dX4_odds_41 : decode cX4_odds 41 = .ok (.invokestatic 155, 3) := by decide +kernel
theorem dX4_odds_44 : decode cX4_odds 44 = .ok (.ifCond .ne 5, 3) := by decide +kernel
theorem dX4_odds_47 : decode cX4_odds 47 = .ok (.iconst (-1), 1) := by decide +kernel
theorem dX4_odds_48 : decode cX4_odds 48 = .ok (.ireturn, 1) := by decide +kernel
theorem dX4_odds_49 : decode cX4_odds 49 = .ok (.iconst 1, 1) := by decide +kernel
theorem dX4_odds_50 : decode cX4_odds 50 = .ok (.istore 6, 2) := by decide +kernel
theorem dX4_odds_52 : decode cX4_odds 52 = .ok (.iconst 0, 1) := by decide +kernel
theorem dX4_odds_53 : decode cX4_odds 53 = .ok (.istore 7, 2) := by decide +kernel
theorem dX4_odds_55 : decode cX4_odds 55 = .ok (.iload 7, 2) := by decide +kernel
theorem dX4_odds_57 : decode cX4_odds 57 = .ok (.iload_n 2, 1) := by decide +kernel
theorem dX4_odds_58 : decode cX4_odds 58 = .ok (.if_icmp .ge 16, 3) := by decide +kernel
theorem dX4_odds_61 : decode cX4_odds 61 = .ok (.iload 6, 2) := by decide +kernel
theorem dX4_odds_63 : decode cX4_odds 63 = .ok (.bipush 10, 2) := by decide +kernel
theorem dX4_odds_65 : decode cX4_odds 65 = .ok (.imul, 1) := by decide +kernel
theorem dX4_odds_66 : decode cX4_odds 66 = .ok (.istore 6, 2) := by decide +kernel
theorem dX4_odds_68 : decode cX4_odds 68 = .ok (.iinc 7 1, 3) := by decide +kernel
theorem dX4_odds_71 : decode cX4_odds 71 = .ok (.goto (-16), 3) := by decide +kernel
theorem dX4_odds_74 : decode cX4_odds 74 = .ok (.aload_n 0, 1) := by decide +kernel
theorem dX4_odds_75 : decode cX4_odds 75 = .ok (.iload_n 1, 1) := by decide +kernel
theorem dX4_odds_76 : decode cX4_odds 76 = .ok (.iload_n 2, 1) := by decide +kernel
theorem dX4_odds_77 : decode cX4_odds 77 = .ok (.iload_n 3, 1) := by decide +kernel
theorem dX4_odds_78 : decode cX4_odds 78 = .ok (.iload 4, 2) := by decide +kernel
theorem dX4_odds_80 : decode cX4_odds 80 = .ok (.invokevirtual 211, 3) := by decide +kernel
theorem dX4_odds_83 : decode cX4_odds 83 = .ok (.iload 6, 2) := by decide +kernel
theorem dX4_odds_85 : decode cX4_odds 85 = .ok (.iload 5, 2) := by decide +kernel
theorem dX4_odds_87 : decode cX4_odds 87 = .ok (.invokestatic 215, 3) := by decide +kernel
theorem dX4_odds_90 : decode cX4_odds 90 = .ok (.ireturn, 1) := by decide +kernel
theorem dX4_rich_0 : decode cX4_rich 0 = .ok (.aload_n 0, 1) := by decide +kernel
theorem dX4_rich_1 : decode cX4_rich 1 = .ok (.iload_n 1, 1) := by decide +kernel
theorem dX4_rich_2 : decode cX4_rich 2 = .ok (.invokevirtual 85, 3) := by decide +kernel
theorem dX4_rich_5 : decode cX4_rich 5 = .ok (.ifCond .eq 10, 3) := by decide +kernel
theorem dX4_rich_8 : decode cX4_rich 8 = .ok (.iload_n 2, 1) := by decide +kernel
theorem dX4_rich_9 : decode cX4_rich 9 = .ok (.invokestatic 208, 3) := by decide +kernel
theorem dX4_rich_12 : decode cX4_rich 12 = .ok (.ifCond .ne 5, 3) := by decide +kernel
theorem dX4_rich_15 : decode cX4_rich 15 = .ok (.iconst (-1), 1) := by decide +kernel
theorem dX4_rich_16 : decode cX4_rich 16 = .ok (.ireturn, 1) := by decide +kernel
theorem dX4_rich_17 : decode cX4_rich 17 = .ok (.aload_n 0, 1) := by decide +kernel
theorem dX4_rich_18 : decode cX4_rich 18 = .ok (.aload_n 0, 1) := by decide +kernel
theorem dX4_rich_19 : decode cX4_rich 19 = .ok (.getfield 29, 3) := by decide +kernel
theorem dX4_rich_22 : decode cX4_rich 22 = .ok (.iload_n 1, 1) := by decide +kernel
theorem dX4_rich_23 : decode cX4_rich 23 = .ok (.invokevirtual 163, 3) := by decide +kernel
theorem dX4_rich_26 : decode cX4_rich 26 = .ok (.istore_n 3, 1) := by decide +kernel
theorem dX4_rich_27 : decode cX4_rich 27 = .ok (.aload_n 0, 1) := by decide +kernel
theorem dX4_rich_28 : decode cX4_rich 28 = .ok (.getfield 29, 3) := by decide +kernel
theorem dX4_rich_31 : decode cX4_rich 31 = .ok (.getfield 132, 3) := by decide +kernel
theorem dX4_rich_34 : decode cX4_rich 34 = .ok (.iload_n 1, 1) := by decide +kernel
theorem dX4_rich_35 : decode cX4_rich 35 = .ok (.iaload, 1) := by decide +kernel
theorem dX4_rich_36 : decode cX4_rich 36 = .ok (.istore 4, 2) := by decide +kernel
theorem dX4_rich_38 : decode cX4_rich 38 = .ok (.iconst 0, 1) := by decide +kernel
theorem dX4_rich_39 : decode cX4_rich 39 = .ok (.istore 5, 2) := by decide +kernel
theorem dX4_rich_41 : decode cX4_rich 41 = .ok (.iload 5, 2) := by decide +kernel
theorem dX4_rich_43 : decode cX4_rich 43 = .ok (.sipush 400, 3) := by decide +kernel
theorem dX4_rich_46 : decode cX4_rich 46 = .ok (.if_icmp .gt 26, 3) := by decide +kernel
theorem dX4_rich_49 : decode cX4_rich 49 = .ok (.iload 4, 2) := by decide +kernel
theorem dX4_rich_51 : decode cX4_rich 51 = .ok (.iload_n 2, 1) := by decide +kernel
theorem dX4_rich_52 : decode cX4_rich 52 = .ok (.if_icmp .lt 6, 3) := by decide +kernel
theorem dX4_rich_55 : decode cX4_rich 55 = .ok (.iload 5, 2) := by decide +kernel
theorem dX4_rich_57 : decode cX4_rich 57 = .ok (.ireturn, 1) := by decide +kernel
theorem dX4_rich_58 : decode cX4_rich 58 = .ok (.iload 4, 2) := by decide +kernel
theorem dX4_rich_60 : decode cX4_rich 60 = .ok (.iload_n 3, 1) := by decide +kernel
theorem dX4_rich_61 : decode cX4_rich 61 = .ok (.invokestatic 166, 3) := by decide +kernel
theorem dX4_rich_64 : decode cX4_rich 64 = .ok (.istore 4, 2) := by decide +kernel
theorem dX4_rich_66 : decode cX4_rich 66 = .ok (.iinc 5 1, 3) := by decide +kernel
theorem dX4_rich_69 : decode cX4_rich 69 = .ok (.goto (-28), 3) := by decide +kernel
theorem dX4_rich_72 : decode cX4_rich 72 = .ok (.bipush (-9), 2) := by decide +kernel
theorem dX4_rich_74 : decode cX4_rich 74 = .ok (.ireturn, 1) := by decide +kernel
theorem dX4_poor_0 : decode cX4_poor 0 = .ok (.bipush (-9), 2) := by decide +kernel
theorem dX4_poor_2 : decode cX4_poor 2 = .ok (.istore_n 1, 1) := by decide +kernel
theorem dX4_poor_3 : decode cX4_poor 3 = .ok (.iconst 0, 1) := by decide +kernel
theorem dX4_poor_4 : decode cX4_poor 4 = .ok (.istore_n 2, 1) := by decide +kernel
theorem dX4_poor_5 : decode cX4_poor 5 = .ok (.iload_n 2, 1) := by decide +kernel
theorem dX4_poor_6 : decode cX4_poor 6 = .ok (.aload_n 0, 1) := by decide +kernel
theorem dX4_poor_7 : decode cX4_poor 7 = .ok (.getfield 19, 3) := by decide +kernel
theorem dX4_poor_10 : decode cX4_poor 10 = .ok (.getfield 76, 3) := by decide +kernel
theorem dX4_poor_13 : decode cX4_poor 13 = .ok (.if_icmp .ge 34, 3) := by decide +kernel
theorem dX4_poor_16 : decode cX4_poor 16 = .ok (.aload_n 0, 1) := by decide +kernel
theorem dX4_poor_17 : decode cX4_poor 17 = .ok (.iload_n 2, 1) := by decide +kernel
theorem dX4_poor_18 : decode cX4_poor 18 = .ok (.invokevirtual 219, 3) := by decide +kernel
theorem dX4_poor_21 : decode cX4_poor 21 = .ok (.istore_n 3, 1) := by decide +kernel
theorem dX4_poor_22 : decode cX4_poor 22 = .ok (.iload_n 3, 1) := by decide +kernel
theorem dX4_poor_23 : decode cX4_poor 23 = .ok (.bipush (-9), 2) := by decide +kernel
theorem dX4_poor_25 : decode cX4_poor 25 = .ok (.if_icmp .eq 16, 3) := by decide +kernel
theorem dX4_poor_28 : decode cX4_poor 28 = .ok (.iload_n 1, 1) := by decide +kernel
theorem dX4_poor_29 : decode cX4_poor 29 = .ok (.bipush (-9), 2) := by decide +kernel
theorem dX4_poor_31 : decode cX4_poor 31 = .ok (.if_icmp .eq 8, 3) := by decide +kernel
theorem dX4_poor_34 : decode cX4_poor 34 = .ok (.iload_n 3, 1) := by decide +kernel
theorem dX4_poor_35 : decode cX4_poor 35 = .ok (.iload_n 1, 1) := by decide +kernel
theorem dX4_poor_36 : decode cX4_poor 36 = .ok (.if_icmp .ge 5, 3) := by decide +kernel
theorem dX4_poor_39 : decode cX4_poor 39 = .ok (.iload_n 3, 1) := by decide +kernel
theorem dX4_poor_40 : decode cX4_poor 40 = .ok (.istore_n 1, 1) := by decide +kernel
theorem dX4_poor_41 : decode cX4_poor 41 = .ok (.iinc 2 1, 3) := by decide +kernel
theorem dX4_poor_44 : decode cX4_poor 44 = .ok (.goto (-39), 3) := by decide +kernel
theorem dX4_poor_47 : decode cX4_poor 47 = .ok (.iload_n 1, 1) := by decide +kernel
theorem dX4_poor_48 : decode cX4_poor 48 = .ok (.ireturn, 1) := by decide +kernel
theorem dX4_share_0 : decode cX4_share 0 = .ok (.aload_n 0, 1) := by decide +kernel
theorem dX4_share_1 : decode cX4_share 1 = .ok (.iload_n 1, 1) := by decide +kernel
theorem dX4_share_2 : decode cX4_share 2 = .ok (.invokevirtual 85, 3) := by decide +kernel
theorem dX4_share_5 : decode cX4_share 5 = .ok (.ifCond .eq 11, 3) := by decide +kernel
theorem dX4_share_8 : decode cX4_share 8 = .ok (.iload_n 2, 1) := by decide +kernel
theorem dX4_share_9 : decode cX4_share 9 = .ok (.iconst 2, 1) := by decide +kernel
theorem dX4_share_10 : decode cX4_share 10 = .ok (.invokestatic 155, 3) := by decide +kernel
theorem dX4_share_13 : decode cX4_share 13 = .ok (.ifCond .ne 5, 3) := by decide +kernel
theorem dX4_share_16 : decode cX4_share 16 = .ok (.iconst (-1), 1) := by decide +kernel
theorem dX4_share_17 : decode cX4_share 17 = .ok (.ireturn, 1) := by decide +kernel
theorem dX4_share_18 : decode cX4_share 18 = .ok (.aload_n 0, 1) := by decide +kernel
theorem dX4_share_19 : decode cX4_share 19 = .ok (.aload_n 0, 1) := by decide +kernel
theorem dX4_share_20 : decode cX4_share 20 = .ok (.getfield 29, 3) := by decide +kernel
theorem dX4_share_23 : decode cX4_share 23 = .ok (.iload_n 1, 1) := by decide +kernel
theorem dX4_share_24 : decode cX4_share 24 = .ok (.invokevirtual 129, 3) := by decide +kernel
theorem dX4_share_27 : decode cX4_share 27 = .ok (.aload_n 0, 1) := by decide +kernel
theorem dX4_share_28 : decode cX4_share 28 = .ok (.invokevirtual 148, 3) := by decide +kernel
theorem dX4_share_31 : decode cX4_share 31 = .ok (.iload_n 2, 1) := by decide +kernel
theorem dX4_share_32 : decode cX4_share 32 = .ok (.invokestatic 215, 3) := by decide +kernel
theorem dX4_share_35 : decode cX4_share 35 = .ok (.ireturn, 1) := by decide +kernel
theorem dX4_rate_0 : decode cX4_rate 0 = .ok (.aload_n 0, 1) := by decide +kernel
theorem dX4_rate_1 : decode cX4_rate 1 = .ok (.iload_n 2, 1) := by decide +kernel
theorem dX4_rate_2 : decode cX4_rate 2 = .ok (.invokevirtual 85, 3) := by decide +kernel
theorem dX4_rate_5 : decode cX4_rate 5 = .ok (.ifCond .ne 6, 3) := by decide +kernel
theorem dX4_rate_8 : decode cX4_rate 8 = .ok (.ldc 121, 2) := by decide +kernel
theorem dX4_rate_10 : decode cX4_rate 10 = .ok (.ireturn, 1) := by decide +kernel
theorem dX4_rate_11 : decode cX4_rate 11 = .ok (.iload_n 1, 1) := by decide +kernel
theorem dX4_rate_12 : decode cX4_rate 12 = .ok (.tableswitch 76 0 5 #[40, 46, 52, 58, 64, 70], 40) := by decide +kernel
theorem dX4_rate_52 : decode cX4_rate 52 = .ok (.aload_n 0, 1) := by decide +kernel
theorem dX4_rate_53 : decode cX4_rate 53 = .ok (.iload_n 2, 1) := by decide +kernel
theorem dX4_rate_54 : decode cX4_rate 54 = .ok (.invokevirtual 223, 3) := by decide +kernel
theorem dX4_rate_57 : decode cX4_rate 57 = .ok (.ireturn, 1) := by decide +kernel
theorem dX4_rate_58 : decode cX4_rate 58 = .ok (.aload_n 0, 1) := by decide +kernel
theorem dX4_rate_59 : decode cX4_rate 59 = .ok (.iload_n 2, 1) := by decide +kernel
theorem dX4_rate_60 : decode cX4_rate 60 = .ok (.invokevirtual 226, 3) := by decide +kernel
theorem dX4_rate_63 : decode cX4_rate 63 = .ok (.ireturn, 1) := by decide +kernel
theorem dX4_rate_64 : decode cX4_rate 64 = .ok (.aload_n 0, 1) := by decide +kernel
theorem dX4_rate_65 : decode cX4_rate 65 = .ok (.iload_n 2, 1) := by decide +kernel
theorem dX4_rate_66 : decode cX4_rate 66 = .ok (.invokevirtual 229, 3) := by decide +kernel
theorem dX4_rate_69 : decode cX4_rate 69 = .ok (.ireturn, 1) := by decide +kernel
theorem dX4_rate_70 : decode cX4_rate 70 = .ok (.aload_n 0, 1) := by decide +kernel
theorem dX4_rate_71 : decode cX4_rate 71 = .ok (.iload_n 2, 1) := by decide +kernel
theorem dX4_rate_72 : decode cX4_rate 72 = .ok (.invokevirtual 232, 3) := by decide +kernel
theorem dX4_rate_75 : decode cX4_rate 75 = .ok (.ireturn, 1) := by decide +kernel
theorem dX4_rate_76 : decode cX4_rate 76 = .ok (.aload_n 0, 1) := by decide +kernel
theorem dX4_rate_77 : decode cX4_rate 77 = .ok (.iload_n 2, 1) := by decide +kernel
theorem dX4_rate_78 : decode cX4_rate 78 = .ok (.invokevirtual 235, 3) := by decide +kernel
theorem dX4_rate_81 : decode cX4_rate 81 = .ok (.ireturn, 1) := by decide +kernel
theorem dX4_rate_82 : decode cX4_rate 82 = .ok (.aload_n 0, 1) := by decide +kernel
theorem dX4_rate_83 : decode cX4_rate 83 = .ok (.iload_n 2, 1) := by decide +kernel
theorem dX4_rate_84 : decode cX4_rate 84 = .ok (.invokevirtual 238, 3) := by decide +kernel
theorem dX4_rate_87 : decode cX4_rate 87 = .ok (.ireturn, 1) := by decide +kernel
theorem dX4_rate_88 : decode cX4_rate 88 = .ok (.ldc 121, 2) := by decide +kernel
theorem dX4_rate_90 : decode cX4_rate 90 = .ok (.ireturn, 1) := by decide +kernel
theorem dX4_keep_0 : decode cX4_keep 0 = .ok (.iload_n 1, 1) := by decide +kernel
theorem dX4_keep_1 : decode cX4_keep 1 = .ok (.iconst 2, 1) := by decide +kernel
theorem dX4_keep_2 : decode cX4_keep 2 = .ok (.invokestatic 155, 3) := by decide +kernel
theorem dX4_keep_5 : decode cX4_keep 5 = .ok (.ifCond .ne 5, 3) := by decide +kernel
theorem dX4_keep_8 : decode cX4_keep 8 = .ok (.iconst (-1), 1) := by decide +kernel
theorem dX4_keep_9 : decode cX4_keep 9 = .ok (.ireturn, 1) := by decide +kernel
theorem dX4_keep_10 : decode cX4_keep 10 = .ok (.aload_n 0, 1) := by decide +kernel
theorem dX4_keep_11 : decode cX4_keep 11 = .ok (.getfield 43, 3) := by decide +kernel
theorem dX4_keep_14 : decode cX4_keep 14 = .ok (.iload_n 1, 1) := by decide +kernel
theorem dX4_keep_15 : decode cX4_keep 15 = .ok (.aaload, 1) := by decide +kernel
theorem dX4_keep_16 : decode cX4_keep 16 = .ok (.aload_n 0, 1) := by decide +kernel
theorem dX4_keep_17 : decode cX4_keep 17 = .ok (.getfield 29, 3) := by decide +kernel
theorem dX4_keep_20 : decode cX4_keep 20 = .ok (.invokevirtual 173, 3) := by decide +kernel
theorem dX4_keep_23 : decode cX4_keep 23 = .ok (.aload_n 0, 1) := by decide +kernel
theorem dX4_keep_24 : decode cX4_keep 24 = .ok (.getfield 47, 3) := by decide +kernel
theorem dX4_keep_27 : decode cX4_keep 27 = .ok (.iload_n 1, 1) := by decide +kernel
theorem dX4_keep_28 : decode cX4_keep 28 = .ok (.iconst 1, 1) := by decide +kernel
theorem dX4_keep_29 : decode cX4_keep 29 = .ok (.bastore, 1) := by decide +kernel
theorem dX4_keep_30 : decode cX4_keep 30 = .ok (.aload_n 0, 1) := by decide +kernel
theorem dX4_keep_31 : decode cX4_keep 31 = .ok (.getfield 29, 3) := by decide +kernel
theorem dX4_keep_34 : decode cX4_keep 34 = .ok (.getfield 135, 3) := by decide +kernel
theorem dX4_keep_37 : decode cX4_keep 37 = .ok (.ireturn, 1) := by decide +kernel
theorem dX4_back_0 : decode cX4_back 0 = .ok (.iload_n 1, 1) := by decide +kernel
theorem dX4_back_1 : decode cX4_back 1 = .ok (.iconst 2, 1) := by decide +kernel
theorem dX4_back_2 : decode cX4_back 2 = .ok (.invokestatic 155, 3) := by decide +kernel
theorem dX4_back_5 : decode cX4_back 5 = .ok (.ifCond .ne 5, 3) := by decide +kernel
theorem dX4_back_8 : decode cX4_back 8 = .ok (.iconst (-1), 1) := by decide +kernel
theorem dX4_back_9 : decode cX4_back 9 = .ok (.ireturn, 1) := by decide +kernel
theorem dX4_back_10 : decode cX4_back 10 = .ok (.aload_n 0, 1) := by decide +kernel
theorem dX4_back_11 : decode cX4_back 11 = .ok (.getfield 47, 3) := by decide +kernel
theorem dX4_back_14 : decode cX4_back 14 = .ok (.iload_n 1, 1) := by decide +kernel
theorem dX4_back_15 : decode cX4_back 15 = .ok (.baload, 1) := by decide +kernel
theorem dX4_back_16 : decode cX4_back 16 = .ok (.ifCond .ne 6, 3) := by decide +kernel
theorem dX4_back_19 : decode cX4_back 19 = .ok (.bipush (-2), 2) := by decide +kernel
theorem dX4_back_21 : decode cX4_back 21 = .ok (.ireturn, 1) := by decide +kernel
theorem dX4_back_22 : decode cX4_back 22 = .ok (.aload_n 0, 1) := by decide +kernel
theorem dX4_back_23 : decode cX4_back 23 = .ok (.getfield 29, 3) := by decide +kernel
theorem dX4_back_26 : decode cX4_back 26 = .ok (.aload_n 0, 1) := by decide +kernel
theorem dX4_back_27 : decode cX4_back 27 = .ok (.getfield 43, 3) := by decide +kernel
theorem dX4_back_30 : decode cX4_back 30 = .ok (.iload_n 1, 1) := by decide +kernel
theorem dX4_back_31 : decode cX4_back 31 = .ok (.aaload, 1) := by decide +kernel
theorem dX4_back_32 : decode cX4_back 32 = .ok (.invokevirtual 173, 3) := by decide +kernel
theorem dX4_back_35 : decode cX4_back 35 = .ok (.aload_n 0, 1) := by decide +kernel
theorem dX4_back_36 : decode cX4_back 36 = .ok (.getfield 39, 3) := by decide +kernel
theorem dX4_back_39 : decode cX4_back 39 = .ok (.iconst 0, 1) := by decide +kernel
theorem dX4_back_40 : decode cX4_back 40 = .ok (.putfield 79, 3) := by decide +kernel
theorem dX4_back_43 : decode cX4_back 43 = .ok (.aload_n 0, 1) := by decide +kernel
theorem dX4_back_44 : decode cX4_back 44 = .ok (.getfield 29, 3) := by decide +kernel
theorem dX4_back_47 : decode cX4_back 47 = .ok (.getfield 135, 3) := by decide +kernel
theorem dX4_back_50 : decode cX4_back 50 = .ok (.ireturn, 1) := by decide +kernel
theorem dX4_count_0 : decode cX4_count 0 = .ok (.iload_n 1, 1) := by decide +kernel
theorem dX4_count_1 : decode cX4_count 1 = .ok (.tableswitch 60 0 3 #[31, 39, 47, 52], 31) := by decide +kernel
theorem dX4_count_32 : decode cX4_count 32 = .ok (.aload_n 0, 1) := by decide +kernel
theorem dX4_count_33 : decode cX4_count 33 = .ok (.getfield 19, 3) := by decide +kernel
theorem dX4_count_36 : decode cX4_count 36 = .ok (.getfield 176, 3) := by decide +kernel
theorem dX4_count_39 : decode cX4_count 39 = .ok (.ireturn, 1) := by decide +kernel
theorem dX4_count_40 : decode cX4_count 40 = .ok (.aload_n 0, 1) := by decide +kernel
theorem dX4_count_41 : decode cX4_count 41 = .ok (.getfield 19, 3) := by decide +kernel
theorem dX4_count_44 : decode cX4_count 44 = .ok (.getfield 76, 3) := by decide +kernel
theorem dX4_count_47 : decode cX4_count 47 = .ok (.ireturn, 1) := by decide +kernel
theorem dX4_count_48 : decode cX4_count 48 = .ok (.aload_n 0, 1) := by decide +kernel
theorem dX4_count_49 : decode cX4_count 49 = .ok (.getfield 82, 3) := by decide +kernel
theorem dX4_count_52 : decode cX4_count 52 = .ok (.ireturn, 1) := by decide +kernel
theorem dX4_count_53 : decode cX4_count 53 = .ok (.aload_n 0, 1) := by decide +kernel
theorem dX4_count_54 : decode cX4_count 54 = .ok (.getfield 10, 3) := by decide +kernel
theorem dX4_count_57 : decode cX4_count 57 = .ok (.getfield 65, 3) := by decide +kernel
theorem dX4_count_60 : decode cX4_count 60 = .ok (.ireturn, 1) := by decide +kernel
theorem dX4_count_61 : decode cX4_count 61 = .ok (.iconst (-1), 1) := by decide +kernel
theorem dX4_count_62 : decode cX4_count 62 = .ok (.ireturn, 1) := by decide +kernel
theorem dX4_trace_0 : decode cX4_trace 0 = .ok (.aload_n 0, 1) := by decide +kernel
theorem dX4_trace_1 : decode cX4_trace 1 = .ok (.getfield 241, 3) := by decide +kernel
theorem dX4_trace_4 : decode cX4_trace 4 = .ok (.lreturn, 1) := by decide +kernel
theorem dX4_isMan_0 : decode cX4_isMan 0 = .ok (.iload_n 1, 1) := by decide +kernel
theorem dX4_isMan_1 : decode cX4_isMan 1 = .ok (.aload_n 0, 1) := by decide +kernel
theorem dX4_isMan_2 : decode cX4_isMan 2 = .ok (.getfield 19, 3) := by decide +kernel
theorem dX4_isMan_5 : decode cX4_isMan 5 = .ok (.getfield 76, 3) := by decide +kernel
theorem dX4_isMan_8 : decode cX4_isMan 8 = .ok (.invokestatic 155, 3) := by decide +kernel
theorem dX4_isMan_11 : decode cX4_isMan 11 = .ok (.ireturn, 1) := by decide +kernel
theorem dX4_isCrop_0 : decode cX4_isCrop 0 = .ok (.iload_n 1, 1) := by decide +kernel
theorem dX4_isCrop_1 : decode cX4_isCrop 1 = .ok (.aload_n 0, 1) := by decide +kernel
theorem dX4_isCrop_2 : decode cX4_isCrop 2 = .ok (.getfield 19, 3) := by decide +kernel
theorem dX4_isCrop_5 : decode cX4_isCrop 5 = .ok (.getfield 176, 3) := by decide +kernel
theorem dX4_isCrop_8 : decode cX4_isCrop 8 = .ok (.invokestatic 155, 3) := by decide +kernel
theorem dX4_isCrop_11 : decode cX4_isCrop 11 = .ok (.ireturn, 1) := by decide +kernel
theorem dX4_isBelow_0 : decode cX4_isBelow 0 = .ok (.iload_n 0, 1) := by decide +kernel
theorem dX4_isBelow_1 : decode cX4_isBelow 1 = .ok (.ifCond .lt 12, 3) := by decide +kernel
theorem dX4_isBelow_4 : decode cX4_isBelow 4 = .ok (.iload_n 0, 1) := by decide +kernel
theorem dX4_isBelow_5 : decode cX4_isBelow 5 = .ok (.iload_n 1, 1) := by decide +kernel
theorem dX4_isBelow_6 : decode cX4_isBelow 6 = .ok (.if_icmp .ge 7, 3) := by decide +kernel
theorem dX4_isBelow_9 : decode cX4_isBelow 9 = .ok (.iconst 1, 1) := by decide +kernel
theorem dX4_isBelow_10 : decode cX4_isBelow 10 = .ok (.goto 4, 3) := by decide +kernel
theorem dX4_isBelow_13 : decode cX4_isBelow 13 = .ok (.iconst 0, 1) := by decide +kernel
theorem dX4_isBelow_14 : decode cX4_isBelow 14 = .ok (.ireturn, 1) := by decide +kernel
theorem dX4_isStorable_0 : decode cX4_isStorable 0 = .ok (.iload_n 0, 1) := by decide +kernel
theorem dX4_isStorable_1 : decode cX4_isStorable 1 = .ok (.sipush (-9999), 3) := by decide +kernel
theorem dX4_isStorable_4 : decode cX4_isStorable 4 = .ok (.if_icmp .lt 14, 3) := by decide +kernel
theorem dX4_isStorable_7 : decode cX4_isStorable 7 = .ok (.iload_n 0, 1) := by decide +kernel
theorem dX4_isStorable_8 : decode cX4_isStorable 8 = .ok (.sipush 9999, 3) := by decide +kernel
theorem dX4_isStorable_11 : decode cX4_isStorable 11 = .ok (.if_icmp .gt 7, 3) := by decide +kernel
theorem dX4_isStorable_14 : decode cX4_isStorable 14 = .ok (.iconst 1, 1) := by decide +kernel
theorem dX4_isStorable_15 : decode cX4_isStorable 15 = .ok (.goto 4, 3) := by decide +kernel
theorem dX4_isStorable_18 : decode cX4_isStorable 18 = .ok (.iconst 0, 1) := by decide +kernel
theorem dX4_isStorable_19 : decode cX4_isStorable 19 = .ok (.ireturn, 1) := by decide +kernel
theorem dX4_carriedBy_0 : decode cX4_carriedBy 0 = .ok (.aload_n 0, 1) := by decide +kernel
theorem dX4_carriedBy_1 : decode cX4_carriedBy 1 = .ok (.getfield 19, 3) := by decide +kernel
theorem dX4_carriedBy_4 : decode cX4_carriedBy 4 = .ok (.getfield 245, 3) := by decide +kernel
theorem dX4_carriedBy_7 : decode cX4_carriedBy 7 = .ok (.iload_n 3, 1) := by decide +kernel
theorem dX4_carriedBy_8 : decode cX4_carriedBy 8 = .ok (.iaload, 1) := by decide +kernel
theorem dX4_carriedBy_9 : decode cX4_carriedBy 9 = .ok (.aload_n 1, 1) := by decide +kernel
theorem dX4_carriedBy_10 : decode cX4_carriedBy 10 = .ok (.getfield 138, 3) := by decide +kernel
theorem dX4_carriedBy_13 : decode cX4_carriedBy 13 = .ok (.iadd, 1) := by decide +kernel
theorem dX4_carriedBy_14 : decode cX4_carriedBy 14 = .ok (.istore 4, 2) := by decide +kernel
theorem dX4_carriedBy_16 : decode cX4_carriedBy 16 = .ok (.iload 4, 2) := by decide +kernel
theorem dX4_carriedBy_18 : decode cX4_carriedBy 18 = .ok (.iconst 1, 1) := by decide +kernel
theorem dX4_carriedBy_19 : decode cX4_carriedBy 19 = .ok (.if_icmp .ge 5, 3) := by decide +kernel
theorem dX4_carriedBy_22 : decode cX4_carriedBy 22 = .ok (.iconst 0, 1) := by decide +kernel
theorem dX4_carriedBy_23 : decode cX4_carriedBy 23 = .ok (.ireturn, 1) := by decide +kernel
theorem dX4_carriedBy_24 : decode cX4_carriedBy 24 = .ok (.aload_n 1, 1) := by decide +kernel
theorem dX4_carriedBy_25 : decode cX4_carriedBy 25 = .ok (.getfield 107, 3) := by decide +kernel
theorem dX4_carriedBy_28 : decode cX4_carriedBy 28 = .ok (.iload_n 2, 1) := by decide +kernel
theorem dX4_carriedBy_29 : decode cX4_carriedBy 29 = .ok (.iaload, 1) := by decide +kernel
theorem dX4_carriedBy_30 : decode cX4_carriedBy 30 = .ok (.iconst 1, 1) := by decide +kernel
theorem dX4_carriedBy_31 : decode cX4_carriedBy 31 = .ok (.if_icmp .ne 17, 3) := by decide +kernel
theorem dX4_carriedBy_34 : decode cX4_carriedBy 34 = .ok (.iconst 2, 1) := by decide +kernel
theorem dX4_carriedBy_35 : decode cX4_carriedBy 35 = .ok (.aload_n 0, 1) := by decide +kernel
theorem dX4_carriedBy_36 : decode cX4_carriedBy 36 = .ok (.getfield 19, 3) := by decide +kernel
theorem dX4_carriedBy_39 : decode cX4_carriedBy 39 = .ok (.getfield 92, 3) := by decide +kernel
theorem dX4_carriedBy_42 : decode cX4_carriedBy 42 = .ok (.iload_n 2, 1) := by decide +kernel
theorem dX4_carriedBy_43 : decode cX4_carriedBy 43 = .ok (.iaload, 1) := by decide +kernel
theorem dX4_carriedBy_44 : decode cX4_carriedBy 44 = .ok (.imul, 1) := by decide +kernel
theorem dX4_carriedBy_45 : decode cX4_carriedBy 45 = .ok (.goto 12, 3) := by decide +kernel
theorem dX4_carriedBy_48 : decode cX4_carriedBy 48 = .ok (.aload_n 0, 1) := by decide +kernel
theorem dX4_carriedBy_49 : decode cX4_carriedBy 49 = .ok (.getfield 19, 3) := by decide +kernel
theorem dX4_carriedBy_52 : decode cX4_carriedBy 52 = .ok (.getfield 92, 3) := by decide +kernel
theorem dX4_carriedBy_55 : decode cX4_carriedBy 55 = .ok (.iload_n 2, 1) := by decide +kernel
theorem dX4_carriedBy_56 : decode cX4_carriedBy 56 = .ok (.iaload, 1) := by decide +kernel
theorem dX4_carriedBy_57 : decode cX4_carriedBy 57 = .ok (.istore 5, 2) := by decide +kernel
theorem dX4_carriedBy_59 : decode cX4_carriedBy 59 = .ok (.aload_n 0, 1) := by decide +kernel
theorem dX4_carriedBy_60 : decode cX4_carriedBy 60 = .ok (.getfield 19, 3) := by decide +kernel
theorem dX4_carriedBy_63 : decode cX4_carriedBy 63 = .ok (.getfield 89, 3) := by decide +kernel
theorem dX4_carriedBy_66 : decode cX4_carriedBy 66 = .ok (.iload_n 2, 1) := by decide +kernel
theorem dX4_carriedBy_67 : decode cX4_carriedBy 67 = .ok (.iaload, 1) := by decide +kernel
theorem dX4_carriedBy_68 : decode cX4_carriedBy 68 = .ok (.iconst 3, 1) := by decide +kernel
theorem dX4_carriedBy_69 : decode cX4_carriedBy 69 = .ok (.aload_n 1, 1) := by decide +kernel
theorem dX4_carriedBy_70 : decode cX4_carriedBy 70 = .ok (.getfield 104, 3) := by decide +kernel
theorem dX4_carriedBy_73 : decode cX4_carriedBy 73 = .ok (.iload_n 2, 1) := by decide +kernel
theorem dX4_carriedBy_74 : decode cX4_carriedBy 74 = .ok (.iaload, 1) := by decide +kernel
theorem dX4_carriedBy_75 : decode cX4_carriedBy 75 = .ok (.imul, 1) := by decide +kernel
theorem dX4_carriedBy_76 : decode cX4_carriedBy 76 = .ok (.iadd, 1) := by decide +kernel
theorem dX4_carriedBy_77 : decode cX4_carriedBy 77 = .ok (.istore 6, 2) := by decide +kernel
theorem dX4_carriedBy_79 : decode cX4_carriedBy 79 = .ok (.iload 5, 2) := by decide +kernel
theorem dX4_carriedBy_81 : decode cX4_carriedBy 81 = .ok (.iload 6, 2) := by decide +kernel
theorem dX4_carriedBy_83 : decode cX4_carriedBy 83 = .ok (.iload 4, 2) := by decide +kernel
theorem dX4_carriedBy_85 : decode cX4_carriedBy 85 = .ok (.idiv, 1) := by decide +kernel
theorem dX4_carriedBy_86 : decode cX4_carriedBy 86 = .ok (.imul, 1) := by decide +kernel
theorem dX4_carriedBy_87 : decode cX4_carriedBy 87 = .ok (.ireturn, 1) := by decide +kernel
theorem dX4_takenIf_0 : decode cX4_takenIf 0 = .ok (.aload_n 1, 1) := by decide +kernel
theorem dX4_takenIf_1 : decode cX4_takenIf 1 = .ok (.getfield 101, 3) := by decide +kernel
theorem dX4_takenIf_4 : decode cX4_takenIf 4 = .ok (.iload_n 2, 1) := by decide +kernel
theorem dX4_takenIf_5 : decode cX4_takenIf 5 = .ok (.iaload, 1) := by decide +kernel
theorem dX4_takenIf_6 : decode cX4_takenIf 6 = .ok (.istore 4, 2) := by decide +kernel
theorem dX4_takenIf_8 : decode cX4_takenIf 8 = .ok (.iload 4, 2) := by decide +kernel
theorem dX4_takenIf_10 : decode cX4_takenIf 10 = .ok (.ifCond .ge 5, 3) := by decide +kernel
theorem dX4_takenIf_13 : decode cX4_takenIf 13 = .ok (.iconst 0, 1) := by decide +kernel
theorem dX4_takenIf_14 : decode cX4_takenIf 14 = .ok (.ireturn, 1) := by decide +kernel
theorem dX4_takenIf_15 : decode cX4_takenIf 15 = .ok (.aload_n 0, 1) := by decide +kernel
theorem dX4_takenIf_16 : decode cX4_takenIf 16 = .ok (.aload_n 1, 1) := by decide +kernel
theorem dX4_takenIf_17 : decode cX4_takenIf 17 = .ok (.iload_n 2, 1) := by decide +kernel
theorem dX4_takenIf_18 : decode cX4_takenIf 18 = .ok (.iload_n 3, 1) := by decide +kernel
theorem dX4_takenIf_19 : decode cX4_takenIf 19 = .ok (.invokevirtual 117, 3) := by decide +kernel
theorem dX4_takenIf_22 : decode cX4_takenIf 22 = .ok (.aload_n 0, 1) := by decide +kernel
theorem dX4_takenIf_23 : decode cX4_takenIf 23 = .ok (.getfield 19, 3) := by decide +kernel
theorem dX4_takenIf_26 : decode cX4_takenIf 26 = .ok (.getfield 113, 3) := by decide +kernel
theorem dX4_takenIf_29 : decode cX4_takenIf 29 = .ok (.iload 4, 2) := by decide +kernel
theorem dX4_takenIf_31 : decode cX4_takenIf 31 = .ok (.aaload, 1) := by decide +kernel
theorem dX4_takenIf_32 : decode cX4_takenIf 32 = .ok (.iload_n 3, 1) := by decide +kernel
theorem dX4_takenIf_33 : decode cX4_takenIf 33 = .ok (.iaload, 1) := by decide +kernel
theorem dX4_takenIf_34 : decode cX4_takenIf 34 = .ok (.invokestatic 248, 3) := by decide +kernel
theorem dX4_takenIf_37 : decode cX4_takenIf 37 = .ok (.ireturn, 1) := by decide +kernel
theorem dX4_takenBy_0 : decode cX4_takenBy 0 = .ok (.aload_n 1, 1) := by decide +kernel
theorem dX4_takenBy_1 : decode cX4_takenBy 1 = .ok (.getfield 101, 3) := by decide +kernel
theorem dX4_takenBy_4 : decode cX4_takenBy 4 = .ok (.iload_n 2, 1) := by decide +kernel
theorem dX4_takenBy_5 : decode cX4_takenBy 5 = .ok (.iaload, 1) := by decide +kernel
theorem dX4_takenBy_6 : decode cX4_takenBy 6 = .ok (.istore_n 3, 1) := by decide +kernel
theorem dX4_takenBy_7 : decode cX4_takenBy 7 = .ok (.iload_n 3, 1) := by decide +kernel
theorem dX4_takenBy_8 : decode cX4_takenBy 8 = .ok (.ifCond .ge 7, 3) := by decide +kernel
theorem dX4_takenBy_11 : decode cX4_takenBy 11 = .ok (.iconst 0, 1) := by decide +kernel
theorem dX4_takenBy_12 : decode cX4_takenBy 12 = .ok (.goto 15, 3) := by decide +kernel
theorem dX4_takenBy_15 : decode cX4_takenBy 15 = .ok (.aload_n 0, 1) := by decide +kernel
theorem dX4_takenBy_16 : decode cX4_takenBy 16 = .ok (.aload_n 1, 1) := by decide +kernel
theorem dX4_takenBy_17 : decode cX4_takenBy 17 = .ok (.iload_n 2, 1) := by decide +kernel
theorem dX4_takenBy_18 : decode cX4_takenBy 18 = .ok (.aload_n 1, 1) := by decide +kernel
theorem dX4_takenBy_19 : decode cX4_takenBy 19 = .ok (.getfield 98, 3) := by decide +kernel
theorem dX4_takenBy_22 : decode cX4_takenBy 22 = .ok (.iload_n 3, 1) := by decide +kernel
theorem dX4_takenBy_23 : decode cX4_takenBy 23 = .ok (.iaload, 1) := by decide +kernel
theorem dX4_takenBy_24 : decode cX4_takenBy 24 = .ok (.invokevirtual 202, 3) := by decide +kernel
theorem dX4_takenBy_27 : decode cX4_takenBy 27 = .ok (.ireturn, 1) := by decide +kernel
theorem dX4_keptBy_0 : decode cX4_keptBy 0 = .ok (.aload_n 1, 1) := by decide +kernel
theorem dX4_keptBy_1 : decode cX4_keptBy 1 = .ok (.getfield 101, 3) := by decide +kernel
theorem dX4_keptBy_4 : decode cX4_keptBy 4 = .ok (.iload_n 2, 1) := by decide +kernel
theorem dX4_keptBy_5 : decode cX4_keptBy 5 = .ok (.iaload, 1) := by decide +kernel
theorem dX4_keptBy_6 : decode cX4_keptBy 6 = .ok (.istore_n 3, 1) := by decide +kernel
theorem dX4_keptBy_7 : decode cX4_keptBy 7 = .ok (.aload_n 0, 1) := by decide +kernel
theorem dX4_keptBy_8 : decode cX4_keptBy 8 = .ok (.getfield 19, 3) := by decide +kernel
theorem dX4_keptBy_11 : decode cX4_keptBy 11 = .ok (.getfield 113, 3) := by decide +kernel
theorem dX4_keptBy_14 : decode cX4_keptBy 14 = .ok (.iload_n 2, 1) := by decide +kernel
theorem dX4_keptBy_15 : decode cX4_keptBy 15 = .ok (.aaload, 1) := by decide +kernel
theorem dX4_keptBy_16 : decode cX4_keptBy 16 = .ok (.aload_n 1, 1) := by decide +kernel
theorem dX4_keptBy_17 : decode cX4_keptBy 17 = .ok (.getfield 98, 3) := by decide +kernel
theorem dX4_keptBy_20 : decode cX4_keptBy 20 = .ok (.iload_n 2, 1) := by decide +kernel
theorem dX4_keptBy_21 : decode cX4_keptBy 21 = .ok (.iaload, 1) := by decide +kernel
theorem dX4_keptBy_22 : decode cX4_keptBy 22 = .ok (.iaload, 1) := by decide +kernel
theorem dX4_keptBy_23 : decode cX4_keptBy 23 = .ok (.istore 4, 2) := by decide +kernel
theorem dX4_keptBy_25 : decode cX4_keptBy 25 = .ok (.iload_n 3, 1) := by decide +kernel
theorem dX4_keptBy_26 : decode cX4_keptBy 26 = .ok (.ifCond .ge 8, 3) := by decide +kernel
theorem dX4_keptBy_29 : decode cX4_keptBy 29 = .ok (.iload 4, 2) := by decide +kernel
theorem dX4_keptBy_31 : decode cX4_keptBy 31 = .ok (.goto 18, 3) := by decide +kernel
theorem dX4_keptBy_34 : decode cX4_keptBy 34 = .ok (.iload 4, 2) := by decide +kernel
theorem dX4_keptBy_36 : decode cX4_keptBy 36 = .ok (.aload_n 0, 1) := by decide +kernel
theorem dX4_keptBy_37 : decode cX4_keptBy 37 = .ok (.aload_n 1, 1) := by decide +kernel
theorem dX4_keptBy_38 : decode cX4_keptBy 38 = .ok (.iload_n 3, 1) := by decide +kernel
theorem dX4_keptBy_39 : decode cX4_keptBy 39 = .ok (.aload_n 1, 1) := by decide +kernel
theorem dX4_keptBy_40 : decode cX4_keptBy 40 = .ok (.getfield 98, 3) := by decide +kernel
theorem dX4_keptBy_43 : decode cX4_keptBy 43 = .ok (.iload_n 2, 1) := by decide +kernel
theorem dX4_keptBy_44 : decode cX4_keptBy 44 = .ok (.iaload, 1) := by decide +kernel
theorem dX4_keptBy_45 : decode cX4_keptBy 45 = .ok (.invokevirtual 202, 3) := by decide +kernel
theorem dX4_keptBy_48 : decode cX4_keptBy 48 = .ok (.isub, 1) := by decide +kernel
theorem dX4_keptBy_49 : decode cX4_keptBy 49 = .ok (.ireturn, 1) := by decide +kernel
theorem dX4_wealthOf_0 : decode cX4_wealthOf 0 = .ok (.aload_n 1, 1) := by decide +kernel
theorem dX4_wealthOf_1 : decode cX4_wealthOf 1 = .ok (.getfield 101, 3) := by decide +kernel
theorem dX4_wealthOf_4 : decode cX4_wealthOf 4 = .ok (.iload_n 2, 1) := by decide +kernel
theorem dX4_wealthOf_5 : decode cX4_wealthOf 5 = .ok (.iaload, 1) := by decide +kernel
theorem dX4_wealthOf_6 : decode cX4_wealthOf 6 = .ok (.istore_n 3, 1) := by decide +kernel
theorem dX4_wealthOf_7 : decode cX4_wealthOf 7 = .ok (.aload_n 1, 1) := by decide +kernel
theorem dX4_wealthOf_8 : decode cX4_wealthOf 8 = .ok (.getfield 98, 3) := by decide +kernel
theorem dX4_wealthOf_11 : decode cX4_wealthOf 11 = .ok (.iload_n 2, 1) := by decide +kernel
theorem dX4_wealthOf_12 : decode cX4_wealthOf 12 = .ok (.iaload, 1) := by decide +kernel
theorem dX4_wealthOf_13 : decode cX4_wealthOf 13 = .ok (.istore 4, 2) := by decide +kernel
theorem dX4_wealthOf_15 : decode cX4_wealthOf 15 = .ok (.iload_n 3, 1) := by decide +kernel
theorem dX4_wealthOf_16 : decode cX4_wealthOf 16 = .ok (.ifCond .ge 27, 3) := by decide +kernel
theorem dX4_wealthOf_19 : decode cX4_wealthOf 19 = .ok (.aload_n 0, 1) := by decide +kernel
theorem dX4_wealthOf_20 : decode cX4_wealthOf 20 = .ok (.getfield 19, 3) := by decide +kernel
theorem dX4_wealthOf_23 : decode cX4_wealthOf 23 = .ok (.getfield 113, 3) := by decide +kernel
theorem dX4_wealthOf_26 : decode cX4_wealthOf 26 = .ok (.iload_n 2, 1) := by decide +kernel
theorem dX4_wealthOf_27 : decode cX4_wealthOf 27 = .ok (.aaload, 1) := by decide +kernel
theorem dX4_wealthOf_28 : decode cX4_wealthOf 28 = .ok (.iload 4, 2) := by decide +kernel
theorem dX4_wealthOf_30 : decode cX4_wealthOf 30 = .ok (.iaload, 1) := by decide +kernel
theorem dX4_wealthOf_31 : decode cX4_wealthOf 31 = .ok (.aload_n 0, 1) := by decide +kernel
theorem dX4_wealthOf_32 : decode cX4_wealthOf 32 = .ok (.getfield 19, 3) := by decide +kernel
theorem dX4_wealthOf_35 : decode cX4_wealthOf 35 = .ok (.getfield 179, 3) := by decide +kernel
theorem dX4_wealthOf_38 : decode cX4_wealthOf 38 = .ok (.iload 4, 2) := by decide +kernel
theorem dX4_wealthOf_40 : decode cX4_wealthOf 40 = .ok (.iaload, 1) := by decide +kernel
theorem dX4_wealthOf_41 : decode cX4_wealthOf 41 = .ok (.imul, 1) := by decide +kernel
theorem dX4_wealthOf_42 : decode cX4_wealthOf 42 = .ok (.ireturn, 1) := by decide +kernel
theorem dX4_wealthOf_43 : decode cX4_wealthOf 43 = .ok (.aload_n 1, 1) := by decide +kernel
theorem dX4_wealthOf_44 : decode cX4_wealthOf 44 = .ok (.getfield 98, 3) := by decide +kernel
theorem dX4_wealthOf_47 : decode cX4_wealthOf 47 = .ok (.iload_n 3, 1) := by decide +kernel
theorem dX4_wealthOf_48 : decode cX4_wealthOf 48 = .ok (.iaload, 1) := by decide +kernel
theorem dX4_wealthOf_49 : decode cX4_wealthOf 49 = .ok (.istore 5, 2) := by decide +kernel
theorem dX4_wealthOf_51 : decode cX4_wealthOf 51 = .ok (.aload_n 0, 1) := by decide +kernel
theorem dX4_wealthOf_52 : decode cX4_wealthOf 52 = .ok (.getfield 19, 3) := by decide +kernel
theorem dX4_wealthOf_55 : decode cX4_wealthOf 55 = .ok (.getfield 113, 3) := by decide +kernel
theorem dX4_wealthOf_58 : decode cX4_wealthOf 58 = .ok (.iload_n 2, 1) := by decide +kernel
theorem dX4_wealthOf_59 : decode cX4_wealthOf 59 = .ok (.aaload, 1) := by decide +kernel
theorem dX4_wealthOf_60 : decode cX4_wealthOf 60 = .ok (.iload 4, 2) := by decide +kernel
theorem dX4_wealthOf_62 : decode cX4_wealthOf 62 = .ok (.iaload, 1) := by decide +kernel
theorem dX4_wealthOf_63 : decode cX4_wealthOf 63 = .ok (.aload_n 0, 1) := by decide +kernel
theorem dX4_wealthOf_64 : decode cX4_wealthOf 64 = .ok (.aload_n 1, 1) := by decide +kernel
theorem dX4_wealthOf_65 : decode cX4_wealthOf 65 = .ok (.iload_n 3, 1) := by decide +kernel
theorem dX4_wealthOf_66 : decode cX4_wealthOf 66 = .ok (.iload 4, 2) := by decide +kernel
theorem dX4_wealthOf_68 : decode cX4_wealthOf 68 = .ok (.invokevirtual 202, 3) := by decide +kernel
theorem dX4_wealthOf_71 : decode cX4_wealthOf 71 = .ok (.isub, 1) := by decide +kernel
theorem dX4_wealthOf_72 : decode cX4_wealthOf 72 = .ok (.istore 6, 2) := by decide +kernel
theorem dX4_wealthOf_74 : decode cX4_wealthOf 74 = .ok (.iload 6, 2) := by decide +kernel
theorem dX4_wealthOf_76 : decode cX4_wealthOf 76 = .ok (.aload_n 0, 1) := by decide +kernel
theorem dX4_wealthOf_77 : decode cX4_wealthOf 77 = .ok (.getfield 19, 3) := by decide +kernel
theorem dX4_wealthOf_80 : decode cX4_wealthOf 80 = .ok (.getfield 179, 3) := by decide +kernel
theorem dX4_wealthOf_83 : decode cX4_wealthOf 83 = .ok (.iload 4, 2) := by decide +kernel
theorem dX4_wealthOf_85 : decode cX4_wealthOf 85 = .ok (.iaload, 1) := by decide +kernel
theorem dX4_wealthOf_86 : decode cX4_wealthOf 86 = .ok (.imul, 1) := by decide +kernel
theorem dX4_wealthOf_87 : decode cX4_wealthOf 87 = .ok (.aload_n 0, 1) := by decide +kernel
theorem dX4_wealthOf_88 : decode cX4_wealthOf 88 = .ok (.aload_n 1, 1) := by decide +kernel
theorem dX4_wealthOf_89 : decode cX4_wealthOf 89 = .ok (.iload_n 2, 1) := by decide +kernel
theorem dX4_wealthOf_90 : decode cX4_wealthOf 90 = .ok (.iload 5, 2) := by decide +kernel
theorem dX4_wealthOf_92 : decode cX4_wealthOf 92 = .ok (.invokevirtual 202, 3) := by decide +kernel
theorem dX4_wealthOf_95 : decode cX4_wealthOf 95 = .ok (.aload_n 0, 1) := by decide +kernel
theorem dX4_wealthOf_96 : decode cX4_wealthOf 96 = .ok (.getfield 19, 3) := by decide +kernel
theorem dX4_wealthOf_99 : decode cX4_wealthOf 99 = .ok (.getfield 179, 3) := by decide +kernel
theorem dX4_wealthOf_102 : decode cX4_wealthOf 102 = .ok (.iload 5, 2) := by decide +kernel
theorem dX4_wealthOf_104 : decode cX4_wealthOf 104 = .ok (.iaload, 1) := by decide +kernel
theorem dX4_wealthOf_105 : decode cX4_wealthOf 105 = .ok (.imul, 1) := by decide +kernel
theorem dX4_wealthOf_106 : decode cX4_wealthOf 106 = .ok (.iadd, 1) := by decide +kernel
theorem dX4_wealthOf_107 : decode cX4_wealthOf 107 = .ok (.ireturn, 1) := by decide +kernel
theorem dX4_gainOf_0 : decode cX4_gainOf 0 = .ok (.aload_n 0, 1) := by decide +kernel
theorem dX4_gainOf_1 : decode cX4_gainOf 1 = .ok (.aload_n 1, 1) := by decide +kernel
theorem dX4_gainOf_2 : decode cX4_gainOf 2 = .ok (.iload_n 2, 1) := by decide +kernel
theorem dX4_gainOf_3 : decode cX4_gainOf 3 = .ok (.invokevirtual 129, 3) := by decide +kernel
theorem dX4_gainOf_6 : decode cX4_gainOf 6 = .ok (.aload_n 0, 1) := by decide +kernel
theorem dX4_gainOf_7 : decode cX4_gainOf 7 = .ok (.getfield 19, 3) := by decide +kernel
theorem dX4_gainOf_10 : decode cX4_gainOf 10 = .ok (.getfield 95, 3) := by decide +kernel
theorem dX4_gainOf_13 : decode cX4_gainOf 13 = .ok (.iload_n 2, 1) := by decide +kernel
theorem dX4_gainOf_14 : decode cX4_gainOf 14 = .ok (.iaload, 1) := by decide +kernel
theorem dX4_gainOf_15 : decode cX4_gainOf 15 = .ok (.isub, 1) := by decide +kernel
theorem dX4_gainOf_16 : decode cX4_gainOf 16 = .ok (.ireturn, 1) := by decide +kernel
theorem dX4_wealthOfAll_0 : decode cX4_wealthOfAll 0 = .ok (.iconst 0, 1) := by decide +kernel
theorem dX4_wealthOfAll_1 : decode cX4_wealthOfAll 1 = .ok (.istore_n 1, 1) := by decide +kernel
theorem dX4_wealthOfAll_2 : decode cX4_wealthOfAll 2 = .ok (.iconst 0, 1) := by decide +kernel
theorem dX4_wealthOfAll_3 : decode cX4_wealthOfAll 3 = .ok (.istore_n 2, 1) := by decide +kernel
theorem dX4_wealthOfAll_4 : decode cX4_wealthOfAll 4 = .ok (.iload_n 2, 1) := by decide +kernel
theorem dX4_wealthOfAll_5 : decode cX4_wealthOfAll 5 = .ok (.aload_n 0, 1) := by decide +kernel
theorem dX4_wealthOfAll_6 : decode cX4_wealthOfAll 6 = .ok (.getfield 19, 3) := by decide +kernel
theorem dX4_wealthOfAll_9 : decode cX4_wealthOfAll 9 = .ok (.getfield 76, 3) := by decide +kernel
theorem dX4_wealthOfAll_12 : decode cX4_wealthOfAll 12 = .ok (.if_icmp .ge 21, 3) := by decide +kernel
theorem dX4_wealthOfAll_15 : decode cX4_wealthOfAll 15 = .ok (.iload_n 1, 1) := by decide +kernel
theorem dX4_wealthOfAll_16 : decode cX4_wealthOfAll 16 = .ok (.aload_n 0, 1) := by decide +kernel
theorem dX4_wealthOfAll_17 : decode cX4_wealthOfAll 17 = .ok (.aload_n 0, 1) := by decide +kernel
theorem dX4_wealthOfAll_18 : decode cX4_wealthOfAll 18 = .ok (.getfield 29, 3) := by decide +kernel
theorem dX4_wealthOfAll_21 : decode cX4_wealthOfAll 21 = .ok (.iload_n 2, 1) := by decide +kernel
theorem dX4_wealthOfAll_22 : decode cX4_wealthOfAll 22 = .ok (.invokevirtual 129, 3) := by decide +kernel
theorem dX4_wealthOfAll_25 : decode cX4_wealthOfAll 25 = .ok (.iadd, 1) := by decide +kernel
theorem dX4_wealthOfAll_26 : decode cX4_wealthOfAll 26 = .ok (.istore_n 1, 1) := by decide +kernel
theorem dX4_wealthOfAll_27 : decode cX4_wealthOfAll 27 = .ok (.iinc 2 1, 3) := by decide +kernel
theorem dX4_wealthOfAll_30 : decode cX4_wealthOfAll 30 = .ok (.goto (-26), 3) := by decide +kernel
theorem dX4_wealthOfAll_33 : decode cX4_wealthOfAll 33 = .ok (.iload_n 1, 1) := by decide +kernel
theorem dX4_wealthOfAll_34 : decode cX4_wealthOfAll 34 = .ok (.ireturn, 1) := by decide +kernel
theorem dX4_ropesOfAll_0 : decode cX4_ropesOfAll 0 = .ok (.iconst 0, 1) := by decide +kernel
theorem dX4_ropesOfAll_1 : decode cX4_ropesOfAll 1 = .ok (.istore_n 1, 1) := by decide +kernel
theorem dX4_ropesOfAll_2 : decode cX4_ropesOfAll 2 = .ok (.iconst 0, 1) := by decide +kernel
theorem dX4_ropesOfAll_3 : decode cX4_ropesOfAll 3 = .ok (.istore_n 2, 1) := by decide +kernel
theorem dX4_ropesOfAll_4 : decode cX4_ropesOfAll 4 = .ok (.iload_n 2, 1) := by decide +kernel
theorem dX4_ropesOfAll_5 : decode cX4_ropesOfAll 5 = .ok (.aload_n 0, 1) := by decide +kernel
theorem dX4_ropesOfAll_6 : decode cX4_ropesOfAll 6 = .ok (.getfield 19, 3) := by decide +kernel
theorem dX4_ropesOfAll_9 : decode cX4_ropesOfAll 9 = .ok (.getfield 76, 3) := by decide +kernel
theorem dX4_ropesOfAll_12 : decode cX4_ropesOfAll 12 = .ok (.if_icmp .ge 21, 3) := by decide +kernel
theorem dX4_ropesOfAll_15 : decode cX4_ropesOfAll 15 = .ok (.iload_n 1, 1) := by decide +kernel
theorem dX4_ropesOfAll_16 : decode cX4_ropesOfAll 16 = .ok (.aload_n 0, 1) := by decide +kernel
theorem dX4_ropesOfAll_17 : decode cX4_ropesOfAll 17 = .ok (.getfield 29, 3) := by decide +kernel
theorem dX4_ropesOfAll_20 : decode cX4_ropesOfAll 20 = .ok (.getfield 104, 3) := by decide +kernel
theorem dX4_ropesOfAll_23 : decode cX4_ropesOfAll 23 = .ok (.iload_n 2, 1) := by decide +kernel
theorem dX4_ropesOfAll_24 : decode cX4_ropesOfAll 24 = .ok (.iaload, 1) := by decide +kernel
theorem dX4_ropesOfAll_25 : decode cX4_ropesOfAll 25 = .ok (.iadd, 1) := by decide +kernel
theorem dX4_ropesOfAll_26 : decode cX4_ropesOfAll 26 = .ok (.istore_n 1, 1) := by decide +kernel
theorem dX4_ropesOfAll_27 : decode cX4_ropesOfAll 27 = .ok (.iinc 2 1, 3) := by decide +kernel
theorem dX4_ropesOfAll_30 : decode cX4_ropesOfAll 30 = .ok (.goto (-26), 3) := by decide +kernel
theorem dX4_ropesOfAll_33 : decode cX4_ropesOfAll 33 = .ok (.iload_n 1, 1) := by decide +kernel
theorem dX4_ropesOfAll_34 : decode cX4_ropesOfAll 34 = .ok (.ireturn, 1) := by decide +kernel
theorem dX4_exchange_0 : decode cX4_exchange 0 = .ok (.aload_n 0, 1) := by decide +kernel
theorem dX4_exchange_1 : decode cX4_exchange 1 = .ok (.getfield 29, 3) := by decide +kernel
theorem dX4_exchange_4 : decode cX4_exchange 4 = .ok (.getfield 101, 3) := by decide +kernel
theorem dX4_exchange_7 : decode cX4_exchange 7 = .ok (.iload_n 1, 1) := by decide +kernel
theorem dX4_exchange_8 : decode cX4_exchange 8 = .ok (.iaload, 1) := by decide +kernel
theorem dX4_exchange_9 : decode cX4_exchange 9 = .ok (.istore_n 3, 1) := by decide +kernel
theorem dX4_exchange_10 : decode cX4_exchange 10 = .ok (.aload_n 0, 1) := by decide +kernel
theorem dX4_exchange_11 : decode cX4_exchange 11 = .ok (.getfield 29, 3) := by decide +kernel
theorem dX4_exchange_14 : decode cX4_exchange 14 = .ok (.getfield 101, 3) := by decide +kernel
theorem dX4_exchange_17 : decode cX4_exchange 17 = .ok (.iload_n 2, 1) := by decide +kernel
theorem dX4_exchange_18 : decode cX4_exchange 18 = .ok (.iaload, 1) := by decide +kernel
theorem dX4_exchange_19 : decode cX4_exchange 19 = .ok (.istore 4, 2) := by decide +kernel
theorem dX4_exchange_21 : decode cX4_exchange 21 = .ok (.iload_n 3, 1) := by decide +kernel
theorem dX4_exchange_22 : decode cX4_exchange 22 = .ok (.iload_n 2, 1) := by decide +kernel
theorem dX4_exchange_23 : decode cX4_exchange 23 = .ok (.if_icmp .ne 4, 3) := by decide +kernel
theorem dX4_exchange_26 : decode cX4_exchange 26 = .ok (.return_, 1) := by decide +kernel
theorem dX4_exchange_27 : decode cX4_exchange 27 = .ok (.aload_n 0, 1) := by decide +kernel
theorem dX4_exchange_28 : decode cX4_exchange 28 = .ok (.getfield 29, 3) := by decide +kernel
theorem dX4_exchange_31 : decode cX4_exchange 31 = .ok (.getfield 101, 3) := by decide +kernel
theorem dX4_exchange_34 : decode cX4_exchange 34 = .ok (.iload_n 1, 1) := by decide +kernel
theorem dX4_exchange_35 : decode cX4_exchange 35 = .ok (.iload 4, 2) := by decide +kernel
theorem dX4_exchange_37 : decode cX4_exchange 37 = .ok (.iastore, 1) := by decide +kernel
theorem dX4_exchange_38 : decode cX4_exchange 38 = .ok (.aload_n 0, 1) := by decide +kernel
theorem dX4_exchange_39 : decode cX4_exchange 39 = .ok (.getfield 29, 3) := by decide +kernel
theorem dX4_exchange_42 : decode cX4_exchange 42 = .ok (.getfield 101, 3) := by decide +kernel
theorem dX4_exchange_45 : decode cX4_exchange 45 = .ok (.iload_n 2, 1) := by decide +kernel
theorem dX4_exchange_46 : decode cX4_exchange 46 = .ok (.iload_n 3, 1) := by decide +kernel
theorem dX4_exchange_47 : decode cX4_exchange 47 = .ok (.iastore, 1) := by decide +kernel
theorem dX4_exchange_48 : decode cX4_exchange 48 = .ok (.iload 4, 2) := by decide +kernel
theorem dX4_exchange_50 : decode cX4_exchange 50 = .ok (.ifCond .lt 14, 3) := by decide +kernel
theorem dX4_exchange_53 : decode cX4_exchange 53 = .ok (.aload_n 0, 1) := by decide +kernel
theorem dX4_exchange_54 : decode cX4_exchange 54 = .ok (.getfield 29, 3) := by decide +kernel
theorem dX4_exchange_57 : decode cX4_exchange 57 = .ok (.getfield 101, 3) := by decide +kernel
theorem dX4_exchange_60 : decode cX4_exchange 60 = .ok (.iload 4, 2) := by decide +kernel
theorem dX4_exchange_62 : decode cX4_exchange 62 = .ok (.iload_n 1, 1) := by decide +kernel
theorem dX4_exchange_63 : decode cX4_exchange 63 = .ok (.iastore, 1) := by decide +kernel
theorem dX4_exchange_64 : decode cX4_exchange 64 = .ok (.iload_n 3, 1) := by decide +kernel
theorem dX4_exchange_65 : decode cX4_exchange 65 = .ok (.ifCond .lt 13, 3) := by decide +kernel
theorem dX4_exchange_68 : decode cX4_exchange 68 = .ok (.aload_n 0, 1) := by decide +kernel
theorem dX4_exchange_69 : decode cX4_exchange 69 = .ok (.getfield 29, 3) := by decide +kernel
theorem dX4_exchange_72 : decode cX4_exchange 72 = .ok (.getfield 101, 3) := by decide +kernel
theorem dX4_exchange_75 : decode cX4_exchange 75 = .ok (.iload_n 3, 1) := by decide +kernel
theorem dX4_exchange_76 : decode cX4_exchange 76 = .ok (.iload_n 2, 1) := by decide +kernel
theorem dX4_exchange_77 : decode cX4_exchange 77 = .ok (.iastore, 1) := by decide +kernel
theorem dX4_exchange_78 : decode cX4_exchange 78 = .ok (.return_, 1) := by decide +kernel
theorem dX4_mostBySowing_0 : decode cX4_mostBySowing 0 = .ok (.aload_n 0, 1) := by decide +kernel
theorem dX4_mostBySowing_1 : decode cX4_mostBySowing 1 = .ok (.getfield 33, 3) := by decide +kernel
theorem dX4_mostBySowing_4 : decode cX4_mostBySowing 4 = .ok (.getfield 98, 3) := by decide +kernel
theorem dX4_mostBySowing_7 : decode cX4_mostBySowing 7 = .ok (.iload_n 1, 1) := by decide +kernel
theorem dX4_mostBySowing_8 : decode cX4_mostBySowing 8 = .ok (.iaload, 1) := by decide +kernel
theorem dX4_mostBySowing_9 : decode cX4_mostBySowing 9 = .ok (.istore_n 2, 1) := by decide +kernel
theorem dX4_mostBySowing_10 : decode cX4_mostBySowing 10 = .ok (.iconst 0, 1) := by decide +kernel
theorem dX4_mostBySowing_11 : decode cX4_mostBySowing 11 = .ok (.istore_n 3, 1) := by decide +kernel
theorem dX4_mostBySowing_12 : decode cX4_mostBySowing 12 = .ok (.iconst 0, 1) := by decide +kernel
theorem dX4_mostBySowing_13 : decode cX4_mostBySowing 13 = .ok (.istore 4, 2) := by decide +kernel
theorem dX4_mostBySowing_15 : decode cX4_mostBySowing 15 = .ok (.iload 4, 2) := by decide +kernel
theorem dX4_mostBySowing_17 : decode cX4_mostBySowing 17 = .ok (.aload_n 0, 1) := by decide +kernel
theorem dX4_mostBySowing_18 : decode cX4_mostBySowing 18 = .ok (.getfield 19, 3) := by decide +kernel
theorem dX4_mostBySowing_21 : decode cX4_mostBySowing 21 = .ok (.getfield 176, 3) := by decide +kernel
theorem dX4_mostBySowing_24 : decode cX4_mostBySowing 24 = .ok (.if_icmp .ge 34, 3) := by decide +kernel
theorem dX4_mostBySowing_27 : decode cX4_mostBySowing 27 = .ok (.aload_n 0, 1) := by decide +kernel
theorem dX4_mostBySowing_28 : decode cX4_mostBySowing 28 = .ok (.getfield 33, 3) := by decide +kernel
theorem dX4_mostBySowing_31 : decode cX4_mostBySowing 31 = .ok (.getfield 98, 3) := by decide +kernel
theorem dX4_mostBySowing_34 : decode cX4_mostBySowing 34 = .ok (.iload_n 1, 1) := by decide +kernel
theorem dX4_mostBySowing_35 : decode cX4_mostBySowing 35 = .ok (.iload 4, 2) := by decide +kernel
theorem dX4_mostBySowing_37 : decode cX4_mostBySowing 37 = .ok (.iastore, 1) := by decide +kernel
theorem dX4_mostBySowing_38 : decode cX4_mostBySowing 38 = .ok (.iload_n 3, 1) := by decide +kernel
theorem dX4_mostBySowing_39 : decode cX4_mostBySowing 39 = .ok (.aload_n 0, 1) := by decide +kernel
theorem dX4_mostBySowing_40 : decode cX4_mostBySowing 40 = .ok (.aload_n 0, 1) := by decide +kernel
theorem dX4_mostBySowing_41 : decode cX4_mostBySowing 41 = .ok (.getfield 33, 3) := by decide +kernel
theorem dX4_mostBySowing_44 : decode cX4_mostBySowing 44 = .ok (.iload_n 1, 1) := by decide +kernel
theorem dX4_mostBySowing_45 : decode cX4_mostBySowing 45 = .ok (.invokevirtual 129, 3) := by decide +kernel
theorem dX4_mostBySowing_48 : decode cX4_mostBySowing 48 = .ok (.invokestatic 253, 3) := by decide +kernel
theorem dX4_mostBySowing_51 : decode cX4_mostBySowing 51 = .ok (.istore_n 3, 1) := by decide +kernel
theorem dX4_mostBySowing_52 : decode cX4_mostBySowing 52 = .ok (.iinc 4 1, 3) := by decide +kernel
theorem dX4_mostBySowing_55 : decode cX4_mostBySowing 55 = .ok (.goto (-40), 3) := by decide +kernel
theorem dX4_mostBySowing_58 : decode cX4_mostBySowing 58 = .ok (.aload_n 0, 1) := by decide +kernel
theorem dX4_mostBySowing_59 : decode cX4_mostBySowing 59 = .ok (.getfield 33, 3) := by decide +kernel
theorem dX4_mostBySowing_62 : decode cX4_mostBySowing 62 = .ok (.getfield 98, 3) := by decide +kernel
theorem dX4_mostBySowing_65 : decode cX4_mostBySowing 65 = .ok (.iload_n 1, 1) := by decide +kernel
theorem dX4_mostBySowing_66 : decode cX4_mostBySowing 66 = .ok (.iload_n 2, 1) := by decide +kernel
theorem dX4_mostBySowing_67 : decode cX4_mostBySowing 67 = .ok (.iastore, 1) := by decide +kernel
theorem dX4_mostBySowing_68 : decode cX4_mostBySowing 68 = .ok (.iload_n 3, 1) := by decide +kernel
theorem dX4_mostBySowing_69 : decode cX4_mostBySowing 69 = .ok (.ireturn, 1) := by decide +kernel
theorem dX4_isContent_0 : decode cX4_isContent 0 = .ok (.aload_n 0, 1) := by decide +kernel
theorem dX4_isContent_1 : decode cX4_isContent 1 = .ok (.aload_n 0, 1) := by decide +kernel
theorem dX4_isContent_2 : decode cX4_isContent 2 = .ok (.getfield 33, 3) := by decide +kernel
theorem dX4_isContent_5 : decode cX4_isContent 5 = .ok (.iload_n 1, 1) := by decide +kernel
theorem dX4_isContent_6 : decode cX4_isContent 6 = .ok (.invokevirtual 129, 3) := by decide +kernel
theorem dX4_isContent_9 : decode cX4_isContent 9 = .ok (.aload_n 0, 1) := by decide +kernel
theorem dX4_isContent_10 : decode cX4_isContent 10 = .ok (.iload_n 1, 1) := by decide +kernel
theorem dX4_isContent_11 : decode cX4_isContent 11 = .ok (.invokevirtual 256, 3) := by decide +kernel
theorem dX4_isContent_14 : decode cX4_isContent 14 = .ok (.if_icmp .lt 7, 3) := by decide +kernel
theorem dX4_isContent_17 : decode cX4_isContent 17 = .ok (.iconst 1, 1) := by decide +kernel
theorem dX4_isContent_18 : decode cX4_isContent 18 = .ok (.goto 4, 3) := by decide +kernel
theorem dX4_isContent_21 : decode cX4_isContent 21 = .ok (.iconst 0, 1) := by decide +kernel
theorem dX4_isContent_22 : decode cX4_isContent 22 = .ok (.ireturn, 1) := by decide +kernel
theorem dX4_isHungry_0 : decode cX4_isHungry 0 = .ok (.aload_n 0, 1) := by decide +kernel
theorem dX4_isHungry_1 : decode cX4_isHungry 1 = .ok (.getfield 33, 3) := by decide +kernel
theorem dX4_isHungry_4 : decode cX4_isHungry 4 = .ok (.aload_n 0, 1) := by decide +kernel
theorem dX4_isHungry_5 : decode cX4_isHungry 5 = .ok (.getfield 29, 3) := by decide +kernel
theorem dX4_isHungry_8 : decode cX4_isHungry 8 = .ok (.invokevirtual 173, 3) := by decide +kernel
theorem dX4_isHungry_11 : decode cX4_isHungry 11 = .ok (.aload_n 0, 1) := by decide +kernel
theorem dX4_isHungry_12 : decode cX4_isHungry 12 = .ok (.getfield 33, 3) := by decide +kernel
theorem dX4_isHungry_15 : decode cX4_isHungry 15 = .ok (.getfield 101, 3) := by decide +kernel
theorem dX4_isHungry_18 : decode cX4_isHungry 18 = .ok (.iload_n 1, 1) := by decide +kernel
theorem dX4_isHungry_19 : decode cX4_isHungry 19 = .ok (.iaload, 1) := by decide +kernel
theorem dX4_isHungry_20 : decode cX4_isHungry 20 = .ok (.istore_n 2, 1) := by decide +kernel
theorem dX4_isHungry_21 : decode cX4_isHungry 21 = .ok (.iload_n 2, 1) := by decide +kernel
theorem dX4_isHungry_22 : decode cX4_isHungry 22 = .ok (.ifCond .ge 26, 3) := by decide +kernel
theorem dX4_isHungry_25 : decode cX4_isHungry 25 = .ok (.aload_n 0, 1) := by decide +kernel
theorem dX4_isHungry_26 : decode cX4_isHungry 26 = .ok (.iload_n 1, 1) := by decide +kernel
theorem dX4_isHungry_27 : decode cX4_isHungry 27 = .ok (.invokevirtual 256, 3) := by decide +kernel
theorem dX4_isHungry_30 : decode cX4_isHungry 30 = .ok (.aload_n 0, 1) := by decide +kernel
theorem dX4_isHungry_31 : decode cX4_isHungry 31 = .ok (.getfield 19, 3) := by decide +kernel
theorem dX4_isHungry_34 : decode cX4_isHungry 34 = .ok (.getfield 95, 3) := by decide +kernel
theorem dX4_isHungry_37 : decode cX4_isHungry 37 = .ok (.iload_n 1, 1) := by decide +kernel
theorem dX4_isHungry_38 : decode cX4_isHungry 38 = .ok (.iaload, 1) := by decide +kernel
theorem dX4_isHungry_39 : decode cX4_isHungry 39 = .ok (.if_icmp .ge 7, 3) := by decide +kernel
theorem dX4_isHungry_42 : decode cX4_isHungry 42 = .ok (.iconst 1, 1) := by decide +kernel
theorem dX4_isHungry_43 : decode cX4_isHungry 43 = .ok (.goto 4, 3) := by decide +kernel
theorem dX4_isHungry_46 : decode cX4_isHungry 46 = .ok (.iconst 0, 1) := by decide +kernel
theorem dX4_isHungry_47 : decode cX4_isHungry 47 = .ok (.ireturn, 1) := by decide +kernel
theorem dX4_isHungry_48 : decode cX4_isHungry 48 = .ok (.iconst 0, 1) := by decide +kernel
theorem dX4_isHungry_49 : decode cX4_isHungry 49 = .ok (.istore_n 3, 1) := by decide +kernel
theorem dX4_isHungry_50 : decode cX4_isHungry 50 = .ok (.iload_n 3, 1) := by decide +kernel
theorem dX4_isHungry_51 : decode cX4_isHungry 51 = .ok (.aload_n 0, 1) := by decide +kernel
theorem dX4_isHungry_52 : decode cX4_isHungry 52 = .ok (.getfield 19, 3) := by decide +kernel
theorem dX4_isHungry_55 : decode cX4_isHungry 55 = .ok (.getfield 176, 3) := by decide +kernel
theorem dX4_isHungry_58 : decode cX4_isHungry 58 = .ok (.if_icmp .ge 38, 3) := by decide +kernel
theorem dX4_isHungry_61 : decode cX4_isHungry 61 = .ok (.aload_n 0, 1) := by decide +kernel
theorem dX4_isHungry_62 : decode cX4_isHungry 62 = .ok (.getfield 33, 3) := by decide +kernel
theorem dX4_isHungry_65 : decode cX4_isHungry 65 = .ok (.getfield 98, 3) := by decide +kernel
theorem dX4_isHungry_68 : decode cX4_isHungry 68 = .ok (.iload_n 2, 1) := by decide +kernel
theorem dX4_isHungry_69 : decode cX4_isHungry 69 = .ok (.iload_n 3, 1) := by decide +kernel
theorem dX4_isHungry_70 : decode cX4_isHungry 70 = .ok (.iastore, 1) := by decide +kernel
theorem dX4_isHungry_71 : decode cX4_isHungry 71 = .ok (.aload_n 0, 1) := by decide +kernel
theorem dX4_isHungry_72 : decode cX4_isHungry 72 = .ok (.iload_n 1, 1) := by decide +kernel
theorem dX4_isHungry_73 : decode cX4_isHungry 73 = .ok (.invokevirtual 256, 3) := by decide +kernel
theorem dX4_isHungry_76 : decode cX4_isHungry 76 = .ok (.aload_n 0, 1) := by decide +kernel
theorem dX4_isHungry_77 : decode cX4_isHungry 77 = .ok (.getfield 19, 3) := by decide +kernel
theorem dX4_isHungry_80 : decode cX4_isHungry 80 = .ok (.getfield 95, 3) := by decide +kernel
theorem dX4_isHungry_83 : decode cX4_isHungry 83 = .ok (.iload_n 1, 1) := by decide +kernel
theorem dX4_isHungry_84 : decode cX4_isHungry 84 = .ok (.iaload, 1) := by decide +kernel
theorem dX4_isHungry_85 : decode cX4_isHungry 85 = .ok (.if_icmp .lt 5, 3) := by decide +kernel
theorem dX4_isHungry_88 : decode cX4_isHungry 88 = .ok (.iconst 0, 1) := by decide +kernel
theorem dX4_isHungry_89 : decode cX4_isHungry 89 = .ok (.ireturn, 1) := by decide +kernel
theorem dX4_isHungry_90 : decode cX4_isHungry 90 = .ok (.iinc 3 1, 3) := by decide +kernel
theorem dX4_isHungry_93 : decode cX4_isHungry 93 = .ok (.goto (-43), 3) := by decide +kernel
theorem dX4_isHungry_96 : decode cX4_isHungry 96 = .ok (.iconst 1, 1) := by decide +kernel
theorem dX4_isHungry_97 : decode cX4_isHungry 97 = .ok (.ireturn, 1) := by decide +kernel
theorem dX4_hungryBits_0 : decode cX4_hungryBits 0 = .ok (.iconst 0, 1) := by decide +kernel
theorem dX4_hungryBits_1 : decode cX4_hungryBits 1 = .ok (.istore_n 1, 1) := by decide +kernel
theorem dX4_hungryBits_2 : decode cX4_hungryBits 2 = .ok (.iconst 0, 1) := by decide +kernel
theorem dX4_hungryBits_3 : decode cX4_hungryBits 3 = .ok (.istore_n 2, 1) := by decide +kernel
theorem dX4_hungryBits_4 : decode cX4_hungryBits 4 = .ok (.iload_n 2, 1) := by decide +kernel
theorem dX4_hungryBits_5 : decode cX4_hungryBits 5 = .ok (.aload_n 0, 1) := by decide +kernel
theorem dX4_hungryBits_6 : decode cX4_hungryBits 6 = .ok (.getfield 19, 3) := by decide +kernel
theorem dX4_hungryBits_9 : decode cX4_hungryBits 9 = .ok (.getfield 76, 3) := by decide +kernel
theorem dX4_hungryBits_12 : decode cX4_hungryBits 12 = .ok (.if_icmp .ge 23, 3) := by decide +kernel
theorem dX4_hungryBits_15 : decode cX4_hungryBits 15 = .ok (.aload_n 0, 1) := by decide +kernel
theorem dX4_hungryBits_16 : decode cX4_hungryBits 16 = .ok (.iload_n 2, 1) := by decide +kernel
theorem dX4_hungryBits_17 : decode cX4_hungryBits 17 = .ok (.invokevirtual 185, 3) := by decide +kernel
theorem dX4_hungryBits_20 : decode cX4_hungryBits 20 = .ok (.ifCond .eq 9, 3) := by decide +kernel
theorem dX4_hungryBits_23 : decode cX4_hungryBits 23 = .ok (.iload_n 1, 1) := by decide +kernel
theorem dX4_hungryBits_24 : decode cX4_hungryBits 24 = .ok (.iconst 1, 1) := by decide +kernel
theorem dX4_hungryBits_25 : decode cX4_hungryBits 25 = .ok (.iload_n 2, 1) := by decide +kernel
theorem dX4_hungryBits_26 : decode cX4_hungryBits 26 = .ok (.ishl, 1) := by decide +kernel
theorem dX4_hungryBits_27 : decode cX4_hungryBits 27 = .ok (.ior, 1) := by decide +kernel
theorem dX4_hungryBits_28 : decode cX4_hungryBits 28 = .ok (.istore_n 1, 1) := by decide +kernel
theorem dX4_hungryBits_29 : decode cX4_hungryBits 29 = .ok (.iinc 2 1, 3) := by decide +kernel
theorem dX4_hungryBits_32 : decode cX4_hungryBits 32 = .ok (.goto (-28), 3) := by decide +kernel
theorem dX4_hungryBits_35 : decode cX4_hungryBits 35 = .ok (.iload_n 1, 1) := by decide +kernel
theorem dX4_hungryBits_36 : decode cX4_hungryBits 36 = .ok (.ireturn, 1) := by decide +kernel
theorem dX4_tryFacing_0 : decode cX4_tryFacing 0 = .ok (.aload_n 0, 1) := by decide +kernel
theorem dX4_tryFacing_1 : decode cX4_tryFacing 1 = .ok (.invokevirtual 259, 3) := by decide +kernel
theorem dX4_tryFacing_4 : decode cX4_tryFacing 4 = .ok (.istore_n 3, 1) := by decide +kernel
theorem dX4_tryFacing_5 : decode cX4_tryFacing 5 = .ok (.iload_n 3, 1) := by decide +kernel
theorem dX4_tryFacing_6 : decode cX4_tryFacing 6 = .ok (.ifCond .ge 8, 3) := by decide +kernel
theorem dX4_tryFacing_9 : decode cX4_tryFacing 9 = .ok (.aload_n 0, 1) := by decide +kernel
theorem dX4_tryFacing_10 : decode cX4_tryFacing 10 = .ok (.invokevirtual 262, 3) := by decide +kernel
theorem dX4_tryFacing_13 : decode cX4_tryFacing 13 = .ok (.return_, 1) := by decide +kernel
theorem dX4_tryFacing_14 : decode cX4_tryFacing 14 = .ok (.iload_n 1, 1) := by decide +kernel
theorem dX4_tryFacing_15 : decode cX4_tryFacing 15 = .ok (.bipush 6, 2) := by decide +kernel
theorem dX4_tryFacing_17 : decode cX4_tryFacing 17 = .ok (.if_icmp .lt 4, 3) := by decide +kernel
theorem dX4_tryFacing_20 : decode cX4_tryFacing 20 = .ok (.return_, 1) := by decide +kernel
theorem dX4_tryFacing_21 : decode cX4_tryFacing 21 = .ok (.iload_n 2, 1) := by decide +kernel
theorem dX4_tryFacing_22 : decode cX4_tryFacing 22 = .ok (.ifCond .eq 22, 3) := by decide +kernel
theorem dX4_tryFacing_25 : decode cX4_tryFacing 25 = .ok (.aload_n 0, 1) := by decide +kernel
theorem dX4_tryFacing_26 : decode cX4_tryFacing 26 = .ok (.getfield 33, 3) := by decide +kernel
theorem dX4_tryFacing_29 : decode cX4_tryFacing 29 = .ok (.getfield 101, 3) := by decide +kernel
theorem dX4_tryFacing_32 : decode cX4_tryFacing 32 = .ok (.iload_n 3, 1) := by decide +kernel
theorem dX4_tryFacing_33 : decode cX4_tryFacing 33 = .ok (.bipush (-9), 2) := by decide +kernel
theorem dX4_tryFacing_35 : decode cX4_tryFacing 35 = .ok (.iastore, 1) := by decide +kernel
theorem dX4_tryFacing_36 : decode cX4_tryFacing 36 = .ok (.aload_n 0, 1) := by decide +kernel
theorem dX4_tryFacing_37 : decode cX4_tryFacing 37 = .ok (.iload_n 1, 1) := by decide +kernel
theorem dX4_tryFacing_38 : decode cX4_tryFacing 38 = .ok (.iconst 1, 1) := by decide +kernel
theorem dX4_tryFacing_39 : decode cX4_tryFacing 39 = .ok (.iadd, 1) := by decide +kernel
theorem dX4_tryFacing_40 : decode cX4_tryFacing 40 = .ok (.iconst 0, 1) := by decide +kernel
theorem dX4_tryFacing_41 : decode cX4_tryFacing 41 = .ok (.invokevirtual 192, 3) := by decide +kernel
theorem dX4_tryFacing_44 : decode cX4_tryFacing 44 = .ok (.iload_n 3, 1) := by decide +kernel
theorem dX4_tryFacing_45 : decode cX4_tryFacing 45 = .ok (.iconst 1, 1) := by decide +kernel
theorem dX4_tryFacing_46 : decode cX4_tryFacing 46 = .ok (.iadd, 1) := by decide +kernel
theorem dX4_tryFacing_47 : decode cX4_tryFacing 47 = .ok (.istore 4, 2) := by decide +kernel
theorem dX4_tryFacing_49 : decode cX4_tryFacing 49 = .ok (.iload 4, 2) := by decide +kernel
theorem dX4_tryFacing_51 : decode cX4_tryFacing 51 = .ok (.aload_n 0, 1) := by decide +kernel
theorem dX4_tryFacing_52 : decode cX4_tryFacing 52 = .ok (.getfield 19, 3) := by decide +kernel
theorem dX4_tryFacing_55 : decode cX4_tryFacing 55 = .ok (.getfield 76, 3) := by decide +kernel
theorem dX4_tryFacing_58 : decode cX4_tryFacing 58 = .ok (.if_icmp .ge 66, 3) := by decide +kernel
theorem dX4_tryFacing_61 : decode cX4_tryFacing 61 = .ok (.aload_n 0, 1) := by decide +kernel
theorem dX4_tryFacing_62 : decode cX4_tryFacing 62 = .ok (.getfield 33, 3) := by decide +kernel
theorem dX4_tryFacing_65 : decode cX4_tryFacing 65 = .ok (.getfield 101, 3) := by decide +kernel
theorem dX4_tryFacing_68 : decode cX4_tryFacing 68 = .ok (.iload 4, 2) := by decide +kernel
theorem dX4_tryFacing_70 : decode cX4_tryFacing 70 = .ok (.iaload, 1) := by decide +kernel
theorem dX4_tryFacing_71 : decode cX4_tryFacing 71 = .ok (.bipush (-10), 2) := by decide +kernel
theorem dX4_tryFacing_73 : decode cX4_tryFacing 73 = .ok (.if_icmp .ne 45, 3) := by decide +kernel
theorem dX4_tryFacing_76 : decode cX4_tryFacing 76 = .ok (.aload_n 0, 1) := by decide +kernel
theorem dX4_tryFacing_77 : decode cX4_tryFacing 77 = .ok (.getfield 33, 3) := by decide +kernel
theorem dX4_tryFacing_80 : decode cX4_tryFacing 80 = .ok (.getfield 101, 3) := by decide +kernel
theorem dX4_tryFacing_83 : decode cX4_tryFacing 83 = .ok (.iload_n 3, 1) := by decide +kernel
theorem dX4_tryFacing_84 : decode cX4_tryFacing 84 = .ok (.iload 4, 2) := by decide +kernel
theorem dX4_tryFacing_86 : decode cX4_tryFacing 86 = .ok (.iastore, 1) := by decide +kernel
theorem dX4_tryFacing_87 : decode cX4_tryFacing 87 = .ok (.aload_n 0, 1) := by decide +kernel
theorem dX4_tryFacing_88 : decode cX4_tryFacing 88 = .ok (.getfield 33, 3) := by decide +kernel
theorem dX4_tryFacing_91 : decode cX4_tryFacing 91 = .ok (.getfield 101, 3) := by decide +kernel
theorem dX4_tryFacing_94 : decode cX4_tryFacing 94 = .ok (.iload 4, 2) := by decide +kernel
theorem dX4_tryFacing_96 : decode cX4_tryFacing 96 = .ok (.iload_n 3, 1) := by decide +kernel
theorem dX4_tryFacing_97 : decode cX4_tryFacing 97 = .ok (.iastore, 1) := by decide +kernel
theorem dX4_tryFacing_98 : decode cX4_tryFacing 98 = .ok (.aload_n 0, 1) := by decide +kernel
theorem dX4_tryFacing_99 : decode cX4_tryFacing 99 = .ok (.iload_n 1, 1) := by decide +kernel
theorem dX4_tryFacing_100 : decode cX4_tryFacing 100 = .ok (.iconst 1, 1) := by decide +kernel
theorem dX4_tryFacing_101 : decode cX4_tryFacing 101 = .ok (.iadd, 1) := by decide +kernel
theorem dX4_tryFacing_102 : decode cX4_tryFacing 102 = .ok (.iload_n 2, 1) := by decide +kernel
theorem dX4_tryFacing_103 : decode cX4_tryFacing 103 = .ok (.invokevirtual 192, 3) := by decide +kernel
theorem dX4_tryFacing_106 : decode cX4_tryFacing 106 = .ok (.aload_n 0, 1) := by decide +kernel
theorem dX4_tryFacing_107 : decode cX4_tryFacing 107 = .ok (.getfield 33, 3) := by decide +kernel
theorem dX4_tryFacing_110 : decode cX4_tryFacing 110 = .ok (.getfield 101, 3) := by decide +kernel
theorem dX4_tryFacing_113 : decode cX4_tryFacing 113 = .ok (.iload 4, 2) := by decide +kernel
theorem dX4_tryFacing_115 : decode cX4_tryFacing 115 = .ok (.bipush (-10), 2) := by decide +kernel
theorem dX4_tryFacing_117 : decode cX4_tryFacing 117 = .ok (.iastore, 1) := by decide +kernel
theorem dX4_tryFacing_118 : decode cX4_tryFacing 118 = .ok (.iinc 4 1, 3) := by decide +kernel
theorem dX4_tryFacing_121 : decode cX4_tryFacing 121 = .ok (.goto (-72), 3) := by decide +kernel
theorem dX4_tryFacing_124 : decode cX4_tryFacing 124 = .ok (.aload_n 0, 1) := by decide +kernel
theorem dX4_tryFacing_125 : decode cX4_tryFacing 125 = .ok (.getfield 33, 3) := by decide +kernel
theorem dX4_tryFacing_128 : decode cX4_tryFacing 128 = .ok (.getfield 101, 3) := by decide +kernel
theorem dX4_tryFacing_131 : decode cX4_tryFacing 131 = .ok (.iload_n 3, 1) := by decide +kernel
theorem dX4_tryFacing_132 : decode cX4_tryFacing 132 = .ok (.bipush (-10), 2) := by decide +kernel
theorem dX4_tryFacing_134 : decode cX4_tryFacing 134 = .ok (.iastore, 1) := by decide +kernel
theorem dX4_tryFacing_135 : decode cX4_tryFacing 135 = .ok (.return_, 1) := by decide +kernel
theorem dX4_firstUnchosen_0 : decode cX4_firstUnchosen 0 = .ok (.iconst 0, 1) := by decide +kernel
theorem dX4_firstUnchosen_1 : decode cX4_firstUnchosen 1 = .ok (.istore_n 1, 1) := by decide +kernel
theorem dX4_firstUnchosen_2 : decode cX4_firstUnchosen 2 = .ok (.iload_n 1, 1) := by decide +kernel
theorem dX4_firstUnchosen_3 : decode cX4_firstUnchosen 3 = .ok (.aload_n 0, 1) := by decide +kernel
theorem dX4_firstUnchosen_4 : decode cX4_firstUnchosen 4 = .ok (.getfield 19, 3) := by decide +kernel
theorem dX4_firstUnchosen_7 : decode cX4_firstUnchosen 7 = .ok (.getfield 76, 3) := by decide +kernel
theorem dX4_firstUnchosen_10 : decode cX4_firstUnchosen 10 = .ok (.if_icmp .ge 25, 3) := by decide +kernel
theorem dX4_firstUnchosen_13 : decode cX4_firstUnchosen 13 = .ok (.aload_n 0, 1) := by decide +kernel
theorem dX4_firstUnchosen_14 : decode cX4_firstUnchosen 14 = .ok (.getfield 33, 3) := by decide +kernel
theorem dX4_firstUnchosen_17 : decode cX4_firstUnchosen 17 = .ok (.getfield 101, 3) := by decide +kernel
theorem dX4_firstUnchosen_20 : decode cX4_firstUnchosen 20 = .ok (.iload_n 1, 1) := by decide +kernel
theorem dX4_firstUnchosen_21 : decode cX4_firstUnchosen 21 = .ok (.iaload, 1) := by decide +kernel
theorem dX4_firstUnchosen_22 : decode cX4_firstUnchosen 22 = .ok (.bipush (-10), 2) := by decide +kernel
theorem dX4_firstUnchosen_24 : decode cX4_firstUnchosen 24 = .ok (.if_icmp .ne 5, 3) := by decide +kernel
theorem dX4_firstUnchosen_27 : decode cX4_firstUnchosen 27 = .ok (.iload_n 1, 1) := by decide +kernel
theorem dX4_firstUnchosen_28 : decode cX4_firstUnchosen 28 = .ok (.ireturn, 1) := by decide +kernel
theorem dX4_firstUnchosen_29 : decode cX4_firstUnchosen 29 = .ok (.iinc 1 1, 3) := by decide +kernel
theorem dX4_firstUnchosen_32 : decode cX4_firstUnchosen 32 = .ok (.goto (-30), 3) := by decide +kernel
theorem dX4_firstUnchosen_35 : decode cX4_firstUnchosen 35 = .ok (.bipush (-9), 2) := by decide +kernel
theorem dX4_firstUnchosen_37 : decode cX4_firstUnchosen 37 = .ok (.ireturn, 1) := by decide +kernel
theorem dX4_weighFacing_0 : decode cX4_weighFacing 0 = .ok (.aload_n 0, 1) := by decide +kernel
theorem dX4_weighFacing_1 : decode cX4_weighFacing 1 = .ok (.aload_n 0, 1) := by decide +kernel
theorem dX4_weighFacing_2 : decode cX4_weighFacing 2 = .ok (.getfield 33, 3) := by decide +kernel
theorem dX4_weighFacing_5 : decode cX4_weighFacing 5 = .ok (.iconst 0, 1) := by decide +kernel
theorem dX4_weighFacing_6 : decode cX4_weighFacing 6 = .ok (.invokevirtual 163, 3) := by decide +kernel
theorem dX4_weighFacing_9 : decode cX4_weighFacing 9 = .ok (.istore_n 1, 1) := by decide +kernel
theorem dX4_weighFacing_10 : decode cX4_weighFacing 10 = .ok (.iconst 1, 1) := by decide +kernel
theorem dX4_weighFacing_11 : decode cX4_weighFacing 11 = .ok (.istore_n 2, 1) := by decide +kernel
theorem dX4_weighFacing_12 : decode cX4_weighFacing 12 = .ok (.iload_n 2, 1) := by decide +kernel
theorem dX4_weighFacing_13 : decode cX4_weighFacing 13 = .ok (.aload_n 0, 1) := by decide +kernel
theorem dX4_weighFacing_14 : decode cX4_weighFacing 14 = .ok (.getfield 19, 3) := by decide +kernel
theorem dX4_weighFacing_17 : decode cX4_weighFacing 17 = .ok (.getfield 76, 3) := by decide +kernel
theorem dX4_weighFacing_20 : decode cX4_weighFacing 20 = .ok (.if_icmp .ge 23, 3) := by decide +kernel
theorem dX4_weighFacing_23 : decode cX4_weighFacing 23 = .ok (.iload_n 1, 1) := by decide +kernel
theorem dX4_weighFacing_24 : decode cX4_weighFacing 24 = .ok (.aload_n 0, 1) := by decide +kernel
theorem dX4_weighFacing_25 : decode cX4_weighFacing 25 = .ok (.aload_n 0, 1) := by decide +kernel
theorem dX4_weighFacing_26 : decode cX4_weighFacing 26 = .ok (.getfield 33, 3) := by decide +kernel
theorem dX4_weighFacing_29 : decode cX4_weighFacing 29 = .ok (.iload_n 2, 1) := by decide +kernel
theorem dX4_weighFacing_30 : decode cX4_weighFacing 30 = .ok (.invokevirtual 163, 3) := by decide +kernel
theorem dX4_weighFacing_33 : decode cX4_weighFacing 33 = .ok (.invokestatic 248, 3) := by decide +kernel
theorem dX4_weighFacing_36 : decode cX4_weighFacing 36 = .ok (.istore_n 1, 1) := by decide +kernel
theorem dX4_weighFacing_37 : decode cX4_weighFacing 37 = .ok (.iinc 2 1, 3) := by decide +kernel
theorem dX4_weighFacing_40 : decode cX4_weighFacing 40 = .ok (.goto (-28), 3) := by decide +kernel
theorem dX4_weighFacing_43 : decode cX4_weighFacing 43 = .ok (.aload_n 0, 1) := by decide +kernel
theorem dX4_weighFacing_44 : decode cX4_weighFacing 44 = .ok (.getfield 188, 3) := by decide +kernel
theorem dX4_weighFacing_47 : decode cX4_weighFacing 47 = .ok (.ifCond .eq 11, 3) := by decide +kernel
theorem dX4_weighFacing_50 : decode cX4_weighFacing 50 = .ok (.iload_n 1, 1) := by decide +kernel
theorem dX4_weighFacing_51 : decode cX4_weighFacing 51 = .ok (.aload_n 0, 1) := by decide +kernel
theorem dX4_weighFacing_52 : decode cX4_weighFacing 52 = .ok (.getfield 196, 3) := by decide +kernel
theorem dX4_weighFacing_55 : decode cX4_weighFacing 55 = .ok (.if_icmp .le 36, 3) := by decide +kernel
theorem dX4_weighFacing_58 : decode cX4_weighFacing 58 = .ok (.aload_n 0, 1) := by decide +kernel
theorem dX4_weighFacing_59 : decode cX4_weighFacing 59 = .ok (.iconst 1, 1) := by decide +kernel
theorem dX4_weighFacing_60 : decode cX4_weighFacing 60 = .ok (.putfield 188, 3) := by decide +kernel
theorem dX4_weighFacing_63 : decode cX4_weighFacing 63 = .ok (.aload_n 0, 1) := by decide +kernel
theorem dX4_weighFacing_64 : decode cX4_weighFacing 64 = .ok (.iload_n 1, 1) := by decide +kernel
theorem dX4_weighFacing_65 : decode cX4_weighFacing 65 = .ok (.putfield 196, 3) := by decide +kernel
theorem dX4_weighFacing_68 : decode cX4_weighFacing 68 = .ok (.aload_n 0, 1) := by decide +kernel
theorem dX4_weighFacing_69 : decode cX4_weighFacing 69 = .ok (.getfield 33, 3) := by decide +kernel
theorem dX4_weighFacing_72 : decode cX4_weighFacing 72 = .ok (.getfield 101, 3) := by decide +kernel
theorem dX4_weighFacing_75 : decode cX4_weighFacing 75 = .ok (.iconst 0, 1) := by decide +kernel
theorem dX4_weighFacing_76 : decode cX4_weighFacing 76 = .ok (.aload_n 0, 1) := by decide +kernel
theorem dX4_weighFacing_77 : decode cX4_weighFacing 77 = .ok (.getfield 58, 3) := by decide +kernel
theorem dX4_weighFacing_80 : decode cX4_weighFacing 80 = .ok (.iconst 0, 1) := by decide +kernel
theorem dX4_weighFacing_81 : decode cX4_weighFacing 81 = .ok (.aload_n 0, 1) := by decide +kernel
theorem dX4_weighFacing_82 : decode cX4_weighFacing 82 = .ok (.getfield 19, 3) := by decide +kernel
theorem dX4_weighFacing_85 : decode cX4_weighFacing 85 = .ok (.getfield 76, 3) := by decide +kernel
theorem dX4_weighFacing_88 : decode cX4_weighFacing 88 = .ok (.invokestatic 265, 3) := by decide +kernel
theorem dX4_weighFacing_91 : decode cX4_weighFacing 91 = .ok (.return_, 1) := by decide +kernel
theorem dX4_tryRopes_0 : decode cX4_tryRopes 0 = .ok (.aload_n 0, 1) := by decide +kernel
theorem dX4_tryRopes_1 : decode cX4_tryRopes 1 = .ok (.getfield 33, 3) := by decide +kernel
theorem dX4_tryRopes_4 : decode cX4_tryRopes 4 = .ok (.aload_n 0, 1) := by decide +kernel
theorem dX4_tryRopes_5 : decode cX4_tryRopes 5 = .ok (.getfield 29, 3) := by decide +kernel
theorem dX4_tryRopes_8 : decode cX4_tryRopes 8 = .ok (.invokevirtual 173, 3) := by decide +kernel
theorem dX4_tryRopes_11 : decode cX4_tryRopes 11 = .ok (.iconst 0, 1) := by decide +kernel
theorem dX4_tryRopes_12 : decode cX4_tryRopes 12 = .ok (.istore_n 1, 1) := by decide +kernel
theorem dX4_tryRopes_13 : decode cX4_tryRopes 13 = .ok (.iconst 0, 1) := by decide +kernel
theorem dX4_tryRopes_14 : decode cX4_tryRopes 14 = .ok (.istore_n 2, 1) := by decide +kernel
theorem dX4_tryRopes_15 : decode cX4_tryRopes 15 = .ok (.iload_n 2, 1) := by decide +kernel
theorem dX4_tryRopes_16 : decode cX4_tryRopes 16 = .ok (.aload_n 0, 1) := by decide +kernel
theorem dX4_tryRopes_17 : decode cX4_tryRopes 17 = .ok (.getfield 19, 3) := by decide +kernel
theorem dX4_tryRopes_20 : decode cX4_tryRopes 20 = .ok (.getfield 76, 3) := by decide +kernel
theorem dX4_tryRopes_23 : decode cX4_tryRopes 23 = .ok (.if_icmp .ge 66, 3) := by decide +kernel
theorem dX4_tryRopes_26 : decode cX4_tryRopes 26 = .ok (.aload_n 0, 1) := by decide +kernel
theorem dX4_tryRopes_27 : decode cX4_tryRopes 27 = .ok (.getfield 33, 3) := by decide +kernel
theorem dX4_tryRopes_30 : decode cX4_tryRopes 30 = .ok (.getfield 101, 3) := by decide +kernel
theorem dX4_tryRopes_33 : decode cX4_tryRopes 33 = .ok (.iload_n 2, 1) := by decide +kernel
theorem dX4_tryRopes_34 : decode cX4_tryRopes 34 = .ok (.iaload, 1) := by decide +kernel
theorem dX4_tryRopes_35 : decode cX4_tryRopes 35 = .ok (.istore_n 3, 1) := by decide +kernel
theorem dX4_tryRopes_36 : decode cX4_tryRopes 36 = .ok (.iload_n 3, 1) := by decide +kernel
theorem dX4_tryRopes_37 : decode cX4_tryRopes 37 = .ok (.ifCond .lt 11, 3) := by decide +kernel
theorem dX4_tryRopes_40 : decode cX4_tryRopes 40 = .ok (.iload_n 3, 1) := by decide +kernel
theorem dX4_tryRopes_41 : decode cX4_tryRopes 41 = .ok (.iload_n 2, 1) := by decide +kernel
theorem dX4_tryRopes_42 : decode cX4_tryRopes 42 = .ok (.if_icmp .ge 6, 3) := by decide +kernel
theorem dX4_tryRopes_45 : decode cX4_tryRopes 45 = .ok (.goto 38, 3) := by decide +kernel
theorem dX4_tryRopes_48 : decode cX4_tryRopes 48 = .ok (.iload_n 3, 1) := by decide +kernel
theorem dX4_tryRopes_49 : decode cX4_tryRopes 49 = .ok (.ifCond .ge 11, 3) := by decide +kernel
theorem dX4_tryRopes_52 : decode cX4_tryRopes 52 = .ok (.aload_n 0, 1) := by decide +kernel
theorem dX4_tryRopes_53 : decode cX4_tryRopes 53 = .ok (.iload_n 2, 1) := by decide +kernel
theorem dX4_tryRopes_54 : decode cX4_tryRopes 54 = .ok (.invokevirtual 271, 3) := by decide +kernel
theorem dX4_tryRopes_57 : decode cX4_tryRopes 57 = .ok (.goto 9, 3) := by decide +kernel
theorem dX4_tryRopes_60 : decode cX4_tryRopes 60 = .ok (.aload_n 0, 1) := by decide +kernel
theorem dX4_tryRopes_61 : decode cX4_tryRopes 61 = .ok (.iload_n 2, 1) := by decide +kernel
theorem dX4_tryRopes_62 : decode cX4_tryRopes 62 = .ok (.iload_n 3, 1) := by decide +kernel
theorem dX4_tryRopes_63 : decode cX4_tryRopes 63 = .ok (.invokevirtual 274, 3) := by decide +kernel
theorem dX4_tryRopes_66 : decode cX4_tryRopes 66 = .ok (.istore 4, 2) := by decide +kernel
theorem dX4_tryRopes_68 : decode cX4_tryRopes 68 = .ok (.iload 4, 2) := by decide +kernel
theorem dX4_tryRopes_70 : decode cX4_tryRopes 70 = .ok (.bipush (-9), 2) := by decide +kernel
theorem dX4_tryRopes_72 : decode cX4_tryRopes 72 = .ok (.if_icmp .ne 6, 3) := by decide +kernel
theorem dX4_tryRopes_75 : decode cX4_tryRopes 75 = .ok (.bipush (-9), 2) := by decide +kernel
theorem dX4_tryRopes_77 : decode cX4_tryRopes 77 = .ok (.ireturn, 1) := by decide +kernel
theorem dX4_tryRopes_78 : decode cX4_tryRopes 78 = .ok (.iload_n 1, 1) := by decide +kernel
theorem dX4_tryRopes_79 : decode cX4_tryRopes 79 = .ok (.iload 4, 2) := by decide +kernel
theorem dX4_tryRopes_81 : decode cX4_tryRopes 81 = .ok (.iadd, 1) := by decide +kernel
theorem dX4_tryRopes_82 : decode cX4_tryRopes 82 = .ok (.istore_n 1, 1) := by decide +kernel
theorem dX4_tryRopes_83 : decode cX4_tryRopes 83 = .ok (.iinc 2 1, 3) := by decide +kernel
theorem dX4_tryRopes_86 : decode cX4_tryRopes 86 = .ok (.goto (-71), 3) := by decide +kernel
theorem dX4_tryRopes_89 : decode cX4_tryRopes 89 = .ok (.iload_n 1, 1) := by decide +kernel
theorem dX4_tryRopes_90 : decode cX4_tryRopes 90 = .ok (.ireturn, 1) := by decide +kernel
theorem dX4_ropesAlone_0 : decode cX4_ropesAlone 0 = .ok (.aload_n 0, 1) := by decide +kernel
theorem dX4_ropesAlone_1 : decode cX4_ropesAlone 1 = .ok (.getfield 33, 3) := by decide +kernel
theorem dX4_ropesAlone_4 : decode cX4_ropesAlone 4 = .ok (.getfield 104, 3) := by decide +kernel
theorem dX4_ropesAlone_7 : decode cX4_ropesAlone 7 = .ok (.iload_n 1, 1) := by decide +kernel
theorem dX4_ropesAlone_8 : decode cX4_ropesAlone 8 = .ok (.iconst 0, 1) := by decide +kernel
theorem dX4_ropesAlone_9 : decode cX4_ropesAlone 9 = .ok (.iastore, 1) := by decide +kernel
theorem dX4_ropesAlone_10 : decode cX4_ropesAlone 10 = .ok (.aload_n 0, 1) := by decide +kernel
theorem dX4_ropesAlone_11 : decode cX4_ropesAlone 11 = .ok (.aload_n 0, 1) := by decide +kernel
theorem dX4_ropesAlone_12 : decode cX4_ropesAlone 12 = .ok (.getfield 33, 3) := by decide +kernel
theorem dX4_ropesAlone_15 : decode cX4_ropesAlone 15 = .ok (.iload_n 1, 1) := by decide +kernel
theorem dX4_ropesAlone_16 : decode cX4_ropesAlone 16 = .ok (.invokevirtual 163, 3) := by decide +kernel
theorem dX4_ropesAlone_19 : decode cX4_ropesAlone 19 = .ok (.ifCond .lt 7, 3) := by decide +kernel
theorem dX4_ropesAlone_22 : decode cX4_ropesAlone 22 = .ok (.iconst 0, 1) := by decide +kernel
theorem dX4_ropesAlone_23 : decode cX4_ropesAlone 23 = .ok (.goto 5, 3) := by decide +kernel
theorem dX4_ropesAlone_26 : decode cX4_ropesAlone 26 = .ok (.bipush (-9), 2) := by decide +kernel
theorem dX4_ropesAlone_28 : decode cX4_ropesAlone 28 = .ok (.ireturn, 1) := by decide +kernel
theorem dX4_ropesOfTwo_0 : decode cX4_ropesOfTwo 0 = .ok (.bipush (-9), 2) := by decide +kernel
theorem dX4_ropesOfTwo_2 : decode cX4_ropesOfTwo 2 = .ok (.istore_n 3, 1) := by decide +kernel
theorem dX4_ropesOfTwo_3 : decode cX4_ropesOfTwo 3 = .ok (.iconst 0, 1) := by decide +kernel
theorem dX4_ropesOfTwo_4 : decode cX4_ropesOfTwo 4 = .ok (.istore 4, 2) := by decide +kernel
theorem dX4_ropesOfTwo_6 : decode cX4_ropesOfTwo 6 = .ok (.iconst 0, 1) := by decide +kernel
theorem dX4_ropesOfTwo_7 : decode cX4_ropesOfTwo 7 = .ok (.istore 5, 2) := by decide +kernel
theorem dX4_ropesOfTwo_9 : decode cX4_ropesOfTwo 9 = .ok (.iload 5, 2) := by decide +kernel
theorem dX4_ropesOfTwo_11 : decode cX4_ropesOfTwo 11 = .ok (.iconst 3, 1) := by decide +kernel
theorem dX4_ropesOfTwo_12 : decode cX4_ropesOfTwo 12 = .ok (.if_icmp .gt 107, 3) := by decide +kernel
theorem dX4_ropesOfTwo_15 : decode cX4_ropesOfTwo 15 = .ok (.iconst 0, 1) := by decide +kernel
theorem dX4_ropesOfTwo_16 : decode cX4_ropesOfTwo 16 = .ok (.istore 6, 2) := by decide +kernel
theorem dX4_ropesOfTwo_18 : decode cX4_ropesOfTwo 18 = .ok (.iload 6, 2) := by decide +kernel
theorem dX4_ropesOfTwo_20 : decode cX4_ropesOfTwo 20 = .ok (.iconst 3, 1) := by decide +kernel
theorem dX4_ropesOfTwo_21 : decode cX4_ropesOfTwo 21 = .ok (.if_icmp .gt 92, 3) := by decide +kernel
theorem dX4_ropesOfTwo_24 : decode cX4_ropesOfTwo 24 = .ok (.aload_n 0, 1) := by decide +kernel
theorem dX4_ropesOfTwo_25 : decode cX4_ropesOfTwo 25 = .ok (.getfield 33, 3) := by decide +kernel
theorem dX4_ropesOfTwo_28 : decode cX4_ropesOfTwo 28 = .ok (.getfield 104, 3) := by decide +kernel
theorem dX4_ropesOfTwo_31 : decode cX4_ropesOfTwo 31 = .ok (.iload_n 1, 1) := by decide +kernel
theorem dX4_ropesOfTwo_32 : decode cX4_ropesOfTwo 32 = .ok (.iload 5, 2) := by decide +kernel
theorem dX4_ropesOfTwo_34 : decode cX4_ropesOfTwo 34 = .ok (.iastore, 1) := by decide +kernel
theorem dX4_ropesOfTwo_35 : decode cX4_ropesOfTwo 35 = .ok (.aload_n 0, 1) := by decide +kernel
theorem dX4_ropesOfTwo_36 : decode cX4_ropesOfTwo 36 = .ok (.getfield 33, 3) := by decide +kernel
theorem dX4_ropesOfTwo_39 : decode cX4_ropesOfTwo 39 = .ok (.getfield 104, 3) := by decide +kernel
theorem dX4_ropesOfTwo_42 : decode cX4_ropesOfTwo 42 = .ok (.iload_n 2, 1) := by decide +kernel
theorem dX4_ropesOfTwo_43 : decode cX4_ropesOfTwo 43 = .ok (.iload 6, 2) := by decide +kernel
theorem dX4_ropesOfTwo_45 : decode cX4_ropesOfTwo 45 = .ok (.iastore, 1) := by decide +kernel
theorem dX4_ropesOfTwo_46 : decode cX4_ropesOfTwo 46 = .ok (.aload_n 0, 1) := by decide +kernel
theorem dX4_ropesOfTwo_47 : decode cX4_ropesOfTwo 47 = .ok (.aload_n 0, 1) := by decide +kernel
theorem dX4_ropesOfTwo_48 : decode cX4_ropesOfTwo 48 = .ok (.getfield 33, 3) := by decide +kernel
theorem dX4_ropesOfTwo_51 : decode cX4_ropesOfTwo 51 = .ok (.iload_n 1, 1) := by decide +kernel
theorem dX4_ropesOfTwo_52 : decode cX4_ropesOfTwo 52 = .ok (.invokevirtual 163, 3) := by decide +kernel
theorem dX4_ropesOfTwo_55 : decode cX4_ropesOfTwo 55 = .ok (.ifCond .lt 19, 3) := by decide +kernel
theorem dX4_ropesOfTwo_58 : decode cX4_ropesOfTwo 58 = .ok (.aload_n 0, 1) := by decide +kernel
theorem dX4_ropesOfTwo_59 : decode cX4_ropesOfTwo 59 = .ok (.aload_n 0, 1) := by decide +kernel
theorem dX4_ropesOfTwo_60 : decode cX4_ropesOfTwo 60 = .ok (.getfield 33, 3) := by decide +kernel
theorem dX4_ropesOfTwo_63 : decode cX4_ropesOfTwo 63 = .ok (.iload_n 2, 1) := by decide +kernel
theorem dX4_ropesOfTwo_64 : decode cX4_ropesOfTwo 64 = .ok (.invokevirtual 163, 3) := by decide +kernel
theorem dX4_ropesOfTwo_67 : decode cX4_ropesOfTwo 67 = .ok (.ifCond .lt 7, 3) := by decide +kernel
theorem dX4_ropesOfTwo_70 : decode cX4_ropesOfTwo 70 = .ok (.iconst 1, 1) := by decide +kernel
theorem dX4_ropesOfTwo_71 : decode cX4_ropesOfTwo 71 = .ok (.goto 4, 3) := by decide +kernel
theorem dX4_ropesOfTwo_74 : decode cX4_ropesOfTwo 74 = .ok (.iconst 0, 1) := by decide +kernel
theorem dX4_ropesOfTwo_75 : decode cX4_ropesOfTwo 75 = .ok (.istore 7, 2) := by decide +kernel
theorem dX4_ropesOfTwo_77 : decode cX4_ropesOfTwo 77 = .ok (.iload 7, 2) := by decide +kernel
theorem dX4_ropesOfTwo_79 : decode cX4_ropesOfTwo 79 = .ok (.ifCond .eq 28, 3) := by decide +kernel
theorem dX4_ropesOfTwo_82 : decode cX4_ropesOfTwo 82 = .ok (.iload_n 3, 1) := by decide +kernel
theorem dX4_ropesOfTwo_83 : decode cX4_ropesOfTwo 83 = .ok (.bipush (-9), 2) := by decide +kernel
theorem dX4_ropesOfTwo_85 : decode cX4_ropesOfTwo 85 = .ok (.if_icmp .eq 12, 3) := by decide +kernel
theorem dX4_ropesOfTwo_88 : decode cX4_ropesOfTwo 88 = .ok (.iload 5, 2) := by decide +kernel
theorem dX4_ropesOfTwo_90 : decode cX4_ropesOfTwo 90 = .ok (.iload 6, 2) := by decide +kernel
theorem dX4_ropesOfTwo_92 : decode cX4_ropesOfTwo 92 = .ok (.iadd, 1) := by decide +kernel
theorem dX4_ropesOfTwo_93 : decode cX4_ropesOfTwo 93 = .ok (.iload_n 3, 1) := by decide +kernel
theorem dX4_ropesOfTwo_94 : decode cX4_ropesOfTwo 94 = .ok (.if_icmp .ge 13, 3) := by decide +kernel
theorem dX4_ropesOfTwo_97 : decode cX4_ropesOfTwo 97 = .ok (.iload 5, 2) := by decide +kernel
theorem dX4_ropesOfTwo_99 : decode cX4_ropesOfTwo 99 = .ok (.iload 6, 2) := by decide +kernel
theorem dX4_ropesOfTwo_101 : decode cX4_ropesOfTwo 101 = .ok (.iadd, 1) := by decide +kernel
theorem dX4_ropesOfTwo_102 : decode cX4_ropesOfTwo 102 = .ok (.istore_n 3, 1) := by decide +kernel
theorem dX4_ropesOfTwo_103 : decode cX4_ropesOfTwo 103 = .ok (.iload 5, 2) := by decide +kernel
theorem dX4_ropesOfTwo_105 : decode cX4_ropesOfTwo 105 = .ok (.istore 4, 2) := by decide +kernel
theorem dX4_ropesOfTwo_107 : decode cX4_ropesOfTwo 107 = .ok (.iinc 6 1, 3) := by decide +kernel
theorem dX4_ropesOfTwo_110 : decode cX4_ropesOfTwo 110 = .ok (.goto (-92), 3) := by decide +kernel
theorem dX4_ropesOfTwo_113 : decode cX4_ropesOfTwo 113 = .ok (.iinc 5 1, 3) := by decide +kernel
theorem dX4_ropesOfTwo_116 : decode cX4_ropesOfTwo 116 = .ok (.goto (-107), 3) := by decide +kernel
theorem dX4_ropesOfTwo_119 : decode cX4_ropesOfTwo 119 = .ok (.iload_n 3, 1) := by decide +kernel
theorem dX4_ropesOfTwo_120 : decode cX4_ropesOfTwo 120 = .ok (.bipush (-9), 2) := by decide +kernel
theorem dX4_ropesOfTwo_122 : decode cX4_ropesOfTwo 122 = .ok (.if_icmp .eq 27, 3) := by decide +kernel
theorem dX4_ropesOfTwo_125 : decode cX4_ropesOfTwo 125 = .ok (.aload_n 0, 1) := by decide +kernel
theorem dX4_ropesOfTwo_126 : decode cX4_ropesOfTwo 126 = .ok (.getfield 33, 3) := by decide +kernel
theorem dX4_ropesOfTwo_129 : decode cX4_ropesOfTwo 129 = .ok (.getfield 104, 3) := by decide +kernel
theorem dX4_ropesOfTwo_132 : decode cX4_ropesOfTwo 132 = .ok (.iload_n 1, 1) := by decide +kernel
theorem dX4_ropesOfTwo_133 : decode cX4_ropesOfTwo 133 = .ok (.iload 4, 2) := by decide +kernel
theorem dX4_ropesOfTwo_135 : decode cX4_ropesOfTwo 135 = .ok (.iastore, 1) := by decide +kernel
theorem dX4_ropesOfTwo_136 : decode cX4_ropesOfTwo 136 = .ok (.aload_n 0, 1) := by decide +kernel
theorem dX4_ropesOfTwo_137 : decode cX4_ropesOfTwo 137 = .ok (.getfield 33, 3) := by decide +kernel
theorem dX4_ropesOfTwo_140 : decode cX4_ropesOfTwo 140 = .ok (.getfield 104, 3) := by decide +kernel
theorem dX4_ropesOfTwo_143 : decode cX4_ropesOfTwo 143 = .ok (.iload_n 2, 1) := by decide +kernel
theorem dX4_ropesOfTwo_144 : decode cX4_ropesOfTwo 144 = .ok (.iload_n 3, 1) := by decide +kernel
theorem dX4_ropesOfTwo_145 : decode cX4_ropesOfTwo 145 = .ok (.iload 4, 2) := by decide +kernel
theorem dX4_ropesOfTwo_147 : decode cX4_ropesOfTwo 147 = .ok (.isub, 1) := by decide +kernel
theorem dX4_ropesOfTwo_148 : decode cX4_ropesOfTwo 148 = .ok (.iastore, 1) := by decide +kernel
theorem dX4_ropesOfTwo_149 : decode cX4_ropesOfTwo 149 = .ok (.iload_n 3, 1) := by decide +kernel
theorem dX4_ropesOfTwo_150 : decode cX4_ropesOfTwo 150 = .ok (.ireturn, 1) := by decide +kernel
theorem dX4_fitsStubble_0 : decode cX4_fitsStubble 0 = .ok (.iconst 0, 1) := by decide +kernel
theorem dX4_fitsStubble_1 : decode cX4_fitsStubble 1 = .ok (.istore_n 3, 1) := by decide +kernel
theorem dX4_fitsStubble_2 : decode cX4_fitsStubble 2 = .ok (.iload_n 3, 1) := by decide +kernel
theorem dX4_fitsStubble_3 : decode cX4_fitsStubble 3 = .ok (.aload_n 0, 1) := by decide +kernel
theorem dX4_fitsStubble_4 : decode cX4_fitsStubble 4 = .ok (.getfield 82, 3) := by decide +kernel
theorem dX4_fitsStubble_7 : decode cX4_fitsStubble 7 = .ok (.if_icmp .ge 31, 3) := by decide +kernel
theorem dX4_fitsStubble_10 : decode cX4_fitsStubble 10 = .ok (.aload_n 0, 1) := by decide +kernel
theorem dX4_fitsStubble_11 : decode cX4_fitsStubble 11 = .ok (.getfield 51, 3) := by decide +kernel
theorem dX4_fitsStubble_14 : decode cX4_fitsStubble 14 = .ok (.iload_n 3, 1) := by decide +kernel
theorem dX4_fitsStubble_15 : decode cX4_fitsStubble 15 = .ok (.iaload, 1) := by decide +kernel
theorem dX4_fitsStubble_16 : decode cX4_fitsStubble 16 = .ok (.iload_n 1, 1) := by decide +kernel
theorem dX4_fitsStubble_17 : decode cX4_fitsStubble 17 = .ok (.if_icmp .ne 15, 3) := by decide +kernel
theorem dX4_fitsStubble_20 : decode cX4_fitsStubble 20 = .ok (.aload_n 0, 1) := by decide +kernel
theorem dX4_fitsStubble_21 : decode cX4_fitsStubble 21 = .ok (.getfield 55, 3) := by decide +kernel
theorem dX4_fitsStubble_24 : decode cX4_fitsStubble 24 = .ok (.iload_n 3, 1) := by decide +kernel
theorem dX4_fitsStubble_25 : decode cX4_fitsStubble 25 = .ok (.iaload, 1) := by decide +kernel
theorem dX4_fitsStubble_26 : decode cX4_fitsStubble 26 = .ok (.iload_n 2, 1) := by decide +kernel
theorem dX4_fitsStubble_27 : decode cX4_fitsStubble 27 = .ok (.if_icmp .eq 5, 3) := by decide +kernel
theorem dX4_fitsStubble_30 : decode cX4_fitsStubble 30 = .ok (.iconst 0, 1) := by decide +kernel
theorem dX4_fitsStubble_31 : decode cX4_fitsStubble 31 = .ok (.ireturn, 1) := by decide +kernel
theorem dX4_fitsStubble_32 : decode cX4_fitsStubble 32 = .ok (.iinc 3 1, 3) := by decide +kernel
theorem dX4_fitsStubble_35 : decode cX4_fitsStubble 35 = .ok (.goto (-33), 3) := by decide +kernel
theorem dX4_fitsStubble_38 : decode cX4_fitsStubble 38 = .ok (.iconst 1, 1) := by decide +kernel
theorem dX4_fitsStubble_39 : decode cX4_fitsStubble 39 = .ok (.ireturn, 1) := by decide +kernel
theorem dX4_storedBehind_0 : decode cX4_storedBehind 0 = .ok (.sipush (-9999), 3) := by decide +kernel
theorem dX4_storedBehind_3 : decode cX4_storedBehind 3 = .ok (.sipush 9999, 3) := by decide +kernel
theorem dX4_storedBehind_6 : decode cX4_storedBehind 6 = .ok (.iload_n 0, 1) := by decide +kernel
theorem dX4_storedBehind_7 : decode cX4_storedBehind 7 = .ok (.iload_n 1, 1) := by decide +kernel
theorem dX4_storedBehind_8 : decode cX4_storedBehind 8 = .ok (.iadd, 1) := by decide +kernel
theorem dX4_storedBehind_9 : decode cX4_storedBehind 9 = .ok (.invokestatic 248, 3) := by decide +kernel
theorem dX4_storedBehind_12 : decode cX4_storedBehind 12 = .ok (.invokestatic 253, 3) := by decide +kernel
theorem dX4_storedBehind_15 : decode cX4_storedBehind 15 = .ok (.ireturn, 1) := by decide +kernel
theorem dX4_yearsTillPoor_0 : decode cX4_yearsTillPoor 0 = .ok (.aload_n 0, 1) := by decide +kernel
theorem dX4_yearsTillPoor_1 : decode cX4_yearsTillPoor 1 = .ok (.aload_n 0, 1) := by decide +kernel
theorem dX4_yearsTillPoor_2 : decode cX4_yearsTillPoor 2 = .ok (.getfield 29, 3) := by decide +kernel
theorem dX4_yearsTillPoor_5 : decode cX4_yearsTillPoor 5 = .ok (.iload_n 1, 1) := by decide +kernel
theorem dX4_yearsTillPoor_6 : decode cX4_yearsTillPoor 6 = .ok (.invokevirtual 163, 3) := by decide +kernel
theorem dX4_yearsTillPoor_9 : decode cX4_yearsTillPoor 9 = .ok (.istore_n 2, 1) := by decide +kernel
theorem dX4_yearsTillPoor_10 : decode cX4_yearsTillPoor 10 = .ok (.aload_n 0, 1) := by decide +kernel
theorem dX4_yearsTillPoor_11 : decode cX4_yearsTillPoor 11 = .ok (.getfield 29, 3) := by decide +kernel
theorem dX4_yearsTillPoor_14 : decode cX4_yearsTillPoor 14 = .ok (.getfield 132, 3) := by decide +kernel
theorem dX4_yearsTillPoor_17 : decode cX4_yearsTillPoor 17 = .ok (.iload_n 1, 1) := by decide +kernel
theorem dX4_yearsTillPoor_18 : decode cX4_yearsTillPoor 18 = .ok (.iaload, 1) := by decide +kernel
theorem dX4_yearsTillPoor_19 : decode cX4_yearsTillPoor 19 = .ok (.istore_n 3, 1) := by decide +kernel
theorem dX4_yearsTillPoor_20 : decode cX4_yearsTillPoor 20 = .ok (.iconst 0, 1) := by decide +kernel
theorem dX4_yearsTillPoor_21 : decode cX4_yearsTillPoor 21 = .ok (.istore 4, 2) := by decide +kernel
theorem dX4_yearsTillPoor_23 : decode cX4_yearsTillPoor 23 = .ok (.iload 4, 2) := by decide +kernel
theorem dX4_yearsTillPoor_25 : decode cX4_yearsTillPoor 25 = .ok (.sipush 400, 3) := by decide +kernel
theorem dX4_yearsTillPoor_28 : decode cX4_yearsTillPoor 28 = .ok (.if_icmp .gt 22, 3) := by decide +kernel
theorem dX4_yearsTillPoor_31 : decode cX4_yearsTillPoor 31 = .ok (.iload_n 3, 1) := by decide +kernel
theorem dX4_yearsTillPoor_32 : decode cX4_yearsTillPoor 32 = .ok (.ifCond .ge 6, 3) := by decide +kernel
theorem dX4_yearsTillPoor_35 : decode cX4_yearsTillPoor 35 = .ok (.iload 4, 2) := by decide +kernel
theorem dX4_yearsTillPoor_37 : decode cX4_yearsTillPoor 37 = .ok (.ireturn, 1) := by decide +kernel
theorem dX4_yearsTillPoor_38 : decode cX4_yearsTillPoor 38 = .ok (.iload_n 3, 1) := by decide +kernel
theorem dX4_yearsTillPoor_39 : decode cX4_yearsTillPoor 39 = .ok (.iload_n 2, 1) := by decide +kernel
theorem dX4_yearsTillPoor_40 : decode cX4_yearsTillPoor 40 = .ok (.invokestatic 166, 3) := by decide +kernel
theorem dX4_yearsTillPoor_43 : decode cX4_yearsTillPoor 43 = .ok (.istore_n 3, 1) := by decide +kernel
theorem dX4_yearsTillPoor_44 : decode cX4_yearsTillPoor 44 = .ok (.iinc 4 1, 3) := by decide +kernel
theorem dX4_yearsTillPoor_47 : decode cX4_yearsTillPoor 47 = .ok (.goto (-24), 3) := by decide +kernel
theorem dX4_yearsTillPoor_50 : decode cX4_yearsTillPoor 50 = .ok (.bipush (-9), 2) := by decide +kernel
theorem dX4_yearsTillPoor_52 : decode cX4_yearsTillPoor 52 = .ok (.ireturn, 1) := by decide +kernel
theorem dX4_chancesOf_0 : decode cX4_chancesOf 0 = .ok (.aload_n 0, 1) := by decide +kernel
theorem dX4_chancesOf_1 : decode cX4_chancesOf 1 = .ok (.getfield 33, 3) := by decide +kernel
theorem dX4_chancesOf_4 : decode cX4_chancesOf 4 = .ok (.aload_n 0, 1) := by decide +kernel
theorem dX4_chancesOf_5 : decode cX4_chancesOf 5 = .ok (.getfield 29, 3) := by decide +kernel
theorem dX4_chancesOf_8 : decode cX4_chancesOf 8 = .ok (.invokevirtual 173, 3) := by decide +kernel
theorem dX4_chancesOf_11 : decode cX4_chancesOf 11 = .ok (.aload_n 0, 1) := by decide +kernel
theorem dX4_chancesOf_12 : decode cX4_chancesOf 12 = .ok (.getfield 33, 3) := by decide +kernel
theorem dX4_chancesOf_15 : decode cX4_chancesOf 15 = .ok (.iconst 0, 1) := by decide +kernel
theorem dX4_chancesOf_16 : decode cX4_chancesOf 16 = .ok (.putfield 138, 3) := by decide +kernel
theorem dX4_chancesOf_19 : decode cX4_chancesOf 19 = .ok (.aload_n 0, 1) := by decide +kernel
theorem dX4_chancesOf_20 : decode cX4_chancesOf 20 = .ok (.aload_n 0, 1) := by decide +kernel
theorem dX4_chancesOf_21 : decode cX4_chancesOf 21 = .ok (.getfield 33, 3) := by decide +kernel
theorem dX4_chancesOf_24 : decode cX4_chancesOf 24 = .ok (.iload_n 3, 1) := by decide +kernel
theorem dX4_chancesOf_25 : decode cX4_chancesOf 25 = .ok (.invokevirtual 163, 3) := by decide +kernel
theorem dX4_chancesOf_28 : decode cX4_chancesOf 28 = .ok (.istore 5, 2) := by decide +kernel
theorem dX4_chancesOf_30 : decode cX4_chancesOf 30 = .ok (.aload_n 0, 1) := by decide +kernel
theorem dX4_chancesOf_31 : decode cX4_chancesOf 31 = .ok (.getfield 33, 3) := by decide +kernel
theorem dX4_chancesOf_34 : decode cX4_chancesOf 34 = .ok (.iconst 1, 1) := by decide +kernel
theorem dX4_chancesOf_35 : decode cX4_chancesOf 35 = .ok (.putfield 138, 3) := by decide +kernel
theorem dX4_chancesOf_38 : decode cX4_chancesOf 38 = .ok (.aload_n 0, 1) := by decide +kernel
theorem dX4_chancesOf_39 : decode cX4_chancesOf 39 = .ok (.aload_n 0, 1) := by decide +kernel
theorem dX4_chancesOf_40 : decode cX4_chancesOf 40 = .ok (.getfield 33, 3) := by decide +kernel
theorem dX4_chancesOf_43 : decode cX4_chancesOf 43 = .ok (.iload_n 3, 1) := by decide +kernel
theorem dX4_chancesOf_44 : decode cX4_chancesOf 44 = .ok (.invokevirtual 163, 3) := by decide +kernel
theorem dX4_chancesOf_47 : decode cX4_chancesOf 47 = .ok (.istore 6, 2) := by decide +kernel
theorem dX4_chancesOf_49 : decode cX4_chancesOf 49 = .ok (.iconst 0, 1) := by decide +kernel
theorem dX4_chancesOf_50 : decode cX4_chancesOf 50 = .ok (.istore 7, 2) := by decide +kernel
theorem dX4_chancesOf_52 : decode cX4_chancesOf 52 = .ok (.iconst 0, 1) := by decide +kernel
theorem dX4_chancesOf_53 : decode cX4_chancesOf 53 = .ok (.istore 8, 2) := by decide +kernel
theorem dX4_chancesOf_55 : decode cX4_chancesOf 55 = .ok (.iload 8, 2) := by decide +kernel
theorem dX4_chancesOf_57 : decode cX4_chancesOf 57 = .ok (.iconst 1, 1) := by decide +kernel
theorem dX4_chancesOf_58 : decode cX4_chancesOf 58 = .ok (.iload_n 2, 1) := by decide +kernel
theorem dX4_chancesOf_59 : decode cX4_chancesOf 59 = .ok (.ishl, 1) := by decide +kernel
theorem dX4_chancesOf_60 : decode cX4_chancesOf 60 = .ok (.if_icmp .ge 107, 3) := by decide +kernel
theorem dX4_chancesOf_63 : decode cX4_chancesOf 63 = .ok (.iconst 1, 1) := by decide +kernel
theorem dX4_chancesOf_64 : decode cX4_chancesOf 64 = .ok (.istore 9, 2) := by decide +kernel
theorem dX4_chancesOf_66 : decode cX4_chancesOf 66 = .ok (.aload_n 0, 1) := by decide +kernel
theorem dX4_chancesOf_67 : decode cX4_chancesOf 67 = .ok (.getfield 29, 3) := by decide +kernel
theorem dX4_chancesOf_70 : decode cX4_chancesOf 70 = .ok (.getfield 132, 3) := by decide +kernel
theorem dX4_chancesOf_73 : decode cX4_chancesOf 73 = .ok (.iload_n 3, 1) := by decide +kernel
theorem dX4_chancesOf_74 : decode cX4_chancesOf 74 = .ok (.iaload, 1) := by decide +kernel
theorem dX4_chancesOf_75 : decode cX4_chancesOf 75 = .ok (.istore 10, 2) := by decide +kernel
theorem dX4_chancesOf_77 : decode cX4_chancesOf 77 = .ok (.iconst 0, 1) := by decide +kernel
theorem dX4_chancesOf_78 : decode cX4_chancesOf 78 = .ok (.istore 11, 2) := by decide +kernel
theorem dX4_chancesOf_80 : decode cX4_chancesOf 80 = .ok (.iload 11, 2) := by decide +kernel
theorem dX4_chancesOf_82 : decode cX4_chancesOf 82 = .ok (.iload_n 2, 1) := by decide +kernel
theorem dX4_chancesOf_83 : decode cX4_chancesOf 83 = .ok (.if_icmp .ge 64, 3) := by decide +kernel
theorem dX4_chancesOf_86 : decode cX4_chancesOf 86 = .ok (.iload 8, 2) := by decide +kernel
theorem dX4_chancesOf_88 : decode cX4_chancesOf 88 = .ok (.iload 11, 2) := by decide +kernel
theorem dX4_chancesOf_90 : decode cX4_chancesOf 90 = .ok (.ishr, 1) := by decide +kernel
theorem dX4_chancesOf_91 : decode cX4_chancesOf 91 = .ok (.iconst 1, 1) := by decide +kernel
theorem dX4_chancesOf_92 : decode cX4_chancesOf 92 = .ok (.iand, 1) := by decide +kernel
theorem dX4_chancesOf_93 : decode cX4_chancesOf 93 = .ok (.iconst 1, 1) := by decide +kernel
theorem dX4_chancesOf_94 : decode cX4_chancesOf 94 = .ok (.if_icmp .ne 7, 3) := by decide +kernel
theorem dX4_chancesOf_97 : decode cX4_chancesOf 97 = .ok (.iconst 1, 1) := by decide +kernel
theorem dX4_chancesOf_98 : decode cX4_chancesOf 98 = .ok (.goto 4, 3) := by decide +kernel
theorem dX4_chancesOf_101 : decode cX4_chancesOf 101 = .ok (.iconst 0, 1) := by decide +kernel
theorem dX4_chancesOf_102 : decode cX4_chancesOf 102 = .ok (.istore 12, 2) := by decide +kernel
theorem dX4_chancesOf_104 : decode cX4_chancesOf 104 = .ok (.iload 9, 2) := by decide +kernel
theorem dX4_chancesOf_106 : decode cX4_chancesOf 106 = .ok (.iload 12, 2) := by decide +kernel
theorem dX4_chancesOf_108 : decode cX4_chancesOf 108 = .ok (.ifCond .eq 7, 3) := by decide +kernel
theorem dX4_chancesOf_111 : decode cX4_chancesOf 111 = .ok (.iload_n 1, 1) := by decide +kernel
theorem dX4_chancesOf_112 : decode cX4_chancesOf 112 = .ok (.goto 7, 3) := by decide +kernel
theorem dX4_chancesOf_115 : decode cX4_chancesOf 115 = .ok (.bipush 10, 2) := by decide +kernel
theorem dX4_chancesOf_117 : decode cX4_chancesOf 117 = .ok (.iload_n 1, 1) := by decide +kernel
theorem dX4_chancesOf_118 : decode cX4_chancesOf 118 = .ok (.isub, 1) := by decide +kernel
theorem dX4_chancesOf_119 : decode cX4_chancesOf 119 = .ok (.imul, 1) := by decide +kernel
theorem dX4_chancesOf_120 : decode cX4_chancesOf 120 = .ok (.istore 9, 2) := by decide +kernel
theorem dX4_chancesOf_122 : decode cX4_chancesOf 122 = .ok (.iload 10, 2) := by decide +kernel
theorem dX4_chancesOf_124 : decode cX4_chancesOf 124 = .ok (.iload 12, 2) := by decide +kernel
theorem dX4_chancesOf_126 : decode cX4_chancesOf 126 = .ok (.ifCond .eq 8, 3) := by decide +kernel
theorem dX4_chancesOf_129 : decode cX4_chancesOf 129 = .ok (.iload 6, 2) := by decide +kernel
theorem dX4_chancesOf_131 : decode cX4_chancesOf 131 = .ok (.goto 5, 3) := by decide +kernel
theorem dX4_chancesOf_134 : decode cX4_chancesOf 134 = .ok (.iload 5, 2) := by decide +kernel
theorem dX4_chancesOf_136 : decode cX4_chancesOf 136 = .ok (.invokestatic 166, 3) := by decide +kernel
theorem dX4_chancesOf_139 : decode cX4_chancesOf 139 = .ok (.istore 10, 2) := by decide +kernel
theorem dX4_chancesOf_141 : decode cX4_chancesOf 141 = .ok (.iinc 11 1, 3) := by decide +kernel
theorem dX4_chancesOf_144 : decode cX4_chancesOf 144 = .ok (.goto (-64), 3) := by decide +kernel
theorem dX4_chancesOf_147 : decode cX4_chancesOf 147 = .ok (.iload 10, 2) := by decide +kernel
theorem dX4_chancesOf_149 : decode cX4_chancesOf 149 = .ok (.iload 4, 2) := by decide +kernel
theorem dX4_chancesOf_151 : decode cX4_chancesOf 151 = .ok (.if_icmp .lt 10, 3) := by decide +kernel
theorem dX4_chancesOf_154 : decode cX4_chancesOf 154 = .ok (.iload 7, 2) := by decide +kernel
theorem dX4_chancesOf_156 : decode cX4_chancesOf 156 = .ok (.iload 9, 2) := by decide +kernel
theorem dX4_chancesOf_158 : decode cX4_chancesOf 158 = .ok (.iadd, 1) := by decide +kernel
theorem dX4_chancesOf_159 : decode cX4_chancesOf 159 = .ok (.istore 7, 2) := by decide +kernel
theorem dX4_chancesOf_161 : decode cX4_chancesOf 161 = .ok (.iinc 8 1, 3) := by decide +kernel
theorem dX4_chancesOf_164 : decode cX4_chancesOf 164 = .ok (.goto (-109), 3) := by decide +kernel
theorem dX4_chancesOf_167 : decode cX4_chancesOf 167 = .ok (.iload 7, 2) := by decide +kernel
theorem dX4_chancesOf_169 : decode cX4_chancesOf 169 = .ok (.ireturn, 1) := by decide +kernel
theorem dX4_inLeastTerms_0 : decode cX4_inLeastTerms 0 = .ok (.iload_n 1, 1) := by decide +kernel
theorem dX4_inLeastTerms_1 : decode cX4_inLeastTerms 1 = .ok (.istore_n 3, 1) := by decide +kernel
theorem dX4_inLeastTerms_2 : decode cX4_inLeastTerms 2 = .ok (.iload_n 0, 1) := by decide +kernel
theorem dX4_inLeastTerms_3 : decode cX4_inLeastTerms 3 = .ok (.istore 4, 2) := by decide +kernel
theorem dX4_inLeastTerms_5 : decode cX4_inLeastTerms 5 = .ok (.iconst 0, 1) := by decide +kernel
theorem dX4_inLeastTerms_6 : decode cX4_inLeastTerms 6 = .ok (.istore 5, 2) := by decide +kernel
theorem dX4_inLeastTerms_8 : decode cX4_inLeastTerms 8 = .ok (.iload 5, 2) := by decide +kernel
theorem dX4_inLeastTerms_10 : decode cX4_inLeastTerms 10 = .ok (.bipush 64, 2) := by decide +kernel
theorem dX4_inLeastTerms_12 : decode cX4_inLeastTerms 12 = .ok (.if_icmp .ge 27, 3) := by decide +kernel
theorem dX4_inLeastTerms_15 : decode cX4_inLeastTerms 15 = .ok (.iload 4, 2) := by decide +kernel
theorem dX4_inLeastTerms_17 : decode cX4_inLeastTerms 17 = .ok (.ifCond .eq 22, 3) := by decide +kernel
theorem dX4_inLeastTerms_20 : decode cX4_inLeastTerms 20 = .ok (.iload_n 3, 1) := by decide +kernel
theorem dX4_inLeastTerms_21 : decode cX4_inLeastTerms 21 = .ok (.iload 4, 2) := by decide +kernel
theorem dX4_inLeastTerms_23 : decode cX4_inLeastTerms 23 = .ok (.irem, 1) := by decide +kernel
theorem dX4_inLeastTerms_24 : decode cX4_inLeastTerms 24 = .ok (.istore 6, 2) := by decide +kernel
theorem dX4_inLeastTerms_26 : decode cX4_inLeastTerms 26 = .ok (.iload 4, 2) := by decide +kernel
theorem dX4_inLeastTerms_28 : decode cX4_inLeastTerms 28 = .ok (.istore_n 3, 1) := by decide +kernel
theorem dX4_inLeastTerms_29 : decode cX4_inLeastTerms 29 = .ok (.iload 6, 2) := by decide +kernel
theorem dX4_inLeastTerms_31 : decode cX4_inLeastTerms 31 = .ok (.istore 4, 2) := by decide +kernel
theorem dX4_inLeastTerms_33 : decode cX4_inLeastTerms 33 = .ok (.iinc 5 1, 3) := by decide +kernel
theorem dX4_inLeastTerms_36 : decode cX4_inLeastTerms 36 = .ok (.goto (-28), 3) := by decide +kernel
theorem dX4_inLeastTerms_39 : decode cX4_inLeastTerms 39 = .ok (.iload_n 3, 1) := by decide +kernel
theorem dX4_inLeastTerms_40 : decode cX4_inLeastTerms 40 = .ok (.ifCond .ne 5, 3) := by decide +kernel
theorem dX4_inLeastTerms_43 : decode cX4_inLeastTerms 43 = .ok (.iload_n 2, 1) := by decide +kernel
theorem dX4_inLeastTerms_44 : decode cX4_inLeastTerms 44 = .ok (.ireturn, 1) := by decide +kernel
theorem dX4_inLeastTerms_45 : decode cX4_inLeastTerms 45 = .ok (.iload_n 2, 1) := by decide +kernel
theorem dX4_inLeastTerms_46 : decode cX4_inLeastTerms 46 = .ok (.ifCond .ne 9, 3) := by decide +kernel
theorem dX4_inLeastTerms_49 : decode cX4_inLeastTerms 49 = .ok (.iload_n 0, 1) := by decide +kernel
theorem dX4_inLeastTerms_50 : decode cX4_inLeastTerms 50 = .ok (.iload_n 3, 1) := by decide +kernel
theorem dX4_inLeastTerms_51 : decode cX4_inLeastTerms 51 = .ok (.idiv, 1) := by decide +kernel
theorem dX4_inLeastTerms_52 : decode cX4_inLeastTerms 52 = .ok (.goto 6, 3) := by decide +kernel
theorem dX4_inLeastTerms_55 : decode cX4_inLeastTerms 55 = .ok (.iload_n 1, 1) := by decide +kernel
theorem dX4_inLeastTerms_56 : decode cX4_inLeastTerms 56 = .ok (.iload_n 3, 1) := by decide +kernel
theorem dX4_inLeastTerms_57 : decode cX4_inLeastTerms 57 = .ok (.idiv, 1) := by decide +kernel
theorem dX4_inLeastTerms_58 : decode cX4_inLeastTerms 58 = .ok (.ireturn, 1) := by decide +kernel
theorem dX4_rateMan_0 : decode cX4_rateMan 0 = .ok (.aload_n 0, 1) := by decide +kernel
theorem dX4_rateMan_1 : decode cX4_rateMan 1 = .ok (.dup, 1) := by decide +kernel
theorem dX4_rateMan_2 : decode cX4_rateMan 2 = .ok (.getfield 241, 3) := by decide +kernel
theorem dX4_rateMan_5 : decode cX4_rateMan 5 = .ok (.lconst 1, 1) := by decide +kernel
theorem dX4_rateMan_6 : decode cX4_rateMan 6 = .ok (.ladd, 1) := by decide +kernel
theorem dX4_rateMan_7 : decode cX4_rateMan 7 = .ok (.putfield 241, 3) := by decide +kernel
theorem dX4_rateMan_10 : decode cX4_rateMan 10 = .ok (.aload_n 0, 1) := by decide +kernel
theorem dX4_rateMan_11 : decode cX4_rateMan 11 = .ok (.aload_n 0, 1) := by decide +kernel
theorem dX4_rateMan_12 : decode cX4_rateMan 12 = .ok (.getfield 29, 3) := by decide +kernel
theorem dX4_rateMan_15 : decode cX4_rateMan 15 = .ok (.iload_n 1, 1) := by decide +kernel
theorem dX4_rateMan_16 : decode cX4_rateMan 16 = .ok (.invokevirtual 129, 3) := by decide +kernel
theorem dX4_rateMan_19 : decode cX4_rateMan 19 = .ok (.ireturn, 1) := by decide +kernel
theorem dX4_rateGiant_0 : decode cX4_rateGiant 0 = .ok (.aload_n 0, 1) := by decide +kernel
theorem dX4_rateGiant_1 : decode cX4_rateGiant 1 = .ok (.dup, 1) := by decide +kernel
theorem dX4_rateGiant_2 : decode cX4_rateGiant 2 = .ok (.getfield 241, 3) := by decide +kernel
theorem dX4_rateGiant_5 : decode cX4_rateGiant 5 = .ok (.ldc2_w 277, 3) := by decide +kernel
theorem dX4_rateGiant_8 : decode cX4_rateGiant 8 = .ok (.ladd, 1) := by decide +kernel
theorem dX4_rateGiant_9 : decode cX4_rateGiant 9 = .ok (.putfield 241, 3) := by decide +kernel
theorem dX4_rateGiant_12 : decode cX4_rateGiant 12 = .ok (.aload_n 0, 1) := by decide +kernel
theorem dX4_rateGiant_13 : decode cX4_rateGiant 13 = .ok (.iload_n 1, 1) := by decide +kernel
theorem dX4_rateGiant_14 : decode cX4_rateGiant 14 = .ok (.invokevirtual 223, 3) := by decide +kernel
theorem dX4_rateGiant_17 : decode cX4_rateGiant 17 = .ok (.aload_n 0, 1) := by decide +kernel
theorem dX4_rateGiant_18 : decode cX4_rateGiant 18 = .ok (.getfield 19, 3) := by decide +kernel
theorem dX4_rateGiant_21 : decode cX4_rateGiant 21 = .ok (.getfield 89, 3) := by decide +kernel
theorem dX4_rateGiant_24 : decode cX4_rateGiant 24 = .ok (.iload_n 1, 1) := by decide +kernel
theorem dX4_rateGiant_25 : decode cX4_rateGiant 25 = .ok (.iaload, 1) := by decide +kernel
theorem dX4_rateGiant_26 : decode cX4_rateGiant 26 = .ok (.iadd, 1) := by decide +kernel
theorem dX4_rateGiant_27 : decode cX4_rateGiant 27 = .ok (.ireturn, 1) := by decide +kernel
theorem dX4_rateWidow_0 : decode cX4_rateWidow 0 = .ok (.aload_n 0, 1) := by decide +kernel
theorem dX4_rateWidow_1 : decode cX4_rateWidow 1 = .ok (.dup, 1) := by decide +kernel
theorem dX4_rateWidow_2 : decode cX4_rateWidow 2 = .ok (.getfield 241, 3) := by decide +kernel
theorem dX4_rateWidow_5 : decode cX4_rateWidow 5 = .ok (.ldc2_w 279, 3) := by decide +kernel
theorem dX4_rateWidow_8 : decode cX4_rateWidow 8 = .ok (.ladd, 1) := by decide +kernel
theorem dX4_rateWidow_9 : decode cX4_rateWidow 9 = .ok (.putfield 241, 3) := by decide +kernel
theorem dX4_rateWidow_12 : decode cX4_rateWidow 12 = .ok (.aload_n 0, 1) := by decide +kernel
theorem dX4_rateWidow_13 : decode cX4_rateWidow 13 = .ok (.iload_n 1, 1) := by decide +kernel
theorem dX4_rateWidow_14 : decode cX4_rateWidow 14 = .ok (.invokevirtual 223, 3) := by decide +kernel
theorem dX4_rateWidow_17 : decode cX4_rateWidow 17 = .ok (.aload_n 0, 1) := by decide +kernel
theorem dX4_rateWidow_18 : decode cX4_rateWidow 18 = .ok (.getfield 19, 3) := by decide +kernel
theorem dX4_rateWidow_21 : decode cX4_rateWidow 21 = .ok (.getfield 95, 3) := by decide +kernel
theorem dX4_rateWidow_24 : decode cX4_rateWidow 24 = .ok (.iload_n 1, 1) := by decide +kernel
theorem dX4_rateWidow_25 : decode cX4_rateWidow 25 = .ok (.iaload, 1) := by decide +kernel
theorem dX4_rateWidow_26 : decode cX4_rateWidow 26 = .ok (.isub, 1) := by decide +kernel
theorem dX4_rateWidow_27 : decode cX4_rateWidow 27 = .ok (.ireturn, 1) := by decide +kernel
theorem dX4_rateBrother_0 : decode cX4_rateBrother 0 = .ok (.aload_n 0, 1) := by decide +kernel
theorem dX4_rateBrother_1 : decode cX4_rateBrother 1 = .ok (.dup, 1) := by decide +kernel
theorem dX4_rateBrother_2 : decode cX4_rateBrother 2 = .ok (.getfield 241, 3) := by decide +kernel
theorem dX4_rateBrother_5 : decode cX4_rateBrother 5 = .ok (.ldc2_w 281, 3) := by decide +kernel
theorem dX4_rateBrother_8 : decode cX4_rateBrother 8 = .ok (.ladd, 1) := by decide +kernel
theorem dX4_rateBrother_9 : decode cX4_rateBrother 9 = .ok (.putfield 241, 3) := by decide +kernel
theorem dX4_rateBrother_12 : decode cX4_rateBrother 12 = .ok (.iconst 2, 1) := by decide +kernel
theorem dX4_rateBrother_13 : decode cX4_rateBrother 13 = .ok (.aload_n 0, 1) := by decide +kernel
theorem dX4_rateBrother_14 : decode cX4_rateBrother 14 = .ok (.iload_n 1, 1) := by decide +kernel
theorem dX4_rateBrother_15 : decode cX4_rateBrother 15 = .ok (.invokevirtual 226, 3) := by decide +kernel
theorem dX4_rateBrother_18 : decode cX4_rateBrother 18 = .ok (.imul, 1) := by decide +kernel
theorem dX4_rateBrother_19 : decode cX4_rateBrother 19 = .ok (.ireturn, 1) := by decide +kernel
theorem dX4_rateGleaner_0 : decode cX4_rateGleaner 0 = .ok (.aload_n 0, 1) := by decide +kernel
theorem dX4_rateGleaner_1 : decode cX4_rateGleaner 1 = .ok (.dup, 1) := by decide +kernel
theorem dX4_rateGleaner_2 : decode cX4_rateGleaner 2 = .ok (.getfield 241, 3) := by decide +kernel
theorem dX4_rateGleaner_5 : decode cX4_rateGleaner 5 = .ok (.ldc2_w 283, 3) := by decide +kernel
theorem dX4_rateGleaner_8 : decode cX4_rateGleaner 8 = .ok (.ladd, 1) := by decide +kernel
theorem dX4_rateGleaner_9 : decode cX4_rateGleaner 9 = .ok (.putfield 241, 3) := by decide +kernel
theorem dX4_rateGleaner_12 : decode cX4_rateGleaner 12 = .ok (.aload_n 0, 1) := by decide +kernel
theorem dX4_rateGleaner_13 : decode cX4_rateGleaner 13 = .ok (.iload_n 1, 1) := by decide +kernel
theorem dX4_rateGleaner_14 : decode cX4_rateGleaner 14 = .ok (.invokevirtual 229, 3) := by decide +kernel
theorem dX4_rateGleaner_17 : decode cX4_rateGleaner 17 = .ok (.iload_n 1, 1) := by decide +kernel
theorem dX4_rateGleaner_18 : decode cX4_rateGleaner 18 = .ok (.iadd, 1) := by decide +kernel
theorem dX4_rateGleaner_19 : decode cX4_rateGleaner 19 = .ok (.ireturn, 1) := by decide +kernel
theorem dX4_rateGuest_0 : decode cX4_rateGuest 0 = .ok (.aload_n 0, 1) := by decide +kernel
theorem dX4_rateGuest_1 : decode cX4_rateGuest 1 = .ok (.dup, 1) := by decide +kernel
theorem dX4_rateGuest_2 : decode cX4_rateGuest 2 = .ok (.getfield 241, 3) := by decide +kernel
theorem dX4_rateGuest_5 : decode cX4_rateGuest 5 = .ok (.ldc2_w 285, 3) := by decide +kernel
theorem dX4_rateGuest_8 : decode cX4_rateGuest 8 = .ok (.ladd, 1) := by decide +kernel
theorem dX4_rateGuest_9 : decode cX4_rateGuest 9 = .ok (.putfield 241, 3) := by decide +kernel
theorem dX4_rateGuest_12 : decode cX4_rateGuest 12 = .ok (.aload_n 0, 1) := by decide +kernel
theorem dX4_rateGuest_13 : decode cX4_rateGuest 13 = .ok (.iload_n 1, 1) := by decide +kernel
theorem dX4_rateGuest_14 : decode cX4_rateGuest 14 = .ok (.invokevirtual 223, 3) := by decide +kernel
theorem dX4_rateGuest_17 : decode cX4_rateGuest 17 = .ok (.aload_n 0, 1) := by decide +kernel
theorem dX4_rateGuest_18 : decode cX4_rateGuest 18 = .ok (.getfield 29, 3) := by decide +kernel
theorem dX4_rateGuest_21 : decode cX4_rateGuest 21 = .ok (.getfield 135, 3) := by decide +kernel
theorem dX4_rateGuest_24 : decode cX4_rateGuest 24 = .ok (.iadd, 1) := by decide +kernel
theorem dX4_rateGuest_25 : decode cX4_rateGuest 25 = .ok (.ireturn, 1) := by decide +kernel
