theorem dX0_init_0 : decode cX0_init 0 = .ok (.aload_n 0, 1) := by decide +kernel
theorem dX0_init_1 : decode cX0_init 1 = .ok (.invokespecial 3, 3) := by decide +kernel
theorem dX0_init_4 : decode cX0_init 4 = .ok (.aload_n 0, 1) := by decide +kernel
theorem dX0_init_5 : decode cX0_init 5 = .ok (.bipush 10, 2) := by decide +kernel
theorem dX0_init_7 : decode cX0_init 7 = .ok (.anewarray 9, 3) := by decide +kernel
theorem dX0_init_10 : decode cX0_init 10 = .ok (.putfield 11, 3) := by decide +kernel
theorem dX0_init_13 : decode cX0_init 13 = .ok (.iconst 0, 1) := by decide +kernel
theorem dX0_init_14 : decode cX0_init 14 = .ok (.istore_n 1, 1) := by decide +kernel
theorem dX0_init_15 : decode cX0_init 15 = .ok (.iload_n 1, 1) := by decide +kernel
theorem dX0_init_16 : decode cX0_init 16 = .ok (.bipush 10, 2) := by decide +kernel
theorem dX0_init_18 : decode cX0_init 18 = .ok (.if_icmp .ge 22, 3) := by decide +kernel
theorem dX0_init_21 : decode cX0_init 21 = .ok (.aload_n 0, 1) := by decide +kernel
theorem dX0_init_22 : decode cX0_init 22 = .ok (.getfield 11, 3) := by decide +kernel
theorem dX0_init_25 : decode cX0_init 25 = .ok (.iload_n 1, 1) := by decide +kernel
theorem dX0_init_26 : decode cX0_init 26 = .ok (.new 9, 3) := by decide +kernel
theorem dX0_init_29 : decode cX0_init 29 = .ok (.dup, 1) := by decide +kernel
theorem dX0_init_30 : decode cX0_init 30 = .ok (.invokespecial 17, 3) := by decide +kernel
theorem dX0_init_33 : decode cX0_init 33 = .ok (.aastore, 1) := by decide +kernel
theorem dX0_init_34 : decode cX0_init 34 = .ok (.iinc 1 1, 3) := by decide +kernel
theorem dX0_init_37 : decode cX0_init 37 = .ok (.goto (-22), 3) := by decide +kernel
theorem dX0_init_40 : decode cX0_init 40 = .ok (.return_, 1) := by decide +kernel
theorem dX0_add_0 : decode cX0_add 0 = .ok (.aload_n 0, 1) := by decide +kernel
theorem dX0_add_1 : decode cX0_add 1 = .ok (.getfield 11, 3) := by decide +kernel
theorem dX0_add_4 : decode cX0_add 4 = .ok (.aload_n 0, 1) := by decide +kernel
theorem dX0_add_5 : decode cX0_add 5 = .ok (.getfield 18, 3) := by decide +kernel
theorem dX0_add_8 : decode cX0_add 8 = .ok (.aaload, 1) := by decide +kernel
theorem dX0_add_9 : decode cX0_add 9 = .ok (.aload_n 1, 1) := by decide +kernel
theorem dX0_add_10 : decode cX0_add 10 = .ok (.invokevirtual 22, 3) := by decide +kernel
theorem dX0_add_13 : decode cX0_add 13 = .ok (.aload_n 0, 1) := by decide +kernel
theorem dX0_add_14 : decode cX0_add 14 = .ok (.aload_n 0, 1) := by decide +kernel
theorem dX0_add_15 : decode cX0_add 15 = .ok (.getfield 18, 3) := by decide +kernel
theorem dX0_add_18 : decode cX0_add 18 = .ok (.iconst 1, 1) := by decide +kernel
theorem dX0_add_19 : decode cX0_add 19 = .ok (.iadd, 1) := by decide +kernel
theorem dX0_add_20 : decode cX0_add 20 = .ok (.bipush 10, 2) := by decide +kernel
theorem dX0_add_22 : decode cX0_add 22 = .ok (.irem, 1) := by decide +kernel
theorem dX0_add_23 : decode cX0_add 23 = .ok (.putfield 18, 3) := by decide +kernel
theorem dX0_add_26 : decode cX0_add 26 = .ok (.aload_n 0, 1) := by decide +kernel
theorem dX0_add_27 : decode cX0_add 27 = .ok (.aload_n 0, 1) := by decide +kernel
theorem dX0_add_28 : decode cX0_add 28 = .ok (.getfield 26, 3) := by decide +kernel
theorem dX0_add_31 : decode cX0_add 31 = .ok (.iconst 1, 1) := by decide +kernel
theorem dX0_add_32 : decode cX0_add 32 = .ok (.iadd, 1) := by decide +kernel
theorem dX0_add_33 : decode cX0_add 33 = .ok (.bipush 10, 2) := by decide +kernel
theorem dX0_add_35 : decode cX0_add 35 = .ok (.invokestatic 29, 3) := by decide +kernel
theorem dX0_add_38 : decode cX0_add 38 = .ok (.putfield 26, 3) := by decide +kernel
theorem dX0_add_41 : decode cX0_add 41 = .ok (.return_, 1) := by decide +kernel
theorem dX0_takeLatest_0 : decode cX0_takeLatest 0 = .ok (.aload_n 0, 1) := by decide +kernel
theorem dX0_takeLatest_1 : decode cX0_takeLatest 1 = .ok (.getfield 26, 3) := by decide +kernel
theorem dX0_takeLatest_4 : decode cX0_takeLatest 4 = .ok (.ifCond .ne 4, 3) := by decide +kernel
theorem dX0_takeLatest_7 : decode cX0_takeLatest 7 = .ok (.return_, 1) := by decide +kernel
theorem dX0_takeLatest_8 : decode cX0_takeLatest 8 = .ok (.aload_n 0, 1) := by decide +kernel
theorem dX0_takeLatest_9 : decode cX0_takeLatest 9 = .ok (.aload_n 0, 1) := by decide +kernel
theorem dX0_takeLatest_10 : decode cX0_takeLatest 10 = .ok (.getfield 18, 3) := by decide +kernel
theorem dX0_takeLatest_13 : decode cX0_takeLatest 13 = .ok (.bipush 10, 2) := by decide +kernel
theorem dX0_takeLatest_15 : decode cX0_takeLatest 15 = .ok (.iadd, 1) := by decide +kernel
theorem dX0_takeLatest_16 : decode cX0_takeLatest 16 = .ok (.iconst 1, 1) := by decide +kernel
theorem dX0_takeLatest_17 : decode cX0_takeLatest 17 = .ok (.isub, 1) := by decide +kernel
theorem dX0_takeLatest_18 : decode cX0_takeLatest 18 = .ok (.bipush 10, 2) := by decide +kernel
theorem dX0_takeLatest_20 : decode cX0_takeLatest 20 = .ok (.irem, 1) := by decide +kernel
theorem dX0_takeLatest_21 : decode cX0_takeLatest 21 = .ok (.putfield 18, 3) := by decide +kernel
theorem dX0_takeLatest_24 : decode cX0_takeLatest 24 = .ok (.aload_n 0, 1) := by decide +kernel
theorem dX0_takeLatest_25 : decode cX0_takeLatest 25 = .ok (.dup, 1) := by decide +kernel
theorem dX0_takeLatest_26 : decode cX0_takeLatest 26 = .ok (.getfield 26, 3) := by decide +kernel
theorem dX0_takeLatest_29 : decode cX0_takeLatest 29 = .ok (.iconst 1, 1) := by decide +kernel
theorem dX0_takeLatest_30 : decode cX0_takeLatest 30 = .ok (.isub, 1) := by decide +kernel
theorem dX0_takeLatest_31 : decode cX0_takeLatest 31 = .ok (.putfield 26, 3) := by decide +kernel
theorem dX0_takeLatest_34 : decode cX0_takeLatest 34 = .ok (.aload_n 1, 1) := by decide +kernel
theorem dX0_takeLatest_35 : decode cX0_takeLatest 35 = .ok (.aload_n 0, 1) := by decide +kernel
theorem dX0_takeLatest_36 : decode cX0_takeLatest 36 = .ok (.getfield 11, 3) := by decide +kernel
theorem dX0_takeLatest_39 : decode cX0_takeLatest 39 = .ok (.aload_n 0, 1) := by decide +kernel
theorem dX0_takeLatest_40 : decode cX0_takeLatest 40 = .ok (.getfield 18, 3) := by decide +kernel
theorem dX0_takeLatest_43 : decode cX0_takeLatest 43 = .ok (.aaload, 1) := by decide +kernel
theorem dX0_takeLatest_44 : decode cX0_takeLatest 44 = .ok (.invokevirtual 22, 3) := by decide +kernel
theorem dX0_takeLatest_47 : decode cX0_takeLatest 47 = .ok (.return_, 1) := by decide +kernel
theorem dX1_init_0 : decode cX1_init 0 = .ok (.aload_n 0, 1) := by decide +kernel
theorem dX1_init_1 : decode cX1_init 1 = .ok (.invokespecial 3, 3) := by decide +kernel
theorem dX1_init_4 : decode cX1_init 4 = .ok (.aload_n 0, 1) := by decide +kernel
theorem dX1_init_5 : decode cX1_init 5 = .ok (.bipush 6, 2) := by decide +kernel
theorem dX1_init_7 : decode cX1_init 7 = .ok (.newarray .int, 2) := by decide +kernel
theorem dX1_init_9 : decode cX1_init 9 = .ok (.putfield 9, 3) := by decide +kernel
theorem dX1_init_12 : decode cX1_init 12 = .ok (.aload_n 0, 1) := by decide +kernel
theorem dX1_init_13 : decode cX1_init 13 = .ok (.bipush 6, 2) := by decide +kernel
theorem dX1_init_15 : decode cX1_init 15 = .ok (.newarray .int, 2) := by decide +kernel
theorem dX1_init_17 : decode cX1_init 17 = .ok (.putfield 15, 3) := by decide +kernel
theorem dX1_init_20 : decode cX1_init 20 = .ok (.aload_n 0, 1) := by decide +kernel
theorem dX1_init_21 : decode cX1_init 21 = .ok (.bipush 6, 2) := by decide +kernel
theorem dX1_init_23 : decode cX1_init 23 = .ok (.newarray .int, 2) := by decide +kernel
theorem dX1_init_25 : decode cX1_init 25 = .ok (.putfield 18, 3) := by decide +kernel
theorem dX1_init_28 : decode cX1_init 28 = .ok (.aload_n 0, 1) := by decide +kernel
theorem dX1_init_29 : decode cX1_init 29 = .ok (.bipush 6, 2) := by decide +kernel
theorem dX1_init_31 : decode cX1_init 31 = .ok (.newarray .int, 2) := by decide +kernel
theorem dX1_init_33 : decode cX1_init 33 = .ok (.putfield 21, 3) := by decide +kernel
theorem dX1_init_36 : decode cX1_init 36 = .ok (.aload_n 0, 1) := by decide +kernel
theorem dX1_init_37 : decode cX1_init 37 = .ok (.bipush 6, 2) := by decide +kernel
theorem dX1_init_39 : decode cX1_init 39 = .ok (.newarray .int, 2) := by decide +kernel
theorem dX1_init_41 : decode cX1_init 41 = .ok (.putfield 24, 3) := by decide +kernel
theorem dX1_init_44 : decode cX1_init 44 = .ok (.return_, 1) := by decide +kernel
theorem dX1_begin_0 : decode cX1_begin 0 = .ok (.iconst 0, 1) := by decide +kernel
theorem dX1_begin_1 : decode cX1_begin 1 = .ok (.istore_n 2, 1) := by decide +kernel
theorem dX1_begin_2 : decode cX1_begin 2 = .ok (.iload_n 2, 1) := by decide +kernel
theorem dX1_begin_3 : decode cX1_begin 3 = .ok (.bipush 6, 2) := by decide +kernel
theorem dX1_begin_5 : decode cX1_begin 5 = .ok (.if_icmp .ge 75, 3) := by decide +kernel
theorem dX1_begin_8 : decode cX1_begin 8 = .ok (.iload_n 2, 1) := by decide +kernel
theorem dX1_begin_9 : decode cX1_begin 9 = .ok (.iconst 2, 1) := by decide +kernel
theorem dX1_begin_10 : decode cX1_begin 10 = .ok (.irem, 1) := by decide +kernel
theorem dX1_begin_11 : decode cX1_begin 11 = .ok (.ifCond .ne 9, 3) := by decide +kernel
theorem dX1_begin_14 : decode cX1_begin 14 = .ok (.iload_n 2, 1) := by decide +kernel
theorem dX1_begin_15 : decode cX1_begin 15 = .ok (.iconst 1, 1) := by decide +kernel
theorem dX1_begin_16 : decode cX1_begin 16 = .ok (.iadd, 1) := by decide +kernel
theorem dX1_begin_17 : decode cX1_begin 17 = .ok (.goto 6, 3) := by decide +kernel
theorem dX1_begin_20 : decode cX1_begin 20 = .ok (.iload_n 2, 1) := by decide +kernel
theorem dX1_begin_21 : decode cX1_begin 21 = .ok (.iconst 1, 1) := by decide +kernel
theorem dX1_begin_22 : decode cX1_begin 22 = .ok (.isub, 1) := by decide +kernel
theorem dX1_begin_23 : decode cX1_begin 23 = .ok (.istore_n 3, 1) := by decide +kernel
theorem dX1_begin_24 : decode cX1_begin 24 = .ok (.aload_n 0, 1) := by decide +kernel
theorem dX1_begin_25 : decode cX1_begin 25 = .ok (.getfield 15, 3) := by decide +kernel
theorem dX1_begin_28 : decode cX1_begin 28 = .ok (.iload_n 2, 1) := by decide +kernel
theorem dX1_begin_29 : decode cX1_begin 29 = .ok (.iload_n 2, 1) := by decide +kernel
theorem dX1_begin_30 : decode cX1_begin 30 = .ok (.iload_n 1, 1) := by decide +kernel
theorem dX1_begin_31 : decode cX1_begin 31 = .ok (.if_icmp .ge 12, 3) := by decide +kernel
theorem dX1_begin_34 : decode cX1_begin 34 = .ok (.iload_n 3, 1) := by decide +kernel
theorem dX1_begin_35 : decode cX1_begin 35 = .ok (.iload_n 1, 1) := by decide +kernel
theorem dX1_begin_36 : decode cX1_begin 36 = .ok (.if_icmp .ge 7, 3) := by decide +kernel
theorem dX1_begin_39 : decode cX1_begin 39 = .ok (.iload_n 3, 1) := by decide +kernel
theorem dX1_begin_40 : decode cX1_begin 40 = .ok (.goto 5, 3) := by decide +kernel
theorem dX1_begin_43 : decode cX1_begin 43 = .ok (.bipush (-9), 2) := by decide +kernel
theorem dX1_begin_45 : decode cX1_begin 45 = .ok (.iastore, 1) := by decide +kernel
theorem dX1_begin_46 : decode cX1_begin 46 = .ok (.aload_n 0, 1) := by decide +kernel
theorem dX1_begin_47 : decode cX1_begin 47 = .ok (.getfield 9, 3) := by decide +kernel
theorem dX1_begin_50 : decode cX1_begin 50 = .ok (.iload_n 2, 1) := by decide +kernel
theorem dX1_begin_51 : decode cX1_begin 51 = .ok (.iconst 0, 1) := by decide +kernel
theorem dX1_begin_52 : decode cX1_begin 52 = .ok (.iastore, 1) := by decide +kernel
theorem dX1_begin_53 : decode cX1_begin 53 = .ok (.aload_n 0, 1) := by decide +kernel
theorem dX1_begin_54 : decode cX1_begin 54 = .ok (.getfield 18, 3) := by decide +kernel
theorem dX1_begin_57 : decode cX1_begin 57 = .ok (.iload_n 2, 1) := by decide +kernel
theorem dX1_begin_58 : decode cX1_begin 58 = .ok (.iconst 0, 1) := by decide +kernel
theorem dX1_begin_59 : decode cX1_begin 59 = .ok (.iastore, 1) := by decide +kernel
theorem dX1_begin_60 : decode cX1_begin 60 = .ok (.aload_n 0, 1) := by decide +kernel
theorem dX1_begin_61 : decode cX1_begin 61 = .ok (.getfield 21, 3) := by decide +kernel
theorem dX1_begin_64 : decode cX1_begin 64 = .ok (.iload_n 2, 1) := by decide +kernel
theorem dX1_begin_65 : decode cX1_begin 65 = .ok (.iconst 0, 1) := by decide +kernel
theorem dX1_begin_66 : decode cX1_begin 66 = .ok (.iastore, 1) := by decide +kernel
theorem dX1_begin_67 : decode cX1_begin 67 = .ok (.aload_n 0, 1) := by decide +kernel
theorem dX1_begin_68 : decode cX1_begin 68 = .ok (.getfield 24, 3) := by decide +kernel
theorem dX1_begin_71 : decode cX1_begin 71 = .ok (.iload_n 2, 1) := by decide +kernel
theorem dX1_begin_72 : decode cX1_begin 72 = .ok (.iconst 0, 1) := by decide +kernel
theorem dX1_begin_73 : decode cX1_begin 73 = .ok (.iastore, 1) := by decide +kernel
theorem dX1_begin_74 : decode cX1_begin 74 = .ok (.iinc 2 1, 3) := by decide +kernel
theorem dX1_begin_77 : decode cX1_begin 77 = .ok (.goto (-75), 3) := by decide +kernel
theorem dX1_begin_80 : decode cX1_begin 80 = .ok (.aload_n 0, 1) := by decide +kernel
theorem dX1_begin_81 : decode cX1_begin 81 = .ok (.iconst 0, 1) := by decide +kernel
theorem dX1_begin_82 : decode cX1_begin 82 = .ok (.putfield 27, 3) := by decide +kernel
theorem dX1_begin_85 : decode cX1_begin 85 = .ok (.aload_n 0, 1) := by decide +kernel
theorem dX1_begin_86 : decode cX1_begin 86 = .ok (.iconst 0, 1) := by decide +kernel
theorem dX1_begin_87 : decode cX1_begin 87 = .ok (.putfield 31, 3) := by decide +kernel
theorem dX1_begin_90 : decode cX1_begin 90 = .ok (.return_, 1) := by decide +kernel
theorem dX1_copyFrom_0 : decode cX1_copyFrom 0 = .ok (.aload_n 1, 1) := by decide +kernel
theorem dX1_copyFrom_1 : decode cX1_copyFrom 1 = .ok (.getfield 9, 3) := by decide +kernel
theorem dX1_copyFrom_4 : decode cX1_copyFrom 4 = .ok (.iconst 0, 1) := by decide +kernel
theorem dX1_copyFrom_5 : decode cX1_copyFrom 5 = .ok (.aload_n 0, 1) := by decide +kernel
theorem dX1_copyFrom_6 : decode cX1_copyFrom 6 = .ok (.getfield 9, 3) := by decide +kernel
theorem dX1_copyFrom_9 : decode cX1_copyFrom 9 = .ok (.iconst 0, 1) := by decide +kernel
theorem dX1_copyFrom_10 : decode cX1_copyFrom 10 = .ok (.bipush 6, 2) := by decide +kernel
theorem dX1_copyFrom_12 : decode cX1_copyFrom 12 = .ok (.invokestatic 34, 3) := by decide +kernel
theorem dX1_copyFrom_15 : decode cX1_copyFrom 15 = .ok (.aload_n 1, 1) := by decide +kernel
theorem dX1_copyFrom_16 : decode cX1_copyFrom 16 = .ok (.getfield 15, 3) := by decide +kernel
theorem dX1_copyFrom_19 : decode cX1_copyFrom 19 = .ok (.iconst 0, 1) := by decide +kernel
theorem dX1_copyFrom_20 : decode cX1_copyFrom 20 = .ok (.aload_n 0, 1) := by decide +kernel
theorem dX1_copyFrom_21 : decode cX1_copyFrom 21 = .ok (.getfield 15, 3) := by decide +kernel
theorem dX1_copyFrom_24 : decode cX1_copyFrom 24 = .ok (.iconst 0, 1) := by decide +kernel
theorem dX1_copyFrom_25 : decode cX1_copyFrom 25 = .ok (.bipush 6, 2) := by decide +kernel
theorem dX1_copyFrom_27 : decode cX1_copyFrom 27 = .ok (.invokestatic 34, 3) := by decide +kernel
theorem dX1_copyFrom_30 : decode cX1_copyFrom 30 = .ok (.aload_n 1, 1) := by decide +kernel
theorem dX1_copyFrom_31 : decode cX1_copyFrom 31 = .ok (.getfield 18, 3) := by decide +kernel
theorem dX1_copyFrom_34 : decode cX1_copyFrom 34 = .ok (.iconst 0, 1) := by decide +kernel
theorem dX1_copyFrom_35 : decode cX1_copyFrom 35 = .ok (.aload_n 0, 1) := by decide +kernel
theorem dX1_copyFrom_36 : decode cX1_copyFrom 36 = .ok (.getfield 18, 3) := by decide +kernel
theorem dX1_copyFrom_39 : decode cX1_copyFrom 39 = .ok (.iconst 0, 1) := by decide +kernel
theorem dX1_copyFrom_40 : decode cX1_copyFrom 40 = .ok (.bipush 6, 2) := by decide +kernel
theorem dX1_copyFrom_42 : decode cX1_copyFrom 42 = .ok (.invokestatic 34, 3) := by decide +kernel
theorem dX1_copyFrom_45 : decode cX1_copyFrom 45 = .ok (.aload_n 1, 1) := by decide +kernel
theorem dX1_copyFrom_46 : decode cX1_copyFrom 46 = .ok (.getfield 21, 3) := by decide +kernel
theorem dX1_copyFrom_49 : decode cX1_copyFrom 49 = .ok (.iconst 0, 1) := by decide +kernel
theorem dX1_copyFrom_50 : decode cX1_copyFrom 50 = .ok (.aload_n 0, 1) := by decide +kernel
theorem dX1_copyFrom_51 : decode cX1_copyFrom 51 = .ok (.getfield 21, 3) := by decide +kernel
theorem dX1_copyFrom_54 : decode cX1_copyFrom 54 = .ok (.iconst 0, 1) := by decide +kernel
theorem dX1_copyFrom_55 : decode cX1_copyFrom 55 = .ok (.bipush 6, 2) := by decide +kernel
theorem dX1_copyFrom_57 : decode cX1_copyFrom 57 = .ok (.invokestatic 34, 3) := by decide +kernel
theorem dX1_copyFrom_60 : decode cX1_copyFrom 60 = .ok (.aload_n 1, 1) := by decide +kernel
theorem dX1_copyFrom_61 : decode cX1_copyFrom 61 = .ok (.getfield 24, 3) := by decide +kernel
theorem dX1_copyFrom_64 : decode cX1_copyFrom 64 = .ok (.iconst 0, 1) := by decide +kernel
theorem dX1_copyFrom_65 : decode cX1_copyFrom 65 = .ok (.aload_n 0, 1) := by decide +kernel
theorem dX1_copyFrom_66 : decode cX1_copyFrom 66 = .ok (.getfield 24, 3) := by decide +kernel
theorem dX1_copyFrom_69 : decode cX1_copyFrom 69 = .ok (.iconst 0, 1) := by decide +kernel
theorem dX1_copyFrom_70 : decode cX1_copyFrom 70 = .ok (.bipush 6, 2) := by decide +kernel
theorem dX1_copyFrom_72 : decode cX1_copyFrom 72 = .ok (.invokestatic 34, 3) := by decide +kernel
theorem dX1_copyFrom_75 : decode cX1_copyFrom 75 = .ok (.aload_n 0, 1) := by decide +kernel
theorem dX1_copyFrom_76 : decode cX1_copyFrom 76 = .ok (.aload_n 1, 1) := by decide +kernel
theorem dX1_copyFrom_77 : decode cX1_copyFrom 77 = .ok (.getfield 27, 3) := by decide +kernel
theorem dX1_copyFrom_80 : decode cX1_copyFrom 80 = .ok (.putfield 27, 3) := by decide +kernel
theorem dX1_copyFrom_83 : decode cX1_copyFrom 83 = .ok (.aload_n 0, 1) := by decide +kernel
theorem dX1_copyFrom_84 : decode cX1_copyFrom 84 = .ok (.aload_n 1, 1) := by decide +kernel
theorem dX1_copyFrom_85 : decode cX1_copyFrom 85 = .ok (.getfield 31, 3) := by decide +kernel
theorem dX1_copyFrom_88 : decode cX1_copyFrom 88 = .ok (.putfield 31, 3) := by decide +kernel
theorem dX1_copyFrom_91 : decode cX1_copyFrom 91 = .ok (.return_, 1) := by decide +kernel
theorem dX2_init_0 : decode cX2_init 0 = .ok (.aload_n 0, 1) := by decide +kernel
theorem dX2_init_1 : decode cX2_init 1 = .ok (.invokespecial 3, 3) := by decide +kernel
theorem dX2_init_4 : decode cX2_init 4 = .ok (.aload_n 0, 1) := by decide +kernel
theorem dX2_init_5 : decode cX2_init 5 = .ok (.sipush 200, 3) := by decide +kernel
theorem dX2_init_8 : decode cX2_init 8 = .ok (.newarray .int, 2) := by decide +kernel
theorem dX2_init_10 : decode cX2_init 10 = .ok (.putfield 9, 3) := by decide +kernel
theorem dX2_init_13 : decode cX2_init 13 = .ok (.return_, 1) := by decide +kernel
theorem dX2_readInto_0 : decode cX2_readInto 0 = .ok (.aload_n 1, 1) := by decide +kernel
theorem dX2_readInto_1 : decode cX2_readInto 1 = .ok (.iconst 0, 1) := by decide +kernel
theorem dX2_readInto_2 : decode cX2_readInto 2 = .ok (.putfield 15, 3) := by decide +kernel
theorem dX2_readInto_5 : decode cX2_readInto 5 = .ok (.aload_n 1, 1) := by decide +kernel
theorem dX2_readInto_6 : decode cX2_readInto 6 = .ok (.iconst 0, 1) := by decide +kernel
theorem dX2_readInto_7 : decode cX2_readInto 7 = .ok (.putfield 21, 3) := by decide +kernel
theorem dX2_readInto_10 : decode cX2_readInto 10 = .ok (.aload_n 0, 1) := by decide +kernel
theorem dX2_readInto_11 : decode cX2_readInto 11 = .ok (.iconst 0, 1) := by decide +kernel
theorem dX2_readInto_12 : decode cX2_readInto 12 = .ok (.putfield 24, 3) := by decide +kernel
theorem dX2_readInto_15 : decode cX2_readInto 15 = .ok (.iconst 0, 1) := by decide +kernel
theorem dX2_readInto_16 : decode cX2_readInto 16 = .ok (.istore_n 2, 1) := by decide +kernel
theorem dX2_readInto_17 : decode cX2_readInto 17 = .ok (.iconst 0, 1) := by decide +kernel
theorem dX2_readInto_18 : decode cX2_readInto 18 = .ok (.istore_n 3, 1) := by decide +kernel
theorem dX2_readInto_19 : decode cX2_readInto 19 = .ok (.iload_n 3, 1) := by decide +kernel
theorem dX2_readInto_20 : decode cX2_readInto 20 = .ok (.sipush 200, 3) := by decide +kernel
theorem dX2_readInto_23 : decode cX2_readInto 23 = .ok (.if_icmp .gt 117, 3) := by decide +kernel
theorem dX2_readInto_26 : decode cX2_readInto 26 = .ok (.aload_n 0, 1) := by decide +kernel
theorem dX2_readInto_27 : decode cX2_readInto 27 = .ok (.invokevirtual 27, 3) := by decide +kernel
theorem dX2_readInto_30 : decode cX2_readInto 30 = .ok (.istore 4, 2) := by decide +kernel
theorem dX2_readInto_32 : decode cX2_readInto 32 = .ok (.iload 4, 2) := by decide +kernel
theorem dX2_readInto_34 : decode cX2_readInto 34 = .ok (.ifCond .ne 6, 3) := by decide +kernel
theorem dX2_readInto_37 : decode cX2_readInto 37 = .ok (.goto 103, 3) := by decide +kernel
theorem dX2_readInto_40 : decode cX2_readInto 40 = .ok (.iload 4, 2) := by decide +kernel
theorem dX2_readInto_42 : decode cX2_readInto 42 = .ok (.iconst 1, 1) := by decide +kernel
theorem dX2_readInto_43 : decode cX2_readInto 43 = .ok (.if_icmp .ne 22, 3) := by decide +kernel
theorem dX2_readInto_46 : decode cX2_readInto 46 = .ok (.aload_n 1, 1) := by decide +kernel
theorem dX2_readInto_47 : decode cX2_readInto 47 = .ok (.getfield 21, 3) := by decide +kernel
theorem dX2_readInto_50 : decode cX2_readInto 50 = .ok (.ifCond .ne 15, 3) := by decide +kernel
theorem dX2_readInto_53 : decode cX2_readInto 53 = .ok (.aload_n 1, 1) := by decide +kernel
theorem dX2_readInto_54 : decode cX2_readInto 54 = .ok (.getfield 15, 3) := by decide +kernel
theorem dX2_readInto_57 : decode cX2_readInto 57 = .ok (.iconst 3, 1) := by decide +kernel
theorem dX2_readInto_58 : decode cX2_readInto 58 = .ok (.if_icmp .ge 7, 3) := by decide +kernel
theorem dX2_readInto_61 : decode cX2_readInto 61 = .ok (.iconst 1, 1) := by decide +kernel
theorem dX2_readInto_62 : decode cX2_readInto 62 = .ok (.goto 4, 3) := by decide +kernel
theorem dX2_readInto_65 : decode cX2_readInto 65 = .ok (.iconst 0, 1) := by decide +kernel
theorem dX2_readInto_66 : decode cX2_readInto 66 = .ok (.istore 5, 2) := by decide +kernel
theorem dX2_readInto_68 : decode cX2_readInto 68 = .ok (.iload 4, 2) := by decide +kernel
theorem dX2_readInto_70 : decode cX2_readInto 70 = .ok (.iconst 2, 1) := by decide +kernel
theorem dX2_readInto_71 : decode cX2_readInto 71 = .ok (.if_icmp .ne 23, 3) := by decide +kernel
theorem dX2_readInto_74 : decode cX2_readInto 74 = .ok (.aload_n 1, 1) := by decide +kernel
theorem dX2_readInto_75 : decode cX2_readInto 75 = .ok (.getfield 15, 3) := by decide +kernel
theorem dX2_readInto_78 : decode cX2_readInto 78 = .ok (.ifCond .le 16, 3) := by decide +kernel
theorem dX2_readInto_81 : decode cX2_readInto 81 = .ok (.aload_n 1, 1) := by decide +kernel
theorem dX2_readInto_82 : decode cX2_readInto 82 = .ok (.getfield 21, 3) := by decide +kernel
theorem dX2_readInto_85 : decode cX2_readInto 85 = .ok (.bipush 6, 2) := by decide +kernel
theorem dX2_readInto_87 : decode cX2_readInto 87 = .ok (.if_icmp .ge 7, 3) := by decide +kernel
theorem dX2_readInto_90 : decode cX2_readInto 90 = .ok (.iconst 1, 1) := by decide +kernel
theorem dX2_readInto_91 : decode cX2_readInto 91 = .ok (.goto 4, 3) := by decide +kernel
theorem dX2_readInto_94 : decode cX2_readInto 94 = .ok (.iconst 0, 1) := by decide +kernel
theorem dX2_readInto_95 : decode cX2_readInto 95 = .ok (.istore 6, 2) := by decide +kernel
theorem dX2_readInto_97 : decode cX2_readInto 97 = .ok (.iload 5, 2) := by decide +kernel
theorem dX2_readInto_99 : decode cX2_readInto 99 = .ok (.ifCond .eq 11, 3) := by decide +kernel
theorem dX2_readInto_102 : decode cX2_readInto 102 = .ok (.aload_n 0, 1) := by decide +kernel
theorem dX2_readInto_103 : decode cX2_readInto 103 = .ok (.aload_n 1, 1) := by decide +kernel
theorem dX2_readInto_104 : decode cX2_readInto 104 = .ok (.invokevirtual 31, 3) := by decide +kernel
theorem dX2_readInto_107 : decode cX2_readInto 107 = .ok (.ifCond .ne 24, 3) := by decide +kernel
theorem dX2_readInto_110 : decode cX2_readInto 110 = .ok (.iload 6, 2) := by decide +kernel
theorem dX2_readInto_112 : decode cX2_readInto 112 = .ok (.ifCond .eq 11, 3) := by decide +kernel
theorem dX2_readInto_115 : decode cX2_readInto 115 = .ok (.aload_n 0, 1) := by decide +kernel
theorem dX2_readInto_116 : decode cX2_readInto 116 = .ok (.aload_n 1, 1) := by decide +kernel
theorem dX2_readInto_117 : decode cX2_readInto 117 = .ok (.invokevirtual 35, 3) := by decide +kernel
theorem dX2_readInto_120 : decode cX2_readInto 120 = .ok (.ifCond .ne 11, 3) := by decide +kernel
theorem dX2_readInto_123 : decode cX2_readInto 123 = .ok (.bipush (-10), 2) := by decide +kernel
theorem dX2_readInto_125 : decode cX2_readInto 125 = .ok (.aload_n 0, 1) := by decide +kernel
theorem dX2_readInto_126 : decode cX2_readInto 126 = .ok (.getfield 38, 3) := by decide +kernel
theorem dX2_readInto_129 : decode cX2_readInto 129 = .ok (.isub, 1) := by decide +kernel
theorem dX2_readInto_130 : decode cX2_readInto 130 = .ok (.ireturn, 1) := by decide +kernel
theorem dX2_readInto_131 : decode cX2_readInto 131 = .ok (.iinc 2 1, 3) := by decide +kernel
theorem dX2_readInto_134 : decode cX2_readInto 134 = .ok (.iinc 3 1, 3) := by decide +kernel
theorem dX2_readInto_137 : decode cX2_readInto 137 = .ok (.goto (-118), 3) := by decide +kernel
theorem dX2_readInto_140 : decode cX2_readInto 140 = .ok (.iload_n 2, 1) := by decide +kernel
theorem dX2_readInto_141 : decode cX2_readInto 141 = .ok (.ireturn, 1) := by decide +kernel
theorem dX2_readCrop_0 : decode cX2_readCrop 0 = .ok (.aload_n 1, 1) := by decide +kernel
theorem dX2_readCrop_1 : decode cX2_readCrop 1 = .ok (.getfield 15, 3) := by decide +kernel
theorem dX2_readCrop_4 : decode cX2_readCrop 4 = .ok (.istore_n 2, 1) := by decide +kernel
theorem dX2_readCrop_5 : decode cX2_readCrop 5 = .ok (.aload_n 0, 1) := by decide +kernel
theorem dX2_readCrop_6 : decode cX2_readCrop 6 = .ok (.iconst 1, 1) := by decide +kernel
theorem dX2_readCrop_7 : decode cX2_readCrop 7 = .ok (.bipush 9, 2) := by decide +kernel
theorem dX2_readCrop_9 : decode cX2_readCrop 9 = .ok (.invokevirtual 41, 3) := by decide +kernel
theorem dX2_readCrop_12 : decode cX2_readCrop 12 = .ok (.ifCond .ne 5, 3) := by decide +kernel
theorem dX2_readCrop_15 : decode cX2_readCrop 15 = .ok (.iconst 0, 1) := by decide +kernel
theorem dX2_readCrop_16 : decode cX2_readCrop 16 = .ok (.ireturn, 1) := by decide +kernel
theorem dX2_readCrop_17 : decode cX2_readCrop 17 = .ok (.aload_n 1, 1) := by decide +kernel
theorem dX2_readCrop_18 : decode cX2_readCrop 18 = .ok (.getfield 45, 3) := by decide +kernel
theorem dX2_readCrop_21 : decode cX2_readCrop 21 = .ok (.iload_n 2, 1) := by decide +kernel
theorem dX2_readCrop_22 : decode cX2_readCrop 22 = .ok (.aload_n 0, 1) := by decide +kernel
theorem dX2_readCrop_23 : decode cX2_readCrop 23 = .ok (.getfield 48, 3) := by decide +kernel
theorem dX2_readCrop_26 : decode cX2_readCrop 26 = .ok (.iastore, 1) := by decide +kernel
theorem dX2_readCrop_27 : decode cX2_readCrop 27 = .ok (.aload_n 0, 1) := by decide +kernel
theorem dX2_readCrop_28 : decode cX2_readCrop 28 = .ok (.iconst 1, 1) := by decide +kernel
theorem dX2_readCrop_29 : decode cX2_readCrop 29 = .ok (.bipush 9, 2) := by decide +kernel
theorem dX2_readCrop_31 : decode cX2_readCrop 31 = .ok (.invokevirtual 41, 3) := by decide +kernel
theorem dX2_readCrop_34 : decode cX2_readCrop 34 = .ok (.ifCond .ne 5, 3) := by decide +kernel
theorem dX2_readCrop_37 : decode cX2_readCrop 37 = .ok (.iconst 0, 1) := by decide +kernel
theorem dX2_readCrop_38 : decode cX2_readCrop 38 = .ok (.ireturn, 1) := by decide +kernel
theorem dX2_readCrop_39 : decode cX2_readCrop 39 = .ok (.aload_n 1, 1) := by decide +kernel
theorem dX2_readCrop_40 : decode cX2_readCrop 40 = .ok (.getfield 51, 3) := by decide +kernel
theorem dX2_readCrop_43 : decode cX2_readCrop 43 = .ok (.iload_n 2, 1) := by decide +kernel
theorem dX2_readCrop_44 : decode cX2_readCrop 44 = .ok (.aload_n 0, 1) := by decide +kernel
theorem dX2_readCrop_45 : decode cX2_readCrop 45 = .ok (.getfield 48, 3) := by decide +kernel
theorem dX2_readCrop_48 : decode cX2_readCrop 48 = .ok (.iastore, 1) := by decide +kernel
theorem dX2_readCrop_49 : decode cX2_readCrop 49 = .ok (.aload_n 1, 1) := by decide +kernel
theorem dX2_readCrop_50 : decode cX2_readCrop 50 = .ok (.dup, 1) := by decide +kernel
theorem dX2_readCrop_51 : decode cX2_readCrop 51 = .ok (.getfield 15, 3) := by decide +kernel
theorem dX2_readCrop_54 : decode cX2_readCrop 54 = .ok (.iconst 1, 1) := by decide +kernel
theorem dX2_readCrop_55 : decode cX2_readCrop 55 = .ok (.iadd, 1) := by decide +kernel
theorem dX2_readCrop_56 : decode cX2_readCrop 56 = .ok (.putfield 15, 3) := by decide +kernel
theorem dX2_readCrop_59 : decode cX2_readCrop 59 = .ok (.aload_n 0, 1) := by decide +kernel
theorem dX2_readCrop_60 : decode cX2_readCrop 60 = .ok (.invokevirtual 27, 3) := by decide +kernel
theorem dX2_readCrop_63 : decode cX2_readCrop 63 = .ok (.iconst 4, 1) := by decide +kernel
theorem dX2_readCrop_64 : decode cX2_readCrop 64 = .ok (.if_icmp .ne 7, 3) := by decide +kernel
theorem dX2_readCrop_67 : decode cX2_readCrop 67 = .ok (.iconst 1, 1) := by decide +kernel
theorem dX2_readCrop_68 : decode cX2_readCrop 68 = .ok (.goto 4, 3) := by decide +kernel
theorem dX2_readCrop_71 : decode cX2_readCrop 71 = .ok (.iconst 0, 1) := by decide +kernel
theorem dX2_readCrop_72 : decode cX2_readCrop 72 = .ok (.ireturn, 1) := by decide +kernel
theorem dX2_readMan_0 : decode cX2_readMan 0 = .ok (.aload_n 1, 1) := by decide +kernel
theorem dX2_readMan_1 : decode cX2_readMan 1 = .ok (.getfield 21, 3) := by decide +kernel
theorem dX2_readMan_4 : decode cX2_readMan 4 = .ok (.istore_n 2, 1) := by decide +kernel
theorem dX2_readMan_5 : decode cX2_readMan 5 = .ok (.aload_n 0, 1) := by decide +kernel
theorem dX2_readMan_6 : decode cX2_readMan 6 = .ok (.iconst 1, 1) := by decide +kernel
theorem dX2_readMan_7 : decode cX2_readMan 7 = .ok (.bipush 20, 2) := by decide +kernel
theorem dX2_readMan_9 : decode cX2_readMan 9 = .ok (.invokevirtual 41, 3) := by decide +kernel
theorem dX2_readMan_12 : decode cX2_readMan 12 = .ok (.ifCond .ne 5, 3) := by decide +kernel
theorem dX2_readMan_15 : decode cX2_readMan 15 = .ok (.iconst 0, 1) := by decide +kernel
theorem dX2_readMan_16 : decode cX2_readMan 16 = .ok (.ireturn, 1) := by decide +kernel
theorem dX2_readMan_17 : decode cX2_readMan 17 = .ok (.aload_n 1, 1) := by decide +kernel
theorem dX2_readMan_18 : decode cX2_readMan 18 = .ok (.getfield 54, 3) := by decide +kernel
theorem dX2_readMan_21 : decode cX2_readMan 21 = .ok (.iload_n 2, 1) := by decide +kernel
theorem dX2_readMan_22 : decode cX2_readMan 22 = .ok (.aload_n 0, 1) := by decide +kernel
theorem dX2_readMan_23 : decode cX2_readMan 23 = .ok (.getfield 48, 3) := by decide +kernel
theorem dX2_readMan_26 : decode cX2_readMan 26 = .ok (.iastore, 1) := by decide +kernel
theorem dX2_readMan_27 : decode cX2_readMan 27 = .ok (.aload_n 0, 1) := by decide +kernel
theorem dX2_readMan_28 : decode cX2_readMan 28 = .ok (.iconst 0, 1) := by decide +kernel
theorem dX2_readMan_29 : decode cX2_readMan 29 = .ok (.bipush 9, 2) := by decide +kernel
theorem dX2_readMan_31 : decode cX2_readMan 31 = .ok (.invokevirtual 41, 3) := by decide +kernel
theorem dX2_readMan_34 : decode cX2_readMan 34 = .ok (.ifCond .ne 5, 3) := by decide +kernel
theorem dX2_readMan_37 : decode cX2_readMan 37 = .ok (.iconst 0, 1) := by decide +kernel
theorem dX2_readMan_38 : decode cX2_readMan 38 = .ok (.ireturn, 1) := by decide +kernel
theorem dX2_readMan_39 : decode cX2_readMan 39 = .ok (.aload_n 1, 1) := by decide +kernel
theorem dX2_readMan_40 : decode cX2_readMan 40 = .ok (.getfield 57, 3) := by decide +kernel
theorem dX2_readMan_43 : decode cX2_readMan 43 = .ok (.iload_n 2, 1) := by decide +kernel
theorem dX2_readMan_44 : decode cX2_readMan 44 = .ok (.aload_n 0, 1) := by decide +kernel
theorem dX2_readMan_45 : decode cX2_readMan 45 = .ok (.getfield 48, 3) := by decide +kernel
theorem dX2_readMan_48 : decode cX2_readMan 48 = .ok (.iastore, 1) := by decide +kernel
theorem dX2_readMan_49 : decode cX2_readMan 49 = .ok (.aload_n 0, 1) := by decide +kernel
theorem dX2_readMan_50 : decode cX2_readMan 50 = .ok (.iconst 0, 1) := by decide +kernel
theorem dX2_readMan_51 : decode cX2_readMan 51 = .ok (.bipush 99, 2) := by decide +kernel
theorem dX2_readMan_53 : decode cX2_readMan 53 = .ok (.invokevirtual 41, 3) := by decide +kernel
theorem dX2_readMan_56 : decode cX2_readMan 56 = .ok (.ifCond .ne 5, 3) := by decide +kernel
theorem dX2_readMan_59 : decode cX2_readMan 59 = .ok (.iconst 0, 1) := by decide +kernel
theorem dX2_readMan_60 : decode cX2_readMan 60 = .ok (.ireturn, 1) := by decide +kernel
theorem dX2_readMan_61 : decode cX2_readMan 61 = .ok (.aload_n 1, 1) := by decide +kernel
theorem dX2_readMan_62 : decode cX2_readMan 62 = .ok (.getfield 60, 3) := by decide +kernel
theorem dX2_readMan_65 : decode cX2_readMan 65 = .ok (.iload_n 2, 1) := by decide +kernel
theorem dX2_readMan_66 : decode cX2_readMan 66 = .ok (.aload_n 0, 1) := by decide +kernel
theorem dX2_readMan_67 : decode cX2_readMan 67 = .ok (.getfield 48, 3) := by decide +kernel
theorem dX2_readMan_70 : decode cX2_readMan 70 = .ok (.iastore, 1) := by decide +kernel
theorem dX2_readMan_71 : decode cX2_readMan 71 = .ok (.iconst 0, 1) := by decide +kernel
theorem dX2_readMan_72 : decode cX2_readMan 72 = .ok (.istore_n 3, 1) := by decide +kernel
theorem dX2_readMan_73 : decode cX2_readMan 73 = .ok (.iload_n 3, 1) := by decide +kernel
theorem dX2_readMan_74 : decode cX2_readMan 74 = .ok (.aload_n 1, 1) := by decide +kernel
theorem dX2_readMan_75 : decode cX2_readMan 75 = .ok (.getfield 15, 3) := by decide +kernel
theorem dX2_readMan_78 : decode cX2_readMan 78 = .ok (.if_icmp .ge 33, 3) := by decide +kernel
theorem dX2_readMan_81 : decode cX2_readMan 81 = .ok (.aload_n 0, 1) := by decide +kernel
theorem dX2_readMan_82 : decode cX2_readMan 82 = .ok (.iconst 0, 1) := by decide +kernel
theorem dX2_readMan_83 : decode cX2_readMan 83 = .ok (.bipush 40, 2) := by decide +kernel
theorem dX2_readMan_85 : decode cX2_readMan 85 = .ok (.invokevirtual 41, 3) := by decide +kernel
theorem dX2_readMan_88 : decode cX2_readMan 88 = .ok (.ifCond .ne 5, 3) := by decide +kernel
theorem dX2_readMan_91 : decode cX2_readMan 91 = .ok (.iconst 0, 1) := by decide +kernel
theorem dX2_readMan_92 : decode cX2_readMan 92 = .ok (.ireturn, 1) := by decide +kernel
theorem dX2_readMan_93 : decode cX2_readMan 93 = .ok (.aload_n 1, 1) := by decide +kernel
theorem dX2_readMan_94 : decode cX2_readMan 94 = .ok (.getfield 63, 3) := by decide +kernel
theorem dX2_readMan_97 : decode cX2_readMan 97 = .ok (.iload_n 2, 1) := by decide +kernel
theorem dX2_readMan_98 : decode cX2_readMan 98 = .ok (.aaload, 1) := by decide +kernel
theorem dX2_readMan_99 : decode cX2_readMan 99 = .ok (.iload_n 3, 1) := by decide +kernel
theorem dX2_readMan_100 : decode cX2_readMan 100 = .ok (.aload_n 0, 1) := by decide +kernel
theorem dX2_readMan_101 : decode cX2_readMan 101 = .ok (.getfield 48, 3) := by decide +kernel
theorem dX2_readMan_104 : decode cX2_readMan 104 = .ok (.iastore, 1) := by decide +kernel
theorem dX2_readMan_105 : decode cX2_readMan 105 = .ok (.iinc 3 1, 3) := by decide +kernel
theorem dX2_readMan_108 : decode cX2_readMan 108 = .ok (.goto (-35), 3) := by decide +kernel
theorem dX2_readMan_111 : decode cX2_readMan 111 = .ok (.aload_n 1, 1) := by decide +kernel
theorem dX2_readMan_112 : decode cX2_readMan 112 = .ok (.dup, 1) := by decide +kernel
theorem dX2_readMan_113 : decode cX2_readMan 113 = .ok (.getfield 21, 3) := by decide +kernel
theorem dX2_readMan_116 : decode cX2_readMan 116 = .ok (.iconst 1, 1) := by decide +kernel
theorem dX2_readMan_117 : decode cX2_readMan 117 = .ok (.iadd, 1) := by decide +kernel
theorem dX2_readMan_118 : decode cX2_readMan 118 = .ok (.putfield 21, 3) := by decide +kernel
theorem dX2_readMan_121 : decode cX2_readMan 121 = .ok (.aload_n 0, 1) := by decide +kernel
theorem dX2_readMan_122 : decode cX2_readMan 122 = .ok (.invokevirtual 27, 3) := by decide +kernel
theorem dX2_readMan_125 : decode cX2_readMan 125 = .ok (.iconst 4, 1) := by decide +kernel
theorem dX2_readMan_126 : decode cX2_readMan 126 = .ok (.if_icmp .ne 7, 3) := by decide +kernel
theorem dX2_readMan_129 : decode cX2_readMan 129 = .ok (.iconst 1, 1) := by decide +kernel
theorem dX2_readMan_130 : decode cX2_readMan 130 = .ok (.goto 4, 3) := by decide +kernel
theorem dX2_readMan_133 : decode cX2_readMan 133 = .ok (.iconst 0, 1) := by decide +kernel
theorem dX2_readMan_134 : decode cX2_readMan 134 = .ok (.ireturn, 1) := by decide +kernel
theorem dX2_readNumber_0 : decode cX2_readNumber 0 = .ok (.aload_n 0, 1) := by decide +kernel
theorem dX2_readNumber_1 : decode cX2_readNumber 1 = .ok (.invokevirtual 27, 3) := by decide +kernel
theorem dX2_readNumber_4 : decode cX2_readNumber 4 = .ok (.iconst 3, 1) := by decide +kernel
theorem dX2_readNumber_5 : decode cX2_readNumber 5 = .ok (.if_icmp .ne 23, 3) := by decide +kernel
theorem dX2_readNumber_8 : decode cX2_readNumber 8 = .ok (.aload_n 0, 1) := by decide +kernel
theorem dX2_readNumber_9 : decode cX2_readNumber 9 = .ok (.getfield 48, 3) := by decide +kernel
theorem dX2_readNumber_12 : decode cX2_readNumber 12 = .ok (.iload_n 1, 1) := by decide +kernel
theorem dX2_readNumber_13 : decode cX2_readNumber 13 = .ok (.if_icmp .lt 15, 3) := by decide +kernel
theorem dX2_readNumber_16 : decode cX2_readNumber 16 = .ok (.aload_n 0, 1) := by decide +kernel
theorem dX2_readNumber_17 : decode cX2_readNumber 17 = .ok (.getfield 48, 3) := by decide +kernel
theorem dX2_readNumber_20 : decode cX2_readNumber 20 = .ok (.iload_n 2, 1) := by decide +kernel
theorem dX2_readNumber_21 : decode cX2_readNumber 21 = .ok (.if_icmp .gt 7, 3) := by decide +kernel
theorem dX2_readNumber_24 : decode cX2_readNumber 24 = .ok (.iconst 1, 1) := by decide +kernel
theorem dX2_readNumber_25 : decode cX2_readNumber 25 = .ok (.goto 4, 3) := by decide +kernel
theorem dX2_readNumber_28 : decode cX2_readNumber 28 = .ok (.iconst 0, 1) := by decide +kernel
theorem dX2_readNumber_29 : decode cX2_readNumber 29 = .ok (.ireturn, 1) := by decide +kernel
theorem dX2_nextToken_0 : decode cX2_nextToken 0 = .ok (.aload_n 0, 1) := by decide +kernel
theorem dX2_nextToken_1 : decode cX2_nextToken 1 = .ok (.getfield 24, 3) := by decide +kernel
theorem dX2_nextToken_4 : decode cX2_nextToken 4 = .ok (.aload_n 0, 1) := by decide +kernel
theorem dX2_nextToken_5 : decode cX2_nextToken 5 = .ok (.getfield 67, 3) := by decide +kernel
theorem dX2_nextToken_8 : decode cX2_nextToken 8 = .ok (.if_icmp .ge 30, 3) := by decide +kernel
theorem dX2_nextToken_11 : decode cX2_nextToken 11 = .ok (.aload_n 0, 1) := by decide +kernel
theorem dX2_nextToken_12 : decode cX2_nextToken 12 = .ok (.getfield 9, 3) := by decide +kernel
theorem dX2_nextToken_15 : decode cX2_nextToken 15 = .ok (.aload_n 0, 1) := by decide +kernel
theorem dX2_nextToken_16 : decode cX2_nextToken 16 = .ok (.getfield 24, 3) := by decide +kernel
theorem dX2_nextToken_19 : decode cX2_nextToken 19 = .ok (.iaload, 1) := by decide +kernel
theorem dX2_nextToken_20 : decode cX2_nextToken 20 = .ok (.bipush 32, 2) := by decide +kernel
theorem dX2_nextToken_22 : decode cX2_nextToken 22 = .ok (.if_icmp .ne 16, 3) := by decide +kernel
theorem dX2_nextToken_25 : decode cX2_nextToken 25 = .ok (.aload_n 0, 1) := by decide +kernel
theorem dX2_nextToken_26 : decode cX2_nextToken 26 = .ok (.dup, 1) := by decide +kernel
theorem dX2_nextToken_27 : decode cX2_nextToken 27 = .ok (.getfield 24, 3) := by decide +kernel
theorem dX2_nextToken_30 : decode cX2_nextToken 30 = .ok (.iconst 1, 1) := by decide +kernel
theorem dX2_nextToken_31 : decode cX2_nextToken 31 = .ok (.iadd, 1) := by decide +kernel
theorem dX2_nextToken_32 : decode cX2_nextToken 32 = .ok (.putfield 24, 3) := by decide +kernel
theorem dX2_nextToken_35 : decode cX2_nextToken 35 = .ok (.goto (-35), 3) := by decide +kernel
theorem dX2_nextToken_38 : decode cX2_nextToken 38 = .ok (.aload_n 0, 1) := by decide +kernel
theorem dX2_nextToken_39 : decode cX2_nextToken 39 = .ok (.aload_n 0, 1) := by decide +kernel
theorem dX2_nextToken_40 : decode cX2_nextToken 40 = .ok (.getfield 24, 3) := by decide +kernel
theorem dX2_nextToken_43 : decode cX2_nextToken 43 = .ok (.putfield 38, 3) := by decide +kernel
theorem dX2_nextToken_46 : decode cX2_nextToken 46 = .ok (.aload_n 0, 1) := by decide +kernel
theorem dX2_nextToken_47 : decode cX2_nextToken 47 = .ok (.getfield 38, 3) := by decide +kernel
theorem dX2_nextToken_50 : decode cX2_nextToken 50 = .ok (.aload_n 0, 1) := by decide +kernel
theorem dX2_nextToken_51 : decode cX2_nextToken 51 = .ok (.getfield 67, 3) := by decide +kernel
theorem dX2_nextToken_54 : decode cX2_nextToken 54 = .ok (.if_icmp .lt 5, 3) := by decide +kernel
theorem dX2_nextToken_57 : decode cX2_nextToken 57 = .ok (.iconst 0, 1) := by decide +kernel
theorem dX2_nextToken_58 : decode cX2_nextToken 58 = .ok (.ireturn, 1) := by decide +kernel
theorem dX2_nextToken_59 : decode cX2_nextToken 59 = .ok (.aload_n 0, 1) := by decide +kernel
theorem dX2_nextToken_60 : decode cX2_nextToken 60 = .ok (.getfield 9, 3) := by decide +kernel
theorem dX2_nextToken_63 : decode cX2_nextToken 63 = .ok (.aload_n 0, 1) := by decide +kernel
theorem dX2_nextToken_64 : decode cX2_nextToken 64 = .ok (.getfield 38, 3) := by decide +kernel
theorem dX2_nextToken_67 : decode cX2_nextToken 67 = .ok (.iaload, 1) := by decide +kernel
theorem dX2_nextToken_68 : decode cX2_nextToken 68 = .ok (.invokestatic 70, 3) := by decide +kernel
theorem dX2_nextToken_71 : decode cX2_nextToken 71 = .ok (.ifCond .eq 8, 3) := by decide +kernel
theorem dX2_nextToken_74 : decode cX2_nextToken 74 = .ok (.aload_n 0, 1) := by decide +kernel
theorem dX2_nextToken_75 : decode cX2_nextToken 75 = .ok (.invokevirtual 74, 3) := by decide +kernel
theorem dX2_nextToken_78 : decode cX2_nextToken 78 = .ok (.ireturn, 1) := by decide +kernel
theorem dX2_nextToken_79 : decode cX2_nextToken 79 = .ok (.aload_n 0, 1) := by decide +kernel
theorem dX2_nextToken_80 : decode cX2_nextToken 80 = .ok (.dup, 1) := by decide +kernel
theorem dX2_nextToken_81 : decode cX2_nextToken 81 = .ok (.getfield 24, 3) := by decide +kernel
theorem dX2_nextToken_84 : decode cX2_nextToken 84 = .ok (.iconst 1, 1) := by decide +kernel
theorem dX2_nextToken_85 : decode cX2_nextToken 85 = .ok (.iadd, 1) := by decide +kernel
theorem dX2_nextToken_86 : decode cX2_nextToken 86 = .ok (.putfield 24, 3) := by decide +kernel
theorem dX2_nextToken_89 : decode cX2_nextToken 89 = .ok (.aload_n 0, 1) := by decide +kernel
theorem dX2_nextToken_90 : decode cX2_nextToken 90 = .ok (.getfield 9, 3) := by decide +kernel
theorem dX2_nextToken_93 : decode cX2_nextToken 93 = .ok (.aload_n 0, 1) := by decide +kernel
theorem dX2_nextToken_94 : decode cX2_nextToken 94 = .ok (.getfield 38, 3) := by decide +kernel
theorem dX2_nextToken_97 : decode cX2_nextToken 97 = .ok (.iaload, 1) := by decide +kernel
theorem dX2_nextToken_98 : decode cX2_nextToken 98 = .ok (.lookupswitch 40 #[(59, 38), (99, 34), (109, 36)], 34) := by decide +kernel
theorem dX2_nextToken_132 : decode cX2_nextToken 132 = .ok (.iconst 1, 1) := by decide +kernel
theorem dX2_nextToken_133 : decode cX2_nextToken 133 = .ok (.ireturn, 1) := by decide +kernel
theorem dX2_nextToken_134 : decode cX2_nextToken 134 = .ok (.iconst 2, 1) := by decide +kernel
theorem dX2_nextToken_135 : decode cX2_nextToken 135 = .ok (.ireturn, 1) := by decide +kernel
theorem dX2_nextToken_136 : decode cX2_nextToken 136 = .ok (.iconst 4, 1) := by decide +kernel
theorem dX2_nextToken_137 : decode cX2_nextToken 137 = .ok (.ireturn, 1) := by decide +kernel
theorem dX2_nextToken_138 : decode cX2_nextToken 138 = .ok (.iconst 5, 1) := by decide +kernel
theorem dX2_nextToken_139 : decode cX2_nextToken 139 = .ok (.ireturn, 1) := by decide +kernel
theorem dX2_numberToken_0 : decode cX2_numberToken 0 = .ok (.aload_n 0, 1) := by decide +kernel
theorem dX2_numberToken_1 : decode cX2_numberToken 1 = .ok (.iconst 0, 1) := by decide +kernel
theorem dX2_numberToken_2 : decode cX2_numberToken 2 = .ok (.putfield 48, 3) := by decide +kernel
theorem dX2_numberToken_5 : decode cX2_numberToken 5 = .ok (.aload_n 0, 1) := by decide +kernel
theorem dX2_numberToken_6 : decode cX2_numberToken 6 = .ok (.getfield 24, 3) := by decide +kernel
theorem dX2_numberToken_9 : decode cX2_numberToken 9 = .ok (.aload_n 0, 1) := by decide +kernel
theorem dX2_numberToken_10 : decode cX2_numberToken 10 = .ok (.getfield 67, 3) := by decide +kernel
theorem dX2_numberToken_13 : decode cX2_numberToken 13 = .ok (.if_icmp .ge 60, 3) := by decide +kernel
theorem dX2_numberToken_16 : decode cX2_numberToken 16 = .ok (.aload_n 0, 1) := by decide +kernel
theorem dX2_numberToken_17 : decode cX2_numberToken 17 = .ok (.getfield 9, 3) := by decide +kernel
theorem dX2_numberToken_20 : decode cX2_numberToken 20 = .ok (.aload_n 0, 1) := by decide +kernel
theorem dX2_numberToken_21 : decode cX2_numberToken 21 = .ok (.getfield 24, 3) := by decide +kernel
theorem dX2_numberToken_24 : decode cX2_numberToken 24 = .ok (.iaload, 1) := by decide +kernel
theorem dX2_numberToken_25 : decode cX2_numberToken 25 = .ok (.invokestatic 70, 3) := by decide +kernel
theorem dX2_numberToken_28 : decode cX2_numberToken 28 = .ok (.ifCond .eq 45, 3) := by decide +kernel
theorem dX2_numberToken_31 : decode cX2_numberToken 31 = .ok (.aload_n 0, 1) := by decide +kernel
theorem dX2_numberToken_32 : decode cX2_numberToken 32 = .ok (.bipush 10, 2) := by decide +kernel
theorem dX2_numberToken_34 : decode cX2_numberToken 34 = .ok (.aload_n 0, 1) := by decide +kernel
theorem dX2_numberToken_35 : decode cX2_numberToken 35 = .ok (.getfield 48, 3) := by decide +kernel
theorem dX2_numberToken_38 : decode cX2_numberToken 38 = .ok (.imul, 1) := by decide +kernel
theorem dX2_numberToken_39 : decode cX2_numberToken 39 = .ok (.aload_n 0, 1) := by decide +kernel
theorem dX2_numberToken_40 : decode cX2_numberToken 40 = .ok (.getfield 9, 3) := by decide +kernel
theorem dX2_numberToken_43 : decode cX2_numberToken 43 = .ok (.aload_n 0, 1) := by decide +kernel
theorem dX2_numberToken_44 : decode cX2_numberToken 44 = .ok (.getfield 24, 3) := by decide +kernel
theorem dX2_numberToken_47 : decode cX2_numberToken 47 = .ok (.iaload, 1) := by decide +kernel
theorem dX2_numberToken_48 : decode cX2_numberToken 48 = .ok (.iadd, 1) := by decide +kernel
theorem dX2_numberToken_49 : decode cX2_numberToken 49 = .ok (.bipush 48, 2) := by decide +kernel
theorem dX2_numberToken_51 : decode cX2_numberToken 51 = .ok (.isub, 1) := by decide +kernel
theorem dX2_numberToken_52 : decode cX2_numberToken 52 = .ok (.bipush 100, 2) := by decide +kernel
theorem dX2_numberToken_54 : decode cX2_numberToken 54 = .ok (.invokestatic 77, 3) := by decide +kernel
theorem dX2_numberToken_57 : decode cX2_numberToken 57 = .ok (.putfield 48, 3) := by decide +kernel
theorem dX2_numberToken_60 : decode cX2_numberToken 60 = .ok (.aload_n 0, 1) := by decide +kernel
theorem dX2_numberToken_61 : decode cX2_numberToken 61 = .ok (.dup, 1) := by decide +kernel
theorem dX2_numberToken_62 : decode cX2_numberToken 62 = .ok (.getfield 24, 3) := by decide +kernel
theorem dX2_numberToken_65 : decode cX2_numberToken 65 = .ok (.iconst 1, 1) := by decide +kernel
theorem dX2_numberToken_66 : decode cX2_numberToken 66 = .ok (.iadd, 1) := by decide +kernel
theorem dX2_numberToken_67 : decode cX2_numberToken 67 = .ok (.putfield 24, 3) := by decide +kernel
theorem dX2_numberToken_70 : decode cX2_numberToken 70 = .ok (.goto (-65), 3) := by decide +kernel
theorem dX2_numberToken_73 : decode cX2_numberToken 73 = .ok (.aload_n 0, 1) := by decide +kernel
theorem dX2_numberToken_74 : decode cX2_numberToken 74 = .ok (.getfield 9, 3) := by decide +kernel
theorem dX2_numberToken_77 : decode cX2_numberToken 77 = .ok (.aload_n 0, 1) := by decide +kernel
theorem dX2_numberToken_78 : decode cX2_numberToken 78 = .ok (.getfield 38, 3) := by decide +kernel
theorem dX2_numberToken_81 : decode cX2_numberToken 81 = .ok (.iaload, 1) := by decide +kernel
theorem dX2_numberToken_82 : decode cX2_numberToken 82 = .ok (.bipush 48, 2) := by decide +kernel
theorem dX2_numberToken_84 : decode cX2_numberToken 84 = .ok (.if_icmp .ne 20, 3) := by decide +kernel
theorem dX2_numberToken_87 : decode cX2_numberToken 87 = .ok (.aload_n 0, 1) := by decide +kernel
theorem dX2_numberToken_88 : decode cX2_numberToken 88 = .ok (.getfield 24, 3) := by decide +kernel
theorem dX2_numberToken_91 : decode cX2_numberToken 91 = .ok (.aload_n 0, 1) := by decide +kernel
theorem dX2_numberToken_92 : decode cX2_numberToken 92 = .ok (.getfield 38, 3) := by decide +kernel
theorem dX2_numberToken_95 : decode cX2_numberToken 95 = .ok (.isub, 1) := by decide +kernel
theorem dX2_numberToken_96 : decode cX2_numberToken 96 = .ok (.iconst 1, 1) := by decide +kernel
theorem dX2_numberToken_97 : decode cX2_numberToken 97 = .ok (.if_icmp .le 7, 3) := by decide +kernel
theorem dX2_numberToken_100 : decode cX2_numberToken 100 = .ok (.iconst 1, 1) := by decide +kernel
theorem dX2_numberToken_101 : decode cX2_numberToken 101 = .ok (.goto 4, 3) := by decide +kernel
theorem dX2_numberToken_104 : decode cX2_numberToken 104 = .ok (.iconst 0, 1) := by decide +kernel
theorem dX2_numberToken_105 : decode cX2_numberToken 105 = .ok (.istore_n 1, 1) := by decide +kernel
theorem dX2_numberToken_106 : decode cX2_numberToken 106 = .ok (.iload_n 1, 1) := by decide +kernel
theorem dX2_numberToken_107 : decode cX2_numberToken 107 = .ok (.ifCond .ne 12, 3) := by decide +kernel
theorem dX2_numberToken_110 : decode cX2_numberToken 110 = .ok (.aload_n 0, 1) := by decide +kernel
theorem dX2_numberToken_111 : decode cX2_numberToken 111 = .ok (.getfield 48, 3) := by decide +kernel
theorem dX2_numberToken_114 : decode cX2_numberToken 114 = .ok (.bipush 99, 2) := by decide +kernel
theorem dX2_numberToken_116 : decode cX2_numberToken 116 = .ok (.if_icmp .le 7, 3) := by decide +kernel
theorem dX2_numberToken_119 : decode cX2_numberToken 119 = .ok (.iconst 5, 1) := by decide +kernel
theorem dX2_numberToken_120 : decode cX2_numberToken 120 = .ok (.goto 4, 3) := by decide +kernel
theorem dX2_numberToken_123 : decode cX2_numberToken 123 = .ok (.iconst 3, 1) := by decide +kernel
theorem dX2_numberToken_124 : decode cX2_numberToken 124 = .ok (.ireturn, 1) := by decide +kernel
theorem dX2_isDigit_0 : decode cX2_isDigit 0 = .ok (.iload_n 0, 1) := by decide +kernel
theorem dX2_isDigit_1 : decode cX2_isDigit 1 = .ok (.bipush 48, 2) := by decide +kernel
theorem dX2_isDigit_3 : decode cX2_isDigit 3 = .ok (.if_icmp .lt 13, 3) := by decide +kernel
theorem dX2_isDigit_6 : decode cX2_isDigit 6 = .ok (.iload_n 0, 1) := by decide +kernel
theorem dX2_isDigit_7 : decode cX2_isDigit 7 = .ok (.bipush 57, 2) := by decide +kernel
theorem dX2_isDigit_9 : decode cX2_isDigit 9 = .ok (.if_icmp .gt 7, 3) := by decide +kernel
theorem dX2_isDigit_12 : decode cX2_isDigit 12 = .ok (.iconst 1, 1) := by decide +kernel
theorem dX2_isDigit_13 : decode cX2_isDigit 13 = .ok (.goto 4, 3) := by decide +kernel
theorem dX2_isDigit_16 : decode cX2_isDigit 16 = .ok (.iconst 0, 1) := by decide +kernel
theorem dX2_isDigit_17 : decode cX2_isDigit 17 = .ok (.ireturn, 1) := by decide +kernel
theorem dX3_init_0 : decode cX3_init 0 = .ok (.aload_n 0, 1) := by decide +kernel
theorem dX3_init_1 : decode cX3_init 1 = .ok (.invokespecial 3, 3) := by decide +kernel
theorem dX3_init_4 : decode cX3_init 4 = .ok (.aload_n 0, 1) := by decide +kernel
theorem dX3_init_5 : decode cX3_init 5 = .ok (.iconst 3, 1) := by decide +kernel
theorem dX3_init_6 : decode cX3_init 6 = .ok (.newarray .int, 2) := by decide +kernel
theorem dX3_init_8 : decode cX3_init 8 = .ok (.putfield 9, 3) := by decide +kernel
theorem dX3_init_11 : decode cX3_init 11 = .ok (.aload_n 0, 1) := by decide +kernel
theorem dX3_init_12 : decode cX3_init 12 = .ok (.iconst 3, 1) := by decide +kernel
theorem dX3_init_13 : decode cX3_init 13 = .ok (.newarray .int, 2) := by decide +kernel
theorem dX3_init_15 : decode cX3_init 15 = .ok (.putfield 15, 3) := by decide +kernel
theorem dX3_init_18 : decode cX3_init 18 = .ok (.aload_n 0, 1) := by decide +kernel
theorem dX3_init_19 : decode cX3_init 19 = .ok (.bipush 6, 2) := by decide +kernel
theorem dX3_init_21 : decode cX3_init 21 = .ok (.newarray .int, 2) := by decide +kernel
theorem dX3_init_23 : decode cX3_init 23 = .ok (.putfield 18, 3) := by decide +kernel
theorem dX3_init_26 : decode cX3_init 26 = .ok (.aload_n 0, 1) := by decide +kernel
theorem dX3_init_27 : decode cX3_init 27 = .ok (.bipush 6, 2) := by decide +kernel
theorem dX3_init_29 : decode cX3_init 29 = .ok (.newarray .int, 2) := by decide +kernel
theorem dX3_init_31 : decode cX3_init 31 = .ok (.putfield 21, 3) := by decide +kernel
theorem dX3_init_34 : decode cX3_init 34 = .ok (.aload_n 0, 1) := by decide +kernel
theorem dX3_init_35 : decode cX3_init 35 = .ok (.bipush 6, 2) := by decide +kernel
theorem dX3_init_37 : decode cX3_init 37 = .ok (.newarray .int, 2) := by decide +kernel
theorem dX3_init_39 : decode cX3_init 39 = .ok (.putfield 24, 3) := by decide +kernel
theorem dX3_init_42 : decode cX3_init 42 = .ok (.aload_n 0, 1) := by decide +kernel
theorem dX3_init_43 : decode cX3_init 43 = .ok (.bipush 6, 2) := by decide +kernel
theorem dX3_init_45 : decode cX3_init 45 = .ok (.iconst 3, 1) := by decide +kernel
theorem dX3_init_46 : decode cX3_init 46 = .ok (.multianewarray 27 2, 4) := by decide +kernel
theorem dX3_init_50 : decode cX3_init 50 = .ok (.putfield 29, 3) := by decide +kernel
theorem dX3_init_53 : decode cX3_init 53 = .ok (.return_, 1) := by decide +kernel
