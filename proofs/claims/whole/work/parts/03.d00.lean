theorem dX0_init_0 : decode cX0_init 0 = .ok (.aload_n 0, 1) := by decide +kernel
theorem dX0_init_1 : decode cX0_init 1 = .ok (.invokespecial 1, 3) := by decide +kernel
theorem dX0_init_4 : decode cX0_init 4 = .ok (.aload_n 0, 1) := by decide +kernel
theorem dX0_init_5 : decode cX0_init 5 = .ok (.bipush 40, 2) := by decide +kernel
theorem dX0_init_7 : decode cX0_init 7 = .ok (.anewarray 9, 3) := by decide +kernel
theorem dX0_init_10 : decode cX0_init 10 = .ok (.putfield 11, 3) := by decide +kernel
theorem dX0_init_13 : decode cX0_init 13 = .ok (.aload_n 0, 1) := by decide +kernel
theorem dX0_init_14 : decode cX0_init 14 = .ok (.iconst 0, 1) := by decide +kernel
theorem dX0_init_15 : decode cX0_init 15 = .ok (.putfield 15, 3) := by decide +kernel
theorem dX0_init_18 : decode cX0_init 18 = .ok (.aload_n 0, 1) := by decide +kernel
theorem dX0_init_19 : decode cX0_init 19 = .ok (.iconst 0, 1) := by decide +kernel
theorem dX0_init_20 : decode cX0_init 20 = .ok (.putfield 19, 3) := by decide +kernel
theorem dX0_init_23 : decode cX0_init 23 = .ok (.return_, 1) := by decide +kernel
theorem dX0_rowAt_0 : decode cX0_rowAt 0 = .ok (.iload_n 1, 1) := by decide +kernel
theorem dX0_rowAt_1 : decode cX0_rowAt 1 = .ok (.ifCond .lt 20, 3) := by decide +kernel
theorem dX0_rowAt_4 : decode cX0_rowAt 4 = .ok (.iload_n 1, 1) := by decide +kernel
theorem dX0_rowAt_5 : decode cX0_rowAt 5 = .ok (.aload_n 0, 1) := by decide +kernel
theorem dX0_rowAt_6 : decode cX0_rowAt 6 = .ok (.getfield 15, 3) := by decide +kernel
theorem dX0_rowAt_9 : decode cX0_rowAt 9 = .ok (.if_icmp .ge 12, 3) := by decide +kernel
theorem dX0_rowAt_12 : decode cX0_rowAt 12 = .ok (.aload_n 0, 1) := by decide +kernel
theorem dX0_rowAt_13 : decode cX0_rowAt 13 = .ok (.getfield 11, 3) := by decide +kernel
theorem dX0_rowAt_16 : decode cX0_rowAt 16 = .ok (.iload_n 1, 1) := by decide +kernel
theorem dX0_rowAt_17 : decode cX0_rowAt 17 = .ok (.aaload, 1) := by decide +kernel
theorem dX0_rowAt_18 : decode cX0_rowAt 18 = .ok (.goto 4, 3) := by decide +kernel
theorem dX0_rowAt_21 : decode cX0_rowAt 21 = .ok (.aconst_null, 1) := by decide +kernel
theorem dX0_rowAt_22 : decode cX0_rowAt 22 = .ok (.areturn, 1) := by decide +kernel
theorem dX0_atPointer_0 : decode cX0_atPointer 0 = .ok (.aload_n 0, 1) := by decide +kernel
theorem dX0_atPointer_1 : decode cX0_atPointer 1 = .ok (.aload_n 0, 1) := by decide +kernel
theorem dX0_atPointer_2 : decode cX0_atPointer 2 = .ok (.getfield 19, 3) := by decide +kernel
theorem dX0_atPointer_5 : decode cX0_atPointer 5 = .ok (.invokevirtual 22, 3) := by decide +kernel
theorem dX0_atPointer_8 : decode cX0_atPointer 8 = .ok (.areturn, 1) := by decide +kernel
theorem dX0_newRow_0 : decode cX0_newRow 0 = .ok (.aload_n 0, 1) := by decide +kernel
theorem dX0_newRow_1 : decode cX0_newRow 1 = .ok (.getfield 15, 3) := by decide +kernel
theorem dX0_newRow_4 : decode cX0_newRow 4 = .ok (.bipush 40, 2) := by decide +kernel
theorem dX0_newRow_6 : decode cX0_newRow 6 = .ok (.if_icmp .lt 5, 3) := by decide +kernel
theorem dX0_newRow_9 : decode cX0_newRow 9 = .ok (.aconst_null, 1) := by decide +kernel
theorem dX0_newRow_10 : decode cX0_newRow 10 = .ok (.areturn, 1) := by decide +kernel
theorem dX0_newRow_11 : decode cX0_newRow 11 = .ok (.aload_n 0, 1) := by decide +kernel
theorem dX0_newRow_12 : decode cX0_newRow 12 = .ok (.getfield 11, 3) := by decide +kernel
theorem dX0_newRow_15 : decode cX0_newRow 15 = .ok (.aload_n 0, 1) := by decide +kernel
theorem dX0_newRow_16 : decode cX0_newRow 16 = .ok (.getfield 15, 3) := by decide +kernel
theorem dX0_newRow_19 : decode cX0_newRow 19 = .ok (.aaload, 1) := by decide +kernel
theorem dX0_newRow_20 : decode cX0_newRow 20 = .ok (.ifnonnull 19, 3) := by decide +kernel
theorem dX0_newRow_23 : decode cX0_newRow 23 = .ok (.aload_n 0, 1) := by decide +kernel
theorem dX0_newRow_24 : decode cX0_newRow 24 = .ok (.getfield 11, 3) := by decide +kernel
theorem dX0_newRow_27 : decode cX0_newRow 27 = .ok (.aload_n 0, 1) := by decide +kernel
theorem dX0_newRow_28 : decode cX0_newRow 28 = .ok (.getfield 15, 3) := by decide +kernel
theorem dX0_newRow_31 : decode cX0_newRow 31 = .ok (.new 9, 3) := by decide +kernel
theorem dX0_newRow_34 : decode cX0_newRow 34 = .ok (.dup, 1) := by decide +kernel
theorem dX0_newRow_35 : decode cX0_newRow 35 = .ok (.invokespecial 26, 3) := by decide +kernel
theorem dX0_newRow_38 : decode cX0_newRow 38 = .ok (.aastore, 1) := by decide +kernel
theorem dX0_newRow_39 : decode cX0_newRow 39 = .ok (.aload_n 0, 1) := by decide +kernel
theorem dX0_newRow_40 : decode cX0_newRow 40 = .ok (.dup, 1) := by decide +kernel
theorem dX0_newRow_41 : decode cX0_newRow 41 = .ok (.getfield 15, 3) := by decide +kernel
theorem dX0_newRow_44 : decode cX0_newRow 44 = .ok (.iconst 1, 1) := by decide +kernel
theorem dX0_newRow_45 : decode cX0_newRow 45 = .ok (.iadd, 1) := by decide +kernel
theorem dX0_newRow_46 : decode cX0_newRow 46 = .ok (.putfield 15, 3) := by decide +kernel
theorem dX0_newRow_49 : decode cX0_newRow 49 = .ok (.aload_n 0, 1) := by decide +kernel
theorem dX0_newRow_50 : decode cX0_newRow 50 = .ok (.getfield 11, 3) := by decide +kernel
theorem dX0_newRow_53 : decode cX0_newRow 53 = .ok (.aload_n 0, 1) := by decide +kernel
theorem dX0_newRow_54 : decode cX0_newRow 54 = .ok (.getfield 15, 3) := by decide +kernel
theorem dX0_newRow_57 : decode cX0_newRow 57 = .ok (.iconst 1, 1) := by decide +kernel
theorem dX0_newRow_58 : decode cX0_newRow 58 = .ok (.isub, 1) := by decide +kernel
theorem dX0_newRow_59 : decode cX0_newRow 59 = .ok (.aaload, 1) := by decide +kernel
theorem dX0_newRow_60 : decode cX0_newRow 60 = .ok (.areturn, 1) := by decide +kernel
theorem dX0_dropAtPointer_0 : decode cX0_dropAtPointer 0 = .ok (.aload_n 0, 1) := by decide +kernel
theorem dX0_dropAtPointer_1 : decode cX0_dropAtPointer 1 = .ok (.getfield 19, 3) := by decide +kernel
theorem dX0_dropAtPointer_4 : decode cX0_dropAtPointer 4 = .ok (.aload_n 0, 1) := by decide +kernel
theorem dX0_dropAtPointer_5 : decode cX0_dropAtPointer 5 = .ok (.getfield 15, 3) := by decide +kernel
theorem dX0_dropAtPointer_8 : decode cX0_dropAtPointer 8 = .ok (.if_icmp .ge 68, 3) := by decide +kernel
theorem dX0_dropAtPointer_11 : decode cX0_dropAtPointer 11 = .ok (.aload_n 0, 1) := by decide +kernel
theorem dX0_dropAtPointer_12 : decode cX0_dropAtPointer 12 = .ok (.getfield 11, 3) := by decide +kernel
theorem dX0_dropAtPointer_15 : decode cX0_dropAtPointer 15 = .ok (.aload_n 0, 1) := by decide +kernel
theorem dX0_dropAtPointer_16 : decode cX0_dropAtPointer 16 = .ok (.getfield 19, 3) := by decide +kernel
theorem dX0_dropAtPointer_19 : decode cX0_dropAtPointer 19 = .ok (.aaload, 1) := by decide +kernel
theorem dX0_dropAtPointer_20 : decode cX0_dropAtPointer 20 = .ok (.astore_n 1, 1) := by decide +kernel
theorem dX0_dropAtPointer_21 : decode cX0_dropAtPointer 21 = .ok (.aload_n 0, 1) := by decide +kernel
theorem dX0_dropAtPointer_22 : decode cX0_dropAtPointer 22 = .ok (.getfield 19, 3) := by decide +kernel
theorem dX0_dropAtPointer_25 : decode cX0_dropAtPointer 25 = .ok (.iconst 1, 1) := by decide +kernel
theorem dX0_dropAtPointer_26 : decode cX0_dropAtPointer 26 = .ok (.iadd, 1) := by decide +kernel
theorem dX0_dropAtPointer_27 : decode cX0_dropAtPointer 27 = .ok (.istore_n 2, 1) := by decide +kernel
theorem dX0_dropAtPointer_28 : decode cX0_dropAtPointer 28 = .ok (.iload_n 2, 1) := by decide +kernel
theorem dX0_dropAtPointer_29 : decode cX0_dropAtPointer 29 = .ok (.aload_n 0, 1) := by decide +kernel
theorem dX0_dropAtPointer_30 : decode cX0_dropAtPointer 30 = .ok (.getfield 15, 3) := by decide +kernel
theorem dX0_dropAtPointer_33 : decode cX0_dropAtPointer 33 = .ok (.if_icmp .ge 23, 3) := by decide +kernel
theorem dX0_dropAtPointer_36 : decode cX0_dropAtPointer 36 = .ok (.aload_n 0, 1) := by decide +kernel
theorem dX0_dropAtPointer_37 : decode cX0_dropAtPointer 37 = .ok (.getfield 11, 3) := by decide +kernel
theorem dX0_dropAtPointer_40 : decode cX0_dropAtPointer 40 = .ok (.iload_n 2, 1) := by decide +kernel
theorem dX0_dropAtPointer_41 : decode cX0_dropAtPointer 41 = .ok (.iconst 1, 1) := by decide +kernel
theorem dX0_dropAtPointer_42 : decode cX0_dropAtPointer 42 = .ok (.isub, 1) := by decide +kernel
theorem dX0_dropAtPointer_43 : decode cX0_dropAtPointer 43 = .ok (.aload_n 0, 1) := by decide +kernel
theorem dX0_dropAtPointer_44 : decode cX0_dropAtPointer 44 = .ok (.getfield 11, 3) := by decide +kernel
theorem dX0_dropAtPointer_47 : decode cX0_dropAtPointer 47 = .ok (.iload_n 2, 1) := by decide +kernel
theorem dX0_dropAtPointer_48 : decode cX0_dropAtPointer 48 = .ok (.aaload, 1) := by decide +kernel
theorem dX0_dropAtPointer_49 : decode cX0_dropAtPointer 49 = .ok (.aastore, 1) := by decide +kernel
theorem dX0_dropAtPointer_50 : decode cX0_dropAtPointer 50 = .ok (.iinc 2 1, 3) := by decide +kernel
theorem dX0_dropAtPointer_53 : decode cX0_dropAtPointer 53 = .ok (.goto (-25), 3) := by decide +kernel
theorem dX0_dropAtPointer_56 : decode cX0_dropAtPointer 56 = .ok (.aload_n 0, 1) := by decide +kernel
theorem dX0_dropAtPointer_57 : decode cX0_dropAtPointer 57 = .ok (.dup, 1) := by decide +kernel
theorem dX0_dropAtPointer_58 : decode cX0_dropAtPointer 58 = .ok (.getfield 15, 3) := by decide +kernel
theorem dX0_dropAtPointer_61 : decode cX0_dropAtPointer 61 = .ok (.iconst 1, 1) := by decide +kernel
theorem dX0_dropAtPointer_62 : decode cX0_dropAtPointer 62 = .ok (.isub, 1) := by decide +kernel
theorem dX0_dropAtPointer_63 : decode cX0_dropAtPointer 63 = .ok (.putfield 15, 3) := by decide +kernel
theorem dX0_dropAtPointer_66 : decode cX0_dropAtPointer 66 = .ok (.aload_n 0, 1) := by decide +kernel
theorem dX0_dropAtPointer_67 : decode cX0_dropAtPointer 67 = .ok (.getfield 11, 3) := by decide +kernel
theorem dX0_dropAtPointer_70 : decode cX0_dropAtPointer 70 = .ok (.aload_n 0, 1) := by decide +kernel
theorem dX0_dropAtPointer_71 : decode cX0_dropAtPointer 71 = .ok (.getfield 15, 3) := by decide +kernel
theorem dX0_dropAtPointer_74 : decode cX0_dropAtPointer 74 = .ok (.aload_n 1, 1) := by decide +kernel
theorem dX0_dropAtPointer_75 : decode cX0_dropAtPointer 75 = .ok (.aastore, 1) := by decide +kernel
theorem dX0_dropAtPointer_76 : decode cX0_dropAtPointer 76 = .ok (.aload_n 0, 1) := by decide +kernel
theorem dX0_dropAtPointer_77 : decode cX0_dropAtPointer 77 = .ok (.iconst 0, 1) := by decide +kernel
theorem dX0_dropAtPointer_78 : decode cX0_dropAtPointer 78 = .ok (.putfield 19, 3) := by decide +kernel
theorem dX0_dropAtPointer_81 : decode cX0_dropAtPointer 81 = .ok (.return_, 1) := by decide +kernel
theorem dX0_advance_0 : decode cX0_advance 0 = .ok (.aload_n 0, 1) := by decide +kernel
theorem dX0_advance_1 : decode cX0_advance 1 = .ok (.getfield 19, 3) := by decide +kernel
theorem dX0_advance_4 : decode cX0_advance 4 = .ok (.aload_n 0, 1) := by decide +kernel
theorem dX0_advance_5 : decode cX0_advance 5 = .ok (.getfield 15, 3) := by decide +kernel
theorem dX0_advance_8 : decode cX0_advance 8 = .ok (.if_icmp .ge 13, 3) := by decide +kernel
theorem dX0_advance_11 : decode cX0_advance 11 = .ok (.aload_n 0, 1) := by decide +kernel
theorem dX0_advance_12 : decode cX0_advance 12 = .ok (.dup, 1) := by decide +kernel
theorem dX0_advance_13 : decode cX0_advance 13 = .ok (.getfield 19, 3) := by decide +kernel
theorem dX0_advance_16 : decode cX0_advance 16 = .ok (.iconst 1, 1) := by decide +kernel
theorem dX0_advance_17 : decode cX0_advance 17 = .ok (.iadd, 1) := by decide +kernel
theorem dX0_advance_18 : decode cX0_advance 18 = .ok (.putfield 19, 3) := by decide +kernel
theorem dX0_advance_21 : decode cX0_advance 21 = .ok (.return_, 1) := by decide +kernel
theorem dX0_pointToFirst_0 : decode cX0_pointToFirst 0 = .ok (.aload_n 0, 1) := by decide +kernel
theorem dX0_pointToFirst_1 : decode cX0_pointToFirst 1 = .ok (.iconst 0, 1) := by decide +kernel
theorem dX0_pointToFirst_2 : decode cX0_pointToFirst 2 = .ok (.putfield 19, 3) := by decide +kernel
theorem dX0_pointToFirst_5 : decode cX0_pointToFirst 5 = .ok (.return_, 1) := by decide +kernel
theorem dX0_clear_0 : decode cX0_clear 0 = .ok (.aload_n 0, 1) := by decide +kernel
theorem dX0_clear_1 : decode cX0_clear 1 = .ok (.iconst 0, 1) := by decide +kernel
theorem dX0_clear_2 : decode cX0_clear 2 = .ok (.putfield 15, 3) := by decide +kernel
theorem dX0_clear_5 : decode cX0_clear 5 = .ok (.aload_n 0, 1) := by decide +kernel
theorem dX0_clear_6 : decode cX0_clear 6 = .ok (.iconst 0, 1) := by decide +kernel
theorem dX0_clear_7 : decode cX0_clear 7 = .ok (.putfield 19, 3) := by decide +kernel
theorem dX0_clear_10 : decode cX0_clear 10 = .ok (.return_, 1) := by decide +kernel
theorem dX1_init_0 : decode cX1_init 0 = .ok (.aload_n 0, 1) := by decide +kernel
theorem dX1_init_1 : decode cX1_init 1 = .ok (.invokespecial 3, 3) := by decide +kernel
theorem dX1_init_4 : decode cX1_init 4 = .ok (.aload_n 0, 1) := by decide +kernel
theorem dX1_init_5 : decode cX1_init 5 = .ok (.bipush 8, 2) := by decide +kernel
theorem dX1_init_7 : decode cX1_init 7 = .ok (.anewarray 9, 3) := by decide +kernel
theorem dX1_init_10 : decode cX1_init 10 = .ok (.putfield 11, 3) := by decide +kernel
theorem dX1_init_13 : decode cX1_init 13 = .ok (.aload_n 0, 1) := by decide +kernel
theorem dX1_init_14 : decode cX1_init 14 = .ok (.new 9, 3) := by decide +kernel
theorem dX1_init_17 : decode cX1_init 17 = .ok (.dup, 1) := by decide +kernel
theorem dX1_init_18 : decode cX1_init 18 = .ok (.invokespecial 17, 3) := by decide +kernel
theorem dX1_init_21 : decode cX1_init 21 = .ok (.putfield 18, 3) := by decide +kernel
theorem dX1_init_24 : decode cX1_init 24 = .ok (.aload_n 0, 1) := by decide +kernel
theorem dX1_init_25 : decode cX1_init 25 = .ok (.new 22, 3) := by decide +kernel
theorem dX1_init_28 : decode cX1_init 28 = .ok (.dup, 1) := by decide +kernel
theorem dX1_init_29 : decode cX1_init 29 = .ok (.invokespecial 24, 3) := by decide +kernel
theorem dX1_init_32 : decode cX1_init 32 = .ok (.putfield 25, 3) := by decide +kernel
theorem dX1_init_35 : decode cX1_init 35 = .ok (.aload_n 0, 1) := by decide +kernel
theorem dX1_init_36 : decode cX1_init 36 = .ok (.new 29, 3) := by decide +kernel
theorem dX1_init_39 : decode cX1_init 39 = .ok (.dup, 1) := by decide +kernel
theorem dX1_init_40 : decode cX1_init 40 = .ok (.invokespecial 31, 3) := by decide +kernel
theorem dX1_init_43 : decode cX1_init 43 = .ok (.putfield 32, 3) := by decide +kernel
theorem dX1_init_46 : decode cX1_init 46 = .ok (.aload_n 0, 1) := by decide +kernel
theorem dX1_init_47 : decode cX1_init 47 = .ok (.iconst 0, 1) := by decide +kernel
theorem dX1_init_48 : decode cX1_init 48 = .ok (.putfield 36, 3) := by decide +kernel
theorem dX1_init_51 : decode cX1_init 51 = .ok (.aload_n 0, 1) := by decide +kernel
theorem dX1_init_52 : decode cX1_init 52 = .ok (.iconst 0, 1) := by decide +kernel
theorem dX1_init_53 : decode cX1_init 53 = .ok (.putfield 40, 3) := by decide +kernel
theorem dX1_init_56 : decode cX1_init 56 = .ok (.aload_n 0, 1) := by decide +kernel
theorem dX1_init_57 : decode cX1_init 57 = .ok (.iconst 0, 1) := by decide +kernel
theorem dX1_init_58 : decode cX1_init 58 = .ok (.putfield 43, 3) := by decide +kernel
theorem dX1_init_61 : decode cX1_init 61 = .ok (.aload_n 0, 1) := by decide +kernel
theorem dX1_init_62 : decode cX1_init 62 = .ok (.iconst 0, 1) := by decide +kernel
theorem dX1_init_63 : decode cX1_init 63 = .ok (.putfield 46, 3) := by decide +kernel
theorem dX1_init_66 : decode cX1_init 66 = .ok (.aload_n 0, 1) := by decide +kernel
theorem dX1_init_67 : decode cX1_init 67 = .ok (.ldc2_w 49, 3) := by decide +kernel
theorem dX1_init_70 : decode cX1_init 70 = .ok (.putfield 51, 3) := by decide +kernel
theorem dX1_init_73 : decode cX1_init 73 = .ok (.aload_n 0, 1) := by decide +kernel
theorem dX1_init_74 : decode cX1_init 74 = .ok (.iconst 0, 1) := by decide +kernel
theorem dX1_init_75 : decode cX1_init 75 = .ok (.putfield 55, 3) := by decide +kernel
theorem dX1_init_78 : decode cX1_init 78 = .ok (.aload_n 0, 1) := by decide +kernel
theorem dX1_init_79 : decode cX1_init 79 = .ok (.iconst (-1), 1) := by decide +kernel
theorem dX1_init_80 : decode cX1_init 80 = .ok (.putfield 58, 3) := by decide +kernel
theorem dX1_init_83 : decode cX1_init 83 = .ok (.aload_n 0, 1) := by decide +kernel
theorem dX1_init_84 : decode cX1_init 84 = .ok (.iconst 0, 1) := by decide +kernel
theorem dX1_init_85 : decode cX1_init 85 = .ok (.putfield 61, 3) := by decide +kernel
theorem dX1_init_88 : decode cX1_init 88 = .ok (.aload_n 0, 1) := by decide +kernel
theorem dX1_init_89 : decode cX1_init 89 = .ok (.lconst 0, 1) := by decide +kernel
theorem dX1_init_90 : decode cX1_init 90 = .ok (.putfield 65, 3) := by decide +kernel
theorem dX1_init_93 : decode cX1_init 93 = .ok (.aload_n 0, 1) := by decide +kernel
theorem dX1_init_94 : decode cX1_init 94 = .ok (.iconst 0, 1) := by decide +kernel
theorem dX1_init_95 : decode cX1_init 95 = .ok (.putfield 68, 3) := by decide +kernel
theorem dX1_init_98 : decode cX1_init 98 = .ok (.aload_n 0, 1) := by decide +kernel
theorem dX1_init_99 : decode cX1_init 99 = .ok (.iload_n 1, 1) := by decide +kernel
theorem dX1_init_100 : decode cX1_init 100 = .ok (.putfield 71, 3) := by decide +kernel
theorem dX1_init_103 : decode cX1_init 103 = .ok (.aload_n 0, 1) := by decide +kernel
theorem dX1_init_104 : decode cX1_init 104 = .ok (.iload_n 2, 1) := by decide +kernel
theorem dX1_init_105 : decode cX1_init 105 = .ok (.putfield 74, 3) := by decide +kernel
theorem dX1_init_108 : decode cX1_init 108 = .ok (.iconst 0, 1) := by decide +kernel
theorem dX1_init_109 : decode cX1_init 109 = .ok (.istore_n 3, 1) := by decide +kernel
theorem dX1_init_110 : decode cX1_init 110 = .ok (.iload_n 3, 1) := by decide +kernel
theorem dX1_init_111 : decode cX1_init 111 = .ok (.bipush 8, 2) := by decide +kernel
theorem dX1_init_113 : decode cX1_init 113 = .ok (.if_icmp .ge 22, 3) := by decide +kernel
theorem dX1_init_116 : decode cX1_init 116 = .ok (.aload_n 0, 1) := by decide +kernel
theorem dX1_init_117 : decode cX1_init 117 = .ok (.getfield 11, 3) := by decide +kernel
theorem dX1_init_120 : decode cX1_init 120 = .ok (.iload_n 3, 1) := by decide +kernel
theorem dX1_init_121 : decode cX1_init 121 = .ok (.new 9, 3) := by decide +kernel
theorem dX1_init_124 : decode cX1_init 124 = .ok (.dup, 1) := by decide +kernel
theorem dX1_init_125 : decode cX1_init 125 = .ok (.invokespecial 17, 3) := by decide +kernel
theorem dX1_init_128 : decode cX1_init 128 = .ok (.aastore, 1) := by decide +kernel
theorem dX1_init_129 : decode cX1_init 129 = .ok (.iinc 3 1, 3) := by decide +kernel
theorem dX1_init_132 : decode cX1_init 132 = .ok (.goto (-22), 3) := by decide +kernel
theorem dX1_init_135 : decode cX1_init 135 = .ok (.return_, 1) := by decide +kernel
theorem dX1_x_0 : decode cX1_x 0 = .ok (.aload_n 0, 1) := by decide +kernel
theorem dX1_x_1 : decode cX1_x 1 = .ok (.getfield 11, 3) := by decide +kernel
theorem dX1_x_4 : decode cX1_x 4 = .ok (.iload_n 1, 1) := by decide +kernel
theorem dX1_x_5 : decode cX1_x 5 = .ok (.bipush 8, 2) := by decide +kernel
theorem dX1_x_7 : decode cX1_x 7 = .ok (.invokestatic 77, 3) := by decide +kernel
theorem dX1_x_10 : decode cX1_x 10 = .ok (.aaload, 1) := by decide +kernel
theorem dX1_x_11 : decode cX1_x 11 = .ok (.areturn, 1) := by decide +kernel
theorem dX1_beginToWait_0 : decode cX1_beginToWait 0 = .ok (.aload_n 0, 1) := by decide +kernel
theorem dX1_beginToWait_1 : decode cX1_beginToWait 1 = .ok (.iconst 1, 1) := by decide +kernel
theorem dX1_beginToWait_2 : decode cX1_beginToWait 2 = .ok (.putfield 36, 3) := by decide +kernel
theorem dX1_beginToWait_5 : decode cX1_beginToWait 5 = .ok (.aload_n 0, 1) := by decide +kernel
theorem dX1_beginToWait_6 : decode cX1_beginToWait 6 = .ok (.iload_n 1, 1) := by decide +kernel
theorem dX1_beginToWait_7 : decode cX1_beginToWait 7 = .ok (.putfield 43, 3) := by decide +kernel
theorem dX1_beginToWait_10 : decode cX1_beginToWait 10 = .ok (.aload_n 0, 1) := by decide +kernel
theorem dX1_beginToWait_11 : decode cX1_beginToWait 11 = .ok (.iload_n 2, 1) := by decide +kernel
theorem dX1_beginToWait_12 : decode cX1_beginToWait 12 = .ok (.putfield 46, 3) := by decide +kernel
theorem dX1_beginToWait_15 : decode cX1_beginToWait 15 = .ok (.aload_n 0, 1) := by decide +kernel
theorem dX1_beginToWait_16 : decode cX1_beginToWait 16 = .ok (.lload_n 3, 1) := by decide +kernel
theorem dX1_beginToWait_17 : decode cX1_beginToWait 17 = .ok (.putfield 51, 3) := by decide +kernel
theorem dX1_beginToWait_20 : decode cX1_beginToWait 20 = .ok (.return_, 1) := by decide +kernel
theorem dX1_comesBefore_0 : decode cX1_comesBefore 0 = .ok (.aload_n 0, 1) := by decide +kernel
theorem dX1_comesBefore_1 : decode cX1_comesBefore 1 = .ok (.getfield 74, 3) := by decide +kernel
theorem dX1_comesBefore_4 : decode cX1_comesBefore 4 = .ok (.aload_n 1, 1) := by decide +kernel
theorem dX1_comesBefore_5 : decode cX1_comesBefore 5 = .ok (.getfield 74, 3) := by decide +kernel
theorem dX1_comesBefore_8 : decode cX1_comesBefore 8 = .ok (.if_icmp .eq 29, 3) := by decide +kernel
theorem dX1_comesBefore_11 : decode cX1_comesBefore 11 = .ok (.iload_n 2, 1) := by decide +kernel
theorem dX1_comesBefore_12 : decode cX1_comesBefore 12 = .ok (.aload_n 0, 1) := by decide +kernel
theorem dX1_comesBefore_13 : decode cX1_comesBefore 13 = .ok (.getfield 74, 3) := by decide +kernel
theorem dX1_comesBefore_16 : decode cX1_comesBefore 16 = .ok (.aload_n 1, 1) := by decide +kernel
theorem dX1_comesBefore_17 : decode cX1_comesBefore 17 = .ok (.getfield 74, 3) := by decide +kernel
theorem dX1_comesBefore_20 : decode cX1_comesBefore 20 = .ok (.if_icmp .le 7, 3) := by decide +kernel
theorem dX1_comesBefore_23 : decode cX1_comesBefore 23 = .ok (.iconst 1, 1) := by decide +kernel
theorem dX1_comesBefore_24 : decode cX1_comesBefore 24 = .ok (.goto 4, 3) := by decide +kernel
theorem dX1_comesBefore_27 : decode cX1_comesBefore 27 = .ok (.iconst 0, 1) := by decide +kernel
theorem dX1_comesBefore_28 : decode cX1_comesBefore 28 = .ok (.if_icmp .ne 7, 3) := by decide +kernel
theorem dX1_comesBefore_31 : decode cX1_comesBefore 31 = .ok (.iconst 1, 1) := by decide +kernel
theorem dX1_comesBefore_32 : decode cX1_comesBefore 32 = .ok (.goto 4, 3) := by decide +kernel
theorem dX1_comesBefore_35 : decode cX1_comesBefore 35 = .ok (.iconst 0, 1) := by decide +kernel
theorem dX1_comesBefore_36 : decode cX1_comesBefore 36 = .ok (.ireturn, 1) := by decide +kernel
theorem dX1_comesBefore_37 : decode cX1_comesBefore 37 = .ok (.aload_n 0, 1) := by decide +kernel
theorem dX1_comesBefore_38 : decode cX1_comesBefore 38 = .ok (.getfield 55, 3) := by decide +kernel
theorem dX1_comesBefore_41 : decode cX1_comesBefore 41 = .ok (.aload_n 1, 1) := by decide +kernel
theorem dX1_comesBefore_42 : decode cX1_comesBefore 42 = .ok (.getfield 55, 3) := by decide +kernel
theorem dX1_comesBefore_45 : decode cX1_comesBefore 45 = .ok (.if_icmp .ge 7, 3) := by decide +kernel
theorem dX1_comesBefore_48 : decode cX1_comesBefore 48 = .ok (.iconst 1, 1) := by decide +kernel
theorem dX1_comesBefore_49 : decode cX1_comesBefore 49 = .ok (.goto 4, 3) := by decide +kernel
theorem dX1_comesBefore_52 : decode cX1_comesBefore 52 = .ok (.iconst 0, 1) := by decide +kernel
theorem dX1_comesBefore_53 : decode cX1_comesBefore 53 = .ok (.ireturn, 1) := by decide +kernel
theorem dX1_isLinkedWith_0 : decode cX1_isLinkedWith 0 = .ok (.aload_n 0, 1) := by decide +kernel
theorem dX1_isLinkedWith_1 : decode cX1_isLinkedWith 1 = .ok (.getfield 65, 3) := by decide +kernel
theorem dX1_isLinkedWith_4 : decode cX1_isLinkedWith 4 = .ok (.lconst 1, 1) := by decide +kernel
theorem dX1_isLinkedWith_5 : decode cX1_isLinkedWith 5 = .ok (.aload_n 1, 1) := by decide +kernel
theorem dX1_isLinkedWith_6 : decode cX1_isLinkedWith 6 = .ok (.getfield 71, 3) := by decide +kernel
theorem dX1_isLinkedWith_9 : decode cX1_isLinkedWith 9 = .ok (.lshl, 1) := by decide +kernel
theorem dX1_isLinkedWith_10 : decode cX1_isLinkedWith 10 = .ok (.land, 1) := by decide +kernel
theorem dX1_isLinkedWith_11 : decode cX1_isLinkedWith 11 = .ok (.lconst 0, 1) := by decide +kernel
theorem dX1_isLinkedWith_12 : decode cX1_isLinkedWith 12 = .ok (.lcmp, 1) := by decide +kernel
theorem dX1_isLinkedWith_13 : decode cX1_isLinkedWith 13 = .ok (.ifCond .eq 7, 3) := by decide +kernel
theorem dX1_isLinkedWith_16 : decode cX1_isLinkedWith 16 = .ok (.iconst 1, 1) := by decide +kernel
theorem dX1_isLinkedWith_17 : decode cX1_isLinkedWith 17 = .ok (.goto 4, 3) := by decide +kernel
theorem dX1_isLinkedWith_20 : decode cX1_isLinkedWith 20 = .ok (.iconst 0, 1) := by decide +kernel
theorem dX1_isLinkedWith_21 : decode cX1_isLinkedWith 21 = .ok (.ireturn, 1) := by decide +kernel
theorem dX1_linkWith_0 : decode cX1_linkWith 0 = .ok (.aload_n 0, 1) := by decide +kernel
theorem dX1_linkWith_1 : decode cX1_linkWith 1 = .ok (.dup, 1) := by decide +kernel
theorem dX1_linkWith_2 : decode cX1_linkWith 2 = .ok (.getfield 65, 3) := by decide +kernel
theorem dX1_linkWith_5 : decode cX1_linkWith 5 = .ok (.lconst 1, 1) := by decide +kernel
theorem dX1_linkWith_6 : decode cX1_linkWith 6 = .ok (.aload_n 1, 1) := by decide +kernel
theorem dX1_linkWith_7 : decode cX1_linkWith 7 = .ok (.getfield 71, 3) := by decide +kernel
theorem dX1_linkWith_10 : decode cX1_linkWith 10 = .ok (.lshl, 1) := by decide +kernel
theorem dX1_linkWith_11 : decode cX1_linkWith 11 = .ok (.lor, 1) := by decide +kernel
theorem dX1_linkWith_12 : decode cX1_linkWith 12 = .ok (.putfield 65, 3) := by decide +kernel
theorem dX1_linkWith_15 : decode cX1_linkWith 15 = .ok (.aload_n 1, 1) := by decide +kernel
theorem dX1_linkWith_16 : decode cX1_linkWith 16 = .ok (.dup, 1) := by decide +kernel
theorem dX1_linkWith_17 : decode cX1_linkWith 17 = .ok (.getfield 65, 3) := by decide +kernel
theorem dX1_linkWith_20 : decode cX1_linkWith 20 = .ok (.lconst 1, 1) := by decide +kernel
theorem dX1_linkWith_21 : decode cX1_linkWith 21 = .ok (.aload_n 0, 1) := by decide +kernel
theorem dX1_linkWith_22 : decode cX1_linkWith 22 = .ok (.getfield 71, 3) := by decide +kernel
theorem dX1_linkWith_25 : decode cX1_linkWith 25 = .ok (.lshl, 1) := by decide +kernel
theorem dX1_linkWith_26 : decode cX1_linkWith 26 = .ok (.lor, 1) := by decide +kernel
theorem dX1_linkWith_27 : decode cX1_linkWith 27 = .ok (.putfield 65, 3) := by decide +kernel
theorem dX1_linkWith_30 : decode cX1_linkWith 30 = .ok (.return_, 1) := by decide +kernel
theorem dX1_unlinkFrom_0 : decode cX1_unlinkFrom 0 = .ok (.aload_n 0, 1) := by decide +kernel
theorem dX1_unlinkFrom_1 : decode cX1_unlinkFrom 1 = .ok (.dup, 1) := by decide +kernel
theorem dX1_unlinkFrom_2 : decode cX1_unlinkFrom 2 = .ok (.getfield 65, 3) := by decide +kernel
theorem dX1_unlinkFrom_5 : decode cX1_unlinkFrom 5 = .ok (.lconst 1, 1) := by decide +kernel
theorem dX1_unlinkFrom_6 : decode cX1_unlinkFrom 6 = .ok (.aload_n 1, 1) := by decide +kernel
theorem dX1_unlinkFrom_7 : decode cX1_unlinkFrom 7 = .ok (.getfield 71, 3) := by decide +kernel
theorem dX1_unlinkFrom_10 : decode cX1_unlinkFrom 10 = .ok (.lshl, 1) := by decide +kernel
theorem dX1_unlinkFrom_11 : decode cX1_unlinkFrom 11 = .ok (.ldc2_w 83, 3) := by decide +kernel
theorem dX1_unlinkFrom_14 : decode cX1_unlinkFrom 14 = .ok (.lxor, 1) := by decide +kernel
theorem dX1_unlinkFrom_15 : decode cX1_unlinkFrom 15 = .ok (.land, 1) := by decide +kernel
theorem dX1_unlinkFrom_16 : decode cX1_unlinkFrom 16 = .ok (.putfield 65, 3) := by decide +kernel
theorem dX1_unlinkFrom_19 : decode cX1_unlinkFrom 19 = .ok (.aload_n 1, 1) := by decide +kernel
theorem dX1_unlinkFrom_20 : decode cX1_unlinkFrom 20 = .ok (.dup, 1) := by decide +kernel
theorem dX1_unlinkFrom_21 : decode cX1_unlinkFrom 21 = .ok (.getfield 65, 3) := by decide +kernel
theorem dX1_unlinkFrom_24 : decode cX1_unlinkFrom 24 = .ok (.lconst 1, 1) := by decide +kernel
theorem dX1_unlinkFrom_25 : decode cX1_unlinkFrom 25 = .ok (.aload_n 0, 1) := by decide +kernel
theorem dX1_unlinkFrom_26 : decode cX1_unlinkFrom 26 = .ok (.getfield 71, 3) := by decide +kernel
theorem dX1_unlinkFrom_29 : decode cX1_unlinkFrom 29 = .ok (.lshl, 1) := by decide +kernel
theorem dX1_unlinkFrom_30 : decode cX1_unlinkFrom 30 = .ok (.ldc2_w 83, 3) := by decide +kernel
theorem dX1_unlinkFrom_33 : decode cX1_unlinkFrom 33 = .ok (.lxor, 1) := by decide +kernel
theorem dX1_unlinkFrom_34 : decode cX1_unlinkFrom 34 = .ok (.land, 1) := by decide +kernel
theorem dX1_unlinkFrom_35 : decode cX1_unlinkFrom 35 = .ok (.putfield 65, 3) := by decide +kernel
theorem dX1_unlinkFrom_38 : decode cX1_unlinkFrom 38 = .ok (.return_, 1) := by decide +kernel
theorem dX1_fact_0 : decode cX1_fact 0 = .ok (.iload_n 1, 1) := by decide +kernel
theorem dX1_fact_1 : decode cX1_fact 1 = .ok (.tableswitch 128 0 9 #[55, 60, 65, 70, 75, 88, 96, 104, 112, 120], 55) := by decide +kernel
theorem dX1_fact_56 : decode cX1_fact 56 = .ok (.aload_n 0, 1) := by decide +kernel
theorem dX1_fact_57 : decode cX1_fact 57 = .ok (.getfield 36, 3) := by decide +kernel
theorem dX1_fact_60 : decode cX1_fact 60 = .ok (.ireturn, 1) := by decide +kernel
theorem dX1_fact_61 : decode cX1_fact 61 = .ok (.aload_n 0, 1) := by decide +kernel
theorem dX1_fact_62 : decode cX1_fact 62 = .ok (.getfield 40, 3) := by decide +kernel
theorem dX1_fact_65 : decode cX1_fact 65 = .ok (.ireturn, 1) := by decide +kernel
theorem dX1_fact_66 : decode cX1_fact 66 = .ok (.aload_n 0, 1) := by decide +kernel
theorem dX1_fact_67 : decode cX1_fact 67 = .ok (.getfield 74, 3) := by decide +kernel
theorem dX1_fact_70 : decode cX1_fact 70 = .ok (.ireturn, 1) := by decide +kernel
theorem dX1_fact_71 : decode cX1_fact 71 = .ok (.aload_n 0, 1) := by decide +kernel
theorem dX1_fact_72 : decode cX1_fact 72 = .ok (.getfield 58, 3) := by decide +kernel
theorem dX1_fact_75 : decode cX1_fact 75 = .ok (.ireturn, 1) := by decide +kernel
theorem dX1_fact_76 : decode cX1_fact 76 = .ok (.aload_n 0, 1) := by decide +kernel
theorem dX1_fact_77 : decode cX1_fact 77 = .ok (.getfield 61, 3) := by decide +kernel
theorem dX1_fact_80 : decode cX1_fact 80 = .ok (.ifCond .eq 7, 3) := by decide +kernel
theorem dX1_fact_83 : decode cX1_fact 83 = .ok (.iconst 1, 1) := by decide +kernel
theorem dX1_fact_84 : decode cX1_fact 84 = .ok (.goto 4, 3) := by decide +kernel
theorem dX1_fact_87 : decode cX1_fact 87 = .ok (.iconst 0, 1) := by decide +kernel
theorem dX1_fact_88 : decode cX1_fact 88 = .ok (.ireturn, 1) := by decide +kernel
theorem dX1_fact_89 : decode cX1_fact 89 = .ok (.aload_n 0, 1) := by decide +kernel
theorem dX1_fact_90 : decode cX1_fact 90 = .ok (.getfield 25, 3) := by decide +kernel
theorem dX1_fact_93 : decode cX1_fact 93 = .ok (.getfield 85, 3) := by decide +kernel
theorem dX1_fact_96 : decode cX1_fact 96 = .ok (.ireturn, 1) := by decide +kernel
theorem dX1_fact_97 : decode cX1_fact 97 = .ok (.aload_n 0, 1) := by decide +kernel
theorem dX1_fact_98 : decode cX1_fact 98 = .ok (.getfield 25, 3) := by decide +kernel
theorem dX1_fact_101 : decode cX1_fact 101 = .ok (.getfield 88, 3) := by decide +kernel
theorem dX1_fact_104 : decode cX1_fact 104 = .ok (.ireturn, 1) := by decide +kernel
theorem dX1_fact_105 : decode cX1_fact 105 = .ok (.aload_n 0, 1) := by decide +kernel
theorem dX1_fact_106 : decode cX1_fact 106 = .ok (.getfield 65, 3) := by decide +kernel
theorem dX1_fact_109 : decode cX1_fact 109 = .ok (.invokestatic 91, 3) := by decide +kernel
theorem dX1_fact_112 : decode cX1_fact 112 = .ok (.ireturn, 1) := by decide +kernel
theorem dX1_fact_113 : decode cX1_fact 113 = .ok (.aload_n 0, 1) := by decide +kernel
theorem dX1_fact_114 : decode cX1_fact 114 = .ok (.getfield 32, 3) := by decide +kernel
theorem dX1_fact_117 : decode cX1_fact 117 = .ok (.getfield 97, 3) := by decide +kernel
theorem dX1_fact_120 : decode cX1_fact 120 = .ok (.ireturn, 1) := by decide +kernel
theorem dX1_fact_121 : decode cX1_fact 121 = .ok (.aload_n 0, 1) := by decide +kernel
theorem dX1_fact_122 : decode cX1_fact 122 = .ok (.getfield 32, 3) := by decide +kernel
theorem dX1_fact_125 : decode cX1_fact 125 = .ok (.getfield 100, 3) := by decide +kernel
theorem dX1_fact_128 : decode cX1_fact 128 = .ok (.ireturn, 1) := by decide +kernel
theorem dX1_fact_129 : decode cX1_fact 129 = .ok (.aload_n 0, 1) := by decide +kernel
theorem dX1_fact_130 : decode cX1_fact 130 = .ok (.getfield 68, 3) := by decide +kernel
theorem dX1_fact_133 : decode cX1_fact 133 = .ok (.ireturn, 1) := by decide +kernel
theorem dX2_init_0 : decode cX2_init 0 = .ok (.aload_n 0, 1) := by decide +kernel
theorem dX2_init_1 : decode cX2_init 1 = .ok (.invokespecial 3, 3) := by decide +kernel
theorem dX2_init_4 : decode cX2_init 4 = .ok (.aload_n 0, 1) := by decide +kernel
theorem dX2_init_5 : decode cX2_init 5 = .ok (.sipush 600, 3) := by decide +kernel
theorem dX2_init_8 : decode cX2_init 8 = .ok (.newarray .int, 2) := by decide +kernel
theorem dX2_init_10 : decode cX2_init 10 = .ok (.putfield 11, 3) := by decide +kernel
theorem dX2_init_13 : decode cX2_init 13 = .ok (.aload_n 0, 1) := by decide +kernel
theorem dX2_init_14 : decode cX2_init 14 = .ok (.iconst 0, 1) := by decide +kernel
theorem dX2_init_15 : decode cX2_init 15 = .ok (.putfield 15, 3) := by decide +kernel
theorem dX2_init_18 : decode cX2_init 18 = .ok (.return_, 1) := by decide +kernel
theorem dX2_print_0 : decode cX2_print 0 = .ok (.iconst 0, 1) := by decide +kernel
theorem dX2_print_1 : decode cX2_print 1 = .ok (.istore_n 2, 1) := by decide +kernel
theorem dX2_print_2 : decode cX2_print 2 = .ok (.iload_n 2, 1) := by decide +kernel
theorem dX2_print_3 : decode cX2_print 3 = .ok (.aload_n 1, 1) := by decide +kernel
theorem dX2_print_4 : decode cX2_print 4 = .ok (.getfield 19, 3) := by decide +kernel
theorem dX2_print_7 : decode cX2_print 7 = .ok (.if_icmp .ge 44, 3) := by decide +kernel
theorem dX2_print_10 : decode cX2_print 10 = .ok (.aload_n 0, 1) := by decide +kernel
theorem dX2_print_11 : decode cX2_print 11 = .ok (.getfield 15, 3) := by decide +kernel
theorem dX2_print_14 : decode cX2_print 14 = .ok (.sipush 600, 3) := by decide +kernel
theorem dX2_print_17 : decode cX2_print 17 = .ok (.if_icmp .ge 18, 3) := by decide +kernel
theorem dX2_print_20 : decode cX2_print 20 = .ok (.aload_n 0, 1) := by decide +kernel
theorem dX2_print_21 : decode cX2_print 21 = .ok (.getfield 11, 3) := by decide +kernel
theorem dX2_print_24 : decode cX2_print 24 = .ok (.aload_n 0, 1) := by decide +kernel
theorem dX2_print_25 : decode cX2_print 25 = .ok (.getfield 15, 3) := by decide +kernel
theorem dX2_print_28 : decode cX2_print 28 = .ok (.aload_n 1, 1) := by decide +kernel
theorem dX2_print_29 : decode cX2_print 29 = .ok (.getfield 24, 3) := by decide +kernel
theorem dX2_print_32 : decode cX2_print 32 = .ok (.iload_n 2, 1) := by decide +kernel
theorem dX2_print_33 : decode cX2_print 33 = .ok (.iaload, 1) := by decide +kernel
theorem dX2_print_34 : decode cX2_print 34 = .ok (.iastore, 1) := by decide +kernel
theorem dX2_print_35 : decode cX2_print 35 = .ok (.aload_n 0, 1) := by decide +kernel
theorem dX2_print_36 : decode cX2_print 36 = .ok (.dup, 1) := by decide +kernel
theorem dX2_print_37 : decode cX2_print 37 = .ok (.getfield 15, 3) := by decide +kernel
theorem dX2_print_40 : decode cX2_print 40 = .ok (.iconst 1, 1) := by decide +kernel
theorem dX2_print_41 : decode cX2_print 41 = .ok (.iadd, 1) := by decide +kernel
theorem dX2_print_42 : decode cX2_print 42 = .ok (.putfield 15, 3) := by decide +kernel
theorem dX2_print_45 : decode cX2_print 45 = .ok (.iinc 2 1, 3) := by decide +kernel
theorem dX2_print_48 : decode cX2_print 48 = .ok (.goto (-46), 3) := by decide +kernel
theorem dX2_print_51 : decode cX2_print 51 = .ok (.return_, 1) := by decide +kernel
theorem dX2_numberAt_0 : decode cX2_numberAt 0 = .ok (.iload_n 1, 1) := by decide +kernel
theorem dX2_numberAt_1 : decode cX2_numberAt 1 = .ok (.ifCond .lt 26, 3) := by decide +kernel
theorem dX2_numberAt_4 : decode cX2_numberAt 4 = .ok (.iload_n 1, 1) := by decide +kernel
theorem dX2_numberAt_5 : decode cX2_numberAt 5 = .ok (.aload_n 0, 1) := by decide +kernel
theorem dX2_numberAt_6 : decode cX2_numberAt 6 = .ok (.getfield 15, 3) := by decide +kernel
theorem dX2_numberAt_9 : decode cX2_numberAt 9 = .ok (.sipush 600, 3) := by decide +kernel
theorem dX2_numberAt_12 : decode cX2_numberAt 12 = .ok (.invokestatic 27, 3) := by decide +kernel
theorem dX2_numberAt_15 : decode cX2_numberAt 15 = .ok (.if_icmp .ge 12, 3) := by decide +kernel
theorem dX2_numberAt_18 : decode cX2_numberAt 18 = .ok (.aload_n 0, 1) := by decide +kernel
theorem dX2_numberAt_19 : decode cX2_numberAt 19 = .ok (.getfield 11, 3) := by decide +kernel
theorem dX2_numberAt_22 : decode cX2_numberAt 22 = .ok (.iload_n 1, 1) := by decide +kernel
theorem dX2_numberAt_23 : decode cX2_numberAt 23 = .ok (.iaload, 1) := by decide +kernel
theorem dX2_numberAt_24 : decode cX2_numberAt 24 = .ok (.goto 4, 3) := by decide +kernel
theorem dX2_numberAt_27 : decode cX2_numberAt 27 = .ok (.iconst (-1), 1) := by decide +kernel
theorem dX2_numberAt_28 : decode cX2_numberAt 28 = .ok (.ireturn, 1) := by decide +kernel
theorem dX3_init_0 : decode cX3_init 0 = .ok (.aload_n 0, 1) := by decide +kernel
theorem dX3_init_1 : decode cX3_init 1 = .ok (.invokespecial 3, 3) := by decide +kernel
theorem dX3_init_4 : decode cX3_init 4 = .ok (.aload_n 0, 1) := by decide +kernel
theorem dX3_init_5 : decode cX3_init 5 = .ok (.bipush 95, 2) := by decide +kernel
theorem dX3_init_7 : decode cX3_init 7 = .ok (.newarray .int, 2) := by decide +kernel
theorem dX3_init_9 : decode cX3_init 9 = .ok (.putfield 11, 3) := by decide +kernel
theorem dX3_init_12 : decode cX3_init 12 = .ok (.aload_n 0, 1) := by decide +kernel
theorem dX3_init_13 : decode cX3_init 13 = .ok (.iconst 2, 1) := by decide +kernel
theorem dX3_init_14 : decode cX3_init 14 = .ok (.putfield 15, 3) := by decide +kernel
theorem dX3_init_17 : decode cX3_init 17 = .ok (.return_, 1) := by decide +kernel
theorem dX3_kind_0 : decode cX3_kind 0 = .ok (.aload_n 0, 1) := by decide +kernel
theorem dX3_kind_1 : decode cX3_kind 1 = .ok (.getfield 11, 3) := by decide +kernel
theorem dX3_kind_4 : decode cX3_kind 4 = .ok (.iconst 0, 1) := by decide +kernel
theorem dX3_kind_5 : decode cX3_kind 5 = .ok (.iaload, 1) := by decide +kernel
theorem dX3_kind_6 : decode cX3_kind 6 = .ok (.invokestatic 19, 3) := by decide +kernel
theorem dX3_kind_9 : decode cX3_kind 9 = .ok (.ireturn, 1) := by decide +kernel
theorem dX3_kindOf_0 : decode cX3_kindOf 0 = .ok (.iload_n 0, 1) := by decide +kernel
theorem dX3_kindOf_1 : decode cX3_kindOf 1 = .ok (.iconst (-1), 1) := by decide +kernel
theorem dX3_kindOf_2 : decode cX3_kindOf 2 = .ok (.if_icmp .ne 7, 3) := by decide +kernel
theorem dX3_kindOf_5 : decode cX3_kindOf 5 = .ok (.iconst 3, 1) := by decide +kernel
theorem dX3_kindOf_6 : decode cX3_kindOf 6 = .ok (.goto 4, 3) := by decide +kernel
theorem dX3_kindOf_9 : decode cX3_kindOf 9 = .ok (.iload_n 0, 1) := by decide +kernel
theorem dX3_kindOf_10 : decode cX3_kindOf 10 = .ok (.ireturn, 1) := by decide +kernel
theorem dX3_value_0 : decode cX3_value 0 = .ok (.aload_n 0, 1) := by decide +kernel
theorem dX3_value_1 : decode cX3_value 1 = .ok (.getfield 11, 3) := by decide +kernel
theorem dX3_value_4 : decode cX3_value 4 = .ok (.iconst 1, 1) := by decide +kernel
theorem dX3_value_5 : decode cX3_value 5 = .ok (.iaload, 1) := by decide +kernel
theorem dX3_value_6 : decode cX3_value 6 = .ok (.ireturn, 1) := by decide +kernel
theorem dX3_isAtom_0 : decode cX3_isAtom 0 = .ok (.aload_n 0, 1) := by decide +kernel
theorem dX3_isAtom_1 : decode cX3_isAtom 1 = .ok (.getfield 11, 3) := by decide +kernel
theorem dX3_isAtom_4 : decode cX3_isAtom 4 = .ok (.iconst 0, 1) := by decide +kernel
theorem dX3_isAtom_5 : decode cX3_isAtom 5 = .ok (.iaload, 1) := by decide +kernel
theorem dX3_isAtom_6 : decode cX3_isAtom 6 = .ok (.iconst 1, 1) := by decide +kernel
theorem dX3_isAtom_7 : decode cX3_isAtom 7 = .ok (.if_icmp .ne 17, 3) := by decide +kernel
theorem dX3_isAtom_10 : decode cX3_isAtom 10 = .ok (.aload_n 0, 1) := by decide +kernel
theorem dX3_isAtom_11 : decode cX3_isAtom 11 = .ok (.getfield 11, 3) := by decide +kernel
theorem dX3_isAtom_14 : decode cX3_isAtom 14 = .ok (.iconst 1, 1) := by decide +kernel
theorem dX3_isAtom_15 : decode cX3_isAtom 15 = .ok (.iaload, 1) := by decide +kernel
theorem dX3_isAtom_16 : decode cX3_isAtom 16 = .ok (.iload_n 1, 1) := by decide +kernel
theorem dX3_isAtom_17 : decode cX3_isAtom 17 = .ok (.if_icmp .ne 7, 3) := by decide +kernel
theorem dX3_isAtom_20 : decode cX3_isAtom 20 = .ok (.iconst 1, 1) := by decide +kernel
theorem dX3_isAtom_21 : decode cX3_isAtom 21 = .ok (.goto 4, 3) := by decide +kernel
theorem dX3_isAtom_24 : decode cX3_isAtom 24 = .ok (.iconst 0, 1) := by decide +kernel
theorem dX3_isAtom_25 : decode cX3_isAtom 25 = .ok (.ireturn, 1) := by decide +kernel
theorem dX3_numberAt_0 : decode cX3_numberAt 0 = .ok (.iload_n 1, 1) := by decide +kernel
theorem dX3_numberAt_1 : decode cX3_numberAt 1 = .ok (.ifCond .lt 20, 3) := by decide +kernel
theorem dX3_numberAt_4 : decode cX3_numberAt 4 = .ok (.iload_n 1, 1) := by decide +kernel
theorem dX3_numberAt_5 : decode cX3_numberAt 5 = .ok (.aload_n 0, 1) := by decide +kernel
theorem dX3_numberAt_6 : decode cX3_numberAt 6 = .ok (.getfield 15, 3) := by decide +kernel
theorem dX3_numberAt_9 : decode cX3_numberAt 9 = .ok (.if_icmp .ge 12, 3) := by decide +kernel
theorem dX3_numberAt_12 : decode cX3_numberAt 12 = .ok (.aload_n 0, 1) := by decide +kernel
theorem dX3_numberAt_13 : decode cX3_numberAt 13 = .ok (.getfield 11, 3) := by decide +kernel
theorem dX3_numberAt_16 : decode cX3_numberAt 16 = .ok (.iload_n 1, 1) := by decide +kernel
theorem dX3_numberAt_17 : decode cX3_numberAt 17 = .ok (.iaload, 1) := by decide +kernel
theorem dX3_numberAt_18 : decode cX3_numberAt 18 = .ok (.goto 4, 3) := by decide +kernel
theorem dX3_numberAt_21 : decode cX3_numberAt 21 = .ok (.iconst (-1), 1) := by decide +kernel
theorem dX3_numberAt_22 : decode cX3_numberAt 22 = .ok (.ireturn, 1) := by decide +kernel
theorem dX3_setSingle_0 : decode cX3_setSingle 0 = .ok (.aload_n 0, 1) := by decide +kernel
theorem dX3_setSingle_1 : decode cX3_setSingle 1 = .ok (.iconst 0, 1) := by decide +kernel
theorem dX3_setSingle_2 : decode cX3_setSingle 2 = .ok (.putfield 15, 3) := by decide +kernel
theorem dX3_setSingle_5 : decode cX3_setSingle 5 = .ok (.aload_n 0, 1) := by decide +kernel
theorem dX3_setSingle_6 : decode cX3_setSingle 6 = .ok (.iload_n 1, 1) := by decide +kernel
theorem dX3_setSingle_7 : decode cX3_setSingle 7 = .ok (.iload_n 2, 1) := by decide +kernel
theorem dX3_setSingle_8 : decode cX3_setSingle 8 = .ok (.invokevirtual 23, 3) := by decide +kernel
theorem dX3_setSingle_11 : decode cX3_setSingle 11 = .ok (.return_, 1) := by decide +kernel
theorem dX3_copy_0 : decode cX3_copy 0 = .ok (.aload_n 1, 1) := by decide +kernel
theorem dX3_copy_1 : decode cX3_copy 1 = .ok (.getfield 11, 3) := by decide +kernel
theorem dX3_copy_4 : decode cX3_copy 4 = .ok (.iconst 0, 1) := by decide +kernel
theorem dX3_copy_5 : decode cX3_copy 5 = .ok (.aload_n 0, 1) := by decide +kernel
theorem dX3_copy_6 : decode cX3_copy 6 = .ok (.getfield 11, 3) := by decide +kernel
theorem dX3_copy_9 : decode cX3_copy 9 = .ok (.iconst 0, 1) := by decide +kernel
theorem dX3_copy_10 : decode cX3_copy 10 = .ok (.aload_n 1, 1) := by decide +kernel
theorem dX3_copy_11 : decode cX3_copy 11 = .ok (.getfield 15, 3) := by decide +kernel
theorem dX3_copy_14 : decode cX3_copy 14 = .ok (.invokestatic 27, 3) := by decide +kernel
theorem dX3_copy_17 : decode cX3_copy 17 = .ok (.aload_n 0, 1) := by decide +kernel
theorem dX3_copy_18 : decode cX3_copy 18 = .ok (.aload_n 1, 1) := by decide +kernel
theorem dX3_copy_19 : decode cX3_copy 19 = .ok (.getfield 15, 3) := by decide +kernel
theorem dX3_copy_22 : decode cX3_copy 22 = .ok (.putfield 15, 3) := by decide +kernel
theorem dX3_copy_25 : decode cX3_copy 25 = .ok (.return_, 1) := by decide +kernel
theorem dX3_setPair_0 : decode cX3_setPair 0 = .ok (.aload_n 1, 1) := by decide +kernel
theorem dX3_setPair_1 : decode cX3_setPair 1 = .ok (.getfield 15, 3) := by decide +kernel
theorem dX3_setPair_4 : decode cX3_setPair 4 = .ok (.istore_n 3, 1) := by decide +kernel
theorem dX3_setPair_5 : decode cX3_setPair 5 = .ok (.aload_n 2, 1) := by decide +kernel
theorem dX3_setPair_6 : decode cX3_setPair 6 = .ok (.getfield 15, 3) := by decide +kernel
theorem dX3_setPair_9 : decode cX3_setPair 9 = .ok (.istore 4, 2) := by decide +kernel
theorem dX3_setPair_11 : decode cX3_setPair 11 = .ok (.iconst 1, 1) := by decide +kernel
theorem dX3_setPair_12 : decode cX3_setPair 12 = .ok (.iload_n 3, 1) := by decide +kernel
theorem dX3_setPair_13 : decode cX3_setPair 13 = .ok (.iadd, 1) := by decide +kernel
theorem dX3_setPair_14 : decode cX3_setPair 14 = .ok (.iload 4, 2) := by decide +kernel
theorem dX3_setPair_16 : decode cX3_setPair 16 = .ok (.iadd, 1) := by decide +kernel
theorem dX3_setPair_17 : decode cX3_setPair 17 = .ok (.bipush 95, 2) := by decide +kernel
theorem dX3_setPair_19 : decode cX3_setPair 19 = .ok (.if_icmp .le 5, 3) := by decide +kernel
theorem dX3_setPair_22 : decode cX3_setPair 22 = .ok (.iconst 0, 1) := by decide +kernel
theorem dX3_setPair_23 : decode cX3_setPair 23 = .ok (.ireturn, 1) := by decide +kernel
theorem dX3_setPair_24 : decode cX3_setPair 24 = .ok (.aload_n 2, 1) := by decide +kernel
theorem dX3_setPair_25 : decode cX3_setPair 25 = .ok (.getfield 11, 3) := by decide +kernel
theorem dX3_setPair_28 : decode cX3_setPair 28 = .ok (.iconst 0, 1) := by decide +kernel
theorem dX3_setPair_29 : decode cX3_setPair 29 = .ok (.aload_n 0, 1) := by decide +kernel
theorem dX3_setPair_30 : decode cX3_setPair 30 = .ok (.getfield 11, 3) := by decide +kernel
theorem dX3_setPair_33 : decode cX3_setPair 33 = .ok (.iconst 1, 1) := by decide +kernel
theorem dX3_setPair_34 : decode cX3_setPair 34 = .ok (.iload_n 3, 1) := by decide +kernel
theorem dX3_setPair_35 : decode cX3_setPair 35 = .ok (.iadd, 1) := by decide +kernel
theorem dX3_setPair_36 : decode cX3_setPair 36 = .ok (.iload 4, 2) := by decide +kernel
theorem dX3_setPair_38 : decode cX3_setPair 38 = .ok (.invokestatic 27, 3) := by decide +kernel
theorem dX3_setPair_41 : decode cX3_setPair 41 = .ok (.aload_n 1, 1) := by decide +kernel
theorem dX3_setPair_42 : decode cX3_setPair 42 = .ok (.getfield 11, 3) := by decide +kernel
theorem dX3_setPair_45 : decode cX3_setPair 45 = .ok (.iconst 0, 1) := by decide +kernel
theorem dX3_setPair_46 : decode cX3_setPair 46 = .ok (.aload_n 0, 1) := by decide +kernel
theorem dX3_setPair_47 : decode cX3_setPair 47 = .ok (.getfield 11, 3) := by decide +kernel
theorem dX3_setPair_50 : decode cX3_setPair 50 = .ok (.iconst 1, 1) := by decide +kernel
theorem dX3_setPair_51 : decode cX3_setPair 51 = .ok (.iload_n 3, 1) := by decide +kernel
theorem dX3_setPair_52 : decode cX3_setPair 52 = .ok (.invokestatic 27, 3) := by decide +kernel
theorem dX3_setPair_55 : decode cX3_setPair 55 = .ok (.aload_n 0, 1) := by decide +kernel
theorem dX3_setPair_56 : decode cX3_setPair 56 = .ok (.getfield 11, 3) := by decide +kernel
theorem dX3_setPair_59 : decode cX3_setPair 59 = .ok (.iconst 0, 1) := by decide +kernel
theorem dX3_setPair_60 : decode cX3_setPair 60 = .ok (.iconst (-1), 1) := by decide +kernel
theorem dX3_setPair_61 : decode cX3_setPair 61 = .ok (.iastore, 1) := by decide +kernel
theorem dX3_setPair_62 : decode cX3_setPair 62 = .ok (.aload_n 0, 1) := by decide +kernel
theorem dX3_setPair_63 : decode cX3_setPair 63 = .ok (.iconst 1, 1) := by decide +kernel
theorem dX3_setPair_64 : decode cX3_setPair 64 = .ok (.iload_n 3, 1) := by decide +kernel
theorem dX3_setPair_65 : decode cX3_setPair 65 = .ok (.iadd, 1) := by decide +kernel
theorem dX3_setPair_66 : decode cX3_setPair 66 = .ok (.iload 4, 2) := by decide +kernel
theorem dX3_setPair_68 : decode cX3_setPair 68 = .ok (.iadd, 1) := by decide +kernel
theorem dX3_setPair_69 : decode cX3_setPair 69 = .ok (.putfield 15, 3) := by decide +kernel
theorem dX3_setPair_72 : decode cX3_setPair 72 = .ok (.iconst 1, 1) := by decide +kernel
theorem dX3_setPair_73 : decode cX3_setPair 73 = .ok (.ireturn, 1) := by decide +kernel
theorem dX3_setFirst_0 : decode cX3_setFirst 0 = .ok (.aload_n 1, 1) := by decide +kernel
theorem dX3_setFirst_1 : decode cX3_setFirst 1 = .ok (.invokevirtual 33, 3) := by decide +kernel
theorem dX3_setFirst_4 : decode cX3_setFirst 4 = .ok (.iconst 3, 1) := by decide +kernel
theorem dX3_setFirst_5 : decode cX3_setFirst 5 = .ok (.if_icmp .ne 20, 3) := by decide +kernel
theorem dX3_setFirst_8 : decode cX3_setFirst 8 = .ok (.aload_n 0, 1) := by decide +kernel
theorem dX3_setFirst_9 : decode cX3_setFirst 9 = .ok (.aload_n 1, 1) := by decide +kernel
theorem dX3_setFirst_10 : decode cX3_setFirst 10 = .ok (.iconst 1, 1) := by decide +kernel
theorem dX3_setFirst_11 : decode cX3_setFirst 11 = .ok (.aload_n 1, 1) := by decide +kernel
theorem dX3_setFirst_12 : decode cX3_setFirst 12 = .ok (.invokevirtual 37, 3) := by decide +kernel
theorem dX3_setFirst_15 : decode cX3_setFirst 15 = .ok (.invokevirtual 40, 3) := by decide +kernel
theorem dX3_setFirst_18 : decode cX3_setFirst 18 = .ok (.ifCond .eq 7, 3) := by decide +kernel
theorem dX3_setFirst_21 : decode cX3_setFirst 21 = .ok (.iconst 1, 1) := by decide +kernel
theorem dX3_setFirst_22 : decode cX3_setFirst 22 = .ok (.goto 4, 3) := by decide +kernel
theorem dX3_setFirst_25 : decode cX3_setFirst 25 = .ok (.iconst 0, 1) := by decide +kernel
theorem dX3_setFirst_26 : decode cX3_setFirst 26 = .ok (.ireturn, 1) := by decide +kernel
theorem dX3_setSecond_0 : decode cX3_setSecond 0 = .ok (.aload_n 1, 1) := by decide +kernel
theorem dX3_setSecond_1 : decode cX3_setSecond 1 = .ok (.invokevirtual 33, 3) := by decide +kernel
theorem dX3_setSecond_4 : decode cX3_setSecond 4 = .ok (.iconst 3, 1) := by decide +kernel
theorem dX3_setSecond_5 : decode cX3_setSecond 5 = .ok (.if_icmp .ne 23, 3) := by decide +kernel
theorem dX3_setSecond_8 : decode cX3_setSecond 8 = .ok (.aload_n 0, 1) := by decide +kernel
theorem dX3_setSecond_9 : decode cX3_setSecond 9 = .ok (.aload_n 1, 1) := by decide +kernel
theorem dX3_setSecond_10 : decode cX3_setSecond 10 = .ok (.aload_n 1, 1) := by decide +kernel
theorem dX3_setSecond_11 : decode cX3_setSecond 11 = .ok (.invokevirtual 37, 3) := by decide +kernel
theorem dX3_setSecond_14 : decode cX3_setSecond 14 = .ok (.aload_n 1, 1) := by decide +kernel
theorem dX3_setSecond_15 : decode cX3_setSecond 15 = .ok (.getfield 15, 3) := by decide +kernel
theorem dX3_setSecond_18 : decode cX3_setSecond 18 = .ok (.invokevirtual 40, 3) := by decide +kernel
theorem dX3_setSecond_21 : decode cX3_setSecond 21 = .ok (.ifCond .eq 7, 3) := by decide +kernel
theorem dX3_setSecond_24 : decode cX3_setSecond 24 = .ok (.iconst 1, 1) := by decide +kernel
theorem dX3_setSecond_25 : decode cX3_setSecond 25 = .ok (.goto 4, 3) := by decide +kernel
theorem dX3_setSecond_28 : decode cX3_setSecond 28 = .ok (.iconst 0, 1) := by decide +kernel
theorem dX3_setSecond_29 : decode cX3_setSecond 29 = .ok (.ireturn, 1) := by decide +kernel
theorem dX3_setPart_0 : decode cX3_setPart 0 = .ok (.aload_n 1, 1) := by decide +kernel
theorem dX3_setPart_1 : decode cX3_setPart 1 = .ok (.getfield 11, 3) := by decide +kernel
theorem dX3_setPart_4 : decode cX3_setPart 4 = .ok (.iload_n 2, 1) := by decide +kernel
theorem dX3_setPart_5 : decode cX3_setPart 5 = .ok (.aload_n 0, 1) := by decide +kernel
theorem dX3_setPart_6 : decode cX3_setPart 6 = .ok (.getfield 11, 3) := by decide +kernel
theorem dX3_setPart_9 : decode cX3_setPart 9 = .ok (.iconst 0, 1) := by decide +kernel
theorem dX3_setPart_10 : decode cX3_setPart 10 = .ok (.iload_n 3, 1) := by decide +kernel
theorem dX3_setPart_11 : decode cX3_setPart 11 = .ok (.iload_n 2, 1) := by decide +kernel
theorem dX3_setPart_12 : decode cX3_setPart 12 = .ok (.isub, 1) := by decide +kernel
theorem dX3_setPart_13 : decode cX3_setPart 13 = .ok (.invokestatic 27, 3) := by decide +kernel
theorem dX3_setPart_16 : decode cX3_setPart 16 = .ok (.aload_n 0, 1) := by decide +kernel
theorem dX3_setPart_17 : decode cX3_setPart 17 = .ok (.iload_n 3, 1) := by decide +kernel
theorem dX3_setPart_18 : decode cX3_setPart 18 = .ok (.iload_n 2, 1) := by decide +kernel
theorem dX3_setPart_19 : decode cX3_setPart 19 = .ok (.isub, 1) := by decide +kernel
theorem dX3_setPart_20 : decode cX3_setPart 20 = .ok (.putfield 15, 3) := by decide +kernel
theorem dX3_setPart_23 : decode cX3_setPart 23 = .ok (.iconst 1, 1) := by decide +kernel
theorem dX3_setPart_24 : decode cX3_setPart 24 = .ok (.ireturn, 1) := by decide +kernel
theorem dX3_endOfFirst_0 : decode cX3_endOfFirst 0 = .ok (.iconst 1, 1) := by decide +kernel
theorem dX3_endOfFirst_1 : decode cX3_endOfFirst 1 = .ok (.istore_n 1, 1) := by decide +kernel
theorem dX3_endOfFirst_2 : decode cX3_endOfFirst 2 = .ok (.iconst 1, 1) := by decide +kernel
theorem dX3_endOfFirst_3 : decode cX3_endOfFirst 3 = .ok (.istore_n 2, 1) := by decide +kernel
theorem dX3_endOfFirst_4 : decode cX3_endOfFirst 4 = .ok (.iload_n 1, 1) := by decide +kernel
theorem dX3_endOfFirst_5 : decode cX3_endOfFirst 5 = .ok (.aload_n 0, 1) := by decide +kernel
theorem dX3_endOfFirst_6 : decode cX3_endOfFirst 6 = .ok (.getfield 15, 3) := by decide +kernel
theorem dX3_endOfFirst_9 : decode cX3_endOfFirst 9 = .ok (.if_icmp .ge 50, 3) := by decide +kernel
theorem dX3_endOfFirst_12 : decode cX3_endOfFirst 12 = .ok (.iload_n 2, 1) := by decide +kernel
theorem dX3_endOfFirst_13 : decode cX3_endOfFirst 13 = .ok (.ifCond .le 46, 3) := by decide +kernel
theorem dX3_endOfFirst_16 : decode cX3_endOfFirst 16 = .ok (.aload_n 0, 1) := by decide +kernel
theorem dX3_endOfFirst_17 : decode cX3_endOfFirst 17 = .ok (.getfield 11, 3) := by decide +kernel
theorem dX3_endOfFirst_20 : decode cX3_endOfFirst 20 = .ok (.iload_n 1, 1) := by decide +kernel
theorem dX3_endOfFirst_21 : decode cX3_endOfFirst 21 = .ok (.iaload, 1) := by decide +kernel
theorem dX3_endOfFirst_22 : decode cX3_endOfFirst 22 = .ok (.iconst (-1), 1) := by decide +kernel
theorem dX3_endOfFirst_23 : decode cX3_endOfFirst 23 = .ok (.if_icmp .ne 7, 3) := by decide +kernel
theorem dX3_endOfFirst_26 : decode cX3_endOfFirst 26 = .ok (.iconst 1, 1) := by decide +kernel
theorem dX3_endOfFirst_27 : decode cX3_endOfFirst 27 = .ok (.goto 4, 3) := by decide +kernel
theorem dX3_endOfFirst_30 : decode cX3_endOfFirst 30 = .ok (.iconst 0, 1) := by decide +kernel
theorem dX3_endOfFirst_31 : decode cX3_endOfFirst 31 = .ok (.istore_n 3, 1) := by decide +kernel
theorem dX3_endOfFirst_32 : decode cX3_endOfFirst 32 = .ok (.iload_n 2, 1) := by decide +kernel
theorem dX3_endOfFirst_33 : decode cX3_endOfFirst 33 = .ok (.iload_n 3, 1) := by decide +kernel
theorem dX3_endOfFirst_34 : decode cX3_endOfFirst 34 = .ok (.ifCond .eq 7, 3) := by decide +kernel
theorem dX3_endOfFirst_37 : decode cX3_endOfFirst 37 = .ok (.iconst 1, 1) := by decide +kernel
theorem dX3_endOfFirst_38 : decode cX3_endOfFirst 38 = .ok (.goto 4, 3) := by decide +kernel
theorem dX3_endOfFirst_41 : decode cX3_endOfFirst 41 = .ok (.iconst (-1), 1) := by decide +kernel
theorem dX3_endOfFirst_42 : decode cX3_endOfFirst 42 = .ok (.iadd, 1) := by decide +kernel
theorem dX3_endOfFirst_43 : decode cX3_endOfFirst 43 = .ok (.istore_n 2, 1) := by decide +kernel
theorem dX3_endOfFirst_44 : decode cX3_endOfFirst 44 = .ok (.iload_n 1, 1) := by decide +kernel
theorem dX3_endOfFirst_45 : decode cX3_endOfFirst 45 = .ok (.iload_n 3, 1) := by decide +kernel
theorem dX3_endOfFirst_46 : decode cX3_endOfFirst 46 = .ok (.ifCond .eq 7, 3) := by decide +kernel
theorem dX3_endOfFirst_49 : decode cX3_endOfFirst 49 = .ok (.iconst 1, 1) := by decide +kernel
theorem dX3_endOfFirst_50 : decode cX3_endOfFirst 50 = .ok (.goto 4, 3) := by decide +kernel
theorem dX3_endOfFirst_53 : decode cX3_endOfFirst 53 = .ok (.iconst 2, 1) := by decide +kernel
theorem dX3_endOfFirst_54 : decode cX3_endOfFirst 54 = .ok (.iadd, 1) := by decide +kernel
theorem dX3_endOfFirst_55 : decode cX3_endOfFirst 55 = .ok (.istore_n 1, 1) := by decide +kernel
theorem dX3_endOfFirst_56 : decode cX3_endOfFirst 56 = .ok (.goto (-52), 3) := by decide +kernel
theorem dX3_endOfFirst_59 : decode cX3_endOfFirst 59 = .ok (.iload_n 1, 1) := by decide +kernel
theorem dX3_endOfFirst_60 : decode cX3_endOfFirst 60 = .ok (.ireturn, 1) := by decide +kernel
theorem dX3_compareWith_0 : decode cX3_compareWith 0 = .ok (.aload_n 0, 1) := by decide +kernel
theorem dX3_compareWith_1 : decode cX3_compareWith 1 = .ok (.getfield 15, 3) := by decide +kernel
theorem dX3_compareWith_4 : decode cX3_compareWith 4 = .ok (.aload_n 1, 1) := by decide +kernel
theorem dX3_compareWith_5 : decode cX3_compareWith 5 = .ok (.getfield 15, 3) := by decide +kernel
theorem dX3_compareWith_8 : decode cX3_compareWith 8 = .ok (.invokestatic 44, 3) := by decide +kernel
theorem dX3_compareWith_11 : decode cX3_compareWith 11 = .ok (.istore_n 2, 1) := by decide +kernel
theorem dX3_compareWith_12 : decode cX3_compareWith 12 = .ok (.iconst 0, 1) := by decide +kernel
theorem dX3_compareWith_13 : decode cX3_compareWith 13 = .ok (.istore_n 3, 1) := by decide +kernel
theorem dX3_compareWith_14 : decode cX3_compareWith 14 = .ok (.iload_n 3, 1) := by decide +kernel
theorem dX3_compareWith_15 : decode cX3_compareWith 15 = .ok (.iconst 1, 1) := by decide +kernel
theorem dX3_compareWith_16 : decode cX3_compareWith 16 = .ok (.iadd, 1) := by decide +kernel
theorem dX3_compareWith_17 : decode cX3_compareWith 17 = .ok (.iload_n 2, 1) := by decide +kernel
theorem dX3_compareWith_18 : decode cX3_compareWith 18 = .ok (.if_icmp .ge 107, 3) := by decide +kernel
theorem dX3_compareWith_21 : decode cX3_compareWith 21 = .ok (.aload_n 0, 1) := by decide +kernel
theorem dX3_compareWith_22 : decode cX3_compareWith 22 = .ok (.getfield 11, 3) := by decide +kernel
theorem dX3_compareWith_25 : decode cX3_compareWith 25 = .ok (.iload_n 3, 1) := by decide +kernel
theorem dX3_compareWith_26 : decode cX3_compareWith 26 = .ok (.iaload, 1) := by decide +kernel
theorem dX3_compareWith_27 : decode cX3_compareWith 27 = .ok (.invokestatic 19, 3) := by decide +kernel
theorem dX3_compareWith_30 : decode cX3_compareWith 30 = .ok (.istore 4, 2) := by decide +kernel
theorem dX3_compareWith_32 : decode cX3_compareWith 32 = .ok (.aload_n 1, 1) := by decide +kernel
theorem dX3_compareWith_33 : decode cX3_compareWith 33 = .ok (.getfield 11, 3) := by decide +kernel
theorem dX3_compareWith_36 : decode cX3_compareWith 36 = .ok (.iload_n 3, 1) := by decide +kernel
theorem dX3_compareWith_37 : decode cX3_compareWith 37 = .ok (.iaload, 1) := by decide +kernel
theorem dX3_compareWith_38 : decode cX3_compareWith 38 = .ok (.invokestatic 19, 3) := by decide +kernel
theorem dX3_compareWith_41 : decode cX3_compareWith 41 = .ok (.istore 5, 2) := by decide +kernel
theorem dX3_compareWith_43 : decode cX3_compareWith 43 = .ok (.iload 4, 2) := by decide +kernel
theorem dX3_compareWith_45 : decode cX3_compareWith 45 = .ok (.iload 5, 2) := by decide +kernel
theorem dX3_compareWith_47 : decode cX3_compareWith 47 = .ok (.if_icmp .eq 16, 3) := by decide +kernel
theorem dX3_compareWith_50 : decode cX3_compareWith 50 = .ok (.iload 4, 2) := by decide +kernel
theorem dX3_compareWith_52 : decode cX3_compareWith 52 = .ok (.iload 5, 2) := by decide +kernel
theorem dX3_compareWith_54 : decode cX3_compareWith 54 = .ok (.if_icmp .ge 7, 3) := by decide +kernel
theorem dX3_compareWith_57 : decode cX3_compareWith 57 = .ok (.iconst (-1), 1) := by decide +kernel
theorem dX3_compareWith_58 : decode cX3_compareWith 58 = .ok (.goto 4, 3) := by decide +kernel
theorem dX3_compareWith_61 : decode cX3_compareWith 61 = .ok (.iconst 1, 1) := by decide +kernel
theorem dX3_compareWith_62 : decode cX3_compareWith 62 = .ok (.ireturn, 1) := by decide +kernel
theorem dX3_compareWith_63 : decode cX3_compareWith 63 = .ok (.iload 4, 2) := by decide +kernel
theorem dX3_compareWith_65 : decode cX3_compareWith 65 = .ok (.iconst 3, 1) := by decide +kernel
theorem dX3_compareWith_66 : decode cX3_compareWith 66 = .ok (.if_icmp .ne 9, 3) := by decide +kernel
theorem dX3_compareWith_69 : decode cX3_compareWith 69 = .ok (.iinc 3 1, 3) := by decide +kernel
theorem dX3_compareWith_72 : decode cX3_compareWith 72 = .ok (.goto 50, 3) := by decide +kernel
theorem dX3_compareWith_75 : decode cX3_compareWith 75 = .ok (.aload_n 0, 1) := by decide +kernel
theorem dX3_compareWith_76 : decode cX3_compareWith 76 = .ok (.getfield 11, 3) := by decide +kernel
theorem dX3_compareWith_79 : decode cX3_compareWith 79 = .ok (.iload_n 3, 1) := by decide +kernel
theorem dX3_compareWith_80 : decode cX3_compareWith 80 = .ok (.iconst 1, 1) := by decide +kernel
theorem dX3_compareWith_81 : decode cX3_compareWith 81 = .ok (.iadd, 1) := by decide +kernel
theorem dX3_compareWith_82 : decode cX3_compareWith 82 = .ok (.iaload, 1) := by decide +kernel
theorem dX3_compareWith_83 : decode cX3_compareWith 83 = .ok (.aload_n 1, 1) := by decide +kernel
theorem dX3_compareWith_84 : decode cX3_compareWith 84 = .ok (.getfield 11, 3) := by decide +kernel
theorem dX3_compareWith_87 : decode cX3_compareWith 87 = .ok (.iload_n 3, 1) := by decide +kernel
theorem dX3_compareWith_88 : decode cX3_compareWith 88 = .ok (.iconst 1, 1) := by decide +kernel
theorem dX3_compareWith_89 : decode cX3_compareWith 89 = .ok (.iadd, 1) := by decide +kernel
theorem dX3_compareWith_90 : decode cX3_compareWith 90 = .ok (.iaload, 1) := by decide +kernel
theorem dX3_compareWith_91 : decode cX3_compareWith 91 = .ok (.if_icmp .eq 28, 3) := by decide +kernel
theorem dX3_compareWith_94 : decode cX3_compareWith 94 = .ok (.aload_n 0, 1) := by decide +kernel
theorem dX3_compareWith_95 : decode cX3_compareWith 95 = .ok (.getfield 11, 3) := by decide +kernel
theorem dX3_compareWith_98 : decode cX3_compareWith 98 = .ok (.iload_n 3, 1) := by decide +kernel
theorem dX3_compareWith_99 : decode cX3_compareWith 99 = .ok (.iconst 1, 1) := by decide +kernel
theorem dX3_compareWith_100 : decode cX3_compareWith 100 = .ok (.iadd, 1) := by decide +kernel
theorem dX3_compareWith_101 : decode cX3_compareWith 101 = .ok (.iaload, 1) := by decide +kernel
theorem dX3_compareWith_102 : decode cX3_compareWith 102 = .ok (.aload_n 1, 1) := by decide +kernel
theorem dX3_compareWith_103 : decode cX3_compareWith 103 = .ok (.getfield 11, 3) := by decide +kernel
theorem dX3_compareWith_106 : decode cX3_compareWith 106 = .ok (.iload_n 3, 1) := by decide +kernel
theorem dX3_compareWith_107 : decode cX3_compareWith 107 = .ok (.iconst 1, 1) := by decide +kernel
theorem dX3_compareWith_108 : decode cX3_compareWith 108 = .ok (.iadd, 1) := by decide +kernel
theorem dX3_compareWith_109 : decode cX3_compareWith 109 = .ok (.iaload, 1) := by decide +kernel
theorem dX3_compareWith_110 : decode cX3_compareWith 110 = .ok (.if_icmp .ge 7, 3) := by decide +kernel
theorem dX3_compareWith_113 : decode cX3_compareWith 113 = .ok (.iconst (-1), 1) := by decide +kernel
theorem dX3_compareWith_114 : decode cX3_compareWith 114 = .ok (.goto 4, 3) := by decide +kernel
theorem dX3_compareWith_117 : decode cX3_compareWith 117 = .ok (.iconst 1, 1) := by decide +kernel
theorem dX3_compareWith_118 : decode cX3_compareWith 118 = .ok (.ireturn, 1) := by decide +kernel
theorem dX3_compareWith_119 : decode cX3_compareWith 119 = .ok (.iinc 3 2, 3) := by decide +kernel
theorem dX3_compareWith_122 : decode cX3_compareWith 122 = .ok (.goto (-108), 3) := by decide +kernel
theorem dX3_compareWith_125 : decode cX3_compareWith 125 = .ok (.iconst 0, 1) := by decide +kernel
theorem dX3_compareWith_126 : decode cX3_compareWith 126 = .ok (.ireturn, 1) := by decide +kernel
theorem dX3_setExit_0 : decode cX3_setExit 0 = .ok (.aload_n 0, 1) := by decide +kernel
theorem dX3_setExit_1 : decode cX3_setExit 1 = .ok (.iconst 0, 1) := by decide +kernel
theorem dX3_setExit_2 : decode cX3_setExit 2 = .ok (.putfield 15, 3) := by decide +kernel
theorem dX3_setExit_5 : decode cX3_setExit 5 = .ok (.aload_n 0, 1) := by decide +kernel
theorem dX3_setExit_6 : decode cX3_setExit 6 = .ok (.invokevirtual 50, 3) := by decide +kernel
theorem dX3_setExit_9 : decode cX3_setExit 9 = .ok (.aload_n 0, 1) := by decide +kernel
theorem dX3_setExit_10 : decode cX3_setExit 10 = .ok (.iconst 1, 1) := by decide +kernel
theorem dX3_setExit_11 : decode cX3_setExit 11 = .ok (.bipush 6, 2) := by decide +kernel
theorem dX3_setExit_13 : decode cX3_setExit 13 = .ok (.invokevirtual 23, 3) := by decide +kernel
theorem dX3_setExit_16 : decode cX3_setExit 16 = .ok (.aload_n 0, 1) := by decide +kernel
theorem dX3_setExit_17 : decode cX3_setExit 17 = .ok (.invokevirtual 50, 3) := by decide +kernel
theorem dX3_setExit_20 : decode cX3_setExit 20 = .ok (.aload_n 0, 1) := by decide +kernel
theorem dX3_setExit_21 : decode cX3_setExit 21 = .ok (.iconst 2, 1) := by decide +kernel
theorem dX3_setExit_22 : decode cX3_setExit 22 = .ok (.iload_n 1, 1) := by decide +kernel
theorem dX3_setExit_23 : decode cX3_setExit 23 = .ok (.invokevirtual 23, 3) := by decide +kernel
theorem dX3_setExit_26 : decode cX3_setExit 26 = .ok (.aload_n 0, 1) := by decide +kernel
theorem dX3_setExit_27 : decode cX3_setExit 27 = .ok (.aload_n 2, 1) := by decide +kernel
theorem dX3_setExit_28 : decode cX3_setExit 28 = .ok (.invokevirtual 53, 3) := by decide +kernel
theorem dX3_setExit_31 : decode cX3_setExit 31 = .ok (.return_, 1) := by decide +kernel
theorem dX3_setDown_0 : decode cX3_setDown 0 = .ok (.aload_n 0, 1) := by decide +kernel
theorem dX3_setDown_1 : decode cX3_setDown 1 = .ok (.iconst 0, 1) := by decide +kernel
theorem dX3_setDown_2 : decode cX3_setDown 2 = .ok (.putfield 15, 3) := by decide +kernel
theorem dX3_setDown_5 : decode cX3_setDown 5 = .ok (.aload_n 0, 1) := by decide +kernel
theorem dX3_setDown_6 : decode cX3_setDown 6 = .ok (.invokevirtual 50, 3) := by decide +kernel
theorem dX3_setDown_9 : decode cX3_setDown 9 = .ok (.aload_n 0, 1) := by decide +kernel
theorem dX3_setDown_10 : decode cX3_setDown 10 = .ok (.iconst 1, 1) := by decide +kernel
theorem dX3_setDown_11 : decode cX3_setDown 11 = .ok (.bipush 7, 2) := by decide +kernel
theorem dX3_setDown_13 : decode cX3_setDown 13 = .ok (.invokevirtual 23, 3) := by decide +kernel
theorem dX3_setDown_16 : decode cX3_setDown 16 = .ok (.aload_n 0, 1) := by decide +kernel
theorem dX3_setDown_17 : decode cX3_setDown 17 = .ok (.invokevirtual 50, 3) := by decide +kernel
theorem dX3_setDown_20 : decode cX3_setDown 20 = .ok (.aload_n 0, 1) := by decide +kernel
theorem dX3_setDown_21 : decode cX3_setDown 21 = .ok (.iconst 0, 1) := by decide +kernel
theorem dX3_setDown_22 : decode cX3_setDown 22 = .ok (.iload_n 1, 1) := by decide +kernel
theorem dX3_setDown_23 : decode cX3_setDown 23 = .ok (.invokevirtual 23, 3) := by decide +kernel
theorem dX3_setDown_26 : decode cX3_setDown 26 = .ok (.aload_n 0, 1) := by decide +kernel
theorem dX3_setDown_27 : decode cX3_setDown 27 = .ok (.invokevirtual 50, 3) := by decide +kernel
theorem dX3_setDown_30 : decode cX3_setDown 30 = .ok (.aload_n 0, 1) := by decide +kernel
theorem dX3_setDown_31 : decode cX3_setDown 31 = .ok (.iconst 2, 1) := by decide +kernel
theorem dX3_setDown_32 : decode cX3_setDown 32 = .ok (.iload_n 2, 1) := by decide +kernel
theorem dX3_setDown_33 : decode cX3_setDown 33 = .ok (.invokevirtual 23, 3) := by decide +kernel
theorem dX3_setDown_36 : decode cX3_setDown 36 = .ok (.aload_n 0, 1) := by decide +kernel
theorem dX3_setDown_37 : decode cX3_setDown 37 = .ok (.aload_n 3, 1) := by decide +kernel
theorem dX3_setDown_38 : decode cX3_setDown 38 = .ok (.invokevirtual 53, 3) := by decide +kernel
theorem dX3_setDown_41 : decode cX3_setDown 41 = .ok (.return_, 1) := by decide +kernel
theorem dX3_addPairSign_0 : decode cX3_addPairSign 0 = .ok (.aload_n 0, 1) := by decide +kernel
theorem dX3_addPairSign_1 : decode cX3_addPairSign 1 = .ok (.getfield 11, 3) := by decide +kernel
theorem dX3_addPairSign_4 : decode cX3_addPairSign 4 = .ok (.aload_n 0, 1) := by decide +kernel
theorem dX3_addPairSign_5 : decode cX3_addPairSign 5 = .ok (.getfield 15, 3) := by decide +kernel
theorem dX3_addPairSign_8 : decode cX3_addPairSign 8 = .ok (.iconst (-1), 1) := by decide +kernel
theorem dX3_addPairSign_9 : decode cX3_addPairSign 9 = .ok (.iastore, 1) := by decide +kernel
theorem dX3_addPairSign_10 : decode cX3_addPairSign 10 = .ok (.aload_n 0, 1) := by decide +kernel
theorem dX3_addPairSign_11 : decode cX3_addPairSign 11 = .ok (.dup, 1) := by decide +kernel
theorem dX3_addPairSign_12 : decode cX3_addPairSign 12 = .ok (.getfield 15, 3) := by decide +kernel
theorem dX3_addPairSign_15 : decode cX3_addPairSign 15 = .ok (.iconst 1, 1) := by decide +kernel
theorem dX3_addPairSign_16 : decode cX3_addPairSign 16 = .ok (.iadd, 1) := by decide +kernel
theorem dX3_addPairSign_17 : decode cX3_addPairSign 17 = .ok (.putfield 15, 3) := by decide +kernel
theorem dX3_addPairSign_20 : decode cX3_addPairSign 20 = .ok (.return_, 1) := by decide +kernel
theorem dX3_addSingle_0 : decode cX3_addSingle 0 = .ok (.aload_n 0, 1) := by decide +kernel
theorem dX3_addSingle_1 : decode cX3_addSingle 1 = .ok (.getfield 11, 3) := by decide +kernel
theorem dX3_addSingle_4 : decode cX3_addSingle 4 = .ok (.aload_n 0, 1) := by decide +kernel
theorem dX3_addSingle_5 : decode cX3_addSingle 5 = .ok (.getfield 15, 3) := by decide +kernel
theorem dX3_addSingle_8 : decode cX3_addSingle 8 = .ok (.iload_n 1, 1) := by decide +kernel
theorem dX3_addSingle_9 : decode cX3_addSingle 9 = .ok (.iastore, 1) := by decide +kernel
theorem dX3_addSingle_10 : decode cX3_addSingle 10 = .ok (.aload_n 0, 1) := by decide +kernel
theorem dX3_addSingle_11 : decode cX3_addSingle 11 = .ok (.getfield 11, 3) := by decide +kernel
theorem dX3_addSingle_14 : decode cX3_addSingle 14 = .ok (.aload_n 0, 1) := by decide +kernel
theorem dX3_addSingle_15 : decode cX3_addSingle 15 = .ok (.getfield 15, 3) := by decide +kernel
theorem dX3_addSingle_18 : decode cX3_addSingle 18 = .ok (.iconst 1, 1) := by decide +kernel
theorem dX3_addSingle_19 : decode cX3_addSingle 19 = .ok (.iadd, 1) := by decide +kernel
theorem dX3_addSingle_20 : decode cX3_addSingle 20 = .ok (.iload_n 2, 1) := by decide +kernel
theorem dX3_addSingle_21 : decode cX3_addSingle 21 = .ok (.iastore, 1) := by decide +kernel
theorem dX3_addSingle_22 : decode cX3_addSingle 22 = .ok (.aload_n 0, 1) := by decide +kernel
theorem dX3_addSingle_23 : decode cX3_addSingle 23 = .ok (.dup, 1) := by decide +kernel
theorem dX3_addSingle_24 : decode cX3_addSingle 24 = .ok (.getfield 15, 3) := by decide +kernel
theorem dX3_addSingle_27 : decode cX3_addSingle 27 = .ok (.iconst 2, 1) := by decide +kernel
theorem dX3_addSingle_28 : decode cX3_addSingle 28 = .ok (.iadd, 1) := by decide +kernel
theorem dX3_addSingle_29 : decode cX3_addSingle 29 = .ok (.putfield 15, 3) := by decide +kernel
theorem dX3_addSingle_32 : decode cX3_addSingle 32 = .ok (.return_, 1) := by decide +kernel
theorem dX3_addReason_0 : decode cX3_addReason 0 = .ok (.aload_n 0, 1) := by decide +kernel
theorem dX3_addReason_1 : decode cX3_addReason 1 = .ok (.getfield 15, 3) := by decide +kernel
theorem dX3_addReason_4 : decode cX3_addReason 4 = .ok (.aload_n 1, 1) := by decide +kernel
theorem dX3_addReason_5 : decode cX3_addReason 5 = .ok (.getfield 15, 3) := by decide +kernel
theorem dX3_addReason_8 : decode cX3_addReason 8 = .ok (.iadd, 1) := by decide +kernel
theorem dX3_addReason_9 : decode cX3_addReason 9 = .ok (.bipush 95, 2) := by decide +kernel
theorem dX3_addReason_11 : decode cX3_addReason 11 = .ok (.if_icmp .le 10, 3) := by decide +kernel
theorem dX3_addReason_14 : decode cX3_addReason 14 = .ok (.aload_n 0, 1) := by decide +kernel
theorem dX3_addReason_15 : decode cX3_addReason 15 = .ok (.iconst 1, 1) := by decide +kernel
theorem dX3_addReason_16 : decode cX3_addReason 16 = .ok (.iconst 5, 1) := by decide +kernel
theorem dX3_addReason_17 : decode cX3_addReason 17 = .ok (.invokevirtual 23, 3) := by decide +kernel
theorem dX3_addReason_20 : decode cX3_addReason 20 = .ok (.return_, 1) := by decide +kernel
theorem dX3_addReason_21 : decode cX3_addReason 21 = .ok (.aload_n 1, 1) := by decide +kernel
theorem dX3_addReason_22 : decode cX3_addReason 22 = .ok (.getfield 11, 3) := by decide +kernel
theorem dX3_addReason_25 : decode cX3_addReason 25 = .ok (.iconst 0, 1) := by decide +kernel
theorem dX3_addReason_26 : decode cX3_addReason 26 = .ok (.aload_n 0, 1) := by decide +kernel
theorem dX3_addReason_27 : decode cX3_addReason 27 = .ok (.getfield 11, 3) := by decide +kernel
theorem dX3_addReason_30 : decode cX3_addReason 30 = .ok (.aload_n 0, 1) := by decide +kernel
theorem dX3_addReason_31 : decode cX3_addReason 31 = .ok (.getfield 15, 3) := by decide +kernel
theorem dX3_addReason_34 : decode cX3_addReason 34 = .ok (.aload_n 1, 1) := by decide +kernel
theorem dX3_addReason_35 : decode cX3_addReason 35 = .ok (.getfield 15, 3) := by decide +kernel
theorem dX3_addReason_38 : decode cX3_addReason 38 = .ok (.invokestatic 27, 3) := by decide +kernel
theorem dX3_addReason_41 : decode cX3_addReason 41 = .ok (.aload_n 0, 1) := by decide +kernel
theorem dX3_addReason_42 : decode cX3_addReason 42 = .ok (.dup, 1) := by decide +kernel
theorem dX3_addReason_43 : decode cX3_addReason 43 = .ok (.getfield 15, 3) := by decide +kernel
theorem dX3_addReason_46 : decode cX3_addReason 46 = .ok (.aload_n 1, 1) := by decide +kernel
theorem dX3_addReason_47 : decode cX3_addReason 47 = .ok (.getfield 15, 3) := by decide +kernel
theorem dX3_addReason_50 : decode cX3_addReason 50 = .ok (.iadd, 1) := by decide +kernel
theorem dX3_addReason_51 : decode cX3_addReason 51 = .ok (.putfield 15, 3) := by decide +kernel
theorem dX3_addReason_54 : decode cX3_addReason 54 = .ok (.return_, 1) := by decide +kernel
theorem dX4_init_0 : decode cX4_init 0 = .ok (.aload_n 0, 1) := by decide +kernel
theorem dX4_init_1 : decode cX4_init 1 = .ok (.invokespecial 3, 3) := by decide +kernel
theorem dX4_init_4 : decode cX4_init 4 = .ok (.aload_n 0, 1) := by decide +kernel
theorem dX4_init_5 : decode cX4_init 5 = .ok (.bipush 16, 2) := by decide +kernel
theorem dX4_init_7 : decode cX4_init 7 = .ok (.newarray .int, 2) := by decide +kernel
theorem dX4_init_9 : decode cX4_init 9 = .ok (.putfield 11, 3) := by decide +kernel
theorem dX4_init_12 : decode cX4_init 12 = .ok (.aload_n 0, 1) := by decide +kernel
theorem dX4_init_13 : decode cX4_init 13 = .ok (.bipush 8, 2) := by decide +kernel
theorem dX4_init_15 : decode cX4_init 15 = .ok (.newarray .int, 2) := by decide +kernel
theorem dX4_init_17 : decode cX4_init 17 = .ok (.putfield 15, 3) := by decide +kernel
theorem dX4_init_20 : decode cX4_init 20 = .ok (.aload_n 0, 1) := by decide +kernel
theorem dX4_init_21 : decode cX4_init 21 = .ok (.bipush 8, 2) := by decide +kernel
theorem dX4_init_23 : decode cX4_init 23 = .ok (.newarray .int, 2) := by decide +kernel
theorem dX4_init_25 : decode cX4_init 25 = .ok (.putfield 18, 3) := by decide +kernel
theorem dX4_init_28 : decode cX4_init 28 = .ok (.aload_n 0, 1) := by decide +kernel
theorem dX4_init_29 : decode cX4_init 29 = .ok (.iconst 0, 1) := by decide +kernel
theorem dX4_init_30 : decode cX4_init 30 = .ok (.putfield 21, 3) := by decide +kernel
theorem dX4_init_33 : decode cX4_init 33 = .ok (.aload_n 0, 1) := by decide +kernel
theorem dX4_init_34 : decode cX4_init 34 = .ok (.iconst 0, 1) := by decide +kernel
theorem dX4_init_35 : decode cX4_init 35 = .ok (.putfield 25, 3) := by decide +kernel
theorem dX4_init_38 : decode cX4_init 38 = .ok (.return_, 1) := by decide +kernel
theorem dX4_addBack_0 : decode cX4_addBack 0 = .ok (.aload_n 0, 1) := by decide +kernel
theorem dX4_addBack_1 : decode cX4_addBack 1 = .ok (.getfield 21, 3) := by decide +kernel
theorem dX4_addBack_4 : decode cX4_addBack 4 = .ok (.bipush 16, 2) := by decide +kernel
theorem dX4_addBack_6 : decode cX4_addBack 6 = .ok (.if_icmp .lt 5, 3) := by decide +kernel
theorem dX4_addBack_9 : decode cX4_addBack 9 = .ok (.iconst 0, 1) := by decide +kernel
theorem dX4_addBack_10 : decode cX4_addBack 10 = .ok (.ireturn, 1) := by decide +kernel
theorem dX4_addBack_11 : decode cX4_addBack 11 = .ok (.aload_n 0, 1) := by decide +kernel
theorem dX4_addBack_12 : decode cX4_addBack 12 = .ok (.getfield 11, 3) := by decide +kernel
theorem dX4_addBack_15 : decode cX4_addBack 15 = .ok (.aload_n 0, 1) := by decide +kernel
theorem dX4_addBack_16 : decode cX4_addBack 16 = .ok (.getfield 21, 3) := by decide +kernel
theorem dX4_addBack_19 : decode cX4_addBack 19 = .ok (.iload_n 1, 1) := by decide +kernel
theorem dX4_addBack_20 : decode cX4_addBack 20 = .ok (.iastore, 1) := by decide +kernel
theorem dX4_addBack_21 : decode cX4_addBack 21 = .ok (.aload_n 0, 1) := by decide +kernel
theorem dX4_addBack_22 : decode cX4_addBack 22 = .ok (.dup, 1) := by decide +kernel
theorem dX4_addBack_23 : decode cX4_addBack 23 = .ok (.getfield 21, 3) := by decide +kernel
theorem dX4_addBack_26 : decode cX4_addBack 26 = .ok (.iconst 1, 1) := by decide +kernel
theorem dX4_addBack_27 : decode cX4_addBack 27 = .ok (.iadd, 1) := by decide +kernel
theorem dX4_addBack_28 : decode cX4_addBack 28 = .ok (.putfield 21, 3) := by decide +kernel
theorem dX4_addBack_31 : decode cX4_addBack 31 = .ok (.iconst 1, 1) := by decide +kernel
theorem dX4_addBack_32 : decode cX4_addBack 32 = .ok (.ireturn, 1) := by decide +kernel
theorem dX4_takeBack_0 : decode cX4_takeBack 0 = .ok (.aload_n 0, 1) := by decide +kernel
theorem dX4_takeBack_1 : decode cX4_takeBack 1 = .ok (.getfield 21, 3) := by decide +kernel
theorem dX4_takeBack_4 : decode cX4_takeBack 4 = .ok (.ifCond .gt 5, 3) := by decide +kernel
theorem dX4_takeBack_7 : decode cX4_takeBack 7 = .ok (.iconst (-1), 1) := by decide +kernel
theorem dX4_takeBack_8 : decode cX4_takeBack 8 = .ok (.ireturn, 1) := by decide +kernel
theorem dX4_takeBack_9 : decode cX4_takeBack 9 = .ok (.aload_n 0, 1) := by decide +kernel
theorem dX4_takeBack_10 : decode cX4_takeBack 10 = .ok (.dup, 1) := by decide +kernel
theorem dX4_takeBack_11 : decode cX4_takeBack 11 = .ok (.getfield 21, 3) := by decide +kernel
theorem dX4_takeBack_14 : decode cX4_takeBack 14 = .ok (.iconst 1, 1) := by decide +kernel
theorem dX4_takeBack_15 : decode cX4_takeBack 15 = .ok (.isub, 1) := by decide +kernel
theorem dX4_takeBack_16 : decode cX4_takeBack 16 = .ok (.putfield 21, 3) := by decide +kernel
theorem dX4_takeBack_19 : decode cX4_takeBack 19 = .ok (.aload_n 0, 1) := by decide +kernel
theorem dX4_takeBack_20 : decode cX4_takeBack 20 = .ok (.getfield 11, 3) := by decide +kernel
theorem dX4_takeBack_23 : decode cX4_takeBack 23 = .ok (.aload_n 0, 1) := by decide +kernel
theorem dX4_takeBack_24 : decode cX4_takeBack 24 = .ok (.getfield 21, 3) := by decide +kernel
theorem dX4_takeBack_27 : decode cX4_takeBack 27 = .ok (.iaload, 1) := by decide +kernel
theorem dX4_takeBack_28 : decode cX4_takeBack 28 = .ok (.ireturn, 1) := by decide +kernel
theorem dX4_addCatch_0 : decode cX4_addCatch 0 = .ok (.aload_n 0, 1) := by decide +kernel
theorem dX4_addCatch_1 : decode cX4_addCatch 1 = .ok (.getfield 25, 3) := by decide +kernel
theorem dX4_addCatch_4 : decode cX4_addCatch 4 = .ok (.bipush 8, 2) := by decide +kernel
theorem dX4_addCatch_6 : decode cX4_addCatch 6 = .ok (.if_icmp .lt 5, 3) := by decide +kernel
theorem dX4_addCatch_9 : decode cX4_addCatch 9 = .ok (.iconst 0, 1) := by decide +kernel
theorem dX4_addCatch_10 : decode cX4_addCatch 10 = .ok (.ireturn, 1) := by decide +kernel
theorem dX4_addCatch_11 : decode cX4_addCatch 11 = .ok (.aload_n 0, 1) := by decide +kernel
theorem dX4_addCatch_12 : decode cX4_addCatch 12 = .ok (.getfield 15, 3) := by decide +kernel
theorem dX4_addCatch_15 : decode cX4_addCatch 15 = .ok (.aload_n 0, 1) := by decide +kernel
theorem dX4_addCatch_16 : decode cX4_addCatch 16 = .ok (.getfield 25, 3) := by decide +kernel
theorem dX4_addCatch_19 : decode cX4_addCatch 19 = .ok (.iload_n 1, 1) := by decide +kernel
theorem dX4_addCatch_20 : decode cX4_addCatch 20 = .ok (.iastore, 1) := by decide +kernel
theorem dX4_addCatch_21 : decode cX4_addCatch 21 = .ok (.aload_n 0, 1) := by decide +kernel
theorem dX4_addCatch_22 : decode cX4_addCatch 22 = .ok (.getfield 18, 3) := by decide +kernel
theorem dX4_addCatch_25 : decode cX4_addCatch 25 = .ok (.aload_n 0, 1) := by decide +kernel
theorem dX4_addCatch_26 : decode cX4_addCatch 26 = .ok (.getfield 25, 3) := by decide +kernel
theorem dX4_addCatch_29 : decode cX4_addCatch 29 = .ok (.aload_n 0, 1) := by decide +kernel
theorem dX4_addCatch_30 : decode cX4_addCatch 30 = .ok (.getfield 21, 3) := by decide +kernel
theorem dX4_addCatch_33 : decode cX4_addCatch 33 = .ok (.iastore, 1) := by decide +kernel
theorem dX4_addCatch_34 : decode cX4_addCatch 34 = .ok (.aload_n 0, 1) := by decide +kernel
theorem dX4_addCatch_35 : decode cX4_addCatch 35 = .ok (.dup, 1) := by decide +kernel
theorem dX4_addCatch_36 : decode cX4_addCatch 36 = .ok (.getfield 25, 3) := by decide +kernel
theorem dX4_addCatch_39 : decode cX4_addCatch 39 = .ok (.iconst 1, 1) := by decide +kernel
theorem dX4_addCatch_40 : decode cX4_addCatch 40 = .ok (.iadd, 1) := by decide +kernel
theorem dX4_addCatch_41 : decode cX4_addCatch 41 = .ok (.putfield 25, 3) := by decide +kernel
theorem dX4_addCatch_44 : decode cX4_addCatch 44 = .ok (.iconst 1, 1) := by decide +kernel
theorem dX4_addCatch_45 : decode cX4_addCatch 45 = .ok (.ireturn, 1) := by decide +kernel
theorem dX4_dropCatch_0 : decode cX4_dropCatch 0 = .ok (.aload_n 0, 1) := by decide +kernel
theorem dX4_dropCatch_1 : decode cX4_dropCatch 1 = .ok (.getfield 25, 3) := by decide +kernel
theorem dX4_dropCatch_4 : decode cX4_dropCatch 4 = .ok (.ifCond .le 13, 3) := by decide +kernel
theorem dX4_dropCatch_7 : decode cX4_dropCatch 7 = .ok (.aload_n 0, 1) := by decide +kernel
theorem dX4_dropCatch_8 : decode cX4_dropCatch 8 = .ok (.dup, 1) := by decide +kernel
theorem dX4_dropCatch_9 : decode cX4_dropCatch 9 = .ok (.getfield 25, 3) := by decide +kernel
theorem dX4_dropCatch_12 : decode cX4_dropCatch 12 = .ok (.iconst 1, 1) := by decide +kernel
theorem dX4_dropCatch_13 : decode cX4_dropCatch 13 = .ok (.isub, 1) := by decide +kernel
theorem dX4_dropCatch_14 : decode cX4_dropCatch 14 = .ok (.putfield 25, 3) := by decide +kernel
theorem dX4_dropCatch_17 : decode cX4_dropCatch 17 = .ok (.return_, 1) := by decide +kernel
theorem dX4_takeCatch_0 : decode cX4_takeCatch 0 = .ok (.aload_n 0, 1) := by decide +kernel
theorem dX4_takeCatch_1 : decode cX4_takeCatch 1 = .ok (.getfield 25, 3) := by decide +kernel
theorem dX4_takeCatch_4 : decode cX4_takeCatch 4 = .ok (.ifCond .gt 5, 3) := by decide +kernel
theorem dX4_takeCatch_7 : decode cX4_takeCatch 7 = .ok (.iconst (-1), 1) := by decide +kernel
theorem dX4_takeCatch_8 : decode cX4_takeCatch 8 = .ok (.ireturn, 1) := by decide +kernel
theorem dX4_takeCatch_9 : decode cX4_takeCatch 9 = .ok (.aload_n 0, 1) := by decide +kernel
theorem dX4_takeCatch_10 : decode cX4_takeCatch 10 = .ok (.dup, 1) := by decide +kernel
theorem dX4_takeCatch_11 : decode cX4_takeCatch 11 = .ok (.getfield 25, 3) := by decide +kernel
theorem dX4_takeCatch_14 : decode cX4_takeCatch 14 = .ok (.iconst 1, 1) := by decide +kernel
theorem dX4_takeCatch_15 : decode cX4_takeCatch 15 = .ok (.isub, 1) := by decide +kernel
theorem dX4_takeCatch_16 : decode cX4_takeCatch 16 = .ok (.putfield 25, 3) := by decide +kernel
theorem dX4_takeCatch_19 : decode cX4_takeCatch 19 = .ok (.aload_n 0, 1) := by decide +kernel
theorem dX4_takeCatch_20 : decode cX4_takeCatch 20 = .ok (.aload_n 0, 1) := by decide +kernel
theorem dX4_takeCatch_21 : decode cX4_takeCatch 21 = .ok (.getfield 21, 3) := by decide +kernel
theorem dX4_takeCatch_24 : decode cX4_takeCatch 24 = .ok (.aload_n 0, 1) := by decide +kernel
theorem dX4_takeCatch_25 : decode cX4_takeCatch 25 = .ok (.getfield 18, 3) := by decide +kernel
theorem dX4_takeCatch_28 : decode cX4_takeCatch 28 = .ok (.aload_n 0, 1) := by decide +kernel
theorem dX4_takeCatch_29 : decode cX4_takeCatch 29 = .ok (.getfield 25, 3) := by decide +kernel
theorem dX4_takeCatch_32 : decode cX4_takeCatch 32 = .ok (.iaload, 1) := by decide +kernel
theorem dX4_takeCatch_33 : decode cX4_takeCatch 33 = .ok (.invokestatic 28, 3) := by decide +kernel
theorem dX4_takeCatch_36 : decode cX4_takeCatch 36 = .ok (.putfield 21, 3) := by decide +kernel
theorem dX4_takeCatch_39 : decode cX4_takeCatch 39 = .ok (.aload_n 0, 1) := by decide +kernel
theorem dX4_takeCatch_40 : decode cX4_takeCatch 40 = .ok (.getfield 15, 3) := by decide +kernel
theorem dX4_takeCatch_43 : decode cX4_takeCatch 43 = .ok (.aload_n 0, 1) := by decide +kernel
theorem dX4_takeCatch_44 : decode cX4_takeCatch 44 = .ok (.getfield 25, 3) := by decide +kernel
theorem dX4_takeCatch_47 : decode cX4_takeCatch 47 = .ok (.iaload, 1) := by decide +kernel
theorem dX4_takeCatch_48 : decode cX4_takeCatch 48 = .ok (.ireturn, 1) := by decide +kernel
theorem dX4_clear_0 : decode cX4_clear 0 = .ok (.aload_n 0, 1) := by decide +kernel
theorem dX4_clear_1 : decode cX4_clear 1 = .ok (.iconst 0, 1) := by decide +kernel
theorem dX4_clear_2 : decode cX4_clear 2 = .ok (.putfield 21, 3) := by decide +kernel
theorem dX4_clear_5 : decode cX4_clear 5 = .ok (.aload_n 0, 1) := by decide +kernel
theorem dX4_clear_6 : decode cX4_clear 6 = .ok (.iconst 0, 1) := by decide +kernel
theorem dX4_clear_7 : decode cX4_clear 7 = .ok (.putfield 25, 3) := by decide +kernel
theorem dX4_clear_10 : decode cX4_clear 10 = .ok (.return_, 1) := by decide +kernel
theorem dX5_init_0 : decode cX5_init 0 = .ok (.aload_n 0, 1) := by decide +kernel
theorem dX5_init_1 : decode cX5_init 1 = .ok (.invokespecial 1, 3) := by decide +kernel
theorem dX5_init_4 : decode cX5_init 4 = .ok (.aload_n 0, 1) := by decide +kernel
theorem dX5_init_5 : decode cX5_init 5 = .ok (.sipush 200, 3) := by decide +kernel
theorem dX5_init_8 : decode cX5_init 8 = .ok (.newarray .int, 2) := by decide +kernel
theorem dX5_init_10 : decode cX5_init 10 = .ok (.putfield 9, 3) := by decide +kernel
theorem dX5_init_13 : decode cX5_init 13 = .ok (.aload_n 0, 1) := by decide +kernel
theorem dX5_init_14 : decode cX5_init 14 = .ok (.sipush 200, 3) := by decide +kernel
theorem dX5_init_17 : decode cX5_init 17 = .ok (.newarray .int, 2) := by decide +kernel
theorem dX5_init_19 : decode cX5_init 19 = .ok (.putfield 13, 3) := by decide +kernel
theorem dX5_init_22 : decode cX5_init 22 = .ok (.aload_n 0, 1) := by decide +kernel
theorem dX5_init_23 : decode cX5_init 23 = .ok (.sipush 200, 3) := by decide +kernel
theorem dX5_init_26 : decode cX5_init 26 = .ok (.newarray .int, 2) := by decide +kernel
theorem dX5_init_28 : decode cX5_init 28 = .ok (.putfield 16, 3) := by decide +kernel
theorem dX5_init_31 : decode cX5_init 31 = .ok (.aload_n 0, 1) := by decide +kernel
theorem dX5_init_32 : decode cX5_init 32 = .ok (.iconst 0, 1) := by decide +kernel
theorem dX5_init_33 : decode cX5_init 33 = .ok (.putfield 19, 3) := by decide +kernel
theorem dX5_init_36 : decode cX5_init 36 = .ok (.aload_n 0, 1) := by decide +kernel
theorem dX5_init_37 : decode cX5_init 37 = .ok (.iconst 0, 1) := by decide +kernel
theorem dX5_init_38 : decode cX5_init 38 = .ok (.putfield 23, 3) := by decide +kernel
theorem dX5_init_41 : decode cX5_init 41 = .ok (.return_, 1) := by decide +kernel
theorem dX5_isFull_0 : decode cX5_isFull 0 = .ok (.aload_n 0, 1) := by decide +kernel
theorem dX5_isFull_1 : decode cX5_isFull 1 = .ok (.getfield 19, 3) := by decide +kernel
theorem dX5_isFull_4 : decode cX5_isFull 4 = .ok (.sipush 200, 3) := by decide +kernel
theorem dX5_isFull_7 : decode cX5_isFull 7 = .ok (.if_icmp .lt 7, 3) := by decide +kernel
theorem dX5_isFull_10 : decode cX5_isFull 10 = .ok (.iconst 1, 1) := by decide +kernel
theorem dX5_isFull_11 : decode cX5_isFull 11 = .ok (.goto 4, 3) := by decide +kernel
theorem dX5_isFull_14 : decode cX5_isFull 14 = .ok (.iconst 0, 1) := by decide +kernel
theorem dX5_isFull_15 : decode cX5_isFull 15 = .ok (.ireturn, 1) := by decide +kernel
theorem dX5_nextNumber_0 : decode cX5_nextNumber 0 = .ok (.aload_n 0, 1) := by decide +kernel
theorem dX5_nextNumber_1 : decode cX5_nextNumber 1 = .ok (.dup, 1) := by decide +kernel
theorem dX5_nextNumber_2 : decode cX5_nextNumber 2 = .ok (.getfield 23, 3) := by decide +kernel
theorem dX5_nextNumber_5 : decode cX5_nextNumber 5 = .ok (.iconst 1, 1) := by decide +kernel
theorem dX5_nextNumber_6 : decode cX5_nextNumber 6 = .ok (.iadd, 1) := by decide +kernel
theorem dX5_nextNumber_7 : decode cX5_nextNumber 7 = .ok (.putfield 23, 3) := by decide +kernel
theorem dX5_nextNumber_10 : decode cX5_nextNumber 10 = .ok (.aload_n 0, 1) := by decide +kernel
theorem dX5_nextNumber_11 : decode cX5_nextNumber 11 = .ok (.getfield 23, 3) := by decide +kernel
theorem dX5_nextNumber_14 : decode cX5_nextNumber 14 = .ok (.ireturn, 1) := by decide +kernel
theorem dX5_add_0 : decode cX5_add 0 = .ok (.aload_n 0, 1) := by decide +kernel
theorem dX5_add_1 : decode cX5_add 1 = .ok (.invokevirtual 26, 3) := by decide +kernel
theorem dX5_add_4 : decode cX5_add 4 = .ok (.ifCond .eq 4, 3) := by decide +kernel
theorem dX5_add_7 : decode cX5_add 7 = .ok (.return_, 1) := by decide +kernel
theorem dX5_add_8 : decode cX5_add 8 = .ok (.aload_n 0, 1) := by decide +kernel
theorem dX5_add_9 : decode cX5_add 9 = .ok (.getfield 9, 3) := by decide +kernel
theorem dX5_add_12 : decode cX5_add 12 = .ok (.aload_n 0, 1) := by decide +kernel
theorem dX5_add_13 : decode cX5_add 13 = .ok (.getfield 19, 3) := by decide +kernel
theorem dX5_add_16 : decode cX5_add 16 = .ok (.iload_n 1, 1) := by decide +kernel
theorem dX5_add_17 : decode cX5_add 17 = .ok (.iastore, 1) := by decide +kernel
theorem dX5_add_18 : decode cX5_add 18 = .ok (.aload_n 0, 1) := by decide +kernel
theorem dX5_add_19 : decode cX5_add 19 = .ok (.getfield 13, 3) := by decide +kernel
theorem dX5_add_22 : decode cX5_add 22 = .ok (.aload_n 0, 1) := by decide +kernel
theorem dX5_add_23 : decode cX5_add 23 = .ok (.getfield 19, 3) := by decide +kernel
theorem dX5_add_26 : decode cX5_add 26 = .ok (.iload_n 2, 1) := by decide +kernel
theorem dX5_add_27 : decode cX5_add 27 = .ok (.iastore, 1) := by decide +kernel
theorem dX5_add_28 : decode cX5_add 28 = .ok (.aload_n 0, 1) := by decide +kernel
theorem dX5_add_29 : decode cX5_add 29 = .ok (.getfield 16, 3) := by decide +kernel
theorem dX5_add_32 : decode cX5_add 32 = .ok (.aload_n 0, 1) := by decide +kernel
theorem dX5_add_33 : decode cX5_add 33 = .ok (.getfield 19, 3) := by decide +kernel
theorem dX5_add_36 : decode cX5_add 36 = .ok (.iload_n 3, 1) := by decide +kernel
theorem dX5_add_37 : decode cX5_add 37 = .ok (.iastore, 1) := by decide +kernel
theorem dX5_add_38 : decode cX5_add 38 = .ok (.aload_n 0, 1) := by decide +kernel
theorem dX5_add_39 : decode cX5_add 39 = .ok (.dup, 1) := by decide +kernel
theorem dX5_add_40 : decode cX5_add 40 = .ok (.getfield 19, 3) := by decide +kernel
theorem dX5_add_43 : decode cX5_add 43 = .ok (.iconst 1, 1) := by decide +kernel
theorem dX5_add_44 : decode cX5_add 44 = .ok (.iadd, 1) := by decide +kernel
theorem dX5_add_45 : decode cX5_add 45 = .ok (.putfield 19, 3) := by decide +kernel
theorem dX5_add_48 : decode cX5_add 48 = .ok (.return_, 1) := by decide +kernel
theorem dX5_dropMadeBy_0 : decode cX5_dropMadeBy 0 = .ok (.aload_n 0, 1) := by decide +kernel
theorem dX5_dropMadeBy_1 : decode cX5_dropMadeBy 1 = .ok (.aload_n 0, 1) := by decide +kernel
theorem dX5_dropMadeBy_2 : decode cX5_dropMadeBy 2 = .ok (.getfield 13, 3) := by decide +kernel
theorem dX5_dropMadeBy_5 : decode cX5_dropMadeBy 5 = .ok (.iload_n 1, 1) := by decide +kernel
theorem dX5_dropMadeBy_6 : decode cX5_dropMadeBy 6 = .ok (.invokevirtual 30, 3) := by decide +kernel
theorem dX5_dropMadeBy_9 : decode cX5_dropMadeBy 9 = .ok (.return_, 1) := by decide +kernel
theorem dX5_dropThoseOf_0 : decode cX5_dropThoseOf 0 = .ok (.aload_n 0, 1) := by decide +kernel
theorem dX5_dropThoseOf_1 : decode cX5_dropThoseOf 1 = .ok (.aload_n 0, 1) := by decide +kernel
theorem dX5_dropThoseOf_2 : decode cX5_dropThoseOf 2 = .ok (.getfield 16, 3) := by decide +kernel
theorem dX5_dropThoseOf_5 : decode cX5_dropThoseOf 5 = .ok (.iload_n 1, 1) := by decide +kernel
theorem dX5_dropThoseOf_6 : decode cX5_dropThoseOf 6 = .ok (.invokevirtual 30, 3) := by decide +kernel
theorem dX5_dropThoseOf_9 : decode cX5_dropThoseOf 9 = .ok (.return_, 1) := by decide +kernel
theorem dX5_dropWhere_0 : decode cX5_dropWhere 0 = .ok (.iconst 0, 1) := by decide +kernel
theorem dX5_dropWhere_1 : decode cX5_dropWhere 1 = .ok (.istore_n 3, 1) := by decide +kernel
theorem dX5_dropWhere_2 : decode cX5_dropWhere 2 = .ok (.iconst 0, 1) := by decide +kernel
theorem dX5_dropWhere_3 : decode cX5_dropWhere 3 = .ok (.istore 4, 2) := by decide +kernel
theorem dX5_dropWhere_5 : decode cX5_dropWhere 5 = .ok (.iload 4, 2) := by decide +kernel
theorem dX5_dropWhere_7 : decode cX5_dropWhere 7 = .ok (.aload_n 0, 1) := by decide +kernel
theorem dX5_dropWhere_8 : decode cX5_dropWhere 8 = .ok (.getfield 19, 3) := by decide +kernel
theorem dX5_dropWhere_11 : decode cX5_dropWhere 11 = .ok (.if_icmp .ge 59, 3) := by decide +kernel
theorem dX5_dropWhere_14 : decode cX5_dropWhere 14 = .ok (.aload_n 1, 1) := by decide +kernel
theorem dX5_dropWhere_15 : decode cX5_dropWhere 15 = .ok (.iload 4, 2) := by decide +kernel
theorem dX5_dropWhere_17 : decode cX5_dropWhere 17 = .ok (.iaload, 1) := by decide +kernel
theorem dX5_dropWhere_18 : decode cX5_dropWhere 18 = .ok (.iload_n 2, 1) := by decide +kernel
theorem dX5_dropWhere_19 : decode cX5_dropWhere 19 = .ok (.if_icmp .eq 45, 3) := by decide +kernel
theorem dX5_dropWhere_22 : decode cX5_dropWhere 22 = .ok (.aload_n 0, 1) := by decide +kernel
theorem dX5_dropWhere_23 : decode cX5_dropWhere 23 = .ok (.getfield 9, 3) := by decide +kernel
theorem dX5_dropWhere_26 : decode cX5_dropWhere 26 = .ok (.iload_n 3, 1) := by decide +kernel
theorem dX5_dropWhere_27 : decode cX5_dropWhere 27 = .ok (.aload_n 0, 1) := by decide +kernel
theorem dX5_dropWhere_28 : decode cX5_dropWhere 28 = .ok (.getfield 9, 3) := by decide +kernel
theorem dX5_dropWhere_31 : decode cX5_dropWhere 31 = .ok (.iload 4, 2) := by decide +kernel
theorem dX5_dropWhere_33 : decode cX5_dropWhere 33 = .ok (.iaload, 1) := by decide +kernel
theorem dX5_dropWhere_34 : decode cX5_dropWhere 34 = .ok (.iastore, 1) := by decide +kernel
theorem dX5_dropWhere_35 : decode cX5_dropWhere 35 = .ok (.aload_n 0, 1) := by decide +kernel
theorem dX5_dropWhere_36 : decode cX5_dropWhere 36 = .ok (.getfield 13, 3) := by decide +kernel
theorem dX5_dropWhere_39 : decode cX5_dropWhere 39 = .ok (.iload_n 3, 1) := by decide +kernel
theorem dX5_dropWhere_40 : decode cX5_dropWhere 40 = .ok (.aload_n 0, 1) := by decide +kernel
theorem dX5_dropWhere_41 : decode cX5_dropWhere 41 = .ok (.getfield 13, 3) := by decide +kernel
theorem dX5_dropWhere_44 : decode cX5_dropWhere 44 = .ok (.iload 4, 2) := by decide +kernel
theorem dX5_dropWhere_46 : decode cX5_dropWhere 46 = .ok (.iaload, 1) := by decide +kernel
theorem dX5_dropWhere_47 : decode cX5_dropWhere 47 = .ok (.iastore, 1) := by decide +kernel
theorem dX5_dropWhere_48 : decode cX5_dropWhere 48 = .ok (.aload_n 0, 1) := by decide +kernel
theorem dX5_dropWhere_49 : decode cX5_dropWhere 49 = .ok (.getfield 16, 3) := by decide +kernel
theorem dX5_dropWhere_52 : decode cX5_dropWhere 52 = .ok (.iload_n 3, 1) := by decide +kernel
theorem dX5_dropWhere_53 : decode cX5_dropWhere 53 = .ok (.aload_n 0, 1) := by decide +kernel
theorem dX5_dropWhere_54 : decode cX5_dropWhere 54 = .ok (.getfield 16, 3) := by decide +kernel
theorem dX5_dropWhere_57 : decode cX5_dropWhere 57 = .ok (.iload 4, 2) := by decide +kernel
theorem dX5_dropWhere_59 : decode cX5_dropWhere 59 = .ok (.iaload, 1) := by decide +kernel
theorem dX5_dropWhere_60 : decode cX5_dropWhere 60 = .ok (.iastore, 1) := by decide +kernel
theorem dX5_dropWhere_61 : decode cX5_dropWhere 61 = .ok (.iinc 3 1, 3) := by decide +kernel
theorem dX5_dropWhere_64 : decode cX5_dropWhere 64 = .ok (.iinc 4 1, 3) := by decide +kernel
theorem dX5_dropWhere_67 : decode cX5_dropWhere 67 = .ok (.goto (-62), 3) := by decide +kernel
theorem dX5_dropWhere_70 : decode cX5_dropWhere 70 = .ok (.aload_n 0, 1) := by decide +kernel
theorem dX5_dropWhere_71 : decode cX5_dropWhere 71 = .ok (.iload_n 3, 1) := by decide +kernel
theorem dX5_dropWhere_72 : decode cX5_dropWhere 72 = .ok (.putfield 19, 3) := by decide +kernel
theorem dX5_dropWhere_75 : decode cX5_dropWhere 75 = .ok (.return_, 1) := by decide +kernel
theorem dX6_init_0 : decode cX6_init 0 = .ok (.aload_n 0, 1) := by decide +kernel
theorem dX6_init_1 : decode cX6_init 1 = .ok (.invokespecial 1, 3) := by decide +kernel
theorem dX6_init_4 : decode cX6_init 4 = .ok (.aload_n 0, 1) := by decide +kernel
theorem dX6_init_5 : decode cX6_init 5 = .ok (.sipush 1200, 3) := by decide +kernel
theorem dX6_init_8 : decode cX6_init 8 = .ok (.newarray .int, 2) := by decide +kernel
theorem dX6_init_10 : decode cX6_init 10 = .ok (.putfield 9, 3) := by decide +kernel
theorem dX6_init_13 : decode cX6_init 13 = .ok (.aload_n 0, 1) := by decide +kernel
theorem dX6_init_14 : decode cX6_init 14 = .ok (.bipush 60, 2) := by decide +kernel
theorem dX6_init_16 : decode cX6_init 16 = .ok (.anewarray 13, 3) := by decide +kernel
theorem dX6_init_19 : decode cX6_init 19 = .ok (.putfield 15, 3) := by decide +kernel
theorem dX6_init_22 : decode cX6_init 22 = .ok (.aload_n 0, 1) := by decide +kernel
theorem dX6_init_23 : decode cX6_init 23 = .ok (.bipush 100, 2) := by decide +kernel
theorem dX6_init_25 : decode cX6_init 25 = .ok (.anewarray 13, 3) := by decide +kernel
theorem dX6_init_28 : decode cX6_init 28 = .ok (.putfield 19, 3) := by decide +kernel
theorem dX6_init_31 : decode cX6_init 31 = .ok (.aload_n 0, 1) := by decide +kernel
theorem dX6_init_32 : decode cX6_init 32 = .ok (.bipush 60, 2) := by decide +kernel
theorem dX6_init_34 : decode cX6_init 34 = .ok (.anewarray 13, 3) := by decide +kernel
theorem dX6_init_37 : decode cX6_init 37 = .ok (.putfield 22, 3) := by decide +kernel
theorem dX6_init_40 : decode cX6_init 40 = .ok (.aload_n 0, 1) := by decide +kernel
theorem dX6_init_41 : decode cX6_init 41 = .ok (.new 25, 3) := by decide +kernel
theorem dX6_init_44 : decode cX6_init 44 = .ok (.dup, 1) := by decide +kernel
theorem dX6_init_45 : decode cX6_init 45 = .ok (.invokespecial 27, 3) := by decide +kernel
theorem dX6_init_48 : decode cX6_init 48 = .ok (.putfield 28, 3) := by decide +kernel
theorem dX6_init_51 : decode cX6_init 51 = .ok (.aload_n 0, 1) := by decide +kernel
theorem dX6_init_52 : decode cX6_init 52 = .ok (.new 32, 3) := by decide +kernel
theorem dX6_init_55 : decode cX6_init 55 = .ok (.dup, 1) := by decide +kernel
theorem dX6_init_56 : decode cX6_init 56 = .ok (.invokespecial 34, 3) := by decide +kernel
theorem dX6_init_59 : decode cX6_init 59 = .ok (.putfield 35, 3) := by decide +kernel
theorem dX6_init_62 : decode cX6_init 62 = .ok (.aload_n 0, 1) := by decide +kernel
theorem dX6_init_63 : decode cX6_init 63 = .ok (.new 39, 3) := by decide +kernel
theorem dX6_init_66 : decode cX6_init 66 = .ok (.dup, 1) := by decide +kernel
theorem dX6_init_67 : decode cX6_init 67 = .ok (.invokespecial 41, 3) := by decide +kernel
theorem dX6_init_70 : decode cX6_init 70 = .ok (.putfield 42, 3) := by decide +kernel
theorem dX6_init_73 : decode cX6_init 73 = .ok (.aload_n 0, 1) := by decide +kernel
theorem dX6_init_74 : decode cX6_init 74 = .ok (.new 39, 3) := by decide +kernel
theorem dX6_init_77 : decode cX6_init 77 = .ok (.dup, 1) := by decide +kernel
theorem dX6_init_78 : decode cX6_init 78 = .ok (.invokespecial 41, 3) := by decide +kernel
theorem dX6_init_81 : decode cX6_init 81 = .ok (.putfield 46, 3) := by decide +kernel
theorem dX6_init_84 : decode cX6_init 84 = .ok (.aload_n 0, 1) := by decide +kernel
theorem dX6_init_85 : decode cX6_init 85 = .ok (.iconst 0, 1) := by decide +kernel
theorem dX6_init_86 : decode cX6_init 86 = .ok (.putfield 49, 3) := by decide +kernel
theorem dX6_init_89 : decode cX6_init 89 = .ok (.aload_n 0, 1) := by decide +kernel
theorem dX6_init_90 : decode cX6_init 90 = .ok (.iconst 0, 1) := by decide +kernel
theorem dX6_init_91 : decode cX6_init 91 = .ok (.putfield 53, 3) := by decide +kernel
theorem dX6_init_94 : decode cX6_init 94 = .ok (.aload_n 0, 1) := by decide +kernel
theorem dX6_init_95 : decode cX6_init 95 = .ok (.iconst 0, 1) := by decide +kernel
theorem dX6_init_96 : decode cX6_init 96 = .ok (.putfield 56, 3) := by decide +kernel
theorem dX6_init_99 : decode cX6_init 99 = .ok (.aload_n 0, 1) := by decide +kernel
theorem dX6_init_100 : decode cX6_init 100 = .ok (.iconst 0, 1) := by decide +kernel
theorem dX6_init_101 : decode cX6_init 101 = .ok (.putfield 59, 3) := by decide +kernel
theorem dX6_init_104 : decode cX6_init 104 = .ok (.aload_n 0, 1) := by decide +kernel
theorem dX6_init_105 : decode cX6_init 105 = .ok (.iconst 0, 1) := by decide +kernel
theorem dX6_init_106 : decode cX6_init 106 = .ok (.putfield 62, 3) := by decide +kernel
theorem dX6_init_109 : decode cX6_init 109 = .ok (.aload_n 0, 1) := by decide +kernel
theorem dX6_init_110 : decode cX6_init 110 = .ok (.iconst 0, 1) := by decide +kernel
theorem dX6_init_111 : decode cX6_init 111 = .ok (.putfield 65, 3) := by decide +kernel
theorem dX6_init_114 : decode cX6_init 114 = .ok (.aload_n 0, 1) := by decide +kernel
theorem dX6_init_115 : decode cX6_init 115 = .ok (.iconst 0, 1) := by decide +kernel
theorem dX6_init_116 : decode cX6_init 116 = .ok (.putfield 68, 3) := by decide +kernel
theorem dX6_init_119 : decode cX6_init 119 = .ok (.aload_n 0, 1) := by decide +kernel
theorem dX6_init_120 : decode cX6_init 120 = .ok (.iconst 0, 1) := by decide +kernel
theorem dX6_init_121 : decode cX6_init 121 = .ok (.putfield 71, 3) := by decide +kernel
theorem dX6_init_124 : decode cX6_init 124 = .ok (.return_, 1) := by decide +kernel
theorem dX6_word_0 : decode cX6_word 0 = .ok (.iload_n 1, 1) := by decide +kernel
theorem dX6_word_1 : decode cX6_word 1 = .ok (.sipush 300, 3) := by decide +kernel
theorem dX6_word_4 : decode cX6_word 4 = .ok (.invokestatic 74, 3) := by decide +kernel
theorem dX6_word_7 : decode cX6_word 7 = .ok (.ifCond .eq 12, 3) := by decide +kernel
theorem dX6_word_10 : decode cX6_word 10 = .ok (.iload_n 2, 1) := by decide +kernel
theorem dX6_word_11 : decode cX6_word 11 = .ok (.bipush 37, 2) := by decide +kernel
theorem dX6_word_13 : decode cX6_word 13 = .ok (.invokestatic 74, 3) := by decide +kernel
theorem dX6_word_16 : decode cX6_word 16 = .ok (.ifCond .ne 11, 3) := by decide +kernel
theorem dX6_word_19 : decode cX6_word 19 = .ok (.new 78, 3) := by decide +kernel
theorem dX6_word_22 : decode cX6_word 22 = .ok (.dup, 1) := by decide +kernel
theorem dX6_word_23 : decode cX6_word 23 = .ok (.invokespecial 80, 3) := by decide +kernel
theorem dX6_word_26 : decode cX6_word 26 = .ok (.athrow, 1) := by decide +kernel
theorem dX6_word_27 : decode cX6_word 27 = .ok (.iload_n 1, 1) := by decide +kernel
theorem dX6_word_28 : decode cX6_word 28 = .ok (.iconst 4, 1) := by decide +kernel
theorem dX6_word_29 : decode cX6_word 29 = .ok (.imul, 1) := by decide +kernel
theorem dX6_word_30 : decode cX6_word 30 = .ok (.istore 6, 2) := by decide +kernel
theorem dX6_word_32 : decode cX6_word 32 = .ok (.aload_n 0, 1) := by decide +kernel
theorem dX6_word_33 : decode cX6_word 33 = .ok (.getfield 9, 3) := by decide +kernel
theorem dX6_word_36 : decode cX6_word 36 = .ok (.iload 6, 2) := by decide +kernel
theorem dX6_word_38 : decode cX6_word 38 = .ok (.iload_n 2, 1) := by decide +kernel
theorem dX6_word_39 : decode cX6_word 39 = .ok (.iastore, 1) := by decide +kernel
theorem dX6_word_40 : decode cX6_word 40 = .ok (.aload_n 0, 1) := by decide +kernel
theorem dX6_word_41 : decode cX6_word 41 = .ok (.getfield 9, 3) := by decide +kernel
theorem dX6_word_44 : decode cX6_word 44 = .ok (.iload 6, 2) := by decide +kernel
theorem dX6_word_46 : decode cX6_word 46 = .ok (.iconst 1, 1) := by decide +kernel
theorem dX6_word_47 : decode cX6_word 47 = .ok (.iadd, 1) := by decide +kernel
theorem dX6_word_48 : decode cX6_word 48 = .ok (.iload_n 3, 1) := by decide +kernel
theorem dX6_word_49 : decode cX6_word 49 = .ok (.iastore, 1) := by decide +kernel
theorem dX6_word_50 : decode cX6_word 50 = .ok (.aload_n 0, 1) := by decide +kernel
theorem dX6_word_51 : decode cX6_word 51 = .ok (.getfield 9, 3) := by decide +kernel
theorem dX6_word_54 : decode cX6_word 54 = .ok (.iload 6, 2) := by decide +kernel
theorem dX6_word_56 : decode cX6_word 56 = .ok (.iconst 2, 1) := by decide +kernel
theorem dX6_word_57 : decode cX6_word 57 = .ok (.iadd, 1) := by decide +kernel
theorem dX6_word_58 : decode cX6_word 58 = .ok (.iload 4, 2) := by decide +kernel
theorem dX6_word_60 : decode cX6_word 60 = .ok (.iastore, 1) := by decide +kernel
theorem dX6_word_61 : decode cX6_word 61 = .ok (.aload_n 0, 1) := by decide +kernel
theorem dX6_word_62 : decode cX6_word 62 = .ok (.getfield 9, 3) := by decide +kernel
theorem dX6_word_65 : decode cX6_word 65 = .ok (.iload 6, 2) := by decide +kernel
theorem dX6_word_67 : decode cX6_word 67 = .ok (.iconst 3, 1) := by decide +kernel
theorem dX6_word_68 : decode cX6_word 68 = .ok (.iadd, 1) := by decide +kernel
theorem dX6_word_69 : decode cX6_word 69 = .ok (.iload 5, 2) := by decide +kernel
theorem dX6_word_71 : decode cX6_word 71 = .ok (.iastore, 1) := by decide +kernel
theorem dX6_word_72 : decode cX6_word 72 = .ok (.return_, 1) := by decide +kernel
theorem dX6_start_0 : decode cX6_start 0 = .ok (.iload_n 1, 1) := by decide +kernel
theorem dX6_start_1 : decode cX6_start 1 = .ok (.sipush 300, 3) := by decide +kernel
theorem dX6_start_4 : decode cX6_start 4 = .ok (.invokestatic 74, 3) := by decide +kernel
theorem dX6_start_7 : decode cX6_start 7 = .ok (.ifCond .eq 11, 3) := by decide +kernel
theorem dX6_start_10 : decode cX6_start 10 = .ok (.iload_n 2, 1) := by decide +kernel
theorem dX6_start_11 : decode cX6_start 11 = .ok (.iconst 3, 1) := by decide +kernel
theorem dX6_start_12 : decode cX6_start 12 = .ok (.invokestatic 74, 3) := by decide +kernel
theorem dX6_start_15 : decode cX6_start 15 = .ok (.ifCond .ne 11, 3) := by decide +kernel
theorem dX6_start_18 : decode cX6_start 18 = .ok (.new 78, 3) := by decide +kernel
theorem dX6_start_21 : decode cX6_start 21 = .ok (.dup, 1) := by decide +kernel
theorem dX6_start_22 : decode cX6_start 22 = .ok (.invokespecial 80, 3) := by decide +kernel
theorem dX6_start_25 : decode cX6_start 25 = .ok (.athrow, 1) := by decide +kernel
theorem dX6_start_26 : decode cX6_start 26 = .ok (.aload_n 0, 1) := by decide +kernel
theorem dX6_start_27 : decode cX6_start 27 = .ok (.getfield 49, 3) := by decide +kernel
theorem dX6_start_30 : decode cX6_start 30 = .ok (.bipush 60, 2) := by decide +kernel
theorem dX6_start_32 : decode cX6_start 32 = .ok (.if_icmp .lt 11, 3) := by decide +kernel
theorem dX6_start_35 : decode cX6_start 35 = .ok (.new 81, 3) := by decide +kernel
theorem dX6_start_38 : decode cX6_start 38 = .ok (.dup, 1) := by decide +kernel
theorem dX6_start_39 : decode cX6_start 39 = .ok (.invokespecial 83, 3) := by decide +kernel
theorem dX6_start_42 : decode cX6_start 42 = .ok (.athrow, 1) := by decide +kernel
theorem dX6_start_43 : decode cX6_start 43 = .ok (.aload_n 0, 1) := by decide +kernel
theorem dX6_start_44 : decode cX6_start 44 = .ok (.iload_n 1, 1) := by decide +kernel
theorem dX6_start_45 : decode cX6_start 45 = .ok (.iload_n 2, 1) := by decide +kernel
theorem dX6_start_46 : decode cX6_start 46 = .ok (.invokevirtual 84, 3) := by decide +kernel
theorem dX6_start_49 : decode cX6_start 49 = .ok (.getfield 88, 3) := by decide +kernel
theorem dX6_start_52 : decode cX6_start 52 = .ok (.ireturn, 1) := by decide +kernel
theorem dX6_send_0 : decode cX6_send 0 = .ok (.aload_n 0, 1) := by decide +kernel
theorem dX6_send_1 : decode cX6_send 1 = .ok (.iload_n 1, 1) := by decide +kernel
theorem dX6_send_2 : decode cX6_send 2 = .ok (.invokevirtual 91, 3) := by decide +kernel
theorem dX6_send_5 : decode cX6_send 5 = .ok (.astore_n 3, 1) := by decide +kernel
theorem dX6_send_6 : decode cX6_send 6 = .ok (.aload_n 3, 1) := by decide +kernel
theorem dX6_send_7 : decode cX6_send 7 = .ok (.ifnonnull 11, 3) := by decide +kernel
theorem dX6_send_10 : decode cX6_send 10 = .ok (.new 78, 3) := by decide +kernel
theorem dX6_send_13 : decode cX6_send 13 = .ok (.dup, 1) := by decide +kernel
theorem dX6_send_14 : decode cX6_send 14 = .ok (.invokespecial 80, 3) := by decide +kernel
theorem dX6_send_17 : decode cX6_send 17 = .ok (.athrow, 1) := by decide +kernel
theorem dX6_send_18 : decode cX6_send 18 = .ok (.aload_n 0, 1) := by decide +kernel
theorem dX6_send_19 : decode cX6_send 19 = .ok (.getfield 42, 3) := by decide +kernel
theorem dX6_send_22 : decode cX6_send 22 = .ok (.iconst 0, 1) := by decide +kernel
theorem dX6_send_23 : decode cX6_send 23 = .ok (.iload_n 2, 1) := by decide +kernel
theorem dX6_send_24 : decode cX6_send 24 = .ok (.invokevirtual 95, 3) := by decide +kernel
theorem dX6_send_27 : decode cX6_send 27 = .ok (.aload_n 0, 1) := by decide +kernel
theorem dX6_send_28 : decode cX6_send 28 = .ok (.aload_n 3, 1) := by decide +kernel
theorem dX6_send_29 : decode cX6_send 29 = .ok (.aload_n 0, 1) := by decide +kernel
theorem dX6_send_30 : decode cX6_send 30 = .ok (.getfield 42, 3) := by decide +kernel
theorem dX6_send_33 : decode cX6_send 33 = .ok (.invokevirtual 99, 3) := by decide +kernel
theorem dX6_send_36 : decode cX6_send 36 = .ok (.ireturn, 1) := by decide +kernel
theorem dX6_run_0 : decode cX6_run 0 = .ok (.iload_n 1, 1) := by decide +kernel
theorem dX6_run_1 : decode cX6_run 1 = .ok (.bipush 61, 2) := by decide +kernel
theorem dX6_run_3 : decode cX6_run 3 = .ok (.invokestatic 74, 3) := by decide +kernel
theorem dX6_run_6 : decode cX6_run 6 = .ok (.ifCond .ne 11, 3) := by decide +kernel
theorem dX6_run_9 : decode cX6_run 9 = .ok (.new 78, 3) := by decide +kernel
theorem dX6_run_12 : decode cX6_run 12 = .ok (.dup, 1) := by decide +kernel
theorem dX6_run_13 : decode cX6_run 13 = .ok (.invokespecial 80, 3) := by decide +kernel
theorem dX6_run_16 : decode cX6_run 16 = .ok (.athrow, 1) := by decide +kernel
theorem dX6_run_17 : decode cX6_run 17 = .ok (.iconst 0, 1) := by decide +kernel
theorem dX6_run_18 : decode cX6_run 18 = .ok (.istore_n 2, 1) := by decide +kernel
theorem dX6_run_19 : decode cX6_run 19 = .ok (.iload_n 2, 1) := by decide +kernel
theorem dX6_run_20 : decode cX6_run 20 = .ok (.iload_n 1, 1) := by decide +kernel
theorem dX6_run_21 : decode cX6_run 21 = .ok (.if_icmp .ge 25, 3) := by decide +kernel
theorem dX6_run_24 : decode cX6_run 24 = .ok (.aload_n 0, 1) := by decide +kernel
theorem dX6_run_25 : decode cX6_run 25 = .ok (.invokevirtual 103, 3) := by decide +kernel
theorem dX6_run_28 : decode cX6_run 28 = .ok (.astore_n 3, 1) := by decide +kernel
theorem dX6_run_29 : decode cX6_run 29 = .ok (.aload_n 3, 1) := by decide +kernel
theorem dX6_run_30 : decode cX6_run 30 = .ok (.ifnonnull 5, 3) := by decide +kernel
theorem dX6_run_33 : decode cX6_run 33 = .ok (.iload_n 2, 1) := by decide +kernel
theorem dX6_run_34 : decode cX6_run 34 = .ok (.ireturn, 1) := by decide +kernel
theorem dX6_run_35 : decode cX6_run 35 = .ok (.aload_n 0, 1) := by decide +kernel
theorem dX6_run_36 : decode cX6_run 36 = .ok (.aload_n 3, 1) := by decide +kernel
theorem dX6_run_37 : decode cX6_run 37 = .ok (.invokevirtual 107, 3) := by decide +kernel
theorem dX6_run_40 : decode cX6_run 40 = .ok (.iinc 2 1, 3) := by decide +kernel
theorem dX6_run_43 : decode cX6_run 43 = .ok (.goto (-24), 3) := by decide +kernel
theorem dX6_run_46 : decode cX6_run 46 = .ok (.iload_n 1, 1) := by decide +kernel
theorem dX6_run_47 : decode cX6_run 47 = .ok (.ireturn, 1) := by decide +kernel
theorem dX6_pass_0 : decode cX6_pass 0 = .ok (.iload_n 1, 1) := by decide +kernel
theorem dX6_pass_1 : decode cX6_pass 1 = .ok (.sipush 10001, 3) := by decide +kernel
theorem dX6_pass_4 : decode cX6_pass 4 = .ok (.invokestatic 74, 3) := by decide +kernel
theorem dX6_pass_7 : decode cX6_pass 7 = .ok (.ifCond .ne 11, 3) := by decide +kernel
theorem dX6_pass_10 : decode cX6_pass 10 = .ok (.new 78, 3) := by decide +kernel
theorem dX6_pass_13 : decode cX6_pass 13 = .ok (.dup, 1) := by decide +kernel
theorem dX6_pass_14 : decode cX6_pass 14 = .ok (.invokespecial 80, 3) := by decide +kernel
theorem dX6_pass_17 : decode cX6_pass 17 = .ok (.athrow, 1) := by decide +kernel
theorem dX6_pass_18 : decode cX6_pass 18 = .ok (.aload_n 0, 1) := by decide +kernel
theorem dX6_pass_19 : decode cX6_pass 19 = .ok (.dup, 1) := by decide +kernel
theorem dX6_pass_20 : decode cX6_pass 20 = .ok (.getfield 68, 3) := by decide +kernel
theorem dX6_pass_23 : decode cX6_pass 23 = .ok (.iload_n 1, 1) := by decide +kernel
theorem dX6_pass_24 : decode cX6_pass 24 = .ok (.iadd, 1) := by decide +kernel
theorem dX6_pass_25 : decode cX6_pass 25 = .ok (.putfield 68, 3) := by decide +kernel
theorem dX6_pass_28 : decode cX6_pass 28 = .ok (.iconst 0, 1) := by decide +kernel
theorem dX6_pass_29 : decode cX6_pass 29 = .ok (.istore_n 2, 1) := by decide +kernel
theorem dX6_pass_30 : decode cX6_pass 30 = .ok (.iload_n 2, 1) := by decide +kernel
theorem dX6_pass_31 : decode cX6_pass 31 = .ok (.aload_n 0, 1) := by decide +kernel
theorem dX6_pass_32 : decode cX6_pass 32 = .ok (.getfield 49, 3) := by decide +kernel
theorem dX6_pass_35 : decode cX6_pass 35 = .ok (.if_icmp .ge 36, 3) := by decide +kernel
theorem dX6_pass_38 : decode cX6_pass 38 = .ok (.aload_n 0, 1) := by decide +kernel
theorem dX6_pass_39 : decode cX6_pass 39 = .ok (.invokevirtual 111, 3) := by decide +kernel
theorem dX6_pass_42 : decode cX6_pass 42 = .ok (.astore_n 3, 1) := by decide +kernel
theorem dX6_pass_43 : decode cX6_pass 43 = .ok (.aload_n 3, 1) := by decide +kernel
theorem dX6_pass_44 : decode cX6_pass 44 = .ok (.ifnonnull 5, 3) := by decide +kernel
theorem dX6_pass_47 : decode cX6_pass 47 = .ok (.iload_n 2, 1) := by decide +kernel
theorem dX6_pass_48 : decode cX6_pass 48 = .ok (.ireturn, 1) := by decide +kernel
theorem dX6_pass_49 : decode cX6_pass 49 = .ok (.aload_n 3, 1) := by decide +kernel
theorem dX6_pass_50 : decode cX6_pass 50 = .ok (.getfield 114, 3) := by decide +kernel
theorem dX6_pass_53 : decode cX6_pass 53 = .ok (.invokevirtual 118, 3) := by decide +kernel
theorem dX6_pass_56 : decode cX6_pass 56 = .ok (.aload_n 0, 1) := by decide +kernel
theorem dX6_pass_57 : decode cX6_pass 57 = .ok (.aload_n 3, 1) := by decide +kernel
theorem dX6_pass_58 : decode cX6_pass 58 = .ok (.aload_n 3, 1) := by decide +kernel
theorem dX6_pass_59 : decode cX6_pass 59 = .ok (.getfield 123, 3) := by decide +kernel
theorem dX6_pass_62 : decode cX6_pass 62 = .ok (.invokevirtual 126, 3) := by decide +kernel
theorem dX6_pass_65 : decode cX6_pass 65 = .ok (.iinc 2 1, 3) := by decide +kernel
theorem dX6_pass_68 : decode cX6_pass 68 = .ok (.goto (-38), 3) := by decide +kernel
theorem dX6_pass_71 : decode cX6_pass 71 = .ok (.aload_n 0, 1) := by decide +kernel
theorem dX6_pass_72 : decode cX6_pass 72 = .ok (.getfield 49, 3) := by decide +kernel
theorem dX6_pass_75 : decode cX6_pass 75 = .ok (.ireturn, 1) := by decide +kernel
theorem dX6_out_0 : decode cX6_out 0 = .ok (.aload_n 0, 1) := by decide +kernel
theorem dX6_out_1 : decode cX6_out 1 = .ok (.getfield 35, 3) := by decide +kernel
theorem dX6_out_4 : decode cX6_out 4 = .ok (.iload_n 1, 1) := by decide +kernel
theorem dX6_out_5 : decode cX6_out 5 = .ok (.invokevirtual 130, 3) := by decide +kernel
theorem dX6_out_8 : decode cX6_out 8 = .ok (.ireturn, 1) := by decide +kernel
theorem dX6_process_0 : decode cX6_process 0 = .ok (.aload_n 0, 1) := by decide +kernel
theorem dX6_process_1 : decode cX6_process 1 = .ok (.iload_n 1, 1) := by decide +kernel
theorem dX6_process_2 : decode cX6_process 2 = .ok (.invokevirtual 91, 3) := by decide +kernel
theorem dX6_process_5 : decode cX6_process 5 = .ok (.astore_n 3, 1) := by decide +kernel
theorem dX6_process_6 : decode cX6_process 6 = .ok (.aload_n 3, 1) := by decide +kernel
theorem dX6_process_7 : decode cX6_process 7 = .ok (.ifnull 12, 3) := by decide +kernel
theorem dX6_process_10 : decode cX6_process 10 = .ok (.iload_n 2, 1) := by decide +kernel
theorem dX6_process_11 : decode cX6_process 11 = .ok (.bipush 11, 2) := by decide +kernel
theorem dX6_process_13 : decode cX6_process 13 = .ok (.invokestatic 74, 3) := by decide +kernel
theorem dX6_process_16 : decode cX6_process 16 = .ok (.ifCond .ne 11, 3) := by decide +kernel
theorem dX6_process_19 : decode cX6_process 19 = .ok (.new 78, 3) := by decide +kernel
theorem dX6_process_22 : decode cX6_process 22 = .ok (.dup, 1) := by decide +kernel
theorem dX6_process_23 : decode cX6_process 23 = .ok (.invokespecial 80, 3) := by decide +kernel
theorem dX6_process_26 : decode cX6_process 26 = .ok (.athrow, 1) := by decide +kernel
theorem dX6_process_27 : decode cX6_process 27 = .ok (.aload_n 3, 1) := by decide +kernel
theorem dX6_process_28 : decode cX6_process 28 = .ok (.iload_n 2, 1) := by decide +kernel
theorem dX6_process_29 : decode cX6_process 29 = .ok (.invokevirtual 134, 3) := by decide +kernel
theorem dX6_process_32 : decode cX6_process 32 = .ok (.ireturn, 1) := by decide +kernel
theorem dX6_register_0 : decode cX6_register 0 = .ok (.aload_n 0, 1) := by decide +kernel
theorem dX6_register_1 : decode cX6_register 1 = .ok (.iload_n 1, 1) := by decide +kernel
theorem dX6_register_2 : decode cX6_register 2 = .ok (.invokevirtual 91, 3) := by decide +kernel
theorem dX6_register_5 : decode cX6_register 5 = .ok (.astore 4, 2) := by decide +kernel
theorem dX6_register_7 : decode cX6_register 7 = .ok (.aload 4, 2) := by decide +kernel
theorem dX6_register_9 : decode cX6_register 9 = .ok (.ifnull 12, 3) := by decide +kernel
theorem dX6_register_12 : decode cX6_register 12 = .ok (.iload_n 2, 1) := by decide +kernel
theorem dX6_register_13 : decode cX6_register 13 = .ok (.bipush 9, 2) := by decide +kernel
theorem dX6_register_15 : decode cX6_register 15 = .ok (.invokestatic 74, 3) := by decide +kernel
theorem dX6_register_18 : decode cX6_register 18 = .ok (.ifCond .ne 11, 3) := by decide +kernel
theorem dX6_register_21 : decode cX6_register 21 = .ok (.new 78, 3) := by decide +kernel
theorem dX6_register_24 : decode cX6_register 24 = .ok (.dup, 1) := by decide +kernel
theorem dX6_register_25 : decode cX6_register 25 = .ok (.invokespecial 80, 3) := by decide +kernel
theorem dX6_register_28 : decode cX6_register 28 = .ok (.athrow, 1) := by decide +kernel
theorem dX6_register_29 : decode cX6_register 29 = .ok (.iload_n 2, 1) := by decide +kernel
theorem dX6_register_30 : decode cX6_register 30 = .ok (.bipush 8, 2) := by decide +kernel
theorem dX6_register_32 : decode cX6_register 32 = .ok (.if_icmp .ge 14, 3) := by decide +kernel
theorem dX6_register_35 : decode cX6_register 35 = .ok (.aload 4, 2) := by decide +kernel
theorem dX6_register_37 : decode cX6_register 37 = .ok (.iload_n 2, 1) := by decide +kernel
theorem dX6_register_38 : decode cX6_register 38 = .ok (.invokevirtual 137, 3) := by decide +kernel
theorem dX6_register_41 : decode cX6_register 41 = .ok (.iload_n 3, 1) := by decide +kernel
theorem dX6_register_42 : decode cX6_register 42 = .ok (.invokevirtual 141, 3) := by decide +kernel
theorem dX6_register_45 : decode cX6_register 45 = .ok (.ireturn, 1) := by decide +kernel
theorem dX6_register_46 : decode cX6_register 46 = .ok (.aload 4, 2) := by decide +kernel
theorem dX6_register_48 : decode cX6_register 48 = .ok (.getfield 142, 3) := by decide +kernel
theorem dX6_register_51 : decode cX6_register 51 = .ok (.iconst 2, 1) := by decide +kernel
theorem dX6_register_52 : decode cX6_register 52 = .ok (.if_icmp .ne 15, 3) := by decide +kernel
theorem dX6_register_55 : decode cX6_register 55 = .ok (.aload 4, 2) := by decide +kernel
theorem dX6_register_57 : decode cX6_register 57 = .ok (.getfield 145, 3) := by decide +kernel
theorem dX6_register_60 : decode cX6_register 60 = .ok (.iload_n 3, 1) := by decide +kernel
theorem dX6_register_61 : decode cX6_register 61 = .ok (.invokevirtual 141, 3) := by decide +kernel
theorem dX6_register_64 : decode cX6_register 64 = .ok (.goto 4, 3) := by decide +kernel
theorem dX6_register_67 : decode cX6_register 67 = .ok (.iconst (-1), 1) := by decide +kernel
theorem dX6_register_68 : decode cX6_register 68 = .ok (.ireturn, 1) := by decide +kernel
theorem dX6_message_0 : decode cX6_message 0 = .ok (.aload_n 0, 1) := by decide +kernel
theorem dX6_message_1 : decode cX6_message 1 = .ok (.iload_n 1, 1) := by decide +kernel
theorem dX6_message_2 : decode cX6_message 2 = .ok (.invokevirtual 91, 3) := by decide +kernel
theorem dX6_message_5 : decode cX6_message 5 = .ok (.astore 4, 2) := by decide +kernel
theorem dX6_message_7 : decode cX6_message 7 = .ok (.aload 4, 2) := by decide +kernel
theorem dX6_message_9 : decode cX6_message 9 = .ok (.ifnonnull 11, 3) := by decide +kernel
theorem dX6_message_12 : decode cX6_message 12 = .ok (.new 78, 3) := by decide +kernel
theorem dX6_message_15 : decode cX6_message 15 = .ok (.dup, 1) := by decide +kernel
theorem dX6_message_16 : decode cX6_message 16 = .ok (.invokespecial 80, 3) := by decide +kernel
theorem dX6_message_19 : decode cX6_message 19 = .ok (.athrow, 1) := by decide +kernel
theorem dX6_message_20 : decode cX6_message 20 = .ok (.aload 4, 2) := by decide +kernel
theorem dX6_message_22 : decode cX6_message 22 = .ok (.getfield 114, 3) := by decide +kernel
theorem dX6_message_25 : decode cX6_message 25 = .ok (.iload_n 2, 1) := by decide +kernel
theorem dX6_message_26 : decode cX6_message 26 = .ok (.invokevirtual 148, 3) := by decide +kernel
theorem dX6_message_29 : decode cX6_message 29 = .ok (.astore 5, 2) := by decide +kernel
theorem dX6_message_31 : decode cX6_message 31 = .ok (.aload 5, 2) := by decide +kernel
theorem dX6_message_33 : decode cX6_message 33 = .ok (.ifnonnull 7, 3) := by decide +kernel
theorem dX6_message_36 : decode cX6_message 36 = .ok (.iconst (-1), 1) := by decide +kernel
theorem dX6_message_37 : decode cX6_message 37 = .ok (.goto 9, 3) := by decide +kernel
theorem dX6_message_40 : decode cX6_message 40 = .ok (.aload 5, 2) := by decide +kernel
theorem dX6_message_42 : decode cX6_message 42 = .ok (.iload_n 3, 1) := by decide +kernel
theorem dX6_message_43 : decode cX6_message 43 = .ok (.invokevirtual 141, 3) := by decide +kernel
theorem dX6_message_46 : decode cX6_message 46 = .ok (.ireturn, 1) := by decide +kernel
theorem dX6_total_0 : decode cX6_total 0 = .ok (.iload_n 1, 1) := by decide +kernel
theorem dX6_total_1 : decode cX6_total 1 = .ok (.tableswitch 107 0 8 #[51, 56, 66, 71, 76, 81, 86, 94, 102], 51) := by decide +kernel
theorem dX6_total_52 : decode cX6_total 52 = .ok (.aload_n 0, 1) := by decide +kernel
theorem dX6_total_53 : decode cX6_total 53 = .ok (.getfield 49, 3) := by decide +kernel
theorem dX6_total_56 : decode cX6_total 56 = .ok (.ireturn, 1) := by decide +kernel
theorem dX6_total_57 : decode cX6_total 57 = .ok (.aload_n 0, 1) := by decide +kernel
theorem dX6_total_58 : decode cX6_total 58 = .ok (.getfield 49, 3) := by decide +kernel
theorem dX6_total_61 : decode cX6_total 61 = .ok (.aload_n 0, 1) := by decide +kernel
theorem dX6_total_62 : decode cX6_total 62 = .ok (.getfield 53, 3) := by decide +kernel
theorem dX6_total_65 : decode cX6_total 65 = .ok (.isub, 1) := by decide +kernel
theorem dX6_total_66 : decode cX6_total 66 = .ok (.ireturn, 1) := by decide +kernel
theorem dX6_total_67 : decode cX6_total 67 = .ok (.aload_n 0, 1) := by decide +kernel
theorem dX6_total_68 : decode cX6_total 68 = .ok (.invokevirtual 151, 3) := by decide +kernel
theorem dX6_total_71 : decode cX6_total 71 = .ok (.ireturn, 1) := by decide +kernel
theorem dX6_total_72 : decode cX6_total 72 = .ok (.aload_n 0, 1) := by decide +kernel
theorem dX6_total_73 : decode cX6_total 73 = .ok (.getfield 62, 3) := by decide +kernel
theorem dX6_total_76 : decode cX6_total 76 = .ok (.ireturn, 1) := by decide +kernel
theorem dX6_total_77 : decode cX6_total 77 = .ok (.aload_n 0, 1) := by decide +kernel
theorem dX6_total_78 : decode cX6_total 78 = .ok (.getfield 65, 3) := by decide +kernel
theorem dX6_total_81 : decode cX6_total 81 = .ok (.ireturn, 1) := by decide +kernel
theorem dX6_total_82 : decode cX6_total 82 = .ok (.aload_n 0, 1) := by decide +kernel
theorem dX6_total_83 : decode cX6_total 83 = .ok (.getfield 68, 3) := by decide +kernel
theorem dX6_total_86 : decode cX6_total 86 = .ok (.ireturn, 1) := by decide +kernel
theorem dX6_total_87 : decode cX6_total 87 = .ok (.aload_n 0, 1) := by decide +kernel
theorem dX6_total_88 : decode cX6_total 88 = .ok (.getfield 35, 3) := by decide +kernel
theorem dX6_total_91 : decode cX6_total 91 = .ok (.getfield 155, 3) := by decide +kernel
theorem dX6_total_94 : decode cX6_total 94 = .ok (.ireturn, 1) := by decide +kernel
theorem dX6_total_95 : decode cX6_total 95 = .ok (.aload_n 0, 1) := by decide +kernel
theorem dX6_total_96 : decode cX6_total 96 = .ok (.getfield 28, 3) := by decide +kernel
theorem dX6_total_99 : decode cX6_total 99 = .ok (.getfield 158, 3) := by decide +kernel
theorem dX6_total_102 : decode cX6_total 102 = .ok (.ireturn, 1) := by decide +kernel
theorem dX6_total_103 : decode cX6_total 103 = .ok (.aload_n 0, 1) := by decide +kernel
theorem dX6_total_104 : decode cX6_total 104 = .ok (.getfield 71, 3) := by decide +kernel
theorem dX6_total_107 : decode cX6_total 107 = .ok (.ireturn, 1) := by decide +kernel
theorem dX6_total_108 : decode cX6_total 108 = .ok (.new 78, 3) := by decide +kernel
theorem dX6_total_111 : decode cX6_total 111 = .ok (.dup, 1) := by decide +kernel
theorem dX6_total_112 : decode cX6_total 112 = .ok (.invokespecial 80, 3) := by decide +kernel
theorem dX6_total_115 : decode cX6_total 115 = .ok (.athrow, 1) := by decide +kernel
theorem dX6_isBelow_0 : decode cX6_isBelow 0 = .ok (.iload_n 0, 1) := by decide +kernel
theorem dX6_isBelow_1 : decode cX6_isBelow 1 = .ok (.ifCond .lt 12, 3) := by decide +kernel
theorem dX6_isBelow_4 : decode cX6_isBelow 4 = .ok (.iload_n 0, 1) := by decide +kernel
theorem dX6_isBelow_5 : decode cX6_isBelow 5 = .ok (.iload_n 1, 1) := by decide +kernel
theorem dX6_isBelow_6 : decode cX6_isBelow 6 = .ok (.if_icmp .ge 7, 3) := by decide +kernel
theorem dX6_isBelow_9 : decode cX6_isBelow 9 = .ok (.iconst 1, 1) := by decide +kernel
theorem dX6_isBelow_10 : decode cX6_isBelow 10 = .ok (.goto 4, 3) := by decide +kernel
theorem dX6_isBelow_13 : decode cX6_isBelow 13 = .ok (.iconst 0, 1) := by decide +kernel
theorem dX6_isBelow_14 : decode cX6_isBelow 14 = .ok (.ireturn, 1) := by decide +kernel
theorem dX6_place_0 : decode cX6_place 0 = .ok (.iload_n 0, 1) := by decide +kernel
theorem dX6_place_1 : decode cX6_place 1 = .ok (.sipush 300, 3) := by decide +kernel
theorem dX6_place_4 : decode cX6_place 4 = .ok (.invokestatic 161, 3) := by decide +kernel
theorem dX6_place_7 : decode cX6_place 7 = .ok (.ireturn, 1) := by decide +kernel
theorem dX6_find_0 : decode cX6_find 0 = .ok (.iload_n 1, 1) := by decide +kernel
theorem dX6_find_1 : decode cX6_find 1 = .ok (.iconst 1, 1) := by decide +kernel
theorem dX6_find_2 : decode cX6_find 2 = .ok (.if_icmp .lt 22, 3) := by decide +kernel
theorem dX6_find_5 : decode cX6_find 5 = .ok (.iload_n 1, 1) := by decide +kernel
theorem dX6_find_6 : decode cX6_find 6 = .ok (.aload_n 0, 1) := by decide +kernel
theorem dX6_find_7 : decode cX6_find 7 = .ok (.getfield 49, 3) := by decide +kernel
theorem dX6_find_10 : decode cX6_find 10 = .ok (.if_icmp .gt 14, 3) := by decide +kernel
theorem dX6_find_13 : decode cX6_find 13 = .ok (.aload_n 0, 1) := by decide +kernel
theorem dX6_find_14 : decode cX6_find 14 = .ok (.getfield 15, 3) := by decide +kernel
theorem dX6_find_17 : decode cX6_find 17 = .ok (.iload_n 1, 1) := by decide +kernel
theorem dX6_find_18 : decode cX6_find 18 = .ok (.iconst 1, 1) := by decide +kernel
theorem dX6_find_19 : decode cX6_find 19 = .ok (.isub, 1) := by decide +kernel
theorem dX6_find_20 : decode cX6_find 20 = .ok (.aaload, 1) := by decide +kernel
theorem dX6_find_21 : decode cX6_find 21 = .ok (.goto 4, 3) := by decide +kernel
theorem dX6_find_24 : decode cX6_find 24 = .ok (.aconst_null, 1) := by decide +kernel
theorem dX6_find_25 : decode cX6_find 25 = .ok (.areturn, 1) := by decide +kernel
theorem dX6_findByTerm_0 : decode cX6_findByTerm 0 = .ok (.aload_n 1, 1) := by decide +kernel
theorem dX6_findByTerm_1 : decode cX6_findByTerm 1 = .ok (.invokevirtual 167, 3) := by decide +kernel
theorem dX6_findByTerm_4 : decode cX6_findByTerm 4 = .ok (.iconst 2, 1) := by decide +kernel
theorem dX6_findByTerm_5 : decode cX6_findByTerm 5 = .ok (.if_icmp .ne 14, 3) := by decide +kernel
theorem dX6_findByTerm_8 : decode cX6_findByTerm 8 = .ok (.aload_n 0, 1) := by decide +kernel
theorem dX6_findByTerm_9 : decode cX6_findByTerm 9 = .ok (.aload_n 1, 1) := by decide +kernel
theorem dX6_findByTerm_10 : decode cX6_findByTerm 10 = .ok (.invokevirtual 170, 3) := by decide +kernel
theorem dX6_findByTerm_13 : decode cX6_findByTerm 13 = .ok (.invokevirtual 91, 3) := by decide +kernel
theorem dX6_findByTerm_16 : decode cX6_findByTerm 16 = .ok (.goto 4, 3) := by decide +kernel
theorem dX6_findByTerm_19 : decode cX6_findByTerm 19 = .ok (.aconst_null, 1) := by decide +kernel
theorem dX6_findByTerm_20 : decode cX6_findByTerm 20 = .ok (.areturn, 1) := by decide +kernel
theorem dX6_readyOnes_0 : decode cX6_readyOnes 0 = .ok (.iconst 0, 1) := by decide +kernel
theorem dX6_readyOnes_1 : decode cX6_readyOnes 1 = .ok (.istore_n 1, 1) := by decide +kernel
theorem dX6_readyOnes_2 : decode cX6_readyOnes 2 = .ok (.iconst 0, 1) := by decide +kernel
theorem dX6_readyOnes_3 : decode cX6_readyOnes 3 = .ok (.istore_n 2, 1) := by decide +kernel
theorem dX6_readyOnes_4 : decode cX6_readyOnes 4 = .ok (.iload_n 2, 1) := by decide +kernel
theorem dX6_readyOnes_5 : decode cX6_readyOnes 5 = .ok (.aload_n 0, 1) := by decide +kernel
theorem dX6_readyOnes_6 : decode cX6_readyOnes 6 = .ok (.getfield 49, 3) := by decide +kernel
theorem dX6_readyOnes_9 : decode cX6_readyOnes 9 = .ok (.if_icmp .ge 24, 3) := by decide +kernel
theorem dX6_readyOnes_12 : decode cX6_readyOnes 12 = .ok (.aload_n 0, 1) := by decide +kernel
theorem dX6_readyOnes_13 : decode cX6_readyOnes 13 = .ok (.getfield 15, 3) := by decide +kernel
theorem dX6_readyOnes_16 : decode cX6_readyOnes 16 = .ok (.iload_n 2, 1) := by decide +kernel
theorem dX6_readyOnes_17 : decode cX6_readyOnes 17 = .ok (.aaload, 1) := by decide +kernel
theorem dX6_readyOnes_18 : decode cX6_readyOnes 18 = .ok (.getfield 142, 3) := by decide +kernel
theorem dX6_readyOnes_21 : decode cX6_readyOnes 21 = .ok (.ifCond .ne 6, 3) := by decide +kernel
theorem dX6_readyOnes_24 : decode cX6_readyOnes 24 = .ok (.iinc 1 1, 3) := by decide +kernel
theorem dX6_readyOnes_27 : decode cX6_readyOnes 27 = .ok (.iinc 2 1, 3) := by decide +kernel
theorem dX6_readyOnes_30 : decode cX6_readyOnes 30 = .ok (.goto (-26), 3) := by decide +kernel
theorem dX6_readyOnes_33 : decode cX6_readyOnes 33 = .ok (.iload_n 1, 1) := by decide +kernel
theorem dX6_readyOnes_34 : decode cX6_readyOnes 34 = .ok (.ireturn, 1) := by decide +kernel
theorem dX6_beginProcess_0 : decode cX6_beginProcess 0 = .ok (.new 13, 3) := by decide +kernel
theorem dX6_beginProcess_3 : decode cX6_beginProcess 3 = .ok (.dup, 1) := by decide +kernel
theorem dX6_beginProcess_4 : decode cX6_beginProcess 4 = .ok (.aload_n 0, 1) := by decide +kernel
theorem dX6_beginProcess_5 : decode cX6_beginProcess 5 = .ok (.getfield 49, 3) := by decide +kernel
theorem dX6_beginProcess_8 : decode cX6_beginProcess 8 = .ok (.iconst 1, 1) := by decide +kernel
theorem dX6_beginProcess_9 : decode cX6_beginProcess 9 = .ok (.iadd, 1) := by decide +kernel
theorem dX6_beginProcess_10 : decode cX6_beginProcess 10 = .ok (.iload_n 2, 1) := by decide +kernel
theorem dX6_beginProcess_11 : decode cX6_beginProcess 11 = .ok (.invokespecial 173, 3) := by decide +kernel
theorem dX6_beginProcess_14 : decode cX6_beginProcess 14 = .ok (.astore_n 3, 1) := by decide +kernel
theorem dX6_beginProcess_15 : decode cX6_beginProcess 15 = .ok (.aload_n 0, 1) := by decide +kernel
theorem dX6_beginProcess_16 : decode cX6_beginProcess 16 = .ok (.getfield 15, 3) := by decide +kernel
theorem dX6_beginProcess_19 : decode cX6_beginProcess 19 = .ok (.aload_n 0, 1) := by decide +kernel
theorem dX6_beginProcess_20 : decode cX6_beginProcess 20 = .ok (.getfield 49, 3) := by decide +kernel
theorem dX6_beginProcess_23 : decode cX6_beginProcess 23 = .ok (.aload_n 3, 1) := by decide +kernel
theorem dX6_beginProcess_24 : decode cX6_beginProcess 24 = .ok (.aastore, 1) := by decide +kernel
theorem dX6_beginProcess_25 : decode cX6_beginProcess 25 = .ok (.aload_n 0, 1) := by decide +kernel
theorem dX6_beginProcess_26 : decode cX6_beginProcess 26 = .ok (.dup, 1) := by decide +kernel
theorem dX6_beginProcess_27 : decode cX6_beginProcess 27 = .ok (.getfield 49, 3) := by decide +kernel
theorem dX6_beginProcess_30 : decode cX6_beginProcess 30 = .ok (.iconst 1, 1) := by decide +kernel
theorem dX6_beginProcess_31 : decode cX6_beginProcess 31 = .ok (.iadd, 1) := by decide +kernel
theorem dX6_beginProcess_32 : decode cX6_beginProcess 32 = .ok (.putfield 49, 3) := by decide +kernel
theorem dX6_beginProcess_35 : decode cX6_beginProcess 35 = .ok (.aload_n 0, 1) := by decide +kernel
theorem dX6_beginProcess_36 : decode cX6_beginProcess 36 = .ok (.aload_n 3, 1) := by decide +kernel
theorem dX6_beginProcess_37 : decode cX6_beginProcess 37 = .ok (.iload_n 1, 1) := by decide +kernel
theorem dX6_beginProcess_38 : decode cX6_beginProcess 38 = .ok (.invokevirtual 126, 3) := by decide +kernel
theorem dX6_beginProcess_41 : decode cX6_beginProcess 41 = .ok (.aload_n 3, 1) := by decide +kernel
theorem dX6_beginProcess_42 : decode cX6_beginProcess 42 = .ok (.areturn, 1) := by decide +kernel
theorem dX6_makeReady_0 : decode cX6_makeReady 0 = .ok (.aload_n 1, 1) := by decide +kernel
theorem dX6_makeReady_1 : decode cX6_makeReady 1 = .ok (.iconst 0, 1) := by decide +kernel
theorem dX6_makeReady_2 : decode cX6_makeReady 2 = .ok (.putfield 142, 3) := by decide +kernel
theorem dX6_makeReady_5 : decode cX6_makeReady 5 = .ok (.aload_n 1, 1) := by decide +kernel
theorem dX6_makeReady_6 : decode cX6_makeReady 6 = .ok (.iload_n 2, 1) := by decide +kernel
theorem dX6_makeReady_7 : decode cX6_makeReady 7 = .ok (.putfield 175, 3) := by decide +kernel
theorem dX6_makeReady_10 : decode cX6_makeReady 10 = .ok (.aload_n 1, 1) := by decide +kernel
theorem dX6_makeReady_11 : decode cX6_makeReady 11 = .ok (.ldc2_w 178, 3) := by decide +kernel
theorem dX6_makeReady_14 : decode cX6_makeReady 14 = .ok (.putfield 180, 3) := by decide +kernel
theorem dX6_makeReady_17 : decode cX6_makeReady 17 = .ok (.aload_n 0, 1) := by decide +kernel
theorem dX6_makeReady_18 : decode cX6_makeReady 18 = .ok (.aload_n 1, 1) := by decide +kernel
theorem dX6_makeReady_19 : decode cX6_makeReady 19 = .ok (.invokevirtual 184, 3) := by decide +kernel
theorem dX6_makeReady_22 : decode cX6_makeReady 22 = .ok (.return_, 1) := by decide +kernel
theorem dX6_takeLastTurn_0 : decode cX6_takeLastTurn 0 = .ok (.aload_n 1, 1) := by decide +kernel
theorem dX6_takeLastTurn_1 : decode cX6_takeLastTurn 1 = .ok (.aload_n 0, 1) := by decide +kernel
theorem dX6_takeLastTurn_2 : decode cX6_takeLastTurn 2 = .ok (.getfield 59, 3) := by decide +kernel
theorem dX6_takeLastTurn_5 : decode cX6_takeLastTurn 5 = .ok (.putfield 187, 3) := by decide +kernel
theorem dX6_takeLastTurn_8 : decode cX6_takeLastTurn 8 = .ok (.aload_n 0, 1) := by decide +kernel
theorem dX6_takeLastTurn_9 : decode cX6_takeLastTurn 9 = .ok (.dup, 1) := by decide +kernel
theorem dX6_takeLastTurn_10 : decode cX6_takeLastTurn 10 = .ok (.getfield 59, 3) := by decide +kernel
theorem dX6_takeLastTurn_13 : decode cX6_takeLastTurn 13 = .ok (.iconst 1, 1) := by decide +kernel
theorem dX6_takeLastTurn_14 : decode cX6_takeLastTurn 14 = .ok (.iadd, 1) := by decide +kernel
theorem dX6_takeLastTurn_15 : decode cX6_takeLastTurn 15 = .ok (.putfield 59, 3) := by decide +kernel
theorem dX6_takeLastTurn_18 : decode cX6_takeLastTurn 18 = .ok (.return_, 1) := by decide +kernel
theorem dX6_nextInTurn_0 : decode cX6_nextInTurn 0 = .ok (.aload_n 0, 1) := by decide +kernel
theorem dX6_nextInTurn_1 : decode cX6_nextInTurn 1 = .ok (.getfield 62, 3) := by decide +kernel
theorem dX6_nextInTurn_4 : decode cX6_nextInTurn 4 = .ok (.iconst 1, 1) := by decide +kernel
theorem dX6_nextInTurn_5 : decode cX6_nextInTurn 5 = .ok (.iadd, 1) := by decide +kernel
theorem dX6_nextInTurn_6 : decode cX6_nextInTurn 6 = .ok (.bipush 8, 2) := by decide +kernel
theorem dX6_nextInTurn_8 : decode cX6_nextInTurn 8 = .ok (.irem, 1) := by decide +kernel
theorem dX6_nextInTurn_9 : decode cX6_nextInTurn 9 = .ok (.ifCond .ne 7, 3) := by decide +kernel
theorem dX6_nextInTurn_12 : decode cX6_nextInTurn 12 = .ok (.iconst 1, 1) := by decide +kernel
theorem dX6_nextInTurn_13 : decode cX6_nextInTurn 13 = .ok (.goto 4, 3) := by decide +kernel
theorem dX6_nextInTurn_16 : decode cX6_nextInTurn 16 = .ok (.iconst 0, 1) := by decide +kernel
theorem dX6_nextInTurn_17 : decode cX6_nextInTurn 17 = .ok (.istore_n 1, 1) := by decide +kernel
theorem dX6_nextInTurn_18 : decode cX6_nextInTurn 18 = .ok (.aconst_null, 1) := by decide +kernel
theorem dX6_nextInTurn_19 : decode cX6_nextInTurn 19 = .ok (.astore_n 2, 1) := by decide +kernel
theorem dX6_nextInTurn_20 : decode cX6_nextInTurn 20 = .ok (.iconst 0, 1) := by decide +kernel
theorem dX6_nextInTurn_21 : decode cX6_nextInTurn 21 = .ok (.istore_n 3, 1) := by decide +kernel
theorem dX6_nextInTurn_22 : decode cX6_nextInTurn 22 = .ok (.iload_n 3, 1) := by decide +kernel
theorem dX6_nextInTurn_23 : decode cX6_nextInTurn 23 = .ok (.aload_n 0, 1) := by decide +kernel
theorem dX6_nextInTurn_24 : decode cX6_nextInTurn 24 = .ok (.getfield 49, 3) := by decide +kernel
theorem dX6_nextInTurn_27 : decode cX6_nextInTurn 27 = .ok (.if_icmp .ge 42, 3) := by decide +kernel
theorem dX6_nextInTurn_30 : decode cX6_nextInTurn 30 = .ok (.aload_n 0, 1) := by decide +kernel
theorem dX6_nextInTurn_31 : decode cX6_nextInTurn 31 = .ok (.getfield 15, 3) := by decide +kernel
theorem dX6_nextInTurn_34 : decode cX6_nextInTurn 34 = .ok (.iload_n 3, 1) := by decide +kernel
theorem dX6_nextInTurn_35 : decode cX6_nextInTurn 35 = .ok (.aaload, 1) := by decide +kernel
theorem dX6_nextInTurn_36 : decode cX6_nextInTurn 36 = .ok (.astore 4, 2) := by decide +kernel
theorem dX6_nextInTurn_38 : decode cX6_nextInTurn 38 = .ok (.aload 4, 2) := by decide +kernel
theorem dX6_nextInTurn_40 : decode cX6_nextInTurn 40 = .ok (.getfield 142, 3) := by decide +kernel
theorem dX6_nextInTurn_43 : decode cX6_nextInTurn 43 = .ok (.ifCond .ne 20, 3) := by decide +kernel
theorem dX6_nextInTurn_46 : decode cX6_nextInTurn 46 = .ok (.aload_n 2, 1) := by decide +kernel
theorem dX6_nextInTurn_47 : decode cX6_nextInTurn 47 = .ok (.ifnull 13, 3) := by decide +kernel
theorem dX6_nextInTurn_50 : decode cX6_nextInTurn 50 = .ok (.aload 4, 2) := by decide +kernel
theorem dX6_nextInTurn_52 : decode cX6_nextInTurn 52 = .ok (.aload_n 2, 1) := by decide +kernel
theorem dX6_nextInTurn_53 : decode cX6_nextInTurn 53 = .ok (.iload_n 1, 1) := by decide +kernel
theorem dX6_nextInTurn_54 : decode cX6_nextInTurn 54 = .ok (.invokevirtual 190, 3) := by decide +kernel
theorem dX6_nextInTurn_57 : decode cX6_nextInTurn 57 = .ok (.ifCond .eq 6, 3) := by decide +kernel
theorem dX6_nextInTurn_60 : decode cX6_nextInTurn 60 = .ok (.aload 4, 2) := by decide +kernel
theorem dX6_nextInTurn_62 : decode cX6_nextInTurn 62 = .ok (.astore_n 2, 1) := by decide +kernel
theorem dX6_nextInTurn_63 : decode cX6_nextInTurn 63 = .ok (.iinc 3 1, 3) := by decide +kernel
theorem dX6_nextInTurn_66 : decode cX6_nextInTurn 66 = .ok (.goto (-44), 3) := by decide +kernel
theorem dX6_nextInTurn_69 : decode cX6_nextInTurn 69 = .ok (.aload_n 2, 1) := by decide +kernel
theorem dX6_nextInTurn_70 : decode cX6_nextInTurn 70 = .ok (.areturn, 1) := by decide +kernel
theorem dX6_firstDue_0 : decode cX6_firstDue 0 = .ok (.aconst_null, 1) := by decide +kernel
theorem dX6_firstDue_1 : decode cX6_firstDue 1 = .ok (.astore_n 1, 1) := by decide +kernel
theorem dX6_firstDue_2 : decode cX6_firstDue 2 = .ok (.iconst 0, 1) := by decide +kernel
theorem dX6_firstDue_3 : decode cX6_firstDue 3 = .ok (.istore_n 2, 1) := by decide +kernel
theorem dX6_firstDue_4 : decode cX6_firstDue 4 = .ok (.iload_n 2, 1) := by decide +kernel
theorem dX6_firstDue_5 : decode cX6_firstDue 5 = .ok (.aload_n 0, 1) := by decide +kernel
theorem dX6_firstDue_6 : decode cX6_firstDue 6 = .ok (.getfield 49, 3) := by decide +kernel
theorem dX6_firstDue_9 : decode cX6_firstDue 9 = .ok (.if_icmp .ge 67, 3) := by decide +kernel
theorem dX6_firstDue_12 : decode cX6_firstDue 12 = .ok (.aload_n 0, 1) := by decide +kernel
theorem dX6_firstDue_13 : decode cX6_firstDue 13 = .ok (.getfield 15, 3) := by decide +kernel
theorem dX6_firstDue_16 : decode cX6_firstDue 16 = .ok (.iload_n 2, 1) := by decide +kernel
theorem dX6_firstDue_17 : decode cX6_firstDue 17 = .ok (.aaload, 1) := by decide +kernel
theorem dX6_firstDue_18 : decode cX6_firstDue 18 = .ok (.astore_n 3, 1) := by decide +kernel
theorem dX6_firstDue_19 : decode cX6_firstDue 19 = .ok (.aload_n 3, 1) := by decide +kernel
theorem dX6_firstDue_20 : decode cX6_firstDue 20 = .ok (.getfield 142, 3) := by decide +kernel
theorem dX6_firstDue_23 : decode cX6_firstDue 23 = .ok (.iconst 1, 1) := by decide +kernel
theorem dX6_firstDue_24 : decode cX6_firstDue 24 = .ok (.if_icmp .ne 20, 3) := by decide +kernel
theorem dX6_firstDue_27 : decode cX6_firstDue 27 = .ok (.aload_n 3, 1) := by decide +kernel
theorem dX6_firstDue_28 : decode cX6_firstDue 28 = .ok (.getfield 180, 3) := by decide +kernel
theorem dX6_firstDue_31 : decode cX6_firstDue 31 = .ok (.aload_n 0, 1) := by decide +kernel
theorem dX6_firstDue_32 : decode cX6_firstDue 32 = .ok (.getfield 68, 3) := by decide +kernel
theorem dX6_firstDue_35 : decode cX6_firstDue 35 = .ok (.i2l, 1) := by decide +kernel
theorem dX6_firstDue_36 : decode cX6_firstDue 36 = .ok (.lcmp, 1) := by decide +kernel
theorem dX6_firstDue_37 : decode cX6_firstDue 37 = .ok (.ifCond .gt 7, 3) := by decide +kernel
theorem dX6_firstDue_40 : decode cX6_firstDue 40 = .ok (.iconst 1, 1) := by decide +kernel
theorem dX6_firstDue_41 : decode cX6_firstDue 41 = .ok (.goto 4, 3) := by decide +kernel
theorem dX6_firstDue_44 : decode cX6_firstDue 44 = .ok (.iconst 0, 1) := by decide +kernel
theorem dX6_firstDue_45 : decode cX6_firstDue 45 = .ok (.istore 4, 2) := by decide +kernel
theorem dX6_firstDue_47 : decode cX6_firstDue 47 = .ok (.iload 4, 2) := by decide +kernel
theorem dX6_firstDue_49 : decode cX6_firstDue 49 = .ok (.ifCond .eq 21, 3) := by decide +kernel
theorem dX6_firstDue_52 : decode cX6_firstDue 52 = .ok (.aload_n 1, 1) := by decide +kernel
theorem dX6_firstDue_53 : decode cX6_firstDue 53 = .ok (.ifnull 15, 3) := by decide +kernel
theorem dX6_firstDue_56 : decode cX6_firstDue 56 = .ok (.aload_n 3, 1) := by decide +kernel
theorem dX6_firstDue_57 : decode cX6_firstDue 57 = .ok (.getfield 180, 3) := by decide +kernel
theorem dX6_firstDue_60 : decode cX6_firstDue 60 = .ok (.aload_n 1, 1) := by decide +kernel
theorem dX6_firstDue_61 : decode cX6_firstDue 61 = .ok (.getfield 180, 3) := by decide +kernel
theorem dX6_firstDue_64 : decode cX6_firstDue 64 = .ok (.lcmp, 1) := by decide +kernel
theorem dX6_firstDue_65 : decode cX6_firstDue 65 = .ok (.ifCond .ge 5, 3) := by decide +kernel
theorem dX6_firstDue_68 : decode cX6_firstDue 68 = .ok (.aload_n 3, 1) := by decide +kernel
theorem dX6_firstDue_69 : decode cX6_firstDue 69 = .ok (.astore_n 1, 1) := by decide +kernel
theorem dX6_firstDue_70 : decode cX6_firstDue 70 = .ok (.iinc 2 1, 3) := by decide +kernel
theorem dX6_firstDue_73 : decode cX6_firstDue 73 = .ok (.goto (-69), 3) := by decide +kernel
theorem dX6_firstDue_76 : decode cX6_firstDue 76 = .ok (.aload_n 1, 1) := by decide +kernel
theorem dX6_firstDue_77 : decode cX6_firstDue 77 = .ok (.areturn, 1) := by decide +kernel
theorem dX6_doSlice_0 : decode cX6_doSlice 0 = .ok (.aload_n 0, 1) := by decide +kernel
theorem dX6_doSlice_1 : decode cX6_doSlice 1 = .ok (.dup, 1) := by decide +kernel
theorem dX6_doSlice_2 : decode cX6_doSlice 2 = .ok (.getfield 62, 3) := by decide +kernel
theorem dX6_doSlice_5 : decode cX6_doSlice 5 = .ok (.iconst 1, 1) := by decide +kernel
theorem dX6_doSlice_6 : decode cX6_doSlice 6 = .ok (.iadd, 1) := by decide +kernel
theorem dX6_doSlice_7 : decode cX6_doSlice 7 = .ok (.putfield 62, 3) := by decide +kernel
theorem dX6_doSlice_10 : decode cX6_doSlice 10 = .ok (.iconst 0, 1) := by decide +kernel
theorem dX6_doSlice_11 : decode cX6_doSlice 11 = .ok (.istore_n 2, 1) := by decide +kernel
theorem dX6_doSlice_12 : decode cX6_doSlice 12 = .ok (.iload_n 2, 1) := by decide +kernel
theorem dX6_doSlice_13 : decode cX6_doSlice 13 = .ok (.bipush 12, 2) := by decide +kernel
theorem dX6_doSlice_15 : decode cX6_doSlice 15 = .ok (.if_icmp .ge 123, 3) := by decide +kernel
theorem dX6_doSlice_18 : decode cX6_doSlice 18 = .ok (.aload_n 1, 1) := by decide +kernel
