theorem dX7_create_64 : decode cX7_create 64 = .ok (.iastore, 1) := by decide +kernel
theorem dX7_create_65 : decode cX7_create 65 = .ok (.aload_n 0, 1) := by decide +kernel
theorem dX7_create_66 : decode cX7_create 66 = .ok (.iload_n 3, 1) := by decide +kernel
theorem dX7_create_67 : decode cX7_create 67 = .ok (.invokevirtual 128, 3) := by decide +kernel
theorem dX7_create_70 : decode cX7_create 70 = .ok (.iload_n 3, 1) := by decide +kernel
theorem dX7_create_71 : decode cX7_create 71 = .ok (.ireturn, 1) := by decide +kernel
theorem dX7_start_0 : decode cX7_start 0 = .ok (.aload_n 0, 1) := by decide +kernel
theorem dX7_start_1 : decode cX7_start 1 = .ok (.iload_n 1, 1) := by decide +kernel
theorem dX7_start_2 : decode cX7_start 2 = .ok (.iconst 0, 1) := by decide +kernel
theorem dX7_start_3 : decode cX7_start 3 = .ok (.sipush 299, 3) := by decide +kernel
theorem dX7_start_6 : decode cX7_start 6 = .ok (.invokestatic 110, 3) := by decide +kernel
theorem dX7_start_9 : decode cX7_start 9 = .ok (.ifCond .eq 12, 3) := by decide +kernel
theorem dX7_start_12 : decode cX7_start 12 = .ok (.iload_n 2, 1) := by decide +kernel
theorem dX7_start_13 : decode cX7_start 13 = .ok (.iconst 0, 1) := by decide +kernel
theorem dX7_start_14 : decode cX7_start 14 = .ok (.iconst 2, 1) := by decide +kernel
theorem dX7_start_15 : decode cX7_start 15 = .ok (.invokestatic 110, 3) := by decide +kernel
theorem dX7_start_18 : decode cX7_start 18 = .ok (.ifCond .ne 7, 3) := by decide +kernel
theorem dX7_start_21 : decode cX7_start 21 = .ok (.iconst 1, 1) := by decide +kernel
theorem dX7_start_22 : decode cX7_start 22 = .ok (.goto 4, 3) := by decide +kernel
theorem dX7_start_25 : decode cX7_start 25 = .ok (.iconst 0, 1) := by decide +kernel
theorem dX7_start_26 : decode cX7_start 26 = .ok (.iconst 1, 1) := by decide +kernel
theorem dX7_start_27 : decode cX7_start 27 = .ok (.invokevirtual 114, 3) := by decide +kernel
theorem dX7_start_30 : decode cX7_start 30 = .ok (.ifCond .ne 25, 3) := by decide +kernel
theorem dX7_start_33 : decode cX7_start 33 = .ok (.aload_n 0, 1) := by decide +kernel
theorem dX7_start_34 : decode cX7_start 34 = .ok (.aload_n 0, 1) := by decide +kernel
theorem dX7_start_35 : decode cX7_start 35 = .ok (.getfield 121, 3) := by decide +kernel
theorem dX7_start_38 : decode cX7_start 38 = .ok (.bipush 60, 2) := by decide +kernel
theorem dX7_start_40 : decode cX7_start 40 = .ok (.if_icmp .ne 7, 3) := by decide +kernel
theorem dX7_start_43 : decode cX7_start 43 = .ok (.iconst 1, 1) := by decide +kernel
theorem dX7_start_44 : decode cX7_start 44 = .ok (.goto 4, 3) := by decide +kernel
theorem dX7_start_47 : decode cX7_start 47 = .ok (.iconst 0, 1) := by decide +kernel
theorem dX7_start_48 : decode cX7_start 48 = .ok (.iconst 2, 1) := by decide +kernel
theorem dX7_start_49 : decode cX7_start 49 = .ok (.invokevirtual 114, 3) := by decide +kernel
theorem dX7_start_52 : decode cX7_start 52 = .ok (.ifCond .eq 5, 3) := by decide +kernel
theorem dX7_start_55 : decode cX7_start 55 = .ok (.iconst 0, 1) := by decide +kernel
theorem dX7_start_56 : decode cX7_start 56 = .ok (.ireturn, 1) := by decide +kernel
theorem dX7_start_57 : decode cX7_start 57 = .ok (.aload_n 0, 1) := by decide +kernel
theorem dX7_start_58 : decode cX7_start 58 = .ok (.iload_n 1, 1) := by decide +kernel
theorem dX7_start_59 : decode cX7_start 59 = .ok (.iload_n 2, 1) := by decide +kernel
theorem dX7_start_60 : decode cX7_start 60 = .ok (.invokevirtual 132, 3) := by decide +kernel
theorem dX7_start_63 : decode cX7_start 63 = .ok (.iconst 1, 1) := by decide +kernel
theorem dX7_start_64 : decode cX7_start 64 = .ok (.iadd, 1) := by decide +kernel
theorem dX7_start_65 : decode cX7_start 65 = .ok (.ireturn, 1) := by decide +kernel
theorem dX7_comes_0 : decode cX7_comes 0 = .ok (.aload_n 0, 1) := by decide +kernel
theorem dX7_comes_1 : decode cX7_comes 1 = .ok (.getfield 29, 3) := by decide +kernel
theorem dX7_comes_4 : decode cX7_comes 4 = .ok (.iload_n 1, 1) := by decide +kernel
theorem dX7_comes_5 : decode cX7_comes 5 = .ok (.iaload, 1) := by decide +kernel
theorem dX7_comes_6 : decode cX7_comes 6 = .ok (.iconst 2, 1) := by decide +kernel
theorem dX7_comes_7 : decode cX7_comes 7 = .ok (.if_icmp .eq 14, 3) := by decide +kernel
theorem dX7_comes_10 : decode cX7_comes 10 = .ok (.aload_n 0, 1) := by decide +kernel
theorem dX7_comes_11 : decode cX7_comes 11 = .ok (.getfield 45, 3) := by decide +kernel
theorem dX7_comes_14 : decode cX7_comes 14 = .ok (.iload_n 1, 1) := by decide +kernel
theorem dX7_comes_15 : decode cX7_comes 15 = .ok (.iaload, 1) := by decide +kernel
theorem dX7_comes_16 : decode cX7_comes 16 = .ok (.bipush 40, 2) := by decide +kernel
theorem dX7_comes_18 : decode cX7_comes 18 = .ok (.if_icmp .ne 5, 3) := by decide +kernel
theorem dX7_comes_21 : decode cX7_comes 21 = .ok (.iconst 0, 1) := by decide +kernel
theorem dX7_comes_22 : decode cX7_comes 22 = .ok (.ireturn, 1) := by decide +kernel
theorem dX7_comes_23 : decode cX7_comes 23 = .ok (.aload_n 0, 1) := by decide +kernel
theorem dX7_comes_24 : decode cX7_comes 24 = .ok (.sipush 480, 3) := by decide +kernel
theorem dX7_comes_27 : decode cX7_comes 27 = .ok (.bipush 40, 2) := by decide +kernel
theorem dX7_comes_29 : decode cX7_comes 29 = .ok (.iload_n 1, 1) := by decide +kernel
theorem dX7_comes_30 : decode cX7_comes 30 = .ok (.imul, 1) := by decide +kernel
theorem dX7_comes_31 : decode cX7_comes 31 = .ok (.iadd, 1) := by decide +kernel
theorem dX7_comes_32 : decode cX7_comes 32 = .ok (.aload_n 0, 1) := by decide +kernel
theorem dX7_comes_33 : decode cX7_comes 33 = .ok (.getfield 45, 3) := by decide +kernel
theorem dX7_comes_36 : decode cX7_comes 36 = .ok (.iload_n 1, 1) := by decide +kernel
theorem dX7_comes_37 : decode cX7_comes 37 = .ok (.iaload, 1) := by decide +kernel
theorem dX7_comes_38 : decode cX7_comes 38 = .ok (.iadd, 1) := by decide +kernel
theorem dX7_comes_39 : decode cX7_comes 39 = .ok (.iload_n 2, 1) := by decide +kernel
theorem dX7_comes_40 : decode cX7_comes 40 = .ok (.invokevirtual 136, 3) := by decide +kernel
theorem dX7_comes_43 : decode cX7_comes 43 = .ok (.aload_n 0, 1) := by decide +kernel
theorem dX7_comes_44 : decode cX7_comes 44 = .ok (.getfield 45, 3) := by decide +kernel
theorem dX7_comes_47 : decode cX7_comes 47 = .ok (.iload_n 1, 1) := by decide +kernel
theorem dX7_comes_48 : decode cX7_comes 48 = .ok (.dup2, 1) := by decide +kernel
theorem dX7_comes_49 : decode cX7_comes 49 = .ok (.iaload, 1) := by decide +kernel
theorem dX7_comes_50 : decode cX7_comes 50 = .ok (.iconst 1, 1) := by decide +kernel
theorem dX7_comes_51 : decode cX7_comes 51 = .ok (.iadd, 1) := by decide +kernel
theorem dX7_comes_52 : decode cX7_comes 52 = .ok (.iastore, 1) := by decide +kernel
theorem dX7_comes_53 : decode cX7_comes 53 = .ok (.aload_n 0, 1) := by decide +kernel
theorem dX7_comes_54 : decode cX7_comes 54 = .ok (.dup, 1) := by decide +kernel
theorem dX7_comes_55 : decode cX7_comes 55 = .ok (.getfield 140, 3) := by decide +kernel
theorem dX7_comes_58 : decode cX7_comes 58 = .ok (.iconst 1, 1) := by decide +kernel
theorem dX7_comes_59 : decode cX7_comes 59 = .ok (.iadd, 1) := by decide +kernel
theorem dX7_comes_60 : decode cX7_comes 60 = .ok (.putfield 140, 3) := by decide +kernel
theorem dX7_comes_63 : decode cX7_comes 63 = .ok (.aload_n 0, 1) := by decide +kernel
theorem dX7_comes_64 : decode cX7_comes 64 = .ok (.getfield 29, 3) := by decide +kernel
theorem dX7_comes_67 : decode cX7_comes 67 = .ok (.iload_n 1, 1) := by decide +kernel
theorem dX7_comes_68 : decode cX7_comes 68 = .ok (.iaload, 1) := by decide +kernel
theorem dX7_comes_69 : decode cX7_comes 69 = .ok (.iconst 1, 1) := by decide +kernel
theorem dX7_comes_70 : decode cX7_comes 70 = .ok (.if_icmp .ne 27, 3) := by decide +kernel
theorem dX7_comes_73 : decode cX7_comes 73 = .ok (.aload_n 0, 1) := by decide +kernel
theorem dX7_comes_74 : decode cX7_comes 74 = .ok (.getfield 32, 3) := by decide +kernel
theorem dX7_comes_77 : decode cX7_comes 77 = .ok (.iload_n 1, 1) := by decide +kernel
theorem dX7_comes_78 : decode cX7_comes 78 = .ok (.aload_n 0, 1) := by decide +kernel
theorem dX7_comes_79 : decode cX7_comes 79 = .ok (.getfield 69, 3) := by decide +kernel
theorem dX7_comes_82 : decode cX7_comes 82 = .ok (.iload_n 1, 1) := by decide +kernel
theorem dX7_comes_83 : decode cX7_comes 83 = .ok (.iaload, 1) := by decide +kernel
theorem dX7_comes_84 : decode cX7_comes 84 = .ok (.iastore, 1) := by decide +kernel
theorem dX7_comes_85 : decode cX7_comes 85 = .ok (.aload_n 0, 1) := by decide +kernel
theorem dX7_comes_86 : decode cX7_comes 86 = .ok (.getfield 78, 3) := by decide +kernel
theorem dX7_comes_89 : decode cX7_comes 89 = .ok (.iload_n 1, 1) := by decide +kernel
theorem dX7_comes_90 : decode cX7_comes 90 = .ok (.iconst 0, 1) := by decide +kernel
theorem dX7_comes_91 : decode cX7_comes 91 = .ok (.bastore, 1) := by decide +kernel
theorem dX7_comes_92 : decode cX7_comes 92 = .ok (.aload_n 0, 1) := by decide +kernel
theorem dX7_comes_93 : decode cX7_comes 93 = .ok (.iload_n 1, 1) := by decide +kernel
theorem dX7_comes_94 : decode cX7_comes 94 = .ok (.invokevirtual 128, 3) := by decide +kernel
theorem dX7_comes_97 : decode cX7_comes 97 = .ok (.iconst 1, 1) := by decide +kernel
theorem dX7_comes_98 : decode cX7_comes 98 = .ok (.ireturn, 1) := by decide +kernel
theorem dX7_isProcess_0 : decode cX7_isProcess 0 = .ok (.iload_n 1, 1) := by decide +kernel
theorem dX7_isProcess_1 : decode cX7_isProcess 1 = .ok (.iconst 1, 1) := by decide +kernel
theorem dX7_isProcess_2 : decode cX7_isProcess 2 = .ok (.aload_n 0, 1) := by decide +kernel
theorem dX7_isProcess_3 : decode cX7_isProcess 3 = .ok (.getfield 121, 3) := by decide +kernel
theorem dX7_isProcess_6 : decode cX7_isProcess 6 = .ok (.invokestatic 110, 3) := by decide +kernel
theorem dX7_isProcess_9 : decode cX7_isProcess 9 = .ok (.ireturn, 1) := by decide +kernel
theorem dX7_send_0 : decode cX7_send 0 = .ok (.aload_n 0, 1) := by decide +kernel
theorem dX7_send_1 : decode cX7_send 1 = .ok (.aload_n 0, 1) := by decide +kernel
theorem dX7_send_2 : decode cX7_send 2 = .ok (.iload_n 1, 1) := by decide +kernel
theorem dX7_send_3 : decode cX7_send 3 = .ok (.invokevirtual 143, 3) := by decide +kernel
theorem dX7_send_6 : decode cX7_send 6 = .ok (.ifCond .ne 7, 3) := by decide +kernel
theorem dX7_send_9 : decode cX7_send 9 = .ok (.iconst 1, 1) := by decide +kernel
theorem dX7_send_10 : decode cX7_send 10 = .ok (.goto 4, 3) := by decide +kernel
theorem dX7_send_13 : decode cX7_send 13 = .ok (.iconst 0, 1) := by decide +kernel
theorem dX7_send_14 : decode cX7_send 14 = .ok (.iconst 1, 1) := by decide +kernel
theorem dX7_send_15 : decode cX7_send 15 = .ok (.invokevirtual 114, 3) := by decide +kernel
theorem dX7_send_18 : decode cX7_send 18 = .ok (.ifCond .eq 5, 3) := by decide +kernel
theorem dX7_send_21 : decode cX7_send 21 = .ok (.iconst 0, 1) := by decide +kernel
theorem dX7_send_22 : decode cX7_send 22 = .ok (.ireturn, 1) := by decide +kernel
theorem dX7_send_23 : decode cX7_send 23 = .ok (.aload_n 0, 1) := by decide +kernel
theorem dX7_send_24 : decode cX7_send 24 = .ok (.sipush 2940, 3) := by decide +kernel
theorem dX7_send_27 : decode cX7_send 27 = .ok (.iconst 0, 1) := by decide +kernel
theorem dX7_send_28 : decode cX7_send 28 = .ok (.iload_n 2, 1) := by decide +kernel
theorem dX7_send_29 : decode cX7_send 29 = .ok (.invokevirtual 124, 3) := by decide +kernel
theorem dX7_send_32 : decode cX7_send 32 = .ok (.aload_n 0, 1) := by decide +kernel
theorem dX7_send_33 : decode cX7_send 33 = .ok (.iload_n 1, 1) := by decide +kernel
theorem dX7_send_34 : decode cX7_send 34 = .ok (.iconst 1, 1) := by decide +kernel
theorem dX7_send_35 : decode cX7_send 35 = .ok (.isub, 1) := by decide +kernel
theorem dX7_send_36 : decode cX7_send 36 = .ok (.sipush 2940, 3) := by decide +kernel
theorem dX7_send_39 : decode cX7_send 39 = .ok (.invokevirtual 147, 3) := by decide +kernel
theorem dX7_send_42 : decode cX7_send 42 = .ok (.ireturn, 1) := by decide +kernel
theorem dX7_dies_0 : decode cX7_dies 0 = .ok (.aload_n 0, 1) := by decide +kernel
theorem dX7_dies_1 : decode cX7_dies 1 = .ok (.sipush 2880, 3) := by decide +kernel
theorem dX7_dies_4 : decode cX7_dies 4 = .ok (.iload_n 1, 1) := by decide +kernel
theorem dX7_dies_5 : decode cX7_dies 5 = .ok (.iadd, 1) := by decide +kernel
theorem dX7_dies_6 : decode cX7_dies 6 = .ok (.iload_n 2, 1) := by decide +kernel
theorem dX7_dies_7 : decode cX7_dies 7 = .ok (.invokevirtual 136, 3) := by decide +kernel
theorem dX7_dies_10 : decode cX7_dies 10 = .ok (.aload_n 0, 1) := by decide +kernel
theorem dX7_dies_11 : decode cX7_dies 11 = .ok (.getfield 29, 3) := by decide +kernel
theorem dX7_dies_14 : decode cX7_dies 14 = .ok (.iload_n 1, 1) := by decide +kernel
theorem dX7_dies_15 : decode cX7_dies 15 = .ok (.iconst 2, 1) := by decide +kernel
theorem dX7_dies_16 : decode cX7_dies 16 = .ok (.iastore, 1) := by decide +kernel
theorem dX7_dies_17 : decode cX7_dies 17 = .ok (.aload_n 0, 1) := by decide +kernel
theorem dX7_dies_18 : decode cX7_dies 18 = .ok (.getfield 38, 3) := by decide +kernel
theorem dX7_dies_21 : decode cX7_dies 21 = .ok (.iload_n 1, 1) := by decide +kernel
theorem dX7_dies_22 : decode cX7_dies 22 = .ok (.iconst (-1), 1) := by decide +kernel
theorem dX7_dies_23 : decode cX7_dies 23 = .ok (.iastore, 1) := by decide +kernel
theorem dX7_dies_24 : decode cX7_dies 24 = .ok (.aload_n 0, 1) := by decide +kernel
theorem dX7_dies_25 : decode cX7_dies 25 = .ok (.getfield 45, 3) := by decide +kernel
theorem dX7_dies_28 : decode cX7_dies 28 = .ok (.iload_n 1, 1) := by decide +kernel
theorem dX7_dies_29 : decode cX7_dies 29 = .ok (.iconst 0, 1) := by decide +kernel
theorem dX7_dies_30 : decode cX7_dies 30 = .ok (.iastore, 1) := by decide +kernel
theorem dX7_dies_31 : decode cX7_dies 31 = .ok (.aload_n 0, 1) := by decide +kernel
theorem dX7_dies_32 : decode cX7_dies 32 = .ok (.getfield 48, 3) := by decide +kernel
theorem dX7_dies_35 : decode cX7_dies 35 = .ok (.iload_n 1, 1) := by decide +kernel
theorem dX7_dies_36 : decode cX7_dies 36 = .ok (.iconst 0, 1) := by decide +kernel
theorem dX7_dies_37 : decode cX7_dies 37 = .ok (.iastore, 1) := by decide +kernel
theorem dX7_dies_38 : decode cX7_dies 38 = .ok (.aload_n 0, 1) := by decide +kernel
theorem dX7_dies_39 : decode cX7_dies 39 = .ok (.getfield 54, 3) := by decide +kernel
theorem dX7_dies_42 : decode cX7_dies 42 = .ok (.iload_n 1, 1) := by decide +kernel
theorem dX7_dies_43 : decode cX7_dies 43 = .ok (.iconst 0, 1) := by decide +kernel
theorem dX7_dies_44 : decode cX7_dies 44 = .ok (.iastore, 1) := by decide +kernel
theorem dX7_dies_45 : decode cX7_dies 45 = .ok (.aload_n 0, 1) := by decide +kernel
theorem dX7_dies_46 : decode cX7_dies 46 = .ok (.getfield 63, 3) := by decide +kernel
theorem dX7_dies_49 : decode cX7_dies 49 = .ok (.iload_n 1, 1) := by decide +kernel
theorem dX7_dies_50 : decode cX7_dies 50 = .ok (.iconst 0, 1) := by decide +kernel
theorem dX7_dies_51 : decode cX7_dies 51 = .ok (.iastore, 1) := by decide +kernel
theorem dX7_dies_52 : decode cX7_dies 52 = .ok (.aload_n 0, 1) := by decide +kernel
theorem dX7_dies_53 : decode cX7_dies 53 = .ok (.getfield 78, 3) := by decide +kernel
theorem dX7_dies_56 : decode cX7_dies 56 = .ok (.iload_n 1, 1) := by decide +kernel
theorem dX7_dies_57 : decode cX7_dies 57 = .ok (.iconst 0, 1) := by decide +kernel
theorem dX7_dies_58 : decode cX7_dies 58 = .ok (.bastore, 1) := by decide +kernel
theorem dX7_dies_59 : decode cX7_dies 59 = .ok (.aload_n 0, 1) := by decide +kernel
theorem dX7_dies_60 : decode cX7_dies 60 = .ok (.getfield 151, 3) := by decide +kernel
theorem dX7_dies_63 : decode cX7_dies 63 = .ok (.iconst 1, 1) := by decide +kernel
theorem dX7_dies_64 : decode cX7_dies 64 = .ok (.isub, 1) := by decide +kernel
theorem dX7_dies_65 : decode cX7_dies 65 = .ok (.istore_n 3, 1) := by decide +kernel
theorem dX7_dies_66 : decode cX7_dies 66 = .ok (.iload_n 3, 1) := by decide +kernel
theorem dX7_dies_67 : decode cX7_dies 67 = .ok (.ifCond .lt 24, 3) := by decide +kernel
theorem dX7_dies_70 : decode cX7_dies 70 = .ok (.aload_n 0, 1) := by decide +kernel
theorem dX7_dies_71 : decode cX7_dies 71 = .ok (.getfield 87, 3) := by decide +kernel
theorem dX7_dies_74 : decode cX7_dies 74 = .ok (.iload_n 3, 1) := by decide +kernel
theorem dX7_dies_75 : decode cX7_dies 75 = .ok (.iaload, 1) := by decide +kernel
theorem dX7_dies_76 : decode cX7_dies 76 = .ok (.iload_n 1, 1) := by decide +kernel
theorem dX7_dies_77 : decode cX7_dies 77 = .ok (.if_icmp .ne 8, 3) := by decide +kernel
theorem dX7_dies_80 : decode cX7_dies 80 = .ok (.aload_n 0, 1) := by decide +kernel
theorem dX7_dies_81 : decode cX7_dies 81 = .ok (.iload_n 3, 1) := by decide +kernel
theorem dX7_dies_82 : decode cX7_dies 82 = .ok (.invokevirtual 154, 3) := by decide +kernel
theorem dX7_dies_85 : decode cX7_dies 85 = .ok (.iinc 3 (-1), 3) := by decide +kernel
theorem dX7_dies_88 : decode cX7_dies 88 = .ok (.goto (-22), 3) := by decide +kernel
theorem dX7_dies_91 : decode cX7_dies 91 = .ok (.aload_n 0, 1) := by decide +kernel
theorem dX7_dies_92 : decode cX7_dies 92 = .ok (.getfield 96, 3) := by decide +kernel
theorem dX7_dies_95 : decode cX7_dies 95 = .ok (.aload_n 0, 1) := by decide +kernel
theorem dX7_dies_96 : decode cX7_dies 96 = .ok (.getfield 157, 3) := by decide +kernel
theorem dX7_dies_99 : decode cX7_dies 99 = .ok (.iload_n 1, 1) := by decide +kernel
theorem dX7_dies_100 : decode cX7_dies 100 = .ok (.iastore, 1) := by decide +kernel
theorem dX7_dies_101 : decode cX7_dies 101 = .ok (.aload_n 0, 1) := by decide +kernel
theorem dX7_dies_102 : decode cX7_dies 102 = .ok (.dup, 1) := by decide +kernel
theorem dX7_dies_103 : decode cX7_dies 103 = .ok (.getfield 157, 3) := by decide +kernel
theorem dX7_dies_106 : decode cX7_dies 106 = .ok (.iconst 1, 1) := by decide +kernel
theorem dX7_dies_107 : decode cX7_dies 107 = .ok (.iadd, 1) := by decide +kernel
theorem dX7_dies_108 : decode cX7_dies 108 = .ok (.putfield 157, 3) := by decide +kernel
theorem dX7_dies_111 : decode cX7_dies 111 = .ok (.return_, 1) := by decide +kernel
theorem dX7_spread_0 : decode cX7_spread 0 = .ok (.iconst 0, 1) := by decide +kernel
theorem dX7_spread_1 : decode cX7_spread 1 = .ok (.istore_n 1, 1) := by decide +kernel
theorem dX7_spread_2 : decode cX7_spread 2 = .ok (.iload_n 1, 1) := by decide +kernel
theorem dX7_spread_3 : decode cX7_spread 3 = .ok (.aload_n 0, 1) := by decide +kernel
theorem dX7_spread_4 : decode cX7_spread 4 = .ok (.getfield 157, 3) := by decide +kernel
theorem dX7_spread_7 : decode cX7_spread 7 = .ok (.if_icmp .ge 132, 3) := by decide +kernel
theorem dX7_spread_10 : decode cX7_spread 10 = .ok (.aload_n 0, 1) := by decide +kernel
theorem dX7_spread_11 : decode cX7_spread 11 = .ok (.getfield 96, 3) := by decide +kernel
theorem dX7_spread_14 : decode cX7_spread 14 = .ok (.iload_n 1, 1) := by decide +kernel
theorem dX7_spread_15 : decode cX7_spread 15 = .ok (.iaload, 1) := by decide +kernel
theorem dX7_spread_16 : decode cX7_spread 16 = .ok (.istore_n 2, 1) := by decide +kernel
theorem dX7_spread_17 : decode cX7_spread 17 = .ok (.iconst 0, 1) := by decide +kernel
theorem dX7_spread_18 : decode cX7_spread 18 = .ok (.istore_n 3, 1) := by decide +kernel
theorem dX7_spread_19 : decode cX7_spread 19 = .ok (.iload_n 3, 1) := by decide +kernel
theorem dX7_spread_20 : decode cX7_spread 20 = .ok (.aload_n 0, 1) := by decide +kernel
theorem dX7_spread_21 : decode cX7_spread 21 = .ok (.getfield 121, 3) := by decide +kernel
theorem dX7_spread_24 : decode cX7_spread 24 = .ok (.if_icmp .ge 45, 3) := by decide +kernel
theorem dX7_spread_27 : decode cX7_spread 27 = .ok (.aload_n 0, 1) := by decide +kernel
theorem dX7_spread_28 : decode cX7_spread 28 = .ok (.getfield 84, 3) := by decide +kernel
theorem dX7_spread_31 : decode cX7_spread 31 = .ok (.bipush 60, 2) := by decide +kernel
theorem dX7_spread_33 : decode cX7_spread 33 = .ok (.iload_n 2, 1) := by decide +kernel
theorem dX7_spread_34 : decode cX7_spread 34 = .ok (.imul, 1) := by decide +kernel
theorem dX7_spread_35 : decode cX7_spread 35 = .ok (.iload_n 3, 1) := by decide +kernel
theorem dX7_spread_36 : decode cX7_spread 36 = .ok (.iadd, 1) := by decide +kernel
theorem dX7_spread_37 : decode cX7_spread 37 = .ok (.baload, 1) := by decide +kernel
theorem dX7_spread_38 : decode cX7_spread 38 = .ok (.ifCond .ne 6, 3) := by decide +kernel
theorem dX7_spread_41 : decode cX7_spread 41 = .ok (.goto 22, 3) := by decide +kernel
theorem dX7_spread_44 : decode cX7_spread 44 = .ok (.aload_n 0, 1) := by decide +kernel
theorem dX7_spread_45 : decode cX7_spread 45 = .ok (.iload_n 2, 1) := by decide +kernel
theorem dX7_spread_46 : decode cX7_spread 46 = .ok (.iload_n 3, 1) := by decide +kernel
theorem dX7_spread_47 : decode cX7_spread 47 = .ok (.iconst 0, 1) := by decide +kernel
theorem dX7_spread_48 : decode cX7_spread 48 = .ok (.invokevirtual 160, 3) := by decide +kernel
theorem dX7_spread_51 : decode cX7_spread 51 = .ok (.aload_n 0, 1) := by decide +kernel
theorem dX7_spread_52 : decode cX7_spread 52 = .ok (.iload_n 3, 1) := by decide +kernel
theorem dX7_spread_53 : decode cX7_spread 53 = .ok (.iload_n 2, 1) := by decide +kernel
theorem dX7_spread_54 : decode cX7_spread 54 = .ok (.sipush 2880, 3) := by decide +kernel
theorem dX7_spread_57 : decode cX7_spread 57 = .ok (.iload_n 2, 1) := by decide +kernel
theorem dX7_spread_58 : decode cX7_spread 58 = .ok (.iadd, 1) := by decide +kernel
theorem dX7_spread_59 : decode cX7_spread 59 = .ok (.iconst 0, 1) := by decide +kernel
theorem dX7_spread_60 : decode cX7_spread 60 = .ok (.invokevirtual 164, 3) := by decide +kernel
theorem dX7_spread_63 : decode cX7_spread 63 = .ok (.iinc 3 1, 3) := by decide +kernel
theorem dX7_spread_66 : decode cX7_spread 66 = .ok (.goto (-47), 3) := by decide +kernel
theorem dX7_spread_69 : decode cX7_spread 69 = .ok (.iconst 0, 1) := by decide +kernel
theorem dX7_spread_70 : decode cX7_spread 70 = .ok (.istore_n 3, 1) := by decide +kernel
theorem dX7_spread_71 : decode cX7_spread 71 = .ok (.iload_n 3, 1) := by decide +kernel
theorem dX7_spread_72 : decode cX7_spread 72 = .ok (.aload_n 0, 1) := by decide +kernel
theorem dX7_spread_73 : decode cX7_spread 73 = .ok (.getfield 151, 3) := by decide +kernel
theorem dX7_spread_76 : decode cX7_spread 76 = .ok (.if_icmp .ge 57, 3) := by decide +kernel
theorem dX7_spread_79 : decode cX7_spread 79 = .ok (.aload_n 0, 1) := by decide +kernel
theorem dX7_spread_80 : decode cX7_spread 80 = .ok (.getfield 90, 3) := by decide +kernel
theorem dX7_spread_83 : decode cX7_spread 83 = .ok (.iload_n 3, 1) := by decide +kernel
theorem dX7_spread_84 : decode cX7_spread 84 = .ok (.iaload, 1) := by decide +kernel
theorem dX7_spread_85 : decode cX7_spread 85 = .ok (.iload_n 2, 1) := by decide +kernel
theorem dX7_spread_86 : decode cX7_spread 86 = .ok (.if_icmp .eq 9, 3) := by decide +kernel
theorem dX7_spread_89 : decode cX7_spread 89 = .ok (.iinc 3 1, 3) := by decide +kernel
theorem dX7_spread_92 : decode cX7_spread 92 = .ok (.goto (-21), 3) := by decide +kernel
theorem dX7_spread_95 : decode cX7_spread 95 = .ok (.aload_n 0, 1) := by decide +kernel
theorem dX7_spread_96 : decode cX7_spread 96 = .ok (.getfield 87, 3) := by decide +kernel
theorem dX7_spread_99 : decode cX7_spread 99 = .ok (.iload_n 3, 1) := by decide +kernel
theorem dX7_spread_100 : decode cX7_spread 100 = .ok (.iaload, 1) := by decide +kernel
theorem dX7_spread_101 : decode cX7_spread 101 = .ok (.istore 4, 2) := by decide +kernel
theorem dX7_spread_103 : decode cX7_spread 103 = .ok (.aload_n 0, 1) := by decide +kernel
theorem dX7_spread_104 : decode cX7_spread 104 = .ok (.getfield 93, 3) := by decide +kernel
theorem dX7_spread_107 : decode cX7_spread 107 = .ok (.iload_n 3, 1) := by decide +kernel
theorem dX7_spread_108 : decode cX7_spread 108 = .ok (.iaload, 1) := by decide +kernel
theorem dX7_spread_109 : decode cX7_spread 109 = .ok (.istore 5, 2) := by decide +kernel
theorem dX7_spread_111 : decode cX7_spread 111 = .ok (.aload_n 0, 1) := by decide +kernel
theorem dX7_spread_112 : decode cX7_spread 112 = .ok (.iload_n 3, 1) := by decide +kernel
theorem dX7_spread_113 : decode cX7_spread 113 = .ok (.invokevirtual 154, 3) := by decide +kernel
theorem dX7_spread_116 : decode cX7_spread 116 = .ok (.aload_n 0, 1) := by decide +kernel
theorem dX7_spread_117 : decode cX7_spread 117 = .ok (.iload 4, 2) := by decide +kernel
theorem dX7_spread_119 : decode cX7_spread 119 = .ok (.iload 5, 2) := by decide +kernel
theorem dX7_spread_121 : decode cX7_spread 121 = .ok (.iload_n 2, 1) := by decide +kernel
theorem dX7_spread_122 : decode cX7_spread 122 = .ok (.sipush 2880, 3) := by decide +kernel
theorem dX7_spread_125 : decode cX7_spread 125 = .ok (.iload_n 2, 1) := by decide +kernel
theorem dX7_spread_126 : decode cX7_spread 126 = .ok (.iadd, 1) := by decide +kernel
theorem dX7_spread_127 : decode cX7_spread 127 = .ok (.invokevirtual 168, 3) := by decide +kernel
theorem dX7_spread_130 : decode cX7_spread 130 = .ok (.goto (-59), 3) := by decide +kernel
theorem dX7_spread_133 : decode cX7_spread 133 = .ok (.iinc 1 1, 3) := by decide +kernel
theorem dX7_spread_136 : decode cX7_spread 136 = .ok (.goto (-134), 3) := by decide +kernel
theorem dX7_spread_139 : decode cX7_spread 139 = .ok (.aload_n 0, 1) := by decide +kernel
theorem dX7_spread_140 : decode cX7_spread 140 = .ok (.iconst 0, 1) := by decide +kernel
theorem dX7_spread_141 : decode cX7_spread 141 = .ok (.putfield 157, 3) := by decide +kernel
theorem dX7_spread_144 : decode cX7_spread 144 = .ok (.return_, 1) := by decide +kernel
theorem dX7_dropWatch_0 : decode cX7_dropWatch 0 = .ok (.aload_n 0, 1) := by decide +kernel
theorem dX7_dropWatch_1 : decode cX7_dropWatch 1 = .ok (.dup, 1) := by decide +kernel
theorem dX7_dropWatch_2 : decode cX7_dropWatch 2 = .ok (.getfield 151, 3) := by decide +kernel
theorem dX7_dropWatch_5 : decode cX7_dropWatch 5 = .ok (.iconst 1, 1) := by decide +kernel
theorem dX7_dropWatch_6 : decode cX7_dropWatch 6 = .ok (.isub, 1) := by decide +kernel
theorem dX7_dropWatch_7 : decode cX7_dropWatch 7 = .ok (.putfield 151, 3) := by decide +kernel
theorem dX7_dropWatch_10 : decode cX7_dropWatch 10 = .ok (.iload_n 1, 1) := by decide +kernel
theorem dX7_dropWatch_11 : decode cX7_dropWatch 11 = .ok (.istore_n 2, 1) := by decide +kernel
theorem dX7_dropWatch_12 : decode cX7_dropWatch 12 = .ok (.iload_n 2, 1) := by decide +kernel
theorem dX7_dropWatch_13 : decode cX7_dropWatch 13 = .ok (.aload_n 0, 1) := by decide +kernel
theorem dX7_dropWatch_14 : decode cX7_dropWatch 14 = .ok (.getfield 151, 3) := by decide +kernel
theorem dX7_dropWatch_17 : decode cX7_dropWatch 17 = .ok (.if_icmp .ge 51, 3) := by decide +kernel
theorem dX7_dropWatch_20 : decode cX7_dropWatch 20 = .ok (.aload_n 0, 1) := by decide +kernel
theorem dX7_dropWatch_21 : decode cX7_dropWatch 21 = .ok (.getfield 87, 3) := by decide +kernel
theorem dX7_dropWatch_24 : decode cX7_dropWatch 24 = .ok (.iload_n 2, 1) := by decide +kernel
theorem dX7_dropWatch_25 : decode cX7_dropWatch 25 = .ok (.aload_n 0, 1) := by decide +kernel
theorem dX7_dropWatch_26 : decode cX7_dropWatch 26 = .ok (.getfield 87, 3) := by decide +kernel
theorem dX7_dropWatch_29 : decode cX7_dropWatch 29 = .ok (.iload_n 2, 1) := by decide +kernel
theorem dX7_dropWatch_30 : decode cX7_dropWatch 30 = .ok (.iconst 1, 1) := by decide +kernel
theorem dX7_dropWatch_31 : decode cX7_dropWatch 31 = .ok (.iadd, 1) := by decide +kernel
theorem dX7_dropWatch_32 : decode cX7_dropWatch 32 = .ok (.iaload, 1) := by decide +kernel
theorem dX7_dropWatch_33 : decode cX7_dropWatch 33 = .ok (.iastore, 1) := by decide +kernel
theorem dX7_dropWatch_34 : decode cX7_dropWatch 34 = .ok (.aload_n 0, 1) := by decide +kernel
theorem dX7_dropWatch_35 : decode cX7_dropWatch 35 = .ok (.getfield 90, 3) := by decide +kernel
theorem dX7_dropWatch_38 : decode cX7_dropWatch 38 = .ok (.iload_n 2, 1) := by decide +kernel
theorem dX7_dropWatch_39 : decode cX7_dropWatch 39 = .ok (.aload_n 0, 1) := by decide +kernel
theorem dX7_dropWatch_40 : decode cX7_dropWatch 40 = .ok (.getfield 90, 3) := by decide +kernel
theorem dX7_dropWatch_43 : decode cX7_dropWatch 43 = .ok (.iload_n 2, 1) := by decide +kernel
theorem dX7_dropWatch_44 : decode cX7_dropWatch 44 = .ok (.iconst 1, 1) := by decide +kernel
theorem dX7_dropWatch_45 : decode cX7_dropWatch 45 = .ok (.iadd, 1) := by decide +kernel
theorem dX7_dropWatch_46 : decode cX7_dropWatch 46 = .ok (.iaload, 1) := by decide +kernel
theorem dX7_dropWatch_47 : decode cX7_dropWatch 47 = .ok (.iastore, 1) := by decide +kernel
theorem dX7_dropWatch_48 : decode cX7_dropWatch 48 = .ok (.aload_n 0, 1) := by decide +kernel
theorem dX7_dropWatch_49 : decode cX7_dropWatch 49 = .ok (.getfield 93, 3) := by decide +kernel
theorem dX7_dropWatch_52 : decode cX7_dropWatch 52 = .ok (.iload_n 2, 1) := by decide +kernel
theorem dX7_dropWatch_53 : decode cX7_dropWatch 53 = .ok (.aload_n 0, 1) := by decide +kernel
theorem dX7_dropWatch_54 : decode cX7_dropWatch 54 = .ok (.getfield 93, 3) := by decide +kernel
theorem dX7_dropWatch_57 : decode cX7_dropWatch 57 = .ok (.iload_n 2, 1) := by decide +kernel
theorem dX7_dropWatch_58 : decode cX7_dropWatch 58 = .ok (.iconst 1, 1) := by decide +kernel
theorem dX7_dropWatch_59 : decode cX7_dropWatch 59 = .ok (.iadd, 1) := by decide +kernel
theorem dX7_dropWatch_60 : decode cX7_dropWatch 60 = .ok (.iaload, 1) := by decide +kernel
theorem dX7_dropWatch_61 : decode cX7_dropWatch 61 = .ok (.iastore, 1) := by decide +kernel
theorem dX7_dropWatch_62 : decode cX7_dropWatch 62 = .ok (.iinc 2 1, 3) := by decide +kernel
theorem dX7_dropWatch_65 : decode cX7_dropWatch 65 = .ok (.goto (-53), 3) := by decide +kernel
theorem dX7_dropWatch_68 : decode cX7_dropWatch 68 = .ok (.return_, 1) := by decide +kernel
theorem dX7_link_0 : decode cX7_link 0 = .ok (.aload_n 0, 1) := by decide +kernel
theorem dX7_link_1 : decode cX7_link 1 = .ok (.getfield 84, 3) := by decide +kernel
theorem dX7_link_4 : decode cX7_link 4 = .ok (.bipush 60, 2) := by decide +kernel
theorem dX7_link_6 : decode cX7_link 6 = .ok (.iload_n 1, 1) := by decide +kernel
theorem dX7_link_7 : decode cX7_link 7 = .ok (.imul, 1) := by decide +kernel
theorem dX7_link_8 : decode cX7_link 8 = .ok (.iload_n 2, 1) := by decide +kernel
theorem dX7_link_9 : decode cX7_link 9 = .ok (.iadd, 1) := by decide +kernel
theorem dX7_link_10 : decode cX7_link 10 = .ok (.iload_n 3, 1) := by decide +kernel
theorem dX7_link_11 : decode cX7_link 11 = .ok (.bastore, 1) := by decide +kernel
theorem dX7_link_12 : decode cX7_link 12 = .ok (.aload_n 0, 1) := by decide +kernel
theorem dX7_link_13 : decode cX7_link 13 = .ok (.getfield 84, 3) := by decide +kernel
theorem dX7_link_16 : decode cX7_link 16 = .ok (.bipush 60, 2) := by decide +kernel
theorem dX7_link_18 : decode cX7_link 18 = .ok (.iload_n 2, 1) := by decide +kernel
theorem dX7_link_19 : decode cX7_link 19 = .ok (.imul, 1) := by decide +kernel
theorem dX7_link_20 : decode cX7_link 20 = .ok (.iload_n 1, 1) := by decide +kernel
theorem dX7_link_21 : decode cX7_link 21 = .ok (.iadd, 1) := by decide +kernel
theorem dX7_link_22 : decode cX7_link 22 = .ok (.iload_n 3, 1) := by decide +kernel
theorem dX7_link_23 : decode cX7_link 23 = .ok (.bastore, 1) := by decide +kernel
theorem dX7_link_24 : decode cX7_link 24 = .ok (.return_, 1) := by decide +kernel
theorem dX7_tells_0 : decode cX7_tells 0 = .ok (.aload_n 0, 1) := by decide +kernel
theorem dX7_tells_1 : decode cX7_tells 1 = .ok (.sipush 2942, 3) := by decide +kernel
theorem dX7_tells_4 : decode cX7_tells 4 = .ok (.iconst 1, 1) := by decide +kernel
theorem dX7_tells_5 : decode cX7_tells 5 = .ok (.iconst 5, 1) := by decide +kernel
theorem dX7_tells_6 : decode cX7_tells 6 = .ok (.invokevirtual 124, 3) := by decide +kernel
theorem dX7_tells_9 : decode cX7_tells 9 = .ok (.aload_n 0, 1) := by decide +kernel
theorem dX7_tells_10 : decode cX7_tells 10 = .ok (.iload_n 3, 1) := by decide +kernel
theorem dX7_tells_11 : decode cX7_tells 11 = .ok (.invokevirtual 172, 3) := by decide +kernel
theorem dX7_tells_14 : decode cX7_tells 14 = .ok (.aload_n 0, 1) := by decide +kernel
theorem dX7_tells_15 : decode cX7_tells 15 = .ok (.iload 4, 2) := by decide +kernel
theorem dX7_tells_17 : decode cX7_tells 17 = .ok (.invokevirtual 172, 3) := by decide +kernel
theorem dX7_tells_20 : decode cX7_tells 20 = .ok (.iadd, 1) := by decide +kernel
theorem dX7_tells_21 : decode cX7_tells 21 = .ok (.iconst 1, 1) := by decide +kernel
theorem dX7_tells_22 : decode cX7_tells 22 = .ok (.iadd, 1) := by decide +kernel
theorem dX7_tells_23 : decode cX7_tells 23 = .ok (.bipush 32, 2) := by decide +kernel
theorem dX7_tells_25 : decode cX7_tells 25 = .ok (.if_icmp .le 9, 3) := by decide +kernel
theorem dX7_tells_28 : decode cX7_tells 28 = .ok (.sipush 2942, 3) := by decide +kernel
theorem dX7_tells_31 : decode cX7_tells 31 = .ok (.goto 5, 3) := by decide +kernel
theorem dX7_tells_34 : decode cX7_tells 34 = .ok (.iload 4, 2) := by decide +kernel
theorem dX7_tells_36 : decode cX7_tells 36 = .ok (.istore 5, 2) := by decide +kernel
theorem dX7_tells_38 : decode cX7_tells 38 = .ok (.aload_n 0, 1) := by decide +kernel
theorem dX7_tells_39 : decode cX7_tells 39 = .ok (.sipush 2941, 3) := by decide +kernel
theorem dX7_tells_42 : decode cX7_tells 42 = .ok (.iload_n 3, 1) := by decide +kernel
theorem dX7_tells_43 : decode cX7_tells 43 = .ok (.iload 5, 2) := by decide +kernel
theorem dX7_tells_45 : decode cX7_tells 45 = .ok (.invokevirtual 175, 3) := by decide +kernel
theorem dX7_tells_48 : decode cX7_tells 48 = .ok (.aload_n 0, 1) := by decide +kernel
theorem dX7_tells_49 : decode cX7_tells 49 = .ok (.sipush 2942, 3) := by decide +kernel
theorem dX7_tells_52 : decode cX7_tells 52 = .ok (.iconst 1, 1) := by decide +kernel
theorem dX7_tells_53 : decode cX7_tells 53 = .ok (.iload_n 2, 1) := by decide +kernel
theorem dX7_tells_54 : decode cX7_tells 54 = .ok (.invokevirtual 124, 3) := by decide +kernel
theorem dX7_tells_57 : decode cX7_tells 57 = .ok (.aload_n 0, 1) := by decide +kernel
theorem dX7_tells_58 : decode cX7_tells 58 = .ok (.sipush 2940, 3) := by decide +kernel
theorem dX7_tells_61 : decode cX7_tells 61 = .ok (.sipush 2942, 3) := by decide +kernel
theorem dX7_tells_64 : decode cX7_tells 64 = .ok (.sipush 2941, 3) := by decide +kernel
theorem dX7_tells_67 : decode cX7_tells 67 = .ok (.invokevirtual 175, 3) := by decide +kernel
theorem dX7_tells_70 : decode cX7_tells 70 = .ok (.aload_n 0, 1) := by decide +kernel
theorem dX7_tells_71 : decode cX7_tells 71 = .ok (.iload_n 1, 1) := by decide +kernel
theorem dX7_tells_72 : decode cX7_tells 72 = .ok (.sipush 2940, 3) := by decide +kernel
theorem dX7_tells_75 : decode cX7_tells 75 = .ok (.invokevirtual 147, 3) := by decide +kernel
theorem dX7_tells_78 : decode cX7_tells 78 = .ok (.pop, 1) := by decide +kernel
theorem dX7_tells_79 : decode cX7_tells 79 = .ok (.return_, 1) := by decide +kernel
theorem dX7_tellsDown_0 : decode cX7_tellsDown 0 = .ok (.aload_n 0, 1) := by decide +kernel
theorem dX7_tellsDown_1 : decode cX7_tellsDown 1 = .ok (.sipush 2942, 3) := by decide +kernel
theorem dX7_tellsDown_4 : decode cX7_tellsDown 4 = .ok (.iconst 1, 1) := by decide +kernel
theorem dX7_tellsDown_5 : decode cX7_tellsDown 5 = .ok (.iconst 5, 1) := by decide +kernel
theorem dX7_tellsDown_6 : decode cX7_tellsDown 6 = .ok (.invokevirtual 124, 3) := by decide +kernel
theorem dX7_tellsDown_9 : decode cX7_tellsDown 9 = .ok (.aload_n 0, 1) := by decide +kernel
theorem dX7_tellsDown_10 : decode cX7_tellsDown 10 = .ok (.iload 4, 2) := by decide +kernel
theorem dX7_tellsDown_12 : decode cX7_tellsDown 12 = .ok (.invokevirtual 172, 3) := by decide +kernel
theorem dX7_tellsDown_15 : decode cX7_tellsDown 15 = .ok (.iconst 3, 1) := by decide +kernel
theorem dX7_tellsDown_16 : decode cX7_tellsDown 16 = .ok (.iadd, 1) := by decide +kernel
theorem dX7_tellsDown_17 : decode cX7_tellsDown 17 = .ok (.bipush 32, 2) := by decide +kernel
theorem dX7_tellsDown_19 : decode cX7_tellsDown 19 = .ok (.if_icmp .le 9, 3) := by decide +kernel
theorem dX7_tellsDown_22 : decode cX7_tellsDown 22 = .ok (.sipush 2942, 3) := by decide +kernel
theorem dX7_tellsDown_25 : decode cX7_tellsDown 25 = .ok (.goto 5, 3) := by decide +kernel
theorem dX7_tellsDown_28 : decode cX7_tellsDown 28 = .ok (.iload 4, 2) := by decide +kernel
theorem dX7_tellsDown_30 : decode cX7_tellsDown 30 = .ok (.istore 5, 2) := by decide +kernel
theorem dX7_tellsDown_32 : decode cX7_tellsDown 32 = .ok (.aload_n 0, 1) := by decide +kernel
theorem dX7_tellsDown_33 : decode cX7_tellsDown 33 = .ok (.sipush 2940, 3) := by decide +kernel
theorem dX7_tellsDown_36 : decode cX7_tellsDown 36 = .ok (.iconst 2, 1) := by decide +kernel
theorem dX7_tellsDown_37 : decode cX7_tellsDown 37 = .ok (.iload_n 3, 1) := by decide +kernel
theorem dX7_tellsDown_38 : decode cX7_tellsDown 38 = .ok (.iconst 1, 1) := by decide +kernel
theorem dX7_tellsDown_39 : decode cX7_tellsDown 39 = .ok (.iadd, 1) := by decide +kernel
theorem dX7_tellsDown_40 : decode cX7_tellsDown 40 = .ok (.invokevirtual 124, 3) := by decide +kernel
theorem dX7_tellsDown_43 : decode cX7_tellsDown 43 = .ok (.aload_n 0, 1) := by decide +kernel
theorem dX7_tellsDown_44 : decode cX7_tellsDown 44 = .ok (.sipush 2941, 3) := by decide +kernel
theorem dX7_tellsDown_47 : decode cX7_tellsDown 47 = .ok (.sipush 2940, 3) := by decide +kernel
theorem dX7_tellsDown_50 : decode cX7_tellsDown 50 = .ok (.iload 5, 2) := by decide +kernel
theorem dX7_tellsDown_52 : decode cX7_tellsDown 52 = .ok (.invokevirtual 175, 3) := by decide +kernel
theorem dX7_tellsDown_55 : decode cX7_tellsDown 55 = .ok (.aload_n 0, 1) := by decide +kernel
theorem dX7_tellsDown_56 : decode cX7_tellsDown 56 = .ok (.sipush 2942, 3) := by decide +kernel
theorem dX7_tellsDown_59 : decode cX7_tellsDown 59 = .ok (.iconst 0, 1) := by decide +kernel
theorem dX7_tellsDown_60 : decode cX7_tellsDown 60 = .ok (.iload_n 2, 1) := by decide +kernel
theorem dX7_tellsDown_61 : decode cX7_tellsDown 61 = .ok (.invokevirtual 124, 3) := by decide +kernel
theorem dX7_tellsDown_64 : decode cX7_tellsDown 64 = .ok (.aload_n 0, 1) := by decide +kernel
theorem dX7_tellsDown_65 : decode cX7_tellsDown 65 = .ok (.sipush 2940, 3) := by decide +kernel
theorem dX7_tellsDown_68 : decode cX7_tellsDown 68 = .ok (.sipush 2942, 3) := by decide +kernel
theorem dX7_tellsDown_71 : decode cX7_tellsDown 71 = .ok (.sipush 2941, 3) := by decide +kernel
theorem dX7_tellsDown_74 : decode cX7_tellsDown 74 = .ok (.invokevirtual 175, 3) := by decide +kernel
theorem dX7_tellsDown_77 : decode cX7_tellsDown 77 = .ok (.aload_n 0, 1) := by decide +kernel
theorem dX7_tellsDown_78 : decode cX7_tellsDown 78 = .ok (.sipush 2942, 3) := by decide +kernel
theorem dX7_tellsDown_81 : decode cX7_tellsDown 81 = .ok (.iconst 1, 1) := by decide +kernel
theorem dX7_tellsDown_82 : decode cX7_tellsDown 82 = .ok (.bipush 7, 2) := by decide +kernel
theorem dX7_tellsDown_84 : decode cX7_tellsDown 84 = .ok (.invokevirtual 124, 3) := by decide +kernel
theorem dX7_tellsDown_87 : decode cX7_tellsDown 87 = .ok (.aload_n 0, 1) := by decide +kernel
theorem dX7_tellsDown_88 : decode cX7_tellsDown 88 = .ok (.sipush 2941, 3) := by decide +kernel
theorem dX7_tellsDown_91 : decode cX7_tellsDown 91 = .ok (.sipush 2942, 3) := by decide +kernel
theorem dX7_tellsDown_94 : decode cX7_tellsDown 94 = .ok (.sipush 2940, 3) := by decide +kernel
theorem dX7_tellsDown_97 : decode cX7_tellsDown 97 = .ok (.invokevirtual 175, 3) := by decide +kernel
theorem dX7_tellsDown_100 : decode cX7_tellsDown 100 = .ok (.aload_n 0, 1) := by decide +kernel
theorem dX7_tellsDown_101 : decode cX7_tellsDown 101 = .ok (.iload_n 1, 1) := by decide +kernel
theorem dX7_tellsDown_102 : decode cX7_tellsDown 102 = .ok (.sipush 2941, 3) := by decide +kernel
theorem dX7_tellsDown_105 : decode cX7_tellsDown 105 = .ok (.invokevirtual 147, 3) := by decide +kernel
theorem dX7_tellsDown_108 : decode cX7_tellsDown 108 = .ok (.pop, 1) := by decide +kernel
theorem dX7_tellsDown_109 : decode cX7_tellsDown 109 = .ok (.return_, 1) := by decide +kernel
theorem dX7_isAtom_0 : decode cX7_isAtom 0 = .ok (.aload_n 0, 1) := by decide +kernel
theorem dX7_isAtom_1 : decode cX7_isAtom 1 = .ok (.iload_n 1, 1) := by decide +kernel
theorem dX7_isAtom_2 : decode cX7_isAtom 2 = .ok (.iconst 1, 1) := by decide +kernel
theorem dX7_isAtom_3 : decode cX7_isAtom 3 = .ok (.invokevirtual 178, 3) := by decide +kernel
theorem dX7_isAtom_6 : decode cX7_isAtom 6 = .ok (.ifCond .eq 16, 3) := by decide +kernel
theorem dX7_isAtom_9 : decode cX7_isAtom 9 = .ok (.aload_n 0, 1) := by decide +kernel
theorem dX7_isAtom_10 : decode cX7_isAtom 10 = .ok (.iload_n 1, 1) := by decide +kernel
theorem dX7_isAtom_11 : decode cX7_isAtom 11 = .ok (.invokevirtual 181, 3) := by decide +kernel
theorem dX7_isAtom_14 : decode cX7_isAtom 14 = .ok (.iload_n 2, 1) := by decide +kernel
theorem dX7_isAtom_15 : decode cX7_isAtom 15 = .ok (.if_icmp .ne 7, 3) := by decide +kernel
theorem dX7_isAtom_18 : decode cX7_isAtom 18 = .ok (.iconst 1, 1) := by decide +kernel
theorem dX7_isAtom_19 : decode cX7_isAtom 19 = .ok (.goto 4, 3) := by decide +kernel
theorem dX7_isAtom_22 : decode cX7_isAtom 22 = .ok (.iconst 0, 1) := by decide +kernel
theorem dX7_isAtom_23 : decode cX7_isAtom 23 = .ok (.ireturn, 1) := by decide +kernel
theorem dX7_exit_0 : decode cX7_exit 0 = .ok (.aload_n 0, 1) := by decide +kernel
theorem dX7_exit_1 : decode cX7_exit 1 = .ok (.getfield 29, 3) := by decide +kernel
theorem dX7_exit_4 : decode cX7_exit 4 = .ok (.iload_n 1, 1) := by decide +kernel
theorem dX7_exit_5 : decode cX7_exit 5 = .ok (.iaload, 1) := by decide +kernel
theorem dX7_exit_6 : decode cX7_exit 6 = .ok (.iconst 2, 1) := by decide +kernel
theorem dX7_exit_7 : decode cX7_exit 7 = .ok (.if_icmp .ne 4, 3) := by decide +kernel
theorem dX7_exit_10 : decode cX7_exit 10 = .ok (.return_, 1) := by decide +kernel
theorem dX7_exit_11 : decode cX7_exit 11 = .ok (.iload 4, 2) := by decide +kernel
theorem dX7_exit_13 : decode cX7_exit 13 = .ok (.ifCond .eq 30, 3) := by decide +kernel
theorem dX7_exit_16 : decode cX7_exit 16 = .ok (.aload_n 0, 1) := by decide +kernel
theorem dX7_exit_17 : decode cX7_exit 17 = .ok (.iload_n 3, 1) := by decide +kernel
theorem dX7_exit_18 : decode cX7_exit 18 = .ok (.iconst 1, 1) := by decide +kernel
theorem dX7_exit_19 : decode cX7_exit 19 = .ok (.invokevirtual 184, 3) := by decide +kernel
theorem dX7_exit_22 : decode cX7_exit 22 = .ok (.ifCond .eq 21, 3) := by decide +kernel
theorem dX7_exit_25 : decode cX7_exit 25 = .ok (.aload_n 0, 1) := by decide +kernel
theorem dX7_exit_26 : decode cX7_exit 26 = .ok (.sipush 2940, 3) := by decide +kernel
theorem dX7_exit_29 : decode cX7_exit 29 = .ok (.iconst 1, 1) := by decide +kernel
theorem dX7_exit_30 : decode cX7_exit 30 = .ok (.iconst 2, 1) := by decide +kernel
theorem dX7_exit_31 : decode cX7_exit 31 = .ok (.invokevirtual 124, 3) := by decide +kernel
theorem dX7_exit_34 : decode cX7_exit 34 = .ok (.aload_n 0, 1) := by decide +kernel
theorem dX7_exit_35 : decode cX7_exit 35 = .ok (.iload_n 1, 1) := by decide +kernel
theorem dX7_exit_36 : decode cX7_exit 36 = .ok (.sipush 2940, 3) := by decide +kernel
theorem dX7_exit_39 : decode cX7_exit 39 = .ok (.invokevirtual 187, 3) := by decide +kernel
theorem dX7_exit_42 : decode cX7_exit 42 = .ok (.return_, 1) := by decide +kernel
theorem dX7_exit_43 : decode cX7_exit 43 = .ok (.aload_n 0, 1) := by decide +kernel
theorem dX7_exit_44 : decode cX7_exit 44 = .ok (.getfield 41, 3) := by decide +kernel
theorem dX7_exit_47 : decode cX7_exit 47 = .ok (.iload_n 1, 1) := by decide +kernel
theorem dX7_exit_48 : decode cX7_exit 48 = .ok (.baload, 1) := by decide +kernel
theorem dX7_exit_49 : decode cX7_exit 49 = .ok (.ifCond .eq 26, 3) := by decide +kernel
theorem dX7_exit_52 : decode cX7_exit 52 = .ok (.aload_n 0, 1) := by decide +kernel
theorem dX7_exit_53 : decode cX7_exit 53 = .ok (.sipush 2943, 3) := by decide +kernel
theorem dX7_exit_56 : decode cX7_exit 56 = .ok (.iconst 2, 1) := by decide +kernel
theorem dX7_exit_57 : decode cX7_exit 57 = .ok (.iload_n 2, 1) := by decide +kernel
theorem dX7_exit_58 : decode cX7_exit 58 = .ok (.iconst 1, 1) := by decide +kernel
theorem dX7_exit_59 : decode cX7_exit 59 = .ok (.iadd, 1) := by decide +kernel
theorem dX7_exit_60 : decode cX7_exit 60 = .ok (.invokevirtual 124, 3) := by decide +kernel
theorem dX7_exit_63 : decode cX7_exit 63 = .ok (.aload_n 0, 1) := by decide +kernel
theorem dX7_exit_64 : decode cX7_exit 64 = .ok (.iload_n 1, 1) := by decide +kernel
theorem dX7_exit_65 : decode cX7_exit 65 = .ok (.bipush 6, 2) := by decide +kernel
theorem dX7_exit_67 : decode cX7_exit 67 = .ok (.sipush 2943, 3) := by decide +kernel
theorem dX7_exit_70 : decode cX7_exit 70 = .ok (.iload_n 3, 1) := by decide +kernel
theorem dX7_exit_71 : decode cX7_exit 71 = .ok (.invokevirtual 190, 3) := by decide +kernel
theorem dX7_exit_74 : decode cX7_exit 74 = .ok (.return_, 1) := by decide +kernel
theorem dX7_exit_75 : decode cX7_exit 75 = .ok (.aload_n 0, 1) := by decide +kernel
theorem dX7_exit_76 : decode cX7_exit 76 = .ok (.iload_n 3, 1) := by decide +kernel
theorem dX7_exit_77 : decode cX7_exit 77 = .ok (.iconst 0, 1) := by decide +kernel
theorem dX7_exit_78 : decode cX7_exit 78 = .ok (.invokevirtual 184, 3) := by decide +kernel
theorem dX7_exit_81 : decode cX7_exit 81 = .ok (.ifCond .eq 9, 3) := by decide +kernel
theorem dX7_exit_84 : decode cX7_exit 84 = .ok (.iload_n 2, 1) := by decide +kernel
theorem dX7_exit_85 : decode cX7_exit 85 = .ok (.iload_n 1, 1) := by decide +kernel
theorem dX7_exit_86 : decode cX7_exit 86 = .ok (.if_icmp .eq 4, 3) := by decide +kernel
theorem dX7_exit_89 : decode cX7_exit 89 = .ok (.return_, 1) := by decide +kernel
theorem dX7_exit_90 : decode cX7_exit 90 = .ok (.aload_n 0, 1) := by decide +kernel
theorem dX7_exit_91 : decode cX7_exit 91 = .ok (.iload_n 1, 1) := by decide +kernel
theorem dX7_exit_92 : decode cX7_exit 92 = .ok (.iload_n 3, 1) := by decide +kernel
theorem dX7_exit_93 : decode cX7_exit 93 = .ok (.invokevirtual 187, 3) := by decide +kernel
theorem dX7_exit_96 : decode cX7_exit 96 = .ok (.return_, 1) := by decide +kernel
theorem dX7_bad_0 : decode cX7_bad 0 = .ok (.iload_n 2, 1) := by decide +kernel
theorem dX7_bad_1 : decode cX7_bad 1 = .ok (.ifCond .eq 10, 3) := by decide +kernel
theorem dX7_bad_4 : decode cX7_bad 4 = .ok (.aload_n 0, 1) := by decide +kernel
theorem dX7_bad_5 : decode cX7_bad 5 = .ok (.iload_n 1, 1) := by decide +kernel
theorem dX7_bad_6 : decode cX7_bad 6 = .ok (.iconst 1, 1) := by decide +kernel
theorem dX7_bad_7 : decode cX7_bad 7 = .ok (.iconst 4, 1) := by decide +kernel
theorem dX7_bad_8 : decode cX7_bad 8 = .ok (.invokevirtual 193, 3) := by decide +kernel
theorem dX7_bad_11 : decode cX7_bad 11 = .ok (.iload_n 2, 1) := by decide +kernel
theorem dX7_bad_12 : decode cX7_bad 12 = .ok (.ireturn, 1) := by decide +kernel
theorem dX7_failsWith_0 : decode cX7_failsWith 0 = .ok (.aload_n 0, 1) := by decide +kernel
theorem dX7_failsWith_1 : decode cX7_failsWith 1 = .ok (.sipush 2940, 3) := by decide +kernel
theorem dX7_failsWith_4 : decode cX7_failsWith 4 = .ok (.iload_n 2, 1) := by decide +kernel
theorem dX7_failsWith_5 : decode cX7_failsWith 5 = .ok (.iload_n 3, 1) := by decide +kernel
theorem dX7_failsWith_6 : decode cX7_failsWith 6 = .ok (.invokevirtual 124, 3) := by decide +kernel
theorem dX7_failsWith_9 : decode cX7_failsWith 9 = .ok (.aload_n 0, 1) := by decide +kernel
theorem dX7_failsWith_10 : decode cX7_failsWith 10 = .ok (.iload_n 1, 1) := by decide +kernel
theorem dX7_failsWith_11 : decode cX7_failsWith 11 = .ok (.sipush 2940, 3) := by decide +kernel
theorem dX7_failsWith_14 : decode cX7_failsWith 14 = .ok (.invokevirtual 196, 3) := by decide +kernel
theorem dX7_failsWith_17 : decode cX7_failsWith 17 = .ok (.return_, 1) := by decide +kernel
theorem dX7_failsOf_0 : decode cX7_failsOf 0 = .ok (.aload_n 0, 1) := by decide +kernel
theorem dX7_failsOf_1 : decode cX7_failsOf 1 = .ok (.getfield 63, 3) := by decide +kernel
theorem dX7_failsOf_4 : decode cX7_failsOf 4 = .ok (.iload_n 1, 1) := by decide +kernel
theorem dX7_failsOf_5 : decode cX7_failsOf 5 = .ok (.iaload, 1) := by decide +kernel
theorem dX7_failsOf_6 : decode cX7_failsOf 6 = .ok (.ifCond .ne 10, 3) := by decide +kernel
theorem dX7_failsOf_9 : decode cX7_failsOf 9 = .ok (.aload_n 0, 1) := by decide +kernel
theorem dX7_failsOf_10 : decode cX7_failsOf 10 = .ok (.iload_n 1, 1) := by decide +kernel
theorem dX7_failsOf_11 : decode cX7_failsOf 11 = .ok (.iload_n 2, 1) := by decide +kernel
theorem dX7_failsOf_12 : decode cX7_failsOf 12 = .ok (.invokevirtual 187, 3) := by decide +kernel
theorem dX7_failsOf_15 : decode cX7_failsOf 15 = .ok (.return_, 1) := by decide +kernel
theorem dX7_failsOf_16 : decode cX7_failsOf 16 = .ok (.aload_n 0, 1) := by decide +kernel
theorem dX7_failsOf_17 : decode cX7_failsOf 17 = .ok (.getfield 63, 3) := by decide +kernel
theorem dX7_failsOf_20 : decode cX7_failsOf 20 = .ok (.iload_n 1, 1) := by decide +kernel
theorem dX7_failsOf_21 : decode cX7_failsOf 21 = .ok (.dup2, 1) := by decide +kernel
theorem dX7_failsOf_22 : decode cX7_failsOf 22 = .ok (.iaload, 1) := by decide +kernel
theorem dX7_failsOf_23 : decode cX7_failsOf 23 = .ok (.iconst 1, 1) := by decide +kernel
theorem dX7_failsOf_24 : decode cX7_failsOf 24 = .ok (.isub, 1) := by decide +kernel
theorem dX7_failsOf_25 : decode cX7_failsOf 25 = .ok (.iastore, 1) := by decide +kernel
theorem dX7_failsOf_26 : decode cX7_failsOf 26 = .ok (.bipush 8, 2) := by decide +kernel
theorem dX7_failsOf_28 : decode cX7_failsOf 28 = .ok (.iload_n 1, 1) := by decide +kernel
theorem dX7_failsOf_29 : decode cX7_failsOf 29 = .ok (.imul, 1) := by decide +kernel
theorem dX7_failsOf_30 : decode cX7_failsOf 30 = .ok (.aload_n 0, 1) := by decide +kernel
theorem dX7_failsOf_31 : decode cX7_failsOf 31 = .ok (.getfield 63, 3) := by decide +kernel
theorem dX7_failsOf_34 : decode cX7_failsOf 34 = .ok (.iload_n 1, 1) := by decide +kernel
theorem dX7_failsOf_35 : decode cX7_failsOf 35 = .ok (.iaload, 1) := by decide +kernel
theorem dX7_failsOf_36 : decode cX7_failsOf 36 = .ok (.iadd, 1) := by decide +kernel
theorem dX7_failsOf_37 : decode cX7_failsOf 37 = .ok (.istore_n 3, 1) := by decide +kernel
theorem dX7_failsOf_38 : decode cX7_failsOf 38 = .ok (.aload_n 0, 1) := by decide +kernel
theorem dX7_failsOf_39 : decode cX7_failsOf 39 = .ok (.getfield 32, 3) := by decide +kernel
theorem dX7_failsOf_42 : decode cX7_failsOf 42 = .ok (.iload_n 1, 1) := by decide +kernel
theorem dX7_failsOf_43 : decode cX7_failsOf 43 = .ok (.aload_n 0, 1) := by decide +kernel
theorem dX7_failsOf_44 : decode cX7_failsOf 44 = .ok (.getfield 57, 3) := by decide +kernel
theorem dX7_failsOf_47 : decode cX7_failsOf 47 = .ok (.iload_n 3, 1) := by decide +kernel
theorem dX7_failsOf_48 : decode cX7_failsOf 48 = .ok (.iaload, 1) := by decide +kernel
theorem dX7_failsOf_49 : decode cX7_failsOf 49 = .ok (.iastore, 1) := by decide +kernel
theorem dX7_failsOf_50 : decode cX7_failsOf 50 = .ok (.aload_n 0, 1) := by decide +kernel
theorem dX7_failsOf_51 : decode cX7_failsOf 51 = .ok (.getfield 54, 3) := by decide +kernel
theorem dX7_failsOf_54 : decode cX7_failsOf 54 = .ok (.iload_n 1, 1) := by decide +kernel
theorem dX7_failsOf_55 : decode cX7_failsOf 55 = .ok (.iaload, 1) := by decide +kernel
theorem dX7_failsOf_56 : decode cX7_failsOf 56 = .ok (.aload_n 0, 1) := by decide +kernel
theorem dX7_failsOf_57 : decode cX7_failsOf 57 = .ok (.getfield 60, 3) := by decide +kernel
theorem dX7_failsOf_60 : decode cX7_failsOf 60 = .ok (.iload_n 3, 1) := by decide +kernel
theorem dX7_failsOf_61 : decode cX7_failsOf 61 = .ok (.iaload, 1) := by decide +kernel
theorem dX7_failsOf_62 : decode cX7_failsOf 62 = .ok (.if_icmp .le 15, 3) := by decide +kernel
theorem dX7_failsOf_65 : decode cX7_failsOf 65 = .ok (.aload_n 0, 1) := by decide +kernel
theorem dX7_failsOf_66 : decode cX7_failsOf 66 = .ok (.getfield 54, 3) := by decide +kernel
theorem dX7_failsOf_69 : decode cX7_failsOf 69 = .ok (.iload_n 1, 1) := by decide +kernel
theorem dX7_failsOf_70 : decode cX7_failsOf 70 = .ok (.aload_n 0, 1) := by decide +kernel
theorem dX7_failsOf_71 : decode cX7_failsOf 71 = .ok (.getfield 60, 3) := by decide +kernel
theorem dX7_failsOf_74 : decode cX7_failsOf 74 = .ok (.iload_n 3, 1) := by decide +kernel
theorem dX7_failsOf_75 : decode cX7_failsOf 75 = .ok (.iaload, 1) := by decide +kernel
theorem dX7_failsOf_76 : decode cX7_failsOf 76 = .ok (.iastore, 1) := by decide +kernel
theorem dX7_failsOf_77 : decode cX7_failsOf 77 = .ok (.aload_n 0, 1) := by decide +kernel
theorem dX7_failsOf_78 : decode cX7_failsOf 78 = .ok (.bipush 8, 2) := by decide +kernel
theorem dX7_failsOf_80 : decode cX7_failsOf 80 = .ok (.iload_n 1, 1) := by decide +kernel
theorem dX7_failsOf_81 : decode cX7_failsOf 81 = .ok (.imul, 1) := by decide +kernel
theorem dX7_failsOf_82 : decode cX7_failsOf 82 = .ok (.iload_n 2, 1) := by decide +kernel
theorem dX7_failsOf_83 : decode cX7_failsOf 83 = .ok (.invokevirtual 136, 3) := by decide +kernel
theorem dX7_failsOf_86 : decode cX7_failsOf 86 = .ok (.return_, 1) := by decide +kernel
theorem dX7_registerOf_0 : decode cX7_registerOf 0 = .ok (.bipush 8, 2) := by decide +kernel
theorem dX7_registerOf_2 : decode cX7_registerOf 2 = .ok (.iload_n 0, 1) := by decide +kernel
theorem dX7_registerOf_3 : decode cX7_registerOf 3 = .ok (.imul, 1) := by decide +kernel
theorem dX7_registerOf_4 : decode cX7_registerOf 4 = .ok (.iload_n 1, 1) := by decide +kernel
theorem dX7_registerOf_5 : decode cX7_registerOf 5 = .ok (.bipush 8, 2) := by decide +kernel
theorem dX7_registerOf_7 : decode cX7_registerOf 7 = .ok (.invokestatic 199, 3) := by decide +kernel
theorem dX7_registerOf_10 : decode cX7_registerOf 10 = .ok (.iadd, 1) := by decide +kernel
theorem dX7_registerOf_11 : decode cX7_registerOf 11 = .ok (.ireturn, 1) := by decide +kernel
theorem dX7_waits_0 : decode cX7_waits 0 = .ok (.aload_n 0, 1) := by decide +kernel
theorem dX7_waits_1 : decode cX7_waits 1 = .ok (.getfield 29, 3) := by decide +kernel
theorem dX7_waits_4 : decode cX7_waits 4 = .ok (.iload_n 1, 1) := by decide +kernel
theorem dX7_waits_5 : decode cX7_waits 5 = .ok (.iconst 1, 1) := by decide +kernel
theorem dX7_waits_6 : decode cX7_waits 6 = .ok (.iastore, 1) := by decide +kernel
theorem dX7_waits_7 : decode cX7_waits 7 = .ok (.aload_n 0, 1) := by decide +kernel
theorem dX7_waits_8 : decode cX7_waits 8 = .ok (.getfield 69, 3) := by decide +kernel
theorem dX7_waits_11 : decode cX7_waits 11 = .ok (.iload_n 1, 1) := by decide +kernel
theorem dX7_waits_12 : decode cX7_waits 12 = .ok (.iload_n 2, 1) := by decide +kernel
theorem dX7_waits_13 : decode cX7_waits 13 = .ok (.iastore, 1) := by decide +kernel
theorem dX7_waits_14 : decode cX7_waits 14 = .ok (.return_, 1) := by decide +kernel
theorem dX7_endsBy_0 : decode cX7_endsBy 0 = .ok (.aload_n 0, 1) := by decide +kernel
theorem dX7_endsBy_1 : decode cX7_endsBy 1 = .ok (.sipush 2940, 3) := by decide +kernel
theorem dX7_endsBy_4 : decode cX7_endsBy 4 = .ok (.iconst 1, 1) := by decide +kernel
theorem dX7_endsBy_5 : decode cX7_endsBy 5 = .ok (.iload_n 2, 1) := by decide +kernel
theorem dX7_endsBy_6 : decode cX7_endsBy 6 = .ok (.invokevirtual 124, 3) := by decide +kernel
theorem dX7_endsBy_9 : decode cX7_endsBy 9 = .ok (.aload_n 0, 1) := by decide +kernel
theorem dX7_endsBy_10 : decode cX7_endsBy 10 = .ok (.iload_n 1, 1) := by decide +kernel
theorem dX7_endsBy_11 : decode cX7_endsBy 11 = .ok (.sipush 2940, 3) := by decide +kernel
theorem dX7_endsBy_14 : decode cX7_endsBy 14 = .ok (.invokevirtual 187, 3) := by decide +kernel
theorem dX7_endsBy_17 : decode cX7_endsBy 17 = .ok (.return_, 1) := by decide +kernel
theorem dX7_withName_0 : decode cX7_withName 0 = .ok (.iconst 0, 1) := by decide +kernel
theorem dX7_withName_1 : decode cX7_withName 1 = .ok (.istore_n 2, 1) := by decide +kernel
theorem dX7_withName_2 : decode cX7_withName 2 = .ok (.iload_n 2, 1) := by decide +kernel
theorem dX7_withName_3 : decode cX7_withName 3 = .ok (.aload_n 0, 1) := by decide +kernel
theorem dX7_withName_4 : decode cX7_withName 4 = .ok (.getfield 121, 3) := by decide +kernel
theorem dX7_withName_7 : decode cX7_withName 7 = .ok (.if_icmp .ge 31, 3) := by decide +kernel
theorem dX7_withName_10 : decode cX7_withName 10 = .ok (.aload_n 0, 1) := by decide +kernel
theorem dX7_withName_11 : decode cX7_withName 11 = .ok (.getfield 29, 3) := by decide +kernel
theorem dX7_withName_14 : decode cX7_withName 14 = .ok (.iload_n 2, 1) := by decide +kernel
theorem dX7_withName_15 : decode cX7_withName 15 = .ok (.iaload, 1) := by decide +kernel
theorem dX7_withName_16 : decode cX7_withName 16 = .ok (.iconst 2, 1) := by decide +kernel
theorem dX7_withName_17 : decode cX7_withName 17 = .ok (.if_icmp .eq 15, 3) := by decide +kernel
theorem dX7_withName_20 : decode cX7_withName 20 = .ok (.aload_n 0, 1) := by decide +kernel
theorem dX7_withName_21 : decode cX7_withName 21 = .ok (.getfield 38, 3) := by decide +kernel
theorem dX7_withName_24 : decode cX7_withName 24 = .ok (.iload_n 2, 1) := by decide +kernel
theorem dX7_withName_25 : decode cX7_withName 25 = .ok (.iaload, 1) := by decide +kernel
theorem dX7_withName_26 : decode cX7_withName 26 = .ok (.iload_n 1, 1) := by decide +kernel
theorem dX7_withName_27 : decode cX7_withName 27 = .ok (.if_icmp .ne 5, 3) := by decide +kernel
theorem dX7_withName_30 : decode cX7_withName 30 = .ok (.iload_n 2, 1) := by decide +kernel
theorem dX7_withName_31 : decode cX7_withName 31 = .ok (.ireturn, 1) := by decide +kernel
theorem dX7_withName_32 : decode cX7_withName 32 = .ok (.iinc 2 1, 3) := by decide +kernel
theorem dX7_withName_35 : decode cX7_withName 35 = .ok (.goto (-33), 3) := by decide +kernel
theorem dX7_withName_38 : decode cX7_withName 38 = .ok (.iconst (-1), 1) := by decide +kernel
theorem dX7_withName_39 : decode cX7_withName 39 = .ok (.ireturn, 1) := by decide +kernel
theorem dX7_reckons_0 : decode cX7_reckons 0 = .ok (.aload_n 0, 1) := by decide +kernel
theorem dX7_reckons_1 : decode cX7_reckons 1 = .ok (.iload_n 1, 1) := by decide +kernel
theorem dX7_reckons_2 : decode cX7_reckons 2 = .ok (.aload_n 0, 1) := by decide +kernel
theorem dX7_reckons_3 : decode cX7_reckons 3 = .ok (.iload 4, 2) := by decide +kernel
theorem dX7_reckons_5 : decode cX7_reckons 5 = .ok (.iconst 0, 1) := by decide +kernel
theorem dX7_reckons_6 : decode cX7_reckons 6 = .ok (.invokevirtual 178, 3) := by decide +kernel
theorem dX7_reckons_9 : decode cX7_reckons 9 = .ok (.ifCond .eq 13, 3) := by decide +kernel
theorem dX7_reckons_12 : decode cX7_reckons 12 = .ok (.aload_n 0, 1) := by decide +kernel
theorem dX7_reckons_13 : decode cX7_reckons 13 = .ok (.iload 5, 2) := by decide +kernel
theorem dX7_reckons_15 : decode cX7_reckons 15 = .ok (.iconst 0, 1) := by decide +kernel
theorem dX7_reckons_16 : decode cX7_reckons 16 = .ok (.invokevirtual 178, 3) := by decide +kernel
theorem dX7_reckons_19 : decode cX7_reckons 19 = .ok (.ifCond .ne 7, 3) := by decide +kernel
theorem dX7_reckons_22 : decode cX7_reckons 22 = .ok (.iconst 1, 1) := by decide +kernel
theorem dX7_reckons_23 : decode cX7_reckons 23 = .ok (.goto 4, 3) := by decide +kernel
theorem dX7_reckons_26 : decode cX7_reckons 26 = .ok (.iconst 0, 1) := by decide +kernel
theorem dX7_reckons_27 : decode cX7_reckons 27 = .ok (.invokevirtual 202, 3) := by decide +kernel
theorem dX7_reckons_30 : decode cX7_reckons 30 = .ok (.ifCond .eq 4, 3) := by decide +kernel
theorem dX7_reckons_33 : decode cX7_reckons 33 = .ok (.return_, 1) := by decide +kernel
theorem dX7_reckons_34 : decode cX7_reckons 34 = .ok (.aload_n 0, 1) := by decide +kernel
theorem dX7_reckons_35 : decode cX7_reckons 35 = .ok (.iload 4, 2) := by decide +kernel
theorem dX7_reckons_37 : decode cX7_reckons 37 = .ok (.invokevirtual 181, 3) := by decide +kernel
theorem dX7_reckons_40 : decode cX7_reckons 40 = .ok (.istore 6, 2) := by decide +kernel
theorem dX7_reckons_42 : decode cX7_reckons 42 = .ok (.aload_n 0, 1) := by decide +kernel
theorem dX7_reckons_43 : decode cX7_reckons 43 = .ok (.iload 5, 2) := by decide +kernel
theorem dX7_reckons_45 : decode cX7_reckons 45 = .ok (.invokevirtual 181, 3) := by decide +kernel
theorem dX7_reckons_48 : decode cX7_reckons 48 = .ok (.istore 7, 2) := by decide +kernel
theorem dX7_reckons_50 : decode cX7_reckons 50 = .ok (.aload_n 0, 1) := by decide +kernel
theorem dX7_reckons_51 : decode cX7_reckons 51 = .ok (.iload_n 3, 1) := by decide +kernel
theorem dX7_reckons_52 : decode cX7_reckons 52 = .ok (.iconst 0, 1) := by decide +kernel
theorem dX7_reckons_53 : decode cX7_reckons 53 = .ok (.iload_n 2, 1) := by decide +kernel
theorem dX7_reckons_54 : decode cX7_reckons 54 = .ok (.iconst 4, 1) := by decide +kernel
theorem dX7_reckons_55 : decode cX7_reckons 55 = .ok (.if_icmp .ne 11, 3) := by decide +kernel
theorem dX7_reckons_58 : decode cX7_reckons 58 = .ok (.iload 6, 2) := by decide +kernel
theorem dX7_reckons_60 : decode cX7_reckons 60 = .ok (.iload 7, 2) := by decide +kernel
theorem dX7_reckons_62 : decode cX7_reckons 62 = .ok (.iadd, 1) := by decide +kernel
theorem dX7_reckons_63 : decode cX7_reckons 63 = .ok (.goto 21, 3) := by decide +kernel
theorem dX7_reckons_66 : decode cX7_reckons 66 = .ok (.iload_n 2, 1) := by decide +kernel
theorem dX7_reckons_67 : decode cX7_reckons 67 = .ok (.iconst 5, 1) := by decide +kernel
theorem dX7_reckons_68 : decode cX7_reckons 68 = .ok (.if_icmp .ne 11, 3) := by decide +kernel
theorem dX7_reckons_71 : decode cX7_reckons 71 = .ok (.iload 6, 2) := by decide +kernel
theorem dX7_reckons_73 : decode cX7_reckons 73 = .ok (.iload 7, 2) := by decide +kernel
theorem dX7_reckons_75 : decode cX7_reckons 75 = .ok (.isub, 1) := by decide +kernel
theorem dX7_reckons_76 : decode cX7_reckons 76 = .ok (.goto 8, 3) := by decide +kernel
theorem dX7_reckons_79 : decode cX7_reckons 79 = .ok (.iload 6, 2) := by decide +kernel
theorem dX7_reckons_81 : decode cX7_reckons 81 = .ok (.iload 7, 2) := by decide +kernel
theorem dX7_reckons_83 : decode cX7_reckons 83 = .ok (.imul, 1) := by decide +kernel
theorem dX7_reckons_84 : decode cX7_reckons 84 = .ok (.invokevirtual 124, 3) := by decide +kernel
theorem dX7_reckons_87 : decode cX7_reckons 87 = .ok (.return_, 1) := by decide +kernel
theorem dX7_step_0 : decode cX7_step 0 = .ok (.aload_n 0, 1) := by decide +kernel
theorem dX7_step_1 : decode cX7_step 1 = .ok (.getfield 32, 3) := by decide +kernel
theorem dX7_step_4 : decode cX7_step 4 = .ok (.iload_n 1, 1) := by decide +kernel
theorem dX7_step_5 : decode cX7_step 5 = .ok (.iaload, 1) := by decide +kernel
theorem dX7_step_6 : decode cX7_step 6 = .ok (.istore_n 2, 1) := by decide +kernel
theorem dX7_step_7 : decode cX7_step 7 = .ok (.aload_n 0, 1) := by decide +kernel
theorem dX7_step_8 : decode cX7_step 8 = .ok (.getfield 17, 3) := by decide +kernel
theorem dX7_step_11 : decode cX7_step 11 = .ok (.iload_n 2, 1) := by decide +kernel
theorem dX7_step_12 : decode cX7_step 12 = .ok (.iaload, 1) := by decide +kernel
theorem dX7_step_13 : decode cX7_step 13 = .ok (.istore_n 3, 1) := by decide +kernel
theorem dX7_step_14 : decode cX7_step 14 = .ok (.aload_n 0, 1) := by decide +kernel
theorem dX7_step_15 : decode cX7_step 15 = .ok (.getfield 32, 3) := by decide +kernel
theorem dX7_step_18 : decode cX7_step 18 = .ok (.iload_n 1, 1) := by decide +kernel
theorem dX7_step_19 : decode cX7_step 19 = .ok (.iload_n 2, 1) := by decide +kernel
theorem dX7_step_20 : decode cX7_step 20 = .ok (.iconst 1, 1) := by decide +kernel
theorem dX7_step_21 : decode cX7_step 21 = .ok (.iadd, 1) := by decide +kernel
theorem dX7_step_22 : decode cX7_step 22 = .ok (.sipush 300, 3) := by decide +kernel
theorem dX7_step_25 : decode cX7_step 25 = .ok (.irem, 1) := by decide +kernel
theorem dX7_step_26 : decode cX7_step 26 = .ok (.iastore, 1) := by decide +kernel
theorem dX7_step_27 : decode cX7_step 27 = .ok (.aload_n 0, 1) := by decide +kernel
theorem dX7_step_28 : decode cX7_step 28 = .ok (.getfield 66, 3) := by decide +kernel
theorem dX7_step_31 : decode cX7_step 31 = .ok (.iload_n 1, 1) := by decide +kernel
theorem dX7_step_32 : decode cX7_step 32 = .ok (.dup2, 1) := by decide +kernel
theorem dX7_step_33 : decode cX7_step 33 = .ok (.iaload, 1) := by decide +kernel
theorem dX7_step_34 : decode cX7_step 34 = .ok (.iconst 1, 1) := by decide +kernel
theorem dX7_step_35 : decode cX7_step 35 = .ok (.iadd, 1) := by decide +kernel
theorem dX7_step_36 : decode cX7_step 36 = .ok (.iastore, 1) := by decide +kernel
theorem dX7_step_37 : decode cX7_step 37 = .ok (.aload_n 0, 1) := by decide +kernel
theorem dX7_step_38 : decode cX7_step 38 = .ok (.dup, 1) := by decide +kernel
theorem dX7_step_39 : decode cX7_step 39 = .ok (.getfield 206, 3) := by decide +kernel
theorem dX7_step_42 : decode cX7_step 42 = .ok (.iconst 1, 1) := by decide +kernel
theorem dX7_step_43 : decode cX7_step 43 = .ok (.iadd, 1) := by decide +kernel
theorem dX7_step_44 : decode cX7_step 44 = .ok (.putfield 206, 3) := by decide +kernel
theorem dX7_step_47 : decode cX7_step 47 = .ok (.aload_n 0, 1) := by decide +kernel
theorem dX7_step_48 : decode cX7_step 48 = .ok (.getfield 20, 3) := by decide +kernel
theorem dX7_step_51 : decode cX7_step 51 = .ok (.iload_n 2, 1) := by decide +kernel
theorem dX7_step_52 : decode cX7_step 52 = .ok (.iaload, 1) := by decide +kernel
theorem dX7_step_53 : decode cX7_step 53 = .ok (.istore 4, 2) := by decide +kernel
theorem dX7_step_55 : decode cX7_step 55 = .ok (.iload_n 1, 1) := by decide +kernel
theorem dX7_step_56 : decode cX7_step 56 = .ok (.iload 4, 2) := by decide +kernel
theorem dX7_step_58 : decode cX7_step 58 = .ok (.invokestatic 209, 3) := by decide +kernel
theorem dX7_step_61 : decode cX7_step 61 = .ok (.istore 5, 2) := by decide +kernel
theorem dX7_step_63 : decode cX7_step 63 = .ok (.iload_n 1, 1) := by decide +kernel
theorem dX7_step_64 : decode cX7_step 64 = .ok (.aload_n 0, 1) := by decide +kernel
theorem dX7_step_65 : decode cX7_step 65 = .ok (.getfield 23, 3) := by decide +kernel
theorem dX7_step_68 : decode cX7_step 68 = .ok (.iload_n 2, 1) := by decide +kernel
theorem dX7_step_69 : decode cX7_step 69 = .ok (.iaload, 1) := by decide +kernel
theorem dX7_step_70 : decode cX7_step 70 = .ok (.invokestatic 209, 3) := by decide +kernel
theorem dX7_step_73 : decode cX7_step 73 = .ok (.istore 6, 2) := by decide +kernel
theorem dX7_step_75 : decode cX7_step 75 = .ok (.iload_n 1, 1) := by decide +kernel
theorem dX7_step_76 : decode cX7_step 76 = .ok (.aload_n 0, 1) := by decide +kernel
theorem dX7_step_77 : decode cX7_step 77 = .ok (.getfield 26, 3) := by decide +kernel
theorem dX7_step_80 : decode cX7_step 80 = .ok (.iload_n 2, 1) := by decide +kernel
theorem dX7_step_81 : decode cX7_step 81 = .ok (.iaload, 1) := by decide +kernel
theorem dX7_step_82 : decode cX7_step 82 = .ok (.invokestatic 209, 3) := by decide +kernel
theorem dX7_step_85 : decode cX7_step 85 = .ok (.istore 7, 2) := by decide +kernel
theorem dX7_step_87 : decode cX7_step 87 = .ok (.iload 4, 2) := by decide +kernel
theorem dX7_step_89 : decode cX7_step 89 = .ok (.sipush 300, 3) := by decide +kernel
theorem dX7_step_92 : decode cX7_step 92 = .ok (.invokestatic 199, 3) := by decide +kernel
theorem dX7_step_95 : decode cX7_step 95 = .ok (.istore 8, 2) := by decide +kernel
theorem dX7_step_97 : decode cX7_step 97 = .ok (.iload_n 3, 1) := by decide +kernel
theorem dX7_step_98 : decode cX7_step 98 = .ok (.bipush 15, 2) := by decide +kernel
theorem dX7_step_100 : decode cX7_step 100 = .ok (.if_icmp .ge 28, 3) := by decide +kernel
theorem dX7_step_103 : decode cX7_step 103 = .ok (.aload_n 0, 1) := by decide +kernel
theorem dX7_step_104 : decode cX7_step 104 = .ok (.iload_n 1, 1) := by decide +kernel
theorem dX7_step_105 : decode cX7_step 105 = .ok (.iload_n 3, 1) := by decide +kernel
theorem dX7_step_106 : decode cX7_step 106 = .ok (.iload 4, 2) := by decide +kernel
theorem dX7_step_108 : decode cX7_step 108 = .ok (.aload_n 0, 1) := by decide +kernel
theorem dX7_step_109 : decode cX7_step 109 = .ok (.getfield 23, 3) := by decide +kernel
theorem dX7_step_112 : decode cX7_step 112 = .ok (.iload_n 2, 1) := by decide +kernel
theorem dX7_step_113 : decode cX7_step 113 = .ok (.iaload, 1) := by decide +kernel
theorem dX7_step_114 : decode cX7_step 114 = .ok (.iload 5, 2) := by decide +kernel
theorem dX7_step_116 : decode cX7_step 116 = .ok (.iload 6, 2) := by decide +kernel
theorem dX7_step_118 : decode cX7_step 118 = .ok (.iload 7, 2) := by decide +kernel
theorem dX7_step_120 : decode cX7_step 120 = .ok (.iload 8, 2) := by decide +kernel
theorem dX7_step_122 : decode cX7_step 122 = .ok (.invokevirtual 212, 3) := by decide +kernel
theorem dX7_step_125 : decode cX7_step 125 = .ok (.goto 81, 3) := by decide +kernel
theorem dX7_step_128 : decode cX7_step 128 = .ok (.iload_n 3, 1) := by decide +kernel
theorem dX7_step_129 : decode cX7_step 129 = .ok (.bipush 23, 2) := by decide +kernel
theorem dX7_step_131 : decode cX7_step 131 = .ok (.if_icmp .ge 24, 3) := by decide +kernel
theorem dX7_step_134 : decode cX7_step 134 = .ok (.aload_n 0, 1) := by decide +kernel
theorem dX7_step_135 : decode cX7_step 135 = .ok (.iload_n 1, 1) := by decide +kernel
theorem dX7_step_136 : decode cX7_step 136 = .ok (.iload_n 3, 1) := by decide +kernel
theorem dX7_step_137 : decode cX7_step 137 = .ok (.aload_n 0, 1) := by decide +kernel
theorem dX7_step_138 : decode cX7_step 138 = .ok (.getfield 23, 3) := by decide +kernel
theorem dX7_step_141 : decode cX7_step 141 = .ok (.iload_n 2, 1) := by decide +kernel
theorem dX7_step_142 : decode cX7_step 142 = .ok (.iaload, 1) := by decide +kernel
theorem dX7_step_143 : decode cX7_step 143 = .ok (.iload 5, 2) := by decide +kernel
theorem dX7_step_145 : decode cX7_step 145 = .ok (.iload 7, 2) := by decide +kernel
theorem dX7_step_147 : decode cX7_step 147 = .ok (.iload 8, 2) := by decide +kernel
theorem dX7_step_149 : decode cX7_step 149 = .ok (.invokevirtual 216, 3) := by decide +kernel
theorem dX7_step_152 : decode cX7_step 152 = .ok (.goto 54, 3) := by decide +kernel
theorem dX7_step_155 : decode cX7_step 155 = .ok (.iload_n 3, 1) := by decide +kernel
theorem dX7_step_156 : decode cX7_step 156 = .ok (.bipush 29, 2) := by decide +kernel
theorem dX7_step_158 : decode cX7_step 158 = .ok (.if_icmp .ge 30, 3) := by decide +kernel
theorem dX7_step_161 : decode cX7_step 161 = .ok (.aload_n 0, 1) := by decide +kernel
theorem dX7_step_162 : decode cX7_step 162 = .ok (.iload_n 1, 1) := by decide +kernel
theorem dX7_step_163 : decode cX7_step 163 = .ok (.iload_n 3, 1) := by decide +kernel
theorem dX7_step_164 : decode cX7_step 164 = .ok (.iload 5, 2) := by decide +kernel
theorem dX7_step_166 : decode cX7_step 166 = .ok (.iload 6, 2) := by decide +kernel
theorem dX7_step_168 : decode cX7_step 168 = .ok (.aload_n 0, 1) := by decide +kernel
theorem dX7_step_169 : decode cX7_step 169 = .ok (.getfield 26, 3) := by decide +kernel
theorem dX7_step_172 : decode cX7_step 172 = .ok (.iload_n 2, 1) := by decide +kernel
theorem dX7_step_173 : decode cX7_step 173 = .ok (.iaload, 1) := by decide +kernel
theorem dX7_step_174 : decode cX7_step 174 = .ok (.sipush 300, 3) := by decide +kernel
theorem dX7_step_177 : decode cX7_step 177 = .ok (.invokestatic 199, 3) := by decide +kernel
theorem dX7_step_180 : decode cX7_step 180 = .ok (.iload 8, 2) := by decide +kernel
theorem dX7_step_182 : decode cX7_step 182 = .ok (.invokevirtual 220, 3) := by decide +kernel
theorem dX7_step_185 : decode cX7_step 185 = .ok (.goto 21, 3) := by decide +kernel
theorem dX7_step_188 : decode cX7_step 188 = .ok (.aload_n 0, 1) := by decide +kernel
theorem dX7_step_189 : decode cX7_step 189 = .ok (.iload_n 1, 1) := by decide +kernel
theorem dX7_step_190 : decode cX7_step 190 = .ok (.iload_n 3, 1) := by decide +kernel
theorem dX7_step_191 : decode cX7_step 191 = .ok (.iload 4, 2) := by decide +kernel
theorem dX7_step_193 : decode cX7_step 193 = .ok (.aload_n 0, 1) := by decide +kernel
theorem dX7_step_194 : decode cX7_step 194 = .ok (.getfield 23, 3) := by decide +kernel
theorem dX7_step_197 : decode cX7_step 197 = .ok (.iload_n 2, 1) := by decide +kernel
theorem dX7_step_198 : decode cX7_step 198 = .ok (.iaload, 1) := by decide +kernel
theorem dX7_step_199 : decode cX7_step 199 = .ok (.iload 5, 2) := by decide +kernel
theorem dX7_step_201 : decode cX7_step 201 = .ok (.iload 6, 2) := by decide +kernel
theorem dX7_step_203 : decode cX7_step 203 = .ok (.invokevirtual 223, 3) := by decide +kernel
theorem dX7_step_206 : decode cX7_step 206 = .ok (.aload_n 0, 1) := by decide +kernel
theorem dX7_step_207 : decode cX7_step 207 = .ok (.invokevirtual 226, 3) := by decide +kernel
theorem dX7_step_210 : decode cX7_step 210 = .ok (.return_, 1) := by decide +kernel
theorem dX7_simple_0 : decode cX7_simple 0 = .ok (.iload_n 2, 1) := by decide +kernel
theorem dX7_simple_1 : decode cX7_simple 1 = .ok (.tableswitch 305 0 11 #[63, 72, 84, 101, 112, 112, 112, 127, 178, 178, 264, 294], 63) := by decide +kernel
theorem dX7_simple_64 : decode cX7_simple 64 = .ok (.aload_n 0, 1) := by decide +kernel
theorem dX7_simple_65 : decode cX7_simple 65 = .ok (.iload_n 1, 1) := by decide +kernel
theorem dX7_simple_66 : decode cX7_simple 66 = .ok (.iconst 0, 1) := by decide +kernel
theorem dX7_simple_67 : decode cX7_simple 67 = .ok (.invokevirtual 229, 3) := by decide +kernel
theorem dX7_simple_70 : decode cX7_simple 70 = .ok (.goto 290, 3) := by decide +kernel
theorem dX7_simple_73 : decode cX7_simple 73 = .ok (.aload_n 0, 1) := by decide +kernel
theorem dX7_simple_74 : decode cX7_simple 74 = .ok (.iload 5, 2) := by decide +kernel
theorem dX7_simple_76 : decode cX7_simple 76 = .ok (.iconst 0, 1) := by decide +kernel
theorem dX7_simple_77 : decode cX7_simple 77 = .ok (.iload 4, 2) := by decide +kernel
theorem dX7_simple_79 : decode cX7_simple 79 = .ok (.invokevirtual 124, 3) := by decide +kernel
theorem dX7_simple_82 : decode cX7_simple 82 = .ok (.goto 278, 3) := by decide +kernel
theorem dX7_simple_85 : decode cX7_simple 85 = .ok (.aload_n 0, 1) := by decide +kernel
theorem dX7_simple_86 : decode cX7_simple 86 = .ok (.iload 5, 2) := by decide +kernel
theorem dX7_simple_88 : decode cX7_simple 88 = .ok (.iconst 1, 1) := by decide +kernel
theorem dX7_simple_89 : decode cX7_simple 89 = .ok (.iload 4, 2) := by decide +kernel
theorem dX7_simple_91 : decode cX7_simple 91 = .ok (.bipush 100, 2) := by decide +kernel
theorem dX7_simple_93 : decode cX7_simple 93 = .ok (.invokestatic 199, 3) := by decide +kernel
theorem dX7_simple_96 : decode cX7_simple 96 = .ok (.invokevirtual 124, 3) := by decide +kernel
theorem dX7_simple_99 : decode cX7_simple 99 = .ok (.goto 261, 3) := by decide +kernel
theorem dX7_simple_102 : decode cX7_simple 102 = .ok (.aload_n 0, 1) := by decide +kernel
theorem dX7_simple_103 : decode cX7_simple 103 = .ok (.iload 5, 2) := by decide +kernel
theorem dX7_simple_105 : decode cX7_simple 105 = .ok (.iload 6, 2) := by decide +kernel
theorem dX7_simple_107 : decode cX7_simple 107 = .ok (.invokevirtual 136, 3) := by decide +kernel
theorem dX7_simple_110 : decode cX7_simple 110 = .ok (.goto 250, 3) := by decide +kernel
theorem dX7_simple_113 : decode cX7_simple 113 = .ok (.aload_n 0, 1) := by decide +kernel
theorem dX7_simple_114 : decode cX7_simple 114 = .ok (.iload_n 1, 1) := by decide +kernel
theorem dX7_simple_115 : decode cX7_simple 115 = .ok (.iload_n 2, 1) := by decide +kernel
theorem dX7_simple_116 : decode cX7_simple 116 = .ok (.iload 5, 2) := by decide +kernel
theorem dX7_simple_118 : decode cX7_simple 118 = .ok (.iload 6, 2) := by decide +kernel
theorem dX7_simple_120 : decode cX7_simple 120 = .ok (.iload 7, 2) := by decide +kernel
theorem dX7_simple_122 : decode cX7_simple 122 = .ok (.invokevirtual 232, 3) := by decide +kernel
theorem dX7_simple_125 : decode cX7_simple 125 = .ok (.goto 235, 3) := by decide +kernel
theorem dX7_simple_128 : decode cX7_simple 128 = .ok (.aload_n 0, 1) := by decide +kernel
theorem dX7_simple_129 : decode cX7_simple 129 = .ok (.iload 6, 2) := by decide +kernel
theorem dX7_simple_131 : decode cX7_simple 131 = .ok (.invokevirtual 172, 3) := by decide +kernel
theorem dX7_simple_134 : decode cX7_simple 134 = .ok (.aload_n 0, 1) := by decide +kernel
theorem dX7_simple_135 : decode cX7_simple 135 = .ok (.iload 7, 2) := by decide +kernel
theorem dX7_simple_137 : decode cX7_simple 137 = .ok (.invokevirtual 172, 3) := by decide +kernel
theorem dX7_simple_140 : decode cX7_simple 140 = .ok (.iadd, 1) := by decide +kernel
theorem dX7_simple_141 : decode cX7_simple 141 = .ok (.bipush 32, 2) := by decide +kernel
theorem dX7_simple_143 : decode cX7_simple 143 = .ok (.if_icmp .le 13, 3) := by decide +kernel
theorem dX7_simple_146 : decode cX7_simple 146 = .ok (.aload_n 0, 1) := by decide +kernel
theorem dX7_simple_147 : decode cX7_simple 147 = .ok (.iload_n 1, 1) := by decide +kernel
theorem dX7_simple_148 : decode cX7_simple 148 = .ok (.iconst 1, 1) := by decide +kernel
theorem dX7_simple_149 : decode cX7_simple 149 = .ok (.iconst 5, 1) := by decide +kernel
theorem dX7_simple_150 : decode cX7_simple 150 = .ok (.invokevirtual 193, 3) := by decide +kernel
theorem dX7_simple_153 : decode cX7_simple 153 = .ok (.goto 207, 3) := by decide +kernel
theorem dX7_simple_156 : decode cX7_simple 156 = .ok (.aload_n 0, 1) := by decide +kernel
theorem dX7_simple_157 : decode cX7_simple 157 = .ok (.sipush 2940, 3) := by decide +kernel
theorem dX7_simple_160 : decode cX7_simple 160 = .ok (.iload 6, 2) := by decide +kernel
theorem dX7_simple_162 : decode cX7_simple 162 = .ok (.iload 7, 2) := by decide +kernel
theorem dX7_simple_164 : decode cX7_simple 164 = .ok (.invokevirtual 175, 3) := by decide +kernel
theorem dX7_simple_167 : decode cX7_simple 167 = .ok (.aload_n 0, 1) := by decide +kernel
theorem dX7_simple_168 : decode cX7_simple 168 = .ok (.iload 5, 2) := by decide +kernel
theorem dX7_simple_170 : decode cX7_simple 170 = .ok (.sipush 2940, 3) := by decide +kernel
theorem dX7_simple_173 : decode cX7_simple 173 = .ok (.invokevirtual 136, 3) := by decide +kernel
theorem dX7_simple_176 : decode cX7_simple 176 = .ok (.goto 184, 3) := by decide +kernel
theorem dX7_simple_179 : decode cX7_simple 179 = .ok (.aload_n 0, 1) := by decide +kernel
theorem dX7_simple_180 : decode cX7_simple 180 = .ok (.iload_n 1, 1) := by decide +kernel
theorem dX7_simple_181 : decode cX7_simple 181 = .ok (.aload_n 0, 1) := by decide +kernel
theorem dX7_simple_182 : decode cX7_simple 182 = .ok (.iload 6, 2) := by decide +kernel
theorem dX7_simple_184 : decode cX7_simple 184 = .ok (.iconst (-1), 1) := by decide +kernel
theorem dX7_simple_185 : decode cX7_simple 185 = .ok (.invokevirtual 178, 3) := by decide +kernel
theorem dX7_simple_188 : decode cX7_simple 188 = .ok (.ifCond .ne 7, 3) := by decide +kernel
theorem dX7_simple_191 : decode cX7_simple 191 = .ok (.iconst 1, 1) := by decide +kernel
theorem dX7_simple_192 : decode cX7_simple 192 = .ok (.goto 4, 3) := by decide +kernel
theorem dX7_simple_195 : decode cX7_simple 195 = .ok (.iconst 0, 1) := by decide +kernel
theorem dX7_simple_196 : decode cX7_simple 196 = .ok (.invokevirtual 202, 3) := by decide +kernel
theorem dX7_simple_199 : decode cX7_simple 199 = .ok (.ifCond .eq 6, 3) := by decide +kernel
theorem dX7_simple_202 : decode cX7_simple 202 = .ok (.goto 158, 3) := by decide +kernel
theorem dX7_simple_205 : decode cX7_simple 205 = .ok (.aload_n 0, 1) := by decide +kernel
theorem dX7_simple_206 : decode cX7_simple 206 = .ok (.iload 6, 2) := by decide +kernel
theorem dX7_simple_208 : decode cX7_simple 208 = .ok (.iconst 1, 1) := by decide +kernel
theorem dX7_simple_209 : decode cX7_simple 209 = .ok (.invokevirtual 236, 3) := by decide +kernel
theorem dX7_simple_212 : decode cX7_simple 212 = .ok (.istore 9, 2) := by decide +kernel
theorem dX7_simple_214 : decode cX7_simple 214 = .ok (.iload_n 2, 1) := by decide +kernel
theorem dX7_simple_215 : decode cX7_simple 215 = .ok (.bipush 8, 2) := by decide +kernel
theorem dX7_simple_217 : decode cX7_simple 217 = .ok (.if_icmp .ne 18, 3) := by decide +kernel
theorem dX7_simple_220 : decode cX7_simple 220 = .ok (.aload_n 0, 1) := by decide +kernel
theorem dX7_simple_221 : decode cX7_simple 221 = .ok (.sipush 2940, 3) := by decide +kernel
theorem dX7_simple_224 : decode cX7_simple 224 = .ok (.iload 6, 2) := by decide +kernel
theorem dX7_simple_226 : decode cX7_simple 226 = .ok (.iconst 1, 1) := by decide +kernel
theorem dX7_simple_227 : decode cX7_simple 227 = .ok (.iload 9, 2) := by decide +kernel
theorem dX7_simple_229 : decode cX7_simple 229 = .ok (.invokevirtual 239, 3) := by decide +kernel
theorem dX7_simple_232 : decode cX7_simple 232 = .ok (.goto 21, 3) := by decide +kernel
theorem dX7_simple_235 : decode cX7_simple 235 = .ok (.aload_n 0, 1) := by decide +kernel
theorem dX7_simple_236 : decode cX7_simple 236 = .ok (.sipush 2940, 3) := by decide +kernel
theorem dX7_simple_239 : decode cX7_simple 239 = .ok (.iload 6, 2) := by decide +kernel
theorem dX7_simple_241 : decode cX7_simple 241 = .ok (.iload 9, 2) := by decide +kernel
theorem dX7_simple_243 : decode cX7_simple 243 = .ok (.aload_n 0, 1) := by decide +kernel
theorem dX7_simple_244 : decode cX7_simple 244 = .ok (.getfield 14, 3) := by decide +kernel
theorem dX7_simple_247 : decode cX7_simple 247 = .ok (.iload 6, 2) := by decide +kernel
theorem dX7_simple_249 : decode cX7_simple 249 = .ok (.iaload, 1) := by decide +kernel
theorem dX7_simple_250 : decode cX7_simple 250 = .ok (.invokevirtual 239, 3) := by decide +kernel
theorem dX7_simple_253 : decode cX7_simple 253 = .ok (.aload_n 0, 1) := by decide +kernel
theorem dX7_simple_254 : decode cX7_simple 254 = .ok (.iload 5, 2) := by decide +kernel
theorem dX7_simple_256 : decode cX7_simple 256 = .ok (.sipush 2940, 3) := by decide +kernel
theorem dX7_simple_259 : decode cX7_simple 259 = .ok (.invokevirtual 136, 3) := by decide +kernel
theorem dX7_simple_262 : decode cX7_simple 262 = .ok (.goto 98, 3) := by decide +kernel
theorem dX7_simple_265 : decode cX7_simple 265 = .ok (.aload_n 0, 1) := by decide +kernel
theorem dX7_simple_266 : decode cX7_simple 266 = .ok (.iload 5, 2) := by decide +kernel
theorem dX7_simple_268 : decode cX7_simple 268 = .ok (.iconst 0, 1) := by decide +kernel
theorem dX7_simple_269 : decode cX7_simple 269 = .ok (.aload_n 0, 1) := by decide +kernel
theorem dX7_simple_270 : decode cX7_simple 270 = .ok (.iload 6, 2) := by decide +kernel
theorem dX7_simple_272 : decode cX7_simple 272 = .ok (.iconst (-1), 1) := by decide +kernel
theorem dX7_simple_273 : decode cX7_simple 273 = .ok (.invokevirtual 178, 3) := by decide +kernel
theorem dX7_simple_276 : decode cX7_simple 276 = .ok (.ifCond .eq 7, 3) := by decide +kernel
theorem dX7_simple_279 : decode cX7_simple 279 = .ok (.iconst 3, 1) := by decide +kernel
theorem dX7_simple_280 : decode cX7_simple 280 = .ok (.goto 9, 3) := by decide +kernel
theorem dX7_simple_283 : decode cX7_simple 283 = .ok (.aload_n 0, 1) := by decide +kernel
theorem dX7_simple_284 : decode cX7_simple 284 = .ok (.iload 6, 2) := by decide +kernel
theorem dX7_simple_286 : decode cX7_simple 286 = .ok (.invokevirtual 106, 3) := by decide +kernel
theorem dX7_simple_289 : decode cX7_simple 289 = .ok (.invokevirtual 124, 3) := by decide +kernel
theorem dX7_simple_292 : decode cX7_simple 292 = .ok (.goto 68, 3) := by decide +kernel
theorem dX7_simple_295 : decode cX7_simple 295 = .ok (.aload_n 0, 1) := by decide +kernel
theorem dX7_simple_296 : decode cX7_simple 296 = .ok (.getfield 32, 3) := by decide +kernel
theorem dX7_simple_299 : decode cX7_simple 299 = .ok (.iload_n 1, 1) := by decide +kernel
theorem dX7_simple_300 : decode cX7_simple 300 = .ok (.iload 8, 2) := by decide +kernel
theorem dX7_simple_302 : decode cX7_simple 302 = .ok (.iastore, 1) := by decide +kernel
theorem dX7_simple_303 : decode cX7_simple 303 = .ok (.goto 57, 3) := by decide +kernel
theorem dX7_simple_306 : decode cX7_simple 306 = .ok (.aload_n 0, 1) := by decide +kernel
theorem dX7_simple_307 : decode cX7_simple 307 = .ok (.iload 6, 2) := by decide +kernel
theorem dX7_simple_309 : decode cX7_simple 309 = .ok (.iload 7, 2) := by decide +kernel
theorem dX7_simple_311 : decode cX7_simple 311 = .ok (.invokevirtual 242, 3) := by decide +kernel
theorem dX7_simple_314 : decode cX7_simple 314 = .ok (.istore 9, 2) := by decide +kernel
theorem dX7_simple_316 : decode cX7_simple 316 = .ok (.iload_n 2, 1) := by decide +kernel
theorem dX7_simple_317 : decode cX7_simple 317 = .ok (.bipush 12, 2) := by decide +kernel
theorem dX7_simple_319 : decode cX7_simple 319 = .ok (.if_icmp .ne 11, 3) := by decide +kernel
theorem dX7_simple_322 : decode cX7_simple 322 = .ok (.iload 9, 2) := by decide +kernel
theorem dX7_simple_324 : decode cX7_simple 324 = .ok (.ifCond .ne 36, 3) := by decide +kernel
theorem dX7_simple_327 : decode cX7_simple 327 = .ok (.goto 22, 3) := by decide +kernel
theorem dX7_simple_330 : decode cX7_simple 330 = .ok (.iload_n 2, 1) := by decide +kernel
theorem dX7_simple_331 : decode cX7_simple 331 = .ok (.bipush 13, 2) := by decide +kernel
theorem dX7_simple_333 : decode cX7_simple 333 = .ok (.if_icmp .ne 11, 3) := by decide +kernel
theorem dX7_simple_336 : decode cX7_simple 336 = .ok (.iload 9, 2) := by decide +kernel
theorem dX7_simple_338 : decode cX7_simple 338 = .ok (.ifCond .ge 22, 3) := by decide +kernel
theorem dX7_simple_341 : decode cX7_simple 341 = .ok (.goto 8, 3) := by decide +kernel
theorem dX7_simple_344 : decode cX7_simple 344 = .ok (.iload 9, 2) := by decide +kernel
theorem dX7_simple_346 : decode cX7_simple 346 = .ok (.ifCond .gt 14, 3) := by decide +kernel
theorem dX7_simple_349 : decode cX7_simple 349 = .ok (.aload_n 0, 1) := by decide +kernel
theorem dX7_simple_350 : decode cX7_simple 350 = .ok (.getfield 32, 3) := by decide +kernel
theorem dX7_simple_353 : decode cX7_simple 353 = .ok (.iload_n 1, 1) := by decide +kernel
theorem dX7_simple_354 : decode cX7_simple 354 = .ok (.iload 8, 2) := by decide +kernel
theorem dX7_simple_356 : decode cX7_simple 356 = .ok (.iastore, 1) := by decide +kernel
theorem dX7_simple_357 : decode cX7_simple 357 = .ok (.goto 3, 3) := by decide +kernel
theorem dX7_simple_360 : decode cX7_simple 360 = .ok (.return_, 1) := by decide +kernel
theorem dX7_calls_0 : decode cX7_calls 0 = .ok (.iload_n 2, 1) := by decide +kernel
theorem dX7_calls_1 : decode cX7_calls 1 = .ok (.tableswitch 289 15 20 #[39, 103, 156, 230, 256, 276], 39) := by decide +kernel
theorem dX7_calls_40 : decode cX7_calls 40 = .ok (.aload_n 0, 1) := by decide +kernel
theorem dX7_calls_41 : decode cX7_calls 41 = .ok (.getfield 54, 3) := by decide +kernel
theorem dX7_calls_44 : decode cX7_calls 44 = .ok (.iload_n 1, 1) := by decide +kernel
theorem dX7_calls_45 : decode cX7_calls 45 = .ok (.iaload, 1) := by decide +kernel
theorem dX7_calls_46 : decode cX7_calls 46 = .ok (.bipush 16, 2) := by decide +kernel
theorem dX7_calls_48 : decode cX7_calls 48 = .ok (.if_icmp .ne 13, 3) := by decide +kernel
theorem dX7_calls_51 : decode cX7_calls 51 = .ok (.aload_n 0, 1) := by decide +kernel
theorem dX7_calls_52 : decode cX7_calls 52 = .ok (.iload_n 1, 1) := by decide +kernel
theorem dX7_calls_53 : decode cX7_calls 53 = .ok (.iconst 1, 1) := by decide +kernel
theorem dX7_calls_54 : decode cX7_calls 54 = .ok (.iconst 5, 1) := by decide +kernel
theorem dX7_calls_55 : decode cX7_calls 55 = .ok (.invokevirtual 193, 3) := by decide +kernel
theorem dX7_calls_58 : decode cX7_calls 58 = .ok (.goto 324, 3) := by decide +kernel
theorem dX7_calls_61 : decode cX7_calls 61 = .ok (.aload_n 0, 1) := by decide +kernel
theorem dX7_calls_62 : decode cX7_calls 62 = .ok (.getfield 51, 3) := by decide +kernel
theorem dX7_calls_65 : decode cX7_calls 65 = .ok (.bipush 16, 2) := by decide +kernel
theorem dX7_calls_67 : decode cX7_calls 67 = .ok (.iload_n 1, 1) := by decide +kernel
theorem dX7_calls_68 : decode cX7_calls 68 = .ok (.imul, 1) := by decide +kernel
theorem dX7_calls_69 : decode cX7_calls 69 = .ok (.aload_n 0, 1) := by decide +kernel
theorem dX7_calls_70 : decode cX7_calls 70 = .ok (.getfield 54, 3) := by decide +kernel
theorem dX7_calls_73 : decode cX7_calls 73 = .ok (.iload_n 1, 1) := by decide +kernel
theorem dX7_calls_74 : decode cX7_calls 74 = .ok (.iaload, 1) := by decide +kernel
theorem dX7_calls_75 : decode cX7_calls 75 = .ok (.iadd, 1) := by decide +kernel
theorem dX7_calls_76 : decode cX7_calls 76 = .ok (.aload_n 0, 1) := by decide +kernel
theorem dX7_calls_77 : decode cX7_calls 77 = .ok (.getfield 32, 3) := by decide +kernel
theorem dX7_calls_80 : decode cX7_calls 80 = .ok (.iload_n 1, 1) := by decide +kernel
theorem dX7_calls_81 : decode cX7_calls 81 = .ok (.iaload, 1) := by decide +kernel
theorem dX7_calls_82 : decode cX7_calls 82 = .ok (.iastore, 1) := by decide +kernel
theorem dX7_calls_83 : decode cX7_calls 83 = .ok (.aload_n 0, 1) := by decide +kernel
theorem dX7_calls_84 : decode cX7_calls 84 = .ok (.getfield 54, 3) := by decide +kernel
theorem dX7_calls_87 : decode cX7_calls 87 = .ok (.iload_n 1, 1) := by decide +kernel
theorem dX7_calls_88 : decode cX7_calls 88 = .ok (.dup2, 1) := by decide +kernel
theorem dX7_calls_89 : decode cX7_calls 89 = .ok (.iaload, 1) := by decide +kernel
theorem dX7_calls_90 : decode cX7_calls 90 = .ok (.iconst 1, 1) := by decide +kernel
theorem dX7_calls_91 : decode cX7_calls 91 = .ok (.iadd, 1) := by decide +kernel
theorem dX7_calls_92 : decode cX7_calls 92 = .ok (.iastore, 1) := by decide +kernel
theorem dX7_calls_93 : decode cX7_calls 93 = .ok (.aload_n 0, 1) := by decide +kernel
theorem dX7_calls_94 : decode cX7_calls 94 = .ok (.getfield 32, 3) := by decide +kernel
theorem dX7_calls_97 : decode cX7_calls 97 = .ok (.iload_n 1, 1) := by decide +kernel
theorem dX7_calls_98 : decode cX7_calls 98 = .ok (.iload 6, 2) := by decide +kernel
theorem dX7_calls_100 : decode cX7_calls 100 = .ok (.iastore, 1) := by decide +kernel
theorem dX7_calls_101 : decode cX7_calls 101 = .ok (.goto 281, 3) := by decide +kernel
theorem dX7_calls_104 : decode cX7_calls 104 = .ok (.aload_n 0, 1) := by decide +kernel
theorem dX7_calls_105 : decode cX7_calls 105 = .ok (.getfield 54, 3) := by decide +kernel
theorem dX7_calls_108 : decode cX7_calls 108 = .ok (.iload_n 1, 1) := by decide +kernel
theorem dX7_calls_109 : decode cX7_calls 109 = .ok (.iaload, 1) := by decide +kernel
theorem dX7_calls_110 : decode cX7_calls 110 = .ok (.ifCond .ne 12, 3) := by decide +kernel
theorem dX7_calls_113 : decode cX7_calls 113 = .ok (.aload_n 0, 1) := by decide +kernel
theorem dX7_calls_114 : decode cX7_calls 114 = .ok (.iload_n 1, 1) := by decide +kernel
theorem dX7_calls_115 : decode cX7_calls 115 = .ok (.iconst 0, 1) := by decide +kernel
theorem dX7_calls_116 : decode cX7_calls 116 = .ok (.invokevirtual 229, 3) := by decide +kernel
theorem dX7_calls_119 : decode cX7_calls 119 = .ok (.goto 263, 3) := by decide +kernel
theorem dX7_calls_122 : decode cX7_calls 122 = .ok (.aload_n 0, 1) := by decide +kernel
theorem dX7_calls_123 : decode cX7_calls 123 = .ok (.getfield 54, 3) := by decide +kernel
theorem dX7_calls_126 : decode cX7_calls 126 = .ok (.iload_n 1, 1) := by decide +kernel
theorem dX7_calls_127 : decode cX7_calls 127 = .ok (.dup2, 1) := by decide +kernel
theorem dX7_calls_128 : decode cX7_calls 128 = .ok (.iaload, 1) := by decide +kernel
theorem dX7_calls_129 : decode cX7_calls 129 = .ok (.iconst 1, 1) := by decide +kernel
theorem dX7_calls_130 : decode cX7_calls 130 = .ok (.isub, 1) := by decide +kernel
theorem dX7_calls_131 : decode cX7_calls 131 = .ok (.iastore, 1) := by decide +kernel
theorem dX7_calls_132 : decode cX7_calls 132 = .ok (.aload_n 0, 1) := by decide +kernel
theorem dX7_calls_133 : decode cX7_calls 133 = .ok (.getfield 32, 3) := by decide +kernel
theorem dX7_calls_136 : decode cX7_calls 136 = .ok (.iload_n 1, 1) := by decide +kernel
theorem dX7_calls_137 : decode cX7_calls 137 = .ok (.aload_n 0, 1) := by decide +kernel
theorem dX7_calls_138 : decode cX7_calls 138 = .ok (.getfield 51, 3) := by decide +kernel
theorem dX7_calls_141 : decode cX7_calls 141 = .ok (.bipush 16, 2) := by decide +kernel
theorem dX7_calls_143 : decode cX7_calls 143 = .ok (.iload_n 1, 1) := by decide +kernel
theorem dX7_calls_144 : decode cX7_calls 144 = .ok (.imul, 1) := by decide +kernel
theorem dX7_calls_145 : decode cX7_calls 145 = .ok (.aload_n 0, 1) := by decide +kernel
theorem dX7_calls_146 : decode cX7_calls 146 = .ok (.getfield 54, 3) := by decide +kernel
theorem dX7_calls_149 : decode cX7_calls 149 = .ok (.iload_n 1, 1) := by decide +kernel
theorem dX7_calls_150 : decode cX7_calls 150 = .ok (.iaload, 1) := by decide +kernel
theorem dX7_calls_151 : decode cX7_calls 151 = .ok (.iadd, 1) := by decide +kernel
theorem dX7_calls_152 : decode cX7_calls 152 = .ok (.iaload, 1) := by decide +kernel
theorem dX7_calls_153 : decode cX7_calls 153 = .ok (.iastore, 1) := by decide +kernel
theorem dX7_calls_154 : decode cX7_calls 154 = .ok (.goto 228, 3) := by decide +kernel
theorem dX7_calls_157 : decode cX7_calls 157 = .ok (.aload_n 0, 1) := by decide +kernel
theorem dX7_calls_158 : decode cX7_calls 158 = .ok (.getfield 63, 3) := by decide +kernel
theorem dX7_calls_161 : decode cX7_calls 161 = .ok (.iload_n 1, 1) := by decide +kernel
theorem dX7_calls_162 : decode cX7_calls 162 = .ok (.iaload, 1) := by decide +kernel
theorem dX7_calls_163 : decode cX7_calls 163 = .ok (.bipush 8, 2) := by decide +kernel
theorem dX7_calls_165 : decode cX7_calls 165 = .ok (.if_icmp .ne 13, 3) := by decide +kernel
theorem dX7_calls_168 : decode cX7_calls 168 = .ok (.aload_n 0, 1) := by decide +kernel
theorem dX7_calls_169 : decode cX7_calls 169 = .ok (.iload_n 1, 1) := by decide +kernel
theorem dX7_calls_170 : decode cX7_calls 170 = .ok (.iconst 1, 1) := by decide +kernel
theorem dX7_calls_171 : decode cX7_calls 171 = .ok (.iconst 5, 1) := by decide +kernel
theorem dX7_calls_172 : decode cX7_calls 172 = .ok (.invokevirtual 193, 3) := by decide +kernel
theorem dX7_calls_175 : decode cX7_calls 175 = .ok (.goto 207, 3) := by decide +kernel
theorem dX7_calls_178 : decode cX7_calls 178 = .ok (.aload_n 0, 1) := by decide +kernel
theorem dX7_calls_179 : decode cX7_calls 179 = .ok (.getfield 57, 3) := by decide +kernel
theorem dX7_calls_182 : decode cX7_calls 182 = .ok (.bipush 8, 2) := by decide +kernel
theorem dX7_calls_184 : decode cX7_calls 184 = .ok (.iload_n 1, 1) := by decide +kernel
theorem dX7_calls_185 : decode cX7_calls 185 = .ok (.imul, 1) := by decide +kernel
theorem dX7_calls_186 : decode cX7_calls 186 = .ok (.aload_n 0, 1) := by decide +kernel
theorem dX7_calls_187 : decode cX7_calls 187 = .ok (.getfield 63, 3) := by decide +kernel
theorem dX7_calls_190 : decode cX7_calls 190 = .ok (.iload_n 1, 1) := by decide +kernel
theorem dX7_calls_191 : decode cX7_calls 191 = .ok (.iaload, 1) := by decide +kernel
theorem dX7_calls_192 : decode cX7_calls 192 = .ok (.iadd, 1) := by decide +kernel
theorem dX7_calls_193 : decode cX7_calls 193 = .ok (.iload 6, 2) := by decide +kernel
theorem dX7_calls_195 : decode cX7_calls 195 = .ok (.iastore, 1) := by decide +kernel
theorem dX7_calls_196 : decode cX7_calls 196 = .ok (.aload_n 0, 1) := by decide +kernel
theorem dX7_calls_197 : decode cX7_calls 197 = .ok (.getfield 60, 3) := by decide +kernel
theorem dX7_calls_200 : decode cX7_calls 200 = .ok (.bipush 8, 2) := by decide +kernel
theorem dX7_calls_202 : decode cX7_calls 202 = .ok (.iload_n 1, 1) := by decide +kernel
theorem dX7_calls_203 : decode cX7_calls 203 = .ok (.imul, 1) := by decide +kernel
theorem dX7_calls_204 : decode cX7_calls 204 = .ok (.aload_n 0, 1) := by decide +kernel
theorem dX7_calls_205 : decode cX7_calls 205 = .ok (.getfield 63, 3) := by decide +kernel
theorem dX7_calls_208 : decode cX7_calls 208 = .ok (.iload_n 1, 1) := by decide +kernel
theorem dX7_calls_209 : decode cX7_calls 209 = .ok (.iaload, 1) := by decide +kernel
theorem dX7_calls_210 : decode cX7_calls 210 = .ok (.iadd, 1) := by decide +kernel
theorem dX7_calls_211 : decode cX7_calls 211 = .ok (.aload_n 0, 1) := by decide +kernel
theorem dX7_calls_212 : decode cX7_calls 212 = .ok (.getfield 54, 3) := by decide +kernel
theorem dX7_calls_215 : decode cX7_calls 215 = .ok (.iload_n 1, 1) := by decide +kernel
theorem dX7_calls_216 : decode cX7_calls 216 = .ok (.iaload, 1) := by decide +kernel
theorem dX7_calls_217 : decode cX7_calls 217 = .ok (.iastore, 1) := by decide +kernel
theorem dX7_calls_218 : decode cX7_calls 218 = .ok (.aload_n 0, 1) := by decide +kernel
theorem dX7_calls_219 : decode cX7_calls 219 = .ok (.getfield 63, 3) := by decide +kernel
theorem dX7_calls_222 : decode cX7_calls 222 = .ok (.iload_n 1, 1) := by decide +kernel
theorem dX7_calls_223 : decode cX7_calls 223 = .ok (.dup2, 1) := by decide +kernel
theorem dX7_calls_224 : decode cX7_calls 224 = .ok (.iaload, 1) := by decide +kernel
theorem dX7_calls_225 : decode cX7_calls 225 = .ok (.iconst 1, 1) := by decide +kernel
theorem dX7_calls_226 : decode cX7_calls 226 = .ok (.iadd, 1) := by decide +kernel
theorem dX7_calls_227 : decode cX7_calls 227 = .ok (.iastore, 1) := by decide +kernel
theorem dX7_calls_228 : decode cX7_calls 228 = .ok (.goto 154, 3) := by decide +kernel
theorem dX7_calls_231 : decode cX7_calls 231 = .ok (.aload_n 0, 1) := by decide +kernel
theorem dX7_calls_232 : decode cX7_calls 232 = .ok (.getfield 63, 3) := by decide +kernel
theorem dX7_calls_235 : decode cX7_calls 235 = .ok (.iload_n 1, 1) := by decide +kernel
theorem dX7_calls_236 : decode cX7_calls 236 = .ok (.dup2, 1) := by decide +kernel
theorem dX7_calls_237 : decode cX7_calls 237 = .ok (.iaload, 1) := by decide +kernel
theorem dX7_calls_238 : decode cX7_calls 238 = .ok (.aload_n 0, 1) := by decide +kernel
theorem dX7_calls_239 : decode cX7_calls 239 = .ok (.getfield 63, 3) := by decide +kernel
theorem dX7_calls_242 : decode cX7_calls 242 = .ok (.iload_n 1, 1) := by decide +kernel
theorem dX7_calls_243 : decode cX7_calls 243 = .ok (.iaload, 1) := by decide +kernel
theorem dX7_calls_244 : decode cX7_calls 244 = .ok (.ifCond .le 7, 3) := by decide +kernel
theorem dX7_calls_247 : decode cX7_calls 247 = .ok (.iconst 1, 1) := by decide +kernel
theorem dX7_calls_248 : decode cX7_calls 248 = .ok (.goto 4, 3) := by decide +kernel
theorem dX7_calls_251 : decode cX7_calls 251 = .ok (.iconst 0, 1) := by decide +kernel
theorem dX7_calls_252 : decode cX7_calls 252 = .ok (.isub, 1) := by decide +kernel
theorem dX7_calls_253 : decode cX7_calls 253 = .ok (.iastore, 1) := by decide +kernel
theorem dX7_calls_254 : decode cX7_calls 254 = .ok (.goto 128, 3) := by decide +kernel
theorem dX7_calls_257 : decode cX7_calls 257 = .ok (.aload_n 0, 1) := by decide +kernel
theorem dX7_calls_258 : decode cX7_calls 258 = .ok (.sipush 2940, 3) := by decide +kernel
theorem dX7_calls_261 : decode cX7_calls 261 = .ok (.iload 4, 2) := by decide +kernel
theorem dX7_calls_263 : decode cX7_calls 263 = .ok (.invokevirtual 136, 3) := by decide +kernel
theorem dX7_calls_266 : decode cX7_calls 266 = .ok (.aload_n 0, 1) := by decide +kernel
theorem dX7_calls_267 : decode cX7_calls 267 = .ok (.iload_n 1, 1) := by decide +kernel
theorem dX7_calls_268 : decode cX7_calls 268 = .ok (.sipush 2940, 3) := by decide +kernel
theorem dX7_calls_271 : decode cX7_calls 271 = .ok (.invokevirtual 196, 3) := by decide +kernel
theorem dX7_calls_274 : decode cX7_calls 274 = .ok (.goto 108, 3) := by decide +kernel
theorem dX7_calls_277 : decode cX7_calls 277 = .ok (.aload_n 0, 1) := by decide +kernel
theorem dX7_calls_278 : decode cX7_calls 278 = .ok (.iload 4, 2) := by decide +kernel
theorem dX7_calls_280 : decode cX7_calls 280 = .ok (.iconst 2, 1) := by decide +kernel
theorem dX7_calls_281 : decode cX7_calls 281 = .ok (.iload_n 1, 1) := by decide +kernel
theorem dX7_calls_282 : decode cX7_calls 282 = .ok (.iconst 1, 1) := by decide +kernel
theorem dX7_calls_283 : decode cX7_calls 283 = .ok (.iadd, 1) := by decide +kernel
theorem dX7_calls_284 : decode cX7_calls 284 = .ok (.invokevirtual 124, 3) := by decide +kernel
theorem dX7_calls_287 : decode cX7_calls 287 = .ok (.goto 95, 3) := by decide +kernel
theorem dX7_calls_290 : decode cX7_calls 290 = .ok (.aload_n 0, 1) := by decide +kernel
theorem dX7_calls_291 : decode cX7_calls 291 = .ok (.getfield 121, 3) := by decide +kernel
theorem dX7_calls_294 : decode cX7_calls 294 = .ok (.bipush 60, 2) := by decide +kernel
theorem dX7_calls_296 : decode cX7_calls 296 = .ok (.if_icmp .ne 13, 3) := by decide +kernel
theorem dX7_calls_299 : decode cX7_calls 299 = .ok (.aload_n 0, 1) := by decide +kernel
theorem dX7_calls_300 : decode cX7_calls 300 = .ok (.iload_n 1, 1) := by decide +kernel
theorem dX7_calls_301 : decode cX7_calls 301 = .ok (.iconst 1, 1) := by decide +kernel
theorem dX7_calls_302 : decode cX7_calls 302 = .ok (.iconst 5, 1) := by decide +kernel
theorem dX7_calls_303 : decode cX7_calls 303 = .ok (.invokevirtual 193, 3) := by decide +kernel
theorem dX7_calls_306 : decode cX7_calls 306 = .ok (.goto 76, 3) := by decide +kernel
theorem dX7_calls_309 : decode cX7_calls 309 = .ok (.aload_n 0, 1) := by decide +kernel
theorem dX7_calls_310 : decode cX7_calls 310 = .ok (.iload_n 3, 1) := by decide +kernel
theorem dX7_calls_311 : decode cX7_calls 311 = .ok (.sipush 300, 3) := by decide +kernel
theorem dX7_calls_314 : decode cX7_calls 314 = .ok (.invokestatic 199, 3) := by decide +kernel
theorem dX7_calls_317 : decode cX7_calls 317 = .ok (.aload_n 0, 1) := by decide +kernel
theorem dX7_calls_318 : decode cX7_calls 318 = .ok (.getfield 35, 3) := by decide +kernel
theorem dX7_calls_321 : decode cX7_calls 321 = .ok (.iload_n 1, 1) := by decide +kernel
theorem dX7_calls_322 : decode cX7_calls 322 = .ok (.iaload, 1) := by decide +kernel
theorem dX7_calls_323 : decode cX7_calls 323 = .ok (.invokevirtual 132, 3) := by decide +kernel
theorem dX7_calls_326 : decode cX7_calls 326 = .ok (.istore 7, 2) := by decide +kernel
theorem dX7_calls_328 : decode cX7_calls 328 = .ok (.aload_n 0, 1) := by decide +kernel
theorem dX7_calls_329 : decode cX7_calls 329 = .ok (.bipush 8, 2) := by decide +kernel
theorem dX7_calls_331 : decode cX7_calls 331 = .ok (.iload 7, 2) := by decide +kernel
theorem dX7_calls_333 : decode cX7_calls 333 = .ok (.imul, 1) := by decide +kernel
theorem dX7_calls_334 : decode cX7_calls 334 = .ok (.iconst 2, 1) := by decide +kernel
theorem dX7_calls_335 : decode cX7_calls 335 = .ok (.iload_n 1, 1) := by decide +kernel
theorem dX7_calls_336 : decode cX7_calls 336 = .ok (.iconst 1, 1) := by decide +kernel
theorem dX7_calls_337 : decode cX7_calls 337 = .ok (.iadd, 1) := by decide +kernel
theorem dX7_calls_338 : decode cX7_calls 338 = .ok (.invokevirtual 124, 3) := by decide +kernel
theorem dX7_calls_341 : decode cX7_calls 341 = .ok (.aload_n 0, 1) := by decide +kernel
theorem dX7_calls_342 : decode cX7_calls 342 = .ok (.bipush 8, 2) := by decide +kernel
theorem dX7_calls_344 : decode cX7_calls 344 = .ok (.iload 7, 2) := by decide +kernel
theorem dX7_calls_346 : decode cX7_calls 346 = .ok (.imul, 1) := by decide +kernel
theorem dX7_calls_347 : decode cX7_calls 347 = .ok (.iconst 1, 1) := by decide +kernel
theorem dX7_calls_348 : decode cX7_calls 348 = .ok (.iadd, 1) := by decide +kernel
theorem dX7_calls_349 : decode cX7_calls 349 = .ok (.iload 5, 2) := by decide +kernel
theorem dX7_calls_351 : decode cX7_calls 351 = .ok (.invokevirtual 136, 3) := by decide +kernel
theorem dX7_calls_354 : decode cX7_calls 354 = .ok (.iload_n 2, 1) := by decide +kernel
theorem dX7_calls_355 : decode cX7_calls 355 = .ok (.bipush 22, 2) := by decide +kernel
theorem dX7_calls_357 : decode cX7_calls 357 = .ok (.if_icmp .ne 11, 3) := by decide +kernel
theorem dX7_calls_360 : decode cX7_calls 360 = .ok (.aload_n 0, 1) := by decide +kernel
theorem dX7_calls_361 : decode cX7_calls 361 = .ok (.iload_n 1, 1) := by decide +kernel
theorem dX7_calls_362 : decode cX7_calls 362 = .ok (.iload 7, 2) := by decide +kernel
theorem dX7_calls_364 : decode cX7_calls 364 = .ok (.iconst 1, 1) := by decide +kernel
theorem dX7_calls_365 : decode cX7_calls 365 = .ok (.invokevirtual 160, 3) := by decide +kernel
theorem dX7_calls_368 : decode cX7_calls 368 = .ok (.aload_n 0, 1) := by decide +kernel
theorem dX7_calls_369 : decode cX7_calls 369 = .ok (.iload 4, 2) := by decide +kernel
theorem dX7_calls_371 : decode cX7_calls 371 = .ok (.iconst 2, 1) := by decide +kernel
theorem dX7_calls_372 : decode cX7_calls 372 = .ok (.iload 7, 2) := by decide +kernel
theorem dX7_calls_374 : decode cX7_calls 374 = .ok (.iconst 1, 1) := by decide +kernel
theorem dX7_calls_375 : decode cX7_calls 375 = .ok (.iadd, 1) := by decide +kernel
theorem dX7_calls_376 : decode cX7_calls 376 = .ok (.invokevirtual 124, 3) := by decide +kernel
theorem dX7_calls_379 : decode cX7_calls 379 = .ok (.goto 3, 3) := by decide +kernel
theorem dX7_calls_382 : decode cX7_calls 382 = .ok (.return_, 1) := by decide +kernel
theorem dX7_mails_0 : decode cX7_mails 0 = .ok (.aload_n 0, 1) := by decide +kernel
theorem dX7_mails_1 : decode cX7_mails 1 = .ok (.getfield 48, 3) := by decide +kernel
theorem dX7_mails_4 : decode cX7_mails 4 = .ok (.iload_n 1, 1) := by decide +kernel
theorem dX7_mails_5 : decode cX7_mails 5 = .ok (.iaload, 1) := by decide +kernel
theorem dX7_mails_6 : decode cX7_mails 6 = .ok (.aload_n 0, 1) := by decide +kernel
theorem dX7_mails_7 : decode cX7_mails 7 = .ok (.getfield 45, 3) := by decide +kernel
theorem dX7_mails_10 : decode cX7_mails 10 = .ok (.iload_n 1, 1) := by decide +kernel
theorem dX7_mails_11 : decode cX7_mails 11 = .ok (.iaload, 1) := by decide +kernel
theorem dX7_mails_12 : decode cX7_mails 12 = .ok (.if_icmp .ge 7, 3) := by decide +kernel
theorem dX7_mails_15 : decode cX7_mails 15 = .ok (.iconst 1, 1) := by decide +kernel
theorem dX7_mails_16 : decode cX7_mails 16 = .ok (.goto 4, 3) := by decide +kernel
theorem dX7_mails_19 : decode cX7_mails 19 = .ok (.iconst 0, 1) := by decide +kernel
theorem dX7_mails_20 : decode cX7_mails 20 = .ok (.istore 7, 2) := by decide +kernel
theorem dX7_mails_22 : decode cX7_mails 22 = .ok (.sipush 480, 3) := by decide +kernel
theorem dX7_mails_25 : decode cX7_mails 25 = .ok (.bipush 40, 2) := by decide +kernel
theorem dX7_mails_27 : decode cX7_mails 27 = .ok (.iload_n 1, 1) := by decide +kernel
theorem dX7_mails_28 : decode cX7_mails 28 = .ok (.imul, 1) := by decide +kernel
theorem dX7_mails_29 : decode cX7_mails 29 = .ok (.iadd, 1) := by decide +kernel
theorem dX7_mails_30 : decode cX7_mails 30 = .ok (.aload_n 0, 1) := by decide +kernel
theorem dX7_mails_31 : decode cX7_mails 31 = .ok (.getfield 48, 3) := by decide +kernel
theorem dX7_mails_34 : decode cX7_mails 34 = .ok (.iload_n 1, 1) := by decide +kernel
theorem dX7_mails_35 : decode cX7_mails 35 = .ok (.iaload, 1) := by decide +kernel
theorem dX7_mails_36 : decode cX7_mails 36 = .ok (.iadd, 1) := by decide +kernel
theorem dX7_mails_37 : decode cX7_mails 37 = .ok (.istore 8, 2) := by decide +kernel
theorem dX7_mails_39 : decode cX7_mails 39 = .ok (.iload_n 2, 1) := by decide +kernel
theorem dX7_mails_40 : decode cX7_mails 40 = .ok (.tableswitch 277 23 27 #[36, 118, 145, 229, 251], 36) := by decide +kernel
theorem dX7_mails_76 : decode cX7_mails 76 = .ok (.aload_n 0, 1) := by decide +kernel
theorem dX7_mails_77 : decode cX7_mails 77 = .ok (.iload_n 1, 1) := by decide +kernel
theorem dX7_mails_78 : decode cX7_mails 78 = .ok (.aload_n 0, 1) := by decide +kernel
theorem dX7_mails_79 : decode cX7_mails 79 = .ok (.iload_n 3, 1) := by decide +kernel
theorem dX7_mails_80 : decode cX7_mails 80 = .ok (.iconst 2, 1) := by decide +kernel
theorem dX7_mails_81 : decode cX7_mails 81 = .ok (.invokevirtual 178, 3) := by decide +kernel
theorem dX7_mails_84 : decode cX7_mails 84 = .ok (.ifCond .ne 16, 3) := by decide +kernel
theorem dX7_mails_87 : decode cX7_mails 87 = .ok (.aload_n 0, 1) := by decide +kernel
theorem dX7_mails_88 : decode cX7_mails 88 = .ok (.iload_n 3, 1) := by decide +kernel
theorem dX7_mails_89 : decode cX7_mails 89 = .ok (.iconst 1, 1) := by decide +kernel
theorem dX7_mails_90 : decode cX7_mails 90 = .ok (.invokevirtual 178, 3) := by decide +kernel
theorem dX7_mails_93 : decode cX7_mails 93 = .ok (.ifCond .ne 7, 3) := by decide +kernel
theorem dX7_mails_96 : decode cX7_mails 96 = .ok (.iconst 1, 1) := by decide +kernel
theorem dX7_mails_97 : decode cX7_mails 97 = .ok (.goto 4, 3) := by decide +kernel
theorem dX7_mails_100 : decode cX7_mails 100 = .ok (.iconst 0, 1) := by decide +kernel
theorem dX7_mails_101 : decode cX7_mails 101 = .ok (.invokevirtual 202, 3) := by decide +kernel
theorem dX7_mails_104 : decode cX7_mails 104 = .ok (.ifCond .eq 6, 3) := by decide +kernel
theorem dX7_mails_107 : decode cX7_mails 107 = .ok (.goto 344, 3) := by decide +kernel
theorem dX7_mails_110 : decode cX7_mails 110 = .ok (.aload_n 0, 1) := by decide +kernel
theorem dX7_mails_111 : decode cX7_mails 111 = .ok (.iload_n 3, 1) := by decide +kernel
theorem dX7_mails_112 : decode cX7_mails 112 = .ok (.iconst 2, 1) := by decide +kernel
theorem dX7_mails_113 : decode cX7_mails 113 = .ok (.invokevirtual 178, 3) := by decide +kernel
theorem dX7_mails_116 : decode cX7_mails 116 = .ok (.ifCond .eq 13, 3) := by decide +kernel
theorem dX7_mails_119 : decode cX7_mails 119 = .ok (.aload_n 0, 1) := by decide +kernel
theorem dX7_mails_120 : decode cX7_mails 120 = .ok (.iload_n 3, 1) := by decide +kernel
theorem dX7_mails_121 : decode cX7_mails 121 = .ok (.invokevirtual 181, 3) := by decide +kernel
theorem dX7_mails_124 : decode cX7_mails 124 = .ok (.iconst 1, 1) := by decide +kernel
theorem dX7_mails_125 : decode cX7_mails 125 = .ok (.isub, 1) := by decide +kernel
theorem dX7_mails_126 : decode cX7_mails 126 = .ok (.goto 12, 3) := by decide +kernel
theorem dX7_mails_129 : decode cX7_mails 129 = .ok (.aload_n 0, 1) := by decide +kernel
theorem dX7_mails_130 : decode cX7_mails 130 = .ok (.aload_n 0, 1) := by decide +kernel
theorem dX7_mails_131 : decode cX7_mails 131 = .ok (.iload_n 3, 1) := by decide +kernel
theorem dX7_mails_132 : decode cX7_mails 132 = .ok (.invokevirtual 181, 3) := by decide +kernel
theorem dX7_mails_135 : decode cX7_mails 135 = .ok (.invokevirtual 245, 3) := by decide +kernel
theorem dX7_mails_138 : decode cX7_mails 138 = .ok (.istore 9, 2) := by decide +kernel
theorem dX7_mails_140 : decode cX7_mails 140 = .ok (.iload 9, 2) := by decide +kernel
theorem dX7_mails_142 : decode cX7_mails 142 = .ok (.iconst (-1), 1) := by decide +kernel
theorem dX7_mails_143 : decode cX7_mails 143 = .ok (.if_icmp .eq 308, 3) := by decide +kernel
theorem dX7_mails_146 : decode cX7_mails 146 = .ok (.aload_n 0, 1) := by decide +kernel
theorem dX7_mails_147 : decode cX7_mails 147 = .ok (.iload 9, 2) := by decide +kernel
theorem dX7_mails_149 : decode cX7_mails 149 = .ok (.iload 4, 2) := by decide +kernel
theorem dX7_mails_151 : decode cX7_mails 151 = .ok (.invokevirtual 147, 3) := by decide +kernel
theorem dX7_mails_154 : decode cX7_mails 154 = .ok (.pop, 1) := by decide +kernel
theorem dX7_mails_155 : decode cX7_mails 155 = .ok (.goto 296, 3) := by decide +kernel
theorem dX7_mails_158 : decode cX7_mails 158 = .ok (.iload 7, 2) := by decide +kernel
theorem dX7_mails_160 : decode cX7_mails 160 = .ok (.ifCond .eq 14, 3) := by decide +kernel
theorem dX7_mails_163 : decode cX7_mails 163 = .ok (.aload_n 0, 1) := by decide +kernel
theorem dX7_mails_164 : decode cX7_mails 164 = .ok (.iload 4, 2) := by decide +kernel
theorem dX7_mails_166 : decode cX7_mails 166 = .ok (.iload 8, 2) := by decide +kernel
theorem dX7_mails_168 : decode cX7_mails 168 = .ok (.invokevirtual 136, 3) := by decide +kernel
theorem dX7_mails_171 : decode cX7_mails 171 = .ok (.goto 280, 3) := by decide +kernel
theorem dX7_mails_174 : decode cX7_mails 174 = .ok (.aload_n 0, 1) := by decide +kernel
theorem dX7_mails_175 : decode cX7_mails 175 = .ok (.getfield 32, 3) := by decide +kernel
theorem dX7_mails_178 : decode cX7_mails 178 = .ok (.iload_n 1, 1) := by decide +kernel
theorem dX7_mails_179 : decode cX7_mails 179 = .ok (.iload 6, 2) := by decide +kernel
theorem dX7_mails_181 : decode cX7_mails 181 = .ok (.iastore, 1) := by decide +kernel
theorem dX7_mails_182 : decode cX7_mails 182 = .ok (.goto 269, 3) := by decide +kernel
theorem dX7_mails_185 : decode cX7_mails 185 = .ok (.aload_n 0, 1) := by decide +kernel
theorem dX7_mails_186 : decode cX7_mails 186 = .ok (.getfield 48, 3) := by decide +kernel
theorem dX7_mails_189 : decode cX7_mails 189 = .ok (.iload_n 1, 1) := by decide +kernel
theorem dX7_mails_190 : decode cX7_mails 190 = .ok (.iaload, 1) := by decide +kernel
theorem dX7_mails_191 : decode cX7_mails 191 = .ok (.istore 9, 2) := by decide +kernel
theorem dX7_mails_193 : decode cX7_mails 193 = .ok (.iload 9, 2) := by decide +kernel
theorem dX7_mails_195 : decode cX7_mails 195 = .ok (.iconst 1, 1) := by decide +kernel
theorem dX7_mails_196 : decode cX7_mails 196 = .ok (.iadd, 1) := by decide +kernel
theorem dX7_mails_197 : decode cX7_mails 197 = .ok (.aload_n 0, 1) := by decide +kernel
theorem dX7_mails_198 : decode cX7_mails 198 = .ok (.getfield 45, 3) := by decide +kernel
theorem dX7_mails_201 : decode cX7_mails 201 = .ok (.iload_n 1, 1) := by decide +kernel
theorem dX7_mails_202 : decode cX7_mails 202 = .ok (.iaload, 1) := by decide +kernel
theorem dX7_mails_203 : decode cX7_mails 203 = .ok (.if_icmp .ge 37, 3) := by decide +kernel
theorem dX7_mails_206 : decode cX7_mails 206 = .ok (.aload_n 0, 1) := by decide +kernel
theorem dX7_mails_207 : decode cX7_mails 207 = .ok (.sipush 480, 3) := by decide +kernel
theorem dX7_mails_210 : decode cX7_mails 210 = .ok (.bipush 40, 2) := by decide +kernel
theorem dX7_mails_212 : decode cX7_mails 212 = .ok (.iload_n 1, 1) := by decide +kernel
theorem dX7_mails_213 : decode cX7_mails 213 = .ok (.imul, 1) := by decide +kernel
theorem dX7_mails_214 : decode cX7_mails 214 = .ok (.iadd, 1) := by decide +kernel
theorem dX7_mails_215 : decode cX7_mails 215 = .ok (.iload 9, 2) := by decide +kernel
theorem dX7_mails_217 : decode cX7_mails 217 = .ok (.iadd, 1) := by decide +kernel
theorem dX7_mails_218 : decode cX7_mails 218 = .ok (.sipush 480, 3) := by decide +kernel
theorem dX7_mails_221 : decode cX7_mails 221 = .ok (.bipush 40, 2) := by decide +kernel
theorem dX7_mails_223 : decode cX7_mails 223 = .ok (.iload_n 1, 1) := by decide +kernel
theorem dX7_mails_224 : decode cX7_mails 224 = .ok (.imul, 1) := by decide +kernel
theorem dX7_mails_225 : decode cX7_mails 225 = .ok (.iadd, 1) := by decide +kernel
theorem dX7_mails_226 : decode cX7_mails 226 = .ok (.iload 9, 2) := by decide +kernel
theorem dX7_mails_228 : decode cX7_mails 228 = .ok (.iadd, 1) := by decide +kernel
theorem dX7_mails_229 : decode cX7_mails 229 = .ok (.iconst 1, 1) := by decide +kernel
theorem dX7_mails_230 : decode cX7_mails 230 = .ok (.iadd, 1) := by decide +kernel
theorem dX7_mails_231 : decode cX7_mails 231 = .ok (.invokevirtual 136, 3) := by decide +kernel
theorem dX7_mails_234 : decode cX7_mails 234 = .ok (.iinc 9 1, 3) := by decide +kernel
theorem dX7_mails_237 : decode cX7_mails 237 = .ok (.goto (-44), 3) := by decide +kernel
theorem dX7_mails_240 : decode cX7_mails 240 = .ok (.aload_n 0, 1) := by decide +kernel
theorem dX7_mails_241 : decode cX7_mails 241 = .ok (.getfield 45, 3) := by decide +kernel
theorem dX7_mails_244 : decode cX7_mails 244 = .ok (.iload_n 1, 1) := by decide +kernel
theorem dX7_mails_245 : decode cX7_mails 245 = .ok (.dup2, 1) := by decide +kernel
theorem dX7_mails_246 : decode cX7_mails 246 = .ok (.iaload, 1) := by decide +kernel
theorem dX7_mails_247 : decode cX7_mails 247 = .ok (.iload 7, 2) := by decide +kernel
theorem dX7_mails_249 : decode cX7_mails 249 = .ok (.ifCond .eq 7, 3) := by decide +kernel
theorem dX7_mails_252 : decode cX7_mails 252 = .ok (.iconst 1, 1) := by decide +kernel
theorem dX7_mails_253 : decode cX7_mails 253 = .ok (.goto 4, 3) := by decide +kernel
theorem dX7_mails_256 : decode cX7_mails 256 = .ok (.iconst 0, 1) := by decide +kernel
theorem dX7_mails_257 : decode cX7_mails 257 = .ok (.isub, 1) := by decide +kernel
theorem dX7_mails_258 : decode cX7_mails 258 = .ok (.iastore, 1) := by decide +kernel
theorem dX7_mails_259 : decode cX7_mails 259 = .ok (.aload_n 0, 1) := by decide +kernel
theorem dX7_mails_260 : decode cX7_mails 260 = .ok (.getfield 48, 3) := by decide +kernel
theorem dX7_mails_263 : decode cX7_mails 263 = .ok (.iload_n 1, 1) := by decide +kernel
theorem dX7_mails_264 : decode cX7_mails 264 = .ok (.iconst 0, 1) := by decide +kernel
theorem dX7_mails_265 : decode cX7_mails 265 = .ok (.iastore, 1) := by decide +kernel
theorem dX7_mails_266 : decode cX7_mails 266 = .ok (.goto 185, 3) := by decide +kernel
theorem dX7_mails_269 : decode cX7_mails 269 = .ok (.aload_n 0, 1) := by decide +kernel
theorem dX7_mails_270 : decode cX7_mails 270 = .ok (.getfield 48, 3) := by decide +kernel
theorem dX7_mails_273 : decode cX7_mails 273 = .ok (.iload_n 1, 1) := by decide +kernel
theorem dX7_mails_274 : decode cX7_mails 274 = .ok (.dup2, 1) := by decide +kernel
theorem dX7_mails_275 : decode cX7_mails 275 = .ok (.iaload, 1) := by decide +kernel
theorem dX7_mails_276 : decode cX7_mails 276 = .ok (.iload 7, 2) := by decide +kernel
theorem dX7_mails_278 : decode cX7_mails 278 = .ok (.ifCond .eq 7, 3) := by decide +kernel
theorem dX7_mails_281 : decode cX7_mails 281 = .ok (.iconst 1, 1) := by decide +kernel
theorem dX7_mails_282 : decode cX7_mails 282 = .ok (.goto 4, 3) := by decide +kernel
theorem dX7_mails_285 : decode cX7_mails 285 = .ok (.iconst 0, 1) := by decide +kernel
theorem dX7_mails_286 : decode cX7_mails 286 = .ok (.iadd, 1) := by decide +kernel
theorem dX7_mails_287 : decode cX7_mails 287 = .ok (.iastore, 1) := by decide +kernel
theorem dX7_mails_288 : decode cX7_mails 288 = .ok (.goto 163, 3) := by decide +kernel
theorem dX7_mails_291 : decode cX7_mails 291 = .ok (.iload 7, 2) := by decide +kernel
theorem dX7_mails_293 : decode cX7_mails 293 = .ok (.ifCond .eq 14, 3) := by decide +kernel
theorem dX7_mails_296 : decode cX7_mails 296 = .ok (.aload_n 0, 1) := by decide +kernel
theorem dX7_mails_297 : decode cX7_mails 297 = .ok (.getfield 32, 3) := by decide +kernel
theorem dX7_mails_300 : decode cX7_mails 300 = .ok (.iload_n 1, 1) := by decide +kernel
theorem dX7_mails_301 : decode cX7_mails 301 = .ok (.iload 6, 2) := by decide +kernel
theorem dX7_mails_303 : decode cX7_mails 303 = .ok (.iastore, 1) := by decide +kernel
theorem dX7_mails_304 : decode cX7_mails 304 = .ok (.goto 147, 3) := by decide +kernel
theorem dX7_mails_307 : decode cX7_mails 307 = .ok (.aload_n 0, 1) := by decide +kernel
theorem dX7_mails_308 : decode cX7_mails 308 = .ok (.iload_n 1, 1) := by decide +kernel
theorem dX7_mails_309 : decode cX7_mails 309 = .ok (.iload 6, 2) := by decide +kernel
theorem dX7_mails_311 : decode cX7_mails 311 = .ok (.invokevirtual 248, 3) := by decide +kernel
theorem dX7_mails_314 : decode cX7_mails 314 = .ok (.goto 137, 3) := by decide +kernel
theorem dX7_mails_317 : decode cX7_mails 317 = .ok (.iload 7, 2) := by decide +kernel
theorem dX7_mails_319 : decode cX7_mails 319 = .ok (.ifCond .eq 14, 3) := by decide +kernel
theorem dX7_mails_322 : decode cX7_mails 322 = .ok (.aload_n 0, 1) := by decide +kernel
theorem dX7_mails_323 : decode cX7_mails 323 = .ok (.getfield 32, 3) := by decide +kernel
theorem dX7_mails_326 : decode cX7_mails 326 = .ok (.iload_n 1, 1) := by decide +kernel
theorem dX7_mails_327 : decode cX7_mails 327 = .ok (.iload 6, 2) := by decide +kernel
theorem dX7_mails_329 : decode cX7_mails 329 = .ok (.iastore, 1) := by decide +kernel
theorem dX7_mails_330 : decode cX7_mails 330 = .ok (.goto 121, 3) := by decide +kernel
theorem dX7_mails_333 : decode cX7_mails 333 = .ok (.aload_n 0, 1) := by decide +kernel
theorem dX7_mails_334 : decode cX7_mails 334 = .ok (.iload_n 1, 1) := by decide +kernel
theorem dX7_mails_335 : decode cX7_mails 335 = .ok (.aload_n 0, 1) := by decide +kernel
theorem dX7_mails_336 : decode cX7_mails 336 = .ok (.iload 4, 2) := by decide +kernel
theorem dX7_mails_338 : decode cX7_mails 338 = .ok (.iconst 0, 1) := by decide +kernel
theorem dX7_mails_339 : decode cX7_mails 339 = .ok (.invokevirtual 178, 3) := by decide +kernel
theorem dX7_mails_342 : decode cX7_mails 342 = .ok (.ifCond .ne 7, 3) := by decide +kernel
theorem dX7_mails_345 : decode cX7_mails 345 = .ok (.iconst 1, 1) := by decide +kernel
theorem dX7_mails_346 : decode cX7_mails 346 = .ok (.goto 4, 3) := by decide +kernel
theorem dX7_mails_349 : decode cX7_mails 349 = .ok (.iconst 0, 1) := by decide +kernel
theorem dX7_mails_350 : decode cX7_mails 350 = .ok (.invokevirtual 202, 3) := by decide +kernel
theorem dX7_mails_353 : decode cX7_mails 353 = .ok (.ifCond .eq 6, 3) := by decide +kernel
theorem dX7_mails_356 : decode cX7_mails 356 = .ok (.goto 95, 3) := by decide +kernel
theorem dX7_mails_359 : decode cX7_mails 359 = .ok (.aload_n 0, 1) := by decide +kernel
theorem dX7_mails_360 : decode cX7_mails 360 = .ok (.iload 4, 2) := by decide +kernel
theorem dX7_mails_362 : decode cX7_mails 362 = .ok (.invokevirtual 181, 3) := by decide +kernel
theorem dX7_mails_365 : decode cX7_mails 365 = .ok (.iconst 1, 1) := by decide +kernel
theorem dX7_mails_366 : decode cX7_mails 366 = .ok (.if_icmp .ge 21, 3) := by decide +kernel
theorem dX7_mails_369 : decode cX7_mails 369 = .ok (.aload_n 0, 1) := by decide +kernel
theorem dX7_mails_370 : decode cX7_mails 370 = .ok (.getfield 32, 3) := by decide +kernel
theorem dX7_mails_373 : decode cX7_mails 373 = .ok (.iload_n 1, 1) := by decide +kernel
theorem dX7_mails_374 : decode cX7_mails 374 = .ok (.iload 5, 2) := by decide +kernel
theorem dX7_mails_376 : decode cX7_mails 376 = .ok (.iastore, 1) := by decide +kernel
theorem dX7_mails_377 : decode cX7_mails 377 = .ok (.aload_n 0, 1) := by decide +kernel
theorem dX7_mails_378 : decode cX7_mails 378 = .ok (.getfield 48, 3) := by decide +kernel
theorem dX7_mails_381 : decode cX7_mails 381 = .ok (.iload_n 1, 1) := by decide +kernel
theorem dX7_mails_382 : decode cX7_mails 382 = .ok (.iconst 0, 1) := by decide +kernel
theorem dX7_mails_383 : decode cX7_mails 383 = .ok (.iastore, 1) := by decide +kernel
theorem dX7_mails_384 : decode cX7_mails 384 = .ok (.goto 67, 3) := by decide +kernel
theorem dX7_mails_387 : decode cX7_mails 387 = .ok (.aload_n 0, 1) := by decide +kernel
theorem dX7_mails_388 : decode cX7_mails 388 = .ok (.iload_n 1, 1) := by decide +kernel
theorem dX7_mails_389 : decode cX7_mails 389 = .ok (.iload 6, 2) := by decide +kernel
theorem dX7_mails_391 : decode cX7_mails 391 = .ok (.invokevirtual 248, 3) := by decide +kernel
theorem dX7_mails_394 : decode cX7_mails 394 = .ok (.aload_n 0, 1) := by decide +kernel
theorem dX7_mails_395 : decode cX7_mails 395 = .ok (.getfield 72, 3) := by decide +kernel
theorem dX7_mails_398 : decode cX7_mails 398 = .ok (.iload_n 1, 1) := by decide +kernel
theorem dX7_mails_399 : decode cX7_mails 399 = .ok (.iload 5, 2) := by decide +kernel
theorem dX7_mails_401 : decode cX7_mails 401 = .ok (.iastore, 1) := by decide +kernel
theorem dX7_mails_402 : decode cX7_mails 402 = .ok (.aload_n 0, 1) := by decide +kernel
theorem dX7_mails_403 : decode cX7_mails 403 = .ok (.getfield 251, 3) := by decide +kernel
theorem dX7_mails_406 : decode cX7_mails 406 = .ok (.i2l, 1) := by decide +kernel
theorem dX7_mails_407 : decode cX7_mails 407 = .ok (.aload_n 0, 1) := by decide +kernel
theorem dX7_mails_408 : decode cX7_mails 408 = .ok (.iload 4, 2) := by decide +kernel
theorem dX7_mails_410 : decode cX7_mails 410 = .ok (.invokevirtual 181, 3) := by decide +kernel
theorem dX7_mails_413 : decode cX7_mails 413 = .ok (.i2l, 1) := by decide +kernel
theorem dX7_mails_414 : decode cX7_mails 414 = .ok (.ladd, 1) := by decide +kernel
theorem dX7_mails_415 : decode cX7_mails 415 = .ok (.lstore 9, 2) := by decide +kernel
theorem dX7_mails_417 : decode cX7_mails 417 = .ok (.aload_n 0, 1) := by decide +kernel
theorem dX7_mails_418 : decode cX7_mails 418 = .ok (.getfield 75, 3) := by decide +kernel
theorem dX7_mails_421 : decode cX7_mails 421 = .ok (.iload_n 1, 1) := by decide +kernel
theorem dX7_mails_422 : decode cX7_mails 422 = .ok (.lload 9, 2) := by decide +kernel
theorem dX7_mails_424 : decode cX7_mails 424 = .ok (.ldc2_w 254, 3) := by decide +kernel
theorem dX7_mails_427 : decode cX7_mails 427 = .ok (.lcmp, 1) := by decide +kernel
theorem dX7_mails_428 : decode cX7_mails 428 = .ok (.ifCond .le 9, 3) := by decide +kernel
theorem dX7_mails_431 : decode cX7_mails 431 = .ok (.ldc_w 256, 3) := by decide +kernel
theorem dX7_mails_434 : decode cX7_mails 434 = .ok (.goto 6, 3) := by decide +kernel
theorem dX7_mails_437 : decode cX7_mails 437 = .ok (.lload 9, 2) := by decide +kernel
theorem dX7_mails_439 : decode cX7_mails 439 = .ok (.l2i, 1) := by decide +kernel
theorem dX7_mails_440 : decode cX7_mails 440 = .ok (.iastore, 1) := by decide +kernel
theorem dX7_mails_441 : decode cX7_mails 441 = .ok (.aload_n 0, 1) := by decide +kernel
theorem dX7_mails_442 : decode cX7_mails 442 = .ok (.getfield 78, 3) := by decide +kernel
theorem dX7_mails_445 : decode cX7_mails 445 = .ok (.iload_n 1, 1) := by decide +kernel
theorem dX7_mails_446 : decode cX7_mails 446 = .ok (.iconst 1, 1) := by decide +kernel
theorem dX7_mails_447 : decode cX7_mails 447 = .ok (.bastore, 1) := by decide +kernel
theorem dX7_mails_448 : decode cX7_mails 448 = .ok (.goto 3, 3) := by decide +kernel
theorem dX7_mails_451 : decode cX7_mails 451 = .ok (.return_, 1) := by decide +kernel
theorem dX7_others_0 : decode cX7_others 0 = .ok (.iload_n 2, 1) := by decide +kernel
theorem dX7_others_1 : decode cX7_others 1 = .ok (.tableswitch 486 29 35 #[43, 43, 150, 311, 366, 384, 439], 43) := by decide +kernel
theorem dX7_others_44 : decode cX7_others 44 = .ok (.aload_n 0, 1) := by decide +kernel
theorem dX7_others_45 : decode cX7_others 45 = .ok (.iload_n 1, 1) := by decide +kernel
theorem dX7_others_46 : decode cX7_others 46 = .ok (.aload_n 0, 1) := by decide +kernel
theorem dX7_others_47 : decode cX7_others 47 = .ok (.iload 5, 2) := by decide +kernel
theorem dX7_others_49 : decode cX7_others 49 = .ok (.iconst 2, 1) := by decide +kernel
theorem dX7_others_50 : decode cX7_others 50 = .ok (.invokevirtual 178, 3) := by decide +kernel
theorem dX7_others_53 : decode cX7_others 53 = .ok (.ifCond .ne 7, 3) := by decide +kernel
theorem dX7_others_56 : decode cX7_others 56 = .ok (.iconst 1, 1) := by decide +kernel
theorem dX7_others_57 : decode cX7_others 57 = .ok (.goto 4, 3) := by decide +kernel
theorem dX7_others_60 : decode cX7_others 60 = .ok (.iconst 0, 1) := by decide +kernel
theorem dX7_others_61 : decode cX7_others 61 = .ok (.invokevirtual 202, 3) := by decide +kernel
theorem dX7_others_64 : decode cX7_others 64 = .ok (.ifCond .eq 6, 3) := by decide +kernel
theorem dX7_others_67 : decode cX7_others 67 = .ok (.goto 483, 3) := by decide +kernel
theorem dX7_others_70 : decode cX7_others 70 = .ok (.aload_n 0, 1) := by decide +kernel
theorem dX7_others_71 : decode cX7_others 71 = .ok (.iload 5, 2) := by decide +kernel
theorem dX7_others_73 : decode cX7_others 73 = .ok (.invokevirtual 181, 3) := by decide +kernel
theorem dX7_others_76 : decode cX7_others 76 = .ok (.iconst 1, 1) := by decide +kernel
theorem dX7_others_77 : decode cX7_others 77 = .ok (.isub, 1) := by decide +kernel
theorem dX7_others_78 : decode cX7_others 78 = .ok (.istore 7, 2) := by decide +kernel
theorem dX7_others_80 : decode cX7_others 80 = .ok (.iload 7, 2) := by decide +kernel
theorem dX7_others_82 : decode cX7_others 82 = .ok (.iload_n 1, 1) := by decide +kernel
theorem dX7_others_83 : decode cX7_others 83 = .ok (.if_icmp .ne 6, 3) := by decide +kernel
theorem dX7_others_86 : decode cX7_others 86 = .ok (.goto 464, 3) := by decide +kernel
theorem dX7_others_89 : decode cX7_others 89 = .ok (.iload_n 2, 1) := by decide +kernel
theorem dX7_others_90 : decode cX7_others 90 = .ok (.bipush 30, 2) := by decide +kernel
theorem dX7_others_92 : decode cX7_others 92 = .ok (.if_icmp .ne 14, 3) := by decide +kernel
theorem dX7_others_95 : decode cX7_others 95 = .ok (.aload_n 0, 1) := by decide +kernel
theorem dX7_others_96 : decode cX7_others 96 = .ok (.iload_n 1, 1) := by decide +kernel
theorem dX7_others_97 : decode cX7_others 97 = .ok (.iload 7, 2) := by decide +kernel
theorem dX7_others_99 : decode cX7_others 99 = .ok (.iconst 0, 1) := by decide +kernel
theorem dX7_others_100 : decode cX7_others 100 = .ok (.invokevirtual 160, 3) := by decide +kernel
theorem dX7_others_103 : decode cX7_others 103 = .ok (.goto 447, 3) := by decide +kernel
theorem dX7_others_106 : decode cX7_others 106 = .ok (.aload_n 0, 1) := by decide +kernel
theorem dX7_others_107 : decode cX7_others 107 = .ok (.getfield 29, 3) := by decide +kernel
theorem dX7_others_110 : decode cX7_others 110 = .ok (.iload 7, 2) := by decide +kernel
theorem dX7_others_112 : decode cX7_others 112 = .ok (.iaload, 1) := by decide +kernel
theorem dX7_others_113 : decode cX7_others 113 = .ok (.iconst 2, 1) := by decide +kernel
theorem dX7_others_114 : decode cX7_others 114 = .ok (.if_icmp .eq 14, 3) := by decide +kernel
theorem dX7_others_117 : decode cX7_others 117 = .ok (.aload_n 0, 1) := by decide +kernel
theorem dX7_others_118 : decode cX7_others 118 = .ok (.iload_n 1, 1) := by decide +kernel
theorem dX7_others_119 : decode cX7_others 119 = .ok (.iload 7, 2) := by decide +kernel
theorem dX7_others_121 : decode cX7_others 121 = .ok (.iconst 1, 1) := by decide +kernel
theorem dX7_others_122 : decode cX7_others 122 = .ok (.invokevirtual 160, 3) := by decide +kernel
theorem dX7_others_125 : decode cX7_others 125 = .ok (.goto 425, 3) := by decide +kernel
theorem dX7_others_128 : decode cX7_others 128 = .ok (.aload_n 0, 1) := by decide +kernel
theorem dX7_others_129 : decode cX7_others 129 = .ok (.sipush 2944, 3) := by decide +kernel
theorem dX7_others_132 : decode cX7_others 132 = .ok (.iconst 1, 1) := by decide +kernel
theorem dX7_others_133 : decode cX7_others 133 = .ok (.iconst 3, 1) := by decide +kernel
theorem dX7_others_134 : decode cX7_others 134 = .ok (.invokevirtual 124, 3) := by decide +kernel
theorem dX7_others_137 : decode cX7_others 137 = .ok (.aload_n 0, 1) := by decide +kernel
theorem dX7_others_138 : decode cX7_others 138 = .ok (.iload_n 1, 1) := by decide +kernel
theorem dX7_others_139 : decode cX7_others 139 = .ok (.iload 7, 2) := by decide +kernel
theorem dX7_others_141 : decode cX7_others 141 = .ok (.sipush 2944, 3) := by decide +kernel
theorem dX7_others_144 : decode cX7_others 144 = .ok (.iconst 0, 1) := by decide +kernel
theorem dX7_others_145 : decode cX7_others 145 = .ok (.invokevirtual 164, 3) := by decide +kernel
theorem dX7_others_148 : decode cX7_others 148 = .ok (.goto 402, 3) := by decide +kernel
theorem dX7_others_151 : decode cX7_others 151 = .ok (.aload_n 0, 1) := by decide +kernel
theorem dX7_others_152 : decode cX7_others 152 = .ok (.iload_n 1, 1) := by decide +kernel
theorem dX7_others_153 : decode cX7_others 153 = .ok (.aload_n 0, 1) := by decide +kernel
theorem dX7_others_154 : decode cX7_others 154 = .ok (.iload 6, 2) := by decide +kernel
theorem dX7_others_156 : decode cX7_others 156 = .ok (.iconst 2, 1) := by decide +kernel
theorem dX7_others_157 : decode cX7_others 157 = .ok (.invokevirtual 178, 3) := by decide +kernel
theorem dX7_others_160 : decode cX7_others 160 = .ok (.ifCond .ne 7, 3) := by decide +kernel
theorem dX7_others_163 : decode cX7_others 163 = .ok (.iconst 1, 1) := by decide +kernel
theorem dX7_others_164 : decode cX7_others 164 = .ok (.goto 4, 3) := by decide +kernel
theorem dX7_others_167 : decode cX7_others 167 = .ok (.iconst 0, 1) := by decide +kernel
theorem dX7_others_168 : decode cX7_others 168 = .ok (.invokevirtual 202, 3) := by decide +kernel
theorem dX7_others_171 : decode cX7_others 171 = .ok (.ifCond .eq 6, 3) := by decide +kernel
theorem dX7_others_174 : decode cX7_others 174 = .ok (.goto 376, 3) := by decide +kernel
theorem dX7_others_177 : decode cX7_others 177 = .ok (.aload_n 0, 1) := by decide +kernel
theorem dX7_others_178 : decode cX7_others 178 = .ok (.iload 6, 2) := by decide +kernel
theorem dX7_others_180 : decode cX7_others 180 = .ok (.invokevirtual 181, 3) := by decide +kernel
theorem dX7_others_183 : decode cX7_others 183 = .ok (.iconst 1, 1) := by decide +kernel
theorem dX7_others_184 : decode cX7_others 184 = .ok (.isub, 1) := by decide +kernel
theorem dX7_others_185 : decode cX7_others 185 = .ok (.istore 7, 2) := by decide +kernel
theorem dX7_others_187 : decode cX7_others 187 = .ok (.aload_n 0, 1) := by decide +kernel
theorem dX7_others_188 : decode cX7_others 188 = .ok (.getfield 151, 3) := by decide +kernel
theorem dX7_others_191 : decode cX7_others 191 = .ok (.sipush 200, 3) := by decide +kernel
theorem dX7_others_194 : decode cX7_others 194 = .ok (.if_icmp .ne 13, 3) := by decide +kernel
theorem dX7_others_197 : decode cX7_others 197 = .ok (.aload_n 0, 1) := by decide +kernel
theorem dX7_others_198 : decode cX7_others 198 = .ok (.iload_n 1, 1) := by decide +kernel
theorem dX7_others_199 : decode cX7_others 199 = .ok (.iconst 1, 1) := by decide +kernel
theorem dX7_others_200 : decode cX7_others 200 = .ok (.iconst 5, 1) := by decide +kernel
theorem dX7_others_201 : decode cX7_others 201 = .ok (.invokevirtual 193, 3) := by decide +kernel
theorem dX7_others_204 : decode cX7_others 204 = .ok (.goto 346, 3) := by decide +kernel
theorem dX7_others_207 : decode cX7_others 207 = .ok (.aload_n 0, 1) := by decide +kernel
theorem dX7_others_208 : decode cX7_others 208 = .ok (.dup, 1) := by decide +kernel
theorem dX7_others_209 : decode cX7_others 209 = .ok (.getfield 257, 3) := by decide +kernel
theorem dX7_others_212 : decode cX7_others 212 = .ok (.iconst 1, 1) := by decide +kernel
theorem dX7_others_213 : decode cX7_others 213 = .ok (.iadd, 1) := by decide +kernel
theorem dX7_others_214 : decode cX7_others 214 = .ok (.putfield 257, 3) := by decide +kernel
theorem dX7_others_217 : decode cX7_others 217 = .ok (.aload_n 0, 1) := by decide +kernel
theorem dX7_others_218 : decode cX7_others 218 = .ok (.iload 5, 2) := by decide +kernel
theorem dX7_others_220 : decode cX7_others 220 = .ok (.iconst 0, 1) := by decide +kernel
theorem dX7_others_221 : decode cX7_others 221 = .ok (.aload_n 0, 1) := by decide +kernel
theorem dX7_others_222 : decode cX7_others 222 = .ok (.getfield 257, 3) := by decide +kernel
theorem dX7_others_225 : decode cX7_others 225 = .ok (.invokevirtual 124, 3) := by decide +kernel
theorem dX7_others_228 : decode cX7_others 228 = .ok (.aload_n 0, 1) := by decide +kernel
theorem dX7_others_229 : decode cX7_others 229 = .ok (.getfield 29, 3) := by decide +kernel
theorem dX7_others_232 : decode cX7_others 232 = .ok (.iload 7, 2) := by decide +kernel
theorem dX7_others_234 : decode cX7_others 234 = .ok (.iaload, 1) := by decide +kernel
theorem dX7_others_235 : decode cX7_others 235 = .ok (.iconst 2, 1) := by decide +kernel
theorem dX7_others_236 : decode cX7_others 236 = .ok (.if_icmp .eq 50, 3) := by decide +kernel
theorem dX7_others_239 : decode cX7_others 239 = .ok (.aload_n 0, 1) := by decide +kernel
theorem dX7_others_240 : decode cX7_others 240 = .ok (.getfield 87, 3) := by decide +kernel
theorem dX7_others_243 : decode cX7_others 243 = .ok (.aload_n 0, 1) := by decide +kernel
theorem dX7_others_244 : decode cX7_others 244 = .ok (.getfield 151, 3) := by decide +kernel
theorem dX7_others_247 : decode cX7_others 247 = .ok (.iload_n 1, 1) := by decide +kernel
theorem dX7_others_248 : decode cX7_others 248 = .ok (.iastore, 1) := by decide +kernel
theorem dX7_others_249 : decode cX7_others 249 = .ok (.aload_n 0, 1) := by decide +kernel
theorem dX7_others_250 : decode cX7_others 250 = .ok (.getfield 90, 3) := by decide +kernel
theorem dX7_others_253 : decode cX7_others 253 = .ok (.aload_n 0, 1) := by decide +kernel
theorem dX7_others_254 : decode cX7_others 254 = .ok (.getfield 151, 3) := by decide +kernel
theorem dX7_others_257 : decode cX7_others 257 = .ok (.iload 7, 2) := by decide +kernel
theorem dX7_others_259 : decode cX7_others 259 = .ok (.iastore, 1) := by decide +kernel
theorem dX7_others_260 : decode cX7_others 260 = .ok (.aload_n 0, 1) := by decide +kernel
theorem dX7_others_261 : decode cX7_others 261 = .ok (.getfield 93, 3) := by decide +kernel
theorem dX7_others_264 : decode cX7_others 264 = .ok (.aload_n 0, 1) := by decide +kernel
theorem dX7_others_265 : decode cX7_others 265 = .ok (.getfield 151, 3) := by decide +kernel
theorem dX7_others_268 : decode cX7_others 268 = .ok (.aload_n 0, 1) := by decide +kernel
theorem dX7_others_269 : decode cX7_others 269 = .ok (.getfield 257, 3) := by decide +kernel
theorem dX7_others_272 : decode cX7_others 272 = .ok (.iastore, 1) := by decide +kernel
theorem dX7_others_273 : decode cX7_others 273 = .ok (.aload_n 0, 1) := by decide +kernel
theorem dX7_others_274 : decode cX7_others 274 = .ok (.dup, 1) := by decide +kernel
theorem dX7_others_275 : decode cX7_others 275 = .ok (.getfield 151, 3) := by decide +kernel
theorem dX7_others_278 : decode cX7_others 278 = .ok (.iconst 1, 1) := by decide +kernel
theorem dX7_others_279 : decode cX7_others 279 = .ok (.iadd, 1) := by decide +kernel
theorem dX7_others_280 : decode cX7_others 280 = .ok (.putfield 151, 3) := by decide +kernel
theorem dX7_others_283 : decode cX7_others 283 = .ok (.goto 267, 3) := by decide +kernel
theorem dX7_others_286 : decode cX7_others 286 = .ok (.aload_n 0, 1) := by decide +kernel
theorem dX7_others_287 : decode cX7_others 287 = .ok (.sipush 2944, 3) := by decide +kernel
theorem dX7_others_290 : decode cX7_others 290 = .ok (.iconst 1, 1) := by decide +kernel
theorem dX7_others_291 : decode cX7_others 291 = .ok (.iconst 3, 1) := by decide +kernel
theorem dX7_others_292 : decode cX7_others 292 = .ok (.invokevirtual 124, 3) := by decide +kernel
theorem dX7_others_295 : decode cX7_others 295 = .ok (.aload_n 0, 1) := by decide +kernel
theorem dX7_others_296 : decode cX7_others 296 = .ok (.iload_n 1, 1) := by decide +kernel
theorem dX7_others_297 : decode cX7_others 297 = .ok (.aload_n 0, 1) := by decide +kernel
theorem dX7_others_298 : decode cX7_others 298 = .ok (.getfield 257, 3) := by decide +kernel
theorem dX7_others_301 : decode cX7_others 301 = .ok (.iload 7, 2) := by decide +kernel
theorem dX7_others_303 : decode cX7_others 303 = .ok (.sipush 2944, 3) := by decide +kernel
theorem dX7_others_306 : decode cX7_others 306 = .ok (.invokevirtual 168, 3) := by decide +kernel
theorem dX7_others_309 : decode cX7_others 309 = .ok (.goto 241, 3) := by decide +kernel
theorem dX7_others_312 : decode cX7_others 312 = .ok (.aload_n 0, 1) := by decide +kernel
theorem dX7_others_313 : decode cX7_others 313 = .ok (.iload_n 1, 1) := by decide +kernel
theorem dX7_others_314 : decode cX7_others 314 = .ok (.aload_n 0, 1) := by decide +kernel
theorem dX7_others_315 : decode cX7_others 315 = .ok (.iload 5, 2) := by decide +kernel
theorem dX7_others_317 : decode cX7_others 317 = .ok (.iconst 2, 1) := by decide +kernel
theorem dX7_others_318 : decode cX7_others 318 = .ok (.invokevirtual 178, 3) := by decide +kernel
theorem dX7_others_321 : decode cX7_others 321 = .ok (.ifCond .ne 7, 3) := by decide +kernel
theorem dX7_others_324 : decode cX7_others 324 = .ok (.iconst 1, 1) := by decide +kernel
theorem dX7_others_325 : decode cX7_others 325 = .ok (.goto 4, 3) := by decide +kernel
theorem dX7_others_328 : decode cX7_others 328 = .ok (.iconst 0, 1) := by decide +kernel
theorem dX7_others_329 : decode cX7_others 329 = .ok (.invokevirtual 202, 3) := by decide +kernel
theorem dX7_others_332 : decode cX7_others 332 = .ok (.ifCond .eq 6, 3) := by decide +kernel
theorem dX7_others_335 : decode cX7_others 335 = .ok (.goto 215, 3) := by decide +kernel
theorem dX7_others_338 : decode cX7_others 338 = .ok (.aload_n 0, 1) := by decide +kernel
theorem dX7_others_339 : decode cX7_others 339 = .ok (.sipush 2944, 3) := by decide +kernel
theorem dX7_others_342 : decode cX7_others 342 = .ok (.iload 6, 2) := by decide +kernel
theorem dX7_others_344 : decode cX7_others 344 = .ok (.invokevirtual 136, 3) := by decide +kernel
theorem dX7_others_347 : decode cX7_others 347 = .ok (.aload_n 0, 1) := by decide +kernel
theorem dX7_others_348 : decode cX7_others 348 = .ok (.aload_n 0, 1) := by decide +kernel
theorem dX7_others_349 : decode cX7_others 349 = .ok (.iload 5, 2) := by decide +kernel
theorem dX7_others_351 : decode cX7_others 351 = .ok (.invokevirtual 181, 3) := by decide +kernel
theorem dX7_others_354 : decode cX7_others 354 = .ok (.iconst 1, 1) := by decide +kernel
theorem dX7_others_355 : decode cX7_others 355 = .ok (.isub, 1) := by decide +kernel
theorem dX7_others_356 : decode cX7_others 356 = .ok (.iload_n 1, 1) := by decide +kernel
theorem dX7_others_357 : decode cX7_others 357 = .ok (.sipush 2944, 3) := by decide +kernel
theorem dX7_others_360 : decode cX7_others 360 = .ok (.iconst 1, 1) := by decide +kernel
theorem dX7_others_361 : decode cX7_others 361 = .ok (.invokevirtual 164, 3) := by decide +kernel
theorem dX7_others_364 : decode cX7_others 364 = .ok (.goto 186, 3) := by decide +kernel
theorem dX7_others_367 : decode cX7_others 367 = .ok (.aload_n 0, 1) := by decide +kernel
theorem dX7_others_368 : decode cX7_others 368 = .ok (.getfield 41, 3) := by decide +kernel
theorem dX7_others_371 : decode cX7_others 371 = .ok (.iload_n 1, 1) := by decide +kernel
theorem dX7_others_372 : decode cX7_others 372 = .ok (.iload_n 3, 1) := by decide +kernel
theorem dX7_others_373 : decode cX7_others 373 = .ok (.ifCond .eq 7, 3) := by decide +kernel
theorem dX7_others_376 : decode cX7_others 376 = .ok (.iconst 1, 1) := by decide +kernel
theorem dX7_others_377 : decode cX7_others 377 = .ok (.goto 4, 3) := by decide +kernel
