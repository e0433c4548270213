theorem dX10_init_0 : decode cX10_init 0 = .ok (.aload_n 0, 1) := by decide +kernel
theorem dX10_init_1 : decode cX10_init 1 = .ok (.invokespecial 3, 3) := by decide +kernel
theorem dX10_init_4 : decode cX10_init 4 = .ok (.aload_n 0, 1) := by decide +kernel
theorem dX10_init_5 : decode cX10_init 5 = .ok (.sipush 800, 3) := by decide +kernel
theorem dX10_init_8 : decode cX10_init 8 = .ok (.newarray .int, 2) := by decide +kernel
theorem dX10_init_10 : decode cX10_init 10 = .ok (.putfield 11, 3) := by decide +kernel
theorem dX10_init_13 : decode cX10_init 13 = .ok (.aload_n 0, 1) := by decide +kernel
theorem dX10_init_14 : decode cX10_init 14 = .ok (.sipush 800, 3) := by decide +kernel
theorem dX10_init_17 : decode cX10_init 17 = .ok (.newarray .int, 2) := by decide +kernel
theorem dX10_init_19 : decode cX10_init 19 = .ok (.putfield 15, 3) := by decide +kernel
theorem dX10_init_22 : decode cX10_init 22 = .ok (.aload_n 0, 1) := by decide +kernel
theorem dX10_init_23 : decode cX10_init 23 = .ok (.sipush 800, 3) := by decide +kernel
theorem dX10_init_26 : decode cX10_init 26 = .ok (.newarray .int, 2) := by decide +kernel
theorem dX10_init_28 : decode cX10_init 28 = .ok (.putfield 18, 3) := by decide +kernel
theorem dX10_init_31 : decode cX10_init 31 = .ok (.aload_n 0, 1) := by decide +kernel
theorem dX10_init_32 : decode cX10_init 32 = .ok (.sipush 800, 3) := by decide +kernel
theorem dX10_init_35 : decode cX10_init 35 = .ok (.newarray .int, 2) := by decide +kernel
theorem dX10_init_37 : decode cX10_init 37 = .ok (.putfield 21, 3) := by decide +kernel
theorem dX10_init_40 : decode cX10_init 40 = .ok (.aload_n 0, 1) := by decide +kernel
theorem dX10_init_41 : decode cX10_init 41 = .ok (.sipush 800, 3) := by decide +kernel
theorem dX10_init_44 : decode cX10_init 44 = .ok (.newarray .int, 2) := by decide +kernel
theorem dX10_init_46 : decode cX10_init 46 = .ok (.putfield 24, 3) := by decide +kernel
theorem dX10_init_49 : decode cX10_init 49 = .ok (.aload_n 0, 1) := by decide +kernel
theorem dX10_init_50 : decode cX10_init 50 = .ok (.sipush 2401, 3) := by decide +kernel
theorem dX10_init_53 : decode cX10_init 53 = .ok (.newarray .int, 2) := by decide +kernel
theorem dX10_init_55 : decode cX10_init 55 = .ok (.putfield 27, 3) := by decide +kernel
theorem dX10_init_58 : decode cX10_init 58 = .ok (.aload_n 0, 1) := by decide +kernel
theorem dX10_init_59 : decode cX10_init 59 = .ok (.sipush 2401, 3) := by decide +kernel
theorem dX10_init_62 : decode cX10_init 62 = .ok (.newarray .int, 2) := by decide +kernel
theorem dX10_init_64 : decode cX10_init 64 = .ok (.putfield 30, 3) := by decide +kernel
theorem dX10_init_67 : decode cX10_init 67 = .ok (.aload_n 0, 1) := by decide +kernel
theorem dX10_init_68 : decode cX10_init 68 = .ok (.sipush 800, 3) := by decide +kernel
theorem dX10_init_71 : decode cX10_init 71 = .ok (.newarray .int, 2) := by decide +kernel
theorem dX10_init_73 : decode cX10_init 73 = .ok (.putfield 33, 3) := by decide +kernel
theorem dX10_init_76 : decode cX10_init 76 = .ok (.aload_n 0, 1) := by decide +kernel
theorem dX10_init_77 : decode cX10_init 77 = .ok (.sipush 800, 3) := by decide +kernel
theorem dX10_init_80 : decode cX10_init 80 = .ok (.newarray .int, 2) := by decide +kernel
theorem dX10_init_82 : decode cX10_init 82 = .ok (.putfield 36, 3) := by decide +kernel
theorem dX10_init_85 : decode cX10_init 85 = .ok (.aload_n 0, 1) := by decide +kernel
theorem dX10_init_86 : decode cX10_init 86 = .ok (.iconst 0, 1) := by decide +kernel
theorem dX10_init_87 : decode cX10_init 87 = .ok (.putfield 39, 3) := by decide +kernel
theorem dX10_init_90 : decode cX10_init 90 = .ok (.aload_n 0, 1) := by decide +kernel
theorem dX10_init_91 : decode cX10_init 91 = .ok (.iconst 0, 1) := by decide +kernel
theorem dX10_init_92 : decode cX10_init 92 = .ok (.putfield 43, 3) := by decide +kernel
theorem dX10_init_95 : decode cX10_init 95 = .ok (.aload_n 0, 1) := by decide +kernel
theorem dX10_init_96 : decode cX10_init 96 = .ok (.aload_n 1, 1) := by decide +kernel
theorem dX10_init_97 : decode cX10_init 97 = .ok (.putfield 46, 3) := by decide +kernel
theorem dX10_init_100 : decode cX10_init 100 = .ok (.return_, 1) := by decide +kernel
theorem dX10_wayOf_0 : decode cX10_wayOf 0 = .ok (.aload_n 0, 1) := by decide +kernel
theorem dX10_wayOf_1 : decode cX10_wayOf 1 = .ok (.dup, 1) := by decide +kernel
theorem dX10_wayOf_2 : decode cX10_wayOf 2 = .ok (.getfield 39, 3) := by decide +kernel
theorem dX10_wayOf_5 : decode cX10_wayOf 5 = .ok (.iconst 1, 1) := by decide +kernel
theorem dX10_wayOf_6 : decode cX10_wayOf 6 = .ok (.iadd, 1) := by decide +kernel
theorem dX10_wayOf_7 : decode cX10_wayOf 7 = .ok (.putfield 39, 3) := by decide +kernel
theorem dX10_wayOf_10 : decode cX10_wayOf 10 = .ok (.aload_n 0, 1) := by decide +kernel
theorem dX10_wayOf_11 : decode cX10_wayOf 11 = .ok (.iconst 0, 1) := by decide +kernel
theorem dX10_wayOf_12 : decode cX10_wayOf 12 = .ok (.putfield 43, 3) := by decide +kernel
theorem dX10_wayOf_15 : decode cX10_wayOf 15 = .ok (.aload_n 0, 1) := by decide +kernel
theorem dX10_wayOf_16 : decode cX10_wayOf 16 = .ok (.iload_n 1, 1) := by decide +kernel
theorem dX10_wayOf_17 : decode cX10_wayOf 17 = .ok (.iload_n 2, 1) := by decide +kernel
theorem dX10_wayOf_18 : decode cX10_wayOf 18 = .ok (.iload_n 3, 1) := by decide +kernel
theorem dX10_wayOf_19 : decode cX10_wayOf 19 = .ok (.iadd, 1) := by decide +kernel
theorem dX10_wayOf_20 : decode cX10_wayOf 20 = .ok (.invokevirtual 50, 3) := by decide +kernel
theorem dX10_wayOf_23 : decode cX10_wayOf 23 = .ok (.iconst 0, 1) := by decide +kernel
theorem dX10_wayOf_24 : decode cX10_wayOf 24 = .ok (.istore 4, 2) := by decide +kernel
theorem dX10_wayOf_26 : decode cX10_wayOf 26 = .ok (.iload 4, 2) := by decide +kernel
theorem dX10_wayOf_28 : decode cX10_wayOf 28 = .ok (.aload_n 0, 1) := by decide +kernel
theorem dX10_wayOf_29 : decode cX10_wayOf 29 = .ok (.getfield 43, 3) := by decide +kernel
theorem dX10_wayOf_32 : decode cX10_wayOf 32 = .ok (.if_icmp .ge 50, 3) := by decide +kernel
theorem dX10_wayOf_35 : decode cX10_wayOf 35 = .ok (.iload 4, 2) := by decide +kernel
theorem dX10_wayOf_37 : decode cX10_wayOf 37 = .ok (.aload_n 0, 1) := by decide +kernel
theorem dX10_wayOf_38 : decode cX10_wayOf 38 = .ok (.getfield 27, 3) := by decide +kernel
theorem dX10_wayOf_41 : decode cX10_wayOf 41 = .ok (.arraylength, 1) := by decide +kernel
theorem dX10_wayOf_42 : decode cX10_wayOf 42 = .ok (.if_icmp .ge 40, 3) := by decide +kernel
theorem dX10_wayOf_45 : decode cX10_wayOf 45 = .ok (.aload_n 0, 1) := by decide +kernel
theorem dX10_wayOf_46 : decode cX10_wayOf 46 = .ok (.aload_n 0, 1) := by decide +kernel
theorem dX10_wayOf_47 : decode cX10_wayOf 47 = .ok (.aload_n 0, 1) := by decide +kernel
theorem dX10_wayOf_48 : decode cX10_wayOf 48 = .ok (.getfield 27, 3) := by decide +kernel
theorem dX10_wayOf_51 : decode cX10_wayOf 51 = .ok (.iload 4, 2) := by decide +kernel
theorem dX10_wayOf_53 : decode cX10_wayOf 53 = .ok (.iaload, 1) := by decide +kernel
theorem dX10_wayOf_54 : decode cX10_wayOf 54 = .ok (.invokevirtual 54, 3) := by decide +kernel
theorem dX10_wayOf_57 : decode cX10_wayOf 57 = .ok (.aload_n 0, 1) := by decide +kernel
theorem dX10_wayOf_58 : decode cX10_wayOf 58 = .ok (.aload_n 0, 1) := by decide +kernel
theorem dX10_wayOf_59 : decode cX10_wayOf 59 = .ok (.getfield 30, 3) := by decide +kernel
theorem dX10_wayOf_62 : decode cX10_wayOf 62 = .ok (.iload 4, 2) := by decide +kernel
theorem dX10_wayOf_64 : decode cX10_wayOf 64 = .ok (.iaload, 1) := by decide +kernel
theorem dX10_wayOf_65 : decode cX10_wayOf 65 = .ok (.invokevirtual 54, 3) := by decide +kernel
theorem dX10_wayOf_68 : decode cX10_wayOf 68 = .ok (.invokevirtual 58, 3) := by decide +kernel
theorem dX10_wayOf_71 : decode cX10_wayOf 71 = .ok (.ifCond .ne 5, 3) := by decide +kernel
theorem dX10_wayOf_74 : decode cX10_wayOf 74 = .ok (.iconst 0, 1) := by decide +kernel
theorem dX10_wayOf_75 : decode cX10_wayOf 75 = .ok (.ireturn, 1) := by decide +kernel
theorem dX10_wayOf_76 : decode cX10_wayOf 76 = .ok (.iinc 4 1, 3) := by decide +kernel
theorem dX10_wayOf_79 : decode cX10_wayOf 79 = .ok (.goto (-53), 3) := by decide +kernel
theorem dX10_wayOf_82 : decode cX10_wayOf 82 = .ok (.aload_n 0, 1) := by decide +kernel
theorem dX10_wayOf_83 : decode cX10_wayOf 83 = .ok (.iload_n 1, 1) := by decide +kernel
theorem dX10_wayOf_84 : decode cX10_wayOf 84 = .ok (.invokevirtual 54, 3) := by decide +kernel
theorem dX10_wayOf_87 : decode cX10_wayOf 87 = .ok (.istore 4, 2) := by decide +kernel
theorem dX10_wayOf_89 : decode cX10_wayOf 89 = .ok (.aload_n 0, 1) := by decide +kernel
theorem dX10_wayOf_90 : decode cX10_wayOf 90 = .ok (.iload 4, 2) := by decide +kernel
theorem dX10_wayOf_92 : decode cX10_wayOf 92 = .ok (.invokevirtual 62, 3) := by decide +kernel
theorem dX10_wayOf_95 : decode cX10_wayOf 95 = .ok (.istore 5, 2) := by decide +kernel
theorem dX10_wayOf_97 : decode cX10_wayOf 97 = .ok (.aload_n 0, 1) := by decide +kernel
theorem dX10_wayOf_98 : decode cX10_wayOf 98 = .ok (.iload 4, 2) := by decide +kernel
theorem dX10_wayOf_100 : decode cX10_wayOf 100 = .ok (.invokevirtual 65, 3) := by decide +kernel
theorem dX10_wayOf_103 : decode cX10_wayOf 103 = .ok (.iload 5, 2) := by decide +kernel
theorem dX10_wayOf_105 : decode cX10_wayOf 105 = .ok (.if_icmp .ge 7, 3) := by decide +kernel
theorem dX10_wayOf_108 : decode cX10_wayOf 108 = .ok (.iconst 2, 1) := by decide +kernel
theorem dX10_wayOf_109 : decode cX10_wayOf 109 = .ok (.goto 4, 3) := by decide +kernel
theorem dX10_wayOf_112 : decode cX10_wayOf 112 = .ok (.iconst 1, 1) := by decide +kernel
theorem dX10_wayOf_113 : decode cX10_wayOf 113 = .ok (.ireturn, 1) := by decide +kernel
theorem dX10_addPair_0 : decode cX10_addPair 0 = .ok (.aload_n 0, 1) := by decide +kernel
theorem dX10_addPair_1 : decode cX10_addPair 1 = .ok (.getfield 43, 3) := by decide +kernel
theorem dX10_addPair_4 : decode cX10_addPair 4 = .ok (.aload_n 0, 1) := by decide +kernel
theorem dX10_addPair_5 : decode cX10_addPair 5 = .ok (.getfield 27, 3) := by decide +kernel
theorem dX10_addPair_8 : decode cX10_addPair 8 = .ok (.arraylength, 1) := by decide +kernel
theorem dX10_addPair_9 : decode cX10_addPair 9 = .ok (.if_icmp .ge 33, 3) := by decide +kernel
theorem dX10_addPair_12 : decode cX10_addPair 12 = .ok (.aload_n 0, 1) := by decide +kernel
theorem dX10_addPair_13 : decode cX10_addPair 13 = .ok (.getfield 27, 3) := by decide +kernel
theorem dX10_addPair_16 : decode cX10_addPair 16 = .ok (.aload_n 0, 1) := by decide +kernel
theorem dX10_addPair_17 : decode cX10_addPair 17 = .ok (.getfield 43, 3) := by decide +kernel
theorem dX10_addPair_20 : decode cX10_addPair 20 = .ok (.iload_n 1, 1) := by decide +kernel
theorem dX10_addPair_21 : decode cX10_addPair 21 = .ok (.iastore, 1) := by decide +kernel
theorem dX10_addPair_22 : decode cX10_addPair 22 = .ok (.aload_n 0, 1) := by decide +kernel
theorem dX10_addPair_23 : decode cX10_addPair 23 = .ok (.getfield 30, 3) := by decide +kernel
theorem dX10_addPair_26 : decode cX10_addPair 26 = .ok (.aload_n 0, 1) := by decide +kernel
theorem dX10_addPair_27 : decode cX10_addPair 27 = .ok (.getfield 43, 3) := by decide +kernel
theorem dX10_addPair_30 : decode cX10_addPair 30 = .ok (.iload_n 2, 1) := by decide +kernel
theorem dX10_addPair_31 : decode cX10_addPair 31 = .ok (.iastore, 1) := by decide +kernel
theorem dX10_addPair_32 : decode cX10_addPair 32 = .ok (.aload_n 0, 1) := by decide +kernel
theorem dX10_addPair_33 : decode cX10_addPair 33 = .ok (.dup, 1) := by decide +kernel
theorem dX10_addPair_34 : decode cX10_addPair 34 = .ok (.getfield 43, 3) := by decide +kernel
theorem dX10_addPair_37 : decode cX10_addPair 37 = .ok (.iconst 1, 1) := by decide +kernel
theorem dX10_addPair_38 : decode cX10_addPair 38 = .ok (.iadd, 1) := by decide +kernel
theorem dX10_addPair_39 : decode cX10_addPair 39 = .ok (.putfield 43, 3) := by decide +kernel
theorem dX10_addPair_42 : decode cX10_addPair 42 = .ok (.return_, 1) := by decide +kernel
theorem dX10_termOf_0 : decode cX10_termOf 0 = .ok (.iload_n 1, 1) := by decide +kernel
theorem dX10_termOf_1 : decode cX10_termOf 1 = .ok (.sipush 400, 3) := by decide +kernel
theorem dX10_termOf_4 : decode cX10_termOf 4 = .ok (.if_icmp .ge 7, 3) := by decide +kernel
theorem dX10_termOf_7 : decode cX10_termOf 7 = .ok (.iload_n 1, 1) := by decide +kernel
theorem dX10_termOf_8 : decode cX10_termOf 8 = .ok (.goto 8, 3) := by decide +kernel
theorem dX10_termOf_11 : decode cX10_termOf 11 = .ok (.iload_n 1, 1) := by decide +kernel
theorem dX10_termOf_12 : decode cX10_termOf 12 = .ok (.sipush 400, 3) := by decide +kernel
theorem dX10_termOf_15 : decode cX10_termOf 15 = .ok (.isub, 1) := by decide +kernel
theorem dX10_termOf_16 : decode cX10_termOf 16 = .ok (.ireturn, 1) := by decide +kernel
theorem dX10_sideOf_0 : decode cX10_sideOf 0 = .ok (.iload_n 1, 1) := by decide +kernel
theorem dX10_sideOf_1 : decode cX10_sideOf 1 = .ok (.sipush 400, 3) := by decide +kernel
theorem dX10_sideOf_4 : decode cX10_sideOf 4 = .ok (.if_icmp .ge 7, 3) := by decide +kernel
theorem dX10_sideOf_7 : decode cX10_sideOf 7 = .ok (.iconst 0, 1) := by decide +kernel
theorem dX10_sideOf_8 : decode cX10_sideOf 8 = .ok (.goto 6, 3) := by decide +kernel
theorem dX10_sideOf_11 : decode cX10_sideOf 11 = .ok (.sipush 400, 3) := by decide +kernel
theorem dX10_sideOf_14 : decode cX10_sideOf 14 = .ok (.ireturn, 1) := by decide +kernel
theorem dX10_partOf_0 : decode cX10_partOf 0 = .ok (.aload_n 0, 1) := by decide +kernel
theorem dX10_partOf_1 : decode cX10_partOf 1 = .ok (.getfield 46, 3) := by decide +kernel
theorem dX10_partOf_4 : decode cX10_partOf 4 = .ok (.aload_n 0, 1) := by decide +kernel
theorem dX10_partOf_5 : decode cX10_partOf 5 = .ok (.iload_n 1, 1) := by decide +kernel
theorem dX10_partOf_6 : decode cX10_partOf 6 = .ok (.invokevirtual 68, 3) := by decide +kernel
theorem dX10_partOf_9 : decode cX10_partOf 9 = .ok (.iload_n 2, 1) := by decide +kernel
theorem dX10_partOf_10 : decode cX10_partOf 10 = .ok (.invokevirtual 71, 3) := by decide +kernel
theorem dX10_partOf_13 : decode cX10_partOf 13 = .ok (.aload_n 0, 1) := by decide +kernel
theorem dX10_partOf_14 : decode cX10_partOf 14 = .ok (.iload_n 1, 1) := by decide +kernel
theorem dX10_partOf_15 : decode cX10_partOf 15 = .ok (.invokevirtual 77, 3) := by decide +kernel
theorem dX10_partOf_18 : decode cX10_partOf 18 = .ok (.iadd, 1) := by decide +kernel
theorem dX10_partOf_19 : decode cX10_partOf 19 = .ok (.ireturn, 1) := by decide +kernel
theorem dX10_topOf_0 : decode cX10_topOf 0 = .ok (.aload_n 0, 1) := by decide +kernel
theorem dX10_topOf_1 : decode cX10_topOf 1 = .ok (.getfield 11, 3) := by decide +kernel
theorem dX10_topOf_4 : decode cX10_topOf 4 = .ok (.iload_n 1, 1) := by decide +kernel
theorem dX10_topOf_5 : decode cX10_topOf 5 = .ok (.iaload, 1) := by decide +kernel
theorem dX10_topOf_6 : decode cX10_topOf 6 = .ok (.aload_n 0, 1) := by decide +kernel
theorem dX10_topOf_7 : decode cX10_topOf 7 = .ok (.getfield 39, 3) := by decide +kernel
theorem dX10_topOf_10 : decode cX10_topOf 10 = .ok (.if_icmp .eq 8, 3) := by decide +kernel
theorem dX10_topOf_13 : decode cX10_topOf 13 = .ok (.aload_n 0, 1) := by decide +kernel
theorem dX10_topOf_14 : decode cX10_topOf 14 = .ok (.iload_n 1, 1) := by decide +kernel
theorem dX10_topOf_15 : decode cX10_topOf 15 = .ok (.invokevirtual 80, 3) := by decide +kernel
theorem dX10_topOf_18 : decode cX10_topOf 18 = .ok (.iload_n 1, 1) := by decide +kernel
theorem dX10_topOf_19 : decode cX10_topOf 19 = .ok (.istore_n 2, 1) := by decide +kernel
theorem dX10_topOf_20 : decode cX10_topOf 20 = .ok (.iconst 0, 1) := by decide +kernel
theorem dX10_topOf_21 : decode cX10_topOf 21 = .ok (.istore_n 3, 1) := by decide +kernel
theorem dX10_topOf_22 : decode cX10_topOf 22 = .ok (.iload_n 3, 1) := by decide +kernel
theorem dX10_topOf_23 : decode cX10_topOf 23 = .ok (.sipush 800, 3) := by decide +kernel
theorem dX10_topOf_26 : decode cX10_topOf 26 = .ok (.if_icmp .ge 43, 3) := by decide +kernel
theorem dX10_topOf_29 : decode cX10_topOf 29 = .ok (.aload_n 0, 1) := by decide +kernel
theorem dX10_topOf_30 : decode cX10_topOf 30 = .ok (.getfield 15, 3) := by decide +kernel
theorem dX10_topOf_33 : decode cX10_topOf 33 = .ok (.iload_n 2, 1) := by decide +kernel
theorem dX10_topOf_34 : decode cX10_topOf 34 = .ok (.iaload, 1) := by decide +kernel
theorem dX10_topOf_35 : decode cX10_topOf 35 = .ok (.iload_n 2, 1) := by decide +kernel
theorem dX10_topOf_36 : decode cX10_topOf 36 = .ok (.if_icmp .eq 33, 3) := by decide +kernel
theorem dX10_topOf_39 : decode cX10_topOf 39 = .ok (.aload_n 0, 1) := by decide +kernel
theorem dX10_topOf_40 : decode cX10_topOf 40 = .ok (.getfield 15, 3) := by decide +kernel
theorem dX10_topOf_43 : decode cX10_topOf 43 = .ok (.iload_n 2, 1) := by decide +kernel
theorem dX10_topOf_44 : decode cX10_topOf 44 = .ok (.aload_n 0, 1) := by decide +kernel
theorem dX10_topOf_45 : decode cX10_topOf 45 = .ok (.getfield 15, 3) := by decide +kernel
theorem dX10_topOf_48 : decode cX10_topOf 48 = .ok (.aload_n 0, 1) := by decide +kernel
theorem dX10_topOf_49 : decode cX10_topOf 49 = .ok (.getfield 15, 3) := by decide +kernel
theorem dX10_topOf_52 : decode cX10_topOf 52 = .ok (.iload_n 2, 1) := by decide +kernel
theorem dX10_topOf_53 : decode cX10_topOf 53 = .ok (.iaload, 1) := by decide +kernel
theorem dX10_topOf_54 : decode cX10_topOf 54 = .ok (.iaload, 1) := by decide +kernel
theorem dX10_topOf_55 : decode cX10_topOf 55 = .ok (.iastore, 1) := by decide +kernel
theorem dX10_topOf_56 : decode cX10_topOf 56 = .ok (.aload_n 0, 1) := by decide +kernel
theorem dX10_topOf_57 : decode cX10_topOf 57 = .ok (.getfield 15, 3) := by decide +kernel
theorem dX10_topOf_60 : decode cX10_topOf 60 = .ok (.iload_n 2, 1) := by decide +kernel
theorem dX10_topOf_61 : decode cX10_topOf 61 = .ok (.iaload, 1) := by decide +kernel
theorem dX10_topOf_62 : decode cX10_topOf 62 = .ok (.istore_n 2, 1) := by decide +kernel
theorem dX10_topOf_63 : decode cX10_topOf 63 = .ok (.iinc 3 1, 3) := by decide +kernel
theorem dX10_topOf_66 : decode cX10_topOf 66 = .ok (.goto (-44), 3) := by decide +kernel
theorem dX10_topOf_69 : decode cX10_topOf 69 = .ok (.iload_n 2, 1) := by decide +kernel
theorem dX10_topOf_70 : decode cX10_topOf 70 = .ok (.ireturn, 1) := by decide +kernel
theorem dX10_wake_0 : decode cX10_wake 0 = .ok (.aload_n 0, 1) := by decide +kernel
theorem dX10_wake_1 : decode cX10_wake 1 = .ok (.getfield 46, 3) := by decide +kernel
theorem dX10_wake_4 : decode cX10_wake 4 = .ok (.getfield 84, 3) := by decide +kernel
theorem dX10_wake_7 : decode cX10_wake 7 = .ok (.aload_n 0, 1) := by decide +kernel
theorem dX10_wake_8 : decode cX10_wake 8 = .ok (.iload_n 1, 1) := by decide +kernel
theorem dX10_wake_9 : decode cX10_wake 9 = .ok (.invokevirtual 68, 3) := by decide +kernel
theorem dX10_wake_12 : decode cX10_wake 12 = .ok (.iaload, 1) := by decide +kernel
theorem dX10_wake_13 : decode cX10_wake 13 = .ok (.ifCond .ge 7, 3) := by decide +kernel
theorem dX10_wake_16 : decode cX10_wake 16 = .ok (.iconst 1, 1) := by decide +kernel
theorem dX10_wake_17 : decode cX10_wake 17 = .ok (.goto 4, 3) := by decide +kernel
theorem dX10_wake_20 : decode cX10_wake 20 = .ok (.iconst 0, 1) := by decide +kernel
theorem dX10_wake_21 : decode cX10_wake 21 = .ok (.istore_n 2, 1) := by decide +kernel
theorem dX10_wake_22 : decode cX10_wake 22 = .ok (.aload_n 0, 1) := by decide +kernel
theorem dX10_wake_23 : decode cX10_wake 23 = .ok (.getfield 11, 3) := by decide +kernel
theorem dX10_wake_26 : decode cX10_wake 26 = .ok (.iload_n 1, 1) := by decide +kernel
theorem dX10_wake_27 : decode cX10_wake 27 = .ok (.aload_n 0, 1) := by decide +kernel
theorem dX10_wake_28 : decode cX10_wake 28 = .ok (.getfield 39, 3) := by decide +kernel
theorem dX10_wake_31 : decode cX10_wake 31 = .ok (.iastore, 1) := by decide +kernel
theorem dX10_wake_32 : decode cX10_wake 32 = .ok (.aload_n 0, 1) := by decide +kernel
theorem dX10_wake_33 : decode cX10_wake 33 = .ok (.getfield 15, 3) := by decide +kernel
theorem dX10_wake_36 : decode cX10_wake 36 = .ok (.iload_n 1, 1) := by decide +kernel
theorem dX10_wake_37 : decode cX10_wake 37 = .ok (.iload_n 1, 1) := by decide +kernel
theorem dX10_wake_38 : decode cX10_wake 38 = .ok (.iastore, 1) := by decide +kernel
theorem dX10_wake_39 : decode cX10_wake 39 = .ok (.aload_n 0, 1) := by decide +kernel
theorem dX10_wake_40 : decode cX10_wake 40 = .ok (.getfield 18, 3) := by decide +kernel
theorem dX10_wake_43 : decode cX10_wake 43 = .ok (.iload_n 1, 1) := by decide +kernel
theorem dX10_wake_44 : decode cX10_wake 44 = .ok (.iload_n 2, 1) := by decide +kernel
theorem dX10_wake_45 : decode cX10_wake 45 = .ok (.ifCond .eq 7, 3) := by decide +kernel
theorem dX10_wake_48 : decode cX10_wake 48 = .ok (.iconst (-1), 1) := by decide +kernel
theorem dX10_wake_49 : decode cX10_wake 49 = .ok (.goto 4, 3) := by decide +kernel
theorem dX10_wake_52 : decode cX10_wake 52 = .ok (.iload_n 1, 1) := by decide +kernel
theorem dX10_wake_53 : decode cX10_wake 53 = .ok (.iastore, 1) := by decide +kernel
theorem dX10_wake_54 : decode cX10_wake 54 = .ok (.aload_n 0, 1) := by decide +kernel
theorem dX10_wake_55 : decode cX10_wake 55 = .ok (.getfield 21, 3) := by decide +kernel
theorem dX10_wake_58 : decode cX10_wake 58 = .ok (.iload_n 1, 1) := by decide +kernel
theorem dX10_wake_59 : decode cX10_wake 59 = .ok (.iload_n 1, 1) := by decide +kernel
theorem dX10_wake_60 : decode cX10_wake 60 = .ok (.iastore, 1) := by decide +kernel
theorem dX10_wake_61 : decode cX10_wake 61 = .ok (.aload_n 0, 1) := by decide +kernel
theorem dX10_wake_62 : decode cX10_wake 62 = .ok (.getfield 24, 3) := by decide +kernel
theorem dX10_wake_65 : decode cX10_wake 65 = .ok (.iload_n 1, 1) := by decide +kernel
theorem dX10_wake_66 : decode cX10_wake 66 = .ok (.iconst (-1), 1) := by decide +kernel
theorem dX10_wake_67 : decode cX10_wake 67 = .ok (.iastore, 1) := by decide +kernel
theorem dX10_wake_68 : decode cX10_wake 68 = .ok (.aload_n 0, 1) := by decide +kernel
theorem dX10_wake_69 : decode cX10_wake 69 = .ok (.getfield 36, 3) := by decide +kernel
theorem dX10_wake_72 : decode cX10_wake 72 = .ok (.iload_n 1, 1) := by decide +kernel
theorem dX10_wake_73 : decode cX10_wake 73 = .ok (.iconst (-1), 1) := by decide +kernel
theorem dX10_wake_74 : decode cX10_wake 74 = .ok (.iastore, 1) := by decide +kernel
theorem dX10_wake_75 : decode cX10_wake 75 = .ok (.return_, 1) := by decide +kernel
theorem dX10_joined_0 : decode cX10_joined 0 = .ok (.iload_n 1, 1) := by decide +kernel
theorem dX10_joined_1 : decode cX10_joined 1 = .ok (.iload_n 2, 1) := by decide +kernel
theorem dX10_joined_2 : decode cX10_joined 2 = .ok (.if_icmp .ne 5, 3) := by decide +kernel
theorem dX10_joined_5 : decode cX10_joined 5 = .ok (.iconst 1, 1) := by decide +kernel
theorem dX10_joined_6 : decode cX10_joined 6 = .ok (.ireturn, 1) := by decide +kernel
theorem dX10_joined_7 : decode cX10_joined 7 = .ok (.aload_n 0, 1) := by decide +kernel
theorem dX10_joined_8 : decode cX10_joined 8 = .ok (.getfield 18, 3) := by decide +kernel
theorem dX10_joined_11 : decode cX10_joined 11 = .ok (.iload_n 1, 1) := by decide +kernel
theorem dX10_joined_12 : decode cX10_joined 12 = .ok (.iaload, 1) := by decide +kernel
theorem dX10_joined_13 : decode cX10_joined 13 = .ok (.istore_n 3, 1) := by decide +kernel
theorem dX10_joined_14 : decode cX10_joined 14 = .ok (.aload_n 0, 1) := by decide +kernel
theorem dX10_joined_15 : decode cX10_joined 15 = .ok (.getfield 18, 3) := by decide +kernel
theorem dX10_joined_18 : decode cX10_joined 18 = .ok (.iload_n 2, 1) := by decide +kernel
theorem dX10_joined_19 : decode cX10_joined 19 = .ok (.iaload, 1) := by decide +kernel
theorem dX10_joined_20 : decode cX10_joined 20 = .ok (.istore 4, 2) := by decide +kernel
theorem dX10_joined_22 : decode cX10_joined 22 = .ok (.aload_n 0, 1) := by decide +kernel
theorem dX10_joined_23 : decode cX10_joined 23 = .ok (.getfield 15, 3) := by decide +kernel
theorem dX10_joined_26 : decode cX10_joined 26 = .ok (.iload_n 2, 1) := by decide +kernel
theorem dX10_joined_27 : decode cX10_joined 27 = .ok (.iload_n 1, 1) := by decide +kernel
theorem dX10_joined_28 : decode cX10_joined 28 = .ok (.iastore, 1) := by decide +kernel
theorem dX10_joined_29 : decode cX10_joined 29 = .ok (.aload_n 0, 1) := by decide +kernel
theorem dX10_joined_30 : decode cX10_joined 30 = .ok (.getfield 18, 3) := by decide +kernel
theorem dX10_joined_33 : decode cX10_joined 33 = .ok (.iload_n 1, 1) := by decide +kernel
theorem dX10_joined_34 : decode cX10_joined 34 = .ok (.iload_n 3, 1) := by decide +kernel
theorem dX10_joined_35 : decode cX10_joined 35 = .ok (.iconst (-1), 1) := by decide +kernel
theorem dX10_joined_36 : decode cX10_joined 36 = .ok (.if_icmp .ne 8, 3) := by decide +kernel
theorem dX10_joined_39 : decode cX10_joined 39 = .ok (.iload 4, 2) := by decide +kernel
theorem dX10_joined_41 : decode cX10_joined 41 = .ok (.goto 4, 3) := by decide +kernel
theorem dX10_joined_44 : decode cX10_joined 44 = .ok (.iload_n 3, 1) := by decide +kernel
theorem dX10_joined_45 : decode cX10_joined 45 = .ok (.iastore, 1) := by decide +kernel
theorem dX10_joined_46 : decode cX10_joined 46 = .ok (.iload_n 3, 1) := by decide +kernel
theorem dX10_joined_47 : decode cX10_joined 47 = .ok (.iconst (-1), 1) := by decide +kernel
theorem dX10_joined_48 : decode cX10_joined 48 = .ok (.if_icmp .ne 31, 3) := by decide +kernel
theorem dX10_joined_51 : decode cX10_joined 51 = .ok (.iload 4, 2) := by decide +kernel
theorem dX10_joined_53 : decode cX10_joined 53 = .ok (.iconst (-1), 1) := by decide +kernel
theorem dX10_joined_54 : decode cX10_joined 54 = .ok (.if_icmp .ne 25, 3) := by decide +kernel
theorem dX10_joined_57 : decode cX10_joined 57 = .ok (.aload_n 0, 1) := by decide +kernel
theorem dX10_joined_58 : decode cX10_joined 58 = .ok (.getfield 21, 3) := by decide +kernel
theorem dX10_joined_61 : decode cX10_joined 61 = .ok (.iload_n 1, 1) := by decide +kernel
theorem dX10_joined_62 : decode cX10_joined 62 = .ok (.aload_n 0, 1) := by decide +kernel
theorem dX10_joined_63 : decode cX10_joined 63 = .ok (.aload_n 0, 1) := by decide +kernel
theorem dX10_joined_64 : decode cX10_joined 64 = .ok (.getfield 21, 3) := by decide +kernel
theorem dX10_joined_67 : decode cX10_joined 67 = .ok (.iload_n 1, 1) := by decide +kernel
theorem dX10_joined_68 : decode cX10_joined 68 = .ok (.iaload, 1) := by decide +kernel
theorem dX10_joined_69 : decode cX10_joined 69 = .ok (.aload_n 0, 1) := by decide +kernel
theorem dX10_joined_70 : decode cX10_joined 70 = .ok (.getfield 21, 3) := by decide +kernel
theorem dX10_joined_73 : decode cX10_joined 73 = .ok (.iload_n 2, 1) := by decide +kernel
theorem dX10_joined_74 : decode cX10_joined 74 = .ok (.iaload, 1) := by decide +kernel
theorem dX10_joined_75 : decode cX10_joined 75 = .ok (.invokevirtual 87, 3) := by decide +kernel
theorem dX10_joined_78 : decode cX10_joined 78 = .ok (.iastore, 1) := by decide +kernel
theorem dX10_joined_79 : decode cX10_joined 79 = .ok (.iload_n 3, 1) := by decide +kernel
theorem dX10_joined_80 : decode cX10_joined 80 = .ok (.iconst (-1), 1) := by decide +kernel
theorem dX10_joined_81 : decode cX10_joined 81 = .ok (.if_icmp .eq 9, 3) := by decide +kernel
theorem dX10_joined_84 : decode cX10_joined 84 = .ok (.iload 4, 2) := by decide +kernel
theorem dX10_joined_86 : decode cX10_joined 86 = .ok (.iconst (-1), 1) := by decide +kernel
theorem dX10_joined_87 : decode cX10_joined 87 = .ok (.if_icmp .ne 5, 3) := by decide +kernel
theorem dX10_joined_90 : decode cX10_joined 90 = .ok (.iconst 1, 1) := by decide +kernel
theorem dX10_joined_91 : decode cX10_joined 91 = .ok (.ireturn, 1) := by decide +kernel
theorem dX10_joined_92 : decode cX10_joined 92 = .ok (.aload_n 0, 1) := by decide +kernel
theorem dX10_joined_93 : decode cX10_joined 93 = .ok (.getfield 46, 3) := by decide +kernel
theorem dX10_joined_96 : decode cX10_joined 96 = .ok (.getfield 84, 3) := by decide +kernel
theorem dX10_joined_99 : decode cX10_joined 99 = .ok (.aload_n 0, 1) := by decide +kernel
theorem dX10_joined_100 : decode cX10_joined 100 = .ok (.iload_n 3, 1) := by decide +kernel
theorem dX10_joined_101 : decode cX10_joined 101 = .ok (.invokevirtual 68, 3) := by decide +kernel
theorem dX10_joined_104 : decode cX10_joined 104 = .ok (.iaload, 1) := by decide +kernel
theorem dX10_joined_105 : decode cX10_joined 105 = .ok (.aload_n 0, 1) := by decide +kernel
theorem dX10_joined_106 : decode cX10_joined 106 = .ok (.getfield 46, 3) := by decide +kernel
theorem dX10_joined_109 : decode cX10_joined 109 = .ok (.getfield 84, 3) := by decide +kernel
theorem dX10_joined_112 : decode cX10_joined 112 = .ok (.aload_n 0, 1) := by decide +kernel
theorem dX10_joined_113 : decode cX10_joined 113 = .ok (.iload 4, 2) := by decide +kernel
theorem dX10_joined_115 : decode cX10_joined 115 = .ok (.invokevirtual 68, 3) := by decide +kernel
theorem dX10_joined_118 : decode cX10_joined 118 = .ok (.iaload, 1) := by decide +kernel
theorem dX10_joined_119 : decode cX10_joined 119 = .ok (.if_icmp .eq 5, 3) := by decide +kernel
theorem dX10_joined_122 : decode cX10_joined 122 = .ok (.iconst 0, 1) := by decide +kernel
theorem dX10_joined_123 : decode cX10_joined 123 = .ok (.ireturn, 1) := by decide +kernel
theorem dX10_joined_124 : decode cX10_joined 124 = .ok (.iconst 0, 1) := by decide +kernel
theorem dX10_joined_125 : decode cX10_joined 125 = .ok (.istore 5, 2) := by decide +kernel
theorem dX10_joined_127 : decode cX10_joined 127 = .ok (.iload 5, 2) := by decide +kernel
theorem dX10_joined_129 : decode cX10_joined 129 = .ok (.aload_n 0, 1) := by decide +kernel
theorem dX10_joined_130 : decode cX10_joined 130 = .ok (.getfield 46, 3) := by decide +kernel
theorem dX10_joined_133 : decode cX10_joined 133 = .ok (.getfield 90, 3) := by decide +kernel
theorem dX10_joined_136 : decode cX10_joined 136 = .ok (.aload_n 0, 1) := by decide +kernel
theorem dX10_joined_137 : decode cX10_joined 137 = .ok (.iload_n 3, 1) := by decide +kernel
theorem dX10_joined_138 : decode cX10_joined 138 = .ok (.invokevirtual 68, 3) := by decide +kernel
theorem dX10_joined_141 : decode cX10_joined 141 = .ok (.iaload, 1) := by decide +kernel
theorem dX10_joined_142 : decode cX10_joined 142 = .ok (.if_icmp .ge 28, 3) := by decide +kernel
theorem dX10_joined_145 : decode cX10_joined 145 = .ok (.aload_n 0, 1) := by decide +kernel
theorem dX10_joined_146 : decode cX10_joined 146 = .ok (.aload_n 0, 1) := by decide +kernel
theorem dX10_joined_147 : decode cX10_joined 147 = .ok (.iload_n 3, 1) := by decide +kernel
theorem dX10_joined_148 : decode cX10_joined 148 = .ok (.iload 5, 2) := by decide +kernel
theorem dX10_joined_150 : decode cX10_joined 150 = .ok (.invokevirtual 93, 3) := by decide +kernel
theorem dX10_joined_153 : decode cX10_joined 153 = .ok (.aload_n 0, 1) := by decide +kernel
theorem dX10_joined_154 : decode cX10_joined 154 = .ok (.iload 4, 2) := by decide +kernel
theorem dX10_joined_156 : decode cX10_joined 156 = .ok (.iload 5, 2) := by decide +kernel
theorem dX10_joined_158 : decode cX10_joined 158 = .ok (.invokevirtual 93, 3) := by decide +kernel
theorem dX10_joined_161 : decode cX10_joined 161 = .ok (.invokevirtual 50, 3) := by decide +kernel
theorem dX10_joined_164 : decode cX10_joined 164 = .ok (.iinc 5 1, 3) := by decide +kernel
theorem dX10_joined_167 : decode cX10_joined 167 = .ok (.goto (-40), 3) := by decide +kernel
theorem dX10_joined_170 : decode cX10_joined 170 = .ok (.iconst 1, 1) := by decide +kernel
theorem dX10_joined_171 : decode cX10_joined 171 = .ok (.ireturn, 1) := by decide +kernel
theorem dX10_lesser_0 : decode cX10_lesser 0 = .ok (.aload_n 0, 1) := by decide +kernel
theorem dX10_lesser_1 : decode cX10_lesser 1 = .ok (.getfield 46, 3) := by decide +kernel
theorem dX10_lesser_4 : decode cX10_lesser 4 = .ok (.getfield 84, 3) := by decide +kernel
theorem dX10_lesser_7 : decode cX10_lesser 7 = .ok (.aload_n 0, 1) := by decide +kernel
theorem dX10_lesser_8 : decode cX10_lesser 8 = .ok (.iload_n 1, 1) := by decide +kernel
theorem dX10_lesser_9 : decode cX10_lesser 9 = .ok (.invokevirtual 68, 3) := by decide +kernel
theorem dX10_lesser_12 : decode cX10_lesser 12 = .ok (.iaload, 1) := by decide +kernel
theorem dX10_lesser_13 : decode cX10_lesser 13 = .ok (.iconst (-1), 1) := by decide +kernel
theorem dX10_lesser_14 : decode cX10_lesser 14 = .ok (.ixor, 1) := by decide +kernel
theorem dX10_lesser_15 : decode cX10_lesser 15 = .ok (.aload_n 0, 1) := by decide +kernel
theorem dX10_lesser_16 : decode cX10_lesser 16 = .ok (.getfield 46, 3) := by decide +kernel
theorem dX10_lesser_19 : decode cX10_lesser 19 = .ok (.getfield 84, 3) := by decide +kernel
theorem dX10_lesser_22 : decode cX10_lesser 22 = .ok (.aload_n 0, 1) := by decide +kernel
theorem dX10_lesser_23 : decode cX10_lesser 23 = .ok (.iload_n 2, 1) := by decide +kernel
theorem dX10_lesser_24 : decode cX10_lesser 24 = .ok (.invokevirtual 68, 3) := by decide +kernel
theorem dX10_lesser_27 : decode cX10_lesser 27 = .ok (.iaload, 1) := by decide +kernel
theorem dX10_lesser_28 : decode cX10_lesser 28 = .ok (.iconst (-1), 1) := by decide +kernel
theorem dX10_lesser_29 : decode cX10_lesser 29 = .ok (.ixor, 1) := by decide +kernel
theorem dX10_lesser_30 : decode cX10_lesser 30 = .ok (.if_icmp .gt 7, 3) := by decide +kernel
theorem dX10_lesser_33 : decode cX10_lesser 33 = .ok (.iload_n 1, 1) := by decide +kernel
theorem dX10_lesser_34 : decode cX10_lesser 34 = .ok (.goto 4, 3) := by decide +kernel
theorem dX10_lesser_37 : decode cX10_lesser 37 = .ok (.iload_n 2, 1) := by decide +kernel
theorem dX10_lesser_38 : decode cX10_lesser 38 = .ok (.ireturn, 1) := by decide +kernel
theorem dX10_takenAway_0 : decode cX10_takenAway 0 = .ok (.iconst 0, 1) := by decide +kernel
theorem dX10_takenAway_1 : decode cX10_takenAway 1 = .ok (.istore_n 2, 1) := by decide +kernel
theorem dX10_takenAway_2 : decode cX10_takenAway 2 = .ok (.aload_n 0, 1) := by decide +kernel
theorem dX10_takenAway_3 : decode cX10_takenAway 3 = .ok (.getfield 36, 3) := by decide +kernel
theorem dX10_takenAway_6 : decode cX10_takenAway 6 = .ok (.iload_n 1, 1) := by decide +kernel
theorem dX10_takenAway_7 : decode cX10_takenAway 7 = .ok (.iaload, 1) := by decide +kernel
theorem dX10_takenAway_8 : decode cX10_takenAway 8 = .ok (.ifCond .ne 13, 3) := by decide +kernel
theorem dX10_takenAway_11 : decode cX10_takenAway 11 = .ok (.aload_n 0, 1) := by decide +kernel
theorem dX10_takenAway_12 : decode cX10_takenAway 12 = .ok (.getfield 33, 3) := by decide +kernel
theorem dX10_takenAway_15 : decode cX10_takenAway 15 = .ok (.iload_n 2, 1) := by decide +kernel
theorem dX10_takenAway_16 : decode cX10_takenAway 16 = .ok (.iload_n 1, 1) := by decide +kernel
theorem dX10_takenAway_17 : decode cX10_takenAway 17 = .ok (.iastore, 1) := by decide +kernel
theorem dX10_takenAway_18 : decode cX10_takenAway 18 = .ok (.iinc 2 1, 3) := by decide +kernel
theorem dX10_takenAway_21 : decode cX10_takenAway 21 = .ok (.iconst 0, 1) := by decide +kernel
theorem dX10_takenAway_22 : decode cX10_takenAway 22 = .ok (.istore_n 3, 1) := by decide +kernel
theorem dX10_takenAway_23 : decode cX10_takenAway 23 = .ok (.iload_n 3, 1) := by decide +kernel
theorem dX10_takenAway_24 : decode cX10_takenAway 24 = .ok (.iload_n 2, 1) := by decide +kernel
theorem dX10_takenAway_25 : decode cX10_takenAway 25 = .ok (.if_icmp .ge 116, 3) := by decide +kernel
theorem dX10_takenAway_28 : decode cX10_takenAway 28 = .ok (.iload_n 3, 1) := by decide +kernel
theorem dX10_takenAway_29 : decode cX10_takenAway 29 = .ok (.sipush 800, 3) := by decide +kernel
theorem dX10_takenAway_32 : decode cX10_takenAway 32 = .ok (.if_icmp .ge 109, 3) := by decide +kernel
theorem dX10_takenAway_35 : decode cX10_takenAway 35 = .ok (.aload_n 0, 1) := by decide +kernel
theorem dX10_takenAway_36 : decode cX10_takenAway 36 = .ok (.getfield 18, 3) := by decide +kernel
theorem dX10_takenAway_39 : decode cX10_takenAway 39 = .ok (.aload_n 0, 1) := by decide +kernel
theorem dX10_takenAway_40 : decode cX10_takenAway 40 = .ok (.getfield 33, 3) := by decide +kernel
theorem dX10_takenAway_43 : decode cX10_takenAway 43 = .ok (.iload_n 3, 1) := by decide +kernel
theorem dX10_takenAway_44 : decode cX10_takenAway 44 = .ok (.iaload, 1) := by decide +kernel
theorem dX10_takenAway_45 : decode cX10_takenAway 45 = .ok (.iaload, 1) := by decide +kernel
theorem dX10_takenAway_46 : decode cX10_takenAway 46 = .ok (.istore 4, 2) := by decide +kernel
theorem dX10_takenAway_48 : decode cX10_takenAway 48 = .ok (.iconst 0, 1) := by decide +kernel
theorem dX10_takenAway_49 : decode cX10_takenAway 49 = .ok (.istore 5, 2) := by decide +kernel
theorem dX10_takenAway_51 : decode cX10_takenAway 51 = .ok (.iload 4, 2) := by decide +kernel
theorem dX10_takenAway_53 : decode cX10_takenAway 53 = .ok (.iconst (-1), 1) := by decide +kernel
theorem dX10_takenAway_54 : decode cX10_takenAway 54 = .ok (.if_icmp .eq 81, 3) := by decide +kernel
theorem dX10_takenAway_57 : decode cX10_takenAway 57 = .ok (.iload 5, 2) := by decide +kernel
theorem dX10_takenAway_59 : decode cX10_takenAway 59 = .ok (.aload_n 0, 1) := by decide +kernel
theorem dX10_takenAway_60 : decode cX10_takenAway 60 = .ok (.getfield 46, 3) := by decide +kernel
theorem dX10_takenAway_63 : decode cX10_takenAway 63 = .ok (.getfield 90, 3) := by decide +kernel
theorem dX10_takenAway_66 : decode cX10_takenAway 66 = .ok (.aload_n 0, 1) := by decide +kernel
theorem dX10_takenAway_67 : decode cX10_takenAway 67 = .ok (.iload 4, 2) := by decide +kernel
theorem dX10_takenAway_69 : decode cX10_takenAway 69 = .ok (.invokevirtual 68, 3) := by decide +kernel
theorem dX10_takenAway_72 : decode cX10_takenAway 72 = .ok (.iaload, 1) := by decide +kernel
theorem dX10_takenAway_73 : decode cX10_takenAway 73 = .ok (.if_icmp .ge 62, 3) := by decide +kernel
theorem dX10_takenAway_76 : decode cX10_takenAway 76 = .ok (.aload_n 0, 1) := by decide +kernel
theorem dX10_takenAway_77 : decode cX10_takenAway 77 = .ok (.aload_n 0, 1) := by decide +kernel
theorem dX10_takenAway_78 : decode cX10_takenAway 78 = .ok (.iload 4, 2) := by decide +kernel
theorem dX10_takenAway_80 : decode cX10_takenAway 80 = .ok (.iload 5, 2) := by decide +kernel
theorem dX10_takenAway_82 : decode cX10_takenAway 82 = .ok (.invokevirtual 93, 3) := by decide +kernel
theorem dX10_takenAway_85 : decode cX10_takenAway 85 = .ok (.invokevirtual 54, 3) := by decide +kernel
theorem dX10_takenAway_88 : decode cX10_takenAway 88 = .ok (.istore 6, 2) := by decide +kernel
theorem dX10_takenAway_90 : decode cX10_takenAway 90 = .ok (.aload_n 0, 1) := by decide +kernel
theorem dX10_takenAway_91 : decode cX10_takenAway 91 = .ok (.getfield 36, 3) := by decide +kernel
theorem dX10_takenAway_94 : decode cX10_takenAway 94 = .ok (.iload 6, 2) := by decide +kernel
theorem dX10_takenAway_96 : decode cX10_takenAway 96 = .ok (.dup2, 1) := by decide +kernel
theorem dX10_takenAway_97 : decode cX10_takenAway 97 = .ok (.iaload, 1) := by decide +kernel
theorem dX10_takenAway_98 : decode cX10_takenAway 98 = .ok (.iconst 1, 1) := by decide +kernel
theorem dX10_takenAway_99 : decode cX10_takenAway 99 = .ok (.isub, 1) := by decide +kernel
theorem dX10_takenAway_100 : decode cX10_takenAway 100 = .ok (.iastore, 1) := by decide +kernel
theorem dX10_takenAway_101 : decode cX10_takenAway 101 = .ok (.aload_n 0, 1) := by decide +kernel
theorem dX10_takenAway_102 : decode cX10_takenAway 102 = .ok (.getfield 36, 3) := by decide +kernel
theorem dX10_takenAway_105 : decode cX10_takenAway 105 = .ok (.iload 6, 2) := by decide +kernel
theorem dX10_takenAway_107 : decode cX10_takenAway 107 = .ok (.iaload, 1) := by decide +kernel
theorem dX10_takenAway_108 : decode cX10_takenAway 108 = .ok (.ifCond .ne 21, 3) := by decide +kernel
theorem dX10_takenAway_111 : decode cX10_takenAway 111 = .ok (.iload_n 2, 1) := by decide +kernel
theorem dX10_takenAway_112 : decode cX10_takenAway 112 = .ok (.sipush 800, 3) := by decide +kernel
theorem dX10_takenAway_115 : decode cX10_takenAway 115 = .ok (.if_icmp .ge 14, 3) := by decide +kernel
theorem dX10_takenAway_118 : decode cX10_takenAway 118 = .ok (.aload_n 0, 1) := by decide +kernel
theorem dX10_takenAway_119 : decode cX10_takenAway 119 = .ok (.getfield 33, 3) := by decide +kernel
theorem dX10_takenAway_122 : decode cX10_takenAway 122 = .ok (.iload_n 2, 1) := by decide +kernel
theorem dX10_takenAway_123 : decode cX10_takenAway 123 = .ok (.iload 6, 2) := by decide +kernel
theorem dX10_takenAway_125 : decode cX10_takenAway 125 = .ok (.iastore, 1) := by decide +kernel
theorem dX10_takenAway_126 : decode cX10_takenAway 126 = .ok (.iinc 2 1, 3) := by decide +kernel
theorem dX10_takenAway_129 : decode cX10_takenAway 129 = .ok (.iinc 5 1, 3) := by decide +kernel
theorem dX10_takenAway_132 : decode cX10_takenAway 132 = .ok (.goto (-81), 3) := by decide +kernel
theorem dX10_takenAway_135 : decode cX10_takenAway 135 = .ok (.iinc 3 1, 3) := by decide +kernel
theorem dX10_takenAway_138 : decode cX10_takenAway 138 = .ok (.goto (-115), 3) := by decide +kernel
theorem dX10_takenAway_141 : decode cX10_takenAway 141 = .ok (.iload_n 2, 1) := by decide +kernel
theorem dX10_takenAway_142 : decode cX10_takenAway 142 = .ok (.ireturn, 1) := by decide +kernel
theorem dX10_listAll_0 : decode cX10_listAll 0 = .ok (.iconst 1, 1) := by decide +kernel
theorem dX10_listAll_1 : decode cX10_listAll 1 = .ok (.istore_n 2, 1) := by decide +kernel
theorem dX10_listAll_2 : decode cX10_listAll 2 = .ok (.aload_n 0, 1) := by decide +kernel
theorem dX10_listAll_3 : decode cX10_listAll 3 = .ok (.getfield 33, 3) := by decide +kernel
theorem dX10_listAll_6 : decode cX10_listAll 6 = .ok (.iconst 0, 1) := by decide +kernel
theorem dX10_listAll_7 : decode cX10_listAll 7 = .ok (.iload_n 1, 1) := by decide +kernel
theorem dX10_listAll_8 : decode cX10_listAll 8 = .ok (.iastore, 1) := by decide +kernel
theorem dX10_listAll_9 : decode cX10_listAll 9 = .ok (.aload_n 0, 1) := by decide +kernel
theorem dX10_listAll_10 : decode cX10_listAll 10 = .ok (.getfield 36, 3) := by decide +kernel
theorem dX10_listAll_13 : decode cX10_listAll 13 = .ok (.iload_n 1, 1) := by decide +kernel
theorem dX10_listAll_14 : decode cX10_listAll 14 = .ok (.iconst 0, 1) := by decide +kernel
theorem dX10_listAll_15 : decode cX10_listAll 15 = .ok (.iastore, 1) := by decide +kernel
theorem dX10_listAll_16 : decode cX10_listAll 16 = .ok (.iconst 0, 1) := by decide +kernel
theorem dX10_listAll_17 : decode cX10_listAll 17 = .ok (.istore_n 3, 1) := by decide +kernel
theorem dX10_listAll_18 : decode cX10_listAll 18 = .ok (.iload_n 3, 1) := by decide +kernel
theorem dX10_listAll_19 : decode cX10_listAll 19 = .ok (.iload_n 2, 1) := by decide +kernel
theorem dX10_listAll_20 : decode cX10_listAll 20 = .ok (.if_icmp .ge 125, 3) := by decide +kernel
theorem dX10_listAll_23 : decode cX10_listAll 23 = .ok (.iload_n 3, 1) := by decide +kernel
theorem dX10_listAll_24 : decode cX10_listAll 24 = .ok (.sipush 800, 3) := by decide +kernel
theorem dX10_listAll_27 : decode cX10_listAll 27 = .ok (.if_icmp .ge 118, 3) := by decide +kernel
theorem dX10_listAll_30 : decode cX10_listAll 30 = .ok (.aload_n 0, 1) := by decide +kernel
theorem dX10_listAll_31 : decode cX10_listAll 31 = .ok (.getfield 18, 3) := by decide +kernel
theorem dX10_listAll_34 : decode cX10_listAll 34 = .ok (.aload_n 0, 1) := by decide +kernel
theorem dX10_listAll_35 : decode cX10_listAll 35 = .ok (.getfield 33, 3) := by decide +kernel
theorem dX10_listAll_38 : decode cX10_listAll 38 = .ok (.iload_n 3, 1) := by decide +kernel
theorem dX10_listAll_39 : decode cX10_listAll 39 = .ok (.iaload, 1) := by decide +kernel
theorem dX10_listAll_40 : decode cX10_listAll 40 = .ok (.iaload, 1) := by decide +kernel
theorem dX10_listAll_41 : decode cX10_listAll 41 = .ok (.istore 4, 2) := by decide +kernel
theorem dX10_listAll_43 : decode cX10_listAll 43 = .ok (.iconst 0, 1) := by decide +kernel
theorem dX10_listAll_44 : decode cX10_listAll 44 = .ok (.istore 5, 2) := by decide +kernel
theorem dX10_listAll_46 : decode cX10_listAll 46 = .ok (.iload 4, 2) := by decide +kernel
theorem dX10_listAll_48 : decode cX10_listAll 48 = .ok (.iconst (-1), 1) := by decide +kernel
theorem dX10_listAll_49 : decode cX10_listAll 49 = .ok (.if_icmp .eq 90, 3) := by decide +kernel
theorem dX10_listAll_52 : decode cX10_listAll 52 = .ok (.iload 5, 2) := by decide +kernel
theorem dX10_listAll_54 : decode cX10_listAll 54 = .ok (.aload_n 0, 1) := by decide +kernel
theorem dX10_listAll_55 : decode cX10_listAll 55 = .ok (.getfield 46, 3) := by decide +kernel
theorem dX10_listAll_58 : decode cX10_listAll 58 = .ok (.getfield 90, 3) := by decide +kernel
theorem dX10_listAll_61 : decode cX10_listAll 61 = .ok (.aload_n 0, 1) := by decide +kernel
theorem dX10_listAll_62 : decode cX10_listAll 62 = .ok (.iload 4, 2) := by decide +kernel
theorem dX10_listAll_64 : decode cX10_listAll 64 = .ok (.invokevirtual 68, 3) := by decide +kernel
theorem dX10_listAll_67 : decode cX10_listAll 67 = .ok (.iaload, 1) := by decide +kernel
theorem dX10_listAll_68 : decode cX10_listAll 68 = .ok (.if_icmp .ge 71, 3) := by decide +kernel
theorem dX10_listAll_71 : decode cX10_listAll 71 = .ok (.aload_n 0, 1) := by decide +kernel
theorem dX10_listAll_72 : decode cX10_listAll 72 = .ok (.aload_n 0, 1) := by decide +kernel
theorem dX10_listAll_73 : decode cX10_listAll 73 = .ok (.iload 4, 2) := by decide +kernel
theorem dX10_listAll_75 : decode cX10_listAll 75 = .ok (.iload 5, 2) := by decide +kernel
theorem dX10_listAll_77 : decode cX10_listAll 77 = .ok (.invokevirtual 93, 3) := by decide +kernel
theorem dX10_listAll_80 : decode cX10_listAll 80 = .ok (.invokevirtual 54, 3) := by decide +kernel
theorem dX10_listAll_83 : decode cX10_listAll 83 = .ok (.istore 6, 2) := by decide +kernel
theorem dX10_listAll_85 : decode cX10_listAll 85 = .ok (.aload_n 0, 1) := by decide +kernel
theorem dX10_listAll_86 : decode cX10_listAll 86 = .ok (.getfield 36, 3) := by decide +kernel
theorem dX10_listAll_89 : decode cX10_listAll 89 = .ok (.iload 6, 2) := by decide +kernel
theorem dX10_listAll_91 : decode cX10_listAll 91 = .ok (.iaload, 1) := by decide +kernel
theorem dX10_listAll_92 : decode cX10_listAll 92 = .ok (.iconst (-1), 1) := by decide +kernel
theorem dX10_listAll_93 : decode cX10_listAll 93 = .ok (.if_icmp .ne 29, 3) := by decide +kernel
theorem dX10_listAll_96 : decode cX10_listAll 96 = .ok (.iload_n 2, 1) := by decide +kernel
theorem dX10_listAll_97 : decode cX10_listAll 97 = .ok (.sipush 800, 3) := by decide +kernel
theorem dX10_listAll_100 : decode cX10_listAll 100 = .ok (.if_icmp .ge 22, 3) := by decide +kernel
theorem dX10_listAll_103 : decode cX10_listAll 103 = .ok (.aload_n 0, 1) := by decide +kernel
theorem dX10_listAll_104 : decode cX10_listAll 104 = .ok (.getfield 36, 3) := by decide +kernel
theorem dX10_listAll_107 : decode cX10_listAll 107 = .ok (.iload 6, 2) := by decide +kernel
theorem dX10_listAll_109 : decode cX10_listAll 109 = .ok (.iconst 0, 1) := by decide +kernel
theorem dX10_listAll_110 : decode cX10_listAll 110 = .ok (.iastore, 1) := by decide +kernel
theorem dX10_listAll_111 : decode cX10_listAll 111 = .ok (.aload_n 0, 1) := by decide +kernel
theorem dX10_listAll_112 : decode cX10_listAll 112 = .ok (.getfield 33, 3) := by decide +kernel
theorem dX10_listAll_115 : decode cX10_listAll 115 = .ok (.iload_n 2, 1) := by decide +kernel
theorem dX10_listAll_116 : decode cX10_listAll 116 = .ok (.iload 6, 2) := by decide +kernel
theorem dX10_listAll_118 : decode cX10_listAll 118 = .ok (.iastore, 1) := by decide +kernel
theorem dX10_listAll_119 : decode cX10_listAll 119 = .ok (.iinc 2 1, 3) := by decide +kernel
theorem dX10_listAll_122 : decode cX10_listAll 122 = .ok (.aload_n 0, 1) := by decide +kernel
theorem dX10_listAll_123 : decode cX10_listAll 123 = .ok (.getfield 36, 3) := by decide +kernel
theorem dX10_listAll_126 : decode cX10_listAll 126 = .ok (.iload 6, 2) := by decide +kernel
theorem dX10_listAll_128 : decode cX10_listAll 128 = .ok (.dup2, 1) := by decide +kernel
theorem dX10_listAll_129 : decode cX10_listAll 129 = .ok (.iaload, 1) := by decide +kernel
theorem dX10_listAll_130 : decode cX10_listAll 130 = .ok (.iconst 1, 1) := by decide +kernel
theorem dX10_listAll_131 : decode cX10_listAll 131 = .ok (.iadd, 1) := by decide +kernel
theorem dX10_listAll_132 : decode cX10_listAll 132 = .ok (.iastore, 1) := by decide +kernel
theorem dX10_listAll_133 : decode cX10_listAll 133 = .ok (.iinc 5 1, 3) := by decide +kernel
theorem dX10_listAll_136 : decode cX10_listAll 136 = .ok (.goto (-90), 3) := by decide +kernel
theorem dX10_listAll_139 : decode cX10_listAll 139 = .ok (.iinc 3 1, 3) := by decide +kernel
theorem dX10_listAll_142 : decode cX10_listAll 142 = .ok (.goto (-124), 3) := by decide +kernel
theorem dX10_listAll_145 : decode cX10_listAll 145 = .ok (.iload_n 2, 1) := by decide +kernel
theorem dX10_listAll_146 : decode cX10_listAll 146 = .ok (.ireturn, 1) := by decide +kernel
theorem dX10_bindAll_0 : decode cX10_bindAll 0 = .ok (.iconst 0, 1) := by decide +kernel
theorem dX10_bindAll_1 : decode cX10_bindAll 1 = .ok (.istore 4, 2) := by decide +kernel
theorem dX10_bindAll_3 : decode cX10_bindAll 3 = .ok (.iload 4, 2) := by decide +kernel
theorem dX10_bindAll_5 : decode cX10_bindAll 5 = .ok (.bipush 8, 2) := by decide +kernel
theorem dX10_bindAll_7 : decode cX10_bindAll 7 = .ok (.if_icmp .ge 55, 3) := by decide +kernel
theorem dX10_bindAll_10 : decode cX10_bindAll 10 = .ok (.iload_n 1, 1) := by decide +kernel
theorem dX10_bindAll_11 : decode cX10_bindAll 11 = .ok (.iload 4, 2) := by decide +kernel
theorem dX10_bindAll_13 : decode cX10_bindAll 13 = .ok (.ishr, 1) := by decide +kernel
theorem dX10_bindAll_14 : decode cX10_bindAll 14 = .ok (.iconst 1, 1) := by decide +kernel
theorem dX10_bindAll_15 : decode cX10_bindAll 15 = .ok (.iand, 1) := by decide +kernel
theorem dX10_bindAll_16 : decode cX10_bindAll 16 = .ok (.ifCond .ne 7, 3) := by decide +kernel
theorem dX10_bindAll_19 : decode cX10_bindAll 19 = .ok (.iconst (-1), 1) := by decide +kernel
theorem dX10_bindAll_20 : decode cX10_bindAll 20 = .ok (.goto 16, 3) := by decide +kernel
theorem dX10_bindAll_23 : decode cX10_bindAll 23 = .ok (.aload_n 0, 1) := by decide +kernel
theorem dX10_bindAll_24 : decode cX10_bindAll 24 = .ok (.aload_n 0, 1) := by decide +kernel
theorem dX10_bindAll_25 : decode cX10_bindAll 25 = .ok (.getfield 46, 3) := by decide +kernel
theorem dX10_bindAll_28 : decode cX10_bindAll 28 = .ok (.iload 4, 2) := by decide +kernel
theorem dX10_bindAll_30 : decode cX10_bindAll 30 = .ok (.invokevirtual 96, 3) := by decide +kernel
theorem dX10_bindAll_33 : decode cX10_bindAll 33 = .ok (.invokevirtual 99, 3) := by decide +kernel
theorem dX10_bindAll_36 : decode cX10_bindAll 36 = .ok (.istore 5, 2) := by decide +kernel
theorem dX10_bindAll_38 : decode cX10_bindAll 38 = .ok (.iload 5, 2) := by decide +kernel
theorem dX10_bindAll_40 : decode cX10_bindAll 40 = .ok (.bipush (-3), 2) := by decide +kernel
theorem dX10_bindAll_42 : decode cX10_bindAll 42 = .ok (.if_icmp .ne 6, 3) := by decide +kernel
theorem dX10_bindAll_45 : decode cX10_bindAll 45 = .ok (.bipush (-3), 2) := by decide +kernel
theorem dX10_bindAll_47 : decode cX10_bindAll 47 = .ok (.ireturn, 1) := by decide +kernel
theorem dX10_bindAll_48 : decode cX10_bindAll 48 = .ok (.aload_n 2, 1) := by decide +kernel
theorem dX10_bindAll_49 : decode cX10_bindAll 49 = .ok (.iload_n 3, 1) := by decide +kernel
theorem dX10_bindAll_50 : decode cX10_bindAll 50 = .ok (.iload 4, 2) := by decide +kernel
theorem dX10_bindAll_52 : decode cX10_bindAll 52 = .ok (.iadd, 1) := by decide +kernel
theorem dX10_bindAll_53 : decode cX10_bindAll 53 = .ok (.iload 5, 2) := by decide +kernel
theorem dX10_bindAll_55 : decode cX10_bindAll 55 = .ok (.iastore, 1) := by decide +kernel
theorem dX10_bindAll_56 : decode cX10_bindAll 56 = .ok (.iinc 4 1, 3) := by decide +kernel
theorem dX10_bindAll_59 : decode cX10_bindAll 59 = .ok (.goto (-56), 3) := by decide +kernel
theorem dX10_bindAll_62 : decode cX10_bindAll 62 = .ok (.iconst 1, 1) := by decide +kernel
theorem dX10_bindAll_63 : decode cX10_bindAll 63 = .ok (.ireturn, 1) := by decide +kernel
theorem dX10_boundOf_0 : decode cX10_boundOf 0 = .ok (.iload_n 1, 1) := by decide +kernel
theorem dX10_boundOf_1 : decode cX10_boundOf 1 = .ok (.ifCond .ge 6, 3) := by decide +kernel
theorem dX10_boundOf_4 : decode cX10_boundOf 4 = .ok (.bipush (-3), 2) := by decide +kernel
theorem dX10_boundOf_6 : decode cX10_boundOf 6 = .ok (.ireturn, 1) := by decide +kernel
theorem dX10_boundOf_7 : decode cX10_boundOf 7 = .ok (.aload_n 0, 1) := by decide +kernel
theorem dX10_boundOf_8 : decode cX10_boundOf 8 = .ok (.iload_n 1, 1) := by decide +kernel
theorem dX10_boundOf_9 : decode cX10_boundOf 9 = .ok (.invokevirtual 54, 3) := by decide +kernel
theorem dX10_boundOf_12 : decode cX10_boundOf 12 = .ok (.istore_n 2, 1) := by decide +kernel
theorem dX10_boundOf_13 : decode cX10_boundOf 13 = .ok (.aload_n 0, 1) := by decide +kernel
theorem dX10_boundOf_14 : decode cX10_boundOf 14 = .ok (.getfield 18, 3) := by decide +kernel
theorem dX10_boundOf_17 : decode cX10_boundOf 17 = .ok (.iload_n 2, 1) := by decide +kernel
theorem dX10_boundOf_18 : decode cX10_boundOf 18 = .ok (.iaload, 1) := by decide +kernel
theorem dX10_boundOf_19 : decode cX10_boundOf 19 = .ok (.iconst (-1), 1) := by decide +kernel
theorem dX10_boundOf_20 : decode cX10_boundOf 20 = .ok (.if_icmp .eq 10, 3) := by decide +kernel
theorem dX10_boundOf_23 : decode cX10_boundOf 23 = .ok (.aload_n 0, 1) := by decide +kernel
theorem dX10_boundOf_24 : decode cX10_boundOf 24 = .ok (.iload_n 2, 1) := by decide +kernel
theorem dX10_boundOf_25 : decode cX10_boundOf 25 = .ok (.iconst 1, 1) := by decide +kernel
theorem dX10_boundOf_26 : decode cX10_boundOf 26 = .ok (.invokevirtual 102, 3) := by decide +kernel
theorem dX10_boundOf_29 : decode cX10_boundOf 29 = .ok (.ireturn, 1) := by decide +kernel
theorem dX10_boundOf_30 : decode cX10_boundOf 30 = .ok (.aload_n 0, 1) := by decide +kernel
theorem dX10_boundOf_31 : decode cX10_boundOf 31 = .ok (.getfield 21, 3) := by decide +kernel
theorem dX10_boundOf_34 : decode cX10_boundOf 34 = .ok (.iload_n 2, 1) := by decide +kernel
theorem dX10_boundOf_35 : decode cX10_boundOf 35 = .ok (.iaload, 1) := by decide +kernel
theorem dX10_boundOf_36 : decode cX10_boundOf 36 = .ok (.iload_n 1, 1) := by decide +kernel
theorem dX10_boundOf_37 : decode cX10_boundOf 37 = .ok (.if_icmp .ne 7, 3) := by decide +kernel
theorem dX10_boundOf_40 : decode cX10_boundOf 40 = .ok (.iconst (-1), 1) := by decide +kernel
theorem dX10_boundOf_41 : decode cX10_boundOf 41 = .ok (.goto 9, 3) := by decide +kernel
theorem dX10_boundOf_44 : decode cX10_boundOf 44 = .ok (.aload_n 0, 1) := by decide +kernel
theorem dX10_boundOf_45 : decode cX10_boundOf 45 = .ok (.getfield 21, 3) := by decide +kernel
theorem dX10_boundOf_48 : decode cX10_boundOf 48 = .ok (.iload_n 2, 1) := by decide +kernel
theorem dX10_boundOf_49 : decode cX10_boundOf 49 = .ok (.iaload, 1) := by decide +kernel
theorem dX10_boundOf_50 : decode cX10_boundOf 50 = .ok (.ireturn, 1) := by decide +kernel
theorem dX10_solvedClass_0 : decode cX10_solvedClass 0 = .ok (.iload_n 2, 1) := by decide +kernel
theorem dX10_solvedClass_1 : decode cX10_solvedClass 1 = .ok (.bipush 6, 2) := by decide +kernel
theorem dX10_solvedClass_3 : decode cX10_solvedClass 3 = .ok (.if_icmp .le 6, 3) := by decide +kernel
theorem dX10_solvedClass_6 : decode cX10_solvedClass 6 = .ok (.bipush (-3), 2) := by decide +kernel
theorem dX10_solvedClass_8 : decode cX10_solvedClass 8 = .ok (.ireturn, 1) := by decide +kernel
theorem dX10_solvedClass_9 : decode cX10_solvedClass 9 = .ok (.aload_n 0, 1) := by decide +kernel
theorem dX10_solvedClass_10 : decode cX10_solvedClass 10 = .ok (.getfield 24, 3) := by decide +kernel
theorem dX10_solvedClass_13 : decode cX10_solvedClass 13 = .ok (.iload_n 1, 1) := by decide +kernel
theorem dX10_solvedClass_14 : decode cX10_solvedClass 14 = .ok (.iaload, 1) := by decide +kernel
theorem dX10_solvedClass_15 : decode cX10_solvedClass 15 = .ok (.iconst (-1), 1) := by decide +kernel
theorem dX10_solvedClass_16 : decode cX10_solvedClass 16 = .ok (.if_icmp .ne 36, 3) := by decide +kernel
theorem dX10_solvedClass_19 : decode cX10_solvedClass 19 = .ok (.aload_n 0, 1) := by decide +kernel
theorem dX10_solvedClass_20 : decode cX10_solvedClass 20 = .ok (.getfield 18, 3) := by decide +kernel
theorem dX10_solvedClass_23 : decode cX10_solvedClass 23 = .ok (.iload_n 1, 1) := by decide +kernel
theorem dX10_solvedClass_24 : decode cX10_solvedClass 24 = .ok (.iaload, 1) := by decide +kernel
theorem dX10_solvedClass_25 : decode cX10_solvedClass 25 = .ok (.istore_n 3, 1) := by decide +kernel
theorem dX10_solvedClass_26 : decode cX10_solvedClass 26 = .ok (.aload_n 0, 1) := by decide +kernel
theorem dX10_solvedClass_27 : decode cX10_solvedClass 27 = .ok (.getfield 24, 3) := by decide +kernel
theorem dX10_solvedClass_30 : decode cX10_solvedClass 30 = .ok (.iload_n 1, 1) := by decide +kernel
theorem dX10_solvedClass_31 : decode cX10_solvedClass 31 = .ok (.iload_n 3, 1) := by decide +kernel
theorem dX10_solvedClass_32 : decode cX10_solvedClass 32 = .ok (.iconst (-1), 1) := by decide +kernel
theorem dX10_solvedClass_33 : decode cX10_solvedClass 33 = .ok (.if_icmp .ne 12, 3) := by decide +kernel
theorem dX10_solvedClass_36 : decode cX10_solvedClass 36 = .ok (.aload_n 0, 1) := by decide +kernel
theorem dX10_solvedClass_37 : decode cX10_solvedClass 37 = .ok (.getfield 21, 3) := by decide +kernel
theorem dX10_solvedClass_40 : decode cX10_solvedClass 40 = .ok (.iload_n 1, 1) := by decide +kernel
theorem dX10_solvedClass_41 : decode cX10_solvedClass 41 = .ok (.iaload, 1) := by decide +kernel
theorem dX10_solvedClass_42 : decode cX10_solvedClass 42 = .ok (.goto 9, 3) := by decide +kernel
theorem dX10_solvedClass_45 : decode cX10_solvedClass 45 = .ok (.aload_n 0, 1) := by decide +kernel
theorem dX10_solvedClass_46 : decode cX10_solvedClass 46 = .ok (.iload_n 3, 1) := by decide +kernel
theorem dX10_solvedClass_47 : decode cX10_solvedClass 47 = .ok (.iload_n 2, 1) := by decide +kernel
theorem dX10_solvedClass_48 : decode cX10_solvedClass 48 = .ok (.invokevirtual 105, 3) := by decide +kernel
theorem dX10_solvedClass_51 : decode cX10_solvedClass 51 = .ok (.iastore, 1) := by decide +kernel
theorem dX10_solvedClass_52 : decode cX10_solvedClass 52 = .ok (.aload_n 0, 1) := by decide +kernel
theorem dX10_solvedClass_53 : decode cX10_solvedClass 53 = .ok (.getfield 24, 3) := by decide +kernel
theorem dX10_solvedClass_56 : decode cX10_solvedClass 56 = .ok (.iload_n 1, 1) := by decide +kernel
theorem dX10_solvedClass_57 : decode cX10_solvedClass 57 = .ok (.iaload, 1) := by decide +kernel
theorem dX10_solvedClass_58 : decode cX10_solvedClass 58 = .ok (.ireturn, 1) := by decide +kernel
theorem dX10_solvedTerm_0 : decode cX10_solvedTerm 0 = .ok (.aload_n 0, 1) := by decide +kernel
theorem dX10_solvedTerm_1 : decode cX10_solvedTerm 1 = .ok (.getfield 46, 3) := by decide +kernel
theorem dX10_solvedTerm_4 : decode cX10_solvedTerm 4 = .ok (.getfield 90, 3) := by decide +kernel
theorem dX10_solvedTerm_7 : decode cX10_solvedTerm 7 = .ok (.aload_n 0, 1) := by decide +kernel
theorem dX10_solvedTerm_8 : decode cX10_solvedTerm 8 = .ok (.iload_n 1, 1) := by decide +kernel
theorem dX10_solvedTerm_9 : decode cX10_solvedTerm 9 = .ok (.invokevirtual 68, 3) := by decide +kernel
theorem dX10_solvedTerm_12 : decode cX10_solvedTerm 12 = .ok (.iaload, 1) := by decide +kernel
theorem dX10_solvedTerm_13 : decode cX10_solvedTerm 13 = .ok (.istore_n 3, 1) := by decide +kernel
theorem dX10_solvedTerm_14 : decode cX10_solvedTerm 14 = .ok (.iload_n 3, 1) := by decide +kernel
theorem dX10_solvedTerm_15 : decode cX10_solvedTerm 15 = .ok (.iconst 1, 1) := by decide +kernel
theorem dX10_solvedTerm_16 : decode cX10_solvedTerm 16 = .ok (.if_icmp .ge 7, 3) := by decide +kernel
theorem dX10_solvedTerm_19 : decode cX10_solvedTerm 19 = .ok (.iconst (-1), 1) := by decide +kernel
theorem dX10_solvedTerm_20 : decode cX10_solvedTerm 20 = .ok (.goto 20, 3) := by decide +kernel
theorem dX10_solvedTerm_23 : decode cX10_solvedTerm 23 = .ok (.aload_n 0, 1) := by decide +kernel
theorem dX10_solvedTerm_24 : decode cX10_solvedTerm 24 = .ok (.aload_n 0, 1) := by decide +kernel
theorem dX10_solvedTerm_25 : decode cX10_solvedTerm 25 = .ok (.aload_n 0, 1) := by decide +kernel
theorem dX10_solvedTerm_26 : decode cX10_solvedTerm 26 = .ok (.iload_n 1, 1) := by decide +kernel
theorem dX10_solvedTerm_27 : decode cX10_solvedTerm 27 = .ok (.iconst 0, 1) := by decide +kernel
theorem dX10_solvedTerm_28 : decode cX10_solvedTerm 28 = .ok (.invokevirtual 93, 3) := by decide +kernel
theorem dX10_solvedTerm_31 : decode cX10_solvedTerm 31 = .ok (.invokevirtual 54, 3) := by decide +kernel
theorem dX10_solvedTerm_34 : decode cX10_solvedTerm 34 = .ok (.iload_n 2, 1) := by decide +kernel
theorem dX10_solvedTerm_35 : decode cX10_solvedTerm 35 = .ok (.iconst 1, 1) := by decide +kernel
theorem dX10_solvedTerm_36 : decode cX10_solvedTerm 36 = .ok (.iadd, 1) := by decide +kernel
theorem dX10_solvedTerm_37 : decode cX10_solvedTerm 37 = .ok (.invokevirtual 102, 3) := by decide +kernel
theorem dX10_solvedTerm_40 : decode cX10_solvedTerm 40 = .ok (.istore 4, 2) := by decide +kernel
theorem dX10_solvedTerm_42 : decode cX10_solvedTerm 42 = .ok (.iload_n 3, 1) := by decide +kernel
theorem dX10_solvedTerm_43 : decode cX10_solvedTerm 43 = .ok (.iconst 2, 1) := by decide +kernel
theorem dX10_solvedTerm_44 : decode cX10_solvedTerm 44 = .ok (.if_icmp .ge 7, 3) := by decide +kernel
theorem dX10_solvedTerm_47 : decode cX10_solvedTerm 47 = .ok (.iconst (-1), 1) := by decide +kernel
theorem dX10_solvedTerm_48 : decode cX10_solvedTerm 48 = .ok (.goto 20, 3) := by decide +kernel
theorem dX10_solvedTerm_51 : decode cX10_solvedTerm 51 = .ok (.aload_n 0, 1) := by decide +kernel
theorem dX10_solvedTerm_52 : decode cX10_solvedTerm 52 = .ok (.aload_n 0, 1) := by decide +kernel
theorem dX10_solvedTerm_53 : decode cX10_solvedTerm 53 = .ok (.aload_n 0, 1) := by decide +kernel
theorem dX10_solvedTerm_54 : decode cX10_solvedTerm 54 = .ok (.iload_n 1, 1) := by decide +kernel
theorem dX10_solvedTerm_55 : decode cX10_solvedTerm 55 = .ok (.iconst 1, 1) := by decide +kernel
theorem dX10_solvedTerm_56 : decode cX10_solvedTerm 56 = .ok (.invokevirtual 93, 3) := by decide +kernel
theorem dX10_solvedTerm_59 : decode cX10_solvedTerm 59 = .ok (.invokevirtual 54, 3) := by decide +kernel
theorem dX10_solvedTerm_62 : decode cX10_solvedTerm 62 = .ok (.iload_n 2, 1) := by decide +kernel
theorem dX10_solvedTerm_63 : decode cX10_solvedTerm 63 = .ok (.iconst 1, 1) := by decide +kernel
theorem dX10_solvedTerm_64 : decode cX10_solvedTerm 64 = .ok (.iadd, 1) := by decide +kernel
theorem dX10_solvedTerm_65 : decode cX10_solvedTerm 65 = .ok (.invokevirtual 102, 3) := by decide +kernel
theorem dX10_solvedTerm_68 : decode cX10_solvedTerm 68 = .ok (.istore 5, 2) := by decide +kernel
theorem dX10_solvedTerm_70 : decode cX10_solvedTerm 70 = .ok (.iload_n 3, 1) := by decide +kernel
theorem dX10_solvedTerm_71 : decode cX10_solvedTerm 71 = .ok (.iconst 3, 1) := by decide +kernel
theorem dX10_solvedTerm_72 : decode cX10_solvedTerm 72 = .ok (.if_icmp .ge 7, 3) := by decide +kernel
theorem dX10_solvedTerm_75 : decode cX10_solvedTerm 75 = .ok (.iconst (-1), 1) := by decide +kernel
theorem dX10_solvedTerm_76 : decode cX10_solvedTerm 76 = .ok (.goto 20, 3) := by decide +kernel
theorem dX10_solvedTerm_79 : decode cX10_solvedTerm 79 = .ok (.aload_n 0, 1) := by decide +kernel
theorem dX10_solvedTerm_80 : decode cX10_solvedTerm 80 = .ok (.aload_n 0, 1) := by decide +kernel
theorem dX10_solvedTerm_81 : decode cX10_solvedTerm 81 = .ok (.aload_n 0, 1) := by decide +kernel
theorem dX10_solvedTerm_82 : decode cX10_solvedTerm 82 = .ok (.iload_n 1, 1) := by decide +kernel
theorem dX10_solvedTerm_83 : decode cX10_solvedTerm 83 = .ok (.iconst 2, 1) := by decide +kernel
theorem dX10_solvedTerm_84 : decode cX10_solvedTerm 84 = .ok (.invokevirtual 93, 3) := by decide +kernel
theorem dX10_solvedTerm_87 : decode cX10_solvedTerm 87 = .ok (.invokevirtual 54, 3) := by decide +kernel
theorem dX10_solvedTerm_90 : decode cX10_solvedTerm 90 = .ok (.iload_n 2, 1) := by decide +kernel
theorem dX10_solvedTerm_91 : decode cX10_solvedTerm 91 = .ok (.iconst 1, 1) := by decide +kernel
theorem dX10_solvedTerm_92 : decode cX10_solvedTerm 92 = .ok (.iadd, 1) := by decide +kernel
theorem dX10_solvedTerm_93 : decode cX10_solvedTerm 93 = .ok (.invokevirtual 102, 3) := by decide +kernel
theorem dX10_solvedTerm_96 : decode cX10_solvedTerm 96 = .ok (.istore 6, 2) := by decide +kernel
theorem dX10_solvedTerm_98 : decode cX10_solvedTerm 98 = .ok (.aload_n 0, 1) := by decide +kernel
theorem dX10_solvedTerm_99 : decode cX10_solvedTerm 99 = .ok (.getfield 46, 3) := by decide +kernel
theorem dX10_solvedTerm_102 : decode cX10_solvedTerm 102 = .ok (.aload_n 0, 1) := by decide +kernel
theorem dX10_solvedTerm_103 : decode cX10_solvedTerm 103 = .ok (.getfield 46, 3) := by decide +kernel
theorem dX10_solvedTerm_106 : decode cX10_solvedTerm 106 = .ok (.getfield 84, 3) := by decide +kernel
theorem dX10_solvedTerm_109 : decode cX10_solvedTerm 109 = .ok (.aload_n 0, 1) := by decide +kernel
theorem dX10_solvedTerm_110 : decode cX10_solvedTerm 110 = .ok (.iload_n 1, 1) := by decide +kernel
theorem dX10_solvedTerm_111 : decode cX10_solvedTerm 111 = .ok (.invokevirtual 68, 3) := by decide +kernel
theorem dX10_solvedTerm_114 : decode cX10_solvedTerm 114 = .ok (.iaload, 1) := by decide +kernel
theorem dX10_solvedTerm_115 : decode cX10_solvedTerm 115 = .ok (.iload 4, 2) := by decide +kernel
theorem dX10_solvedTerm_117 : decode cX10_solvedTerm 117 = .ok (.iload 5, 2) := by decide +kernel
theorem dX10_solvedTerm_119 : decode cX10_solvedTerm 119 = .ok (.iload 6, 2) := by decide +kernel
theorem dX10_solvedTerm_121 : decode cX10_solvedTerm 121 = .ok (.invokevirtual 108, 3) := by decide +kernel
theorem dX10_solvedTerm_124 : decode cX10_solvedTerm 124 = .ok (.ireturn, 1) := by decide +kernel
