theorem dX10_init_0 : decode cX10_init 0 = .ok (.aload_n 0, 1) := by decide +kernel
theorem dX10_init_1 : decode cX10_init 1 = .ok (.invokespecial 3, 3) := by decide +kernel
theorem dX10_init_4 : decode cX10_init 4 = .ok (.aload_n 0, 1) := by decide +kernel
theorem dX10_init_5 : decode cX10_init 5 = .ok (.sipush 800, 3) := by decide +kernel
theorem dX10_init_8 : decode cX10_init 8 = .ok (.newarray .int, 2) := by decide +kernel
theorem dX10_init_10 : decode cX10_init 10 = .ok (.putfield 11, 3) := by decide +kernel
theorem dX10_init_13 : decode cX10_init 13 = .ok (.aload_n 0, 1) := by decide +kernel
theorem dX10_init_14 : decode cX10_init 14 = .ok (.sipush 800, 3) := by decide +kernel
theorem dX10_init_17 : decode cX10_init 17 = .ok (.newarray .int, 2) := by decide +kernel
theorem dX10_init_19 : decode cX10_init 19 = .ok (.putfield 15, 3) := by decide +kernel
theorem dX10_init_22 : decode cX10_init 22 = .ok (.aload_n 0, 1) := by decide +kernel
theorem dX10_init_23 : decode cX10_init 23 = .ok (.sipush 800, 3) := by decide +kernel
theorem dX10_init_26 : decode cX10_init 26 = .ok (.newarray .int, 2) := by decide +kernel
theorem dX10_init_28 : decode cX10_init 28 = .ok (.putfield 18, 3) := by decide +kernel
theorem dX10_init_31 : decode cX10_init 31 = .ok (.aload_n 0, 1) := by decide +kernel
theorem dX10_init_32 : decode cX10_init 32 = .ok (.sipush 800, 3) := by decide +kernel
theorem dX10_init_35 : decode cX10_init 35 = .ok (.newarray .int, 2) := by decide +kernel
theorem dX10_init_37 : decode cX10_init 37 = .ok (.putfield 21, 3) := by decide +kernel
theorem dX10_init_40 : decode cX10_init 40 = .ok (.aload_n 0, 1) := by decide +kernel
theorem dX10_init_41 : decode cX10_init 41 = .ok (.sipush 800, 3) := by decide +kernel
theorem dX10_init_44 : decode cX10_init 44 = .ok (.newarray .int, 2) := by decide +kernel
theorem dX10_init_46 : decode cX10_init 46 = .ok (.putfield 24, 3) := by decide +kernel
theorem dX10_init_49 : decode cX10_init 49 = .ok (.aload_n 0, 1) := by decide +kernel
theorem dX10_init_50 : decode cX10_init 50 = .ok (.sipush 2401, 3) := by decide +kernel
theorem dX10_init_53 : decode cX10_init 53 = .ok (.newarray .int, 2) := by decide +kernel
theorem dX10_init_55 : decode cX10_init 55 = .ok (.putfield 27, 3) := by decide +kernel
theorem dX10_init_58 : decode cX10_init 58 = .ok (.aload_n 0, 1) := by decide +kernel
theorem dX10_init_59 : decode cX10_init 59 = .ok (.sipush 2401, 3) := by decide +kernel
theorem dX10_init_62 : decode cX10_init 62 = .ok (.newarray .int, 2) := by decide +kernel
theorem dX10_init_64 : decode cX10_init 64 = .ok (.putfield 30, 3) := by decide +kernel
theorem dX10_init_67 : decode cX10_init 67 = .ok (.aload_n 0, 1) := by decide +kernel
theorem dX10_init_68 : decode cX10_init 68 = .ok (.sipush 800, 3) := by decide +kernel
theorem dX10_init_71 : decode cX10_init 71 = .ok (.newarray .int, 2) := by decide +kernel
theorem dX10_init_73 : decode cX10_init 73 = .ok (.putfield 33, 3) := by decide +kernel
theorem dX10_init_76 : decode cX10_init 76 = .ok (.aload_n 0, 1) := by decide +kernel
theorem dX10_init_77 : decode cX10_init 77 = .ok (.sipush 800, 3) := by decide +kernel
theorem dX10_init_80 : decode cX10_init 80 = .ok (.newarray .int, 2) := by decide +kernel
theorem dX10_init_82 : decode cX10_init 82 = .ok (.putfield 36, 3) := by decide +kernel
theorem dX10_init_85 : decode cX10_init 85 = .ok (.aload_n 0, 1) := by decide +kernel
theorem dX10_init_86 : decode cX10_init 86 = .ok (.iconst 0, 1) := by decide +kernel
theorem dX10_init_87 : decode cX10_init 87 = .ok (.putfield 39, 3) := by decide +kernel
theorem dX10_init_90 : decode cX10_init 90 = .ok (.aload_n 0, 1) := by decide +kernel
theorem dX10_init_91 : decode cX10_init 91 = .ok (.iconst 0, 1) := by decide +kernel
theorem dX10_init_92 : decode cX10_init 92 = .ok (.putfield 43, 3) := by decide +kernel
theorem dX10_init_95 : decode cX10_init 95 = .ok (.aload_n 0, 1) := by decide +kernel
theorem dX10_init_96 : decode cX10_init 96 = .ok (.aload_n 1, 1) := by decide +kernel
theorem dX10_init_97 : decode cX10_init 97 = .ok (.putfield 46, 3) := by decide +kernel
theorem dX10_init_100 : decode cX10_init 100 = .ok (.return_, 1) := by decide +kernel
theorem dX10_wayOf_0 : decode cX10_wayOf 0 = .ok (.aload_n 0, 1) := by decide +kernel
theorem dX10_wayOf_1 : decode cX10_wayOf 1 = .ok (.dup, 1) := by decide +kernel
theorem dX10_wayOf_2 : decode cX10_wayOf 2 = .ok (.getfield 39, 3) := by decide +kernel
theorem dX10_wayOf_5 : decode cX10_wayOf 5 = .ok (.iconst 1, 1) := by decide +kernel
theorem dX10_wayOf_6 : decode cX10_wayOf 6 = .ok (.iadd, 1) := by decide +kernel
theorem dX10_wayOf_7 : decode cX10_wayOf 7 = .ok (.putfield 39, 3) := by decide +kernel
theorem dX10_wayOf_10 : decode cX10_wayOf 10 = .ok (.aload_n 0, 1) := by decide +kernel
theorem dX10_wayOf_11 : decode cX10_wayOf 11 = .ok (.iconst 0, 1) := by decide +kernel
theorem dX10_wayOf_12 : decode cX10_wayOf 12 = .ok (.putfield 43, 3) := by decide +kernel
theorem dX10_wayOf_15 : decode cX10_wayOf 15 = .ok (.aload_n 0, 1) := by decide +kernel
theorem dX10_wayOf_16 : decode cX10_wayOf 16 = .ok (.iload_n 1, 1) := by decide +kernel
theorem dX10_wayOf_17 : decode cX10_wayOf 17 = .ok (.iload_n 2, 1) := by decide +kernel
theorem dX10_wayOf_18 : decode cX10_wayOf 18 = .ok (.iload_n 3, 1) := by decide +kernel
theorem dX10_wayOf_19 : decode cX10_wayOf 19 = .ok (.iadd, 1) := by decide +kernel
theorem dX10_wayOf_20 : decode cX10_wayOf 20 = .ok (.invokevirtual 50, 3) := by decide +kernel
theorem dX10_wayOf_23 : decode cX10_wayOf 23 = .ok (.iconst 0, 1) := by decide +kernel
theorem dX10_wayOf_24 : decode cX10_wayOf 24 = .ok (.istore 4, 2) := by decide +kernel
theorem dX10_wayOf_26 : decode cX10_wayOf 26 = .ok (.iload 4, 2) := by decide +kernel
theorem dX10_wayOf_28 : decode cX10_wayOf 28 = .ok (.aload_n 0, 1) := by decide +kernel
theorem dX10_wayOf_29 : decode cX10_wayOf 29 = .ok (.getfield 43, 3) := by decide +kernel
theorem dX10_wayOf_32 : decode cX10_wayOf 32 = .ok (.if_icmp .ge 50, 3) := by decide +kernel
theorem dX10_wayOf_35 : decode cX10_wayOf 35 = .ok (.iload 4, 2) := by decide +kernel
theorem dX10_wayOf_37 : decode cX10_wayOf 37 = .ok (.aload_n 0, 1) := by decide +kernel
theorem dX10_wayOf_38 : decode cX10_wayOf 38 = .ok (.getfield 27, 3) := by decide +kernel
theorem dX10_wayOf_41 : decode cX10_wayOf 41 = .ok (.arraylength, 1) := by decide +kernel
theorem dX10_wayOf_42 : decode cX10_wayOf 42 = .ok (.if_icmp .ge 40, 3) := by decide +kernel
theorem dX10_wayOf_45 : decode cX10_wayOf 45 = .ok (.aload_n 0, 1) := by decide +kernel
theorem dX10_wayOf_46 : decode cX10_wayOf 46 = .ok (.aload_n 0, 1) := by decide +kernel
theorem dX10_wayOf_47 : decode cX10_wayOf 47 = .ok (.aload_n 0, 1) := by decide +kernel
theorem dX10_wayOf_48 : decode cX10_wayOf 48 = .ok (.getfield 27, 3) := by decide +kernel
theorem dX10_wayOf_51 : decode cX10_wayOf 51 = .ok (.iload 4, 2) := by decide +kernel
theorem dX10_wayOf_53 : decode cX10_wayOf 53 = .ok (.iaload, 1) := by decide +kernel
theorem dX10_wayOf_54 : decode cX10_wayOf 54 = .ok (.invokevirtual 54, 3) := by decide +kernel
theorem dX10_wayOf_57 : decode cX10_wayOf 57 = .ok (.aload_n 0, 1) := by decide +kernel
theorem dX10_wayOf_58 : decode cX10_wayOf 58 = .ok (.aload_n 0, 1) := by decide +kernel
theorem dX10_wayOf_59 : decode cX10_wayOf 59 = .ok (.getfield 30, 3) := by decide +kernel
theorem dX10_wayOf_62 : decode cX10_wayOf 62 = .ok (.iload 4, 2) := by decide +kernel
theorem dX10_wayOf_64 : decode cX10_wayOf 64 = .ok (.iaload, 1) := by decide +kernel
theorem dX10_wayOf_65 : decode cX10_wayOf 65 = .ok (.invokevirtual 54, 3) := by decide +kernel
theorem dX10_wayOf_68 : decode cX10_wayOf 68 = .ok (.invokevirtual 58, 3) := by decide +kernel
theorem dX10_wayOf_71 : decode cX10_wayOf 71 = .ok (.ifCond .ne 5, 3) := by decide +kernel
theorem dX10_wayOf_74 : decode cX10_wayOf 74 = .ok (.iconst 0, 1) := by decide +kernel
theorem dX10_wayOf_75 : decode cX10_wayOf 75 = .ok (.ireturn, 1) := by decide +kernel
theorem dX10_wayOf_76 : decode cX10_wayOf 76 = .ok (.iinc 4 1, 3) := by decide +kernel
theorem dX10_wayOf_79 : decode cX10_wayOf 79 = .ok (.goto (-53), 3) := by decide +kernel
theorem dX10_wayOf_82 : decode cX10_wayOf 82 = .ok (.aload_n 0, 1) := by decide +kernel
theorem dX10_wayOf_83 : decode cX10_wayOf 83 = .ok (.iload_n 1, 1) := by decide +kernel
theorem dX10_wayOf_84 : decode cX10_wayOf 84 = .ok (.invokevirtual 54, 3) := by decide +kernel
theorem dX10_wayOf_87 : decode cX10_wayOf 87 = .ok (.istore 4, 2) := by decide +kernel
theorem dX10_wayOf_89 : decode cX10_wayOf 89 = .ok (.aload_n 0, 1) := by decide +kernel
theorem dX10_wayOf_90 : decode cX10_wayOf 90 = .ok (.iload 4, 2) := by decide +kernel
theorem dX10_wayOf_92 : decode cX10_wayOf 92 = .ok (.invokevirtual 62, 3) := by decide +kernel
theorem dX10_wayOf_95 : decode cX10_wayOf 95 = .ok (.istore 5, 2) := by decide +kernel
theorem dX10_wayOf_97 : decode cX10_wayOf 97 = .ok (.aload_n 0, 1) := by decide +kernel
theorem dX10_wayOf_98 : decode cX10_wayOf 98 = .ok (.iload 4, 2) := by decide +kernel
theorem dX10_wayOf_100 : decode cX10_wayOf 100 = .ok (.invokevirtual 65, 3) := by decide +kernel
theorem dX10_wayOf_103 : decode cX10_wayOf 103 = .ok (.iload 5, 2) := by decide +kernel
theorem dX10_wayOf_105 : decode cX10_wayOf 105 = .ok (.if_icmp .ge 7, 3) := by decide +kernel
theorem dX10_wayOf_108 : decode cX10_wayOf 108 = .ok (.iconst 2, 1) := by decide +kernel
theorem dX10_wayOf_109 : decode cX10_wayOf 109 = .ok (.goto 4, 3) := by decide +kernel
theorem dX10_wayOf_112 : decode cX10_wayOf 112 = .ok (.iconst 1, 1) := by decide +kernel
theorem dX10_wayOf_113 : decode cX10_wayOf 113 = .ok (.ireturn, 1) := by decide +kernel
theorem dX10_addPair_0 : decode cX10_addPair 0 = .ok (.aload_n 0, 1) := by decide +kernel
theorem dX10_addPair_1 : decode cX10_addPair 1 = .ok (.getfield 43, 3) := by decide +kernel
theorem dX10_addPair_4 : decode cX10_addPair 4 = .ok (.aload_n 0, 1) := by decide +kernel
theorem dX10_addPair_5 : decode cX10_addPair 5 = .ok (.getfield 27, 3) := by decide +kernel
theorem dX10_addPair_8 : decode cX10_addPair 8 = .ok (.arraylength, 1) := by decide +kernel
theorem dX10_addPair_9 : decode cX10_addPair 9 = .ok (.if_icmp .ge 33, 3) := by decide +kernel
theorem dX10_addPair_12 : decode cX10_addPair 12 = .ok (.aload_n 0, 1) := by decide +kernel
theorem dX10_addPair_13 : decode cX10_addPair 13 = .ok (.getfield 27, 3) := by decide +kernel
theorem dX10_addPair_16 : decode cX10_addPair 16 = .ok (.aload_n 0, 1) := by decide +kernel
theorem dX10_addPair_17 : decode cX10_addPair 17 = .ok (.getfield 43, 3) := by decide +kernel
theorem dX10_addPair_20 : decode cX10_addPair 20 = .ok (.iload_n 1, 1) := by decide +kernel
theorem dX10_addPair_21 : decode cX10_addPair 21 = .ok (.iastore, 1) := by decide +kernel
theorem dX10_addPair_22 : decode cX10_addPair 22 = .ok (.aload_n 0, 1) := by decide +kernel
theorem dX10_addPair_23 : decode cX10_addPair 23 = .ok (.getfield 30, 3) := by decide +kernel
theorem dX10_addPair_26 : decode cX10_addPair 26 = .ok (.aload_n 0, 1) := by decide +kernel
theorem dX10_addPair_27 : decode cX10_addPair 27 = .ok (.getfield 43, 3) := by decide +kernel
theorem dX10_addPair_30 : decode cX10_addPair 30 = .ok (.iload_n 2, 1) := by decide +kernel
theorem dX10_addPair_31 : decode cX10_addPair 31 = .ok (.iastore, 1) := by decide +kernel
theorem dX10_addPair_32 : decode cX10_addPair 32 = .ok (.aload_n 0, 1) := by decide +kernel
theorem dX10_addPair_33 : decode cX10_addPair 33 = .ok (.dup, 1) := by decide +kernel
theorem dX10_addPair_34 : decode cX10_addPair 34 = .ok (.getfield 43, 3) := by decide +kernel
theorem dX10_addPair_37 : decode cX10_addPair 37 = .ok (.iconst 1, 1) := by decide +kernel
theorem dX10_addPair_38 : decode cX10_addPair 38 = .ok (.iadd, 1) := by decide +kernel
theorem dX10_addPair_39 : decode cX10_addPair 39 = .ok (.putfield 43, 3) := by decide +kernel
theorem dX10_addPair_42 : decode cX10_addPair 42 = .ok (.return_, 1) := by decide +kernel
theorem dX10_termOf_0 : decode cX10_termOf 0 = .ok (.iload_n 1, 1) := by decide +kernel
theorem dX10_termOf_1 : decode cX10_termOf 1 = .ok (.sipush 400, 3) := by decide +kernel
theorem dX10_termOf_4 : decode cX10_termOf 4 = .ok (.if_icmp .ge 7, 3) := by decide +kernel
theorem dX10_termOf_7 : decode cX10_termOf 7 = .ok (.iload_n 1, 1) := by decide +kernel
theorem dX10_termOf_8 : decode cX10_termOf 8 = .ok (.goto 8, 3) := by decide +kernel
theorem dX10_termOf_11 : decode cX10_termOf 11 = .ok (.iload_n 1, 1) := by decide +kernel
theorem dX10_termOf_12 : decode cX10_termOf 12 = .ok (.sipush 400, 3) := by decide +kernel
theorem dX10_termOf_15 : decode cX10_termOf 15 = .ok (.isub, 1) := by decide +kernel
theorem dX10_termOf_16 : decode cX10_termOf 16 = .ok (.ireturn, 1) := by decide +kernel
theorem dX10_sideOf_0 : decode cX10_sideOf 0 = .ok (.iload_n 1, 1) := by decide +kernel
theorem dX10_sideOf_1 : decode cX10_sideOf 1 = .ok (.sipush 400, 3) := by decide +kernel
theorem dX10_sideOf_4 : decode cX10_sideOf 4 = .ok (.if_icmp .ge 7, 3) := by decide +kernel
theorem dX10_sideOf_7 : decode cX10_sideOf 7 = .ok (.iconst 0, 1) := by decide +kernel
theorem dX10_sideOf_8 : decode cX10_sideOf 8 = .ok (.goto 6, 3) := by decide +kernel
theorem dX10_sideOf_11 : decode cX10_sideOf 11 = .ok (.sipush 400, 3) := by decide +kernel
theorem dX10_sideOf_14 : decode cX10_sideOf 14 = .ok (.ireturn, 1) := by decide +kernel
theorem dX10_partOf_0 : decode cX10_partOf 0 = .ok (.aload_n 0, 1) := by decide +kernel
theorem dX10_partOf_1 : decode cX10_partOf 1 = .ok (.getfield 46, 3) := by decide +kernel
theorem dX10_partOf_4 : decode cX10_partOf 4 = .ok (.aload_n 0, 1) := by decide +kernel
theorem dX10_partOf_5 : decode cX10_partOf 5 = .ok (.iload_n 1, 1) := by decide +kernel
theorem dX10_partOf_6 : decode cX10_partOf 6 = .ok (.invokevirtual 68, 3) := by decide +kernel
theorem dX10_partOf_9 : decode cX10_partOf 9 = .ok (.iload_n 2, 1) := by decide +kernel
theorem dX10_partOf_10 : decode cX10_partOf 10 = .ok (.invokevirtual 71, 3) := by decide +kernel
theorem dX10_partOf_13 : decode cX10_partOf 13 = .ok (.aload_n 0, 1) := by decide +kernel
theorem dX10_partOf_14 : decode cX10_partOf 14 = .ok (.iload_n 1, 1) := by decide +kernel
theorem dX10_partOf_15 : decode cX10_partOf 15 = .ok (.invokevirtual 77, 3) := by decide +kernel
theorem dX10_partOf_18 : decode cX10_partOf 18 = .ok (.iadd, 1) := by decide +kernel
theorem dX10_partOf_19 : decode cX10_partOf 19 = .ok (.ireturn, 1) := by decide +kernel
theorem dX10_topOf_0 : decode cX10_topOf 0 = .ok (.aload_n 0, 1) := by decide +kernel
theorem dX10_topOf_1 : decode cX10_topOf 1 = .ok (.getfield 11, 3) := by decide +kernel
theorem dX10_topOf_4 : decode cX10_topOf 4 = .ok (.iload_n 1, 1) := by decide +kernel
theorem dX10_topOf_5 : decode cX10_topOf 5 = .ok (.iaload, 1) := by decide +kernel
theorem dX10_topOf_6 : decode cX10_topOf 6 = .ok (.aload_n 0, 1) := by decide +kernel
theorem dX10_topOf_7 : decode cX10_topOf 7 = .ok (.getfield 39, 3) := by decide +kernel
theorem dX10_topOf_10 : decode cX10_topOf 10 = .ok (.if_icmp .eq 8, 3) := by decide +kernel
theorem dX10_topOf_13 : decode cX10_topOf 13 = .ok (.aload_n 0, 1) := by decide +kernel
theorem dX10_topOf_14 : decode cX10_topOf 14 = .ok (.iload_n 1, 1) := by decide +kernel
theorem dX10_topOf_15 : decode cX10_topOf 15 = .ok (.invokevirtual 80, 3) := by decide +kernel
theorem dX10_topOf_18 : decode cX10_topOf 18 = .ok (.iload_n 1, 1) := by decide +kernel
theorem dX10_topOf_19 : decode cX10_topOf 19 = .ok (.istore_n 2, 1) := by decide +kernel
theorem dX10_topOf_20 : decode cX10_topOf 20 = .ok (.iconst 0, 1) := by decide +kernel
theorem dX10_topOf_21 : decode cX10_topOf 21 = .ok (.istore_n 3, 1) := by decide +kernel
theorem dX10_topOf_22 : decode cX10_topOf 22 = .ok (.iload_n 3, 1) := by decide +kernel
theorem dX10_topOf_23 : decode cX10_topOf 23 = .ok (.sipush 800, 3) := by decide +kernel
theorem dX10_topOf_26 : decode cX10_topOf 26 = .ok (.if_icmp .ge 43, 3) := by decide +kernel
theorem dX10_topOf_29 : decode cX10_topOf 29 = .ok (.aload_n 0, 1) := by decide +kernel
theorem dX10_topOf_30 : decode cX10_topOf 30 = .ok (.getfield 15, 3) := by decide +kernel
theorem dX10_topOf_33 : decode cX10_topOf 33 = .ok (.iload_n 2, 1) := by decide +kernel
theorem dX10_topOf_34 : decode cX10_topOf 34 = .ok (.iaload, 1) := by decide +kernel
theorem dX10_topOf_35 : decode cX10_topOf 35 = .ok (.iload_n 2, 1) := by decide +kernel
theorem dX10_topOf_36 : decode cX10_topOf 36 = .ok (.if_icmp .eq 33, 3) := by decide +kernel
theorem dX10_topOf_39 : decode cX10_topOf 39 = .ok (.aload_n 0, 1) := by decide +kernel
theorem dX10_topOf_40 : decode cX10_topOf 40 = .ok (.getfield 15, 3) := by decide +kernel
theorem dX10_topOf_43 : decode cX10_topOf 43 = .ok (.iload_n 2, 1) := by decide +kernel
theorem dX10_topOf_44 : decode cX10_topOf 44 = .ok (.aload_n 0, 1) := by decide +kernel
theorem dX10_topOf_45 : decode cX10_topOf 45 = .ok (.getfield 15, 3) := by decide +kernel
theorem dX10_topOf_48 : decode cX10_topOf 48 = .ok (.aload_n 0, 1) := by decide +kernel
theorem dX10_topOf_49 : decode cX10_topOf 49 = .ok (.getfield 15, 3) := by decide +kernel
theorem dX10_topOf_52 : decode cX10_topOf 52 = .ok (.iload_n 2, 1) := by decide +kernel
theorem dX10_topOf_53 : decode cX10_topOf 53 = .ok (.iaload, 1) := by decide +kernel
theorem dX10_topOf_54 : decode cX10_topOf 54 = .ok (.iaload, 1) := by decide +kernel
theorem dX10_topOf_55 : decode cX10_topOf 55 = .ok (.iastore, 1) := by decide +kernel
theorem dX10_topOf_56 : decode cX10_topOf 56 = .ok (.aload_n 0, 1) := by decide +kernel
theorem dX10_topOf_57 : decode cX10_topOf 57 = .ok (.getfield 15, 3) := by decide +kernel
theorem dX10_topOf_60 : decode cX10_topOf 60 = .ok (.iload_n 2, 1) := by decide +kernel
