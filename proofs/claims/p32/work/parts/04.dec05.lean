section
theorem dX10_init_0 : decode cX10_init 0 = .ok (.aload_n 0, 1) := by decide +kernel
theorem dX10_init_1 : decode cX10_init 1 = .ok (.invokespecial 3, 3) := by decide +kernel
theorem dX10_init_4 : decode cX10_init 4 = .ok (.aload_n 0, 1) := by decide +kernel
theorem dX10_init_5 : decode cX10_init 5 = .ok (.sipush 800, 3) := by decide +kernel
theorem dX10_init_8 : decode cX10_init 8 = .ok (.newarray .int, 2) := by decide +kernel
theorem dX10_init_10 : decode cX10_init 10 = .ok (.putfield 11, 3) := by decide +kernel
theorem dX10_init_13 : decode cX10_init 13 = .ok (.aload_n 0, 1) := by decide +kernel
theorem dX10_init_14 : decode cX10_init 14 = .ok (.sipush 800, 3) := by decide +kernel
theorem dX10_init_17 : decode cX10_init 17 = .ok (.newarray .int, 2) := by decide +kernel
theorem dX10_init_19 : decode cX10_init 19 = .ok (.putfield 15, 3) := by decide +kernel
theorem dX10_init_22 : decode cX10_init 22 = .ok (.aload_n 0, 1) := by decide +kernel
theorem dX10_init_23 : decode cX10_init 23 = .ok (.sipush 800, 3) := by decide +kernel
theorem dX10_init_26 : decode cX10_init 26 = .ok (.newarray .int, 2) := by decide +kernel
theorem dX10_init_28 : decode cX10_init 28 = .ok (.putfield 18, 3) := by decide +kernel
theorem dX10_init_31 : decode cX10_init 31 = .ok (.aload_n 0, 1) := by decide +kernel
theorem dX10_init_32 : decode cX10_init 32 = .ok (.sipush 800, 3) := by decide +kernel
theorem dX10_init_35 : decode cX10_init 35 = .ok (.newarray .int, 2) := by decide +kernel
theorem dX10_init_37 : decode cX10_init 37 = .ok (.putfield 21, 3) := by decide +kernel
theorem dX10_init_40 : decode cX10_init 40 = .ok (.aload_n 0, 1) := by decide +kernel
theorem dX10_init_41 : decode cX10_init 41 = .ok (.sipush 800, 3) := by decide +kernel
theorem dX10_init_44 : decode cX10_init 44 = .ok (.newarray .int, 2) := by decide +kernel
theorem dX10_init_46 : decode cX10_init 46 = .ok (.putfield 24, 3) := by decide +kernel
theorem dX10_init_49 : decode cX10_init 49 = .ok (.aload_n 0, 1) := by decide +kernel
theorem dX10_init_50 : decode cX10_init 50 = .ok (.sipush 2401, 3) := by decide +kernel
theorem dX10_init_53 : decode cX10_init 53 = .ok (.newarray .int, 2) := by decide +kernel
theorem dX10_init_55 : decode cX10_init 55 = .ok (.putfield 27, 3) := by decide +kernel
theorem dX10_init_58 : decode cX10_init 58 = .ok (.aload_n 0, 1) := by decide +kernel
theorem dX10_init_59 : decode cX10_init 59 = .ok (.sipush 2401, 3) := by decide +kernel
theorem dX10_init_62 : decode cX10_init 62 = .ok (.newarray .int, 2) := by decide +kernel
theorem dX10_init_64 : decode cX10_init 64 = .ok (.putfield 30, 3) := by decide +kernel
theorem dX10_init_67 : decode cX10_init 67 = .ok (.aload_n 0, 1) := by decide +kernel
theorem dX10_init_68 : decode cX10_init 68 = .ok (.sipush 800, 3) := by decide +kernel
theorem dX10_init_71 : decode cX10_init 71 = .ok (.newarray .int, 2) := by decide +kernel
theorem dX10_init_73 : decode cX10_init 73 = .ok (.putfield 33, 3) := by decide +kernel
theorem dX10_init_76 : decode cX10_init 76 = .ok (.aload_n 0, 1) := by decide +kernel
theorem dX10_init_77 : decode cX10_init 77 = .ok (.sipush 800, 3) := by decide +kernel
theorem dX10_init_80 : decode cX10_init 80 = .ok (.newarray .int, 2) := by decide +kernel
theorem dX10_init_82 : decode cX10_init 82 = .ok (.putfield 36, 3) := by decide +kernel
theorem dX10_init_85 : decode cX10_init 85 = .ok (.aload_n 0, 1) := by decide +kernel
theorem dX10_init_86 : decode cX10_init 86 = .ok (.iconst 0, 1) := by decide +kernel
theorem dX10_init_87 : decode cX10_init 87 = .ok (.putfield 39, 3) := by decide +kernel
theorem dX10_init_90 : decode cX10_init 90 = .ok (.aload_n 0, 1) := by decide +kernel
theorem dX10_init_91 : decode cX10_init 91 = .ok (.iconst 0, 1) := by decide +kernel
theorem dX10_init_92 : decode cX10_init 92 = .ok (.putfield 43, 3) := by decide +kernel
theorem dX10_init_95 : decode cX10_init 95 = .ok (.aload_n 0, 1) := by decide +kernel
theorem dX10_init_96 : decode cX10_init 96 = .ok (.aload_n 1, 1) := by decide +kernel
theorem dX10_init_97 : decode cX10_init 97 = .ok (.putfield 46, 3) := by decide +kernel
theorem dX10_init_100 : decode cX10_init 100 = .ok (.return_, 1) := by decide +kernel
theorem dX10_wayOf_0 : decode cX10_wayOf 0 = .ok (.aload_n 0, 1) := by decide +kernel
theorem dX10_wayOf_1 : decode cX10_wayOf 1 = .ok (.dup, 1) := by decide +kernel
theorem dX10_wayOf_2 : decode cX10_wayOf 2 = .ok (.getfield 39, 3) := by decide +kernel
theorem dX10_wayOf_5 : decode cX10_wayOf 5 = .ok (.iconst 1, 1) := by decide +kernel
theorem dX10_wayOf_6 : decode cX10_wayOf 6 = .ok (.iadd, 1) := by decide +kernel
theorem dX10_wayOf_7 : decode cX10_wayOf 7 = .ok (.putfield 39, 3) := by decide +kernel
theorem dX10_wayOf_10 : decode cX10_wayOf 10 = .ok (.aload_n 0, 1) := by decide +kernel
theorem dX10_wayOf_11 : decode cX10_wayOf 11 = .ok (.iconst 0, 1) := by decide +kernel
theorem dX10_wayOf_12 : decode cX10_wayOf 12 = .ok (.putfield 43, 3) := by decide +kernel
theorem dX10_wayOf_15 : decode cX10_wayOf 15 = .ok (.aload_n 0, 1) := by decide +kernel
theorem dX10_wayOf_16 : decode cX10_wayOf 16 = .ok (.iload_n 1, 1) := by decide +kernel
theorem dX10_wayOf_17 : decode cX10_wayOf 17 = .ok (.iload_n 2, 1) := by decide +kernel
theorem dX10_wayOf_18 : decode cX10_wayOf 18 = .ok (.iload_n 3, 1) := by decide +kernel
theorem dX10_wayOf_19 : decode cX10_wayOf 19 = .ok (.iadd, 1) := by decide +kernel
theorem dX10_wayOf_20 : decode cX10_wayOf 20 = .ok (.invokevirtual 50, 3) := by decide +kernel
theorem dX10_wayOf_23 : decode cX10_wayOf 23 = .ok (.iconst 0, 1) := by decide +kernel
theorem dX10_wayOf_24 : decode cX10_wayOf 24 = .ok (.istore 4, 2) := by decide +kernel
theorem dX10_wayOf_26 : decode cX10_wayOf 26 = .ok (.iload 4, 2) := by decide +kernel
theorem dX10_wayOf_28 : decode cX10_wayOf 28 = .ok (.aload_n 0, 1) := by decide +kernel
theorem dX10_wayOf_29 : decode cX10_wayOf 29 = .ok (.getfield 43, 3) := by decide +kernel
theorem dX10_wayOf_32 : decode cX10_wayOf 32 = .ok (.if_icmp .ge 50, 3) := by decide +kernel
theorem dX10_wayOf_35 : decode cX10_wayOf 35 = .ok (.iload 4, 2) := by decide +kernel
theorem dX10_wayOf_37 : decode cX10_wayOf 37 = .ok (.aload_n 0, 1) := by decide +kernel
theorem dX10_wayOf_38 : decode cX10_wayOf 38 = .ok (.getfield 27, 3) := by decide +kernel
theorem dX10_wayOf_41 : decode cX10_wayOf 41 = .ok (.arraylength, 1) := by decide +kernel
theorem dX10_wayOf_42 : decode cX10_wayOf 42 = .ok (.if_icmp .ge 40, 3) := by decide +kernel
theorem dX10_wayOf_45 : decode cX10_wayOf 45 = .ok (.aload_n 0, 1) := by decide +kernel
theorem dX10_wayOf_46 : decode cX10_wayOf 46 = .ok (.aload_n 0, 1) := by decide +kernel
theorem dX10_wayOf_47 : decode cX10_wayOf 47 = .ok (.aload_n 0, 1) := by decide +kernel
theorem dX10_wayOf_48 : decode cX10_wayOf 48 = .ok (.getfield 27, 3) := by decide +kernel
theorem dX10_wayOf_51 : decode cX10_wayOf 51 = .ok (.iload 4, 2) := by decide +kernel
theorem dX10_wayOf_53 : decode cX10_wayOf 53 = .ok (.iaload, 1) := by decide +kernel
theorem dX10_wayOf_54 : decode cX10_wayOf 54 = .ok (.invokevirtual 54, 3) := by decide +kernel
theorem dX10_wayOf_57 : decode cX10_wayOf 57 = .ok (.aload_n 0, 1) := by decide +kernel
theorem dX10_wayOf_58 : decode cX10_wayOf 58 = .ok (.aload_n 0, 1) := by decide +kernel
theorem dX10_wayOf_59 : decode cX10_wayOf 59 = .ok (.getfield 30, 3) := by decide +kernel
theorem dX10_wayOf_62 : decode cX10_wayOf 62 = .ok (.iload 4, 2) := by decide +kernel
theorem dX10_wayOf_64 : decode cX10_wayOf 64 = .ok (.iaload, 1) := by decide +kernel
theorem dX10_wayOf_65 : decode cX10_wayOf 65 = .ok (.invokevirtual 54, 3) := by decide +kernel
theorem dX10_wayOf_68 : decode cX10_wayOf 68 = .ok (.invokevirtual 58, 3) := by decide +kernel
theorem dX10_wayOf_71 : decode cX10_wayOf 71 = .ok (.ifCond .ne 5, 3) := by decide +kernel
theorem dX10_wayOf_74 : decode cX10_wayOf 74 = .ok (.iconst 0, 1) := by decide +kernel
theorem dX10_wayOf_75 : decode cX10_wayOf 75 = .ok (.ireturn, 1) := by decide +kernel
theorem dX10_wayOf_76 : decode cX10_wayOf 76 = .ok (.iinc 4 1, 3) := by decide +kernel
theorem dX10_wayOf_79 : decode cX10_wayOf 79 = .ok (.goto (-53), 3) := by decide +kernel
theorem dX10_wayOf_82 : decode cX10_wayOf 82 = .ok (.aload_n 0, 1) := by decide +kernel
theorem dX10_wayOf_83 : decode cX10_wayOf 83 = .ok (.iload_n 1, 1) := by decide +kernel
theorem dX10_wayOf_84 : decode cX10_wayOf 84 = .ok (.invokevirtual 54, 3) := by decide +kernel
theorem dX10_wayOf_87 : decode cX10_wayOf 87 = .ok (.istore 4, 2) := by decide +kernel
theorem dX10_wayOf_89 : decode cX10_wayOf 89 = .ok (.aload_n 0, 1) := by decide +kernel
theorem dX10_wayOf_90 : decode cX10_wayOf 90 = .ok (.iload 4, 2) := by decide +kernel
theorem dX10_wayOf_92 : decode cX10_wayOf 92 = .ok (.invokevirtual 62, 3) := by decide +kernel
theorem dX10_wayOf_95 : decode cX10_wayOf 95 = .ok (.istore 5, 2) := by decide +kernel
theorem dX10_wayOf_97 : decode cX10_wayOf 97 = .ok (.aload_n 0, 1) := by decide +kernel
theorem dX10_wayOf_98 : decode cX10_wayOf 98 = .ok (.iload 4, 2) := by decide +kernel
theorem dX10_wayOf_100 : decode cX10_wayOf 100 = .ok (.invokevirtual 65, 3) := by decide +kernel
theorem dX10_wayOf_103 : decode cX10_wayOf 103 = .ok (.iload 5, 2) := by decide +kernel
theorem dX10_wayOf_105 : decode cX10_wayOf 105 = .ok (.if_icmp .ge 7, 3) := by decide +kernel
theorem dX10_wayOf_108 : decode cX10_wayOf 108 = .ok (.iconst 2, 1) := by decide +kernel
theorem dX10_wayOf_109 : decode cX10_wayOf 109 = .ok (.goto 4, 3) := by decide +kernel
theorem dX10_wayOf_112 : decode cX10_wayOf 112 = .ok (.iconst 1, 1) := by decide +kernel
theorem dX10_wayOf_113 : decode cX10_wayOf 113 = .ok (.ireturn, 1) := by decide +kernel
theorem dX10_addPair_0 : decode cX10_addPair 0 = .ok (.aload_n 0, 1) := by decide +kernel
theorem dX10_addPair_1 : decode cX10_addPair 1 = .ok (.getfield 43, 3) := by decide +kernel
theorem dX10_addPair_4 : decode cX10_addPair 4 = .ok (.aload_n 0, 1) := by decide +kernel
theorem dX10_addPair_5 : decode cX10_addPair 5 = .ok (.getfield 27, 3) := by decide +kernel
theorem dX10_addPair_8 : decode cX10_addPair 8 = .ok (.arraylength, 1) := by decide +kernel
theorem dX10_addPair_9 : decode cX10_addPair 9 = .ok (.if_icmp .ge 33, 3) := by decide +kernel
theorem dX10_addPair_12 : decode cX10_addPair 12 = .ok (.aload_n 0, 1) := by decide +kernel
theorem dX10_addPair_13 : decode cX10_addPair 13 = .ok (.getfield 27, 3) := by decide +kernel
theorem dX10_addPair_16 : decode cX10_addPair 16 = .ok (.aload_n 0, 1) := by decide +kernel
theorem dX10_addPair_17 : decode cX10_addPair 17 = .ok (.getfield 43, 3) := by decide +kernel
theorem dX10_addPair_20 : decode cX10_addPair 20 = .ok (.iload_n 1, 1) := by decide +kernel
theorem dX10_addPair_21 : decode cX10_addPair 21 = .ok (.iastore, 1) := by decide +kernel
theorem dX10_addPair_22 : decode cX10_addPair 22 = .ok (.aload_n 0, 1) := by decide +kernel
theorem dX10_addPair_23 : decode cX10_addPair 23 = .ok (.getfield 30, 3) := by decide +kernel
theorem dX10_addPair_26 : decode cX10_addPair 26 = .ok (.aload_n 0, 1) := by decide +kernel
theorem dX10_addPair_27 : decode cX10_addPair 27 = .ok (.getfield 43, 3) := by decide +kernel
theorem dX10_addPair_30 : decode cX10_addPair 30 = .ok (.iload_n 2, 1) := by decide +kernel
theorem dX10_addPair_31 : decode cX10_addPair 31 = .ok (.iastore, 1) := by decide +kernel
theorem dX10_addPair_32 : decode cX10_addPair 32 = .ok (.aload_n 0, 1) := by decide +kernel
theorem dX10_addPair_33 : decode cX10_addPair 33 = .ok (.dup, 1) := by decide +kernel
theorem dX10_addPair_34 : decode cX10_addPair 34 = .ok (.getfield 43, 3) := by decide +kernel
theorem dX10_addPair_37 : decode cX10_addPair 37 = .ok (.iconst 1, 1) := by decide +kernel
theorem dX10_addPair_38 : decode cX10_addPair 38 = .ok (.iadd, 1) := by decide +kernel
theorem dX10_addPair_39 : decode cX10_addPair 39 = .ok (.putfield 43, 3) := by decide +kernel
theorem dX10_addPair_42 : decode cX10_addPair 42 = .ok (.return_, 1) := by decide +kernel
theorem dX10_termOf_0 : decode cX10_termOf 0 = .ok (.iload_n 1, 1) := by decide +kernel
theorem dX10_termOf_1 : decode cX10_termOf 1 = .ok (.sipush 400, 3) := by decide +kernel
theorem dX10_termOf_4 : decode cX10_termOf 4 = .ok (.if_icmp .ge 7, 3) := by decide +kernel
theorem dX10_termOf_7 : decode cX10_termOf 7 = .ok (.iload_n 1, 1) := by decide +kernel
theorem dX10_termOf_8 : decode cX10_termOf 8 = .ok (.goto 8, 3) := by decide +kernel
theorem dX10_termOf_11 : decode cX10_termOf 11 = .ok (.iload_n 1, 1) := by decide +kernel
theorem dX10_termOf_12 : decode cX10_termOf 12 = .ok (.sipush 400, 3) := by decide +kernel
theorem dX10_termOf_15 : decode cX10_termOf 15 = .ok (.isub, 1) := by decide +kernel
theorem dX10_termOf_16 : decode cX10_termOf 16 = .ok (.ireturn, 1) := by decide +kernel
theorem dX10_sideOf_0 : decode cX10_sideOf 0 = .ok (.iload_n 1, 1) := by decide +kernel
theorem dX10_sideOf_1 : decode cX10_sideOf 1 = .ok (.sipush 400, 3) := by decide +kernel
theorem dX10_sideOf_4 : decode cX10_sideOf 4 = .ok (.if_icmp .ge 7, 3) := by decide +kernel
theorem dX10_sideOf_7 : decode cX10_sideOf 7 = .ok (.iconst 0, 1) := by decide +kernel
theorem dX10_sideOf_8 : decode cX10_sideOf 8 = .ok (.goto 6, 3) := by decide +kernel
theorem dX10_sideOf_11 : decode cX10_sideOf 11 = .ok (.sipush 400, 3) := by decide +kernel
theorem dX10_sideOf_14 : decode cX10_sideOf 14 = .ok (.ireturn, 1) := by decide +kernel
theorem dX10_partOf_0 : decode cX10_partOf 0 = .ok (.aload_n 0, 1) := by decide +kernel
theorem dX10_partOf_1 : decode cX10_partOf 1 = .ok (.getfield 46, 3) := by decide +kernel
theorem dX10_partOf_4 : decode cX10_partOf 4 = .ok (.aload_n 0, 1) := by decide +kernel
theorem dX10_partOf_5 : decode cX10_partOf 5 = .ok (.iload_n 1, 1) := by decide +kernel
theorem dX10_partOf_6 : decode cX10_partOf 6 = .ok (.invokevirtual 68, 3) := by decide +kernel
theorem dX10_partOf_9 : decode cX10_partOf 9 = .ok (.iload_n 2, 1) := by decide +kernel
theorem dX10_partOf_10 : decode cX10_partOf 10 = .ok (.invokevirtual 71, 3) := by decide +kernel
theorem dX10_partOf_13 : decode cX10_partOf 13 = .ok (.aload_n 0, 1) := by decide +kernel
theorem dX10_partOf_14 : decode cX10_partOf 14 = .ok (.iload_n 1, 1) := by decide +kernel
theorem dX10_partOf_15 : decode cX10_partOf 15 = .ok (.invokevirtual 77, 3) := by decide +kernel
theorem dX10_partOf_18 : decode cX10_partOf 18 = .ok (.iadd, 1) := by decide +kernel
theorem dX10_partOf_19 : decode cX10_partOf 19 = .ok (.ireturn, 1) := by decide +kernel
theorem dX10_topOf_0 : decode cX10_topOf 0 = .ok (.aload_n 0, 1) := by decide +kernel
theorem dX10_topOf_1 : decode cX10_topOf 1 = .ok (.getfield 11, 3) := by decide +kernel
theorem dX10_topOf_4 : decode cX10_topOf 4 = .ok (.iload_n 1, 1) := by decide +kernel
theorem dX10_topOf_5 : decode cX10_topOf 5 = .ok (.iaload, 1) := by decide +kernel
theorem dX10_topOf_6 : decode cX10_topOf 6 = .ok (.aload_n 0, 1) := by decide +kernel
theorem dX10_topOf_7 : decode cX10_topOf 7 = .ok (.getfield 39, 3) := by decide +kernel
theorem dX10_topOf_10 : decode cX10_topOf 10 = .ok (.if_icmp .eq 8, 3) := by decide +kernel
theorem dX10_topOf_13 : decode cX10_topOf 13 = .ok (.aload_n 0, 1) := by decide +kernel
theorem dX10_topOf_14 : decode cX10_topOf 14 = .ok (.iload_n 1, 1) := by decide +kernel
theorem dX10_topOf_15 : decode cX10_topOf 15 = .ok (.invokevirtual 80, 3) := by decide +kernel
theorem dX10_topOf_18 : decode cX10_topOf 18 = .ok (.iload_n 1, 1) := by decide +kernel
theorem dX10_topOf_19 : decode cX10_topOf 19 = .ok (.istore_n 2, 1) := by decide +kernel
theorem dX10_topOf_20 : decode cX10_topOf 20 = .ok (.iconst 0, 1) := by decide +kernel
theorem dX10_topOf_21 : decode cX10_topOf 21 = .ok (.istore_n 3, 1) := by decide +kernel
theorem dX10_topOf_22 : decode cX10_topOf 22 = .ok (.iload_n 3, 1) := by decide +kernel
theorem dX10_topOf_23 : decode cX10_topOf 23 = .ok (.sipush 800, 3) := by decide +kernel
theorem dX10_topOf_26 : decode cX10_topOf 26 = .ok (.if_icmp .ge 43, 3) := by decide +kernel
theorem dX10_topOf_29 : decode cX10_topOf 29 = .ok (.aload_n 0, 1) := by decide +kernel
theorem dX10_topOf_30 : decode cX10_topOf 30 = .ok (.getfield 15, 3) := by decide +kernel
theorem dX10_topOf_33 : decode cX10_topOf 33 = .ok (.iload_n 2, 1) := by decide +kernel
theorem dX10_topOf_34 : decode cX10_topOf 34 = .ok (.iaload, 1) := by decide +kernel
theorem dX10_topOf_35 : decode cX10_topOf 35 = .ok (.iload_n 2, 1) := by decide +kernel
theorem dX10_topOf_36 : decode cX10_topOf 36 = .ok (.if_icmp .eq 33, 3) := by decide +kernel
theorem dX10_topOf_39 : decode cX10_topOf 39 = .ok (.aload_n 0, 1) := by decide +kernel
theorem dX10_topOf_40 : decode cX10_topOf 40 = .ok (.getfield 15, 3) := by decide +kernel
theorem dX10_topOf_43 : decode cX10_topOf 43 = .ok (.iload_n 2, 1) := by decide +kernel
theorem dX10_topOf_44 : decode cX10_topOf 44 = .ok (.aload_n 0, 1) := by decide +kernel
theorem dX10_topOf_45 : decode cX10_topOf 45 = .ok (.getfield 15, 3) := by decide +kernel
theorem dX10_topOf_48 : decode cX10_topOf 48 = .ok (.aload_n 0, 1) := by decide +kernel
theorem dX10_topOf_49 : decode cX10_topOf 49 = .ok (.getfield 15, 3) := by decide +kernel
theorem dX10_topOf_52 : decode cX10_topOf 52 = .ok (.iload_n 2, 1) := by decide +kernel
theorem dX10_topOf_53 : decode cX10_topOf 53 = .ok (.iaload, 1) := by decide +kernel
theorem dX10_topOf_54 : decode cX10_topOf 54 = .ok (.iaload, 1) := by decide +kernel
theorem dX10_topOf_55 : decode cX10_topOf 55 = .ok (.iastore, 1) := by decide +kernel
theorem dX10_topOf_56 : decode cX10_topOf 56 = .ok (.aload_n 0, 1) := by decide +kernel
theorem dX10_topOf_57 : decode cX10_topOf 57 = .ok (.getfield 15, 3) := by decide +kernel
theorem dX10_topOf_60 : decode cX10_topOf 60 = .ok (.iload_n 2, 1) := by decide +kernel
theorem dX10_topOf_61 : decode cX10_topOf 61 = .ok (.iaload, 1) := by decide +kernel
theorem dX10_topOf_62 : decode cX10_topOf 62 = .ok (.istore_n 2, 1) := by decide +kernel
theorem dX10_topOf_63 : decode cX10_topOf 63 = .ok (.iinc 3 1, 3) := by decide +kernel
theorem dX10_topOf_66 : decode cX10_topOf 66 = .ok (.goto (-44), 3) := by decide +kernel
theorem dX10_topOf_69 : decode cX10_topOf 69 = .ok (.iload_n 2, 1) := by decide +kernel
theorem dX10_topOf_70 : decode cX10_topOf 70 = .ok (.ireturn, 1) := by decide +kernel
theorem dX10_wake_0 : decode cX10_wake 0 = .ok (.aload_n 0, 1) := by decide +kernel
theorem dX10_wake_1 : decode cX10_wake 1 = .ok (.getfield 46, 3) := by decide +kernel
theorem dX10_wake_4 : decode cX10_wake 4 = .ok (.getfield 84, 3) := by decide +kernel
theorem dX10_wake_7 : decode cX10_wake 7 = .ok (.aload_n 0, 1) := by decide +kernel
theorem dX10_wake_8 : decode cX10_wake 8 = .ok (.iload_n 1, 1) := by decide +kernel
theorem dX10_wake_9 : decode cX10_wake 9 = .ok (.invokevirtual 68, 3) := by decide +kernel
theorem dX10_wake_12 : decode cX10_wake 12 = .ok (.iaload, 1) := by decide +kernel
theorem dX10_wake_13 : decode cX10_wake 13 = .ok (.ifCond .ge 7, 3) := by decide +kernel
theorem dX10_wake_16 : decode cX10_wake 16 = .ok (.iconst 1, 1) := by decide +kernel
theorem dX10_wake_17 : decode cX10_wake 17 = .ok (.goto 4, 3) := by decide +kernel
theorem dX10_wake_20 : decode cX10_wake 20 = .ok (.iconst 0, 1) := by decide +kernel
theorem dX10_wake_21 : decode cX10_wake 21 = .ok (.istore_n 2, 1) := by decide +kernel
theorem dX10_wake_22 : decode cX10_wake 22 = .ok (.aload_n 0, 1) := by decide +kernel
theorem dX10_wake_23 : decode cX10_wake 23 = .ok (.getfield 11, 3) := by decide +kernel
theorem dX10_wake_26 : decode cX10_wake 26 = .ok (.iload_n 1, 1) := by decide +kernel
theorem dX10_wake_27 : decode cX10_wake 27 = .ok (.aload_n 0, 1) := by decide +kernel
theorem dX10_wake_28 : decode cX10_wake 28 = .ok (.getfield 39, 3) := by decide +kernel
theorem dX10_wake_31 : decode cX10_wake 31 = .ok (.iastore, 1) := by decide +kernel
theorem dX10_wake_32 : decode cX10_wake 32 = .ok (.aload_n 0, 1) := by decide +kernel
theorem dX10_wake_33 : decode cX10_wake 33 = .ok (.getfield 15, 3) := by decide +kernel
theorem dX10_wake_36 : decode cX10_wake 36 = .ok (.iload_n 1, 1) := by decide +kernel
theorem dX10_wake_37 : decode cX10_wake 37 = .ok (.iload_n 1, 1) := by decide +kernel
theorem dX10_wake_38 : decode cX10_wake 38 = .ok (.iastore, 1) := by decide +kernel
theorem dX10_wake_39 : decode cX10_wake 39 = .ok (.aload_n 0, 1) := by decide +kernel
theorem dX10_wake_40 : decode cX10_wake 40 = .ok (.getfield 18, 3) := by decide +kernel
theorem dX10_wake_43 : decode cX10_wake 43 = .ok (.iload_n 1, 1) := by decide +kernel
theorem dX10_wake_44 : decode cX10_wake 44 = .ok (.iload_n 2, 1) := by decide +kernel
theorem dX10_wake_45 : decode cX10_wake 45 = .ok (.ifCond .eq 7, 3) := by decide +kernel
theorem dX10_wake_48 : decode cX10_wake 48 = .ok (.iconst (-1), 1) := by decide +kernel
theorem dX10_wake_49 : decode cX10_wake 49 = .ok (.goto 4, 3) := by decide +kernel
theorem dX10_wake_52 : decode cX10_wake 52 = .ok (.iload_n 1, 1) := by decide +kernel
theorem dX10_wake_53 : decode cX10_wake 53 = .ok (.iastore, 1) := by decide +kernel
theorem dX10_wake_54 : decode cX10_wake 54 = .ok (.aload_n 0, 1) := by decide +kernel
theorem dX10_wake_55 : decode cX10_wake 55 = .ok (.getfield 21, 3) := by decide +kernel
theorem dX10_wake_58 : decode cX10_wake 58 = .ok (.iload_n 1, 1) := by decide +kernel
theorem dX10_wake_59 : decode cX10_wake 59 = .ok (.iload_n 1, 1) := by decide +kernel
theorem dX10_wake_60 : decode cX10_wake 60 = .ok (.iastore, 1) := by decide +kernel
theorem dX10_wake_61 : decode cX10_wake 61 = .ok (.aload_n 0, 1) := by decide +kernel
theorem dX10_wake_62 : decode cX10_wake 62 = .ok (.getfield 24, 3) := by decide +kernel
theorem dX10_wake_65 : decode cX10_wake 65 = .ok (.iload_n 1, 1) := by decide +kernel
theorem dX10_wake_66 : decode cX10_wake 66 = .ok (.iconst (-1), 1) := by decide +kernel
theorem dX10_wake_67 : decode cX10_wake 67 = .ok (.iastore, 1) := by decide +kernel
theorem dX10_wake_68 : decode cX10_wake 68 = .ok (.aload_n 0, 1) := by decide +kernel
theorem dX10_wake_69 : decode cX10_wake 69 = .ok (.getfield 36, 3) := by decide +kernel
theorem dX10_wake_72 : decode cX10_wake 72 = .ok (.iload_n 1, 1) := by decide +kernel
theorem dX10_wake_73 : decode cX10_wake 73 = .ok (.iconst (-1), 1) := by decide +kernel
theorem dX10_wake_74 : decode cX10_wake 74 = .ok (.iastore, 1) := by decide +kernel
theorem dX10_wake_75 : decode cX10_wake 75 = .ok (.return_, 1) := by decide +kernel
theorem dX10_joined_0 : decode cX10_joined 0 = .ok (.iload_n 1, 1) := by decide +kernel
theorem dX10_joined_1 : decode cX10_joined 1 = .ok (.iload_n 2, 1) := by decide +kernel
theorem dX10_joined_2 : decode cX10_joined 2 = .ok (.if_icmp .ne 5, 3) := by decide +kernel
theorem dX10_joined_5 : decode cX10_joined 5 = .ok (.iconst 1, 1) := by decide +kernel
theorem dX10_joined_6 : decode cX10_joined 6 = .ok (.ireturn, 1) := by decide +kernel
theorem dX10_joined_7 : decode cX10_joined 7 = .ok (.aload_n 0, 1) := by decide +kernel
theorem dX10_joined_8 : decode cX10_joined 8 = .ok (.getfield 18, 3) := by decide +kernel
theorem dX10_joined_11 : decode cX10_joined 11 = .ok (.iload_n 1, 1) := by decide +kernel
theorem dX10_joined_12 : decode cX10_joined 12 = .ok (.iaload, 1) := by decide +kernel
theorem dX10_joined_13 : decode cX10_joined 13 = .ok (.istore_n 3, 1) := by decide +kernel
theorem dX10_joined_14 : decode cX10_joined 14 = .ok (.aload_n 0, 1) := by decide +kernel
theorem dX10_joined_15 : decode cX10_joined 15 = .ok (.getfield 18, 3) := by decide +kernel
theorem dX10_joined_18 : decode cX10_joined 18 = .ok (.iload_n 2, 1) := by decide +kernel
theorem dX10_joined_19 : decode cX10_joined 19 = .ok (.iaload, 1) := by decide +kernel
theorem dX10_joined_20 : decode cX10_joined 20 = .ok (.istore 4, 2) := by decide +kernel
theorem dX10_joined_22 : decode cX10_joined 22 = .ok (.aload_n 0, 1) := by decide +kernel
theorem dX10_joined_23 : decode cX10_joined 23 = .ok (.getfield 15, 3) := by decide +kernel
theorem dX10_joined_26 : decode cX10_joined 26 = .ok (.iload_n 2, 1) := by decide +kernel
theorem dX10_joined_27 : decode cX10_joined 27 = .ok (.iload_n 1, 1) := by decide +kernel
theorem dX10_joined_28 : decode cX10_joined 28 = .ok (.iastore, 1) := by decide +kernel
theorem dX10_joined_29 : decode cX10_joined 29 = .ok (.aload_n 0, 1) := by decide +kernel
theorem dX10_joined_30 : decode cX10_joined 30 = .ok (.getfield 18, 3) := by decide +kernel
theorem dX10_joined_33 : decode cX10_joined 33 = .ok (.iload_n 1, 1) := by decide +kernel
theorem dX10_joined_34 : decode cX10_joined 34 = .ok (.iload_n 3, 1) := by decide +kernel
theorem dX10_joined_35 : decode cX10_joined 35 = .ok (.iconst (-1), 1) := by decide +kernel
theorem dX10_joined_36 : decode cX10_joined 36 = .ok (.if_icmp .ne 8, 3) := by decide +kernel
theorem dX10_joined_39 : decode cX10_joined 39 = .ok (.iload 4, 2) := by decide +kernel
theorem dX10_joined_41 : decode cX10_joined 41 = .ok (.goto 4, 3) := by decide +kernel
theorem dX10_joined_44 : decode cX10_joined 44 = .ok (.iload_n 3, 1) := by decide +kernel
theorem dX10_joined_45 : decode cX10_joined 45 = .ok (.iastore, 1) := by decide +kernel
theorem dX10_joined_46 : decode cX10_joined 46 = .ok (.iload_n 3, 1) := by decide +kernel
theorem dX10_joined_47 : decode cX10_joined 47 = .ok (.iconst (-1), 1) := by decide +kernel
theorem dX10_joined_48 : decode cX10_joined 48 = .ok (.if_icmp .ne 31, 3) := by decide +kernel
theorem dX10_joined_51 : decode cX10_joined 51 = .ok (.iload 4, 2) := by decide +kernel
theorem dX10_joined_53 : decode cX10_joined 53 = .ok (.iconst (-1), 1) := by decide +kernel
theorem dX10_joined_54 : decode cX10_joined 54 = .ok (.if_icmp .ne 25, 3) := by decide +kernel
theorem dX10_joined_57 : decode cX10_joined 57 = .ok (.aload_n 0, 1) := by decide +kernel
theorem dX10_joined_58 : decode cX10_joined 58 = .ok (.getfield 21, 3) := by decide +kernel
theorem dX10_joined_61 : decode cX10_joined 61 = .ok (.iload_n 1, 1) := by decide +kernel
theorem dX10_joined_62 : decode cX10_joined 62 = .ok (.aload_n 0, 1) := by decide +kernel
theorem dX10_joined_63 : decode cX10_joined 63 = .ok (.aload_n 0, 1) := by decide +kernel
theorem dX10_joined_64 : decode cX10_joined 64 = .ok (.getfield 21, 3) := by decide +kernel
theorem dX10_joined_67 : decode cX10_joined 67 = .ok (.iload_n 1, 1) := by decide +kernel
theorem dX10_joined_68 : decode cX10_joined 68 = .ok (.iaload, 1) := by decide +kernel
theorem dX10_joined_69 : decode cX10_joined 69 = .ok (.aload_n 0, 1) := by decide +kernel
theorem dX10_joined_70 : decode cX10_joined 70 = .ok (.getfield 21, 3) := by decide +kernel
theorem dX10_joined_73 : decode cX10_joined 73 = .ok (.iload_n 2, 1) := by decide +kernel
theorem dX10_joined_74 : decode cX10_joined 74 = .ok (.iaload, 1) := by decide +kernel
theorem dX10_joined_75 : decode cX10_joined 75 = .ok (.invokevirtual 87, 3) := by decide +kernel
theorem dX10_joined_78 : decode cX10_joined 78 = .ok (.iastore, 1) := by decide +kernel
theorem dX10_joined_79 : decode cX10_joined 79 = .ok (.iload_n 3, 1) := by decide +kernel
theorem dX10_joined_80 : decode cX10_joined 80 = .ok (.iconst (-1), 1) := by decide +kernel
theorem dX10_joined_81 : decode cX10_joined 81 = .ok (.if_icmp .eq 9, 3) := by decide +kernel
theorem dX10_joined_84 : decode cX10_joined 84 = .ok (.iload 4, 2) := by decide +kernel
theorem dX10_joined_86 : decode cX10_joined 86 = .ok (.iconst (-1), 1) := by decide +kernel
theorem dX10_joined_87 : decode cX10_joined 87 = .ok (.if_icmp .ne 5, 3) := by decide +kernel
theorem dX10_joined_90 : decode cX10_joined 90 = .ok (.iconst 1, 1) := by decide +kernel
theorem dX10_joined_91 : decode cX10_joined 91 = .ok (.ireturn, 1) := by decide +kernel
theorem dX10_joined_92 : decode cX10_joined 92 = .ok (.aload_n 0, 1) := by decide +kernel
theorem dX10_joined_93 : decode cX10_joined 93 = .ok (.getfield 46, 3) := by decide +kernel
theorem dX10_joined_96 : decode cX10_joined 96 = .ok (.getfield 84, 3) := by decide +kernel
theorem dX10_joined_99 : decode cX10_joined 99 = .ok (.aload_n 0, 1) := by decide +kernel
theorem dX10_joined_100 : decode cX10_joined 100 = .ok (.iload_n 3, 1) := by decide +kernel
theorem dX10_joined_101 : decode cX10_joined 101 = .ok (.invokevirtual 68, 3) := by decide +kernel
theorem dX10_joined_104 : decode cX10_joined 104 = .ok (.iaload, 1) := by decide +kernel
theorem dX10_joined_105 : decode cX10_joined 105 = .ok (.aload_n 0, 1) := by decide +kernel
theorem dX10_joined_106 : decode cX10_joined 106 = .ok (.getfield 46, 3) := by decide +kernel
theorem dX10_joined_109 : decode cX10_joined 109 = .ok (.getfield 84, 3) := by decide +kernel
theorem dX10_joined_112 : decode cX10_joined 112 = .ok (.aload_n 0, 1) := by decide +kernel
theorem dX10_joined_113 : decode cX10_joined 113 = .ok (.iload 4, 2) := by decide +kernel
theorem dX10_joined_115 : decode cX10_joined 115 = .ok (.invokevirtual 68, 3) := by decide +kernel
theorem dX10_joined_118 : decode cX10_joined 118 = .ok (.iaload, 1) := by decide +kernel
theorem dX10_joined_119 : decode cX10_joined 119 = .ok (.if_icmp .eq 5, 3) := by decide +kernel
theorem dX10_joined_122 : decode cX10_joined 122 = .ok (.iconst 0, 1) := by decide +kernel
theorem dX10_joined_123 : decode cX10_joined 123 = .ok (.ireturn, 1) := by decide +kernel
theorem dX10_joined_124 : decode cX10_joined 124 = .ok (.iconst 0, 1) := by decide +kernel
theorem dX10_joined_125 : decode cX10_joined 125 = .ok (.istore 5, 2) := by decide +kernel
theorem dX10_joined_127 : decode cX10_joined 127 = .ok (.iload 5, 2) := by decide +kernel
theorem dX10_joined_129 : decode cX10_joined 129 = .ok (.aload_n 0, 1) := by decide +kernel
theorem dX10_joined_130 : decode cX10_joined 130 = .ok (.getfield 46, 3) := by decide +kernel
theorem dX10_joined_133 : decode cX10_joined 133 = .ok (.getfield 90, 3) := by decide +kernel
theorem dX10_joined_136 : decode cX10_joined 136 = .ok (.aload_n 0, 1) := by decide +kernel
theorem dX10_joined_137 : decode cX10_joined 137 = .ok (.iload_n 3, 1) := by decide +kernel
theorem dX10_joined_138 : decode cX10_joined 138 = .ok (.invokevirtual 68, 3) := by decide +kernel
theorem dX10_joined_141 : decode cX10_joined 141 = .ok (.iaload, 1) := by decide +kernel
theorem dX10_joined_142 : decode cX10_joined 142 = .ok (.if_icmp .ge 28, 3) := by decide +kernel
theorem dX10_joined_145 : decode cX10_joined 145 = .ok (.aload_n 0, 1) := by decide +kernel
theorem dX10_joined_146 : decode cX10_joined 146 = .ok (.aload_n 0, 1) := by decide +kernel
theorem dX10_joined_147 : decode cX10_joined 147 = .ok (.iload_n 3, 1) := by decide +kernel
theorem dX10_joined_148 : decode cX10_joined 148 = .ok (.iload 5, 2) := by decide +kernel
theorem dX10_joined_150 : decode cX10_joined 150 = .ok (.invokevirtual 93, 3) := by decide +kernel
theorem dX10_joined_153 : decode cX10_joined 153 = .ok (.aload_n 0, 1) := by decide +kernel
theorem dX10_joined_154 : decode cX10_joined 154 = .ok (.iload 4, 2) := by decide +kernel
theorem dX10_joined_156 : decode cX10_joined 156 = .ok (.iload 5, 2) := by decide +kernel
theorem dX10_joined_158 : decode cX10_joined 158 = .ok (.invokevirtual 93, 3) := by decide +kernel
theorem dX10_joined_161 : decode cX10_joined 161 = .ok (.invokevirtual 50, 3) := by decide +kernel
theorem dX10_joined_164 : decode cX10_joined 164 = .ok (.iinc 5 1, 3) := by decide +kernel
theorem dX10_joined_167 : decode cX10_joined 167 = .ok (.goto (-40), 3) := by decide +kernel
theorem dX10_joined_170 : decode cX10_joined 170 = .ok (.iconst 1, 1) := by decide +kernel
theorem dX10_joined_171 : decode cX10_joined 171 = .ok (.ireturn, 1) := by decide +kernel
theorem dX10_lesser_0 : decode cX10_lesser 0 = .ok (.aload_n 0, 1) := by decide +kernel
theorem dX10_lesser_1 : decode cX10_lesser 1 = .ok (.getfield 46, 3) := by decide +kernel
theorem dX10_lesser_4 : decode cX10_lesser 4 = .ok (.getfield 84, 3) := by decide +kernel
theorem dX10_lesser_7 : decode cX10_lesser 7 = .ok (.aload_n 0, 1) := by decide +kernel
theorem dX10_lesser_8 : decode cX10_lesser 8 = .ok (.iload_n 1, 1) := by decide +kernel
theorem dX10_lesser_9 : decode cX10_lesser 9 = .ok (.invokevirtual 68, 3) := by decide +kernel
theorem dX10_lesser_12 : decode cX10_lesser 12 = .ok (.iaload, 1) := by decide +kernel
theorem dX10_lesser_13 : decode cX10_lesser 13 = .ok (.iconst (-1), 1) := by decide +kernel
theorem dX10_lesser_14 : decode cX10_lesser 14 = .ok (.ixor, 1) := by decide +kernel
theorem dX10_lesser_15 : decode cX10_lesser 15 = .ok (.aload_n 0, 1) := by decide +kernel
theorem dX10_lesser_16 : decode cX10_lesser 16 = .ok (.getfield 46, 3) := by decide +kernel
theorem dX10_lesser_19 : decode cX10_lesser 19 = .ok (.getfield 84, 3) := by decide +kernel
theorem dX10_lesser_22 : decode cX10_lesser 22 = .ok (.aload_n 0, 1) := by decide +kernel
theorem dX10_lesser_23 : decode cX10_lesser 23 = .ok (.iload_n 2, 1) := by decide +kernel
theorem dX10_lesser_24 : decode cX10_lesser 24 = .ok (.invokevirtual 68, 3) := by decide +kernel
theorem dX10_lesser_27 : decode cX10_lesser 27 = .ok (.iaload, 1) := by decide +kernel
theorem dX10_lesser_28 : decode cX10_lesser 28 = .ok (.iconst (-1), 1) := by decide +kernel
theorem dX10_lesser_29 : decode cX10_lesser 29 = .ok (.ixor, 1) := by decide +kernel
theorem dX10_lesser_30 : decode cX10_lesser 30 = .ok (.if_icmp .gt 7, 3) := by decide +kernel
theorem dX10_lesser_33 : decode cX10_lesser 33 = .ok (.iload_n 1, 1) := by decide +kernel
theorem dX10_lesser_34 : decode cX10_lesser 34 = .ok (.goto 4, 3) := by decide +kernel
theorem dX10_lesser_37 : decode cX10_lesser 37 = .ok (.iload_n 2, 1) := by decide +kernel
theorem dX10_lesser_38 : decode cX10_lesser 38 = .ok (.ireturn, 1) := by decide +kernel
theorem dX10_takenAway_0 : decode cX10_takenAway 0 = .ok (.iconst 0, 1) := by decide +kernel
theorem dX10_takenAway_1 : decode cX10_takenAway 1 = .ok (.istore_n 2, 1) := by decide +kernel
theorem dX10_takenAway_2 : decode cX10_takenAway 2 = .ok (.aload_n 0, 1) := by decide +kernel
theorem dX10_takenAway_3 : decode cX10_takenAway 3 = .ok (.getfield 36, 3) := by decide +kernel
theorem dX10_takenAway_6 : decode cX10_takenAway 6 = .ok (.iload_n 1, 1) := by decide +kernel
theorem dX10_takenAway_7 : decode cX10_takenAway 7 = .ok (.iaload, 1) := by decide +kernel
theorem dX10_takenAway_8 : decode cX10_takenAway 8 = .ok (.ifCond .ne 13, 3) := by decide +kernel
theorem dX10_takenAway_11 : decode cX10_takenAway 11 = .ok (.aload_n 0, 1) := by decide +kernel
theorem dX10_takenAway_12 : decode cX10_takenAway 12 = .ok (.getfield 33, 3) := by decide +kernel
theorem dX10_takenAway_15 : decode cX10_takenAway 15 = .ok (.iload_n 2, 1) := by decide +kernel
theorem dX10_takenAway_16 : decode cX10_takenAway 16 = .ok (.iload_n 1, 1) := by decide +kernel
theorem dX10_takenAway_17 : decode cX10_takenAway 17 = .ok (.iastore, 1) := by decide +kernel
theorem dX10_takenAway_18 : decode cX10_takenAway 18 = .ok (.iinc 2 1, 3) := by decide +kernel
theorem dX10_takenAway_21 : decode cX10_takenAway 21 = .ok (.iconst 0, 1) := by decide +kernel
theorem dX10_takenAway_22 : decode cX10_takenAway 22 = .ok (.istore_n 3, 1) := by decide +kernel
theorem dX10_takenAway_23 : decode cX10_takenAway 23 = .ok (.iload_n 3, 1) := by decide +kernel
theorem dX10_takenAway_24 : decode cX10_takenAway 24 = .ok (.iload_n 2, 1) := by decide +kernel
theorem dX10_takenAway_25 : decode cX10_takenAway 25 = .ok (.if_icmp .ge 116, 3) := by decide +kernel
theorem dX10_takenAway_28 : decode cX10_takenAway 28 = .ok (.iload_n 3, 1) := by decide +kernel
theorem dX10_takenAway_29 : decode cX10_takenAway 29 = .ok (.sipush 800, 3) := by decide +kernel
theorem dX10_takenAway_32 : decode cX10_takenAway 32 = .ok (.if_icmp .ge 109, 3) := by decide +kernel
theorem dX10_takenAway_35 : decode cX10_takenAway 35 = .ok (.aload_n 0, 1) := by decide +kernel
theorem dX10_takenAway_36 : decode cX10_takenAway 36 = .ok (.getfield 18, 3) := by decide +kernel
theorem dX10_takenAway_39 : decode cX10_takenAway 39 = .ok (.aload_n 0, 1) := by decide +kernel
theorem dX10_takenAway_40 : decode cX10_takenAway 40 = .ok (.getfield 33, 3) := by decide +kernel
theorem dX10_takenAway_43 : decode cX10_takenAway 43 = .ok (.iload_n 3, 1) := by decide +kernel
theorem dX10_takenAway_44 : decode cX10_takenAway 44 = .ok (.iaload, 1) := by decide +kernel
theorem dX10_takenAway_45 : decode cX10_takenAway 45 = .ok (.iaload, 1) := by decide +kernel
theorem dX10_takenAway_46 : decode cX10_takenAway 46 = .ok (.istore 4, 2) := by decide +kernel
theorem dX10_takenAway_48 : decode cX10_takenAway 48 = .ok (.iconst 0, 1) := by decide +kernel
theorem dX10_takenAway_49 : decode cX10_takenAway 49 = .ok (.istore 5, 2) := by decide +kernel
theorem dX10_takenAway_51 : decode cX10_takenAway 51 = .ok (.iload 4, 2) := by decide +kernel
theorem dX10_takenAway_53 : decode cX10_takenAway 53 = .ok (.iconst (-1), 1) := by decide +kernel
theorem dX10_takenAway_54 : decode cX10_takenAway 54 = .ok (.if_icmp .eq 81, 3) := by decide +kernel
theorem dX10_takenAway_57 : decode cX10_takenAway 57 = .ok (.iload 5, 2) := by decide +kernel
theorem dX10_takenAway_59 : decode cX10_takenAway 59 = .ok (.aload_n 0, 1) := by decide +kernel
theorem dX10_takenAway_60 : decode cX10_takenAway 60 = .ok (.getfield 46, 3) := by decide +kernel
theorem dX10_takenAway_63 : decode cX10_takenAway 63 = .ok (.getfield 90, 3) := by decide +kernel
theorem dX10_takenAway_66 : decode cX10_takenAway 66 = .ok (.aload_n 0, 1) := by decide +kernel
theorem dX10_takenAway_67 : decode cX10_takenAway 67 = .ok (.iload 4, 2) := by decide +kernel
theorem dX10_takenAway_69 : decode cX10_takenAway 69 = .ok (.invokevirtual 68, 3) := by decide +kernel
theorem dX10_takenAway_72 : decode cX10_takenAway 72 = .ok (.iaload, 1) := by decide +kernel
theorem dX10_takenAway_73 : decode cX10_takenAway 73 = .ok (.if_icmp .ge 62, 3) := by decide +kernel
theorem dX10_takenAway_76 : decode cX10_takenAway 76 = .ok (.aload_n 0, 1) := by decide +kernel
theorem dX10_takenAway_77 : decode cX10_takenAway 77 = .ok (.aload_n 0, 1) := by decide +kernel
theorem dX10_takenAway_78 : decode cX10_takenAway 78 = .ok (.iload 4, 2) := by decide +kernel
theorem dX10_takenAway_80 : decode cX10_takenAway 80 = .ok (.iload 5, 2) := by decide +kernel
theorem dX10_takenAway_82 : decode cX10_takenAway 82 = .ok (.invokevirtual 93, 3) := by decide +kernel
theorem dX10_takenAway_85 : decode cX10_takenAway 85 = .ok (.invokevirtual 54, 3) := by decide +kernel
theorem dX10_takenAway_88 : decode cX10_takenAway 88 = .ok (.istore 6, 2) := by decide +kernel
theorem dX10_takenAway_90 : decode cX10_takenAway 90 = .ok (.aload_n 0, 1) := by decide +kernel
theorem dX10_takenAway_91 : decode cX10_takenAway 91 = .ok (.getfield 36, 3) := by decide +kernel
theorem dX10_takenAway_94 : decode cX10_takenAway 94 = .ok (.iload 6, 2) := by decide +kernel
theorem dX10_takenAway_96 : decode cX10_takenAway 96 = .ok (.dup2, 1) := by decide +kernel
theorem dX10_takenAway_97 : decode cX10_takenAway 97 = .ok (.iaload, 1) := by decide +kernel
theorem dX10_takenAway_98 : decode cX10_takenAway 98 = .ok (.iconst 1, 1) := by decide +kernel
theorem dX10_takenAway_99 : decode cX10_takenAway 99 = .ok (.isub, 1) := by decide +kernel
theorem dX10_takenAway_100 : decode cX10_takenAway 100 = .ok (.iastore, 1) := by decide +kernel
theorem dX10_takenAway_101 : decode cX10_takenAway 101 = .ok (.aload_n 0, 1) := by decide +kernel
theorem dX10_takenAway_102 : decode cX10_takenAway 102 = .ok (.getfield 36, 3) := by decide +kernel
theorem dX10_takenAway_105 : decode cX10_takenAway 105 = .ok (.iload 6, 2) := by decide +kernel
theorem dX10_takenAway_107 : decode cX10_takenAway 107 = .ok (.iaload, 1) := by decide +kernel
theorem dX10_takenAway_108 : decode cX10_takenAway 108 = .ok (.ifCond .ne 21, 3) := by decide +kernel
theorem dX10_takenAway_111 : decode cX10_takenAway 111 = .ok (.iload_n 2, 1) := by decide +kernel
theorem dX10_takenAway_112 : decode cX10_takenAway 112 = .ok (.sipush 800, 3) := by decide +kernel
theorem dX10_takenAway_115 : decode cX10_takenAway 115 = .ok (.if_icmp .ge 14, 3) := by decide +kernel
theorem dX10_takenAway_118 : decode cX10_takenAway 118 = .ok (.aload_n 0, 1) := by decide +kernel
theorem dX10_takenAway_119 : decode cX10_takenAway 119 = .ok (.getfield 33, 3) := by decide +kernel
theorem dX10_takenAway_122 : decode cX10_takenAway 122 = .ok (.iload_n 2, 1) := by decide +kernel
theorem dX10_takenAway_123 : decode cX10_takenAway 123 = .ok (.iload 6, 2) := by decide +kernel
theorem dX10_takenAway_125 : decode cX10_takenAway 125 = .ok (.iastore, 1) := by decide +kernel
theorem dX10_takenAway_126 : decode cX10_takenAway 126 = .ok (.iinc 2 1, 3) := by decide +kernel
theorem dX10_takenAway_129 : decode cX10_takenAway 129 = .ok (.iinc 5 1, 3) := by decide +kernel
theorem dX10_takenAway_132 : decode cX10_takenAway 132 = .ok (.goto (-81), 3) := by decide +kernel
theorem dX10_takenAway_135 : decode cX10_takenAway 135 = .ok (.iinc 3 1, 3) := by decide +kernel
theorem dX10_takenAway_138 : decode cX10_takenAway 138 = .ok (.goto (-115), 3) := by decide +kernel
theorem dX10_takenAway_141 : decode cX10_takenAway 141 = .ok (.iload_n 2, 1) := by decide +kernel
theorem dX10_takenAway_142 : decode cX10_takenAway 142 = .ok (.ireturn, 1) := by decide +kernel
theorem dX10_listAll_0 : decode cX10_listAll 0 = .ok (.iconst 1, 1) := by decide +kernel
theorem dX10_listAll_1 : decode cX10_listAll 1 = .ok (.istore_n 2, 1) := by decide +kernel
theorem dX10_listAll_2 : decode cX10_listAll 2 = .ok (.aload_n 0, 1) := by decide +kernel
theorem dX10_listAll_3 : decode cX10_listAll 3 = .ok (.getfield 33, 3) := by decide +kernel
theorem dX10_listAll_6 : decode cX10_listAll 6 = .ok (.iconst 0, 1) := by decide +kernel
theorem dX10_listAll_7 : decode cX10_listAll 7 = .ok (.iload_n 1, 1) := by decide +kernel
theorem dX10_listAll_8 : decode cX10_listAll 8 = .ok (.iastore, 1) := by decide +kernel
theorem dX10_listAll_9 : decode cX10_listAll 9 = .ok (.aload_n 0, 1) := by decide +kernel
theorem dX10_listAll_10 : decode cX10_listAll 10 = .ok (.getfield 36, 3) := by decide +kernel
theorem dX10_listAll_13 : decode cX10_listAll 13 = .ok (.iload_n 1, 1) := by decide +kernel
theorem dX10_listAll_14 : decode cX10_listAll 14 = .ok (.iconst 0, 1) := by decide +kernel
theorem dX10_listAll_15 : decode cX10_listAll 15 = .ok (.iastore, 1) := by decide +kernel
theorem dX10_listAll_16 : decode cX10_listAll 16 = .ok (.iconst 0, 1) := by decide +kernel
theorem dX10_listAll_17 : decode cX10_listAll 17 = .ok (.istore_n 3, 1) := by decide +kernel
theorem dX10_listAll_18 : decode cX10_listAll 18 = .ok (.iload_n 3, 1) := by decide +kernel
theorem dX10_listAll_19 : decode cX10_listAll 19 = .ok (.iload_n 2, 1) := by decide +kernel
theorem dX10_listAll_20 : decode cX10_listAll 20 = .ok (.if_icmp .ge 125, 3) := by decide +kernel
theorem dX10_listAll_23 : decode cX10_listAll 23 = .ok (.iload_n 3, 1) := by decide +kernel
theorem dX10_listAll_24 : decode cX10_listAll 24 = .ok (.sipush 800, 3) := by decide +kernel
theorem dX10_listAll_27 : decode cX10_listAll 27 = .ok (.if_icmp .ge 118, 3) := by decide +kernel
theorem dX10_listAll_30 : decode cX10_listAll 30 = .ok (.aload_n 0, 1) := by decide +kernel
theorem dX10_listAll_31 : decode cX10_listAll 31 = .ok (.getfield 18, 3) := by decide +kernel
theorem dX10_listAll_34 : decode cX10_listAll 34 = .ok (.aload_n 0, 1) := by decide +kernel
theorem dX10_listAll_35 : decode cX10_listAll 35 = .ok (.getfield 33, 3) := by decide +kernel
theorem dX10_listAll_38 : decode cX10_listAll 38 = .ok (.iload_n 3, 1) := by decide +kernel
theorem dX10_listAll_39 : decode cX10_listAll 39 = .ok (.iaload, 1) := by decide +kernel
theorem dX10_listAll_40 : decode cX10_listAll 40 = .ok (.iaload, 1) := by decide +kernel
theorem dX10_listAll_41 : decode cX10_listAll 41 = .ok (.istore 4, 2) := by decide +kernel
theorem dX10_listAll_43 : decode cX10_listAll 43 = .ok (.iconst 0, 1) := by decide +kernel
theorem dX10_listAll_44 : decode cX10_listAll 44 = .ok (.istore 5, 2) := by decide +kernel
theorem dX10_listAll_46 : decode cX10_listAll 46 = .ok (.iload 4, 2) := by decide +kernel
theorem dX10_listAll_48 : decode cX10_listAll 48 = .ok (.iconst (-1), 1) := by decide +kernel
theorem dX10_listAll_49 : decode cX10_listAll 49 = .ok (.if_icmp .eq 90, 3) := by decide +kernel
theorem dX10_listAll_52 : decode cX10_listAll 52 = .ok (.iload 5, 2) := by decide +kernel
theorem dX10_listAll_54 : decode cX10_listAll 54 = .ok (.aload_n 0, 1) := by decide +kernel
theorem dX10_listAll_55 : decode cX10_listAll 55 = .ok (.getfield 46, 3) := by decide +kernel
theorem dX10_listAll_58 : decode cX10_listAll 58 = .ok (.getfield 90, 3) := by decide +kernel
theorem dX10_listAll_61 : decode cX10_listAll 61 = .ok (.aload_n 0, 1) := by decide +kernel
theorem dX10_listAll_62 : decode cX10_listAll 62 = .ok (.iload 4, 2) := by decide +kernel
theorem dX10_listAll_64 : decode cX10_listAll 64 = .ok (.invokevirtual 68, 3) := by decide +kernel
theorem dX10_listAll_67 : decode cX10_listAll 67 = .ok (.iaload, 1) := by decide +kernel
theorem dX10_listAll_68 : decode cX10_listAll 68 = .ok (.if_icmp .ge 71, 3) := by decide +kernel
theorem dX10_listAll_71 : decode cX10_listAll 71 = .ok (.aload_n 0, 1) := by decide +kernel
theorem dX10_listAll_72 : decode cX10_listAll 72 = .ok (.aload_n 0, 1) := by decide +kernel
theorem dX10_listAll_73 : decode cX10_listAll 73 = .ok (.iload 4, 2) := by decide +kernel
theorem dX10_listAll_75 : decode cX10_listAll 75 = .ok (.iload 5, 2) := by decide +kernel
theorem dX10_listAll_77 : decode cX10_listAll 77 = .ok (.invokevirtual 93, 3) := by decide +kernel
theorem dX10_listAll_80 : decode cX10_listAll 80 = .ok (.invokevirtual 54, 3) := by decide +kernel
theorem dX10_listAll_83 : decode cX10_listAll 83 = .ok (.istore 6, 2) := by decide +kernel
theorem dX10_listAll_85 : decode cX10_listAll 85 = .ok (.aload_n 0, 1) := by decide +kernel
theorem dX10_listAll_86 : decode cX10_listAll 86 = .ok (.getfield 36, 3) := by decide +kernel
theorem dX10_listAll_89 : decode cX10_listAll 89 = .ok (.iload 6, 2) := by decide +kernel
theorem dX10_listAll_91 : decode cX10_listAll 91 = .ok (.iaload, 1) := by decide +kernel
theorem dX10_listAll_92 : decode cX10_listAll 92 = .ok (.iconst (-1), 1) := by decide +kernel
theorem dX10_listAll_93 : decode cX10_listAll 93 = .ok (.if_icmp .ne 29, 3) := by decide +kernel
theorem dX10_listAll_96 : decode cX10_listAll 96 = .ok (.iload_n 2, 1) := by decide +kernel
theorem dX10_listAll_97 : decode cX10_listAll 97 = .ok (.sipush 800, 3) := by decide +kernel
theorem dX10_listAll_100 : decode cX10_listAll 100 = .ok (.if_icmp .ge 22, 3) := by decide +kernel
theorem dX10_listAll_103 : decode cX10_listAll 103 = .ok (.aload_n 0, 1) := by decide +kernel
theorem dX10_listAll_104 : decode cX10_listAll 104 = .ok (.getfield 36, 3) := by decide +kernel
theorem dX10_listAll_107 : decode cX10_listAll 107 = .ok (.iload 6, 2) := by decide +kernel
theorem dX10_listAll_109 : decode cX10_listAll 109 = .ok (.iconst 0, 1) := by decide +kernel
theorem dX10_listAll_110 : decode cX10_listAll 110 = .ok (.iastore, 1) := by decide +kernel
theorem dX10_listAll_111 : decode cX10_listAll 111 = .ok (.aload_n 0, 1) := by decide +kernel
theorem dX10_listAll_112 : decode cX10_listAll 112 = .ok (.getfield 33, 3) := by decide +kernel
theorem dX10_listAll_115 : decode cX10_listAll 115 = .ok (.iload_n 2, 1) := by decide +kernel
theorem dX10_listAll_116 : decode cX10_listAll 116 = .ok (.iload 6, 2) := by decide +kernel
theorem dX10_listAll_118 : decode cX10_listAll 118 = .ok (.iastore, 1) := by decide +kernel
theorem dX10_listAll_119 : decode cX10_listAll 119 = .ok (.iinc 2 1, 3) := by decide +kernel
theorem dX10_listAll_122 : decode cX10_listAll 122 = .ok (.aload_n 0, 1) := by decide +kernel
theorem dX10_listAll_123 : decode cX10_listAll 123 = .ok (.getfield 36, 3) := by decide +kernel
theorem dX10_listAll_126 : decode cX10_listAll 126 = .ok (.iload 6, 2) := by decide +kernel
theorem dX10_listAll_128 : decode cX10_listAll 128 = .ok (.dup2, 1) := by decide +kernel
theorem dX10_listAll_129 : decode cX10_listAll 129 = .ok (.iaload, 1) := by decide +kernel
theorem dX10_listAll_130 : decode cX10_listAll 130 = .ok (.iconst 1, 1) := by decide +kernel
theorem dX10_listAll_131 : decode cX10_listAll 131 = .ok (.iadd, 1) := by decide +kernel
theorem dX10_listAll_132 : decode cX10_listAll 132 = .ok (.iastore, 1) := by decide +kernel
theorem dX10_listAll_133 : decode cX10_listAll 133 = .ok (.iinc 5 1, 3) := by decide +kernel
theorem dX10_listAll_136 : decode cX10_listAll 136 = .ok (.goto (-90), 3) := by decide +kernel
theorem dX10_listAll_139 : decode cX10_listAll 139 = .ok (.iinc 3 1, 3) := by decide +kernel
theorem dX10_listAll_142 : decode cX10_listAll 142 = .ok (.goto (-124), 3) := by decide +kernel
theorem dX10_listAll_145 : decode cX10_listAll 145 = .ok (.iload_n 2, 1) := by decide +kernel
theorem dX10_listAll_146 : decode cX10_listAll 146 = .ok (.ireturn, 1) := by decide +kernel
theorem dX10_bindAll_0 : decode cX10_bindAll 0 = .ok (.iconst 0, 1) := by decide +kernel
theorem dX10_bindAll_1 : decode cX10_bindAll 1 = .ok (.istore 4, 2) := by decide +kernel
theorem dX10_bindAll_3 : decode cX10_bindAll 3 = .ok (.iload 4, 2) := by decide +kernel
theorem dX10_bindAll_5 : decode cX10_bindAll 5 = .ok (.bipush 8, 2) := by decide +kernel
theorem dX10_bindAll_7 : decode cX10_bindAll 7 = .ok (.if_icmp .ge 55, 3) := by decide +kernel
theorem dX10_bindAll_10 : decode cX10_bindAll 10 = .ok (.iload_n 1, 1) := by decide +kernel
theorem dX10_bindAll_11 : decode cX10_bindAll 11 = .ok (.iload 4, 2) := by decide +kernel
theorem dX10_bindAll_13 : decode cX10_bindAll 13 = .ok (.ishr, 1) := by decide +kernel
theorem dX10_bindAll_14 : decode cX10_bindAll 14 = .ok (.iconst 1, 1) := by decide +kernel
theorem dX10_bindAll_15 : decode cX10_bindAll 15 = .ok (.iand, 1) := by decide +kernel
theorem dX10_bindAll_16 : decode cX10_bindAll 16 = .ok (.ifCond .ne 7, 3) := by decide +kernel
theorem dX10_bindAll_19 : decode cX10_bindAll 19 = .ok (.iconst (-1), 1) := by decide +kernel
theorem dX10_bindAll_20 : decode cX10_bindAll 20 = .ok (.goto 16, 3) := by decide +kernel
theorem dX10_bindAll_23 : decode cX10_bindAll 23 = .ok (.aload_n 0, 1) := by decide +kernel
theorem dX10_bindAll_24 : decode cX10_bindAll 24 = .ok (.aload_n 0, 1) := by decide +kernel
theorem dX10_bindAll_25 : decode cX10_bindAll 25 = .ok (.getfield 46, 3) := by decide +kernel
theorem dX10_bindAll_28 : decode cX10_bindAll 28 = .ok (.iload 4, 2) := by decide +kernel
theorem dX10_bindAll_30 : decode cX10_bindAll 30 = .ok (.invokevirtual 96, 3) := by decide +kernel
theorem dX10_bindAll_33 : decode cX10_bindAll 33 = .ok (.invokevirtual 99, 3) := by decide +kernel
theorem dX10_bindAll_36 : decode cX10_bindAll 36 = .ok (.istore 5, 2) := by decide +kernel
theorem dX10_bindAll_38 : decode cX10_bindAll 38 = .ok (.iload 5, 2) := by decide +kernel
theorem dX10_bindAll_40 : decode cX10_bindAll 40 = .ok (.bipush (-3), 2) := by decide +kernel
theorem dX10_bindAll_42 : decode cX10_bindAll 42 = .ok (.if_icmp .ne 6, 3) := by decide +kernel
theorem dX10_bindAll_45 : decode cX10_bindAll 45 = .ok (.bipush (-3), 2) := by decide +kernel
theorem dX10_bindAll_47 : decode cX10_bindAll 47 = .ok (.ireturn, 1) := by decide +kernel
theorem dX10_bindAll_48 : decode cX10_bindAll 48 = .ok (.aload_n 2, 1) := by decide +kernel
theorem dX10_bindAll_49 : decode cX10_bindAll 49 = .ok (.iload_n 3, 1) := by decide +kernel
theorem dX10_bindAll_50 : decode cX10_bindAll 50 = .ok (.iload 4, 2) := by decide +kernel
theorem dX10_bindAll_52 : decode cX10_bindAll 52 = .ok (.iadd, 1) := by decide +kernel
theorem dX10_bindAll_53 : decode cX10_bindAll 53 = .ok (.iload 5, 2) := by decide +kernel
theorem dX10_bindAll_55 : decode cX10_bindAll 55 = .ok (.iastore, 1) := by decide +kernel
theorem dX10_bindAll_56 : decode cX10_bindAll 56 = .ok (.iinc 4 1, 3) := by decide +kernel
theorem dX10_bindAll_59 : decode cX10_bindAll 59 = .ok (.goto (-56), 3) := by decide +kernel
theorem dX10_bindAll_62 : decode cX10_bindAll 62 = .ok (.iconst 1, 1) := by decide +kernel
theorem dX10_bindAll_63 : decode cX10_bindAll 63 = .ok (.ireturn, 1) := by decide +kernel
theorem dX10_boundOf_0 : decode cX10_boundOf 0 = .ok (.iload_n 1, 1) := by decide +kernel
theorem dX10_boundOf_1 : decode cX10_boundOf 1 = .ok (.ifCond .ge 6, 3) := by decide +kernel
theorem dX10_boundOf_4 : decode cX10_boundOf 4 = .ok (.bipush (-3), 2) := by decide +kernel
theorem dX10_boundOf_6 : decode cX10_boundOf 6 = .ok (.ireturn, 1) := by decide +kernel
theorem dX10_boundOf_7 : decode cX10_boundOf 7 = .ok (.aload_n 0, 1) := by decide +kernel
theorem dX10_boundOf_8 : decode cX10_boundOf 8 = .ok (.iload_n 1, 1) := by decide +kernel
theorem dX10_boundOf_9 : decode cX10_boundOf 9 = .ok (.invokevirtual 54, 3) := by decide +kernel
theorem dX10_boundOf_12 : decode cX10_boundOf 12 = .ok (.istore_n 2, 1) := by decide +kernel
theorem dX10_boundOf_13 : decode cX10_boundOf 13 = .ok (.aload_n 0, 1) := by decide +kernel
theorem dX10_boundOf_14 : decode cX10_boundOf 14 = .ok (.getfield 18, 3) := by decide +kernel
theorem dX10_boundOf_17 : decode cX10_boundOf 17 = .ok (.iload_n 2, 1) := by decide +kernel
theorem dX10_boundOf_18 : decode cX10_boundOf 18 = .ok (.iaload, 1) := by decide +kernel
theorem dX10_boundOf_19 : decode cX10_boundOf 19 = .ok (.iconst (-1), 1) := by decide +kernel
theorem dX10_boundOf_20 : decode cX10_boundOf 20 = .ok (.if_icmp .eq 10, 3) := by decide +kernel
theorem dX10_boundOf_23 : decode cX10_boundOf 23 = .ok (.aload_n 0, 1) := by decide +kernel
theorem dX10_boundOf_24 : decode cX10_boundOf 24 = .ok (.iload_n 2, 1) := by decide +kernel
theorem dX10_boundOf_25 : decode cX10_boundOf 25 = .ok (.iconst 1, 1) := by decide +kernel
theorem dX10_boundOf_26 : decode cX10_boundOf 26 = .ok (.invokevirtual 102, 3) := by decide +kernel
theorem dX10_boundOf_29 : decode cX10_boundOf 29 = .ok (.ireturn, 1) := by decide +kernel
theorem dX10_boundOf_30 : decode cX10_boundOf 30 = .ok (.aload_n 0, 1) := by decide +kernel
theorem dX10_boundOf_31 : decode cX10_boundOf 31 = .ok (.getfield 21, 3) := by decide +kernel
theorem dX10_boundOf_34 : decode cX10_boundOf 34 = .ok (.iload_n 2, 1) := by decide +kernel
theorem dX10_boundOf_35 : decode cX10_boundOf 35 = .ok (.iaload, 1) := by decide +kernel
theorem dX10_boundOf_36 : decode cX10_boundOf 36 = .ok (.iload_n 1, 1) := by decide +kernel
theorem dX10_boundOf_37 : decode cX10_boundOf 37 = .ok (.if_icmp .ne 7, 3) := by decide +kernel
theorem dX10_boundOf_40 : decode cX10_boundOf 40 = .ok (.iconst (-1), 1) := by decide +kernel
theorem dX10_boundOf_41 : decode cX10_boundOf 41 = .ok (.goto 9, 3) := by decide +kernel
theorem dX10_boundOf_44 : decode cX10_boundOf 44 = .ok (.aload_n 0, 1) := by decide +kernel
theorem dX10_boundOf_45 : decode cX10_boundOf 45 = .ok (.getfield 21, 3) := by decide +kernel
theorem dX10_boundOf_48 : decode cX10_boundOf 48 = .ok (.iload_n 2, 1) := by decide +kernel
theorem dX10_boundOf_49 : decode cX10_boundOf 49 = .ok (.iaload, 1) := by decide +kernel
theorem dX10_boundOf_50 : decode cX10_boundOf 50 = .ok (.ireturn, 1) := by decide +kernel
theorem dX10_solvedClass_0 : decode cX10_solvedClass 0 = .ok (.iload_n 2, 1) := by decide +kernel
theorem dX10_solvedClass_1 : decode cX10_solvedClass 1 = .ok (.bipush 6, 2) := by decide +kernel
theorem dX10_solvedClass_3 : decode cX10_solvedClass 3 = .ok (.if_icmp .le 6, 3) := by decide +kernel
theorem dX10_solvedClass_6 : decode cX10_solvedClass 6 = .ok (.bipush (-3), 2) := by decide +kernel
theorem dX10_solvedClass_8 : decode cX10_solvedClass 8 = .ok (.ireturn, 1) := by decide +kernel
theorem dX10_solvedClass_9 : decode cX10_solvedClass 9 = .ok (.aload_n 0, 1) := by decide +kernel
theorem dX10_solvedClass_10 : decode cX10_solvedClass 10 = .ok (.getfield 24, 3) := by decide +kernel
theorem dX10_solvedClass_13 : decode cX10_solvedClass 13 = .ok (.iload_n 1, 1) := by decide +kernel
theorem dX10_solvedClass_14 : decode cX10_solvedClass 14 = .ok (.iaload, 1) := by decide +kernel
theorem dX10_solvedClass_15 : decode cX10_solvedClass 15 = .ok (.iconst (-1), 1) := by decide +kernel
theorem dX10_solvedClass_16 : decode cX10_solvedClass 16 = .ok (.if_icmp .ne 36, 3) := by decide +kernel
theorem dX10_solvedClass_19 : decode cX10_solvedClass 19 = .ok (.aload_n 0, 1) := by decide +kernel
theorem dX10_solvedClass_20 : decode cX10_solvedClass 20 = .ok (.getfield 18, 3) := by decide +kernel
theorem dX10_solvedClass_23 : decode cX10_solvedClass 23 = .ok (.iload_n 1, 1) := by decide +kernel
theorem dX10_solvedClass_24 : decode cX10_solvedClass 24 = .ok (.iaload, 1) := by decide +kernel
theorem dX10_solvedClass_25 : decode cX10_solvedClass 25 = .ok (.istore_n 3, 1) := by decide +kernel
theorem dX10_solvedClass_26 : decode cX10_solvedClass 26 = .ok (.aload_n 0, 1) := by decide +kernel
theorem dX10_solvedClass_27 : decode cX10_solvedClass 27 = .ok (.getfield 24, 3) := by decide +kernel
theorem dX10_solvedClass_30 : decode cX10_solvedClass 30 = .ok (.iload_n 1, 1) := by decide +kernel
theorem dX10_solvedClass_31 : decode cX10_solvedClass 31 = .ok (.iload_n 3, 1) := by decide +kernel
theorem dX10_solvedClass_32 : decode cX10_solvedClass 32 = .ok (.iconst (-1), 1) := by decide +kernel
theorem dX10_solvedClass_33 : decode cX10_solvedClass 33 = .ok (.if_icmp .ne 12, 3) := by decide +kernel
theorem dX10_solvedClass_36 : decode cX10_solvedClass 36 = .ok (.aload_n 0, 1) := by decide +kernel
theorem dX10_solvedClass_37 : decode cX10_solvedClass 37 = .ok (.getfield 21, 3) := by decide +kernel
theorem dX10_solvedClass_40 : decode cX10_solvedClass 40 = .ok (.iload_n 1, 1) := by decide +kernel
theorem dX10_solvedClass_41 : decode cX10_solvedClass 41 = .ok (.iaload, 1) := by decide +kernel
theorem dX10_solvedClass_42 : decode cX10_solvedClass 42 = .ok (.goto 9, 3) := by decide +kernel
theorem dX10_solvedClass_45 : decode cX10_solvedClass 45 = .ok (.aload_n 0, 1) := by decide +kernel
theorem dX10_solvedClass_46 : decode cX10_solvedClass 46 = .ok (.iload_n 3, 1) := by decide +kernel
theorem dX10_solvedClass_47 : decode cX10_solvedClass 47 = .ok (.iload_n 2, 1) := by decide +kernel
theorem dX10_solvedClass_48 : decode cX10_solvedClass 48 = .ok (.invokevirtual 105, 3) := by decide +kernel
theorem dX10_solvedClass_51 : decode cX10_solvedClass 51 = .ok (.iastore, 1) := by decide +kernel
theorem dX10_solvedClass_52 : decode cX10_solvedClass 52 = .ok (.aload_n 0, 1) := by decide +kernel
theorem dX10_solvedClass_53 : decode cX10_solvedClass 53 = .ok (.getfield 24, 3) := by decide +kernel
theorem dX10_solvedClass_56 : decode cX10_solvedClass 56 = .ok (.iload_n 1, 1) := by decide +kernel
theorem dX10_solvedClass_57 : decode cX10_solvedClass 57 = .ok (.iaload, 1) := by decide +kernel
theorem dX10_solvedClass_58 : decode cX10_solvedClass 58 = .ok (.ireturn, 1) := by decide +kernel
theorem dX10_solvedTerm_0 : decode cX10_solvedTerm 0 = .ok (.aload_n 0, 1) := by decide +kernel
theorem dX10_solvedTerm_1 : decode cX10_solvedTerm 1 = .ok (.getfield 46, 3) := by decide +kernel
theorem dX10_solvedTerm_4 : decode cX10_solvedTerm 4 = .ok (.getfield 90, 3) := by decide +kernel
theorem dX10_solvedTerm_7 : decode cX10_solvedTerm 7 = .ok (.aload_n 0, 1) := by decide +kernel
theorem dX10_solvedTerm_8 : decode cX10_solvedTerm 8 = .ok (.iload_n 1, 1) := by decide +kernel
theorem dX10_solvedTerm_9 : decode cX10_solvedTerm 9 = .ok (.invokevirtual 68, 3) := by decide +kernel
theorem dX10_solvedTerm_12 : decode cX10_solvedTerm 12 = .ok (.iaload, 1) := by decide +kernel
theorem dX10_solvedTerm_13 : decode cX10_solvedTerm 13 = .ok (.istore_n 3, 1) := by decide +kernel
theorem dX10_solvedTerm_14 : decode cX10_solvedTerm 14 = .ok (.iload_n 3, 1) := by decide +kernel
theorem dX10_solvedTerm_15 : decode cX10_solvedTerm 15 = .ok (.iconst 1, 1) := by decide +kernel
theorem dX10_solvedTerm_16 : decode cX10_solvedTerm 16 = .ok (.if_icmp .ge 7, 3) := by decide +kernel
theorem dX10_solvedTerm_19 : decode cX10_solvedTerm 19 = .ok (.iconst (-1), 1) := by decide +kernel
theorem dX10_solvedTerm_20 : decode cX10_solvedTerm 20 = .ok (.goto 20, 3) := by decide +kernel
theorem dX10_solvedTerm_23 : decode cX10_solvedTerm 23 = .ok (.aload_n 0, 1) := by decide +kernel
theorem dX10_solvedTerm_24 : decode cX10_solvedTerm 24 = .ok (.aload_n 0, 1) := by decide +kernel
theorem dX10_solvedTerm_25 : decode cX10_solvedTerm 25 = .ok (.aload_n 0, 1) := by decide +kernel
theorem dX10_solvedTerm_26 : decode cX10_solvedTerm 26 = .ok (.iload_n 1, 1) := by decide +kernel
theorem dX10_solvedTerm_27 : decode cX10_solvedTerm 27 = .ok (.iconst 0, 1) := by decide +kernel
theorem dX10_solvedTerm_28 : decode cX10_solvedTerm 28 = .ok (.invokevirtual 93, 3) := by decide +kernel
theorem dX10_solvedTerm_31 : decode cX10_solvedTerm 31 = .ok (.invokevirtual 54, 3) := by decide +kernel
theorem dX10_solvedTerm_34 : decode cX10_solvedTerm 34 = .ok (.iload_n 2, 1) := by decide +kernel
theorem dX10_solvedTerm_35 : decode cX10_solvedTerm 35 = .ok (.iconst 1, 1) := by decide +kernel
theorem dX10_solvedTerm_36 : decode cX10_solvedTerm 36 = .ok (.iadd, 1) := by decide +kernel
theorem dX10_solvedTerm_37 : decode cX10_solvedTerm 37 = .ok (.invokevirtual 102, 3) := by decide +kernel
theorem dX10_solvedTerm_40 : decode cX10_solvedTerm 40 = .ok (.istore 4, 2) := by decide +kernel
theorem dX10_solvedTerm_42 : decode cX10_solvedTerm 42 = .ok (.iload_n 3, 1) := by decide +kernel
theorem dX10_solvedTerm_43 : decode cX10_solvedTerm 43 = .ok (.iconst 2, 1) := by decide +kernel
theorem dX10_solvedTerm_44 : decode cX10_solvedTerm 44 = .ok (.if_icmp .ge 7, 3) := by decide +kernel
theorem dX10_solvedTerm_47 : decode cX10_solvedTerm 47 = .ok (.iconst (-1), 1) := by decide +kernel
theorem dX10_solvedTerm_48 : decode cX10_solvedTerm 48 = .ok (.goto 20, 3) := by decide +kernel
theorem dX10_solvedTerm_51 : decode cX10_solvedTerm 51 = .ok (.aload_n 0, 1) := by decide +kernel
theorem dX10_solvedTerm_52 : decode cX10_solvedTerm 52 = .ok (.aload_n 0, 1) := by decide +kernel
theorem dX10_solvedTerm_53 : decode cX10_solvedTerm 53 = .ok (.aload_n 0, 1) := by decide +kernel
theorem dX10_solvedTerm_54 : decode cX10_solvedTerm 54 = .ok (.iload_n 1, 1) := by decide +kernel
theorem dX10_solvedTerm_55 : decode cX10_solvedTerm 55 = .ok (.iconst 1, 1) := by decide +kernel
theorem dX10_solvedTerm_56 : decode cX10_solvedTerm 56 = .ok (.invokevirtual 93, 3) := by decide +kernel
theorem dX10_solvedTerm_59 : decode cX10_solvedTerm 59 = .ok (.invokevirtual 54, 3) := by decide +kernel
theorem dX10_solvedTerm_62 : decode cX10_solvedTerm 62 = .ok (.iload_n 2, 1) := by decide +kernel
theorem dX10_solvedTerm_63 : decode cX10_solvedTerm 63 = .ok (.iconst 1, 1) := by decide +kernel
theorem dX10_solvedTerm_64 : decode cX10_solvedTerm 64 = .ok (.iadd, 1) := by decide +kernel
theorem dX10_solvedTerm_65 : decode cX10_solvedTerm 65 = .ok (.invokevirtual 102, 3) := by decide +kernel
theorem dX10_solvedTerm_68 : decode cX10_solvedTerm 68 = .ok (.istore 5, 2) := by decide +kernel
theorem dX10_solvedTerm_70 : decode cX10_solvedTerm 70 = .ok (.iload_n 3, 1) := by decide +kernel
theorem dX10_solvedTerm_71 : decode cX10_solvedTerm 71 = .ok (.iconst 3, 1) := by decide +kernel
theorem dX10_solvedTerm_72 : decode cX10_solvedTerm 72 = .ok (.if_icmp .ge 7, 3) := by decide +kernel
theorem dX10_solvedTerm_75 : decode cX10_solvedTerm 75 = .ok (.iconst (-1), 1) := by decide +kernel
theorem dX10_solvedTerm_76 : decode cX10_solvedTerm 76 = .ok (.goto 20, 3) := by decide +kernel
theorem dX10_solvedTerm_79 : decode cX10_solvedTerm 79 = .ok (.aload_n 0, 1) := by decide +kernel
theorem dX10_solvedTerm_80 : decode cX10_solvedTerm 80 = .ok (.aload_n 0, 1) := by decide +kernel
theorem dX10_solvedTerm_81 : decode cX10_solvedTerm 81 = .ok (.aload_n 0, 1) := by decide +kernel
theorem dX10_solvedTerm_82 : decode cX10_solvedTerm 82 = .ok (.iload_n 1, 1) := by decide +kernel
theorem dX10_solvedTerm_83 : decode cX10_solvedTerm 83 = .ok (.iconst 2, 1) := by decide +kernel
theorem dX10_solvedTerm_84 : decode cX10_solvedTerm 84 = .ok (.invokevirtual 93, 3) := by decide +kernel
theorem dX10_solvedTerm_87 : decode cX10_solvedTerm 87 = .ok (.invokevirtual 54, 3) := by decide +kernel
theorem dX10_solvedTerm_90 : decode cX10_solvedTerm 90 = .ok (.iload_n 2, 1) := by decide +kernel
theorem dX10_solvedTerm_91 : decode cX10_solvedTerm 91 = .ok (.iconst 1, 1) := by decide +kernel
theorem dX10_solvedTerm_92 : decode cX10_solvedTerm 92 = .ok (.iadd, 1) := by decide +kernel
theorem dX10_solvedTerm_93 : decode cX10_solvedTerm 93 = .ok (.invokevirtual 102, 3) := by decide +kernel
theorem dX10_solvedTerm_96 : decode cX10_solvedTerm 96 = .ok (.istore 6, 2) := by decide +kernel
theorem dX10_solvedTerm_98 : decode cX10_solvedTerm 98 = .ok (.aload_n 0, 1) := by decide +kernel
theorem dX10_solvedTerm_99 : decode cX10_solvedTerm 99 = .ok (.getfield 46, 3) := by decide +kernel
theorem dX10_solvedTerm_102 : decode cX10_solvedTerm 102 = .ok (.aload_n 0, 1) := by decide +kernel
theorem dX10_solvedTerm_103 : decode cX10_solvedTerm 103 = .ok (.getfield 46, 3) := by decide +kernel
theorem dX10_solvedTerm_106 : decode cX10_solvedTerm 106 = .ok (.getfield 84, 3) := by decide +kernel
theorem dX10_solvedTerm_109 : decode cX10_solvedTerm 109 = .ok (.aload_n 0, 1) := by decide +kernel
theorem dX10_solvedTerm_110 : decode cX10_solvedTerm 110 = .ok (.iload_n 1, 1) := by decide +kernel
theorem dX10_solvedTerm_111 : decode cX10_solvedTerm 111 = .ok (.invokevirtual 68, 3) := by decide +kernel
theorem dX10_solvedTerm_114 : decode cX10_solvedTerm 114 = .ok (.iaload, 1) := by decide +kernel
theorem dX10_solvedTerm_115 : decode cX10_solvedTerm 115 = .ok (.iload 4, 2) := by decide +kernel
theorem dX10_solvedTerm_117 : decode cX10_solvedTerm 117 = .ok (.iload 5, 2) := by decide +kernel
theorem dX10_solvedTerm_119 : decode cX10_solvedTerm 119 = .ok (.iload 6, 2) := by decide +kernel
theorem dX10_solvedTerm_121 : decode cX10_solvedTerm 121 = .ok (.invokevirtual 108, 3) := by decide +kernel
theorem dX10_solvedTerm_124 : decode cX10_solvedTerm 124 = .ok (.ireturn, 1) := by decide +kernel
end
section
theorem dX11_init_0 : decode cX11_init 0 = .ok (.aload_n 0, 1) := by decide +kernel
theorem dX11_init_1 : decode cX11_init 1 = .ok (.invokespecial 1, 3) := by decide +kernel
theorem dX11_init_4 : decode cX11_init 4 = .ok (.aload_n 0, 1) := by decide +kernel
theorem dX11_init_5 : decode cX11_init 5 = .ok (.new 7, 3) := by decide +kernel
theorem dX11_init_8 : decode cX11_init 8 = .ok (.dup, 1) := by decide +kernel
theorem dX11_init_9 : decode cX11_init 9 = .ok (.invokespecial 9, 3) := by decide +kernel
theorem dX11_init_12 : decode cX11_init 12 = .ok (.putfield 10, 3) := by decide +kernel
theorem dX11_init_15 : decode cX11_init 15 = .ok (.aload_n 0, 1) := by decide +kernel
theorem dX11_init_16 : decode cX11_init 16 = .ok (.new 16, 3) := by decide +kernel
theorem dX11_init_19 : decode cX11_init 19 = .ok (.dup, 1) := by decide +kernel
theorem dX11_init_20 : decode cX11_init 20 = .ok (.new 18, 3) := by decide +kernel
theorem dX11_init_23 : decode cX11_init 23 = .ok (.dup, 1) := by decide +kernel
theorem dX11_init_24 : decode cX11_init 24 = .ok (.aload_n 0, 1) := by decide +kernel
theorem dX11_init_25 : decode cX11_init 25 = .ok (.getfield 10, 3) := by decide +kernel
theorem dX11_init_28 : decode cX11_init 28 = .ok (.invokespecial 20, 3) := by decide +kernel
theorem dX11_init_31 : decode cX11_init 31 = .ok (.new 23, 3) := by decide +kernel
theorem dX11_init_34 : decode cX11_init 34 = .ok (.dup, 1) := by decide +kernel
theorem dX11_init_35 : decode cX11_init 35 = .ok (.invokespecial 25, 3) := by decide +kernel
theorem dX11_init_38 : decode cX11_init 38 = .ok (.invokespecial 26, 3) := by decide +kernel
theorem dX11_init_41 : decode cX11_init 41 = .ok (.putfield 29, 3) := by decide +kernel
theorem dX11_init_44 : decode cX11_init 44 = .ok (.aload_n 0, 1) := by decide +kernel
theorem dX11_init_45 : decode cX11_init 45 = .ok (.new 16, 3) := by decide +kernel
theorem dX11_init_48 : decode cX11_init 48 = .ok (.dup, 1) := by decide +kernel
theorem dX11_init_49 : decode cX11_init 49 = .ok (.new 18, 3) := by decide +kernel
theorem dX11_init_52 : decode cX11_init 52 = .ok (.dup, 1) := by decide +kernel
theorem dX11_init_53 : decode cX11_init 53 = .ok (.aload_n 0, 1) := by decide +kernel
theorem dX11_init_54 : decode cX11_init 54 = .ok (.getfield 10, 3) := by decide +kernel
theorem dX11_init_57 : decode cX11_init 57 = .ok (.invokespecial 20, 3) := by decide +kernel
theorem dX11_init_60 : decode cX11_init 60 = .ok (.new 23, 3) := by decide +kernel
theorem dX11_init_63 : decode cX11_init 63 = .ok (.dup, 1) := by decide +kernel
theorem dX11_init_64 : decode cX11_init 64 = .ok (.invokespecial 25, 3) := by decide +kernel
theorem dX11_init_67 : decode cX11_init 67 = .ok (.invokespecial 26, 3) := by decide +kernel
theorem dX11_init_70 : decode cX11_init 70 = .ok (.putfield 33, 3) := by decide +kernel
theorem dX11_init_73 : decode cX11_init 73 = .ok (.aload_n 0, 1) := by decide +kernel
theorem dX11_init_74 : decode cX11_init 74 = .ok (.new 7, 3) := by decide +kernel
theorem dX11_init_77 : decode cX11_init 77 = .ok (.dup, 1) := by decide +kernel
theorem dX11_init_78 : decode cX11_init 78 = .ok (.invokespecial 9, 3) := by decide +kernel
theorem dX11_init_81 : decode cX11_init 81 = .ok (.putfield 36, 3) := by decide +kernel
theorem dX11_init_84 : decode cX11_init 84 = .ok (.aload_n 0, 1) := by decide +kernel
theorem dX11_init_85 : decode cX11_init 85 = .ok (.new 18, 3) := by decide +kernel
theorem dX11_init_88 : decode cX11_init 88 = .ok (.dup, 1) := by decide +kernel
theorem dX11_init_89 : decode cX11_init 89 = .ok (.aload_n 0, 1) := by decide +kernel
theorem dX11_init_90 : decode cX11_init 90 = .ok (.getfield 10, 3) := by decide +kernel
theorem dX11_init_93 : decode cX11_init 93 = .ok (.invokespecial 20, 3) := by decide +kernel
theorem dX11_init_96 : decode cX11_init 96 = .ok (.putfield 39, 3) := by decide +kernel
theorem dX11_init_99 : decode cX11_init 99 = .ok (.aload_n 0, 1) := by decide +kernel
theorem dX11_init_100 : decode cX11_init 100 = .ok (.new 23, 3) := by decide +kernel
theorem dX11_init_103 : decode cX11_init 103 = .ok (.dup, 1) := by decide +kernel
theorem dX11_init_104 : decode cX11_init 104 = .ok (.invokespecial 25, 3) := by decide +kernel
theorem dX11_init_107 : decode cX11_init 107 = .ok (.putfield 43, 3) := by decide +kernel
theorem dX11_init_110 : decode cX11_init 110 = .ok (.aload_n 0, 1) := by decide +kernel
theorem dX11_init_111 : decode cX11_init 111 = .ok (.new 47, 3) := by decide +kernel
theorem dX11_init_114 : decode cX11_init 114 = .ok (.dup, 1) := by decide +kernel
theorem dX11_init_115 : decode cX11_init 115 = .ok (.aload_n 0, 1) := by decide +kernel
theorem dX11_init_116 : decode cX11_init 116 = .ok (.getfield 29, 3) := by decide +kernel
theorem dX11_init_119 : decode cX11_init 119 = .ok (.getfield 49, 3) := by decide +kernel
theorem dX11_init_122 : decode cX11_init 122 = .ok (.invokespecial 52, 3) := by decide +kernel
theorem dX11_init_125 : decode cX11_init 125 = .ok (.putfield 55, 3) := by decide +kernel
theorem dX11_init_128 : decode cX11_init 128 = .ok (.aload_n 0, 1) := by decide +kernel
theorem dX11_init_129 : decode cX11_init 129 = .ok (.new 59, 3) := by decide +kernel
theorem dX11_init_132 : decode cX11_init 132 = .ok (.dup, 1) := by decide +kernel
theorem dX11_init_133 : decode cX11_init 133 = .ok (.aload_n 0, 1) := by decide +kernel
theorem dX11_init_134 : decode cX11_init 134 = .ok (.getfield 29, 3) := by decide +kernel
theorem dX11_init_137 : decode cX11_init 137 = .ok (.getfield 49, 3) := by decide +kernel
theorem dX11_init_140 : decode cX11_init 140 = .ok (.invokespecial 61, 3) := by decide +kernel
theorem dX11_init_143 : decode cX11_init 143 = .ok (.putfield 62, 3) := by decide +kernel
theorem dX11_init_146 : decode cX11_init 146 = .ok (.aload_n 0, 1) := by decide +kernel
theorem dX11_init_147 : decode cX11_init 147 = .ok (.new 66, 3) := by decide +kernel
theorem dX11_init_150 : decode cX11_init 150 = .ok (.dup, 1) := by decide +kernel
theorem dX11_init_151 : decode cX11_init 151 = .ok (.aload_n 0, 1) := by decide +kernel
theorem dX11_init_152 : decode cX11_init 152 = .ok (.getfield 29, 3) := by decide +kernel
theorem dX11_init_155 : decode cX11_init 155 = .ok (.getfield 49, 3) := by decide +kernel
theorem dX11_init_158 : decode cX11_init 158 = .ok (.invokespecial 68, 3) := by decide +kernel
theorem dX11_init_161 : decode cX11_init 161 = .ok (.putfield 69, 3) := by decide +kernel
theorem dX11_init_164 : decode cX11_init 164 = .ok (.aload_n 0, 1) := by decide +kernel
theorem dX11_init_165 : decode cX11_init 165 = .ok (.new 73, 3) := by decide +kernel
theorem dX11_init_168 : decode cX11_init 168 = .ok (.dup, 1) := by decide +kernel
theorem dX11_init_169 : decode cX11_init 169 = .ok (.aload_n 0, 1) := by decide +kernel
theorem dX11_init_170 : decode cX11_init 170 = .ok (.getfield 29, 3) := by decide +kernel
theorem dX11_init_173 : decode cX11_init 173 = .ok (.aload_n 0, 1) := by decide +kernel
theorem dX11_init_174 : decode cX11_init 174 = .ok (.getfield 55, 3) := by decide +kernel
theorem dX11_init_177 : decode cX11_init 177 = .ok (.aload_n 0, 1) := by decide +kernel
theorem dX11_init_178 : decode cX11_init 178 = .ok (.getfield 69, 3) := by decide +kernel
theorem dX11_init_181 : decode cX11_init 181 = .ok (.new 75, 3) := by decide +kernel
theorem dX11_init_184 : decode cX11_init 184 = .ok (.dup, 1) := by decide +kernel
theorem dX11_init_185 : decode cX11_init 185 = .ok (.aload_n 0, 1) := by decide +kernel
theorem dX11_init_186 : decode cX11_init 186 = .ok (.getfield 29, 3) := by decide +kernel
theorem dX11_init_189 : decode cX11_init 189 = .ok (.getfield 49, 3) := by decide +kernel
theorem dX11_init_192 : decode cX11_init 192 = .ok (.invokespecial 77, 3) := by decide +kernel
theorem dX11_init_195 : decode cX11_init 195 = .ok (.invokespecial 78, 3) := by decide +kernel
theorem dX11_init_198 : decode cX11_init 198 = .ok (.putfield 81, 3) := by decide +kernel
theorem dX11_init_201 : decode cX11_init 201 = .ok (.aload_n 0, 1) := by decide +kernel
theorem dX11_init_202 : decode cX11_init 202 = .ok (.new 85, 3) := by decide +kernel
theorem dX11_init_205 : decode cX11_init 205 = .ok (.dup, 1) := by decide +kernel
theorem dX11_init_206 : decode cX11_init 206 = .ok (.aload_n 0, 1) := by decide +kernel
theorem dX11_init_207 : decode cX11_init 207 = .ok (.getfield 29, 3) := by decide +kernel
theorem dX11_init_210 : decode cX11_init 210 = .ok (.aload_n 0, 1) := by decide +kernel
theorem dX11_init_211 : decode cX11_init 211 = .ok (.getfield 55, 3) := by decide +kernel
theorem dX11_init_214 : decode cX11_init 214 = .ok (.aload_n 0, 1) := by decide +kernel
theorem dX11_init_215 : decode cX11_init 215 = .ok (.getfield 62, 3) := by decide +kernel
theorem dX11_init_218 : decode cX11_init 218 = .ok (.invokespecial 87, 3) := by decide +kernel
theorem dX11_init_221 : decode cX11_init 221 = .ok (.putfield 90, 3) := by decide +kernel
theorem dX11_init_224 : decode cX11_init 224 = .ok (.aload_n 0, 1) := by decide +kernel
theorem dX11_init_225 : decode cX11_init 225 = .ok (.sipush 700, 3) := by decide +kernel
theorem dX11_init_228 : decode cX11_init 228 = .ok (.newarray .int, 2) := by decide +kernel
theorem dX11_init_230 : decode cX11_init 230 = .ok (.putfield 94, 3) := by decide +kernel
theorem dX11_init_233 : decode cX11_init 233 = .ok (.aload_n 0, 1) := by decide +kernel
theorem dX11_init_234 : decode cX11_init 234 = .ok (.new 98, 3) := by decide +kernel
theorem dX11_init_237 : decode cX11_init 237 = .ok (.dup, 1) := by decide +kernel
theorem dX11_init_238 : decode cX11_init 238 = .ok (.aload_n 0, 1) := by decide +kernel
theorem dX11_init_239 : decode cX11_init 239 = .ok (.getfield 94, 3) := by decide +kernel
theorem dX11_init_242 : decode cX11_init 242 = .ok (.aload_n 0, 1) := by decide +kernel
theorem dX11_init_243 : decode cX11_init 243 = .ok (.getfield 29, 3) := by decide +kernel
theorem dX11_init_246 : decode cX11_init 246 = .ok (.aload_n 0, 1) := by decide +kernel
theorem dX11_init_247 : decode cX11_init 247 = .ok (.getfield 81, 3) := by decide +kernel
theorem dX11_init_250 : decode cX11_init 250 = .ok (.invokespecial 100, 3) := by decide +kernel
theorem dX11_init_253 : decode cX11_init 253 = .ok (.putfield 103, 3) := by decide +kernel
theorem dX11_init_256 : decode cX11_init 256 = .ok (.aload_n 0, 1) := by decide +kernel
theorem dX11_init_257 : decode cX11_init 257 = .ok (.iconst 0, 1) := by decide +kernel
theorem dX11_init_258 : decode cX11_init 258 = .ok (.putfield 107, 3) := by decide +kernel
theorem dX11_init_261 : decode cX11_init 261 = .ok (.aload_n 0, 1) := by decide +kernel
theorem dX11_init_262 : decode cX11_init 262 = .ok (.iconst (-1), 1) := by decide +kernel
theorem dX11_init_263 : decode cX11_init 263 = .ok (.putfield 111, 3) := by decide +kernel
theorem dX11_init_266 : decode cX11_init 266 = .ok (.aload_n 0, 1) := by decide +kernel
theorem dX11_init_267 : decode cX11_init 267 = .ok (.iconst 0, 1) := by decide +kernel
theorem dX11_init_268 : decode cX11_init 268 = .ok (.putfield 114, 3) := by decide +kernel
theorem dX11_init_271 : decode cX11_init 271 = .ok (.return_, 1) := by decide +kernel
theorem dX11_feed_0 : decode cX11_feed 0 = .ok (.aload_n 0, 1) := by decide +kernel
theorem dX11_feed_1 : decode cX11_feed 1 = .ok (.getfield 107, 3) := by decide +kernel
theorem dX11_feed_4 : decode cX11_feed 4 = .ok (.bipush 20, 2) := by decide +kernel
theorem dX11_feed_6 : decode cX11_feed 6 = .ok (.iadd, 1) := by decide +kernel
theorem dX11_feed_7 : decode cX11_feed 7 = .ok (.sipush 700, 3) := by decide +kernel
theorem dX11_feed_10 : decode cX11_feed 10 = .ok (.if_icmp .le 5, 3) := by decide +kernel
theorem dX11_feed_13 : decode cX11_feed 13 = .ok (.iconst (-1), 1) := by decide +kernel
theorem dX11_feed_14 : decode cX11_feed 14 = .ok (.ireturn, 1) := by decide +kernel
theorem dX11_feed_15 : decode cX11_feed 15 = .ok (.aload_n 0, 1) := by decide +kernel
theorem dX11_feed_16 : decode cX11_feed 16 = .ok (.iload_n 1, 1) := by decide +kernel
theorem dX11_feed_17 : decode cX11_feed 17 = .ok (.invokevirtual 118, 3) := by decide +kernel
theorem dX11_feed_20 : decode cX11_feed 20 = .ok (.aload_n 0, 1) := by decide +kernel
theorem dX11_feed_21 : decode cX11_feed 21 = .ok (.iload_n 2, 1) := by decide +kernel
theorem dX11_feed_22 : decode cX11_feed 22 = .ok (.invokevirtual 118, 3) := by decide +kernel
theorem dX11_feed_25 : decode cX11_feed 25 = .ok (.aload_n 0, 1) := by decide +kernel
theorem dX11_feed_26 : decode cX11_feed 26 = .ok (.iload_n 3, 1) := by decide +kernel
theorem dX11_feed_27 : decode cX11_feed 27 = .ok (.invokevirtual 118, 3) := by decide +kernel
theorem dX11_feed_30 : decode cX11_feed 30 = .ok (.aload_n 0, 1) := by decide +kernel
theorem dX11_feed_31 : decode cX11_feed 31 = .ok (.iload 4, 2) := by decide +kernel
theorem dX11_feed_33 : decode cX11_feed 33 = .ok (.invokevirtual 118, 3) := by decide +kernel
theorem dX11_feed_36 : decode cX11_feed 36 = .ok (.aload_n 0, 1) := by decide +kernel
theorem dX11_feed_37 : decode cX11_feed 37 = .ok (.iload 5, 2) := by decide +kernel
theorem dX11_feed_39 : decode cX11_feed 39 = .ok (.invokevirtual 118, 3) := by decide +kernel
theorem dX11_feed_42 : decode cX11_feed 42 = .ok (.aload_n 0, 1) := by decide +kernel
theorem dX11_feed_43 : decode cX11_feed 43 = .ok (.getfield 107, 3) := by decide +kernel
theorem dX11_feed_46 : decode cX11_feed 46 = .ok (.ireturn, 1) := by decide +kernel
theorem dX11_tapeNumber_0 : decode cX11_tapeNumber 0 = .ok (.bipush 24, 2) := by decide +kernel
theorem dX11_tapeNumber_2 : decode cX11_tapeNumber 2 = .ok (.istore_n 2, 1) := by decide +kernel
theorem dX11_tapeNumber_3 : decode cX11_tapeNumber 3 = .ok (.iload_n 2, 1) := by decide +kernel
theorem dX11_tapeNumber_4 : decode cX11_tapeNumber 4 = .ok (.ifCond .lt 45, 3) := by decide +kernel
theorem dX11_tapeNumber_7 : decode cX11_tapeNumber 7 = .ok (.aload_n 0, 1) := by decide +kernel
theorem dX11_tapeNumber_8 : decode cX11_tapeNumber 8 = .ok (.getfield 107, 3) := by decide +kernel
theorem dX11_tapeNumber_11 : decode cX11_tapeNumber 11 = .ok (.sipush 700, 3) := by decide +kernel
theorem dX11_tapeNumber_14 : decode cX11_tapeNumber 14 = .ok (.if_icmp .ge 35, 3) := by decide +kernel
theorem dX11_tapeNumber_17 : decode cX11_tapeNumber 17 = .ok (.aload_n 0, 1) := by decide +kernel
theorem dX11_tapeNumber_18 : decode cX11_tapeNumber 18 = .ok (.getfield 94, 3) := by decide +kernel
theorem dX11_tapeNumber_21 : decode cX11_tapeNumber 21 = .ok (.aload_n 0, 1) := by decide +kernel
theorem dX11_tapeNumber_22 : decode cX11_tapeNumber 22 = .ok (.getfield 107, 3) := by decide +kernel
theorem dX11_tapeNumber_25 : decode cX11_tapeNumber 25 = .ok (.iload_n 1, 1) := by decide +kernel
theorem dX11_tapeNumber_26 : decode cX11_tapeNumber 26 = .ok (.iload_n 2, 1) := by decide +kernel
theorem dX11_tapeNumber_27 : decode cX11_tapeNumber 27 = .ok (.iushr, 1) := by decide +kernel
theorem dX11_tapeNumber_28 : decode cX11_tapeNumber 28 = .ok (.sipush 255, 3) := by decide +kernel
theorem dX11_tapeNumber_31 : decode cX11_tapeNumber 31 = .ok (.iand, 1) := by decide +kernel
theorem dX11_tapeNumber_32 : decode cX11_tapeNumber 32 = .ok (.iastore, 1) := by decide +kernel
theorem dX11_tapeNumber_33 : decode cX11_tapeNumber 33 = .ok (.aload_n 0, 1) := by decide +kernel
theorem dX11_tapeNumber_34 : decode cX11_tapeNumber 34 = .ok (.dup, 1) := by decide +kernel
theorem dX11_tapeNumber_35 : decode cX11_tapeNumber 35 = .ok (.getfield 107, 3) := by decide +kernel
theorem dX11_tapeNumber_38 : decode cX11_tapeNumber 38 = .ok (.iconst 1, 1) := by decide +kernel
theorem dX11_tapeNumber_39 : decode cX11_tapeNumber 39 = .ok (.iadd, 1) := by decide +kernel
theorem dX11_tapeNumber_40 : decode cX11_tapeNumber 40 = .ok (.putfield 107, 3) := by decide +kernel
theorem dX11_tapeNumber_43 : decode cX11_tapeNumber 43 = .ok (.iinc 2 (-8), 3) := by decide +kernel
theorem dX11_tapeNumber_46 : decode cX11_tapeNumber 46 = .ok (.goto (-43), 3) := by decide +kernel
theorem dX11_tapeNumber_49 : decode cX11_tapeNumber 49 = .ok (.return_, 1) := by decide +kernel
theorem dX11_bank_0 : decode cX11_bank 0 = .ok (.iload_n 1, 1) := by decide +kernel
theorem dX11_bank_1 : decode cX11_bank 1 = .ok (.ifCond .lt 11, 3) := by decide +kernel
theorem dX11_bank_4 : decode cX11_bank 4 = .ok (.iload_n 1, 1) := by decide +kernel
theorem dX11_bank_5 : decode cX11_bank 5 = .ok (.aload_n 0, 1) := by decide +kernel
theorem dX11_bank_6 : decode cX11_bank 6 = .ok (.getfield 107, 3) := by decide +kernel
theorem dX11_bank_9 : decode cX11_bank 9 = .ok (.if_icmp .le 13, 3) := by decide +kernel
theorem dX11_bank_12 : decode cX11_bank 12 = .ok (.new 122, 3) := by decide +kernel
theorem dX11_bank_15 : decode cX11_bank 15 = .ok (.dup, 1) := by decide +kernel
theorem dX11_bank_16 : decode cX11_bank 16 = .ok (.ldc 124, 2) := by decide +kernel
theorem dX11_bank_18 : decode cX11_bank 18 = .ok (.invokespecial 126, 3) := by decide +kernel
theorem dX11_bank_21 : decode cX11_bank 21 = .ok (.athrow, 1) := by decide +kernel
theorem dX11_bank_22 : decode cX11_bank 22 = .ok (.aload_n 0, 1) := by decide +kernel
theorem dX11_bank_23 : decode cX11_bank 23 = .ok (.iconst 0, 1) := by decide +kernel
theorem dX11_bank_24 : decode cX11_bank 24 = .ok (.putfield 107, 3) := by decide +kernel
theorem dX11_bank_27 : decode cX11_bank 27 = .ok (.aload_n 0, 1) := by decide +kernel
theorem dX11_bank_28 : decode cX11_bank 28 = .ok (.invokevirtual 129, 3) := by decide +kernel
theorem dX11_bank_31 : decode cX11_bank 31 = .ok (.aload_n 0, 1) := by decide +kernel
theorem dX11_bank_32 : decode cX11_bank 32 = .ok (.invokevirtual 132, 3) := by decide +kernel
theorem dX11_bank_35 : decode cX11_bank 35 = .ok (.aload_n 0, 1) := by decide +kernel
theorem dX11_bank_36 : decode cX11_bank 36 = .ok (.getfield 103, 3) := by decide +kernel
theorem dX11_bank_39 : decode cX11_bank 39 = .ok (.iload_n 1, 1) := by decide +kernel
theorem dX11_bank_40 : decode cX11_bank 40 = .ok (.invokevirtual 135, 3) := by decide +kernel
theorem dX11_bank_43 : decode cX11_bank 43 = .ok (.istore_n 2, 1) := by decide +kernel
theorem dX11_bank_44 : decode cX11_bank 44 = .ok (.iload_n 2, 1) := by decide +kernel
theorem dX11_bank_45 : decode cX11_bank 45 = .ok (.ifCond .eq 33, 3) := by decide +kernel
theorem dX11_bank_48 : decode cX11_bank 48 = .ok (.aload_n 0, 1) := by decide +kernel
theorem dX11_bank_49 : decode cX11_bank 49 = .ok (.invokevirtual 139, 3) := by decide +kernel
theorem dX11_bank_52 : decode cX11_bank 52 = .ok (.aload_n 0, 1) := by decide +kernel
theorem dX11_bank_53 : decode cX11_bank 53 = .ok (.getfield 29, 3) := by decide +kernel
theorem dX11_bank_56 : decode cX11_bank 56 = .ok (.getfield 142, 3) := by decide +kernel
theorem dX11_bank_59 : decode cX11_bank 59 = .ok (.iconst 0, 1) := by decide +kernel
theorem dX11_bank_60 : decode cX11_bank 60 = .ok (.dup2, 1) := by decide +kernel
theorem dX11_bank_61 : decode cX11_bank 61 = .ok (.iaload, 1) := by decide +kernel
theorem dX11_bank_62 : decode cX11_bank 62 = .ok (.iconst 1, 1) := by decide +kernel
theorem dX11_bank_63 : decode cX11_bank 63 = .ok (.iadd, 1) := by decide +kernel
theorem dX11_bank_64 : decode cX11_bank 64 = .ok (.iastore, 1) := by decide +kernel
theorem dX11_bank_65 : decode cX11_bank 65 = .ok (.aload_n 0, 1) := by decide +kernel
theorem dX11_bank_66 : decode cX11_bank 66 = .ok (.aload_n 0, 1) := by decide +kernel
theorem dX11_bank_67 : decode cX11_bank 67 = .ok (.getfield 103, 3) := by decide +kernel
theorem dX11_bank_70 : decode cX11_bank 70 = .ok (.invokevirtual 145, 3) := by decide +kernel
theorem dX11_bank_73 : decode cX11_bank 73 = .ok (.putfield 111, 3) := by decide +kernel
theorem dX11_bank_76 : decode cX11_bank 76 = .ok (.iload_n 2, 1) := by decide +kernel
theorem dX11_bank_77 : decode cX11_bank 77 = .ok (.ireturn, 1) := by decide +kernel
theorem dX11_bank_78 : decode cX11_bank 78 = .ok (.aload_n 0, 1) := by decide +kernel
theorem dX11_bank_79 : decode cX11_bank 79 = .ok (.getfield 29, 3) := by decide +kernel
theorem dX11_bank_82 : decode cX11_bank 82 = .ok (.invokevirtual 148, 3) := by decide +kernel
theorem dX11_bank_85 : decode cX11_bank 85 = .ok (.aload_n 0, 1) := by decide +kernel
theorem dX11_bank_86 : decode cX11_bank 86 = .ok (.iconst 0, 1) := by decide +kernel
theorem dX11_bank_87 : decode cX11_bank 87 = .ok (.putfield 114, 3) := by decide +kernel
theorem dX11_bank_90 : decode cX11_bank 90 = .ok (.aload_n 0, 1) := by decide +kernel
theorem dX11_bank_91 : decode cX11_bank 91 = .ok (.iconst (-1), 1) := by decide +kernel
theorem dX11_bank_92 : decode cX11_bank 92 = .ok (.putfield 111, 3) := by decide +kernel
theorem dX11_bank_95 : decode cX11_bank 95 = .ok (.iconst 0, 1) := by decide +kernel
theorem dX11_bank_96 : decode cX11_bank 96 = .ok (.ireturn, 1) := by decide +kernel
theorem dX11_setAside_0 : decode cX11_setAside 0 = .ok (.aload_n 0, 1) := by decide +kernel
theorem dX11_setAside_1 : decode cX11_setAside 1 = .ok (.getfield 36, 3) := by decide +kernel
theorem dX11_setAside_4 : decode cX11_setAside 4 = .ok (.aload_n 0, 1) := by decide +kernel
theorem dX11_setAside_5 : decode cX11_setAside 5 = .ok (.getfield 10, 3) := by decide +kernel
theorem dX11_setAside_8 : decode cX11_setAside 8 = .ok (.invokevirtual 151, 3) := by decide +kernel
theorem dX11_setAside_11 : decode cX11_setAside 11 = .ok (.aload_n 0, 1) := by decide +kernel
theorem dX11_setAside_12 : decode cX11_setAside 12 = .ok (.getfield 39, 3) := by decide +kernel
theorem dX11_setAside_15 : decode cX11_setAside 15 = .ok (.aload_n 0, 1) := by decide +kernel
theorem dX11_setAside_16 : decode cX11_setAside 16 = .ok (.getfield 29, 3) := by decide +kernel
theorem dX11_setAside_19 : decode cX11_setAside 19 = .ok (.getfield 49, 3) := by decide +kernel
theorem dX11_setAside_22 : decode cX11_setAside 22 = .ok (.invokevirtual 154, 3) := by decide +kernel
theorem dX11_setAside_25 : decode cX11_setAside 25 = .ok (.aload_n 0, 1) := by decide +kernel
theorem dX11_setAside_26 : decode cX11_setAside 26 = .ok (.getfield 43, 3) := by decide +kernel
theorem dX11_setAside_29 : decode cX11_setAside 29 = .ok (.aload_n 0, 1) := by decide +kernel
theorem dX11_setAside_30 : decode cX11_setAside 30 = .ok (.getfield 29, 3) := by decide +kernel
theorem dX11_setAside_33 : decode cX11_setAside 33 = .ok (.getfield 156, 3) := by decide +kernel
theorem dX11_setAside_36 : decode cX11_setAside 36 = .ok (.invokevirtual 159, 3) := by decide +kernel
theorem dX11_setAside_39 : decode cX11_setAside 39 = .ok (.return_, 1) := by decide +kernel
theorem dX11_startAnew_0 : decode cX11_startAnew 0 = .ok (.aload_n 0, 1) := by decide +kernel
theorem dX11_startAnew_1 : decode cX11_startAnew 1 = .ok (.getfield 10, 3) := by decide +kernel
theorem dX11_startAnew_4 : decode cX11_startAnew 4 = .ok (.invokevirtual 162, 3) := by decide +kernel
theorem dX11_startAnew_7 : decode cX11_startAnew 7 = .ok (.aload_n 0, 1) := by decide +kernel
theorem dX11_startAnew_8 : decode cX11_startAnew 8 = .ok (.getfield 29, 3) := by decide +kernel
theorem dX11_startAnew_11 : decode cX11_startAnew 11 = .ok (.getfield 49, 3) := by decide +kernel
theorem dX11_startAnew_14 : decode cX11_startAnew 14 = .ok (.invokevirtual 165, 3) := by decide +kernel
theorem dX11_startAnew_17 : decode cX11_startAnew 17 = .ok (.aload_n 0, 1) := by decide +kernel
theorem dX11_startAnew_18 : decode cX11_startAnew 18 = .ok (.getfield 29, 3) := by decide +kernel
theorem dX11_startAnew_21 : decode cX11_startAnew 21 = .ok (.getfield 156, 3) := by decide +kernel
theorem dX11_startAnew_24 : decode cX11_startAnew 24 = .ok (.invokevirtual 166, 3) := by decide +kernel
theorem dX11_startAnew_27 : decode cX11_startAnew 27 = .ok (.return_, 1) := by decide +kernel
theorem dX11_takeBack_0 : decode cX11_takeBack 0 = .ok (.aload_n 0, 1) := by decide +kernel
theorem dX11_takeBack_1 : decode cX11_takeBack 1 = .ok (.getfield 10, 3) := by decide +kernel
theorem dX11_takeBack_4 : decode cX11_takeBack 4 = .ok (.aload_n 0, 1) := by decide +kernel
theorem dX11_takeBack_5 : decode cX11_takeBack 5 = .ok (.getfield 36, 3) := by decide +kernel
theorem dX11_takeBack_8 : decode cX11_takeBack 8 = .ok (.invokevirtual 151, 3) := by decide +kernel
theorem dX11_takeBack_11 : decode cX11_takeBack 11 = .ok (.aload_n 0, 1) := by decide +kernel
theorem dX11_takeBack_12 : decode cX11_takeBack 12 = .ok (.getfield 29, 3) := by decide +kernel
theorem dX11_takeBack_15 : decode cX11_takeBack 15 = .ok (.getfield 49, 3) := by decide +kernel
theorem dX11_takeBack_18 : decode cX11_takeBack 18 = .ok (.aload_n 0, 1) := by decide +kernel
theorem dX11_takeBack_19 : decode cX11_takeBack 19 = .ok (.getfield 39, 3) := by decide +kernel
theorem dX11_takeBack_22 : decode cX11_takeBack 22 = .ok (.invokevirtual 154, 3) := by decide +kernel
theorem dX11_takeBack_25 : decode cX11_takeBack 25 = .ok (.aload_n 0, 1) := by decide +kernel
theorem dX11_takeBack_26 : decode cX11_takeBack 26 = .ok (.getfield 29, 3) := by decide +kernel
theorem dX11_takeBack_29 : decode cX11_takeBack 29 = .ok (.getfield 156, 3) := by decide +kernel
theorem dX11_takeBack_32 : decode cX11_takeBack 32 = .ok (.aload_n 0, 1) := by decide +kernel
theorem dX11_takeBack_33 : decode cX11_takeBack 33 = .ok (.getfield 43, 3) := by decide +kernel
theorem dX11_takeBack_36 : decode cX11_takeBack 36 = .ok (.invokevirtual 159, 3) := by decide +kernel
theorem dX11_takeBack_39 : decode cX11_takeBack 39 = .ok (.return_, 1) := by decide +kernel
theorem dX11_fault_0 : decode cX11_fault 0 = .ok (.aload_n 0, 1) := by decide +kernel
theorem dX11_fault_1 : decode cX11_fault 1 = .ok (.getfield 111, 3) := by decide +kernel
theorem dX11_fault_4 : decode cX11_fault 4 = .ok (.ireturn, 1) := by decide +kernel
theorem dX11_count_0 : decode cX11_count 0 = .ok (.aload_n 0, 1) := by decide +kernel
theorem dX11_count_1 : decode cX11_count 1 = .ok (.getfield 29, 3) := by decide +kernel
theorem dX11_count_4 : decode cX11_count 4 = .ok (.getfield 156, 3) := by decide +kernel
theorem dX11_count_7 : decode cX11_count 7 = .ok (.getfield 167, 3) := by decide +kernel
theorem dX11_count_10 : decode cX11_count 10 = .ok (.astore_n 2, 1) := by decide +kernel
theorem dX11_count_11 : decode cX11_count 11 = .ok (.iload_n 1, 1) := by decide +kernel
theorem dX11_count_12 : decode cX11_count 12 = .ok (.tableswitch 181 0 16 #[84, 92, 103, 107, 111, 115, 120, 124, 128, 139, 147, 155, 163, 168, 168, 168, 168], 84) := by decide +kernel
theorem dX11_count_96 : decode cX11_count 96 = .ok (.aload_n 0, 1) := by decide +kernel
theorem dX11_count_97 : decode cX11_count 97 = .ok (.getfield 10, 3) := by decide +kernel
theorem dX11_count_100 : decode cX11_count 100 = .ok (.getfield 170, 3) := by decide +kernel
theorem dX11_count_103 : decode cX11_count 103 = .ok (.ireturn, 1) := by decide +kernel
theorem dX11_count_104 : decode cX11_count 104 = .ok (.aload_n 0, 1) := by decide +kernel
theorem dX11_count_105 : decode cX11_count 105 = .ok (.getfield 29, 3) := by decide +kernel
theorem dX11_count_108 : decode cX11_count 108 = .ok (.getfield 49, 3) := by decide +kernel
theorem dX11_count_111 : decode cX11_count 111 = .ok (.getfield 173, 3) := by decide +kernel
theorem dX11_count_114 : decode cX11_count 114 = .ok (.ireturn, 1) := by decide +kernel
theorem dX11_count_115 : decode cX11_count 115 = .ok (.aload_n 2, 1) := by decide +kernel
theorem dX11_count_116 : decode cX11_count 116 = .ok (.iconst 4, 1) := by decide +kernel
theorem dX11_count_117 : decode cX11_count 117 = .ok (.iaload, 1) := by decide +kernel
theorem dX11_count_118 : decode cX11_count 118 = .ok (.ireturn, 1) := by decide +kernel
theorem dX11_count_119 : decode cX11_count 119 = .ok (.aload_n 2, 1) := by decide +kernel
theorem dX11_count_120 : decode cX11_count 120 = .ok (.iconst 5, 1) := by decide +kernel
theorem dX11_count_121 : decode cX11_count 121 = .ok (.iaload, 1) := by decide +kernel
theorem dX11_count_122 : decode cX11_count 122 = .ok (.ireturn, 1) := by decide +kernel
theorem dX11_count_123 : decode cX11_count 123 = .ok (.aload_n 2, 1) := by decide +kernel
theorem dX11_count_124 : decode cX11_count 124 = .ok (.iconst 1, 1) := by decide +kernel
theorem dX11_count_125 : decode cX11_count 125 = .ok (.iaload, 1) := by decide +kernel
theorem dX11_count_126 : decode cX11_count 126 = .ok (.ireturn, 1) := by decide +kernel
theorem dX11_count_127 : decode cX11_count 127 = .ok (.aload_n 2, 1) := by decide +kernel
theorem dX11_count_128 : decode cX11_count 128 = .ok (.bipush 6, 2) := by decide +kernel
theorem dX11_count_130 : decode cX11_count 130 = .ok (.iaload, 1) := by decide +kernel
theorem dX11_count_131 : decode cX11_count 131 = .ok (.ireturn, 1) := by decide +kernel
theorem dX11_count_132 : decode cX11_count 132 = .ok (.aload_n 2, 1) := by decide +kernel
theorem dX11_count_133 : decode cX11_count 133 = .ok (.iconst 2, 1) := by decide +kernel
theorem dX11_count_134 : decode cX11_count 134 = .ok (.iaload, 1) := by decide +kernel
theorem dX11_count_135 : decode cX11_count 135 = .ok (.ireturn, 1) := by decide +kernel
theorem dX11_count_136 : decode cX11_count 136 = .ok (.aload_n 2, 1) := by decide +kernel
theorem dX11_count_137 : decode cX11_count 137 = .ok (.iconst 3, 1) := by decide +kernel
theorem dX11_count_138 : decode cX11_count 138 = .ok (.iaload, 1) := by decide +kernel
theorem dX11_count_139 : decode cX11_count 139 = .ok (.ireturn, 1) := by decide +kernel
theorem dX11_count_140 : decode cX11_count 140 = .ok (.aload_n 0, 1) := by decide +kernel
theorem dX11_count_141 : decode cX11_count 141 = .ok (.getfield 29, 3) := by decide +kernel
theorem dX11_count_144 : decode cX11_count 144 = .ok (.getfield 49, 3) := by decide +kernel
theorem dX11_count_147 : decode cX11_count 147 = .ok (.invokevirtual 176, 3) := by decide +kernel
theorem dX11_count_150 : decode cX11_count 150 = .ok (.ireturn, 1) := by decide +kernel
theorem dX11_count_151 : decode cX11_count 151 = .ok (.aload_n 0, 1) := by decide +kernel
theorem dX11_count_152 : decode cX11_count 152 = .ok (.getfield 81, 3) := by decide +kernel
theorem dX11_count_155 : decode cX11_count 155 = .ok (.invokevirtual 179, 3) := by decide +kernel
theorem dX11_count_158 : decode cX11_count 158 = .ok (.ireturn, 1) := by decide +kernel
theorem dX11_count_159 : decode cX11_count 159 = .ok (.aload_n 0, 1) := by decide +kernel
theorem dX11_count_160 : decode cX11_count 160 = .ok (.getfield 81, 3) := by decide +kernel
theorem dX11_count_163 : decode cX11_count 163 = .ok (.invokevirtual 182, 3) := by decide +kernel
theorem dX11_count_166 : decode cX11_count 166 = .ok (.ireturn, 1) := by decide +kernel
theorem dX11_count_167 : decode cX11_count 167 = .ok (.aload_n 0, 1) := by decide +kernel
theorem dX11_count_168 : decode cX11_count 168 = .ok (.getfield 29, 3) := by decide +kernel
theorem dX11_count_171 : decode cX11_count 171 = .ok (.getfield 185, 3) := by decide +kernel
theorem dX11_count_174 : decode cX11_count 174 = .ok (.ireturn, 1) := by decide +kernel
theorem dX11_count_175 : decode cX11_count 175 = .ok (.aload_n 0, 1) := by decide +kernel
theorem dX11_count_176 : decode cX11_count 176 = .ok (.getfield 107, 3) := by decide +kernel
theorem dX11_count_179 : decode cX11_count 179 = .ok (.ireturn, 1) := by decide +kernel
theorem dX11_count_180 : decode cX11_count 180 = .ok (.aload_n 0, 1) := by decide +kernel
theorem dX11_count_181 : decode cX11_count 181 = .ok (.getfield 29, 3) := by decide +kernel
theorem dX11_count_184 : decode cX11_count 184 = .ok (.getfield 142, 3) := by decide +kernel
theorem dX11_count_187 : decode cX11_count 187 = .ok (.iload_n 1, 1) := by decide +kernel
theorem dX11_count_188 : decode cX11_count 188 = .ok (.bipush 13, 2) := by decide +kernel
theorem dX11_count_190 : decode cX11_count 190 = .ok (.isub, 1) := by decide +kernel
theorem dX11_count_191 : decode cX11_count 191 = .ok (.iaload, 1) := by decide +kernel
theorem dX11_count_192 : decode cX11_count 192 = .ok (.ireturn, 1) := by decide +kernel
theorem dX11_count_193 : decode cX11_count 193 = .ok (.new 188, 3) := by decide +kernel
theorem dX11_count_196 : decode cX11_count 196 = .ok (.dup, 1) := by decide +kernel
theorem dX11_count_197 : decode cX11_count 197 = .ok (.ldc 190, 2) := by decide +kernel
theorem dX11_count_199 : decode cX11_count 199 = .ok (.invokespecial 192, 3) := by decide +kernel
theorem dX11_count_202 : decode cX11_count 202 = .ok (.athrow, 1) := by decide +kernel
theorem dX11_symbol_0 : decode cX11_symbol 0 = .ok (.aload_n 0, 1) := by decide +kernel
theorem dX11_symbol_1 : decode cX11_symbol 1 = .ok (.getfield 10, 3) := by decide +kernel
theorem dX11_symbol_4 : decode cX11_symbol 4 = .ok (.iload_n 1, 1) := by decide +kernel
theorem dX11_symbol_5 : decode cX11_symbol 5 = .ok (.invokevirtual 193, 3) := by decide +kernel
theorem dX11_symbol_8 : decode cX11_symbol 8 = .ok (.ifCond .ne 13, 3) := by decide +kernel
theorem dX11_symbol_11 : decode cX11_symbol 11 = .ok (.new 188, 3) := by decide +kernel
theorem dX11_symbol_14 : decode cX11_symbol 14 = .ok (.dup, 1) := by decide +kernel
theorem dX11_symbol_15 : decode cX11_symbol 15 = .ok (.ldc 197, 2) := by decide +kernel
theorem dX11_symbol_17 : decode cX11_symbol 17 = .ok (.invokespecial 192, 3) := by decide +kernel
theorem dX11_symbol_20 : decode cX11_symbol 20 = .ok (.athrow, 1) := by decide +kernel
theorem dX11_symbol_21 : decode cX11_symbol 21 = .ok (.iload_n 2, 1) := by decide +kernel
theorem dX11_symbol_22 : decode cX11_symbol 22 = .ok (.tableswitch 82 0 4 #[34, 44, 54, 64, 73], 34) := by decide +kernel
theorem dX11_symbol_56 : decode cX11_symbol 56 = .ok (.aload_n 0, 1) := by decide +kernel
theorem dX11_symbol_57 : decode cX11_symbol 57 = .ok (.getfield 10, 3) := by decide +kernel
theorem dX11_symbol_60 : decode cX11_symbol 60 = .ok (.getfield 199, 3) := by decide +kernel
theorem dX11_symbol_63 : decode cX11_symbol 63 = .ok (.iload_n 1, 1) := by decide +kernel
theorem dX11_symbol_64 : decode cX11_symbol 64 = .ok (.iaload, 1) := by decide +kernel
theorem dX11_symbol_65 : decode cX11_symbol 65 = .ok (.ireturn, 1) := by decide +kernel
theorem dX11_symbol_66 : decode cX11_symbol 66 = .ok (.aload_n 0, 1) := by decide +kernel
theorem dX11_symbol_67 : decode cX11_symbol 67 = .ok (.getfield 10, 3) := by decide +kernel
theorem dX11_symbol_70 : decode cX11_symbol 70 = .ok (.getfield 202, 3) := by decide +kernel
theorem dX11_symbol_73 : decode cX11_symbol 73 = .ok (.iload_n 1, 1) := by decide +kernel
theorem dX11_symbol_74 : decode cX11_symbol 74 = .ok (.iaload, 1) := by decide +kernel
theorem dX11_symbol_75 : decode cX11_symbol 75 = .ok (.ireturn, 1) := by decide +kernel
theorem dX11_symbol_76 : decode cX11_symbol 76 = .ok (.aload_n 0, 1) := by decide +kernel
theorem dX11_symbol_77 : decode cX11_symbol 77 = .ok (.getfield 10, 3) := by decide +kernel
theorem dX11_symbol_80 : decode cX11_symbol 80 = .ok (.getfield 205, 3) := by decide +kernel
theorem dX11_symbol_83 : decode cX11_symbol 83 = .ok (.iload_n 1, 1) := by decide +kernel
theorem dX11_symbol_84 : decode cX11_symbol 84 = .ok (.iaload, 1) := by decide +kernel
theorem dX11_symbol_85 : decode cX11_symbol 85 = .ok (.ireturn, 1) := by decide +kernel
theorem dX11_symbol_86 : decode cX11_symbol 86 = .ok (.aload_n 0, 1) := by decide +kernel
theorem dX11_symbol_87 : decode cX11_symbol 87 = .ok (.getfield 81, 3) := by decide +kernel
theorem dX11_symbol_90 : decode cX11_symbol 90 = .ok (.iload_n 1, 1) := by decide +kernel
theorem dX11_symbol_91 : decode cX11_symbol 91 = .ok (.invokevirtual 208, 3) := by decide +kernel
theorem dX11_symbol_94 : decode cX11_symbol 94 = .ok (.ireturn, 1) := by decide +kernel
theorem dX11_symbol_95 : decode cX11_symbol 95 = .ok (.aload_n 0, 1) := by decide +kernel
theorem dX11_symbol_96 : decode cX11_symbol 96 = .ok (.getfield 81, 3) := by decide +kernel
theorem dX11_symbol_99 : decode cX11_symbol 99 = .ok (.iload_n 1, 1) := by decide +kernel
theorem dX11_symbol_100 : decode cX11_symbol 100 = .ok (.invokevirtual 211, 3) := by decide +kernel
theorem dX11_symbol_103 : decode cX11_symbol 103 = .ok (.ireturn, 1) := by decide +kernel
theorem dX11_symbol_104 : decode cX11_symbol 104 = .ok (.new 188, 3) := by decide +kernel
theorem dX11_symbol_107 : decode cX11_symbol 107 = .ok (.dup, 1) := by decide +kernel
theorem dX11_symbol_108 : decode cX11_symbol 108 = .ok (.ldc 214, 2) := by decide +kernel
theorem dX11_symbol_110 : decode cX11_symbol 110 = .ok (.invokespecial 192, 3) := by decide +kernel
theorem dX11_symbol_113 : decode cX11_symbol 113 = .ok (.athrow, 1) := by decide +kernel
theorem dX11_term_0 : decode cX11_term 0 = .ok (.aload_n 0, 1) := by decide +kernel
theorem dX11_term_1 : decode cX11_term 1 = .ok (.iload_n 1, 1) := by decide +kernel
theorem dX11_term_2 : decode cX11_term 2 = .ok (.invokevirtual 216, 3) := by decide +kernel
theorem dX11_term_5 : decode cX11_term 5 = .ok (.aload_n 0, 1) := by decide +kernel
theorem dX11_term_6 : decode cX11_term 6 = .ok (.getfield 29, 3) := by decide +kernel
theorem dX11_term_9 : decode cX11_term 9 = .ok (.getfield 49, 3) := by decide +kernel
theorem dX11_term_12 : decode cX11_term 12 = .ok (.astore_n 3, 1) := by decide +kernel
theorem dX11_term_13 : decode cX11_term 13 = .ok (.iload_n 2, 1) := by decide +kernel
theorem dX11_term_14 : decode cX11_term 14 = .ok (.tableswitch 163 0 9 #[54, 73, 94, 101, 107, 114, 121, 128, 134, 146], 54) := by decide +kernel
theorem dX11_term_68 : decode cX11_term 68 = .ok (.aload_n 3, 1) := by decide +kernel
theorem dX11_term_69 : decode cX11_term 69 = .ok (.iload_n 1, 1) := by decide +kernel
theorem dX11_term_70 : decode cX11_term 70 = .ok (.invokevirtual 219, 3) := by decide +kernel
theorem dX11_term_73 : decode cX11_term 73 = .ok (.ifCond .eq 7, 3) := by decide +kernel
theorem dX11_term_76 : decode cX11_term 76 = .ok (.iconst (-1), 1) := by decide +kernel
theorem dX11_term_77 : decode cX11_term 77 = .ok (.goto 9, 3) := by decide +kernel
theorem dX11_term_80 : decode cX11_term 80 = .ok (.aload_n 3, 1) := by decide +kernel
theorem dX11_term_81 : decode cX11_term 81 = .ok (.getfield 222, 3) := by decide +kernel
theorem dX11_term_84 : decode cX11_term 84 = .ok (.iload_n 1, 1) := by decide +kernel
theorem dX11_term_85 : decode cX11_term 85 = .ok (.iaload, 1) := by decide +kernel
theorem dX11_term_86 : decode cX11_term 86 = .ok (.ireturn, 1) := by decide +kernel
theorem dX11_term_87 : decode cX11_term 87 = .ok (.aload_n 3, 1) := by decide +kernel
theorem dX11_term_88 : decode cX11_term 88 = .ok (.iload_n 1, 1) := by decide +kernel
theorem dX11_term_89 : decode cX11_term 89 = .ok (.invokevirtual 219, 3) := by decide +kernel
theorem dX11_term_92 : decode cX11_term 92 = .ok (.ifCond .eq 14, 3) := by decide +kernel
theorem dX11_term_95 : decode cX11_term 95 = .ok (.aload_n 3, 1) := by decide +kernel
theorem dX11_term_96 : decode cX11_term 96 = .ok (.getfield 222, 3) := by decide +kernel
theorem dX11_term_99 : decode cX11_term 99 = .ok (.iload_n 1, 1) := by decide +kernel
theorem dX11_term_100 : decode cX11_term 100 = .ok (.iaload, 1) := by decide +kernel
theorem dX11_term_101 : decode cX11_term 101 = .ok (.iconst (-1), 1) := by decide +kernel
theorem dX11_term_102 : decode cX11_term 102 = .ok (.ixor, 1) := by decide +kernel
theorem dX11_term_103 : decode cX11_term 103 = .ok (.goto 4, 3) := by decide +kernel
theorem dX11_term_106 : decode cX11_term 106 = .ok (.iconst (-1), 1) := by decide +kernel
theorem dX11_term_107 : decode cX11_term 107 = .ok (.ireturn, 1) := by decide +kernel
theorem dX11_term_108 : decode cX11_term 108 = .ok (.aload_n 3, 1) := by decide +kernel
theorem dX11_term_109 : decode cX11_term 109 = .ok (.getfield 225, 3) := by decide +kernel
theorem dX11_term_112 : decode cX11_term 112 = .ok (.iload_n 1, 1) := by decide +kernel
theorem dX11_term_113 : decode cX11_term 113 = .ok (.iaload, 1) := by decide +kernel
theorem dX11_term_114 : decode cX11_term 114 = .ok (.ireturn, 1) := by decide +kernel
theorem dX11_term_115 : decode cX11_term 115 = .ok (.aload_n 3, 1) := by decide +kernel
theorem dX11_term_116 : decode cX11_term 116 = .ok (.iload_n 1, 1) := by decide +kernel
theorem dX11_term_117 : decode cX11_term 117 = .ok (.invokevirtual 228, 3) := by decide +kernel
theorem dX11_term_120 : decode cX11_term 120 = .ok (.ireturn, 1) := by decide +kernel
theorem dX11_term_121 : decode cX11_term 121 = .ok (.aload_n 3, 1) := by decide +kernel
theorem dX11_term_122 : decode cX11_term 122 = .ok (.getfield 231, 3) := by decide +kernel
theorem dX11_term_125 : decode cX11_term 125 = .ok (.iload_n 1, 1) := by decide +kernel
theorem dX11_term_126 : decode cX11_term 126 = .ok (.iaload, 1) := by decide +kernel
theorem dX11_term_127 : decode cX11_term 127 = .ok (.ireturn, 1) := by decide +kernel
theorem dX11_term_128 : decode cX11_term 128 = .ok (.aload_n 3, 1) := by decide +kernel
theorem dX11_term_129 : decode cX11_term 129 = .ok (.getfield 234, 3) := by decide +kernel
theorem dX11_term_132 : decode cX11_term 132 = .ok (.iload_n 1, 1) := by decide +kernel
theorem dX11_term_133 : decode cX11_term 133 = .ok (.iaload, 1) := by decide +kernel
theorem dX11_term_134 : decode cX11_term 134 = .ok (.ireturn, 1) := by decide +kernel
theorem dX11_term_135 : decode cX11_term 135 = .ok (.aload_n 3, 1) := by decide +kernel
theorem dX11_term_136 : decode cX11_term 136 = .ok (.getfield 235, 3) := by decide +kernel
theorem dX11_term_139 : decode cX11_term 139 = .ok (.iload_n 1, 1) := by decide +kernel
theorem dX11_term_140 : decode cX11_term 140 = .ok (.iaload, 1) := by decide +kernel
theorem dX11_term_141 : decode cX11_term 141 = .ok (.ireturn, 1) := by decide +kernel
theorem dX11_term_142 : decode cX11_term 142 = .ok (.aload_n 3, 1) := by decide +kernel
theorem dX11_term_143 : decode cX11_term 143 = .ok (.iload_n 1, 1) := by decide +kernel
theorem dX11_term_144 : decode cX11_term 144 = .ok (.invokevirtual 238, 3) := by decide +kernel
theorem dX11_term_147 : decode cX11_term 147 = .ok (.ireturn, 1) := by decide +kernel
theorem dX11_term_148 : decode cX11_term 148 = .ok (.aload_n 0, 1) := by decide +kernel
theorem dX11_term_149 : decode cX11_term 149 = .ok (.getfield 29, 3) := by decide +kernel
theorem dX11_term_152 : decode cX11_term 152 = .ok (.getfield 156, 3) := by decide +kernel
theorem dX11_term_155 : decode cX11_term 155 = .ok (.iload_n 1, 1) := by decide +kernel
theorem dX11_term_156 : decode cX11_term 156 = .ok (.invokevirtual 241, 3) := by decide +kernel
theorem dX11_term_159 : decode cX11_term 159 = .ok (.ireturn, 1) := by decide +kernel
theorem dX11_term_160 : decode cX11_term 160 = .ok (.aload_n 0, 1) := by decide +kernel
theorem dX11_term_161 : decode cX11_term 161 = .ok (.getfield 81, 3) := by decide +kernel
theorem dX11_term_164 : decode cX11_term 164 = .ok (.iload_n 1, 1) := by decide +kernel
theorem dX11_term_165 : decode cX11_term 165 = .ok (.invokevirtual 244, 3) := by decide +kernel
theorem dX11_term_168 : decode cX11_term 168 = .ok (.ifCond .eq 7, 3) := by decide +kernel
theorem dX11_term_171 : decode cX11_term 171 = .ok (.iconst 1, 1) := by decide +kernel
theorem dX11_term_172 : decode cX11_term 172 = .ok (.goto 4, 3) := by decide +kernel
theorem dX11_term_175 : decode cX11_term 175 = .ok (.iconst 0, 1) := by decide +kernel
theorem dX11_term_176 : decode cX11_term 176 = .ok (.ireturn, 1) := by decide +kernel
theorem dX11_term_177 : decode cX11_term 177 = .ok (.new 188, 3) := by decide +kernel
theorem dX11_term_180 : decode cX11_term 180 = .ok (.dup, 1) := by decide +kernel
theorem dX11_term_181 : decode cX11_term 181 = .ok (.ldc 247, 2) := by decide +kernel
theorem dX11_term_183 : decode cX11_term 183 = .ok (.invokespecial 192, 3) := by decide +kernel
theorem dX11_term_186 : decode cX11_term 186 = .ok (.athrow, 1) := by decide +kernel
theorem dX11_argument_0 : decode cX11_argument 0 = .ok (.aload_n 0, 1) := by decide +kernel
theorem dX11_argument_1 : decode cX11_argument 1 = .ok (.iload_n 1, 1) := by decide +kernel
theorem dX11_argument_2 : decode cX11_argument 2 = .ok (.invokevirtual 216, 3) := by decide +kernel
theorem dX11_argument_5 : decode cX11_argument 5 = .ok (.iload_n 2, 1) := by decide +kernel
theorem dX11_argument_6 : decode cX11_argument 6 = .ok (.ifCond .lt 19, 3) := by decide +kernel
theorem dX11_argument_9 : decode cX11_argument 9 = .ok (.iload_n 2, 1) := by decide +kernel
theorem dX11_argument_10 : decode cX11_argument 10 = .ok (.aload_n 0, 1) := by decide +kernel
theorem dX11_argument_11 : decode cX11_argument 11 = .ok (.getfield 29, 3) := by decide +kernel
theorem dX11_argument_14 : decode cX11_argument 14 = .ok (.getfield 49, 3) := by decide +kernel
theorem dX11_argument_17 : decode cX11_argument 17 = .ok (.getfield 249, 3) := by decide +kernel
theorem dX11_argument_20 : decode cX11_argument 20 = .ok (.iload_n 1, 1) := by decide +kernel
theorem dX11_argument_21 : decode cX11_argument 21 = .ok (.iaload, 1) := by decide +kernel
theorem dX11_argument_22 : decode cX11_argument 22 = .ok (.if_icmp .lt 13, 3) := by decide +kernel
theorem dX11_argument_25 : decode cX11_argument 25 = .ok (.new 188, 3) := by decide +kernel
theorem dX11_argument_28 : decode cX11_argument 28 = .ok (.dup, 1) := by decide +kernel
theorem dX11_argument_29 : decode cX11_argument 29 = .ok (.ldc 250, 2) := by decide +kernel
theorem dX11_argument_31 : decode cX11_argument 31 = .ok (.invokespecial 192, 3) := by decide +kernel
theorem dX11_argument_34 : decode cX11_argument 34 = .ok (.athrow, 1) := by decide +kernel
theorem dX11_argument_35 : decode cX11_argument 35 = .ok (.aload_n 0, 1) := by decide +kernel
theorem dX11_argument_36 : decode cX11_argument 36 = .ok (.getfield 29, 3) := by decide +kernel
theorem dX11_argument_39 : decode cX11_argument 39 = .ok (.getfield 49, 3) := by decide +kernel
theorem dX11_argument_42 : decode cX11_argument 42 = .ok (.iload_n 1, 1) := by decide +kernel
theorem dX11_argument_43 : decode cX11_argument 43 = .ok (.iload_n 2, 1) := by decide +kernel
theorem dX11_argument_44 : decode cX11_argument 44 = .ok (.invokevirtual 252, 3) := by decide +kernel
theorem dX11_argument_47 : decode cX11_argument 47 = .ok (.ireturn, 1) := by decide +kernel
theorem dX11_place_0 : decode cX11_place 0 = .ok (.aload_n 0, 1) := by decide +kernel
theorem dX11_place_1 : decode cX11_place 1 = .ok (.iload_n 1, 1) := by decide +kernel
theorem dX11_place_2 : decode cX11_place 2 = .ok (.invokevirtual 216, 3) := by decide +kernel
theorem dX11_place_5 : decode cX11_place 5 = .ok (.aload_n 0, 1) := by decide +kernel
theorem dX11_place_6 : decode cX11_place 6 = .ok (.getfield 29, 3) := by decide +kernel
theorem dX11_place_9 : decode cX11_place 9 = .ok (.getfield 49, 3) := by decide +kernel
theorem dX11_place_12 : decode cX11_place 12 = .ok (.iload_n 1, 1) := by decide +kernel
theorem dX11_place_13 : decode cX11_place 13 = .ok (.iload_n 2, 1) := by decide +kernel
theorem dX11_place_14 : decode cX11_place 14 = .ok (.invokevirtual 256, 3) := by decide +kernel
theorem dX11_place_17 : decode cX11_place 17 = .ok (.ifCond .ne 14, 3) := by decide +kernel
theorem dX11_place_20 : decode cX11_place 20 = .ok (.new 188, 3) := by decide +kernel
theorem dX11_place_23 : decode cX11_place 23 = .ok (.dup, 1) := by decide +kernel
theorem dX11_place_24 : decode cX11_place 24 = .ok (.ldc_w 260, 3) := by decide +kernel
theorem dX11_place_27 : decode cX11_place 27 = .ok (.invokespecial 192, 3) := by decide +kernel
theorem dX11_place_30 : decode cX11_place 30 = .ok (.athrow, 1) := by decide +kernel
theorem dX11_place_31 : decode cX11_place 31 = .ok (.aload_n 0, 1) := by decide +kernel
theorem dX11_place_32 : decode cX11_place 32 = .ok (.getfield 29, 3) := by decide +kernel
theorem dX11_place_35 : decode cX11_place 35 = .ok (.getfield 49, 3) := by decide +kernel
theorem dX11_place_38 : decode cX11_place 38 = .ok (.iload_n 1, 1) := by decide +kernel
theorem dX11_place_39 : decode cX11_place 39 = .ok (.iload_n 2, 1) := by decide +kernel
theorem dX11_place_40 : decode cX11_place 40 = .ok (.invokevirtual 262, 3) := by decide +kernel
theorem dX11_place_43 : decode cX11_place 43 = .ok (.ireturn, 1) := by decide +kernel
theorem dX11_order_0 : decode cX11_order 0 = .ok (.aload_n 0, 1) := by decide +kernel
theorem dX11_order_1 : decode cX11_order 1 = .ok (.iload_n 1, 1) := by decide +kernel
theorem dX11_order_2 : decode cX11_order 2 = .ok (.invokevirtual 216, 3) := by decide +kernel
theorem dX11_order_5 : decode cX11_order 5 = .ok (.aload_n 0, 1) := by decide +kernel
theorem dX11_order_6 : decode cX11_order 6 = .ok (.iload_n 2, 1) := by decide +kernel
theorem dX11_order_7 : decode cX11_order 7 = .ok (.invokevirtual 216, 3) := by decide +kernel
theorem dX11_order_10 : decode cX11_order 10 = .ok (.aload_n 0, 1) := by decide +kernel
theorem dX11_order_11 : decode cX11_order 11 = .ok (.getfield 81, 3) := by decide +kernel
theorem dX11_order_14 : decode cX11_order 14 = .ok (.iload_n 1, 1) := by decide +kernel
theorem dX11_order_15 : decode cX11_order 15 = .ok (.iload_n 2, 1) := by decide +kernel
theorem dX11_order_16 : decode cX11_order 16 = .ok (.invokevirtual 265, 3) := by decide +kernel
theorem dX11_order_19 : decode cX11_order 19 = .ok (.ireturn, 1) := by decide +kernel
theorem dX11_find_0 : decode cX11_find 0 = .ok (.aload_n 0, 1) := by decide +kernel
theorem dX11_find_1 : decode cX11_find 1 = .ok (.iload_n 1, 1) := by decide +kernel
theorem dX11_find_2 : decode cX11_find 2 = .ok (.invokevirtual 216, 3) := by decide +kernel
theorem dX11_find_5 : decode cX11_find 5 = .ok (.iload_n 2, 1) := by decide +kernel
theorem dX11_find_6 : decode cX11_find 6 = .ok (.ifCond .lt 8, 3) := by decide +kernel
theorem dX11_find_9 : decode cX11_find 9 = .ok (.iload_n 2, 1) := by decide +kernel
theorem dX11_find_10 : decode cX11_find 10 = .ok (.iconst 3, 1) := by decide +kernel
theorem dX11_find_11 : decode cX11_find 11 = .ok (.if_icmp .le 14, 3) := by decide +kernel
theorem dX11_find_14 : decode cX11_find 14 = .ok (.new 188, 3) := by decide +kernel
theorem dX11_find_17 : decode cX11_find 17 = .ok (.dup, 1) := by decide +kernel
theorem dX11_find_18 : decode cX11_find 18 = .ok (.ldc_w 268, 3) := by decide +kernel
theorem dX11_find_21 : decode cX11_find 21 = .ok (.invokespecial 192, 3) := by decide +kernel
theorem dX11_find_24 : decode cX11_find 24 = .ok (.athrow, 1) := by decide +kernel
theorem dX11_find_25 : decode cX11_find 25 = .ok (.aload_n 0, 1) := by decide +kernel
theorem dX11_find_26 : decode cX11_find 26 = .ok (.getfield 81, 3) := by decide +kernel
theorem dX11_find_29 : decode cX11_find 29 = .ok (.iload_n 1, 1) := by decide +kernel
theorem dX11_find_30 : decode cX11_find 30 = .ok (.iload_n 2, 1) := by decide +kernel
theorem dX11_find_31 : decode cX11_find 31 = .ok (.invokevirtual 270, 3) := by decide +kernel
theorem dX11_find_34 : decode cX11_find 34 = .ok (.ireturn, 1) := by decide +kernel
theorem dX11_rule_0 : decode cX11_rule 0 = .ok (.aload_n 0, 1) := by decide +kernel
theorem dX11_rule_1 : decode cX11_rule 1 = .ok (.getfield 29, 3) := by decide +kernel
theorem dX11_rule_4 : decode cX11_rule 4 = .ok (.getfield 156, 3) := by decide +kernel
theorem dX11_rule_7 : decode cX11_rule 7 = .ok (.getfield 167, 3) := by decide +kernel
theorem dX11_rule_10 : decode cX11_rule 10 = .ok (.astore_n 3, 1) := by decide +kernel
theorem dX11_rule_11 : decode cX11_rule 11 = .ok (.iload_n 1, 1) := by decide +kernel
theorem dX11_rule_12 : decode cX11_rule 12 = .ok (.ifCond .lt 19, 3) := by decide +kernel
theorem dX11_rule_15 : decode cX11_rule 15 = .ok (.iload_n 1, 1) := by decide +kernel
theorem dX11_rule_16 : decode cX11_rule 16 = .ok (.aload_n 3, 1) := by decide +kernel
theorem dX11_rule_17 : decode cX11_rule 17 = .ok (.iconst 4, 1) := by decide +kernel
theorem dX11_rule_18 : decode cX11_rule 18 = .ok (.iaload, 1) := by decide +kernel
theorem dX11_rule_19 : decode cX11_rule 19 = .ok (.if_icmp .ge 12, 3) := by decide +kernel
theorem dX11_rule_22 : decode cX11_rule 22 = .ok (.iload_n 2, 1) := by decide +kernel
theorem dX11_rule_23 : decode cX11_rule 23 = .ok (.ifCond .lt 8, 3) := by decide +kernel
theorem dX11_rule_26 : decode cX11_rule 26 = .ok (.iload_n 2, 1) := by decide +kernel
theorem dX11_rule_27 : decode cX11_rule 27 = .ok (.iconst 1, 1) := by decide +kernel
theorem dX11_rule_28 : decode cX11_rule 28 = .ok (.if_icmp .le 14, 3) := by decide +kernel
theorem dX11_rule_31 : decode cX11_rule 31 = .ok (.new 188, 3) := by decide +kernel
theorem dX11_rule_34 : decode cX11_rule 34 = .ok (.dup, 1) := by decide +kernel
theorem dX11_rule_35 : decode cX11_rule 35 = .ok (.ldc_w 273, 3) := by decide +kernel
theorem dX11_rule_38 : decode cX11_rule 38 = .ok (.invokespecial 192, 3) := by decide +kernel
theorem dX11_rule_41 : decode cX11_rule 41 = .ok (.athrow, 1) := by decide +kernel
theorem dX11_rule_42 : decode cX11_rule 42 = .ok (.iload_n 2, 1) := by decide +kernel
theorem dX11_rule_43 : decode cX11_rule 43 = .ok (.ifCond .ne 12, 3) := by decide +kernel
theorem dX11_rule_46 : decode cX11_rule 46 = .ok (.aload_n 3, 1) := by decide +kernel
theorem dX11_rule_47 : decode cX11_rule 47 = .ok (.bipush 15, 2) := by decide +kernel
theorem dX11_rule_49 : decode cX11_rule 49 = .ok (.iload_n 1, 1) := by decide +kernel
theorem dX11_rule_50 : decode cX11_rule 50 = .ok (.iadd, 1) := by decide +kernel
theorem dX11_rule_51 : decode cX11_rule 51 = .ok (.iaload, 1) := by decide +kernel
theorem dX11_rule_52 : decode cX11_rule 52 = .ok (.goto 9, 3) := by decide +kernel
theorem dX11_rule_55 : decode cX11_rule 55 = .ok (.aload_n 3, 1) := by decide +kernel
theorem dX11_rule_56 : decode cX11_rule 56 = .ok (.bipush 23, 2) := by decide +kernel
theorem dX11_rule_58 : decode cX11_rule 58 = .ok (.iload_n 1, 1) := by decide +kernel
theorem dX11_rule_59 : decode cX11_rule 59 = .ok (.iadd, 1) := by decide +kernel
theorem dX11_rule_60 : decode cX11_rule 60 = .ok (.iaload, 1) := by decide +kernel
theorem dX11_rule_61 : decode cX11_rule 61 = .ok (.ireturn, 1) := by decide +kernel
theorem dX11_entry_0 : decode cX11_entry 0 = .ok (.aload_n 0, 1) := by decide +kernel
theorem dX11_entry_1 : decode cX11_entry 1 = .ok (.getfield 29, 3) := by decide +kernel
theorem dX11_entry_4 : decode cX11_entry 4 = .ok (.getfield 156, 3) := by decide +kernel
theorem dX11_entry_7 : decode cX11_entry 7 = .ok (.getfield 167, 3) := by decide +kernel
theorem dX11_entry_10 : decode cX11_entry 10 = .ok (.astore_n 2, 1) := by decide +kernel
theorem dX11_entry_11 : decode cX11_entry 11 = .ok (.iload_n 1, 1) := by decide +kernel
theorem dX11_entry_12 : decode cX11_entry 12 = .ok (.ifCond .lt 10, 3) := by decide +kernel
theorem dX11_entry_15 : decode cX11_entry 15 = .ok (.iload_n 1, 1) := by decide +kernel
theorem dX11_entry_16 : decode cX11_entry 16 = .ok (.aload_n 2, 1) := by decide +kernel
theorem dX11_entry_17 : decode cX11_entry 17 = .ok (.iconst 5, 1) := by decide +kernel
theorem dX11_entry_18 : decode cX11_entry 18 = .ok (.iaload, 1) := by decide +kernel
theorem dX11_entry_19 : decode cX11_entry 19 = .ok (.if_icmp .lt 14, 3) := by decide +kernel
theorem dX11_entry_22 : decode cX11_entry 22 = .ok (.new 188, 3) := by decide +kernel
theorem dX11_entry_25 : decode cX11_entry 25 = .ok (.dup, 1) := by decide +kernel
theorem dX11_entry_26 : decode cX11_entry 26 = .ok (.ldc_w 275, 3) := by decide +kernel
theorem dX11_entry_29 : decode cX11_entry 29 = .ok (.invokespecial 192, 3) := by decide +kernel
theorem dX11_entry_32 : decode cX11_entry 32 = .ok (.athrow, 1) := by decide +kernel
theorem dX11_entry_33 : decode cX11_entry 33 = .ok (.aload_n 2, 1) := by decide +kernel
theorem dX11_entry_34 : decode cX11_entry 34 = .ok (.bipush 31, 2) := by decide +kernel
theorem dX11_entry_36 : decode cX11_entry 36 = .ok (.iload_n 1, 1) := by decide +kernel
theorem dX11_entry_37 : decode cX11_entry 37 = .ok (.iadd, 1) := by decide +kernel
theorem dX11_entry_38 : decode cX11_entry 38 = .ok (.iaload, 1) := by decide +kernel
theorem dX11_entry_39 : decode cX11_entry 39 = .ok (.ireturn, 1) := by decide +kernel
theorem dX11_memo_0 : decode cX11_memo 0 = .ok (.aload_n 0, 1) := by decide +kernel
theorem dX11_memo_1 : decode cX11_memo 1 = .ok (.getfield 29, 3) := by decide +kernel
theorem dX11_memo_4 : decode cX11_memo 4 = .ok (.getfield 156, 3) := by decide +kernel
theorem dX11_memo_7 : decode cX11_memo 7 = .ok (.getfield 167, 3) := by decide +kernel
theorem dX11_memo_10 : decode cX11_memo 10 = .ok (.astore_n 3, 1) := by decide +kernel
theorem dX11_memo_11 : decode cX11_memo 11 = .ok (.iload_n 1, 1) := by decide +kernel
theorem dX11_memo_12 : decode cX11_memo 12 = .ok (.ifCond .lt 20, 3) := by decide +kernel
theorem dX11_memo_15 : decode cX11_memo 15 = .ok (.iload_n 1, 1) := by decide +kernel
theorem dX11_memo_16 : decode cX11_memo 16 = .ok (.aload_n 3, 1) := by decide +kernel
theorem dX11_memo_17 : decode cX11_memo 17 = .ok (.bipush 6, 2) := by decide +kernel
theorem dX11_memo_19 : decode cX11_memo 19 = .ok (.iaload, 1) := by decide +kernel
theorem dX11_memo_20 : decode cX11_memo 20 = .ok (.if_icmp .ge 12, 3) := by decide +kernel
theorem dX11_memo_23 : decode cX11_memo 23 = .ok (.iload_n 2, 1) := by decide +kernel
theorem dX11_memo_24 : decode cX11_memo 24 = .ok (.ifCond .lt 8, 3) := by decide +kernel
theorem dX11_memo_27 : decode cX11_memo 27 = .ok (.iload_n 2, 1) := by decide +kernel
theorem dX11_memo_28 : decode cX11_memo 28 = .ok (.iconst 1, 1) := by decide +kernel
theorem dX11_memo_29 : decode cX11_memo 29 = .ok (.if_icmp .le 14, 3) := by decide +kernel
theorem dX11_memo_32 : decode cX11_memo 32 = .ok (.new 188, 3) := by decide +kernel
theorem dX11_memo_35 : decode cX11_memo 35 = .ok (.dup, 1) := by decide +kernel
theorem dX11_memo_36 : decode cX11_memo 36 = .ok (.ldc_w 277, 3) := by decide +kernel
theorem dX11_memo_39 : decode cX11_memo 39 = .ok (.invokespecial 192, 3) := by decide +kernel
theorem dX11_memo_42 : decode cX11_memo 42 = .ok (.athrow, 1) := by decide +kernel
theorem dX11_memo_43 : decode cX11_memo 43 = .ok (.iload_n 2, 1) := by decide +kernel
theorem dX11_memo_44 : decode cX11_memo 44 = .ok (.ifCond .ne 12, 3) := by decide +kernel
theorem dX11_memo_47 : decode cX11_memo 47 = .ok (.aload_n 3, 1) := by decide +kernel
theorem dX11_memo_48 : decode cX11_memo 48 = .ok (.bipush 43, 2) := by decide +kernel
theorem dX11_memo_50 : decode cX11_memo 50 = .ok (.iload_n 1, 1) := by decide +kernel
theorem dX11_memo_51 : decode cX11_memo 51 = .ok (.iadd, 1) := by decide +kernel
theorem dX11_memo_52 : decode cX11_memo 52 = .ok (.iaload, 1) := by decide +kernel
theorem dX11_memo_53 : decode cX11_memo 53 = .ok (.goto 9, 3) := by decide +kernel
theorem dX11_memo_56 : decode cX11_memo 56 = .ok (.aload_n 3, 1) := by decide +kernel
theorem dX11_memo_57 : decode cX11_memo 57 = .ok (.bipush 52, 2) := by decide +kernel
theorem dX11_memo_59 : decode cX11_memo 59 = .ok (.iload_n 1, 1) := by decide +kernel
theorem dX11_memo_60 : decode cX11_memo 60 = .ok (.iadd, 1) := by decide +kernel
theorem dX11_memo_61 : decode cX11_memo 61 = .ok (.iaload, 1) := by decide +kernel
theorem dX11_memo_62 : decode cX11_memo 62 = .ok (.ireturn, 1) := by decide +kernel
theorem dX11_bound_0 : decode cX11_bound 0 = .ok (.iload_n 1, 1) := by decide +kernel
theorem dX11_bound_1 : decode cX11_bound 1 = .ok (.invokestatic 279, 3) := by decide +kernel
theorem dX11_bound_4 : decode cX11_bound 4 = .ok (.ifCond .ne 14, 3) := by decide +kernel
theorem dX11_bound_7 : decode cX11_bound 7 = .ok (.new 188, 3) := by decide +kernel
theorem dX11_bound_10 : decode cX11_bound 10 = .ok (.dup, 1) := by decide +kernel
theorem dX11_bound_11 : decode cX11_bound 11 = .ok (.ldc_w 282, 3) := by decide +kernel
theorem dX11_bound_14 : decode cX11_bound 14 = .ok (.invokespecial 192, 3) := by decide +kernel
theorem dX11_bound_17 : decode cX11_bound 17 = .ok (.athrow, 1) := by decide +kernel
theorem dX11_bound_18 : decode cX11_bound 18 = .ok (.aload_n 0, 1) := by decide +kernel
theorem dX11_bound_19 : decode cX11_bound 19 = .ok (.getfield 29, 3) := by decide +kernel
theorem dX11_bound_22 : decode cX11_bound 22 = .ok (.getfield 156, 3) := by decide +kernel
theorem dX11_bound_25 : decode cX11_bound 25 = .ok (.getfield 167, 3) := by decide +kernel
theorem dX11_bound_28 : decode cX11_bound 28 = .ok (.bipush 7, 2) := by decide +kernel
theorem dX11_bound_30 : decode cX11_bound 30 = .ok (.iload_n 1, 1) := by decide +kernel
theorem dX11_bound_31 : decode cX11_bound 31 = .ok (.iadd, 1) := by decide +kernel
theorem dX11_bound_32 : decode cX11_bound 32 = .ok (.iaload, 1) := by decide +kernel
theorem dX11_bound_33 : decode cX11_bound 33 = .ok (.ireturn, 1) := by decide +kernel
theorem dX11_variable_0 : decode cX11_variable 0 = .ok (.iload_n 1, 1) := by decide +kernel
theorem dX11_variable_1 : decode cX11_variable 1 = .ok (.invokestatic 279, 3) := by decide +kernel
theorem dX11_variable_4 : decode cX11_variable 4 = .ok (.ifCond .ne 10, 3) := by decide +kernel
theorem dX11_variable_7 : decode cX11_variable 7 = .ok (.aload_n 0, 1) := by decide +kernel
theorem dX11_variable_8 : decode cX11_variable 8 = .ok (.iconst 1, 1) := by decide +kernel
theorem dX11_variable_9 : decode cX11_variable 9 = .ok (.iconst (-1), 1) := by decide +kernel
theorem dX11_variable_10 : decode cX11_variable 10 = .ok (.invokevirtual 284, 3) := by decide +kernel
theorem dX11_variable_13 : decode cX11_variable 13 = .ok (.ireturn, 1) := by decide +kernel
theorem dX11_variable_14 : decode cX11_variable 14 = .ok (.aload_n 0, 1) := by decide +kernel
theorem dX11_variable_15 : decode cX11_variable 15 = .ok (.getfield 29, 3) := by decide +kernel
theorem dX11_variable_18 : decode cX11_variable 18 = .ok (.invokevirtual 287, 3) := by decide +kernel
theorem dX11_variable_21 : decode cX11_variable 21 = .ok (.aload_n 0, 1) := by decide +kernel
theorem dX11_variable_22 : decode cX11_variable 22 = .ok (.aload_n 0, 1) := by decide +kernel
theorem dX11_variable_23 : decode cX11_variable 23 = .ok (.getfield 29, 3) := by decide +kernel
theorem dX11_variable_26 : decode cX11_variable 26 = .ok (.getfield 49, 3) := by decide +kernel
theorem dX11_variable_29 : decode cX11_variable 29 = .ok (.iload_n 1, 1) := by decide +kernel
theorem dX11_variable_30 : decode cX11_variable 30 = .ok (.invokevirtual 290, 3) := by decide +kernel
theorem dX11_variable_33 : decode cX11_variable 33 = .ok (.invokevirtual 293, 3) := by decide +kernel
theorem dX11_variable_36 : decode cX11_variable 36 = .ok (.ireturn, 1) := by decide +kernel
theorem dX11_make_0 : decode cX11_make 0 = .ok (.aload_n 0, 1) := by decide +kernel
theorem dX11_make_1 : decode cX11_make 1 = .ok (.getfield 10, 3) := by decide +kernel
theorem dX11_make_4 : decode cX11_make 4 = .ok (.iload_n 1, 1) := by decide +kernel
theorem dX11_make_5 : decode cX11_make 5 = .ok (.invokevirtual 193, 3) := by decide +kernel
theorem dX11_make_8 : decode cX11_make 8 = .ok (.ifCond .eq 23, 3) := by decide +kernel
theorem dX11_make_11 : decode cX11_make 11 = .ok (.aload_n 0, 1) := by decide +kernel
theorem dX11_make_12 : decode cX11_make 12 = .ok (.aload_n 0, 1) := by decide +kernel
theorem dX11_make_13 : decode cX11_make 13 = .ok (.getfield 10, 3) := by decide +kernel
theorem dX11_make_16 : decode cX11_make 16 = .ok (.getfield 202, 3) := by decide +kernel
theorem dX11_make_19 : decode cX11_make 19 = .ok (.iload_n 1, 1) := by decide +kernel
theorem dX11_make_20 : decode cX11_make 20 = .ok (.iaload, 1) := by decide +kernel
theorem dX11_make_21 : decode cX11_make 21 = .ok (.iload_n 2, 1) := by decide +kernel
theorem dX11_make_22 : decode cX11_make 22 = .ok (.iload_n 3, 1) := by decide +kernel
theorem dX11_make_23 : decode cX11_make 23 = .ok (.iload 4, 2) := by decide +kernel
theorem dX11_make_25 : decode cX11_make 25 = .ok (.invokevirtual 296, 3) := by decide +kernel
theorem dX11_make_28 : decode cX11_make 28 = .ok (.ifCond .ne 10, 3) := by decide +kernel
theorem dX11_make_31 : decode cX11_make 31 = .ok (.aload_n 0, 1) := by decide +kernel
theorem dX11_make_32 : decode cX11_make 32 = .ok (.iconst 1, 1) := by decide +kernel
theorem dX11_make_33 : decode cX11_make 33 = .ok (.iconst (-1), 1) := by decide +kernel
theorem dX11_make_34 : decode cX11_make 34 = .ok (.invokevirtual 284, 3) := by decide +kernel
theorem dX11_make_37 : decode cX11_make 37 = .ok (.ireturn, 1) := by decide +kernel
theorem dX11_make_38 : decode cX11_make 38 = .ok (.aload_n 0, 1) := by decide +kernel
theorem dX11_make_39 : decode cX11_make 39 = .ok (.getfield 29, 3) := by decide +kernel
theorem dX11_make_42 : decode cX11_make 42 = .ok (.invokevirtual 287, 3) := by decide +kernel
theorem dX11_make_45 : decode cX11_make 45 = .ok (.aload_n 0, 1) := by decide +kernel
theorem dX11_make_46 : decode cX11_make 46 = .ok (.aload_n 0, 1) := by decide +kernel
theorem dX11_make_47 : decode cX11_make 47 = .ok (.getfield 29, 3) := by decide +kernel
theorem dX11_make_50 : decode cX11_make 50 = .ok (.getfield 49, 3) := by decide +kernel
theorem dX11_make_53 : decode cX11_make 53 = .ok (.iload_n 1, 1) := by decide +kernel
theorem dX11_make_54 : decode cX11_make 54 = .ok (.iload_n 2, 1) := by decide +kernel
theorem dX11_make_55 : decode cX11_make 55 = .ok (.iload_n 3, 1) := by decide +kernel
theorem dX11_make_56 : decode cX11_make 56 = .ok (.iload 4, 2) := by decide +kernel
theorem dX11_make_58 : decode cX11_make 58 = .ok (.invokevirtual 300, 3) := by decide +kernel
theorem dX11_make_61 : decode cX11_make 61 = .ok (.invokevirtual 293, 3) := by decide +kernel
theorem dX11_make_64 : decode cX11_make 64 = .ok (.ireturn, 1) := by decide +kernel
theorem dX11_haveArguments_0 : decode cX11_haveArguments 0 = .ok (.aload_n 0, 1) := by decide +kernel
theorem dX11_haveArguments_1 : decode cX11_haveArguments 1 = .ok (.getfield 29, 3) := by decide +kernel
theorem dX11_haveArguments_4 : decode cX11_haveArguments 4 = .ok (.getfield 49, 3) := by decide +kernel
theorem dX11_haveArguments_7 : decode cX11_haveArguments 7 = .ok (.astore 5, 2) := by decide +kernel
theorem dX11_haveArguments_9 : decode cX11_haveArguments 9 = .ok (.iload_n 1, 1) := by decide +kernel
theorem dX11_haveArguments_10 : decode cX11_haveArguments 10 = .ok (.iconst 1, 1) := by decide +kernel
theorem dX11_haveArguments_11 : decode cX11_haveArguments 11 = .ok (.if_icmp .lt 12, 3) := by decide +kernel
theorem dX11_haveArguments_14 : decode cX11_haveArguments 14 = .ok (.aload 5, 2) := by decide +kernel
theorem dX11_haveArguments_16 : decode cX11_haveArguments 16 = .ok (.iload_n 2, 1) := by decide +kernel
theorem dX11_haveArguments_17 : decode cX11_haveArguments 17 = .ok (.invokevirtual 304, 3) := by decide +kernel
theorem dX11_haveArguments_20 : decode cX11_haveArguments 20 = .ok (.ifCond .eq 36, 3) := by decide +kernel
theorem dX11_haveArguments_23 : decode cX11_haveArguments 23 = .ok (.iload_n 1, 1) := by decide +kernel
theorem dX11_haveArguments_24 : decode cX11_haveArguments 24 = .ok (.iconst 2, 1) := by decide +kernel
theorem dX11_haveArguments_25 : decode cX11_haveArguments 25 = .ok (.if_icmp .lt 12, 3) := by decide +kernel
theorem dX11_haveArguments_28 : decode cX11_haveArguments 28 = .ok (.aload 5, 2) := by decide +kernel
theorem dX11_haveArguments_30 : decode cX11_haveArguments 30 = .ok (.iload_n 3, 1) := by decide +kernel
theorem dX11_haveArguments_31 : decode cX11_haveArguments 31 = .ok (.invokevirtual 304, 3) := by decide +kernel
theorem dX11_haveArguments_34 : decode cX11_haveArguments 34 = .ok (.ifCond .eq 22, 3) := by decide +kernel
theorem dX11_haveArguments_37 : decode cX11_haveArguments 37 = .ok (.iload_n 1, 1) := by decide +kernel
theorem dX11_haveArguments_38 : decode cX11_haveArguments 38 = .ok (.iconst 3, 1) := by decide +kernel
theorem dX11_haveArguments_39 : decode cX11_haveArguments 39 = .ok (.if_icmp .lt 13, 3) := by decide +kernel
theorem dX11_haveArguments_42 : decode cX11_haveArguments 42 = .ok (.aload 5, 2) := by decide +kernel
theorem dX11_haveArguments_44 : decode cX11_haveArguments 44 = .ok (.iload 4, 2) := by decide +kernel
theorem dX11_haveArguments_46 : decode cX11_haveArguments 46 = .ok (.invokevirtual 304, 3) := by decide +kernel
theorem dX11_haveArguments_49 : decode cX11_haveArguments 49 = .ok (.ifCond .eq 7, 3) := by decide +kernel
theorem dX11_haveArguments_52 : decode cX11_haveArguments 52 = .ok (.iconst 1, 1) := by decide +kernel
theorem dX11_haveArguments_53 : decode cX11_haveArguments 53 = .ok (.goto 4, 3) := by decide +kernel
theorem dX11_haveArguments_56 : decode cX11_haveArguments 56 = .ok (.iconst 0, 1) := by decide +kernel
theorem dX11_haveArguments_57 : decode cX11_haveArguments 57 = .ok (.ireturn, 1) := by decide +kernel
theorem dX11_bind_0 : decode cX11_bind 0 = .ok (.iload_n 1, 1) := by decide +kernel
theorem dX11_bind_1 : decode cX11_bind 1 = .ok (.invokestatic 279, 3) := by decide +kernel
theorem dX11_bind_4 : decode cX11_bind 4 = .ok (.ifCond .eq 22, 3) := by decide +kernel
theorem dX11_bind_7 : decode cX11_bind 7 = .ok (.iload_n 2, 1) := by decide +kernel
theorem dX11_bind_8 : decode cX11_bind 8 = .ok (.iconst (-1), 1) := by decide +kernel
theorem dX11_bind_9 : decode cX11_bind 9 = .ok (.if_icmp .eq 25, 3) := by decide +kernel
theorem dX11_bind_12 : decode cX11_bind 12 = .ok (.aload_n 0, 1) := by decide +kernel
theorem dX11_bind_13 : decode cX11_bind 13 = .ok (.getfield 29, 3) := by decide +kernel
theorem dX11_bind_16 : decode cX11_bind 16 = .ok (.getfield 49, 3) := by decide +kernel
theorem dX11_bind_19 : decode cX11_bind 19 = .ok (.iload_n 2, 1) := by decide +kernel
theorem dX11_bind_20 : decode cX11_bind 20 = .ok (.invokevirtual 304, 3) := by decide +kernel
theorem dX11_bind_23 : decode cX11_bind 23 = .ok (.ifCond .ne 11, 3) := by decide +kernel
theorem dX11_bind_26 : decode cX11_bind 26 = .ok (.aload_n 0, 1) := by decide +kernel
theorem dX11_bind_27 : decode cX11_bind 27 = .ok (.iconst 1, 1) := by decide +kernel
theorem dX11_bind_28 : decode cX11_bind 28 = .ok (.bipush (-2), 2) := by decide +kernel
theorem dX11_bind_30 : decode cX11_bind 30 = .ok (.invokevirtual 284, 3) := by decide +kernel
theorem dX11_bind_33 : decode cX11_bind 33 = .ok (.ireturn, 1) := by decide +kernel
theorem dX11_bind_34 : decode cX11_bind 34 = .ok (.aload_n 0, 1) := by decide +kernel
theorem dX11_bind_35 : decode cX11_bind 35 = .ok (.getfield 29, 3) := by decide +kernel
theorem dX11_bind_38 : decode cX11_bind 38 = .ok (.getfield 156, 3) := by decide +kernel
theorem dX11_bind_41 : decode cX11_bind 41 = .ok (.getfield 167, 3) := by decide +kernel
theorem dX11_bind_44 : decode cX11_bind 44 = .ok (.bipush 7, 2) := by decide +kernel
theorem dX11_bind_46 : decode cX11_bind 46 = .ok (.iload_n 1, 1) := by decide +kernel
theorem dX11_bind_47 : decode cX11_bind 47 = .ok (.iadd, 1) := by decide +kernel
theorem dX11_bind_48 : decode cX11_bind 48 = .ok (.iaload, 1) := by decide +kernel
theorem dX11_bind_49 : decode cX11_bind 49 = .ok (.istore_n 3, 1) := by decide +kernel
theorem dX11_bind_50 : decode cX11_bind 50 = .ok (.iload_n 3, 1) := by decide +kernel
theorem dX11_bind_51 : decode cX11_bind 51 = .ok (.iload_n 2, 1) := by decide +kernel
theorem dX11_bind_52 : decode cX11_bind 52 = .ok (.if_icmp .ne 11, 3) := by decide +kernel
theorem dX11_bind_55 : decode cX11_bind 55 = .ok (.aload_n 0, 1) := by decide +kernel
theorem dX11_bind_56 : decode cX11_bind 56 = .ok (.iconst 1, 1) := by decide +kernel
theorem dX11_bind_57 : decode cX11_bind 57 = .ok (.bipush (-2), 2) := by decide +kernel
theorem dX11_bind_59 : decode cX11_bind 59 = .ok (.invokevirtual 284, 3) := by decide +kernel
theorem dX11_bind_62 : decode cX11_bind 62 = .ok (.ireturn, 1) := by decide +kernel
theorem dX11_bind_63 : decode cX11_bind 63 = .ok (.aload_n 0, 1) := by decide +kernel
theorem dX11_bind_64 : decode cX11_bind 64 = .ok (.getfield 29, 3) := by decide +kernel
theorem dX11_bind_67 : decode cX11_bind 67 = .ok (.invokevirtual 287, 3) := by decide +kernel
theorem dX11_bind_70 : decode cX11_bind 70 = .ok (.aload_n 0, 1) := by decide +kernel
theorem dX11_bind_71 : decode cX11_bind 71 = .ok (.getfield 29, 3) := by decide +kernel
theorem dX11_bind_74 : decode cX11_bind 74 = .ok (.getfield 156, 3) := by decide +kernel
theorem dX11_bind_77 : decode cX11_bind 77 = .ok (.getfield 167, 3) := by decide +kernel
theorem dX11_bind_80 : decode cX11_bind 80 = .ok (.bipush 7, 2) := by decide +kernel
theorem dX11_bind_82 : decode cX11_bind 82 = .ok (.iload_n 1, 1) := by decide +kernel
theorem dX11_bind_83 : decode cX11_bind 83 = .ok (.iadd, 1) := by decide +kernel
theorem dX11_bind_84 : decode cX11_bind 84 = .ok (.iload_n 2, 1) := by decide +kernel
theorem dX11_bind_85 : decode cX11_bind 85 = .ok (.iastore, 1) := by decide +kernel
theorem dX11_bind_86 : decode cX11_bind 86 = .ok (.aload_n 0, 1) := by decide +kernel
theorem dX11_bind_87 : decode cX11_bind 87 = .ok (.getfield 29, 3) := by decide +kernel
theorem dX11_bind_90 : decode cX11_bind 90 = .ok (.invokevirtual 305, 3) := by decide +kernel
theorem dX11_bind_93 : decode cX11_bind 93 = .ok (.iload_n 3, 1) := by decide +kernel
theorem dX11_bind_94 : decode cX11_bind 94 = .ok (.ireturn, 1) := by decide +kernel
theorem dX11_apply_0 : decode cX11_apply 0 = .ok (.aload_n 0, 1) := by decide +kernel
theorem dX11_apply_1 : decode cX11_apply 1 = .ok (.getfield 29, 3) := by decide +kernel
theorem dX11_apply_4 : decode cX11_apply 4 = .ok (.getfield 49, 3) := by decide +kernel
theorem dX11_apply_7 : decode cX11_apply 7 = .ok (.iload_n 1, 1) := by decide +kernel
theorem dX11_apply_8 : decode cX11_apply 8 = .ok (.invokevirtual 304, 3) := by decide +kernel
theorem dX11_apply_11 : decode cX11_apply 11 = .ok (.ifCond .ne 10, 3) := by decide +kernel
theorem dX11_apply_14 : decode cX11_apply 14 = .ok (.aload_n 0, 1) := by decide +kernel
theorem dX11_apply_15 : decode cX11_apply 15 = .ok (.iconst 1, 1) := by decide +kernel
theorem dX11_apply_16 : decode cX11_apply 16 = .ok (.iconst (-1), 1) := by decide +kernel
theorem dX11_apply_17 : decode cX11_apply 17 = .ok (.invokevirtual 284, 3) := by decide +kernel
theorem dX11_apply_20 : decode cX11_apply 20 = .ok (.ireturn, 1) := by decide +kernel
theorem dX11_apply_21 : decode cX11_apply 21 = .ok (.aload_n 0, 1) := by decide +kernel
theorem dX11_apply_22 : decode cX11_apply 22 = .ok (.getfield 29, 3) := by decide +kernel
theorem dX11_apply_25 : decode cX11_apply 25 = .ok (.invokevirtual 287, 3) := by decide +kernel
theorem dX11_apply_28 : decode cX11_apply 28 = .ok (.aload_n 0, 1) := by decide +kernel
theorem dX11_apply_29 : decode cX11_apply 29 = .ok (.aload_n 0, 1) := by decide +kernel
theorem dX11_apply_30 : decode cX11_apply 30 = .ok (.getfield 62, 3) := by decide +kernel
theorem dX11_apply_33 : decode cX11_apply 33 = .ok (.iload_n 1, 1) := by decide +kernel
theorem dX11_apply_34 : decode cX11_apply 34 = .ok (.aload_n 0, 1) := by decide +kernel
theorem dX11_apply_35 : decode cX11_apply 35 = .ok (.getfield 29, 3) := by decide +kernel
theorem dX11_apply_38 : decode cX11_apply 38 = .ok (.getfield 156, 3) := by decide +kernel
theorem dX11_apply_41 : decode cX11_apply 41 = .ok (.getfield 167, 3) := by decide +kernel
theorem dX11_apply_44 : decode cX11_apply 44 = .ok (.bipush 7, 2) := by decide +kernel
theorem dX11_apply_46 : decode cX11_apply 46 = .ok (.invokevirtual 308, 3) := by decide +kernel
theorem dX11_apply_49 : decode cX11_apply 49 = .ok (.invokevirtual 293, 3) := by decide +kernel
theorem dX11_apply_52 : decode cX11_apply 52 = .ok (.ireturn, 1) := by decide +kernel
theorem dX11_close_0 : decode cX11_close 0 = .ok (.aload_n 0, 1) := by decide +kernel
theorem dX11_close_1 : decode cX11_close 1 = .ok (.getfield 29, 3) := by decide +kernel
theorem dX11_close_4 : decode cX11_close 4 = .ok (.getfield 49, 3) := by decide +kernel
theorem dX11_close_7 : decode cX11_close 7 = .ok (.iload_n 1, 1) := by decide +kernel
theorem dX11_close_8 : decode cX11_close 8 = .ok (.invokevirtual 304, 3) := by decide +kernel
theorem dX11_close_11 : decode cX11_close 11 = .ok (.ifCond .ne 10, 3) := by decide +kernel
theorem dX11_close_14 : decode cX11_close 14 = .ok (.aload_n 0, 1) := by decide +kernel
theorem dX11_close_15 : decode cX11_close 15 = .ok (.iconst 1, 1) := by decide +kernel
theorem dX11_close_16 : decode cX11_close 16 = .ok (.iconst (-1), 1) := by decide +kernel
theorem dX11_close_17 : decode cX11_close 17 = .ok (.invokevirtual 284, 3) := by decide +kernel
theorem dX11_close_20 : decode cX11_close 20 = .ok (.ireturn, 1) := by decide +kernel
theorem dX11_close_21 : decode cX11_close 21 = .ok (.aload_n 0, 1) := by decide +kernel
theorem dX11_close_22 : decode cX11_close 22 = .ok (.getfield 62, 3) := by decide +kernel
theorem dX11_close_25 : decode cX11_close 25 = .ok (.iload_n 1, 1) := by decide +kernel
theorem dX11_close_26 : decode cX11_close 26 = .ok (.aload_n 0, 1) := by decide +kernel
theorem dX11_close_27 : decode cX11_close 27 = .ok (.getfield 29, 3) := by decide +kernel
theorem dX11_close_30 : decode cX11_close 30 = .ok (.getfield 156, 3) := by decide +kernel
theorem dX11_close_33 : decode cX11_close 33 = .ok (.getfield 167, 3) := by decide +kernel
theorem dX11_close_36 : decode cX11_close 36 = .ok (.bipush 7, 2) := by decide +kernel
theorem dX11_close_38 : decode cX11_close 38 = .ok (.invokevirtual 312, 3) := by decide +kernel
theorem dX11_close_41 : decode cX11_close 41 = .ok (.ifCond .eq 11, 3) := by decide +kernel
theorem dX11_close_44 : decode cX11_close 44 = .ok (.aload_n 0, 1) := by decide +kernel
theorem dX11_close_45 : decode cX11_close 45 = .ok (.iconst 3, 1) := by decide +kernel
theorem dX11_close_46 : decode cX11_close 46 = .ok (.bipush (-2), 2) := by decide +kernel
theorem dX11_close_48 : decode cX11_close 48 = .ok (.invokevirtual 284, 3) := by decide +kernel
theorem dX11_close_51 : decode cX11_close 51 = .ok (.ireturn, 1) := by decide +kernel
theorem dX11_close_52 : decode cX11_close 52 = .ok (.aload_n 0, 1) := by decide +kernel
theorem dX11_close_53 : decode cX11_close 53 = .ok (.getfield 29, 3) := by decide +kernel
theorem dX11_close_56 : decode cX11_close 56 = .ok (.invokevirtual 287, 3) := by decide +kernel
theorem dX11_close_59 : decode cX11_close 59 = .ok (.aload_n 0, 1) := by decide +kernel
theorem dX11_close_60 : decode cX11_close 60 = .ok (.aload_n 0, 1) := by decide +kernel
theorem dX11_close_61 : decode cX11_close 61 = .ok (.getfield 62, 3) := by decide +kernel
theorem dX11_close_64 : decode cX11_close 64 = .ok (.iload_n 1, 1) := by decide +kernel
theorem dX11_close_65 : decode cX11_close 65 = .ok (.aload_n 0, 1) := by decide +kernel
theorem dX11_close_66 : decode cX11_close 66 = .ok (.getfield 29, 3) := by decide +kernel
theorem dX11_close_69 : decode cX11_close 69 = .ok (.getfield 156, 3) := by decide +kernel
theorem dX11_close_72 : decode cX11_close 72 = .ok (.getfield 167, 3) := by decide +kernel
theorem dX11_close_75 : decode cX11_close 75 = .ok (.bipush 7, 2) := by decide +kernel
theorem dX11_close_77 : decode cX11_close 77 = .ok (.invokevirtual 316, 3) := by decide +kernel
theorem dX11_close_80 : decode cX11_close 80 = .ok (.invokevirtual 293, 3) := by decide +kernel
theorem dX11_close_83 : decode cX11_close 83 = .ok (.ireturn, 1) := by decide +kernel
theorem dX11_unify_0 : decode cX11_unify 0 = .ok (.aload_n 0, 1) := by decide +kernel
theorem dX11_unify_1 : decode cX11_unify 1 = .ok (.getfield 29, 3) := by decide +kernel
theorem dX11_unify_4 : decode cX11_unify 4 = .ok (.getfield 49, 3) := by decide +kernel
theorem dX11_unify_7 : decode cX11_unify 7 = .ok (.iload_n 1, 1) := by decide +kernel
theorem dX11_unify_8 : decode cX11_unify 8 = .ok (.invokevirtual 304, 3) := by decide +kernel
theorem dX11_unify_11 : decode cX11_unify 11 = .ok (.ifCond .eq 17, 3) := by decide +kernel
theorem dX11_unify_14 : decode cX11_unify 14 = .ok (.aload_n 0, 1) := by decide +kernel
theorem dX11_unify_15 : decode cX11_unify 15 = .ok (.getfield 29, 3) := by decide +kernel
theorem dX11_unify_18 : decode cX11_unify 18 = .ok (.getfield 49, 3) := by decide +kernel
theorem dX11_unify_21 : decode cX11_unify 21 = .ok (.iload_n 2, 1) := by decide +kernel
theorem dX11_unify_22 : decode cX11_unify 22 = .ok (.invokevirtual 304, 3) := by decide +kernel
theorem dX11_unify_25 : decode cX11_unify 25 = .ok (.ifCond .ne 10, 3) := by decide +kernel
theorem dX11_unify_28 : decode cX11_unify 28 = .ok (.aload_n 0, 1) := by decide +kernel
theorem dX11_unify_29 : decode cX11_unify 29 = .ok (.iconst 1, 1) := by decide +kernel
theorem dX11_unify_30 : decode cX11_unify 30 = .ok (.iconst (-1), 1) := by decide +kernel
theorem dX11_unify_31 : decode cX11_unify 31 = .ok (.invokevirtual 284, 3) := by decide +kernel
theorem dX11_unify_34 : decode cX11_unify 34 = .ok (.ireturn, 1) := by decide +kernel
theorem dX11_unify_35 : decode cX11_unify 35 = .ok (.aload_n 0, 1) := by decide +kernel
theorem dX11_unify_36 : decode cX11_unify 36 = .ok (.getfield 69, 3) := by decide +kernel
theorem dX11_unify_39 : decode cX11_unify 39 = .ok (.iload_n 1, 1) := by decide +kernel
theorem dX11_unify_40 : decode cX11_unify 40 = .ok (.iload_n 2, 1) := by decide +kernel
theorem dX11_unify_41 : decode cX11_unify 41 = .ok (.iconst 0, 1) := by decide +kernel
theorem dX11_unify_42 : decode cX11_unify 42 = .ok (.invokevirtual 319, 3) := by decide +kernel
theorem dX11_unify_45 : decode cX11_unify 45 = .ok (.istore_n 3, 1) := by decide +kernel
theorem dX11_unify_46 : decode cX11_unify 46 = .ok (.iload_n 3, 1) := by decide +kernel
end
section
theorem dX11_unify_47 : decode cX11_unify 47 = .ok (.iconst 1, 1) := by decide +kernel
theorem dX11_unify_48 : decode cX11_unify 48 = .ok (.if_icmp .eq 10, 3) := by decide +kernel
theorem dX11_unify_51 : decode cX11_unify 51 = .ok (.aload_n 0, 1) := by decide +kernel
theorem dX11_unify_52 : decode cX11_unify 52 = .ok (.iconst 3, 1) := by decide +kernel
theorem dX11_unify_53 : decode cX11_unify 53 = .ok (.iload_n 3, 1) := by decide +kernel
theorem dX11_unify_54 : decode cX11_unify 54 = .ok (.invokevirtual 284, 3) := by decide +kernel
theorem dX11_unify_57 : decode cX11_unify 57 = .ok (.ireturn, 1) := by decide +kernel
theorem dX11_unify_58 : decode cX11_unify 58 = .ok (.aload_n 0, 1) := by decide +kernel
theorem dX11_unify_59 : decode cX11_unify 59 = .ok (.getfield 29, 3) := by decide +kernel
theorem dX11_unify_62 : decode cX11_unify 62 = .ok (.invokevirtual 287, 3) := by decide +kernel
theorem dX11_unify_65 : decode cX11_unify 65 = .ok (.aload_n 0, 1) := by decide +kernel
theorem dX11_unify_66 : decode cX11_unify 66 = .ok (.getfield 29, 3) := by decide +kernel
theorem dX11_unify_69 : decode cX11_unify 69 = .ok (.getfield 49, 3) := by decide +kernel
theorem dX11_unify_72 : decode cX11_unify 72 = .ok (.getfield 235, 3) := by decide +kernel
theorem dX11_unify_75 : decode cX11_unify 75 = .ok (.iload_n 1, 1) := by decide +kernel
theorem dX11_unify_76 : decode cX11_unify 76 = .ok (.iaload, 1) := by decide +kernel
theorem dX11_unify_77 : decode cX11_unify 77 = .ok (.aload_n 0, 1) := by decide +kernel
theorem dX11_unify_78 : decode cX11_unify 78 = .ok (.getfield 29, 3) := by decide +kernel
theorem dX11_unify_81 : decode cX11_unify 81 = .ok (.getfield 49, 3) := by decide +kernel
theorem dX11_unify_84 : decode cX11_unify 84 = .ok (.getfield 235, 3) := by decide +kernel
theorem dX11_unify_87 : decode cX11_unify 87 = .ok (.iload_n 2, 1) := by decide +kernel
theorem dX11_unify_88 : decode cX11_unify 88 = .ok (.iaload, 1) := by decide +kernel
theorem dX11_unify_89 : decode cX11_unify 89 = .ok (.ior, 1) := by decide +kernel
theorem dX11_unify_90 : decode cX11_unify 90 = .ok (.istore 4, 2) := by decide +kernel
theorem dX11_unify_92 : decode cX11_unify 92 = .ok (.aload_n 0, 1) := by decide +kernel
theorem dX11_unify_93 : decode cX11_unify 93 = .ok (.aload_n 0, 1) := by decide +kernel
theorem dX11_unify_94 : decode cX11_unify 94 = .ok (.getfield 69, 3) := by decide +kernel
theorem dX11_unify_97 : decode cX11_unify 97 = .ok (.iload 4, 2) := by decide +kernel
theorem dX11_unify_99 : decode cX11_unify 99 = .ok (.aload_n 0, 1) := by decide +kernel
theorem dX11_unify_100 : decode cX11_unify 100 = .ok (.getfield 29, 3) := by decide +kernel
theorem dX11_unify_103 : decode cX11_unify 103 = .ok (.getfield 156, 3) := by decide +kernel
theorem dX11_unify_106 : decode cX11_unify 106 = .ok (.getfield 167, 3) := by decide +kernel
theorem dX11_unify_109 : decode cX11_unify 109 = .ok (.bipush 7, 2) := by decide +kernel
theorem dX11_unify_111 : decode cX11_unify 111 = .ok (.invokevirtual 323, 3) := by decide +kernel
theorem dX11_unify_114 : decode cX11_unify 114 = .ok (.invokevirtual 293, 3) := by decide +kernel
theorem dX11_unify_117 : decode cX11_unify 117 = .ok (.ireturn, 1) := by decide +kernel
theorem dX11_match_0 : decode cX11_match 0 = .ok (.aload_n 0, 1) := by decide +kernel
theorem dX11_match_1 : decode cX11_match 1 = .ok (.getfield 29, 3) := by decide +kernel
theorem dX11_match_4 : decode cX11_match 4 = .ok (.getfield 49, 3) := by decide +kernel
theorem dX11_match_7 : decode cX11_match 7 = .ok (.iload_n 1, 1) := by decide +kernel
theorem dX11_match_8 : decode cX11_match 8 = .ok (.invokevirtual 304, 3) := by decide +kernel
theorem dX11_match_11 : decode cX11_match 11 = .ok (.ifCond .eq 17, 3) := by decide +kernel
theorem dX11_match_14 : decode cX11_match 14 = .ok (.aload_n 0, 1) := by decide +kernel
theorem dX11_match_15 : decode cX11_match 15 = .ok (.getfield 29, 3) := by decide +kernel
theorem dX11_match_18 : decode cX11_match 18 = .ok (.getfield 49, 3) := by decide +kernel
theorem dX11_match_21 : decode cX11_match 21 = .ok (.iload_n 2, 1) := by decide +kernel
theorem dX11_match_22 : decode cX11_match 22 = .ok (.invokevirtual 304, 3) := by decide +kernel
theorem dX11_match_25 : decode cX11_match 25 = .ok (.ifCond .ne 10, 3) := by decide +kernel
theorem dX11_match_28 : decode cX11_match 28 = .ok (.aload_n 0, 1) := by decide +kernel
theorem dX11_match_29 : decode cX11_match 29 = .ok (.iconst 1, 1) := by decide +kernel
theorem dX11_match_30 : decode cX11_match 30 = .ok (.iconst (-1), 1) := by decide +kernel
theorem dX11_match_31 : decode cX11_match 31 = .ok (.invokevirtual 284, 3) := by decide +kernel
theorem dX11_match_34 : decode cX11_match 34 = .ok (.ireturn, 1) := by decide +kernel
theorem dX11_match_35 : decode cX11_match 35 = .ok (.aload_n 0, 1) := by decide +kernel
theorem dX11_match_36 : decode cX11_match 36 = .ok (.getfield 55, 3) := by decide +kernel
theorem dX11_match_39 : decode cX11_match 39 = .ok (.iload_n 1, 1) := by decide +kernel
theorem dX11_match_40 : decode cX11_match 40 = .ok (.iload_n 2, 1) := by decide +kernel
theorem dX11_match_41 : decode cX11_match 41 = .ok (.invokevirtual 326, 3) := by decide +kernel
theorem dX11_match_44 : decode cX11_match 44 = .ok (.ifCond .ne 10, 3) := by decide +kernel
theorem dX11_match_47 : decode cX11_match 47 = .ok (.aload_n 0, 1) := by decide +kernel
theorem dX11_match_48 : decode cX11_match 48 = .ok (.iconst 3, 1) := by decide +kernel
theorem dX11_match_49 : decode cX11_match 49 = .ok (.iconst 0, 1) := by decide +kernel
theorem dX11_match_50 : decode cX11_match 50 = .ok (.invokevirtual 284, 3) := by decide +kernel
theorem dX11_match_53 : decode cX11_match 53 = .ok (.ireturn, 1) := by decide +kernel
theorem dX11_match_54 : decode cX11_match 54 = .ok (.aload_n 0, 1) := by decide +kernel
theorem dX11_match_55 : decode cX11_match 55 = .ok (.getfield 29, 3) := by decide +kernel
theorem dX11_match_58 : decode cX11_match 58 = .ok (.invokevirtual 287, 3) := by decide +kernel
theorem dX11_match_61 : decode cX11_match 61 = .ok (.aload_n 0, 1) := by decide +kernel
theorem dX11_match_62 : decode cX11_match 62 = .ok (.getfield 55, 3) := by decide +kernel
theorem dX11_match_65 : decode cX11_match 65 = .ok (.getfield 329, 3) := by decide +kernel
theorem dX11_match_68 : decode cX11_match 68 = .ok (.iconst 0, 1) := by decide +kernel
theorem dX11_match_69 : decode cX11_match 69 = .ok (.aload_n 0, 1) := by decide +kernel
theorem dX11_match_70 : decode cX11_match 70 = .ok (.getfield 29, 3) := by decide +kernel
theorem dX11_match_73 : decode cX11_match 73 = .ok (.getfield 156, 3) := by decide +kernel
theorem dX11_match_76 : decode cX11_match 76 = .ok (.getfield 167, 3) := by decide +kernel
theorem dX11_match_79 : decode cX11_match 79 = .ok (.bipush 7, 2) := by decide +kernel
theorem dX11_match_81 : decode cX11_match 81 = .ok (.bipush 8, 2) := by decide +kernel
theorem dX11_match_83 : decode cX11_match 83 = .ok (.invokestatic 332, 3) := by decide +kernel
theorem dX11_match_86 : decode cX11_match 86 = .ok (.aload_n 0, 1) := by decide +kernel
theorem dX11_match_87 : decode cX11_match 87 = .ok (.getfield 29, 3) := by decide +kernel
theorem dX11_match_90 : decode cX11_match 90 = .ok (.invokevirtual 305, 3) := by decide +kernel
theorem dX11_match_93 : decode cX11_match 93 = .ok (.iconst 1, 1) := by decide +kernel
theorem dX11_match_94 : decode cX11_match 94 = .ok (.ireturn, 1) := by decide +kernel
theorem dX11_common_0 : decode cX11_common 0 = .ok (.aload_n 0, 1) := by decide +kernel
theorem dX11_common_1 : decode cX11_common 1 = .ok (.getfield 29, 3) := by decide +kernel
theorem dX11_common_4 : decode cX11_common 4 = .ok (.getfield 49, 3) := by decide +kernel
theorem dX11_common_7 : decode cX11_common 7 = .ok (.iload_n 1, 1) := by decide +kernel
theorem dX11_common_8 : decode cX11_common 8 = .ok (.invokevirtual 304, 3) := by decide +kernel
theorem dX11_common_11 : decode cX11_common 11 = .ok (.ifCond .eq 17, 3) := by decide +kernel
theorem dX11_common_14 : decode cX11_common 14 = .ok (.aload_n 0, 1) := by decide +kernel
theorem dX11_common_15 : decode cX11_common 15 = .ok (.getfield 29, 3) := by decide +kernel
theorem dX11_common_18 : decode cX11_common 18 = .ok (.getfield 49, 3) := by decide +kernel
theorem dX11_common_21 : decode cX11_common 21 = .ok (.iload_n 2, 1) := by decide +kernel
theorem dX11_common_22 : decode cX11_common 22 = .ok (.invokevirtual 304, 3) := by decide +kernel
theorem dX11_common_25 : decode cX11_common 25 = .ok (.ifCond .ne 10, 3) := by decide +kernel
theorem dX11_common_28 : decode cX11_common 28 = .ok (.aload_n 0, 1) := by decide +kernel
theorem dX11_common_29 : decode cX11_common 29 = .ok (.iconst 1, 1) := by decide +kernel
theorem dX11_common_30 : decode cX11_common 30 = .ok (.iconst (-1), 1) := by decide +kernel
theorem dX11_common_31 : decode cX11_common 31 = .ok (.invokevirtual 284, 3) := by decide +kernel
theorem dX11_common_34 : decode cX11_common 34 = .ok (.ireturn, 1) := by decide +kernel
theorem dX11_common_35 : decode cX11_common 35 = .ok (.aload_n 0, 1) := by decide +kernel
theorem dX11_common_36 : decode cX11_common 36 = .ok (.getfield 62, 3) := by decide +kernel
theorem dX11_common_39 : decode cX11_common 39 = .ok (.iload_n 1, 1) := by decide +kernel
theorem dX11_common_40 : decode cX11_common 40 = .ok (.iload_n 2, 1) := by decide +kernel
theorem dX11_common_41 : decode cX11_common 41 = .ok (.invokevirtual 338, 3) := by decide +kernel
theorem dX11_common_44 : decode cX11_common 44 = .ok (.ifCond .ne 11, 3) := by decide +kernel
theorem dX11_common_47 : decode cX11_common 47 = .ok (.aload_n 0, 1) := by decide +kernel
theorem dX11_common_48 : decode cX11_common 48 = .ok (.iconst 3, 1) := by decide +kernel
theorem dX11_common_49 : decode cX11_common 49 = .ok (.bipush (-2), 2) := by decide +kernel
theorem dX11_common_51 : decode cX11_common 51 = .ok (.invokevirtual 284, 3) := by decide +kernel
theorem dX11_common_54 : decode cX11_common 54 = .ok (.ireturn, 1) := by decide +kernel
theorem dX11_common_55 : decode cX11_common 55 = .ok (.aload_n 0, 1) := by decide +kernel
theorem dX11_common_56 : decode cX11_common 56 = .ok (.getfield 29, 3) := by decide +kernel
theorem dX11_common_59 : decode cX11_common 59 = .ok (.invokevirtual 287, 3) := by decide +kernel
theorem dX11_common_62 : decode cX11_common 62 = .ok (.aload_n 0, 1) := by decide +kernel
theorem dX11_common_63 : decode cX11_common 63 = .ok (.aload_n 0, 1) := by decide +kernel
theorem dX11_common_64 : decode cX11_common 64 = .ok (.getfield 62, 3) := by decide +kernel
theorem dX11_common_67 : decode cX11_common 67 = .ok (.iload_n 1, 1) := by decide +kernel
theorem dX11_common_68 : decode cX11_common 68 = .ok (.iload_n 2, 1) := by decide +kernel
theorem dX11_common_69 : decode cX11_common 69 = .ok (.invokevirtual 341, 3) := by decide +kernel
theorem dX11_common_72 : decode cX11_common 72 = .ok (.invokevirtual 293, 3) := by decide +kernel
theorem dX11_common_75 : decode cX11_common 75 = .ok (.ireturn, 1) := by decide +kernel
theorem dX11_normal_0 : decode cX11_normal 0 = .ok (.aload_n 0, 1) := by decide +kernel
theorem dX11_normal_1 : decode cX11_normal 1 = .ok (.getfield 29, 3) := by decide +kernel
theorem dX11_normal_4 : decode cX11_normal 4 = .ok (.getfield 49, 3) := by decide +kernel
theorem dX11_normal_7 : decode cX11_normal 7 = .ok (.iload_n 1, 1) := by decide +kernel
theorem dX11_normal_8 : decode cX11_normal 8 = .ok (.invokevirtual 304, 3) := by decide +kernel
theorem dX11_normal_11 : decode cX11_normal 11 = .ok (.ifCond .ne 10, 3) := by decide +kernel
theorem dX11_normal_14 : decode cX11_normal 14 = .ok (.aload_n 0, 1) := by decide +kernel
theorem dX11_normal_15 : decode cX11_normal 15 = .ok (.iconst 1, 1) := by decide +kernel
theorem dX11_normal_16 : decode cX11_normal 16 = .ok (.iconst (-1), 1) := by decide +kernel
theorem dX11_normal_17 : decode cX11_normal 17 = .ok (.invokevirtual 284, 3) := by decide +kernel
theorem dX11_normal_20 : decode cX11_normal 20 = .ok (.ireturn, 1) := by decide +kernel
theorem dX11_normal_21 : decode cX11_normal 21 = .ok (.aload_n 0, 1) := by decide +kernel
theorem dX11_normal_22 : decode cX11_normal 22 = .ok (.getfield 29, 3) := by decide +kernel
theorem dX11_normal_25 : decode cX11_normal 25 = .ok (.invokevirtual 287, 3) := by decide +kernel
theorem dX11_normal_28 : decode cX11_normal 28 = .ok (.aload_n 0, 1) := by decide +kernel
theorem dX11_normal_29 : decode cX11_normal 29 = .ok (.getfield 90, 3) := by decide +kernel
theorem dX11_normal_32 : decode cX11_normal 32 = .ok (.invokevirtual 344, 3) := by decide +kernel
theorem dX11_normal_35 : decode cX11_normal 35 = .ok (.aload_n 0, 1) := by decide +kernel
theorem dX11_normal_36 : decode cX11_normal 36 = .ok (.aload_n 0, 1) := by decide +kernel
theorem dX11_normal_37 : decode cX11_normal 37 = .ok (.getfield 90, 3) := by decide +kernel
theorem dX11_normal_40 : decode cX11_normal 40 = .ok (.iload_n 1, 1) := by decide +kernel
theorem dX11_normal_41 : decode cX11_normal 41 = .ok (.invokevirtual 347, 3) := by decide +kernel
theorem dX11_normal_44 : decode cX11_normal 44 = .ok (.invokevirtual 293, 3) := by decide +kernel
theorem dX11_normal_47 : decode cX11_normal 47 = .ok (.ireturn, 1) := by decide +kernel
theorem dX11_put_0 : decode cX11_put 0 = .ok (.aload_n 0, 1) := by decide +kernel
theorem dX11_put_1 : decode cX11_put 1 = .ok (.getfield 29, 3) := by decide +kernel
theorem dX11_put_4 : decode cX11_put 4 = .ok (.getfield 49, 3) := by decide +kernel
theorem dX11_put_7 : decode cX11_put 7 = .ok (.astore 4, 2) := by decide +kernel
theorem dX11_put_9 : decode cX11_put 9 = .ok (.aload 4, 2) := by decide +kernel
theorem dX11_put_11 : decode cX11_put 11 = .ok (.iload_n 1, 1) := by decide +kernel
theorem dX11_put_12 : decode cX11_put 12 = .ok (.invokevirtual 304, 3) := by decide +kernel
theorem dX11_put_15 : decode cX11_put 15 = .ok (.ifCond .eq 22, 3) := by decide +kernel
theorem dX11_put_18 : decode cX11_put 18 = .ok (.aload 4, 2) := by decide +kernel
theorem dX11_put_20 : decode cX11_put 20 = .ok (.iload_n 3, 1) := by decide +kernel
theorem dX11_put_21 : decode cX11_put 21 = .ok (.invokevirtual 304, 3) := by decide +kernel
theorem dX11_put_24 : decode cX11_put 24 = .ok (.ifCond .eq 13, 3) := by decide +kernel
theorem dX11_put_27 : decode cX11_put 27 = .ok (.aload 4, 2) := by decide +kernel
theorem dX11_put_29 : decode cX11_put 29 = .ok (.iload_n 1, 1) := by decide +kernel
theorem dX11_put_30 : decode cX11_put 30 = .ok (.iload_n 2, 1) := by decide +kernel
theorem dX11_put_31 : decode cX11_put 31 = .ok (.invokevirtual 256, 3) := by decide +kernel
theorem dX11_put_34 : decode cX11_put 34 = .ok (.ifCond .ne 10, 3) := by decide +kernel
theorem dX11_put_37 : decode cX11_put 37 = .ok (.aload_n 0, 1) := by decide +kernel
theorem dX11_put_38 : decode cX11_put 38 = .ok (.iconst 1, 1) := by decide +kernel
theorem dX11_put_39 : decode cX11_put 39 = .ok (.iconst (-1), 1) := by decide +kernel
theorem dX11_put_40 : decode cX11_put 40 = .ok (.invokevirtual 284, 3) := by decide +kernel
theorem dX11_put_43 : decode cX11_put 43 = .ok (.ireturn, 1) := by decide +kernel
theorem dX11_put_44 : decode cX11_put 44 = .ok (.aload_n 0, 1) := by decide +kernel
theorem dX11_put_45 : decode cX11_put 45 = .ok (.getfield 29, 3) := by decide +kernel
theorem dX11_put_48 : decode cX11_put 48 = .ok (.invokevirtual 287, 3) := by decide +kernel
theorem dX11_put_51 : decode cX11_put 51 = .ok (.aload_n 0, 1) := by decide +kernel
theorem dX11_put_52 : decode cX11_put 52 = .ok (.aload_n 0, 1) := by decide +kernel
theorem dX11_put_53 : decode cX11_put 53 = .ok (.getfield 62, 3) := by decide +kernel
theorem dX11_put_56 : decode cX11_put 56 = .ok (.iload_n 1, 1) := by decide +kernel
theorem dX11_put_57 : decode cX11_put 57 = .ok (.iload_n 2, 1) := by decide +kernel
theorem dX11_put_58 : decode cX11_put 58 = .ok (.iload_n 3, 1) := by decide +kernel
theorem dX11_put_59 : decode cX11_put 59 = .ok (.invokevirtual 350, 3) := by decide +kernel
theorem dX11_put_62 : decode cX11_put 62 = .ok (.invokevirtual 293, 3) := by decide +kernel
theorem dX11_put_65 : decode cX11_put 65 = .ok (.ireturn, 1) := by decide +kernel
theorem dX11_rules_0 : decode cX11_rules 0 = .ok (.aload_n 0, 1) := by decide +kernel
theorem dX11_rules_1 : decode cX11_rules 1 = .ok (.getfield 29, 3) := by decide +kernel
theorem dX11_rules_4 : decode cX11_rules 4 = .ok (.getfield 156, 3) := by decide +kernel
theorem dX11_rules_7 : decode cX11_rules 7 = .ok (.astore_n 3, 1) := by decide +kernel
theorem dX11_rules_8 : decode cX11_rules 8 = .ok (.aload_n 3, 1) := by decide +kernel
theorem dX11_rules_9 : decode cX11_rules 9 = .ok (.getfield 167, 3) := by decide +kernel
theorem dX11_rules_12 : decode cX11_rules 12 = .ok (.iconst 4, 1) := by decide +kernel
theorem dX11_rules_13 : decode cX11_rules 13 = .ok (.iaload, 1) := by decide +kernel
theorem dX11_rules_14 : decode cX11_rules 14 = .ok (.bipush 8, 2) := by decide +kernel
theorem dX11_rules_16 : decode cX11_rules 16 = .ok (.if_icmp .ge 15, 3) := by decide +kernel
theorem dX11_rules_19 : decode cX11_rules 19 = .ok (.aload_n 0, 1) := by decide +kernel
theorem dX11_rules_20 : decode cX11_rules 20 = .ok (.getfield 81, 3) := by decide +kernel
theorem dX11_rules_23 : decode cX11_rules 23 = .ok (.iload_n 1, 1) := by decide +kernel
theorem dX11_rules_24 : decode cX11_rules 24 = .ok (.iload_n 2, 1) := by decide +kernel
theorem dX11_rules_25 : decode cX11_rules 25 = .ok (.invokevirtual 353, 3) := by decide +kernel
theorem dX11_rules_28 : decode cX11_rules 28 = .ok (.ifCond .ne 10, 3) := by decide +kernel
theorem dX11_rules_31 : decode cX11_rules 31 = .ok (.aload_n 0, 1) := by decide +kernel
theorem dX11_rules_32 : decode cX11_rules 32 = .ok (.iconst 1, 1) := by decide +kernel
theorem dX11_rules_33 : decode cX11_rules 33 = .ok (.iconst (-1), 1) := by decide +kernel
theorem dX11_rules_34 : decode cX11_rules 34 = .ok (.invokevirtual 284, 3) := by decide +kernel
theorem dX11_rules_37 : decode cX11_rules 37 = .ok (.ireturn, 1) := by decide +kernel
theorem dX11_rules_38 : decode cX11_rules 38 = .ok (.aload_n 0, 1) := by decide +kernel
theorem dX11_rules_39 : decode cX11_rules 39 = .ok (.getfield 29, 3) := by decide +kernel
theorem dX11_rules_42 : decode cX11_rules 42 = .ok (.invokevirtual 287, 3) := by decide +kernel
theorem dX11_rules_45 : decode cX11_rules 45 = .ok (.aload_n 3, 1) := by decide +kernel
theorem dX11_rules_46 : decode cX11_rules 46 = .ok (.iload_n 1, 1) := by decide +kernel
theorem dX11_rules_47 : decode cX11_rules 47 = .ok (.iload_n 2, 1) := by decide +kernel
theorem dX11_rules_48 : decode cX11_rules 48 = .ok (.invokevirtual 356, 3) := by decide +kernel
theorem dX11_rules_51 : decode cX11_rules 51 = .ok (.aload_n 0, 1) := by decide +kernel
theorem dX11_rules_52 : decode cX11_rules 52 = .ok (.getfield 29, 3) := by decide +kernel
theorem dX11_rules_55 : decode cX11_rules 55 = .ok (.invokevirtual 305, 3) := by decide +kernel
theorem dX11_rules_58 : decode cX11_rules 58 = .ok (.aload_n 3, 1) := by decide +kernel
theorem dX11_rules_59 : decode cX11_rules 59 = .ok (.getfield 167, 3) := by decide +kernel
theorem dX11_rules_62 : decode cX11_rules 62 = .ok (.iconst 4, 1) := by decide +kernel
theorem dX11_rules_63 : decode cX11_rules 63 = .ok (.iaload, 1) := by decide +kernel
theorem dX11_rules_64 : decode cX11_rules 64 = .ok (.ireturn, 1) := by decide +kernel
theorem dX11_enter_0 : decode cX11_enter 0 = .ok (.aload_n 0, 1) := by decide +kernel
theorem dX11_enter_1 : decode cX11_enter 1 = .ok (.getfield 29, 3) := by decide +kernel
theorem dX11_enter_4 : decode cX11_enter 4 = .ok (.getfield 156, 3) := by decide +kernel
theorem dX11_enter_7 : decode cX11_enter 7 = .ok (.astore_n 2, 1) := by decide +kernel
theorem dX11_enter_8 : decode cX11_enter 8 = .ok (.aload_n 0, 1) := by decide +kernel
theorem dX11_enter_9 : decode cX11_enter 9 = .ok (.getfield 29, 3) := by decide +kernel
theorem dX11_enter_12 : decode cX11_enter 12 = .ok (.getfield 49, 3) := by decide +kernel
theorem dX11_enter_15 : decode cX11_enter 15 = .ok (.iload_n 1, 1) := by decide +kernel
theorem dX11_enter_16 : decode cX11_enter 16 = .ok (.invokevirtual 304, 3) := by decide +kernel
theorem dX11_enter_19 : decode cX11_enter 19 = .ok (.ifCond .eq 23, 3) := by decide +kernel
theorem dX11_enter_22 : decode cX11_enter 22 = .ok (.aload_n 2, 1) := by decide +kernel
theorem dX11_enter_23 : decode cX11_enter 23 = .ok (.getfield 167, 3) := by decide +kernel
theorem dX11_enter_26 : decode cX11_enter 26 = .ok (.iconst 5, 1) := by decide +kernel
theorem dX11_enter_27 : decode cX11_enter 27 = .ok (.iaload, 1) := by decide +kernel
theorem dX11_enter_28 : decode cX11_enter 28 = .ok (.bipush 12, 2) := by decide +kernel
theorem dX11_enter_30 : decode cX11_enter 30 = .ok (.if_icmp .ge 12, 3) := by decide +kernel
theorem dX11_enter_33 : decode cX11_enter 33 = .ok (.aload_n 2, 1) := by decide +kernel
theorem dX11_enter_34 : decode cX11_enter 34 = .ok (.iload_n 1, 1) := by decide +kernel
theorem dX11_enter_35 : decode cX11_enter 35 = .ok (.invokevirtual 241, 3) := by decide +kernel
theorem dX11_enter_38 : decode cX11_enter 38 = .ok (.iconst (-1), 1) := by decide +kernel
theorem dX11_enter_39 : decode cX11_enter 39 = .ok (.if_icmp .eq 10, 3) := by decide +kernel
theorem dX11_enter_42 : decode cX11_enter 42 = .ok (.aload_n 0, 1) := by decide +kernel
theorem dX11_enter_43 : decode cX11_enter 43 = .ok (.iconst 1, 1) := by decide +kernel
theorem dX11_enter_44 : decode cX11_enter 44 = .ok (.iconst (-1), 1) := by decide +kernel
theorem dX11_enter_45 : decode cX11_enter 45 = .ok (.invokevirtual 284, 3) := by decide +kernel
theorem dX11_enter_48 : decode cX11_enter 48 = .ok (.ireturn, 1) := by decide +kernel
theorem dX11_enter_49 : decode cX11_enter 49 = .ok (.aload_n 0, 1) := by decide +kernel
theorem dX11_enter_50 : decode cX11_enter 50 = .ok (.getfield 29, 3) := by decide +kernel
theorem dX11_enter_53 : decode cX11_enter 53 = .ok (.invokevirtual 287, 3) := by decide +kernel
theorem dX11_enter_56 : decode cX11_enter 56 = .ok (.aload_n 2, 1) := by decide +kernel
theorem dX11_enter_57 : decode cX11_enter 57 = .ok (.iload_n 1, 1) := by decide +kernel
theorem dX11_enter_58 : decode cX11_enter 58 = .ok (.invokevirtual 360, 3) := by decide +kernel
theorem dX11_enter_61 : decode cX11_enter 61 = .ok (.aload_n 0, 1) := by decide +kernel
theorem dX11_enter_62 : decode cX11_enter 62 = .ok (.getfield 29, 3) := by decide +kernel
theorem dX11_enter_65 : decode cX11_enter 65 = .ok (.invokevirtual 305, 3) := by decide +kernel
theorem dX11_enter_68 : decode cX11_enter 68 = .ok (.aload_n 2, 1) := by decide +kernel
theorem dX11_enter_69 : decode cX11_enter 69 = .ok (.getfield 167, 3) := by decide +kernel
theorem dX11_enter_72 : decode cX11_enter 72 = .ok (.iconst 5, 1) := by decide +kernel
theorem dX11_enter_73 : decode cX11_enter 73 = .ok (.iaload, 1) := by decide +kernel
theorem dX11_enter_74 : decode cX11_enter 74 = .ok (.ireturn, 1) := by decide +kernel
theorem dX11_leave_0 : decode cX11_leave 0 = .ok (.aload_n 0, 1) := by decide +kernel
theorem dX11_leave_1 : decode cX11_leave 1 = .ok (.getfield 29, 3) := by decide +kernel
theorem dX11_leave_4 : decode cX11_leave 4 = .ok (.getfield 156, 3) := by decide +kernel
theorem dX11_leave_7 : decode cX11_leave 7 = .ok (.astore_n 2, 1) := by decide +kernel
theorem dX11_leave_8 : decode cX11_leave 8 = .ok (.aload_n 0, 1) := by decide +kernel
theorem dX11_leave_9 : decode cX11_leave 9 = .ok (.getfield 29, 3) := by decide +kernel
theorem dX11_leave_12 : decode cX11_leave 12 = .ok (.getfield 49, 3) := by decide +kernel
theorem dX11_leave_15 : decode cX11_leave 15 = .ok (.iload_n 1, 1) := by decide +kernel
theorem dX11_leave_16 : decode cX11_leave 16 = .ok (.invokevirtual 304, 3) := by decide +kernel
theorem dX11_leave_19 : decode cX11_leave 19 = .ok (.ifCond .eq 11, 3) := by decide +kernel
theorem dX11_leave_22 : decode cX11_leave 22 = .ok (.aload_n 2, 1) := by decide +kernel
theorem dX11_leave_23 : decode cX11_leave 23 = .ok (.iload_n 1, 1) := by decide +kernel
theorem dX11_leave_24 : decode cX11_leave 24 = .ok (.invokevirtual 241, 3) := by decide +kernel
theorem dX11_leave_27 : decode cX11_leave 27 = .ok (.goto 4, 3) := by decide +kernel
theorem dX11_leave_30 : decode cX11_leave 30 = .ok (.iconst (-1), 1) := by decide +kernel
theorem dX11_leave_31 : decode cX11_leave 31 = .ok (.istore_n 3, 1) := by decide +kernel
theorem dX11_leave_32 : decode cX11_leave 32 = .ok (.iload_n 3, 1) := by decide +kernel
theorem dX11_leave_33 : decode cX11_leave 33 = .ok (.iconst (-1), 1) := by decide +kernel
theorem dX11_leave_34 : decode cX11_leave 34 = .ok (.if_icmp .ne 10, 3) := by decide +kernel
theorem dX11_leave_37 : decode cX11_leave 37 = .ok (.aload_n 0, 1) := by decide +kernel
theorem dX11_leave_38 : decode cX11_leave 38 = .ok (.iconst 1, 1) := by decide +kernel
theorem dX11_leave_39 : decode cX11_leave 39 = .ok (.iconst (-1), 1) := by decide +kernel
theorem dX11_leave_40 : decode cX11_leave 40 = .ok (.invokevirtual 284, 3) := by decide +kernel
theorem dX11_leave_43 : decode cX11_leave 43 = .ok (.ireturn, 1) := by decide +kernel
theorem dX11_leave_44 : decode cX11_leave 44 = .ok (.aload_n 0, 1) := by decide +kernel
theorem dX11_leave_45 : decode cX11_leave 45 = .ok (.getfield 29, 3) := by decide +kernel
theorem dX11_leave_48 : decode cX11_leave 48 = .ok (.invokevirtual 287, 3) := by decide +kernel
theorem dX11_leave_51 : decode cX11_leave 51 = .ok (.aload_n 2, 1) := by decide +kernel
theorem dX11_leave_52 : decode cX11_leave 52 = .ok (.iload_n 3, 1) := by decide +kernel
theorem dX11_leave_53 : decode cX11_leave 53 = .ok (.invokevirtual 363, 3) := by decide +kernel
theorem dX11_leave_56 : decode cX11_leave 56 = .ok (.aload_n 0, 1) := by decide +kernel
theorem dX11_leave_57 : decode cX11_leave 57 = .ok (.getfield 29, 3) := by decide +kernel
theorem dX11_leave_60 : decode cX11_leave 60 = .ok (.invokevirtual 305, 3) := by decide +kernel
theorem dX11_leave_63 : decode cX11_leave 63 = .ok (.aload_n 2, 1) := by decide +kernel
theorem dX11_leave_64 : decode cX11_leave 64 = .ok (.getfield 167, 3) := by decide +kernel
theorem dX11_leave_67 : decode cX11_leave 67 = .ok (.iconst 5, 1) := by decide +kernel
theorem dX11_leave_68 : decode cX11_leave 68 = .ok (.iaload, 1) := by decide +kernel
theorem dX11_leave_69 : decode cX11_leave 69 = .ok (.ireturn, 1) := by decide +kernel
theorem dX11_room_0 : decode cX11_room 0 = .ok (.iload_n 1, 1) := by decide +kernel
theorem dX11_room_1 : decode cX11_room 1 = .ok (.ifCond .lt 9, 3) := by decide +kernel
theorem dX11_room_4 : decode cX11_room 4 = .ok (.iload_n 1, 1) := by decide +kernel
theorem dX11_room_5 : decode cX11_room 5 = .ok (.bipush 9, 2) := by decide +kernel
theorem dX11_room_7 : decode cX11_room 7 = .ok (.if_icmp .le 10, 3) := by decide +kernel
theorem dX11_room_10 : decode cX11_room 10 = .ok (.aload_n 0, 1) := by decide +kernel
theorem dX11_room_11 : decode cX11_room 11 = .ok (.iconst 1, 1) := by decide +kernel
theorem dX11_room_12 : decode cX11_room 12 = .ok (.iconst (-1), 1) := by decide +kernel
theorem dX11_room_13 : decode cX11_room 13 = .ok (.invokevirtual 284, 3) := by decide +kernel
theorem dX11_room_16 : decode cX11_room 16 = .ok (.ireturn, 1) := by decide +kernel
theorem dX11_room_17 : decode cX11_room 17 = .ok (.aload_n 0, 1) := by decide +kernel
theorem dX11_room_18 : decode cX11_room 18 = .ok (.getfield 29, 3) := by decide +kernel
theorem dX11_room_21 : decode cX11_room 21 = .ok (.getfield 156, 3) := by decide +kernel
theorem dX11_room_24 : decode cX11_room 24 = .ok (.getfield 167, 3) := by decide +kernel
theorem dX11_room_27 : decode cX11_room 27 = .ok (.iconst 1, 1) := by decide +kernel
theorem dX11_room_28 : decode cX11_room 28 = .ok (.iaload, 1) := by decide +kernel
theorem dX11_room_29 : decode cX11_room 29 = .ok (.istore_n 2, 1) := by decide +kernel
theorem dX11_room_30 : decode cX11_room 30 = .ok (.aload_n 0, 1) := by decide +kernel
theorem dX11_room_31 : decode cX11_room 31 = .ok (.getfield 29, 3) := by decide +kernel
theorem dX11_room_34 : decode cX11_room 34 = .ok (.invokevirtual 287, 3) := by decide +kernel
theorem dX11_room_37 : decode cX11_room 37 = .ok (.aload_n 0, 1) := by decide +kernel
theorem dX11_room_38 : decode cX11_room 38 = .ok (.getfield 29, 3) := by decide +kernel
theorem dX11_room_41 : decode cX11_room 41 = .ok (.getfield 156, 3) := by decide +kernel
theorem dX11_room_44 : decode cX11_room 44 = .ok (.iload_n 1, 1) := by decide +kernel
theorem dX11_room_45 : decode cX11_room 45 = .ok (.invokevirtual 366, 3) := by decide +kernel
theorem dX11_room_48 : decode cX11_room 48 = .ok (.aload_n 0, 1) := by decide +kernel
theorem dX11_room_49 : decode cX11_room 49 = .ok (.getfield 29, 3) := by decide +kernel
theorem dX11_room_52 : decode cX11_room 52 = .ok (.invokevirtual 305, 3) := by decide +kernel
theorem dX11_room_55 : decode cX11_room 55 = .ok (.iload_n 2, 1) := by decide +kernel
theorem dX11_room_56 : decode cX11_room 56 = .ok (.ireturn, 1) := by decide +kernel
theorem dX11_draw_0 : decode cX11_draw 0 = .ok (.iload_n 2, 1) := by decide +kernel
theorem dX11_draw_1 : decode cX11_draw 1 = .ok (.iconst 1, 1) := by decide +kernel
theorem dX11_draw_2 : decode cX11_draw 2 = .ok (.if_icmp .lt 8, 3) := by decide +kernel
theorem dX11_draw_5 : decode cX11_draw 5 = .ok (.iload_n 2, 1) := by decide +kernel
theorem dX11_draw_6 : decode cX11_draw 6 = .ok (.iconst 4, 1) := by decide +kernel
theorem dX11_draw_7 : decode cX11_draw 7 = .ok (.if_icmp .le 10, 3) := by decide +kernel
theorem dX11_draw_10 : decode cX11_draw 10 = .ok (.aload_n 0, 1) := by decide +kernel
theorem dX11_draw_11 : decode cX11_draw 11 = .ok (.iconst 1, 1) := by decide +kernel
theorem dX11_draw_12 : decode cX11_draw 12 = .ok (.iconst (-1), 1) := by decide +kernel
theorem dX11_draw_13 : decode cX11_draw 13 = .ok (.invokevirtual 284, 3) := by decide +kernel
theorem dX11_draw_16 : decode cX11_draw 16 = .ok (.ireturn, 1) := by decide +kernel
theorem dX11_draw_17 : decode cX11_draw 17 = .ok (.aload_n 0, 1) := by decide +kernel
theorem dX11_draw_18 : decode cX11_draw 18 = .ok (.getfield 29, 3) := by decide +kernel
theorem dX11_draw_21 : decode cX11_draw 21 = .ok (.invokevirtual 287, 3) := by decide +kernel
theorem dX11_draw_24 : decode cX11_draw 24 = .ok (.aload_n 0, 1) := by decide +kernel
theorem dX11_draw_25 : decode cX11_draw 25 = .ok (.getfield 62, 3) := by decide +kernel
theorem dX11_draw_28 : decode cX11_draw 28 = .ok (.iload_n 1, 1) := by decide +kernel
theorem dX11_draw_29 : decode cX11_draw 29 = .ok (.putfield 369, 3) := by decide +kernel
theorem dX11_draw_32 : decode cX11_draw 32 = .ok (.aload_n 0, 1) := by decide +kernel
theorem dX11_draw_33 : decode cX11_draw 33 = .ok (.aload_n 0, 1) := by decide +kernel
theorem dX11_draw_34 : decode cX11_draw 34 = .ok (.getfield 62, 3) := by decide +kernel
theorem dX11_draw_37 : decode cX11_draw 37 = .ok (.iload_n 2, 1) := by decide +kernel
theorem dX11_draw_38 : decode cX11_draw 38 = .ok (.invokevirtual 372, 3) := by decide +kernel
theorem dX11_draw_41 : decode cX11_draw 41 = .ok (.invokevirtual 293, 3) := by decide +kernel
theorem dX11_draw_44 : decode cX11_draw 44 = .ok (.ireturn, 1) := by decide +kernel
theorem dX11_undo_0 : decode cX11_undo 0 = .ok (.aload_n 0, 1) := by decide +kernel
theorem dX11_undo_1 : decode cX11_undo 1 = .ok (.getfield 29, 3) := by decide +kernel
theorem dX11_undo_4 : decode cX11_undo 4 = .ok (.invokevirtual 375, 3) := by decide +kernel
theorem dX11_undo_7 : decode cX11_undo 7 = .ok (.ireturn, 1) := by decide +kernel
theorem dX11_years_0 : decode cX11_years 0 = .ok (.iload_n 3, 1) := by decide +kernel
theorem dX11_years_1 : decode cX11_years 1 = .ok (.ifCond .lt 8, 3) := by decide +kernel
theorem dX11_years_4 : decode cX11_years 4 = .ok (.iload_n 3, 1) := by decide +kernel
theorem dX11_years_5 : decode cX11_years 5 = .ok (.iconst 2, 1) := by decide +kernel
theorem dX11_years_6 : decode cX11_years 6 = .ok (.if_icmp .le 14, 3) := by decide +kernel
theorem dX11_years_9 : decode cX11_years 9 = .ok (.new 188, 3) := by decide +kernel
theorem dX11_years_12 : decode cX11_years 12 = .ok (.dup, 1) := by decide +kernel
theorem dX11_years_13 : decode cX11_years 13 = .ok (.ldc_w 378, 3) := by decide +kernel
theorem dX11_years_16 : decode cX11_years 16 = .ok (.invokespecial 192, 3) := by decide +kernel
theorem dX11_years_19 : decode cX11_years 19 = .ok (.athrow, 1) := by decide +kernel
theorem dX11_years_20 : decode cX11_years 20 = .ok (.iload_n 2, 1) := by decide +kernel
theorem dX11_years_21 : decode cX11_years 21 = .ok (.ifCond .lt 9, 3) := by decide +kernel
theorem dX11_years_24 : decode cX11_years 24 = .ok (.iload_n 2, 1) := by decide +kernel
theorem dX11_years_25 : decode cX11_years 25 = .ok (.bipush 20, 2) := by decide +kernel
theorem dX11_years_27 : decode cX11_years 27 = .ok (.if_icmp .le 14, 3) := by decide +kernel
theorem dX11_years_30 : decode cX11_years 30 = .ok (.new 122, 3) := by decide +kernel
theorem dX11_years_33 : decode cX11_years 33 = .ok (.dup, 1) := by decide +kernel
theorem dX11_years_34 : decode cX11_years 34 = .ok (.ldc_w 380, 3) := by decide +kernel
theorem dX11_years_37 : decode cX11_years 37 = .ok (.invokespecial 126, 3) := by decide +kernel
theorem dX11_years_40 : decode cX11_years 40 = .ok (.athrow, 1) := by decide +kernel
theorem dX11_years_41 : decode cX11_years 41 = .ok (.aload_n 0, 1) := by decide +kernel
theorem dX11_years_42 : decode cX11_years 42 = .ok (.getfield 29, 3) := by decide +kernel
theorem dX11_years_45 : decode cX11_years 45 = .ok (.invokevirtual 287, 3) := by decide +kernel
theorem dX11_years_48 : decode cX11_years 48 = .ok (.aload_n 0, 1) := by decide +kernel
theorem dX11_years_49 : decode cX11_years 49 = .ok (.iload_n 1, 1) := by decide +kernel
theorem dX11_years_50 : decode cX11_years 50 = .ok (.iload_n 2, 1) := by decide +kernel
theorem dX11_years_51 : decode cX11_years 51 = .ok (.invokevirtual 382, 3) := by decide +kernel
theorem dX11_years_54 : decode cX11_years 54 = .ok (.istore 4, 2) := by decide +kernel
theorem dX11_years_56 : decode cX11_years 56 = .ok (.iload 4, 2) := by decide +kernel
theorem dX11_years_58 : decode cX11_years 58 = .ok (.iconst (-1), 1) := by decide +kernel
theorem dX11_years_59 : decode cX11_years 59 = .ok (.if_icmp .ne 7, 3) := by decide +kernel
theorem dX11_years_62 : decode cX11_years 62 = .ok (.iconst (-1), 1) := by decide +kernel
theorem dX11_years_63 : decode cX11_years 63 = .ok (.goto 10, 3) := by decide +kernel
theorem dX11_years_66 : decode cX11_years 66 = .ok (.aload_n 0, 1) := by decide +kernel
theorem dX11_years_67 : decode cX11_years 67 = .ok (.iload 4, 2) := by decide +kernel
theorem dX11_years_69 : decode cX11_years 69 = .ok (.iload_n 3, 1) := by decide +kernel
theorem dX11_years_70 : decode cX11_years 70 = .ok (.invokevirtual 385, 3) := by decide +kernel
theorem dX11_years_73 : decode cX11_years 73 = .ok (.istore 5, 2) := by decide +kernel
theorem dX11_years_75 : decode cX11_years 75 = .ok (.aload_n 0, 1) := by decide +kernel
theorem dX11_years_76 : decode cX11_years 76 = .ok (.getfield 29, 3) := by decide +kernel
theorem dX11_years_79 : decode cX11_years 79 = .ok (.invokevirtual 388, 3) := by decide +kernel
theorem dX11_years_82 : decode cX11_years 82 = .ok (.iload 5, 2) := by decide +kernel
theorem dX11_years_84 : decode cX11_years 84 = .ok (.ireturn, 1) := by decide +kernel
theorem dX11_lostBy_0 : decode cX11_lostBy 0 = .ok (.aload_n 0, 1) := by decide +kernel
theorem dX11_lostBy_1 : decode cX11_lostBy 1 = .ok (.getfield 62, 3) := by decide +kernel
theorem dX11_lostBy_4 : decode cX11_lostBy 4 = .ok (.iload_n 1, 1) := by decide +kernel
theorem dX11_lostBy_5 : decode cX11_lostBy 5 = .ok (.putfield 369, 3) := by decide +kernel
theorem dX11_lostBy_8 : decode cX11_lostBy 8 = .ok (.aload_n 0, 1) := by decide +kernel
theorem dX11_lostBy_9 : decode cX11_lostBy 9 = .ok (.getfield 90, 3) := by decide +kernel
theorem dX11_lostBy_12 : decode cX11_lostBy 12 = .ok (.invokevirtual 344, 3) := by decide +kernel
theorem dX11_lostBy_15 : decode cX11_lostBy 15 = .ok (.iconst 0, 1) := by decide +kernel
theorem dX11_lostBy_16 : decode cX11_lostBy 16 = .ok (.istore_n 3, 1) := by decide +kernel
theorem dX11_lostBy_17 : decode cX11_lostBy 17 = .ok (.iconst 0, 1) := by decide +kernel
theorem dX11_lostBy_18 : decode cX11_lostBy 18 = .ok (.istore 4, 2) := by decide +kernel
theorem dX11_lostBy_20 : decode cX11_lostBy 20 = .ok (.iload 4, 2) := by decide +kernel
theorem dX11_lostBy_22 : decode cX11_lostBy 22 = .ok (.iload_n 2, 1) := by decide +kernel
theorem dX11_lostBy_23 : decode cX11_lostBy 23 = .ok (.if_icmp .ge 77, 3) := by decide +kernel
theorem dX11_lostBy_26 : decode cX11_lostBy 26 = .ok (.aload_n 0, 1) := by decide +kernel
theorem dX11_lostBy_27 : decode cX11_lostBy 27 = .ok (.getfield 62, 3) := by decide +kernel
theorem dX11_lostBy_30 : decode cX11_lostBy 30 = .ok (.iconst 3, 1) := by decide +kernel
theorem dX11_lostBy_31 : decode cX11_lostBy 31 = .ok (.invokevirtual 372, 3) := by decide +kernel
theorem dX11_lostBy_34 : decode cX11_lostBy 34 = .ok (.istore 5, 2) := by decide +kernel
theorem dX11_lostBy_36 : decode cX11_lostBy 36 = .ok (.iload 5, 2) := by decide +kernel
theorem dX11_lostBy_38 : decode cX11_lostBy 38 = .ok (.ifCond .ge 8, 3) := by decide +kernel
theorem dX11_lostBy_41 : decode cX11_lostBy 41 = .ok (.iload 5, 2) := by decide +kernel
theorem dX11_lostBy_43 : decode cX11_lostBy 43 = .ok (.goto 12, 3) := by decide +kernel
theorem dX11_lostBy_46 : decode cX11_lostBy 46 = .ok (.aload_n 0, 1) := by decide +kernel
theorem dX11_lostBy_47 : decode cX11_lostBy 47 = .ok (.getfield 90, 3) := by decide +kernel
theorem dX11_lostBy_50 : decode cX11_lostBy 50 = .ok (.iload 5, 2) := by decide +kernel
theorem dX11_lostBy_52 : decode cX11_lostBy 52 = .ok (.invokevirtual 347, 3) := by decide +kernel
theorem dX11_lostBy_55 : decode cX11_lostBy 55 = .ok (.istore 6, 2) := by decide +kernel
theorem dX11_lostBy_57 : decode cX11_lostBy 57 = .ok (.iload 6, 2) := by decide +kernel
theorem dX11_lostBy_59 : decode cX11_lostBy 59 = .ok (.ifCond .ge 5, 3) := by decide +kernel
theorem dX11_lostBy_62 : decode cX11_lostBy 62 = .ok (.iconst (-1), 1) := by decide +kernel
theorem dX11_lostBy_63 : decode cX11_lostBy 63 = .ok (.ireturn, 1) := by decide +kernel
theorem dX11_lostBy_64 : decode cX11_lostBy 64 = .ok (.iload_n 3, 1) := by decide +kernel
theorem dX11_lostBy_65 : decode cX11_lostBy 65 = .ok (.aload_n 0, 1) := by decide +kernel
theorem dX11_lostBy_66 : decode cX11_lostBy 66 = .ok (.getfield 29, 3) := by decide +kernel
theorem dX11_lostBy_69 : decode cX11_lostBy 69 = .ok (.getfield 49, 3) := by decide +kernel
theorem dX11_lostBy_72 : decode cX11_lostBy 72 = .ok (.getfield 234, 3) := by decide +kernel
theorem dX11_lostBy_75 : decode cX11_lostBy 75 = .ok (.iload 5, 2) := by decide +kernel
theorem dX11_lostBy_77 : decode cX11_lostBy 77 = .ok (.iaload, 1) := by decide +kernel
theorem dX11_lostBy_78 : decode cX11_lostBy 78 = .ok (.aload_n 0, 1) := by decide +kernel
theorem dX11_lostBy_79 : decode cX11_lostBy 79 = .ok (.getfield 29, 3) := by decide +kernel
theorem dX11_lostBy_82 : decode cX11_lostBy 82 = .ok (.getfield 49, 3) := by decide +kernel
theorem dX11_lostBy_85 : decode cX11_lostBy 85 = .ok (.getfield 234, 3) := by decide +kernel
theorem dX11_lostBy_88 : decode cX11_lostBy 88 = .ok (.iload 6, 2) := by decide +kernel
theorem dX11_lostBy_90 : decode cX11_lostBy 90 = .ok (.iaload, 1) := by decide +kernel
theorem dX11_lostBy_91 : decode cX11_lostBy 91 = .ok (.isub, 1) := by decide +kernel
theorem dX11_lostBy_92 : decode cX11_lostBy 92 = .ok (.iadd, 1) := by decide +kernel
theorem dX11_lostBy_93 : decode cX11_lostBy 93 = .ok (.istore_n 3, 1) := by decide +kernel
theorem dX11_lostBy_94 : decode cX11_lostBy 94 = .ok (.iinc 4 1, 3) := by decide +kernel
theorem dX11_lostBy_97 : decode cX11_lostBy 97 = .ok (.goto (-77), 3) := by decide +kernel
theorem dX11_lostBy_100 : decode cX11_lostBy 100 = .ok (.iload_n 3, 1) := by decide +kernel
theorem dX11_lostBy_101 : decode cX11_lostBy 101 = .ok (.ireturn, 1) := by decide +kernel
theorem dX11_yearsAnswer_0 : decode cX11_yearsAnswer 0 = .ok (.iload_n 2, 1) := by decide +kernel
theorem dX11_yearsAnswer_1 : decode cX11_yearsAnswer 1 = .ok (.ifCond .ne 5, 3) := by decide +kernel
theorem dX11_yearsAnswer_4 : decode cX11_yearsAnswer 4 = .ok (.iload_n 1, 1) := by decide +kernel
theorem dX11_yearsAnswer_5 : decode cX11_yearsAnswer 5 = .ok (.ireturn, 1) := by decide +kernel
theorem dX11_yearsAnswer_6 : decode cX11_yearsAnswer 6 = .ok (.iload_n 2, 1) := by decide +kernel
theorem dX11_yearsAnswer_7 : decode cX11_yearsAnswer 7 = .ok (.iconst 1, 1) := by decide +kernel
theorem dX11_yearsAnswer_8 : decode cX11_yearsAnswer 8 = .ok (.if_icmp .ne 7, 3) := by decide +kernel
theorem dX11_yearsAnswer_11 : decode cX11_yearsAnswer 11 = .ok (.iconst 2, 1) := by decide +kernel
theorem dX11_yearsAnswer_12 : decode cX11_yearsAnswer 12 = .ok (.goto 4, 3) := by decide +kernel
theorem dX11_yearsAnswer_15 : decode cX11_yearsAnswer 15 = .ok (.iconst 3, 1) := by decide +kernel
theorem dX11_yearsAnswer_16 : decode cX11_yearsAnswer 16 = .ok (.istore_n 3, 1) := by decide +kernel
theorem dX11_yearsAnswer_17 : decode cX11_yearsAnswer 17 = .ok (.aload_n 0, 1) := by decide +kernel
theorem dX11_yearsAnswer_18 : decode cX11_yearsAnswer 18 = .ok (.getfield 29, 3) := by decide +kernel
theorem dX11_yearsAnswer_21 : decode cX11_yearsAnswer 21 = .ok (.getfield 156, 3) := by decide +kernel
theorem dX11_yearsAnswer_24 : decode cX11_yearsAnswer 24 = .ok (.getfield 167, 3) := by decide +kernel
theorem dX11_yearsAnswer_27 : decode cX11_yearsAnswer 27 = .ok (.iload_n 3, 1) := by decide +kernel
theorem dX11_yearsAnswer_28 : decode cX11_yearsAnswer 28 = .ok (.iaload, 1) := by decide +kernel
theorem dX11_yearsAnswer_29 : decode cX11_yearsAnswer 29 = .ok (.aload_n 0, 1) := by decide +kernel
theorem dX11_yearsAnswer_30 : decode cX11_yearsAnswer 30 = .ok (.getfield 29, 3) := by decide +kernel
theorem dX11_yearsAnswer_33 : decode cX11_yearsAnswer 33 = .ok (.getfield 391, 3) := by decide +kernel
theorem dX11_yearsAnswer_36 : decode cX11_yearsAnswer 36 = .ok (.iload_n 3, 1) := by decide +kernel
theorem dX11_yearsAnswer_37 : decode cX11_yearsAnswer 37 = .ok (.iaload, 1) := by decide +kernel
theorem dX11_yearsAnswer_38 : decode cX11_yearsAnswer 38 = .ok (.isub, 1) := by decide +kernel
theorem dX11_yearsAnswer_39 : decode cX11_yearsAnswer 39 = .ok (.ireturn, 1) := by decide +kernel
theorem dX11_image_0 : decode cX11_image 0 = .ok (.aload_n 0, 1) := by decide +kernel
theorem dX11_image_1 : decode cX11_image 1 = .ok (.getfield 33, 3) := by decide +kernel
theorem dX11_image_4 : decode cX11_image 4 = .ok (.aload_n 0, 1) := by decide +kernel
theorem dX11_image_5 : decode cX11_image 5 = .ok (.getfield 29, 3) := by decide +kernel
theorem dX11_image_8 : decode cX11_image 8 = .ok (.invokevirtual 394, 3) := by decide +kernel
theorem dX11_image_11 : decode cX11_image 11 = .ok (.aload_n 0, 1) := by decide +kernel
theorem dX11_image_12 : decode cX11_image 12 = .ok (.iconst 1, 1) := by decide +kernel
theorem dX11_image_13 : decode cX11_image 13 = .ok (.putfield 114, 3) := by decide +kernel
theorem dX11_image_16 : decode cX11_image 16 = .ok (.return_, 1) := by decide +kernel
theorem dX11_restore_0 : decode cX11_restore 0 = .ok (.aload_n 0, 1) := by decide +kernel
theorem dX11_restore_1 : decode cX11_restore 1 = .ok (.getfield 114, 3) := by decide +kernel
theorem dX11_restore_4 : decode cX11_restore 4 = .ok (.ifCond .ne 5, 3) := by decide +kernel
theorem dX11_restore_7 : decode cX11_restore 7 = .ok (.iconst 0, 1) := by decide +kernel
theorem dX11_restore_8 : decode cX11_restore 8 = .ok (.ireturn, 1) := by decide +kernel
theorem dX11_restore_9 : decode cX11_restore 9 = .ok (.aload_n 0, 1) := by decide +kernel
theorem dX11_restore_10 : decode cX11_restore 10 = .ok (.getfield 29, 3) := by decide +kernel
theorem dX11_restore_13 : decode cX11_restore 13 = .ok (.aload_n 0, 1) := by decide +kernel
theorem dX11_restore_14 : decode cX11_restore 14 = .ok (.getfield 33, 3) := by decide +kernel
theorem dX11_restore_17 : decode cX11_restore 17 = .ok (.invokevirtual 394, 3) := by decide +kernel
theorem dX11_restore_20 : decode cX11_restore 20 = .ok (.iconst 1, 1) := by decide +kernel
theorem dX11_restore_21 : decode cX11_restore 21 = .ok (.ireturn, 1) := by decide +kernel
theorem dX11_needTerm_0 : decode cX11_needTerm 0 = .ok (.aload_n 0, 1) := by decide +kernel
theorem dX11_needTerm_1 : decode cX11_needTerm 1 = .ok (.getfield 29, 3) := by decide +kernel
theorem dX11_needTerm_4 : decode cX11_needTerm 4 = .ok (.getfield 49, 3) := by decide +kernel
theorem dX11_needTerm_7 : decode cX11_needTerm 7 = .ok (.iload_n 1, 1) := by decide +kernel
theorem dX11_needTerm_8 : decode cX11_needTerm 8 = .ok (.invokevirtual 304, 3) := by decide +kernel
theorem dX11_needTerm_11 : decode cX11_needTerm 11 = .ok (.ifCond .ne 14, 3) := by decide +kernel
theorem dX11_needTerm_14 : decode cX11_needTerm 14 = .ok (.new 188, 3) := by decide +kernel
theorem dX11_needTerm_17 : decode cX11_needTerm 17 = .ok (.dup, 1) := by decide +kernel
theorem dX11_needTerm_18 : decode cX11_needTerm 18 = .ok (.ldc_w 397, 3) := by decide +kernel
theorem dX11_needTerm_21 : decode cX11_needTerm 21 = .ok (.invokespecial 192, 3) := by decide +kernel
theorem dX11_needTerm_24 : decode cX11_needTerm 24 = .ok (.athrow, 1) := by decide +kernel
theorem dX11_needTerm_25 : decode cX11_needTerm 25 = .ok (.return_, 1) := by decide +kernel
theorem dX11_isVariableNumber_0 : decode cX11_isVariableNumber 0 = .ok (.iload_n 0, 1) := by decide +kernel
theorem dX11_isVariableNumber_1 : decode cX11_isVariableNumber 1 = .ok (.ifCond .lt 13, 3) := by decide +kernel
theorem dX11_isVariableNumber_4 : decode cX11_isVariableNumber 4 = .ok (.iload_n 0, 1) := by decide +kernel
theorem dX11_isVariableNumber_5 : decode cX11_isVariableNumber 5 = .ok (.bipush 8, 2) := by decide +kernel
theorem dX11_isVariableNumber_7 : decode cX11_isVariableNumber 7 = .ok (.if_icmp .ge 7, 3) := by decide +kernel
theorem dX11_isVariableNumber_10 : decode cX11_isVariableNumber 10 = .ok (.iconst 1, 1) := by decide +kernel
theorem dX11_isVariableNumber_11 : decode cX11_isVariableNumber 11 = .ok (.goto 4, 3) := by decide +kernel
theorem dX11_isVariableNumber_14 : decode cX11_isVariableNumber 14 = .ok (.iconst 0, 1) := by decide +kernel
theorem dX11_isVariableNumber_15 : decode cX11_isVariableNumber 15 = .ok (.ireturn, 1) := by decide +kernel
theorem dX11_refused_0 : decode cX11_refused 0 = .ok (.aload_n 0, 1) := by decide +kernel
theorem dX11_refused_1 : decode cX11_refused 1 = .ok (.getfield 29, 3) := by decide +kernel
theorem dX11_refused_4 : decode cX11_refused 4 = .ok (.getfield 142, 3) := by decide +kernel
theorem dX11_refused_7 : decode cX11_refused 7 = .ok (.iload_n 1, 1) := by decide +kernel
theorem dX11_refused_8 : decode cX11_refused 8 = .ok (.dup2, 1) := by decide +kernel
theorem dX11_refused_9 : decode cX11_refused 9 = .ok (.iaload, 1) := by decide +kernel
theorem dX11_refused_10 : decode cX11_refused 10 = .ok (.iconst 1, 1) := by decide +kernel
theorem dX11_refused_11 : decode cX11_refused 11 = .ok (.iadd, 1) := by decide +kernel
theorem dX11_refused_12 : decode cX11_refused 12 = .ok (.iastore, 1) := by decide +kernel
theorem dX11_refused_13 : decode cX11_refused 13 = .ok (.iload_n 2, 1) := by decide +kernel
theorem dX11_refused_14 : decode cX11_refused 14 = .ok (.ireturn, 1) := by decide +kernel
theorem dX11_settled_0 : decode cX11_settled 0 = .ok (.iload_n 1, 1) := by decide +kernel
theorem dX11_settled_1 : decode cX11_settled 1 = .ok (.ifCond .ge 17, 3) := by decide +kernel
theorem dX11_settled_4 : decode cX11_settled 4 = .ok (.aload_n 0, 1) := by decide +kernel
theorem dX11_settled_5 : decode cX11_settled 5 = .ok (.getfield 29, 3) := by decide +kernel
theorem dX11_settled_8 : decode cX11_settled 8 = .ok (.invokevirtual 388, 3) := by decide +kernel
theorem dX11_settled_11 : decode cX11_settled 11 = .ok (.aload_n 0, 1) := by decide +kernel
theorem dX11_settled_12 : decode cX11_settled 12 = .ok (.iconst 2, 1) := by decide +kernel
theorem dX11_settled_13 : decode cX11_settled 13 = .ok (.iload_n 1, 1) := by decide +kernel
theorem dX11_settled_14 : decode cX11_settled 14 = .ok (.invokevirtual 284, 3) := by decide +kernel
theorem dX11_settled_17 : decode cX11_settled 17 = .ok (.ireturn, 1) := by decide +kernel
theorem dX11_settled_18 : decode cX11_settled 18 = .ok (.aload_n 0, 1) := by decide +kernel
theorem dX11_settled_19 : decode cX11_settled 19 = .ok (.getfield 29, 3) := by decide +kernel
theorem dX11_settled_22 : decode cX11_settled 22 = .ok (.invokevirtual 305, 3) := by decide +kernel
theorem dX11_settled_25 : decode cX11_settled 25 = .ok (.iload_n 1, 1) := by decide +kernel
theorem dX11_settled_26 : decode cX11_settled 26 = .ok (.ireturn, 1) := by decide +kernel
end
section
theorem dX12_init_0 : decode cX12_init 0 = .ok (.aload_n 0, 1) := by decide +kernel
theorem dX12_init_1 : decode cX12_init 1 = .ok (.invokespecial 3, 3) := by decide +kernel
theorem dX12_init_4 : decode cX12_init 4 = .ok (.aload_n 0, 1) := by decide +kernel
theorem dX12_init_5 : decode cX12_init 5 = .ok (.sipush 5400, 3) := by decide +kernel
theorem dX12_init_8 : decode cX12_init 8 = .ok (.newarray .int, 2) := by decide +kernel
theorem dX12_init_10 : decode cX12_init 10 = .ok (.putfield 9, 3) := by decide +kernel
theorem dX12_init_13 : decode cX12_init 13 = .ok (.aload_n 0, 1) := by decide +kernel
theorem dX12_init_14 : decode cX12_init 14 = .ok (.sipush 1200, 3) := by decide +kernel
theorem dX12_init_17 : decode cX12_init 17 = .ok (.newarray .int, 2) := by decide +kernel
theorem dX12_init_19 : decode cX12_init 19 = .ok (.putfield 13, 3) := by decide +kernel
theorem dX12_init_22 : decode cX12_init 22 = .ok (.aload_n 0, 1) := by decide +kernel
theorem dX12_init_23 : decode cX12_init 23 = .ok (.sipush 3600, 3) := by decide +kernel
theorem dX12_init_26 : decode cX12_init 26 = .ok (.newarray .int, 2) := by decide +kernel
theorem dX12_init_28 : decode cX12_init 28 = .ok (.putfield 16, 3) := by decide +kernel
theorem dX12_init_31 : decode cX12_init 31 = .ok (.aload_n 0, 1) := by decide +kernel
theorem dX12_init_32 : decode cX12_init 32 = .ok (.sipush 1200, 3) := by decide +kernel
theorem dX12_init_35 : decode cX12_init 35 = .ok (.newarray .int, 2) := by decide +kernel
theorem dX12_init_37 : decode cX12_init 37 = .ok (.putfield 19, 3) := by decide +kernel
theorem dX12_init_40 : decode cX12_init 40 = .ok (.aload_n 0, 1) := by decide +kernel
theorem dX12_init_41 : decode cX12_init 41 = .ok (.bipush 20, 2) := by decide +kernel
theorem dX12_init_43 : decode cX12_init 43 = .ok (.newarray .int, 2) := by decide +kernel
theorem dX12_init_45 : decode cX12_init 45 = .ok (.putfield 22, 3) := by decide +kernel
theorem dX12_init_48 : decode cX12_init 48 = .ok (.aload_n 0, 1) := by decide +kernel
theorem dX12_init_49 : decode cX12_init 49 = .ok (.bipush 20, 2) := by decide +kernel
theorem dX12_init_51 : decode cX12_init 51 = .ok (.newarray .int, 2) := by decide +kernel
theorem dX12_init_53 : decode cX12_init 53 = .ok (.putfield 25, 3) := by decide +kernel
theorem dX12_init_56 : decode cX12_init 56 = .ok (.aload_n 0, 1) := by decide +kernel
theorem dX12_init_57 : decode cX12_init 57 = .ok (.bipush 20, 2) := by decide +kernel
theorem dX12_init_59 : decode cX12_init 59 = .ok (.newarray .int, 2) := by decide +kernel
theorem dX12_init_61 : decode cX12_init 61 = .ok (.putfield 28, 3) := by decide +kernel
theorem dX12_init_64 : decode cX12_init 64 = .ok (.aload_n 0, 1) := by decide +kernel
theorem dX12_init_65 : decode cX12_init 65 = .ok (.bipush 8, 2) := by decide +kernel
theorem dX12_init_67 : decode cX12_init 67 = .ok (.newarray .int, 2) := by decide +kernel
theorem dX12_init_69 : decode cX12_init 69 = .ok (.putfield 31, 3) := by decide +kernel
theorem dX12_init_72 : decode cX12_init 72 = .ok (.aload_n 0, 1) := by decide +kernel
theorem dX12_init_73 : decode cX12_init 73 = .ok (.sipush 700, 3) := by decide +kernel
theorem dX12_init_76 : decode cX12_init 76 = .ok (.newarray .int, 2) := by decide +kernel
theorem dX12_init_78 : decode cX12_init 78 = .ok (.putfield 34, 3) := by decide +kernel
theorem dX12_init_81 : decode cX12_init 81 = .ok (.aload_n 0, 1) := by decide +kernel
theorem dX12_init_82 : decode cX12_init 82 = .ok (.iconst (-1), 1) := by decide +kernel
theorem dX12_init_83 : decode cX12_init 83 = .ok (.putfield 37, 3) := by decide +kernel
theorem dX12_init_86 : decode cX12_init 86 = .ok (.aload_n 0, 1) := by decide +kernel
theorem dX12_init_87 : decode cX12_init 87 = .ok (.bipush 8, 2) := by decide +kernel
theorem dX12_init_89 : decode cX12_init 89 = .ok (.newarray .int, 2) := by decide +kernel
theorem dX12_init_91 : decode cX12_init 91 = .ok (.putfield 41, 3) := by decide +kernel
theorem dX12_init_94 : decode cX12_init 94 = .ok (.aload_n 0, 1) := by decide +kernel
theorem dX12_init_95 : decode cX12_init 95 = .ok (.bipush 8, 2) := by decide +kernel
theorem dX12_init_97 : decode cX12_init 97 = .ok (.newarray .int, 2) := by decide +kernel
theorem dX12_init_99 : decode cX12_init 99 = .ok (.putfield 44, 3) := by decide +kernel
theorem dX12_init_102 : decode cX12_init 102 = .ok (.aload_n 0, 1) := by decide +kernel
theorem dX12_init_103 : decode cX12_init 103 = .ok (.bipush 8, 2) := by decide +kernel
theorem dX12_init_105 : decode cX12_init 105 = .ok (.newarray .int, 2) := by decide +kernel
theorem dX12_init_107 : decode cX12_init 107 = .ok (.putfield 47, 3) := by decide +kernel
theorem dX12_init_110 : decode cX12_init 110 = .ok (.aload_n 0, 1) := by decide +kernel
theorem dX12_init_111 : decode cX12_init 111 = .ok (.sipush 800, 3) := by decide +kernel
theorem dX12_init_114 : decode cX12_init 114 = .ok (.newarray .int, 2) := by decide +kernel
theorem dX12_init_116 : decode cX12_init 116 = .ok (.putfield 50, 3) := by decide +kernel
theorem dX12_init_119 : decode cX12_init 119 = .ok (.aload_n 0, 1) := by decide +kernel
theorem dX12_init_120 : decode cX12_init 120 = .ok (.sipush 800, 3) := by decide +kernel
theorem dX12_init_123 : decode cX12_init 123 = .ok (.newarray .int, 2) := by decide +kernel
theorem dX12_init_125 : decode cX12_init 125 = .ok (.putfield 53, 3) := by decide +kernel
theorem dX12_init_128 : decode cX12_init 128 = .ok (.aload_n 0, 1) := by decide +kernel
theorem dX12_init_129 : decode cX12_init 129 = .ok (.sipush 800, 3) := by decide +kernel
theorem dX12_init_132 : decode cX12_init 132 = .ok (.newarray .int, 2) := by decide +kernel
theorem dX12_init_134 : decode cX12_init 134 = .ok (.putfield 56, 3) := by decide +kernel
theorem dX12_init_137 : decode cX12_init 137 = .ok (.aload_n 0, 1) := by decide +kernel
theorem dX12_init_138 : decode cX12_init 138 = .ok (.sipush 800, 3) := by decide +kernel
theorem dX12_init_141 : decode cX12_init 141 = .ok (.newarray .int, 2) := by decide +kernel
theorem dX12_init_143 : decode cX12_init 143 = .ok (.putfield 59, 3) := by decide +kernel
theorem dX12_init_146 : decode cX12_init 146 = .ok (.aload_n 0, 1) := by decide +kernel
theorem dX12_init_147 : decode cX12_init 147 = .ok (.sipush 4000, 3) := by decide +kernel
theorem dX12_init_150 : decode cX12_init 150 = .ok (.newarray .int, 2) := by decide +kernel
theorem dX12_init_152 : decode cX12_init 152 = .ok (.putfield 62, 3) := by decide +kernel
theorem dX12_init_155 : decode cX12_init 155 = .ok (.aload_n 0, 1) := by decide +kernel
theorem dX12_init_156 : decode cX12_init 156 = .ok (.bipush 16, 2) := by decide +kernel
theorem dX12_init_158 : decode cX12_init 158 = .ok (.newarray .int, 2) := by decide +kernel
theorem dX12_init_160 : decode cX12_init 160 = .ok (.putfield 65, 3) := by decide +kernel
theorem dX12_init_163 : decode cX12_init 163 = .ok (.aload_n 0, 1) := by decide +kernel
theorem dX12_init_164 : decode cX12_init 164 = .ok (.getfield 9, 3) := by decide +kernel
theorem dX12_init_167 : decode cX12_init 167 = .ok (.bipush 39, 2) := by decide +kernel
theorem dX12_init_169 : decode cX12_init 169 = .ok (.iconst 4, 1) := by decide +kernel
theorem dX12_init_170 : decode cX12_init 170 = .ok (.iastore, 1) := by decide +kernel
theorem dX12_init_171 : decode cX12_init 171 = .ok (.return_, 1) := by decide +kernel
theorem dX12_thrown_0 : decode cX12_thrown 0 = .ok (.aload_n 0, 1) := by decide +kernel
theorem dX12_thrown_1 : decode cX12_thrown 1 = .ok (.getfield 68, 3) := by decide +kernel
theorem dX12_thrown_4 : decode cX12_thrown 4 = .ok (.ireturn, 1) := by decide +kernel
theorem dX12_right_0 : decode cX12_right 0 = .ok (.aload_n 0, 1) := by decide +kernel
theorem dX12_right_1 : decode cX12_right 1 = .ok (.getfield 68, 3) := by decide +kernel
theorem dX12_right_4 : decode cX12_right 4 = .ok (.ifCond .ne 12, 3) := by decide +kernel
theorem dX12_right_7 : decode cX12_right 7 = .ok (.iload_n 1, 1) := by decide +kernel
theorem dX12_right_8 : decode cX12_right 8 = .ok (.ifCond .ne 8, 3) := by decide +kernel
theorem dX12_right_11 : decode cX12_right 11 = .ok (.aload_n 0, 1) := by decide +kernel
theorem dX12_right_12 : decode cX12_right 12 = .ok (.iload_n 2, 1) := by decide +kernel
theorem dX12_right_13 : decode cX12_right 13 = .ok (.putfield 68, 3) := by decide +kernel
theorem dX12_right_16 : decode cX12_right 16 = .ok (.aload_n 0, 1) := by decide +kernel
theorem dX12_right_17 : decode cX12_right 17 = .ok (.getfield 68, 3) := by decide +kernel
theorem dX12_right_20 : decode cX12_right 20 = .ok (.ifCond .ne 7, 3) := by decide +kernel
theorem dX12_right_23 : decode cX12_right 23 = .ok (.iconst 1, 1) := by decide +kernel
theorem dX12_right_24 : decode cX12_right 24 = .ok (.goto 4, 3) := by decide +kernel
theorem dX12_right_27 : decode cX12_right 27 = .ok (.iconst 0, 1) := by decide +kernel
theorem dX12_right_28 : decode cX12_right 28 = .ok (.ireturn, 1) := by decide +kernel
theorem dX12_within_0 : decode cX12_within 0 = .ok (.iload_n 0, 1) := by decide +kernel
theorem dX12_within_1 : decode cX12_within 1 = .ok (.iload_n 1, 1) := by decide +kernel
theorem dX12_within_2 : decode cX12_within 2 = .ok (.if_icmp .lt 12, 3) := by decide +kernel
theorem dX12_within_5 : decode cX12_within 5 = .ok (.iload_n 0, 1) := by decide +kernel
theorem dX12_within_6 : decode cX12_within 6 = .ok (.iload_n 2, 1) := by decide +kernel
theorem dX12_within_7 : decode cX12_within 7 = .ok (.if_icmp .gt 7, 3) := by decide +kernel
theorem dX12_within_10 : decode cX12_within 10 = .ok (.iconst 1, 1) := by decide +kernel
theorem dX12_within_11 : decode cX12_within 11 = .ok (.goto 4, 3) := by decide +kernel
theorem dX12_within_14 : decode cX12_within 14 = .ok (.iconst 0, 1) := by decide +kernel
theorem dX12_within_15 : decode cX12_within 15 = .ok (.ireturn, 1) := by decide +kernel
theorem dX12_greater_0 : decode cX12_greater 0 = .ok (.iload_n 0, 1) := by decide +kernel
theorem dX12_greater_1 : decode cX12_greater 1 = .ok (.iload_n 1, 1) := by decide +kernel
theorem dX12_greater_2 : decode cX12_greater 2 = .ok (.if_icmp .le 7, 3) := by decide +kernel
theorem dX12_greater_5 : decode cX12_greater 5 = .ok (.iload_n 0, 1) := by decide +kernel
theorem dX12_greater_6 : decode cX12_greater 6 = .ok (.goto 4, 3) := by decide +kernel
theorem dX12_greater_9 : decode cX12_greater 9 = .ok (.iload_n 1, 1) := by decide +kernel
theorem dX12_greater_10 : decode cX12_greater 10 = .ok (.ireturn, 1) := by decide +kernel
theorem dX12_copies_0 : decode cX12_copies 0 = .ok (.iconst 0, 1) := by decide +kernel
theorem dX12_copies_1 : decode cX12_copies 1 = .ok (.istore 4, 2) := by decide +kernel
theorem dX12_copies_3 : decode cX12_copies 3 = .ok (.iload 4, 2) := by decide +kernel
theorem dX12_copies_5 : decode cX12_copies 5 = .ok (.iload_n 3, 1) := by decide +kernel
theorem dX12_copies_6 : decode cX12_copies 6 = .ok (.if_icmp .ge 27, 3) := by decide +kernel
theorem dX12_copies_9 : decode cX12_copies 9 = .ok (.aload_n 0, 1) := by decide +kernel
theorem dX12_copies_10 : decode cX12_copies 10 = .ok (.getfield 9, 3) := by decide +kernel
theorem dX12_copies_13 : decode cX12_copies 13 = .ok (.iload_n 2, 1) := by decide +kernel
theorem dX12_copies_14 : decode cX12_copies 14 = .ok (.iload 4, 2) := by decide +kernel
theorem dX12_copies_16 : decode cX12_copies 16 = .ok (.iadd, 1) := by decide +kernel
theorem dX12_copies_17 : decode cX12_copies 17 = .ok (.aload_n 0, 1) := by decide +kernel
theorem dX12_copies_18 : decode cX12_copies 18 = .ok (.getfield 9, 3) := by decide +kernel
theorem dX12_copies_21 : decode cX12_copies 21 = .ok (.iload_n 1, 1) := by decide +kernel
theorem dX12_copies_22 : decode cX12_copies 22 = .ok (.iload 4, 2) := by decide +kernel
theorem dX12_copies_24 : decode cX12_copies 24 = .ok (.iadd, 1) := by decide +kernel
theorem dX12_copies_25 : decode cX12_copies 25 = .ok (.iaload, 1) := by decide +kernel
theorem dX12_copies_26 : decode cX12_copies 26 = .ok (.iastore, 1) := by decide +kernel
theorem dX12_copies_27 : decode cX12_copies 27 = .ok (.iinc 4 1, 3) := by decide +kernel
theorem dX12_copies_30 : decode cX12_copies 30 = .ok (.goto (-27), 3) := by decide +kernel
theorem dX12_copies_33 : decode cX12_copies 33 = .ok (.return_, 1) := by decide +kernel
theorem dX12_head_0 : decode cX12_head 0 = .ok (.aload_n 0, 1) := by decide +kernel
theorem dX12_head_1 : decode cX12_head 1 = .ok (.getfield 13, 3) := by decide +kernel
theorem dX12_head_4 : decode cX12_head 4 = .ok (.aload_n 0, 1) := by decide +kernel
theorem dX12_head_5 : decode cX12_head 5 = .ok (.getfield 71, 3) := by decide +kernel
theorem dX12_head_8 : decode cX12_head 8 = .ok (.iload_n 1, 1) := by decide +kernel
theorem dX12_head_9 : decode cX12_head 9 = .ok (.iadd, 1) := by decide +kernel
theorem dX12_head_10 : decode cX12_head 10 = .ok (.iaload, 1) := by decide +kernel
theorem dX12_head_11 : decode cX12_head 11 = .ok (.ireturn, 1) := by decide +kernel
theorem dX12_argument1_0 : decode cX12_argument1 0 = .ok (.aload_n 0, 1) := by decide +kernel
theorem dX12_argument1_1 : decode cX12_argument1 1 = .ok (.getfield 16, 3) := by decide +kernel
theorem dX12_argument1_4 : decode cX12_argument1 4 = .ok (.iconst 3, 1) := by decide +kernel
theorem dX12_argument1_5 : decode cX12_argument1 5 = .ok (.aload_n 0, 1) := by decide +kernel
theorem dX12_argument1_6 : decode cX12_argument1 6 = .ok (.getfield 71, 3) := by decide +kernel
theorem dX12_argument1_9 : decode cX12_argument1 9 = .ok (.iload_n 1, 1) := by decide +kernel
theorem dX12_argument1_10 : decode cX12_argument1 10 = .ok (.iadd, 1) := by decide +kernel
theorem dX12_argument1_11 : decode cX12_argument1 11 = .ok (.imul, 1) := by decide +kernel
theorem dX12_argument1_12 : decode cX12_argument1 12 = .ok (.iload_n 2, 1) := by decide +kernel
theorem dX12_argument1_13 : decode cX12_argument1 13 = .ok (.iadd, 1) := by decide +kernel
theorem dX12_argument1_14 : decode cX12_argument1 14 = .ok (.iaload, 1) := by decide +kernel
theorem dX12_argument1_15 : decode cX12_argument1 15 = .ok (.ireturn, 1) := by decide +kernel
theorem dX12_isVariable_0 : decode cX12_isVariable 0 = .ok (.aload_n 0, 1) := by decide +kernel
theorem dX12_isVariable_1 : decode cX12_isVariable 1 = .ok (.iload_n 1, 1) := by decide +kernel
theorem dX12_isVariable_2 : decode cX12_isVariable 2 = .ok (.invokevirtual 74, 3) := by decide +kernel
theorem dX12_isVariable_5 : decode cX12_isVariable 5 = .ok (.ifCond .ge 7, 3) := by decide +kernel
theorem dX12_isVariable_8 : decode cX12_isVariable 8 = .ok (.iconst 1, 1) := by decide +kernel
theorem dX12_isVariable_9 : decode cX12_isVariable 9 = .ok (.goto 4, 3) := by decide +kernel
theorem dX12_isVariable_12 : decode cX12_isVariable 12 = .ok (.iconst 0, 1) := by decide +kernel
theorem dX12_isVariable_13 : decode cX12_isVariable 13 = .ok (.ireturn, 1) := by decide +kernel
theorem dX12_variableOf_0 : decode cX12_variableOf 0 = .ok (.iconst (-1), 1) := by decide +kernel
theorem dX12_variableOf_1 : decode cX12_variableOf 1 = .ok (.aload_n 0, 1) := by decide +kernel
theorem dX12_variableOf_2 : decode cX12_variableOf 2 = .ok (.iload_n 1, 1) := by decide +kernel
theorem dX12_variableOf_3 : decode cX12_variableOf 3 = .ok (.invokevirtual 74, 3) := by decide +kernel
theorem dX12_variableOf_6 : decode cX12_variableOf 6 = .ok (.isub, 1) := by decide +kernel
theorem dX12_variableOf_7 : decode cX12_variableOf 7 = .ok (.ireturn, 1) := by decide +kernel
theorem dX12_arityOf_0 : decode cX12_arityOf 0 = .ok (.aload_n 0, 1) := by decide +kernel
theorem dX12_arityOf_1 : decode cX12_arityOf 1 = .ok (.iload_n 1, 1) := by decide +kernel
theorem dX12_arityOf_2 : decode cX12_arityOf 2 = .ok (.invokevirtual 78, 3) := by decide +kernel
theorem dX12_arityOf_5 : decode cX12_arityOf 5 = .ok (.ifCond .eq 7, 3) := by decide +kernel
theorem dX12_arityOf_8 : decode cX12_arityOf 8 = .ok (.iconst 0, 1) := by decide +kernel
theorem dX12_arityOf_9 : decode cX12_arityOf 9 = .ok (.goto 18, 3) := by decide +kernel
theorem dX12_arityOf_12 : decode cX12_arityOf 12 = .ok (.aload_n 0, 1) := by decide +kernel
theorem dX12_arityOf_13 : decode cX12_arityOf 13 = .ok (.getfield 25, 3) := by decide +kernel
theorem dX12_arityOf_16 : decode cX12_arityOf 16 = .ok (.aload_n 0, 1) := by decide +kernel
theorem dX12_arityOf_17 : decode cX12_arityOf 17 = .ok (.getfield 82, 3) := by decide +kernel
theorem dX12_arityOf_20 : decode cX12_arityOf 20 = .ok (.aload_n 0, 1) := by decide +kernel
theorem dX12_arityOf_21 : decode cX12_arityOf 21 = .ok (.iload_n 1, 1) := by decide +kernel
theorem dX12_arityOf_22 : decode cX12_arityOf 22 = .ok (.invokevirtual 74, 3) := by decide +kernel
theorem dX12_arityOf_25 : decode cX12_arityOf 25 = .ok (.iadd, 1) := by decide +kernel
theorem dX12_arityOf_26 : decode cX12_arityOf 26 = .ok (.iaload, 1) := by decide +kernel
theorem dX12_arityOf_27 : decode cX12_arityOf 27 = .ok (.ireturn, 1) := by decide +kernel
theorem dX12_weightOfHead_0 : decode cX12_weightOfHead 0 = .ok (.aload_n 0, 1) := by decide +kernel
theorem dX12_weightOfHead_1 : decode cX12_weightOfHead 1 = .ok (.iload_n 1, 1) := by decide +kernel
theorem dX12_weightOfHead_2 : decode cX12_weightOfHead 2 = .ok (.invokevirtual 78, 3) := by decide +kernel
theorem dX12_weightOfHead_5 : decode cX12_weightOfHead 5 = .ok (.ifCond .eq 7, 3) := by decide +kernel
theorem dX12_weightOfHead_8 : decode cX12_weightOfHead 8 = .ok (.iconst 1, 1) := by decide +kernel
theorem dX12_weightOfHead_9 : decode cX12_weightOfHead 9 = .ok (.goto 18, 3) := by decide +kernel
theorem dX12_weightOfHead_12 : decode cX12_weightOfHead 12 = .ok (.aload_n 0, 1) := by decide +kernel
theorem dX12_weightOfHead_13 : decode cX12_weightOfHead 13 = .ok (.getfield 28, 3) := by decide +kernel
theorem dX12_weightOfHead_16 : decode cX12_weightOfHead 16 = .ok (.aload_n 0, 1) := by decide +kernel
theorem dX12_weightOfHead_17 : decode cX12_weightOfHead 17 = .ok (.getfield 82, 3) := by decide +kernel
theorem dX12_weightOfHead_20 : decode cX12_weightOfHead 20 = .ok (.aload_n 0, 1) := by decide +kernel
theorem dX12_weightOfHead_21 : decode cX12_weightOfHead 21 = .ok (.iload_n 1, 1) := by decide +kernel
theorem dX12_weightOfHead_22 : decode cX12_weightOfHead 22 = .ok (.invokevirtual 74, 3) := by decide +kernel
theorem dX12_weightOfHead_25 : decode cX12_weightOfHead 25 = .ok (.iadd, 1) := by decide +kernel
theorem dX12_weightOfHead_26 : decode cX12_weightOfHead 26 = .ok (.iaload, 1) := by decide +kernel
theorem dX12_weightOfHead_27 : decode cX12_weightOfHead 27 = .ok (.ireturn, 1) := by decide +kernel
theorem dX12_many_0 : decode cX12_many 0 = .ok (.aload_n 0, 1) := by decide +kernel
theorem dX12_many_1 : decode cX12_many 1 = .ok (.getfield 9, 3) := by decide +kernel
theorem dX12_many_4 : decode cX12_many 4 = .ok (.aload_n 0, 1) := by decide +kernel
theorem dX12_many_5 : decode cX12_many 5 = .ok (.getfield 85, 3) := by decide +kernel
theorem dX12_many_8 : decode cX12_many 8 = .ok (.iconst 0, 1) := by decide +kernel
theorem dX12_many_9 : decode cX12_many 9 = .ok (.iadd, 1) := by decide +kernel
theorem dX12_many_10 : decode cX12_many 10 = .ok (.iaload, 1) := by decide +kernel
theorem dX12_many_11 : decode cX12_many 11 = .ok (.ireturn, 1) := by decide +kernel
theorem dX12_isThat_0 : decode cX12_isThat 0 = .ok (.aload_n 0, 1) := by decide +kernel
theorem dX12_isThat_1 : decode cX12_isThat 1 = .ok (.iload_n 1, 1) := by decide +kernel
theorem dX12_isThat_2 : decode cX12_isThat 2 = .ok (.invokevirtual 74, 3) := by decide +kernel
theorem dX12_isThat_5 : decode cX12_isThat 5 = .ok (.iload_n 2, 1) := by decide +kernel
theorem dX12_isThat_6 : decode cX12_isThat 6 = .ok (.if_icmp .eq 5, 3) := by decide +kernel
theorem dX12_isThat_9 : decode cX12_isThat 9 = .ok (.iconst 0, 1) := by decide +kernel
theorem dX12_isThat_10 : decode cX12_isThat 10 = .ok (.ireturn, 1) := by decide +kernel
theorem dX12_isThat_11 : decode cX12_isThat 11 = .ok (.iload_n 3, 1) := by decide +kernel
theorem dX12_isThat_12 : decode cX12_isThat 12 = .ok (.iconst 1, 1) := by decide +kernel
theorem dX12_isThat_13 : decode cX12_isThat 13 = .ok (.if_icmp .lt 14, 3) := by decide +kernel
theorem dX12_isThat_16 : decode cX12_isThat 16 = .ok (.aload_n 0, 1) := by decide +kernel
theorem dX12_isThat_17 : decode cX12_isThat 17 = .ok (.iload_n 1, 1) := by decide +kernel
theorem dX12_isThat_18 : decode cX12_isThat 18 = .ok (.iconst 0, 1) := by decide +kernel
theorem dX12_isThat_19 : decode cX12_isThat 19 = .ok (.invokevirtual 88, 3) := by decide +kernel
theorem dX12_isThat_22 : decode cX12_isThat 22 = .ok (.iload 4, 2) := by decide +kernel
theorem dX12_isThat_24 : decode cX12_isThat 24 = .ok (.if_icmp .ne 39, 3) := by decide +kernel
theorem dX12_isThat_27 : decode cX12_isThat 27 = .ok (.iload_n 3, 1) := by decide +kernel
theorem dX12_isThat_28 : decode cX12_isThat 28 = .ok (.iconst 2, 1) := by decide +kernel
theorem dX12_isThat_29 : decode cX12_isThat 29 = .ok (.if_icmp .lt 14, 3) := by decide +kernel
theorem dX12_isThat_32 : decode cX12_isThat 32 = .ok (.aload_n 0, 1) := by decide +kernel
theorem dX12_isThat_33 : decode cX12_isThat 33 = .ok (.iload_n 1, 1) := by decide +kernel
theorem dX12_isThat_34 : decode cX12_isThat 34 = .ok (.iconst 1, 1) := by decide +kernel
theorem dX12_isThat_35 : decode cX12_isThat 35 = .ok (.invokevirtual 88, 3) := by decide +kernel
theorem dX12_isThat_38 : decode cX12_isThat 38 = .ok (.iload 5, 2) := by decide +kernel
theorem dX12_isThat_40 : decode cX12_isThat 40 = .ok (.if_icmp .ne 23, 3) := by decide +kernel
theorem dX12_isThat_43 : decode cX12_isThat 43 = .ok (.iload_n 3, 1) := by decide +kernel
theorem dX12_isThat_44 : decode cX12_isThat 44 = .ok (.iconst 3, 1) := by decide +kernel
theorem dX12_isThat_45 : decode cX12_isThat 45 = .ok (.if_icmp .lt 14, 3) := by decide +kernel
theorem dX12_isThat_48 : decode cX12_isThat 48 = .ok (.aload_n 0, 1) := by decide +kernel
theorem dX12_isThat_49 : decode cX12_isThat 49 = .ok (.iload_n 1, 1) := by decide +kernel
theorem dX12_isThat_50 : decode cX12_isThat 50 = .ok (.iconst 2, 1) := by decide +kernel
theorem dX12_isThat_51 : decode cX12_isThat 51 = .ok (.invokevirtual 88, 3) := by decide +kernel
theorem dX12_isThat_54 : decode cX12_isThat 54 = .ok (.iload 6, 2) := by decide +kernel
theorem dX12_isThat_56 : decode cX12_isThat 56 = .ok (.if_icmp .ne 7, 3) := by decide +kernel
theorem dX12_isThat_59 : decode cX12_isThat 59 = .ok (.iconst 1, 1) := by decide +kernel
theorem dX12_isThat_60 : decode cX12_isThat 60 = .ok (.goto 4, 3) := by decide +kernel
theorem dX12_isThat_63 : decode cX12_isThat 63 = .ok (.iconst 0, 1) := by decide +kernel
theorem dX12_isThat_64 : decode cX12_isThat 64 = .ok (.ireturn, 1) := by decide +kernel
theorem dX12_termOf_0 : decode cX12_termOf 0 = .ok (.aload_n 0, 1) := by decide +kernel
theorem dX12_termOf_1 : decode cX12_termOf 1 = .ok (.getfield 92, 3) := by decide +kernel
theorem dX12_termOf_4 : decode cX12_termOf 4 = .ok (.ifCond .eq 5, 3) := by decide +kernel
theorem dX12_termOf_7 : decode cX12_termOf 7 = .ok (.iconst 0, 1) := by decide +kernel
theorem dX12_termOf_8 : decode cX12_termOf 8 = .ok (.ireturn, 1) := by decide +kernel
theorem dX12_termOf_9 : decode cX12_termOf 9 = .ok (.iload_n 1, 1) := by decide +kernel
theorem dX12_termOf_10 : decode cX12_termOf 10 = .ok (.ifCond .ge 7, 3) := by decide +kernel
theorem dX12_termOf_13 : decode cX12_termOf 13 = .ok (.iconst 0, 1) := by decide +kernel
theorem dX12_termOf_14 : decode cX12_termOf 14 = .ok (.goto 14, 3) := by decide +kernel
theorem dX12_termOf_17 : decode cX12_termOf 17 = .ok (.aload_n 0, 1) := by decide +kernel
theorem dX12_termOf_18 : decode cX12_termOf 18 = .ok (.getfield 25, 3) := by decide +kernel
theorem dX12_termOf_21 : decode cX12_termOf 21 = .ok (.aload_n 0, 1) := by decide +kernel
theorem dX12_termOf_22 : decode cX12_termOf 22 = .ok (.getfield 82, 3) := by decide +kernel
theorem dX12_termOf_25 : decode cX12_termOf 25 = .ok (.iload_n 1, 1) := by decide +kernel
theorem dX12_termOf_26 : decode cX12_termOf 26 = .ok (.iadd, 1) := by decide +kernel
theorem dX12_termOf_27 : decode cX12_termOf 27 = .ok (.iaload, 1) := by decide +kernel
theorem dX12_termOf_28 : decode cX12_termOf 28 = .ok (.istore 5, 2) := by decide +kernel
theorem dX12_termOf_30 : decode cX12_termOf 30 = .ok (.iconst 0, 1) := by decide +kernel
theorem dX12_termOf_31 : decode cX12_termOf 31 = .ok (.istore 6, 2) := by decide +kernel
theorem dX12_termOf_33 : decode cX12_termOf 33 = .ok (.iload 6, 2) := by decide +kernel
theorem dX12_termOf_35 : decode cX12_termOf 35 = .ok (.aload_n 0, 1) := by decide +kernel
theorem dX12_termOf_36 : decode cX12_termOf 36 = .ok (.invokevirtual 96, 3) := by decide +kernel
theorem dX12_termOf_39 : decode cX12_termOf 39 = .ok (.if_icmp .ge 28, 3) := by decide +kernel
theorem dX12_termOf_42 : decode cX12_termOf 42 = .ok (.aload_n 0, 1) := by decide +kernel
theorem dX12_termOf_43 : decode cX12_termOf 43 = .ok (.iload 6, 2) := by decide +kernel
theorem dX12_termOf_45 : decode cX12_termOf 45 = .ok (.iload_n 1, 1) := by decide +kernel
theorem dX12_termOf_46 : decode cX12_termOf 46 = .ok (.iload 5, 2) := by decide +kernel
theorem dX12_termOf_48 : decode cX12_termOf 48 = .ok (.iload_n 2, 1) := by decide +kernel
theorem dX12_termOf_49 : decode cX12_termOf 49 = .ok (.iload_n 3, 1) := by decide +kernel
theorem dX12_termOf_50 : decode cX12_termOf 50 = .ok (.iload 4, 2) := by decide +kernel
theorem dX12_termOf_52 : decode cX12_termOf 52 = .ok (.invokevirtual 100, 3) := by decide +kernel
theorem dX12_termOf_55 : decode cX12_termOf 55 = .ok (.ifCond .eq 6, 3) := by decide +kernel
theorem dX12_termOf_58 : decode cX12_termOf 58 = .ok (.iload 6, 2) := by decide +kernel
theorem dX12_termOf_60 : decode cX12_termOf 60 = .ok (.ireturn, 1) := by decide +kernel
theorem dX12_termOf_61 : decode cX12_termOf 61 = .ok (.iinc 6 1, 3) := by decide +kernel
theorem dX12_termOf_64 : decode cX12_termOf 64 = .ok (.goto (-31), 3) := by decide +kernel
theorem dX12_termOf_67 : decode cX12_termOf 67 = .ok (.iconst 1, 1) := by decide +kernel
theorem dX12_termOf_68 : decode cX12_termOf 68 = .ok (.istore 6, 2) := by decide +kernel
theorem dX12_termOf_70 : decode cX12_termOf 70 = .ok (.iload 5, 2) := by decide +kernel
theorem dX12_termOf_72 : decode cX12_termOf 72 = .ok (.ifCond .le 23, 3) := by decide +kernel
theorem dX12_termOf_75 : decode cX12_termOf 75 = .ok (.iload 6, 2) := by decide +kernel
theorem dX12_termOf_77 : decode cX12_termOf 77 = .ok (.aload_n 0, 1) := by decide +kernel
theorem dX12_termOf_78 : decode cX12_termOf 78 = .ok (.getfield 19, 3) := by decide +kernel
theorem dX12_termOf_81 : decode cX12_termOf 81 = .ok (.aload_n 0, 1) := by decide +kernel
theorem dX12_termOf_82 : decode cX12_termOf 82 = .ok (.getfield 71, 3) := by decide +kernel
theorem dX12_termOf_85 : decode cX12_termOf 85 = .ok (.iload_n 2, 1) := by decide +kernel
theorem dX12_termOf_86 : decode cX12_termOf 86 = .ok (.iadd, 1) := by decide +kernel
theorem dX12_termOf_87 : decode cX12_termOf 87 = .ok (.iaload, 1) := by decide +kernel
theorem dX12_termOf_88 : decode cX12_termOf 88 = .ok (.iconst 1, 1) := by decide +kernel
theorem dX12_termOf_89 : decode cX12_termOf 89 = .ok (.iadd, 1) := by decide +kernel
theorem dX12_termOf_90 : decode cX12_termOf 90 = .ok (.invokestatic 104, 3) := by decide +kernel
theorem dX12_termOf_93 : decode cX12_termOf 93 = .ok (.istore 6, 2) := by decide +kernel
theorem dX12_termOf_95 : decode cX12_termOf 95 = .ok (.iload 5, 2) := by decide +kernel
theorem dX12_termOf_97 : decode cX12_termOf 97 = .ok (.iconst 1, 1) := by decide +kernel
theorem dX12_termOf_98 : decode cX12_termOf 98 = .ok (.if_icmp .le 23, 3) := by decide +kernel
theorem dX12_termOf_101 : decode cX12_termOf 101 = .ok (.iload 6, 2) := by decide +kernel
theorem dX12_termOf_103 : decode cX12_termOf 103 = .ok (.aload_n 0, 1) := by decide +kernel
theorem dX12_termOf_104 : decode cX12_termOf 104 = .ok (.getfield 19, 3) := by decide +kernel
theorem dX12_termOf_107 : decode cX12_termOf 107 = .ok (.aload_n 0, 1) := by decide +kernel
theorem dX12_termOf_108 : decode cX12_termOf 108 = .ok (.getfield 71, 3) := by decide +kernel
theorem dX12_termOf_111 : decode cX12_termOf 111 = .ok (.iload_n 3, 1) := by decide +kernel
theorem dX12_termOf_112 : decode cX12_termOf 112 = .ok (.iadd, 1) := by decide +kernel
theorem dX12_termOf_113 : decode cX12_termOf 113 = .ok (.iaload, 1) := by decide +kernel
theorem dX12_termOf_114 : decode cX12_termOf 114 = .ok (.iconst 1, 1) := by decide +kernel
theorem dX12_termOf_115 : decode cX12_termOf 115 = .ok (.iadd, 1) := by decide +kernel
theorem dX12_termOf_116 : decode cX12_termOf 116 = .ok (.invokestatic 104, 3) := by decide +kernel
theorem dX12_termOf_119 : decode cX12_termOf 119 = .ok (.istore 6, 2) := by decide +kernel
theorem dX12_termOf_121 : decode cX12_termOf 121 = .ok (.iload 5, 2) := by decide +kernel
theorem dX12_termOf_123 : decode cX12_termOf 123 = .ok (.iconst 2, 1) := by decide +kernel
theorem dX12_termOf_124 : decode cX12_termOf 124 = .ok (.if_icmp .le 24, 3) := by decide +kernel
theorem dX12_termOf_127 : decode cX12_termOf 127 = .ok (.iload 6, 2) := by decide +kernel
theorem dX12_termOf_129 : decode cX12_termOf 129 = .ok (.aload_n 0, 1) := by decide +kernel
theorem dX12_termOf_130 : decode cX12_termOf 130 = .ok (.getfield 19, 3) := by decide +kernel
theorem dX12_termOf_133 : decode cX12_termOf 133 = .ok (.aload_n 0, 1) := by decide +kernel
theorem dX12_termOf_134 : decode cX12_termOf 134 = .ok (.getfield 71, 3) := by decide +kernel
theorem dX12_termOf_137 : decode cX12_termOf 137 = .ok (.iload 4, 2) := by decide +kernel
theorem dX12_termOf_139 : decode cX12_termOf 139 = .ok (.iadd, 1) := by decide +kernel
theorem dX12_termOf_140 : decode cX12_termOf 140 = .ok (.iaload, 1) := by decide +kernel
theorem dX12_termOf_141 : decode cX12_termOf 141 = .ok (.iconst 1, 1) := by decide +kernel
theorem dX12_termOf_142 : decode cX12_termOf 142 = .ok (.iadd, 1) := by decide +kernel
theorem dX12_termOf_143 : decode cX12_termOf 143 = .ok (.invokestatic 104, 3) := by decide +kernel
theorem dX12_termOf_146 : decode cX12_termOf 146 = .ok (.istore 6, 2) := by decide +kernel
theorem dX12_termOf_148 : decode cX12_termOf 148 = .ok (.aload_n 0, 1) := by decide +kernel
theorem dX12_termOf_149 : decode cX12_termOf 149 = .ok (.iload 6, 2) := by decide +kernel
theorem dX12_termOf_151 : decode cX12_termOf 151 = .ok (.bipush 6, 2) := by decide +kernel
theorem dX12_termOf_153 : decode cX12_termOf 153 = .ok (.if_icmp .gt 13, 3) := by decide +kernel
theorem dX12_termOf_156 : decode cX12_termOf 156 = .ok (.aload_n 0, 1) := by decide +kernel
theorem dX12_termOf_157 : decode cX12_termOf 157 = .ok (.invokevirtual 96, 3) := by decide +kernel
theorem dX12_termOf_160 : decode cX12_termOf 160 = .ok (.sipush 400, 3) := by decide +kernel
theorem dX12_termOf_163 : decode cX12_termOf 163 = .ok (.if_icmp .ne 7, 3) := by decide +kernel
theorem dX12_termOf_166 : decode cX12_termOf 166 = .ok (.iconst 1, 1) := by decide +kernel
theorem dX12_termOf_167 : decode cX12_termOf 167 = .ok (.goto 4, 3) := by decide +kernel
theorem dX12_termOf_170 : decode cX12_termOf 170 = .ok (.iconst 0, 1) := by decide +kernel
theorem dX12_termOf_171 : decode cX12_termOf 171 = .ok (.putfield 92, 3) := by decide +kernel
theorem dX12_termOf_174 : decode cX12_termOf 174 = .ok (.aload_n 0, 1) := by decide +kernel
theorem dX12_termOf_175 : decode cX12_termOf 175 = .ok (.getfield 92, 3) := by decide +kernel
theorem dX12_termOf_178 : decode cX12_termOf 178 = .ok (.ifCond .eq 5, 3) := by decide +kernel
theorem dX12_termOf_181 : decode cX12_termOf 181 = .ok (.iconst 0, 1) := by decide +kernel
theorem dX12_termOf_182 : decode cX12_termOf 182 = .ok (.ireturn, 1) := by decide +kernel
theorem dX12_termOf_183 : decode cX12_termOf 183 = .ok (.aload_n 0, 1) := by decide +kernel
theorem dX12_termOf_184 : decode cX12_termOf 184 = .ok (.invokevirtual 96, 3) := by decide +kernel
theorem dX12_termOf_187 : decode cX12_termOf 187 = .ok (.istore 7, 2) := by decide +kernel
theorem dX12_termOf_189 : decode cX12_termOf 189 = .ok (.aload_n 0, 1) := by decide +kernel
theorem dX12_termOf_190 : decode cX12_termOf 190 = .ok (.getfield 13, 3) := by decide +kernel
theorem dX12_termOf_193 : decode cX12_termOf 193 = .ok (.aload_n 0, 1) := by decide +kernel
theorem dX12_termOf_194 : decode cX12_termOf 194 = .ok (.getfield 71, 3) := by decide +kernel
theorem dX12_termOf_197 : decode cX12_termOf 197 = .ok (.iload 7, 2) := by decide +kernel
theorem dX12_termOf_199 : decode cX12_termOf 199 = .ok (.iadd, 1) := by decide +kernel
theorem dX12_termOf_200 : decode cX12_termOf 200 = .ok (.iload_n 1, 1) := by decide +kernel
theorem dX12_termOf_201 : decode cX12_termOf 201 = .ok (.iastore, 1) := by decide +kernel
theorem dX12_termOf_202 : decode cX12_termOf 202 = .ok (.aload_n 0, 1) := by decide +kernel
theorem dX12_termOf_203 : decode cX12_termOf 203 = .ok (.getfield 16, 3) := by decide +kernel
theorem dX12_termOf_206 : decode cX12_termOf 206 = .ok (.iconst 3, 1) := by decide +kernel
theorem dX12_termOf_207 : decode cX12_termOf 207 = .ok (.aload_n 0, 1) := by decide +kernel
theorem dX12_termOf_208 : decode cX12_termOf 208 = .ok (.getfield 71, 3) := by decide +kernel
theorem dX12_termOf_211 : decode cX12_termOf 211 = .ok (.iload 7, 2) := by decide +kernel
theorem dX12_termOf_213 : decode cX12_termOf 213 = .ok (.iadd, 1) := by decide +kernel
theorem dX12_termOf_214 : decode cX12_termOf 214 = .ok (.imul, 1) := by decide +kernel
theorem dX12_termOf_215 : decode cX12_termOf 215 = .ok (.iload 5, 2) := by decide +kernel
theorem dX12_termOf_217 : decode cX12_termOf 217 = .ok (.ifCond .le 7, 3) := by decide +kernel
theorem dX12_termOf_220 : decode cX12_termOf 220 = .ok (.iload_n 2, 1) := by decide +kernel
theorem dX12_termOf_221 : decode cX12_termOf 221 = .ok (.goto 4, 3) := by decide +kernel
theorem dX12_termOf_224 : decode cX12_termOf 224 = .ok (.iconst (-1), 1) := by decide +kernel
theorem dX12_termOf_225 : decode cX12_termOf 225 = .ok (.iastore, 1) := by decide +kernel
theorem dX12_termOf_226 : decode cX12_termOf 226 = .ok (.aload_n 0, 1) := by decide +kernel
theorem dX12_termOf_227 : decode cX12_termOf 227 = .ok (.getfield 16, 3) := by decide +kernel
theorem dX12_termOf_230 : decode cX12_termOf 230 = .ok (.iconst 3, 1) := by decide +kernel
theorem dX12_termOf_231 : decode cX12_termOf 231 = .ok (.aload_n 0, 1) := by decide +kernel
theorem dX12_termOf_232 : decode cX12_termOf 232 = .ok (.getfield 71, 3) := by decide +kernel
theorem dX12_termOf_235 : decode cX12_termOf 235 = .ok (.iload 7, 2) := by decide +kernel
theorem dX12_termOf_237 : decode cX12_termOf 237 = .ok (.iadd, 1) := by decide +kernel
theorem dX12_termOf_238 : decode cX12_termOf 238 = .ok (.imul, 1) := by decide +kernel
theorem dX12_termOf_239 : decode cX12_termOf 239 = .ok (.iconst 1, 1) := by decide +kernel
theorem dX12_termOf_240 : decode cX12_termOf 240 = .ok (.iadd, 1) := by decide +kernel
theorem dX12_termOf_241 : decode cX12_termOf 241 = .ok (.iload 5, 2) := by decide +kernel
theorem dX12_termOf_243 : decode cX12_termOf 243 = .ok (.iconst 1, 1) := by decide +kernel
theorem dX12_termOf_244 : decode cX12_termOf 244 = .ok (.if_icmp .le 7, 3) := by decide +kernel
theorem dX12_termOf_247 : decode cX12_termOf 247 = .ok (.iload_n 3, 1) := by decide +kernel
theorem dX12_termOf_248 : decode cX12_termOf 248 = .ok (.goto 4, 3) := by decide +kernel
theorem dX12_termOf_251 : decode cX12_termOf 251 = .ok (.iconst (-1), 1) := by decide +kernel
theorem dX12_termOf_252 : decode cX12_termOf 252 = .ok (.iastore, 1) := by decide +kernel
theorem dX12_termOf_253 : decode cX12_termOf 253 = .ok (.aload_n 0, 1) := by decide +kernel
theorem dX12_termOf_254 : decode cX12_termOf 254 = .ok (.getfield 16, 3) := by decide +kernel
theorem dX12_termOf_257 : decode cX12_termOf 257 = .ok (.iconst 3, 1) := by decide +kernel
theorem dX12_termOf_258 : decode cX12_termOf 258 = .ok (.aload_n 0, 1) := by decide +kernel
theorem dX12_termOf_259 : decode cX12_termOf 259 = .ok (.getfield 71, 3) := by decide +kernel
theorem dX12_termOf_262 : decode cX12_termOf 262 = .ok (.iload 7, 2) := by decide +kernel
theorem dX12_termOf_264 : decode cX12_termOf 264 = .ok (.iadd, 1) := by decide +kernel
theorem dX12_termOf_265 : decode cX12_termOf 265 = .ok (.imul, 1) := by decide +kernel
theorem dX12_termOf_266 : decode cX12_termOf 266 = .ok (.iconst 2, 1) := by decide +kernel
theorem dX12_termOf_267 : decode cX12_termOf 267 = .ok (.iadd, 1) := by decide +kernel
theorem dX12_termOf_268 : decode cX12_termOf 268 = .ok (.iload 5, 2) := by decide +kernel
theorem dX12_termOf_270 : decode cX12_termOf 270 = .ok (.iconst 2, 1) := by decide +kernel
theorem dX12_termOf_271 : decode cX12_termOf 271 = .ok (.if_icmp .le 8, 3) := by decide +kernel
theorem dX12_termOf_274 : decode cX12_termOf 274 = .ok (.iload 4, 2) := by decide +kernel
theorem dX12_termOf_276 : decode cX12_termOf 276 = .ok (.goto 4, 3) := by decide +kernel
theorem dX12_termOf_279 : decode cX12_termOf 279 = .ok (.iconst (-1), 1) := by decide +kernel
theorem dX12_termOf_280 : decode cX12_termOf 280 = .ok (.iastore, 1) := by decide +kernel
theorem dX12_termOf_281 : decode cX12_termOf 281 = .ok (.aload_n 0, 1) := by decide +kernel
theorem dX12_termOf_282 : decode cX12_termOf 282 = .ok (.getfield 19, 3) := by decide +kernel
theorem dX12_termOf_285 : decode cX12_termOf 285 = .ok (.aload_n 0, 1) := by decide +kernel
theorem dX12_termOf_286 : decode cX12_termOf 286 = .ok (.getfield 71, 3) := by decide +kernel
theorem dX12_termOf_289 : decode cX12_termOf 289 = .ok (.iload 7, 2) := by decide +kernel
theorem dX12_termOf_291 : decode cX12_termOf 291 = .ok (.iadd, 1) := by decide +kernel
theorem dX12_termOf_292 : decode cX12_termOf 292 = .ok (.iload 6, 2) := by decide +kernel
theorem dX12_termOf_294 : decode cX12_termOf 294 = .ok (.iastore, 1) := by decide +kernel
theorem dX12_termOf_295 : decode cX12_termOf 295 = .ok (.aload_n 0, 1) := by decide +kernel
theorem dX12_termOf_296 : decode cX12_termOf 296 = .ok (.getfield 9, 3) := by decide +kernel
theorem dX12_termOf_299 : decode cX12_termOf 299 = .ok (.aload_n 0, 1) := by decide +kernel
theorem dX12_termOf_300 : decode cX12_termOf 300 = .ok (.getfield 85, 3) := by decide +kernel
theorem dX12_termOf_303 : decode cX12_termOf 303 = .ok (.iconst 0, 1) := by decide +kernel
theorem dX12_termOf_304 : decode cX12_termOf 304 = .ok (.iadd, 1) := by decide +kernel
theorem dX12_termOf_305 : decode cX12_termOf 305 = .ok (.dup2, 1) := by decide +kernel
theorem dX12_termOf_306 : decode cX12_termOf 306 = .ok (.iaload, 1) := by decide +kernel
theorem dX12_termOf_307 : decode cX12_termOf 307 = .ok (.iconst 1, 1) := by decide +kernel
theorem dX12_termOf_308 : decode cX12_termOf 308 = .ok (.iadd, 1) := by decide +kernel
theorem dX12_termOf_309 : decode cX12_termOf 309 = .ok (.iastore, 1) := by decide +kernel
theorem dX12_termOf_310 : decode cX12_termOf 310 = .ok (.iload 7, 2) := by decide +kernel
theorem dX12_termOf_312 : decode cX12_termOf 312 = .ok (.ireturn, 1) := by decide +kernel
theorem dX12_variableTerm_0 : decode cX12_variableTerm 0 = .ok (.aload_n 0, 1) := by decide +kernel
theorem dX12_variableTerm_1 : decode cX12_variableTerm 1 = .ok (.iconst (-1), 1) := by decide +kernel
theorem dX12_variableTerm_2 : decode cX12_variableTerm 2 = .ok (.iload_n 1, 1) := by decide +kernel
theorem dX12_variableTerm_3 : decode cX12_variableTerm 3 = .ok (.isub, 1) := by decide +kernel
theorem dX12_variableTerm_4 : decode cX12_variableTerm 4 = .ok (.iconst 0, 1) := by decide +kernel
theorem dX12_variableTerm_5 : decode cX12_variableTerm 5 = .ok (.iconst 0, 1) := by decide +kernel
theorem dX12_variableTerm_6 : decode cX12_variableTerm 6 = .ok (.iconst 0, 1) := by decide +kernel
theorem dX12_variableTerm_7 : decode cX12_variableTerm 7 = .ok (.invokevirtual 107, 3) := by decide +kernel
theorem dX12_variableTerm_10 : decode cX12_variableTerm 10 = .ok (.ireturn, 1) := by decide +kernel
theorem dX12_sizeOf_0 : decode cX12_sizeOf 0 = .ok (.iconst 1, 1) := by decide +kernel
theorem dX12_sizeOf_1 : decode cX12_sizeOf 1 = .ok (.istore_n 2, 1) := by decide +kernel
theorem dX12_sizeOf_2 : decode cX12_sizeOf 2 = .ok (.iconst 0, 1) := by decide +kernel
theorem dX12_sizeOf_3 : decode cX12_sizeOf 3 = .ok (.istore_n 3, 1) := by decide +kernel
theorem dX12_sizeOf_4 : decode cX12_sizeOf 4 = .ok (.iload_n 3, 1) := by decide +kernel
theorem dX12_sizeOf_5 : decode cX12_sizeOf 5 = .ok (.aload_n 0, 1) := by decide +kernel
theorem dX12_sizeOf_6 : decode cX12_sizeOf 6 = .ok (.iload_n 1, 1) := by decide +kernel
theorem dX12_sizeOf_7 : decode cX12_sizeOf 7 = .ok (.invokevirtual 111, 3) := by decide +kernel
theorem dX12_sizeOf_10 : decode cX12_sizeOf 10 = .ok (.if_icmp .ge 22, 3) := by decide +kernel
theorem dX12_sizeOf_13 : decode cX12_sizeOf 13 = .ok (.iload_n 2, 1) := by decide +kernel
theorem dX12_sizeOf_14 : decode cX12_sizeOf 14 = .ok (.aload_n 0, 1) := by decide +kernel
theorem dX12_sizeOf_15 : decode cX12_sizeOf 15 = .ok (.aload_n 0, 1) := by decide +kernel
theorem dX12_sizeOf_16 : decode cX12_sizeOf 16 = .ok (.iload_n 1, 1) := by decide +kernel
theorem dX12_sizeOf_17 : decode cX12_sizeOf 17 = .ok (.iload_n 3, 1) := by decide +kernel
theorem dX12_sizeOf_18 : decode cX12_sizeOf 18 = .ok (.invokevirtual 88, 3) := by decide +kernel
theorem dX12_sizeOf_21 : decode cX12_sizeOf 21 = .ok (.invokevirtual 114, 3) := by decide +kernel
theorem dX12_sizeOf_24 : decode cX12_sizeOf 24 = .ok (.iadd, 1) := by decide +kernel
theorem dX12_sizeOf_25 : decode cX12_sizeOf 25 = .ok (.istore_n 2, 1) := by decide +kernel
theorem dX12_sizeOf_26 : decode cX12_sizeOf 26 = .ok (.iinc 3 1, 3) := by decide +kernel
theorem dX12_sizeOf_29 : decode cX12_sizeOf 29 = .ok (.goto (-25), 3) := by decide +kernel
theorem dX12_sizeOf_32 : decode cX12_sizeOf 32 = .ok (.iload_n 2, 1) := by decide +kernel
theorem dX12_sizeOf_33 : decode cX12_sizeOf 33 = .ok (.ireturn, 1) := by decide +kernel
theorem dX12_weightOf_0 : decode cX12_weightOf 0 = .ok (.aload_n 0, 1) := by decide +kernel
theorem dX12_weightOf_1 : decode cX12_weightOf 1 = .ok (.iload_n 1, 1) := by decide +kernel
theorem dX12_weightOf_2 : decode cX12_weightOf 2 = .ok (.invokevirtual 117, 3) := by decide +kernel
theorem dX12_weightOf_5 : decode cX12_weightOf 5 = .ok (.istore_n 2, 1) := by decide +kernel
theorem dX12_weightOf_6 : decode cX12_weightOf 6 = .ok (.iconst 0, 1) := by decide +kernel
theorem dX12_weightOf_7 : decode cX12_weightOf 7 = .ok (.istore_n 3, 1) := by decide +kernel
theorem dX12_weightOf_8 : decode cX12_weightOf 8 = .ok (.iload_n 3, 1) := by decide +kernel
theorem dX12_weightOf_9 : decode cX12_weightOf 9 = .ok (.aload_n 0, 1) := by decide +kernel
theorem dX12_weightOf_10 : decode cX12_weightOf 10 = .ok (.iload_n 1, 1) := by decide +kernel
theorem dX12_weightOf_11 : decode cX12_weightOf 11 = .ok (.invokevirtual 111, 3) := by decide +kernel
theorem dX12_weightOf_14 : decode cX12_weightOf 14 = .ok (.if_icmp .ge 22, 3) := by decide +kernel
theorem dX12_weightOf_17 : decode cX12_weightOf 17 = .ok (.iload_n 2, 1) := by decide +kernel
theorem dX12_weightOf_18 : decode cX12_weightOf 18 = .ok (.aload_n 0, 1) := by decide +kernel
theorem dX12_weightOf_19 : decode cX12_weightOf 19 = .ok (.aload_n 0, 1) := by decide +kernel
theorem dX12_weightOf_20 : decode cX12_weightOf 20 = .ok (.iload_n 1, 1) := by decide +kernel
theorem dX12_weightOf_21 : decode cX12_weightOf 21 = .ok (.iload_n 3, 1) := by decide +kernel
theorem dX12_weightOf_22 : decode cX12_weightOf 22 = .ok (.invokevirtual 88, 3) := by decide +kernel
theorem dX12_weightOf_25 : decode cX12_weightOf 25 = .ok (.invokevirtual 120, 3) := by decide +kernel
theorem dX12_weightOf_28 : decode cX12_weightOf 28 = .ok (.iadd, 1) := by decide +kernel
theorem dX12_weightOf_29 : decode cX12_weightOf 29 = .ok (.istore_n 2, 1) := by decide +kernel
theorem dX12_weightOf_30 : decode cX12_weightOf 30 = .ok (.iinc 3 1, 3) := by decide +kernel
theorem dX12_weightOf_33 : decode cX12_weightOf 33 = .ok (.goto (-25), 3) := by decide +kernel
theorem dX12_weightOf_36 : decode cX12_weightOf 36 = .ok (.iload_n 2, 1) := by decide +kernel
theorem dX12_weightOf_37 : decode cX12_weightOf 37 = .ok (.ireturn, 1) := by decide +kernel
theorem dX12_variablesIn_0 : decode cX12_variablesIn 0 = .ok (.aload_n 0, 1) := by decide +kernel
theorem dX12_variablesIn_1 : decode cX12_variablesIn 1 = .ok (.iload_n 1, 1) := by decide +kernel
theorem dX12_variablesIn_2 : decode cX12_variablesIn 2 = .ok (.invokevirtual 78, 3) := by decide +kernel
theorem dX12_variablesIn_5 : decode cX12_variablesIn 5 = .ok (.ifCond .eq 13, 3) := by decide +kernel
theorem dX12_variablesIn_8 : decode cX12_variablesIn 8 = .ok (.iconst 1, 1) := by decide +kernel
theorem dX12_variablesIn_9 : decode cX12_variablesIn 9 = .ok (.aload_n 0, 1) := by decide +kernel
theorem dX12_variablesIn_10 : decode cX12_variablesIn 10 = .ok (.iload_n 1, 1) := by decide +kernel
theorem dX12_variablesIn_11 : decode cX12_variablesIn 11 = .ok (.invokevirtual 123, 3) := by decide +kernel
theorem dX12_variablesIn_14 : decode cX12_variablesIn 14 = .ok (.ishl, 1) := by decide +kernel
theorem dX12_variablesIn_15 : decode cX12_variablesIn 15 = .ok (.goto 4, 3) := by decide +kernel
theorem dX12_variablesIn_18 : decode cX12_variablesIn 18 = .ok (.iconst 0, 1) := by decide +kernel
theorem dX12_variablesIn_19 : decode cX12_variablesIn 19 = .ok (.istore_n 2, 1) := by decide +kernel
theorem dX12_variablesIn_20 : decode cX12_variablesIn 20 = .ok (.iconst 0, 1) := by decide +kernel
theorem dX12_variablesIn_21 : decode cX12_variablesIn 21 = .ok (.istore_n 3, 1) := by decide +kernel
theorem dX12_variablesIn_22 : decode cX12_variablesIn 22 = .ok (.iload_n 3, 1) := by decide +kernel
theorem dX12_variablesIn_23 : decode cX12_variablesIn 23 = .ok (.aload_n 0, 1) := by decide +kernel
theorem dX12_variablesIn_24 : decode cX12_variablesIn 24 = .ok (.iload_n 1, 1) := by decide +kernel
theorem dX12_variablesIn_25 : decode cX12_variablesIn 25 = .ok (.invokevirtual 111, 3) := by decide +kernel
theorem dX12_variablesIn_28 : decode cX12_variablesIn 28 = .ok (.if_icmp .ge 22, 3) := by decide +kernel
theorem dX12_variablesIn_31 : decode cX12_variablesIn 31 = .ok (.iload_n 2, 1) := by decide +kernel
theorem dX12_variablesIn_32 : decode cX12_variablesIn 32 = .ok (.aload_n 0, 1) := by decide +kernel
theorem dX12_variablesIn_33 : decode cX12_variablesIn 33 = .ok (.aload_n 0, 1) := by decide +kernel
theorem dX12_variablesIn_34 : decode cX12_variablesIn 34 = .ok (.iload_n 1, 1) := by decide +kernel
theorem dX12_variablesIn_35 : decode cX12_variablesIn 35 = .ok (.iload_n 3, 1) := by decide +kernel
theorem dX12_variablesIn_36 : decode cX12_variablesIn 36 = .ok (.invokevirtual 88, 3) := by decide +kernel
theorem dX12_variablesIn_39 : decode cX12_variablesIn 39 = .ok (.invokevirtual 126, 3) := by decide +kernel
theorem dX12_variablesIn_42 : decode cX12_variablesIn 42 = .ok (.ior, 1) := by decide +kernel
theorem dX12_variablesIn_43 : decode cX12_variablesIn 43 = .ok (.istore_n 2, 1) := by decide +kernel
theorem dX12_variablesIn_44 : decode cX12_variablesIn 44 = .ok (.iinc 3 1, 3) := by decide +kernel
theorem dX12_variablesIn_47 : decode cX12_variablesIn 47 = .ok (.goto (-25), 3) := by decide +kernel
theorem dX12_variablesIn_50 : decode cX12_variablesIn 50 = .ok (.iload_n 2, 1) := by decide +kernel
theorem dX12_variablesIn_51 : decode cX12_variablesIn 51 = .ok (.ireturn, 1) := by decide +kernel
theorem dX12_timesOf_0 : decode cX12_timesOf 0 = .ok (.aload_n 0, 1) := by decide +kernel
theorem dX12_timesOf_1 : decode cX12_timesOf 1 = .ok (.iload_n 1, 1) := by decide +kernel
theorem dX12_timesOf_2 : decode cX12_timesOf 2 = .ok (.invokevirtual 78, 3) := by decide +kernel
theorem dX12_timesOf_5 : decode cX12_timesOf 5 = .ok (.ifCond .eq 16, 3) := by decide +kernel
theorem dX12_timesOf_8 : decode cX12_timesOf 8 = .ok (.aload_n 0, 1) := by decide +kernel
theorem dX12_timesOf_9 : decode cX12_timesOf 9 = .ok (.iload_n 1, 1) := by decide +kernel
theorem dX12_timesOf_10 : decode cX12_timesOf 10 = .ok (.invokevirtual 123, 3) := by decide +kernel
theorem dX12_timesOf_13 : decode cX12_timesOf 13 = .ok (.iload_n 2, 1) := by decide +kernel
theorem dX12_timesOf_14 : decode cX12_timesOf 14 = .ok (.if_icmp .ne 7, 3) := by decide +kernel
theorem dX12_timesOf_17 : decode cX12_timesOf 17 = .ok (.iconst 1, 1) := by decide +kernel
theorem dX12_timesOf_18 : decode cX12_timesOf 18 = .ok (.goto 4, 3) := by decide +kernel
theorem dX12_timesOf_21 : decode cX12_timesOf 21 = .ok (.iconst 0, 1) := by decide +kernel
theorem dX12_timesOf_22 : decode cX12_timesOf 22 = .ok (.istore_n 3, 1) := by decide +kernel
theorem dX12_timesOf_23 : decode cX12_timesOf 23 = .ok (.iconst 0, 1) := by decide +kernel
theorem dX12_timesOf_24 : decode cX12_timesOf 24 = .ok (.istore 4, 2) := by decide +kernel
theorem dX12_timesOf_26 : decode cX12_timesOf 26 = .ok (.iload 4, 2) := by decide +kernel
theorem dX12_timesOf_28 : decode cX12_timesOf 28 = .ok (.aload_n 0, 1) := by decide +kernel
theorem dX12_timesOf_29 : decode cX12_timesOf 29 = .ok (.iload_n 1, 1) := by decide +kernel
theorem dX12_timesOf_30 : decode cX12_timesOf 30 = .ok (.invokevirtual 111, 3) := by decide +kernel
theorem dX12_timesOf_33 : decode cX12_timesOf 33 = .ok (.if_icmp .ge 24, 3) := by decide +kernel
theorem dX12_timesOf_36 : decode cX12_timesOf 36 = .ok (.iload_n 3, 1) := by decide +kernel
theorem dX12_timesOf_37 : decode cX12_timesOf 37 = .ok (.aload_n 0, 1) := by decide +kernel
theorem dX12_timesOf_38 : decode cX12_timesOf 38 = .ok (.aload_n 0, 1) := by decide +kernel
theorem dX12_timesOf_39 : decode cX12_timesOf 39 = .ok (.iload_n 1, 1) := by decide +kernel
theorem dX12_timesOf_40 : decode cX12_timesOf 40 = .ok (.iload 4, 2) := by decide +kernel
theorem dX12_timesOf_42 : decode cX12_timesOf 42 = .ok (.invokevirtual 88, 3) := by decide +kernel
theorem dX12_timesOf_45 : decode cX12_timesOf 45 = .ok (.iload_n 2, 1) := by decide +kernel
theorem dX12_timesOf_46 : decode cX12_timesOf 46 = .ok (.invokevirtual 129, 3) := by decide +kernel
theorem dX12_timesOf_49 : decode cX12_timesOf 49 = .ok (.iadd, 1) := by decide +kernel
theorem dX12_timesOf_50 : decode cX12_timesOf 50 = .ok (.istore_n 3, 1) := by decide +kernel
theorem dX12_timesOf_51 : decode cX12_timesOf 51 = .ok (.iinc 4 1, 3) := by decide +kernel
theorem dX12_timesOf_54 : decode cX12_timesOf 54 = .ok (.goto (-28), 3) := by decide +kernel
theorem dX12_timesOf_57 : decode cX12_timesOf 57 = .ok (.iload_n 3, 1) := by decide +kernel
theorem dX12_timesOf_58 : decode cX12_timesOf 58 = .ok (.ireturn, 1) := by decide +kernel
theorem dX12_isIn_0 : decode cX12_isIn 0 = .ok (.iload_n 1, 1) := by decide +kernel
theorem dX12_isIn_1 : decode cX12_isIn 1 = .ok (.iload_n 2, 1) := by decide +kernel
theorem dX12_isIn_2 : decode cX12_isIn 2 = .ok (.if_icmp .ne 5, 3) := by decide +kernel
theorem dX12_isIn_5 : decode cX12_isIn 5 = .ok (.iconst 1, 1) := by decide +kernel
theorem dX12_isIn_6 : decode cX12_isIn 6 = .ok (.ireturn, 1) := by decide +kernel
theorem dX12_isIn_7 : decode cX12_isIn 7 = .ok (.iconst 0, 1) := by decide +kernel
theorem dX12_isIn_8 : decode cX12_isIn 8 = .ok (.istore_n 3, 1) := by decide +kernel
theorem dX12_isIn_9 : decode cX12_isIn 9 = .ok (.iload_n 3, 1) := by decide +kernel
theorem dX12_isIn_10 : decode cX12_isIn 10 = .ok (.aload_n 0, 1) := by decide +kernel
theorem dX12_isIn_11 : decode cX12_isIn 11 = .ok (.iload_n 2, 1) := by decide +kernel
theorem dX12_isIn_12 : decode cX12_isIn 12 = .ok (.invokevirtual 111, 3) := by decide +kernel
theorem dX12_isIn_15 : decode cX12_isIn 15 = .ok (.if_icmp .ge 25, 3) := by decide +kernel
theorem dX12_isIn_18 : decode cX12_isIn 18 = .ok (.aload_n 0, 1) := by decide +kernel
theorem dX12_isIn_19 : decode cX12_isIn 19 = .ok (.iload_n 1, 1) := by decide +kernel
theorem dX12_isIn_20 : decode cX12_isIn 20 = .ok (.aload_n 0, 1) := by decide +kernel
theorem dX12_isIn_21 : decode cX12_isIn 21 = .ok (.iload_n 2, 1) := by decide +kernel
theorem dX12_isIn_22 : decode cX12_isIn 22 = .ok (.iload_n 3, 1) := by decide +kernel
theorem dX12_isIn_23 : decode cX12_isIn 23 = .ok (.invokevirtual 88, 3) := by decide +kernel
theorem dX12_isIn_26 : decode cX12_isIn 26 = .ok (.invokevirtual 132, 3) := by decide +kernel
theorem dX12_isIn_29 : decode cX12_isIn 29 = .ok (.ifCond .eq 5, 3) := by decide +kernel
theorem dX12_isIn_32 : decode cX12_isIn 32 = .ok (.iconst 1, 1) := by decide +kernel
theorem dX12_isIn_33 : decode cX12_isIn 33 = .ok (.ireturn, 1) := by decide +kernel
theorem dX12_isIn_34 : decode cX12_isIn 34 = .ok (.iinc 3 1, 3) := by decide +kernel
theorem dX12_isIn_37 : decode cX12_isIn 37 = .ok (.goto (-28), 3) := by decide +kernel
theorem dX12_isIn_40 : decode cX12_isIn 40 = .ok (.iconst 0, 1) := by decide +kernel
theorem dX12_isIn_41 : decode cX12_isIn 41 = .ok (.ireturn, 1) := by decide +kernel
theorem dX12_sharedOf_0 : decode cX12_sharedOf 0 = .ok (.iconst 0, 1) := by decide +kernel
theorem dX12_sharedOf_1 : decode cX12_sharedOf 1 = .ok (.istore_n 2, 1) := by decide +kernel
theorem dX12_sharedOf_2 : decode cX12_sharedOf 2 = .ok (.iconst 0, 1) := by decide +kernel
theorem dX12_sharedOf_3 : decode cX12_sharedOf 3 = .ok (.istore_n 3, 1) := by decide +kernel
theorem dX12_sharedOf_4 : decode cX12_sharedOf 4 = .ok (.iload_n 3, 1) := by decide +kernel
theorem dX12_sharedOf_5 : decode cX12_sharedOf 5 = .ok (.aload_n 0, 1) := by decide +kernel
theorem dX12_sharedOf_6 : decode cX12_sharedOf 6 = .ok (.invokevirtual 96, 3) := by decide +kernel
theorem dX12_sharedOf_9 : decode cX12_sharedOf 9 = .ok (.if_icmp .ge 21, 3) := by decide +kernel
theorem dX12_sharedOf_12 : decode cX12_sharedOf 12 = .ok (.aload_n 0, 1) := by decide +kernel
theorem dX12_sharedOf_13 : decode cX12_sharedOf 13 = .ok (.iload_n 3, 1) := by decide +kernel
theorem dX12_sharedOf_14 : decode cX12_sharedOf 14 = .ok (.iload_n 1, 1) := by decide +kernel
theorem dX12_sharedOf_15 : decode cX12_sharedOf 15 = .ok (.invokevirtual 132, 3) := by decide +kernel
theorem dX12_sharedOf_18 : decode cX12_sharedOf 18 = .ok (.ifCond .eq 6, 3) := by decide +kernel
theorem dX12_sharedOf_21 : decode cX12_sharedOf 21 = .ok (.iinc 2 1, 3) := by decide +kernel
theorem dX12_sharedOf_24 : decode cX12_sharedOf 24 = .ok (.iinc 3 1, 3) := by decide +kernel
theorem dX12_sharedOf_27 : decode cX12_sharedOf 27 = .ok (.goto (-23), 3) := by decide +kernel
theorem dX12_sharedOf_30 : decode cX12_sharedOf 30 = .ok (.iload_n 2, 1) := by decide +kernel
theorem dX12_sharedOf_31 : decode cX12_sharedOf 31 = .ok (.ireturn, 1) := by decide +kernel
theorem dX12_isShape_0 : decode cX12_isShape 0 = .ok (.aload_n 0, 1) := by decide +kernel
theorem dX12_isShape_1 : decode cX12_isShape 1 = .ok (.iload_n 1, 1) := by decide +kernel
theorem dX12_isShape_2 : decode cX12_isShape 2 = .ok (.invokevirtual 78, 3) := by decide +kernel
theorem dX12_isShape_5 : decode cX12_isShape 5 = .ok (.ifCond .ne 11, 3) := by decide +kernel
theorem dX12_isShape_8 : decode cX12_isShape 8 = .ok (.aload_n 0, 1) := by decide +kernel
theorem dX12_isShape_9 : decode cX12_isShape 9 = .ok (.iload_n 2, 1) := by decide +kernel
theorem dX12_isShape_10 : decode cX12_isShape 10 = .ok (.invokevirtual 78, 3) := by decide +kernel
theorem dX12_isShape_13 : decode cX12_isShape 13 = .ok (.ifCond .eq 25, 3) := by decide +kernel
theorem dX12_isShape_16 : decode cX12_isShape 16 = .ok (.aload_n 0, 1) := by decide +kernel
theorem dX12_isShape_17 : decode cX12_isShape 17 = .ok (.iload_n 1, 1) := by decide +kernel
theorem dX12_isShape_18 : decode cX12_isShape 18 = .ok (.invokevirtual 78, 3) := by decide +kernel
theorem dX12_isShape_21 : decode cX12_isShape 21 = .ok (.ifCond .eq 15, 3) := by decide +kernel
theorem dX12_isShape_24 : decode cX12_isShape 24 = .ok (.aload_n 0, 1) := by decide +kernel
theorem dX12_isShape_25 : decode cX12_isShape 25 = .ok (.iload_n 2, 1) := by decide +kernel
theorem dX12_isShape_26 : decode cX12_isShape 26 = .ok (.invokevirtual 78, 3) := by decide +kernel
theorem dX12_isShape_29 : decode cX12_isShape 29 = .ok (.ifCond .eq 7, 3) := by decide +kernel
theorem dX12_isShape_32 : decode cX12_isShape 32 = .ok (.iconst 1, 1) := by decide +kernel
theorem dX12_isShape_33 : decode cX12_isShape 33 = .ok (.goto 4, 3) := by decide +kernel
theorem dX12_isShape_36 : decode cX12_isShape 36 = .ok (.iconst 0, 1) := by decide +kernel
theorem dX12_isShape_37 : decode cX12_isShape 37 = .ok (.ireturn, 1) := by decide +kernel
theorem dX12_isShape_38 : decode cX12_isShape 38 = .ok (.aload_n 0, 1) := by decide +kernel
theorem dX12_isShape_39 : decode cX12_isShape 39 = .ok (.iload_n 1, 1) := by decide +kernel
theorem dX12_isShape_40 : decode cX12_isShape 40 = .ok (.invokevirtual 74, 3) := by decide +kernel
theorem dX12_isShape_43 : decode cX12_isShape 43 = .ok (.aload_n 0, 1) := by decide +kernel
theorem dX12_isShape_44 : decode cX12_isShape 44 = .ok (.iload_n 2, 1) := by decide +kernel
theorem dX12_isShape_45 : decode cX12_isShape 45 = .ok (.invokevirtual 74, 3) := by decide +kernel
theorem dX12_isShape_48 : decode cX12_isShape 48 = .ok (.if_icmp .eq 5, 3) := by decide +kernel
theorem dX12_isShape_51 : decode cX12_isShape 51 = .ok (.iconst 0, 1) := by decide +kernel
theorem dX12_isShape_52 : decode cX12_isShape 52 = .ok (.ireturn, 1) := by decide +kernel
theorem dX12_isShape_53 : decode cX12_isShape 53 = .ok (.iconst 0, 1) := by decide +kernel
theorem dX12_isShape_54 : decode cX12_isShape 54 = .ok (.istore_n 3, 1) := by decide +kernel
theorem dX12_isShape_55 : decode cX12_isShape 55 = .ok (.iload_n 3, 1) := by decide +kernel
theorem dX12_isShape_56 : decode cX12_isShape 56 = .ok (.aload_n 0, 1) := by decide +kernel
theorem dX12_isShape_57 : decode cX12_isShape 57 = .ok (.iload_n 1, 1) := by decide +kernel
theorem dX12_isShape_58 : decode cX12_isShape 58 = .ok (.invokevirtual 111, 3) := by decide +kernel
theorem dX12_isShape_61 : decode cX12_isShape 61 = .ok (.if_icmp .ge 30, 3) := by decide +kernel
theorem dX12_isShape_64 : decode cX12_isShape 64 = .ok (.aload_n 0, 1) := by decide +kernel
theorem dX12_isShape_65 : decode cX12_isShape 65 = .ok (.aload_n 0, 1) := by decide +kernel
theorem dX12_isShape_66 : decode cX12_isShape 66 = .ok (.iload_n 1, 1) := by decide +kernel
theorem dX12_isShape_67 : decode cX12_isShape 67 = .ok (.iload_n 3, 1) := by decide +kernel
theorem dX12_isShape_68 : decode cX12_isShape 68 = .ok (.invokevirtual 88, 3) := by decide +kernel
theorem dX12_isShape_71 : decode cX12_isShape 71 = .ok (.aload_n 0, 1) := by decide +kernel
theorem dX12_isShape_72 : decode cX12_isShape 72 = .ok (.iload_n 2, 1) := by decide +kernel
theorem dX12_isShape_73 : decode cX12_isShape 73 = .ok (.iload_n 3, 1) := by decide +kernel
theorem dX12_isShape_74 : decode cX12_isShape 74 = .ok (.invokevirtual 88, 3) := by decide +kernel
theorem dX12_isShape_77 : decode cX12_isShape 77 = .ok (.invokevirtual 136, 3) := by decide +kernel
theorem dX12_isShape_80 : decode cX12_isShape 80 = .ok (.ifCond .ne 5, 3) := by decide +kernel
theorem dX12_isShape_83 : decode cX12_isShape 83 = .ok (.iconst 0, 1) := by decide +kernel
theorem dX12_isShape_84 : decode cX12_isShape 84 = .ok (.ireturn, 1) := by decide +kernel
theorem dX12_isShape_85 : decode cX12_isShape 85 = .ok (.iinc 3 1, 3) := by decide +kernel
theorem dX12_isShape_88 : decode cX12_isShape 88 = .ok (.goto (-33), 3) := by decide +kernel
theorem dX12_isShape_91 : decode cX12_isShape 91 = .ok (.iconst 1, 1) := by decide +kernel
theorem dX12_isShape_92 : decode cX12_isShape 92 = .ok (.ireturn, 1) := by decide +kernel
theorem dX12_shapes_0 : decode cX12_shapes 0 = .ok (.iconst 0, 1) := by decide +kernel
theorem dX12_shapes_1 : decode cX12_shapes 1 = .ok (.istore_n 1, 1) := by decide +kernel
theorem dX12_shapes_2 : decode cX12_shapes 2 = .ok (.iconst 0, 1) := by decide +kernel
theorem dX12_shapes_3 : decode cX12_shapes 3 = .ok (.istore_n 2, 1) := by decide +kernel
theorem dX12_shapes_4 : decode cX12_shapes 4 = .ok (.iload_n 2, 1) := by decide +kernel
theorem dX12_shapes_5 : decode cX12_shapes 5 = .ok (.aload_n 0, 1) := by decide +kernel
theorem dX12_shapes_6 : decode cX12_shapes 6 = .ok (.invokevirtual 96, 3) := by decide +kernel
theorem dX12_shapes_9 : decode cX12_shapes 9 = .ok (.if_icmp .ge 58, 3) := by decide +kernel
theorem dX12_shapes_12 : decode cX12_shapes 12 = .ok (.iconst 1, 1) := by decide +kernel
theorem dX12_shapes_13 : decode cX12_shapes 13 = .ok (.istore_n 3, 1) := by decide +kernel
theorem dX12_shapes_14 : decode cX12_shapes 14 = .ok (.iconst 0, 1) := by decide +kernel
theorem dX12_shapes_15 : decode cX12_shapes 15 = .ok (.istore 4, 2) := by decide +kernel
theorem dX12_shapes_17 : decode cX12_shapes 17 = .ok (.iload 4, 2) := by decide +kernel
theorem dX12_shapes_19 : decode cX12_shapes 19 = .ok (.iload_n 2, 1) := by decide +kernel
theorem dX12_shapes_20 : decode cX12_shapes 20 = .ok (.if_icmp .ge 29, 3) := by decide +kernel
theorem dX12_shapes_23 : decode cX12_shapes 23 = .ok (.iload_n 3, 1) := by decide +kernel
theorem dX12_shapes_24 : decode cX12_shapes 24 = .ok (.ifCond .eq 25, 3) := by decide +kernel
theorem dX12_shapes_27 : decode cX12_shapes 27 = .ok (.aload_n 0, 1) := by decide +kernel
theorem dX12_shapes_28 : decode cX12_shapes 28 = .ok (.iload 4, 2) := by decide +kernel
theorem dX12_shapes_30 : decode cX12_shapes 30 = .ok (.iload_n 2, 1) := by decide +kernel
theorem dX12_shapes_31 : decode cX12_shapes 31 = .ok (.invokevirtual 136, 3) := by decide +kernel
theorem dX12_shapes_34 : decode cX12_shapes 34 = .ok (.ifCond .ne 7, 3) := by decide +kernel
theorem dX12_shapes_37 : decode cX12_shapes 37 = .ok (.iconst 1, 1) := by decide +kernel
theorem dX12_shapes_38 : decode cX12_shapes 38 = .ok (.goto 4, 3) := by decide +kernel
theorem dX12_shapes_41 : decode cX12_shapes 41 = .ok (.iconst 0, 1) := by decide +kernel
theorem dX12_shapes_42 : decode cX12_shapes 42 = .ok (.istore_n 3, 1) := by decide +kernel
theorem dX12_shapes_43 : decode cX12_shapes 43 = .ok (.iinc 4 1, 3) := by decide +kernel
theorem dX12_shapes_46 : decode cX12_shapes 46 = .ok (.goto (-29), 3) := by decide +kernel
theorem dX12_shapes_49 : decode cX12_shapes 49 = .ok (.iload_n 1, 1) := by decide +kernel
theorem dX12_shapes_50 : decode cX12_shapes 50 = .ok (.iload_n 3, 1) := by decide +kernel
theorem dX12_shapes_51 : decode cX12_shapes 51 = .ok (.ifCond .eq 7, 3) := by decide +kernel
theorem dX12_shapes_54 : decode cX12_shapes 54 = .ok (.iconst 1, 1) := by decide +kernel
theorem dX12_shapes_55 : decode cX12_shapes 55 = .ok (.goto 4, 3) := by decide +kernel
theorem dX12_shapes_58 : decode cX12_shapes 58 = .ok (.iconst 0, 1) := by decide +kernel
theorem dX12_shapes_59 : decode cX12_shapes 59 = .ok (.iadd, 1) := by decide +kernel
theorem dX12_shapes_60 : decode cX12_shapes 60 = .ok (.istore_n 1, 1) := by decide +kernel
theorem dX12_shapes_61 : decode cX12_shapes 61 = .ok (.iinc 2 1, 3) := by decide +kernel
theorem dX12_shapes_64 : decode cX12_shapes 64 = .ok (.goto (-60), 3) := by decide +kernel
theorem dX12_shapes_67 : decode cX12_shapes 67 = .ok (.iload_n 1, 1) := by decide +kernel
theorem dX12_shapes_68 : decode cX12_shapes 68 = .ok (.ireturn, 1) := by decide +kernel
theorem dX12_placeOf_0 : decode cX12_placeOf 0 = .ok (.iload_n 2, 1) := by decide +kernel
theorem dX12_placeOf_1 : decode cX12_placeOf 1 = .ok (.ifCond .ge 5, 3) := by decide +kernel
theorem dX12_placeOf_4 : decode cX12_placeOf 4 = .ok (.iconst (-1), 1) := by decide +kernel
theorem dX12_placeOf_5 : decode cX12_placeOf 5 = .ok (.ireturn, 1) := by decide +kernel
theorem dX12_placeOf_6 : decode cX12_placeOf 6 = .ok (.iload_n 2, 1) := by decide +kernel
theorem dX12_placeOf_7 : decode cX12_placeOf 7 = .ok (.ifCond .ne 5, 3) := by decide +kernel
theorem dX12_placeOf_10 : decode cX12_placeOf 10 = .ok (.iload_n 1, 1) := by decide +kernel
theorem dX12_placeOf_11 : decode cX12_placeOf 11 = .ok (.ireturn, 1) := by decide +kernel
theorem dX12_placeOf_12 : decode cX12_placeOf 12 = .ok (.iload_n 2, 1) := by decide +kernel
theorem dX12_placeOf_13 : decode cX12_placeOf 13 = .ok (.iconst 1, 1) := by decide +kernel
theorem dX12_placeOf_14 : decode cX12_placeOf 14 = .ok (.isub, 1) := by decide +kernel
theorem dX12_placeOf_15 : decode cX12_placeOf 15 = .ok (.istore_n 3, 1) := by decide +kernel
theorem dX12_placeOf_16 : decode cX12_placeOf 16 = .ok (.iconst 0, 1) := by decide +kernel
theorem dX12_placeOf_17 : decode cX12_placeOf 17 = .ok (.istore 4, 2) := by decide +kernel
theorem dX12_placeOf_19 : decode cX12_placeOf 19 = .ok (.iload 4, 2) := by decide +kernel
theorem dX12_placeOf_21 : decode cX12_placeOf 21 = .ok (.aload_n 0, 1) := by decide +kernel
theorem dX12_placeOf_22 : decode cX12_placeOf 22 = .ok (.iload_n 1, 1) := by decide +kernel
theorem dX12_placeOf_23 : decode cX12_placeOf 23 = .ok (.invokevirtual 111, 3) := by decide +kernel
theorem dX12_placeOf_26 : decode cX12_placeOf 26 = .ok (.if_icmp .ge 46, 3) := by decide +kernel
theorem dX12_placeOf_29 : decode cX12_placeOf 29 = .ok (.aload_n 0, 1) := by decide +kernel
theorem dX12_placeOf_30 : decode cX12_placeOf 30 = .ok (.aload_n 0, 1) := by decide +kernel
theorem dX12_placeOf_31 : decode cX12_placeOf 31 = .ok (.iload_n 1, 1) := by decide +kernel
theorem dX12_placeOf_32 : decode cX12_placeOf 32 = .ok (.iload 4, 2) := by decide +kernel
theorem dX12_placeOf_34 : decode cX12_placeOf 34 = .ok (.invokevirtual 88, 3) := by decide +kernel
theorem dX12_placeOf_37 : decode cX12_placeOf 37 = .ok (.invokevirtual 114, 3) := by decide +kernel
theorem dX12_placeOf_40 : decode cX12_placeOf 40 = .ok (.istore 5, 2) := by decide +kernel
theorem dX12_placeOf_42 : decode cX12_placeOf 42 = .ok (.iload_n 3, 1) := by decide +kernel
theorem dX12_placeOf_43 : decode cX12_placeOf 43 = .ok (.iload 5, 2) := by decide +kernel
theorem dX12_placeOf_45 : decode cX12_placeOf 45 = .ok (.if_icmp .ge 16, 3) := by decide +kernel
theorem dX12_placeOf_48 : decode cX12_placeOf 48 = .ok (.aload_n 0, 1) := by decide +kernel
theorem dX12_placeOf_49 : decode cX12_placeOf 49 = .ok (.aload_n 0, 1) := by decide +kernel
theorem dX12_placeOf_50 : decode cX12_placeOf 50 = .ok (.iload_n 1, 1) := by decide +kernel
theorem dX12_placeOf_51 : decode cX12_placeOf 51 = .ok (.iload 4, 2) := by decide +kernel
theorem dX12_placeOf_53 : decode cX12_placeOf 53 = .ok (.invokevirtual 88, 3) := by decide +kernel
theorem dX12_placeOf_56 : decode cX12_placeOf 56 = .ok (.iload_n 3, 1) := by decide +kernel
theorem dX12_placeOf_57 : decode cX12_placeOf 57 = .ok (.invokevirtual 139, 3) := by decide +kernel
theorem dX12_placeOf_60 : decode cX12_placeOf 60 = .ok (.ireturn, 1) := by decide +kernel
theorem dX12_placeOf_61 : decode cX12_placeOf 61 = .ok (.iload_n 3, 1) := by decide +kernel
theorem dX12_placeOf_62 : decode cX12_placeOf 62 = .ok (.iload 5, 2) := by decide +kernel
theorem dX12_placeOf_64 : decode cX12_placeOf 64 = .ok (.isub, 1) := by decide +kernel
theorem dX12_placeOf_65 : decode cX12_placeOf 65 = .ok (.istore_n 3, 1) := by decide +kernel
theorem dX12_placeOf_66 : decode cX12_placeOf 66 = .ok (.iinc 4 1, 3) := by decide +kernel
theorem dX12_placeOf_69 : decode cX12_placeOf 69 = .ok (.goto (-50), 3) := by decide +kernel
theorem dX12_placeOf_72 : decode cX12_placeOf 72 = .ok (.iconst (-1), 1) := by decide +kernel
theorem dX12_placeOf_73 : decode cX12_placeOf 73 = .ok (.ireturn, 1) := by decide +kernel
theorem dX12_isGreater_0 : decode cX12_isGreater 0 = .ok (.iload_n 1, 1) := by decide +kernel
theorem dX12_isGreater_1 : decode cX12_isGreater 1 = .ok (.iload_n 2, 1) := by decide +kernel
theorem dX12_isGreater_2 : decode cX12_isGreater 2 = .ok (.if_icmp .ne 5, 3) := by decide +kernel
theorem dX12_isGreater_5 : decode cX12_isGreater 5 = .ok (.iconst 0, 1) := by decide +kernel
theorem dX12_isGreater_6 : decode cX12_isGreater 6 = .ok (.ireturn, 1) := by decide +kernel
theorem dX12_isGreater_7 : decode cX12_isGreater 7 = .ok (.iconst 0, 1) := by decide +kernel
theorem dX12_isGreater_8 : decode cX12_isGreater 8 = .ok (.istore_n 3, 1) := by decide +kernel
theorem dX12_isGreater_9 : decode cX12_isGreater 9 = .ok (.iload_n 3, 1) := by decide +kernel
theorem dX12_isGreater_10 : decode cX12_isGreater 10 = .ok (.bipush 8, 2) := by decide +kernel
theorem dX12_isGreater_12 : decode cX12_isGreater 12 = .ok (.if_icmp .ge 26, 3) := by decide +kernel
theorem dX12_isGreater_15 : decode cX12_isGreater 15 = .ok (.aload_n 0, 1) := by decide +kernel
theorem dX12_isGreater_16 : decode cX12_isGreater 16 = .ok (.iload_n 1, 1) := by decide +kernel
theorem dX12_isGreater_17 : decode cX12_isGreater 17 = .ok (.iload_n 3, 1) := by decide +kernel
theorem dX12_isGreater_18 : decode cX12_isGreater 18 = .ok (.invokevirtual 129, 3) := by decide +kernel
theorem dX12_isGreater_21 : decode cX12_isGreater 21 = .ok (.aload_n 0, 1) := by decide +kernel
theorem dX12_isGreater_22 : decode cX12_isGreater 22 = .ok (.iload_n 2, 1) := by decide +kernel
theorem dX12_isGreater_23 : decode cX12_isGreater 23 = .ok (.iload_n 3, 1) := by decide +kernel
theorem dX12_isGreater_24 : decode cX12_isGreater 24 = .ok (.invokevirtual 129, 3) := by decide +kernel
theorem dX12_isGreater_27 : decode cX12_isGreater 27 = .ok (.if_icmp .ge 5, 3) := by decide +kernel
theorem dX12_isGreater_30 : decode cX12_isGreater 30 = .ok (.iconst 0, 1) := by decide +kernel
theorem dX12_isGreater_31 : decode cX12_isGreater 31 = .ok (.ireturn, 1) := by decide +kernel
theorem dX12_isGreater_32 : decode cX12_isGreater 32 = .ok (.iinc 3 1, 3) := by decide +kernel
theorem dX12_isGreater_35 : decode cX12_isGreater 35 = .ok (.goto (-26), 3) := by decide +kernel
theorem dX12_isGreater_38 : decode cX12_isGreater 38 = .ok (.aload_n 0, 1) := by decide +kernel
theorem dX12_isGreater_39 : decode cX12_isGreater 39 = .ok (.iload_n 1, 1) := by decide +kernel
theorem dX12_isGreater_40 : decode cX12_isGreater 40 = .ok (.invokevirtual 120, 3) := by decide +kernel
theorem dX12_isGreater_43 : decode cX12_isGreater 43 = .ok (.aload_n 0, 1) := by decide +kernel
theorem dX12_isGreater_44 : decode cX12_isGreater 44 = .ok (.iload_n 2, 1) := by decide +kernel
theorem dX12_isGreater_45 : decode cX12_isGreater 45 = .ok (.invokevirtual 120, 3) := by decide +kernel
theorem dX12_isGreater_48 : decode cX12_isGreater 48 = .ok (.isub, 1) := by decide +kernel
theorem dX12_isGreater_49 : decode cX12_isGreater 49 = .ok (.istore_n 3, 1) := by decide +kernel
theorem dX12_isGreater_50 : decode cX12_isGreater 50 = .ok (.iload_n 3, 1) := by decide +kernel
theorem dX12_isGreater_51 : decode cX12_isGreater 51 = .ok (.ifCond .eq 13, 3) := by decide +kernel
theorem dX12_isGreater_54 : decode cX12_isGreater 54 = .ok (.iload_n 3, 1) := by decide +kernel
theorem dX12_isGreater_55 : decode cX12_isGreater 55 = .ok (.ifCond .le 7, 3) := by decide +kernel
theorem dX12_isGreater_58 : decode cX12_isGreater 58 = .ok (.iconst 1, 1) := by decide +kernel
theorem dX12_isGreater_59 : decode cX12_isGreater 59 = .ok (.goto 4, 3) := by decide +kernel
theorem dX12_isGreater_62 : decode cX12_isGreater 62 = .ok (.iconst 0, 1) := by decide +kernel
theorem dX12_isGreater_63 : decode cX12_isGreater 63 = .ok (.ireturn, 1) := by decide +kernel
theorem dX12_isGreater_64 : decode cX12_isGreater 64 = .ok (.aload_n 0, 1) := by decide +kernel
theorem dX12_isGreater_65 : decode cX12_isGreater 65 = .ok (.iload_n 2, 1) := by decide +kernel
theorem dX12_isGreater_66 : decode cX12_isGreater 66 = .ok (.invokevirtual 78, 3) := by decide +kernel
theorem dX12_isGreater_69 : decode cX12_isGreater 69 = .ok (.ifCond .eq 5, 3) := by decide +kernel
theorem dX12_isGreater_72 : decode cX12_isGreater 72 = .ok (.iconst 1, 1) := by decide +kernel
theorem dX12_isGreater_73 : decode cX12_isGreater 73 = .ok (.ireturn, 1) := by decide +kernel
theorem dX12_isGreater_74 : decode cX12_isGreater 74 = .ok (.aload_n 0, 1) := by decide +kernel
theorem dX12_isGreater_75 : decode cX12_isGreater 75 = .ok (.iload_n 1, 1) := by decide +kernel
theorem dX12_isGreater_76 : decode cX12_isGreater 76 = .ok (.invokevirtual 78, 3) := by decide +kernel
theorem dX12_isGreater_79 : decode cX12_isGreater 79 = .ok (.ifCond .eq 5, 3) := by decide +kernel
theorem dX12_isGreater_82 : decode cX12_isGreater 82 = .ok (.iconst 0, 1) := by decide +kernel
theorem dX12_isGreater_83 : decode cX12_isGreater 83 = .ok (.ireturn, 1) := by decide +kernel
theorem dX12_isGreater_84 : decode cX12_isGreater 84 = .ok (.aload_n 0, 1) := by decide +kernel
theorem dX12_isGreater_85 : decode cX12_isGreater 85 = .ok (.iload_n 1, 1) := by decide +kernel
theorem dX12_isGreater_86 : decode cX12_isGreater 86 = .ok (.invokevirtual 74, 3) := by decide +kernel
theorem dX12_isGreater_89 : decode cX12_isGreater 89 = .ok (.aload_n 0, 1) := by decide +kernel
theorem dX12_isGreater_90 : decode cX12_isGreater 90 = .ok (.iload_n 2, 1) := by decide +kernel
theorem dX12_isGreater_91 : decode cX12_isGreater 91 = .ok (.invokevirtual 74, 3) := by decide +kernel
theorem dX12_isGreater_94 : decode cX12_isGreater 94 = .ok (.if_icmp .eq 22, 3) := by decide +kernel
theorem dX12_isGreater_97 : decode cX12_isGreater 97 = .ok (.aload_n 0, 1) := by decide +kernel
theorem dX12_isGreater_98 : decode cX12_isGreater 98 = .ok (.iload_n 1, 1) := by decide +kernel
theorem dX12_isGreater_99 : decode cX12_isGreater 99 = .ok (.invokevirtual 74, 3) := by decide +kernel
theorem dX12_isGreater_102 : decode cX12_isGreater 102 = .ok (.aload_n 0, 1) := by decide +kernel
theorem dX12_isGreater_103 : decode cX12_isGreater 103 = .ok (.iload_n 2, 1) := by decide +kernel
theorem dX12_isGreater_104 : decode cX12_isGreater 104 = .ok (.invokevirtual 74, 3) := by decide +kernel
theorem dX12_isGreater_107 : decode cX12_isGreater 107 = .ok (.if_icmp .le 7, 3) := by decide +kernel
theorem dX12_isGreater_110 : decode cX12_isGreater 110 = .ok (.iconst 1, 1) := by decide +kernel
theorem dX12_isGreater_111 : decode cX12_isGreater 111 = .ok (.goto 4, 3) := by decide +kernel
theorem dX12_isGreater_114 : decode cX12_isGreater 114 = .ok (.iconst 0, 1) := by decide +kernel
theorem dX12_isGreater_115 : decode cX12_isGreater 115 = .ok (.ireturn, 1) := by decide +kernel
theorem dX12_isGreater_116 : decode cX12_isGreater 116 = .ok (.iconst 0, 1) := by decide +kernel
theorem dX12_isGreater_117 : decode cX12_isGreater 117 = .ok (.istore 4, 2) := by decide +kernel
theorem dX12_isGreater_119 : decode cX12_isGreater 119 = .ok (.aload_n 0, 1) := by decide +kernel
theorem dX12_isGreater_120 : decode cX12_isGreater 120 = .ok (.iload_n 1, 1) := by decide +kernel
theorem dX12_isGreater_121 : decode cX12_isGreater 121 = .ok (.iload 4, 2) := by decide +kernel
theorem dX12_isGreater_123 : decode cX12_isGreater 123 = .ok (.invokevirtual 88, 3) := by decide +kernel
theorem dX12_isGreater_126 : decode cX12_isGreater 126 = .ok (.aload_n 0, 1) := by decide +kernel
theorem dX12_isGreater_127 : decode cX12_isGreater 127 = .ok (.iload_n 2, 1) := by decide +kernel
theorem dX12_isGreater_128 : decode cX12_isGreater 128 = .ok (.iload 4, 2) := by decide +kernel
theorem dX12_isGreater_130 : decode cX12_isGreater 130 = .ok (.invokevirtual 88, 3) := by decide +kernel
theorem dX12_isGreater_133 : decode cX12_isGreater 133 = .ok (.if_icmp .ne 9, 3) := by decide +kernel
theorem dX12_isGreater_136 : decode cX12_isGreater 136 = .ok (.iinc 4 1, 3) := by decide +kernel
theorem dX12_isGreater_139 : decode cX12_isGreater 139 = .ok (.goto (-20), 3) := by decide +kernel
theorem dX12_isGreater_142 : decode cX12_isGreater 142 = .ok (.aload_n 0, 1) := by decide +kernel
theorem dX12_isGreater_143 : decode cX12_isGreater 143 = .ok (.aload_n 0, 1) := by decide +kernel
theorem dX12_isGreater_144 : decode cX12_isGreater 144 = .ok (.iload_n 1, 1) := by decide +kernel
theorem dX12_isGreater_145 : decode cX12_isGreater 145 = .ok (.iload 4, 2) := by decide +kernel
theorem dX12_isGreater_147 : decode cX12_isGreater 147 = .ok (.invokevirtual 88, 3) := by decide +kernel
theorem dX12_isGreater_150 : decode cX12_isGreater 150 = .ok (.aload_n 0, 1) := by decide +kernel
theorem dX12_isGreater_151 : decode cX12_isGreater 151 = .ok (.iload_n 2, 1) := by decide +kernel
theorem dX12_isGreater_152 : decode cX12_isGreater 152 = .ok (.iload 4, 2) := by decide +kernel
theorem dX12_isGreater_154 : decode cX12_isGreater 154 = .ok (.invokevirtual 88, 3) := by decide +kernel
theorem dX12_isGreater_157 : decode cX12_isGreater 157 = .ok (.invokevirtual 142, 3) := by decide +kernel
theorem dX12_isGreater_160 : decode cX12_isGreater 160 = .ok (.ireturn, 1) := by decide +kernel
theorem dX12_isRule_0 : decode cX12_isRule 0 = .ok (.aload_n 0, 1) := by decide +kernel
theorem dX12_isRule_1 : decode cX12_isRule 1 = .ok (.iload_n 1, 1) := by decide +kernel
theorem dX12_isRule_2 : decode cX12_isRule 2 = .ok (.invokevirtual 78, 3) := by decide +kernel
theorem dX12_isRule_5 : decode cX12_isRule 5 = .ok (.ifCond .ne 36, 3) := by decide +kernel
theorem dX12_isRule_8 : decode cX12_isRule 8 = .ok (.aload_n 0, 1) := by decide +kernel
theorem dX12_isRule_9 : decode cX12_isRule 9 = .ok (.iload_n 1, 1) := by decide +kernel
theorem dX12_isRule_10 : decode cX12_isRule 10 = .ok (.iload_n 2, 1) := by decide +kernel
theorem dX12_isRule_11 : decode cX12_isRule 11 = .ok (.invokevirtual 142, 3) := by decide +kernel
theorem dX12_isRule_14 : decode cX12_isRule 14 = .ok (.ifCond .eq 27, 3) := by decide +kernel
theorem dX12_isRule_17 : decode cX12_isRule 17 = .ok (.aload_n 0, 1) := by decide +kernel
theorem dX12_isRule_18 : decode cX12_isRule 18 = .ok (.iload_n 1, 1) := by decide +kernel
theorem dX12_isRule_19 : decode cX12_isRule 19 = .ok (.invokevirtual 114, 3) := by decide +kernel
theorem dX12_isRule_22 : decode cX12_isRule 22 = .ok (.bipush 12, 2) := by decide +kernel
theorem dX12_isRule_24 : decode cX12_isRule 24 = .ok (.if_icmp .gt 17, 3) := by decide +kernel
theorem dX12_isRule_27 : decode cX12_isRule 27 = .ok (.aload_n 0, 1) := by decide +kernel
theorem dX12_isRule_28 : decode cX12_isRule 28 = .ok (.iload_n 2, 1) := by decide +kernel
theorem dX12_isRule_29 : decode cX12_isRule 29 = .ok (.invokevirtual 114, 3) := by decide +kernel
theorem dX12_isRule_32 : decode cX12_isRule 32 = .ok (.bipush 12, 2) := by decide +kernel
theorem dX12_isRule_34 : decode cX12_isRule 34 = .ok (.if_icmp .gt 7, 3) := by decide +kernel
theorem dX12_isRule_37 : decode cX12_isRule 37 = .ok (.iconst 1, 1) := by decide +kernel
theorem dX12_isRule_38 : decode cX12_isRule 38 = .ok (.goto 4, 3) := by decide +kernel
theorem dX12_isRule_41 : decode cX12_isRule 41 = .ok (.iconst 0, 1) := by decide +kernel
theorem dX12_isRule_42 : decode cX12_isRule 42 = .ok (.ireturn, 1) := by decide +kernel
theorem dX12_matches_0 : decode cX12_matches 0 = .ok (.aload_n 0, 1) := by decide +kernel
theorem dX12_matches_1 : decode cX12_matches 1 = .ok (.iload_n 1, 1) := by decide +kernel
theorem dX12_matches_2 : decode cX12_matches 2 = .ok (.invokevirtual 78, 3) := by decide +kernel
theorem dX12_matches_5 : decode cX12_matches 5 = .ok (.ifCond .eq 42, 3) := by decide +kernel
theorem dX12_matches_8 : decode cX12_matches 8 = .ok (.aload_n 0, 1) := by decide +kernel
theorem dX12_matches_9 : decode cX12_matches 9 = .ok (.iload_n 1, 1) := by decide +kernel
theorem dX12_matches_10 : decode cX12_matches 10 = .ok (.invokevirtual 123, 3) := by decide +kernel
theorem dX12_matches_13 : decode cX12_matches 13 = .ok (.istore_n 3, 1) := by decide +kernel
theorem dX12_matches_14 : decode cX12_matches 14 = .ok (.aload_n 0, 1) := by decide +kernel
theorem dX12_matches_15 : decode cX12_matches 15 = .ok (.getfield 41, 3) := by decide +kernel
theorem dX12_matches_18 : decode cX12_matches 18 = .ok (.iload_n 3, 1) := by decide +kernel
theorem dX12_matches_19 : decode cX12_matches 19 = .ok (.iaload, 1) := by decide +kernel
theorem dX12_matches_20 : decode cX12_matches 20 = .ok (.iconst (-1), 1) := by decide +kernel
theorem dX12_matches_21 : decode cX12_matches 21 = .ok (.if_icmp .ne 10, 3) := by decide +kernel
theorem dX12_matches_24 : decode cX12_matches 24 = .ok (.aload_n 0, 1) := by decide +kernel
theorem dX12_matches_25 : decode cX12_matches 25 = .ok (.getfield 41, 3) := by decide +kernel
theorem dX12_matches_28 : decode cX12_matches 28 = .ok (.iload_n 3, 1) := by decide +kernel
theorem dX12_matches_29 : decode cX12_matches 29 = .ok (.iload_n 2, 1) := by decide +kernel
theorem dX12_matches_30 : decode cX12_matches 30 = .ok (.iastore, 1) := by decide +kernel
theorem dX12_matches_31 : decode cX12_matches 31 = .ok (.aload_n 0, 1) := by decide +kernel
theorem dX12_matches_32 : decode cX12_matches 32 = .ok (.getfield 41, 3) := by decide +kernel
theorem dX12_matches_35 : decode cX12_matches 35 = .ok (.iload_n 3, 1) := by decide +kernel
theorem dX12_matches_36 : decode cX12_matches 36 = .ok (.iaload, 1) := by decide +kernel
theorem dX12_matches_37 : decode cX12_matches 37 = .ok (.iload_n 2, 1) := by decide +kernel
theorem dX12_matches_38 : decode cX12_matches 38 = .ok (.if_icmp .ne 7, 3) := by decide +kernel
theorem dX12_matches_41 : decode cX12_matches 41 = .ok (.iconst 1, 1) := by decide +kernel
theorem dX12_matches_42 : decode cX12_matches 42 = .ok (.goto 4, 3) := by decide +kernel
theorem dX12_matches_45 : decode cX12_matches 45 = .ok (.iconst 0, 1) := by decide +kernel
theorem dX12_matches_46 : decode cX12_matches 46 = .ok (.ireturn, 1) := by decide +kernel
theorem dX12_matches_47 : decode cX12_matches 47 = .ok (.aload_n 0, 1) := by decide +kernel
theorem dX12_matches_48 : decode cX12_matches 48 = .ok (.iload_n 1, 1) := by decide +kernel
theorem dX12_matches_49 : decode cX12_matches 49 = .ok (.invokevirtual 74, 3) := by decide +kernel
theorem dX12_matches_52 : decode cX12_matches 52 = .ok (.aload_n 0, 1) := by decide +kernel
theorem dX12_matches_53 : decode cX12_matches 53 = .ok (.iload_n 2, 1) := by decide +kernel
theorem dX12_matches_54 : decode cX12_matches 54 = .ok (.invokevirtual 74, 3) := by decide +kernel
theorem dX12_matches_57 : decode cX12_matches 57 = .ok (.if_icmp .eq 5, 3) := by decide +kernel
theorem dX12_matches_60 : decode cX12_matches 60 = .ok (.iconst 0, 1) := by decide +kernel
theorem dX12_matches_61 : decode cX12_matches 61 = .ok (.ireturn, 1) := by decide +kernel
theorem dX12_matches_62 : decode cX12_matches 62 = .ok (.iconst 0, 1) := by decide +kernel
theorem dX12_matches_63 : decode cX12_matches 63 = .ok (.istore_n 3, 1) := by decide +kernel
theorem dX12_matches_64 : decode cX12_matches 64 = .ok (.iload_n 3, 1) := by decide +kernel
theorem dX12_matches_65 : decode cX12_matches 65 = .ok (.aload_n 0, 1) := by decide +kernel
theorem dX12_matches_66 : decode cX12_matches 66 = .ok (.iload_n 1, 1) := by decide +kernel
theorem dX12_matches_67 : decode cX12_matches 67 = .ok (.invokevirtual 111, 3) := by decide +kernel
theorem dX12_matches_70 : decode cX12_matches 70 = .ok (.if_icmp .ge 30, 3) := by decide +kernel
theorem dX12_matches_73 : decode cX12_matches 73 = .ok (.aload_n 0, 1) := by decide +kernel
theorem dX12_matches_74 : decode cX12_matches 74 = .ok (.aload_n 0, 1) := by decide +kernel
theorem dX12_matches_75 : decode cX12_matches 75 = .ok (.iload_n 1, 1) := by decide +kernel
theorem dX12_matches_76 : decode cX12_matches 76 = .ok (.iload_n 3, 1) := by decide +kernel
theorem dX12_matches_77 : decode cX12_matches 77 = .ok (.invokevirtual 88, 3) := by decide +kernel
theorem dX12_matches_80 : decode cX12_matches 80 = .ok (.aload_n 0, 1) := by decide +kernel
theorem dX12_matches_81 : decode cX12_matches 81 = .ok (.iload_n 2, 1) := by decide +kernel
end
