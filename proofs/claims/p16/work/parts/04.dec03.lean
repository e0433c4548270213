theorem dX6_init_0 : decode cX6_init 0 = .ok (.aload_n 0, 1) := by decide +kernel
theorem dX6_init_1 : decode cX6_init 1 = .ok (.invokespecial 3, 3) := by decide +kernel
theorem dX6_init_4 : decode cX6_init 4 = .ok (.aload_n 0, 1) := by decide +kernel
theorem dX6_init_5 : decode cX6_init 5 = .ok (.sipush 612, 3) := by decide +kernel
theorem dX6_init_8 : decode cX6_init 8 = .ok (.newarray .int, 2) := by decide +kernel
theorem dX6_init_10 : decode cX6_init 10 = .ok (.putfield 11, 3) := by decide +kernel
theorem dX6_init_13 : decode cX6_init 13 = .ok (.aload_n 0, 1) := by decide +kernel
theorem dX6_init_14 : decode cX6_init 14 = .ok (.sipush 612, 3) := by decide +kernel
theorem dX6_init_17 : decode cX6_init 17 = .ok (.newarray .int, 2) := by decide +kernel
theorem dX6_init_19 : decode cX6_init 19 = .ok (.putfield 15, 3) := by decide +kernel
theorem dX6_init_22 : decode cX6_init 22 = .ok (.aload_n 0, 1) := by decide +kernel
theorem dX6_init_23 : decode cX6_init 23 = .ok (.sipush 1836, 3) := by decide +kernel
theorem dX6_init_26 : decode cX6_init 26 = .ok (.newarray .int, 2) := by decide +kernel
theorem dX6_init_28 : decode cX6_init 28 = .ok (.putfield 18, 3) := by decide +kernel
theorem dX6_init_31 : decode cX6_init 31 = .ok (.aload_n 0, 1) := by decide +kernel
theorem dX6_init_32 : decode cX6_init 32 = .ok (.iconst 0, 1) := by decide +kernel
theorem dX6_init_33 : decode cX6_init 33 = .ok (.putfield 21, 3) := by decide +kernel
theorem dX6_init_36 : decode cX6_init 36 = .ok (.aload_n 0, 1) := by decide +kernel
theorem dX6_init_37 : decode cX6_init 37 = .ok (.iconst 0, 1) := by decide +kernel
theorem dX6_init_38 : decode cX6_init 38 = .ok (.putfield 25, 3) := by decide +kernel
theorem dX6_init_41 : decode cX6_init 41 = .ok (.aload_n 0, 1) := by decide +kernel
theorem dX6_init_42 : decode cX6_init 42 = .ok (.aload_n 1, 1) := by decide +kernel
theorem dX6_init_43 : decode cX6_init 43 = .ok (.putfield 28, 3) := by decide +kernel
theorem dX6_init_46 : decode cX6_init 46 = .ok (.aload_n 0, 1) := by decide +kernel
theorem dX6_init_47 : decode cX6_init 47 = .ok (.aload_n 1, 1) := by decide +kernel
theorem dX6_init_48 : decode cX6_init 48 = .ok (.getfield 32, 3) := by decide +kernel
theorem dX6_init_51 : decode cX6_init 51 = .ok (.putfield 38, 3) := by decide +kernel
theorem dX6_init_54 : decode cX6_init 54 = .ok (.aload_n 0, 1) := by decide +kernel
theorem dX6_init_55 : decode cX6_init 55 = .ok (.aload_n 2, 1) := by decide +kernel
theorem dX6_init_56 : decode cX6_init 56 = .ok (.putfield 39, 3) := by decide +kernel
theorem dX6_init_59 : decode cX6_init 59 = .ok (.aload_n 0, 1) := by decide +kernel
theorem dX6_init_60 : decode cX6_init 60 = .ok (.aload_n 3, 1) := by decide +kernel
theorem dX6_init_61 : decode cX6_init 61 = .ok (.putfield 43, 3) := by decide +kernel
theorem dX6_init_64 : decode cX6_init 64 = .ok (.return_, 1) := by decide +kernel
theorem dX6_allowSteps_0 : decode cX6_allowSteps 0 = .ok (.aload_n 0, 1) := by decide +kernel
theorem dX6_allowSteps_1 : decode cX6_allowSteps 1 = .ok (.bipush 100, 2) := by decide +kernel
theorem dX6_allowSteps_3 : decode cX6_allowSteps 3 = .ok (.putfield 25, 3) := by decide +kernel
theorem dX6_allowSteps_6 : decode cX6_allowSteps 6 = .ok (.return_, 1) := by decide +kernel
theorem dX6_normalOf_0 : decode cX6_normalOf 0 = .ok (.aload_n 0, 1) := by decide +kernel
theorem dX6_normalOf_1 : decode cX6_normalOf 1 = .ok (.iconst 0, 1) := by decide +kernel
theorem dX6_normalOf_2 : decode cX6_normalOf 2 = .ok (.putfield 21, 3) := by decide +kernel
theorem dX6_normalOf_5 : decode cX6_normalOf 5 = .ok (.aload_n 0, 1) := by decide +kernel
theorem dX6_normalOf_6 : decode cX6_normalOf 6 = .ok (.iload_n 1, 1) := by decide +kernel
theorem dX6_normalOf_7 : decode cX6_normalOf 7 = .ok (.invokevirtual 47, 3) := by decide +kernel
theorem dX6_normalOf_10 : decode cX6_normalOf 10 = .ok (.istore_n 2, 1) := by decide +kernel
theorem dX6_normalOf_11 : decode cX6_normalOf 11 = .ok (.iconst 0, 1) := by decide +kernel
theorem dX6_normalOf_12 : decode cX6_normalOf 12 = .ok (.istore_n 3, 1) := by decide +kernel
theorem dX6_normalOf_13 : decode cX6_normalOf 13 = .ok (.iload_n 3, 1) := by decide +kernel
theorem dX6_normalOf_14 : decode cX6_normalOf 14 = .ok (.ldc 51, 2) := by decide +kernel
theorem dX6_normalOf_16 : decode cX6_normalOf 16 = .ok (.if_icmp .ge 51, 3) := by decide +kernel
theorem dX6_normalOf_19 : decode cX6_normalOf 19 = .ok (.aload_n 0, 1) := by decide +kernel
theorem dX6_normalOf_20 : decode cX6_normalOf 20 = .ok (.getfield 21, 3) := by decide +kernel
theorem dX6_normalOf_23 : decode cX6_normalOf 23 = .ok (.ifCond .le 44, 3) := by decide +kernel
theorem dX6_normalOf_26 : decode cX6_normalOf 26 = .ok (.iload_n 2, 1) := by decide +kernel
theorem dX6_normalOf_27 : decode cX6_normalOf 27 = .ok (.iconst (-1), 1) := by decide +kernel
theorem dX6_normalOf_28 : decode cX6_normalOf 28 = .ok (.if_icmp .lt 39, 3) := by decide +kernel
theorem dX6_normalOf_31 : decode cX6_normalOf 31 = .ok (.iload_n 2, 1) := by decide +kernel
theorem dX6_normalOf_32 : decode cX6_normalOf 32 = .ok (.iconst (-1), 1) := by decide +kernel
theorem dX6_normalOf_33 : decode cX6_normalOf 33 = .ok (.if_icmp .ne 16, 3) := by decide +kernel
theorem dX6_normalOf_36 : decode cX6_normalOf 36 = .ok (.aload_n 0, 1) := by decide +kernel
theorem dX6_normalOf_37 : decode cX6_normalOf 37 = .ok (.aload_n 0, 1) := by decide +kernel
theorem dX6_normalOf_38 : decode cX6_normalOf 38 = .ok (.getfield 21, 3) := by decide +kernel
theorem dX6_normalOf_41 : decode cX6_normalOf 41 = .ok (.iconst 1, 1) := by decide +kernel
theorem dX6_normalOf_42 : decode cX6_normalOf 42 = .ok (.isub, 1) := by decide +kernel
theorem dX6_normalOf_43 : decode cX6_normalOf 43 = .ok (.invokevirtual 52, 3) := by decide +kernel
theorem dX6_normalOf_46 : decode cX6_normalOf 46 = .ok (.goto 14, 3) := by decide +kernel
theorem dX6_normalOf_49 : decode cX6_normalOf 49 = .ok (.aload_n 0, 1) := by decide +kernel
theorem dX6_normalOf_50 : decode cX6_normalOf 50 = .ok (.iload_n 2, 1) := by decide +kernel
theorem dX6_normalOf_51 : decode cX6_normalOf 51 = .ok (.aload_n 0, 1) := by decide +kernel
theorem dX6_normalOf_52 : decode cX6_normalOf 52 = .ok (.getfield 21, 3) := by decide +kernel
theorem dX6_normalOf_55 : decode cX6_normalOf 55 = .ok (.iconst 1, 1) := by decide +kernel
theorem dX6_normalOf_56 : decode cX6_normalOf 56 = .ok (.isub, 1) := by decide +kernel
theorem dX6_normalOf_57 : decode cX6_normalOf 57 = .ok (.invokevirtual 55, 3) := by decide +kernel
theorem dX6_normalOf_60 : decode cX6_normalOf 60 = .ok (.istore_n 2, 1) := by decide +kernel
theorem dX6_normalOf_61 : decode cX6_normalOf 61 = .ok (.iinc 3 1, 3) := by decide +kernel
theorem dX6_normalOf_64 : decode cX6_normalOf 64 = .ok (.goto (-51), 3) := by decide +kernel
theorem dX6_normalOf_67 : decode cX6_normalOf 67 = .ok (.iload_n 2, 1) := by decide +kernel
theorem dX6_normalOf_68 : decode cX6_normalOf 68 = .ok (.iconst (-1), 1) := by decide +kernel
theorem dX6_normalOf_69 : decode cX6_normalOf 69 = .ok (.if_icmp .ne 8, 3) := by decide +kernel
theorem dX6_normalOf_72 : decode cX6_normalOf 72 = .ok (.bipush (-2), 2) := by decide +kernel
theorem dX6_normalOf_74 : decode cX6_normalOf 74 = .ok (.goto 4, 3) := by decide +kernel
theorem dX6_normalOf_77 : decode cX6_normalOf 77 = .ok (.iload_n 2, 1) := by decide +kernel
theorem dX6_normalOf_78 : decode cX6_normalOf 78 = .ok (.ireturn, 1) := by decide +kernel
theorem dX6_opened_0 : decode cX6_opened 0 = .ok (.iload_n 1, 1) := by decide +kernel
theorem dX6_opened_1 : decode cX6_opened 1 = .ok (.ifCond .lt 14, 3) := by decide +kernel
theorem dX6_opened_4 : decode cX6_opened 4 = .ok (.aload_n 0, 1) := by decide +kernel
theorem dX6_opened_5 : decode cX6_opened 5 = .ok (.getfield 38, 3) := by decide +kernel
theorem dX6_opened_8 : decode cX6_opened 8 = .ok (.iload_n 1, 1) := by decide +kernel
theorem dX6_opened_9 : decode cX6_opened 9 = .ok (.invokevirtual 59, 3) := by decide +kernel
theorem dX6_opened_12 : decode cX6_opened 12 = .ok (.ifCond .eq 5, 3) := by decide +kernel
theorem dX6_opened_15 : decode cX6_opened 15 = .ok (.iload_n 1, 1) := by decide +kernel
theorem dX6_opened_16 : decode cX6_opened 16 = .ok (.ireturn, 1) := by decide +kernel
theorem dX6_opened_17 : decode cX6_opened 17 = .ok (.aload_n 0, 1) := by decide +kernel
theorem dX6_opened_18 : decode cX6_opened 18 = .ok (.getfield 28, 3) := by decide +kernel
theorem dX6_opened_21 : decode cX6_opened 21 = .ok (.getfield 65, 3) := by decide +kernel
theorem dX6_opened_24 : decode cX6_opened 24 = .ok (.iload_n 1, 1) := by decide +kernel
theorem dX6_opened_25 : decode cX6_opened 25 = .ok (.invokevirtual 69, 3) := by decide +kernel
theorem dX6_opened_28 : decode cX6_opened 28 = .ok (.istore_n 2, 1) := by decide +kernel
theorem dX6_opened_29 : decode cX6_opened 29 = .ok (.iload_n 2, 1) := by decide +kernel
theorem dX6_opened_30 : decode cX6_opened 30 = .ok (.iconst (-1), 1) := by decide +kernel
theorem dX6_opened_31 : decode cX6_opened 31 = .ok (.if_icmp .eq 5, 3) := by decide +kernel
theorem dX6_opened_34 : decode cX6_opened 34 = .ok (.iload_n 2, 1) := by decide +kernel
theorem dX6_opened_35 : decode cX6_opened 35 = .ok (.ireturn, 1) := by decide +kernel
theorem dX6_opened_36 : decode cX6_opened 36 = .ok (.aload_n 0, 1) := by decide +kernel
theorem dX6_opened_37 : decode cX6_opened 37 = .ok (.getfield 21, 3) := by decide +kernel
theorem dX6_opened_40 : decode cX6_opened 40 = .ok (.sipush 612, 3) := by decide +kernel
theorem dX6_opened_43 : decode cX6_opened 43 = .ok (.if_icmp .lt 6, 3) := by decide +kernel
theorem dX6_opened_46 : decode cX6_opened 46 = .ok (.bipush (-2), 2) := by decide +kernel
theorem dX6_opened_48 : decode cX6_opened 48 = .ok (.ireturn, 1) := by decide +kernel
theorem dX6_opened_49 : decode cX6_opened 49 = .ok (.aload_n 0, 1) := by decide +kernel
theorem dX6_opened_50 : decode cX6_opened 50 = .ok (.getfield 11, 3) := by decide +kernel
theorem dX6_opened_53 : decode cX6_opened 53 = .ok (.aload_n 0, 1) := by decide +kernel
theorem dX6_opened_54 : decode cX6_opened 54 = .ok (.getfield 21, 3) := by decide +kernel
theorem dX6_opened_57 : decode cX6_opened 57 = .ok (.iload_n 1, 1) := by decide +kernel
theorem dX6_opened_58 : decode cX6_opened 58 = .ok (.iastore, 1) := by decide +kernel
theorem dX6_opened_59 : decode cX6_opened 59 = .ok (.aload_n 0, 1) := by decide +kernel
theorem dX6_opened_60 : decode cX6_opened 60 = .ok (.getfield 15, 3) := by decide +kernel
theorem dX6_opened_63 : decode cX6_opened 63 = .ok (.aload_n 0, 1) := by decide +kernel
theorem dX6_opened_64 : decode cX6_opened 64 = .ok (.getfield 21, 3) := by decide +kernel
theorem dX6_opened_67 : decode cX6_opened 67 = .ok (.iconst 0, 1) := by decide +kernel
theorem dX6_opened_68 : decode cX6_opened 68 = .ok (.iastore, 1) := by decide +kernel
theorem dX6_opened_69 : decode cX6_opened 69 = .ok (.aload_n 0, 1) := by decide +kernel
theorem dX6_opened_70 : decode cX6_opened 70 = .ok (.dup, 1) := by decide +kernel
theorem dX6_opened_71 : decode cX6_opened 71 = .ok (.getfield 21, 3) := by decide +kernel
theorem dX6_opened_74 : decode cX6_opened 74 = .ok (.iconst 1, 1) := by decide +kernel
theorem dX6_opened_75 : decode cX6_opened 75 = .ok (.iadd, 1) := by decide +kernel
theorem dX6_opened_76 : decode cX6_opened 76 = .ok (.putfield 21, 3) := by decide +kernel
theorem dX6_opened_79 : decode cX6_opened 79 = .ok (.iconst (-1), 1) := by decide +kernel
theorem dX6_opened_80 : decode cX6_opened 80 = .ok (.ireturn, 1) := by decide +kernel
theorem dX6_wentOn_0 : decode cX6_wentOn 0 = .ok (.aload_n 0, 1) := by decide +kernel
theorem dX6_wentOn_1 : decode cX6_wentOn 1 = .ok (.getfield 11, 3) := by decide +kernel
theorem dX6_wentOn_4 : decode cX6_wentOn 4 = .ok (.iload_n 1, 1) := by decide +kernel
theorem dX6_wentOn_5 : decode cX6_wentOn 5 = .ok (.iaload, 1) := by decide +kernel
theorem dX6_wentOn_6 : decode cX6_wentOn 6 = .ok (.istore_n 2, 1) := by decide +kernel
theorem dX6_wentOn_7 : decode cX6_wentOn 7 = .ok (.aload_n 0, 1) := by decide +kernel
theorem dX6_wentOn_8 : decode cX6_wentOn 8 = .ok (.getfield 15, 3) := by decide +kernel
theorem dX6_wentOn_11 : decode cX6_wentOn 11 = .ok (.iload_n 1, 1) := by decide +kernel
theorem dX6_wentOn_12 : decode cX6_wentOn 12 = .ok (.iaload, 1) := by decide +kernel
theorem dX6_wentOn_13 : decode cX6_wentOn 13 = .ok (.aload_n 0, 1) := by decide +kernel
theorem dX6_wentOn_14 : decode cX6_wentOn 14 = .ok (.getfield 38, 3) := by decide +kernel
theorem dX6_wentOn_17 : decode cX6_wentOn 17 = .ok (.getfield 74, 3) := by decide +kernel
theorem dX6_wentOn_20 : decode cX6_wentOn 20 = .ok (.iload_n 2, 1) := by decide +kernel
theorem dX6_wentOn_21 : decode cX6_wentOn 21 = .ok (.iaload, 1) := by decide +kernel
theorem dX6_wentOn_22 : decode cX6_wentOn 22 = .ok (.if_icmp .ge 22, 3) := by decide +kernel
theorem dX6_wentOn_25 : decode cX6_wentOn 25 = .ok (.aload_n 0, 1) := by decide +kernel
theorem dX6_wentOn_26 : decode cX6_wentOn 26 = .ok (.aload_n 0, 1) := by decide +kernel
theorem dX6_wentOn_27 : decode cX6_wentOn 27 = .ok (.getfield 38, 3) := by decide +kernel
theorem dX6_wentOn_30 : decode cX6_wentOn 30 = .ok (.iload_n 2, 1) := by decide +kernel
theorem dX6_wentOn_31 : decode cX6_wentOn 31 = .ok (.aload_n 0, 1) := by decide +kernel
theorem dX6_wentOn_32 : decode cX6_wentOn 32 = .ok (.getfield 15, 3) := by decide +kernel
theorem dX6_wentOn_35 : decode cX6_wentOn 35 = .ok (.iload_n 1, 1) := by decide +kernel
theorem dX6_wentOn_36 : decode cX6_wentOn 36 = .ok (.iaload, 1) := by decide +kernel
theorem dX6_wentOn_37 : decode cX6_wentOn 37 = .ok (.invokevirtual 77, 3) := by decide +kernel
theorem dX6_wentOn_40 : decode cX6_wentOn 40 = .ok (.invokevirtual 47, 3) := by decide +kernel
theorem dX6_wentOn_43 : decode cX6_wentOn 43 = .ok (.ireturn, 1) := by decide +kernel
theorem dX6_wentOn_44 : decode cX6_wentOn 44 = .ok (.iload_n 1, 1) := by decide +kernel
theorem dX6_wentOn_45 : decode cX6_wentOn 45 = .ok (.iconst 3, 1) := by decide +kernel
theorem dX6_wentOn_46 : decode cX6_wentOn 46 = .ok (.imul, 1) := by decide +kernel
theorem dX6_wentOn_47 : decode cX6_wentOn 47 = .ok (.istore_n 3, 1) := by decide +kernel
theorem dX6_wentOn_48 : decode cX6_wentOn 48 = .ok (.aload_n 0, 1) := by decide +kernel
theorem dX6_wentOn_49 : decode cX6_wentOn 49 = .ok (.getfield 38, 3) := by decide +kernel
theorem dX6_wentOn_52 : decode cX6_wentOn 52 = .ok (.aload_n 0, 1) := by decide +kernel
theorem dX6_wentOn_53 : decode cX6_wentOn 53 = .ok (.getfield 38, 3) := by decide +kernel
theorem dX6_wentOn_56 : decode cX6_wentOn 56 = .ok (.getfield 80, 3) := by decide +kernel
theorem dX6_wentOn_59 : decode cX6_wentOn 59 = .ok (.iload_n 2, 1) := by decide +kernel
theorem dX6_wentOn_60 : decode cX6_wentOn 60 = .ok (.iaload, 1) := by decide +kernel
theorem dX6_wentOn_61 : decode cX6_wentOn 61 = .ok (.aload_n 0, 1) := by decide +kernel
theorem dX6_wentOn_62 : decode cX6_wentOn 62 = .ok (.getfield 18, 3) := by decide +kernel
theorem dX6_wentOn_65 : decode cX6_wentOn 65 = .ok (.iload_n 3, 1) := by decide +kernel
theorem dX6_wentOn_66 : decode cX6_wentOn 66 = .ok (.iaload, 1) := by decide +kernel
theorem dX6_wentOn_67 : decode cX6_wentOn 67 = .ok (.aload_n 0, 1) := by decide +kernel
theorem dX6_wentOn_68 : decode cX6_wentOn 68 = .ok (.getfield 18, 3) := by decide +kernel
theorem dX6_wentOn_71 : decode cX6_wentOn 71 = .ok (.iload_n 3, 1) := by decide +kernel
theorem dX6_wentOn_72 : decode cX6_wentOn 72 = .ok (.iconst 1, 1) := by decide +kernel
theorem dX6_wentOn_73 : decode cX6_wentOn 73 = .ok (.iadd, 1) := by decide +kernel
theorem dX6_wentOn_74 : decode cX6_wentOn 74 = .ok (.iaload, 1) := by decide +kernel
theorem dX6_wentOn_75 : decode cX6_wentOn 75 = .ok (.aload_n 0, 1) := by decide +kernel
theorem dX6_wentOn_76 : decode cX6_wentOn 76 = .ok (.getfield 18, 3) := by decide +kernel
theorem dX6_wentOn_79 : decode cX6_wentOn 79 = .ok (.iload_n 3, 1) := by decide +kernel
theorem dX6_wentOn_80 : decode cX6_wentOn 80 = .ok (.iconst 2, 1) := by decide +kernel
theorem dX6_wentOn_81 : decode cX6_wentOn 81 = .ok (.iadd, 1) := by decide +kernel
theorem dX6_wentOn_82 : decode cX6_wentOn 82 = .ok (.iaload, 1) := by decide +kernel
theorem dX6_wentOn_83 : decode cX6_wentOn 83 = .ok (.invokevirtual 83, 3) := by decide +kernel
theorem dX6_wentOn_86 : decode cX6_wentOn 86 = .ok (.istore 4, 2) := by decide +kernel
theorem dX6_wentOn_88 : decode cX6_wentOn 88 = .ok (.iload 4, 2) := by decide +kernel
theorem dX6_wentOn_90 : decode cX6_wentOn 90 = .ok (.ifCond .ge 6, 3) := by decide +kernel
theorem dX6_wentOn_93 : decode cX6_wentOn 93 = .ok (.iload 4, 2) := by decide +kernel
theorem dX6_wentOn_95 : decode cX6_wentOn 95 = .ok (.ireturn, 1) := by decide +kernel
theorem dX6_wentOn_96 : decode cX6_wentOn 96 = .ok (.aload_n 0, 1) := by decide +kernel
theorem dX6_wentOn_97 : decode cX6_wentOn 97 = .ok (.getfield 28, 3) := by decide +kernel
theorem dX6_wentOn_100 : decode cX6_wentOn 100 = .ok (.getfield 65, 3) := by decide +kernel
theorem dX6_wentOn_103 : decode cX6_wentOn 103 = .ok (.aload_n 0, 1) := by decide +kernel
theorem dX6_wentOn_104 : decode cX6_wentOn 104 = .ok (.getfield 39, 3) := by decide +kernel
theorem dX6_wentOn_107 : decode cX6_wentOn 107 = .ok (.iload 4, 2) := by decide +kernel
theorem dX6_wentOn_109 : decode cX6_wentOn 109 = .ok (.invokestatic 87, 3) := by decide +kernel
theorem dX6_wentOn_112 : decode cX6_wentOn 112 = .ok (.istore 5, 2) := by decide +kernel
theorem dX6_wentOn_114 : decode cX6_wentOn 114 = .ok (.iload 5, 2) := by decide +kernel
theorem dX6_wentOn_116 : decode cX6_wentOn 116 = .ok (.iconst (-1), 1) := by decide +kernel
theorem dX6_wentOn_117 : decode cX6_wentOn 117 = .ok (.if_icmp .ne 11, 3) := by decide +kernel
theorem dX6_wentOn_120 : decode cX6_wentOn 120 = .ok (.aload_n 0, 1) := by decide +kernel
theorem dX6_wentOn_121 : decode cX6_wentOn 121 = .ok (.iload 4, 2) := by decide +kernel
theorem dX6_wentOn_123 : decode cX6_wentOn 123 = .ok (.iload_n 1, 1) := by decide +kernel
theorem dX6_wentOn_124 : decode cX6_wentOn 124 = .ok (.invokevirtual 93, 3) := by decide +kernel
theorem dX6_wentOn_127 : decode cX6_wentOn 127 = .ok (.ireturn, 1) := by decide +kernel
theorem dX6_wentOn_128 : decode cX6_wentOn 128 = .ok (.aload_n 0, 1) := by decide +kernel
theorem dX6_wentOn_129 : decode cX6_wentOn 129 = .ok (.getfield 25, 3) := by decide +kernel
theorem dX6_wentOn_132 : decode cX6_wentOn 132 = .ok (.ifCond .gt 6, 3) := by decide +kernel
theorem dX6_wentOn_135 : decode cX6_wentOn 135 = .ok (.bipush (-2), 2) := by decide +kernel
theorem dX6_wentOn_137 : decode cX6_wentOn 137 = .ok (.ireturn, 1) := by decide +kernel
theorem dX6_wentOn_138 : decode cX6_wentOn 138 = .ok (.aload_n 0, 1) := by decide +kernel
theorem dX6_wentOn_139 : decode cX6_wentOn 139 = .ok (.iload_n 1, 1) := by decide +kernel
theorem dX6_wentOn_140 : decode cX6_wentOn 140 = .ok (.invokevirtual 96, 3) := by decide +kernel
theorem dX6_wentOn_143 : decode cX6_wentOn 143 = .ok (.aload_n 0, 1) := by decide +kernel
theorem dX6_wentOn_144 : decode cX6_wentOn 144 = .ok (.aload_n 0, 1) := by decide +kernel
theorem dX6_wentOn_145 : decode cX6_wentOn 145 = .ok (.getfield 43, 3) := by decide +kernel
theorem dX6_wentOn_148 : decode cX6_wentOn 148 = .ok (.aload_n 0, 1) := by decide +kernel
theorem dX6_wentOn_149 : decode cX6_wentOn 149 = .ok (.getfield 28, 3) := by decide +kernel
theorem dX6_wentOn_152 : decode cX6_wentOn 152 = .ok (.getfield 65, 3) := by decide +kernel
theorem dX6_wentOn_155 : decode cX6_wentOn 155 = .ok (.getfield 100, 3) := by decide +kernel
theorem dX6_wentOn_158 : decode cX6_wentOn 158 = .ok (.bipush 23, 2) := by decide +kernel
theorem dX6_wentOn_160 : decode cX6_wentOn 160 = .ok (.iload 5, 2) := by decide +kernel
theorem dX6_wentOn_162 : decode cX6_wentOn 162 = .ok (.iadd, 1) := by decide +kernel
theorem dX6_wentOn_163 : decode cX6_wentOn 163 = .ok (.iaload, 1) := by decide +kernel
theorem dX6_wentOn_164 : decode cX6_wentOn 164 = .ok (.aload_n 0, 1) := by decide +kernel
theorem dX6_wentOn_165 : decode cX6_wentOn 165 = .ok (.getfield 39, 3) := by decide +kernel
theorem dX6_wentOn_168 : decode cX6_wentOn 168 = .ok (.getfield 103, 3) := by decide +kernel
theorem dX6_wentOn_171 : decode cX6_wentOn 171 = .ok (.iconst 0, 1) := by decide +kernel
theorem dX6_wentOn_172 : decode cX6_wentOn 172 = .ok (.invokevirtual 108, 3) := by decide +kernel
theorem dX6_wentOn_175 : decode cX6_wentOn 175 = .ok (.invokevirtual 47, 3) := by decide +kernel
theorem dX6_wentOn_178 : decode cX6_wentOn 178 = .ok (.ireturn, 1) := by decide +kernel
theorem dX6_countStep_0 : decode cX6_countStep 0 = .ok (.aload_n 0, 1) := by decide +kernel
theorem dX6_countStep_1 : decode cX6_countStep 1 = .ok (.dup, 1) := by decide +kernel
theorem dX6_countStep_2 : decode cX6_countStep 2 = .ok (.getfield 25, 3) := by decide +kernel
theorem dX6_countStep_5 : decode cX6_countStep 5 = .ok (.iconst 1, 1) := by decide +kernel
theorem dX6_countStep_6 : decode cX6_countStep 6 = .ok (.isub, 1) := by decide +kernel
theorem dX6_countStep_7 : decode cX6_countStep 7 = .ok (.putfield 25, 3) := by decide +kernel
theorem dX6_countStep_10 : decode cX6_countStep 10 = .ok (.aload_n 0, 1) := by decide +kernel
theorem dX6_countStep_11 : decode cX6_countStep 11 = .ok (.getfield 28, 3) := by decide +kernel
theorem dX6_countStep_14 : decode cX6_countStep 14 = .ok (.getfield 65, 3) := by decide +kernel
theorem dX6_countStep_17 : decode cX6_countStep 17 = .ok (.getfield 100, 3) := by decide +kernel
theorem dX6_countStep_20 : decode cX6_countStep 20 = .ok (.iconst 3, 1) := by decide +kernel
theorem dX6_countStep_21 : decode cX6_countStep 21 = .ok (.dup2, 1) := by decide +kernel
theorem dX6_countStep_22 : decode cX6_countStep 22 = .ok (.iaload, 1) := by decide +kernel
theorem dX6_countStep_23 : decode cX6_countStep 23 = .ok (.iconst 1, 1) := by decide +kernel
theorem dX6_countStep_24 : decode cX6_countStep 24 = .ok (.iadd, 1) := by decide +kernel
theorem dX6_countStep_25 : decode cX6_countStep 25 = .ok (.iastore, 1) := by decide +kernel
theorem dX6_countStep_26 : decode cX6_countStep 26 = .ok (.aload_n 0, 1) := by decide +kernel
theorem dX6_countStep_27 : decode cX6_countStep 27 = .ok (.getfield 15, 3) := by decide +kernel
theorem dX6_countStep_30 : decode cX6_countStep 30 = .ok (.iload_n 1, 1) := by decide +kernel
theorem dX6_countStep_31 : decode cX6_countStep 31 = .ok (.iconst 4, 1) := by decide +kernel
theorem dX6_countStep_32 : decode cX6_countStep 32 = .ok (.iastore, 1) := by decide +kernel
theorem dX6_countStep_33 : decode cX6_countStep 33 = .ok (.return_, 1) := by decide +kernel
theorem dX6_handed_0 : decode cX6_handed 0 = .ok (.aload_n 0, 1) := by decide +kernel
theorem dX6_handed_1 : decode cX6_handed 1 = .ok (.getfield 15, 3) := by decide +kernel
theorem dX6_handed_4 : decode cX6_handed 4 = .ok (.iload_n 2, 1) := by decide +kernel
theorem dX6_handed_5 : decode cX6_handed 5 = .ok (.iaload, 1) := by decide +kernel
theorem dX6_handed_6 : decode cX6_handed 6 = .ok (.istore_n 3, 1) := by decide +kernel
theorem dX6_handed_7 : decode cX6_handed 7 = .ok (.iload_n 3, 1) := by decide +kernel
theorem dX6_handed_8 : decode cX6_handed 8 = .ok (.iconst 3, 1) := by decide +kernel
theorem dX6_handed_9 : decode cX6_handed 9 = .ok (.if_icmp .lt 10, 3) := by decide +kernel
theorem dX6_handed_12 : decode cX6_handed 12 = .ok (.aload_n 0, 1) := by decide +kernel
theorem dX6_handed_13 : decode cX6_handed 13 = .ok (.iload_n 1, 1) := by decide +kernel
theorem dX6_handed_14 : decode cX6_handed 14 = .ok (.iload_n 2, 1) := by decide +kernel
theorem dX6_handed_15 : decode cX6_handed 15 = .ok (.invokevirtual 93, 3) := by decide +kernel
theorem dX6_handed_18 : decode cX6_handed 18 = .ok (.ireturn, 1) := by decide +kernel
theorem dX6_handed_19 : decode cX6_handed 19 = .ok (.aload_n 0, 1) := by decide +kernel
theorem dX6_handed_20 : decode cX6_handed 20 = .ok (.getfield 18, 3) := by decide +kernel
theorem dX6_handed_23 : decode cX6_handed 23 = .ok (.iload_n 2, 1) := by decide +kernel
theorem dX6_handed_24 : decode cX6_handed 24 = .ok (.iconst 3, 1) := by decide +kernel
theorem dX6_handed_25 : decode cX6_handed 25 = .ok (.imul, 1) := by decide +kernel
theorem dX6_handed_26 : decode cX6_handed 26 = .ok (.iload_n 3, 1) := by decide +kernel
theorem dX6_handed_27 : decode cX6_handed 27 = .ok (.iadd, 1) := by decide +kernel
theorem dX6_handed_28 : decode cX6_handed 28 = .ok (.iload_n 1, 1) := by decide +kernel
theorem dX6_handed_29 : decode cX6_handed 29 = .ok (.iastore, 1) := by decide +kernel
theorem dX6_handed_30 : decode cX6_handed 30 = .ok (.aload_n 0, 1) := by decide +kernel
theorem dX6_handed_31 : decode cX6_handed 31 = .ok (.getfield 15, 3) := by decide +kernel
theorem dX6_handed_34 : decode cX6_handed 34 = .ok (.iload_n 2, 1) := by decide +kernel
theorem dX6_handed_35 : decode cX6_handed 35 = .ok (.iload_n 3, 1) := by decide +kernel
theorem dX6_handed_36 : decode cX6_handed 36 = .ok (.iconst 1, 1) := by decide +kernel
theorem dX6_handed_37 : decode cX6_handed 37 = .ok (.iadd, 1) := by decide +kernel
theorem dX6_handed_38 : decode cX6_handed 38 = .ok (.iastore, 1) := by decide +kernel
theorem dX6_handed_39 : decode cX6_handed 39 = .ok (.iconst (-1), 1) := by decide +kernel
theorem dX6_handed_40 : decode cX6_handed 40 = .ok (.ireturn, 1) := by decide +kernel
theorem dX6_closedWith_0 : decode cX6_closedWith 0 = .ok (.aload_n 0, 1) := by decide +kernel
theorem dX6_closedWith_1 : decode cX6_closedWith 1 = .ok (.getfield 28, 3) := by decide +kernel
theorem dX6_closedWith_4 : decode cX6_closedWith 4 = .ok (.getfield 65, 3) := by decide +kernel
theorem dX6_closedWith_7 : decode cX6_closedWith 7 = .ok (.aload_n 0, 1) := by decide +kernel
theorem dX6_closedWith_8 : decode cX6_closedWith 8 = .ok (.getfield 11, 3) := by decide +kernel
theorem dX6_closedWith_11 : decode cX6_closedWith 11 = .ok (.iload_n 2, 1) := by decide +kernel
theorem dX6_closedWith_12 : decode cX6_closedWith 12 = .ok (.iaload, 1) := by decide +kernel
theorem dX6_closedWith_13 : decode cX6_closedWith 13 = .ok (.iload_n 1, 1) := by decide +kernel
theorem dX6_closedWith_14 : decode cX6_closedWith 14 = .ok (.invokevirtual 114, 3) := by decide +kernel
theorem dX6_closedWith_17 : decode cX6_closedWith 17 = .ok (.aload_n 0, 1) := by decide +kernel
theorem dX6_closedWith_18 : decode cX6_closedWith 18 = .ok (.iload_n 2, 1) := by decide +kernel
theorem dX6_closedWith_19 : decode cX6_closedWith 19 = .ok (.putfield 21, 3) := by decide +kernel
theorem dX6_closedWith_22 : decode cX6_closedWith 22 = .ok (.iload_n 1, 1) := by decide +kernel
theorem dX6_closedWith_23 : decode cX6_closedWith 23 = .ok (.ireturn, 1) := by decide +kernel
theorem dX7_init_0 : decode cX7_init 0 = .ok (.aload_n 0, 1) := by decide +kernel
theorem dX7_init_1 : decode cX7_init 1 = .ok (.invokespecial 3, 3) := by decide +kernel
theorem dX7_init_4 : decode cX7_init 4 = .ok (.aload_n 0, 1) := by decide +kernel
theorem dX7_init_5 : decode cX7_init 5 = .ok (.aload_n 1, 1) := by decide +kernel
theorem dX7_init_6 : decode cX7_init 6 = .ok (.putfield 9, 3) := by decide +kernel
theorem dX7_init_9 : decode cX7_init 9 = .ok (.aload_n 0, 1) := by decide +kernel
theorem dX7_init_10 : decode cX7_init 10 = .ok (.aload_n 1, 1) := by decide +kernel
theorem dX7_init_11 : decode cX7_init 11 = .ok (.getfield 15, 3) := by decide +kernel
theorem dX7_init_14 : decode cX7_init 14 = .ok (.putfield 21, 3) := by decide +kernel
theorem dX7_init_17 : decode cX7_init 17 = .ok (.aload_n 0, 1) := by decide +kernel
theorem dX7_init_18 : decode cX7_init 18 = .ok (.aload_n 2, 1) := by decide +kernel
theorem dX7_init_19 : decode cX7_init 19 = .ok (.putfield 22, 3) := by decide +kernel
theorem dX7_init_22 : decode cX7_init 22 = .ok (.aload_n 0, 1) := by decide +kernel
theorem dX7_init_23 : decode cX7_init 23 = .ok (.aload_n 3, 1) := by decide +kernel
theorem dX7_init_24 : decode cX7_init 24 = .ok (.putfield 26, 3) := by decide +kernel
theorem dX7_init_27 : decode cX7_init 27 = .ok (.aload_n 0, 1) := by decide +kernel
theorem dX7_init_28 : decode cX7_init 28 = .ok (.aload 4, 2) := by decide +kernel
theorem dX7_init_30 : decode cX7_init 30 = .ok (.putfield 30, 3) := by decide +kernel
theorem dX7_init_33 : decode cX7_init 33 = .ok (.return_, 1) := by decide +kernel
theorem dX7_compared_0 : decode cX7_compared 0 = .ok (.iload_n 1, 1) := by decide +kernel
theorem dX7_compared_1 : decode cX7_compared 1 = .ok (.iload_n 2, 1) := by decide +kernel
theorem dX7_compared_2 : decode cX7_compared 2 = .ok (.if_icmp .ne 5, 3) := by decide +kernel
theorem dX7_compared_5 : decode cX7_compared 5 = .ok (.iconst 0, 1) := by decide +kernel
theorem dX7_compared_6 : decode cX7_compared 6 = .ok (.ireturn, 1) := by decide +kernel
theorem dX7_compared_7 : decode cX7_compared 7 = .ok (.aload_n 0, 1) := by decide +kernel
theorem dX7_compared_8 : decode cX7_compared 8 = .ok (.getfield 30, 3) := by decide +kernel
theorem dX7_compared_11 : decode cX7_compared 11 = .ok (.iload_n 1, 1) := by decide +kernel
theorem dX7_compared_12 : decode cX7_compared 12 = .ok (.iload_n 2, 1) := by decide +kernel
theorem dX7_compared_13 : decode cX7_compared 13 = .ok (.invokevirtual 34, 3) := by decide +kernel
theorem dX7_compared_16 : decode cX7_compared 16 = .ok (.ifCond .eq 5, 3) := by decide +kernel
theorem dX7_compared_19 : decode cX7_compared 19 = .ok (.iconst 1, 1) := by decide +kernel
theorem dX7_compared_20 : decode cX7_compared 20 = .ok (.ireturn, 1) := by decide +kernel
theorem dX7_compared_21 : decode cX7_compared 21 = .ok (.aload_n 0, 1) := by decide +kernel
theorem dX7_compared_22 : decode cX7_compared 22 = .ok (.getfield 30, 3) := by decide +kernel
theorem dX7_compared_25 : decode cX7_compared 25 = .ok (.iload_n 2, 1) := by decide +kernel
theorem dX7_compared_26 : decode cX7_compared 26 = .ok (.iload_n 1, 1) := by decide +kernel
theorem dX7_compared_27 : decode cX7_compared 27 = .ok (.invokevirtual 34, 3) := by decide +kernel
theorem dX7_compared_30 : decode cX7_compared 30 = .ok (.ifCond .eq 7, 3) := by decide +kernel
theorem dX7_compared_33 : decode cX7_compared 33 = .ok (.iconst 2, 1) := by decide +kernel
theorem dX7_compared_34 : decode cX7_compared 34 = .ok (.goto 4, 3) := by decide +kernel
theorem dX7_compared_37 : decode cX7_compared 37 = .ok (.iconst 3, 1) := by decide +kernel
theorem dX7_compared_38 : decode cX7_compared 38 = .ok (.ireturn, 1) := by decide +kernel
theorem dX7_isRule_0 : decode cX7_isRule 0 = .ok (.aload_n 0, 1) := by decide +kernel
theorem dX7_isRule_1 : decode cX7_isRule 1 = .ok (.getfield 21, 3) := by decide +kernel
theorem dX7_isRule_4 : decode cX7_isRule 4 = .ok (.iload_n 1, 1) := by decide +kernel
theorem dX7_isRule_5 : decode cX7_isRule 5 = .ok (.invokevirtual 40, 3) := by decide +kernel
theorem dX7_isRule_8 : decode cX7_isRule 8 = .ok (.ifCond .eq 69, 3) := by decide +kernel
theorem dX7_isRule_11 : decode cX7_isRule 11 = .ok (.aload_n 0, 1) := by decide +kernel
theorem dX7_isRule_12 : decode cX7_isRule 12 = .ok (.getfield 21, 3) := by decide +kernel
theorem dX7_isRule_15 : decode cX7_isRule 15 = .ok (.iload_n 2, 1) := by decide +kernel
theorem dX7_isRule_16 : decode cX7_isRule 16 = .ok (.invokevirtual 40, 3) := by decide +kernel
theorem dX7_isRule_19 : decode cX7_isRule 19 = .ok (.ifCond .eq 58, 3) := by decide +kernel
theorem dX7_isRule_22 : decode cX7_isRule 22 = .ok (.aload_n 0, 1) := by decide +kernel
theorem dX7_isRule_23 : decode cX7_isRule 23 = .ok (.getfield 21, 3) := by decide +kernel
theorem dX7_isRule_26 : decode cX7_isRule 26 = .ok (.iload_n 1, 1) := by decide +kernel
theorem dX7_isRule_27 : decode cX7_isRule 27 = .ok (.invokevirtual 46, 3) := by decide +kernel
theorem dX7_isRule_30 : decode cX7_isRule 30 = .ok (.ifCond .ne 47, 3) := by decide +kernel
theorem dX7_isRule_33 : decode cX7_isRule 33 = .ok (.aload_n 0, 1) := by decide +kernel
theorem dX7_isRule_34 : decode cX7_isRule 34 = .ok (.getfield 21, 3) := by decide +kernel
theorem dX7_isRule_37 : decode cX7_isRule 37 = .ok (.getfield 49, 3) := by decide +kernel
theorem dX7_isRule_40 : decode cX7_isRule 40 = .ok (.iload_n 1, 1) := by decide +kernel
theorem dX7_isRule_41 : decode cX7_isRule 41 = .ok (.iaload, 1) := by decide +kernel
theorem dX7_isRule_42 : decode cX7_isRule 42 = .ok (.bipush 12, 2) := by decide +kernel
theorem dX7_isRule_44 : decode cX7_isRule 44 = .ok (.if_icmp .gt 33, 3) := by decide +kernel
theorem dX7_isRule_47 : decode cX7_isRule 47 = .ok (.aload_n 0, 1) := by decide +kernel
theorem dX7_isRule_48 : decode cX7_isRule 48 = .ok (.getfield 21, 3) := by decide +kernel
theorem dX7_isRule_51 : decode cX7_isRule 51 = .ok (.getfield 49, 3) := by decide +kernel
theorem dX7_isRule_54 : decode cX7_isRule 54 = .ok (.iload_n 2, 1) := by decide +kernel
theorem dX7_isRule_55 : decode cX7_isRule 55 = .ok (.iaload, 1) := by decide +kernel
theorem dX7_isRule_56 : decode cX7_isRule 56 = .ok (.bipush 12, 2) := by decide +kernel
theorem dX7_isRule_58 : decode cX7_isRule 58 = .ok (.if_icmp .gt 19, 3) := by decide +kernel
theorem dX7_isRule_61 : decode cX7_isRule 61 = .ok (.aload_n 0, 1) := by decide +kernel
theorem dX7_isRule_62 : decode cX7_isRule 62 = .ok (.getfield 30, 3) := by decide +kernel
theorem dX7_isRule_65 : decode cX7_isRule 65 = .ok (.iload_n 1, 1) := by decide +kernel
theorem dX7_isRule_66 : decode cX7_isRule 66 = .ok (.iload_n 2, 1) := by decide +kernel
theorem dX7_isRule_67 : decode cX7_isRule 67 = .ok (.invokevirtual 34, 3) := by decide +kernel
theorem dX7_isRule_70 : decode cX7_isRule 70 = .ok (.ifCond .eq 7, 3) := by decide +kernel
theorem dX7_isRule_73 : decode cX7_isRule 73 = .ok (.iconst 1, 1) := by decide +kernel
theorem dX7_isRule_74 : decode cX7_isRule 74 = .ok (.goto 4, 3) := by decide +kernel
theorem dX7_isRule_77 : decode cX7_isRule 77 = .ok (.iconst 0, 1) := by decide +kernel
theorem dX7_isRule_78 : decode cX7_isRule 78 = .ok (.ireturn, 1) := by decide +kernel
theorem dX7_fits_0 : decode cX7_fits 0 = .ok (.iconst 0, 1) := by decide +kernel
theorem dX7_fits_1 : decode cX7_fits 1 = .ok (.istore_n 2, 1) := by decide +kernel
theorem dX7_fits_2 : decode cX7_fits 2 = .ok (.iconst 1, 1) := by decide +kernel
theorem dX7_fits_3 : decode cX7_fits 3 = .ok (.istore_n 3, 1) := by decide +kernel
theorem dX7_fits_4 : decode cX7_fits 4 = .ok (.iload_n 3, 1) := by decide +kernel
theorem dX7_fits_5 : decode cX7_fits 5 = .ok (.bipush 9, 2) := by decide +kernel
theorem dX7_fits_7 : decode cX7_fits 7 = .ok (.if_icmp .gt 26, 3) := by decide +kernel
theorem dX7_fits_10 : decode cX7_fits 10 = .ok (.iload_n 2, 1) := by decide +kernel
theorem dX7_fits_11 : decode cX7_fits 11 = .ok (.aload_n 0, 1) := by decide +kernel
theorem dX7_fits_12 : decode cX7_fits 12 = .ok (.iload_n 1, 1) := by decide +kernel
theorem dX7_fits_13 : decode cX7_fits 13 = .ok (.iload_n 3, 1) := by decide +kernel
theorem dX7_fits_14 : decode cX7_fits 14 = .ok (.invokevirtual 53, 3) := by decide +kernel
theorem dX7_fits_17 : decode cX7_fits 17 = .ok (.ifCond .eq 7, 3) := by decide +kernel
theorem dX7_fits_20 : decode cX7_fits 20 = .ok (.iconst 1, 1) := by decide +kernel
theorem dX7_fits_21 : decode cX7_fits 21 = .ok (.goto 4, 3) := by decide +kernel
theorem dX7_fits_24 : decode cX7_fits 24 = .ok (.iconst 0, 1) := by decide +kernel
theorem dX7_fits_25 : decode cX7_fits 25 = .ok (.iadd, 1) := by decide +kernel
theorem dX7_fits_26 : decode cX7_fits 26 = .ok (.istore_n 2, 1) := by decide +kernel
theorem dX7_fits_27 : decode cX7_fits 27 = .ok (.iinc 3 1, 3) := by decide +kernel
theorem dX7_fits_30 : decode cX7_fits 30 = .ok (.goto (-26), 3) := by decide +kernel
theorem dX7_fits_33 : decode cX7_fits 33 = .ok (.iload_n 2, 1) := by decide +kernel
theorem dX7_fits_34 : decode cX7_fits 34 = .ok (.ireturn, 1) := by decide +kernel
theorem dX7_leastFit_0 : decode cX7_leastFit 0 = .ok (.iconst 1, 1) := by decide +kernel
theorem dX7_leastFit_1 : decode cX7_leastFit 1 = .ok (.istore_n 2, 1) := by decide +kernel
theorem dX7_leastFit_2 : decode cX7_leastFit 2 = .ok (.iload_n 2, 1) := by decide +kernel
theorem dX7_leastFit_3 : decode cX7_leastFit 3 = .ok (.bipush 9, 2) := by decide +kernel
theorem dX7_leastFit_5 : decode cX7_leastFit 5 = .ok (.if_icmp .gt 20, 3) := by decide +kernel
theorem dX7_leastFit_8 : decode cX7_leastFit 8 = .ok (.aload_n 0, 1) := by decide +kernel
theorem dX7_leastFit_9 : decode cX7_leastFit 9 = .ok (.iload_n 1, 1) := by decide +kernel
theorem dX7_leastFit_10 : decode cX7_leastFit 10 = .ok (.iload_n 2, 1) := by decide +kernel
theorem dX7_leastFit_11 : decode cX7_leastFit 11 = .ok (.invokevirtual 53, 3) := by decide +kernel
theorem dX7_leastFit_14 : decode cX7_leastFit 14 = .ok (.ifCond .eq 5, 3) := by decide +kernel
theorem dX7_leastFit_17 : decode cX7_leastFit 17 = .ok (.iload_n 2, 1) := by decide +kernel
theorem dX7_leastFit_18 : decode cX7_leastFit 18 = .ok (.ireturn, 1) := by decide +kernel
theorem dX7_leastFit_19 : decode cX7_leastFit 19 = .ok (.iinc 2 1, 3) := by decide +kernel
theorem dX7_leastFit_22 : decode cX7_leastFit 22 = .ok (.goto (-20), 3) := by decide +kernel
theorem dX7_leastFit_25 : decode cX7_leastFit 25 = .ok (.iconst (-1), 1) := by decide +kernel
theorem dX7_leastFit_26 : decode cX7_leastFit 26 = .ok (.ireturn, 1) := by decide +kernel
theorem dX7_fitsBy_0 : decode cX7_fitsBy 0 = .ok (.aload_n 0, 1) := by decide +kernel
theorem dX7_fitsBy_1 : decode cX7_fitsBy 1 = .ok (.getfield 9, 3) := by decide +kernel
theorem dX7_fitsBy_4 : decode cX7_fitsBy 4 = .ok (.getfield 56, 3) := by decide +kernel
theorem dX7_fitsBy_7 : decode cX7_fitsBy 7 = .ok (.getfield 60, 3) := by decide +kernel
theorem dX7_fitsBy_10 : decode cX7_fitsBy 10 = .ok (.astore_n 3, 1) := by decide +kernel
theorem dX7_fitsBy_11 : decode cX7_fitsBy 11 = .ok (.iconst 1, 1) := by decide +kernel
theorem dX7_fitsBy_12 : decode cX7_fitsBy 12 = .ok (.istore 4, 2) := by decide +kernel
theorem dX7_fitsBy_14 : decode cX7_fitsBy 14 = .ok (.aload_n 0, 1) := by decide +kernel
theorem dX7_fitsBy_15 : decode cX7_fitsBy 15 = .ok (.getfield 30, 3) := by decide +kernel
theorem dX7_fitsBy_18 : decode cX7_fitsBy 18 = .ok (.iload_n 1, 1) := by decide +kernel
theorem dX7_fitsBy_19 : decode cX7_fitsBy 19 = .ok (.iload_n 2, 1) := by decide +kernel
theorem dX7_fitsBy_20 : decode cX7_fitsBy 20 = .ok (.invokevirtual 65, 3) := by decide +kernel
theorem dX7_fitsBy_23 : decode cX7_fitsBy 23 = .ok (.iconst 0, 1) := by decide +kernel
theorem dX7_fitsBy_24 : decode cX7_fitsBy 24 = .ok (.istore 5, 2) := by decide +kernel
theorem dX7_fitsBy_26 : decode cX7_fitsBy 26 = .ok (.iload 5, 2) := by decide +kernel
theorem dX7_fitsBy_28 : decode cX7_fitsBy 28 = .ok (.aload_n 3, 1) := by decide +kernel
theorem dX7_fitsBy_29 : decode cX7_fitsBy 29 = .ok (.iconst 4, 1) := by decide +kernel
theorem dX7_fitsBy_30 : decode cX7_fitsBy 30 = .ok (.iaload, 1) := by decide +kernel
theorem dX7_fitsBy_31 : decode cX7_fitsBy 31 = .ok (.if_icmp .ge 34, 3) := by decide +kernel
theorem dX7_fitsBy_34 : decode cX7_fitsBy 34 = .ok (.iload 4, 2) := by decide +kernel
theorem dX7_fitsBy_36 : decode cX7_fitsBy 36 = .ok (.ifCond .eq 29, 3) := by decide +kernel
theorem dX7_fitsBy_39 : decode cX7_fitsBy 39 = .ok (.aload_n 0, 1) := by decide +kernel
theorem dX7_fitsBy_40 : decode cX7_fitsBy 40 = .ok (.aload_n 3, 1) := by decide +kernel
theorem dX7_fitsBy_41 : decode cX7_fitsBy 41 = .ok (.bipush 15, 2) := by decide +kernel
theorem dX7_fitsBy_43 : decode cX7_fitsBy 43 = .ok (.iload 5, 2) := by decide +kernel
theorem dX7_fitsBy_45 : decode cX7_fitsBy 45 = .ok (.iadd, 1) := by decide +kernel
theorem dX7_fitsBy_46 : decode cX7_fitsBy 46 = .ok (.iaload, 1) := by decide +kernel
theorem dX7_fitsBy_47 : decode cX7_fitsBy 47 = .ok (.aload_n 3, 1) := by decide +kernel
theorem dX7_fitsBy_48 : decode cX7_fitsBy 48 = .ok (.bipush 23, 2) := by decide +kernel
theorem dX7_fitsBy_50 : decode cX7_fitsBy 50 = .ok (.iload 5, 2) := by decide +kernel
theorem dX7_fitsBy_52 : decode cX7_fitsBy 52 = .ok (.iadd, 1) := by decide +kernel
theorem dX7_fitsBy_53 : decode cX7_fitsBy 53 = .ok (.iaload, 1) := by decide +kernel
theorem dX7_fitsBy_54 : decode cX7_fitsBy 54 = .ok (.invokevirtual 69, 3) := by decide +kernel
theorem dX7_fitsBy_57 : decode cX7_fitsBy 57 = .ok (.istore 4, 2) := by decide +kernel
theorem dX7_fitsBy_59 : decode cX7_fitsBy 59 = .ok (.iinc 5 1, 3) := by decide +kernel
theorem dX7_fitsBy_62 : decode cX7_fitsBy 62 = .ok (.goto (-36), 3) := by decide +kernel
theorem dX7_fitsBy_65 : decode cX7_fitsBy 65 = .ok (.aload_n 0, 1) := by decide +kernel
theorem dX7_fitsBy_66 : decode cX7_fitsBy 66 = .ok (.getfield 30, 3) := by decide +kernel
theorem dX7_fitsBy_69 : decode cX7_fitsBy 69 = .ok (.invokevirtual 72, 3) := by decide +kernel
theorem dX7_fitsBy_72 : decode cX7_fitsBy 72 = .ok (.iload 4, 2) := by decide +kernel
theorem dX7_fitsBy_74 : decode cX7_fitsBy 74 = .ok (.ireturn, 1) := by decide +kernel
theorem dX7_meetings_0 : decode cX7_meetings 0 = .ok (.iconst 0, 1) := by decide +kernel
theorem dX7_meetings_1 : decode cX7_meetings 1 = .ok (.istore_n 1, 1) := by decide +kernel
theorem dX7_meetings_2 : decode cX7_meetings 2 = .ok (.iconst 0, 1) := by decide +kernel
theorem dX7_meetings_3 : decode cX7_meetings 3 = .ok (.istore_n 2, 1) := by decide +kernel
theorem dX7_meetings_4 : decode cX7_meetings 4 = .ok (.iload_n 2, 1) := by decide +kernel
theorem dX7_meetings_5 : decode cX7_meetings 5 = .ok (.aload_n 0, 1) := by decide +kernel
theorem dX7_meetings_6 : decode cX7_meetings 6 = .ok (.getfield 9, 3) := by decide +kernel
theorem dX7_meetings_9 : decode cX7_meetings 9 = .ok (.getfield 56, 3) := by decide +kernel
theorem dX7_meetings_12 : decode cX7_meetings 12 = .ok (.getfield 60, 3) := by decide +kernel
theorem dX7_meetings_15 : decode cX7_meetings 15 = .ok (.iconst 4, 1) := by decide +kernel
theorem dX7_meetings_16 : decode cX7_meetings 16 = .ok (.iaload, 1) := by decide +kernel
theorem dX7_meetings_17 : decode cX7_meetings 17 = .ok (.if_icmp .ge 84, 3) := by decide +kernel
theorem dX7_meetings_20 : decode cX7_meetings 20 = .ok (.aload_n 0, 1) := by decide +kernel
theorem dX7_meetings_21 : decode cX7_meetings 21 = .ok (.getfield 21, 3) := by decide +kernel
theorem dX7_meetings_24 : decode cX7_meetings 24 = .ok (.getfield 49, 3) := by decide +kernel
theorem dX7_meetings_27 : decode cX7_meetings 27 = .ok (.aload_n 0, 1) := by decide +kernel
theorem dX7_meetings_28 : decode cX7_meetings 28 = .ok (.iload_n 2, 1) := by decide +kernel
theorem dX7_meetings_29 : decode cX7_meetings 29 = .ok (.invokevirtual 75, 3) := by decide +kernel
theorem dX7_meetings_32 : decode cX7_meetings 32 = .ok (.iaload, 1) := by decide +kernel
theorem dX7_meetings_33 : decode cX7_meetings 33 = .ok (.istore_n 3, 1) := by decide +kernel
theorem dX7_meetings_34 : decode cX7_meetings 34 = .ok (.iconst 0, 1) := by decide +kernel
theorem dX7_meetings_35 : decode cX7_meetings 35 = .ok (.istore 4, 2) := by decide +kernel
theorem dX7_meetings_37 : decode cX7_meetings 37 = .ok (.iload 4, 2) := by decide +kernel
theorem dX7_meetings_39 : decode cX7_meetings 39 = .ok (.iload_n 3, 1) := by decide +kernel
theorem dX7_meetings_40 : decode cX7_meetings 40 = .ok (.if_icmp .ge 55, 3) := by decide +kernel
theorem dX7_meetings_43 : decode cX7_meetings 43 = .ok (.iconst 0, 1) := by decide +kernel
theorem dX7_meetings_44 : decode cX7_meetings 44 = .ok (.istore 5, 2) := by decide +kernel
theorem dX7_meetings_46 : decode cX7_meetings 46 = .ok (.iload 5, 2) := by decide +kernel
theorem dX7_meetings_48 : decode cX7_meetings 48 = .ok (.aload_n 0, 1) := by decide +kernel
theorem dX7_meetings_49 : decode cX7_meetings 49 = .ok (.getfield 9, 3) := by decide +kernel
theorem dX7_meetings_52 : decode cX7_meetings 52 = .ok (.getfield 56, 3) := by decide +kernel
theorem dX7_meetings_55 : decode cX7_meetings 55 = .ok (.getfield 60, 3) := by decide +kernel
theorem dX7_meetings_58 : decode cX7_meetings 58 = .ok (.iconst 4, 1) := by decide +kernel
theorem dX7_meetings_59 : decode cX7_meetings 59 = .ok (.iaload, 1) := by decide +kernel
theorem dX7_meetings_60 : decode cX7_meetings 60 = .ok (.if_icmp .ge 29, 3) := by decide +kernel
theorem dX7_meetings_63 : decode cX7_meetings 63 = .ok (.iload_n 1, 1) := by decide +kernel
theorem dX7_meetings_64 : decode cX7_meetings 64 = .ok (.aload_n 0, 1) := by decide +kernel
theorem dX7_meetings_65 : decode cX7_meetings 65 = .ok (.iload_n 2, 1) := by decide +kernel
theorem dX7_meetings_66 : decode cX7_meetings 66 = .ok (.iload 4, 2) := by decide +kernel
theorem dX7_meetings_68 : decode cX7_meetings 68 = .ok (.iload 5, 2) := by decide +kernel
theorem dX7_meetings_70 : decode cX7_meetings 70 = .ok (.invokevirtual 79, 3) := by decide +kernel
theorem dX7_meetings_73 : decode cX7_meetings 73 = .ok (.ifCond .eq 7, 3) := by decide +kernel
theorem dX7_meetings_76 : decode cX7_meetings 76 = .ok (.iconst 1, 1) := by decide +kernel
theorem dX7_meetings_77 : decode cX7_meetings 77 = .ok (.goto 4, 3) := by decide +kernel
theorem dX7_meetings_80 : decode cX7_meetings 80 = .ok (.iconst 0, 1) := by decide +kernel
theorem dX7_meetings_81 : decode cX7_meetings 81 = .ok (.iadd, 1) := by decide +kernel
theorem dX7_meetings_82 : decode cX7_meetings 82 = .ok (.istore_n 1, 1) := by decide +kernel
theorem dX7_meetings_83 : decode cX7_meetings 83 = .ok (.iinc 5 1, 3) := by decide +kernel
theorem dX7_meetings_86 : decode cX7_meetings 86 = .ok (.goto (-40), 3) := by decide +kernel
theorem dX7_meetings_89 : decode cX7_meetings 89 = .ok (.iinc 4 1, 3) := by decide +kernel
theorem dX7_meetings_92 : decode cX7_meetings 92 = .ok (.goto (-55), 3) := by decide +kernel
theorem dX7_meetings_95 : decode cX7_meetings 95 = .ok (.iinc 2 1, 3) := by decide +kernel
theorem dX7_meetings_98 : decode cX7_meetings 98 = .ok (.goto (-94), 3) := by decide +kernel
theorem dX7_meetings_101 : decode cX7_meetings 101 = .ok (.iload_n 1, 1) := by decide +kernel
theorem dX7_meetings_102 : decode cX7_meetings 102 = .ok (.ireturn, 1) := by decide +kernel
theorem dX7_firstMeeting_0 : decode cX7_firstMeeting 0 = .ok (.iconst 0, 1) := by decide +kernel
theorem dX7_firstMeeting_1 : decode cX7_firstMeeting 1 = .ok (.istore_n 1, 1) := by decide +kernel
theorem dX7_firstMeeting_2 : decode cX7_firstMeeting 2 = .ok (.iload_n 1, 1) := by decide +kernel
theorem dX7_firstMeeting_3 : decode cX7_firstMeeting 3 = .ok (.aload_n 0, 1) := by decide +kernel
theorem dX7_firstMeeting_4 : decode cX7_firstMeeting 4 = .ok (.getfield 9, 3) := by decide +kernel
theorem dX7_firstMeeting_7 : decode cX7_firstMeeting 7 = .ok (.getfield 56, 3) := by decide +kernel
theorem dX7_firstMeeting_10 : decode cX7_firstMeeting 10 = .ok (.getfield 60, 3) := by decide +kernel
theorem dX7_firstMeeting_13 : decode cX7_firstMeeting 13 = .ok (.iconst 4, 1) := by decide +kernel
theorem dX7_firstMeeting_14 : decode cX7_firstMeeting 14 = .ok (.iaload, 1) := by decide +kernel
theorem dX7_firstMeeting_15 : decode cX7_firstMeeting 15 = .ok (.if_icmp .ge 87, 3) := by decide +kernel
theorem dX7_firstMeeting_18 : decode cX7_firstMeeting 18 = .ok (.aload_n 0, 1) := by decide +kernel
theorem dX7_firstMeeting_19 : decode cX7_firstMeeting 19 = .ok (.getfield 21, 3) := by decide +kernel
theorem dX7_firstMeeting_22 : decode cX7_firstMeeting 22 = .ok (.getfield 49, 3) := by decide +kernel
theorem dX7_firstMeeting_25 : decode cX7_firstMeeting 25 = .ok (.aload_n 0, 1) := by decide +kernel
theorem dX7_firstMeeting_26 : decode cX7_firstMeeting 26 = .ok (.iload_n 1, 1) := by decide +kernel
theorem dX7_firstMeeting_27 : decode cX7_firstMeeting 27 = .ok (.invokevirtual 75, 3) := by decide +kernel
theorem dX7_firstMeeting_30 : decode cX7_firstMeeting 30 = .ok (.iaload, 1) := by decide +kernel
theorem dX7_firstMeeting_31 : decode cX7_firstMeeting 31 = .ok (.istore_n 2, 1) := by decide +kernel
theorem dX7_firstMeeting_32 : decode cX7_firstMeeting 32 = .ok (.iconst 0, 1) := by decide +kernel
theorem dX7_firstMeeting_33 : decode cX7_firstMeeting 33 = .ok (.istore_n 3, 1) := by decide +kernel
theorem dX7_firstMeeting_34 : decode cX7_firstMeeting 34 = .ok (.iload_n 3, 1) := by decide +kernel
theorem dX7_firstMeeting_35 : decode cX7_firstMeeting 35 = .ok (.iload_n 2, 1) := by decide +kernel
theorem dX7_firstMeeting_36 : decode cX7_firstMeeting 36 = .ok (.if_icmp .ge 60, 3) := by decide +kernel
theorem dX7_firstMeeting_39 : decode cX7_firstMeeting 39 = .ok (.iconst 0, 1) := by decide +kernel
theorem dX7_firstMeeting_40 : decode cX7_firstMeeting 40 = .ok (.istore 4, 2) := by decide +kernel
theorem dX7_firstMeeting_42 : decode cX7_firstMeeting 42 = .ok (.iload 4, 2) := by decide +kernel
theorem dX7_firstMeeting_44 : decode cX7_firstMeeting 44 = .ok (.aload_n 0, 1) := by decide +kernel
theorem dX7_firstMeeting_45 : decode cX7_firstMeeting 45 = .ok (.getfield 9, 3) := by decide +kernel
theorem dX7_firstMeeting_48 : decode cX7_firstMeeting 48 = .ok (.getfield 56, 3) := by decide +kernel
theorem dX7_firstMeeting_51 : decode cX7_firstMeeting 51 = .ok (.getfield 60, 3) := by decide +kernel
theorem dX7_firstMeeting_54 : decode cX7_firstMeeting 54 = .ok (.iconst 4, 1) := by decide +kernel
theorem dX7_firstMeeting_55 : decode cX7_firstMeeting 55 = .ok (.iaload, 1) := by decide +kernel
theorem dX7_firstMeeting_56 : decode cX7_firstMeeting 56 = .ok (.if_icmp .ge 34, 3) := by decide +kernel
theorem dX7_firstMeeting_59 : decode cX7_firstMeeting 59 = .ok (.aload_n 0, 1) := by decide +kernel
theorem dX7_firstMeeting_60 : decode cX7_firstMeeting 60 = .ok (.iload_n 1, 1) := by decide +kernel
theorem dX7_firstMeeting_61 : decode cX7_firstMeeting 61 = .ok (.iload_n 3, 1) := by decide +kernel
theorem dX7_firstMeeting_62 : decode cX7_firstMeeting 62 = .ok (.iload 4, 2) := by decide +kernel
theorem dX7_firstMeeting_64 : decode cX7_firstMeeting 64 = .ok (.invokevirtual 79, 3) := by decide +kernel
theorem dX7_firstMeeting_67 : decode cX7_firstMeeting 67 = .ok (.ifCond .eq 17, 3) := by decide +kernel
theorem dX7_firstMeeting_70 : decode cX7_firstMeeting 70 = .ok (.sipush 1000, 3) := by decide +kernel
theorem dX7_firstMeeting_73 : decode cX7_firstMeeting 73 = .ok (.iload_n 1, 1) := by decide +kernel
theorem dX7_firstMeeting_74 : decode cX7_firstMeeting 74 = .ok (.imul, 1) := by decide +kernel
theorem dX7_firstMeeting_75 : decode cX7_firstMeeting 75 = .ok (.bipush 10, 2) := by decide +kernel
theorem dX7_firstMeeting_77 : decode cX7_firstMeeting 77 = .ok (.iload_n 3, 1) := by decide +kernel
theorem dX7_firstMeeting_78 : decode cX7_firstMeeting 78 = .ok (.imul, 1) := by decide +kernel
theorem dX7_firstMeeting_79 : decode cX7_firstMeeting 79 = .ok (.iadd, 1) := by decide +kernel
theorem dX7_firstMeeting_80 : decode cX7_firstMeeting 80 = .ok (.iload 4, 2) := by decide +kernel
theorem dX7_firstMeeting_82 : decode cX7_firstMeeting 82 = .ok (.iadd, 1) := by decide +kernel
theorem dX7_firstMeeting_83 : decode cX7_firstMeeting 83 = .ok (.ireturn, 1) := by decide +kernel
theorem dX7_firstMeeting_84 : decode cX7_firstMeeting 84 = .ok (.iinc 4 1, 3) := by decide +kernel
theorem dX7_firstMeeting_87 : decode cX7_firstMeeting 87 = .ok (.goto (-45), 3) := by decide +kernel
theorem dX7_firstMeeting_90 : decode cX7_firstMeeting 90 = .ok (.iinc 3 1, 3) := by decide +kernel
theorem dX7_firstMeeting_93 : decode cX7_firstMeeting 93 = .ok (.goto (-59), 3) := by decide +kernel
theorem dX7_firstMeeting_96 : decode cX7_firstMeeting 96 = .ok (.iinc 1 1, 3) := by decide +kernel
theorem dX7_firstMeeting_99 : decode cX7_firstMeeting 99 = .ok (.goto (-97), 3) := by decide +kernel
theorem dX7_firstMeeting_102 : decode cX7_firstMeeting 102 = .ok (.iconst (-1), 1) := by decide +kernel
theorem dX7_firstMeeting_103 : decode cX7_firstMeeting 103 = .ok (.ireturn, 1) := by decide +kernel
theorem dX7_leftOf_0 : decode cX7_leftOf 0 = .ok (.aload_n 0, 1) := by decide +kernel
theorem dX7_leftOf_1 : decode cX7_leftOf 1 = .ok (.getfield 9, 3) := by decide +kernel
theorem dX7_leftOf_4 : decode cX7_leftOf 4 = .ok (.getfield 56, 3) := by decide +kernel
theorem dX7_leftOf_7 : decode cX7_leftOf 7 = .ok (.getfield 60, 3) := by decide +kernel
theorem dX7_leftOf_10 : decode cX7_leftOf 10 = .ok (.bipush 15, 2) := by decide +kernel
theorem dX7_leftOf_12 : decode cX7_leftOf 12 = .ok (.iload_n 1, 1) := by decide +kernel
theorem dX7_leftOf_13 : decode cX7_leftOf 13 = .ok (.iadd, 1) := by decide +kernel
theorem dX7_leftOf_14 : decode cX7_leftOf 14 = .ok (.iaload, 1) := by decide +kernel
theorem dX7_leftOf_15 : decode cX7_leftOf 15 = .ok (.ireturn, 1) := by decide +kernel
theorem dX7_meet_0 : decode cX7_meet 0 = .ok (.iload_n 1, 1) := by decide +kernel
theorem dX7_meet_1 : decode cX7_meet 1 = .ok (.iload_n 3, 1) := by decide +kernel
theorem dX7_meet_2 : decode cX7_meet 2 = .ok (.if_icmp .ne 9, 3) := by decide +kernel
theorem dX7_meet_5 : decode cX7_meet 5 = .ok (.iload_n 2, 1) := by decide +kernel
theorem dX7_meet_6 : decode cX7_meet 6 = .ok (.ifCond .ne 5, 3) := by decide +kernel
theorem dX7_meet_9 : decode cX7_meet 9 = .ok (.iconst 0, 1) := by decide +kernel
theorem dX7_meet_10 : decode cX7_meet 10 = .ok (.ireturn, 1) := by decide +kernel
theorem dX7_meet_11 : decode cX7_meet 11 = .ok (.aload_n 0, 1) := by decide +kernel
theorem dX7_meet_12 : decode cX7_meet 12 = .ok (.getfield 21, 3) := by decide +kernel
theorem dX7_meet_15 : decode cX7_meet 15 = .ok (.aload_n 0, 1) := by decide +kernel
theorem dX7_meet_16 : decode cX7_meet 16 = .ok (.iload_n 1, 1) := by decide +kernel
theorem dX7_meet_17 : decode cX7_meet 17 = .ok (.invokevirtual 75, 3) := by decide +kernel
theorem dX7_meet_20 : decode cX7_meet 20 = .ok (.iload_n 2, 1) := by decide +kernel
theorem dX7_meet_21 : decode cX7_meet 21 = .ok (.invokevirtual 83, 3) := by decide +kernel
theorem dX7_meet_24 : decode cX7_meet 24 = .ok (.istore 4, 2) := by decide +kernel
theorem dX7_meet_26 : decode cX7_meet 26 = .ok (.aload_n 0, 1) := by decide +kernel
theorem dX7_meet_27 : decode cX7_meet 27 = .ok (.getfield 21, 3) := by decide +kernel
theorem dX7_meet_30 : decode cX7_meet 30 = .ok (.iload 4, 2) := by decide +kernel
theorem dX7_meet_32 : decode cX7_meet 32 = .ok (.invokevirtual 46, 3) := by decide +kernel
theorem dX7_meet_35 : decode cX7_meet 35 = .ok (.ifCond .ne 28, 3) := by decide +kernel
theorem dX7_meet_38 : decode cX7_meet 38 = .ok (.aload_n 0, 1) := by decide +kernel
theorem dX7_meet_39 : decode cX7_meet 39 = .ok (.getfield 26, 3) := by decide +kernel
theorem dX7_meet_42 : decode cX7_meet 42 = .ok (.iload 4, 2) := by decide +kernel
theorem dX7_meet_44 : decode cX7_meet 44 = .ok (.aload_n 0, 1) := by decide +kernel
theorem dX7_meet_45 : decode cX7_meet 45 = .ok (.iload_n 3, 1) := by decide +kernel
theorem dX7_meet_46 : decode cX7_meet 46 = .ok (.invokevirtual 75, 3) := by decide +kernel
theorem dX7_meet_49 : decode cX7_meet 49 = .ok (.sipush 400, 3) := by decide +kernel
theorem dX7_meet_52 : decode cX7_meet 52 = .ok (.invokevirtual 89, 3) := by decide +kernel
theorem dX7_meet_55 : decode cX7_meet 55 = .ok (.iconst 1, 1) := by decide +kernel
theorem dX7_meet_56 : decode cX7_meet 56 = .ok (.if_icmp .ne 7, 3) := by decide +kernel
theorem dX7_meet_59 : decode cX7_meet 59 = .ok (.iconst 1, 1) := by decide +kernel
theorem dX7_meet_60 : decode cX7_meet 60 = .ok (.goto 4, 3) := by decide +kernel
theorem dX7_meet_63 : decode cX7_meet 63 = .ok (.iconst 0, 1) := by decide +kernel
theorem dX7_meet_64 : decode cX7_meet 64 = .ok (.ireturn, 1) := by decide +kernel
theorem dX7_found_0 : decode cX7_found 0 = .ok (.aload_n 0, 1) := by decide +kernel
theorem dX7_found_1 : decode cX7_found 1 = .ok (.getfield 9, 3) := by decide +kernel
theorem dX7_found_4 : decode cX7_found 4 = .ok (.getfield 56, 3) := by decide +kernel
theorem dX7_found_7 : decode cX7_found 7 = .ok (.getfield 60, 3) := by decide +kernel
theorem dX7_found_10 : decode cX7_found 10 = .ok (.astore_n 3, 1) := by decide +kernel
theorem dX7_found_11 : decode cX7_found 11 = .ok (.iconst 0, 1) := by decide +kernel
theorem dX7_found_12 : decode cX7_found 12 = .ok (.istore 4, 2) := by decide +kernel
theorem dX7_found_14 : decode cX7_found 14 = .ok (.iconst 0, 1) := by decide +kernel
theorem dX7_found_15 : decode cX7_found 15 = .ok (.istore 5, 2) := by decide +kernel
theorem dX7_found_17 : decode cX7_found 17 = .ok (.iload 5, 2) := by decide +kernel
theorem dX7_found_19 : decode cX7_found 19 = .ok (.aload_n 3, 1) := by decide +kernel
theorem dX7_found_20 : decode cX7_found 20 = .ok (.iconst 5, 1) := by decide +kernel
theorem dX7_found_21 : decode cX7_found 21 = .ok (.iaload, 1) := by decide +kernel
theorem dX7_found_22 : decode cX7_found 22 = .ok (.if_icmp .ge 34, 3) := by decide +kernel
theorem dX7_found_25 : decode cX7_found 25 = .ok (.aload_n 0, 1) := by decide +kernel
theorem dX7_found_26 : decode cX7_found 26 = .ok (.aload_n 3, 1) := by decide +kernel
theorem dX7_found_27 : decode cX7_found 27 = .ok (.bipush 31, 2) := by decide +kernel
theorem dX7_found_29 : decode cX7_found 29 = .ok (.iload 5, 2) := by decide +kernel
theorem dX7_found_31 : decode cX7_found 31 = .ok (.iadd, 1) := by decide +kernel
theorem dX7_found_32 : decode cX7_found 32 = .ok (.iaload, 1) := by decide +kernel
theorem dX7_found_33 : decode cX7_found 33 = .ok (.iload_n 1, 1) := by decide +kernel
theorem dX7_found_34 : decode cX7_found 34 = .ok (.iload_n 2, 1) := by decide +kernel
theorem dX7_found_35 : decode cX7_found 35 = .ok (.invokevirtual 93, 3) := by decide +kernel
theorem dX7_found_38 : decode cX7_found 38 = .ok (.ifCond .eq 12, 3) := by decide +kernel
theorem dX7_found_41 : decode cX7_found 41 = .ok (.iload 4, 2) := by decide +kernel
theorem dX7_found_43 : decode cX7_found 43 = .ok (.iconst 1, 1) := by decide +kernel
theorem dX7_found_44 : decode cX7_found 44 = .ok (.iload 5, 2) := by decide +kernel
theorem dX7_found_46 : decode cX7_found 46 = .ok (.ishl, 1) := by decide +kernel
theorem dX7_found_47 : decode cX7_found 47 = .ok (.ior, 1) := by decide +kernel
theorem dX7_found_48 : decode cX7_found 48 = .ok (.istore 4, 2) := by decide +kernel
theorem dX7_found_50 : decode cX7_found 50 = .ok (.iinc 5 1, 3) := by decide +kernel
theorem dX7_found_53 : decode cX7_found 53 = .ok (.goto (-36), 3) := by decide +kernel
theorem dX7_found_56 : decode cX7_found 56 = .ok (.iload 4, 2) := by decide +kernel
theorem dX7_found_58 : decode cX7_found 58 = .ok (.ireturn, 1) := by decide +kernel
theorem dX7_isFound_0 : decode cX7_isFound 0 = .ok (.iload_n 3, 1) := by decide +kernel
theorem dX7_isFound_1 : decode cX7_isFound 1 = .ok (.tableswitch 69 0 2 #[27, 37, 47], 27) := by decide +kernel
theorem dX7_isFound_28 : decode cX7_isFound 28 = .ok (.aload_n 0, 1) := by decide +kernel
theorem dX7_isFound_29 : decode cX7_isFound 29 = .ok (.getfield 22, 3) := by decide +kernel
theorem dX7_isFound_32 : decode cX7_isFound 32 = .ok (.iload_n 1, 1) := by decide +kernel
theorem dX7_isFound_33 : decode cX7_isFound 33 = .ok (.iload_n 2, 1) := by decide +kernel
theorem dX7_isFound_34 : decode cX7_isFound 34 = .ok (.invokevirtual 96, 3) := by decide +kernel
theorem dX7_isFound_37 : decode cX7_isFound 37 = .ok (.ireturn, 1) := by decide +kernel
theorem dX7_isFound_38 : decode cX7_isFound 38 = .ok (.aload_n 0, 1) := by decide +kernel
theorem dX7_isFound_39 : decode cX7_isFound 39 = .ok (.getfield 22, 3) := by decide +kernel
theorem dX7_isFound_42 : decode cX7_isFound 42 = .ok (.iload_n 2, 1) := by decide +kernel
theorem dX7_isFound_43 : decode cX7_isFound 43 = .ok (.iload_n 1, 1) := by decide +kernel
theorem dX7_isFound_44 : decode cX7_isFound 44 = .ok (.invokevirtual 96, 3) := by decide +kernel
theorem dX7_isFound_47 : decode cX7_isFound 47 = .ok (.ireturn, 1) := by decide +kernel
theorem dX7_isFound_48 : decode cX7_isFound 48 = .ok (.aload_n 0, 1) := by decide +kernel
theorem dX7_isFound_49 : decode cX7_isFound 49 = .ok (.getfield 26, 3) := by decide +kernel
theorem dX7_isFound_52 : decode cX7_isFound 52 = .ok (.iload_n 1, 1) := by decide +kernel
theorem dX7_isFound_53 : decode cX7_isFound 53 = .ok (.iload_n 2, 1) := by decide +kernel
theorem dX7_isFound_54 : decode cX7_isFound 54 = .ok (.sipush 400, 3) := by decide +kernel
theorem dX7_isFound_57 : decode cX7_isFound 57 = .ok (.invokevirtual 89, 3) := by decide +kernel
theorem dX7_isFound_60 : decode cX7_isFound 60 = .ok (.iconst 1, 1) := by decide +kernel
theorem dX7_isFound_61 : decode cX7_isFound 61 = .ok (.if_icmp .ne 7, 3) := by decide +kernel
theorem dX7_isFound_64 : decode cX7_isFound 64 = .ok (.iconst 1, 1) := by decide +kernel
theorem dX7_isFound_65 : decode cX7_isFound 65 = .ok (.goto 4, 3) := by decide +kernel
theorem dX7_isFound_68 : decode cX7_isFound 68 = .ok (.iconst 0, 1) := by decide +kernel
theorem dX7_isFound_69 : decode cX7_isFound 69 = .ok (.ireturn, 1) := by decide +kernel
theorem dX7_isFound_70 : decode cX7_isFound 70 = .ok (.aload_n 0, 1) := by decide +kernel
theorem dX7_isFound_71 : decode cX7_isFound 71 = .ok (.getfield 21, 3) := by decide +kernel
theorem dX7_isFound_74 : decode cX7_isFound 74 = .ok (.getfield 101, 3) := by decide +kernel
theorem dX7_isFound_77 : decode cX7_isFound 77 = .ok (.iload_n 1, 1) := by decide +kernel
theorem dX7_isFound_78 : decode cX7_isFound 78 = .ok (.iaload, 1) := by decide +kernel
theorem dX7_isFound_79 : decode cX7_isFound 79 = .ok (.aload_n 0, 1) := by decide +kernel
theorem dX7_isFound_80 : decode cX7_isFound 80 = .ok (.getfield 21, 3) := by decide +kernel
theorem dX7_isFound_83 : decode cX7_isFound 83 = .ok (.getfield 101, 3) := by decide +kernel
theorem dX7_isFound_86 : decode cX7_isFound 86 = .ok (.iload_n 2, 1) := by decide +kernel
theorem dX7_isFound_87 : decode cX7_isFound 87 = .ok (.iaload, 1) := by decide +kernel
theorem dX7_isFound_88 : decode cX7_isFound 88 = .ok (.if_icmp .ne 7, 3) := by decide +kernel
theorem dX7_isFound_91 : decode cX7_isFound 91 = .ok (.iconst 1, 1) := by decide +kernel
theorem dX7_isFound_92 : decode cX7_isFound 92 = .ok (.goto 4, 3) := by decide +kernel
theorem dX7_isFound_95 : decode cX7_isFound 95 = .ok (.iconst 0, 1) := by decide +kernel
theorem dX7_isFound_96 : decode cX7_isFound 96 = .ok (.ireturn, 1) := by decide +kernel
theorem dX7_firstRule_0 : decode cX7_firstRule 0 = .ok (.iconst 0, 1) := by decide +kernel
theorem dX7_firstRule_1 : decode cX7_firstRule 1 = .ok (.istore_n 3, 1) := by decide +kernel
theorem dX7_firstRule_2 : decode cX7_firstRule 2 = .ok (.iload_n 3, 1) := by decide +kernel
theorem dX7_firstRule_3 : decode cX7_firstRule 3 = .ok (.aload_n 0, 1) := by decide +kernel
theorem dX7_firstRule_4 : decode cX7_firstRule 4 = .ok (.getfield 60, 3) := by decide +kernel
theorem dX7_firstRule_7 : decode cX7_firstRule 7 = .ok (.iconst 4, 1) := by decide +kernel
theorem dX7_firstRule_8 : decode cX7_firstRule 8 = .ok (.iaload, 1) := by decide +kernel
theorem dX7_firstRule_9 : decode cX7_firstRule 9 = .ok (.if_icmp .ge 28, 3) := by decide +kernel
theorem dX7_firstRule_12 : decode cX7_firstRule 12 = .ok (.aload_n 1, 1) := by decide +kernel
theorem dX7_firstRule_13 : decode cX7_firstRule 13 = .ok (.aload_n 0, 1) := by decide +kernel
theorem dX7_firstRule_14 : decode cX7_firstRule 14 = .ok (.getfield 60, 3) := by decide +kernel
theorem dX7_firstRule_17 : decode cX7_firstRule 17 = .ok (.bipush 15, 2) := by decide +kernel
theorem dX7_firstRule_19 : decode cX7_firstRule 19 = .ok (.iload_n 3, 1) := by decide +kernel
theorem dX7_firstRule_20 : decode cX7_firstRule 20 = .ok (.iadd, 1) := by decide +kernel
theorem dX7_firstRule_21 : decode cX7_firstRule 21 = .ok (.iaload, 1) := by decide +kernel
theorem dX7_firstRule_22 : decode cX7_firstRule 22 = .ok (.iload_n 2, 1) := by decide +kernel
theorem dX7_firstRule_23 : decode cX7_firstRule 23 = .ok (.invokevirtual 96, 3) := by decide +kernel
theorem dX7_firstRule_26 : decode cX7_firstRule 26 = .ok (.ifCond .eq 5, 3) := by decide +kernel
theorem dX7_firstRule_29 : decode cX7_firstRule 29 = .ok (.iload_n 3, 1) := by decide +kernel
theorem dX7_firstRule_30 : decode cX7_firstRule 30 = .ok (.ireturn, 1) := by decide +kernel
theorem dX7_firstRule_31 : decode cX7_firstRule 31 = .ok (.iinc 3 1, 3) := by decide +kernel
theorem dX7_firstRule_34 : decode cX7_firstRule 34 = .ok (.goto (-32), 3) := by decide +kernel
theorem dX7_firstRule_37 : decode cX7_firstRule 37 = .ok (.iconst (-1), 1) := by decide +kernel
theorem dX7_firstRule_38 : decode cX7_firstRule 38 = .ok (.ireturn, 1) := by decide +kernel
theorem dX7_isReduced_0 : decode cX7_isReduced 0 = .ok (.aload_n 0, 1) := by decide +kernel
theorem dX7_isReduced_1 : decode cX7_isReduced 1 = .ok (.getfield 21, 3) := by decide +kernel
theorem dX7_isReduced_4 : decode cX7_isReduced 4 = .ok (.iload_n 1, 1) := by decide +kernel
theorem dX7_isReduced_5 : decode cX7_isReduced 5 = .ok (.invokevirtual 104, 3) := by decide +kernel
theorem dX7_isReduced_8 : decode cX7_isReduced 8 = .ok (.iconst 0, 1) := by decide +kernel
theorem dX7_isReduced_9 : decode cX7_isReduced 9 = .ok (.istore_n 2, 1) := by decide +kernel
theorem dX7_isReduced_10 : decode cX7_isReduced 10 = .ok (.iload_n 2, 1) := by decide +kernel
theorem dX7_isReduced_11 : decode cX7_isReduced 11 = .ok (.iload_n 1, 1) := by decide +kernel
theorem dX7_isReduced_12 : decode cX7_isReduced 12 = .ok (.if_icmp .gt 43, 3) := by decide +kernel
theorem dX7_isReduced_15 : decode cX7_isReduced 15 = .ok (.aload_n 0, 1) := by decide +kernel
theorem dX7_isReduced_16 : decode cX7_isReduced 16 = .ok (.getfield 21, 3) := by decide +kernel
theorem dX7_isReduced_19 : decode cX7_isReduced 19 = .ok (.getfield 108, 3) := by decide +kernel
theorem dX7_isReduced_22 : decode cX7_isReduced 22 = .ok (.iload_n 2, 1) := by decide +kernel
theorem dX7_isReduced_23 : decode cX7_isReduced 23 = .ok (.iaload, 1) := by decide +kernel
theorem dX7_isReduced_24 : decode cX7_isReduced 24 = .ok (.iconst 1, 1) := by decide +kernel
theorem dX7_isReduced_25 : decode cX7_isReduced 25 = .ok (.if_icmp .ne 24, 3) := by decide +kernel
theorem dX7_isReduced_28 : decode cX7_isReduced 28 = .ok (.aload_n 0, 1) := by decide +kernel
theorem dX7_isReduced_29 : decode cX7_isReduced 29 = .ok (.getfield 9, 3) := by decide +kernel
theorem dX7_isReduced_32 : decode cX7_isReduced 32 = .ok (.getfield 56, 3) := by decide +kernel
theorem dX7_isReduced_35 : decode cX7_isReduced 35 = .ok (.aload_n 0, 1) := by decide +kernel
theorem dX7_isReduced_36 : decode cX7_isReduced 36 = .ok (.getfield 22, 3) := by decide +kernel
theorem dX7_isReduced_39 : decode cX7_isReduced 39 = .ok (.iload_n 2, 1) := by decide +kernel
theorem dX7_isReduced_40 : decode cX7_isReduced 40 = .ok (.invokestatic 111, 3) := by decide +kernel
theorem dX7_isReduced_43 : decode cX7_isReduced 43 = .ok (.iconst (-1), 1) := by decide +kernel
theorem dX7_isReduced_44 : decode cX7_isReduced 44 = .ok (.if_icmp .eq 5, 3) := by decide +kernel
theorem dX7_isReduced_47 : decode cX7_isReduced 47 = .ok (.iconst 0, 1) := by decide +kernel
theorem dX7_isReduced_48 : decode cX7_isReduced 48 = .ok (.ireturn, 1) := by decide +kernel
theorem dX7_isReduced_49 : decode cX7_isReduced 49 = .ok (.iinc 2 1, 3) := by decide +kernel
theorem dX7_isReduced_52 : decode cX7_isReduced 52 = .ok (.goto (-42), 3) := by decide +kernel
theorem dX7_isReduced_55 : decode cX7_isReduced 55 = .ok (.iconst 1, 1) := by decide +kernel
theorem dX7_isReduced_56 : decode cX7_isReduced 56 = .ok (.ireturn, 1) := by decide +kernel
theorem dX8_init_0 : decode cX8_init 0 = .ok (.aload_n 0, 1) := by decide +kernel
theorem dX8_init_1 : decode cX8_init 1 = .ok (.invokespecial 3, 3) := by decide +kernel
theorem dX8_init_4 : decode cX8_init 4 = .ok (.aload_n 0, 1) := by decide +kernel
theorem dX8_init_5 : decode cX8_init 5 = .ok (.bipush 10, 2) := by decide +kernel
theorem dX8_init_7 : decode cX8_init 7 = .ok (.newarray .int, 2) := by decide +kernel
theorem dX8_init_9 : decode cX8_init 9 = .ok (.putfield 9, 3) := by decide +kernel
theorem dX8_init_12 : decode cX8_init 12 = .ok (.aload_n 0, 1) := by decide +kernel
theorem dX8_init_13 : decode cX8_init 13 = .ok (.bipush 10, 2) := by decide +kernel
theorem dX8_init_15 : decode cX8_init 15 = .ok (.newarray .int, 2) := by decide +kernel
theorem dX8_init_17 : decode cX8_init 17 = .ok (.putfield 15, 3) := by decide +kernel
theorem dX8_init_20 : decode cX8_init 20 = .ok (.aload_n 0, 1) := by decide +kernel
theorem dX8_init_21 : decode cX8_init 21 = .ok (.bipush 10, 2) := by decide +kernel
theorem dX8_init_23 : decode cX8_init 23 = .ok (.newarray .int, 2) := by decide +kernel
theorem dX8_init_25 : decode cX8_init 25 = .ok (.putfield 18, 3) := by decide +kernel
theorem dX8_init_28 : decode cX8_init 28 = .ok (.aload_n 0, 1) := by decide +kernel
theorem dX8_init_29 : decode cX8_init 29 = .ok (.iconst 0, 1) := by decide +kernel
theorem dX8_init_30 : decode cX8_init 30 = .ok (.putfield 21, 3) := by decide +kernel
theorem dX8_init_33 : decode cX8_init 33 = .ok (.return_, 1) := by decide +kernel
theorem dX8_has_0 : decode cX8_has 0 = .ok (.iload_n 1, 1) := by decide +kernel
theorem dX8_has_1 : decode cX8_has 1 = .ok (.ifCond .lt 15, 3) := by decide +kernel
theorem dX8_has_4 : decode cX8_has 4 = .ok (.iload_n 1, 1) := by decide +kernel
theorem dX8_has_5 : decode cX8_has 5 = .ok (.aload_n 0, 1) := by decide +kernel
theorem dX8_has_6 : decode cX8_has 6 = .ok (.getfield 21, 3) := by decide +kernel
theorem dX8_has_9 : decode cX8_has 9 = .ok (.if_icmp .ge 7, 3) := by decide +kernel
theorem dX8_has_12 : decode cX8_has 12 = .ok (.iconst 1, 1) := by decide +kernel
theorem dX8_has_13 : decode cX8_has 13 = .ok (.goto 4, 3) := by decide +kernel
theorem dX8_has_16 : decode cX8_has 16 = .ok (.iconst 0, 1) := by decide +kernel
theorem dX8_has_17 : decode cX8_has 17 = .ok (.ireturn, 1) := by decide +kernel
theorem dX8_empty_0 : decode cX8_empty 0 = .ok (.aload_n 0, 1) := by decide +kernel
theorem dX8_empty_1 : decode cX8_empty 1 = .ok (.iconst 0, 1) := by decide +kernel
theorem dX8_empty_2 : decode cX8_empty 2 = .ok (.putfield 21, 3) := by decide +kernel
theorem dX8_empty_5 : decode cX8_empty 5 = .ok (.return_, 1) := by decide +kernel
theorem dX8_add_0 : decode cX8_add 0 = .ok (.aload_n 0, 1) := by decide +kernel
theorem dX8_add_1 : decode cX8_add 1 = .ok (.getfield 21, 3) := by decide +kernel
theorem dX8_add_4 : decode cX8_add 4 = .ok (.bipush 10, 2) := by decide +kernel
theorem dX8_add_6 : decode cX8_add 6 = .ok (.if_icmp .ge 43, 3) := by decide +kernel
theorem dX8_add_9 : decode cX8_add 9 = .ok (.aload_n 0, 1) := by decide +kernel
theorem dX8_add_10 : decode cX8_add 10 = .ok (.getfield 9, 3) := by decide +kernel
theorem dX8_add_13 : decode cX8_add 13 = .ok (.aload_n 0, 1) := by decide +kernel
theorem dX8_add_14 : decode cX8_add 14 = .ok (.getfield 21, 3) := by decide +kernel
theorem dX8_add_17 : decode cX8_add 17 = .ok (.iload_n 1, 1) := by decide +kernel
theorem dX8_add_18 : decode cX8_add 18 = .ok (.iastore, 1) := by decide +kernel
theorem dX8_add_19 : decode cX8_add 19 = .ok (.aload_n 0, 1) := by decide +kernel
theorem dX8_add_20 : decode cX8_add 20 = .ok (.getfield 15, 3) := by decide +kernel
theorem dX8_add_23 : decode cX8_add 23 = .ok (.aload_n 0, 1) := by decide +kernel
theorem dX8_add_24 : decode cX8_add 24 = .ok (.getfield 21, 3) := by decide +kernel
theorem dX8_add_27 : decode cX8_add 27 = .ok (.iload_n 2, 1) := by decide +kernel
theorem dX8_add_28 : decode cX8_add 28 = .ok (.iastore, 1) := by decide +kernel
theorem dX8_add_29 : decode cX8_add 29 = .ok (.aload_n 0, 1) := by decide +kernel
theorem dX8_add_30 : decode cX8_add 30 = .ok (.getfield 18, 3) := by decide +kernel
theorem dX8_add_33 : decode cX8_add 33 = .ok (.aload_n 0, 1) := by decide +kernel
theorem dX8_add_34 : decode cX8_add 34 = .ok (.getfield 21, 3) := by decide +kernel
theorem dX8_add_37 : decode cX8_add 37 = .ok (.iload_n 3, 1) := by decide +kernel
theorem dX8_add_38 : decode cX8_add 38 = .ok (.iastore, 1) := by decide +kernel
theorem dX8_add_39 : decode cX8_add 39 = .ok (.aload_n 0, 1) := by decide +kernel
theorem dX8_add_40 : decode cX8_add 40 = .ok (.dup, 1) := by decide +kernel
theorem dX8_add_41 : decode cX8_add 41 = .ok (.getfield 21, 3) := by decide +kernel
theorem dX8_add_44 : decode cX8_add 44 = .ok (.iconst 1, 1) := by decide +kernel
theorem dX8_add_45 : decode cX8_add 45 = .ok (.iadd, 1) := by decide +kernel
theorem dX8_add_46 : decode cX8_add 46 = .ok (.putfield 21, 3) := by decide +kernel
theorem dX8_add_49 : decode cX8_add 49 = .ok (.return_, 1) := by decide +kernel
theorem dX8_named_0 : decode cX8_named 0 = .ok (.iconst 0, 1) := by decide +kernel
theorem dX8_named_1 : decode cX8_named 1 = .ok (.istore_n 2, 1) := by decide +kernel
theorem dX8_named_2 : decode cX8_named 2 = .ok (.iload_n 2, 1) := by decide +kernel
theorem dX8_named_3 : decode cX8_named 3 = .ok (.aload_n 0, 1) := by decide +kernel
theorem dX8_named_4 : decode cX8_named 4 = .ok (.getfield 21, 3) := by decide +kernel
theorem dX8_named_7 : decode cX8_named 7 = .ok (.if_icmp .ge 21, 3) := by decide +kernel
theorem dX8_named_10 : decode cX8_named 10 = .ok (.aload_n 0, 1) := by decide +kernel
theorem dX8_named_11 : decode cX8_named 11 = .ok (.getfield 9, 3) := by decide +kernel
theorem dX8_named_14 : decode cX8_named 14 = .ok (.iload_n 2, 1) := by decide +kernel
theorem dX8_named_15 : decode cX8_named 15 = .ok (.iaload, 1) := by decide +kernel
theorem dX8_named_16 : decode cX8_named 16 = .ok (.iload_n 1, 1) := by decide +kernel
theorem dX8_named_17 : decode cX8_named 17 = .ok (.if_icmp .ne 5, 3) := by decide +kernel
theorem dX8_named_20 : decode cX8_named 20 = .ok (.iload_n 2, 1) := by decide +kernel
theorem dX8_named_21 : decode cX8_named 21 = .ok (.ireturn, 1) := by decide +kernel
theorem dX8_named_22 : decode cX8_named 22 = .ok (.iinc 2 1, 3) := by decide +kernel
theorem dX8_named_25 : decode cX8_named 25 = .ok (.goto (-23), 3) := by decide +kernel
theorem dX8_named_28 : decode cX8_named 28 = .ok (.iconst (-1), 1) := by decide +kernel
theorem dX8_named_29 : decode cX8_named 29 = .ok (.ireturn, 1) := by decide +kernel
theorem dX8_takeFrom_0 : decode cX8_takeFrom 0 = .ok (.aload_n 1, 1) := by decide +kernel
theorem dX8_takeFrom_1 : decode cX8_takeFrom 1 = .ok (.getfield 9, 3) := by decide +kernel
theorem dX8_takeFrom_4 : decode cX8_takeFrom 4 = .ok (.iconst 0, 1) := by decide +kernel
theorem dX8_takeFrom_5 : decode cX8_takeFrom 5 = .ok (.aload_n 0, 1) := by decide +kernel
theorem dX8_takeFrom_6 : decode cX8_takeFrom 6 = .ok (.getfield 9, 3) := by decide +kernel
theorem dX8_takeFrom_9 : decode cX8_takeFrom 9 = .ok (.iconst 0, 1) := by decide +kernel
theorem dX8_takeFrom_10 : decode cX8_takeFrom 10 = .ok (.bipush 10, 2) := by decide +kernel
theorem dX8_takeFrom_12 : decode cX8_takeFrom 12 = .ok (.invokestatic 25, 3) := by decide +kernel
theorem dX8_takeFrom_15 : decode cX8_takeFrom 15 = .ok (.aload_n 1, 1) := by decide +kernel
theorem dX8_takeFrom_16 : decode cX8_takeFrom 16 = .ok (.getfield 15, 3) := by decide +kernel
theorem dX8_takeFrom_19 : decode cX8_takeFrom 19 = .ok (.iconst 0, 1) := by decide +kernel
theorem dX8_takeFrom_20 : decode cX8_takeFrom 20 = .ok (.aload_n 0, 1) := by decide +kernel
theorem dX8_takeFrom_21 : decode cX8_takeFrom 21 = .ok (.getfield 15, 3) := by decide +kernel
theorem dX8_takeFrom_24 : decode cX8_takeFrom 24 = .ok (.iconst 0, 1) := by decide +kernel
theorem dX8_takeFrom_25 : decode cX8_takeFrom 25 = .ok (.bipush 10, 2) := by decide +kernel
theorem dX8_takeFrom_27 : decode cX8_takeFrom 27 = .ok (.invokestatic 25, 3) := by decide +kernel
theorem dX8_takeFrom_30 : decode cX8_takeFrom 30 = .ok (.aload_n 1, 1) := by decide +kernel
theorem dX8_takeFrom_31 : decode cX8_takeFrom 31 = .ok (.getfield 18, 3) := by decide +kernel
theorem dX8_takeFrom_34 : decode cX8_takeFrom 34 = .ok (.iconst 0, 1) := by decide +kernel
theorem dX8_takeFrom_35 : decode cX8_takeFrom 35 = .ok (.aload_n 0, 1) := by decide +kernel
theorem dX8_takeFrom_36 : decode cX8_takeFrom 36 = .ok (.getfield 18, 3) := by decide +kernel
theorem dX8_takeFrom_39 : decode cX8_takeFrom 39 = .ok (.iconst 0, 1) := by decide +kernel
theorem dX8_takeFrom_40 : decode cX8_takeFrom 40 = .ok (.bipush 10, 2) := by decide +kernel
theorem dX8_takeFrom_42 : decode cX8_takeFrom 42 = .ok (.invokestatic 25, 3) := by decide +kernel
theorem dX8_takeFrom_45 : decode cX8_takeFrom 45 = .ok (.aload_n 0, 1) := by decide +kernel
theorem dX8_takeFrom_46 : decode cX8_takeFrom 46 = .ok (.aload_n 1, 1) := by decide +kernel
theorem dX8_takeFrom_47 : decode cX8_takeFrom 47 = .ok (.getfield 21, 3) := by decide +kernel
theorem dX8_takeFrom_50 : decode cX8_takeFrom 50 = .ok (.putfield 21, 3) := by decide +kernel
theorem dX8_takeFrom_53 : decode cX8_takeFrom 53 = .ok (.return_, 1) := by decide +kernel
