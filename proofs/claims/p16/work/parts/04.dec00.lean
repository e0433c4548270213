theorem dX0_init_0 : decode cX0_init 0 = .ok (.aload_n 0, 1) := by decide +kernel
theorem dX0_init_1 : decode cX0_init 1 = .ok (.invokespecial 3, 3) := by decide +kernel
theorem dX0_init_4 : decode cX0_init 4 = .ok (.aload_n 0, 1) := by decide +kernel
theorem dX0_init_5 : decode cX0_init 5 = .ok (.bipush 40, 2) := by decide +kernel
theorem dX0_init_7 : decode cX0_init 7 = .ok (.bipush 61, 2) := by decide +kernel
theorem dX0_init_9 : decode cX0_init 9 = .ok (.multianewarray 11 2, 4) := by decide +kernel
theorem dX0_init_13 : decode cX0_init 13 = .ok (.putfield 13, 3) := by decide +kernel
theorem dX0_init_16 : decode cX0_init 16 = .ok (.aload_n 0, 1) := by decide +kernel
theorem dX0_init_17 : decode cX0_init 17 = .ok (.bipush 61, 2) := by decide +kernel
theorem dX0_init_19 : decode cX0_init 19 = .ok (.newarray .int, 2) := by decide +kernel
theorem dX0_init_21 : decode cX0_init 21 = .ok (.putfield 18, 3) := by decide +kernel
theorem dX0_init_24 : decode cX0_init 24 = .ok (.aload_n 0, 1) := by decide +kernel
theorem dX0_init_25 : decode cX0_init 25 = .ok (.iconst 4, 1) := by decide +kernel
theorem dX0_init_26 : decode cX0_init 26 = .ok (.newarray .int, 2) := by decide +kernel
theorem dX0_init_28 : decode cX0_init 28 = .ok (.putfield 22, 3) := by decide +kernel
theorem dX0_init_31 : decode cX0_init 31 = .ok (.aload_n 0, 1) := by decide +kernel
theorem dX0_init_32 : decode cX0_init 32 = .ok (.iconst 0, 1) := by decide +kernel
theorem dX0_init_33 : decode cX0_init 33 = .ok (.putfield 25, 3) := by decide +kernel
theorem dX0_init_36 : decode cX0_init 36 = .ok (.aload_n 0, 1) := by decide +kernel
theorem dX0_init_37 : decode cX0_init 37 = .ok (.iconst 0, 1) := by decide +kernel
theorem dX0_init_38 : decode cX0_init 38 = .ok (.putfield 29, 3) := by decide +kernel
theorem dX0_init_41 : decode cX0_init 41 = .ok (.aload_n 0, 1) := by decide +kernel
theorem dX0_init_42 : decode cX0_init 42 = .ok (.aload_n 1, 1) := by decide +kernel
theorem dX0_init_43 : decode cX0_init 43 = .ok (.putfield 32, 3) := by decide +kernel
theorem dX0_init_46 : decode cX0_init 46 = .ok (.aload_n 0, 1) := by decide +kernel
theorem dX0_init_47 : decode cX0_init 47 = .ok (.aload_n 2, 1) := by decide +kernel
theorem dX0_init_48 : decode cX0_init 48 = .ok (.putfield 36, 3) := by decide +kernel
theorem dX0_init_51 : decode cX0_init 51 = .ok (.return_, 1) := by decide +kernel
theorem dX0_begin_0 : decode cX0_begin 0 = .ok (.aload_n 0, 1) := by decide +kernel
theorem dX0_begin_1 : decode cX0_begin 1 = .ok (.getfield 36, 3) := by decide +kernel
theorem dX0_begin_4 : decode cX0_begin 4 = .ok (.getfield 40, 3) := by decide +kernel
theorem dX0_begin_7 : decode cX0_begin 7 = .ok (.iconst 0, 1) := by decide +kernel
theorem dX0_begin_8 : decode cX0_begin 8 = .ok (.aload_n 0, 1) := by decide +kernel
theorem dX0_begin_9 : decode cX0_begin 9 = .ok (.getfield 32, 3) := by decide +kernel
theorem dX0_begin_12 : decode cX0_begin 12 = .ok (.getfield 43, 3) := by decide +kernel
theorem dX0_begin_15 : decode cX0_begin 15 = .ok (.iastore, 1) := by decide +kernel
theorem dX0_begin_16 : decode cX0_begin 16 = .ok (.aload_n 0, 1) := by decide +kernel
theorem dX0_begin_17 : decode cX0_begin 17 = .ok (.getfield 36, 3) := by decide +kernel
theorem dX0_begin_20 : decode cX0_begin 20 = .ok (.getfield 40, 3) := by decide +kernel
theorem dX0_begin_23 : decode cX0_begin 23 = .ok (.iconst 0, 1) := by decide +kernel
theorem dX0_begin_24 : decode cX0_begin 24 = .ok (.aload_n 0, 1) := by decide +kernel
theorem dX0_begin_25 : decode cX0_begin 25 = .ok (.getfield 18, 3) := by decide +kernel
theorem dX0_begin_28 : decode cX0_begin 28 = .ok (.iconst 0, 1) := by decide +kernel
theorem dX0_begin_29 : decode cX0_begin 29 = .ok (.bipush 61, 2) := by decide +kernel
theorem dX0_begin_31 : decode cX0_begin 31 = .ok (.invokestatic 48, 3) := by decide +kernel
theorem dX0_begin_34 : decode cX0_begin 34 = .ok (.return_, 1) := by decide +kernel
theorem dX0_keep_0 : decode cX0_keep 0 = .ok (.aload_n 0, 1) := by decide +kernel
theorem dX0_keep_1 : decode cX0_keep 1 = .ok (.getfield 29, 3) := by decide +kernel
theorem dX0_keep_4 : decode cX0_keep 4 = .ok (.bipush 40, 2) := by decide +kernel
theorem dX0_keep_6 : decode cX0_keep 6 = .ok (.if_icmp .ne 26, 3) := by decide +kernel
theorem dX0_keep_9 : decode cX0_keep 9 = .ok (.aload_n 0, 1) := by decide +kernel
theorem dX0_keep_10 : decode cX0_keep 10 = .ok (.aload_n 0, 1) := by decide +kernel
theorem dX0_keep_11 : decode cX0_keep 11 = .ok (.getfield 25, 3) := by decide +kernel
theorem dX0_keep_14 : decode cX0_keep 14 = .ok (.iconst 1, 1) := by decide +kernel
theorem dX0_keep_15 : decode cX0_keep 15 = .ok (.iadd, 1) := by decide +kernel
theorem dX0_keep_16 : decode cX0_keep 16 = .ok (.bipush 40, 2) := by decide +kernel
theorem dX0_keep_18 : decode cX0_keep 18 = .ok (.irem, 1) := by decide +kernel
theorem dX0_keep_19 : decode cX0_keep 19 = .ok (.putfield 25, 3) := by decide +kernel
theorem dX0_keep_22 : decode cX0_keep 22 = .ok (.aload_n 0, 1) := by decide +kernel
theorem dX0_keep_23 : decode cX0_keep 23 = .ok (.dup, 1) := by decide +kernel
theorem dX0_keep_24 : decode cX0_keep 24 = .ok (.getfield 29, 3) := by decide +kernel
theorem dX0_keep_27 : decode cX0_keep 27 = .ok (.iconst 1, 1) := by decide +kernel
theorem dX0_keep_28 : decode cX0_keep 28 = .ok (.isub, 1) := by decide +kernel
theorem dX0_keep_29 : decode cX0_keep 29 = .ok (.putfield 29, 3) := by decide +kernel
theorem dX0_keep_32 : decode cX0_keep 32 = .ok (.aload_n 0, 1) := by decide +kernel
theorem dX0_keep_33 : decode cX0_keep 33 = .ok (.getfield 18, 3) := by decide +kernel
theorem dX0_keep_36 : decode cX0_keep 36 = .ok (.iconst 0, 1) := by decide +kernel
theorem dX0_keep_37 : decode cX0_keep 37 = .ok (.aload_n 0, 1) := by decide +kernel
theorem dX0_keep_38 : decode cX0_keep 38 = .ok (.getfield 13, 3) := by decide +kernel
theorem dX0_keep_41 : decode cX0_keep 41 = .ok (.aload_n 0, 1) := by decide +kernel
theorem dX0_keep_42 : decode cX0_keep 42 = .ok (.getfield 25, 3) := by decide +kernel
theorem dX0_keep_45 : decode cX0_keep 45 = .ok (.aload_n 0, 1) := by decide +kernel
theorem dX0_keep_46 : decode cX0_keep 46 = .ok (.getfield 29, 3) := by decide +kernel
theorem dX0_keep_49 : decode cX0_keep 49 = .ok (.iadd, 1) := by decide +kernel
theorem dX0_keep_50 : decode cX0_keep 50 = .ok (.bipush 40, 2) := by decide +kernel
theorem dX0_keep_52 : decode cX0_keep 52 = .ok (.irem, 1) := by decide +kernel
theorem dX0_keep_53 : decode cX0_keep 53 = .ok (.aaload, 1) := by decide +kernel
theorem dX0_keep_54 : decode cX0_keep 54 = .ok (.iconst 0, 1) := by decide +kernel
theorem dX0_keep_55 : decode cX0_keep 55 = .ok (.bipush 61, 2) := by decide +kernel
theorem dX0_keep_57 : decode cX0_keep 57 = .ok (.invokestatic 48, 3) := by decide +kernel
theorem dX0_keep_60 : decode cX0_keep 60 = .ok (.aload_n 0, 1) := by decide +kernel
theorem dX0_keep_61 : decode cX0_keep 61 = .ok (.dup, 1) := by decide +kernel
theorem dX0_keep_62 : decode cX0_keep 62 = .ok (.getfield 29, 3) := by decide +kernel
theorem dX0_keep_65 : decode cX0_keep 65 = .ok (.iconst 1, 1) := by decide +kernel
theorem dX0_keep_66 : decode cX0_keep 66 = .ok (.iadd, 1) := by decide +kernel
theorem dX0_keep_67 : decode cX0_keep 67 = .ok (.putfield 29, 3) := by decide +kernel
theorem dX0_keep_70 : decode cX0_keep 70 = .ok (.return_, 1) := by decide +kernel
theorem dX0_rollBack_0 : decode cX0_rollBack 0 = .ok (.aload_n 0, 1) := by decide +kernel
theorem dX0_rollBack_1 : decode cX0_rollBack 1 = .ok (.aload_n 0, 1) := by decide +kernel
theorem dX0_rollBack_2 : decode cX0_rollBack 2 = .ok (.getfield 18, 3) := by decide +kernel
theorem dX0_rollBack_5 : decode cX0_rollBack 5 = .ok (.invokevirtual 54, 3) := by decide +kernel
theorem dX0_rollBack_8 : decode cX0_rollBack 8 = .ok (.return_, 1) := by decide +kernel
theorem dX0_takeBack_0 : decode cX0_takeBack 0 = .ok (.aload_n 1, 1) := by decide +kernel
theorem dX0_takeBack_1 : decode cX0_takeBack 1 = .ok (.iconst 0, 1) := by decide +kernel
theorem dX0_takeBack_2 : decode cX0_takeBack 2 = .ok (.aload_n 0, 1) := by decide +kernel
theorem dX0_takeBack_3 : decode cX0_takeBack 3 = .ok (.getfield 36, 3) := by decide +kernel
theorem dX0_takeBack_6 : decode cX0_takeBack 6 = .ok (.getfield 40, 3) := by decide +kernel
theorem dX0_takeBack_9 : decode cX0_takeBack 9 = .ok (.iconst 0, 1) := by decide +kernel
theorem dX0_takeBack_10 : decode cX0_takeBack 10 = .ok (.bipush 61, 2) := by decide +kernel
theorem dX0_takeBack_12 : decode cX0_takeBack 12 = .ok (.invokestatic 48, 3) := by decide +kernel
theorem dX0_takeBack_15 : decode cX0_takeBack 15 = .ok (.aload_n 0, 1) := by decide +kernel
theorem dX0_takeBack_16 : decode cX0_takeBack 16 = .ok (.getfield 32, 3) := by decide +kernel
theorem dX0_takeBack_19 : decode cX0_takeBack 19 = .ok (.aload_n 1, 1) := by decide +kernel
theorem dX0_takeBack_20 : decode cX0_takeBack 20 = .ok (.iconst 0, 1) := by decide +kernel
theorem dX0_takeBack_21 : decode cX0_takeBack 21 = .ok (.iaload, 1) := by decide +kernel
theorem dX0_takeBack_22 : decode cX0_takeBack 22 = .ok (.invokevirtual 58, 3) := by decide +kernel
theorem dX0_takeBack_25 : decode cX0_takeBack 25 = .ok (.return_, 1) := by decide +kernel
theorem dX0_undoLast_0 : decode cX0_undoLast 0 = .ok (.aload_n 0, 1) := by decide +kernel
theorem dX0_undoLast_1 : decode cX0_undoLast 1 = .ok (.getfield 29, 3) := by decide +kernel
theorem dX0_undoLast_4 : decode cX0_undoLast 4 = .ok (.ifCond .ne 5, 3) := by decide +kernel
theorem dX0_undoLast_7 : decode cX0_undoLast 7 = .ok (.iconst (-1), 1) := by decide +kernel
theorem dX0_undoLast_8 : decode cX0_undoLast 8 = .ok (.ireturn, 1) := by decide +kernel
theorem dX0_undoLast_9 : decode cX0_undoLast 9 = .ok (.aload_n 0, 1) := by decide +kernel
theorem dX0_undoLast_10 : decode cX0_undoLast 10 = .ok (.dup, 1) := by decide +kernel
theorem dX0_undoLast_11 : decode cX0_undoLast 11 = .ok (.getfield 29, 3) := by decide +kernel
theorem dX0_undoLast_14 : decode cX0_undoLast 14 = .ok (.iconst 1, 1) := by decide +kernel
theorem dX0_undoLast_15 : decode cX0_undoLast 15 = .ok (.isub, 1) := by decide +kernel
theorem dX0_undoLast_16 : decode cX0_undoLast 16 = .ok (.putfield 29, 3) := by decide +kernel
theorem dX0_undoLast_19 : decode cX0_undoLast 19 = .ok (.aload_n 0, 1) := by decide +kernel
theorem dX0_undoLast_20 : decode cX0_undoLast 20 = .ok (.aload_n 0, 1) := by decide +kernel
theorem dX0_undoLast_21 : decode cX0_undoLast 21 = .ok (.getfield 13, 3) := by decide +kernel
theorem dX0_undoLast_24 : decode cX0_undoLast 24 = .ok (.aload_n 0, 1) := by decide +kernel
theorem dX0_undoLast_25 : decode cX0_undoLast 25 = .ok (.getfield 25, 3) := by decide +kernel
theorem dX0_undoLast_28 : decode cX0_undoLast 28 = .ok (.aload_n 0, 1) := by decide +kernel
theorem dX0_undoLast_29 : decode cX0_undoLast 29 = .ok (.getfield 29, 3) := by decide +kernel
theorem dX0_undoLast_32 : decode cX0_undoLast 32 = .ok (.iadd, 1) := by decide +kernel
theorem dX0_undoLast_33 : decode cX0_undoLast 33 = .ok (.bipush 40, 2) := by decide +kernel
theorem dX0_undoLast_35 : decode cX0_undoLast 35 = .ok (.irem, 1) := by decide +kernel
theorem dX0_undoLast_36 : decode cX0_undoLast 36 = .ok (.aaload, 1) := by decide +kernel
theorem dX0_undoLast_37 : decode cX0_undoLast 37 = .ok (.invokevirtual 54, 3) := by decide +kernel
theorem dX0_undoLast_40 : decode cX0_undoLast 40 = .ok (.aload_n 0, 1) := by decide +kernel
theorem dX0_undoLast_41 : decode cX0_undoLast 41 = .ok (.getfield 29, 3) := by decide +kernel
theorem dX0_undoLast_44 : decode cX0_undoLast 44 = .ok (.ireturn, 1) := by decide +kernel
theorem dX0_forgetActs_0 : decode cX0_forgetActs 0 = .ok (.aload_n 0, 1) := by decide +kernel
theorem dX0_forgetActs_1 : decode cX0_forgetActs 1 = .ok (.iconst 0, 1) := by decide +kernel
theorem dX0_forgetActs_2 : decode cX0_forgetActs 2 = .ok (.putfield 29, 3) := by decide +kernel
theorem dX0_forgetActs_5 : decode cX0_forgetActs 5 = .ok (.aload_n 0, 1) := by decide +kernel
theorem dX0_forgetActs_6 : decode cX0_forgetActs 6 = .ok (.iconst 0, 1) := by decide +kernel
theorem dX0_forgetActs_7 : decode cX0_forgetActs 7 = .ok (.putfield 25, 3) := by decide +kernel
theorem dX0_forgetActs_10 : decode cX0_forgetActs 10 = .ok (.return_, 1) := by decide +kernel
theorem dX0_takeFrom_0 : decode cX0_takeFrom 0 = .ok (.aload_n 0, 1) := by decide +kernel
theorem dX0_takeFrom_1 : decode cX0_takeFrom 1 = .ok (.getfield 32, 3) := by decide +kernel
theorem dX0_takeFrom_4 : decode cX0_takeFrom 4 = .ok (.aload_n 1, 1) := by decide +kernel
theorem dX0_takeFrom_5 : decode cX0_takeFrom 5 = .ok (.getfield 32, 3) := by decide +kernel
theorem dX0_takeFrom_8 : decode cX0_takeFrom 8 = .ok (.invokevirtual 62, 3) := by decide +kernel
theorem dX0_takeFrom_11 : decode cX0_takeFrom 11 = .ok (.aload_n 0, 1) := by decide +kernel
theorem dX0_takeFrom_12 : decode cX0_takeFrom 12 = .ok (.getfield 36, 3) := by decide +kernel
theorem dX0_takeFrom_15 : decode cX0_takeFrom 15 = .ok (.aload_n 1, 1) := by decide +kernel
theorem dX0_takeFrom_16 : decode cX0_takeFrom 16 = .ok (.getfield 36, 3) := by decide +kernel
theorem dX0_takeFrom_19 : decode cX0_takeFrom 19 = .ok (.invokevirtual 66, 3) := by decide +kernel
theorem dX0_takeFrom_22 : decode cX0_takeFrom 22 = .ok (.aload_n 0, 1) := by decide +kernel
theorem dX0_takeFrom_23 : decode cX0_takeFrom 23 = .ok (.aload_n 1, 1) := by decide +kernel
theorem dX0_takeFrom_24 : decode cX0_takeFrom 24 = .ok (.getfield 25, 3) := by decide +kernel
theorem dX0_takeFrom_27 : decode cX0_takeFrom 27 = .ok (.putfield 25, 3) := by decide +kernel
theorem dX0_takeFrom_30 : decode cX0_takeFrom 30 = .ok (.aload_n 0, 1) := by decide +kernel
theorem dX0_takeFrom_31 : decode cX0_takeFrom 31 = .ok (.aload_n 1, 1) := by decide +kernel
theorem dX0_takeFrom_32 : decode cX0_takeFrom 32 = .ok (.getfield 29, 3) := by decide +kernel
theorem dX0_takeFrom_35 : decode cX0_takeFrom 35 = .ok (.putfield 29, 3) := by decide +kernel
theorem dX0_takeFrom_38 : decode cX0_takeFrom 38 = .ok (.iconst 0, 1) := by decide +kernel
theorem dX0_takeFrom_39 : decode cX0_takeFrom 39 = .ok (.istore_n 2, 1) := by decide +kernel
theorem dX0_takeFrom_40 : decode cX0_takeFrom 40 = .ok (.iload_n 2, 1) := by decide +kernel
theorem dX0_takeFrom_41 : decode cX0_takeFrom 41 = .ok (.aload_n 0, 1) := by decide +kernel
theorem dX0_takeFrom_42 : decode cX0_takeFrom 42 = .ok (.getfield 29, 3) := by decide +kernel
theorem dX0_takeFrom_45 : decode cX0_takeFrom 45 = .ok (.if_icmp .ge 38, 3) := by decide +kernel
theorem dX0_takeFrom_48 : decode cX0_takeFrom 48 = .ok (.aload_n 0, 1) := by decide +kernel
theorem dX0_takeFrom_49 : decode cX0_takeFrom 49 = .ok (.getfield 25, 3) := by decide +kernel
theorem dX0_takeFrom_52 : decode cX0_takeFrom 52 = .ok (.iload_n 2, 1) := by decide +kernel
theorem dX0_takeFrom_53 : decode cX0_takeFrom 53 = .ok (.iadd, 1) := by decide +kernel
theorem dX0_takeFrom_54 : decode cX0_takeFrom 54 = .ok (.bipush 40, 2) := by decide +kernel
theorem dX0_takeFrom_56 : decode cX0_takeFrom 56 = .ok (.irem, 1) := by decide +kernel
theorem dX0_takeFrom_57 : decode cX0_takeFrom 57 = .ok (.istore_n 3, 1) := by decide +kernel
theorem dX0_takeFrom_58 : decode cX0_takeFrom 58 = .ok (.aload_n 1, 1) := by decide +kernel
theorem dX0_takeFrom_59 : decode cX0_takeFrom 59 = .ok (.getfield 13, 3) := by decide +kernel
theorem dX0_takeFrom_62 : decode cX0_takeFrom 62 = .ok (.iload_n 3, 1) := by decide +kernel
theorem dX0_takeFrom_63 : decode cX0_takeFrom 63 = .ok (.aaload, 1) := by decide +kernel
theorem dX0_takeFrom_64 : decode cX0_takeFrom 64 = .ok (.iconst 0, 1) := by decide +kernel
theorem dX0_takeFrom_65 : decode cX0_takeFrom 65 = .ok (.aload_n 0, 1) := by decide +kernel
theorem dX0_takeFrom_66 : decode cX0_takeFrom 66 = .ok (.getfield 13, 3) := by decide +kernel
theorem dX0_takeFrom_69 : decode cX0_takeFrom 69 = .ok (.iload_n 3, 1) := by decide +kernel
theorem dX0_takeFrom_70 : decode cX0_takeFrom 70 = .ok (.aaload, 1) := by decide +kernel
theorem dX0_takeFrom_71 : decode cX0_takeFrom 71 = .ok (.iconst 0, 1) := by decide +kernel
theorem dX0_takeFrom_72 : decode cX0_takeFrom 72 = .ok (.bipush 61, 2) := by decide +kernel
theorem dX0_takeFrom_74 : decode cX0_takeFrom 74 = .ok (.invokestatic 48, 3) := by decide +kernel
theorem dX0_takeFrom_77 : decode cX0_takeFrom 77 = .ok (.iinc 2 1, 3) := by decide +kernel
theorem dX0_takeFrom_80 : decode cX0_takeFrom 80 = .ok (.goto (-40), 3) := by decide +kernel
theorem dX0_takeFrom_83 : decode cX0_takeFrom 83 = .ok (.aload_n 1, 1) := by decide +kernel
theorem dX0_takeFrom_84 : decode cX0_takeFrom 84 = .ok (.getfield 22, 3) := by decide +kernel
theorem dX0_takeFrom_87 : decode cX0_takeFrom 87 = .ok (.iconst 0, 1) := by decide +kernel
theorem dX0_takeFrom_88 : decode cX0_takeFrom 88 = .ok (.aload_n 0, 1) := by decide +kernel
theorem dX0_takeFrom_89 : decode cX0_takeFrom 89 = .ok (.getfield 22, 3) := by decide +kernel
theorem dX0_takeFrom_92 : decode cX0_takeFrom 92 = .ok (.iconst 0, 1) := by decide +kernel
theorem dX0_takeFrom_93 : decode cX0_takeFrom 93 = .ok (.aload_n 0, 1) := by decide +kernel
theorem dX0_takeFrom_94 : decode cX0_takeFrom 94 = .ok (.getfield 22, 3) := by decide +kernel
theorem dX0_takeFrom_97 : decode cX0_takeFrom 97 = .ok (.arraylength, 1) := by decide +kernel
theorem dX0_takeFrom_98 : decode cX0_takeFrom 98 = .ok (.invokestatic 48, 3) := by decide +kernel
theorem dX0_takeFrom_101 : decode cX0_takeFrom 101 = .ok (.return_, 1) := by decide +kernel
theorem dX1_init_0 : decode cX1_init 0 = .ok (.aload_n 0, 1) := by decide +kernel
theorem dX1_init_1 : decode cX1_init 1 = .ok (.invokespecial 5, 3) := by decide +kernel
theorem dX1_init_4 : decode cX1_init 4 = .ok (.aload_n 0, 1) := by decide +kernel
theorem dX1_init_5 : decode cX1_init 5 = .ok (.bipush 61, 2) := by decide +kernel
theorem dX1_init_7 : decode cX1_init 7 = .ok (.newarray .int, 2) := by decide +kernel
theorem dX1_init_9 : decode cX1_init 9 = .ok (.putfield 11, 3) := by decide +kernel
theorem dX1_init_12 : decode cX1_init 12 = .ok (.aload_n 0, 1) := by decide +kernel
theorem dX1_init_13 : decode cX1_init 13 = .ok (.getfield 11, 3) := by decide +kernel
theorem dX1_init_16 : decode cX1_init 16 = .ok (.invokestatic 15, 3) := by decide +kernel
theorem dX1_init_19 : decode cX1_init 19 = .ok (.return_, 1) := by decide +kernel
theorem dX1_fillAnew_0 : decode cX1_fillAnew 0 = .ok (.aload_n 0, 1) := by decide +kernel
theorem dX1_fillAnew_1 : decode cX1_fillAnew 1 = .ok (.iconst 0, 1) := by decide +kernel
theorem dX1_fillAnew_2 : decode cX1_fillAnew 2 = .ok (.invokestatic 19, 3) := by decide +kernel
theorem dX1_fillAnew_5 : decode cX1_fillAnew 5 = .ok (.iconst 0, 1) := by decide +kernel
theorem dX1_fillAnew_6 : decode cX1_fillAnew 6 = .ok (.istore_n 1, 1) := by decide +kernel
theorem dX1_fillAnew_7 : decode cX1_fillAnew 7 = .ok (.iload_n 1, 1) := by decide +kernel
theorem dX1_fillAnew_8 : decode cX1_fillAnew 8 = .ok (.bipush 8, 2) := by decide +kernel
theorem dX1_fillAnew_10 : decode cX1_fillAnew 10 = .ok (.if_icmp .ge 16, 3) := by decide +kernel
theorem dX1_fillAnew_13 : decode cX1_fillAnew 13 = .ok (.aload_n 0, 1) := by decide +kernel
theorem dX1_fillAnew_14 : decode cX1_fillAnew 14 = .ok (.bipush 7, 2) := by decide +kernel
theorem dX1_fillAnew_16 : decode cX1_fillAnew 16 = .ok (.iload_n 1, 1) := by decide +kernel
theorem dX1_fillAnew_17 : decode cX1_fillAnew 17 = .ok (.iadd, 1) := by decide +kernel
theorem dX1_fillAnew_18 : decode cX1_fillAnew 18 = .ok (.iconst (-1), 1) := by decide +kernel
theorem dX1_fillAnew_19 : decode cX1_fillAnew 19 = .ok (.iastore, 1) := by decide +kernel
theorem dX1_fillAnew_20 : decode cX1_fillAnew 20 = .ok (.iinc 1 1, 3) := by decide +kernel
theorem dX1_fillAnew_23 : decode cX1_fillAnew 23 = .ok (.goto (-16), 3) := by decide +kernel
theorem dX1_fillAnew_26 : decode cX1_fillAnew 26 = .ok (.aload_n 0, 1) := by decide +kernel
theorem dX1_fillAnew_27 : decode cX1_fillAnew 27 = .ok (.iconst 1, 1) := by decide +kernel
theorem dX1_fillAnew_28 : decode cX1_fillAnew 28 = .ok (.iconst 4, 1) := by decide +kernel
theorem dX1_fillAnew_29 : decode cX1_fillAnew 29 = .ok (.iastore, 1) := by decide +kernel
theorem dX1_fillAnew_30 : decode cX1_fillAnew 30 = .ok (.return_, 1) := by decide +kernel
theorem dX1_empty_0 : decode cX1_empty 0 = .ok (.aload_n 0, 1) := by decide +kernel
theorem dX1_empty_1 : decode cX1_empty 1 = .ok (.getfield 11, 3) := by decide +kernel
theorem dX1_empty_4 : decode cX1_empty 4 = .ok (.invokestatic 15, 3) := by decide +kernel
theorem dX1_empty_7 : decode cX1_empty 7 = .ok (.return_, 1) := by decide +kernel
theorem dX1_takeFrom_0 : decode cX1_takeFrom 0 = .ok (.aload_n 1, 1) := by decide +kernel
theorem dX1_takeFrom_1 : decode cX1_takeFrom 1 = .ok (.getfield 11, 3) := by decide +kernel
theorem dX1_takeFrom_4 : decode cX1_takeFrom 4 = .ok (.iconst 0, 1) := by decide +kernel
theorem dX1_takeFrom_5 : decode cX1_takeFrom 5 = .ok (.aload_n 0, 1) := by decide +kernel
theorem dX1_takeFrom_6 : decode cX1_takeFrom 6 = .ok (.getfield 11, 3) := by decide +kernel
theorem dX1_takeFrom_9 : decode cX1_takeFrom 9 = .ok (.iconst 0, 1) := by decide +kernel
theorem dX1_takeFrom_10 : decode cX1_takeFrom 10 = .ok (.bipush 61, 2) := by decide +kernel
theorem dX1_takeFrom_12 : decode cX1_takeFrom 12 = .ok (.invokestatic 25, 3) := by decide +kernel
theorem dX1_takeFrom_15 : decode cX1_takeFrom 15 = .ok (.return_, 1) := by decide +kernel
theorem dX1_addRule_0 : decode cX1_addRule 0 = .ok (.aload_n 0, 1) := by decide +kernel
theorem dX1_addRule_1 : decode cX1_addRule 1 = .ok (.getfield 11, 3) := by decide +kernel
theorem dX1_addRule_4 : decode cX1_addRule 4 = .ok (.iconst 4, 1) := by decide +kernel
theorem dX1_addRule_5 : decode cX1_addRule 5 = .ok (.iaload, 1) := by decide +kernel
theorem dX1_addRule_6 : decode cX1_addRule 6 = .ok (.istore_n 3, 1) := by decide +kernel
theorem dX1_addRule_7 : decode cX1_addRule 7 = .ok (.iload_n 3, 1) := by decide +kernel
theorem dX1_addRule_8 : decode cX1_addRule 8 = .ok (.bipush 8, 2) := by decide +kernel
theorem dX1_addRule_10 : decode cX1_addRule 10 = .ok (.if_icmp .ge 40, 3) := by decide +kernel
theorem dX1_addRule_13 : decode cX1_addRule 13 = .ok (.aload_n 0, 1) := by decide +kernel
theorem dX1_addRule_14 : decode cX1_addRule 14 = .ok (.getfield 11, 3) := by decide +kernel
theorem dX1_addRule_17 : decode cX1_addRule 17 = .ok (.bipush 15, 2) := by decide +kernel
theorem dX1_addRule_19 : decode cX1_addRule 19 = .ok (.iload_n 3, 1) := by decide +kernel
theorem dX1_addRule_20 : decode cX1_addRule 20 = .ok (.iadd, 1) := by decide +kernel
theorem dX1_addRule_21 : decode cX1_addRule 21 = .ok (.iload_n 1, 1) := by decide +kernel
theorem dX1_addRule_22 : decode cX1_addRule 22 = .ok (.iastore, 1) := by decide +kernel
theorem dX1_addRule_23 : decode cX1_addRule 23 = .ok (.aload_n 0, 1) := by decide +kernel
theorem dX1_addRule_24 : decode cX1_addRule 24 = .ok (.getfield 11, 3) := by decide +kernel
theorem dX1_addRule_27 : decode cX1_addRule 27 = .ok (.bipush 23, 2) := by decide +kernel
theorem dX1_addRule_29 : decode cX1_addRule 29 = .ok (.iload_n 3, 1) := by decide +kernel
theorem dX1_addRule_30 : decode cX1_addRule 30 = .ok (.iadd, 1) := by decide +kernel
theorem dX1_addRule_31 : decode cX1_addRule 31 = .ok (.iload_n 2, 1) := by decide +kernel
theorem dX1_addRule_32 : decode cX1_addRule 32 = .ok (.iastore, 1) := by decide +kernel
theorem dX1_addRule_33 : decode cX1_addRule 33 = .ok (.aload_n 0, 1) := by decide +kernel
theorem dX1_addRule_34 : decode cX1_addRule 34 = .ok (.getfield 11, 3) := by decide +kernel
theorem dX1_addRule_37 : decode cX1_addRule 37 = .ok (.iconst 4, 1) := by decide +kernel
theorem dX1_addRule_38 : decode cX1_addRule 38 = .ok (.iload_n 3, 1) := by decide +kernel
theorem dX1_addRule_39 : decode cX1_addRule 39 = .ok (.iconst 1, 1) := by decide +kernel
theorem dX1_addRule_40 : decode cX1_addRule 40 = .ok (.iadd, 1) := by decide +kernel
theorem dX1_addRule_41 : decode cX1_addRule 41 = .ok (.iastore, 1) := by decide +kernel
theorem dX1_addRule_42 : decode cX1_addRule 42 = .ok (.aload_n 0, 1) := by decide +kernel
theorem dX1_addRule_43 : decode cX1_addRule 43 = .ok (.getfield 11, 3) := by decide +kernel
theorem dX1_addRule_46 : decode cX1_addRule 46 = .ok (.bipush 6, 2) := by decide +kernel
theorem dX1_addRule_48 : decode cX1_addRule 48 = .ok (.iconst 0, 1) := by decide +kernel
theorem dX1_addRule_49 : decode cX1_addRule 49 = .ok (.iastore, 1) := by decide +kernel
theorem dX1_addRule_50 : decode cX1_addRule 50 = .ok (.return_, 1) := by decide +kernel
theorem dX1_tellRoom_0 : decode cX1_tellRoom 0 = .ok (.aload_n 0, 1) := by decide +kernel
theorem dX1_tellRoom_1 : decode cX1_tellRoom 1 = .ok (.getfield 11, 3) := by decide +kernel
theorem dX1_tellRoom_4 : decode cX1_tellRoom 4 = .ok (.iconst 1, 1) := by decide +kernel
theorem dX1_tellRoom_5 : decode cX1_tellRoom 5 = .ok (.iload_n 1, 1) := by decide +kernel
theorem dX1_tellRoom_6 : decode cX1_tellRoom 6 = .ok (.iastore, 1) := by decide +kernel
theorem dX1_tellRoom_7 : decode cX1_tellRoom 7 = .ok (.aload_n 0, 1) := by decide +kernel
theorem dX1_tellRoom_8 : decode cX1_tellRoom 8 = .ok (.getfield 11, 3) := by decide +kernel
theorem dX1_tellRoom_11 : decode cX1_tellRoom 11 = .ok (.bipush 6, 2) := by decide +kernel
theorem dX1_tellRoom_13 : decode cX1_tellRoom 13 = .ok (.iconst 0, 1) := by decide +kernel
theorem dX1_tellRoom_14 : decode cX1_tellRoom 14 = .ok (.iastore, 1) := by decide +kernel
theorem dX1_tellRoom_15 : decode cX1_tellRoom 15 = .ok (.return_, 1) := by decide +kernel
theorem dX1_entryOf_0 : decode cX1_entryOf 0 = .ok (.iconst 0, 1) := by decide +kernel
theorem dX1_entryOf_1 : decode cX1_entryOf 1 = .ok (.istore_n 2, 1) := by decide +kernel
theorem dX1_entryOf_2 : decode cX1_entryOf 2 = .ok (.iload_n 2, 1) := by decide +kernel
theorem dX1_entryOf_3 : decode cX1_entryOf 3 = .ok (.aload_n 0, 1) := by decide +kernel
theorem dX1_entryOf_4 : decode cX1_entryOf 4 = .ok (.getfield 11, 3) := by decide +kernel
theorem dX1_entryOf_7 : decode cX1_entryOf 7 = .ok (.iconst 5, 1) := by decide +kernel
theorem dX1_entryOf_8 : decode cX1_entryOf 8 = .ok (.iaload, 1) := by decide +kernel
theorem dX1_entryOf_9 : decode cX1_entryOf 9 = .ok (.if_icmp .ge 24, 3) := by decide +kernel
theorem dX1_entryOf_12 : decode cX1_entryOf 12 = .ok (.aload_n 0, 1) := by decide +kernel
theorem dX1_entryOf_13 : decode cX1_entryOf 13 = .ok (.getfield 11, 3) := by decide +kernel
theorem dX1_entryOf_16 : decode cX1_entryOf 16 = .ok (.bipush 31, 2) := by decide +kernel
theorem dX1_entryOf_18 : decode cX1_entryOf 18 = .ok (.iload_n 2, 1) := by decide +kernel
theorem dX1_entryOf_19 : decode cX1_entryOf 19 = .ok (.iadd, 1) := by decide +kernel
theorem dX1_entryOf_20 : decode cX1_entryOf 20 = .ok (.iaload, 1) := by decide +kernel
theorem dX1_entryOf_21 : decode cX1_entryOf 21 = .ok (.iload_n 1, 1) := by decide +kernel
theorem dX1_entryOf_22 : decode cX1_entryOf 22 = .ok (.if_icmp .ne 5, 3) := by decide +kernel
theorem dX1_entryOf_25 : decode cX1_entryOf 25 = .ok (.iload_n 2, 1) := by decide +kernel
theorem dX1_entryOf_26 : decode cX1_entryOf 26 = .ok (.ireturn, 1) := by decide +kernel
theorem dX1_entryOf_27 : decode cX1_entryOf 27 = .ok (.iinc 2 1, 3) := by decide +kernel
theorem dX1_entryOf_30 : decode cX1_entryOf 30 = .ok (.goto (-28), 3) := by decide +kernel
theorem dX1_entryOf_33 : decode cX1_entryOf 33 = .ok (.iconst (-1), 1) := by decide +kernel
theorem dX1_entryOf_34 : decode cX1_entryOf 34 = .ok (.ireturn, 1) := by decide +kernel
theorem dX1_addEntry_0 : decode cX1_addEntry 0 = .ok (.aload_n 0, 1) := by decide +kernel
theorem dX1_addEntry_1 : decode cX1_addEntry 1 = .ok (.getfield 11, 3) := by decide +kernel
theorem dX1_addEntry_4 : decode cX1_addEntry 4 = .ok (.iconst 5, 1) := by decide +kernel
theorem dX1_addEntry_5 : decode cX1_addEntry 5 = .ok (.iaload, 1) := by decide +kernel
theorem dX1_addEntry_6 : decode cX1_addEntry 6 = .ok (.istore_n 2, 1) := by decide +kernel
theorem dX1_addEntry_7 : decode cX1_addEntry 7 = .ok (.iload_n 2, 1) := by decide +kernel
theorem dX1_addEntry_8 : decode cX1_addEntry 8 = .ok (.bipush 12, 2) := by decide +kernel
theorem dX1_addEntry_10 : decode cX1_addEntry 10 = .ok (.if_icmp .ge 22, 3) := by decide +kernel
theorem dX1_addEntry_13 : decode cX1_addEntry 13 = .ok (.aload_n 0, 1) := by decide +kernel
theorem dX1_addEntry_14 : decode cX1_addEntry 14 = .ok (.getfield 11, 3) := by decide +kernel
theorem dX1_addEntry_17 : decode cX1_addEntry 17 = .ok (.bipush 31, 2) := by decide +kernel
theorem dX1_addEntry_19 : decode cX1_addEntry 19 = .ok (.iload_n 2, 1) := by decide +kernel
theorem dX1_addEntry_20 : decode cX1_addEntry 20 = .ok (.iadd, 1) := by decide +kernel
theorem dX1_addEntry_21 : decode cX1_addEntry 21 = .ok (.iload_n 1, 1) := by decide +kernel
theorem dX1_addEntry_22 : decode cX1_addEntry 22 = .ok (.iastore, 1) := by decide +kernel
theorem dX1_addEntry_23 : decode cX1_addEntry 23 = .ok (.aload_n 0, 1) := by decide +kernel
theorem dX1_addEntry_24 : decode cX1_addEntry 24 = .ok (.getfield 11, 3) := by decide +kernel
theorem dX1_addEntry_27 : decode cX1_addEntry 27 = .ok (.iconst 5, 1) := by decide +kernel
theorem dX1_addEntry_28 : decode cX1_addEntry 28 = .ok (.iload_n 2, 1) := by decide +kernel
theorem dX1_addEntry_29 : decode cX1_addEntry 29 = .ok (.iconst 1, 1) := by decide +kernel
theorem dX1_addEntry_30 : decode cX1_addEntry 30 = .ok (.iadd, 1) := by decide +kernel
theorem dX1_addEntry_31 : decode cX1_addEntry 31 = .ok (.iastore, 1) := by decide +kernel
theorem dX1_addEntry_32 : decode cX1_addEntry 32 = .ok (.return_, 1) := by decide +kernel
theorem dX1_dropEntry_0 : decode cX1_dropEntry 0 = .ok (.aload_n 0, 1) := by decide +kernel
theorem dX1_dropEntry_1 : decode cX1_dropEntry 1 = .ok (.getfield 11, 3) := by decide +kernel
theorem dX1_dropEntry_4 : decode cX1_dropEntry 4 = .ok (.iconst 5, 1) := by decide +kernel
theorem dX1_dropEntry_5 : decode cX1_dropEntry 5 = .ok (.iaload, 1) := by decide +kernel
theorem dX1_dropEntry_6 : decode cX1_dropEntry 6 = .ok (.iconst 1, 1) := by decide +kernel
theorem dX1_dropEntry_7 : decode cX1_dropEntry 7 = .ok (.isub, 1) := by decide +kernel
theorem dX1_dropEntry_8 : decode cX1_dropEntry 8 = .ok (.istore_n 2, 1) := by decide +kernel
theorem dX1_dropEntry_9 : decode cX1_dropEntry 9 = .ok (.iload_n 1, 1) := by decide +kernel
theorem dX1_dropEntry_10 : decode cX1_dropEntry 10 = .ok (.istore_n 3, 1) := by decide +kernel
theorem dX1_dropEntry_11 : decode cX1_dropEntry 11 = .ok (.iload_n 3, 1) := by decide +kernel
theorem dX1_dropEntry_12 : decode cX1_dropEntry 12 = .ok (.iload_n 2, 1) := by decide +kernel
theorem dX1_dropEntry_13 : decode cX1_dropEntry 13 = .ok (.if_icmp .ge 29, 3) := by decide +kernel
theorem dX1_dropEntry_16 : decode cX1_dropEntry 16 = .ok (.aload_n 0, 1) := by decide +kernel
theorem dX1_dropEntry_17 : decode cX1_dropEntry 17 = .ok (.getfield 11, 3) := by decide +kernel
theorem dX1_dropEntry_20 : decode cX1_dropEntry 20 = .ok (.bipush 31, 2) := by decide +kernel
theorem dX1_dropEntry_22 : decode cX1_dropEntry 22 = .ok (.iload_n 3, 1) := by decide +kernel
theorem dX1_dropEntry_23 : decode cX1_dropEntry 23 = .ok (.iadd, 1) := by decide +kernel
theorem dX1_dropEntry_24 : decode cX1_dropEntry 24 = .ok (.aload_n 0, 1) := by decide +kernel
theorem dX1_dropEntry_25 : decode cX1_dropEntry 25 = .ok (.getfield 11, 3) := by decide +kernel
theorem dX1_dropEntry_28 : decode cX1_dropEntry 28 = .ok (.bipush 31, 2) := by decide +kernel
theorem dX1_dropEntry_30 : decode cX1_dropEntry 30 = .ok (.iload_n 3, 1) := by decide +kernel
theorem dX1_dropEntry_31 : decode cX1_dropEntry 31 = .ok (.iadd, 1) := by decide +kernel
theorem dX1_dropEntry_32 : decode cX1_dropEntry 32 = .ok (.iconst 1, 1) := by decide +kernel
theorem dX1_dropEntry_33 : decode cX1_dropEntry 33 = .ok (.iadd, 1) := by decide +kernel
theorem dX1_dropEntry_34 : decode cX1_dropEntry 34 = .ok (.iaload, 1) := by decide +kernel
theorem dX1_dropEntry_35 : decode cX1_dropEntry 35 = .ok (.iastore, 1) := by decide +kernel
theorem dX1_dropEntry_36 : decode cX1_dropEntry 36 = .ok (.iinc 3 1, 3) := by decide +kernel
theorem dX1_dropEntry_39 : decode cX1_dropEntry 39 = .ok (.goto (-28), 3) := by decide +kernel
theorem dX1_dropEntry_42 : decode cX1_dropEntry 42 = .ok (.aload_n 0, 1) := by decide +kernel
theorem dX1_dropEntry_43 : decode cX1_dropEntry 43 = .ok (.getfield 11, 3) := by decide +kernel
theorem dX1_dropEntry_46 : decode cX1_dropEntry 46 = .ok (.iconst 5, 1) := by decide +kernel
theorem dX1_dropEntry_47 : decode cX1_dropEntry 47 = .ok (.iload_n 2, 1) := by decide +kernel
theorem dX1_dropEntry_48 : decode cX1_dropEntry 48 = .ok (.iastore, 1) := by decide +kernel
theorem dX1_dropEntry_49 : decode cX1_dropEntry 49 = .ok (.return_, 1) := by decide +kernel
theorem dX1_recalled_0 : decode cX1_recalled 0 = .ok (.iconst 0, 1) := by decide +kernel
theorem dX1_recalled_1 : decode cX1_recalled 1 = .ok (.istore_n 2, 1) := by decide +kernel
theorem dX1_recalled_2 : decode cX1_recalled 2 = .ok (.iload_n 2, 1) := by decide +kernel
theorem dX1_recalled_3 : decode cX1_recalled 3 = .ok (.aload_n 0, 1) := by decide +kernel
theorem dX1_recalled_4 : decode cX1_recalled 4 = .ok (.getfield 11, 3) := by decide +kernel
theorem dX1_recalled_7 : decode cX1_recalled 7 = .ok (.bipush 6, 2) := by decide +kernel
theorem dX1_recalled_9 : decode cX1_recalled 9 = .ok (.iaload, 1) := by decide +kernel
theorem dX1_recalled_10 : decode cX1_recalled 10 = .ok (.if_icmp .ge 55, 3) := by decide +kernel
theorem dX1_recalled_13 : decode cX1_recalled 13 = .ok (.aload_n 0, 1) := by decide +kernel
theorem dX1_recalled_14 : decode cX1_recalled 14 = .ok (.getfield 11, 3) := by decide +kernel
theorem dX1_recalled_17 : decode cX1_recalled 17 = .ok (.bipush 43, 2) := by decide +kernel
theorem dX1_recalled_19 : decode cX1_recalled 19 = .ok (.iload_n 2, 1) := by decide +kernel
theorem dX1_recalled_20 : decode cX1_recalled 20 = .ok (.iadd, 1) := by decide +kernel
theorem dX1_recalled_21 : decode cX1_recalled 21 = .ok (.iaload, 1) := by decide +kernel
theorem dX1_recalled_22 : decode cX1_recalled 22 = .ok (.iload_n 1, 1) := by decide +kernel
theorem dX1_recalled_23 : decode cX1_recalled 23 = .ok (.if_icmp .ne 36, 3) := by decide +kernel
theorem dX1_recalled_26 : decode cX1_recalled 26 = .ok (.aload_n 0, 1) := by decide +kernel
theorem dX1_recalled_27 : decode cX1_recalled 27 = .ok (.getfield 11, 3) := by decide +kernel
theorem dX1_recalled_30 : decode cX1_recalled 30 = .ok (.bipush 52, 2) := by decide +kernel
theorem dX1_recalled_32 : decode cX1_recalled 32 = .ok (.iload_n 2, 1) := by decide +kernel
theorem dX1_recalled_33 : decode cX1_recalled 33 = .ok (.iadd, 1) := by decide +kernel
theorem dX1_recalled_34 : decode cX1_recalled 34 = .ok (.iaload, 1) := by decide +kernel
theorem dX1_recalled_35 : decode cX1_recalled 35 = .ok (.istore_n 3, 1) := by decide +kernel
theorem dX1_recalled_36 : decode cX1_recalled 36 = .ok (.aload_n 0, 1) := by decide +kernel
theorem dX1_recalled_37 : decode cX1_recalled 37 = .ok (.getfield 11, 3) := by decide +kernel
theorem dX1_recalled_40 : decode cX1_recalled 40 = .ok (.iconst 2, 1) := by decide +kernel
theorem dX1_recalled_41 : decode cX1_recalled 41 = .ok (.dup2, 1) := by decide +kernel
theorem dX1_recalled_42 : decode cX1_recalled 42 = .ok (.iaload, 1) := by decide +kernel
theorem dX1_recalled_43 : decode cX1_recalled 43 = .ok (.iconst 1, 1) := by decide +kernel
theorem dX1_recalled_44 : decode cX1_recalled 44 = .ok (.iadd, 1) := by decide +kernel
theorem dX1_recalled_45 : decode cX1_recalled 45 = .ok (.iastore, 1) := by decide +kernel
theorem dX1_recalled_46 : decode cX1_recalled 46 = .ok (.aload_n 0, 1) := by decide +kernel
theorem dX1_recalled_47 : decode cX1_recalled 47 = .ok (.iload_n 2, 1) := by decide +kernel
theorem dX1_recalled_48 : decode cX1_recalled 48 = .ok (.invokevirtual 31, 3) := by decide +kernel
theorem dX1_recalled_51 : decode cX1_recalled 51 = .ok (.aload_n 0, 1) := by decide +kernel
theorem dX1_recalled_52 : decode cX1_recalled 52 = .ok (.iload_n 1, 1) := by decide +kernel
theorem dX1_recalled_53 : decode cX1_recalled 53 = .ok (.iload_n 3, 1) := by decide +kernel
theorem dX1_recalled_54 : decode cX1_recalled 54 = .ok (.invokevirtual 35, 3) := by decide +kernel
theorem dX1_recalled_57 : decode cX1_recalled 57 = .ok (.iload_n 3, 1) := by decide +kernel
theorem dX1_recalled_58 : decode cX1_recalled 58 = .ok (.ireturn, 1) := by decide +kernel
theorem dX1_recalled_59 : decode cX1_recalled 59 = .ok (.iinc 2 1, 3) := by decide +kernel
theorem dX1_recalled_62 : decode cX1_recalled 62 = .ok (.goto (-60), 3) := by decide +kernel
theorem dX1_recalled_65 : decode cX1_recalled 65 = .ok (.iconst (-1), 1) := by decide +kernel
theorem dX1_recalled_66 : decode cX1_recalled 66 = .ok (.ireturn, 1) := by decide +kernel
theorem dX1_remember_0 : decode cX1_remember 0 = .ok (.aload_n 0, 1) := by decide +kernel
theorem dX1_remember_1 : decode cX1_remember 1 = .ok (.getfield 11, 3) := by decide +kernel
theorem dX1_remember_4 : decode cX1_remember 4 = .ok (.iconst 1, 1) := by decide +kernel
theorem dX1_remember_5 : decode cX1_remember 5 = .ok (.iaload, 1) := by decide +kernel
theorem dX1_remember_6 : decode cX1_remember 6 = .ok (.ifCond .ne 4, 3) := by decide +kernel
theorem dX1_remember_9 : decode cX1_remember 9 = .ok (.return_, 1) := by decide +kernel
theorem dX1_remember_10 : decode cX1_remember 10 = .ok (.aload_n 0, 1) := by decide +kernel
theorem dX1_remember_11 : decode cX1_remember 11 = .ok (.getfield 11, 3) := by decide +kernel
theorem dX1_remember_14 : decode cX1_remember 14 = .ok (.bipush 6, 2) := by decide +kernel
theorem dX1_remember_16 : decode cX1_remember 16 = .ok (.iaload, 1) := by decide +kernel
theorem dX1_remember_17 : decode cX1_remember 17 = .ok (.aload_n 0, 1) := by decide +kernel
theorem dX1_remember_18 : decode cX1_remember 18 = .ok (.getfield 11, 3) := by decide +kernel
theorem dX1_remember_21 : decode cX1_remember 21 = .ok (.iconst 1, 1) := by decide +kernel
theorem dX1_remember_22 : decode cX1_remember 22 = .ok (.iaload, 1) := by decide +kernel
theorem dX1_remember_23 : decode cX1_remember 23 = .ok (.if_icmp .lt 8, 3) := by decide +kernel
theorem dX1_remember_26 : decode cX1_remember 26 = .ok (.aload_n 0, 1) := by decide +kernel
theorem dX1_remember_27 : decode cX1_remember 27 = .ok (.iconst 0, 1) := by decide +kernel
theorem dX1_remember_28 : decode cX1_remember 28 = .ok (.invokevirtual 31, 3) := by decide +kernel
theorem dX1_remember_31 : decode cX1_remember 31 = .ok (.aload_n 0, 1) := by decide +kernel
theorem dX1_remember_32 : decode cX1_remember 32 = .ok (.iload_n 1, 1) := by decide +kernel
theorem dX1_remember_33 : decode cX1_remember 33 = .ok (.iload_n 2, 1) := by decide +kernel
theorem dX1_remember_34 : decode cX1_remember 34 = .ok (.invokevirtual 35, 3) := by decide +kernel
theorem dX1_remember_37 : decode cX1_remember 37 = .ok (.return_, 1) := by decide +kernel
theorem dX1_addMemo_0 : decode cX1_addMemo 0 = .ok (.aload_n 0, 1) := by decide +kernel
theorem dX1_addMemo_1 : decode cX1_addMemo 1 = .ok (.getfield 11, 3) := by decide +kernel
theorem dX1_addMemo_4 : decode cX1_addMemo 4 = .ok (.bipush 6, 2) := by decide +kernel
theorem dX1_addMemo_6 : decode cX1_addMemo 6 = .ok (.iaload, 1) := by decide +kernel
theorem dX1_addMemo_7 : decode cX1_addMemo 7 = .ok (.istore_n 3, 1) := by decide +kernel
theorem dX1_addMemo_8 : decode cX1_addMemo 8 = .ok (.iload_n 3, 1) := by decide +kernel
theorem dX1_addMemo_9 : decode cX1_addMemo 9 = .ok (.bipush 9, 2) := by decide +kernel
theorem dX1_addMemo_11 : decode cX1_addMemo 11 = .ok (.if_icmp .ge 33, 3) := by decide +kernel
theorem dX1_addMemo_14 : decode cX1_addMemo 14 = .ok (.aload_n 0, 1) := by decide +kernel
theorem dX1_addMemo_15 : decode cX1_addMemo 15 = .ok (.getfield 11, 3) := by decide +kernel
theorem dX1_addMemo_18 : decode cX1_addMemo 18 = .ok (.bipush 43, 2) := by decide +kernel
theorem dX1_addMemo_20 : decode cX1_addMemo 20 = .ok (.iload_n 3, 1) := by decide +kernel
theorem dX1_addMemo_21 : decode cX1_addMemo 21 = .ok (.iadd, 1) := by decide +kernel
theorem dX1_addMemo_22 : decode cX1_addMemo 22 = .ok (.iload_n 1, 1) := by decide +kernel
theorem dX1_addMemo_23 : decode cX1_addMemo 23 = .ok (.iastore, 1) := by decide +kernel
theorem dX1_addMemo_24 : decode cX1_addMemo 24 = .ok (.aload_n 0, 1) := by decide +kernel
theorem dX1_addMemo_25 : decode cX1_addMemo 25 = .ok (.getfield 11, 3) := by decide +kernel
theorem dX1_addMemo_28 : decode cX1_addMemo 28 = .ok (.bipush 52, 2) := by decide +kernel
theorem dX1_addMemo_30 : decode cX1_addMemo 30 = .ok (.iload_n 3, 1) := by decide +kernel
theorem dX1_addMemo_31 : decode cX1_addMemo 31 = .ok (.iadd, 1) := by decide +kernel
theorem dX1_addMemo_32 : decode cX1_addMemo 32 = .ok (.iload_n 2, 1) := by decide +kernel
theorem dX1_addMemo_33 : decode cX1_addMemo 33 = .ok (.iastore, 1) := by decide +kernel
theorem dX1_addMemo_34 : decode cX1_addMemo 34 = .ok (.aload_n 0, 1) := by decide +kernel
theorem dX1_addMemo_35 : decode cX1_addMemo 35 = .ok (.getfield 11, 3) := by decide +kernel
theorem dX1_addMemo_38 : decode cX1_addMemo 38 = .ok (.bipush 6, 2) := by decide +kernel
theorem dX1_addMemo_40 : decode cX1_addMemo 40 = .ok (.iload_n 3, 1) := by decide +kernel
theorem dX1_addMemo_41 : decode cX1_addMemo 41 = .ok (.iconst 1, 1) := by decide +kernel
theorem dX1_addMemo_42 : decode cX1_addMemo 42 = .ok (.iadd, 1) := by decide +kernel
theorem dX1_addMemo_43 : decode cX1_addMemo 43 = .ok (.iastore, 1) := by decide +kernel
theorem dX1_addMemo_44 : decode cX1_addMemo 44 = .ok (.return_, 1) := by decide +kernel
theorem dX1_dropMemo_0 : decode cX1_dropMemo 0 = .ok (.aload_n 0, 1) := by decide +kernel
theorem dX1_dropMemo_1 : decode cX1_dropMemo 1 = .ok (.getfield 11, 3) := by decide +kernel
theorem dX1_dropMemo_4 : decode cX1_dropMemo 4 = .ok (.bipush 6, 2) := by decide +kernel
theorem dX1_dropMemo_6 : decode cX1_dropMemo 6 = .ok (.iaload, 1) := by decide +kernel
theorem dX1_dropMemo_7 : decode cX1_dropMemo 7 = .ok (.iconst 1, 1) := by decide +kernel
theorem dX1_dropMemo_8 : decode cX1_dropMemo 8 = .ok (.isub, 1) := by decide +kernel
theorem dX1_dropMemo_9 : decode cX1_dropMemo 9 = .ok (.istore_n 2, 1) := by decide +kernel
theorem dX1_dropMemo_10 : decode cX1_dropMemo 10 = .ok (.iload_n 1, 1) := by decide +kernel
theorem dX1_dropMemo_11 : decode cX1_dropMemo 11 = .ok (.istore_n 3, 1) := by decide +kernel
theorem dX1_dropMemo_12 : decode cX1_dropMemo 12 = .ok (.iload_n 3, 1) := by decide +kernel
theorem dX1_dropMemo_13 : decode cX1_dropMemo 13 = .ok (.iload_n 2, 1) := by decide +kernel
theorem dX1_dropMemo_14 : decode cX1_dropMemo 14 = .ok (.if_icmp .ge 49, 3) := by decide +kernel
theorem dX1_dropMemo_17 : decode cX1_dropMemo 17 = .ok (.aload_n 0, 1) := by decide +kernel
theorem dX1_dropMemo_18 : decode cX1_dropMemo 18 = .ok (.getfield 11, 3) := by decide +kernel
theorem dX1_dropMemo_21 : decode cX1_dropMemo 21 = .ok (.bipush 43, 2) := by decide +kernel
theorem dX1_dropMemo_23 : decode cX1_dropMemo 23 = .ok (.iload_n 3, 1) := by decide +kernel
theorem dX1_dropMemo_24 : decode cX1_dropMemo 24 = .ok (.iadd, 1) := by decide +kernel
theorem dX1_dropMemo_25 : decode cX1_dropMemo 25 = .ok (.aload_n 0, 1) := by decide +kernel
theorem dX1_dropMemo_26 : decode cX1_dropMemo 26 = .ok (.getfield 11, 3) := by decide +kernel
theorem dX1_dropMemo_29 : decode cX1_dropMemo 29 = .ok (.bipush 43, 2) := by decide +kernel
theorem dX1_dropMemo_31 : decode cX1_dropMemo 31 = .ok (.iload_n 3, 1) := by decide +kernel
theorem dX1_dropMemo_32 : decode cX1_dropMemo 32 = .ok (.iadd, 1) := by decide +kernel
theorem dX1_dropMemo_33 : decode cX1_dropMemo 33 = .ok (.iconst 1, 1) := by decide +kernel
theorem dX1_dropMemo_34 : decode cX1_dropMemo 34 = .ok (.iadd, 1) := by decide +kernel
theorem dX1_dropMemo_35 : decode cX1_dropMemo 35 = .ok (.iaload, 1) := by decide +kernel
theorem dX1_dropMemo_36 : decode cX1_dropMemo 36 = .ok (.iastore, 1) := by decide +kernel
theorem dX1_dropMemo_37 : decode cX1_dropMemo 37 = .ok (.aload_n 0, 1) := by decide +kernel
theorem dX1_dropMemo_38 : decode cX1_dropMemo 38 = .ok (.getfield 11, 3) := by decide +kernel
theorem dX1_dropMemo_41 : decode cX1_dropMemo 41 = .ok (.bipush 52, 2) := by decide +kernel
theorem dX1_dropMemo_43 : decode cX1_dropMemo 43 = .ok (.iload_n 3, 1) := by decide +kernel
theorem dX1_dropMemo_44 : decode cX1_dropMemo 44 = .ok (.iadd, 1) := by decide +kernel
theorem dX1_dropMemo_45 : decode cX1_dropMemo 45 = .ok (.aload_n 0, 1) := by decide +kernel
theorem dX1_dropMemo_46 : decode cX1_dropMemo 46 = .ok (.getfield 11, 3) := by decide +kernel
theorem dX1_dropMemo_49 : decode cX1_dropMemo 49 = .ok (.bipush 52, 2) := by decide +kernel
theorem dX1_dropMemo_51 : decode cX1_dropMemo 51 = .ok (.iload_n 3, 1) := by decide +kernel
theorem dX1_dropMemo_52 : decode cX1_dropMemo 52 = .ok (.iadd, 1) := by decide +kernel
theorem dX1_dropMemo_53 : decode cX1_dropMemo 53 = .ok (.iconst 1, 1) := by decide +kernel
theorem dX1_dropMemo_54 : decode cX1_dropMemo 54 = .ok (.iadd, 1) := by decide +kernel
theorem dX1_dropMemo_55 : decode cX1_dropMemo 55 = .ok (.iaload, 1) := by decide +kernel
theorem dX1_dropMemo_56 : decode cX1_dropMemo 56 = .ok (.iastore, 1) := by decide +kernel
theorem dX1_dropMemo_57 : decode cX1_dropMemo 57 = .ok (.iinc 3 1, 3) := by decide +kernel
theorem dX1_dropMemo_60 : decode cX1_dropMemo 60 = .ok (.goto (-48), 3) := by decide +kernel
theorem dX1_dropMemo_63 : decode cX1_dropMemo 63 = .ok (.aload_n 0, 1) := by decide +kernel
theorem dX1_dropMemo_64 : decode cX1_dropMemo 64 = .ok (.getfield 11, 3) := by decide +kernel
theorem dX1_dropMemo_67 : decode cX1_dropMemo 67 = .ok (.bipush 6, 2) := by decide +kernel
theorem dX1_dropMemo_69 : decode cX1_dropMemo 69 = .ok (.iload_n 2, 1) := by decide +kernel
theorem dX1_dropMemo_70 : decode cX1_dropMemo 70 = .ok (.iastore, 1) := by decide +kernel
theorem dX1_dropMemo_71 : decode cX1_dropMemo 71 = .ok (.return_, 1) := by decide +kernel
