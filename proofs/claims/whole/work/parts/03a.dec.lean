theorem dX0_init_0 : decode cX0_init 0 = .ok (.aload_n 0, 1) := by decide +kernel
theorem dX0_init_1 : decode cX0_init 1 = .ok (.invokespecial 3, 3) := by decide +kernel
theorem dX0_init_4 : decode cX0_init 4 = .ok (.return_, 1) := by decide +kernel
theorem dX0_begin_0 : decode cX0_begin 0 = .ok (.aload_n 0, 1) := by decide +kernel
theorem dX0_begin_1 : decode cX0_begin 1 = .ok (.iload_n 1, 1) := by decide +kernel
theorem dX0_begin_2 : decode cX0_begin 2 = .ok (.putfield 9, 3) := by decide +kernel
theorem dX0_begin_5 : decode cX0_begin 5 = .ok (.aload_n 0, 1) := by decide +kernel
theorem dX0_begin_6 : decode cX0_begin 6 = .ok (.iload_n 2, 1) := by decide +kernel
theorem dX0_begin_7 : decode cX0_begin 7 = .ok (.putfield 15, 3) := by decide +kernel
theorem dX0_begin_10 : decode cX0_begin 10 = .ok (.aload_n 0, 1) := by decide +kernel
theorem dX0_begin_11 : decode cX0_begin 11 = .ok (.iconst 0, 1) := by decide +kernel
theorem dX0_begin_12 : decode cX0_begin 12 = .ok (.putfield 18, 3) := by decide +kernel
theorem dX0_begin_15 : decode cX0_begin 15 = .ok (.aload_n 0, 1) := by decide +kernel
theorem dX0_begin_16 : decode cX0_begin 16 = .ok (.iconst 0, 1) := by decide +kernel
theorem dX0_begin_17 : decode cX0_begin 17 = .ok (.putfield 21, 3) := by decide +kernel
theorem dX0_begin_20 : decode cX0_begin 20 = .ok (.aload_n 0, 1) := by decide +kernel
theorem dX0_begin_21 : decode cX0_begin 21 = .ok (.iconst 0, 1) := by decide +kernel
theorem dX0_begin_22 : decode cX0_begin 22 = .ok (.putfield 24, 3) := by decide +kernel
theorem dX0_begin_25 : decode cX0_begin 25 = .ok (.aload_n 0, 1) := by decide +kernel
theorem dX0_begin_26 : decode cX0_begin 26 = .ok (.iconst 0, 1) := by decide +kernel
theorem dX0_begin_27 : decode cX0_begin 27 = .ok (.putfield 28, 3) := by decide +kernel
theorem dX0_begin_30 : decode cX0_begin 30 = .ok (.aload_n 0, 1) := by decide +kernel
theorem dX0_begin_31 : decode cX0_begin 31 = .ok (.iconst 0, 1) := by decide +kernel
theorem dX0_begin_32 : decode cX0_begin 32 = .ok (.putfield 31, 3) := by decide +kernel
theorem dX0_begin_35 : decode cX0_begin 35 = .ok (.aload_n 0, 1) := by decide +kernel
theorem dX0_begin_36 : decode cX0_begin 36 = .ok (.iconst 0, 1) := by decide +kernel
theorem dX0_begin_37 : decode cX0_begin 37 = .ok (.putfield 34, 3) := by decide +kernel
theorem dX0_begin_40 : decode cX0_begin 40 = .ok (.return_, 1) := by decide +kernel
theorem dX0_copyFrom_0 : decode cX0_copyFrom 0 = .ok (.aload_n 0, 1) := by decide +kernel
theorem dX0_copyFrom_1 : decode cX0_copyFrom 1 = .ok (.aload_n 1, 1) := by decide +kernel
theorem dX0_copyFrom_2 : decode cX0_copyFrom 2 = .ok (.getfield 9, 3) := by decide +kernel
theorem dX0_copyFrom_5 : decode cX0_copyFrom 5 = .ok (.putfield 9, 3) := by decide +kernel
theorem dX0_copyFrom_8 : decode cX0_copyFrom 8 = .ok (.aload_n 0, 1) := by decide +kernel
theorem dX0_copyFrom_9 : decode cX0_copyFrom 9 = .ok (.aload_n 1, 1) := by decide +kernel
theorem dX0_copyFrom_10 : decode cX0_copyFrom 10 = .ok (.getfield 15, 3) := by decide +kernel
theorem dX0_copyFrom_13 : decode cX0_copyFrom 13 = .ok (.putfield 15, 3) := by decide +kernel
theorem dX0_copyFrom_16 : decode cX0_copyFrom 16 = .ok (.aload_n 0, 1) := by decide +kernel
theorem dX0_copyFrom_17 : decode cX0_copyFrom 17 = .ok (.aload_n 1, 1) := by decide +kernel
theorem dX0_copyFrom_18 : decode cX0_copyFrom 18 = .ok (.getfield 18, 3) := by decide +kernel
theorem dX0_copyFrom_21 : decode cX0_copyFrom 21 = .ok (.putfield 18, 3) := by decide +kernel
theorem dX0_copyFrom_24 : decode cX0_copyFrom 24 = .ok (.aload_n 0, 1) := by decide +kernel
theorem dX0_copyFrom_25 : decode cX0_copyFrom 25 = .ok (.aload_n 1, 1) := by decide +kernel
theorem dX0_copyFrom_26 : decode cX0_copyFrom 26 = .ok (.getfield 21, 3) := by decide +kernel
theorem dX0_copyFrom_29 : decode cX0_copyFrom 29 = .ok (.putfield 21, 3) := by decide +kernel
theorem dX0_copyFrom_32 : decode cX0_copyFrom 32 = .ok (.aload_n 0, 1) := by decide +kernel
theorem dX0_copyFrom_33 : decode cX0_copyFrom 33 = .ok (.aload_n 1, 1) := by decide +kernel
theorem dX0_copyFrom_34 : decode cX0_copyFrom 34 = .ok (.getfield 24, 3) := by decide +kernel
theorem dX0_copyFrom_37 : decode cX0_copyFrom 37 = .ok (.putfield 24, 3) := by decide +kernel
theorem dX0_copyFrom_40 : decode cX0_copyFrom 40 = .ok (.aload_n 0, 1) := by decide +kernel
theorem dX0_copyFrom_41 : decode cX0_copyFrom 41 = .ok (.aload_n 1, 1) := by decide +kernel
theorem dX0_copyFrom_42 : decode cX0_copyFrom 42 = .ok (.getfield 28, 3) := by decide +kernel
theorem dX0_copyFrom_45 : decode cX0_copyFrom 45 = .ok (.putfield 28, 3) := by decide +kernel
theorem dX0_copyFrom_48 : decode cX0_copyFrom 48 = .ok (.aload_n 0, 1) := by decide +kernel
theorem dX0_copyFrom_49 : decode cX0_copyFrom 49 = .ok (.aload_n 1, 1) := by decide +kernel
theorem dX0_copyFrom_50 : decode cX0_copyFrom 50 = .ok (.getfield 31, 3) := by decide +kernel
theorem dX0_copyFrom_53 : decode cX0_copyFrom 53 = .ok (.putfield 31, 3) := by decide +kernel
theorem dX0_copyFrom_56 : decode cX0_copyFrom 56 = .ok (.aload_n 0, 1) := by decide +kernel
theorem dX0_copyFrom_57 : decode cX0_copyFrom 57 = .ok (.aload_n 1, 1) := by decide +kernel
theorem dX0_copyFrom_58 : decode cX0_copyFrom 58 = .ok (.getfield 34, 3) := by decide +kernel
theorem dX0_copyFrom_61 : decode cX0_copyFrom 61 = .ok (.putfield 34, 3) := by decide +kernel
theorem dX0_copyFrom_64 : decode cX0_copyFrom 64 = .ok (.return_, 1) := by decide +kernel
theorem dX0_depth_0 : decode cX0_depth 0 = .ok (.aload_n 0, 1) := by decide +kernel
theorem dX0_depth_1 : decode cX0_depth 1 = .ok (.getfield 31, 3) := by decide +kernel
theorem dX0_depth_4 : decode cX0_depth 4 = .ok (.bipush 64, 2) := by decide +kernel
theorem dX0_depth_6 : decode cX0_depth 6 = .ok (.invokestatic 37, 3) := by decide +kernel
theorem dX0_depth_9 : decode cX0_depth 9 = .ok (.ireturn, 1) := by decide +kernel
theorem dX0_move_0 : decode cX0_move 0 = .ok (.aload_n 0, 1) := by decide +kernel
theorem dX0_move_1 : decode cX0_move 1 = .ok (.dup, 1) := by decide +kernel
theorem dX0_move_2 : decode cX0_move 2 = .ok (.getfield 34, 3) := by decide +kernel
theorem dX0_move_5 : decode cX0_move 5 = .ok (.iload_n 1, 1) := by decide +kernel
theorem dX0_move_6 : decode cX0_move 6 = .ok (.iadd, 1) := by decide +kernel
theorem dX0_move_7 : decode cX0_move 7 = .ok (.putfield 34, 3) := by decide +kernel
theorem dX0_move_10 : decode cX0_move 10 = .ok (.aload_n 0, 1) := by decide +kernel
theorem dX0_move_11 : decode cX0_move 11 = .ok (.dup, 1) := by decide +kernel
theorem dX0_move_12 : decode cX0_move 12 = .ok (.getfield 34, 3) := by decide +kernel
theorem dX0_move_15 : decode cX0_move 15 = .ok (.aload_n 0, 1) := by decide +kernel
theorem dX0_move_16 : decode cX0_move 16 = .ok (.getfield 34, 3) := by decide +kernel
theorem dX0_move_19 : decode cX0_move 19 = .ok (.iload_n 2, 1) := by decide +kernel
theorem dX0_move_20 : decode cX0_move 20 = .ok (.invokestatic 37, 3) := by decide +kernel
theorem dX0_move_23 : decode cX0_move 23 = .ok (.isub, 1) := by decide +kernel
theorem dX0_move_24 : decode cX0_move 24 = .ok (.putfield 34, 3) := by decide +kernel
theorem dX0_move_27 : decode cX0_move 27 = .ok (.aload_n 0, 1) := by decide +kernel
theorem dX0_move_28 : decode cX0_move 28 = .ok (.dup, 1) := by decide +kernel
theorem dX0_move_29 : decode cX0_move 29 = .ok (.getfield 31, 3) := by decide +kernel
theorem dX0_move_32 : decode cX0_move 32 = .ok (.aload_n 0, 1) := by decide +kernel
theorem dX0_move_33 : decode cX0_move 33 = .ok (.getfield 34, 3) := by decide +kernel
theorem dX0_move_36 : decode cX0_move 36 = .ok (.iadd, 1) := by decide +kernel
theorem dX0_move_37 : decode cX0_move 37 = .ok (.putfield 31, 3) := by decide +kernel
theorem dX0_move_40 : decode cX0_move 40 = .ok (.aload_n 0, 1) := by decide +kernel
theorem dX0_move_41 : decode cX0_move 41 = .ok (.getfield 31, 3) := by decide +kernel
theorem dX0_move_44 : decode cX0_move 44 = .ok (.ifCond .gt 15, 3) := by decide +kernel
theorem dX0_move_47 : decode cX0_move 47 = .ok (.aload_n 0, 1) := by decide +kernel
theorem dX0_move_48 : decode cX0_move 48 = .ok (.getfield 34, 3) := by decide +kernel
theorem dX0_move_51 : decode cX0_move 51 = .ok (.ifCond .ge 8, 3) := by decide +kernel
theorem dX0_move_54 : decode cX0_move 54 = .ok (.aload_n 0, 1) := by decide +kernel
theorem dX0_move_55 : decode cX0_move 55 = .ok (.iconst 0, 1) := by decide +kernel
theorem dX0_move_56 : decode cX0_move 56 = .ok (.invokevirtual 41, 3) := by decide +kernel
theorem dX0_move_59 : decode cX0_move 59 = .ok (.aload_n 0, 1) := by decide +kernel
theorem dX0_move_60 : decode cX0_move 60 = .ok (.getfield 31, 3) := by decide +kernel
theorem dX0_move_63 : decode cX0_move 63 = .ok (.iload_n 3, 1) := by decide +kernel
theorem dX0_move_64 : decode cX0_move 64 = .ok (.if_icmp .lt 15, 3) := by decide +kernel
theorem dX0_move_67 : decode cX0_move 67 = .ok (.aload_n 0, 1) := by decide +kernel
theorem dX0_move_68 : decode cX0_move 68 = .ok (.getfield 34, 3) := by decide +kernel
theorem dX0_move_71 : decode cX0_move 71 = .ok (.ifCond .le 8, 3) := by decide +kernel
theorem dX0_move_74 : decode cX0_move 74 = .ok (.aload_n 0, 1) := by decide +kernel
theorem dX0_move_75 : decode cX0_move 75 = .ok (.iload_n 3, 1) := by decide +kernel
theorem dX0_move_76 : decode cX0_move 76 = .ok (.invokevirtual 41, 3) := by decide +kernel
theorem dX0_move_79 : decode cX0_move 79 = .ok (.return_, 1) := by decide +kernel
theorem dX0_stopAt_0 : decode cX0_stopAt 0 = .ok (.aload_n 0, 1) := by decide +kernel
theorem dX0_stopAt_1 : decode cX0_stopAt 1 = .ok (.iload_n 1, 1) := by decide +kernel
theorem dX0_stopAt_2 : decode cX0_stopAt 2 = .ok (.putfield 31, 3) := by decide +kernel
theorem dX0_stopAt_5 : decode cX0_stopAt 5 = .ok (.aload_n 0, 1) := by decide +kernel
theorem dX0_stopAt_6 : decode cX0_stopAt 6 = .ok (.iconst 0, 1) := by decide +kernel
theorem dX0_stopAt_7 : decode cX0_stopAt 7 = .ok (.putfield 34, 3) := by decide +kernel
theorem dX0_stopAt_10 : decode cX0_stopAt 10 = .ok (.return_, 1) := by decide +kernel
theorem dX1_init_0 : decode cX1_init 0 = .ok (.aload_n 0, 1) := by decide +kernel
theorem dX1_init_1 : decode cX1_init 1 = .ok (.invokespecial 3, 3) := by decide +kernel
theorem dX1_init_4 : decode cX1_init 4 = .ok (.aload_n 0, 1) := by decide +kernel
theorem dX1_init_5 : decode cX1_init 5 = .ok (.new 9, 3) := by decide +kernel
theorem dX1_init_8 : decode cX1_init 8 = .ok (.dup, 1) := by decide +kernel
theorem dX1_init_9 : decode cX1_init 9 = .ok (.invokespecial 11, 3) := by decide +kernel
theorem dX1_init_12 : decode cX1_init 12 = .ok (.putfield 12, 3) := by decide +kernel
theorem dX1_init_15 : decode cX1_init 15 = .ok (.aload_n 0, 1) := by decide +kernel
theorem dX1_init_16 : decode cX1_init 16 = .ok (.bipush 51, 2) := by decide +kernel
theorem dX1_init_18 : decode cX1_init 18 = .ok (.newarray .int, 2) := by decide +kernel
theorem dX1_init_20 : decode cX1_init 20 = .ok (.putfield 18, 3) := by decide +kernel
theorem dX1_init_23 : decode cX1_init 23 = .ok (.return_, 1) := by decide +kernel
theorem dX1_takeUp_0 : decode cX1_takeUp 0 = .ok (.aload_n 0, 1) := by decide +kernel
theorem dX1_takeUp_1 : decode cX1_takeUp 1 = .ok (.getfield 12, 3) := by decide +kernel
theorem dX1_takeUp_4 : decode cX1_takeUp 4 = .ok (.aload_n 1, 1) := by decide +kernel
theorem dX1_takeUp_5 : decode cX1_takeUp 5 = .ok (.invokevirtual 22, 3) := by decide +kernel
theorem dX1_takeUp_8 : decode cX1_takeUp 8 = .ok (.aload_n 0, 1) := by decide +kernel
theorem dX1_takeUp_9 : decode cX1_takeUp 9 = .ok (.iload_n 2, 1) := by decide +kernel
theorem dX1_takeUp_10 : decode cX1_takeUp 10 = .ok (.bipush 64, 2) := by decide +kernel
theorem dX1_takeUp_12 : decode cX1_takeUp 12 = .ok (.imul, 1) := by decide +kernel
theorem dX1_takeUp_13 : decode cX1_takeUp 13 = .ok (.putfield 26, 3) := by decide +kernel
theorem dX1_takeUp_16 : decode cX1_takeUp 16 = .ok (.aload_n 0, 1) := by decide +kernel
theorem dX1_takeUp_17 : decode cX1_takeUp 17 = .ok (.getfield 12, 3) := by decide +kernel
theorem dX1_takeUp_20 : decode cX1_takeUp 20 = .ok (.aload_n 0, 1) := by decide +kernel
theorem dX1_takeUp_21 : decode cX1_takeUp 21 = .ok (.getfield 26, 3) := by decide +kernel
theorem dX1_takeUp_24 : decode cX1_takeUp 24 = .ok (.putfield 30, 3) := by decide +kernel
theorem dX1_takeUp_27 : decode cX1_takeUp 27 = .ok (.aload_n 0, 1) := by decide +kernel
theorem dX1_takeUp_28 : decode cX1_takeUp 28 = .ok (.getfield 12, 3) := by decide +kernel
theorem dX1_takeUp_31 : decode cX1_takeUp 31 = .ok (.iconst 0, 1) := by decide +kernel
theorem dX1_takeUp_32 : decode cX1_takeUp 32 = .ok (.putfield 33, 3) := by decide +kernel
theorem dX1_takeUp_35 : decode cX1_takeUp 35 = .ok (.aload_n 0, 1) := by decide +kernel
theorem dX1_takeUp_36 : decode cX1_takeUp 36 = .ok (.iload_n 3, 1) := by decide +kernel
theorem dX1_takeUp_37 : decode cX1_takeUp 37 = .ok (.putfield 36, 3) := by decide +kernel
theorem dX1_takeUp_40 : decode cX1_takeUp 40 = .ok (.aload_n 0, 1) := by decide +kernel
theorem dX1_takeUp_41 : decode cX1_takeUp 41 = .ok (.bipush (-4), 2) := by decide +kernel
theorem dX1_takeUp_43 : decode cX1_takeUp 43 = .ok (.putfield 39, 3) := by decide +kernel
theorem dX1_takeUp_46 : decode cX1_takeUp 46 = .ok (.aload_n 0, 1) := by decide +kernel
theorem dX1_takeUp_47 : decode cX1_takeUp 47 = .ok (.iconst 0, 1) := by decide +kernel
theorem dX1_takeUp_48 : decode cX1_takeUp 48 = .ok (.putfield 42, 3) := by decide +kernel
theorem dX1_takeUp_51 : decode cX1_takeUp 51 = .ok (.return_, 1) := by decide +kernel
theorem dX1_turnThumb_0 : decode cX1_turnThumb 0 = .ok (.aload_n 0, 1) := by decide +kernel
theorem dX1_turnThumb_1 : decode cX1_turnThumb 1 = .ok (.getfield 18, 3) := by decide +kernel
theorem dX1_turnThumb_4 : decode cX1_turnThumb 4 = .ok (.iload_n 1, 1) := by decide +kernel
theorem dX1_turnThumb_5 : decode cX1_turnThumb 5 = .ok (.aload_n 0, 1) := by decide +kernel
theorem dX1_turnThumb_6 : decode cX1_turnThumb 6 = .ok (.getfield 18, 3) := by decide +kernel
theorem dX1_turnThumb_9 : decode cX1_turnThumb 9 = .ok (.arraylength, 1) := by decide +kernel
theorem dX1_turnThumb_10 : decode cX1_turnThumb 10 = .ok (.invokestatic 45, 3) := by decide +kernel
theorem dX1_turnThumb_13 : decode cX1_turnThumb 13 = .ok (.aload_n 0, 1) := by decide +kernel
theorem dX1_turnThumb_14 : decode cX1_turnThumb 14 = .ok (.getfield 12, 3) := by decide +kernel
theorem dX1_turnThumb_17 : decode cX1_turnThumb 17 = .ok (.getfield 30, 3) := by decide +kernel
theorem dX1_turnThumb_20 : decode cX1_turnThumb 20 = .ok (.iastore, 1) := by decide +kernel
theorem dX1_turnThumb_21 : decode cX1_turnThumb 21 = .ok (.iload_n 1, 1) := by decide +kernel
theorem dX1_turnThumb_22 : decode cX1_turnThumb 22 = .ok (.iload_n 2, 1) := by decide +kernel
theorem dX1_turnThumb_23 : decode cX1_turnThumb 23 = .ok (.if_icmp .ge 10, 3) := by decide +kernel
theorem dX1_turnThumb_26 : decode cX1_turnThumb 26 = .ok (.aload_n 0, 1) := by decide +kernel
theorem dX1_turnThumb_27 : decode cX1_turnThumb 27 = .ok (.getfield 26, 3) := by decide +kernel
theorem dX1_turnThumb_30 : decode cX1_turnThumb 30 = .ok (.goto 19, 3) := by decide +kernel
theorem dX1_turnThumb_33 : decode cX1_turnThumb 33 = .ok (.aload_n 0, 1) := by decide +kernel
theorem dX1_turnThumb_34 : decode cX1_turnThumb 34 = .ok (.getfield 18, 3) := by decide +kernel
theorem dX1_turnThumb_37 : decode cX1_turnThumb 37 = .ok (.iload_n 1, 1) := by decide +kernel
theorem dX1_turnThumb_38 : decode cX1_turnThumb 38 = .ok (.iload_n 2, 1) := by decide +kernel
theorem dX1_turnThumb_39 : decode cX1_turnThumb 39 = .ok (.isub, 1) := by decide +kernel
theorem dX1_turnThumb_40 : decode cX1_turnThumb 40 = .ok (.aload_n 0, 1) := by decide +kernel
theorem dX1_turnThumb_41 : decode cX1_turnThumb 41 = .ok (.getfield 18, 3) := by decide +kernel
theorem dX1_turnThumb_44 : decode cX1_turnThumb 44 = .ok (.arraylength, 1) := by decide +kernel
theorem dX1_turnThumb_45 : decode cX1_turnThumb 45 = .ok (.invokestatic 45, 3) := by decide +kernel
theorem dX1_turnThumb_48 : decode cX1_turnThumb 48 = .ok (.iaload, 1) := by decide +kernel
theorem dX1_turnThumb_49 : decode cX1_turnThumb 49 = .ok (.istore 4, 2) := by decide +kernel
theorem dX1_turnThumb_51 : decode cX1_turnThumb 51 = .ok (.iload 4, 2) := by decide +kernel
theorem dX1_turnThumb_53 : decode cX1_turnThumb 53 = .ok (.aload_n 0, 1) := by decide +kernel
theorem dX1_turnThumb_54 : decode cX1_turnThumb 54 = .ok (.getfield 26, 3) := by decide +kernel
theorem dX1_turnThumb_57 : decode cX1_turnThumb 57 = .ok (.if_icmp .ge 19, 3) := by decide +kernel
theorem dX1_turnThumb_60 : decode cX1_turnThumb 60 = .ok (.aload_n 0, 1) := by decide +kernel
theorem dX1_turnThumb_61 : decode cX1_turnThumb 61 = .ok (.sipush 500, 3) := by decide +kernel
theorem dX1_turnThumb_64 : decode cX1_turnThumb 64 = .ok (.aload_n 0, 1) := by decide +kernel
theorem dX1_turnThumb_65 : decode cX1_turnThumb 65 = .ok (.getfield 36, 3) := by decide +kernel
theorem dX1_turnThumb_68 : decode cX1_turnThumb 68 = .ok (.iload_n 3, 1) := by decide +kernel
theorem dX1_turnThumb_69 : decode cX1_turnThumb 69 = .ok (.iadd, 1) := by decide +kernel
theorem dX1_turnThumb_70 : decode cX1_turnThumb 70 = .ok (.invokestatic 51, 3) := by decide +kernel
theorem dX1_turnThumb_73 : decode cX1_turnThumb 73 = .ok (.putfield 36, 3) := by decide +kernel
theorem dX1_turnThumb_76 : decode cX1_turnThumb 76 = .ok (.iload 4, 2) := by decide +kernel
theorem dX1_turnThumb_78 : decode cX1_turnThumb 78 = .ok (.aload_n 0, 1) := by decide +kernel
theorem dX1_turnThumb_79 : decode cX1_turnThumb 79 = .ok (.getfield 26, 3) := by decide +kernel
theorem dX1_turnThumb_82 : decode cX1_turnThumb 82 = .ok (.if_icmp .le 17, 3) := by decide +kernel
theorem dX1_turnThumb_85 : decode cX1_turnThumb 85 = .ok (.aload_n 0, 1) := by decide +kernel
theorem dX1_turnThumb_86 : decode cX1_turnThumb 86 = .ok (.iconst 0, 1) := by decide +kernel
theorem dX1_turnThumb_87 : decode cX1_turnThumb 87 = .ok (.aload_n 0, 1) := by decide +kernel
theorem dX1_turnThumb_88 : decode cX1_turnThumb 88 = .ok (.getfield 36, 3) := by decide +kernel
theorem dX1_turnThumb_91 : decode cX1_turnThumb 91 = .ok (.iload_n 3, 1) := by decide +kernel
theorem dX1_turnThumb_92 : decode cX1_turnThumb 92 = .ok (.isub, 1) := by decide +kernel
theorem dX1_turnThumb_93 : decode cX1_turnThumb 93 = .ok (.invokestatic 54, 3) := by decide +kernel
theorem dX1_turnThumb_96 : decode cX1_turnThumb 96 = .ok (.putfield 36, 3) := by decide +kernel
theorem dX1_turnThumb_99 : decode cX1_turnThumb 99 = .ok (.return_, 1) := by decide +kernel
theorem dX1_mark_0 : decode cX1_mark 0 = .ok (.aload_n 0, 1) := by decide +kernel
theorem dX1_mark_1 : decode cX1_mark 1 = .ok (.aload_n 0, 1) := by decide +kernel
theorem dX1_mark_2 : decode cX1_mark 2 = .ok (.getfield 42, 3) := by decide +kernel
theorem dX1_mark_5 : decode cX1_mark 5 = .ok (.aload_n 0, 1) := by decide +kernel
theorem dX1_mark_6 : decode cX1_mark 6 = .ok (.getfield 12, 3) := by decide +kernel
theorem dX1_mark_9 : decode cX1_mark 9 = .ok (.getfield 30, 3) := by decide +kernel
theorem dX1_mark_12 : decode cX1_mark 12 = .ok (.aload_n 0, 1) := by decide +kernel
theorem dX1_mark_13 : decode cX1_mark 13 = .ok (.getfield 26, 3) := by decide +kernel
theorem dX1_mark_16 : decode cX1_mark 16 = .ok (.isub, 1) := by decide +kernel
theorem dX1_mark_17 : decode cX1_mark 17 = .ok (.invokestatic 57, 3) := by decide +kernel
theorem dX1_mark_20 : decode cX1_mark 20 = .ok (.invokestatic 54, 3) := by decide +kernel
theorem dX1_mark_23 : decode cX1_mark 23 = .ok (.putfield 42, 3) := by decide +kernel
theorem dX1_mark_26 : decode cX1_mark 26 = .ok (.aload_n 0, 1) := by decide +kernel
theorem dX1_mark_27 : decode cX1_mark 27 = .ok (.getfield 12, 3) := by decide +kernel
theorem dX1_mark_30 : decode cX1_mark 30 = .ok (.getfield 30, 3) := by decide +kernel
theorem dX1_mark_33 : decode cX1_mark 33 = .ok (.ifCond .eq 14, 3) := by decide +kernel
theorem dX1_mark_36 : decode cX1_mark 36 = .ok (.aload_n 0, 1) := by decide +kernel
theorem dX1_mark_37 : decode cX1_mark 37 = .ok (.getfield 12, 3) := by decide +kernel
theorem dX1_mark_40 : decode cX1_mark 40 = .ok (.getfield 30, 3) := by decide +kernel
theorem dX1_mark_43 : decode cX1_mark 43 = .ok (.iload_n 2, 1) := by decide +kernel
theorem dX1_mark_44 : decode cX1_mark 44 = .ok (.if_icmp .ne 8, 3) := by decide +kernel
theorem dX1_mark_47 : decode cX1_mark 47 = .ok (.aload_n 0, 1) := by decide +kernel
theorem dX1_mark_48 : decode cX1_mark 48 = .ok (.iload_n 1, 1) := by decide +kernel
theorem dX1_mark_49 : decode cX1_mark 49 = .ok (.putfield 39, 3) := by decide +kernel
theorem dX1_mark_52 : decode cX1_mark 52 = .ok (.return_, 1) := by decide +kernel
theorem dX2_init_0 : decode cX2_init 0 = .ok (.aload_n 0, 1) := by decide +kernel
theorem dX2_init_1 : decode cX2_init 1 = .ok (.invokespecial 3, 3) := by decide +kernel
theorem dX2_init_4 : decode cX2_init 4 = .ok (.aload_n 0, 1) := by decide +kernel
theorem dX2_init_5 : decode cX2_init 5 = .ok (.sipush 320, 3) := by decide +kernel
theorem dX2_init_8 : decode cX2_init 8 = .ok (.newarray .byte, 2) := by decide +kernel
theorem dX2_init_10 : decode cX2_init 10 = .ok (.putfield 9, 3) := by decide +kernel
theorem dX2_init_13 : decode cX2_init 13 = .ok (.aload_n 0, 1) := by decide +kernel
theorem dX2_init_14 : decode cX2_init 14 = .ok (.new 15, 3) := by decide +kernel
theorem dX2_init_17 : decode cX2_init 17 = .ok (.dup, 1) := by decide +kernel
theorem dX2_init_18 : decode cX2_init 18 = .ok (.invokespecial 17, 3) := by decide +kernel
theorem dX2_init_21 : decode cX2_init 21 = .ok (.putfield 18, 3) := by decide +kernel
theorem dX2_init_24 : decode cX2_init 24 = .ok (.aload_n 0, 1) := by decide +kernel
theorem dX2_init_25 : decode cX2_init 25 = .ok (.bipush 6, 2) := by decide +kernel
theorem dX2_init_27 : decode cX2_init 27 = .ok (.anewarray 22, 3) := by decide +kernel
theorem dX2_init_30 : decode cX2_init 30 = .ok (.putfield 24, 3) := by decide +kernel
theorem dX2_init_33 : decode cX2_init 33 = .ok (.aload_n 0, 1) := by decide +kernel
theorem dX2_init_34 : decode cX2_init 34 = .ok (.bipush 7, 2) := by decide +kernel
theorem dX2_init_36 : decode cX2_init 36 = .ok (.newarray .boolean, 2) := by decide +kernel
theorem dX2_init_38 : decode cX2_init 38 = .ok (.putfield 28, 3) := by decide +kernel
theorem dX2_init_41 : decode cX2_init 41 = .ok (.iconst 0, 1) := by decide +kernel
theorem dX2_init_42 : decode cX2_init 42 = .ok (.istore_n 1, 1) := by decide +kernel
theorem dX2_init_43 : decode cX2_init 43 = .ok (.iload_n 1, 1) := by decide +kernel
theorem dX2_init_44 : decode cX2_init 44 = .ok (.bipush 6, 2) := by decide +kernel
theorem dX2_init_46 : decode cX2_init 46 = .ok (.if_icmp .ge 22, 3) := by decide +kernel
theorem dX2_init_49 : decode cX2_init 49 = .ok (.aload_n 0, 1) := by decide +kernel
theorem dX2_init_50 : decode cX2_init 50 = .ok (.getfield 24, 3) := by decide +kernel
theorem dX2_init_53 : decode cX2_init 53 = .ok (.iload_n 1, 1) := by decide +kernel
theorem dX2_init_54 : decode cX2_init 54 = .ok (.new 22, 3) := by decide +kernel
theorem dX2_init_57 : decode cX2_init 57 = .ok (.dup, 1) := by decide +kernel
theorem dX2_init_58 : decode cX2_init 58 = .ok (.invokespecial 32, 3) := by decide +kernel
theorem dX2_init_61 : decode cX2_init 61 = .ok (.aastore, 1) := by decide +kernel
theorem dX2_init_62 : decode cX2_init 62 = .ok (.iinc 1 1, 3) := by decide +kernel
theorem dX2_init_65 : decode cX2_init 65 = .ok (.goto (-22), 3) := by decide +kernel
theorem dX2_init_68 : decode cX2_init 68 = .ok (.return_, 1) := by decide +kernel
theorem dX2_append_0 : decode cX2_append 0 = .ok (.aload_n 0, 1) := by decide +kernel
theorem dX2_append_1 : decode cX2_append 1 = .ok (.getfield 33, 3) := by decide +kernel
theorem dX2_append_4 : decode cX2_append 4 = .ok (.bipush 8, 2) := by decide +kernel
theorem dX2_append_6 : decode cX2_append 6 = .ok (.iadd, 1) := by decide +kernel
theorem dX2_append_7 : decode cX2_append 7 = .ok (.sipush 320, 3) := by decide +kernel
theorem dX2_append_10 : decode cX2_append 10 = .ok (.if_icmp .le 5, 3) := by decide +kernel
theorem dX2_append_13 : decode cX2_append 13 = .ok (.iconst 0, 1) := by decide +kernel
theorem dX2_append_14 : decode cX2_append 14 = .ok (.ireturn, 1) := by decide +kernel
theorem dX2_append_15 : decode cX2_append 15 = .ok (.bipush 56, 2) := by decide +kernel
theorem dX2_append_17 : decode cX2_append 17 = .ok (.istore_n 3, 1) := by decide +kernel
theorem dX2_append_18 : decode cX2_append 18 = .ok (.iload_n 3, 1) := by decide +kernel
theorem dX2_append_19 : decode cX2_append 19 = .ok (.ifCond .lt 33, 3) := by decide +kernel
theorem dX2_append_22 : decode cX2_append 22 = .ok (.aload_n 0, 1) := by decide +kernel
theorem dX2_append_23 : decode cX2_append 23 = .ok (.getfield 9, 3) := by decide +kernel
theorem dX2_append_26 : decode cX2_append 26 = .ok (.aload_n 0, 1) := by decide +kernel
theorem dX2_append_27 : decode cX2_append 27 = .ok (.getfield 33, 3) := by decide +kernel
theorem dX2_append_30 : decode cX2_append 30 = .ok (.lload_n 1, 1) := by decide +kernel
theorem dX2_append_31 : decode cX2_append 31 = .ok (.iload_n 3, 1) := by decide +kernel
theorem dX2_append_32 : decode cX2_append 32 = .ok (.lshr, 1) := by decide +kernel
theorem dX2_append_33 : decode cX2_append 33 = .ok (.l2i, 1) := by decide +kernel
theorem dX2_append_34 : decode cX2_append 34 = .ok (.i2b, 1) := by decide +kernel
theorem dX2_append_35 : decode cX2_append 35 = .ok (.bastore, 1) := by decide +kernel
theorem dX2_append_36 : decode cX2_append 36 = .ok (.aload_n 0, 1) := by decide +kernel
theorem dX2_append_37 : decode cX2_append 37 = .ok (.dup, 1) := by decide +kernel
theorem dX2_append_38 : decode cX2_append 38 = .ok (.getfield 33, 3) := by decide +kernel
theorem dX2_append_41 : decode cX2_append 41 = .ok (.iconst 1, 1) := by decide +kernel
theorem dX2_append_42 : decode cX2_append 42 = .ok (.iadd, 1) := by decide +kernel
theorem dX2_append_43 : decode cX2_append 43 = .ok (.putfield 33, 3) := by decide +kernel
theorem dX2_append_46 : decode cX2_append 46 = .ok (.iinc 3 (-8), 3) := by decide +kernel
theorem dX2_append_49 : decode cX2_append 49 = .ok (.goto (-31), 3) := by decide +kernel
theorem dX2_append_52 : decode cX2_append 52 = .ok (.iconst 1, 1) := by decide +kernel
theorem dX2_append_53 : decode cX2_append 53 = .ok (.ireturn, 1) := by decide +kernel
theorem dX2_takeText_0 : decode cX2_takeText 0 = .ok (.aload_n 0, 1) := by decide +kernel
theorem dX2_takeText_1 : decode cX2_takeText 1 = .ok (.invokevirtual 37, 3) := by decide +kernel
theorem dX2_takeText_4 : decode cX2_takeText 4 = .ok (.iconst 0, 1) := by decide +kernel
theorem dX2_takeText_5 : decode cX2_takeText 5 = .ok (.istore_n 1, 1) := by decide +kernel
theorem dX2_takeText_6 : decode cX2_takeText 6 = .ok (.iload_n 1, 1) := by decide +kernel
theorem dX2_takeText_7 : decode cX2_takeText 7 = .ok (.sipush 320, 3) := by decide +kernel
theorem dX2_takeText_10 : decode cX2_takeText 10 = .ok (.if_icmp .gt 87, 3) := by decide +kernel
theorem dX2_takeText_13 : decode cX2_takeText 13 = .ok (.aload_n 0, 1) := by decide +kernel
theorem dX2_takeText_14 : decode cX2_takeText 14 = .ok (.invokevirtual 40, 3) := by decide +kernel
theorem dX2_takeText_17 : decode cX2_takeText 17 = .ok (.ifCond .ne 5, 3) := by decide +kernel
theorem dX2_takeText_20 : decode cX2_takeText 20 = .ok (.iconst 0, 1) := by decide +kernel
theorem dX2_takeText_21 : decode cX2_takeText 21 = .ok (.ireturn, 1) := by decide +kernel
theorem dX2_takeText_22 : decode cX2_takeText 22 = .ok (.aload_n 0, 1) := by decide +kernel
theorem dX2_takeText_23 : decode cX2_takeText 23 = .ok (.getfield 44, 3) := by decide +kernel
theorem dX2_takeText_26 : decode cX2_takeText 26 = .ok (.ifCond .ne 12, 3) := by decide +kernel
theorem dX2_takeText_29 : decode cX2_takeText 29 = .ok (.aload_n 0, 1) := by decide +kernel
theorem dX2_takeText_30 : decode cX2_takeText 30 = .ok (.getfield 18, 3) := by decide +kernel
theorem dX2_takeText_33 : decode cX2_takeText 33 = .ok (.invokevirtual 47, 3) := by decide +kernel
theorem dX2_takeText_36 : decode cX2_takeText 36 = .ok (.iconst 1, 1) := by decide +kernel
theorem dX2_takeText_37 : decode cX2_takeText 37 = .ok (.ireturn, 1) := by decide +kernel
theorem dX2_takeText_38 : decode cX2_takeText 38 = .ok (.aload_n 0, 1) := by decide +kernel
theorem dX2_takeText_39 : decode cX2_takeText 39 = .ok (.ldc 50, 2) := by decide +kernel
theorem dX2_takeText_41 : decode cX2_takeText 41 = .ok (.invokevirtual 52, 3) := by decide +kernel
theorem dX2_takeText_44 : decode cX2_takeText 44 = .ok (.ifCond .eq 10, 3) := by decide +kernel
theorem dX2_takeText_47 : decode cX2_takeText 47 = .ok (.aload_n 0, 1) := by decide +kernel
theorem dX2_takeText_48 : decode cX2_takeText 48 = .ok (.invokevirtual 56, 3) := by decide +kernel
theorem dX2_takeText_51 : decode cX2_takeText 51 = .ok (.goto 23, 3) := by decide +kernel
theorem dX2_takeText_54 : decode cX2_takeText 54 = .ok (.aload_n 0, 1) := by decide +kernel
theorem dX2_takeText_55 : decode cX2_takeText 55 = .ok (.ldc 59, 2) := by decide +kernel
theorem dX2_takeText_57 : decode cX2_takeText 57 = .ok (.invokevirtual 52, 3) := by decide +kernel
theorem dX2_takeText_60 : decode cX2_takeText 60 = .ok (.ifCond .eq 10, 3) := by decide +kernel
theorem dX2_takeText_63 : decode cX2_takeText 63 = .ok (.aload_n 0, 1) := by decide +kernel
theorem dX2_takeText_64 : decode cX2_takeText 64 = .ok (.invokevirtual 61, 3) := by decide +kernel
theorem dX2_takeText_67 : decode cX2_takeText 67 = .ok (.goto 7, 3) := by decide +kernel
theorem dX2_takeText_70 : decode cX2_takeText 70 = .ok (.aload_n 0, 1) := by decide +kernel
theorem dX2_takeText_71 : decode cX2_takeText 71 = .ok (.invokevirtual 64, 3) := by decide +kernel
theorem dX2_takeText_74 : decode cX2_takeText 74 = .ok (.istore_n 2, 1) := by decide +kernel
theorem dX2_takeText_75 : decode cX2_takeText 75 = .ok (.iload_n 2, 1) := by decide +kernel
theorem dX2_takeText_76 : decode cX2_takeText 76 = .ok (.ifCond .ne 5, 3) := by decide +kernel
theorem dX2_takeText_79 : decode cX2_takeText 79 = .ok (.iconst 0, 1) := by decide +kernel
theorem dX2_takeText_80 : decode cX2_takeText 80 = .ok (.ireturn, 1) := by decide +kernel
theorem dX2_takeText_81 : decode cX2_takeText 81 = .ok (.aload_n 0, 1) := by decide +kernel
theorem dX2_takeText_82 : decode cX2_takeText 82 = .ok (.dup, 1) := by decide +kernel
theorem dX2_takeText_83 : decode cX2_takeText 83 = .ok (.getfield 67, 3) := by decide +kernel
theorem dX2_takeText_86 : decode cX2_takeText 86 = .ok (.iconst 1, 1) := by decide +kernel
theorem dX2_takeText_87 : decode cX2_takeText 87 = .ok (.iadd, 1) := by decide +kernel
theorem dX2_takeText_88 : decode cX2_takeText 88 = .ok (.putfield 67, 3) := by decide +kernel
theorem dX2_takeText_91 : decode cX2_takeText 91 = .ok (.iinc 1 1, 3) := by decide +kernel
theorem dX2_takeText_94 : decode cX2_takeText 94 = .ok (.goto (-88), 3) := by decide +kernel
theorem dX2_takeText_97 : decode cX2_takeText 97 = .ok (.aload_n 0, 1) := by decide +kernel
theorem dX2_takeText_98 : decode cX2_takeText 98 = .ok (.iconst 2, 1) := by decide +kernel
theorem dX2_takeText_99 : decode cX2_takeText 99 = .ok (.invokevirtual 70, 3) := by decide +kernel
theorem dX2_takeText_102 : decode cX2_takeText 102 = .ok (.ireturn, 1) := by decide +kernel
theorem dX2_begin_0 : decode cX2_begin 0 = .ok (.aload_n 0, 1) := by decide +kernel
theorem dX2_begin_1 : decode cX2_begin 1 = .ok (.getfield 18, 3) := by decide +kernel
theorem dX2_begin_4 : decode cX2_begin 4 = .ok (.invokevirtual 74, 3) := by decide +kernel
theorem dX2_begin_7 : decode cX2_begin 7 = .ok (.iconst 0, 1) := by decide +kernel
theorem dX2_begin_8 : decode cX2_begin 8 = .ok (.istore_n 1, 1) := by decide +kernel
theorem dX2_begin_9 : decode cX2_begin 9 = .ok (.iload_n 1, 1) := by decide +kernel
theorem dX2_begin_10 : decode cX2_begin 10 = .ok (.bipush 7, 2) := by decide +kernel
theorem dX2_begin_12 : decode cX2_begin 12 = .ok (.if_icmp .ge 16, 3) := by decide +kernel
theorem dX2_begin_15 : decode cX2_begin 15 = .ok (.aload_n 0, 1) := by decide +kernel
theorem dX2_begin_16 : decode cX2_begin 16 = .ok (.getfield 28, 3) := by decide +kernel
theorem dX2_begin_19 : decode cX2_begin 19 = .ok (.iload_n 1, 1) := by decide +kernel
theorem dX2_begin_20 : decode cX2_begin 20 = .ok (.iconst 0, 1) := by decide +kernel
theorem dX2_begin_21 : decode cX2_begin 21 = .ok (.bastore, 1) := by decide +kernel
theorem dX2_begin_22 : decode cX2_begin 22 = .ok (.iinc 1 1, 3) := by decide +kernel
theorem dX2_begin_25 : decode cX2_begin 25 = .ok (.goto (-16), 3) := by decide +kernel
theorem dX2_begin_28 : decode cX2_begin 28 = .ok (.aload_n 0, 1) := by decide +kernel
theorem dX2_begin_29 : decode cX2_begin 29 = .ok (.iconst 0, 1) := by decide +kernel
theorem dX2_begin_30 : decode cX2_begin 30 = .ok (.putfield 75, 3) := by decide +kernel
theorem dX2_begin_33 : decode cX2_begin 33 = .ok (.aload_n 0, 1) := by decide +kernel
theorem dX2_begin_34 : decode cX2_begin 34 = .ok (.iconst 0, 1) := by decide +kernel
theorem dX2_begin_35 : decode cX2_begin 35 = .ok (.putfield 67, 3) := by decide +kernel
theorem dX2_begin_38 : decode cX2_begin 38 = .ok (.aload_n 0, 1) := by decide +kernel
theorem dX2_begin_39 : decode cX2_begin 39 = .ok (.iconst 0, 1) := by decide +kernel
theorem dX2_begin_40 : decode cX2_begin 40 = .ok (.putfield 78, 3) := by decide +kernel
theorem dX2_begin_43 : decode cX2_begin 43 = .ok (.aload_n 0, 1) := by decide +kernel
theorem dX2_begin_44 : decode cX2_begin 44 = .ok (.iconst 0, 1) := by decide +kernel
theorem dX2_begin_45 : decode cX2_begin 45 = .ok (.putfield 81, 3) := by decide +kernel
theorem dX2_begin_48 : decode cX2_begin 48 = .ok (.aload_n 0, 1) := by decide +kernel
theorem dX2_begin_49 : decode cX2_begin 49 = .ok (.iconst 0, 1) := by decide +kernel
theorem dX2_begin_50 : decode cX2_begin 50 = .ok (.putfield 84, 3) := by decide +kernel
theorem dX2_begin_53 : decode cX2_begin 53 = .ok (.return_, 1) := by decide +kernel
theorem dX2_fail_0 : decode cX2_fail 0 = .ok (.aload_n 0, 1) := by decide +kernel
theorem dX2_fail_1 : decode cX2_fail 1 = .ok (.iload_n 1, 1) := by decide +kernel
theorem dX2_fail_2 : decode cX2_fail 2 = .ok (.putfield 81, 3) := by decide +kernel
theorem dX2_fail_5 : decode cX2_fail 5 = .ok (.aload_n 0, 1) := by decide +kernel
theorem dX2_fail_6 : decode cX2_fail 6 = .ok (.aload_n 0, 1) := by decide +kernel
theorem dX2_fail_7 : decode cX2_fail 7 = .ok (.getfield 87, 3) := by decide +kernel
theorem dX2_fail_10 : decode cX2_fail 10 = .ok (.putfield 84, 3) := by decide +kernel
theorem dX2_fail_13 : decode cX2_fail 13 = .ok (.iconst 0, 1) := by decide +kernel
theorem dX2_fail_14 : decode cX2_fail 14 = .ok (.ireturn, 1) := by decide +kernel
theorem dX2_kindAt_0 : decode cX2_kindAt 0 = .ok (.iload_n 1, 1) := by decide +kernel
theorem dX2_kindAt_1 : decode cX2_kindAt 1 = .ok (.ifCond .lt 18, 3) := by decide +kernel
theorem dX2_kindAt_4 : decode cX2_kindAt 4 = .ok (.iload_n 1, 1) := by decide +kernel
theorem dX2_kindAt_5 : decode cX2_kindAt 5 = .ok (.aload_n 0, 1) := by decide +kernel
theorem dX2_kindAt_6 : decode cX2_kindAt 6 = .ok (.getfield 33, 3) := by decide +kernel
theorem dX2_kindAt_9 : decode cX2_kindAt 9 = .ok (.if_icmp .ge 10, 3) := by decide +kernel
theorem dX2_kindAt_12 : decode cX2_kindAt 12 = .ok (.iload_n 1, 1) := by decide +kernel
theorem dX2_kindAt_13 : decode cX2_kindAt 13 = .ok (.sipush 320, 3) := by decide +kernel
theorem dX2_kindAt_16 : decode cX2_kindAt 16 = .ok (.if_icmp .lt 5, 3) := by decide +kernel
theorem dX2_kindAt_19 : decode cX2_kindAt 19 = .ok (.iconst 0, 1) := by decide +kernel
theorem dX2_kindAt_20 : decode cX2_kindAt 20 = .ok (.ireturn, 1) := by decide +kernel
theorem dX2_kindAt_21 : decode cX2_kindAt 21 = .ok (.aload_n 0, 1) := by decide +kernel
theorem dX2_kindAt_22 : decode cX2_kindAt 22 = .ok (.getfield 9, 3) := by decide +kernel
theorem dX2_kindAt_25 : decode cX2_kindAt 25 = .ok (.iload_n 1, 1) := by decide +kernel
theorem dX2_kindAt_26 : decode cX2_kindAt 26 = .ok (.baload, 1) := by decide +kernel
theorem dX2_kindAt_27 : decode cX2_kindAt 27 = .ok (.istore_n 2, 1) := by decide +kernel
theorem dX2_kindAt_28 : decode cX2_kindAt 28 = .ok (.iload_n 2, 1) := by decide +kernel
theorem dX2_kindAt_29 : decode cX2_kindAt 29 = .ok (.bipush 32, 2) := by decide +kernel
theorem dX2_kindAt_31 : decode cX2_kindAt 31 = .ok (.if_icmp .ne 5, 3) := by decide +kernel
theorem dX2_kindAt_34 : decode cX2_kindAt 34 = .ok (.iconst 4, 1) := by decide +kernel
theorem dX2_kindAt_35 : decode cX2_kindAt 35 = .ok (.ireturn, 1) := by decide +kernel
theorem dX2_kindAt_36 : decode cX2_kindAt 36 = .ok (.iload_n 2, 1) := by decide +kernel
theorem dX2_kindAt_37 : decode cX2_kindAt 37 = .ok (.bipush 59, 2) := by decide +kernel
theorem dX2_kindAt_39 : decode cX2_kindAt 39 = .ok (.if_icmp .ne 5, 3) := by decide +kernel
theorem dX2_kindAt_42 : decode cX2_kindAt 42 = .ok (.iconst 3, 1) := by decide +kernel
theorem dX2_kindAt_43 : decode cX2_kindAt 43 = .ok (.ireturn, 1) := by decide +kernel
theorem dX2_kindAt_44 : decode cX2_kindAt 44 = .ok (.iload_n 2, 1) := by decide +kernel
theorem dX2_kindAt_45 : decode cX2_kindAt 45 = .ok (.bipush 97, 2) := by decide +kernel
theorem dX2_kindAt_47 : decode cX2_kindAt 47 = .ok (.if_icmp .lt 11, 3) := by decide +kernel
theorem dX2_kindAt_50 : decode cX2_kindAt 50 = .ok (.iload_n 2, 1) := by decide +kernel
theorem dX2_kindAt_51 : decode cX2_kindAt 51 = .ok (.bipush 122, 2) := by decide +kernel
theorem dX2_kindAt_53 : decode cX2_kindAt 53 = .ok (.if_icmp .gt 5, 3) := by decide +kernel
theorem dX2_kindAt_56 : decode cX2_kindAt 56 = .ok (.iconst 1, 1) := by decide +kernel
theorem dX2_kindAt_57 : decode cX2_kindAt 57 = .ok (.ireturn, 1) := by decide +kernel
theorem dX2_kindAt_58 : decode cX2_kindAt 58 = .ok (.iload_n 2, 1) := by decide +kernel
theorem dX2_kindAt_59 : decode cX2_kindAt 59 = .ok (.bipush 48, 2) := by decide +kernel
theorem dX2_kindAt_61 : decode cX2_kindAt 61 = .ok (.if_icmp .lt 13, 3) := by decide +kernel
theorem dX2_kindAt_64 : decode cX2_kindAt 64 = .ok (.iload_n 2, 1) := by decide +kernel
theorem dX2_kindAt_65 : decode cX2_kindAt 65 = .ok (.bipush 57, 2) := by decide +kernel
theorem dX2_kindAt_67 : decode cX2_kindAt 67 = .ok (.if_icmp .gt 7, 3) := by decide +kernel
theorem dX2_kindAt_70 : decode cX2_kindAt 70 = .ok (.iconst 2, 1) := by decide +kernel
theorem dX2_kindAt_71 : decode cX2_kindAt 71 = .ok (.goto 4, 3) := by decide +kernel
theorem dX2_kindAt_74 : decode cX2_kindAt 74 = .ok (.iconst 5, 1) := by decide +kernel
theorem dX2_kindAt_75 : decode cX2_kindAt 75 = .ok (.ireturn, 1) := by decide +kernel
theorem dX2_nextToken_0 : decode cX2_nextToken 0 = .ok (.aload_n 0, 1) := by decide +kernel
theorem dX2_nextToken_1 : decode cX2_nextToken 1 = .ok (.getfield 78, 3) := by decide +kernel
theorem dX2_nextToken_4 : decode cX2_nextToken 4 = .ok (.aload_n 0, 1) := by decide +kernel
theorem dX2_nextToken_5 : decode cX2_nextToken 5 = .ok (.getfield 33, 3) := by decide +kernel
theorem dX2_nextToken_8 : decode cX2_nextToken 8 = .ok (.if_icmp .ge 28, 3) := by decide +kernel
theorem dX2_nextToken_11 : decode cX2_nextToken 11 = .ok (.aload_n 0, 1) := by decide +kernel
theorem dX2_nextToken_12 : decode cX2_nextToken 12 = .ok (.aload_n 0, 1) := by decide +kernel
theorem dX2_nextToken_13 : decode cX2_nextToken 13 = .ok (.getfield 78, 3) := by decide +kernel
theorem dX2_nextToken_16 : decode cX2_nextToken 16 = .ok (.invokevirtual 90, 3) := by decide +kernel
theorem dX2_nextToken_19 : decode cX2_nextToken 19 = .ok (.iconst 4, 1) := by decide +kernel
theorem dX2_nextToken_20 : decode cX2_nextToken 20 = .ok (.if_icmp .ne 16, 3) := by decide +kernel
theorem dX2_nextToken_23 : decode cX2_nextToken 23 = .ok (.aload_n 0, 1) := by decide +kernel
theorem dX2_nextToken_24 : decode cX2_nextToken 24 = .ok (.dup, 1) := by decide +kernel
theorem dX2_nextToken_25 : decode cX2_nextToken 25 = .ok (.getfield 78, 3) := by decide +kernel
theorem dX2_nextToken_28 : decode cX2_nextToken 28 = .ok (.iconst 1, 1) := by decide +kernel
theorem dX2_nextToken_29 : decode cX2_nextToken 29 = .ok (.iadd, 1) := by decide +kernel
theorem dX2_nextToken_30 : decode cX2_nextToken 30 = .ok (.putfield 78, 3) := by decide +kernel
theorem dX2_nextToken_33 : decode cX2_nextToken 33 = .ok (.goto (-33), 3) := by decide +kernel
theorem dX2_nextToken_36 : decode cX2_nextToken 36 = .ok (.aload_n 0, 1) := by decide +kernel
theorem dX2_nextToken_37 : decode cX2_nextToken 37 = .ok (.aload_n 0, 1) := by decide +kernel
theorem dX2_nextToken_38 : decode cX2_nextToken 38 = .ok (.getfield 78, 3) := by decide +kernel
theorem dX2_nextToken_41 : decode cX2_nextToken 41 = .ok (.putfield 87, 3) := by decide +kernel
theorem dX2_nextToken_44 : decode cX2_nextToken 44 = .ok (.aload_n 0, 1) := by decide +kernel
theorem dX2_nextToken_45 : decode cX2_nextToken 45 = .ok (.aload_n 0, 1) := by decide +kernel
theorem dX2_nextToken_46 : decode cX2_nextToken 46 = .ok (.aload_n 0, 1) := by decide +kernel
theorem dX2_nextToken_47 : decode cX2_nextToken 47 = .ok (.getfield 78, 3) := by decide +kernel
theorem dX2_nextToken_50 : decode cX2_nextToken 50 = .ok (.invokevirtual 90, 3) := by decide +kernel
theorem dX2_nextToken_53 : decode cX2_nextToken 53 = .ok (.putfield 44, 3) := by decide +kernel
theorem dX2_nextToken_56 : decode cX2_nextToken 56 = .ok (.aload_n 0, 1) := by decide +kernel
theorem dX2_nextToken_57 : decode cX2_nextToken 57 = .ok (.getfield 44, 3) := by decide +kernel
theorem dX2_nextToken_60 : decode cX2_nextToken 60 = .ok (.iconst 5, 1) := by decide +kernel
theorem dX2_nextToken_61 : decode cX2_nextToken 61 = .ok (.if_icmp .ne 9, 3) := by decide +kernel
theorem dX2_nextToken_64 : decode cX2_nextToken 64 = .ok (.aload_n 0, 1) := by decide +kernel
theorem dX2_nextToken_65 : decode cX2_nextToken 65 = .ok (.iconst 1, 1) := by decide +kernel
theorem dX2_nextToken_66 : decode cX2_nextToken 66 = .ok (.invokevirtual 70, 3) := by decide +kernel
theorem dX2_nextToken_69 : decode cX2_nextToken 69 = .ok (.ireturn, 1) := by decide +kernel
theorem dX2_nextToken_70 : decode cX2_nextToken 70 = .ok (.aload_n 0, 1) := by decide +kernel
theorem dX2_nextToken_71 : decode cX2_nextToken 71 = .ok (.getfield 44, 3) := by decide +kernel
theorem dX2_nextToken_74 : decode cX2_nextToken 74 = .ok (.iconst 3, 1) := by decide +kernel
theorem dX2_nextToken_75 : decode cX2_nextToken 75 = .ok (.if_icmp .ne 13, 3) := by decide +kernel
theorem dX2_nextToken_78 : decode cX2_nextToken 78 = .ok (.aload_n 0, 1) := by decide +kernel
theorem dX2_nextToken_79 : decode cX2_nextToken 79 = .ok (.dup, 1) := by decide +kernel
theorem dX2_nextToken_80 : decode cX2_nextToken 80 = .ok (.getfield 78, 3) := by decide +kernel
theorem dX2_nextToken_83 : decode cX2_nextToken 83 = .ok (.iconst 1, 1) := by decide +kernel
theorem dX2_nextToken_84 : decode cX2_nextToken 84 = .ok (.iadd, 1) := by decide +kernel
theorem dX2_nextToken_85 : decode cX2_nextToken 85 = .ok (.putfield 78, 3) := by decide +kernel
theorem dX2_nextToken_88 : decode cX2_nextToken 88 = .ok (.aload_n 0, 1) := by decide +kernel
theorem dX2_nextToken_89 : decode cX2_nextToken 89 = .ok (.getfield 44, 3) := by decide +kernel
theorem dX2_nextToken_92 : decode cX2_nextToken 92 = .ok (.iconst 1, 1) := by decide +kernel
theorem dX2_nextToken_93 : decode cX2_nextToken 93 = .ok (.if_icmp .eq 11, 3) := by decide +kernel
theorem dX2_nextToken_96 : decode cX2_nextToken 96 = .ok (.aload_n 0, 1) := by decide +kernel
theorem dX2_nextToken_97 : decode cX2_nextToken 97 = .ok (.getfield 44, 3) := by decide +kernel
theorem dX2_nextToken_100 : decode cX2_nextToken 100 = .ok (.iconst 2, 1) := by decide +kernel
theorem dX2_nextToken_101 : decode cX2_nextToken 101 = .ok (.if_icmp .ne 42, 3) := by decide +kernel
theorem dX2_nextToken_104 : decode cX2_nextToken 104 = .ok (.aload_n 0, 1) := by decide +kernel
theorem dX2_nextToken_105 : decode cX2_nextToken 105 = .ok (.getfield 78, 3) := by decide +kernel
theorem dX2_nextToken_108 : decode cX2_nextToken 108 = .ok (.aload_n 0, 1) := by decide +kernel
theorem dX2_nextToken_109 : decode cX2_nextToken 109 = .ok (.getfield 33, 3) := by decide +kernel
theorem dX2_nextToken_112 : decode cX2_nextToken 112 = .ok (.if_icmp .ge 31, 3) := by decide +kernel
theorem dX2_nextToken_115 : decode cX2_nextToken 115 = .ok (.aload_n 0, 1) := by decide +kernel
theorem dX2_nextToken_116 : decode cX2_nextToken 116 = .ok (.aload_n 0, 1) := by decide +kernel
theorem dX2_nextToken_117 : decode cX2_nextToken 117 = .ok (.getfield 78, 3) := by decide +kernel
theorem dX2_nextToken_120 : decode cX2_nextToken 120 = .ok (.invokevirtual 90, 3) := by decide +kernel
theorem dX2_nextToken_123 : decode cX2_nextToken 123 = .ok (.aload_n 0, 1) := by decide +kernel
theorem dX2_nextToken_124 : decode cX2_nextToken 124 = .ok (.getfield 44, 3) := by decide +kernel
theorem dX2_nextToken_127 : decode cX2_nextToken 127 = .ok (.if_icmp .ne 16, 3) := by decide +kernel
theorem dX2_nextToken_130 : decode cX2_nextToken 130 = .ok (.aload_n 0, 1) := by decide +kernel
theorem dX2_nextToken_131 : decode cX2_nextToken 131 = .ok (.dup, 1) := by decide +kernel
theorem dX2_nextToken_132 : decode cX2_nextToken 132 = .ok (.getfield 78, 3) := by decide +kernel
theorem dX2_nextToken_135 : decode cX2_nextToken 135 = .ok (.iconst 1, 1) := by decide +kernel
theorem dX2_nextToken_136 : decode cX2_nextToken 136 = .ok (.iadd, 1) := by decide +kernel
theorem dX2_nextToken_137 : decode cX2_nextToken 137 = .ok (.putfield 78, 3) := by decide +kernel
theorem dX2_nextToken_140 : decode cX2_nextToken 140 = .ok (.goto (-36), 3) := by decide +kernel
theorem dX2_nextToken_143 : decode cX2_nextToken 143 = .ok (.aload_n 0, 1) := by decide +kernel
theorem dX2_nextToken_144 : decode cX2_nextToken 144 = .ok (.getfield 44, 3) := by decide +kernel
theorem dX2_nextToken_147 : decode cX2_nextToken 147 = .ok (.iconst 2, 1) := by decide +kernel
theorem dX2_nextToken_148 : decode cX2_nextToken 148 = .ok (.if_icmp .ne 24, 3) := by decide +kernel
theorem dX2_nextToken_151 : decode cX2_nextToken 151 = .ok (.aload_n 0, 1) := by decide +kernel
theorem dX2_nextToken_152 : decode cX2_nextToken 152 = .ok (.getfield 78, 3) := by decide +kernel
theorem dX2_nextToken_155 : decode cX2_nextToken 155 = .ok (.aload_n 0, 1) := by decide +kernel
theorem dX2_nextToken_156 : decode cX2_nextToken 156 = .ok (.getfield 87, 3) := by decide +kernel
theorem dX2_nextToken_159 : decode cX2_nextToken 159 = .ok (.isub, 1) := by decide +kernel
theorem dX2_nextToken_160 : decode cX2_nextToken 160 = .ok (.iconst 4, 1) := by decide +kernel
theorem dX2_nextToken_161 : decode cX2_nextToken 161 = .ok (.if_icmp .le 11, 3) := by decide +kernel
theorem dX2_nextToken_164 : decode cX2_nextToken 164 = .ok (.aload_n 0, 1) := by decide +kernel
theorem dX2_nextToken_165 : decode cX2_nextToken 165 = .ok (.iconst 1, 1) := by decide +kernel
theorem dX2_nextToken_166 : decode cX2_nextToken 166 = .ok (.invokevirtual 70, 3) := by decide +kernel
theorem dX2_nextToken_169 : decode cX2_nextToken 169 = .ok (.ifCond .eq 7, 3) := by decide +kernel
theorem dX2_nextToken_172 : decode cX2_nextToken 172 = .ok (.iconst 1, 1) := by decide +kernel
theorem dX2_nextToken_173 : decode cX2_nextToken 173 = .ok (.goto 4, 3) := by decide +kernel
theorem dX2_nextToken_176 : decode cX2_nextToken 176 = .ok (.iconst 0, 1) := by decide +kernel
theorem dX2_nextToken_177 : decode cX2_nextToken 177 = .ok (.ireturn, 1) := by decide +kernel
theorem dX2_isName_0 : decode cX2_isName 0 = .ok (.aload_n 0, 1) := by decide +kernel
theorem dX2_isName_1 : decode cX2_isName 1 = .ok (.getfield 44, 3) := by decide +kernel
theorem dX2_isName_4 : decode cX2_isName 4 = .ok (.iconst 1, 1) := by decide +kernel
theorem dX2_isName_5 : decode cX2_isName 5 = .ok (.if_icmp .ne 29, 3) := by decide +kernel
theorem dX2_isName_8 : decode cX2_isName 8 = .ok (.aload_n 0, 1) := by decide +kernel
theorem dX2_isName_9 : decode cX2_isName 9 = .ok (.getfield 78, 3) := by decide +kernel
theorem dX2_isName_12 : decode cX2_isName 12 = .ok (.aload_n 0, 1) := by decide +kernel
theorem dX2_isName_13 : decode cX2_isName 13 = .ok (.getfield 87, 3) := by decide +kernel
theorem dX2_isName_16 : decode cX2_isName 16 = .ok (.isub, 1) := by decide +kernel
theorem dX2_isName_17 : decode cX2_isName 17 = .ok (.aload_n 1, 1) := by decide +kernel
theorem dX2_isName_18 : decode cX2_isName 18 = .ok (.invokevirtual 94, 3) := by decide +kernel
theorem dX2_isName_21 : decode cX2_isName 21 = .ok (.if_icmp .ne 13, 3) := by decide +kernel
theorem dX2_isName_24 : decode cX2_isName 24 = .ok (.aload_n 0, 1) := by decide +kernel
theorem dX2_isName_25 : decode cX2_isName 25 = .ok (.getfield 78, 3) := by decide +kernel
theorem dX2_isName_28 : decode cX2_isName 28 = .ok (.sipush 320, 3) := by decide +kernel
theorem dX2_isName_31 : decode cX2_isName 31 = .ok (.if_icmp .le 5, 3) := by decide +kernel
theorem dX2_isName_34 : decode cX2_isName 34 = .ok (.iconst 0, 1) := by decide +kernel
theorem dX2_isName_35 : decode cX2_isName 35 = .ok (.ireturn, 1) := by decide +kernel
theorem dX2_isName_36 : decode cX2_isName 36 = .ok (.iconst 0, 1) := by decide +kernel
theorem dX2_isName_37 : decode cX2_isName 37 = .ok (.istore_n 2, 1) := by decide +kernel
theorem dX2_isName_38 : decode cX2_isName 38 = .ok (.iload_n 2, 1) := by decide +kernel
theorem dX2_isName_39 : decode cX2_isName 39 = .ok (.aload_n 1, 1) := by decide +kernel
theorem dX2_isName_40 : decode cX2_isName 40 = .ok (.invokevirtual 94, 3) := by decide +kernel
theorem dX2_isName_43 : decode cX2_isName 43 = .ok (.if_icmp .ge 30, 3) := by decide +kernel
theorem dX2_isName_46 : decode cX2_isName 46 = .ok (.aload_n 0, 1) := by decide +kernel
theorem dX2_isName_47 : decode cX2_isName 47 = .ok (.getfield 9, 3) := by decide +kernel
theorem dX2_isName_50 : decode cX2_isName 50 = .ok (.aload_n 0, 1) := by decide +kernel
theorem dX2_isName_51 : decode cX2_isName 51 = .ok (.getfield 87, 3) := by decide +kernel
theorem dX2_isName_54 : decode cX2_isName 54 = .ok (.iload_n 2, 1) := by decide +kernel
theorem dX2_isName_55 : decode cX2_isName 55 = .ok (.iadd, 1) := by decide +kernel
theorem dX2_isName_56 : decode cX2_isName 56 = .ok (.baload, 1) := by decide +kernel
theorem dX2_isName_57 : decode cX2_isName 57 = .ok (.aload_n 1, 1) := by decide +kernel
theorem dX2_isName_58 : decode cX2_isName 58 = .ok (.iload_n 2, 1) := by decide +kernel
theorem dX2_isName_59 : decode cX2_isName 59 = .ok (.invokevirtual 99, 3) := by decide +kernel
theorem dX2_isName_62 : decode cX2_isName 62 = .ok (.if_icmp .eq 5, 3) := by decide +kernel
theorem dX2_isName_65 : decode cX2_isName 65 = .ok (.iconst 0, 1) := by decide +kernel
theorem dX2_isName_66 : decode cX2_isName 66 = .ok (.ireturn, 1) := by decide +kernel
theorem dX2_isName_67 : decode cX2_isName 67 = .ok (.iinc 2 1, 3) := by decide +kernel
theorem dX2_isName_70 : decode cX2_isName 70 = .ok (.goto (-32), 3) := by decide +kernel
theorem dX2_isName_73 : decode cX2_isName 73 = .ok (.iconst 1, 1) := by decide +kernel
theorem dX2_isName_74 : decode cX2_isName 74 = .ok (.ireturn, 1) := by decide +kernel
theorem dX2_takeNumber_0 : decode cX2_takeNumber 0 = .ok (.aload_n 0, 1) := by decide +kernel
theorem dX2_takeNumber_1 : decode cX2_takeNumber 1 = .ok (.invokevirtual 40, 3) := by decide +kernel
theorem dX2_takeNumber_4 : decode cX2_takeNumber 4 = .ok (.ifCond .ne 5, 3) := by decide +kernel
theorem dX2_takeNumber_7 : decode cX2_takeNumber 7 = .ok (.iconst 0, 1) := by decide +kernel
theorem dX2_takeNumber_8 : decode cX2_takeNumber 8 = .ok (.ireturn, 1) := by decide +kernel
theorem dX2_takeNumber_9 : decode cX2_takeNumber 9 = .ok (.aload_n 0, 1) := by decide +kernel
theorem dX2_takeNumber_10 : decode cX2_takeNumber 10 = .ok (.getfield 44, 3) := by decide +kernel
theorem dX2_takeNumber_13 : decode cX2_takeNumber 13 = .ok (.iconst 2, 1) := by decide +kernel
theorem dX2_takeNumber_14 : decode cX2_takeNumber 14 = .ok (.if_icmp .eq 9, 3) := by decide +kernel
theorem dX2_takeNumber_17 : decode cX2_takeNumber 17 = .ok (.aload_n 0, 1) := by decide +kernel
theorem dX2_takeNumber_18 : decode cX2_takeNumber 18 = .ok (.iconst 2, 1) := by decide +kernel
theorem dX2_takeNumber_19 : decode cX2_takeNumber 19 = .ok (.invokevirtual 70, 3) := by decide +kernel
theorem dX2_takeNumber_22 : decode cX2_takeNumber 22 = .ok (.ireturn, 1) := by decide +kernel
theorem dX2_takeNumber_23 : decode cX2_takeNumber 23 = .ok (.aload_n 0, 1) := by decide +kernel
theorem dX2_takeNumber_24 : decode cX2_takeNumber 24 = .ok (.iconst 0, 1) := by decide +kernel
theorem dX2_takeNumber_25 : decode cX2_takeNumber 25 = .ok (.putfield 103, 3) := by decide +kernel
theorem dX2_takeNumber_28 : decode cX2_takeNumber 28 = .ok (.aload_n 0, 1) := by decide +kernel
theorem dX2_takeNumber_29 : decode cX2_takeNumber 29 = .ok (.getfield 87, 3) := by decide +kernel
theorem dX2_takeNumber_32 : decode cX2_takeNumber 32 = .ok (.istore_n 3, 1) := by decide +kernel
theorem dX2_takeNumber_33 : decode cX2_takeNumber 33 = .ok (.iload_n 3, 1) := by decide +kernel
theorem dX2_takeNumber_34 : decode cX2_takeNumber 34 = .ok (.aload_n 0, 1) := by decide +kernel
theorem dX2_takeNumber_35 : decode cX2_takeNumber 35 = .ok (.getfield 78, 3) := by decide +kernel
theorem dX2_takeNumber_38 : decode cX2_takeNumber 38 = .ok (.if_icmp .ge 37, 3) := by decide +kernel
theorem dX2_takeNumber_41 : decode cX2_takeNumber 41 = .ok (.iload_n 3, 1) := by decide +kernel
theorem dX2_takeNumber_42 : decode cX2_takeNumber 42 = .ok (.sipush 320, 3) := by decide +kernel
theorem dX2_takeNumber_45 : decode cX2_takeNumber 45 = .ok (.if_icmp .ge 30, 3) := by decide +kernel
theorem dX2_takeNumber_48 : decode cX2_takeNumber 48 = .ok (.aload_n 0, 1) := by decide +kernel
theorem dX2_takeNumber_49 : decode cX2_takeNumber 49 = .ok (.aload_n 0, 1) := by decide +kernel
theorem dX2_takeNumber_50 : decode cX2_takeNumber 50 = .ok (.getfield 103, 3) := by decide +kernel
theorem dX2_takeNumber_53 : decode cX2_takeNumber 53 = .ok (.bipush 10, 2) := by decide +kernel
theorem dX2_takeNumber_55 : decode cX2_takeNumber 55 = .ok (.imul, 1) := by decide +kernel
theorem dX2_takeNumber_56 : decode cX2_takeNumber 56 = .ok (.aload_n 0, 1) := by decide +kernel
theorem dX2_takeNumber_57 : decode cX2_takeNumber 57 = .ok (.getfield 9, 3) := by decide +kernel
theorem dX2_takeNumber_60 : decode cX2_takeNumber 60 = .ok (.iload_n 3, 1) := by decide +kernel
theorem dX2_takeNumber_61 : decode cX2_takeNumber 61 = .ok (.baload, 1) := by decide +kernel
theorem dX2_takeNumber_62 : decode cX2_takeNumber 62 = .ok (.iadd, 1) := by decide +kernel
theorem dX2_takeNumber_63 : decode cX2_takeNumber 63 = .ok (.bipush 48, 2) := by decide +kernel
theorem dX2_takeNumber_65 : decode cX2_takeNumber 65 = .ok (.isub, 1) := by decide +kernel
theorem dX2_takeNumber_66 : decode cX2_takeNumber 66 = .ok (.putfield 103, 3) := by decide +kernel
theorem dX2_takeNumber_69 : decode cX2_takeNumber 69 = .ok (.iinc 3 1, 3) := by decide +kernel
theorem dX2_takeNumber_72 : decode cX2_takeNumber 72 = .ok (.goto (-39), 3) := by decide +kernel
theorem dX2_takeNumber_75 : decode cX2_takeNumber 75 = .ok (.aload_n 0, 1) := by decide +kernel
theorem dX2_takeNumber_76 : decode cX2_takeNumber 76 = .ok (.getfield 103, 3) := by decide +kernel
theorem dX2_takeNumber_79 : decode cX2_takeNumber 79 = .ok (.iload_n 1, 1) := by decide +kernel
theorem dX2_takeNumber_80 : decode cX2_takeNumber 80 = .ok (.iload_n 2, 1) := by decide +kernel
theorem dX2_takeNumber_81 : decode cX2_takeNumber 81 = .ok (.invokestatic 106, 3) := by decide +kernel
theorem dX2_takeNumber_84 : decode cX2_takeNumber 84 = .ok (.ifCond .ne 11, 3) := by decide +kernel
theorem dX2_takeNumber_87 : decode cX2_takeNumber 87 = .ok (.aload_n 0, 1) := by decide +kernel
theorem dX2_takeNumber_88 : decode cX2_takeNumber 88 = .ok (.iconst 3, 1) := by decide +kernel
theorem dX2_takeNumber_89 : decode cX2_takeNumber 89 = .ok (.invokevirtual 70, 3) := by decide +kernel
theorem dX2_takeNumber_92 : decode cX2_takeNumber 92 = .ok (.ifCond .eq 7, 3) := by decide +kernel
theorem dX2_takeNumber_95 : decode cX2_takeNumber 95 = .ok (.iconst 1, 1) := by decide +kernel
theorem dX2_takeNumber_96 : decode cX2_takeNumber 96 = .ok (.goto 4, 3) := by decide +kernel
theorem dX2_takeNumber_99 : decode cX2_takeNumber 99 = .ok (.iconst 0, 1) := by decide +kernel
theorem dX2_takeNumber_100 : decode cX2_takeNumber 100 = .ok (.ireturn, 1) := by decide +kernel
theorem dX2_takeStop_0 : decode cX2_takeStop 0 = .ok (.aload_n 0, 1) := by decide +kernel
theorem dX2_takeStop_1 : decode cX2_takeStop 1 = .ok (.invokevirtual 40, 3) := by decide +kernel
theorem dX2_takeStop_4 : decode cX2_takeStop 4 = .ok (.ifCond .ne 5, 3) := by decide +kernel
theorem dX2_takeStop_7 : decode cX2_takeStop 7 = .ok (.iconst 0, 1) := by decide +kernel
theorem dX2_takeStop_8 : decode cX2_takeStop 8 = .ok (.ireturn, 1) := by decide +kernel
theorem dX2_takeStop_9 : decode cX2_takeStop 9 = .ok (.aload_n 0, 1) := by decide +kernel
theorem dX2_takeStop_10 : decode cX2_takeStop 10 = .ok (.getfield 44, 3) := by decide +kernel
theorem dX2_takeStop_13 : decode cX2_takeStop 13 = .ok (.iconst 3, 1) := by decide +kernel
theorem dX2_takeStop_14 : decode cX2_takeStop 14 = .ok (.if_icmp .eq 11, 3) := by decide +kernel
theorem dX2_takeStop_17 : decode cX2_takeStop 17 = .ok (.aload_n 0, 1) := by decide +kernel
theorem dX2_takeStop_18 : decode cX2_takeStop 18 = .ok (.iconst 2, 1) := by decide +kernel
theorem dX2_takeStop_19 : decode cX2_takeStop 19 = .ok (.invokevirtual 70, 3) := by decide +kernel
theorem dX2_takeStop_22 : decode cX2_takeStop 22 = .ok (.ifCond .eq 7, 3) := by decide +kernel
theorem dX2_takeStop_25 : decode cX2_takeStop 25 = .ok (.iconst 1, 1) := by decide +kernel
theorem dX2_takeStop_26 : decode cX2_takeStop 26 = .ok (.goto 4, 3) := by decide +kernel
theorem dX2_takeStop_29 : decode cX2_takeStop 29 = .ok (.iconst 0, 1) := by decide +kernel
theorem dX2_takeStop_30 : decode cX2_takeStop 30 = .ok (.ireturn, 1) := by decide +kernel
theorem dX2_takeRuleLine_0 : decode cX2_takeRuleLine 0 = .ok (.aload_n 0, 1) := by decide +kernel
theorem dX2_takeRuleLine_1 : decode cX2_takeRuleLine 1 = .ok (.invokevirtual 110, 3) := by decide +kernel
theorem dX2_takeRuleLine_4 : decode cX2_takeRuleLine 4 = .ok (.istore_n 1, 1) := by decide +kernel
theorem dX2_takeRuleLine_5 : decode cX2_takeRuleLine 5 = .ok (.iload_n 1, 1) := by decide +kernel
theorem dX2_takeRuleLine_6 : decode cX2_takeRuleLine 6 = .ok (.bipush (-4), 2) := by decide +kernel
theorem dX2_takeRuleLine_8 : decode cX2_takeRuleLine 8 = .ok (.if_icmp .ne 9, 3) := by decide +kernel
theorem dX2_takeRuleLine_11 : decode cX2_takeRuleLine 11 = .ok (.aload_n 0, 1) := by decide +kernel
theorem dX2_takeRuleLine_12 : decode cX2_takeRuleLine 12 = .ok (.iconst 2, 1) := by decide +kernel
theorem dX2_takeRuleLine_13 : decode cX2_takeRuleLine 13 = .ok (.invokevirtual 70, 3) := by decide +kernel
theorem dX2_takeRuleLine_16 : decode cX2_takeRuleLine 16 = .ok (.ireturn, 1) := by decide +kernel
theorem dX2_takeRuleLine_17 : decode cX2_takeRuleLine 17 = .ok (.aload_n 0, 1) := by decide +kernel
theorem dX2_takeRuleLine_18 : decode cX2_takeRuleLine 18 = .ok (.getfield 28, 3) := by decide +kernel
theorem dX2_takeRuleLine_21 : decode cX2_takeRuleLine 21 = .ok (.iload_n 1, 1) := by decide +kernel
theorem dX2_takeRuleLine_22 : decode cX2_takeRuleLine 22 = .ok (.baload, 1) := by decide +kernel
theorem dX2_takeRuleLine_23 : decode cX2_takeRuleLine 23 = .ok (.ifCond .eq 9, 3) := by decide +kernel
theorem dX2_takeRuleLine_26 : decode cX2_takeRuleLine 26 = .ok (.aload_n 0, 1) := by decide +kernel
theorem dX2_takeRuleLine_27 : decode cX2_takeRuleLine 27 = .ok (.iconst 4, 1) := by decide +kernel
theorem dX2_takeRuleLine_28 : decode cX2_takeRuleLine 28 = .ok (.invokevirtual 70, 3) := by decide +kernel
theorem dX2_takeRuleLine_31 : decode cX2_takeRuleLine 31 = .ok (.ireturn, 1) := by decide +kernel
theorem dX2_takeRuleLine_32 : decode cX2_takeRuleLine 32 = .ok (.aload_n 0, 1) := by decide +kernel
theorem dX2_takeRuleLine_33 : decode cX2_takeRuleLine 33 = .ok (.getfield 28, 3) := by decide +kernel
theorem dX2_takeRuleLine_36 : decode cX2_takeRuleLine 36 = .ok (.iload_n 1, 1) := by decide +kernel
theorem dX2_takeRuleLine_37 : decode cX2_takeRuleLine 37 = .ok (.iconst 1, 1) := by decide +kernel
theorem dX2_takeRuleLine_38 : decode cX2_takeRuleLine 38 = .ok (.bastore, 1) := by decide +kernel
theorem dX2_takeRuleLine_39 : decode cX2_takeRuleLine 39 = .ok (.aload_n 0, 1) := by decide +kernel
theorem dX2_takeRuleLine_40 : decode cX2_takeRuleLine 40 = .ok (.iload_n 1, 1) := by decide +kernel
theorem dX2_takeRuleLine_41 : decode cX2_takeRuleLine 41 = .ok (.invokevirtual 113, 3) := by decide +kernel
theorem dX2_takeRuleLine_44 : decode cX2_takeRuleLine 44 = .ok (.ifCond .ne 5, 3) := by decide +kernel
theorem dX2_takeRuleLine_47 : decode cX2_takeRuleLine 47 = .ok (.iconst 0, 1) := by decide +kernel
theorem dX2_takeRuleLine_48 : decode cX2_takeRuleLine 48 = .ok (.ireturn, 1) := by decide +kernel
theorem dX2_takeRuleLine_49 : decode cX2_takeRuleLine 49 = .ok (.iload_n 1, 1) := by decide +kernel
theorem dX2_takeRuleLine_50 : decode cX2_takeRuleLine 50 = .ok (.iconst 4, 1) := by decide +kernel
theorem dX2_takeRuleLine_51 : decode cX2_takeRuleLine 51 = .ok (.if_icmp .ne 13, 3) := by decide +kernel
theorem dX2_takeRuleLine_54 : decode cX2_takeRuleLine 54 = .ok (.aload_n 0, 1) := by decide +kernel
theorem dX2_takeRuleLine_55 : decode cX2_takeRuleLine 55 = .ok (.iconst 5, 1) := by decide +kernel
theorem dX2_takeRuleLine_56 : decode cX2_takeRuleLine 56 = .ok (.invokevirtual 113, 3) := by decide +kernel
theorem dX2_takeRuleLine_59 : decode cX2_takeRuleLine 59 = .ok (.ifCond .ne 5, 3) := by decide +kernel
theorem dX2_takeRuleLine_62 : decode cX2_takeRuleLine 62 = .ok (.iconst 0, 1) := by decide +kernel
theorem dX2_takeRuleLine_63 : decode cX2_takeRuleLine 63 = .ok (.ireturn, 1) := by decide +kernel
theorem dX2_takeRuleLine_64 : decode cX2_takeRuleLine 64 = .ok (.aload_n 0, 1) := by decide +kernel
theorem dX2_takeRuleLine_65 : decode cX2_takeRuleLine 65 = .ok (.invokevirtual 116, 3) := by decide +kernel
theorem dX2_takeRuleLine_68 : decode cX2_takeRuleLine 68 = .ok (.ireturn, 1) := by decide +kernel
theorem dX2_ruleNamed_0 : decode cX2_ruleNamed 0 = .ok (.aload_n 0, 1) := by decide +kernel
theorem dX2_ruleNamed_1 : decode cX2_ruleNamed 1 = .ok (.ldc 119, 2) := by decide +kernel
theorem dX2_ruleNamed_3 : decode cX2_ruleNamed 3 = .ok (.invokevirtual 52, 3) := by decide +kernel
theorem dX2_ruleNamed_6 : decode cX2_ruleNamed 6 = .ok (.ifCond .eq 5, 3) := by decide +kernel
theorem dX2_ruleNamed_9 : decode cX2_ruleNamed 9 = .ok (.iconst 0, 1) := by decide +kernel
theorem dX2_ruleNamed_10 : decode cX2_ruleNamed 10 = .ok (.ireturn, 1) := by decide +kernel
theorem dX2_ruleNamed_11 : decode cX2_ruleNamed 11 = .ok (.aload_n 0, 1) := by decide +kernel
theorem dX2_ruleNamed_12 : decode cX2_ruleNamed 12 = .ok (.ldc 121, 2) := by decide +kernel
theorem dX2_ruleNamed_14 : decode cX2_ruleNamed 14 = .ok (.invokevirtual 52, 3) := by decide +kernel
theorem dX2_ruleNamed_17 : decode cX2_ruleNamed 17 = .ok (.ifCond .eq 5, 3) := by decide +kernel
theorem dX2_ruleNamed_20 : decode cX2_ruleNamed 20 = .ok (.iconst 1, 1) := by decide +kernel
theorem dX2_ruleNamed_21 : decode cX2_ruleNamed 21 = .ok (.ireturn, 1) := by decide +kernel
theorem dX2_ruleNamed_22 : decode cX2_ruleNamed 22 = .ok (.aload_n 0, 1) := by decide +kernel
theorem dX2_ruleNamed_23 : decode cX2_ruleNamed 23 = .ok (.ldc 123, 2) := by decide +kernel
theorem dX2_ruleNamed_25 : decode cX2_ruleNamed 25 = .ok (.invokevirtual 52, 3) := by decide +kernel
theorem dX2_ruleNamed_28 : decode cX2_ruleNamed 28 = .ok (.ifCond .eq 5, 3) := by decide +kernel
theorem dX2_ruleNamed_31 : decode cX2_ruleNamed 31 = .ok (.iconst 2, 1) := by decide +kernel
theorem dX2_ruleNamed_32 : decode cX2_ruleNamed 32 = .ok (.ireturn, 1) := by decide +kernel
theorem dX2_ruleNamed_33 : decode cX2_ruleNamed 33 = .ok (.aload_n 0, 1) := by decide +kernel
theorem dX2_ruleNamed_34 : decode cX2_ruleNamed 34 = .ok (.ldc 125, 2) := by decide +kernel
theorem dX2_ruleNamed_36 : decode cX2_ruleNamed 36 = .ok (.invokevirtual 52, 3) := by decide +kernel
theorem dX2_ruleNamed_39 : decode cX2_ruleNamed 39 = .ok (.ifCond .eq 5, 3) := by decide +kernel
theorem dX2_ruleNamed_42 : decode cX2_ruleNamed 42 = .ok (.iconst 3, 1) := by decide +kernel
theorem dX2_ruleNamed_43 : decode cX2_ruleNamed 43 = .ok (.ireturn, 1) := by decide +kernel
theorem dX2_ruleNamed_44 : decode cX2_ruleNamed 44 = .ok (.aload_n 0, 1) := by decide +kernel
theorem dX2_ruleNamed_45 : decode cX2_ruleNamed 45 = .ok (.ldc 127, 2) := by decide +kernel
theorem dX2_ruleNamed_47 : decode cX2_ruleNamed 47 = .ok (.invokevirtual 52, 3) := by decide +kernel
theorem dX2_ruleNamed_50 : decode cX2_ruleNamed 50 = .ok (.ifCond .eq 5, 3) := by decide +kernel
theorem dX2_ruleNamed_53 : decode cX2_ruleNamed 53 = .ok (.iconst 4, 1) := by decide +kernel
theorem dX2_ruleNamed_54 : decode cX2_ruleNamed 54 = .ok (.ireturn, 1) := by decide +kernel
theorem dX2_ruleNamed_55 : decode cX2_ruleNamed 55 = .ok (.aload_n 0, 1) := by decide +kernel
theorem dX2_ruleNamed_56 : decode cX2_ruleNamed 56 = .ok (.ldc 129, 2) := by decide +kernel
theorem dX2_ruleNamed_58 : decode cX2_ruleNamed 58 = .ok (.invokevirtual 52, 3) := by decide +kernel
theorem dX2_ruleNamed_61 : decode cX2_ruleNamed 61 = .ok (.ifCond .eq 8, 3) := by decide +kernel
theorem dX2_ruleNamed_64 : decode cX2_ruleNamed 64 = .ok (.bipush 6, 2) := by decide +kernel
theorem dX2_ruleNamed_66 : decode cX2_ruleNamed 66 = .ok (.goto 5, 3) := by decide +kernel
theorem dX2_ruleNamed_69 : decode cX2_ruleNamed 69 = .ok (.bipush (-4), 2) := by decide +kernel
theorem dX2_ruleNamed_71 : decode cX2_ruleNamed 71 = .ok (.ireturn, 1) := by decide +kernel
theorem dX2_takeRule_0 : decode cX2_takeRule 0 = .ok (.aload_n 0, 1) := by decide +kernel
theorem dX2_takeRule_1 : decode cX2_takeRule 1 = .ok (.getstatic 131, 3) := by decide +kernel
theorem dX2_takeRule_4 : decode cX2_takeRule 4 = .ok (.iload_n 1, 1) := by decide +kernel
theorem dX2_takeRule_5 : decode cX2_takeRule 5 = .ok (.iaload, 1) := by decide +kernel
theorem dX2_takeRule_6 : decode cX2_takeRule 6 = .ok (.getstatic 135, 3) := by decide +kernel
theorem dX2_takeRule_9 : decode cX2_takeRule 9 = .ok (.iload_n 1, 1) := by decide +kernel
theorem dX2_takeRule_10 : decode cX2_takeRule 10 = .ok (.iaload, 1) := by decide +kernel
theorem dX2_takeRule_11 : decode cX2_takeRule 11 = .ok (.invokevirtual 138, 3) := by decide +kernel
theorem dX2_takeRule_14 : decode cX2_takeRule 14 = .ok (.ifCond .ne 5, 3) := by decide +kernel
theorem dX2_takeRule_17 : decode cX2_takeRule 17 = .ok (.iconst 0, 1) := by decide +kernel
theorem dX2_takeRule_18 : decode cX2_takeRule 18 = .ok (.ireturn, 1) := by decide +kernel
theorem dX2_takeRule_19 : decode cX2_takeRule 19 = .ok (.aload_n 0, 1) := by decide +kernel
theorem dX2_takeRule_20 : decode cX2_takeRule 20 = .ok (.getfield 18, 3) := by decide +kernel
theorem dX2_takeRule_23 : decode cX2_takeRule 23 = .ok (.getfield 142, 3) := by decide +kernel
theorem dX2_takeRule_26 : decode cX2_takeRule 26 = .ok (.iload_n 1, 1) := by decide +kernel
theorem dX2_takeRule_27 : decode cX2_takeRule 27 = .ok (.aload_n 0, 1) := by decide +kernel
theorem dX2_takeRule_28 : decode cX2_takeRule 28 = .ok (.getfield 103, 3) := by decide +kernel
theorem dX2_takeRule_31 : decode cX2_takeRule 31 = .ok (.iastore, 1) := by decide +kernel
theorem dX2_takeRule_32 : decode cX2_takeRule 32 = .ok (.iconst 1, 1) := by decide +kernel
theorem dX2_takeRule_33 : decode cX2_takeRule 33 = .ok (.ireturn, 1) := by decide +kernel
theorem dX2_takeHour_0 : decode cX2_takeHour 0 = .ok (.aload_n 0, 1) := by decide +kernel
theorem dX2_takeHour_1 : decode cX2_takeHour 1 = .ok (.iconst 0, 1) := by decide +kernel
theorem dX2_takeHour_2 : decode cX2_takeHour 2 = .ok (.bipush 23, 2) := by decide +kernel
theorem dX2_takeHour_4 : decode cX2_takeHour 4 = .ok (.invokevirtual 138, 3) := by decide +kernel
theorem dX2_takeHour_7 : decode cX2_takeHour 7 = .ok (.ifCond .ne 5, 3) := by decide +kernel
theorem dX2_takeHour_10 : decode cX2_takeHour 10 = .ok (.iconst 0, 1) := by decide +kernel
theorem dX2_takeHour_11 : decode cX2_takeHour 11 = .ok (.ireturn, 1) := by decide +kernel
theorem dX2_takeHour_12 : decode cX2_takeHour 12 = .ok (.aload_n 0, 1) := by decide +kernel
theorem dX2_takeHour_13 : decode cX2_takeHour 13 = .ok (.getfield 103, 3) := by decide +kernel
theorem dX2_takeHour_16 : decode cX2_takeHour 16 = .ok (.istore_n 1, 1) := by decide +kernel
theorem dX2_takeHour_17 : decode cX2_takeHour 17 = .ok (.aload_n 0, 1) := by decide +kernel
theorem dX2_takeHour_18 : decode cX2_takeHour 18 = .ok (.getfield 18, 3) := by decide +kernel
theorem dX2_takeHour_21 : decode cX2_takeHour 21 = .ok (.getfield 145, 3) := by decide +kernel
theorem dX2_takeHour_24 : decode cX2_takeHour 24 = .ok (.iload_n 1, 1) := by decide +kernel
theorem dX2_takeHour_25 : decode cX2_takeHour 25 = .ok (.iaload, 1) := by decide +kernel
theorem dX2_takeHour_26 : decode cX2_takeHour 26 = .ok (.ifCond .eq 9, 3) := by decide +kernel
theorem dX2_takeHour_29 : decode cX2_takeHour 29 = .ok (.aload_n 0, 1) := by decide +kernel
theorem dX2_takeHour_30 : decode cX2_takeHour 30 = .ok (.iconst 4, 1) := by decide +kernel
theorem dX2_takeHour_31 : decode cX2_takeHour 31 = .ok (.invokevirtual 70, 3) := by decide +kernel
theorem dX2_takeHour_34 : decode cX2_takeHour 34 = .ok (.ireturn, 1) := by decide +kernel
theorem dX2_takeHour_35 : decode cX2_takeHour 35 = .ok (.aload_n 0, 1) := by decide +kernel
theorem dX2_takeHour_36 : decode cX2_takeHour 36 = .ok (.getstatic 131, 3) := by decide +kernel
theorem dX2_takeHour_39 : decode cX2_takeHour 39 = .ok (.iconst 2, 1) := by decide +kernel
theorem dX2_takeHour_40 : decode cX2_takeHour 40 = .ok (.iaload, 1) := by decide +kernel
theorem dX2_takeHour_41 : decode cX2_takeHour 41 = .ok (.getstatic 135, 3) := by decide +kernel
theorem dX2_takeHour_44 : decode cX2_takeHour 44 = .ok (.iconst 2, 1) := by decide +kernel
theorem dX2_takeHour_45 : decode cX2_takeHour 45 = .ok (.iaload, 1) := by decide +kernel
theorem dX2_takeHour_46 : decode cX2_takeHour 46 = .ok (.invokevirtual 138, 3) := by decide +kernel
theorem dX2_takeHour_49 : decode cX2_takeHour 49 = .ok (.ifCond .ne 5, 3) := by decide +kernel
theorem dX2_takeHour_52 : decode cX2_takeHour 52 = .ok (.iconst 0, 1) := by decide +kernel
theorem dX2_takeHour_53 : decode cX2_takeHour 53 = .ok (.ireturn, 1) := by decide +kernel
theorem dX2_takeHour_54 : decode cX2_takeHour 54 = .ok (.aload_n 0, 1) := by decide +kernel
theorem dX2_takeHour_55 : decode cX2_takeHour 55 = .ok (.getfield 18, 3) := by decide +kernel
theorem dX2_takeHour_58 : decode cX2_takeHour 58 = .ok (.getfield 145, 3) := by decide +kernel
theorem dX2_takeHour_61 : decode cX2_takeHour 61 = .ok (.iload_n 1, 1) := by decide +kernel
theorem dX2_takeHour_62 : decode cX2_takeHour 62 = .ok (.aload_n 0, 1) := by decide +kernel
theorem dX2_takeHour_63 : decode cX2_takeHour 63 = .ok (.getfield 103, 3) := by decide +kernel
theorem dX2_takeHour_66 : decode cX2_takeHour 66 = .ok (.iastore, 1) := by decide +kernel
theorem dX2_takeHour_67 : decode cX2_takeHour 67 = .ok (.aload_n 0, 1) := by decide +kernel
theorem dX2_takeHour_68 : decode cX2_takeHour 68 = .ok (.invokevirtual 116, 3) := by decide +kernel
theorem dX2_takeHour_71 : decode cX2_takeHour 71 = .ok (.ireturn, 1) := by decide +kernel
theorem dX2_takeDiver_0 : decode cX2_takeDiver 0 = .ok (.aload_n 0, 1) := by decide +kernel
theorem dX2_takeDiver_1 : decode cX2_takeDiver 1 = .ok (.getfield 75, 3) := by decide +kernel
theorem dX2_takeDiver_4 : decode cX2_takeDiver 4 = .ok (.bipush 6, 2) := by decide +kernel
theorem dX2_takeDiver_6 : decode cX2_takeDiver 6 = .ok (.if_icmp .lt 9, 3) := by decide +kernel
theorem dX2_takeDiver_9 : decode cX2_takeDiver 9 = .ok (.aload_n 0, 1) := by decide +kernel
theorem dX2_takeDiver_10 : decode cX2_takeDiver 10 = .ok (.iconst 5, 1) := by decide +kernel
theorem dX2_takeDiver_11 : decode cX2_takeDiver 11 = .ok (.invokevirtual 70, 3) := by decide +kernel
theorem dX2_takeDiver_14 : decode cX2_takeDiver 14 = .ok (.ireturn, 1) := by decide +kernel
theorem dX2_takeDiver_15 : decode cX2_takeDiver 15 = .ok (.aload_n 0, 1) := by decide +kernel
theorem dX2_takeDiver_16 : decode cX2_takeDiver 16 = .ok (.getfield 24, 3) := by decide +kernel
theorem dX2_takeDiver_19 : decode cX2_takeDiver 19 = .ok (.aload_n 0, 1) := by decide +kernel
theorem dX2_takeDiver_20 : decode cX2_takeDiver 20 = .ok (.getfield 75, 3) := by decide +kernel
theorem dX2_takeDiver_23 : decode cX2_takeDiver 23 = .ok (.aaload, 1) := by decide +kernel
theorem dX2_takeDiver_24 : decode cX2_takeDiver 24 = .ok (.astore_n 1, 1) := by decide +kernel
theorem dX2_takeDiver_25 : decode cX2_takeDiver 25 = .ok (.aload_n 0, 1) := by decide +kernel
theorem dX2_takeDiver_26 : decode cX2_takeDiver 26 = .ok (.dup, 1) := by decide +kernel
theorem dX2_takeDiver_27 : decode cX2_takeDiver 27 = .ok (.getfield 75, 3) := by decide +kernel
theorem dX2_takeDiver_30 : decode cX2_takeDiver 30 = .ok (.iconst 1, 1) := by decide +kernel
theorem dX2_takeDiver_31 : decode cX2_takeDiver 31 = .ok (.iadd, 1) := by decide +kernel
theorem dX2_takeDiver_32 : decode cX2_takeDiver 32 = .ok (.putfield 75, 3) := by decide +kernel
theorem dX2_takeDiver_35 : decode cX2_takeDiver 35 = .ok (.aload_n 0, 1) := by decide +kernel
theorem dX2_takeDiver_36 : decode cX2_takeDiver 36 = .ok (.iconst 1, 1) := by decide +kernel
theorem dX2_takeDiver_37 : decode cX2_takeDiver 37 = .ok (.sipush 999, 3) := by decide +kernel
theorem dX2_takeDiver_40 : decode cX2_takeDiver 40 = .ok (.invokevirtual 138, 3) := by decide +kernel
theorem dX2_takeDiver_43 : decode cX2_takeDiver 43 = .ok (.ifCond .ne 5, 3) := by decide +kernel
theorem dX2_takeDiver_46 : decode cX2_takeDiver 46 = .ok (.iconst 0, 1) := by decide +kernel
theorem dX2_takeDiver_47 : decode cX2_takeDiver 47 = .ok (.ireturn, 1) := by decide +kernel
theorem dX2_takeDiver_48 : decode cX2_takeDiver 48 = .ok (.aload_n 0, 1) := by decide +kernel
theorem dX2_takeDiver_49 : decode cX2_takeDiver 49 = .ok (.getfield 103, 3) := by decide +kernel
theorem dX2_takeDiver_52 : decode cX2_takeDiver 52 = .ok (.istore_n 2, 1) := by decide +kernel
theorem dX2_takeDiver_53 : decode cX2_takeDiver 53 = .ok (.aload_n 0, 1) := by decide +kernel
theorem dX2_takeDiver_54 : decode cX2_takeDiver 54 = .ok (.iconst 0, 1) := by decide +kernel
theorem dX2_takeDiver_55 : decode cX2_takeDiver 55 = .ok (.sipush 9999, 3) := by decide +kernel
theorem dX2_takeDiver_58 : decode cX2_takeDiver 58 = .ok (.invokevirtual 138, 3) := by decide +kernel
theorem dX2_takeDiver_61 : decode cX2_takeDiver 61 = .ok (.ifCond .ne 5, 3) := by decide +kernel
theorem dX2_takeDiver_64 : decode cX2_takeDiver 64 = .ok (.iconst 0, 1) := by decide +kernel
theorem dX2_takeDiver_65 : decode cX2_takeDiver 65 = .ok (.ireturn, 1) := by decide +kernel
theorem dX2_takeDiver_66 : decode cX2_takeDiver 66 = .ok (.aload_n 1, 1) := by decide +kernel
theorem dX2_takeDiver_67 : decode cX2_takeDiver 67 = .ok (.iload_n 2, 1) := by decide +kernel
theorem dX2_takeDiver_68 : decode cX2_takeDiver 68 = .ok (.aload_n 0, 1) := by decide +kernel
theorem dX2_takeDiver_69 : decode cX2_takeDiver 69 = .ok (.getfield 103, 3) := by decide +kernel
theorem dX2_takeDiver_72 : decode cX2_takeDiver 72 = .ok (.invokevirtual 148, 3) := by decide +kernel
theorem dX2_takeDiver_75 : decode cX2_takeDiver 75 = .ok (.aload_n 0, 1) := by decide +kernel
theorem dX2_takeDiver_76 : decode cX2_takeDiver 76 = .ok (.aload_n 1, 1) := by decide +kernel
theorem dX2_takeDiver_77 : decode cX2_takeDiver 77 = .ok (.invokevirtual 151, 3) := by decide +kernel
theorem dX2_takeDiver_80 : decode cX2_takeDiver 80 = .ok (.ireturn, 1) := by decide +kernel
theorem dX2_takeWiths_0 : decode cX2_takeWiths 0 = .ok (.iconst 0, 1) := by decide +kernel
theorem dX2_takeWiths_1 : decode cX2_takeWiths 1 = .ok (.istore_n 2, 1) := by decide +kernel
theorem dX2_takeWiths_2 : decode cX2_takeWiths 2 = .ok (.iconst 0, 1) := by decide +kernel
theorem dX2_takeWiths_3 : decode cX2_takeWiths 3 = .ok (.istore_n 3, 1) := by decide +kernel
theorem dX2_takeWiths_4 : decode cX2_takeWiths 4 = .ok (.iconst 0, 1) := by decide +kernel
theorem dX2_takeWiths_5 : decode cX2_takeWiths 5 = .ok (.istore 4, 2) := by decide +kernel
theorem dX2_takeWiths_7 : decode cX2_takeWiths 7 = .ok (.iload 4, 2) := by decide +kernel
theorem dX2_takeWiths_9 : decode cX2_takeWiths 9 = .ok (.iconst 3, 1) := by decide +kernel
theorem dX2_takeWiths_10 : decode cX2_takeWiths 10 = .ok (.if_icmp .gt 152, 3) := by decide +kernel
theorem dX2_takeWiths_13 : decode cX2_takeWiths 13 = .ok (.aload_n 0, 1) := by decide +kernel
theorem dX2_takeWiths_14 : decode cX2_takeWiths 14 = .ok (.invokevirtual 40, 3) := by decide +kernel
theorem dX2_takeWiths_17 : decode cX2_takeWiths 17 = .ok (.ifCond .ne 5, 3) := by decide +kernel
theorem dX2_takeWiths_20 : decode cX2_takeWiths 20 = .ok (.iconst 0, 1) := by decide +kernel
theorem dX2_takeWiths_21 : decode cX2_takeWiths 21 = .ok (.ireturn, 1) := by decide +kernel
theorem dX2_takeWiths_22 : decode cX2_takeWiths 22 = .ok (.aload_n 0, 1) := by decide +kernel
theorem dX2_takeWiths_23 : decode cX2_takeWiths 23 = .ok (.getfield 44, 3) := by decide +kernel
theorem dX2_takeWiths_26 : decode cX2_takeWiths 26 = .ok (.iconst 3, 1) := by decide +kernel
theorem dX2_takeWiths_27 : decode cX2_takeWiths 27 = .ok (.if_icmp .ne 5, 3) := by decide +kernel
theorem dX2_takeWiths_30 : decode cX2_takeWiths 30 = .ok (.iconst 1, 1) := by decide +kernel
theorem dX2_takeWiths_31 : decode cX2_takeWiths 31 = .ok (.ireturn, 1) := by decide +kernel
theorem dX2_takeWiths_32 : decode cX2_takeWiths 32 = .ok (.aload_n 0, 1) := by decide +kernel
theorem dX2_takeWiths_33 : decode cX2_takeWiths 33 = .ok (.ldc 155, 2) := by decide +kernel
theorem dX2_takeWiths_35 : decode cX2_takeWiths 35 = .ok (.invokevirtual 52, 3) := by decide +kernel
theorem dX2_takeWiths_38 : decode cX2_takeWiths 38 = .ok (.ifCond .eq 38, 3) := by decide +kernel
theorem dX2_takeWiths_41 : decode cX2_takeWiths 41 = .ok (.iload_n 2, 1) := by decide +kernel
theorem dX2_takeWiths_42 : decode cX2_takeWiths 42 = .ok (.ifCond .eq 9, 3) := by decide +kernel
theorem dX2_takeWiths_45 : decode cX2_takeWiths 45 = .ok (.aload_n 0, 1) := by decide +kernel
theorem dX2_takeWiths_46 : decode cX2_takeWiths 46 = .ok (.iconst 4, 1) := by decide +kernel
theorem dX2_takeWiths_47 : decode cX2_takeWiths 47 = .ok (.invokevirtual 70, 3) := by decide +kernel
theorem dX2_takeWiths_50 : decode cX2_takeWiths 50 = .ok (.ireturn, 1) := by decide +kernel
theorem dX2_takeWiths_51 : decode cX2_takeWiths 51 = .ok (.iconst 1, 1) := by decide +kernel
theorem dX2_takeWiths_52 : decode cX2_takeWiths 52 = .ok (.istore_n 2, 1) := by decide +kernel
theorem dX2_takeWiths_53 : decode cX2_takeWiths 53 = .ok (.aload_n 0, 1) := by decide +kernel
theorem dX2_takeWiths_54 : decode cX2_takeWiths 54 = .ok (.iconst 0, 1) := by decide +kernel
theorem dX2_takeWiths_55 : decode cX2_takeWiths 55 = .ok (.bipush 99, 2) := by decide +kernel
theorem dX2_takeWiths_57 : decode cX2_takeWiths 57 = .ok (.invokevirtual 138, 3) := by decide +kernel
theorem dX2_takeWiths_60 : decode cX2_takeWiths 60 = .ok (.ifCond .ne 5, 3) := by decide +kernel
theorem dX2_takeWiths_63 : decode cX2_takeWiths 63 = .ok (.iconst 0, 1) := by decide +kernel
theorem dX2_takeWiths_64 : decode cX2_takeWiths 64 = .ok (.ireturn, 1) := by decide +kernel
theorem dX2_takeWiths_65 : decode cX2_takeWiths 65 = .ok (.aload_n 1, 1) := by decide +kernel
theorem dX2_takeWiths_66 : decode cX2_takeWiths 66 = .ok (.aload_n 0, 1) := by decide +kernel
theorem dX2_takeWiths_67 : decode cX2_takeWiths 67 = .ok (.getfield 103, 3) := by decide +kernel
theorem dX2_takeWiths_70 : decode cX2_takeWiths 70 = .ok (.putfield 157, 3) := by decide +kernel
theorem dX2_takeWiths_73 : decode cX2_takeWiths 73 = .ok (.goto 83, 3) := by decide +kernel
theorem dX2_takeWiths_76 : decode cX2_takeWiths 76 = .ok (.aload_n 0, 1) := by decide +kernel
theorem dX2_takeWiths_77 : decode cX2_takeWiths 77 = .ok (.ldc 159, 2) := by decide +kernel
theorem dX2_takeWiths_79 : decode cX2_takeWiths 79 = .ok (.invokevirtual 52, 3) := by decide +kernel
theorem dX2_takeWiths_82 : decode cX2_takeWiths 82 = .ok (.ifCond .eq 38, 3) := by decide +kernel
theorem dX2_takeWiths_85 : decode cX2_takeWiths 85 = .ok (.iload_n 3, 1) := by decide +kernel
theorem dX2_takeWiths_86 : decode cX2_takeWiths 86 = .ok (.ifCond .eq 9, 3) := by decide +kernel
theorem dX2_takeWiths_89 : decode cX2_takeWiths 89 = .ok (.aload_n 0, 1) := by decide +kernel
theorem dX2_takeWiths_90 : decode cX2_takeWiths 90 = .ok (.iconst 4, 1) := by decide +kernel
theorem dX2_takeWiths_91 : decode cX2_takeWiths 91 = .ok (.invokevirtual 70, 3) := by decide +kernel
theorem dX2_takeWiths_94 : decode cX2_takeWiths 94 = .ok (.ireturn, 1) := by decide +kernel
theorem dX2_takeWiths_95 : decode cX2_takeWiths 95 = .ok (.iconst 1, 1) := by decide +kernel
theorem dX2_takeWiths_96 : decode cX2_takeWiths 96 = .ok (.istore_n 3, 1) := by decide +kernel
theorem dX2_takeWiths_97 : decode cX2_takeWiths 97 = .ok (.aload_n 0, 1) := by decide +kernel
theorem dX2_takeWiths_98 : decode cX2_takeWiths 98 = .ok (.iconst 0, 1) := by decide +kernel
theorem dX2_takeWiths_99 : decode cX2_takeWiths 99 = .ok (.bipush 99, 2) := by decide +kernel
theorem dX2_takeWiths_101 : decode cX2_takeWiths 101 = .ok (.invokevirtual 138, 3) := by decide +kernel
theorem dX2_takeWiths_104 : decode cX2_takeWiths 104 = .ok (.ifCond .ne 5, 3) := by decide +kernel
theorem dX2_takeWiths_107 : decode cX2_takeWiths 107 = .ok (.iconst 0, 1) := by decide +kernel
theorem dX2_takeWiths_108 : decode cX2_takeWiths 108 = .ok (.ireturn, 1) := by decide +kernel
theorem dX2_takeWiths_109 : decode cX2_takeWiths 109 = .ok (.aload_n 1, 1) := by decide +kernel
theorem dX2_takeWiths_110 : decode cX2_takeWiths 110 = .ok (.aload_n 0, 1) := by decide +kernel
theorem dX2_takeWiths_111 : decode cX2_takeWiths 111 = .ok (.getfield 103, 3) := by decide +kernel
theorem dX2_takeWiths_114 : decode cX2_takeWiths 114 = .ok (.putfield 161, 3) := by decide +kernel
theorem dX2_takeWiths_117 : decode cX2_takeWiths 117 = .ok (.goto 39, 3) := by decide +kernel
theorem dX2_takeWiths_120 : decode cX2_takeWiths 120 = .ok (.aload_n 0, 1) := by decide +kernel
theorem dX2_takeWiths_121 : decode cX2_takeWiths 121 = .ok (.ldc 163, 2) := by decide +kernel
theorem dX2_takeWiths_123 : decode cX2_takeWiths 123 = .ok (.invokevirtual 52, 3) := by decide +kernel
theorem dX2_takeWiths_126 : decode cX2_takeWiths 126 = .ok (.ifCond .eq 24, 3) := by decide +kernel
theorem dX2_takeWiths_129 : decode cX2_takeWiths 129 = .ok (.aload_n 1, 1) := by decide +kernel
theorem dX2_takeWiths_130 : decode cX2_takeWiths 130 = .ok (.getfield 165, 3) := by decide +kernel
theorem dX2_takeWiths_133 : decode cX2_takeWiths 133 = .ok (.ifCond .eq 9, 3) := by decide +kernel
theorem dX2_takeWiths_136 : decode cX2_takeWiths 136 = .ok (.aload_n 0, 1) := by decide +kernel
theorem dX2_takeWiths_137 : decode cX2_takeWiths 137 = .ok (.iconst 4, 1) := by decide +kernel
theorem dX2_takeWiths_138 : decode cX2_takeWiths 138 = .ok (.invokevirtual 70, 3) := by decide +kernel
theorem dX2_takeWiths_141 : decode cX2_takeWiths 141 = .ok (.ireturn, 1) := by decide +kernel
theorem dX2_takeWiths_142 : decode cX2_takeWiths 142 = .ok (.aload_n 1, 1) := by decide +kernel
theorem dX2_takeWiths_143 : decode cX2_takeWiths 143 = .ok (.iconst 1, 1) := by decide +kernel
theorem dX2_takeWiths_144 : decode cX2_takeWiths 144 = .ok (.putfield 165, 3) := by decide +kernel
theorem dX2_takeWiths_147 : decode cX2_takeWiths 147 = .ok (.goto 9, 3) := by decide +kernel
theorem dX2_takeWiths_150 : decode cX2_takeWiths 150 = .ok (.aload_n 0, 1) := by decide +kernel
theorem dX2_takeWiths_151 : decode cX2_takeWiths 151 = .ok (.iconst 2, 1) := by decide +kernel
theorem dX2_takeWiths_152 : decode cX2_takeWiths 152 = .ok (.invokevirtual 70, 3) := by decide +kernel
theorem dX2_takeWiths_155 : decode cX2_takeWiths 155 = .ok (.ireturn, 1) := by decide +kernel
theorem dX2_takeWiths_156 : decode cX2_takeWiths 156 = .ok (.iinc 4 1, 3) := by decide +kernel
theorem dX2_takeWiths_159 : decode cX2_takeWiths 159 = .ok (.goto (-152), 3) := by decide +kernel
theorem dX2_takeWiths_162 : decode cX2_takeWiths 162 = .ok (.aload_n 0, 1) := by decide +kernel
theorem dX2_takeWiths_163 : decode cX2_takeWiths 163 = .ok (.iconst 2, 1) := by decide +kernel
theorem dX2_takeWiths_164 : decode cX2_takeWiths 164 = .ok (.invokevirtual 70, 3) := by decide +kernel
theorem dX2_takeWiths_167 : decode cX2_takeWiths 167 = .ok (.ireturn, 1) := by decide +kernel
theorem dX3_init_0 : decode cX3_init 0 = .ok (.aload_n 0, 1) := by decide +kernel
theorem dX3_init_1 : decode cX3_init 1 = .ok (.invokespecial 3, 3) := by decide +kernel
theorem dX3_init_4 : decode cX3_init 4 = .ok (.aload_n 0, 1) := by decide +kernel
theorem dX3_init_5 : decode cX3_init 5 = .ok (.bipush 6, 2) := by decide +kernel
theorem dX3_init_7 : decode cX3_init 7 = .ok (.anewarray 9, 3) := by decide +kernel
theorem dX3_init_10 : decode cX3_init 10 = .ok (.putfield 11, 3) := by decide +kernel
theorem dX3_init_13 : decode cX3_init 13 = .ok (.aload_n 0, 1) := by decide +kernel
theorem dX3_init_14 : decode cX3_init 14 = .ok (.new 17, 3) := by decide +kernel
theorem dX3_init_17 : decode cX3_init 17 = .ok (.dup, 1) := by decide +kernel
theorem dX3_init_18 : decode cX3_init 18 = .ok (.invokespecial 19, 3) := by decide +kernel
theorem dX3_init_21 : decode cX3_init 21 = .ok (.putfield 20, 3) := by decide +kernel
theorem dX3_init_24 : decode cX3_init 24 = .ok (.iconst 0, 1) := by decide +kernel
theorem dX3_init_25 : decode cX3_init 25 = .ok (.istore_n 1, 1) := by decide +kernel
theorem dX3_init_26 : decode cX3_init 26 = .ok (.iload_n 1, 1) := by decide +kernel
theorem dX3_init_27 : decode cX3_init 27 = .ok (.bipush 6, 2) := by decide +kernel
theorem dX3_init_29 : decode cX3_init 29 = .ok (.if_icmp .ge 22, 3) := by decide +kernel
theorem dX3_init_32 : decode cX3_init 32 = .ok (.aload_n 0, 1) := by decide +kernel
theorem dX3_init_33 : decode cX3_init 33 = .ok (.getfield 11, 3) := by decide +kernel
theorem dX3_init_36 : decode cX3_init 36 = .ok (.iload_n 1, 1) := by decide +kernel
theorem dX3_init_37 : decode cX3_init 37 = .ok (.new 9, 3) := by decide +kernel
theorem dX3_init_40 : decode cX3_init 40 = .ok (.dup, 1) := by decide +kernel
theorem dX3_init_41 : decode cX3_init 41 = .ok (.invokespecial 24, 3) := by decide +kernel
theorem dX3_init_44 : decode cX3_init 44 = .ok (.aastore, 1) := by decide +kernel
theorem dX3_init_45 : decode cX3_init 45 = .ok (.iinc 1 1, 3) := by decide +kernel
theorem dX3_init_48 : decode cX3_init 48 = .ok (.goto (-22), 3) := by decide +kernel
theorem dX3_init_51 : decode cX3_init 51 = .ok (.return_, 1) := by decide +kernel
theorem dX3_begin_0 : decode cX3_begin 0 = .ok (.aload_n 0, 1) := by decide +kernel
theorem dX3_begin_1 : decode cX3_begin 1 = .ok (.aload_n 2, 1) := by decide +kernel
theorem dX3_begin_2 : decode cX3_begin 2 = .ok (.iload_n 3, 1) := by decide +kernel
theorem dX3_begin_3 : decode cX3_begin 3 = .ok (.invokevirtual 25, 3) := by decide +kernel
theorem dX3_begin_6 : decode cX3_begin 6 = .ok (.aload_n 0, 1) := by decide +kernel
theorem dX3_begin_7 : decode cX3_begin 7 = .ok (.getfield 20, 3) := by decide +kernel
theorem dX3_begin_10 : decode cX3_begin 10 = .ok (.iconst 0, 1) := by decide +kernel
theorem dX3_begin_11 : decode cX3_begin 11 = .ok (.putfield 29, 3) := by decide +kernel
theorem dX3_begin_14 : decode cX3_begin 14 = .ok (.aload_n 0, 1) := by decide +kernel
theorem dX3_begin_15 : decode cX3_begin 15 = .ok (.iconst 0, 1) := by decide +kernel
theorem dX3_begin_16 : decode cX3_begin 16 = .ok (.putfield 33, 3) := by decide +kernel
theorem dX3_begin_19 : decode cX3_begin 19 = .ok (.aload_n 0, 1) := by decide +kernel
theorem dX3_begin_20 : decode cX3_begin 20 = .ok (.aload_n 1, 1) := by decide +kernel
theorem dX3_begin_21 : decode cX3_begin 21 = .ok (.getfield 36, 3) := by decide +kernel
theorem dX3_begin_24 : decode cX3_begin 24 = .ok (.iconst 2, 1) := by decide +kernel
theorem dX3_begin_25 : decode cX3_begin 25 = .ok (.iaload, 1) := by decide +kernel
theorem dX3_begin_26 : decode cX3_begin 26 = .ok (.putfield 42, 3) := by decide +kernel
theorem dX3_begin_29 : decode cX3_begin 29 = .ok (.aload_n 0, 1) := by decide +kernel
theorem dX3_begin_30 : decode cX3_begin 30 = .ok (.iconst 0, 1) := by decide +kernel
theorem dX3_begin_31 : decode cX3_begin 31 = .ok (.putfield 45, 3) := by decide +kernel
theorem dX3_begin_34 : decode cX3_begin 34 = .ok (.aload_n 0, 1) := by decide +kernel
theorem dX3_begin_35 : decode cX3_begin 35 = .ok (.iconst 0, 1) := by decide +kernel
theorem dX3_begin_36 : decode cX3_begin 36 = .ok (.putfield 48, 3) := by decide +kernel
theorem dX3_begin_39 : decode cX3_begin 39 = .ok (.aload_n 0, 1) := by decide +kernel
theorem dX3_begin_40 : decode cX3_begin 40 = .ok (.aload_n 1, 1) := by decide +kernel
theorem dX3_begin_41 : decode cX3_begin 41 = .ok (.getfield 36, 3) := by decide +kernel
theorem dX3_begin_44 : decode cX3_begin 44 = .ok (.bipush 6, 2) := by decide +kernel
theorem dX3_begin_46 : decode cX3_begin 46 = .ok (.iaload, 1) := by decide +kernel
theorem dX3_begin_47 : decode cX3_begin 47 = .ok (.ifCond .le 7, 3) := by decide +kernel
theorem dX3_begin_50 : decode cX3_begin 50 = .ok (.iconst 1, 1) := by decide +kernel
theorem dX3_begin_51 : decode cX3_begin 51 = .ok (.goto 4, 3) := by decide +kernel
theorem dX3_begin_54 : decode cX3_begin 54 = .ok (.iconst 0, 1) := by decide +kernel
theorem dX3_begin_55 : decode cX3_begin 55 = .ok (.putfield 51, 3) := by decide +kernel
theorem dX3_begin_58 : decode cX3_begin 58 = .ok (.return_, 1) := by decide +kernel
theorem dX3_copyFrom_0 : decode cX3_copyFrom 0 = .ok (.aload_n 0, 1) := by decide +kernel
theorem dX3_copyFrom_1 : decode cX3_copyFrom 1 = .ok (.aload_n 1, 1) := by decide +kernel
theorem dX3_copyFrom_2 : decode cX3_copyFrom 2 = .ok (.getfield 11, 3) := by decide +kernel
theorem dX3_copyFrom_5 : decode cX3_copyFrom 5 = .ok (.aload_n 1, 1) := by decide +kernel
theorem dX3_copyFrom_6 : decode cX3_copyFrom 6 = .ok (.getfield 55, 3) := by decide +kernel
theorem dX3_copyFrom_9 : decode cX3_copyFrom 9 = .ok (.invokevirtual 25, 3) := by decide +kernel
theorem dX3_copyFrom_12 : decode cX3_copyFrom 12 = .ok (.aload_n 0, 1) := by decide +kernel
theorem dX3_copyFrom_13 : decode cX3_copyFrom 13 = .ok (.getfield 20, 3) := by decide +kernel
theorem dX3_copyFrom_16 : decode cX3_copyFrom 16 = .ok (.aload_n 1, 1) := by decide +kernel
theorem dX3_copyFrom_17 : decode cX3_copyFrom 17 = .ok (.getfield 20, 3) := by decide +kernel
theorem dX3_copyFrom_20 : decode cX3_copyFrom 20 = .ok (.invokevirtual 58, 3) := by decide +kernel
theorem dX3_copyFrom_23 : decode cX3_copyFrom 23 = .ok (.aload_n 0, 1) := by decide +kernel
theorem dX3_copyFrom_24 : decode cX3_copyFrom 24 = .ok (.aload_n 1, 1) := by decide +kernel
theorem dX3_copyFrom_25 : decode cX3_copyFrom 25 = .ok (.getfield 33, 3) := by decide +kernel
theorem dX3_copyFrom_28 : decode cX3_copyFrom 28 = .ok (.putfield 33, 3) := by decide +kernel
theorem dX3_copyFrom_31 : decode cX3_copyFrom 31 = .ok (.aload_n 0, 1) := by decide +kernel
theorem dX3_copyFrom_32 : decode cX3_copyFrom 32 = .ok (.aload_n 1, 1) := by decide +kernel
theorem dX3_copyFrom_33 : decode cX3_copyFrom 33 = .ok (.getfield 42, 3) := by decide +kernel
theorem dX3_copyFrom_36 : decode cX3_copyFrom 36 = .ok (.putfield 42, 3) := by decide +kernel
theorem dX3_copyFrom_39 : decode cX3_copyFrom 39 = .ok (.aload_n 0, 1) := by decide +kernel
theorem dX3_copyFrom_40 : decode cX3_copyFrom 40 = .ok (.aload_n 1, 1) := by decide +kernel
theorem dX3_copyFrom_41 : decode cX3_copyFrom 41 = .ok (.getfield 45, 3) := by decide +kernel
theorem dX3_copyFrom_44 : decode cX3_copyFrom 44 = .ok (.putfield 45, 3) := by decide +kernel
theorem dX3_copyFrom_47 : decode cX3_copyFrom 47 = .ok (.aload_n 0, 1) := by decide +kernel
theorem dX3_copyFrom_48 : decode cX3_copyFrom 48 = .ok (.aload_n 1, 1) := by decide +kernel
theorem dX3_copyFrom_49 : decode cX3_copyFrom 49 = .ok (.getfield 48, 3) := by decide +kernel
theorem dX3_copyFrom_52 : decode cX3_copyFrom 52 = .ok (.putfield 48, 3) := by decide +kernel
theorem dX3_copyFrom_55 : decode cX3_copyFrom 55 = .ok (.aload_n 0, 1) := by decide +kernel
theorem dX3_copyFrom_56 : decode cX3_copyFrom 56 = .ok (.aload_n 1, 1) := by decide +kernel
theorem dX3_copyFrom_57 : decode cX3_copyFrom 57 = .ok (.getfield 51, 3) := by decide +kernel
theorem dX3_copyFrom_60 : decode cX3_copyFrom 60 = .ok (.putfield 51, 3) := by decide +kernel
theorem dX3_copyFrom_63 : decode cX3_copyFrom 63 = .ok (.return_, 1) := by decide +kernel
theorem dX3_copyDivers_0 : decode cX3_copyDivers 0 = .ok (.aload_n 0, 1) := by decide +kernel
theorem dX3_copyDivers_1 : decode cX3_copyDivers 1 = .ok (.iload_n 2, 1) := by decide +kernel
theorem dX3_copyDivers_2 : decode cX3_copyDivers 2 = .ok (.bipush 6, 2) := by decide +kernel
theorem dX3_copyDivers_4 : decode cX3_copyDivers 4 = .ok (.invokestatic 62, 3) := by decide +kernel
theorem dX3_copyDivers_7 : decode cX3_copyDivers 7 = .ok (.putfield 55, 3) := by decide +kernel
theorem dX3_copyDivers_10 : decode cX3_copyDivers 10 = .ok (.iconst 0, 1) := by decide +kernel
theorem dX3_copyDivers_11 : decode cX3_copyDivers 11 = .ok (.istore_n 3, 1) := by decide +kernel
theorem dX3_copyDivers_12 : decode cX3_copyDivers 12 = .ok (.iload_n 3, 1) := by decide +kernel
theorem dX3_copyDivers_13 : decode cX3_copyDivers 13 = .ok (.aload_n 0, 1) := by decide +kernel
theorem dX3_copyDivers_14 : decode cX3_copyDivers 14 = .ok (.getfield 55, 3) := by decide +kernel
theorem dX3_copyDivers_17 : decode cX3_copyDivers 17 = .ok (.if_icmp .ge 21, 3) := by decide +kernel
theorem dX3_copyDivers_20 : decode cX3_copyDivers 20 = .ok (.aload_n 0, 1) := by decide +kernel
theorem dX3_copyDivers_21 : decode cX3_copyDivers 21 = .ok (.getfield 11, 3) := by decide +kernel
theorem dX3_copyDivers_24 : decode cX3_copyDivers 24 = .ok (.iload_n 3, 1) := by decide +kernel
theorem dX3_copyDivers_25 : decode cX3_copyDivers 25 = .ok (.aaload, 1) := by decide +kernel
theorem dX3_copyDivers_26 : decode cX3_copyDivers 26 = .ok (.aload_n 1, 1) := by decide +kernel
theorem dX3_copyDivers_27 : decode cX3_copyDivers 27 = .ok (.iload_n 3, 1) := by decide +kernel
theorem dX3_copyDivers_28 : decode cX3_copyDivers 28 = .ok (.aaload, 1) := by decide +kernel
theorem dX3_copyDivers_29 : decode cX3_copyDivers 29 = .ok (.invokevirtual 68, 3) := by decide +kernel
theorem dX3_copyDivers_32 : decode cX3_copyDivers 32 = .ok (.iinc 3 1, 3) := by decide +kernel
theorem dX3_copyDivers_35 : decode cX3_copyDivers 35 = .ok (.goto (-23), 3) := by decide +kernel
theorem dX3_copyDivers_38 : decode cX3_copyDivers 38 = .ok (.return_, 1) := by decide +kernel
theorem dX4_init_0 : decode cX4_init 0 = .ok (.aload_n 0, 1) := by decide +kernel
theorem dX4_init_1 : decode cX4_init 1 = .ok (.invokespecial 3, 3) := by decide +kernel
theorem dX4_init_4 : decode cX4_init 4 = .ok (.aload_n 0, 1) := by decide +kernel
theorem dX4_init_5 : decode cX4_init 5 = .ok (.bipush 12, 2) := by decide +kernel
theorem dX4_init_7 : decode cX4_init 7 = .ok (.newarray .int, 2) := by decide +kernel
theorem dX4_init_9 : decode cX4_init 9 = .ok (.putfield 9, 3) := by decide +kernel
theorem dX4_init_12 : decode cX4_init 12 = .ok (.aload_n 0, 1) := by decide +kernel
theorem dX4_init_13 : decode cX4_init 13 = .ok (.bipush 12, 2) := by decide +kernel
theorem dX4_init_15 : decode cX4_init 15 = .ok (.newarray .int, 2) := by decide +kernel
theorem dX4_init_17 : decode cX4_init 17 = .ok (.putfield 15, 3) := by decide +kernel
theorem dX4_init_20 : decode cX4_init 20 = .ok (.aload_n 0, 1) := by decide +kernel
theorem dX4_init_21 : decode cX4_init 21 = .ok (.bipush 12, 2) := by decide +kernel
theorem dX4_init_23 : decode cX4_init 23 = .ok (.newarray .boolean, 2) := by decide +kernel
theorem dX4_init_25 : decode cX4_init 25 = .ok (.putfield 18, 3) := by decide +kernel
theorem dX4_init_28 : decode cX4_init 28 = .ok (.return_, 1) := by decide +kernel
theorem dX4_add_0 : decode cX4_add 0 = .ok (.aload_n 0, 1) := by decide +kernel
theorem dX4_add_1 : decode cX4_add 1 = .ok (.getfield 22, 3) := by decide +kernel
theorem dX4_add_4 : decode cX4_add 4 = .ok (.bipush 12, 2) := by decide +kernel
theorem dX4_add_6 : decode cX4_add 6 = .ok (.if_icmp .lt 5, 3) := by decide +kernel
theorem dX4_add_9 : decode cX4_add 9 = .ok (.iconst 0, 1) := by decide +kernel
theorem dX4_add_10 : decode cX4_add 10 = .ok (.ireturn, 1) := by decide +kernel
theorem dX4_add_11 : decode cX4_add 11 = .ok (.aload_n 0, 1) := by decide +kernel
theorem dX4_add_12 : decode cX4_add 12 = .ok (.getfield 9, 3) := by decide +kernel
theorem dX4_add_15 : decode cX4_add 15 = .ok (.aload_n 0, 1) := by decide +kernel
theorem dX4_add_16 : decode cX4_add 16 = .ok (.getfield 22, 3) := by decide +kernel
theorem dX4_add_19 : decode cX4_add 19 = .ok (.iload_n 1, 1) := by decide +kernel
theorem dX4_add_20 : decode cX4_add 20 = .ok (.iastore, 1) := by decide +kernel
theorem dX4_add_21 : decode cX4_add 21 = .ok (.aload_n 0, 1) := by decide +kernel
theorem dX4_add_22 : decode cX4_add 22 = .ok (.getfield 15, 3) := by decide +kernel
theorem dX4_add_25 : decode cX4_add 25 = .ok (.aload_n 0, 1) := by decide +kernel
theorem dX4_add_26 : decode cX4_add 26 = .ok (.getfield 22, 3) := by decide +kernel
theorem dX4_add_29 : decode cX4_add 29 = .ok (.iload_n 2, 1) := by decide +kernel
theorem dX4_add_30 : decode cX4_add 30 = .ok (.iastore, 1) := by decide +kernel
theorem dX4_add_31 : decode cX4_add 31 = .ok (.aload_n 0, 1) := by decide +kernel
theorem dX4_add_32 : decode cX4_add 32 = .ok (.getfield 18, 3) := by decide +kernel
theorem dX4_add_35 : decode cX4_add 35 = .ok (.aload_n 0, 1) := by decide +kernel
theorem dX4_add_36 : decode cX4_add 36 = .ok (.getfield 22, 3) := by decide +kernel
theorem dX4_add_39 : decode cX4_add 39 = .ok (.iload_n 3, 1) := by decide +kernel
theorem dX4_add_40 : decode cX4_add 40 = .ok (.bastore, 1) := by decide +kernel
theorem dX4_add_41 : decode cX4_add 41 = .ok (.aload_n 0, 1) := by decide +kernel
theorem dX4_add_42 : decode cX4_add 42 = .ok (.dup, 1) := by decide +kernel
theorem dX4_add_43 : decode cX4_add 43 = .ok (.getfield 22, 3) := by decide +kernel
theorem dX4_add_46 : decode cX4_add 46 = .ok (.iconst 1, 1) := by decide +kernel
theorem dX4_add_47 : decode cX4_add 47 = .ok (.iadd, 1) := by decide +kernel
theorem dX4_add_48 : decode cX4_add 48 = .ok (.putfield 22, 3) := by decide +kernel
theorem dX4_add_51 : decode cX4_add 51 = .ok (.iconst 1, 1) := by decide +kernel
theorem dX4_add_52 : decode cX4_add 52 = .ok (.ireturn, 1) := by decide +kernel
theorem dX4_copyFrom_0 : decode cX4_copyFrom 0 = .ok (.aload_n 0, 1) := by decide +kernel
theorem dX4_copyFrom_1 : decode cX4_copyFrom 1 = .ok (.iconst 0, 1) := by decide +kernel
theorem dX4_copyFrom_2 : decode cX4_copyFrom 2 = .ok (.putfield 22, 3) := by decide +kernel
theorem dX4_copyFrom_5 : decode cX4_copyFrom 5 = .ok (.iconst 0, 1) := by decide +kernel
theorem dX4_copyFrom_6 : decode cX4_copyFrom 6 = .ok (.istore_n 2, 1) := by decide +kernel
theorem dX4_copyFrom_7 : decode cX4_copyFrom 7 = .ok (.iload_n 2, 1) := by decide +kernel
theorem dX4_copyFrom_8 : decode cX4_copyFrom 8 = .ok (.aload_n 1, 1) := by decide +kernel
theorem dX4_copyFrom_9 : decode cX4_copyFrom 9 = .ok (.getfield 22, 3) := by decide +kernel
theorem dX4_copyFrom_12 : decode cX4_copyFrom 12 = .ok (.if_icmp .ge 32, 3) := by decide +kernel
theorem dX4_copyFrom_15 : decode cX4_copyFrom 15 = .ok (.aload_n 0, 1) := by decide +kernel
theorem dX4_copyFrom_16 : decode cX4_copyFrom 16 = .ok (.aload_n 1, 1) := by decide +kernel
theorem dX4_copyFrom_17 : decode cX4_copyFrom 17 = .ok (.getfield 9, 3) := by decide +kernel
theorem dX4_copyFrom_20 : decode cX4_copyFrom 20 = .ok (.iload_n 2, 1) := by decide +kernel
theorem dX4_copyFrom_21 : decode cX4_copyFrom 21 = .ok (.iaload, 1) := by decide +kernel
theorem dX4_copyFrom_22 : decode cX4_copyFrom 22 = .ok (.aload_n 1, 1) := by decide +kernel
theorem dX4_copyFrom_23 : decode cX4_copyFrom 23 = .ok (.getfield 15, 3) := by decide +kernel
theorem dX4_copyFrom_26 : decode cX4_copyFrom 26 = .ok (.iload_n 2, 1) := by decide +kernel
theorem dX4_copyFrom_27 : decode cX4_copyFrom 27 = .ok (.iaload, 1) := by decide +kernel
theorem dX4_copyFrom_28 : decode cX4_copyFrom 28 = .ok (.aload_n 1, 1) := by decide +kernel
theorem dX4_copyFrom_29 : decode cX4_copyFrom 29 = .ok (.getfield 18, 3) := by decide +kernel
theorem dX4_copyFrom_32 : decode cX4_copyFrom 32 = .ok (.iload_n 2, 1) := by decide +kernel
theorem dX4_copyFrom_33 : decode cX4_copyFrom 33 = .ok (.baload, 1) := by decide +kernel
theorem dX4_copyFrom_34 : decode cX4_copyFrom 34 = .ok (.invokevirtual 26, 3) := by decide +kernel
theorem dX4_copyFrom_37 : decode cX4_copyFrom 37 = .ok (.pop, 1) := by decide +kernel
theorem dX4_copyFrom_38 : decode cX4_copyFrom 38 = .ok (.iinc 2 1, 3) := by decide +kernel
theorem dX4_copyFrom_41 : decode cX4_copyFrom 41 = .ok (.goto (-34), 3) := by decide +kernel
theorem dX4_copyFrom_44 : decode cX4_copyFrom 44 = .ok (.return_, 1) := by decide +kernel
theorem dX5_init_0 : decode cX5_init 0 = .ok (.aload_n 0, 1) := by decide +kernel
theorem dX5_init_1 : decode cX5_init 1 = .ok (.invokespecial 3, 3) := by decide +kernel
theorem dX5_init_4 : decode cX5_init 4 = .ok (.aload_n 0, 1) := by decide +kernel
theorem dX5_init_5 : decode cX5_init 5 = .ok (.bipush 40, 2) := by decide +kernel
theorem dX5_init_7 : decode cX5_init 7 = .ok (.newarray .int, 2) := by decide +kernel
theorem dX5_init_9 : decode cX5_init 9 = .ok (.putfield 9, 3) := by decide +kernel
theorem dX5_init_12 : decode cX5_init 12 = .ok (.aload_n 0, 1) := by decide +kernel
theorem dX5_init_13 : decode cX5_init 13 = .ok (.bipush (-4), 2) := by decide +kernel
theorem dX5_init_15 : decode cX5_init 15 = .ok (.putfield 15, 3) := by decide +kernel
theorem dX5_init_18 : decode cX5_init 18 = .ok (.return_, 1) := by decide +kernel
theorem dX5_renew_0 : decode cX5_renew 0 = .ok (.aload_n 0, 1) := by decide +kernel
theorem dX5_renew_1 : decode cX5_renew 1 = .ok (.iload_n 1, 1) := by decide +kernel
theorem dX5_renew_2 : decode cX5_renew 2 = .ok (.putfield 15, 3) := by decide +kernel
theorem dX5_renew_5 : decode cX5_renew 5 = .ok (.aload_n 0, 1) := by decide +kernel
theorem dX5_renew_6 : decode cX5_renew 6 = .ok (.iload_n 2, 1) := by decide +kernel
theorem dX5_renew_7 : decode cX5_renew 7 = .ok (.bipush 40, 2) := by decide +kernel
theorem dX5_renew_9 : decode cX5_renew 9 = .ok (.invokestatic 19, 3) := by decide +kernel
theorem dX5_renew_12 : decode cX5_renew 12 = .ok (.putfield 25, 3) := by decide +kernel
theorem dX5_renew_15 : decode cX5_renew 15 = .ok (.iconst 0, 1) := by decide +kernel
theorem dX5_renew_16 : decode cX5_renew 16 = .ok (.istore_n 3, 1) := by decide +kernel
theorem dX5_renew_17 : decode cX5_renew 17 = .ok (.iload_n 3, 1) := by decide +kernel
theorem dX5_renew_18 : decode cX5_renew 18 = .ok (.bipush 40, 2) := by decide +kernel
theorem dX5_renew_20 : decode cX5_renew 20 = .ok (.if_icmp .ge 16, 3) := by decide +kernel
theorem dX5_renew_23 : decode cX5_renew 23 = .ok (.aload_n 0, 1) := by decide +kernel
theorem dX5_renew_24 : decode cX5_renew 24 = .ok (.getfield 9, 3) := by decide +kernel
theorem dX5_renew_27 : decode cX5_renew 27 = .ok (.iload_n 3, 1) := by decide +kernel
theorem dX5_renew_28 : decode cX5_renew 28 = .ok (.iconst 0, 1) := by decide +kernel
theorem dX5_renew_29 : decode cX5_renew 29 = .ok (.iastore, 1) := by decide +kernel
theorem dX5_renew_30 : decode cX5_renew 30 = .ok (.iinc 3 1, 3) := by decide +kernel
theorem dX5_renew_33 : decode cX5_renew 33 = .ok (.goto (-16), 3) := by decide +kernel
theorem dX5_renew_36 : decode cX5_renew 36 = .ok (.return_, 1) := by decide +kernel
theorem dX5_faultAt_0 : decode cX5_faultAt 0 = .ok (.aload_n 0, 1) := by decide +kernel
theorem dX5_faultAt_1 : decode cX5_faultAt 1 = .ok (.getfield 15, 3) := by decide +kernel
theorem dX5_faultAt_4 : decode cX5_faultAt 4 = .ok (.bipush (-4), 2) := by decide +kernel
theorem dX5_faultAt_6 : decode cX5_faultAt 6 = .ok (.if_icmp .ne 5, 3) := by decide +kernel
theorem dX5_faultAt_9 : decode cX5_faultAt 9 = .ok (.iconst 1, 1) := by decide +kernel
theorem dX5_faultAt_10 : decode cX5_faultAt 10 = .ok (.ireturn, 1) := by decide +kernel
theorem dX5_faultAt_11 : decode cX5_faultAt 11 = .ok (.iload_n 1, 1) := by decide +kernel
theorem dX5_faultAt_12 : decode cX5_faultAt 12 = .ok (.iconst 0, 1) := by decide +kernel
theorem dX5_faultAt_13 : decode cX5_faultAt 13 = .ok (.aload_n 0, 1) := by decide +kernel
theorem dX5_faultAt_14 : decode cX5_faultAt 14 = .ok (.getfield 25, 3) := by decide +kernel
theorem dX5_faultAt_17 : decode cX5_faultAt 17 = .ok (.iconst 1, 1) := by decide +kernel
theorem dX5_faultAt_18 : decode cX5_faultAt 18 = .ok (.isub, 1) := by decide +kernel
theorem dX5_faultAt_19 : decode cX5_faultAt 19 = .ok (.invokestatic 28, 3) := by decide +kernel
theorem dX5_faultAt_22 : decode cX5_faultAt 22 = .ok (.ifCond .eq 7, 3) := by decide +kernel
theorem dX5_faultAt_25 : decode cX5_faultAt 25 = .ok (.iconst 0, 1) := by decide +kernel
theorem dX5_faultAt_26 : decode cX5_faultAt 26 = .ok (.goto 4, 3) := by decide +kernel
theorem dX5_faultAt_29 : decode cX5_faultAt 29 = .ok (.iconst 2, 1) := by decide +kernel
theorem dX5_faultAt_30 : decode cX5_faultAt 30 = .ok (.ireturn, 1) := by decide +kernel
theorem dX5_faultOfThree_0 : decode cX5_faultOfThree 0 = .ok (.aload_n 0, 1) := by decide +kernel
theorem dX5_faultOfThree_1 : decode cX5_faultOfThree 1 = .ok (.getfield 15, 3) := by decide +kernel
theorem dX5_faultOfThree_4 : decode cX5_faultOfThree 4 = .ok (.bipush (-4), 2) := by decide +kernel
theorem dX5_faultOfThree_6 : decode cX5_faultOfThree 6 = .ok (.if_icmp .eq 13, 3) := by decide +kernel
theorem dX5_faultOfThree_9 : decode cX5_faultOfThree 9 = .ok (.aload_n 0, 1) := by decide +kernel
theorem dX5_faultOfThree_10 : decode cX5_faultOfThree 10 = .ok (.getfield 15, 3) := by decide +kernel
theorem dX5_faultOfThree_13 : decode cX5_faultOfThree 13 = .ok (.iload_n 1, 1) := by decide +kernel
theorem dX5_faultOfThree_14 : decode cX5_faultOfThree 14 = .ok (.if_icmp .eq 5, 3) := by decide +kernel
theorem dX5_faultOfThree_17 : decode cX5_faultOfThree 17 = .ok (.iconst 3, 1) := by decide +kernel
theorem dX5_faultOfThree_18 : decode cX5_faultOfThree 18 = .ok (.ireturn, 1) := by decide +kernel
theorem dX5_faultOfThree_19 : decode cX5_faultOfThree 19 = .ok (.aload_n 0, 1) := by decide +kernel
theorem dX5_faultOfThree_20 : decode cX5_faultOfThree 20 = .ok (.iload_n 2, 1) := by decide +kernel
theorem dX5_faultOfThree_21 : decode cX5_faultOfThree 21 = .ok (.invokevirtual 32, 3) := by decide +kernel
theorem dX5_faultOfThree_24 : decode cX5_faultOfThree 24 = .ok (.istore_n 3, 1) := by decide +kernel
theorem dX5_faultOfThree_25 : decode cX5_faultOfThree 25 = .ok (.iload_n 3, 1) := by decide +kernel
theorem dX5_faultOfThree_26 : decode cX5_faultOfThree 26 = .ok (.ifCond .ne 11, 3) := by decide +kernel
theorem dX5_faultOfThree_29 : decode cX5_faultOfThree 29 = .ok (.aload_n 0, 1) := by decide +kernel
theorem dX5_faultOfThree_30 : decode cX5_faultOfThree 30 = .ok (.iload_n 2, 1) := by decide +kernel
theorem dX5_faultOfThree_31 : decode cX5_faultOfThree 31 = .ok (.iconst 1, 1) := by decide +kernel
theorem dX5_faultOfThree_32 : decode cX5_faultOfThree 32 = .ok (.iadd, 1) := by decide +kernel
theorem dX5_faultOfThree_33 : decode cX5_faultOfThree 33 = .ok (.invokevirtual 32, 3) := by decide +kernel
theorem dX5_faultOfThree_36 : decode cX5_faultOfThree 36 = .ok (.istore_n 3, 1) := by decide +kernel
theorem dX5_faultOfThree_37 : decode cX5_faultOfThree 37 = .ok (.iload_n 3, 1) := by decide +kernel
theorem dX5_faultOfThree_38 : decode cX5_faultOfThree 38 = .ok (.ifCond .ne 11, 3) := by decide +kernel
theorem dX5_faultOfThree_41 : decode cX5_faultOfThree 41 = .ok (.aload_n 0, 1) := by decide +kernel
theorem dX5_faultOfThree_42 : decode cX5_faultOfThree 42 = .ok (.iload_n 2, 1) := by decide +kernel
theorem dX5_faultOfThree_43 : decode cX5_faultOfThree 43 = .ok (.iconst 2, 1) := by decide +kernel
theorem dX5_faultOfThree_44 : decode cX5_faultOfThree 44 = .ok (.iadd, 1) := by decide +kernel
theorem dX5_faultOfThree_45 : decode cX5_faultOfThree 45 = .ok (.invokevirtual 32, 3) := by decide +kernel
theorem dX5_faultOfThree_48 : decode cX5_faultOfThree 48 = .ok (.istore_n 3, 1) := by decide +kernel
theorem dX5_faultOfThree_49 : decode cX5_faultOfThree 49 = .ok (.iload_n 3, 1) := by decide +kernel
theorem dX5_faultOfThree_50 : decode cX5_faultOfThree 50 = .ok (.ireturn, 1) := by decide +kernel
theorem dX5_put_0 : decode cX5_put 0 = .ok (.aload_n 0, 1) := by decide +kernel
theorem dX5_put_1 : decode cX5_put 1 = .ok (.iload_n 1, 1) := by decide +kernel
theorem dX5_put_2 : decode cX5_put 2 = .ok (.invokevirtual 32, 3) := by decide +kernel
theorem dX5_put_5 : decode cX5_put 5 = .ok (.ifCond .eq 4, 3) := by decide +kernel
theorem dX5_put_8 : decode cX5_put 8 = .ok (.return_, 1) := by decide +kernel
theorem dX5_put_9 : decode cX5_put 9 = .ok (.aload_n 0, 1) := by decide +kernel
theorem dX5_put_10 : decode cX5_put 10 = .ok (.getfield 15, 3) := by decide +kernel
theorem dX5_put_13 : decode cX5_put 13 = .ok (.ifCond .ne 14, 3) := by decide +kernel
theorem dX5_put_16 : decode cX5_put 16 = .ok (.aload_n 0, 1) := by decide +kernel
theorem dX5_put_17 : decode cX5_put 17 = .ok (.getfield 9, 3) := by decide +kernel
theorem dX5_put_20 : decode cX5_put 20 = .ok (.iload_n 1, 1) := by decide +kernel
theorem dX5_put_21 : decode cX5_put 21 = .ok (.iload_n 2, 1) := by decide +kernel
theorem dX5_put_22 : decode cX5_put 22 = .ok (.i2b, 1) := by decide +kernel
theorem dX5_put_23 : decode cX5_put 23 = .ok (.iastore, 1) := by decide +kernel
theorem dX5_put_24 : decode cX5_put 24 = .ok (.goto 29, 3) := by decide +kernel
theorem dX5_put_27 : decode cX5_put 27 = .ok (.aload_n 0, 1) := by decide +kernel
theorem dX5_put_28 : decode cX5_put 28 = .ok (.getfield 15, 3) := by decide +kernel
theorem dX5_put_31 : decode cX5_put 31 = .ok (.iconst 1, 1) := by decide +kernel
theorem dX5_put_32 : decode cX5_put 32 = .ok (.if_icmp .ne 14, 3) := by decide +kernel
theorem dX5_put_35 : decode cX5_put 35 = .ok (.aload_n 0, 1) := by decide +kernel
theorem dX5_put_36 : decode cX5_put 36 = .ok (.getfield 9, 3) := by decide +kernel
theorem dX5_put_39 : decode cX5_put 39 = .ok (.iload_n 1, 1) := by decide +kernel
theorem dX5_put_40 : decode cX5_put 40 = .ok (.iload_n 2, 1) := by decide +kernel
theorem dX5_put_41 : decode cX5_put 41 = .ok (.i2s, 1) := by decide +kernel
theorem dX5_put_42 : decode cX5_put 42 = .ok (.iastore, 1) := by decide +kernel
theorem dX5_put_43 : decode cX5_put 43 = .ok (.goto 10, 3) := by decide +kernel
theorem dX5_put_46 : decode cX5_put 46 = .ok (.aload_n 0, 1) := by decide +kernel
theorem dX5_put_47 : decode cX5_put 47 = .ok (.getfield 9, 3) := by decide +kernel
theorem dX5_put_50 : decode cX5_put 50 = .ok (.iload_n 1, 1) := by decide +kernel
theorem dX5_put_51 : decode cX5_put 51 = .ok (.iload_n 2, 1) := by decide +kernel
theorem dX5_put_52 : decode cX5_put 52 = .ok (.iastore, 1) := by decide +kernel
theorem dX5_put_53 : decode cX5_put 53 = .ok (.return_, 1) := by decide +kernel
theorem dX6_init_0 : decode cX6_init 0 = .ok (.aload_n 0, 1) := by decide +kernel
theorem dX6_init_1 : decode cX6_init 1 = .ok (.invokespecial 3, 3) := by decide +kernel
theorem dX6_init_4 : decode cX6_init 4 = .ok (.aload_n 0, 1) := by decide +kernel
theorem dX6_init_5 : decode cX6_init 5 = .ok (.bipush 7, 2) := by decide +kernel
theorem dX6_init_7 : decode cX6_init 7 = .ok (.newarray .int, 2) := by decide +kernel
theorem dX6_init_9 : decode cX6_init 9 = .ok (.putfield 9, 3) := by decide +kernel
theorem dX6_init_12 : decode cX6_init 12 = .ok (.aload_n 0, 1) := by decide +kernel
theorem dX6_init_13 : decode cX6_init 13 = .ok (.bipush 24, 2) := by decide +kernel
theorem dX6_init_15 : decode cX6_init 15 = .ok (.newarray .int, 2) := by decide +kernel
theorem dX6_init_17 : decode cX6_init 17 = .ok (.putfield 15, 3) := by decide +kernel
theorem dX6_init_20 : decode cX6_init 20 = .ok (.aload_n 0, 1) := by decide +kernel
theorem dX6_init_21 : decode cX6_init 21 = .ok (.invokevirtual 18, 3) := by decide +kernel
theorem dX6_init_24 : decode cX6_init 24 = .ok (.aload_n 0, 1) := by decide +kernel
theorem dX6_init_25 : decode cX6_init 25 = .ok (.invokevirtual 21, 3) := by decide +kernel
theorem dX6_init_28 : decode cX6_init 28 = .ok (.return_, 1) := by decide +kernel
theorem dX6_begin_0 : decode cX6_begin 0 = .ok (.iconst 0, 1) := by decide +kernel
theorem dX6_begin_1 : decode cX6_begin 1 = .ok (.istore_n 1, 1) := by decide +kernel
theorem dX6_begin_2 : decode cX6_begin 2 = .ok (.iload_n 1, 1) := by decide +kernel
theorem dX6_begin_3 : decode cX6_begin 3 = .ok (.bipush 7, 2) := by decide +kernel
theorem dX6_begin_5 : decode cX6_begin 5 = .ok (.if_icmp .ge 20, 3) := by decide +kernel
theorem dX6_begin_8 : decode cX6_begin 8 = .ok (.aload_n 0, 1) := by decide +kernel
theorem dX6_begin_9 : decode cX6_begin 9 = .ok (.getfield 9, 3) := by decide +kernel
theorem dX6_begin_12 : decode cX6_begin 12 = .ok (.iload_n 1, 1) := by decide +kernel
theorem dX6_begin_13 : decode cX6_begin 13 = .ok (.getstatic 24, 3) := by decide +kernel
theorem dX6_begin_16 : decode cX6_begin 16 = .ok (.iload_n 1, 1) := by decide +kernel
theorem dX6_begin_17 : decode cX6_begin 17 = .ok (.iaload, 1) := by decide +kernel
theorem dX6_begin_18 : decode cX6_begin 18 = .ok (.iastore, 1) := by decide +kernel
theorem dX6_begin_19 : decode cX6_begin 19 = .ok (.iinc 1 1, 3) := by decide +kernel
theorem dX6_begin_22 : decode cX6_begin 22 = .ok (.goto (-20), 3) := by decide +kernel
theorem dX6_begin_25 : decode cX6_begin 25 = .ok (.iconst 0, 1) := by decide +kernel
theorem dX6_begin_26 : decode cX6_begin 26 = .ok (.istore_n 1, 1) := by decide +kernel
theorem dX6_begin_27 : decode cX6_begin 27 = .ok (.iload_n 1, 1) := by decide +kernel
theorem dX6_begin_28 : decode cX6_begin 28 = .ok (.bipush 24, 2) := by decide +kernel
theorem dX6_begin_30 : decode cX6_begin 30 = .ok (.if_icmp .ge 16, 3) := by decide +kernel
theorem dX6_begin_33 : decode cX6_begin 33 = .ok (.aload_n 0, 1) := by decide +kernel
theorem dX6_begin_34 : decode cX6_begin 34 = .ok (.getfield 15, 3) := by decide +kernel
theorem dX6_begin_37 : decode cX6_begin 37 = .ok (.iload_n 1, 1) := by decide +kernel
theorem dX6_begin_38 : decode cX6_begin 38 = .ok (.iconst 0, 1) := by decide +kernel
theorem dX6_begin_39 : decode cX6_begin 39 = .ok (.iastore, 1) := by decide +kernel
theorem dX6_begin_40 : decode cX6_begin 40 = .ok (.iinc 1 1, 3) := by decide +kernel
theorem dX6_begin_43 : decode cX6_begin 43 = .ok (.goto (-16), 3) := by decide +kernel
theorem dX6_begin_46 : decode cX6_begin 46 = .ok (.return_, 1) := by decide +kernel
theorem dX6_fillWarmths_0 : decode cX6_fillWarmths 0 = .ok (.iconst 0, 1) := by decide +kernel
theorem dX6_fillWarmths_1 : decode cX6_fillWarmths 1 = .ok (.istore_n 1, 1) := by decide +kernel
theorem dX6_fillWarmths_2 : decode cX6_fillWarmths 2 = .ok (.iload_n 1, 1) := by decide +kernel
theorem dX6_fillWarmths_3 : decode cX6_fillWarmths 3 = .ok (.bipush 24, 2) := by decide +kernel
theorem dX6_fillWarmths_5 : decode cX6_fillWarmths 5 = .ok (.if_icmp .ge 30, 3) := by decide +kernel
theorem dX6_fillWarmths_8 : decode cX6_fillWarmths 8 = .ok (.aload_n 0, 1) := by decide +kernel
theorem dX6_fillWarmths_9 : decode cX6_fillWarmths 9 = .ok (.getfield 15, 3) := by decide +kernel
theorem dX6_fillWarmths_12 : decode cX6_fillWarmths 12 = .ok (.iload_n 1, 1) := by decide +kernel
theorem dX6_fillWarmths_13 : decode cX6_fillWarmths 13 = .ok (.iaload, 1) := by decide +kernel
theorem dX6_fillWarmths_14 : decode cX6_fillWarmths 14 = .ok (.ifCond .ne 15, 3) := by decide +kernel
theorem dX6_fillWarmths_17 : decode cX6_fillWarmths 17 = .ok (.aload_n 0, 1) := by decide +kernel
theorem dX6_fillWarmths_18 : decode cX6_fillWarmths 18 = .ok (.getfield 15, 3) := by decide +kernel
theorem dX6_fillWarmths_21 : decode cX6_fillWarmths 21 = .ok (.iload_n 1, 1) := by decide +kernel
theorem dX6_fillWarmths_22 : decode cX6_fillWarmths 22 = .ok (.aload_n 0, 1) := by decide +kernel
theorem dX6_fillWarmths_23 : decode cX6_fillWarmths 23 = .ok (.getfield 9, 3) := by decide +kernel
theorem dX6_fillWarmths_26 : decode cX6_fillWarmths 26 = .ok (.iconst 2, 1) := by decide +kernel
theorem dX6_fillWarmths_27 : decode cX6_fillWarmths 27 = .ok (.iaload, 1) := by decide +kernel
theorem dX6_fillWarmths_28 : decode cX6_fillWarmths 28 = .ok (.iastore, 1) := by decide +kernel
theorem dX6_fillWarmths_29 : decode cX6_fillWarmths 29 = .ok (.iinc 1 1, 3) := by decide +kernel
theorem dX6_fillWarmths_32 : decode cX6_fillWarmths 32 = .ok (.goto (-30), 3) := by decide +kernel
theorem dX6_fillWarmths_35 : decode cX6_fillWarmths 35 = .ok (.return_, 1) := by decide +kernel
theorem dX6_copyFrom_0 : decode cX6_copyFrom 0 = .ok (.iconst 0, 1) := by decide +kernel
theorem dX6_copyFrom_1 : decode cX6_copyFrom 1 = .ok (.istore_n 2, 1) := by decide +kernel
theorem dX6_copyFrom_2 : decode cX6_copyFrom 2 = .ok (.iload_n 2, 1) := by decide +kernel
theorem dX6_copyFrom_3 : decode cX6_copyFrom 3 = .ok (.bipush 7, 2) := by decide +kernel
theorem dX6_copyFrom_5 : decode cX6_copyFrom 5 = .ok (.if_icmp .ge 21, 3) := by decide +kernel
theorem dX6_copyFrom_8 : decode cX6_copyFrom 8 = .ok (.aload_n 0, 1) := by decide +kernel
theorem dX6_copyFrom_9 : decode cX6_copyFrom 9 = .ok (.getfield 9, 3) := by decide +kernel
theorem dX6_copyFrom_12 : decode cX6_copyFrom 12 = .ok (.iload_n 2, 1) := by decide +kernel
theorem dX6_copyFrom_13 : decode cX6_copyFrom 13 = .ok (.aload_n 1, 1) := by decide +kernel
theorem dX6_copyFrom_14 : decode cX6_copyFrom 14 = .ok (.getfield 9, 3) := by decide +kernel
theorem dX6_copyFrom_17 : decode cX6_copyFrom 17 = .ok (.iload_n 2, 1) := by decide +kernel
theorem dX6_copyFrom_18 : decode cX6_copyFrom 18 = .ok (.iaload, 1) := by decide +kernel
theorem dX6_copyFrom_19 : decode cX6_copyFrom 19 = .ok (.iastore, 1) := by decide +kernel
theorem dX6_copyFrom_20 : decode cX6_copyFrom 20 = .ok (.iinc 2 1, 3) := by decide +kernel
theorem dX6_copyFrom_23 : decode cX6_copyFrom 23 = .ok (.goto (-21), 3) := by decide +kernel
theorem dX6_copyFrom_26 : decode cX6_copyFrom 26 = .ok (.iconst 0, 1) := by decide +kernel
theorem dX6_copyFrom_27 : decode cX6_copyFrom 27 = .ok (.istore_n 2, 1) := by decide +kernel
theorem dX6_copyFrom_28 : decode cX6_copyFrom 28 = .ok (.iload_n 2, 1) := by decide +kernel
theorem dX6_copyFrom_29 : decode cX6_copyFrom 29 = .ok (.bipush 24, 2) := by decide +kernel
theorem dX6_copyFrom_31 : decode cX6_copyFrom 31 = .ok (.if_icmp .ge 21, 3) := by decide +kernel
theorem dX6_copyFrom_34 : decode cX6_copyFrom 34 = .ok (.aload_n 0, 1) := by decide +kernel
theorem dX6_copyFrom_35 : decode cX6_copyFrom 35 = .ok (.getfield 15, 3) := by decide +kernel
theorem dX6_copyFrom_38 : decode cX6_copyFrom 38 = .ok (.iload_n 2, 1) := by decide +kernel
theorem dX6_copyFrom_39 : decode cX6_copyFrom 39 = .ok (.aload_n 1, 1) := by decide +kernel
theorem dX6_copyFrom_40 : decode cX6_copyFrom 40 = .ok (.getfield 15, 3) := by decide +kernel
theorem dX6_copyFrom_43 : decode cX6_copyFrom 43 = .ok (.iload_n 2, 1) := by decide +kernel
theorem dX6_copyFrom_44 : decode cX6_copyFrom 44 = .ok (.iaload, 1) := by decide +kernel
theorem dX6_copyFrom_45 : decode cX6_copyFrom 45 = .ok (.iastore, 1) := by decide +kernel
theorem dX6_copyFrom_46 : decode cX6_copyFrom 46 = .ok (.iinc 2 1, 3) := by decide +kernel
theorem dX6_copyFrom_49 : decode cX6_copyFrom 49 = .ok (.goto (-21), 3) := by decide +kernel
theorem dX6_copyFrom_52 : decode cX6_copyFrom 52 = .ok (.return_, 1) := by decide +kernel
theorem dX6_floor_0 : decode cX6_floor 0 = .ok (.aload_n 0, 1) := by decide +kernel
theorem dX6_floor_1 : decode cX6_floor 1 = .ok (.getfield 9, 3) := by decide +kernel
theorem dX6_floor_4 : decode cX6_floor 4 = .ok (.iconst 0, 1) := by decide +kernel
theorem dX6_floor_5 : decode cX6_floor 5 = .ok (.iaload, 1) := by decide +kernel
theorem dX6_floor_6 : decode cX6_floor 6 = .ok (.bipush 64, 2) := by decide +kernel
theorem dX6_floor_8 : decode cX6_floor 8 = .ok (.imul, 1) := by decide +kernel
theorem dX6_floor_9 : decode cX6_floor 9 = .ok (.ireturn, 1) := by decide +kernel
theorem dX6_pressAt_0 : decode cX6_pressAt 0 = .ok (.aload_n 0, 1) := by decide +kernel
theorem dX6_pressAt_1 : decode cX6_pressAt 1 = .ok (.getfield 9, 3) := by decide +kernel
theorem dX6_pressAt_4 : decode cX6_pressAt 4 = .ok (.iconst 1, 1) := by decide +kernel
theorem dX6_pressAt_5 : decode cX6_pressAt 5 = .ok (.iaload, 1) := by decide +kernel
theorem dX6_pressAt_6 : decode cX6_pressAt 6 = .ok (.iload_n 2, 1) := by decide +kernel
theorem dX6_pressAt_7 : decode cX6_pressAt 7 = .ok (.iadd, 1) := by decide +kernel
theorem dX6_pressAt_8 : decode cX6_pressAt 8 = .ok (.iload_n 1, 1) := by decide +kernel
theorem dX6_pressAt_9 : decode cX6_pressAt 9 = .ok (.iadd, 1) := by decide +kernel
theorem dX6_pressAt_10 : decode cX6_pressAt 10 = .ok (.ireturn, 1) := by decide +kernel
theorem dX6_lighterAt_0 : decode cX6_lighterAt 0 = .ok (.iload_n 1, 1) := by decide +kernel
theorem dX6_lighterAt_1 : decode cX6_lighterAt 1 = .ok (.aload_n 0, 1) := by decide +kernel
theorem dX6_lighterAt_2 : decode cX6_lighterAt 2 = .ok (.getfield 9, 3) := by decide +kernel
theorem dX6_lighterAt_5 : decode cX6_lighterAt 5 = .ok (.iconst 4, 1) := by decide +kernel
theorem dX6_lighterAt_6 : decode cX6_lighterAt 6 = .ok (.iaload, 1) := by decide +kernel
theorem dX6_lighterAt_7 : decode cX6_lighterAt 7 = .ok (.if_icmp .lt 12, 3) := by decide +kernel
theorem dX6_lighterAt_10 : decode cX6_lighterAt 10 = .ok (.aload_n 0, 1) := by decide +kernel
theorem dX6_lighterAt_11 : decode cX6_lighterAt 11 = .ok (.getfield 9, 3) := by decide +kernel
theorem dX6_lighterAt_14 : decode cX6_lighterAt 14 = .ok (.iconst 5, 1) := by decide +kernel
theorem dX6_lighterAt_15 : decode cX6_lighterAt 15 = .ok (.iaload, 1) := by decide +kernel
theorem dX6_lighterAt_16 : decode cX6_lighterAt 16 = .ok (.goto 4, 3) := by decide +kernel
theorem dX6_lighterAt_19 : decode cX6_lighterAt 19 = .ok (.iconst 0, 1) := by decide +kernel
theorem dX6_lighterAt_20 : decode cX6_lighterAt 20 = .ok (.ireturn, 1) := by decide +kernel
theorem dX6_weight_0 : decode cX6_weight 0 = .ok (.iload_n 2, 1) := by decide +kernel
theorem dX6_weight_1 : decode cX6_weight 1 = .ok (.iload_n 3, 1) := by decide +kernel
theorem dX6_weight_2 : decode cX6_weight 2 = .ok (.imul, 1) := by decide +kernel
theorem dX6_weight_3 : decode cX6_weight 3 = .ok (.aload_n 0, 1) := by decide +kernel
theorem dX6_weight_4 : decode cX6_weight 4 = .ok (.iload 4, 2) := by decide +kernel
theorem dX6_weight_6 : decode cX6_weight 6 = .ok (.iload 5, 2) := by decide +kernel
theorem dX6_weight_8 : decode cX6_weight 8 = .ok (.invokevirtual 27, 3) := by decide +kernel
theorem dX6_weight_11 : decode cX6_weight 11 = .ok (.invokestatic 31, 3) := by decide +kernel
theorem dX6_weight_14 : decode cX6_weight 14 = .ok (.istore 6, 2) := by decide +kernel
theorem dX6_weight_16 : decode cX6_weight 16 = .ok (.iload_n 1, 1) := by decide +kernel
theorem dX6_weight_17 : decode cX6_weight 17 = .ok (.iload 6, 2) := by decide +kernel
theorem dX6_weight_19 : decode cX6_weight 19 = .ok (.isub, 1) := by decide +kernel
theorem dX6_weight_20 : decode cX6_weight 20 = .ok (.aload_n 0, 1) := by decide +kernel
theorem dX6_weight_21 : decode cX6_weight 21 = .ok (.iload 4, 2) := by decide +kernel
theorem dX6_weight_23 : decode cX6_weight 23 = .ok (.invokevirtual 34, 3) := by decide +kernel
theorem dX6_weight_26 : decode cX6_weight 26 = .ok (.isub, 1) := by decide +kernel
theorem dX6_weight_27 : decode cX6_weight 27 = .ok (.ireturn, 1) := by decide +kernel
theorem dX6_leastBubble_0 : decode cX6_leastBubble 0 = .ok (.iload_n 1, 1) := by decide +kernel
theorem dX6_leastBubble_1 : decode cX6_leastBubble 1 = .ok (.ifCond .gt 7, 3) := by decide +kernel
theorem dX6_leastBubble_4 : decode cX6_leastBubble 4 = .ok (.iconst 0, 1) := by decide +kernel
theorem dX6_leastBubble_5 : decode cX6_leastBubble 5 = .ok (.goto 10, 3) := by decide +kernel
theorem dX6_leastBubble_8 : decode cX6_leastBubble 8 = .ok (.iload_n 1, 1) := by decide +kernel
theorem dX6_leastBubble_9 : decode cX6_leastBubble 9 = .ok (.iload_n 3, 1) := by decide +kernel
theorem dX6_leastBubble_10 : decode cX6_leastBubble 10 = .ok (.imul, 1) := by decide +kernel
theorem dX6_leastBubble_11 : decode cX6_leastBubble 11 = .ok (.iload_n 2, 1) := by decide +kernel
theorem dX6_leastBubble_12 : decode cX6_leastBubble 12 = .ok (.invokestatic 38, 3) := by decide +kernel
theorem dX6_leastBubble_15 : decode cX6_leastBubble 15 = .ok (.ireturn, 1) := by decide +kernel
theorem dX7_init_0 : decode cX7_init 0 = .ok (.aload_n 0, 1) := by decide +kernel
theorem dX7_init_1 : decode cX7_init 1 = .ok (.invokespecial 1, 3) := by decide +kernel
theorem dX7_init_4 : decode cX7_init 4 = .ok (.aload_n 0, 1) := by decide +kernel
theorem dX7_init_5 : decode cX7_init 5 = .ok (.new 7, 3) := by decide +kernel
theorem dX7_init_8 : decode cX7_init 8 = .ok (.dup, 1) := by decide +kernel
theorem dX7_init_9 : decode cX7_init 9 = .ok (.invokespecial 9, 3) := by decide +kernel
theorem dX7_init_12 : decode cX7_init 12 = .ok (.putfield 10, 3) := by decide +kernel
theorem dX7_init_15 : decode cX7_init 15 = .ok (.aload_n 0, 1) := by decide +kernel
theorem dX7_init_16 : decode cX7_init 16 = .ok (.new 16, 3) := by decide +kernel
theorem dX7_init_19 : decode cX7_init 19 = .ok (.dup, 1) := by decide +kernel
theorem dX7_init_20 : decode cX7_init 20 = .ok (.invokespecial 18, 3) := by decide +kernel
theorem dX7_init_23 : decode cX7_init 23 = .ok (.putfield 19, 3) := by decide +kernel
theorem dX7_init_26 : decode cX7_init 26 = .ok (.aload_n 0, 1) := by decide +kernel
theorem dX7_init_27 : decode cX7_init 27 = .ok (.new 23, 3) := by decide +kernel
theorem dX7_init_30 : decode cX7_init 30 = .ok (.dup, 1) := by decide +kernel
theorem dX7_init_31 : decode cX7_init 31 = .ok (.invokespecial 25, 3) := by decide +kernel
theorem dX7_init_34 : decode cX7_init 34 = .ok (.putfield 26, 3) := by decide +kernel
theorem dX7_init_37 : decode cX7_init 37 = .ok (.aload_n 0, 1) := by decide +kernel
theorem dX7_init_38 : decode cX7_init 38 = .ok (.iconst 2, 1) := by decide +kernel
theorem dX7_init_39 : decode cX7_init 39 = .ok (.anewarray 23, 3) := by decide +kernel
theorem dX7_init_42 : decode cX7_init 42 = .ok (.putfield 30, 3) := by decide +kernel
theorem dX7_init_45 : decode cX7_init 45 = .ok (.aload_n 0, 1) := by decide +kernel
theorem dX7_init_46 : decode cX7_init 46 = .ok (.iconst 2, 1) := by decide +kernel
theorem dX7_init_47 : decode cX7_init 47 = .ok (.newarray .boolean, 2) := by decide +kernel
theorem dX7_init_49 : decode cX7_init 49 = .ok (.putfield 34, 3) := by decide +kernel
theorem dX7_init_52 : decode cX7_init 52 = .ok (.iconst 0, 1) := by decide +kernel
theorem dX7_init_53 : decode cX7_init 53 = .ok (.istore_n 1, 1) := by decide +kernel
theorem dX7_init_54 : decode cX7_init 54 = .ok (.iload_n 1, 1) := by decide +kernel
theorem dX7_init_55 : decode cX7_init 55 = .ok (.iconst 2, 1) := by decide +kernel
theorem dX7_init_56 : decode cX7_init 56 = .ok (.if_icmp .ge 22, 3) := by decide +kernel
theorem dX7_init_59 : decode cX7_init 59 = .ok (.aload_n 0, 1) := by decide +kernel
theorem dX7_init_60 : decode cX7_init 60 = .ok (.getfield 30, 3) := by decide +kernel
theorem dX7_init_63 : decode cX7_init 63 = .ok (.iload_n 1, 1) := by decide +kernel
theorem dX7_init_64 : decode cX7_init 64 = .ok (.new 23, 3) := by decide +kernel
theorem dX7_init_67 : decode cX7_init 67 = .ok (.dup, 1) := by decide +kernel
theorem dX7_init_68 : decode cX7_init 68 = .ok (.invokespecial 25, 3) := by decide +kernel
theorem dX7_init_71 : decode cX7_init 71 = .ok (.aastore, 1) := by decide +kernel
theorem dX7_init_72 : decode cX7_init 72 = .ok (.iinc 1 1, 3) := by decide +kernel
theorem dX7_init_75 : decode cX7_init 75 = .ok (.goto (-21), 3) := by decide +kernel
theorem dX7_init_78 : decode cX7_init 78 = .ok (.aload_n 0, 1) := by decide +kernel
theorem dX7_init_79 : decode cX7_init 79 = .ok (.iconst 4, 1) := by decide +kernel
theorem dX7_init_80 : decode cX7_init 80 = .ok (.anewarray 38, 3) := by decide +kernel
theorem dX7_init_83 : decode cX7_init 83 = .ok (.putfield 40, 3) := by decide +kernel
theorem dX7_init_86 : decode cX7_init 86 = .ok (.iconst 0, 1) := by decide +kernel
theorem dX7_init_87 : decode cX7_init 87 = .ok (.istore_n 1, 1) := by decide +kernel
theorem dX7_init_88 : decode cX7_init 88 = .ok (.iload_n 1, 1) := by decide +kernel
theorem dX7_init_89 : decode cX7_init 89 = .ok (.iconst 4, 1) := by decide +kernel
theorem dX7_init_90 : decode cX7_init 90 = .ok (.if_icmp .ge 22, 3) := by decide +kernel
theorem dX7_init_93 : decode cX7_init 93 = .ok (.aload_n 0, 1) := by decide +kernel
theorem dX7_init_94 : decode cX7_init 94 = .ok (.getfield 40, 3) := by decide +kernel
theorem dX7_init_97 : decode cX7_init 97 = .ok (.iload_n 1, 1) := by decide +kernel
theorem dX7_init_98 : decode cX7_init 98 = .ok (.new 38, 3) := by decide +kernel
theorem dX7_init_101 : decode cX7_init 101 = .ok (.dup, 1) := by decide +kernel
theorem dX7_init_102 : decode cX7_init 102 = .ok (.invokespecial 44, 3) := by decide +kernel
theorem dX7_init_105 : decode cX7_init 105 = .ok (.aastore, 1) := by decide +kernel
theorem dX7_init_106 : decode cX7_init 106 = .ok (.iinc 1 1, 3) := by decide +kernel
theorem dX7_init_109 : decode cX7_init 109 = .ok (.goto (-21), 3) := by decide +kernel
theorem dX7_init_112 : decode cX7_init 112 = .ok (.aload_n 0, 1) := by decide +kernel
theorem dX7_init_113 : decode cX7_init 113 = .ok (.new 45, 3) := by decide +kernel
theorem dX7_init_116 : decode cX7_init 116 = .ok (.dup, 1) := by decide +kernel
theorem dX7_init_117 : decode cX7_init 117 = .ok (.invokespecial 47, 3) := by decide +kernel
theorem dX7_init_120 : decode cX7_init 120 = .ok (.putfield 48, 3) := by decide +kernel
theorem dX7_init_123 : decode cX7_init 123 = .ok (.aload_n 0, 1) := by decide +kernel
theorem dX7_init_124 : decode cX7_init 124 = .ok (.new 52, 3) := by decide +kernel
theorem dX7_init_127 : decode cX7_init 127 = .ok (.dup, 1) := by decide +kernel
theorem dX7_init_128 : decode cX7_init 128 = .ok (.invokespecial 54, 3) := by decide +kernel
theorem dX7_init_131 : decode cX7_init 131 = .ok (.putfield 55, 3) := by decide +kernel
theorem dX7_init_134 : decode cX7_init 134 = .ok (.aload_n 0, 1) := by decide +kernel
theorem dX7_init_135 : decode cX7_init 135 = .ok (.sipush 501, 3) := by decide +kernel
theorem dX7_init_138 : decode cX7_init 138 = .ok (.newarray .boolean, 2) := by decide +kernel
theorem dX7_init_140 : decode cX7_init 140 = .ok (.putfield 59, 3) := by decide +kernel
theorem dX7_init_143 : decode cX7_init 143 = .ok (.aload_n 0, 1) := by decide +kernel
theorem dX7_init_144 : decode cX7_init 144 = .ok (.getfield 26, 3) := by decide +kernel
theorem dX7_init_147 : decode cX7_init 147 = .ok (.aload_n 0, 1) := by decide +kernel
theorem dX7_init_148 : decode cX7_init 148 = .ok (.getfield 19, 3) := by decide +kernel
theorem dX7_init_151 : decode cX7_init 151 = .ok (.getfield 62, 3) := by decide +kernel
theorem dX7_init_154 : decode cX7_init 154 = .ok (.iconst 2, 1) := by decide +kernel
theorem dX7_init_155 : decode cX7_init 155 = .ok (.iaload, 1) := by decide +kernel
theorem dX7_init_156 : decode cX7_init 156 = .ok (.putfield 66, 3) := by decide +kernel
theorem dX7_init_159 : decode cX7_init 159 = .ok (.return_, 1) := by decide +kernel
theorem dX7_feed_0 : decode cX7_feed 0 = .ok (.aload_n 0, 1) := by decide +kernel
theorem dX7_feed_1 : decode cX7_feed 1 = .ok (.getfield 10, 3) := by decide +kernel
theorem dX7_feed_4 : decode cX7_feed 4 = .ok (.lload_n 1, 1) := by decide +kernel
theorem dX7_feed_5 : decode cX7_feed 5 = .ok (.invokevirtual 70, 3) := by decide +kernel
theorem dX7_feed_8 : decode cX7_feed 8 = .ok (.ifCond .eq 13, 3) := by decide +kernel
theorem dX7_feed_11 : decode cX7_feed 11 = .ok (.aload_n 0, 1) := by decide +kernel
theorem dX7_feed_12 : decode cX7_feed 12 = .ok (.getfield 10, 3) := by decide +kernel
theorem dX7_feed_15 : decode cX7_feed 15 = .ok (.getfield 74, 3) := by decide +kernel
theorem dX7_feed_18 : decode cX7_feed 18 = .ok (.goto 5, 3) := by decide +kernel
theorem dX7_feed_21 : decode cX7_feed 21 = .ok (.bipush (-3), 2) := by decide +kernel
theorem dX7_feed_23 : decode cX7_feed 23 = .ok (.ireturn, 1) := by decide +kernel
theorem dX7_end_0 : decode cX7_end 0 = .ok (.aload_n 0, 1) := by decide +kernel
theorem dX7_end_1 : decode cX7_end 1 = .ok (.getfield 10, 3) := by decide +kernel
theorem dX7_end_4 : decode cX7_end 4 = .ok (.getfield 74, 3) := by decide +kernel
theorem dX7_end_7 : decode cX7_end 7 = .ok (.istore_n 2, 1) := by decide +kernel
theorem dX7_end_8 : decode cX7_end 8 = .ok (.iload_n 1, 1) := by decide +kernel
theorem dX7_end_9 : decode cX7_end 9 = .ok (.iconst 0, 1) := by decide +kernel
theorem dX7_end_10 : decode cX7_end 10 = .ok (.iload_n 2, 1) := by decide +kernel
theorem dX7_end_11 : decode cX7_end 11 = .ok (.invokestatic 77, 3) := by decide +kernel
theorem dX7_end_14 : decode cX7_end 14 = .ok (.ifCond .ne 5, 3) := by decide +kernel
theorem dX7_end_17 : decode cX7_end 17 = .ok (.iconst (-1), 1) := by decide +kernel
theorem dX7_end_18 : decode cX7_end 18 = .ok (.ireturn, 1) := by decide +kernel
theorem dX7_end_19 : decode cX7_end 19 = .ok (.aload_n 0, 1) := by decide +kernel
theorem dX7_end_20 : decode cX7_end 20 = .ok (.getfield 10, 3) := by decide +kernel
theorem dX7_end_23 : decode cX7_end 23 = .ok (.iload_n 1, 1) := by decide +kernel
theorem dX7_end_24 : decode cX7_end 24 = .ok (.putfield 74, 3) := by decide +kernel
theorem dX7_end_27 : decode cX7_end 27 = .ok (.iload_n 2, 1) := by decide +kernel
theorem dX7_end_28 : decode cX7_end 28 = .ok (.ireturn, 1) := by decide +kernel
theorem dX7_text_0 : decode cX7_text 0 = .ok (.aload_n 0, 1) := by decide +kernel
theorem dX7_text_1 : decode cX7_text 1 = .ok (.getfield 10, 3) := by decide +kernel
theorem dX7_text_4 : decode cX7_text 4 = .ok (.invokevirtual 81, 3) := by decide +kernel
theorem dX7_text_7 : decode cX7_text 7 = .ok (.istore_n 1, 1) := by decide +kernel
theorem dX7_text_8 : decode cX7_text 8 = .ok (.aload_n 0, 1) := by decide +kernel
theorem dX7_text_9 : decode cX7_text 9 = .ok (.getfield 10, 3) := by decide +kernel
theorem dX7_text_12 : decode cX7_text 12 = .ok (.iconst 0, 1) := by decide +kernel
theorem dX7_text_13 : decode cX7_text 13 = .ok (.putfield 74, 3) := by decide +kernel
theorem dX7_text_16 : decode cX7_text 16 = .ok (.aload_n 0, 1) := by decide +kernel
theorem dX7_text_17 : decode cX7_text 17 = .ok (.aload_n 0, 1) := by decide +kernel
theorem dX7_text_18 : decode cX7_text 18 = .ok (.getfield 10, 3) := by decide +kernel
theorem dX7_text_21 : decode cX7_text 21 = .ok (.getfield 85, 3) := by decide +kernel
theorem dX7_text_24 : decode cX7_text 24 = .ok (.putfield 88, 3) := by decide +kernel
theorem dX7_text_27 : decode cX7_text 27 = .ok (.iload_n 1, 1) := by decide +kernel
theorem dX7_text_28 : decode cX7_text 28 = .ok (.ifCond .ne 14, 3) := by decide +kernel
theorem dX7_text_31 : decode cX7_text 31 = .ok (.bipush (-10), 2) := by decide +kernel
theorem dX7_text_33 : decode cX7_text 33 = .ok (.aload_n 0, 1) := by decide +kernel
theorem dX7_text_34 : decode cX7_text 34 = .ok (.getfield 10, 3) := by decide +kernel
theorem dX7_text_37 : decode cX7_text 37 = .ok (.getfield 91, 3) := by decide +kernel
theorem dX7_text_40 : decode cX7_text 40 = .ok (.isub, 1) := by decide +kernel
theorem dX7_text_41 : decode cX7_text 41 = .ok (.ireturn, 1) := by decide +kernel
theorem dX7_text_42 : decode cX7_text 42 = .ok (.aload_n 0, 1) := by decide +kernel
theorem dX7_text_43 : decode cX7_text 43 = .ok (.getfield 19, 3) := by decide +kernel
theorem dX7_text_46 : decode cX7_text 46 = .ok (.aload_n 0, 1) := by decide +kernel
theorem dX7_text_47 : decode cX7_text 47 = .ok (.getfield 10, 3) := by decide +kernel
theorem dX7_text_50 : decode cX7_text 50 = .ok (.getfield 94, 3) := by decide +kernel
theorem dX7_text_53 : decode cX7_text 53 = .ok (.invokevirtual 95, 3) := by decide +kernel
theorem dX7_text_56 : decode cX7_text 56 = .ok (.aload_n 0, 1) := by decide +kernel
theorem dX7_text_57 : decode cX7_text 57 = .ok (.getfield 26, 3) := by decide +kernel
theorem dX7_text_60 : decode cX7_text 60 = .ok (.aload_n 0, 1) := by decide +kernel
theorem dX7_text_61 : decode cX7_text 61 = .ok (.getfield 19, 3) := by decide +kernel
theorem dX7_text_64 : decode cX7_text 64 = .ok (.aload_n 0, 1) := by decide +kernel
theorem dX7_text_65 : decode cX7_text 65 = .ok (.getfield 10, 3) := by decide +kernel
theorem dX7_text_68 : decode cX7_text 68 = .ok (.getfield 99, 3) := by decide +kernel
theorem dX7_text_71 : decode cX7_text 71 = .ok (.aload_n 0, 1) := by decide +kernel
theorem dX7_text_72 : decode cX7_text 72 = .ok (.getfield 10, 3) := by decide +kernel
theorem dX7_text_75 : decode cX7_text 75 = .ok (.getfield 103, 3) := by decide +kernel
theorem dX7_text_78 : decode cX7_text 78 = .ok (.invokevirtual 106, 3) := by decide +kernel
theorem dX7_text_81 : decode cX7_text 81 = .ok (.iconst 0, 1) := by decide +kernel
theorem dX7_text_82 : decode cX7_text 82 = .ok (.istore_n 2, 1) := by decide +kernel
theorem dX7_text_83 : decode cX7_text 83 = .ok (.iload_n 2, 1) := by decide +kernel
theorem dX7_text_84 : decode cX7_text 84 = .ok (.iconst 2, 1) := by decide +kernel
theorem dX7_text_85 : decode cX7_text 85 = .ok (.if_icmp .ge 16, 3) := by decide +kernel
theorem dX7_text_88 : decode cX7_text 88 = .ok (.aload_n 0, 1) := by decide +kernel
theorem dX7_text_89 : decode cX7_text 89 = .ok (.getfield 34, 3) := by decide +kernel
theorem dX7_text_92 : decode cX7_text 92 = .ok (.iload_n 2, 1) := by decide +kernel
theorem dX7_text_93 : decode cX7_text 93 = .ok (.iconst 0, 1) := by decide +kernel
theorem dX7_text_94 : decode cX7_text 94 = .ok (.bastore, 1) := by decide +kernel
theorem dX7_text_95 : decode cX7_text 95 = .ok (.iinc 2 1, 3) := by decide +kernel
theorem dX7_text_98 : decode cX7_text 98 = .ok (.goto (-15), 3) := by decide +kernel
theorem dX7_text_101 : decode cX7_text 101 = .ok (.aload_n 0, 1) := by decide +kernel
theorem dX7_text_102 : decode cX7_text 102 = .ok (.getfield 10, 3) := by decide +kernel
theorem dX7_text_105 : decode cX7_text 105 = .ok (.getfield 110, 3) := by decide +kernel
theorem dX7_text_108 : decode cX7_text 108 = .ok (.ireturn, 1) := by decide +kernel
theorem dX7_fault_0 : decode cX7_fault 0 = .ok (.aload_n 0, 1) := by decide +kernel
theorem dX7_fault_1 : decode cX7_fault 1 = .ok (.getfield 88, 3) := by decide +kernel
theorem dX7_fault_4 : decode cX7_fault 4 = .ok (.ireturn, 1) := by decide +kernel
theorem dX7_rule_0 : decode cX7_rule 0 = .ok (.iload_n 1, 1) := by decide +kernel
theorem dX7_rule_1 : decode cX7_rule 1 = .ok (.iconst 2, 1) := by decide +kernel
theorem dX7_rule_2 : decode cX7_rule 2 = .ok (.if_icmp .ne 11, 3) := by decide +kernel
theorem dX7_rule_5 : decode cX7_rule 5 = .ok (.aload_n 0, 1) := by decide +kernel
theorem dX7_rule_6 : decode cX7_rule 6 = .ok (.getfield 26, 3) := by decide +kernel
theorem dX7_rule_9 : decode cX7_rule 9 = .ok (.getfield 66, 3) := by decide +kernel
theorem dX7_rule_12 : decode cX7_rule 12 = .ok (.ireturn, 1) := by decide +kernel
theorem dX7_rule_13 : decode cX7_rule 13 = .ok (.iload_n 1, 1) := by decide +kernel
theorem dX7_rule_14 : decode cX7_rule 14 = .ok (.iconst 0, 1) := by decide +kernel
theorem dX7_rule_15 : decode cX7_rule 15 = .ok (.bipush 6, 2) := by decide +kernel
theorem dX7_rule_17 : decode cX7_rule 17 = .ok (.invokestatic 77, 3) := by decide +kernel
theorem dX7_rule_20 : decode cX7_rule 20 = .ok (.ifCond .eq 13, 3) := by decide +kernel
theorem dX7_rule_23 : decode cX7_rule 23 = .ok (.aload_n 0, 1) := by decide +kernel
theorem dX7_rule_24 : decode cX7_rule 24 = .ok (.getfield 19, 3) := by decide +kernel
theorem dX7_rule_27 : decode cX7_rule 27 = .ok (.getfield 62, 3) := by decide +kernel
theorem dX7_rule_30 : decode cX7_rule 30 = .ok (.iload_n 1, 1) := by decide +kernel
theorem dX7_rule_31 : decode cX7_rule 31 = .ok (.iaload, 1) := by decide +kernel
theorem dX7_rule_32 : decode cX7_rule 32 = .ok (.ireturn, 1) := by decide +kernel
theorem dX7_rule_33 : decode cX7_rule 33 = .ok (.iload_n 1, 1) := by decide +kernel
theorem dX7_rule_34 : decode cX7_rule 34 = .ok (.bipush 10, 2) := by decide +kernel
theorem dX7_rule_36 : decode cX7_rule 36 = .ok (.bipush 33, 2) := by decide +kernel
theorem dX7_rule_38 : decode cX7_rule 38 = .ok (.invokestatic 77, 3) := by decide +kernel
theorem dX7_rule_41 : decode cX7_rule 41 = .ok (.ifCond .eq 16, 3) := by decide +kernel
theorem dX7_rule_44 : decode cX7_rule 44 = .ok (.aload_n 0, 1) := by decide +kernel
theorem dX7_rule_45 : decode cX7_rule 45 = .ok (.getfield 19, 3) := by decide +kernel
theorem dX7_rule_48 : decode cX7_rule 48 = .ok (.getfield 113, 3) := by decide +kernel
theorem dX7_rule_51 : decode cX7_rule 51 = .ok (.iload_n 1, 1) := by decide +kernel
theorem dX7_rule_52 : decode cX7_rule 52 = .ok (.bipush 10, 2) := by decide +kernel
theorem dX7_rule_54 : decode cX7_rule 54 = .ok (.isub, 1) := by decide +kernel
theorem dX7_rule_55 : decode cX7_rule 55 = .ok (.iaload, 1) := by decide +kernel
theorem dX7_rule_56 : decode cX7_rule 56 = .ok (.ireturn, 1) := by decide +kernel
theorem dX7_rule_57 : decode cX7_rule 57 = .ok (.iconst (-1), 1) := by decide +kernel
theorem dX7_rule_58 : decode cX7_rule 58 = .ok (.ireturn, 1) := by decide +kernel
theorem dX7_diver_0 : decode cX7_diver 0 = .ok (.aload_n 0, 1) := by decide +kernel
theorem dX7_diver_1 : decode cX7_diver 1 = .ok (.iload_n 1, 1) := by decide +kernel
theorem dX7_diver_2 : decode cX7_diver 2 = .ok (.invokevirtual 116, 3) := by decide +kernel
theorem dX7_diver_5 : decode cX7_diver 5 = .ok (.ifCond .ne 6, 3) := by decide +kernel
theorem dX7_diver_8 : decode cX7_diver 8 = .ok (.ldc 120, 2) := by decide +kernel
theorem dX7_diver_10 : decode cX7_diver 10 = .ok (.ireturn, 1) := by decide +kernel
theorem dX7_diver_11 : decode cX7_diver 11 = .ok (.aload_n 0, 1) := by decide +kernel
theorem dX7_diver_12 : decode cX7_diver 12 = .ok (.getfield 26, 3) := by decide +kernel
theorem dX7_diver_15 : decode cX7_diver 15 = .ok (.getfield 121, 3) := by decide +kernel
theorem dX7_diver_18 : decode cX7_diver 18 = .ok (.iload_n 1, 1) := by decide +kernel
theorem dX7_diver_19 : decode cX7_diver 19 = .ok (.aaload, 1) := by decide +kernel
theorem dX7_diver_20 : decode cX7_diver 20 = .ok (.astore_n 3, 1) := by decide +kernel
theorem dX7_diver_21 : decode cX7_diver 21 = .ok (.iload_n 2, 1) := by decide +kernel
theorem dX7_diver_22 : decode cX7_diver 22 = .ok (.tableswitch 119 0 9 #[54, 59, 64, 69, 74, 82, 87, 92, 97, 102], 54) := by decide +kernel
theorem dX7_diver_76 : decode cX7_diver 76 = .ok (.aload_n 3, 1) := by decide +kernel
theorem dX7_diver_77 : decode cX7_diver 77 = .ok (.getfield 122, 3) := by decide +kernel
theorem dX7_diver_80 : decode cX7_diver 80 = .ok (.ireturn, 1) := by decide +kernel
theorem dX7_diver_81 : decode cX7_diver 81 = .ok (.aload_n 3, 1) := by decide +kernel
theorem dX7_diver_82 : decode cX7_diver 82 = .ok (.getfield 127, 3) := by decide +kernel
theorem dX7_diver_85 : decode cX7_diver 85 = .ok (.ireturn, 1) := by decide +kernel
theorem dX7_diver_86 : decode cX7_diver 86 = .ok (.aload_n 3, 1) := by decide +kernel
theorem dX7_diver_87 : decode cX7_diver 87 = .ok (.getfield 130, 3) := by decide +kernel
theorem dX7_diver_90 : decode cX7_diver 90 = .ok (.ireturn, 1) := by decide +kernel
theorem dX7_diver_91 : decode cX7_diver 91 = .ok (.aload_n 3, 1) := by decide +kernel
theorem dX7_diver_92 : decode cX7_diver 92 = .ok (.getfield 133, 3) := by decide +kernel
theorem dX7_diver_95 : decode cX7_diver 95 = .ok (.ireturn, 1) := by decide +kernel
theorem dX7_diver_96 : decode cX7_diver 96 = .ok (.aload_n 3, 1) := by decide +kernel
theorem dX7_diver_97 : decode cX7_diver 97 = .ok (.getfield 136, 3) := by decide +kernel
theorem dX7_diver_100 : decode cX7_diver 100 = .ok (.invokestatic 140, 3) := by decide +kernel
theorem dX7_diver_103 : decode cX7_diver 103 = .ok (.ireturn, 1) := by decide +kernel
theorem dX7_diver_104 : decode cX7_diver 104 = .ok (.aload_n 3, 1) := by decide +kernel
theorem dX7_diver_105 : decode cX7_diver 105 = .ok (.getfield 144, 3) := by decide +kernel
theorem dX7_diver_108 : decode cX7_diver 108 = .ok (.ireturn, 1) := by decide +kernel
theorem dX7_diver_109 : decode cX7_diver 109 = .ok (.aload_n 3, 1) := by decide +kernel
theorem dX7_diver_110 : decode cX7_diver 110 = .ok (.invokevirtual 147, 3) := by decide +kernel
theorem dX7_diver_113 : decode cX7_diver 113 = .ok (.ireturn, 1) := by decide +kernel
theorem dX7_diver_114 : decode cX7_diver 114 = .ok (.aload_n 3, 1) := by decide +kernel
theorem dX7_diver_115 : decode cX7_diver 115 = .ok (.getfield 151, 3) := by decide +kernel
theorem dX7_diver_118 : decode cX7_diver 118 = .ok (.ireturn, 1) := by decide +kernel
theorem dX7_diver_119 : decode cX7_diver 119 = .ok (.aload_n 3, 1) := by decide +kernel
theorem dX7_diver_120 : decode cX7_diver 120 = .ok (.getfield 154, 3) := by decide +kernel
theorem dX7_diver_123 : decode cX7_diver 123 = .ok (.ireturn, 1) := by decide +kernel
theorem dX7_diver_124 : decode cX7_diver 124 = .ok (.aload_n 0, 1) := by decide +kernel
theorem dX7_diver_125 : decode cX7_diver 125 = .ok (.aload_n 3, 1) := by decide +kernel
theorem dX7_diver_126 : decode cX7_diver 126 = .ok (.aload_n 3, 1) := by decide +kernel
theorem dX7_diver_127 : decode cX7_diver 127 = .ok (.invokevirtual 147, 3) := by decide +kernel
theorem dX7_diver_130 : decode cX7_diver 130 = .ok (.aload_n 0, 1) := by decide +kernel
theorem dX7_diver_131 : decode cX7_diver 131 = .ok (.getfield 26, 3) := by decide +kernel
theorem dX7_diver_134 : decode cX7_diver 134 = .ok (.getfield 157, 3) := by decide +kernel
theorem dX7_diver_137 : decode cX7_diver 137 = .ok (.invokevirtual 160, 3) := by decide +kernel
theorem dX7_diver_140 : decode cX7_diver 140 = .ok (.ireturn, 1) := by decide +kernel
theorem dX7_diver_141 : decode cX7_diver 141 = .ok (.ldc 120, 2) := by decide +kernel
theorem dX7_diver_143 : decode cX7_diver 143 = .ok (.ireturn, 1) := by decide +kernel
theorem dX7_thumb_0 : decode cX7_thumb 0 = .ok (.iload_n 1, 1) := by decide +kernel
theorem dX7_thumb_1 : decode cX7_thumb 1 = .ok (.invokestatic 164, 3) := by decide +kernel
theorem dX7_thumb_4 : decode cX7_thumb 4 = .ok (.ifCond .ne 5, 3) := by decide +kernel
theorem dX7_thumb_7 : decode cX7_thumb 7 = .ok (.iconst (-1), 1) := by decide +kernel
theorem dX7_thumb_8 : decode cX7_thumb 8 = .ok (.ireturn, 1) := by decide +kernel
theorem dX7_thumb_9 : decode cX7_thumb 9 = .ok (.aload_n 0, 1) := by decide +kernel
theorem dX7_thumb_10 : decode cX7_thumb 10 = .ok (.getfield 26, 3) := by decide +kernel
theorem dX7_thumb_13 : decode cX7_thumb 13 = .ok (.getfield 157, 3) := by decide +kernel
theorem dX7_thumb_16 : decode cX7_thumb 16 = .ok (.istore_n 2, 1) := by decide +kernel
theorem dX7_thumb_17 : decode cX7_thumb 17 = .ok (.aload_n 0, 1) := by decide +kernel
theorem dX7_thumb_18 : decode cX7_thumb 18 = .ok (.getfield 26, 3) := by decide +kernel
theorem dX7_thumb_21 : decode cX7_thumb 21 = .ok (.iload_n 1, 1) := by decide +kernel
theorem dX7_thumb_22 : decode cX7_thumb 22 = .ok (.putfield 157, 3) := by decide +kernel
theorem dX7_thumb_25 : decode cX7_thumb 25 = .ok (.iload_n 2, 1) := by decide +kernel
theorem dX7_thumb_26 : decode cX7_thumb 26 = .ok (.ireturn, 1) := by decide +kernel
theorem dX7_warm_0 : decode cX7_warm 0 = .ok (.iload_n 1, 1) := by decide +kernel
theorem dX7_warm_1 : decode cX7_warm 1 = .ok (.getstatic 167, 3) := by decide +kernel
theorem dX7_warm_4 : decode cX7_warm 4 = .ok (.iconst 2, 1) := by decide +kernel
theorem dX7_warm_5 : decode cX7_warm 5 = .ok (.iaload, 1) := by decide +kernel
theorem dX7_warm_6 : decode cX7_warm 6 = .ok (.getstatic 170, 3) := by decide +kernel
theorem dX7_warm_9 : decode cX7_warm 9 = .ok (.iconst 2, 1) := by decide +kernel
theorem dX7_warm_10 : decode cX7_warm 10 = .ok (.iaload, 1) := by decide +kernel
theorem dX7_warm_11 : decode cX7_warm 11 = .ok (.invokestatic 77, 3) := by decide +kernel
theorem dX7_warm_14 : decode cX7_warm 14 = .ok (.ifCond .ne 5, 3) := by decide +kernel
theorem dX7_warm_17 : decode cX7_warm 17 = .ok (.iconst (-1), 1) := by decide +kernel
theorem dX7_warm_18 : decode cX7_warm 18 = .ok (.ireturn, 1) := by decide +kernel
theorem dX7_warm_19 : decode cX7_warm 19 = .ok (.aload_n 0, 1) := by decide +kernel
theorem dX7_warm_20 : decode cX7_warm 20 = .ok (.getfield 26, 3) := by decide +kernel
theorem dX7_warm_23 : decode cX7_warm 23 = .ok (.getfield 66, 3) := by decide +kernel
theorem dX7_warm_26 : decode cX7_warm 26 = .ok (.istore_n 2, 1) := by decide +kernel
theorem dX7_warm_27 : decode cX7_warm 27 = .ok (.aload_n 0, 1) := by decide +kernel
theorem dX7_warm_28 : decode cX7_warm 28 = .ok (.getfield 26, 3) := by decide +kernel
theorem dX7_warm_31 : decode cX7_warm 31 = .ok (.iload_n 1, 1) := by decide +kernel
theorem dX7_warm_32 : decode cX7_warm 32 = .ok (.putfield 66, 3) := by decide +kernel
theorem dX7_warm_35 : decode cX7_warm 35 = .ok (.iload_n 2, 1) := by decide +kernel
theorem dX7_warm_36 : decode cX7_warm 36 = .ok (.ireturn, 1) := by decide +kernel
theorem dX7_go_0 : decode cX7_go 0 = .ok (.iload_n 1, 1) := by decide +kernel
theorem dX7_go_1 : decode cX7_go 1 = .ok (.iconst 1, 1) := by decide +kernel
theorem dX7_go_2 : decode cX7_go 2 = .ok (.sipush 999, 3) := by decide +kernel
theorem dX7_go_5 : decode cX7_go 5 = .ok (.invokestatic 77, 3) := by decide +kernel
theorem dX7_go_8 : decode cX7_go 8 = .ok (.ifCond .ne 5, 3) := by decide +kernel
theorem dX7_go_11 : decode cX7_go 11 = .ok (.iconst (-1), 1) := by decide +kernel
theorem dX7_go_12 : decode cX7_go 12 = .ok (.ireturn, 1) := by decide +kernel
theorem dX7_go_13 : decode cX7_go 13 = .ok (.iconst 0, 1) := by decide +kernel
theorem dX7_go_14 : decode cX7_go 14 = .ok (.istore_n 2, 1) := by decide +kernel
theorem dX7_go_15 : decode cX7_go 15 = .ok (.iload_n 2, 1) := by decide +kernel
theorem dX7_go_16 : decode cX7_go 16 = .ok (.iload_n 1, 1) := by decide +kernel
theorem dX7_go_17 : decode cX7_go 17 = .ok (.if_icmp .ge 54, 3) := by decide +kernel
theorem dX7_go_20 : decode cX7_go 20 = .ok (.iconst 0, 1) := by decide +kernel
theorem dX7_go_21 : decode cX7_go 21 = .ok (.istore_n 3, 1) := by decide +kernel
theorem dX7_go_22 : decode cX7_go 22 = .ok (.iload_n 3, 1) := by decide +kernel
theorem dX7_go_23 : decode cX7_go 23 = .ok (.aload_n 0, 1) := by decide +kernel
theorem dX7_go_24 : decode cX7_go 24 = .ok (.getfield 26, 3) := by decide +kernel
theorem dX7_go_27 : decode cX7_go 27 = .ok (.getfield 173, 3) := by decide +kernel
theorem dX7_go_30 : decode cX7_go 30 = .ok (.if_icmp .ge 22, 3) := by decide +kernel
theorem dX7_go_33 : decode cX7_go 33 = .ok (.aload_n 0, 1) := by decide +kernel
theorem dX7_go_34 : decode cX7_go 34 = .ok (.aload_n 0, 1) := by decide +kernel
theorem dX7_go_35 : decode cX7_go 35 = .ok (.getfield 26, 3) := by decide +kernel
theorem dX7_go_38 : decode cX7_go 38 = .ok (.getfield 121, 3) := by decide +kernel
theorem dX7_go_41 : decode cX7_go 41 = .ok (.iload_n 3, 1) := by decide +kernel
theorem dX7_go_42 : decode cX7_go 42 = .ok (.aaload, 1) := by decide +kernel
theorem dX7_go_43 : decode cX7_go 43 = .ok (.invokevirtual 174, 3) := by decide +kernel
theorem dX7_go_46 : decode cX7_go 46 = .ok (.iinc 3 1, 3) := by decide +kernel
theorem dX7_go_49 : decode cX7_go 49 = .ok (.goto (-27), 3) := by decide +kernel
theorem dX7_go_52 : decode cX7_go 52 = .ok (.aload_n 0, 1) := by decide +kernel
theorem dX7_go_53 : decode cX7_go 53 = .ok (.getfield 26, 3) := by decide +kernel
theorem dX7_go_56 : decode cX7_go 56 = .ok (.dup, 1) := by decide +kernel
theorem dX7_go_57 : decode cX7_go 57 = .ok (.getfield 178, 3) := by decide +kernel
theorem dX7_go_60 : decode cX7_go 60 = .ok (.iconst 1, 1) := by decide +kernel
theorem dX7_go_61 : decode cX7_go 61 = .ok (.iadd, 1) := by decide +kernel
theorem dX7_go_62 : decode cX7_go 62 = .ok (.putfield 178, 3) := by decide +kernel
theorem dX7_go_65 : decode cX7_go 65 = .ok (.iinc 2 1, 3) := by decide +kernel
theorem dX7_go_68 : decode cX7_go 68 = .ok (.goto (-53), 3) := by decide +kernel
theorem dX7_go_71 : decode cX7_go 71 = .ok (.aload_n 0, 1) := by decide +kernel
theorem dX7_go_72 : decode cX7_go 72 = .ok (.aload_n 0, 1) := by decide +kernel
theorem dX7_go_73 : decode cX7_go 73 = .ok (.getfield 19, 3) := by decide +kernel
theorem dX7_go_76 : decode cX7_go 76 = .ok (.invokevirtual 181, 3) := by decide +kernel
theorem dX7_go_79 : decode cX7_go 79 = .ok (.invokevirtual 184, 3) := by decide +kernel
theorem dX7_go_82 : decode cX7_go 82 = .ok (.ireturn, 1) := by decide +kernel
theorem dX7_set_0 : decode cX7_set 0 = .ok (.aload_n 0, 1) := by decide +kernel
theorem dX7_set_1 : decode cX7_set 1 = .ok (.iload_n 1, 1) := by decide +kernel
theorem dX7_set_2 : decode cX7_set 2 = .ok (.invokevirtual 116, 3) := by decide +kernel
theorem dX7_set_5 : decode cX7_set 5 = .ok (.ifCond .eq 11, 3) := by decide +kernel
theorem dX7_set_8 : decode cX7_set 8 = .ok (.aload_n 0, 1) := by decide +kernel
theorem dX7_set_9 : decode cX7_set 9 = .ok (.iload_n 2, 1) := by decide +kernel
theorem dX7_set_10 : decode cX7_set 10 = .ok (.invokevirtual 188, 3) := by decide +kernel
theorem dX7_set_13 : decode cX7_set 13 = .ok (.ifCond .ne 5, 3) := by decide +kernel
theorem dX7_set_16 : decode cX7_set 16 = .ok (.iconst (-1), 1) := by decide +kernel
theorem dX7_set_17 : decode cX7_set 17 = .ok (.ireturn, 1) := by decide +kernel
theorem dX7_set_18 : decode cX7_set 18 = .ok (.aload_n 0, 1) := by decide +kernel
theorem dX7_set_19 : decode cX7_set 19 = .ok (.getfield 26, 3) := by decide +kernel
theorem dX7_set_22 : decode cX7_set 22 = .ok (.getfield 121, 3) := by decide +kernel
theorem dX7_set_25 : decode cX7_set 25 = .ok (.iload_n 1, 1) := by decide +kernel
theorem dX7_set_26 : decode cX7_set 26 = .ok (.aaload, 1) := by decide +kernel
theorem dX7_set_27 : decode cX7_set 27 = .ok (.astore_n 3, 1) := by decide +kernel
theorem dX7_set_28 : decode cX7_set 28 = .ok (.aload_n 3, 1) := by decide +kernel
theorem dX7_set_29 : decode cX7_set 29 = .ok (.invokevirtual 147, 3) := by decide +kernel
theorem dX7_set_32 : decode cX7_set 32 = .ok (.istore 4, 2) := by decide +kernel
theorem dX7_set_34 : decode cX7_set 34 = .ok (.aload_n 3, 1) := by decide +kernel
theorem dX7_set_35 : decode cX7_set 35 = .ok (.iload_n 2, 1) := by decide +kernel
theorem dX7_set_36 : decode cX7_set 36 = .ok (.bipush 64, 2) := by decide +kernel
theorem dX7_set_38 : decode cX7_set 38 = .ok (.imul, 1) := by decide +kernel
theorem dX7_set_39 : decode cX7_set 39 = .ok (.putfield 151, 3) := by decide +kernel
theorem dX7_set_42 : decode cX7_set 42 = .ok (.aload_n 3, 1) := by decide +kernel
theorem dX7_set_43 : decode cX7_set 43 = .ok (.iconst 0, 1) := by decide +kernel
theorem dX7_set_44 : decode cX7_set 44 = .ok (.putfield 154, 3) := by decide +kernel
theorem dX7_set_47 : decode cX7_set 47 = .ok (.iload 4, 2) := by decide +kernel
theorem dX7_set_49 : decode cX7_set 49 = .ok (.ireturn, 1) := by decide +kernel
theorem dX7_now_0 : decode cX7_now 0 = .ok (.iload_n 1, 1) := by decide +kernel
theorem dX7_now_1 : decode cX7_now 1 = .ok (.tableswitch 92 0 5 #[39, 47, 55, 61, 73, 84], 39) := by decide +kernel
theorem dX7_now_40 : decode cX7_now 40 = .ok (.aload_n 0, 1) := by decide +kernel
theorem dX7_now_41 : decode cX7_now 41 = .ok (.getfield 26, 3) := by decide +kernel
theorem dX7_now_44 : decode cX7_now 44 = .ok (.getfield 178, 3) := by decide +kernel
theorem dX7_now_47 : decode cX7_now 47 = .ok (.ireturn, 1) := by decide +kernel
theorem dX7_now_48 : decode cX7_now 48 = .ok (.aload_n 0, 1) := by decide +kernel
theorem dX7_now_49 : decode cX7_now 49 = .ok (.getfield 26, 3) := by decide +kernel
theorem dX7_now_52 : decode cX7_now 52 = .ok (.getfield 157, 3) := by decide +kernel
theorem dX7_now_55 : decode cX7_now 55 = .ok (.ireturn, 1) := by decide +kernel
theorem dX7_now_56 : decode cX7_now 56 = .ok (.aload_n 0, 1) := by decide +kernel
theorem dX7_now_57 : decode cX7_now 57 = .ok (.iconst 0, 1) := by decide +kernel
theorem dX7_now_58 : decode cX7_now 58 = .ok (.invokevirtual 184, 3) := by decide +kernel
theorem dX7_now_61 : decode cX7_now 61 = .ok (.ireturn, 1) := by decide +kernel
theorem dX7_now_62 : decode cX7_now 62 = .ok (.aload_n 0, 1) := by decide +kernel
theorem dX7_now_63 : decode cX7_now 63 = .ok (.aload_n 0, 1) := by decide +kernel
theorem dX7_now_64 : decode cX7_now 64 = .ok (.getfield 19, 3) := by decide +kernel
theorem dX7_now_67 : decode cX7_now 67 = .ok (.invokevirtual 181, 3) := by decide +kernel
theorem dX7_now_70 : decode cX7_now 70 = .ok (.invokevirtual 184, 3) := by decide +kernel
theorem dX7_now_73 : decode cX7_now 73 = .ok (.ireturn, 1) := by decide +kernel
theorem dX7_now_74 : decode cX7_now 74 = .ok (.aload_n 0, 1) := by decide +kernel
theorem dX7_now_75 : decode cX7_now 75 = .ok (.getfield 26, 3) := by decide +kernel
theorem dX7_now_78 : decode cX7_now 78 = .ok (.getfield 191, 3) := by decide +kernel
theorem dX7_now_81 : decode cX7_now 81 = .ok (.invokestatic 140, 3) := by decide +kernel
theorem dX7_now_84 : decode cX7_now 84 = .ok (.ireturn, 1) := by decide +kernel
theorem dX7_now_85 : decode cX7_now 85 = .ok (.aload_n 0, 1) := by decide +kernel
theorem dX7_now_86 : decode cX7_now 86 = .ok (.getfield 26, 3) := by decide +kernel
theorem dX7_now_89 : decode cX7_now 89 = .ok (.getfield 194, 3) := by decide +kernel
theorem dX7_now_92 : decode cX7_now 92 = .ok (.ireturn, 1) := by decide +kernel
theorem dX7_now_93 : decode cX7_now 93 = .ok (.iconst (-1), 1) := by decide +kernel
theorem dX7_now_94 : decode cX7_now 94 = .ok (.ireturn, 1) := by decide +kernel
theorem dX7_drop_0 : decode cX7_drop 0 = .ok (.aload_n 0, 1) := by decide +kernel
theorem dX7_drop_1 : decode cX7_drop 1 = .ok (.getfield 19, 3) := by decide +kernel
theorem dX7_drop_4 : decode cX7_drop 4 = .ok (.getfield 62, 3) := by decide +kernel
theorem dX7_drop_7 : decode cX7_drop 7 = .ok (.bipush 6, 2) := by decide +kernel
theorem dX7_drop_9 : decode cX7_drop 9 = .ok (.iaload, 1) := by decide +kernel
theorem dX7_drop_10 : decode cX7_drop 10 = .ok (.ifCond .eq 13, 3) := by decide +kernel
theorem dX7_drop_13 : decode cX7_drop 13 = .ok (.aload_n 0, 1) := by decide +kernel
theorem dX7_drop_14 : decode cX7_drop 14 = .ok (.getfield 26, 3) := by decide +kernel
theorem dX7_drop_17 : decode cX7_drop 17 = .ok (.getfield 191, 3) := by decide +kernel
theorem dX7_drop_20 : decode cX7_drop 20 = .ok (.ifCond .eq 5, 3) := by decide +kernel
theorem dX7_drop_23 : decode cX7_drop 23 = .ok (.iconst 0, 1) := by decide +kernel
theorem dX7_drop_24 : decode cX7_drop 24 = .ok (.ireturn, 1) := by decide +kernel
theorem dX7_drop_25 : decode cX7_drop 25 = .ok (.iconst 0, 1) := by decide +kernel
theorem dX7_drop_26 : decode cX7_drop 26 = .ok (.istore_n 1, 1) := by decide +kernel
theorem dX7_drop_27 : decode cX7_drop 27 = .ok (.iload_n 1, 1) := by decide +kernel
theorem dX7_drop_28 : decode cX7_drop 28 = .ok (.aload_n 0, 1) := by decide +kernel
theorem dX7_drop_29 : decode cX7_drop 29 = .ok (.getfield 26, 3) := by decide +kernel
theorem dX7_drop_32 : decode cX7_drop 32 = .ok (.getfield 173, 3) := by decide +kernel
theorem dX7_drop_35 : decode cX7_drop 35 = .ok (.if_icmp .ge 22, 3) := by decide +kernel
theorem dX7_drop_38 : decode cX7_drop 38 = .ok (.aload_n 0, 1) := by decide +kernel
theorem dX7_drop_39 : decode cX7_drop 39 = .ok (.getfield 26, 3) := by decide +kernel
theorem dX7_drop_42 : decode cX7_drop 42 = .ok (.getfield 121, 3) := by decide +kernel
theorem dX7_drop_45 : decode cX7_drop 45 = .ok (.iload_n 1, 1) := by decide +kernel
theorem dX7_drop_46 : decode cX7_drop 46 = .ok (.aaload, 1) := by decide +kernel
theorem dX7_drop_47 : decode cX7_drop 47 = .ok (.iconst 0, 1) := by decide +kernel
theorem dX7_drop_48 : decode cX7_drop 48 = .ok (.putfield 144, 3) := by decide +kernel
theorem dX7_drop_51 : decode cX7_drop 51 = .ok (.iinc 1 1, 3) := by decide +kernel
theorem dX7_drop_54 : decode cX7_drop 54 = .ok (.goto (-27), 3) := by decide +kernel
theorem dX7_drop_57 : decode cX7_drop 57 = .ok (.aload_n 0, 1) := by decide +kernel
theorem dX7_drop_58 : decode cX7_drop 58 = .ok (.getfield 26, 3) := by decide +kernel
theorem dX7_drop_61 : decode cX7_drop 61 = .ok (.iconst 1, 1) := by decide +kernel
theorem dX7_drop_62 : decode cX7_drop 62 = .ok (.putfield 191, 3) := by decide +kernel
theorem dX7_drop_65 : decode cX7_drop 65 = .ok (.iconst 1, 1) := by decide +kernel
theorem dX7_drop_66 : decode cX7_drop 66 = .ok (.ireturn, 1) := by decide +kernel
theorem dX7_press_0 : decode cX7_press 0 = .ok (.aload_n 0, 1) := by decide +kernel
theorem dX7_press_1 : decode cX7_press 1 = .ok (.iload_n 1, 1) := by decide +kernel
theorem dX7_press_2 : decode cX7_press 2 = .ok (.invokevirtual 188, 3) := by decide +kernel
theorem dX7_press_5 : decode cX7_press 5 = .ok (.ifCond .eq 21, 3) := by decide +kernel
theorem dX7_press_8 : decode cX7_press 8 = .ok (.aload_n 0, 1) := by decide +kernel
theorem dX7_press_9 : decode cX7_press 9 = .ok (.getfield 19, 3) := by decide +kernel
theorem dX7_press_12 : decode cX7_press 12 = .ok (.iload_n 1, 1) := by decide +kernel
theorem dX7_press_13 : decode cX7_press 13 = .ok (.aload_n 0, 1) := by decide +kernel
theorem dX7_press_14 : decode cX7_press 14 = .ok (.getfield 26, 3) := by decide +kernel
theorem dX7_press_17 : decode cX7_press 17 = .ok (.getfield 157, 3) := by decide +kernel
theorem dX7_press_20 : decode cX7_press 20 = .ok (.invokevirtual 197, 3) := by decide +kernel
theorem dX7_press_23 : decode cX7_press 23 = .ok (.goto 4, 3) := by decide +kernel
theorem dX7_press_26 : decode cX7_press 26 = .ok (.iconst (-1), 1) := by decide +kernel
theorem dX7_press_27 : decode cX7_press 27 = .ok (.ireturn, 1) := by decide +kernel
theorem dX7_weighs_0 : decode cX7_weighs 0 = .ok (.aload_n 0, 1) := by decide +kernel
theorem dX7_weighs_1 : decode cX7_weighs 1 = .ok (.iload_n 1, 1) := by decide +kernel
theorem dX7_weighs_2 : decode cX7_weighs 2 = .ok (.invokevirtual 116, 3) := by decide +kernel
theorem dX7_weighs_5 : decode cX7_weighs 5 = .ok (.ifCond .eq 18, 3) := by decide +kernel
theorem dX7_weighs_8 : decode cX7_weighs 8 = .ok (.aload_n 0, 1) := by decide +kernel
theorem dX7_weighs_9 : decode cX7_weighs 9 = .ok (.iload_n 2, 1) := by decide +kernel
theorem dX7_weighs_10 : decode cX7_weighs 10 = .ok (.invokevirtual 188, 3) := by decide +kernel
theorem dX7_weighs_13 : decode cX7_weighs 13 = .ok (.ifCond .eq 10, 3) := by decide +kernel
theorem dX7_weighs_16 : decode cX7_weighs 16 = .ok (.iload_n 3, 1) := by decide +kernel
theorem dX7_weighs_17 : decode cX7_weighs 17 = .ok (.invokestatic 164, 3) := by decide +kernel
theorem dX7_weighs_20 : decode cX7_weighs 20 = .ok (.ifCond .ne 6, 3) := by decide +kernel
theorem dX7_weighs_23 : decode cX7_weighs 23 = .ok (.ldc 120, 2) := by decide +kernel
theorem dX7_weighs_25 : decode cX7_weighs 25 = .ok (.ireturn, 1) := by decide +kernel
theorem dX7_weighs_26 : decode cX7_weighs 26 = .ok (.aload_n 0, 1) := by decide +kernel
theorem dX7_weighs_27 : decode cX7_weighs 27 = .ok (.aload_n 0, 1) := by decide +kernel
theorem dX7_weighs_28 : decode cX7_weighs 28 = .ok (.getfield 26, 3) := by decide +kernel
theorem dX7_weighs_31 : decode cX7_weighs 31 = .ok (.getfield 121, 3) := by decide +kernel
theorem dX7_weighs_34 : decode cX7_weighs 34 = .ok (.iload_n 1, 1) := by decide +kernel
theorem dX7_weighs_35 : decode cX7_weighs 35 = .ok (.aaload, 1) := by decide +kernel
theorem dX7_weighs_36 : decode cX7_weighs 36 = .ok (.iload_n 2, 1) := by decide +kernel
theorem dX7_weighs_37 : decode cX7_weighs 37 = .ok (.iload_n 3, 1) := by decide +kernel
theorem dX7_weighs_38 : decode cX7_weighs 38 = .ok (.invokevirtual 160, 3) := by decide +kernel
theorem dX7_weighs_41 : decode cX7_weighs 41 = .ok (.ireturn, 1) := by decide +kernel
theorem dX7_turning_0 : decode cX7_turning 0 = .ok (.aload_n 0, 1) := by decide +kernel
theorem dX7_turning_1 : decode cX7_turning 1 = .ok (.iload_n 1, 1) := by decide +kernel
theorem dX7_turning_2 : decode cX7_turning 2 = .ok (.invokevirtual 116, 3) := by decide +kernel
theorem dX7_turning_5 : decode cX7_turning 5 = .ok (.ifCond .eq 10, 3) := by decide +kernel
theorem dX7_turning_8 : decode cX7_turning 8 = .ok (.iload_n 2, 1) := by decide +kernel
theorem dX7_turning_9 : decode cX7_turning 9 = .ok (.invokestatic 164, 3) := by decide +kernel
theorem dX7_turning_12 : decode cX7_turning 12 = .ok (.ifCond .ne 5, 3) := by decide +kernel
theorem dX7_turning_15 : decode cX7_turning 15 = .ok (.iconst (-1), 1) := by decide +kernel
theorem dX7_turning_16 : decode cX7_turning 16 = .ok (.ireturn, 1) := by decide +kernel
theorem dX7_turning_17 : decode cX7_turning 17 = .ok (.iconst 0, 1) := by decide +kernel
theorem dX7_turning_18 : decode cX7_turning 18 = .ok (.istore_n 3, 1) := by decide +kernel
theorem dX7_turning_19 : decode cX7_turning 19 = .ok (.iload_n 3, 1) := by decide +kernel
theorem dX7_turning_20 : decode cX7_turning 20 = .ok (.aload_n 0, 1) := by decide +kernel
theorem dX7_turning_21 : decode cX7_turning 21 = .ok (.getfield 19, 3) := by decide +kernel
theorem dX7_turning_24 : decode cX7_turning 24 = .ok (.getfield 62, 3) := by decide +kernel
theorem dX7_turning_27 : decode cX7_turning 27 = .ok (.iconst 0, 1) := by decide +kernel
theorem dX7_turning_28 : decode cX7_turning 28 = .ok (.iaload, 1) := by decide +kernel
theorem dX7_turning_29 : decode cX7_turning 29 = .ok (.if_icmp .gt 29, 3) := by decide +kernel
theorem dX7_turning_32 : decode cX7_turning 32 = .ok (.aload_n 0, 1) := by decide +kernel
theorem dX7_turning_33 : decode cX7_turning 33 = .ok (.aload_n 0, 1) := by decide +kernel
theorem dX7_turning_34 : decode cX7_turning 34 = .ok (.getfield 26, 3) := by decide +kernel
theorem dX7_turning_37 : decode cX7_turning 37 = .ok (.getfield 121, 3) := by decide +kernel
theorem dX7_turning_40 : decode cX7_turning 40 = .ok (.iload_n 1, 1) := by decide +kernel
theorem dX7_turning_41 : decode cX7_turning 41 = .ok (.aaload, 1) := by decide +kernel
theorem dX7_turning_42 : decode cX7_turning 42 = .ok (.iload_n 3, 1) := by decide +kernel
theorem dX7_turning_43 : decode cX7_turning 43 = .ok (.iload_n 2, 1) := by decide +kernel
theorem dX7_turning_44 : decode cX7_turning 44 = .ok (.invokevirtual 160, 3) := by decide +kernel
theorem dX7_turning_47 : decode cX7_turning 47 = .ok (.ifCond .lt 5, 3) := by decide +kernel
theorem dX7_turning_50 : decode cX7_turning 50 = .ok (.iload_n 3, 1) := by decide +kernel
theorem dX7_turning_51 : decode cX7_turning 51 = .ok (.ireturn, 1) := by decide +kernel
theorem dX7_turning_52 : decode cX7_turning 52 = .ok (.iinc 3 1, 3) := by decide +kernel
theorem dX7_turning_55 : decode cX7_turning 55 = .ok (.goto (-36), 3) := by decide +kernel
theorem dX7_turning_58 : decode cX7_turning 58 = .ok (.bipush (-4), 2) := by decide +kernel
theorem dX7_turning_60 : decode cX7_turning 60 = .ok (.ireturn, 1) := by decide +kernel
theorem dX7_holding_0 : decode cX7_holding 0 = .ok (.aload_n 0, 1) := by decide +kernel
theorem dX7_holding_1 : decode cX7_holding 1 = .ok (.iload_n 1, 1) := by decide +kernel
theorem dX7_holding_2 : decode cX7_holding 2 = .ok (.invokevirtual 116, 3) := by decide +kernel
theorem dX7_holding_5 : decode cX7_holding 5 = .ok (.ifCond .eq 10, 3) := by decide +kernel
theorem dX7_holding_8 : decode cX7_holding 8 = .ok (.iload_n 2, 1) := by decide +kernel
theorem dX7_holding_9 : decode cX7_holding 9 = .ok (.invokestatic 164, 3) := by decide +kernel
theorem dX7_holding_12 : decode cX7_holding 12 = .ok (.ifCond .ne 5, 3) := by decide +kernel
theorem dX7_holding_15 : decode cX7_holding 15 = .ok (.iconst (-1), 1) := by decide +kernel
theorem dX7_holding_16 : decode cX7_holding 16 = .ok (.ireturn, 1) := by decide +kernel
theorem dX7_holding_17 : decode cX7_holding 17 = .ok (.aload_n 0, 1) := by decide +kernel
theorem dX7_holding_18 : decode cX7_holding 18 = .ok (.aload_n 0, 1) := by decide +kernel
theorem dX7_holding_19 : decode cX7_holding 19 = .ok (.getfield 26, 3) := by decide +kernel
theorem dX7_holding_22 : decode cX7_holding 22 = .ok (.getfield 121, 3) := by decide +kernel
theorem dX7_holding_25 : decode cX7_holding 25 = .ok (.iload_n 1, 1) := by decide +kernel
theorem dX7_holding_26 : decode cX7_holding 26 = .ok (.aaload, 1) := by decide +kernel
theorem dX7_holding_27 : decode cX7_holding 27 = .ok (.iconst 0, 1) := by decide +kernel
theorem dX7_holding_28 : decode cX7_holding 28 = .ok (.iload_n 2, 1) := by decide +kernel
theorem dX7_holding_29 : decode cX7_holding 29 = .ok (.invokevirtual 160, 3) := by decide +kernel
theorem dX7_holding_32 : decode cX7_holding 32 = .ok (.istore_n 3, 1) := by decide +kernel
theorem dX7_holding_33 : decode cX7_holding 33 = .ok (.iconst 1, 1) := by decide +kernel
theorem dX7_holding_34 : decode cX7_holding 34 = .ok (.istore 4, 2) := by decide +kernel
theorem dX7_holding_36 : decode cX7_holding 36 = .ok (.iload 4, 2) := by decide +kernel
theorem dX7_holding_38 : decode cX7_holding 38 = .ok (.aload_n 0, 1) := by decide +kernel
theorem dX7_holding_39 : decode cX7_holding 39 = .ok (.getfield 19, 3) := by decide +kernel
theorem dX7_holding_42 : decode cX7_holding 42 = .ok (.getfield 62, 3) := by decide +kernel
theorem dX7_holding_45 : decode cX7_holding 45 = .ok (.iconst 0, 1) := by decide +kernel
theorem dX7_holding_46 : decode cX7_holding 46 = .ok (.iaload, 1) := by decide +kernel
theorem dX7_holding_47 : decode cX7_holding 47 = .ok (.if_icmp .gt 42, 3) := by decide +kernel
theorem dX7_holding_50 : decode cX7_holding 50 = .ok (.aload_n 0, 1) := by decide +kernel
theorem dX7_holding_51 : decode cX7_holding 51 = .ok (.aload_n 0, 1) := by decide +kernel
theorem dX7_holding_52 : decode cX7_holding 52 = .ok (.getfield 26, 3) := by decide +kernel
theorem dX7_holding_55 : decode cX7_holding 55 = .ok (.getfield 121, 3) := by decide +kernel
theorem dX7_holding_58 : decode cX7_holding 58 = .ok (.iload_n 1, 1) := by decide +kernel
