theorem dX0_init_0 : decode cX0_init 0 = .ok (.aload_n 0, 1) := by decide +kernel
theorem dX0_init_1 : decode cX0_init 1 = .ok (.invokespecial 1, 3) := by decide +kernel
theorem dX0_init_4 : decode cX0_init 4 = .ok (.aload_n 0, 1) := by decide +kernel
theorem dX0_init_5 : decode cX0_init 5 = .ok (.iload_n 1, 1) := by decide +kernel
theorem dX0_init_6 : decode cX0_init 6 = .ok (.putfield 7, 3) := by decide +kernel
theorem dX0_init_9 : decode cX0_init 9 = .ok (.aload_n 0, 1) := by decide +kernel
theorem dX0_init_10 : decode cX0_init 10 = .ok (.iload_n 2, 1) := by decide +kernel
theorem dX0_init_11 : decode cX0_init 11 = .ok (.putfield 13, 3) := by decide +kernel
theorem dX0_init_14 : decode cX0_init 14 = .ok (.aload_n 0, 1) := by decide +kernel
theorem dX0_init_15 : decode cX0_init 15 = .ok (.iload_n 3, 1) := by decide +kernel
theorem dX0_init_16 : decode cX0_init 16 = .ok (.putfield 16, 3) := by decide +kernel
theorem dX0_init_19 : decode cX0_init 19 = .ok (.return_, 1) := by decide +kernel
theorem dX0_freeze_0 : decode cX0_freeze 0 = .ok (.aload_n 0, 1) := by decide +kernel
theorem dX0_freeze_1 : decode cX0_freeze 1 = .ok (.getfield 16, 3) := by decide +kernel
theorem dX0_freeze_4 : decode cX0_freeze 4 = .ok (.aload_n 1, 1) := by decide +kernel
theorem dX0_freeze_5 : decode cX0_freeze 5 = .ok (.getfield 19, 3) := by decide +kernel
theorem dX0_freeze_8 : decode cX0_freeze 8 = .ok (.imul, 1) := by decide +kernel
theorem dX0_freeze_9 : decode cX0_freeze 9 = .ok (.bipush 100, 2) := by decide +kernel
theorem dX0_freeze_11 : decode cX0_freeze 11 = .ok (.idiv, 1) := by decide +kernel
theorem dX0_freeze_12 : decode cX0_freeze 12 = .ok (.ireturn, 1) := by decide +kernel
theorem dX0_runs_0 : decode cX0_runs 0 = .ok (.aload_n 2, 1) := by decide +kernel
theorem dX0_runs_1 : decode cX0_runs 1 = .ok (.bipush 10, 2) := by decide +kernel
theorem dX0_runs_3 : decode cX0_runs 3 = .ok (.invokevirtual 24, 3) := by decide +kernel
theorem dX0_runs_6 : decode cX0_runs 6 = .ok (.iload_n 1, 1) := by decide +kernel
theorem dX0_runs_7 : decode cX0_runs 7 = .ok (.aload_n 0, 1) := by decide +kernel
theorem dX0_runs_8 : decode cX0_runs 8 = .ok (.getfield 13, 3) := by decide +kernel
theorem dX0_runs_11 : decode cX0_runs 11 = .ok (.iadd, 1) := by decide +kernel
theorem dX0_runs_12 : decode cX0_runs 12 = .ok (.ireturn, 1) := by decide +kernel
theorem dX0_chills_0 : decode cX0_chills 0 = .ok (.aload_n 2, 1) := by decide +kernel
theorem dX0_chills_1 : decode cX0_chills 1 = .ok (.bipush 11, 2) := by decide +kernel
theorem dX0_chills_3 : decode cX0_chills 3 = .ok (.invokevirtual 24, 3) := by decide +kernel
theorem dX0_chills_6 : decode cX0_chills 6 = .ok (.aload_n 0, 1) := by decide +kernel
theorem dX0_chills_7 : decode cX0_chills 7 = .ok (.iload_n 1, 1) := by decide +kernel
theorem dX0_chills_8 : decode cX0_chills 8 = .ok (.aload_n 2, 1) := by decide +kernel
theorem dX0_chills_9 : decode cX0_chills 9 = .ok (.invokevirtual 30, 3) := by decide +kernel
theorem dX0_chills_12 : decode cX0_chills 12 = .ok (.iconst 2, 1) := by decide +kernel
theorem dX0_chills_13 : decode cX0_chills 13 = .ok (.imul, 1) := by decide +kernel
theorem dX0_chills_14 : decode cX0_chills 14 = .ok (.ireturn, 1) := by decide +kernel
theorem dX0_moves_0 : decode cX0_moves 0 = .ok (.aload_n 2, 1) := by decide +kernel
theorem dX0_moves_1 : decode cX0_moves 1 = .ok (.bipush 12, 2) := by decide +kernel
theorem dX0_moves_3 : decode cX0_moves 3 = .ok (.invokevirtual 24, 3) := by decide +kernel
theorem dX0_moves_6 : decode cX0_moves 6 = .ok (.iload_n 1, 1) := by decide +kernel
theorem dX0_moves_7 : decode cX0_moves 7 = .ok (.aload_n 0, 1) := by decide +kernel
theorem dX0_moves_8 : decode cX0_moves 8 = .ok (.getfield 16, 3) := by decide +kernel
theorem dX0_moves_11 : decode cX0_moves 11 = .ok (.isub, 1) := by decide +kernel
theorem dX0_moves_12 : decode cX0_moves 12 = .ok (.ireturn, 1) := by decide +kernel
theorem dX0_tells_0 : decode cX0_tells 0 = .ok (.aload_n 2, 1) := by decide +kernel
theorem dX0_tells_1 : decode cX0_tells 1 = .ok (.bipush 13, 2) := by decide +kernel
theorem dX0_tells_3 : decode cX0_tells 3 = .ok (.invokevirtual 24, 3) := by decide +kernel
theorem dX0_tells_6 : decode cX0_tells 6 = .ok (.aload_n 0, 1) := by decide +kernel
theorem dX0_tells_7 : decode cX0_tells 7 = .ok (.iload_n 1, 1) := by decide +kernel
theorem dX0_tells_8 : decode cX0_tells 8 = .ok (.aload_n 2, 1) := by decide +kernel
theorem dX0_tells_9 : decode cX0_tells 9 = .ok (.invokevirtual 34, 3) := by decide +kernel
theorem dX0_tells_12 : decode cX0_tells 12 = .ok (.aload_n 0, 1) := by decide +kernel
theorem dX0_tells_13 : decode cX0_tells 13 = .ok (.iload_n 1, 1) := by decide +kernel
theorem dX0_tells_14 : decode cX0_tells 14 = .ok (.aload_n 2, 1) := by decide +kernel
theorem dX0_tells_15 : decode cX0_tells 15 = .ok (.invokevirtual 37, 3) := by decide +kernel
theorem dX0_tells_18 : decode cX0_tells 18 = .ok (.ixor, 1) := by decide +kernel
theorem dX0_tells_19 : decode cX0_tells 19 = .ok (.ireturn, 1) := by decide +kernel
theorem dX1_init_0 : decode cX1_init 0 = .ok (.aload_n 0, 1) := by decide +kernel
theorem dX1_init_1 : decode cX1_init 1 = .ok (.iload_n 1, 1) := by decide +kernel
theorem dX1_init_2 : decode cX1_init 2 = .ok (.iload_n 2, 1) := by decide +kernel
theorem dX1_init_3 : decode cX1_init 3 = .ok (.iload_n 3, 1) := by decide +kernel
theorem dX1_init_4 : decode cX1_init 4 = .ok (.invokespecial 1, 3) := by decide +kernel
theorem dX1_init_7 : decode cX1_init 7 = .ok (.return_, 1) := by decide +kernel
theorem dX1_freeze_0 : decode cX1_freeze 0 = .ok (.iload_n 2, 1) := by decide +kernel
theorem dX1_freeze_1 : decode cX1_freeze 1 = .ok (.aload_n 1, 1) := by decide +kernel
theorem dX1_freeze_2 : decode cX1_freeze 2 = .ok (.getfield 7, 3) := by decide +kernel
theorem dX1_freeze_5 : decode cX1_freeze 5 = .ok (.iconst 1, 1) := by decide +kernel
theorem dX1_freeze_6 : decode cX1_freeze 6 = .ok (.isub, 1) := by decide +kernel
theorem dX1_freeze_7 : decode cX1_freeze 7 = .ok (.if_icmp .ne 17, 3) := by decide +kernel
theorem dX1_freeze_10 : decode cX1_freeze 10 = .ok (.aload_n 1, 1) := by decide +kernel
theorem dX1_freeze_11 : decode cX1_freeze 11 = .ok (.getfield 13, 3) := by decide +kernel
theorem dX1_freeze_14 : decode cX1_freeze 14 = .ok (.bipush 7, 2) := by decide +kernel
theorem dX1_freeze_16 : decode cX1_freeze 16 = .ok (.irem, 1) := by decide +kernel
theorem dX1_freeze_17 : decode cX1_freeze 17 = .ok (.ifCond .ne 7, 3) := by decide +kernel
theorem dX1_freeze_20 : decode cX1_freeze 20 = .ok (.iconst 1, 1) := by decide +kernel
theorem dX1_freeze_21 : decode cX1_freeze 21 = .ok (.goto 4, 3) := by decide +kernel
theorem dX1_freeze_24 : decode cX1_freeze 24 = .ok (.iconst 0, 1) := by decide +kernel
theorem dX1_freeze_25 : decode cX1_freeze 25 = .ok (.istore 5, 2) := by decide +kernel
theorem dX1_freeze_27 : decode cX1_freeze 27 = .ok (.aload_n 0, 1) := by decide +kernel
theorem dX1_freeze_28 : decode cX1_freeze 28 = .ok (.aload_n 1, 1) := by decide +kernel
theorem dX1_freeze_29 : decode cX1_freeze 29 = .ok (.iload_n 2, 1) := by decide +kernel
theorem dX1_freeze_30 : decode cX1_freeze 30 = .ok (.iload_n 3, 1) := by decide +kernel
theorem dX1_freeze_31 : decode cX1_freeze 31 = .ok (.iload 4, 2) := by decide +kernel
theorem dX1_freeze_33 : decode cX1_freeze 33 = .ok (.invokespecial 16, 3) := by decide +kernel
theorem dX1_freeze_36 : decode cX1_freeze 36 = .ok (.iload 5, 2) := by decide +kernel
theorem dX1_freeze_38 : decode cX1_freeze 38 = .ok (.ifCond .eq 10, 3) := by decide +kernel
theorem dX1_freeze_41 : decode cX1_freeze 41 = .ok (.aload_n 0, 1) := by decide +kernel
theorem dX1_freeze_42 : decode cX1_freeze 42 = .ok (.getfield 20, 3) := by decide +kernel
theorem dX1_freeze_45 : decode cX1_freeze 45 = .ok (.goto 4, 3) := by decide +kernel
theorem dX1_freeze_48 : decode cX1_freeze 48 = .ok (.iconst 0, 1) := by decide +kernel
theorem dX1_freeze_49 : decode cX1_freeze 49 = .ok (.iadd, 1) := by decide +kernel
theorem dX1_freeze_50 : decode cX1_freeze 50 = .ok (.ireturn, 1) := by decide +kernel
theorem dX1_chills_0 : decode cX1_chills 0 = .ok (.aload_n 2, 1) := by decide +kernel
theorem dX1_chills_1 : decode cX1_chills 1 = .ok (.bipush 70, 2) := by decide +kernel
theorem dX1_chills_3 : decode cX1_chills 3 = .ok (.invokevirtual 25, 3) := by decide +kernel
theorem dX1_chills_6 : decode cX1_chills 6 = .ok (.aload_n 0, 1) := by decide +kernel
theorem dX1_chills_7 : decode cX1_chills 7 = .ok (.iload_n 1, 1) := by decide +kernel
theorem dX1_chills_8 : decode cX1_chills 8 = .ok (.aload_n 2, 1) := by decide +kernel
theorem dX1_chills_9 : decode cX1_chills 9 = .ok (.invokespecial 31, 3) := by decide +kernel
theorem dX1_chills_12 : decode cX1_chills 12 = .ok (.aload_n 0, 1) := by decide +kernel
theorem dX1_chills_13 : decode cX1_chills 13 = .ok (.getfield 20, 3) := by decide +kernel
theorem dX1_chills_16 : decode cX1_chills 16 = .ok (.iadd, 1) := by decide +kernel
theorem dX1_chills_17 : decode cX1_chills 17 = .ok (.ireturn, 1) := by decide +kernel
theorem dX1_tells_0 : decode cX1_tells 0 = .ok (.aload_n 2, 1) := by decide +kernel
theorem dX1_tells_1 : decode cX1_tells 1 = .ok (.bipush 71, 2) := by decide +kernel
theorem dX1_tells_3 : decode cX1_tells 3 = .ok (.invokevirtual 25, 3) := by decide +kernel
theorem dX1_tells_6 : decode cX1_tells 6 = .ok (.aload_n 0, 1) := by decide +kernel
theorem dX1_tells_7 : decode cX1_tells 7 = .ok (.iload_n 1, 1) := by decide +kernel
theorem dX1_tells_8 : decode cX1_tells 8 = .ok (.aload_n 2, 1) := by decide +kernel
theorem dX1_tells_9 : decode cX1_tells 9 = .ok (.invokevirtual 35, 3) := by decide +kernel
theorem dX1_tells_12 : decode cX1_tells 12 = .ok (.aload_n 0, 1) := by decide +kernel
theorem dX1_tells_13 : decode cX1_tells 13 = .ok (.iload_n 1, 1) := by decide +kernel
theorem dX1_tells_14 : decode cX1_tells 14 = .ok (.aload_n 2, 1) := by decide +kernel
theorem dX1_tells_15 : decode cX1_tells 15 = .ok (.invokespecial 36, 3) := by decide +kernel
theorem dX1_tells_18 : decode cX1_tells 18 = .ok (.isub, 1) := by decide +kernel
theorem dX1_tells_19 : decode cX1_tells 19 = .ok (.ireturn, 1) := by decide +kernel
theorem dX2_init_0 : decode cX2_init 0 = .ok (.aload_n 0, 1) := by decide +kernel
theorem dX2_init_1 : decode cX2_init 1 = .ok (.invokespecial 3, 3) := by decide +kernel
theorem dX2_init_4 : decode cX2_init 4 = .ok (.aload_n 0, 1) := by decide +kernel
theorem dX2_init_5 : decode cX2_init 5 = .ok (.bipush 40, 2) := by decide +kernel
theorem dX2_init_7 : decode cX2_init 7 = .ok (.newarray .int, 2) := by decide +kernel
theorem dX2_init_9 : decode cX2_init 9 = .ok (.putfield 9, 3) := by decide +kernel
theorem dX2_init_12 : decode cX2_init 12 = .ok (.aload_n 0, 1) := by decide +kernel
theorem dX2_init_13 : decode cX2_init 13 = .ok (.bipush 40, 2) := by decide +kernel
theorem dX2_init_15 : decode cX2_init 15 = .ok (.newarray .int, 2) := by decide +kernel
theorem dX2_init_17 : decode cX2_init 17 = .ok (.putfield 15, 3) := by decide +kernel
theorem dX2_init_20 : decode cX2_init 20 = .ok (.aload_n 0, 1) := by decide +kernel
theorem dX2_init_21 : decode cX2_init 21 = .ok (.bipush 6, 2) := by decide +kernel
theorem dX2_init_23 : decode cX2_init 23 = .ok (.newarray .int, 2) := by decide +kernel
theorem dX2_init_25 : decode cX2_init 25 = .ok (.putfield 18, 3) := by decide +kernel
theorem dX2_init_28 : decode cX2_init 28 = .ok (.aload_n 0, 1) := by decide +kernel
theorem dX2_init_29 : decode cX2_init 29 = .ok (.bipush 6, 2) := by decide +kernel
theorem dX2_init_31 : decode cX2_init 31 = .ok (.anewarray 21, 3) := by decide +kernel
theorem dX2_init_34 : decode cX2_init 34 = .ok (.putfield 23, 3) := by decide +kernel
theorem dX2_init_37 : decode cX2_init 37 = .ok (.aload_n 0, 1) := by decide +kernel
theorem dX2_init_38 : decode cX2_init 38 = .ok (.iconst 2, 1) := by decide +kernel
theorem dX2_init_39 : decode cX2_init 39 = .ok (.anewarray 27, 3) := by decide +kernel
theorem dX2_init_42 : decode cX2_init 42 = .ok (.putfield 29, 3) := by decide +kernel
theorem dX2_init_45 : decode cX2_init 45 = .ok (.getstatic 33, 3) := by decide +kernel
theorem dX2_init_48 : decode cX2_init 48 = .ok (.iconst 0, 1) := by decide +kernel
theorem dX2_init_49 : decode cX2_init 49 = .ok (.aload_n 0, 1) := by decide +kernel
theorem dX2_init_50 : decode cX2_init 50 = .ok (.getfield 18, 3) := by decide +kernel
theorem dX2_init_53 : decode cX2_init 53 = .ok (.iconst 0, 1) := by decide +kernel
theorem dX2_init_54 : decode cX2_init 54 = .ok (.bipush 6, 2) := by decide +kernel
theorem dX2_init_56 : decode cX2_init 56 = .ok (.invokestatic 36, 3) := by decide +kernel
theorem dX2_init_59 : decode cX2_init 59 = .ok (.aload_n 0, 1) := by decide +kernel
theorem dX2_init_60 : decode cX2_init 60 = .ok (.invokevirtual 42, 3) := by decide +kernel
theorem dX2_init_63 : decode cX2_init 63 = .ok (.return_, 1) := by decide +kernel
theorem dX2_begin_0 : decode cX2_begin 0 = .ok (.aload_n 0, 1) := by decide +kernel
theorem dX2_begin_1 : decode cX2_begin 1 = .ok (.getfield 9, 3) := by decide +kernel
theorem dX2_begin_4 : decode cX2_begin 4 = .ok (.iconst 0, 1) := by decide +kernel
theorem dX2_begin_5 : decode cX2_begin 5 = .ok (.bipush 10, 2) := by decide +kernel
theorem dX2_begin_7 : decode cX2_begin 7 = .ok (.iastore, 1) := by decide +kernel
theorem dX2_begin_8 : decode cX2_begin 8 = .ok (.aload_n 0, 1) := by decide +kernel
theorem dX2_begin_9 : decode cX2_begin 9 = .ok (.getfield 15, 3) := by decide +kernel
theorem dX2_begin_12 : decode cX2_begin 12 = .ok (.iconst 0, 1) := by decide +kernel
theorem dX2_begin_13 : decode cX2_begin 13 = .ok (.iconst 0, 1) := by decide +kernel
theorem dX2_begin_14 : decode cX2_begin 14 = .ok (.iastore, 1) := by decide +kernel
theorem dX2_begin_15 : decode cX2_begin 15 = .ok (.aload_n 0, 1) := by decide +kernel
theorem dX2_begin_16 : decode cX2_begin 16 = .ok (.iconst 1, 1) := by decide +kernel
theorem dX2_begin_17 : decode cX2_begin 17 = .ok (.putfield 45, 3) := by decide +kernel
theorem dX2_begin_20 : decode cX2_begin 20 = .ok (.aload_n 0, 1) := by decide +kernel
theorem dX2_begin_21 : decode cX2_begin 21 = .ok (.iconst 0, 1) := by decide +kernel
theorem dX2_begin_22 : decode cX2_begin 22 = .ok (.putfield 49, 3) := by decide +kernel
theorem dX2_begin_25 : decode cX2_begin 25 = .ok (.aload_n 0, 1) := by decide +kernel
theorem dX2_begin_26 : decode cX2_begin 26 = .ok (.iconst 0, 1) := by decide +kernel
theorem dX2_begin_27 : decode cX2_begin 27 = .ok (.putfield 52, 3) := by decide +kernel
theorem dX2_begin_30 : decode cX2_begin 30 = .ok (.aload_n 0, 1) := by decide +kernel
theorem dX2_begin_31 : decode cX2_begin 31 = .ok (.iconst 0, 1) := by decide +kernel
theorem dX2_begin_32 : decode cX2_begin 32 = .ok (.putfield 55, 3) := by decide +kernel
theorem dX2_begin_35 : decode cX2_begin 35 = .ok (.return_, 1) := by decide +kernel
theorem dX2_become_0 : decode cX2_become 0 = .ok (.aload_n 0, 1) := by decide +kernel
theorem dX2_become_1 : decode cX2_become 1 = .ok (.aload_n 1, 1) := by decide +kernel
theorem dX2_become_2 : decode cX2_become 2 = .ok (.getfield 45, 3) := by decide +kernel
theorem dX2_become_5 : decode cX2_become 5 = .ok (.putfield 45, 3) := by decide +kernel
theorem dX2_become_8 : decode cX2_become 8 = .ok (.aload_n 0, 1) := by decide +kernel
theorem dX2_become_9 : decode cX2_become 9 = .ok (.aload_n 1, 1) := by decide +kernel
theorem dX2_become_10 : decode cX2_become 10 = .ok (.getfield 49, 3) := by decide +kernel
theorem dX2_become_13 : decode cX2_become 13 = .ok (.putfield 49, 3) := by decide +kernel
theorem dX2_become_16 : decode cX2_become 16 = .ok (.aload_n 0, 1) := by decide +kernel
theorem dX2_become_17 : decode cX2_become 17 = .ok (.aload_n 1, 1) := by decide +kernel
theorem dX2_become_18 : decode cX2_become 18 = .ok (.getfield 52, 3) := by decide +kernel
theorem dX2_become_21 : decode cX2_become 21 = .ok (.putfield 52, 3) := by decide +kernel
theorem dX2_become_24 : decode cX2_become 24 = .ok (.aload_n 0, 1) := by decide +kernel
theorem dX2_become_25 : decode cX2_become 25 = .ok (.aload_n 1, 1) := by decide +kernel
theorem dX2_become_26 : decode cX2_become 26 = .ok (.getfield 55, 3) := by decide +kernel
theorem dX2_become_29 : decode cX2_become 29 = .ok (.putfield 55, 3) := by decide +kernel
theorem dX2_become_32 : decode cX2_become 32 = .ok (.aload_n 0, 1) := by decide +kernel
theorem dX2_become_33 : decode cX2_become 33 = .ok (.aload_n 1, 1) := by decide +kernel
theorem dX2_become_34 : decode cX2_become 34 = .ok (.getfield 58, 3) := by decide +kernel
theorem dX2_become_37 : decode cX2_become 37 = .ok (.putfield 58, 3) := by decide +kernel
theorem dX2_become_40 : decode cX2_become 40 = .ok (.aload_n 0, 1) := by decide +kernel
theorem dX2_become_41 : decode cX2_become 41 = .ok (.aload_n 1, 1) := by decide +kernel
theorem dX2_become_42 : decode cX2_become 42 = .ok (.getfield 61, 3) := by decide +kernel
theorem dX2_become_45 : decode cX2_become 45 = .ok (.putfield 61, 3) := by decide +kernel
theorem dX2_become_48 : decode cX2_become 48 = .ok (.aload_n 1, 1) := by decide +kernel
theorem dX2_become_49 : decode cX2_become 49 = .ok (.getfield 9, 3) := by decide +kernel
theorem dX2_become_52 : decode cX2_become 52 = .ok (.iconst 0, 1) := by decide +kernel
theorem dX2_become_53 : decode cX2_become 53 = .ok (.aload_n 0, 1) := by decide +kernel
theorem dX2_become_54 : decode cX2_become 54 = .ok (.getfield 9, 3) := by decide +kernel
theorem dX2_become_57 : decode cX2_become 57 = .ok (.iconst 0, 1) := by decide +kernel
theorem dX2_become_58 : decode cX2_become 58 = .ok (.bipush 40, 2) := by decide +kernel
theorem dX2_become_60 : decode cX2_become 60 = .ok (.invokestatic 36, 3) := by decide +kernel
theorem dX2_become_63 : decode cX2_become 63 = .ok (.aload_n 1, 1) := by decide +kernel
theorem dX2_become_64 : decode cX2_become 64 = .ok (.getfield 15, 3) := by decide +kernel
theorem dX2_become_67 : decode cX2_become 67 = .ok (.iconst 0, 1) := by decide +kernel
theorem dX2_become_68 : decode cX2_become 68 = .ok (.aload_n 0, 1) := by decide +kernel
theorem dX2_become_69 : decode cX2_become 69 = .ok (.getfield 15, 3) := by decide +kernel
theorem dX2_become_72 : decode cX2_become 72 = .ok (.iconst 0, 1) := by decide +kernel
theorem dX2_become_73 : decode cX2_become 73 = .ok (.bipush 40, 2) := by decide +kernel
theorem dX2_become_75 : decode cX2_become 75 = .ok (.invokestatic 36, 3) := by decide +kernel
theorem dX2_become_78 : decode cX2_become 78 = .ok (.aload_n 1, 1) := by decide +kernel
theorem dX2_become_79 : decode cX2_become 79 = .ok (.getfield 18, 3) := by decide +kernel
theorem dX2_become_82 : decode cX2_become 82 = .ok (.iconst 0, 1) := by decide +kernel
theorem dX2_become_83 : decode cX2_become 83 = .ok (.aload_n 0, 1) := by decide +kernel
theorem dX2_become_84 : decode cX2_become 84 = .ok (.getfield 18, 3) := by decide +kernel
theorem dX2_become_87 : decode cX2_become 87 = .ok (.iconst 0, 1) := by decide +kernel
theorem dX2_become_88 : decode cX2_become 88 = .ok (.bipush 6, 2) := by decide +kernel
theorem dX2_become_90 : decode cX2_become 90 = .ok (.invokestatic 36, 3) := by decide +kernel
theorem dX2_become_93 : decode cX2_become 93 = .ok (.iconst 0, 1) := by decide +kernel
theorem dX2_become_94 : decode cX2_become 94 = .ok (.istore_n 2, 1) := by decide +kernel
theorem dX2_become_95 : decode cX2_become 95 = .ok (.iload_n 2, 1) := by decide +kernel
theorem dX2_become_96 : decode cX2_become 96 = .ok (.bipush 6, 2) := by decide +kernel
theorem dX2_become_98 : decode cX2_become 98 = .ok (.if_icmp .ge 21, 3) := by decide +kernel
theorem dX2_become_101 : decode cX2_become 101 = .ok (.aload_n 0, 1) := by decide +kernel
theorem dX2_become_102 : decode cX2_become 102 = .ok (.getfield 23, 3) := by decide +kernel
theorem dX2_become_105 : decode cX2_become 105 = .ok (.iload_n 2, 1) := by decide +kernel
theorem dX2_become_106 : decode cX2_become 106 = .ok (.aload_n 1, 1) := by decide +kernel
theorem dX2_become_107 : decode cX2_become 107 = .ok (.getfield 23, 3) := by decide +kernel
theorem dX2_become_110 : decode cX2_become 110 = .ok (.iload_n 2, 1) := by decide +kernel
theorem dX2_become_111 : decode cX2_become 111 = .ok (.aaload, 1) := by decide +kernel
theorem dX2_become_112 : decode cX2_become 112 = .ok (.aastore, 1) := by decide +kernel
theorem dX2_become_113 : decode cX2_become 113 = .ok (.iinc 2 1, 3) := by decide +kernel
theorem dX2_become_116 : decode cX2_become 116 = .ok (.goto (-21), 3) := by decide +kernel
theorem dX2_become_119 : decode cX2_become 119 = .ok (.iconst 0, 1) := by decide +kernel
theorem dX2_become_120 : decode cX2_become 120 = .ok (.istore_n 2, 1) := by decide +kernel
theorem dX2_become_121 : decode cX2_become 121 = .ok (.iload_n 2, 1) := by decide +kernel
theorem dX2_become_122 : decode cX2_become 122 = .ok (.iconst 2, 1) := by decide +kernel
theorem dX2_become_123 : decode cX2_become 123 = .ok (.if_icmp .ge 21, 3) := by decide +kernel
theorem dX2_become_126 : decode cX2_become 126 = .ok (.aload_n 0, 1) := by decide +kernel
theorem dX2_become_127 : decode cX2_become 127 = .ok (.getfield 29, 3) := by decide +kernel
theorem dX2_become_130 : decode cX2_become 130 = .ok (.iload_n 2, 1) := by decide +kernel
theorem dX2_become_131 : decode cX2_become 131 = .ok (.aload_n 1, 1) := by decide +kernel
theorem dX2_become_132 : decode cX2_become 132 = .ok (.getfield 29, 3) := by decide +kernel
theorem dX2_become_135 : decode cX2_become 135 = .ok (.iload_n 2, 1) := by decide +kernel
theorem dX2_become_136 : decode cX2_become 136 = .ok (.aaload, 1) := by decide +kernel
theorem dX2_become_137 : decode cX2_become 137 = .ok (.aastore, 1) := by decide +kernel
theorem dX2_become_138 : decode cX2_become 138 = .ok (.iinc 2 1, 3) := by decide +kernel
theorem dX2_become_141 : decode cX2_become 141 = .ok (.goto (-20), 3) := by decide +kernel
theorem dX2_become_144 : decode cX2_become 144 = .ok (.return_, 1) := by decide +kernel
theorem dX2_has_0 : decode cX2_has 0 = .ok (.iload_n 1, 1) := by decide +kernel
theorem dX2_has_1 : decode cX2_has 1 = .ok (.iconst 0, 1) := by decide +kernel
theorem dX2_has_2 : decode cX2_has 2 = .ok (.aload_n 0, 1) := by decide +kernel
theorem dX2_has_3 : decode cX2_has 3 = .ok (.getfield 45, 3) := by decide +kernel
theorem dX2_has_6 : decode cX2_has 6 = .ok (.iconst 1, 1) := by decide +kernel
theorem dX2_has_7 : decode cX2_has 7 = .ok (.isub, 1) := by decide +kernel
theorem dX2_has_8 : decode cX2_has 8 = .ok (.invokestatic 64, 3) := by decide +kernel
theorem dX2_has_11 : decode cX2_has 11 = .ok (.ireturn, 1) := by decide +kernel
theorem dX2_wideAt_0 : decode cX2_wideAt 0 = .ok (.aload_n 0, 1) := by decide +kernel
theorem dX2_wideAt_1 : decode cX2_wideAt 1 = .ok (.iload_n 1, 1) := by decide +kernel
theorem dX2_wideAt_2 : decode cX2_wideAt 2 = .ok (.invokevirtual 68, 3) := by decide +kernel
theorem dX2_wideAt_5 : decode cX2_wideAt 5 = .ok (.ifCond .eq 12, 3) := by decide +kernel
theorem dX2_wideAt_8 : decode cX2_wideAt 8 = .ok (.aload_n 0, 1) := by decide +kernel
theorem dX2_wideAt_9 : decode cX2_wideAt 9 = .ok (.getfield 9, 3) := by decide +kernel
theorem dX2_wideAt_12 : decode cX2_wideAt 12 = .ok (.iload_n 1, 1) := by decide +kernel
theorem dX2_wideAt_13 : decode cX2_wideAt 13 = .ok (.iaload, 1) := by decide +kernel
theorem dX2_wideAt_14 : decode cX2_wideAt 14 = .ok (.goto 4, 3) := by decide +kernel
theorem dX2_wideAt_17 : decode cX2_wideAt 17 = .ok (.iconst 0, 1) := by decide +kernel
theorem dX2_wideAt_18 : decode cX2_wideAt 18 = .ok (.ireturn, 1) := by decide +kernel
theorem dX2_saltAt_0 : decode cX2_saltAt 0 = .ok (.aload_n 0, 1) := by decide +kernel
theorem dX2_saltAt_1 : decode cX2_saltAt 1 = .ok (.iload_n 1, 1) := by decide +kernel
theorem dX2_saltAt_2 : decode cX2_saltAt 2 = .ok (.invokevirtual 68, 3) := by decide +kernel
theorem dX2_saltAt_5 : decode cX2_saltAt 5 = .ok (.ifCond .eq 12, 3) := by decide +kernel
theorem dX2_saltAt_8 : decode cX2_saltAt 8 = .ok (.aload_n 0, 1) := by decide +kernel
theorem dX2_saltAt_9 : decode cX2_saltAt 9 = .ok (.getfield 15, 3) := by decide +kernel
theorem dX2_saltAt_12 : decode cX2_saltAt 12 = .ok (.iload_n 1, 1) := by decide +kernel
theorem dX2_saltAt_13 : decode cX2_saltAt 13 = .ok (.iaload, 1) := by decide +kernel
theorem dX2_saltAt_14 : decode cX2_saltAt 14 = .ok (.goto 4, 3) := by decide +kernel
theorem dX2_saltAt_17 : decode cX2_saltAt 17 = .ok (.iconst 0, 1) := by decide +kernel
theorem dX2_saltAt_18 : decode cX2_saltAt 18 = .ok (.ireturn, 1) := by decide +kernel
theorem dX2_standsOut_0 : decode cX2_standsOut 0 = .ok (.iload_n 1, 1) := by decide +kernel
theorem dX2_standsOut_1 : decode cX2_standsOut 1 = .ok (.ifCond .lt 11, 3) := by decide +kernel
theorem dX2_standsOut_4 : decode cX2_standsOut 4 = .ok (.iload_n 1, 1) := by decide +kernel
theorem dX2_standsOut_5 : decode cX2_standsOut 5 = .ok (.aload_n 0, 1) := by decide +kernel
theorem dX2_standsOut_6 : decode cX2_standsOut 6 = .ok (.getfield 45, 3) := by decide +kernel
theorem dX2_standsOut_9 : decode cX2_standsOut 9 = .ok (.if_icmp .lt 5, 3) := by decide +kernel
theorem dX2_standsOut_12 : decode cX2_standsOut 12 = .ok (.iconst 0, 1) := by decide +kernel
theorem dX2_standsOut_13 : decode cX2_standsOut 13 = .ok (.ireturn, 1) := by decide +kernel
theorem dX2_standsOut_14 : decode cX2_standsOut 14 = .ok (.aload_n 0, 1) := by decide +kernel
theorem dX2_standsOut_15 : decode cX2_standsOut 15 = .ok (.getfield 9, 3) := by decide +kernel
theorem dX2_standsOut_18 : decode cX2_standsOut 18 = .ok (.iload_n 1, 1) := by decide +kernel
theorem dX2_standsOut_19 : decode cX2_standsOut 19 = .ok (.iaload, 1) := by decide +kernel
theorem dX2_standsOut_20 : decode cX2_standsOut 20 = .ok (.istore_n 2, 1) := by decide +kernel
theorem dX2_standsOut_21 : decode cX2_standsOut 21 = .ok (.iload_n 1, 1) := by decide +kernel
theorem dX2_standsOut_22 : decode cX2_standsOut 22 = .ok (.ifCond .le 14, 3) := by decide +kernel
theorem dX2_standsOut_25 : decode cX2_standsOut 25 = .ok (.aload_n 0, 1) := by decide +kernel
theorem dX2_standsOut_26 : decode cX2_standsOut 26 = .ok (.getfield 9, 3) := by decide +kernel
theorem dX2_standsOut_29 : decode cX2_standsOut 29 = .ok (.iload_n 1, 1) := by decide +kernel
theorem dX2_standsOut_30 : decode cX2_standsOut 30 = .ok (.iconst 1, 1) := by decide +kernel
theorem dX2_standsOut_31 : decode cX2_standsOut 31 = .ok (.isub, 1) := by decide +kernel
theorem dX2_standsOut_32 : decode cX2_standsOut 32 = .ok (.iaload, 1) := by decide +kernel
theorem dX2_standsOut_33 : decode cX2_standsOut 33 = .ok (.goto 4, 3) := by decide +kernel
theorem dX2_standsOut_36 : decode cX2_standsOut 36 = .ok (.iload_n 2, 1) := by decide +kernel
theorem dX2_standsOut_37 : decode cX2_standsOut 37 = .ok (.istore_n 3, 1) := by decide +kernel
theorem dX2_standsOut_38 : decode cX2_standsOut 38 = .ok (.iload_n 1, 1) := by decide +kernel
theorem dX2_standsOut_39 : decode cX2_standsOut 39 = .ok (.iconst 1, 1) := by decide +kernel
theorem dX2_standsOut_40 : decode cX2_standsOut 40 = .ok (.iadd, 1) := by decide +kernel
theorem dX2_standsOut_41 : decode cX2_standsOut 41 = .ok (.aload_n 0, 1) := by decide +kernel
theorem dX2_standsOut_42 : decode cX2_standsOut 42 = .ok (.getfield 45, 3) := by decide +kernel
theorem dX2_standsOut_45 : decode cX2_standsOut 45 = .ok (.if_icmp .ge 14, 3) := by decide +kernel
theorem dX2_standsOut_48 : decode cX2_standsOut 48 = .ok (.aload_n 0, 1) := by decide +kernel
theorem dX2_standsOut_49 : decode cX2_standsOut 49 = .ok (.getfield 9, 3) := by decide +kernel
theorem dX2_standsOut_52 : decode cX2_standsOut 52 = .ok (.iload_n 1, 1) := by decide +kernel
theorem dX2_standsOut_53 : decode cX2_standsOut 53 = .ok (.iconst 1, 1) := by decide +kernel
theorem dX2_standsOut_54 : decode cX2_standsOut 54 = .ok (.iadd, 1) := by decide +kernel
theorem dX2_standsOut_55 : decode cX2_standsOut 55 = .ok (.iaload, 1) := by decide +kernel
theorem dX2_standsOut_56 : decode cX2_standsOut 56 = .ok (.goto 4, 3) := by decide +kernel
theorem dX2_standsOut_59 : decode cX2_standsOut 59 = .ok (.iload_n 2, 1) := by decide +kernel
theorem dX2_standsOut_60 : decode cX2_standsOut 60 = .ok (.istore 4, 2) := by decide +kernel
theorem dX2_standsOut_62 : decode cX2_standsOut 62 = .ok (.iconst 2, 1) := by decide +kernel
theorem dX2_standsOut_63 : decode cX2_standsOut 63 = .ok (.iload_n 2, 1) := by decide +kernel
theorem dX2_standsOut_64 : decode cX2_standsOut 64 = .ok (.imul, 1) := by decide +kernel
theorem dX2_standsOut_65 : decode cX2_standsOut 65 = .ok (.iload_n 3, 1) := by decide +kernel
theorem dX2_standsOut_66 : decode cX2_standsOut 66 = .ok (.isub, 1) := by decide +kernel
theorem dX2_standsOut_67 : decode cX2_standsOut 67 = .ok (.iload 4, 2) := by decide +kernel
theorem dX2_standsOut_69 : decode cX2_standsOut 69 = .ok (.isub, 1) := by decide +kernel
theorem dX2_standsOut_70 : decode cX2_standsOut 70 = .ok (.ireturn, 1) := by decide +kernel
theorem dX2_given_0 : decode cX2_given 0 = .ok (.iload_n 1, 1) := by decide +kernel
theorem dX2_given_1 : decode cX2_given 1 = .ok (.iconst 0, 1) := by decide +kernel
theorem dX2_given_2 : decode cX2_given 2 = .ok (.iconst 1, 1) := by decide +kernel
theorem dX2_given_3 : decode cX2_given 3 = .ok (.invokestatic 64, 3) := by decide +kernel
theorem dX2_given_6 : decode cX2_given 6 = .ok (.ifCond .ne 5, 3) := by decide +kernel
theorem dX2_given_9 : decode cX2_given 9 = .ok (.iconst 0, 1) := by decide +kernel
theorem dX2_given_10 : decode cX2_given 10 = .ok (.ireturn, 1) := by decide +kernel
theorem dX2_given_11 : decode cX2_given 11 = .ok (.getstatic 72, 3) := by decide +kernel
theorem dX2_given_14 : decode cX2_given 14 = .ok (.iload_n 1, 1) := by decide +kernel
theorem dX2_given_15 : decode cX2_given 15 = .ok (.iaload, 1) := by decide +kernel
theorem dX2_given_16 : decode cX2_given 16 = .ok (.istore 5, 2) := by decide +kernel
theorem dX2_given_18 : decode cX2_given 18 = .ok (.aload_n 0, 1) := by decide +kernel
theorem dX2_given_19 : decode cX2_given 19 = .ok (.getfield 29, 3) := by decide +kernel
theorem dX2_given_22 : decode cX2_given 22 = .ok (.iload_n 1, 1) := by decide +kernel
theorem dX2_given_23 : decode cX2_given 23 = .ok (.aaload, 1) := by decide +kernel
theorem dX2_given_24 : decode cX2_given 24 = .ok (.astore 6, 2) := by decide +kernel
theorem dX2_given_26 : decode cX2_given 26 = .ok (.aload 6, 2) := by decide +kernel
theorem dX2_given_28 : decode cX2_given 28 = .ok (.ifnonnull 11, 3) := by decide +kernel
theorem dX2_given_31 : decode cX2_given 31 = .ok (.aload_n 0, 1) := by decide +kernel
theorem dX2_given_32 : decode cX2_given 32 = .ok (.getfield 18, 3) := by decide +kernel
theorem dX2_given_35 : decode cX2_given 35 = .ok (.iload 5, 2) := by decide +kernel
theorem dX2_given_37 : decode cX2_given 37 = .ok (.iaload, 1) := by decide +kernel
theorem dX2_given_38 : decode cX2_given 38 = .ok (.ireturn, 1) := by decide +kernel
theorem dX2_given_39 : decode cX2_given 39 = .ok (.getstatic 75, 3) := by decide +kernel
theorem dX2_given_42 : decode cX2_given 42 = .ok (.iload 5, 2) := by decide +kernel
theorem dX2_given_44 : decode cX2_given 44 = .ok (.iaload, 1) := by decide +kernel
theorem dX2_given_45 : decode cX2_given 45 = .ok (.aload 6, 2) := by decide +kernel
theorem dX2_given_47 : decode cX2_given 47 = .ok (.iload_n 2, 1) := by decide +kernel
theorem dX2_given_48 : decode cX2_given 48 = .ok (.iload_n 3, 1) := by decide +kernel
theorem dX2_given_49 : decode cX2_given 49 = .ok (.iload 4, 2) := by decide +kernel
theorem dX2_given_51 : decode cX2_given 51 = .ok (.invokevirtual 78, 3) := by decide +kernel
theorem dX2_given_54 : decode cX2_given 54 = .ok (.getstatic 82, 3) := by decide +kernel
theorem dX2_given_57 : decode cX2_given 57 = .ok (.iload 5, 2) := by decide +kernel
theorem dX2_given_59 : decode cX2_given 59 = .ok (.iaload, 1) := by decide +kernel
theorem dX2_given_60 : decode cX2_given 60 = .ok (.invokestatic 85, 3) := by decide +kernel
theorem dX2_given_63 : decode cX2_given 63 = .ok (.invokestatic 91, 3) := by decide +kernel
theorem dX2_given_66 : decode cX2_given 66 = .ok (.ireturn, 1) := by decide +kernel
theorem dX2_feel_0 : decode cX2_feel 0 = .ok (.aload_n 0, 1) := by decide +kernel
theorem dX2_feel_1 : decode cX2_feel 1 = .ok (.aload_n 0, 1) := by decide +kernel
theorem dX2_feel_2 : decode cX2_feel 2 = .ok (.iconst 1, 1) := by decide +kernel
theorem dX2_feel_3 : decode cX2_feel 3 = .ok (.aload_n 0, 1) := by decide +kernel
theorem dX2_feel_4 : decode cX2_feel 4 = .ok (.getfield 49, 3) := by decide +kernel
theorem dX2_feel_7 : decode cX2_feel 7 = .ok (.aload_n 0, 1) := by decide +kernel
theorem dX2_feel_8 : decode cX2_feel 8 = .ok (.getfield 18, 3) := by decide +kernel
theorem dX2_feel_11 : decode cX2_feel 11 = .ok (.iconst 0, 1) := by decide +kernel
theorem dX2_feel_12 : decode cX2_feel 12 = .ok (.iaload, 1) := by decide +kernel
theorem dX2_feel_13 : decode cX2_feel 13 = .ok (.aload_n 0, 1) := by decide +kernel
theorem dX2_feel_14 : decode cX2_feel 14 = .ok (.getfield 18, 3) := by decide +kernel
theorem dX2_feel_17 : decode cX2_feel 17 = .ok (.iconst 2, 1) := by decide +kernel
theorem dX2_feel_18 : decode cX2_feel 18 = .ok (.iaload, 1) := by decide +kernel
theorem dX2_feel_19 : decode cX2_feel 19 = .ok (.invokevirtual 94, 3) := by decide +kernel
theorem dX2_feel_22 : decode cX2_feel 22 = .ok (.putfield 98, 3) := by decide +kernel
theorem dX2_feel_25 : decode cX2_feel 25 = .ok (.aload_n 0, 1) := by decide +kernel
theorem dX2_feel_26 : decode cX2_feel 26 = .ok (.iload_n 1, 1) := by decide +kernel
theorem dX2_feel_27 : decode cX2_feel 27 = .ok (.putfield 101, 3) := by decide +kernel
theorem dX2_feel_30 : decode cX2_feel 30 = .ok (.return_, 1) := by decide +kernel
theorem dX2_go_0 : decode cX2_go 0 = .ok (.iconst 0, 1) := by decide +kernel
theorem dX2_go_1 : decode cX2_go 1 = .ok (.istore_n 2, 1) := by decide +kernel
theorem dX2_go_2 : decode cX2_go 2 = .ok (.iload_n 2, 1) := by decide +kernel
theorem dX2_go_3 : decode cX2_go 3 = .ok (.iload_n 1, 1) := by decide +kernel
theorem dX2_go_4 : decode cX2_go 4 = .ok (.if_icmp .ge 19, 3) := by decide +kernel
theorem dX2_go_7 : decode cX2_go 7 = .ok (.aload_n 0, 1) := by decide +kernel
theorem dX2_go_8 : decode cX2_go 8 = .ok (.aload_n 0, 1) := by decide +kernel
theorem dX2_go_9 : decode cX2_go 9 = .ok (.getfield 18, 3) := by decide +kernel
theorem dX2_go_12 : decode cX2_go 12 = .ok (.iconst 3, 1) := by decide +kernel
theorem dX2_go_13 : decode cX2_go 13 = .ok (.iaload, 1) := by decide +kernel
theorem dX2_go_14 : decode cX2_go 14 = .ok (.invokevirtual 104, 3) := by decide +kernel
theorem dX2_go_17 : decode cX2_go 17 = .ok (.iinc 2 1, 3) := by decide +kernel
theorem dX2_go_20 : decode cX2_go 20 = .ok (.goto (-18), 3) := by decide +kernel
theorem dX2_go_23 : decode cX2_go 23 = .ok (.return_, 1) := by decide +kernel
theorem dX2_pass_0 : decode cX2_pass 0 = .ok (.aload_n 0, 1) := by decide +kernel
theorem dX2_pass_1 : decode cX2_pass 1 = .ok (.iload_n 1, 1) := by decide +kernel
theorem dX2_pass_2 : decode cX2_pass 2 = .ok (.invokevirtual 108, 3) := by decide +kernel
theorem dX2_pass_5 : decode cX2_pass 5 = .ok (.aload_n 0, 1) := by decide +kernel
theorem dX2_pass_6 : decode cX2_pass 6 = .ok (.iconst 0, 1) := by decide +kernel
theorem dX2_pass_7 : decode cX2_pass 7 = .ok (.aload_n 0, 1) := by decide +kernel
theorem dX2_pass_8 : decode cX2_pass 8 = .ok (.getfield 49, 3) := by decide +kernel
theorem dX2_pass_11 : decode cX2_pass 11 = .ok (.aload_n 0, 1) := by decide +kernel
theorem dX2_pass_12 : decode cX2_pass 12 = .ok (.getfield 18, 3) := by decide +kernel
theorem dX2_pass_15 : decode cX2_pass 15 = .ok (.iconst 0, 1) := by decide +kernel
theorem dX2_pass_16 : decode cX2_pass 16 = .ok (.iaload, 1) := by decide +kernel
theorem dX2_pass_17 : decode cX2_pass 17 = .ok (.aload_n 0, 1) := by decide +kernel
theorem dX2_pass_18 : decode cX2_pass 18 = .ok (.getfield 18, 3) := by decide +kernel
theorem dX2_pass_21 : decode cX2_pass 21 = .ok (.iconst 2, 1) := by decide +kernel
theorem dX2_pass_22 : decode cX2_pass 22 = .ok (.iaload, 1) := by decide +kernel
theorem dX2_pass_23 : decode cX2_pass 23 = .ok (.invokevirtual 94, 3) := by decide +kernel
theorem dX2_pass_26 : decode cX2_pass 26 = .ok (.istore_n 2, 1) := by decide +kernel
theorem dX2_pass_27 : decode cX2_pass 27 = .ok (.iload_n 2, 1) := by decide +kernel
theorem dX2_pass_28 : decode cX2_pass 28 = .ok (.aload_n 0, 1) := by decide +kernel
theorem dX2_pass_29 : decode cX2_pass 29 = .ok (.getfield 18, 3) := by decide +kernel
theorem dX2_pass_32 : decode cX2_pass 32 = .ok (.iconst 1, 1) := by decide +kernel
theorem dX2_pass_33 : decode cX2_pass 33 = .ok (.iaload, 1) := by decide +kernel
theorem dX2_pass_34 : decode cX2_pass 34 = .ok (.imul, 1) := by decide +kernel
theorem dX2_pass_35 : decode cX2_pass 35 = .ok (.istore_n 3, 1) := by decide +kernel
theorem dX2_pass_36 : decode cX2_pass 36 = .ok (.iconst 0, 1) := by decide +kernel
theorem dX2_pass_37 : decode cX2_pass 37 = .ok (.istore 4, 2) := by decide +kernel
theorem dX2_pass_39 : decode cX2_pass 39 = .ok (.iload 4, 2) := by decide +kernel
theorem dX2_pass_41 : decode cX2_pass 41 = .ok (.aload_n 0, 1) := by decide +kernel
theorem dX2_pass_42 : decode cX2_pass 42 = .ok (.getfield 45, 3) := by decide +kernel
theorem dX2_pass_45 : decode cX2_pass 45 = .ok (.if_icmp .ge 101, 3) := by decide +kernel
theorem dX2_pass_48 : decode cX2_pass 48 = .ok (.iload_n 2, 1) := by decide +kernel
theorem dX2_pass_49 : decode cX2_pass 49 = .ok (.ifCond .le 97, 3) := by decide +kernel
theorem dX2_pass_52 : decode cX2_pass 52 = .ok (.iconst 0, 1) := by decide +kernel
theorem dX2_pass_53 : decode cX2_pass 53 = .ok (.aload_n 0, 1) := by decide +kernel
theorem dX2_pass_54 : decode cX2_pass 54 = .ok (.iload 4, 2) := by decide +kernel
theorem dX2_pass_56 : decode cX2_pass 56 = .ok (.iload_n 2, 1) := by decide +kernel
theorem dX2_pass_57 : decode cX2_pass 57 = .ok (.iload_n 3, 1) := by decide +kernel
theorem dX2_pass_58 : decode cX2_pass 58 = .ok (.invokevirtual 111, 3) := by decide +kernel
theorem dX2_pass_61 : decode cX2_pass 61 = .ok (.iload_n 2, 1) := by decide +kernel
theorem dX2_pass_62 : decode cX2_pass 62 = .ok (.invokestatic 85, 3) := by decide +kernel
theorem dX2_pass_65 : decode cX2_pass 65 = .ok (.invokestatic 91, 3) := by decide +kernel
theorem dX2_pass_68 : decode cX2_pass 68 = .ok (.istore 5, 2) := by decide +kernel
theorem dX2_pass_70 : decode cX2_pass 70 = .ok (.iload_n 3, 1) := by decide +kernel
theorem dX2_pass_71 : decode cX2_pass 71 = .ok (.i2l, 1) := by decide +kernel
theorem dX2_pass_72 : decode cX2_pass 72 = .ok (.iload 5, 2) := by decide +kernel
theorem dX2_pass_74 : decode cX2_pass 74 = .ok (.i2l, 1) := by decide +kernel
theorem dX2_pass_75 : decode cX2_pass 75 = .ok (.lmul, 1) := by decide +kernel
theorem dX2_pass_76 : decode cX2_pass 76 = .ok (.ldc2_w 114, 3) := by decide +kernel
theorem dX2_pass_79 : decode cX2_pass 79 = .ok (.iload_n 2, 1) := by decide +kernel
theorem dX2_pass_80 : decode cX2_pass 80 = .ok (.i2l, 1) := by decide +kernel
theorem dX2_pass_81 : decode cX2_pass 81 = .ok (.lmul, 1) := by decide +kernel
theorem dX2_pass_82 : decode cX2_pass 82 = .ok (.ldiv, 1) := by decide +kernel
theorem dX2_pass_83 : decode cX2_pass 83 = .ok (.l2i, 1) := by decide +kernel
theorem dX2_pass_84 : decode cX2_pass 84 = .ok (.istore 6, 2) := by decide +kernel
theorem dX2_pass_86 : decode cX2_pass 86 = .ok (.aload_n 0, 1) := by decide +kernel
theorem dX2_pass_87 : decode cX2_pass 87 = .ok (.getfield 9, 3) := by decide +kernel
theorem dX2_pass_90 : decode cX2_pass 90 = .ok (.iload 4, 2) := by decide +kernel
theorem dX2_pass_92 : decode cX2_pass 92 = .ok (.aload_n 0, 1) := by decide +kernel
theorem dX2_pass_93 : decode cX2_pass 93 = .ok (.getfield 9, 3) := by decide +kernel
theorem dX2_pass_96 : decode cX2_pass 96 = .ok (.iload 4, 2) := by decide +kernel
theorem dX2_pass_98 : decode cX2_pass 98 = .ok (.iaload, 1) := by decide +kernel
theorem dX2_pass_99 : decode cX2_pass 99 = .ok (.iload 5, 2) := by decide +kernel
theorem dX2_pass_101 : decode cX2_pass 101 = .ok (.iadd, 1) := by decide +kernel
theorem dX2_pass_102 : decode cX2_pass 102 = .ok (.ldc 116, 2) := by decide +kernel
theorem dX2_pass_104 : decode cX2_pass 104 = .ok (.invokestatic 85, 3) := by decide +kernel
theorem dX2_pass_107 : decode cX2_pass 107 = .ok (.iastore, 1) := by decide +kernel
theorem dX2_pass_108 : decode cX2_pass 108 = .ok (.aload_n 0, 1) := by decide +kernel
theorem dX2_pass_109 : decode cX2_pass 109 = .ok (.getfield 15, 3) := by decide +kernel
theorem dX2_pass_112 : decode cX2_pass 112 = .ok (.iload 4, 2) := by decide +kernel
theorem dX2_pass_114 : decode cX2_pass 114 = .ok (.aload_n 0, 1) := by decide +kernel
theorem dX2_pass_115 : decode cX2_pass 115 = .ok (.getfield 15, 3) := by decide +kernel
theorem dX2_pass_118 : decode cX2_pass 118 = .ok (.iload 4, 2) := by decide +kernel
theorem dX2_pass_120 : decode cX2_pass 120 = .ok (.iaload, 1) := by decide +kernel
theorem dX2_pass_121 : decode cX2_pass 121 = .ok (.iload 6, 2) := by decide +kernel
theorem dX2_pass_123 : decode cX2_pass 123 = .ok (.iadd, 1) := by decide +kernel
theorem dX2_pass_124 : decode cX2_pass 124 = .ok (.ldc 117, 2) := by decide +kernel
theorem dX2_pass_126 : decode cX2_pass 126 = .ok (.invokestatic 85, 3) := by decide +kernel
theorem dX2_pass_129 : decode cX2_pass 129 = .ok (.iastore, 1) := by decide +kernel
theorem dX2_pass_130 : decode cX2_pass 130 = .ok (.iload_n 2, 1) := by decide +kernel
theorem dX2_pass_131 : decode cX2_pass 131 = .ok (.iload 5, 2) := by decide +kernel
theorem dX2_pass_133 : decode cX2_pass 133 = .ok (.isub, 1) := by decide +kernel
theorem dX2_pass_134 : decode cX2_pass 134 = .ok (.istore_n 2, 1) := by decide +kernel
theorem dX2_pass_135 : decode cX2_pass 135 = .ok (.iload_n 3, 1) := by decide +kernel
theorem dX2_pass_136 : decode cX2_pass 136 = .ok (.iload 6, 2) := by decide +kernel
theorem dX2_pass_138 : decode cX2_pass 138 = .ok (.isub, 1) := by decide +kernel
theorem dX2_pass_139 : decode cX2_pass 139 = .ok (.istore_n 3, 1) := by decide +kernel
theorem dX2_pass_140 : decode cX2_pass 140 = .ok (.iinc 4 1, 3) := by decide +kernel
theorem dX2_pass_143 : decode cX2_pass 143 = .ok (.goto (-104), 3) := by decide +kernel
theorem dX2_pass_146 : decode cX2_pass 146 = .ok (.aload_n 0, 1) := by decide +kernel
theorem dX2_pass_147 : decode cX2_pass 147 = .ok (.iload_n 2, 1) := by decide +kernel
theorem dX2_pass_148 : decode cX2_pass 148 = .ok (.iload_n 3, 1) := by decide +kernel
theorem dX2_pass_149 : decode cX2_pass 149 = .ok (.invokevirtual 118, 3) := by decide +kernel
theorem dX2_pass_152 : decode cX2_pass 152 = .ok (.aload_n 0, 1) := by decide +kernel
theorem dX2_pass_153 : decode cX2_pass 153 = .ok (.dup, 1) := by decide +kernel
theorem dX2_pass_154 : decode cX2_pass 154 = .ok (.getfield 49, 3) := by decide +kernel
theorem dX2_pass_157 : decode cX2_pass 157 = .ok (.iconst 1, 1) := by decide +kernel
theorem dX2_pass_158 : decode cX2_pass 158 = .ok (.iadd, 1) := by decide +kernel
theorem dX2_pass_159 : decode cX2_pass 159 = .ok (.putfield 49, 3) := by decide +kernel
theorem dX2_pass_162 : decode cX2_pass 162 = .ok (.return_, 1) := by decide +kernel
theorem dX2_frozenAt_0 : decode cX2_frozenAt 0 = .ok (.iconst 0, 1) := by decide +kernel
theorem dX2_frozenAt_1 : decode cX2_frozenAt 1 = .ok (.istore 4, 2) := by decide +kernel
theorem dX2_frozenAt_3 : decode cX2_frozenAt 3 = .ok (.iconst 0, 1) := by decide +kernel
theorem dX2_frozenAt_4 : decode cX2_frozenAt 4 = .ok (.istore 5, 2) := by decide +kernel
theorem dX2_frozenAt_6 : decode cX2_frozenAt 6 = .ok (.iload 5, 2) := by decide +kernel
theorem dX2_frozenAt_8 : decode cX2_frozenAt 8 = .ok (.aload_n 0, 1) := by decide +kernel
theorem dX2_frozenAt_9 : decode cX2_frozenAt 9 = .ok (.getfield 58, 3) := by decide +kernel
theorem dX2_frozenAt_12 : decode cX2_frozenAt 12 = .ok (.if_icmp .ge 50, 3) := by decide +kernel
theorem dX2_frozenAt_15 : decode cX2_frozenAt 15 = .ok (.aload_n 0, 1) := by decide +kernel
theorem dX2_frozenAt_16 : decode cX2_frozenAt 16 = .ok (.getfield 23, 3) := by decide +kernel
theorem dX2_frozenAt_19 : decode cX2_frozenAt 19 = .ok (.iload 5, 2) := by decide +kernel
theorem dX2_frozenAt_21 : decode cX2_frozenAt 21 = .ok (.aaload, 1) := by decide +kernel
theorem dX2_frozenAt_22 : decode cX2_frozenAt 22 = .ok (.astore 6, 2) := by decide +kernel
theorem dX2_frozenAt_24 : decode cX2_frozenAt 24 = .ok (.aload_n 0, 1) := by decide +kernel
theorem dX2_frozenAt_25 : decode cX2_frozenAt 25 = .ok (.getfield 61, 3) := by decide +kernel
theorem dX2_frozenAt_28 : decode cX2_frozenAt 28 = .ok (.iload 5, 2) := by decide +kernel
theorem dX2_frozenAt_30 : decode cX2_frozenAt 30 = .ok (.ishr, 1) := by decide +kernel
theorem dX2_frozenAt_31 : decode cX2_frozenAt 31 = .ok (.iconst 1, 1) := by decide +kernel
theorem dX2_frozenAt_32 : decode cX2_frozenAt 32 = .ok (.iand, 1) := by decide +kernel
theorem dX2_frozenAt_33 : decode cX2_frozenAt 33 = .ok (.iconst 1, 1) := by decide +kernel
theorem dX2_frozenAt_34 : decode cX2_frozenAt 34 = .ok (.if_icmp .ne 22, 3) := by decide +kernel
theorem dX2_frozenAt_37 : decode cX2_frozenAt 37 = .ok (.aload 6, 2) := by decide +kernel
theorem dX2_frozenAt_39 : decode cX2_frozenAt 39 = .ok (.ifnull 17, 3) := by decide +kernel
theorem dX2_frozenAt_42 : decode cX2_frozenAt 42 = .ok (.iload 4, 2) := by decide +kernel
theorem dX2_frozenAt_44 : decode cX2_frozenAt 44 = .ok (.aload 6, 2) := by decide +kernel
theorem dX2_frozenAt_46 : decode cX2_frozenAt 46 = .ok (.aload_n 0, 1) := by decide +kernel
theorem dX2_frozenAt_47 : decode cX2_frozenAt 47 = .ok (.iload_n 1, 1) := by decide +kernel
theorem dX2_frozenAt_48 : decode cX2_frozenAt 48 = .ok (.iload_n 2, 1) := by decide +kernel
theorem dX2_frozenAt_49 : decode cX2_frozenAt 49 = .ok (.iload_n 3, 1) := by decide +kernel
theorem dX2_frozenAt_50 : decode cX2_frozenAt 50 = .ok (.invokevirtual 122, 3) := by decide +kernel
theorem dX2_frozenAt_53 : decode cX2_frozenAt 53 = .ok (.iadd, 1) := by decide +kernel
theorem dX2_frozenAt_54 : decode cX2_frozenAt 54 = .ok (.istore 4, 2) := by decide +kernel
theorem dX2_frozenAt_56 : decode cX2_frozenAt 56 = .ok (.iinc 5 1, 3) := by decide +kernel
theorem dX2_frozenAt_59 : decode cX2_frozenAt 59 = .ok (.goto (-53), 3) := by decide +kernel
theorem dX2_frozenAt_62 : decode cX2_frozenAt 62 = .ok (.iload 4, 2) := by decide +kernel
theorem dX2_frozenAt_64 : decode cX2_frozenAt 64 = .ok (.ireturn, 1) := by decide +kernel
theorem dX2_leave_0 : decode cX2_leave 0 = .ok (.iload_n 1, 1) := by decide +kernel
theorem dX2_leave_1 : decode cX2_leave 1 = .ok (.ifCond .ne 4, 3) := by decide +kernel
theorem dX2_leave_4 : decode cX2_leave 4 = .ok (.return_, 1) := by decide +kernel
theorem dX2_leave_5 : decode cX2_leave 5 = .ok (.iload_n 1, 1) := by decide +kernel
theorem dX2_leave_6 : decode cX2_leave 6 = .ok (.aload_n 0, 1) := by decide +kernel
theorem dX2_leave_7 : decode cX2_leave 7 = .ok (.getfield 18, 3) := by decide +kernel
theorem dX2_leave_10 : decode cX2_leave 10 = .ok (.iconst 4, 1) := by decide +kernel
theorem dX2_leave_11 : decode cX2_leave 11 = .ok (.iaload, 1) := by decide +kernel
theorem dX2_leave_12 : decode cX2_leave 12 = .ok (.if_icmp .ge 12, 3) := by decide +kernel
theorem dX2_leave_15 : decode cX2_leave 15 = .ok (.aload_n 0, 1) := by decide +kernel
theorem dX2_leave_16 : decode cX2_leave 16 = .ok (.getfield 45, 3) := by decide +kernel
theorem dX2_leave_19 : decode cX2_leave 19 = .ok (.bipush 40, 2) := by decide +kernel
theorem dX2_leave_21 : decode cX2_leave 21 = .ok (.if_icmp .lt 24, 3) := by decide +kernel
theorem dX2_leave_24 : decode cX2_leave 24 = .ok (.aload_n 0, 1) := by decide +kernel
theorem dX2_leave_25 : decode cX2_leave 25 = .ok (.dup, 1) := by decide +kernel
theorem dX2_leave_26 : decode cX2_leave 26 = .ok (.getfield 52, 3) := by decide +kernel
theorem dX2_leave_29 : decode cX2_leave 29 = .ok (.iload_n 1, 1) := by decide +kernel
theorem dX2_leave_30 : decode cX2_leave 30 = .ok (.iadd, 1) := by decide +kernel
theorem dX2_leave_31 : decode cX2_leave 31 = .ok (.putfield 52, 3) := by decide +kernel
theorem dX2_leave_34 : decode cX2_leave 34 = .ok (.aload_n 0, 1) := by decide +kernel
theorem dX2_leave_35 : decode cX2_leave 35 = .ok (.dup, 1) := by decide +kernel
theorem dX2_leave_36 : decode cX2_leave 36 = .ok (.getfield 55, 3) := by decide +kernel
theorem dX2_leave_39 : decode cX2_leave 39 = .ok (.iconst 1, 1) := by decide +kernel
theorem dX2_leave_40 : decode cX2_leave 40 = .ok (.iadd, 1) := by decide +kernel
theorem dX2_leave_41 : decode cX2_leave 41 = .ok (.putfield 55, 3) := by decide +kernel
theorem dX2_leave_44 : decode cX2_leave 44 = .ok (.return_, 1) := by decide +kernel
theorem dX2_leave_45 : decode cX2_leave 45 = .ok (.aload_n 0, 1) := by decide +kernel
theorem dX2_leave_46 : decode cX2_leave 46 = .ok (.getfield 9, 3) := by decide +kernel
theorem dX2_leave_49 : decode cX2_leave 49 = .ok (.aload_n 0, 1) := by decide +kernel
theorem dX2_leave_50 : decode cX2_leave 50 = .ok (.getfield 45, 3) := by decide +kernel
theorem dX2_leave_53 : decode cX2_leave 53 = .ok (.iload_n 1, 1) := by decide +kernel
theorem dX2_leave_54 : decode cX2_leave 54 = .ok (.ldc 116, 2) := by decide +kernel
theorem dX2_leave_56 : decode cX2_leave 56 = .ok (.invokestatic 85, 3) := by decide +kernel
theorem dX2_leave_59 : decode cX2_leave 59 = .ok (.iastore, 1) := by decide +kernel
theorem dX2_leave_60 : decode cX2_leave 60 = .ok (.aload_n 0, 1) := by decide +kernel
theorem dX2_leave_61 : decode cX2_leave 61 = .ok (.getfield 15, 3) := by decide +kernel
theorem dX2_leave_64 : decode cX2_leave 64 = .ok (.aload_n 0, 1) := by decide +kernel
theorem dX2_leave_65 : decode cX2_leave 65 = .ok (.getfield 45, 3) := by decide +kernel
theorem dX2_leave_68 : decode cX2_leave 68 = .ok (.iload_n 2, 1) := by decide +kernel
theorem dX2_leave_69 : decode cX2_leave 69 = .ok (.ldc 117, 2) := by decide +kernel
theorem dX2_leave_71 : decode cX2_leave 71 = .ok (.invokestatic 85, 3) := by decide +kernel
theorem dX2_leave_74 : decode cX2_leave 74 = .ok (.iastore, 1) := by decide +kernel
theorem dX2_leave_75 : decode cX2_leave 75 = .ok (.aload_n 0, 1) := by decide +kernel
theorem dX2_leave_76 : decode cX2_leave 76 = .ok (.dup, 1) := by decide +kernel
theorem dX2_leave_77 : decode cX2_leave 77 = .ok (.getfield 45, 3) := by decide +kernel
theorem dX2_leave_80 : decode cX2_leave 80 = .ok (.iconst 1, 1) := by decide +kernel
theorem dX2_leave_81 : decode cX2_leave 81 = .ok (.iadd, 1) := by decide +kernel
theorem dX2_leave_82 : decode cX2_leave 82 = .ok (.putfield 45, 3) := by decide +kernel
theorem dX2_leave_85 : decode cX2_leave 85 = .ok (.return_, 1) := by decide +kernel
theorem dX2_saltOfAll_0 : decode cX2_saltOfAll 0 = .ok (.iconst 0, 1) := by decide +kernel
theorem dX2_saltOfAll_1 : decode cX2_saltOfAll 1 = .ok (.istore_n 1, 1) := by decide +kernel
theorem dX2_saltOfAll_2 : decode cX2_saltOfAll 2 = .ok (.iconst 0, 1) := by decide +kernel
theorem dX2_saltOfAll_3 : decode cX2_saltOfAll 3 = .ok (.istore_n 2, 1) := by decide +kernel
theorem dX2_saltOfAll_4 : decode cX2_saltOfAll 4 = .ok (.iload_n 2, 1) := by decide +kernel
theorem dX2_saltOfAll_5 : decode cX2_saltOfAll 5 = .ok (.aload_n 0, 1) := by decide +kernel
theorem dX2_saltOfAll_6 : decode cX2_saltOfAll 6 = .ok (.getfield 45, 3) := by decide +kernel
theorem dX2_saltOfAll_9 : decode cX2_saltOfAll 9 = .ok (.if_icmp .ge 18, 3) := by decide +kernel
theorem dX2_saltOfAll_12 : decode cX2_saltOfAll 12 = .ok (.iload_n 1, 1) := by decide +kernel
theorem dX2_saltOfAll_13 : decode cX2_saltOfAll 13 = .ok (.aload_n 0, 1) := by decide +kernel
theorem dX2_saltOfAll_14 : decode cX2_saltOfAll 14 = .ok (.getfield 15, 3) := by decide +kernel
theorem dX2_saltOfAll_17 : decode cX2_saltOfAll 17 = .ok (.iload_n 2, 1) := by decide +kernel
theorem dX2_saltOfAll_18 : decode cX2_saltOfAll 18 = .ok (.iaload, 1) := by decide +kernel
theorem dX2_saltOfAll_19 : decode cX2_saltOfAll 19 = .ok (.iadd, 1) := by decide +kernel
theorem dX2_saltOfAll_20 : decode cX2_saltOfAll 20 = .ok (.istore_n 1, 1) := by decide +kernel
theorem dX2_saltOfAll_21 : decode cX2_saltOfAll 21 = .ok (.iinc 2 1, 3) := by decide +kernel
theorem dX2_saltOfAll_24 : decode cX2_saltOfAll 24 = .ok (.goto (-20), 3) := by decide +kernel
theorem dX2_saltOfAll_27 : decode cX2_saltOfAll 27 = .ok (.iload_n 1, 1) := by decide +kernel
theorem dX2_saltOfAll_28 : decode cX2_saltOfAll 28 = .ok (.ireturn, 1) := by decide +kernel
theorem dX2_massOfAll_0 : decode cX2_massOfAll 0 = .ok (.iconst 0, 1) := by decide +kernel
theorem dX2_massOfAll_1 : decode cX2_massOfAll 1 = .ok (.istore_n 1, 1) := by decide +kernel
theorem dX2_massOfAll_2 : decode cX2_massOfAll 2 = .ok (.iconst 0, 1) := by decide +kernel
theorem dX2_massOfAll_3 : decode cX2_massOfAll 3 = .ok (.istore_n 2, 1) := by decide +kernel
theorem dX2_massOfAll_4 : decode cX2_massOfAll 4 = .ok (.iload_n 2, 1) := by decide +kernel
theorem dX2_massOfAll_5 : decode cX2_massOfAll 5 = .ok (.aload_n 0, 1) := by decide +kernel
theorem dX2_massOfAll_6 : decode cX2_massOfAll 6 = .ok (.getfield 45, 3) := by decide +kernel
theorem dX2_massOfAll_9 : decode cX2_massOfAll 9 = .ok (.if_icmp .ge 18, 3) := by decide +kernel
theorem dX2_massOfAll_12 : decode cX2_massOfAll 12 = .ok (.iload_n 1, 1) := by decide +kernel
theorem dX2_massOfAll_13 : decode cX2_massOfAll 13 = .ok (.aload_n 0, 1) := by decide +kernel
theorem dX2_massOfAll_14 : decode cX2_massOfAll 14 = .ok (.getfield 9, 3) := by decide +kernel
theorem dX2_massOfAll_17 : decode cX2_massOfAll 17 = .ok (.iload_n 2, 1) := by decide +kernel
theorem dX2_massOfAll_18 : decode cX2_massOfAll 18 = .ok (.iaload, 1) := by decide +kernel
theorem dX2_massOfAll_19 : decode cX2_massOfAll 19 = .ok (.iadd, 1) := by decide +kernel
theorem dX2_massOfAll_20 : decode cX2_massOfAll 20 = .ok (.istore_n 1, 1) := by decide +kernel
theorem dX2_massOfAll_21 : decode cX2_massOfAll 21 = .ok (.iinc 2 1, 3) := by decide +kernel
theorem dX2_massOfAll_24 : decode cX2_massOfAll 24 = .ok (.goto (-20), 3) := by decide +kernel
theorem dX2_massOfAll_27 : decode cX2_massOfAll 27 = .ok (.iload_n 1, 1) := by decide +kernel
theorem dX2_massOfAll_28 : decode cX2_massOfAll 28 = .ok (.aload_n 0, 1) := by decide +kernel
theorem dX2_massOfAll_29 : decode cX2_massOfAll 29 = .ok (.invokevirtual 126, 3) := by decide +kernel
theorem dX2_massOfAll_32 : decode cX2_massOfAll 32 = .ok (.sipush 1000, 3) := by decide +kernel
theorem dX2_massOfAll_35 : decode cX2_massOfAll 35 = .ok (.idiv, 1) := by decide +kernel
theorem dX2_massOfAll_36 : decode cX2_massOfAll 36 = .ok (.iadd, 1) := by decide +kernel
theorem dX2_massOfAll_37 : decode cX2_massOfAll 37 = .ok (.ireturn, 1) := by decide +kernel
theorem dX2_hangsNotAfter_0 : decode cX2_hangsNotAfter 0 = .ok (.iconst 0, 1) := by decide +kernel
theorem dX2_hangsNotAfter_1 : decode cX2_hangsNotAfter 1 = .ok (.istore_n 2, 1) := by decide +kernel
theorem dX2_hangsNotAfter_2 : decode cX2_hangsNotAfter 2 = .ok (.iload_n 2, 1) := by decide +kernel
theorem dX2_hangsNotAfter_3 : decode cX2_hangsNotAfter 3 = .ok (.iload_n 1, 1) := by decide +kernel
theorem dX2_hangsNotAfter_4 : decode cX2_hangsNotAfter 4 = .ok (.if_icmp .gt 39, 3) := by decide +kernel
theorem dX2_hangsNotAfter_7 : decode cX2_hangsNotAfter 7 = .ok (.aload_n 0, 1) := by decide +kernel
theorem dX2_hangsNotAfter_8 : decode cX2_hangsNotAfter 8 = .ok (.invokevirtual 130, 3) := by decide +kernel
theorem dX2_hangsNotAfter_11 : decode cX2_hangsNotAfter 11 = .ok (.aload_n 0, 1) := by decide +kernel
theorem dX2_hangsNotAfter_12 : decode cX2_hangsNotAfter 12 = .ok (.getfield 18, 3) := by decide +kernel
theorem dX2_hangsNotAfter_15 : decode cX2_hangsNotAfter 15 = .ok (.iconst 5, 1) := by decide +kernel
theorem dX2_hangsNotAfter_16 : decode cX2_hangsNotAfter 16 = .ok (.iaload, 1) := by decide +kernel
theorem dX2_hangsNotAfter_17 : decode cX2_hangsNotAfter 17 = .ok (.if_icmp .le 5, 3) := by decide +kernel
theorem dX2_hangsNotAfter_20 : decode cX2_hangsNotAfter 20 = .ok (.iload_n 2, 1) := by decide +kernel
theorem dX2_hangsNotAfter_21 : decode cX2_hangsNotAfter 21 = .ok (.ireturn, 1) := by decide +kernel
theorem dX2_hangsNotAfter_22 : decode cX2_hangsNotAfter 22 = .ok (.iload_n 2, 1) := by decide +kernel
theorem dX2_hangsNotAfter_23 : decode cX2_hangsNotAfter 23 = .ok (.iload_n 1, 1) := by decide +kernel
theorem dX2_hangsNotAfter_24 : decode cX2_hangsNotAfter 24 = .ok (.if_icmp .ge 13, 3) := by decide +kernel
theorem dX2_hangsNotAfter_27 : decode cX2_hangsNotAfter 27 = .ok (.aload_n 0, 1) := by decide +kernel
theorem dX2_hangsNotAfter_28 : decode cX2_hangsNotAfter 28 = .ok (.aload_n 0, 1) := by decide +kernel
theorem dX2_hangsNotAfter_29 : decode cX2_hangsNotAfter 29 = .ok (.getfield 18, 3) := by decide +kernel
theorem dX2_hangsNotAfter_32 : decode cX2_hangsNotAfter 32 = .ok (.iconst 3, 1) := by decide +kernel
theorem dX2_hangsNotAfter_33 : decode cX2_hangsNotAfter 33 = .ok (.iaload, 1) := by decide +kernel
theorem dX2_hangsNotAfter_34 : decode cX2_hangsNotAfter 34 = .ok (.invokevirtual 104, 3) := by decide +kernel
theorem dX2_hangsNotAfter_37 : decode cX2_hangsNotAfter 37 = .ok (.iinc 2 1, 3) := by decide +kernel
theorem dX2_hangsNotAfter_40 : decode cX2_hangsNotAfter 40 = .ok (.goto (-38), 3) := by decide +kernel
theorem dX2_hangsNotAfter_43 : decode cX2_hangsNotAfter 43 = .ok (.iconst (-1), 1) := by decide +kernel
theorem dX2_hangsNotAfter_44 : decode cX2_hangsNotAfter 44 = .ok (.ireturn, 1) := by decide +kernel
theorem dX2_ringsInto_0 : decode cX2_ringsInto 0 = .ok (.aload_n 1, 1) := by decide +kernel
theorem dX2_ringsInto_1 : decode cX2_ringsInto 1 = .ok (.invokevirtual 133, 3) := by decide +kernel
theorem dX2_ringsInto_4 : decode cX2_ringsInto 4 = .ok (.iconst 0, 1) := by decide +kernel
theorem dX2_ringsInto_5 : decode cX2_ringsInto 5 = .ok (.istore_n 2, 1) := by decide +kernel
theorem dX2_ringsInto_6 : decode cX2_ringsInto 6 = .ok (.iload_n 2, 1) := by decide +kernel
theorem dX2_ringsInto_7 : decode cX2_ringsInto 7 = .ok (.aload_n 0, 1) := by decide +kernel
theorem dX2_ringsInto_8 : decode cX2_ringsInto 8 = .ok (.getfield 45, 3) := by decide +kernel
theorem dX2_ringsInto_11 : decode cX2_ringsInto 11 = .ok (.if_icmp .ge 84, 3) := by decide +kernel
theorem dX2_ringsInto_14 : decode cX2_ringsInto 14 = .ok (.aload_n 0, 1) := by decide +kernel
theorem dX2_ringsInto_15 : decode cX2_ringsInto 15 = .ok (.iload_n 2, 1) := by decide +kernel
theorem dX2_ringsInto_16 : decode cX2_ringsInto 16 = .ok (.invokevirtual 138, 3) := by decide +kernel
theorem dX2_ringsInto_19 : decode cX2_ringsInto 19 = .ok (.istore_n 3, 1) := by decide +kernel
theorem dX2_ringsInto_20 : decode cX2_ringsInto 20 = .ok (.iload_n 2, 1) := by decide +kernel
theorem dX2_ringsInto_21 : decode cX2_ringsInto 21 = .ok (.ifCond .eq 14, 3) := by decide +kernel
theorem dX2_ringsInto_24 : decode cX2_ringsInto 24 = .ok (.aload_n 0, 1) := by decide +kernel
theorem dX2_ringsInto_25 : decode cX2_ringsInto 25 = .ok (.iload_n 2, 1) := by decide +kernel
theorem dX2_ringsInto_26 : decode cX2_ringsInto 26 = .ok (.iconst 1, 1) := by decide +kernel
theorem dX2_ringsInto_27 : decode cX2_ringsInto 27 = .ok (.isub, 1) := by decide +kernel
theorem dX2_ringsInto_28 : decode cX2_ringsInto 28 = .ok (.invokevirtual 138, 3) := by decide +kernel
theorem dX2_ringsInto_31 : decode cX2_ringsInto 31 = .ok (.iload_n 3, 1) := by decide +kernel
theorem dX2_ringsInto_32 : decode cX2_ringsInto 32 = .ok (.if_icmp .ge 7, 3) := by decide +kernel
theorem dX2_ringsInto_35 : decode cX2_ringsInto 35 = .ok (.iconst 1, 1) := by decide +kernel
theorem dX2_ringsInto_36 : decode cX2_ringsInto 36 = .ok (.goto 4, 3) := by decide +kernel
theorem dX2_ringsInto_39 : decode cX2_ringsInto 39 = .ok (.iconst 0, 1) := by decide +kernel
theorem dX2_ringsInto_40 : decode cX2_ringsInto 40 = .ok (.istore 4, 2) := by decide +kernel
theorem dX2_ringsInto_42 : decode cX2_ringsInto 42 = .ok (.iload_n 2, 1) := by decide +kernel
theorem dX2_ringsInto_43 : decode cX2_ringsInto 43 = .ok (.aload_n 0, 1) := by decide +kernel
theorem dX2_ringsInto_44 : decode cX2_ringsInto 44 = .ok (.getfield 45, 3) := by decide +kernel
theorem dX2_ringsInto_47 : decode cX2_ringsInto 47 = .ok (.iconst 1, 1) := by decide +kernel
theorem dX2_ringsInto_48 : decode cX2_ringsInto 48 = .ok (.isub, 1) := by decide +kernel
theorem dX2_ringsInto_49 : decode cX2_ringsInto 49 = .ok (.if_icmp .eq 14, 3) := by decide +kernel
theorem dX2_ringsInto_52 : decode cX2_ringsInto 52 = .ok (.aload_n 0, 1) := by decide +kernel
theorem dX2_ringsInto_53 : decode cX2_ringsInto 53 = .ok (.iload_n 2, 1) := by decide +kernel
theorem dX2_ringsInto_54 : decode cX2_ringsInto 54 = .ok (.iconst 1, 1) := by decide +kernel
theorem dX2_ringsInto_55 : decode cX2_ringsInto 55 = .ok (.iadd, 1) := by decide +kernel
theorem dX2_ringsInto_56 : decode cX2_ringsInto 56 = .ok (.invokevirtual 138, 3) := by decide +kernel
theorem dX2_ringsInto_59 : decode cX2_ringsInto 59 = .ok (.iload_n 3, 1) := by decide +kernel
theorem dX2_ringsInto_60 : decode cX2_ringsInto 60 = .ok (.if_icmp .ge 7, 3) := by decide +kernel
theorem dX2_ringsInto_63 : decode cX2_ringsInto 63 = .ok (.iconst 1, 1) := by decide +kernel
theorem dX2_ringsInto_64 : decode cX2_ringsInto 64 = .ok (.goto 4, 3) := by decide +kernel
theorem dX2_ringsInto_67 : decode cX2_ringsInto 67 = .ok (.iconst 0, 1) := by decide +kernel
theorem dX2_ringsInto_68 : decode cX2_ringsInto 68 = .ok (.istore 5, 2) := by decide +kernel
theorem dX2_ringsInto_70 : decode cX2_ringsInto 70 = .ok (.iload_n 3, 1) := by decide +kernel
theorem dX2_ringsInto_71 : decode cX2_ringsInto 71 = .ok (.ifCond .le 18, 3) := by decide +kernel
theorem dX2_ringsInto_74 : decode cX2_ringsInto 74 = .ok (.iload 4, 2) := by decide +kernel
theorem dX2_ringsInto_76 : decode cX2_ringsInto 76 = .ok (.ifCond .eq 13, 3) := by decide +kernel
theorem dX2_ringsInto_79 : decode cX2_ringsInto 79 = .ok (.iload 5, 2) := by decide +kernel
theorem dX2_ringsInto_81 : decode cX2_ringsInto 81 = .ok (.ifCond .eq 8, 3) := by decide +kernel
theorem dX2_ringsInto_84 : decode cX2_ringsInto 84 = .ok (.aload_n 1, 1) := by decide +kernel
theorem dX2_ringsInto_85 : decode cX2_ringsInto 85 = .ok (.iload_n 2, 1) := by decide +kernel
theorem dX2_ringsInto_86 : decode cX2_ringsInto 86 = .ok (.invokevirtual 142, 3) := by decide +kernel
theorem dX2_ringsInto_89 : decode cX2_ringsInto 89 = .ok (.iinc 2 1, 3) := by decide +kernel
theorem dX2_ringsInto_92 : decode cX2_ringsInto 92 = .ok (.goto (-86), 3) := by decide +kernel
theorem dX2_ringsInto_95 : decode cX2_ringsInto 95 = .ok (.aload_n 1, 1) := by decide +kernel
theorem dX2_ringsInto_96 : decode cX2_ringsInto 96 = .ok (.getfield 145, 3) := by decide +kernel
theorem dX2_ringsInto_99 : decode cX2_ringsInto 99 = .ok (.ireturn, 1) := by decide +kernel
theorem dX2_widesInto_0 : decode cX2_widesInto 0 = .ok (.aload_n 1, 1) := by decide +kernel
theorem dX2_widesInto_1 : decode cX2_widesInto 1 = .ok (.invokevirtual 133, 3) := by decide +kernel
theorem dX2_widesInto_4 : decode cX2_widesInto 4 = .ok (.iconst 0, 1) := by decide +kernel
theorem dX2_widesInto_5 : decode cX2_widesInto 5 = .ok (.istore_n 2, 1) := by decide +kernel
theorem dX2_widesInto_6 : decode cX2_widesInto 6 = .ok (.iload_n 2, 1) := by decide +kernel
theorem dX2_widesInto_7 : decode cX2_widesInto 7 = .ok (.aload_n 0, 1) := by decide +kernel
theorem dX2_widesInto_8 : decode cX2_widesInto 8 = .ok (.getfield 45, 3) := by decide +kernel
theorem dX2_widesInto_11 : decode cX2_widesInto 11 = .ok (.if_icmp .ge 19, 3) := by decide +kernel
theorem dX2_widesInto_14 : decode cX2_widesInto 14 = .ok (.aload_n 1, 1) := by decide +kernel
theorem dX2_widesInto_15 : decode cX2_widesInto 15 = .ok (.aload_n 0, 1) := by decide +kernel
theorem dX2_widesInto_16 : decode cX2_widesInto 16 = .ok (.getfield 9, 3) := by decide +kernel
theorem dX2_widesInto_19 : decode cX2_widesInto 19 = .ok (.iload_n 2, 1) := by decide +kernel
theorem dX2_widesInto_20 : decode cX2_widesInto 20 = .ok (.iaload, 1) := by decide +kernel
theorem dX2_widesInto_21 : decode cX2_widesInto 21 = .ok (.invokevirtual 142, 3) := by decide +kernel
theorem dX2_widesInto_24 : decode cX2_widesInto 24 = .ok (.iinc 2 1, 3) := by decide +kernel
theorem dX2_widesInto_27 : decode cX2_widesInto 27 = .ok (.goto (-21), 3) := by decide +kernel
theorem dX2_widesInto_30 : decode cX2_widesInto 30 = .ok (.return_, 1) := by decide +kernel
theorem dX2_offBy_0 : decode cX2_offBy 0 = .ok (.aload_n 0, 1) := by decide +kernel
theorem dX2_offBy_1 : decode cX2_offBy 1 = .ok (.getfield 45, 3) := by decide +kernel
theorem dX2_offBy_4 : decode cX2_offBy 4 = .ok (.aload_n 1, 1) := by decide +kernel
theorem dX2_offBy_5 : decode cX2_offBy 5 = .ok (.getfield 145, 3) := by decide +kernel
theorem dX2_offBy_8 : decode cX2_offBy 8 = .ok (.invokestatic 91, 3) := by decide +kernel
theorem dX2_offBy_11 : decode cX2_offBy 11 = .ok (.istore_n 2, 1) := by decide +kernel
theorem dX2_offBy_12 : decode cX2_offBy 12 = .ok (.iconst 0, 1) := by decide +kernel
theorem dX2_offBy_13 : decode cX2_offBy 13 = .ok (.istore_n 3, 1) := by decide +kernel
theorem dX2_offBy_14 : decode cX2_offBy 14 = .ok (.iconst 0, 1) := by decide +kernel
theorem dX2_offBy_15 : decode cX2_offBy 15 = .ok (.istore 4, 2) := by decide +kernel
theorem dX2_offBy_17 : decode cX2_offBy 17 = .ok (.iload 4, 2) := by decide +kernel
theorem dX2_offBy_19 : decode cX2_offBy 19 = .ok (.iload_n 2, 1) := by decide +kernel
theorem dX2_offBy_20 : decode cX2_offBy 20 = .ok (.if_icmp .ge 41, 3) := by decide +kernel
theorem dX2_offBy_23 : decode cX2_offBy 23 = .ok (.aload_n 0, 1) := by decide +kernel
theorem dX2_offBy_24 : decode cX2_offBy 24 = .ok (.iload 4, 2) := by decide +kernel
theorem dX2_offBy_26 : decode cX2_offBy 26 = .ok (.invokevirtual 148, 3) := by decide +kernel
theorem dX2_offBy_29 : decode cX2_offBy 29 = .ok (.i2l, 1) := by decide +kernel
theorem dX2_offBy_30 : decode cX2_offBy 30 = .ok (.aload_n 1, 1) := by decide +kernel
theorem dX2_offBy_31 : decode cX2_offBy 31 = .ok (.iload 4, 2) := by decide +kernel
theorem dX2_offBy_33 : decode cX2_offBy 33 = .ok (.invokevirtual 151, 3) := by decide +kernel
theorem dX2_offBy_36 : decode cX2_offBy 36 = .ok (.i2l, 1) := by decide +kernel
theorem dX2_offBy_37 : decode cX2_offBy 37 = .ok (.lsub, 1) := by decide +kernel
theorem dX2_offBy_38 : decode cX2_offBy 38 = .ok (.invokestatic 154, 3) := by decide +kernel
theorem dX2_offBy_41 : decode cX2_offBy 41 = .ok (.lstore 5, 2) := by decide +kernel
theorem dX2_offBy_43 : decode cX2_offBy 43 = .ok (.iload_n 3, 1) := by decide +kernel
theorem dX2_offBy_44 : decode cX2_offBy 44 = .ok (.lload 5, 2) := by decide +kernel
theorem dX2_offBy_46 : decode cX2_offBy 46 = .ok (.ldc2_w 158, 3) := by decide +kernel
theorem dX2_offBy_49 : decode cX2_offBy 49 = .ok (.invokestatic 160, 3) := by decide +kernel
theorem dX2_offBy_52 : decode cX2_offBy 52 = .ok (.l2i, 1) := by decide +kernel
theorem dX2_offBy_53 : decode cX2_offBy 53 = .ok (.iadd, 1) := by decide +kernel
theorem dX2_offBy_54 : decode cX2_offBy 54 = .ok (.istore_n 3, 1) := by decide +kernel
theorem dX2_offBy_55 : decode cX2_offBy 55 = .ok (.iinc 4 1, 3) := by decide +kernel
theorem dX2_offBy_58 : decode cX2_offBy 58 = .ok (.goto (-41), 3) := by decide +kernel
theorem dX2_offBy_61 : decode cX2_offBy 61 = .ok (.iload_n 3, 1) := by decide +kernel
theorem dX2_offBy_62 : decode cX2_offBy 62 = .ok (.ireturn, 1) := by decide +kernel
theorem dX3_init_0 : decode cX3_init 0 = .ok (.aload_n 0, 1) := by decide +kernel
theorem dX3_init_1 : decode cX3_init 1 = .ok (.invokespecial 3, 3) := by decide +kernel
theorem dX3_init_4 : decode cX3_init 4 = .ok (.aload_n 0, 1) := by decide +kernel
theorem dX3_init_5 : decode cX3_init 5 = .ok (.new 9, 3) := by decide +kernel
theorem dX3_init_8 : decode cX3_init 8 = .ok (.dup, 1) := by decide +kernel
theorem dX3_init_9 : decode cX3_init 9 = .ok (.invokespecial 11, 3) := by decide +kernel
theorem dX3_init_12 : decode cX3_init 12 = .ok (.putfield 12, 3) := by decide +kernel
theorem dX3_init_15 : decode cX3_init 15 = .ok (.aload_n 0, 1) := by decide +kernel
theorem dX3_init_16 : decode cX3_init 16 = .ok (.new 18, 3) := by decide +kernel
theorem dX3_init_19 : decode cX3_init 19 = .ok (.dup, 1) := by decide +kernel
theorem dX3_init_20 : decode cX3_init 20 = .ok (.bipush 50, 2) := by decide +kernel
theorem dX3_init_22 : decode cX3_init 22 = .ok (.bipush 32, 2) := by decide +kernel
theorem dX3_init_24 : decode cX3_init 24 = .ok (.invokespecial 20, 3) := by decide +kernel
theorem dX3_init_27 : decode cX3_init 27 = .ok (.putfield 23, 3) := by decide +kernel
theorem dX3_init_30 : decode cX3_init 30 = .ok (.aload_n 0, 1) := by decide +kernel
theorem dX3_init_31 : decode cX3_init 31 = .ok (.new 18, 3) := by decide +kernel
theorem dX3_init_34 : decode cX3_init 34 = .ok (.dup, 1) := by decide +kernel
theorem dX3_init_35 : decode cX3_init 35 = .ok (.bipush 20, 2) := by decide +kernel
theorem dX3_init_37 : decode cX3_init 37 = .ok (.bipush 32, 2) := by decide +kernel
theorem dX3_init_39 : decode cX3_init 39 = .ok (.invokespecial 20, 3) := by decide +kernel
theorem dX3_init_42 : decode cX3_init 42 = .ok (.putfield 27, 3) := by decide +kernel
theorem dX3_init_45 : decode cX3_init 45 = .ok (.aload_n 0, 1) := by decide +kernel
theorem dX3_init_46 : decode cX3_init 46 = .ok (.new 18, 3) := by decide +kernel
theorem dX3_init_49 : decode cX3_init 49 = .ok (.dup, 1) := by decide +kernel
theorem dX3_init_50 : decode cX3_init 50 = .ok (.bipush 15, 2) := by decide +kernel
theorem dX3_init_52 : decode cX3_init 52 = .ok (.bipush 32, 2) := by decide +kernel
theorem dX3_init_54 : decode cX3_init 54 = .ok (.invokespecial 20, 3) := by decide +kernel
theorem dX3_init_57 : decode cX3_init 57 = .ok (.putfield 30, 3) := by decide +kernel
theorem dX3_init_60 : decode cX3_init 60 = .ok (.aload_n 0, 1) := by decide +kernel
theorem dX3_init_61 : decode cX3_init 61 = .ok (.iconst 1, 1) := by decide +kernel
theorem dX3_init_62 : decode cX3_init 62 = .ok (.putfield 33, 3) := by decide +kernel
theorem dX3_init_65 : decode cX3_init 65 = .ok (.return_, 1) := by decide +kernel
theorem dX3_boxCount_0 : decode cX3_boxCount 0 = .ok (.aload_n 0, 1) := by decide +kernel
theorem dX3_boxCount_1 : decode cX3_boxCount 1 = .ok (.getfield 30, 3) := by decide +kernel
theorem dX3_boxCount_4 : decode cX3_boxCount 4 = .ok (.getfield 37, 3) := by decide +kernel
theorem dX3_boxCount_7 : decode cX3_boxCount 7 = .ok (.iconst 3, 1) := by decide +kernel
theorem dX3_boxCount_8 : decode cX3_boxCount 8 = .ok (.idiv, 1) := by decide +kernel
theorem dX3_boxCount_9 : decode cX3_boxCount 9 = .ok (.ireturn, 1) := by decide +kernel
theorem dX3_drawn_0 : decode cX3_drawn 0 = .ok (.aload_n 0, 1) := by decide +kernel
theorem dX3_drawn_1 : decode cX3_drawn 1 = .ok (.aload_n 0, 1) := by decide +kernel
theorem dX3_drawn_2 : decode cX3_drawn 2 = .ok (.getfield 33, 3) := by decide +kernel
theorem dX3_drawn_5 : decode cX3_drawn 5 = .ok (.ldc 40, 2) := by decide +kernel
theorem dX3_drawn_7 : decode cX3_drawn 7 = .ok (.imul, 1) := by decide +kernel
theorem dX3_drawn_8 : decode cX3_drawn 8 = .ok (.sipush 12345, 3) := by decide +kernel
theorem dX3_drawn_11 : decode cX3_drawn 11 = .ok (.iadd, 1) := by decide +kernel
theorem dX3_drawn_12 : decode cX3_drawn 12 = .ok (.putfield 33, 3) := by decide +kernel
theorem dX3_drawn_15 : decode cX3_drawn 15 = .ok (.aload_n 0, 1) := by decide +kernel
theorem dX3_drawn_16 : decode cX3_drawn 16 = .ok (.getfield 33, 3) := by decide +kernel
theorem dX3_drawn_19 : decode cX3_drawn 19 = .ok (.bipush 8, 2) := by decide +kernel
theorem dX3_drawn_21 : decode cX3_drawn 21 = .ok (.iushr, 1) := by decide +kernel
theorem dX3_drawn_22 : decode cX3_drawn 22 = .ok (.ireturn, 1) := by decide +kernel
theorem dX3_become_0 : decode cX3_become 0 = .ok (.aload_n 0, 1) := by decide +kernel
theorem dX3_become_1 : decode cX3_become 1 = .ok (.getfield 12, 3) := by decide +kernel
theorem dX3_become_4 : decode cX3_become 4 = .ok (.aload_n 1, 1) := by decide +kernel
theorem dX3_become_5 : decode cX3_become 5 = .ok (.getfield 12, 3) := by decide +kernel
theorem dX3_become_8 : decode cX3_become 8 = .ok (.invokevirtual 41, 3) := by decide +kernel
theorem dX3_become_11 : decode cX3_become 11 = .ok (.aload_n 0, 1) := by decide +kernel
theorem dX3_become_12 : decode cX3_become 12 = .ok (.getfield 23, 3) := by decide +kernel
theorem dX3_become_15 : decode cX3_become 15 = .ok (.aload_n 1, 1) := by decide +kernel
theorem dX3_become_16 : decode cX3_become 16 = .ok (.getfield 23, 3) := by decide +kernel
theorem dX3_become_19 : decode cX3_become 19 = .ok (.invokevirtual 45, 3) := by decide +kernel
theorem dX3_become_22 : decode cX3_become 22 = .ok (.aload_n 0, 1) := by decide +kernel
theorem dX3_become_23 : decode cX3_become 23 = .ok (.getfield 27, 3) := by decide +kernel
theorem dX3_become_26 : decode cX3_become 26 = .ok (.aload_n 1, 1) := by decide +kernel
theorem dX3_become_27 : decode cX3_become 27 = .ok (.getfield 27, 3) := by decide +kernel
theorem dX3_become_30 : decode cX3_become 30 = .ok (.invokevirtual 45, 3) := by decide +kernel
theorem dX3_become_33 : decode cX3_become 33 = .ok (.aload_n 0, 1) := by decide +kernel
theorem dX3_become_34 : decode cX3_become 34 = .ok (.getfield 30, 3) := by decide +kernel
theorem dX3_become_37 : decode cX3_become 37 = .ok (.aload_n 1, 1) := by decide +kernel
theorem dX3_become_38 : decode cX3_become 38 = .ok (.getfield 30, 3) := by decide +kernel
theorem dX3_become_41 : decode cX3_become 41 = .ok (.invokevirtual 45, 3) := by decide +kernel
theorem dX3_become_44 : decode cX3_become 44 = .ok (.aload_n 0, 1) := by decide +kernel
theorem dX3_become_45 : decode cX3_become 45 = .ok (.aload_n 1, 1) := by decide +kernel
theorem dX3_become_46 : decode cX3_become 46 = .ok (.getfield 33, 3) := by decide +kernel
theorem dX3_become_49 : decode cX3_become 49 = .ok (.putfield 33, 3) := by decide +kernel
theorem dX3_become_52 : decode cX3_become 52 = .ok (.return_, 1) := by decide +kernel
theorem dX4_init_0 : decode cX4_init 0 = .ok (.aload_n 0, 1) := by decide +kernel
theorem dX4_init_1 : decode cX4_init 1 = .ok (.iload_n 1, 1) := by decide +kernel
theorem dX4_init_2 : decode cX4_init 2 = .ok (.iload_n 2, 1) := by decide +kernel
theorem dX4_init_3 : decode cX4_init 3 = .ok (.iload_n 3, 1) := by decide +kernel
theorem dX4_init_4 : decode cX4_init 4 = .ok (.invokespecial 1, 3) := by decide +kernel
theorem dX4_init_7 : decode cX4_init 7 = .ok (.return_, 1) := by decide +kernel
theorem dX4_freeze_0 : decode cX4_freeze 0 = .ok (.aload_n 0, 1) := by decide +kernel
theorem dX4_freeze_1 : decode cX4_freeze 1 = .ok (.aload_n 1, 1) := by decide +kernel
theorem dX4_freeze_2 : decode cX4_freeze 2 = .ok (.iload_n 2, 1) := by decide +kernel
theorem dX4_freeze_3 : decode cX4_freeze 3 = .ok (.iload_n 3, 1) := by decide +kernel
theorem dX4_freeze_4 : decode cX4_freeze 4 = .ok (.iload 4, 2) := by decide +kernel
theorem dX4_freeze_6 : decode cX4_freeze 6 = .ok (.invokespecial 7, 3) := by decide +kernel
theorem dX4_freeze_9 : decode cX4_freeze 9 = .ok (.istore 5, 2) := by decide +kernel
theorem dX4_freeze_11 : decode cX4_freeze 11 = .ok (.aload_n 1, 1) := by decide +kernel
theorem dX4_freeze_12 : decode cX4_freeze 12 = .ok (.getfield 11, 3) := by decide +kernel
theorem dX4_freeze_15 : decode cX4_freeze 15 = .ok (.bipush 20, 2) := by decide +kernel
theorem dX4_freeze_17 : decode cX4_freeze 17 = .ok (.if_icmp .le 17, 3) := by decide +kernel
theorem dX4_freeze_20 : decode cX4_freeze 20 = .ok (.iload_n 2, 1) := by decide +kernel
theorem dX4_freeze_21 : decode cX4_freeze 21 = .ok (.iconst 2, 1) := by decide +kernel
theorem dX4_freeze_22 : decode cX4_freeze 22 = .ok (.irem, 1) := by decide +kernel
theorem dX4_freeze_23 : decode cX4_freeze 23 = .ok (.iconst 1, 1) := by decide +kernel
theorem dX4_freeze_24 : decode cX4_freeze 24 = .ok (.if_icmp .ne 10, 3) := by decide +kernel
theorem dX4_freeze_27 : decode cX4_freeze 27 = .ok (.iconst 2, 1) := by decide +kernel
theorem dX4_freeze_28 : decode cX4_freeze 28 = .ok (.iload 5, 2) := by decide +kernel
theorem dX4_freeze_30 : decode cX4_freeze 30 = .ok (.imul, 1) := by decide +kernel
theorem dX4_freeze_31 : decode cX4_freeze 31 = .ok (.goto 5, 3) := by decide +kernel
theorem dX4_freeze_34 : decode cX4_freeze 34 = .ok (.iload 5, 2) := by decide +kernel
theorem dX4_freeze_36 : decode cX4_freeze 36 = .ok (.ireturn, 1) := by decide +kernel
theorem dX4_moves_0 : decode cX4_moves 0 = .ok (.aload_n 2, 1) := by decide +kernel
theorem dX4_moves_1 : decode cX4_moves 1 = .ok (.bipush 60, 2) := by decide +kernel
theorem dX4_moves_3 : decode cX4_moves 3 = .ok (.invokevirtual 17, 3) := by decide +kernel
theorem dX4_moves_6 : decode cX4_moves 6 = .ok (.aload_n 0, 1) := by decide +kernel
theorem dX4_moves_7 : decode cX4_moves 7 = .ok (.iload_n 1, 1) := by decide +kernel
theorem dX4_moves_8 : decode cX4_moves 8 = .ok (.aload_n 2, 1) := by decide +kernel
theorem dX4_moves_9 : decode cX4_moves 9 = .ok (.invokespecial 23, 3) := by decide +kernel
theorem dX4_moves_12 : decode cX4_moves 12 = .ok (.aload_n 0, 1) := by decide +kernel
theorem dX4_moves_13 : decode cX4_moves 13 = .ok (.getfield 27, 3) := by decide +kernel
theorem dX4_moves_16 : decode cX4_moves 16 = .ok (.ixor, 1) := by decide +kernel
theorem dX4_moves_17 : decode cX4_moves 17 = .ok (.ireturn, 1) := by decide +kernel
theorem dX5_init_0 : decode cX5_init 0 = .ok (.aload_n 0, 1) := by decide +kernel
theorem dX5_init_1 : decode cX5_init 1 = .ok (.iload_n 1, 1) := by decide +kernel
theorem dX5_init_2 : decode cX5_init 2 = .ok (.iload_n 2, 1) := by decide +kernel
theorem dX5_init_3 : decode cX5_init 3 = .ok (.iload_n 3, 1) := by decide +kernel
theorem dX5_init_4 : decode cX5_init 4 = .ok (.invokespecial 1, 3) := by decide +kernel
theorem dX5_init_7 : decode cX5_init 7 = .ok (.return_, 1) := by decide +kernel
theorem dX5_freeze_0 : decode cX5_freeze 0 = .ok (.aload_n 0, 1) := by decide +kernel
theorem dX5_freeze_1 : decode cX5_freeze 1 = .ok (.aload_n 1, 1) := by decide +kernel
theorem dX5_freeze_2 : decode cX5_freeze 2 = .ok (.iload_n 2, 1) := by decide +kernel
theorem dX5_freeze_3 : decode cX5_freeze 3 = .ok (.iload_n 3, 1) := by decide +kernel
theorem dX5_freeze_4 : decode cX5_freeze 4 = .ok (.iload 4, 2) := by decide +kernel
theorem dX5_freeze_6 : decode cX5_freeze 6 = .ok (.invokespecial 7, 3) := by decide +kernel
theorem dX5_freeze_9 : decode cX5_freeze 9 = .ok (.aload_n 0, 1) := by decide +kernel
theorem dX5_freeze_10 : decode cX5_freeze 10 = .ok (.getfield 11, 3) := by decide +kernel
theorem dX5_freeze_13 : decode cX5_freeze 13 = .ok (.aload_n 1, 1) := by decide +kernel
theorem dX5_freeze_14 : decode cX5_freeze 14 = .ok (.iload_n 2, 1) := by decide +kernel
theorem dX5_freeze_15 : decode cX5_freeze 15 = .ok (.invokevirtual 17, 3) := by decide +kernel
theorem dX5_freeze_18 : decode cX5_freeze 18 = .ok (.imul, 1) := by decide +kernel
theorem dX5_freeze_19 : decode cX5_freeze 19 = .ok (.bipush 100, 2) := by decide +kernel
theorem dX5_freeze_21 : decode cX5_freeze 21 = .ok (.idiv, 1) := by decide +kernel
theorem dX5_freeze_22 : decode cX5_freeze 22 = .ok (.iadd, 1) := by decide +kernel
theorem dX5_freeze_23 : decode cX5_freeze 23 = .ok (.ireturn, 1) := by decide +kernel
theorem dX5_moves_0 : decode cX5_moves 0 = .ok (.aload_n 2, 1) := by decide +kernel
theorem dX5_moves_1 : decode cX5_moves 1 = .ok (.bipush 40, 2) := by decide +kernel
theorem dX5_moves_3 : decode cX5_moves 3 = .ok (.invokevirtual 23, 3) := by decide +kernel
theorem dX5_moves_6 : decode cX5_moves 6 = .ok (.aload_n 0, 1) := by decide +kernel
theorem dX5_moves_7 : decode cX5_moves 7 = .ok (.iload_n 1, 1) := by decide +kernel
theorem dX5_moves_8 : decode cX5_moves 8 = .ok (.aload_n 2, 1) := by decide +kernel
theorem dX5_moves_9 : decode cX5_moves 9 = .ok (.invokespecial 29, 3) := by decide +kernel
theorem dX5_moves_12 : decode cX5_moves 12 = .ok (.ineg, 1) := by decide +kernel
theorem dX5_moves_13 : decode cX5_moves 13 = .ok (.ireturn, 1) := by decide +kernel
theorem dX5_runs_0 : decode cX5_runs 0 = .ok (.aload_n 2, 1) := by decide +kernel
theorem dX5_runs_1 : decode cX5_runs 1 = .ok (.bipush 41, 2) := by decide +kernel
theorem dX5_runs_3 : decode cX5_runs 3 = .ok (.invokevirtual 23, 3) := by decide +kernel
theorem dX5_runs_6 : decode cX5_runs 6 = .ok (.aload_n 0, 1) := by decide +kernel
theorem dX5_runs_7 : decode cX5_runs 7 = .ok (.iload_n 1, 1) := by decide +kernel
theorem dX5_runs_8 : decode cX5_runs 8 = .ok (.iconst 1, 1) := by decide +kernel
theorem dX5_runs_9 : decode cX5_runs 9 = .ok (.iadd, 1) := by decide +kernel
theorem dX5_runs_10 : decode cX5_runs 10 = .ok (.aload_n 2, 1) := by decide +kernel
theorem dX5_runs_11 : decode cX5_runs 11 = .ok (.invokespecial 33, 3) := by decide +kernel
theorem dX5_runs_14 : decode cX5_runs 14 = .ok (.ireturn, 1) := by decide +kernel
theorem dX6_init_0 : decode cX6_init 0 = .ok (.aload_n 0, 1) := by decide +kernel
theorem dX6_init_1 : decode cX6_init 1 = .ok (.invokespecial 1, 3) := by decide +kernel
theorem dX6_init_4 : decode cX6_init 4 = .ok (.aload_n 0, 1) := by decide +kernel
theorem dX6_init_5 : decode cX6_init 5 = .ok (.iload_n 1, 1) := by decide +kernel
theorem dX6_init_6 : decode cX6_init 6 = .ok (.iconst 0, 1) := by decide +kernel
theorem dX6_init_7 : decode cX6_init 7 = .ok (.invokestatic 7, 3) := by decide +kernel
theorem dX6_init_10 : decode cX6_init 10 = .ok (.newarray .int, 2) := by decide +kernel
theorem dX6_init_12 : decode cX6_init 12 = .ok (.putfield 13, 3) := by decide +kernel
theorem dX6_init_15 : decode cX6_init 15 = .ok (.aload_n 0, 1) := by decide +kernel
theorem dX6_init_16 : decode cX6_init 16 = .ok (.iconst 0, 1) := by decide +kernel
theorem dX6_init_17 : decode cX6_init 17 = .ok (.putfield 19, 3) := by decide +kernel
theorem dX6_init_20 : decode cX6_init 20 = .ok (.aload_n 0, 1) := by decide +kernel
theorem dX6_init_21 : decode cX6_init 21 = .ok (.iload_n 2, 1) := by decide +kernel
theorem dX6_init_22 : decode cX6_init 22 = .ok (.putfield 23, 3) := by decide +kernel
theorem dX6_init_25 : decode cX6_init 25 = .ok (.return_, 1) := by decide +kernel
theorem dX6_isMissing_0 : decode cX6_isMissing 0 = .ok (.aload_n 0, 1) := by decide +kernel
theorem dX6_isMissing_1 : decode cX6_isMissing 1 = .ok (.getfield 23, 3) := by decide +kernel
theorem dX6_isMissing_4 : decode cX6_isMissing 4 = .ok (.ifCond .ne 7, 3) := by decide +kernel
theorem dX6_isMissing_7 : decode cX6_isMissing 7 = .ok (.iconst 1, 1) := by decide +kernel
theorem dX6_isMissing_8 : decode cX6_isMissing 8 = .ok (.goto 4, 3) := by decide +kernel
theorem dX6_isMissing_11 : decode cX6_isMissing 11 = .ok (.iconst 0, 1) := by decide +kernel
theorem dX6_isMissing_12 : decode cX6_isMissing 12 = .ok (.ireturn, 1) := by decide +kernel
theorem dX6_at_0 : decode cX6_at 0 = .ok (.iload_n 1, 1) := by decide +kernel
theorem dX6_at_1 : decode cX6_at 1 = .ok (.iconst 0, 1) := by decide +kernel
theorem dX6_at_2 : decode cX6_at 2 = .ok (.aload_n 0, 1) := by decide +kernel
theorem dX6_at_3 : decode cX6_at 3 = .ok (.getfield 19, 3) := by decide +kernel
theorem dX6_at_6 : decode cX6_at 6 = .ok (.iconst 1, 1) := by decide +kernel
theorem dX6_at_7 : decode cX6_at 7 = .ok (.isub, 1) := by decide +kernel
theorem dX6_at_8 : decode cX6_at 8 = .ok (.invokestatic 26, 3) := by decide +kernel
theorem dX6_at_11 : decode cX6_at 11 = .ok (.ifCond .eq 12, 3) := by decide +kernel
theorem dX6_at_14 : decode cX6_at 14 = .ok (.aload_n 0, 1) := by decide +kernel
theorem dX6_at_15 : decode cX6_at 15 = .ok (.getfield 13, 3) := by decide +kernel
theorem dX6_at_18 : decode cX6_at 18 = .ok (.iload_n 1, 1) := by decide +kernel
theorem dX6_at_19 : decode cX6_at 19 = .ok (.iaload, 1) := by decide +kernel
theorem dX6_at_20 : decode cX6_at 20 = .ok (.goto 4, 3) := by decide +kernel
theorem dX6_at_23 : decode cX6_at 23 = .ok (.iconst 0, 1) := by decide +kernel
theorem dX6_at_24 : decode cX6_at 24 = .ok (.ireturn, 1) := by decide +kernel
theorem dX6_add_0 : decode cX6_add 0 = .ok (.aload_n 0, 1) := by decide +kernel
theorem dX6_add_1 : decode cX6_add 1 = .ok (.getfield 19, 3) := by decide +kernel
theorem dX6_add_4 : decode cX6_add 4 = .ok (.aload_n 0, 1) := by decide +kernel
theorem dX6_add_5 : decode cX6_add 5 = .ok (.getfield 13, 3) := by decide +kernel
theorem dX6_add_8 : decode cX6_add 8 = .ok (.arraylength, 1) := by decide +kernel
theorem dX6_add_9 : decode cX6_add 9 = .ok (.if_icmp .ge 23, 3) := by decide +kernel
theorem dX6_add_12 : decode cX6_add 12 = .ok (.aload_n 0, 1) := by decide +kernel
theorem dX6_add_13 : decode cX6_add 13 = .ok (.getfield 13, 3) := by decide +kernel
theorem dX6_add_16 : decode cX6_add 16 = .ok (.aload_n 0, 1) := by decide +kernel
theorem dX6_add_17 : decode cX6_add 17 = .ok (.getfield 19, 3) := by decide +kernel
theorem dX6_add_20 : decode cX6_add 20 = .ok (.iload_n 1, 1) := by decide +kernel
theorem dX6_add_21 : decode cX6_add 21 = .ok (.iastore, 1) := by decide +kernel
theorem dX6_add_22 : decode cX6_add 22 = .ok (.aload_n 0, 1) := by decide +kernel
theorem dX6_add_23 : decode cX6_add 23 = .ok (.dup, 1) := by decide +kernel
theorem dX6_add_24 : decode cX6_add 24 = .ok (.getfield 19, 3) := by decide +kernel
theorem dX6_add_27 : decode cX6_add 27 = .ok (.iconst 1, 1) := by decide +kernel
theorem dX6_add_28 : decode cX6_add 28 = .ok (.iadd, 1) := by decide +kernel
theorem dX6_add_29 : decode cX6_add 29 = .ok (.putfield 19, 3) := by decide +kernel
theorem dX6_add_32 : decode cX6_add 32 = .ok (.return_, 1) := by decide +kernel
theorem dX6_store_0 : decode cX6_store 0 = .ok (.iload_n 1, 1) := by decide +kernel
theorem dX6_store_1 : decode cX6_store 1 = .ok (.iconst 0, 1) := by decide +kernel
theorem dX6_store_2 : decode cX6_store 2 = .ok (.aload_n 0, 1) := by decide +kernel
theorem dX6_store_3 : decode cX6_store 3 = .ok (.getfield 19, 3) := by decide +kernel
theorem dX6_store_6 : decode cX6_store 6 = .ok (.iconst 1, 1) := by decide +kernel
theorem dX6_store_7 : decode cX6_store 7 = .ok (.isub, 1) := by decide +kernel
theorem dX6_store_8 : decode cX6_store 8 = .ok (.invokestatic 26, 3) := by decide +kernel
theorem dX6_store_11 : decode cX6_store 11 = .ok (.ifCond .eq 38, 3) := by decide +kernel
theorem dX6_store_14 : decode cX6_store 14 = .ok (.aload_n 0, 1) := by decide +kernel
theorem dX6_store_15 : decode cX6_store 15 = .ok (.getfield 13, 3) := by decide +kernel
theorem dX6_store_18 : decode cX6_store 18 = .ok (.iload_n 1, 1) := by decide +kernel
theorem dX6_store_19 : decode cX6_store 19 = .ok (.aload_n 0, 1) := by decide +kernel
theorem dX6_store_20 : decode cX6_store 20 = .ok (.getfield 23, 3) := by decide +kernel
theorem dX6_store_23 : decode cX6_store 23 = .ok (.bipush 8, 2) := by decide +kernel
theorem dX6_store_25 : decode cX6_store 25 = .ok (.if_icmp .ne 8, 3) := by decide +kernel
theorem dX6_store_28 : decode cX6_store 28 = .ok (.iload_n 2, 1) := by decide +kernel
theorem dX6_store_29 : decode cX6_store 29 = .ok (.i2b, 1) := by decide +kernel
theorem dX6_store_30 : decode cX6_store 30 = .ok (.goto 18, 3) := by decide +kernel
theorem dX6_store_33 : decode cX6_store 33 = .ok (.aload_n 0, 1) := by decide +kernel
theorem dX6_store_34 : decode cX6_store 34 = .ok (.getfield 23, 3) := by decide +kernel
theorem dX6_store_37 : decode cX6_store 37 = .ok (.bipush 16, 2) := by decide +kernel
theorem dX6_store_39 : decode cX6_store 39 = .ok (.if_icmp .ne 8, 3) := by decide +kernel
theorem dX6_store_42 : decode cX6_store 42 = .ok (.iload_n 2, 1) := by decide +kernel
theorem dX6_store_43 : decode cX6_store 43 = .ok (.i2s, 1) := by decide +kernel
theorem dX6_store_44 : decode cX6_store 44 = .ok (.goto 4, 3) := by decide +kernel
theorem dX6_store_47 : decode cX6_store 47 = .ok (.iload_n 2, 1) := by decide +kernel
theorem dX6_store_48 : decode cX6_store 48 = .ok (.iastore, 1) := by decide +kernel
theorem dX6_store_49 : decode cX6_store 49 = .ok (.return_, 1) := by decide +kernel
theorem dX6_clear_0 : decode cX6_clear 0 = .ok (.aload_n 0, 1) := by decide +kernel
theorem dX6_clear_1 : decode cX6_clear 1 = .ok (.iconst 0, 1) := by decide +kernel
theorem dX6_clear_2 : decode cX6_clear 2 = .ok (.putfield 19, 3) := by decide +kernel
theorem dX6_clear_5 : decode cX6_clear 5 = .ok (.return_, 1) := by decide +kernel
theorem dX6_reset_0 : decode cX6_reset 0 = .ok (.aload_n 0, 1) := by decide +kernel
theorem dX6_reset_1 : decode cX6_reset 1 = .ok (.iload_n 1, 1) := by decide +kernel
theorem dX6_reset_2 : decode cX6_reset 2 = .ok (.putfield 23, 3) := by decide +kernel
theorem dX6_reset_5 : decode cX6_reset 5 = .ok (.aload_n 0, 1) := by decide +kernel
theorem dX6_reset_6 : decode cX6_reset 6 = .ok (.iconst 0, 1) := by decide +kernel
theorem dX6_reset_7 : decode cX6_reset 7 = .ok (.iload_n 2, 1) := by decide +kernel
theorem dX6_reset_8 : decode cX6_reset 8 = .ok (.aload_n 0, 1) := by decide +kernel
theorem dX6_reset_9 : decode cX6_reset 9 = .ok (.getfield 13, 3) := by decide +kernel
theorem dX6_reset_12 : decode cX6_reset 12 = .ok (.arraylength, 1) := by decide +kernel
theorem dX6_reset_13 : decode cX6_reset 13 = .ok (.invokestatic 32, 3) := by decide +kernel
theorem dX6_reset_16 : decode cX6_reset 16 = .ok (.invokestatic 7, 3) := by decide +kernel
theorem dX6_reset_19 : decode cX6_reset 19 = .ok (.putfield 19, 3) := by decide +kernel
theorem dX6_reset_22 : decode cX6_reset 22 = .ok (.aload_n 0, 1) := by decide +kernel
theorem dX6_reset_23 : decode cX6_reset 23 = .ok (.getfield 13, 3) := by decide +kernel
theorem dX6_reset_26 : decode cX6_reset 26 = .ok (.iconst 0, 1) := by decide +kernel
theorem dX6_reset_27 : decode cX6_reset 27 = .ok (.invokestatic 35, 3) := by decide +kernel
theorem dX6_reset_30 : decode cX6_reset 30 = .ok (.return_, 1) := by decide +kernel
theorem dX6_spans_0 : decode cX6_spans 0 = .ok (.iload_n 1, 1) := by decide +kernel
theorem dX6_spans_1 : decode cX6_spans 1 = .ok (.ifCond .lt 29, 3) := by decide +kernel
theorem dX6_spans_4 : decode cX6_spans 4 = .ok (.iload_n 2, 1) := by decide +kernel
theorem dX6_spans_5 : decode cX6_spans 5 = .ok (.ifCond .lt 25, 3) := by decide +kernel
theorem dX6_spans_8 : decode cX6_spans 8 = .ok (.iload_n 1, 1) := by decide +kernel
theorem dX6_spans_9 : decode cX6_spans 9 = .ok (.aload_n 0, 1) := by decide +kernel
theorem dX6_spans_10 : decode cX6_spans 10 = .ok (.getfield 19, 3) := by decide +kernel
theorem dX6_spans_13 : decode cX6_spans 13 = .ok (.if_icmp .gt 17, 3) := by decide +kernel
theorem dX6_spans_16 : decode cX6_spans 16 = .ok (.iload_n 2, 1) := by decide +kernel
theorem dX6_spans_17 : decode cX6_spans 17 = .ok (.aload_n 0, 1) := by decide +kernel
theorem dX6_spans_18 : decode cX6_spans 18 = .ok (.getfield 19, 3) := by decide +kernel
theorem dX6_spans_21 : decode cX6_spans 21 = .ok (.iload_n 1, 1) := by decide +kernel
theorem dX6_spans_22 : decode cX6_spans 22 = .ok (.isub, 1) := by decide +kernel
theorem dX6_spans_23 : decode cX6_spans 23 = .ok (.if_icmp .gt 7, 3) := by decide +kernel
theorem dX6_spans_26 : decode cX6_spans 26 = .ok (.iconst 1, 1) := by decide +kernel
theorem dX6_spans_27 : decode cX6_spans 27 = .ok (.goto 4, 3) := by decide +kernel
theorem dX6_spans_30 : decode cX6_spans 30 = .ok (.iconst 0, 1) := by decide +kernel
theorem dX6_spans_31 : decode cX6_spans 31 = .ok (.ireturn, 1) := by decide +kernel
theorem dX6_sum_0 : decode cX6_sum 0 = .ok (.iconst 0, 1) := by decide +kernel
theorem dX6_sum_1 : decode cX6_sum 1 = .ok (.istore_n 1, 1) := by decide +kernel
theorem dX6_sum_2 : decode cX6_sum 2 = .ok (.iconst 0, 1) := by decide +kernel
theorem dX6_sum_3 : decode cX6_sum 3 = .ok (.istore_n 2, 1) := by decide +kernel
theorem dX6_sum_4 : decode cX6_sum 4 = .ok (.iload_n 2, 1) := by decide +kernel
theorem dX6_sum_5 : decode cX6_sum 5 = .ok (.aload_n 0, 1) := by decide +kernel
theorem dX6_sum_6 : decode cX6_sum 6 = .ok (.getfield 19, 3) := by decide +kernel
theorem dX6_sum_9 : decode cX6_sum 9 = .ok (.if_icmp .ge 18, 3) := by decide +kernel
theorem dX6_sum_12 : decode cX6_sum 12 = .ok (.iload_n 1, 1) := by decide +kernel
theorem dX6_sum_13 : decode cX6_sum 13 = .ok (.aload_n 0, 1) := by decide +kernel
theorem dX6_sum_14 : decode cX6_sum 14 = .ok (.getfield 13, 3) := by decide +kernel
theorem dX6_sum_17 : decode cX6_sum 17 = .ok (.iload_n 2, 1) := by decide +kernel
theorem dX6_sum_18 : decode cX6_sum 18 = .ok (.iaload, 1) := by decide +kernel
theorem dX6_sum_19 : decode cX6_sum 19 = .ok (.iadd, 1) := by decide +kernel
theorem dX6_sum_20 : decode cX6_sum 20 = .ok (.istore_n 1, 1) := by decide +kernel
theorem dX6_sum_21 : decode cX6_sum 21 = .ok (.iinc 2 1, 3) := by decide +kernel
theorem dX6_sum_24 : decode cX6_sum 24 = .ok (.goto (-20), 3) := by decide +kernel
theorem dX6_sum_27 : decode cX6_sum 27 = .ok (.iload_n 1, 1) := by decide +kernel
theorem dX6_sum_28 : decode cX6_sum 28 = .ok (.ireturn, 1) := by decide +kernel
theorem dX6_firstUnlike_0 : decode cX6_firstUnlike 0 = .ok (.aload_n 0, 1) := by decide +kernel
theorem dX6_firstUnlike_1 : decode cX6_firstUnlike 1 = .ok (.getfield 19, 3) := by decide +kernel
theorem dX6_firstUnlike_4 : decode cX6_firstUnlike 4 = .ok (.aload_n 1, 1) := by decide +kernel
theorem dX6_firstUnlike_5 : decode cX6_firstUnlike 5 = .ok (.getfield 19, 3) := by decide +kernel
theorem dX6_firstUnlike_8 : decode cX6_firstUnlike 8 = .ok (.invokestatic 32, 3) := by decide +kernel
theorem dX6_firstUnlike_11 : decode cX6_firstUnlike 11 = .ok (.istore_n 2, 1) := by decide +kernel
theorem dX6_firstUnlike_12 : decode cX6_firstUnlike 12 = .ok (.iconst 0, 1) := by decide +kernel
theorem dX6_firstUnlike_13 : decode cX6_firstUnlike 13 = .ok (.istore_n 3, 1) := by decide +kernel
theorem dX6_firstUnlike_14 : decode cX6_firstUnlike 14 = .ok (.iload_n 3, 1) := by decide +kernel
theorem dX6_firstUnlike_15 : decode cX6_firstUnlike 15 = .ok (.iload_n 2, 1) := by decide +kernel
theorem dX6_firstUnlike_16 : decode cX6_firstUnlike 16 = .ok (.if_icmp .ge 26, 3) := by decide +kernel
theorem dX6_firstUnlike_19 : decode cX6_firstUnlike 19 = .ok (.aload_n 0, 1) := by decide +kernel
theorem dX6_firstUnlike_20 : decode cX6_firstUnlike 20 = .ok (.getfield 13, 3) := by decide +kernel
theorem dX6_firstUnlike_23 : decode cX6_firstUnlike 23 = .ok (.iload_n 3, 1) := by decide +kernel
theorem dX6_firstUnlike_24 : decode cX6_firstUnlike 24 = .ok (.iaload, 1) := by decide +kernel
theorem dX6_firstUnlike_25 : decode cX6_firstUnlike 25 = .ok (.aload_n 1, 1) := by decide +kernel
theorem dX6_firstUnlike_26 : decode cX6_firstUnlike 26 = .ok (.getfield 13, 3) := by decide +kernel
theorem dX6_firstUnlike_29 : decode cX6_firstUnlike 29 = .ok (.iload_n 3, 1) := by decide +kernel
theorem dX6_firstUnlike_30 : decode cX6_firstUnlike 30 = .ok (.iaload, 1) := by decide +kernel
theorem dX6_firstUnlike_31 : decode cX6_firstUnlike 31 = .ok (.if_icmp .eq 5, 3) := by decide +kernel
theorem dX6_firstUnlike_34 : decode cX6_firstUnlike 34 = .ok (.iload_n 3, 1) := by decide +kernel
theorem dX6_firstUnlike_35 : decode cX6_firstUnlike 35 = .ok (.ireturn, 1) := by decide +kernel
theorem dX6_firstUnlike_36 : decode cX6_firstUnlike 36 = .ok (.iinc 3 1, 3) := by decide +kernel
theorem dX6_firstUnlike_39 : decode cX6_firstUnlike 39 = .ok (.goto (-25), 3) := by decide +kernel
theorem dX6_firstUnlike_42 : decode cX6_firstUnlike 42 = .ok (.aload_n 0, 1) := by decide +kernel
theorem dX6_firstUnlike_43 : decode cX6_firstUnlike 43 = .ok (.getfield 19, 3) := by decide +kernel
theorem dX6_firstUnlike_46 : decode cX6_firstUnlike 46 = .ok (.aload_n 1, 1) := by decide +kernel
theorem dX6_firstUnlike_47 : decode cX6_firstUnlike 47 = .ok (.getfield 19, 3) := by decide +kernel
theorem dX6_firstUnlike_50 : decode cX6_firstUnlike 50 = .ok (.if_icmp .ne 7, 3) := by decide +kernel
theorem dX6_firstUnlike_53 : decode cX6_firstUnlike 53 = .ok (.iconst (-1), 1) := by decide +kernel
theorem dX6_firstUnlike_54 : decode cX6_firstUnlike 54 = .ok (.goto 4, 3) := by decide +kernel
theorem dX6_firstUnlike_57 : decode cX6_firstUnlike 57 = .ok (.iload_n 2, 1) := by decide +kernel
theorem dX6_firstUnlike_58 : decode cX6_firstUnlike 58 = .ok (.ireturn, 1) := by decide +kernel
theorem dX6_become_0 : decode cX6_become 0 = .ok (.aload_n 0, 1) := by decide +kernel
theorem dX6_become_1 : decode cX6_become 1 = .ok (.aload_n 1, 1) := by decide +kernel
theorem dX6_become_2 : decode cX6_become 2 = .ok (.getfield 19, 3) := by decide +kernel
theorem dX6_become_5 : decode cX6_become 5 = .ok (.aload_n 0, 1) := by decide +kernel
theorem dX6_become_6 : decode cX6_become 6 = .ok (.getfield 13, 3) := by decide +kernel
theorem dX6_become_9 : decode cX6_become 9 = .ok (.arraylength, 1) := by decide +kernel
theorem dX6_become_10 : decode cX6_become 10 = .ok (.invokestatic 32, 3) := by decide +kernel
theorem dX6_become_13 : decode cX6_become 13 = .ok (.putfield 19, 3) := by decide +kernel
theorem dX6_become_16 : decode cX6_become 16 = .ok (.aload_n 1, 1) := by decide +kernel
theorem dX6_become_17 : decode cX6_become 17 = .ok (.getfield 13, 3) := by decide +kernel
theorem dX6_become_20 : decode cX6_become 20 = .ok (.iconst 0, 1) := by decide +kernel
theorem dX6_become_21 : decode cX6_become 21 = .ok (.aload_n 0, 1) := by decide +kernel
theorem dX6_become_22 : decode cX6_become 22 = .ok (.getfield 13, 3) := by decide +kernel
theorem dX6_become_25 : decode cX6_become 25 = .ok (.iconst 0, 1) := by decide +kernel
theorem dX6_become_26 : decode cX6_become 26 = .ok (.aload_n 0, 1) := by decide +kernel
theorem dX6_become_27 : decode cX6_become 27 = .ok (.getfield 19, 3) := by decide +kernel
theorem dX6_become_30 : decode cX6_become 30 = .ok (.invokestatic 41, 3) := by decide +kernel
theorem dX6_become_33 : decode cX6_become 33 = .ok (.return_, 1) := by decide +kernel
theorem dX7_init_0 : decode cX7_init 0 = .ok (.aload_n 0, 1) := by decide +kernel
theorem dX7_init_1 : decode cX7_init 1 = .ok (.iload_n 1, 1) := by decide +kernel
theorem dX7_init_2 : decode cX7_init 2 = .ok (.iload_n 2, 1) := by decide +kernel
theorem dX7_init_3 : decode cX7_init 3 = .ok (.iload_n 3, 1) := by decide +kernel
theorem dX7_init_4 : decode cX7_init 4 = .ok (.invokespecial 1, 3) := by decide +kernel
theorem dX7_init_7 : decode cX7_init 7 = .ok (.return_, 1) := by decide +kernel
theorem dX7_freeze_0 : decode cX7_freeze 0 = .ok (.aload_n 0, 1) := by decide +kernel
theorem dX7_freeze_1 : decode cX7_freeze 1 = .ok (.aload_n 1, 1) := by decide +kernel
theorem dX7_freeze_2 : decode cX7_freeze 2 = .ok (.iload_n 2, 1) := by decide +kernel
theorem dX7_freeze_3 : decode cX7_freeze 3 = .ok (.iload_n 3, 1) := by decide +kernel
theorem dX7_freeze_4 : decode cX7_freeze 4 = .ok (.iload 4, 2) := by decide +kernel
theorem dX7_freeze_6 : decode cX7_freeze 6 = .ok (.invokespecial 7, 3) := by decide +kernel
theorem dX7_freeze_9 : decode cX7_freeze 9 = .ok (.aload_n 0, 1) := by decide +kernel
theorem dX7_freeze_10 : decode cX7_freeze 10 = .ok (.getfield 11, 3) := by decide +kernel
theorem dX7_freeze_13 : decode cX7_freeze 13 = .ok (.iload 4, 2) := by decide +kernel
theorem dX7_freeze_15 : decode cX7_freeze 15 = .ok (.imul, 1) := by decide +kernel
theorem dX7_freeze_16 : decode cX7_freeze 16 = .ok (.iload_n 3, 1) := by decide +kernel
theorem dX7_freeze_17 : decode cX7_freeze 17 = .ok (.iconst 1, 1) := by decide +kernel
theorem dX7_freeze_18 : decode cX7_freeze 18 = .ok (.invokestatic 17, 3) := by decide +kernel
theorem dX7_freeze_21 : decode cX7_freeze 21 = .ok (.idiv, 1) := by decide +kernel
theorem dX7_freeze_22 : decode cX7_freeze 22 = .ok (.isub, 1) := by decide +kernel
theorem dX7_freeze_23 : decode cX7_freeze 23 = .ok (.ireturn, 1) := by decide +kernel
theorem dX7_tells_0 : decode cX7_tells 0 = .ok (.aload_n 2, 1) := by decide +kernel
theorem dX7_tells_1 : decode cX7_tells 1 = .ok (.bipush 50, 2) := by decide +kernel
theorem dX7_tells_3 : decode cX7_tells 3 = .ok (.invokevirtual 23, 3) := by decide +kernel
theorem dX7_tells_6 : decode cX7_tells 6 = .ok (.aload_n 0, 1) := by decide +kernel
theorem dX7_tells_7 : decode cX7_tells 7 = .ok (.iload_n 1, 1) := by decide +kernel
theorem dX7_tells_8 : decode cX7_tells 8 = .ok (.aload_n 2, 1) := by decide +kernel
theorem dX7_tells_9 : decode cX7_tells 9 = .ok (.invokespecial 29, 3) := by decide +kernel
theorem dX7_tells_12 : decode cX7_tells 12 = .ok (.aload_n 0, 1) := by decide +kernel
theorem dX7_tells_13 : decode cX7_tells 13 = .ok (.iconst 2, 1) := by decide +kernel
theorem dX7_tells_14 : decode cX7_tells 14 = .ok (.aload_n 2, 1) := by decide +kernel
theorem dX7_tells_15 : decode cX7_tells 15 = .ok (.invokevirtual 33, 3) := by decide +kernel
theorem dX7_tells_18 : decode cX7_tells 18 = .ok (.isub, 1) := by decide +kernel
theorem dX7_tells_19 : decode cX7_tells 19 = .ok (.ireturn, 1) := by decide +kernel
theorem dX8_init_0 : decode cX8_init 0 = .ok (.aload_n 0, 1) := by decide +kernel
theorem dX8_init_1 : decode cX8_init 1 = .ok (.iload_n 1, 1) := by decide +kernel
theorem dX8_init_2 : decode cX8_init 2 = .ok (.iload_n 2, 1) := by decide +kernel
theorem dX8_init_3 : decode cX8_init 3 = .ok (.iload_n 3, 1) := by decide +kernel
theorem dX8_init_4 : decode cX8_init 4 = .ok (.invokespecial 1, 3) := by decide +kernel
theorem dX8_init_7 : decode cX8_init 7 = .ok (.return_, 1) := by decide +kernel
theorem dX8_freeze_0 : decode cX8_freeze 0 = .ok (.aload_n 0, 1) := by decide +kernel
theorem dX8_freeze_1 : decode cX8_freeze 1 = .ok (.getfield 7, 3) := by decide +kernel
theorem dX8_freeze_4 : decode cX8_freeze 4 = .ok (.aload_n 1, 1) := by decide +kernel
theorem dX8_freeze_5 : decode cX8_freeze 5 = .ok (.getfield 13, 3) := by decide +kernel
theorem dX8_freeze_8 : decode cX8_freeze 8 = .ok (.imul, 1) := by decide +kernel
theorem dX8_freeze_9 : decode cX8_freeze 9 = .ok (.bipush 100, 2) := by decide +kernel
theorem dX8_freeze_11 : decode cX8_freeze 11 = .ok (.idiv, 1) := by decide +kernel
theorem dX8_freeze_12 : decode cX8_freeze 12 = .ok (.bipush 10, 2) := by decide +kernel
theorem dX8_freeze_14 : decode cX8_freeze 14 = .ok (.aload_n 1, 1) := by decide +kernel
theorem dX8_freeze_15 : decode cX8_freeze 15 = .ok (.getfield 18, 3) := by decide +kernel
theorem dX8_freeze_18 : decode cX8_freeze 18 = .ok (.iadd, 1) := by decide +kernel
theorem dX8_freeze_19 : decode cX8_freeze 19 = .ok (.imul, 1) := by decide +kernel
theorem dX8_freeze_20 : decode cX8_freeze 20 = .ok (.bipush 10, 2) := by decide +kernel
theorem dX8_freeze_22 : decode cX8_freeze 22 = .ok (.idiv, 1) := by decide +kernel
theorem dX8_freeze_23 : decode cX8_freeze 23 = .ok (.ireturn, 1) := by decide +kernel
theorem dX8_runs_0 : decode cX8_runs 0 = .ok (.aload_n 2, 1) := by decide +kernel
theorem dX8_runs_1 : decode cX8_runs 1 = .ok (.bipush 30, 2) := by decide +kernel
theorem dX8_runs_3 : decode cX8_runs 3 = .ok (.invokevirtual 21, 3) := by decide +kernel
theorem dX8_runs_6 : decode cX8_runs 6 = .ok (.aload_n 0, 1) := by decide +kernel
theorem dX8_runs_7 : decode cX8_runs 7 = .ok (.iload_n 1, 1) := by decide +kernel
theorem dX8_runs_8 : decode cX8_runs 8 = .ok (.aload_n 2, 1) := by decide +kernel
theorem dX8_runs_9 : decode cX8_runs 9 = .ok (.invokespecial 27, 3) := by decide +kernel
theorem dX8_runs_12 : decode cX8_runs 12 = .ok (.iconst 3, 1) := by decide +kernel
theorem dX8_runs_13 : decode cX8_runs 13 = .ok (.imul, 1) := by decide +kernel
theorem dX8_runs_14 : decode cX8_runs 14 = .ok (.ireturn, 1) := by decide +kernel
theorem dX9_init_0 : decode cX9_init 0 = .ok (.aload_n 0, 1) := by decide +kernel
theorem dX9_init_1 : decode cX9_init 1 = .ok (.invokespecial 3, 3) := by decide +kernel
theorem dX9_init_4 : decode cX9_init 4 = .ok (.aload_n 0, 1) := by decide +kernel
theorem dX9_init_5 : decode cX9_init 5 = .ok (.bipush 50, 2) := by decide +kernel
theorem dX9_init_7 : decode cX9_init 7 = .ok (.newarray .int, 2) := by decide +kernel
theorem dX9_init_9 : decode cX9_init 9 = .ok (.putfield 9, 3) := by decide +kernel
theorem dX9_init_12 : decode cX9_init 12 = .ok (.aload_n 0, 1) := by decide +kernel
theorem dX9_init_13 : decode cX9_init 13 = .ok (.bipush 50, 2) := by decide +kernel
theorem dX9_init_15 : decode cX9_init 15 = .ok (.newarray .int, 2) := by decide +kernel
theorem dX9_init_17 : decode cX9_init 17 = .ok (.putfield 15, 3) := by decide +kernel
theorem dX9_init_20 : decode cX9_init 20 = .ok (.aload_n 0, 1) := by decide +kernel
theorem dX9_init_21 : decode cX9_init 21 = .ok (.iconst 0, 1) := by decide +kernel
theorem dX9_init_22 : decode cX9_init 22 = .ok (.putfield 18, 3) := by decide +kernel
theorem dX9_init_25 : decode cX9_init 25 = .ok (.aload_n 0, 1) := by decide +kernel
theorem dX9_init_26 : decode cX9_init 26 = .ok (.iconst 0, 1) := by decide +kernel
theorem dX9_init_27 : decode cX9_init 27 = .ok (.putfield 22, 3) := by decide +kernel
theorem dX9_init_30 : decode cX9_init 30 = .ok (.aload_n 0, 1) := by decide +kernel
theorem dX9_init_31 : decode cX9_init 31 = .ok (.iconst 0, 1) := by decide +kernel
theorem dX9_init_32 : decode cX9_init 32 = .ok (.putfield 25, 3) := by decide +kernel
theorem dX9_init_35 : decode cX9_init 35 = .ok (.return_, 1) := by decide +kernel
theorem dX9_faultOf_0 : decode cX9_faultOf 0 = .ok (.aload_n 0, 1) := by decide +kernel
theorem dX9_faultOf_1 : decode cX9_faultOf 1 = .ok (.iconst 0, 1) := by decide +kernel
theorem dX9_faultOf_2 : decode cX9_faultOf 2 = .ok (.putfield 18, 3) := by decide +kernel
theorem dX9_faultOf_5 : decode cX9_faultOf 5 = .ok (.aload_n 0, 1) := by decide +kernel
theorem dX9_faultOf_6 : decode cX9_faultOf 6 = .ok (.iconst 0, 1) := by decide +kernel
theorem dX9_faultOf_7 : decode cX9_faultOf 7 = .ok (.putfield 22, 3) := by decide +kernel
theorem dX9_faultOf_10 : decode cX9_faultOf 10 = .ok (.aload_n 0, 1) := by decide +kernel
theorem dX9_faultOf_11 : decode cX9_faultOf 11 = .ok (.aload_n 1, 1) := by decide +kernel
theorem dX9_faultOf_12 : decode cX9_faultOf 12 = .ok (.iconst 0, 1) := by decide +kernel
theorem dX9_faultOf_13 : decode cX9_faultOf 13 = .ok (.invokevirtual 28, 3) := by decide +kernel
theorem dX9_faultOf_16 : decode cX9_faultOf 16 = .ok (.ifCond .eq 18, 3) := by decide +kernel
theorem dX9_faultOf_19 : decode cX9_faultOf 19 = .ok (.aload_n 0, 1) := by decide +kernel
theorem dX9_faultOf_20 : decode cX9_faultOf 20 = .ok (.getfield 22, 3) := by decide +kernel
theorem dX9_faultOf_23 : decode cX9_faultOf 23 = .ok (.aload_n 1, 1) := by decide +kernel
theorem dX9_faultOf_24 : decode cX9_faultOf 24 = .ok (.getfield 32, 3) := by decide +kernel
theorem dX9_faultOf_27 : decode cX9_faultOf 27 = .ok (.if_icmp .ne 7, 3) := by decide +kernel
theorem dX9_faultOf_30 : decode cX9_faultOf 30 = .ok (.iconst (-1), 1) := by decide +kernel
theorem dX9_faultOf_31 : decode cX9_faultOf 31 = .ok (.goto 7, 3) := by decide +kernel
theorem dX9_faultOf_34 : decode cX9_faultOf 34 = .ok (.aload_n 0, 1) := by decide +kernel
theorem dX9_faultOf_35 : decode cX9_faultOf 35 = .ok (.getfield 22, 3) := by decide +kernel
theorem dX9_faultOf_38 : decode cX9_faultOf 38 = .ok (.ireturn, 1) := by decide +kernel
theorem dX9_anyOf_0 : decode cX9_anyOf 0 = .ok (.aload_n 0, 1) := by decide +kernel
theorem dX9_anyOf_1 : decode cX9_anyOf 1 = .ok (.aload_n 1, 1) := by decide +kernel
theorem dX9_anyOf_2 : decode cX9_anyOf 2 = .ok (.iload_n 2, 1) := by decide +kernel
theorem dX9_anyOf_3 : decode cX9_anyOf 3 = .ok (.invokevirtual 35, 3) := by decide +kernel
theorem dX9_anyOf_6 : decode cX9_anyOf 6 = .ok (.istore_n 3, 1) := by decide +kernel
theorem dX9_anyOf_7 : decode cX9_anyOf 7 = .ok (.iconst 0, 1) := by decide +kernel
theorem dX9_anyOf_8 : decode cX9_anyOf 8 = .ok (.istore 4, 2) := by decide +kernel
theorem dX9_anyOf_10 : decode cX9_anyOf 10 = .ok (.iload 4, 2) := by decide +kernel
theorem dX9_anyOf_12 : decode cX9_anyOf 12 = .ok (.bipush 50, 2) := by decide +kernel
theorem dX9_anyOf_14 : decode cX9_anyOf 14 = .ok (.if_icmp .ge 46, 3) := by decide +kernel
theorem dX9_anyOf_17 : decode cX9_anyOf 17 = .ok (.iload_n 3, 1) := by decide +kernel
theorem dX9_anyOf_18 : decode cX9_anyOf 18 = .ok (.ifCond .eq 42, 3) := by decide +kernel
theorem dX9_anyOf_21 : decode cX9_anyOf 21 = .ok (.aload_n 0, 1) := by decide +kernel
theorem dX9_anyOf_22 : decode cX9_anyOf 22 = .ok (.aload_n 1, 1) := by decide +kernel
theorem dX9_anyOf_23 : decode cX9_anyOf 23 = .ok (.bipush 124, 2) := by decide +kernel
theorem dX9_anyOf_25 : decode cX9_anyOf 25 = .ok (.invokevirtual 38, 3) := by decide +kernel
theorem dX9_anyOf_28 : decode cX9_anyOf 28 = .ok (.ifCond .eq 32, 3) := by decide +kernel
theorem dX9_anyOf_31 : decode cX9_anyOf 31 = .ok (.aload_n 0, 1) := by decide +kernel
theorem dX9_anyOf_32 : decode cX9_anyOf 32 = .ok (.dup, 1) := by decide +kernel
theorem dX9_anyOf_33 : decode cX9_anyOf 33 = .ok (.getfield 22, 3) := by decide +kernel
theorem dX9_anyOf_36 : decode cX9_anyOf 36 = .ok (.iconst 1, 1) := by decide +kernel
theorem dX9_anyOf_37 : decode cX9_anyOf 37 = .ok (.iadd, 1) := by decide +kernel
theorem dX9_anyOf_38 : decode cX9_anyOf 38 = .ok (.putfield 22, 3) := by decide +kernel
theorem dX9_anyOf_41 : decode cX9_anyOf 41 = .ok (.aload_n 0, 1) := by decide +kernel
theorem dX9_anyOf_42 : decode cX9_anyOf 42 = .ok (.aload_n 1, 1) := by decide +kernel
theorem dX9_anyOf_43 : decode cX9_anyOf 43 = .ok (.iload_n 2, 1) := by decide +kernel
theorem dX9_anyOf_44 : decode cX9_anyOf 44 = .ok (.invokevirtual 35, 3) := by decide +kernel
theorem dX9_anyOf_47 : decode cX9_anyOf 47 = .ok (.istore_n 3, 1) := by decide +kernel
theorem dX9_anyOf_48 : decode cX9_anyOf 48 = .ok (.aload_n 0, 1) := by decide +kernel
theorem dX9_anyOf_49 : decode cX9_anyOf 49 = .ok (.bipush (-124), 2) := by decide +kernel
theorem dX9_anyOf_51 : decode cX9_anyOf 51 = .ok (.invokevirtual 41, 3) := by decide +kernel
theorem dX9_anyOf_54 : decode cX9_anyOf 54 = .ok (.iinc 4 1, 3) := by decide +kernel
theorem dX9_anyOf_57 : decode cX9_anyOf 57 = .ok (.goto (-47), 3) := by decide +kernel
theorem dX9_anyOf_60 : decode cX9_anyOf 60 = .ok (.iload_n 3, 1) := by decide +kernel
theorem dX9_anyOf_61 : decode cX9_anyOf 61 = .ok (.ireturn, 1) := by decide +kernel
theorem dX9_allOf_0 : decode cX9_allOf 0 = .ok (.aload_n 0, 1) := by decide +kernel
theorem dX9_allOf_1 : decode cX9_allOf 1 = .ok (.aload_n 1, 1) := by decide +kernel
theorem dX9_allOf_2 : decode cX9_allOf 2 = .ok (.iload_n 2, 1) := by decide +kernel
theorem dX9_allOf_3 : decode cX9_allOf 3 = .ok (.invokevirtual 45, 3) := by decide +kernel
theorem dX9_allOf_6 : decode cX9_allOf 6 = .ok (.istore_n 3, 1) := by decide +kernel
theorem dX9_allOf_7 : decode cX9_allOf 7 = .ok (.iconst 0, 1) := by decide +kernel
theorem dX9_allOf_8 : decode cX9_allOf 8 = .ok (.istore 4, 2) := by decide +kernel
theorem dX9_allOf_10 : decode cX9_allOf 10 = .ok (.iload 4, 2) := by decide +kernel
theorem dX9_allOf_12 : decode cX9_allOf 12 = .ok (.bipush 50, 2) := by decide +kernel
theorem dX9_allOf_14 : decode cX9_allOf 14 = .ok (.if_icmp .ge 46, 3) := by decide +kernel
theorem dX9_allOf_17 : decode cX9_allOf 17 = .ok (.iload_n 3, 1) := by decide +kernel
theorem dX9_allOf_18 : decode cX9_allOf 18 = .ok (.ifCond .eq 42, 3) := by decide +kernel
theorem dX9_allOf_21 : decode cX9_allOf 21 = .ok (.aload_n 0, 1) := by decide +kernel
theorem dX9_allOf_22 : decode cX9_allOf 22 = .ok (.aload_n 1, 1) := by decide +kernel
theorem dX9_allOf_23 : decode cX9_allOf 23 = .ok (.bipush 38, 2) := by decide +kernel
theorem dX9_allOf_25 : decode cX9_allOf 25 = .ok (.invokevirtual 38, 3) := by decide +kernel
theorem dX9_allOf_28 : decode cX9_allOf 28 = .ok (.ifCond .eq 32, 3) := by decide +kernel
theorem dX9_allOf_31 : decode cX9_allOf 31 = .ok (.aload_n 0, 1) := by decide +kernel
theorem dX9_allOf_32 : decode cX9_allOf 32 = .ok (.dup, 1) := by decide +kernel
theorem dX9_allOf_33 : decode cX9_allOf 33 = .ok (.getfield 22, 3) := by decide +kernel
theorem dX9_allOf_36 : decode cX9_allOf 36 = .ok (.iconst 1, 1) := by decide +kernel
theorem dX9_allOf_37 : decode cX9_allOf 37 = .ok (.iadd, 1) := by decide +kernel
theorem dX9_allOf_38 : decode cX9_allOf 38 = .ok (.putfield 22, 3) := by decide +kernel
theorem dX9_allOf_41 : decode cX9_allOf 41 = .ok (.aload_n 0, 1) := by decide +kernel
theorem dX9_allOf_42 : decode cX9_allOf 42 = .ok (.aload_n 1, 1) := by decide +kernel
theorem dX9_allOf_43 : decode cX9_allOf 43 = .ok (.iload_n 2, 1) := by decide +kernel
theorem dX9_allOf_44 : decode cX9_allOf 44 = .ok (.invokevirtual 45, 3) := by decide +kernel
theorem dX9_allOf_47 : decode cX9_allOf 47 = .ok (.istore_n 3, 1) := by decide +kernel
theorem dX9_allOf_48 : decode cX9_allOf 48 = .ok (.aload_n 0, 1) := by decide +kernel
theorem dX9_allOf_49 : decode cX9_allOf 49 = .ok (.bipush (-38), 2) := by decide +kernel
theorem dX9_allOf_51 : decode cX9_allOf 51 = .ok (.invokevirtual 41, 3) := by decide +kernel
theorem dX9_allOf_54 : decode cX9_allOf 54 = .ok (.iinc 4 1, 3) := by decide +kernel
theorem dX9_allOf_57 : decode cX9_allOf 57 = .ok (.goto (-47), 3) := by decide +kernel
theorem dX9_allOf_60 : decode cX9_allOf 60 = .ok (.iload_n 3, 1) := by decide +kernel
theorem dX9_allOf_61 : decode cX9_allOf 61 = .ok (.ireturn, 1) := by decide +kernel
theorem dX9_compared_0 : decode cX9_compared 0 = .ok (.aload_n 0, 1) := by decide +kernel
theorem dX9_compared_1 : decode cX9_compared 1 = .ok (.aload_n 1, 1) := by decide +kernel
theorem dX9_compared_2 : decode cX9_compared 2 = .ok (.iload_n 2, 1) := by decide +kernel
theorem dX9_compared_3 : decode cX9_compared 3 = .ok (.invokevirtual 48, 3) := by decide +kernel
theorem dX9_compared_6 : decode cX9_compared 6 = .ok (.istore_n 3, 1) := by decide +kernel
theorem dX9_compared_7 : decode cX9_compared 7 = .ok (.iload_n 3, 1) := by decide +kernel
theorem dX9_compared_8 : decode cX9_compared 8 = .ok (.ifCond .eq 67, 3) := by decide +kernel
theorem dX9_compared_11 : decode cX9_compared 11 = .ok (.aload_n 0, 1) := by decide +kernel
theorem dX9_compared_12 : decode cX9_compared 12 = .ok (.aload_n 1, 1) := by decide +kernel
theorem dX9_compared_13 : decode cX9_compared 13 = .ok (.bipush 60, 2) := by decide +kernel
theorem dX9_compared_15 : decode cX9_compared 15 = .ok (.invokevirtual 38, 3) := by decide +kernel
theorem dX9_compared_18 : decode cX9_compared 18 = .ok (.ifCond .ne 23, 3) := by decide +kernel
theorem dX9_compared_21 : decode cX9_compared 21 = .ok (.aload_n 0, 1) := by decide +kernel
theorem dX9_compared_22 : decode cX9_compared 22 = .ok (.aload_n 1, 1) := by decide +kernel
theorem dX9_compared_23 : decode cX9_compared 23 = .ok (.bipush 61, 2) := by decide +kernel
theorem dX9_compared_25 : decode cX9_compared 25 = .ok (.invokevirtual 38, 3) := by decide +kernel
theorem dX9_compared_28 : decode cX9_compared 28 = .ok (.ifCond .ne 13, 3) := by decide +kernel
theorem dX9_compared_31 : decode cX9_compared 31 = .ok (.aload_n 0, 1) := by decide +kernel
theorem dX9_compared_32 : decode cX9_compared 32 = .ok (.aload_n 1, 1) := by decide +kernel
theorem dX9_compared_33 : decode cX9_compared 33 = .ok (.bipush 62, 2) := by decide +kernel
theorem dX9_compared_35 : decode cX9_compared 35 = .ok (.invokevirtual 38, 3) := by decide +kernel
theorem dX9_compared_38 : decode cX9_compared 38 = .ok (.ifCond .eq 37, 3) := by decide +kernel
theorem dX9_compared_41 : decode cX9_compared 41 = .ok (.aload_n 1, 1) := by decide +kernel
theorem dX9_compared_42 : decode cX9_compared 42 = .ok (.aload_n 0, 1) := by decide +kernel
theorem dX9_compared_43 : decode cX9_compared 43 = .ok (.getfield 22, 3) := by decide +kernel
theorem dX9_compared_46 : decode cX9_compared 46 = .ok (.invokevirtual 51, 3) := by decide +kernel
theorem dX9_compared_49 : decode cX9_compared 49 = .ok (.istore 4, 2) := by decide +kernel
theorem dX9_compared_51 : decode cX9_compared 51 = .ok (.aload_n 0, 1) := by decide +kernel
theorem dX9_compared_52 : decode cX9_compared 52 = .ok (.dup, 1) := by decide +kernel
theorem dX9_compared_53 : decode cX9_compared 53 = .ok (.getfield 22, 3) := by decide +kernel
theorem dX9_compared_56 : decode cX9_compared 56 = .ok (.iconst 1, 1) := by decide +kernel
theorem dX9_compared_57 : decode cX9_compared 57 = .ok (.iadd, 1) := by decide +kernel
theorem dX9_compared_58 : decode cX9_compared 58 = .ok (.putfield 22, 3) := by decide +kernel
theorem dX9_compared_61 : decode cX9_compared 61 = .ok (.aload_n 0, 1) := by decide +kernel
theorem dX9_compared_62 : decode cX9_compared 62 = .ok (.aload_n 1, 1) := by decide +kernel
theorem dX9_compared_63 : decode cX9_compared 63 = .ok (.iload_n 2, 1) := by decide +kernel
theorem dX9_compared_64 : decode cX9_compared 64 = .ok (.invokevirtual 48, 3) := by decide +kernel
theorem dX9_compared_67 : decode cX9_compared 67 = .ok (.istore_n 3, 1) := by decide +kernel
theorem dX9_compared_68 : decode cX9_compared 68 = .ok (.aload_n 0, 1) := by decide +kernel
theorem dX9_compared_69 : decode cX9_compared 69 = .ok (.iload 4, 2) := by decide +kernel
theorem dX9_compared_71 : decode cX9_compared 71 = .ok (.ineg, 1) := by decide +kernel
theorem dX9_compared_72 : decode cX9_compared 72 = .ok (.invokevirtual 41, 3) := by decide +kernel
theorem dX9_compared_75 : decode cX9_compared 75 = .ok (.iload_n 3, 1) := by decide +kernel
theorem dX9_compared_76 : decode cX9_compared 76 = .ok (.ireturn, 1) := by decide +kernel
theorem dX9_sum_0 : decode cX9_sum 0 = .ok (.aload_n 0, 1) := by decide +kernel
theorem dX9_sum_1 : decode cX9_sum 1 = .ok (.aload_n 1, 1) := by decide +kernel
theorem dX9_sum_2 : decode cX9_sum 2 = .ok (.iload_n 2, 1) := by decide +kernel
theorem dX9_sum_3 : decode cX9_sum 3 = .ok (.invokevirtual 55, 3) := by decide +kernel
theorem dX9_sum_6 : decode cX9_sum 6 = .ok (.istore_n 3, 1) := by decide +kernel
theorem dX9_sum_7 : decode cX9_sum 7 = .ok (.iconst 0, 1) := by decide +kernel
theorem dX9_sum_8 : decode cX9_sum 8 = .ok (.istore 4, 2) := by decide +kernel
theorem dX9_sum_10 : decode cX9_sum 10 = .ok (.iload 4, 2) := by decide +kernel
theorem dX9_sum_12 : decode cX9_sum 12 = .ok (.bipush 50, 2) := by decide +kernel
theorem dX9_sum_14 : decode cX9_sum 14 = .ok (.if_icmp .ge 67, 3) := by decide +kernel
theorem dX9_sum_17 : decode cX9_sum 17 = .ok (.iload_n 3, 1) := by decide +kernel
theorem dX9_sum_18 : decode cX9_sum 18 = .ok (.ifCond .eq 63, 3) := by decide +kernel
theorem dX9_sum_21 : decode cX9_sum 21 = .ok (.aload_n 0, 1) := by decide +kernel
theorem dX9_sum_22 : decode cX9_sum 22 = .ok (.aload_n 1, 1) := by decide +kernel
theorem dX9_sum_23 : decode cX9_sum 23 = .ok (.bipush 43, 2) := by decide +kernel
theorem dX9_sum_25 : decode cX9_sum 25 = .ok (.invokevirtual 38, 3) := by decide +kernel
theorem dX9_sum_28 : decode cX9_sum 28 = .ok (.ifCond .ne 13, 3) := by decide +kernel
theorem dX9_sum_31 : decode cX9_sum 31 = .ok (.aload_n 0, 1) := by decide +kernel
theorem dX9_sum_32 : decode cX9_sum 32 = .ok (.aload_n 1, 1) := by decide +kernel
theorem dX9_sum_33 : decode cX9_sum 33 = .ok (.bipush 45, 2) := by decide +kernel
theorem dX9_sum_35 : decode cX9_sum 35 = .ok (.invokevirtual 38, 3) := by decide +kernel
theorem dX9_sum_38 : decode cX9_sum 38 = .ok (.ifCond .eq 43, 3) := by decide +kernel
theorem dX9_sum_41 : decode cX9_sum 41 = .ok (.aload_n 1, 1) := by decide +kernel
theorem dX9_sum_42 : decode cX9_sum 42 = .ok (.aload_n 0, 1) := by decide +kernel
theorem dX9_sum_43 : decode cX9_sum 43 = .ok (.getfield 22, 3) := by decide +kernel
theorem dX9_sum_46 : decode cX9_sum 46 = .ok (.invokevirtual 51, 3) := by decide +kernel
theorem dX9_sum_49 : decode cX9_sum 49 = .ok (.istore 5, 2) := by decide +kernel
theorem dX9_sum_51 : decode cX9_sum 51 = .ok (.aload_n 0, 1) := by decide +kernel
theorem dX9_sum_52 : decode cX9_sum 52 = .ok (.dup, 1) := by decide +kernel
theorem dX9_sum_53 : decode cX9_sum 53 = .ok (.getfield 22, 3) := by decide +kernel
theorem dX9_sum_56 : decode cX9_sum 56 = .ok (.iconst 1, 1) := by decide +kernel
theorem dX9_sum_57 : decode cX9_sum 57 = .ok (.iadd, 1) := by decide +kernel
theorem dX9_sum_58 : decode cX9_sum 58 = .ok (.putfield 22, 3) := by decide +kernel
theorem dX9_sum_61 : decode cX9_sum 61 = .ok (.aload_n 0, 1) := by decide +kernel
theorem dX9_sum_62 : decode cX9_sum 62 = .ok (.aload_n 1, 1) := by decide +kernel
theorem dX9_sum_63 : decode cX9_sum 63 = .ok (.iload_n 2, 1) := by decide +kernel
theorem dX9_sum_64 : decode cX9_sum 64 = .ok (.invokevirtual 55, 3) := by decide +kernel
theorem dX9_sum_67 : decode cX9_sum 67 = .ok (.istore_n 3, 1) := by decide +kernel
theorem dX9_sum_68 : decode cX9_sum 68 = .ok (.aload_n 0, 1) := by decide +kernel
theorem dX9_sum_69 : decode cX9_sum 69 = .ok (.iload 5, 2) := by decide +kernel
theorem dX9_sum_71 : decode cX9_sum 71 = .ok (.ineg, 1) := by decide +kernel
theorem dX9_sum_72 : decode cX9_sum 72 = .ok (.invokevirtual 41, 3) := by decide +kernel
theorem dX9_sum_75 : decode cX9_sum 75 = .ok (.iinc 4 1, 3) := by decide +kernel
theorem dX9_sum_78 : decode cX9_sum 78 = .ok (.goto (-68), 3) := by decide +kernel
theorem dX9_sum_81 : decode cX9_sum 81 = .ok (.iload_n 3, 1) := by decide +kernel
theorem dX9_sum_82 : decode cX9_sum 82 = .ok (.ireturn, 1) := by decide +kernel
theorem dX9_product_0 : decode cX9_product 0 = .ok (.aload_n 0, 1) := by decide +kernel
theorem dX9_product_1 : decode cX9_product 1 = .ok (.aload_n 1, 1) := by decide +kernel
theorem dX9_product_2 : decode cX9_product 2 = .ok (.iload_n 2, 1) := by decide +kernel
theorem dX9_product_3 : decode cX9_product 3 = .ok (.invokevirtual 58, 3) := by decide +kernel
theorem dX9_product_6 : decode cX9_product 6 = .ok (.istore_n 3, 1) := by decide +kernel
theorem dX9_product_7 : decode cX9_product 7 = .ok (.iconst 0, 1) := by decide +kernel
theorem dX9_product_8 : decode cX9_product 8 = .ok (.istore 4, 2) := by decide +kernel
theorem dX9_product_10 : decode cX9_product 10 = .ok (.iload 4, 2) := by decide +kernel
theorem dX9_product_12 : decode cX9_product 12 = .ok (.bipush 50, 2) := by decide +kernel
theorem dX9_product_14 : decode cX9_product 14 = .ok (.if_icmp .ge 55, 3) := by decide +kernel
theorem dX9_product_17 : decode cX9_product 17 = .ok (.iload_n 3, 1) := by decide +kernel
theorem dX9_product_18 : decode cX9_product 18 = .ok (.ifCond .eq 51, 3) := by decide +kernel
theorem dX9_product_21 : decode cX9_product 21 = .ok (.aload_n 0, 1) := by decide +kernel
theorem dX9_product_22 : decode cX9_product 22 = .ok (.aload_n 1, 1) := by decide +kernel
theorem dX9_product_23 : decode cX9_product 23 = .ok (.invokevirtual 61, 3) := by decide +kernel
theorem dX9_product_26 : decode cX9_product 26 = .ok (.ifCond .eq 43, 3) := by decide +kernel
theorem dX9_product_29 : decode cX9_product 29 = .ok (.aload_n 1, 1) := by decide +kernel
theorem dX9_product_30 : decode cX9_product 30 = .ok (.aload_n 0, 1) := by decide +kernel
theorem dX9_product_31 : decode cX9_product 31 = .ok (.getfield 22, 3) := by decide +kernel
theorem dX9_product_34 : decode cX9_product 34 = .ok (.invokevirtual 51, 3) := by decide +kernel
theorem dX9_product_37 : decode cX9_product 37 = .ok (.istore 5, 2) := by decide +kernel
theorem dX9_product_39 : decode cX9_product 39 = .ok (.aload_n 0, 1) := by decide +kernel
theorem dX9_product_40 : decode cX9_product 40 = .ok (.dup, 1) := by decide +kernel
theorem dX9_product_41 : decode cX9_product 41 = .ok (.getfield 22, 3) := by decide +kernel
theorem dX9_product_44 : decode cX9_product 44 = .ok (.iconst 1, 1) := by decide +kernel
theorem dX9_product_45 : decode cX9_product 45 = .ok (.iadd, 1) := by decide +kernel
theorem dX9_product_46 : decode cX9_product 46 = .ok (.putfield 22, 3) := by decide +kernel
theorem dX9_product_49 : decode cX9_product 49 = .ok (.aload_n 0, 1) := by decide +kernel
theorem dX9_product_50 : decode cX9_product 50 = .ok (.aload_n 1, 1) := by decide +kernel
theorem dX9_product_51 : decode cX9_product 51 = .ok (.iload_n 2, 1) := by decide +kernel
theorem dX9_product_52 : decode cX9_product 52 = .ok (.invokevirtual 58, 3) := by decide +kernel
theorem dX9_product_55 : decode cX9_product 55 = .ok (.istore_n 3, 1) := by decide +kernel
theorem dX9_product_56 : decode cX9_product 56 = .ok (.aload_n 0, 1) := by decide +kernel
theorem dX9_product_57 : decode cX9_product 57 = .ok (.iload 5, 2) := by decide +kernel
theorem dX9_product_59 : decode cX9_product 59 = .ok (.ineg, 1) := by decide +kernel
theorem dX9_product_60 : decode cX9_product 60 = .ok (.invokevirtual 41, 3) := by decide +kernel
theorem dX9_product_63 : decode cX9_product 63 = .ok (.iinc 4 1, 3) := by decide +kernel
theorem dX9_product_66 : decode cX9_product 66 = .ok (.goto (-56), 3) := by decide +kernel
theorem dX9_product_69 : decode cX9_product 69 = .ok (.iload_n 3, 1) := by decide +kernel
theorem dX9_product_70 : decode cX9_product 70 = .ok (.ireturn, 1) := by decide +kernel
theorem dX9_single_0 : decode cX9_single 0 = .ok (.aload_n 0, 1) := by decide +kernel
theorem dX9_single_1 : decode cX9_single 1 = .ok (.aload_n 1, 1) := by decide +kernel
theorem dX9_single_2 : decode cX9_single 2 = .ok (.invokevirtual 65, 3) := by decide +kernel
theorem dX9_single_5 : decode cX9_single 5 = .ok (.ifCond .eq 10, 3) := by decide +kernel
theorem dX9_single_8 : decode cX9_single 8 = .ok (.aload_n 0, 1) := by decide +kernel
theorem dX9_single_9 : decode cX9_single 9 = .ok (.aload_n 1, 1) := by decide +kernel
theorem dX9_single_10 : decode cX9_single 10 = .ok (.invokevirtual 68, 3) := by decide +kernel
theorem dX9_single_13 : decode cX9_single 13 = .ok (.iconst 1, 1) := by decide +kernel
theorem dX9_single_14 : decode cX9_single 14 = .ok (.ireturn, 1) := by decide +kernel
theorem dX9_single_15 : decode cX9_single 15 = .ok (.aload_n 0, 1) := by decide +kernel
theorem dX9_single_16 : decode cX9_single 16 = .ok (.aload_n 1, 1) := by decide +kernel
theorem dX9_single_17 : decode cX9_single 17 = .ok (.bipush 116, 2) := by decide +kernel
theorem dX9_single_19 : decode cX9_single 19 = .ok (.invokevirtual 38, 3) := by decide +kernel
theorem dX9_single_22 : decode cX9_single 22 = .ok (.ifCond .ne 23, 3) := by decide +kernel
theorem dX9_single_25 : decode cX9_single 25 = .ok (.aload_n 0, 1) := by decide +kernel
theorem dX9_single_26 : decode cX9_single 26 = .ok (.aload_n 1, 1) := by decide +kernel
theorem dX9_single_27 : decode cX9_single 27 = .ok (.bipush 119, 2) := by decide +kernel
theorem dX9_single_29 : decode cX9_single 29 = .ok (.invokevirtual 38, 3) := by decide +kernel
theorem dX9_single_32 : decode cX9_single 32 = .ok (.ifCond .ne 13, 3) := by decide +kernel
theorem dX9_single_35 : decode cX9_single 35 = .ok (.aload_n 0, 1) := by decide +kernel
theorem dX9_single_36 : decode cX9_single 36 = .ok (.aload_n 1, 1) := by decide +kernel
theorem dX9_single_37 : decode cX9_single 37 = .ok (.bipush 99, 2) := by decide +kernel
theorem dX9_single_39 : decode cX9_single 39 = .ok (.invokevirtual 38, 3) := by decide +kernel
theorem dX9_single_42 : decode cX9_single 42 = .ok (.ifCond .eq 28, 3) := by decide +kernel
theorem dX9_single_45 : decode cX9_single 45 = .ok (.aload_n 0, 1) := by decide +kernel
theorem dX9_single_46 : decode cX9_single 46 = .ok (.aload_n 1, 1) := by decide +kernel
theorem dX9_single_47 : decode cX9_single 47 = .ok (.aload_n 0, 1) := by decide +kernel
theorem dX9_single_48 : decode cX9_single 48 = .ok (.getfield 22, 3) := by decide +kernel
theorem dX9_single_51 : decode cX9_single 51 = .ok (.invokevirtual 51, 3) := by decide +kernel
theorem dX9_single_54 : decode cX9_single 54 = .ok (.ineg, 1) := by decide +kernel
theorem dX9_single_55 : decode cX9_single 55 = .ok (.invokevirtual 41, 3) := by decide +kernel
theorem dX9_single_58 : decode cX9_single 58 = .ok (.aload_n 0, 1) := by decide +kernel
theorem dX9_single_59 : decode cX9_single 59 = .ok (.dup, 1) := by decide +kernel
theorem dX9_single_60 : decode cX9_single 60 = .ok (.getfield 22, 3) := by decide +kernel
theorem dX9_single_63 : decode cX9_single 63 = .ok (.iconst 1, 1) := by decide +kernel
theorem dX9_single_64 : decode cX9_single 64 = .ok (.iadd, 1) := by decide +kernel
theorem dX9_single_65 : decode cX9_single 65 = .ok (.putfield 22, 3) := by decide +kernel
theorem dX9_single_68 : decode cX9_single 68 = .ok (.iconst 1, 1) := by decide +kernel
theorem dX9_single_69 : decode cX9_single 69 = .ok (.ireturn, 1) := by decide +kernel
theorem dX9_single_70 : decode cX9_single 70 = .ok (.iload_n 2, 1) := by decide +kernel
theorem dX9_single_71 : decode cX9_single 71 = .ok (.iconst 5, 1) := by decide +kernel
theorem dX9_single_72 : decode cX9_single 72 = .ok (.if_icmp .lt 5, 3) := by decide +kernel
theorem dX9_single_75 : decode cX9_single 75 = .ok (.iconst 0, 1) := by decide +kernel
theorem dX9_single_76 : decode cX9_single 76 = .ok (.ireturn, 1) := by decide +kernel
theorem dX9_single_77 : decode cX9_single 77 = .ok (.aload_n 0, 1) := by decide +kernel
theorem dX9_single_78 : decode cX9_single 78 = .ok (.aload_n 1, 1) := by decide +kernel
theorem dX9_single_79 : decode cX9_single 79 = .ok (.bipush 33, 2) := by decide +kernel
theorem dX9_single_81 : decode cX9_single 81 = .ok (.invokevirtual 38, 3) := by decide +kernel
theorem dX9_single_84 : decode cX9_single 84 = .ok (.ifCond .eq 30, 3) := by decide +kernel
theorem dX9_single_87 : decode cX9_single 87 = .ok (.aload_n 0, 1) := by decide +kernel
theorem dX9_single_88 : decode cX9_single 88 = .ok (.dup, 1) := by decide +kernel
theorem dX9_single_89 : decode cX9_single 89 = .ok (.getfield 22, 3) := by decide +kernel
theorem dX9_single_92 : decode cX9_single 92 = .ok (.iconst 1, 1) := by decide +kernel
theorem dX9_single_93 : decode cX9_single 93 = .ok (.iadd, 1) := by decide +kernel
theorem dX9_single_94 : decode cX9_single 94 = .ok (.putfield 22, 3) := by decide +kernel
theorem dX9_single_97 : decode cX9_single 97 = .ok (.aload_n 0, 1) := by decide +kernel
theorem dX9_single_98 : decode cX9_single 98 = .ok (.aload_n 1, 1) := by decide +kernel
theorem dX9_single_99 : decode cX9_single 99 = .ok (.iload_n 2, 1) := by decide +kernel
theorem dX9_single_100 : decode cX9_single 100 = .ok (.iconst 1, 1) := by decide +kernel
theorem dX9_single_101 : decode cX9_single 101 = .ok (.iadd, 1) := by decide +kernel
theorem dX9_single_102 : decode cX9_single 102 = .ok (.invokevirtual 58, 3) := by decide +kernel
theorem dX9_single_105 : decode cX9_single 105 = .ok (.istore_n 3, 1) := by decide +kernel
theorem dX9_single_106 : decode cX9_single 106 = .ok (.aload_n 0, 1) := by decide +kernel
theorem dX9_single_107 : decode cX9_single 107 = .ok (.bipush (-33), 2) := by decide +kernel
theorem dX9_single_109 : decode cX9_single 109 = .ok (.invokevirtual 41, 3) := by decide +kernel
theorem dX9_single_112 : decode cX9_single 112 = .ok (.iload_n 3, 1) := by decide +kernel
theorem dX9_single_113 : decode cX9_single 113 = .ok (.ireturn, 1) := by decide +kernel
theorem dX9_single_114 : decode cX9_single 114 = .ok (.aload_n 0, 1) := by decide +kernel
theorem dX9_single_115 : decode cX9_single 115 = .ok (.aload_n 1, 1) := by decide +kernel
theorem dX9_single_116 : decode cX9_single 116 = .ok (.bipush 40, 2) := by decide +kernel
theorem dX9_single_118 : decode cX9_single 118 = .ok (.invokevirtual 38, 3) := by decide +kernel
theorem dX9_single_121 : decode cX9_single 121 = .ok (.ifCond .eq 18, 3) := by decide +kernel
theorem dX9_single_124 : decode cX9_single 124 = .ok (.aload_n 0, 1) := by decide +kernel
theorem dX9_single_125 : decode cX9_single 125 = .ok (.aload_n 1, 1) := by decide +kernel
theorem dX9_single_126 : decode cX9_single 126 = .ok (.iload_n 2, 1) := by decide +kernel
theorem dX9_single_127 : decode cX9_single 127 = .ok (.iconst 1, 1) := by decide +kernel
theorem dX9_single_128 : decode cX9_single 128 = .ok (.iadd, 1) := by decide +kernel
theorem dX9_single_129 : decode cX9_single 129 = .ok (.invokevirtual 72, 3) := by decide +kernel
theorem dX9_single_132 : decode cX9_single 132 = .ok (.ifCond .eq 7, 3) := by decide +kernel
theorem dX9_single_135 : decode cX9_single 135 = .ok (.iconst 1, 1) := by decide +kernel
theorem dX9_single_136 : decode cX9_single 136 = .ok (.goto 4, 3) := by decide +kernel
theorem dX9_single_139 : decode cX9_single 139 = .ok (.iconst 0, 1) := by decide +kernel
theorem dX9_single_140 : decode cX9_single 140 = .ok (.ireturn, 1) := by decide +kernel
theorem dX9_inside_0 : decode cX9_inside 0 = .ok (.aload_n 0, 1) := by decide +kernel
theorem dX9_inside_1 : decode cX9_inside 1 = .ok (.dup, 1) := by decide +kernel
theorem dX9_inside_2 : decode cX9_inside 2 = .ok (.getfield 22, 3) := by decide +kernel
theorem dX9_inside_5 : decode cX9_inside 5 = .ok (.iconst 1, 1) := by decide +kernel
theorem dX9_inside_6 : decode cX9_inside 6 = .ok (.iadd, 1) := by decide +kernel
theorem dX9_inside_7 : decode cX9_inside 7 = .ok (.putfield 22, 3) := by decide +kernel
theorem dX9_inside_10 : decode cX9_inside 10 = .ok (.aload_n 0, 1) := by decide +kernel
theorem dX9_inside_11 : decode cX9_inside 11 = .ok (.aload_n 1, 1) := by decide +kernel
theorem dX9_inside_12 : decode cX9_inside 12 = .ok (.iload_n 2, 1) := by decide +kernel
theorem dX9_inside_13 : decode cX9_inside 13 = .ok (.invokevirtual 28, 3) := by decide +kernel
theorem dX9_inside_16 : decode cX9_inside 16 = .ok (.ifCond .eq 13, 3) := by decide +kernel
theorem dX9_inside_19 : decode cX9_inside 19 = .ok (.aload_n 0, 1) := by decide +kernel
theorem dX9_inside_20 : decode cX9_inside 20 = .ok (.aload_n 1, 1) := by decide +kernel
theorem dX9_inside_21 : decode cX9_inside 21 = .ok (.bipush 41, 2) := by decide +kernel
theorem dX9_inside_23 : decode cX9_inside 23 = .ok (.invokevirtual 38, 3) := by decide +kernel
theorem dX9_inside_26 : decode cX9_inside 26 = .ok (.ifCond .ne 5, 3) := by decide +kernel
theorem dX9_inside_29 : decode cX9_inside 29 = .ok (.iconst 0, 1) := by decide +kernel
theorem dX9_inside_30 : decode cX9_inside 30 = .ok (.ireturn, 1) := by decide +kernel
theorem dX9_inside_31 : decode cX9_inside 31 = .ok (.aload_n 0, 1) := by decide +kernel
theorem dX9_inside_32 : decode cX9_inside 32 = .ok (.dup, 1) := by decide +kernel
theorem dX9_inside_33 : decode cX9_inside 33 = .ok (.getfield 22, 3) := by decide +kernel
theorem dX9_inside_36 : decode cX9_inside 36 = .ok (.iconst 1, 1) := by decide +kernel
theorem dX9_inside_37 : decode cX9_inside 37 = .ok (.iadd, 1) := by decide +kernel
theorem dX9_inside_38 : decode cX9_inside 38 = .ok (.putfield 22, 3) := by decide +kernel
theorem dX9_inside_41 : decode cX9_inside 41 = .ok (.iconst 1, 1) := by decide +kernel
theorem dX9_inside_42 : decode cX9_inside 42 = .ok (.ireturn, 1) := by decide +kernel
theorem dX9_number_0 : decode cX9_number 0 = .ok (.iconst 0, 1) := by decide +kernel
theorem dX9_number_1 : decode cX9_number 1 = .ok (.istore_n 2, 1) := by decide +kernel
theorem dX9_number_2 : decode cX9_number 2 = .ok (.iconst 0, 1) := by decide +kernel
theorem dX9_number_3 : decode cX9_number 3 = .ok (.istore_n 3, 1) := by decide +kernel
theorem dX9_number_4 : decode cX9_number 4 = .ok (.iload_n 3, 1) := by decide +kernel
theorem dX9_number_5 : decode cX9_number 5 = .ok (.iconst 4, 1) := by decide +kernel
theorem dX9_number_6 : decode cX9_number 6 = .ok (.if_icmp .ge 44, 3) := by decide +kernel
theorem dX9_number_9 : decode cX9_number 9 = .ok (.aload_n 0, 1) := by decide +kernel
theorem dX9_number_10 : decode cX9_number 10 = .ok (.aload_n 1, 1) := by decide +kernel
theorem dX9_number_11 : decode cX9_number 11 = .ok (.invokevirtual 65, 3) := by decide +kernel
theorem dX9_number_14 : decode cX9_number 14 = .ok (.ifCond .eq 36, 3) := by decide +kernel
theorem dX9_number_17 : decode cX9_number 17 = .ok (.iload_n 2, 1) := by decide +kernel
theorem dX9_number_18 : decode cX9_number 18 = .ok (.bipush 10, 2) := by decide +kernel
theorem dX9_number_20 : decode cX9_number 20 = .ok (.imul, 1) := by decide +kernel
theorem dX9_number_21 : decode cX9_number 21 = .ok (.aload_n 1, 1) := by decide +kernel
theorem dX9_number_22 : decode cX9_number 22 = .ok (.aload_n 0, 1) := by decide +kernel
theorem dX9_number_23 : decode cX9_number 23 = .ok (.getfield 22, 3) := by decide +kernel
theorem dX9_number_26 : decode cX9_number 26 = .ok (.invokevirtual 51, 3) := by decide +kernel
theorem dX9_number_29 : decode cX9_number 29 = .ok (.iadd, 1) := by decide +kernel
theorem dX9_number_30 : decode cX9_number 30 = .ok (.bipush 48, 2) := by decide +kernel
theorem dX9_number_32 : decode cX9_number 32 = .ok (.isub, 1) := by decide +kernel
theorem dX9_number_33 : decode cX9_number 33 = .ok (.istore_n 2, 1) := by decide +kernel
theorem dX9_number_34 : decode cX9_number 34 = .ok (.aload_n 0, 1) := by decide +kernel
theorem dX9_number_35 : decode cX9_number 35 = .ok (.dup, 1) := by decide +kernel
theorem dX9_number_36 : decode cX9_number 36 = .ok (.getfield 22, 3) := by decide +kernel
theorem dX9_number_39 : decode cX9_number 39 = .ok (.iconst 1, 1) := by decide +kernel
theorem dX9_number_40 : decode cX9_number 40 = .ok (.iadd, 1) := by decide +kernel
theorem dX9_number_41 : decode cX9_number 41 = .ok (.putfield 22, 3) := by decide +kernel
theorem dX9_number_44 : decode cX9_number 44 = .ok (.iinc 3 1, 3) := by decide +kernel
theorem dX9_number_47 : decode cX9_number 47 = .ok (.goto (-43), 3) := by decide +kernel
theorem dX9_number_50 : decode cX9_number 50 = .ok (.aload_n 0, 1) := by decide +kernel
theorem dX9_number_51 : decode cX9_number 51 = .ok (.iload_n 2, 1) := by decide +kernel
theorem dX9_number_52 : decode cX9_number 52 = .ok (.invokevirtual 41, 3) := by decide +kernel
theorem dX9_number_55 : decode cX9_number 55 = .ok (.return_, 1) := by decide +kernel
theorem dX9_sees_0 : decode cX9_sees 0 = .ok (.aload_n 0, 1) := by decide +kernel
theorem dX9_sees_1 : decode cX9_sees 1 = .ok (.getfield 22, 3) := by decide +kernel
theorem dX9_sees_4 : decode cX9_sees 4 = .ok (.aload_n 1, 1) := by decide +kernel
theorem dX9_sees_5 : decode cX9_sees 5 = .ok (.getfield 32, 3) := by decide +kernel
theorem dX9_sees_8 : decode cX9_sees 8 = .ok (.if_icmp .ge 19, 3) := by decide +kernel
theorem dX9_sees_11 : decode cX9_sees 11 = .ok (.aload_n 1, 1) := by decide +kernel
theorem dX9_sees_12 : decode cX9_sees 12 = .ok (.aload_n 0, 1) := by decide +kernel
theorem dX9_sees_13 : decode cX9_sees 13 = .ok (.getfield 22, 3) := by decide +kernel
theorem dX9_sees_16 : decode cX9_sees 16 = .ok (.invokevirtual 51, 3) := by decide +kernel
theorem dX9_sees_19 : decode cX9_sees 19 = .ok (.iload_n 2, 1) := by decide +kernel
theorem dX9_sees_20 : decode cX9_sees 20 = .ok (.if_icmp .ne 7, 3) := by decide +kernel
theorem dX9_sees_23 : decode cX9_sees 23 = .ok (.iconst 1, 1) := by decide +kernel
theorem dX9_sees_24 : decode cX9_sees 24 = .ok (.goto 4, 3) := by decide +kernel
theorem dX9_sees_27 : decode cX9_sees 27 = .ok (.iconst 0, 1) := by decide +kernel
theorem dX9_sees_28 : decode cX9_sees 28 = .ok (.ireturn, 1) := by decide +kernel
theorem dX9_seesTimes_0 : decode cX9_seesTimes 0 = .ok (.aload_n 0, 1) := by decide +kernel
theorem dX9_seesTimes_1 : decode cX9_seesTimes 1 = .ok (.aload_n 1, 1) := by decide +kernel
theorem dX9_seesTimes_2 : decode cX9_seesTimes 2 = .ok (.bipush 42, 2) := by decide +kernel
theorem dX9_seesTimes_4 : decode cX9_seesTimes 4 = .ok (.invokevirtual 38, 3) := by decide +kernel
theorem dX9_seesTimes_7 : decode cX9_seesTimes 7 = .ok (.ifCond .ne 23, 3) := by decide +kernel
theorem dX9_seesTimes_10 : decode cX9_seesTimes 10 = .ok (.aload_n 0, 1) := by decide +kernel
theorem dX9_seesTimes_11 : decode cX9_seesTimes 11 = .ok (.aload_n 1, 1) := by decide +kernel
theorem dX9_seesTimes_12 : decode cX9_seesTimes 12 = .ok (.bipush 47, 2) := by decide +kernel
theorem dX9_seesTimes_14 : decode cX9_seesTimes 14 = .ok (.invokevirtual 38, 3) := by decide +kernel
theorem dX9_seesTimes_17 : decode cX9_seesTimes 17 = .ok (.ifCond .ne 13, 3) := by decide +kernel
theorem dX9_seesTimes_20 : decode cX9_seesTimes 20 = .ok (.aload_n 0, 1) := by decide +kernel
theorem dX9_seesTimes_21 : decode cX9_seesTimes 21 = .ok (.aload_n 1, 1) := by decide +kernel
theorem dX9_seesTimes_22 : decode cX9_seesTimes 22 = .ok (.bipush 37, 2) := by decide +kernel
theorem dX9_seesTimes_24 : decode cX9_seesTimes 24 = .ok (.invokevirtual 38, 3) := by decide +kernel
theorem dX9_seesTimes_27 : decode cX9_seesTimes 27 = .ok (.ifCond .eq 7, 3) := by decide +kernel
theorem dX9_seesTimes_30 : decode cX9_seesTimes 30 = .ok (.iconst 1, 1) := by decide +kernel
theorem dX9_seesTimes_31 : decode cX9_seesTimes 31 = .ok (.goto 4, 3) := by decide +kernel
theorem dX9_seesTimes_34 : decode cX9_seesTimes 34 = .ok (.iconst 0, 1) := by decide +kernel
theorem dX9_seesTimes_35 : decode cX9_seesTimes 35 = .ok (.ireturn, 1) := by decide +kernel
theorem dX9_seesDigit_0 : decode cX9_seesDigit 0 = .ok (.aload_n 0, 1) := by decide +kernel
theorem dX9_seesDigit_1 : decode cX9_seesDigit 1 = .ok (.getfield 22, 3) := by decide +kernel
theorem dX9_seesDigit_4 : decode cX9_seesDigit 4 = .ok (.aload_n 1, 1) := by decide +kernel
theorem dX9_seesDigit_5 : decode cX9_seesDigit 5 = .ok (.getfield 32, 3) := by decide +kernel
theorem dX9_seesDigit_8 : decode cX9_seesDigit 8 = .ok (.if_icmp .ge 25, 3) := by decide +kernel
theorem dX9_seesDigit_11 : decode cX9_seesDigit 11 = .ok (.aload_n 1, 1) := by decide +kernel
theorem dX9_seesDigit_12 : decode cX9_seesDigit 12 = .ok (.aload_n 0, 1) := by decide +kernel
theorem dX9_seesDigit_13 : decode cX9_seesDigit 13 = .ok (.getfield 22, 3) := by decide +kernel
theorem dX9_seesDigit_16 : decode cX9_seesDigit 16 = .ok (.invokevirtual 51, 3) := by decide +kernel
theorem dX9_seesDigit_19 : decode cX9_seesDigit 19 = .ok (.bipush 48, 2) := by decide +kernel
theorem dX9_seesDigit_21 : decode cX9_seesDigit 21 = .ok (.bipush 57, 2) := by decide +kernel
theorem dX9_seesDigit_23 : decode cX9_seesDigit 23 = .ok (.invokestatic 75, 3) := by decide +kernel
theorem dX9_seesDigit_26 : decode cX9_seesDigit 26 = .ok (.ifCond .eq 7, 3) := by decide +kernel
theorem dX9_seesDigit_29 : decode cX9_seesDigit 29 = .ok (.iconst 1, 1) := by decide +kernel
theorem dX9_seesDigit_30 : decode cX9_seesDigit 30 = .ok (.goto 4, 3) := by decide +kernel
theorem dX9_seesDigit_33 : decode cX9_seesDigit 33 = .ok (.iconst 0, 1) := by decide +kernel
theorem dX9_seesDigit_34 : decode cX9_seesDigit 34 = .ok (.ireturn, 1) := by decide +kernel
theorem dX9_step_0 : decode cX9_step 0 = .ok (.aload_n 0, 1) := by decide +kernel
theorem dX9_step_1 : decode cX9_step 1 = .ok (.getfield 18, 3) := by decide +kernel
theorem dX9_step_4 : decode cX9_step 4 = .ok (.aload_n 0, 1) := by decide +kernel
theorem dX9_step_5 : decode cX9_step 5 = .ok (.getfield 9, 3) := by decide +kernel
theorem dX9_step_8 : decode cX9_step 8 = .ok (.arraylength, 1) := by decide +kernel
theorem dX9_step_9 : decode cX9_step 9 = .ok (.if_icmp .ge 23, 3) := by decide +kernel
theorem dX9_step_12 : decode cX9_step 12 = .ok (.aload_n 0, 1) := by decide +kernel
theorem dX9_step_13 : decode cX9_step 13 = .ok (.getfield 9, 3) := by decide +kernel
theorem dX9_step_16 : decode cX9_step 16 = .ok (.aload_n 0, 1) := by decide +kernel
theorem dX9_step_17 : decode cX9_step 17 = .ok (.getfield 18, 3) := by decide +kernel
theorem dX9_step_20 : decode cX9_step 20 = .ok (.iload_n 1, 1) := by decide +kernel
theorem dX9_step_21 : decode cX9_step 21 = .ok (.iastore, 1) := by decide +kernel
theorem dX9_step_22 : decode cX9_step 22 = .ok (.aload_n 0, 1) := by decide +kernel
theorem dX9_step_23 : decode cX9_step 23 = .ok (.dup, 1) := by decide +kernel
theorem dX9_step_24 : decode cX9_step 24 = .ok (.getfield 18, 3) := by decide +kernel
theorem dX9_step_27 : decode cX9_step 27 = .ok (.iconst 1, 1) := by decide +kernel
theorem dX9_step_28 : decode cX9_step 28 = .ok (.iadd, 1) := by decide +kernel
theorem dX9_step_29 : decode cX9_step 29 = .ok (.putfield 18, 3) := by decide +kernel
theorem dX9_step_32 : decode cX9_step 32 = .ok (.return_, 1) := by decide +kernel
theorem dX9_value_0 : decode cX9_value 0 = .ok (.aload_n 0, 1) := by decide +kernel
theorem dX9_value_1 : decode cX9_value 1 = .ok (.iconst 0, 1) := by decide +kernel
theorem dX9_value_2 : decode cX9_value 2 = .ok (.putfield 25, 3) := by decide +kernel
theorem dX9_value_5 : decode cX9_value 5 = .ok (.iconst 0, 1) := by decide +kernel
theorem dX9_value_6 : decode cX9_value 6 = .ok (.istore 4, 2) := by decide +kernel
theorem dX9_value_8 : decode cX9_value 8 = .ok (.iload 4, 2) := by decide +kernel
theorem dX9_value_10 : decode cX9_value 10 = .ok (.aload_n 0, 1) := by decide +kernel
theorem dX9_value_11 : decode cX9_value 11 = .ok (.getfield 18, 3) := by decide +kernel
theorem dX9_value_14 : decode cX9_value 14 = .ok (.if_icmp .ge 130, 3) := by decide +kernel
theorem dX9_value_17 : decode cX9_value 17 = .ok (.aload_n 0, 1) := by decide +kernel
theorem dX9_value_18 : decode cX9_value 18 = .ok (.getfield 9, 3) := by decide +kernel
theorem dX9_value_21 : decode cX9_value 21 = .ok (.iload 4, 2) := by decide +kernel
theorem dX9_value_23 : decode cX9_value 23 = .ok (.iaload, 1) := by decide +kernel
theorem dX9_value_24 : decode cX9_value 24 = .ok (.ineg, 1) := by decide +kernel
theorem dX9_value_25 : decode cX9_value 25 = .ok (.istore 5, 2) := by decide +kernel
theorem dX9_value_27 : decode cX9_value 27 = .ok (.iload 5, 2) := by decide +kernel
theorem dX9_value_29 : decode cX9_value 29 = .ok (.ifCond .gt 17, 3) := by decide +kernel
theorem dX9_value_32 : decode cX9_value 32 = .ok (.aload_n 0, 1) := by decide +kernel
theorem dX9_value_33 : decode cX9_value 33 = .ok (.aload_n 0, 1) := by decide +kernel
theorem dX9_value_34 : decode cX9_value 34 = .ok (.getfield 9, 3) := by decide +kernel
theorem dX9_value_37 : decode cX9_value 37 = .ok (.iload 4, 2) := by decide +kernel
theorem dX9_value_39 : decode cX9_value 39 = .ok (.iaload, 1) := by decide +kernel
theorem dX9_value_40 : decode cX9_value 40 = .ok (.invokevirtual 79, 3) := by decide +kernel
theorem dX9_value_43 : decode cX9_value 43 = .ok (.goto 95, 3) := by decide +kernel
theorem dX9_value_46 : decode cX9_value 46 = .ok (.iload 5, 2) := by decide +kernel
theorem dX9_value_48 : decode cX9_value 48 = .ok (.bipush 116, 2) := by decide +kernel
theorem dX9_value_50 : decode cX9_value 50 = .ok (.if_icmp .ne 11, 3) := by decide +kernel
theorem dX9_value_53 : decode cX9_value 53 = .ok (.aload_n 0, 1) := by decide +kernel
theorem dX9_value_54 : decode cX9_value 54 = .ok (.iload_n 1, 1) := by decide +kernel
theorem dX9_value_55 : decode cX9_value 55 = .ok (.invokevirtual 79, 3) := by decide +kernel
theorem dX9_value_58 : decode cX9_value 58 = .ok (.goto 80, 3) := by decide +kernel
theorem dX9_value_61 : decode cX9_value 61 = .ok (.iload 5, 2) := by decide +kernel
theorem dX9_value_63 : decode cX9_value 63 = .ok (.bipush 119, 2) := by decide +kernel
theorem dX9_value_65 : decode cX9_value 65 = .ok (.if_icmp .ne 11, 3) := by decide +kernel
theorem dX9_value_68 : decode cX9_value 68 = .ok (.aload_n 0, 1) := by decide +kernel
theorem dX9_value_69 : decode cX9_value 69 = .ok (.iload_n 2, 1) := by decide +kernel
theorem dX9_value_70 : decode cX9_value 70 = .ok (.invokevirtual 79, 3) := by decide +kernel
theorem dX9_value_73 : decode cX9_value 73 = .ok (.goto 65, 3) := by decide +kernel
theorem dX9_value_76 : decode cX9_value 76 = .ok (.iload 5, 2) := by decide +kernel
theorem dX9_value_78 : decode cX9_value 78 = .ok (.bipush 99, 2) := by decide +kernel
theorem dX9_value_80 : decode cX9_value 80 = .ok (.if_icmp .ne 11, 3) := by decide +kernel
theorem dX9_value_83 : decode cX9_value 83 = .ok (.aload_n 0, 1) := by decide +kernel
theorem dX9_value_84 : decode cX9_value 84 = .ok (.iload_n 3, 1) := by decide +kernel
theorem dX9_value_85 : decode cX9_value 85 = .ok (.invokevirtual 79, 3) := by decide +kernel
theorem dX9_value_88 : decode cX9_value 88 = .ok (.goto 50, 3) := by decide +kernel
theorem dX9_value_91 : decode cX9_value 91 = .ok (.iload 5, 2) := by decide +kernel
theorem dX9_value_93 : decode cX9_value 93 = .ok (.bipush 33, 2) := by decide +kernel
theorem dX9_value_95 : decode cX9_value 95 = .ok (.if_icmp .ne 22, 3) := by decide +kernel
theorem dX9_value_98 : decode cX9_value 98 = .ok (.aload_n 0, 1) := by decide +kernel
theorem dX9_value_99 : decode cX9_value 99 = .ok (.aload_n 0, 1) := by decide +kernel
theorem dX9_value_100 : decode cX9_value 100 = .ok (.invokevirtual 82, 3) := by decide +kernel
theorem dX9_value_103 : decode cX9_value 103 = .ok (.ifCond .ne 7, 3) := by decide +kernel
theorem dX9_value_106 : decode cX9_value 106 = .ok (.iconst 1, 1) := by decide +kernel
theorem dX9_value_107 : decode cX9_value 107 = .ok (.goto 4, 3) := by decide +kernel
theorem dX9_value_110 : decode cX9_value 110 = .ok (.iconst 0, 1) := by decide +kernel
theorem dX9_value_111 : decode cX9_value 111 = .ok (.invokevirtual 79, 3) := by decide +kernel
theorem dX9_value_114 : decode cX9_value 114 = .ok (.goto 24, 3) := by decide +kernel
theorem dX9_value_117 : decode cX9_value 117 = .ok (.aload_n 0, 1) := by decide +kernel
theorem dX9_value_118 : decode cX9_value 118 = .ok (.invokevirtual 82, 3) := by decide +kernel
theorem dX9_value_121 : decode cX9_value 121 = .ok (.istore 6, 2) := by decide +kernel
theorem dX9_value_123 : decode cX9_value 123 = .ok (.aload_n 0, 1) := by decide +kernel
theorem dX9_value_124 : decode cX9_value 124 = .ok (.iload 5, 2) := by decide +kernel
theorem dX9_value_126 : decode cX9_value 126 = .ok (.aload_n 0, 1) := by decide +kernel
theorem dX9_value_127 : decode cX9_value 127 = .ok (.invokevirtual 82, 3) := by decide +kernel
theorem dX9_value_130 : decode cX9_value 130 = .ok (.iload 6, 2) := by decide +kernel
theorem dX9_value_132 : decode cX9_value 132 = .ok (.invokestatic 86, 3) := by decide +kernel
theorem dX9_value_135 : decode cX9_value 135 = .ok (.invokevirtual 79, 3) := by decide +kernel
theorem dX9_value_138 : decode cX9_value 138 = .ok (.iinc 4 1, 3) := by decide +kernel
theorem dX9_value_141 : decode cX9_value 141 = .ok (.goto (-133), 3) := by decide +kernel
theorem dX9_value_144 : decode cX9_value 144 = .ok (.aload_n 0, 1) := by decide +kernel
theorem dX9_value_145 : decode cX9_value 145 = .ok (.invokevirtual 82, 3) := by decide +kernel
theorem dX9_value_148 : decode cX9_value 148 = .ok (.ireturn, 1) := by decide +kernel
theorem dX9_push_0 : decode cX9_push 0 = .ok (.aload_n 0, 1) := by decide +kernel
theorem dX9_push_1 : decode cX9_push 1 = .ok (.getfield 25, 3) := by decide +kernel
theorem dX9_push_4 : decode cX9_push 4 = .ok (.aload_n 0, 1) := by decide +kernel
theorem dX9_push_5 : decode cX9_push 5 = .ok (.getfield 15, 3) := by decide +kernel
theorem dX9_push_8 : decode cX9_push 8 = .ok (.arraylength, 1) := by decide +kernel
theorem dX9_push_9 : decode cX9_push 9 = .ok (.if_icmp .ge 23, 3) := by decide +kernel
theorem dX9_push_12 : decode cX9_push 12 = .ok (.aload_n 0, 1) := by decide +kernel
theorem dX9_push_13 : decode cX9_push 13 = .ok (.getfield 15, 3) := by decide +kernel
theorem dX9_push_16 : decode cX9_push 16 = .ok (.aload_n 0, 1) := by decide +kernel
theorem dX9_push_17 : decode cX9_push 17 = .ok (.getfield 25, 3) := by decide +kernel
theorem dX9_push_20 : decode cX9_push 20 = .ok (.iload_n 1, 1) := by decide +kernel
theorem dX9_push_21 : decode cX9_push 21 = .ok (.iastore, 1) := by decide +kernel
theorem dX9_push_22 : decode cX9_push 22 = .ok (.aload_n 0, 1) := by decide +kernel
theorem dX9_push_23 : decode cX9_push 23 = .ok (.dup, 1) := by decide +kernel
theorem dX9_push_24 : decode cX9_push 24 = .ok (.getfield 25, 3) := by decide +kernel
theorem dX9_push_27 : decode cX9_push 27 = .ok (.iconst 1, 1) := by decide +kernel
theorem dX9_push_28 : decode cX9_push 28 = .ok (.iadd, 1) := by decide +kernel
theorem dX9_push_29 : decode cX9_push 29 = .ok (.putfield 25, 3) := by decide +kernel
theorem dX9_push_32 : decode cX9_push 32 = .ok (.return_, 1) := by decide +kernel
theorem dX9_pop_0 : decode cX9_pop 0 = .ok (.aload_n 0, 1) := by decide +kernel
theorem dX9_pop_1 : decode cX9_pop 1 = .ok (.getfield 25, 3) := by decide +kernel
theorem dX9_pop_4 : decode cX9_pop 4 = .ok (.ifCond .gt 5, 3) := by decide +kernel
theorem dX9_pop_7 : decode cX9_pop 7 = .ok (.iconst 0, 1) := by decide +kernel
theorem dX9_pop_8 : decode cX9_pop 8 = .ok (.ireturn, 1) := by decide +kernel
theorem dX9_pop_9 : decode cX9_pop 9 = .ok (.aload_n 0, 1) := by decide +kernel
theorem dX9_pop_10 : decode cX9_pop 10 = .ok (.dup, 1) := by decide +kernel
theorem dX9_pop_11 : decode cX9_pop 11 = .ok (.getfield 25, 3) := by decide +kernel
theorem dX9_pop_14 : decode cX9_pop 14 = .ok (.iconst 1, 1) := by decide +kernel
theorem dX9_pop_15 : decode cX9_pop 15 = .ok (.isub, 1) := by decide +kernel
theorem dX9_pop_16 : decode cX9_pop 16 = .ok (.putfield 25, 3) := by decide +kernel
theorem dX9_pop_19 : decode cX9_pop 19 = .ok (.aload_n 0, 1) := by decide +kernel
theorem dX9_pop_20 : decode cX9_pop 20 = .ok (.getfield 15, 3) := by decide +kernel
theorem dX9_pop_23 : decode cX9_pop 23 = .ok (.aload_n 0, 1) := by decide +kernel
theorem dX9_pop_24 : decode cX9_pop 24 = .ok (.getfield 25, 3) := by decide +kernel
theorem dX9_pop_27 : decode cX9_pop 27 = .ok (.iaload, 1) := by decide +kernel
theorem dX9_pop_28 : decode cX9_pop 28 = .ok (.ireturn, 1) := by decide +kernel
theorem dX9_worked_0 : decode cX9_worked 0 = .ok (.iload_n 0, 1) := by decide +kernel
theorem dX9_worked_1 : decode cX9_worked 1 = .ok (.tableswitch 202 37 62 #[143, 188, 202, 202, 202, 127, 119, 202, 123, 202, 131, 202, 202, 202, 202, 202, 202, 202, 202, 202, 202, 202, 202, 155, 166, 177], 119) := by decide +kernel
theorem dX9_worked_120 : decode cX9_worked 120 = .ok (.iload_n 1, 1) := by decide +kernel
theorem dX9_worked_121 : decode cX9_worked 121 = .ok (.iload_n 2, 1) := by decide +kernel
theorem dX9_worked_122 : decode cX9_worked 122 = .ok (.iadd, 1) := by decide +kernel
theorem dX9_worked_123 : decode cX9_worked 123 = .ok (.ireturn, 1) := by decide +kernel
theorem dX9_worked_124 : decode cX9_worked 124 = .ok (.iload_n 1, 1) := by decide +kernel
theorem dX9_worked_125 : decode cX9_worked 125 = .ok (.iload_n 2, 1) := by decide +kernel
theorem dX9_worked_126 : decode cX9_worked 126 = .ok (.isub, 1) := by decide +kernel
theorem dX9_worked_127 : decode cX9_worked 127 = .ok (.ireturn, 1) := by decide +kernel
theorem dX9_worked_128 : decode cX9_worked 128 = .ok (.iload_n 1, 1) := by decide +kernel
theorem dX9_worked_129 : decode cX9_worked 129 = .ok (.iload_n 2, 1) := by decide +kernel
theorem dX9_worked_130 : decode cX9_worked 130 = .ok (.imul, 1) := by decide +kernel
theorem dX9_worked_131 : decode cX9_worked 131 = .ok (.ireturn, 1) := by decide +kernel
theorem dX9_worked_132 : decode cX9_worked 132 = .ok (.iload_n 2, 1) := by decide +kernel
theorem dX9_worked_133 : decode cX9_worked 133 = .ok (.ifCond .ne 7, 3) := by decide +kernel
theorem dX9_worked_136 : decode cX9_worked 136 = .ok (.iconst 0, 1) := by decide +kernel
theorem dX9_worked_137 : decode cX9_worked 137 = .ok (.goto 6, 3) := by decide +kernel
theorem dX9_worked_140 : decode cX9_worked 140 = .ok (.iload_n 1, 1) := by decide +kernel
theorem dX9_worked_141 : decode cX9_worked 141 = .ok (.iload_n 2, 1) := by decide +kernel
theorem dX9_worked_142 : decode cX9_worked 142 = .ok (.idiv, 1) := by decide +kernel
theorem dX9_worked_143 : decode cX9_worked 143 = .ok (.ireturn, 1) := by decide +kernel
theorem dX9_worked_144 : decode cX9_worked 144 = .ok (.iload_n 2, 1) := by decide +kernel
theorem dX9_worked_145 : decode cX9_worked 145 = .ok (.ifCond .ne 7, 3) := by decide +kernel
theorem dX9_worked_148 : decode cX9_worked 148 = .ok (.iconst 0, 1) := by decide +kernel
theorem dX9_worked_149 : decode cX9_worked 149 = .ok (.goto 6, 3) := by decide +kernel
theorem dX9_worked_152 : decode cX9_worked 152 = .ok (.iload_n 1, 1) := by decide +kernel
theorem dX9_worked_153 : decode cX9_worked 153 = .ok (.iload_n 2, 1) := by decide +kernel
theorem dX9_worked_154 : decode cX9_worked 154 = .ok (.irem, 1) := by decide +kernel
theorem dX9_worked_155 : decode cX9_worked 155 = .ok (.ireturn, 1) := by decide +kernel
theorem dX9_worked_156 : decode cX9_worked 156 = .ok (.iload_n 1, 1) := by decide +kernel
theorem dX9_worked_157 : decode cX9_worked 157 = .ok (.iload_n 2, 1) := by decide +kernel
theorem dX9_worked_158 : decode cX9_worked 158 = .ok (.if_icmp .ge 7, 3) := by decide +kernel
theorem dX9_worked_161 : decode cX9_worked 161 = .ok (.iconst 1, 1) := by decide +kernel
theorem dX9_worked_162 : decode cX9_worked 162 = .ok (.goto 4, 3) := by decide +kernel
theorem dX9_worked_165 : decode cX9_worked 165 = .ok (.iconst 0, 1) := by decide +kernel
theorem dX9_worked_166 : decode cX9_worked 166 = .ok (.ireturn, 1) := by decide +kernel
theorem dX9_worked_167 : decode cX9_worked 167 = .ok (.iload_n 1, 1) := by decide +kernel
theorem dX9_worked_168 : decode cX9_worked 168 = .ok (.iload_n 2, 1) := by decide +kernel
theorem dX9_worked_169 : decode cX9_worked 169 = .ok (.if_icmp .ne 7, 3) := by decide +kernel
theorem dX9_worked_172 : decode cX9_worked 172 = .ok (.iconst 1, 1) := by decide +kernel
theorem dX9_worked_173 : decode cX9_worked 173 = .ok (.goto 4, 3) := by decide +kernel
theorem dX9_worked_176 : decode cX9_worked 176 = .ok (.iconst 0, 1) := by decide +kernel
theorem dX9_worked_177 : decode cX9_worked 177 = .ok (.ireturn, 1) := by decide +kernel
theorem dX9_worked_178 : decode cX9_worked 178 = .ok (.iload_n 1, 1) := by decide +kernel
theorem dX9_worked_179 : decode cX9_worked 179 = .ok (.iload_n 2, 1) := by decide +kernel
theorem dX9_worked_180 : decode cX9_worked 180 = .ok (.if_icmp .le 7, 3) := by decide +kernel
theorem dX9_worked_183 : decode cX9_worked 183 = .ok (.iconst 1, 1) := by decide +kernel
theorem dX9_worked_184 : decode cX9_worked 184 = .ok (.goto 4, 3) := by decide +kernel
theorem dX9_worked_187 : decode cX9_worked 187 = .ok (.iconst 0, 1) := by decide +kernel
theorem dX9_worked_188 : decode cX9_worked 188 = .ok (.ireturn, 1) := by decide +kernel
theorem dX9_worked_189 : decode cX9_worked 189 = .ok (.iload_n 1, 1) := by decide +kernel
theorem dX9_worked_190 : decode cX9_worked 190 = .ok (.ifCond .eq 11, 3) := by decide +kernel
theorem dX9_worked_193 : decode cX9_worked 193 = .ok (.iload_n 2, 1) := by decide +kernel
theorem dX9_worked_194 : decode cX9_worked 194 = .ok (.ifCond .eq 7, 3) := by decide +kernel
theorem dX9_worked_197 : decode cX9_worked 197 = .ok (.iconst 1, 1) := by decide +kernel
theorem dX9_worked_198 : decode cX9_worked 198 = .ok (.goto 4, 3) := by decide +kernel
theorem dX9_worked_201 : decode cX9_worked 201 = .ok (.iconst 0, 1) := by decide +kernel
theorem dX9_worked_202 : decode cX9_worked 202 = .ok (.ireturn, 1) := by decide +kernel
theorem dX9_worked_203 : decode cX9_worked 203 = .ok (.iload_n 1, 1) := by decide +kernel
theorem dX9_worked_204 : decode cX9_worked 204 = .ok (.ifCond .ne 7, 3) := by decide +kernel
theorem dX9_worked_207 : decode cX9_worked 207 = .ok (.iload_n 2, 1) := by decide +kernel
theorem dX9_worked_208 : decode cX9_worked 208 = .ok (.ifCond .eq 7, 3) := by decide +kernel
theorem dX9_worked_211 : decode cX9_worked 211 = .ok (.iconst 1, 1) := by decide +kernel
theorem dX9_worked_212 : decode cX9_worked 212 = .ok (.goto 4, 3) := by decide +kernel
theorem dX9_worked_215 : decode cX9_worked 215 = .ok (.iconst 0, 1) := by decide +kernel
theorem dX9_worked_216 : decode cX9_worked 216 = .ok (.ireturn, 1) := by decide +kernel
theorem dX10_init_0 : decode cX10_init 0 = .ok (.aload_n 0, 1) := by decide +kernel
theorem dX10_init_1 : decode cX10_init 1 = .ok (.iload_n 1, 1) := by decide +kernel
theorem dX10_init_2 : decode cX10_init 2 = .ok (.iload_n 2, 1) := by decide +kernel
theorem dX10_init_3 : decode cX10_init 3 = .ok (.iload_n 3, 1) := by decide +kernel
theorem dX10_init_4 : decode cX10_init 4 = .ok (.invokespecial 1, 3) := by decide +kernel
theorem dX10_init_7 : decode cX10_init 7 = .ok (.return_, 1) := by decide +kernel
theorem dX10_freeze_0 : decode cX10_freeze 0 = .ok (.iload_n 2, 1) := by decide +kernel
theorem dX10_freeze_1 : decode cX10_freeze 1 = .ok (.aload_n 1, 1) := by decide +kernel
theorem dX10_freeze_2 : decode cX10_freeze 2 = .ok (.getfield 7, 3) := by decide +kernel
theorem dX10_freeze_5 : decode cX10_freeze 5 = .ok (.iconst 1, 1) := by decide +kernel
theorem dX10_freeze_6 : decode cX10_freeze 6 = .ok (.isub, 1) := by decide +kernel
theorem dX10_freeze_7 : decode cX10_freeze 7 = .ok (.if_icmp .ne 18, 3) := by decide +kernel
theorem dX10_freeze_10 : decode cX10_freeze 10 = .ok (.bipush 10, 2) := by decide +kernel
theorem dX10_freeze_12 : decode cX10_freeze 12 = .ok (.aload_n 0, 1) := by decide +kernel
theorem dX10_freeze_13 : decode cX10_freeze 13 = .ok (.aload_n 1, 1) := by decide +kernel
theorem dX10_freeze_14 : decode cX10_freeze 14 = .ok (.iload_n 2, 1) := by decide +kernel
theorem dX10_freeze_15 : decode cX10_freeze 15 = .ok (.iload_n 3, 1) := by decide +kernel
theorem dX10_freeze_16 : decode cX10_freeze 16 = .ok (.iload 4, 2) := by decide +kernel
theorem dX10_freeze_18 : decode cX10_freeze 18 = .ok (.invokespecial 13, 3) := by decide +kernel
theorem dX10_freeze_21 : decode cX10_freeze 21 = .ok (.imul, 1) := by decide +kernel
theorem dX10_freeze_22 : decode cX10_freeze 22 = .ok (.goto 4, 3) := by decide +kernel
theorem dX10_freeze_25 : decode cX10_freeze 25 = .ok (.iconst 0, 1) := by decide +kernel
theorem dX10_freeze_26 : decode cX10_freeze 26 = .ok (.ireturn, 1) := by decide +kernel
theorem dX10_chills_0 : decode cX10_chills 0 = .ok (.aload_n 2, 1) := by decide +kernel
theorem dX10_chills_1 : decode cX10_chills 1 = .ok (.bipush 20, 2) := by decide +kernel
theorem dX10_chills_3 : decode cX10_chills 3 = .ok (.invokevirtual 17, 3) := by decide +kernel
theorem dX10_chills_6 : decode cX10_chills 6 = .ok (.aload_n 0, 1) := by decide +kernel
theorem dX10_chills_7 : decode cX10_chills 7 = .ok (.iload_n 1, 1) := by decide +kernel
theorem dX10_chills_8 : decode cX10_chills 8 = .ok (.aload_n 2, 1) := by decide +kernel
theorem dX10_chills_9 : decode cX10_chills 9 = .ok (.invokespecial 23, 3) := by decide +kernel
theorem dX10_chills_12 : decode cX10_chills 12 = .ok (.aload_n 0, 1) := by decide +kernel
theorem dX10_chills_13 : decode cX10_chills 13 = .ok (.iconst 1, 1) := by decide +kernel
theorem dX10_chills_14 : decode cX10_chills 14 = .ok (.aload_n 2, 1) := by decide +kernel
theorem dX10_chills_15 : decode cX10_chills 15 = .ok (.invokevirtual 27, 3) := by decide +kernel
theorem dX10_chills_18 : decode cX10_chills 18 = .ok (.isub, 1) := by decide +kernel
theorem dX10_chills_19 : decode cX10_chills 19 = .ok (.ireturn, 1) := by decide +kernel
theorem dJ9_abs_067f4_0 : decode cJ9_abs_067f4 0 = .ok (.lload_n 0, 1) := by decide +kernel
theorem dJ9_abs_067f4_1 : decode cJ9_abs_067f4 1 = .ok (.lconst 0, 1) := by decide +kernel
theorem dJ9_abs_067f4_2 : decode cJ9_abs_067f4 2 = .ok (.lcmp, 1) := by decide +kernel
theorem dJ9_abs_067f4_3 : decode cJ9_abs_067f4 3 = .ok (.ifCond .ge 8, 3) := by decide +kernel
theorem dJ9_abs_067f4_6 : decode cJ9_abs_067f4 6 = .ok (.lload_n 0, 1) := by decide +kernel
theorem dJ9_abs_067f4_7 : decode cJ9_abs_067f4 7 = .ok (.lneg, 1) := by decide +kernel
theorem dJ9_abs_067f4_8 : decode cJ9_abs_067f4 8 = .ok (.goto 4, 3) := by decide +kernel
theorem dJ9_abs_067f4_11 : decode cJ9_abs_067f4 11 = .ok (.lload_n 0, 1) := by decide +kernel
theorem dJ9_abs_067f4_12 : decode cJ9_abs_067f4 12 = .ok (.lreturn, 1) := by decide +kernel
theorem dJ9_max_7cf53_0 : decode cJ9_max_7cf53 0 = .ok (.iload_n 0, 1) := by decide +kernel
theorem dJ9_max_7cf53_1 : decode cJ9_max_7cf53 1 = .ok (.iload_n 1, 1) := by decide +kernel
theorem dJ9_max_7cf53_2 : decode cJ9_max_7cf53 2 = .ok (.if_icmp .lt 7, 3) := by decide +kernel
theorem dJ9_max_7cf53_5 : decode cJ9_max_7cf53 5 = .ok (.iload_n 0, 1) := by decide +kernel
theorem dJ9_max_7cf53_6 : decode cJ9_max_7cf53 6 = .ok (.goto 4, 3) := by decide +kernel
theorem dJ9_max_7cf53_9 : decode cJ9_max_7cf53 9 = .ok (.iload_n 1, 1) := by decide +kernel
theorem dJ9_max_7cf53_10 : decode cJ9_max_7cf53 10 = .ok (.ireturn, 1) := by decide +kernel
theorem dJ9_min_7cf53_0 : decode cJ9_min_7cf53 0 = .ok (.iload_n 0, 1) := by decide +kernel
theorem dJ9_min_7cf53_1 : decode cJ9_min_7cf53 1 = .ok (.iload_n 1, 1) := by decide +kernel
theorem dJ9_min_7cf53_2 : decode cJ9_min_7cf53 2 = .ok (.if_icmp .gt 7, 3) := by decide +kernel
theorem dJ9_min_7cf53_5 : decode cJ9_min_7cf53 5 = .ok (.iload_n 0, 1) := by decide +kernel
theorem dJ9_min_7cf53_6 : decode cJ9_min_7cf53 6 = .ok (.goto 4, 3) := by decide +kernel
theorem dJ9_min_7cf53_9 : decode cJ9_min_7cf53 9 = .ok (.iload_n 1, 1) := by decide +kernel
theorem dJ9_min_7cf53_10 : decode cJ9_min_7cf53 10 = .ok (.ireturn, 1) := by decide +kernel
theorem dJ9_min_f86c9_0 : decode cJ9_min_f86c9 0 = .ok (.lload_n 0, 1) := by decide +kernel
theorem dJ9_min_f86c9_1 : decode cJ9_min_f86c9 1 = .ok (.lload_n 2, 1) := by decide +kernel
theorem dJ9_min_f86c9_2 : decode cJ9_min_f86c9 2 = .ok (.lcmp, 1) := by decide +kernel
theorem dJ9_min_f86c9_3 : decode cJ9_min_f86c9 3 = .ok (.ifCond .gt 7, 3) := by decide +kernel
theorem dJ9_min_f86c9_6 : decode cJ9_min_f86c9 6 = .ok (.lload_n 0, 1) := by decide +kernel
theorem dJ9_min_f86c9_7 : decode cJ9_min_f86c9 7 = .ok (.goto 4, 3) := by decide +kernel
theorem dJ9_min_f86c9_10 : decode cJ9_min_f86c9 10 = .ok (.lload_n 2, 1) := by decide +kernel
theorem dJ9_min_f86c9_11 : decode cJ9_min_f86c9 11 = .ok (.lreturn, 1) := by decide +kernel
theorem dJ7_fill_53178_0 : decode cJ7_fill_53178 0 = .ok (.iconst 0, 1) := by decide +kernel
theorem dJ7_fill_53178_1 : decode cJ7_fill_53178 1 = .ok (.istore_n 2, 1) := by decide +kernel
theorem dJ7_fill_53178_2 : decode cJ7_fill_53178 2 = .ok (.aload_n 0, 1) := by decide +kernel
theorem dJ7_fill_53178_3 : decode cJ7_fill_53178 3 = .ok (.arraylength, 1) := by decide +kernel
theorem dJ7_fill_53178_4 : decode cJ7_fill_53178 4 = .ok (.istore_n 3, 1) := by decide +kernel
theorem dJ7_fill_53178_5 : decode cJ7_fill_53178 5 = .ok (.iload_n 2, 1) := by decide +kernel
theorem dJ7_fill_53178_6 : decode cJ7_fill_53178 6 = .ok (.iload_n 3, 1) := by decide +kernel
theorem dJ7_fill_53178_7 : decode cJ7_fill_53178 7 = .ok (.if_icmp .ge 13, 3) := by decide +kernel
theorem dJ7_fill_53178_10 : decode cJ7_fill_53178 10 = .ok (.aload_n 0, 1) := by decide +kernel
theorem dJ7_fill_53178_11 : decode cJ7_fill_53178 11 = .ok (.iload_n 2, 1) := by decide +kernel
theorem dJ7_fill_53178_12 : decode cJ7_fill_53178 12 = .ok (.iload_n 1, 1) := by decide +kernel
theorem dJ7_fill_53178_13 : decode cJ7_fill_53178 13 = .ok (.iastore, 1) := by decide +kernel
theorem dJ7_fill_53178_14 : decode cJ7_fill_53178 14 = .ok (.iinc 2 1, 3) := by decide +kernel
theorem dJ7_fill_53178_17 : decode cJ7_fill_53178 17 = .ok (.goto (-12), 3) := by decide +kernel
theorem dJ7_fill_53178_20 : decode cJ7_fill_53178 20 = .ok (.return_, 1) := by decide +kernel
