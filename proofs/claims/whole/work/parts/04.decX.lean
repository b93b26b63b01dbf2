theorem dX1_init_0 : decode cX1_init 0 = .ok (.aload_n 0, 1) := by decide +kernel
theorem dX1_init_1 : decode cX1_init 1 = .ok (.invokespecial 3, 3) := by decide +kernel
theorem dX1_init_4 : decode cX1_init 4 = .ok (.aload_n 0, 1) := by decide +kernel
theorem dX1_init_5 : decode cX1_init 5 = .ok (.bipush 6, 2) := by decide +kernel
theorem dX1_init_7 : decode cX1_init 7 = .ok (.invokestatic 9, 3) := by decide +kernel
theorem dX1_init_10 : decode cX1_init 10 = .ok (.putfield 15, 3) := by decide +kernel
theorem dX1_init_13 : decode cX1_init 13 = .ok (.aload_n 0, 1) := by decide +kernel
theorem dX1_init_14 : decode cX1_init 14 = .ok (.bipush 6, 2) := by decide +kernel
theorem dX1_init_16 : decode cX1_init 16 = .ok (.invokestatic 9, 3) := by decide +kernel
theorem dX1_init_19 : decode cX1_init 19 = .ok (.putfield 21, 3) := by decide +kernel
theorem dX1_init_22 : decode cX1_init 22 = .ok (.aload_n 0, 1) := by decide +kernel
theorem dX1_init_23 : decode cX1_init 23 = .ok (.bipush 6, 2) := by decide +kernel
theorem dX1_init_25 : decode cX1_init 25 = .ok (.invokestatic 9, 3) := by decide +kernel
theorem dX1_init_28 : decode cX1_init 28 = .ok (.putfield 24, 3) := by decide +kernel
theorem dX1_init_31 : decode cX1_init 31 = .ok (.aload_n 0, 1) := by decide +kernel
theorem dX1_init_32 : decode cX1_init 32 = .ok (.iconst 0, 1) := by decide +kernel
theorem dX1_init_33 : decode cX1_init 33 = .ok (.putfield 27, 3) := by decide +kernel
theorem dX1_init_36 : decode cX1_init 36 = .ok (.return_, 1) := by decide +kernel
theorem dX1_copyFrom_0 : decode cX1_copyFrom 0 = .ok (.aload_n 0, 1) := by decide +kernel
theorem dX1_copyFrom_1 : decode cX1_copyFrom 1 = .ok (.getfield 15, 3) := by decide +kernel
theorem dX1_copyFrom_4 : decode cX1_copyFrom 4 = .ok (.aload_n 1, 1) := by decide +kernel
theorem dX1_copyFrom_5 : decode cX1_copyFrom 5 = .ok (.getfield 15, 3) := by decide +kernel
theorem dX1_copyFrom_8 : decode cX1_copyFrom 8 = .ok (.invokevirtual 31, 3) := by decide +kernel
theorem dX1_copyFrom_11 : decode cX1_copyFrom 11 = .ok (.aload_n 0, 1) := by decide +kernel
theorem dX1_copyFrom_12 : decode cX1_copyFrom 12 = .ok (.getfield 21, 3) := by decide +kernel
theorem dX1_copyFrom_15 : decode cX1_copyFrom 15 = .ok (.aload_n 1, 1) := by decide +kernel
theorem dX1_copyFrom_16 : decode cX1_copyFrom 16 = .ok (.getfield 21, 3) := by decide +kernel
theorem dX1_copyFrom_19 : decode cX1_copyFrom 19 = .ok (.invokevirtual 31, 3) := by decide +kernel
theorem dX1_copyFrom_22 : decode cX1_copyFrom 22 = .ok (.aload_n 0, 1) := by decide +kernel
theorem dX1_copyFrom_23 : decode cX1_copyFrom 23 = .ok (.getfield 24, 3) := by decide +kernel
theorem dX1_copyFrom_26 : decode cX1_copyFrom 26 = .ok (.aload_n 1, 1) := by decide +kernel
theorem dX1_copyFrom_27 : decode cX1_copyFrom 27 = .ok (.getfield 24, 3) := by decide +kernel
theorem dX1_copyFrom_30 : decode cX1_copyFrom 30 = .ok (.invokevirtual 31, 3) := by decide +kernel
theorem dX1_copyFrom_33 : decode cX1_copyFrom 33 = .ok (.aload_n 0, 1) := by decide +kernel
theorem dX1_copyFrom_34 : decode cX1_copyFrom 34 = .ok (.aload_n 1, 1) := by decide +kernel
theorem dX1_copyFrom_35 : decode cX1_copyFrom 35 = .ok (.getfield 27, 3) := by decide +kernel
theorem dX1_copyFrom_38 : decode cX1_copyFrom 38 = .ok (.putfield 27, 3) := by decide +kernel
theorem dX1_copyFrom_41 : decode cX1_copyFrom 41 = .ok (.return_, 1) := by decide +kernel
theorem dX2_init_0 : decode cX2_init 0 = .ok (.aload_n 0, 1) := by decide +kernel
theorem dX2_init_1 : decode cX2_init 1 = .ok (.invokespecial 3, 3) := by decide +kernel
theorem dX2_init_4 : decode cX2_init 4 = .ok (.aload_n 0, 1) := by decide +kernel
theorem dX2_init_5 : decode cX2_init 5 = .ok (.aconst_null, 1) := by decide +kernel
theorem dX2_init_6 : decode cX2_init 6 = .ok (.putfield 9, 3) := by decide +kernel
theorem dX2_init_9 : decode cX2_init 9 = .ok (.aload_n 0, 1) := by decide +kernel
theorem dX2_init_10 : decode cX2_init 10 = .ok (.bipush 97, 2) := by decide +kernel
theorem dX2_init_12 : decode cX2_init 12 = .ok (.putfield 15, 3) := by decide +kernel
theorem dX2_init_15 : decode cX2_init 15 = .ok (.aload_n 0, 1) := by decide +kernel
theorem dX2_init_16 : decode cX2_init 16 = .ok (.iconst 0, 1) := by decide +kernel
theorem dX2_init_17 : decode cX2_init 17 = .ok (.putfield 19, 3) := by decide +kernel
theorem dX2_init_20 : decode cX2_init 20 = .ok (.aload_n 0, 1) := by decide +kernel
theorem dX2_init_21 : decode cX2_init 21 = .ok (.iconst 0, 1) := by decide +kernel
theorem dX2_init_22 : decode cX2_init 22 = .ok (.putfield 23, 3) := by decide +kernel
theorem dX2_init_25 : decode cX2_init 25 = .ok (.aload_n 0, 1) := by decide +kernel
theorem dX2_init_26 : decode cX2_init 26 = .ok (.iconst 0, 1) := by decide +kernel
theorem dX2_init_27 : decode cX2_init 27 = .ok (.putfield 26, 3) := by decide +kernel
theorem dX2_init_30 : decode cX2_init 30 = .ok (.return_, 1) := by decide +kernel
theorem dX2_begin_0 : decode cX2_begin 0 = .ok (.aload_n 0, 1) := by decide +kernel
theorem dX2_begin_1 : decode cX2_begin 1 = .ok (.aload_n 1, 1) := by decide +kernel
theorem dX2_begin_2 : decode cX2_begin 2 = .ok (.putfield 9, 3) := by decide +kernel
theorem dX2_begin_5 : decode cX2_begin 5 = .ok (.aload_n 0, 1) := by decide +kernel
theorem dX2_begin_6 : decode cX2_begin 6 = .ok (.iconst 0, 1) := by decide +kernel
theorem dX2_begin_7 : decode cX2_begin 7 = .ok (.putfield 26, 3) := by decide +kernel
theorem dX2_begin_10 : decode cX2_begin 10 = .ok (.return_, 1) := by decide +kernel
theorem dX2_putLetter_0 : decode cX2_putLetter 0 = .ok (.aload_n 0, 1) := by decide +kernel
theorem dX2_putLetter_1 : decode cX2_putLetter 1 = .ok (.iload_n 1, 1) := by decide +kernel
theorem dX2_putLetter_2 : decode cX2_putLetter 2 = .ok (.putfield 15, 3) := by decide +kernel
theorem dX2_putLetter_5 : decode cX2_putLetter 5 = .ok (.return_, 1) := by decide +kernel
theorem dX2_putNumber_0 : decode cX2_putNumber 0 = .ok (.aload_n 0, 1) := by decide +kernel
theorem dX2_putNumber_1 : decode cX2_putNumber 1 = .ok (.getfield 26, 3) := by decide +kernel
theorem dX2_putNumber_4 : decode cX2_putNumber 4 = .ok (.ifCond .ne 11, 3) := by decide +kernel
theorem dX2_putNumber_7 : decode cX2_putNumber 7 = .ok (.aload_n 0, 1) := by decide +kernel
theorem dX2_putNumber_8 : decode cX2_putNumber 8 = .ok (.iload_n 1, 1) := by decide +kernel
theorem dX2_putNumber_9 : decode cX2_putNumber 9 = .ok (.putfield 19, 3) := by decide +kernel
theorem dX2_putNumber_12 : decode cX2_putNumber 12 = .ok (.goto 8, 3) := by decide +kernel
theorem dX2_putNumber_15 : decode cX2_putNumber 15 = .ok (.aload_n 0, 1) := by decide +kernel
theorem dX2_putNumber_16 : decode cX2_putNumber 16 = .ok (.iload_n 1, 1) := by decide +kernel
theorem dX2_putNumber_17 : decode cX2_putNumber 17 = .ok (.putfield 23, 3) := by decide +kernel
theorem dX2_putNumber_20 : decode cX2_putNumber 20 = .ok (.aload_n 0, 1) := by decide +kernel
theorem dX2_putNumber_21 : decode cX2_putNumber 21 = .ok (.dup, 1) := by decide +kernel
theorem dX2_putNumber_22 : decode cX2_putNumber 22 = .ok (.getfield 26, 3) := by decide +kernel
theorem dX2_putNumber_25 : decode cX2_putNumber 25 = .ok (.iconst 1, 1) := by decide +kernel
theorem dX2_putNumber_26 : decode cX2_putNumber 26 = .ok (.iadd, 1) := by decide +kernel
theorem dX2_putNumber_27 : decode cX2_putNumber 27 = .ok (.putfield 26, 3) := by decide +kernel
theorem dX2_putNumber_30 : decode cX2_putNumber 30 = .ok (.return_, 1) := by decide +kernel
theorem dX3_init_0 : decode cX3_init 0 = .ok (.aload_n 0, 1) := by decide +kernel
theorem dX3_init_1 : decode cX3_init 1 = .ok (.invokespecial 3, 3) := by decide +kernel
theorem dX3_init_4 : decode cX3_init 4 = .ok (.aload_n 0, 1) := by decide +kernel
theorem dX3_init_5 : decode cX3_init 5 = .ok (.bipush 9, 2) := by decide +kernel
theorem dX3_init_7 : decode cX3_init 7 = .ok (.anewarray 11, 3) := by decide +kernel
theorem dX3_init_10 : decode cX3_init 10 = .ok (.putfield 13, 3) := by decide +kernel
theorem dX3_init_13 : decode cX3_init 13 = .ok (.aload_n 0, 1) := by decide +kernel
theorem dX3_init_14 : decode cX3_init 14 = .ok (.iconst 0, 1) := by decide +kernel
theorem dX3_init_15 : decode cX3_init 15 = .ok (.putfield 17, 3) := by decide +kernel
theorem dX3_init_18 : decode cX3_init 18 = .ok (.aload_n 0, 1) := by decide +kernel
theorem dX3_init_19 : decode cX3_init 19 = .ok (.iconst 0, 1) := by decide +kernel
theorem dX3_init_20 : decode cX3_init 20 = .ok (.putfield 21, 3) := by decide +kernel
theorem dX3_init_23 : decode cX3_init 23 = .ok (.iconst 0, 1) := by decide +kernel
theorem dX3_init_24 : decode cX3_init 24 = .ok (.istore_n 1, 1) := by decide +kernel
theorem dX3_init_25 : decode cX3_init 25 = .ok (.iload_n 1, 1) := by decide +kernel
theorem dX3_init_26 : decode cX3_init 26 = .ok (.aload_n 0, 1) := by decide +kernel
theorem dX3_init_27 : decode cX3_init 27 = .ok (.getfield 13, 3) := by decide +kernel
theorem dX3_init_30 : decode cX3_init 30 = .ok (.arraylength, 1) := by decide +kernel
theorem dX3_init_31 : decode cX3_init 31 = .ok (.if_icmp .ge 22, 3) := by decide +kernel
theorem dX3_init_34 : decode cX3_init 34 = .ok (.aload_n 0, 1) := by decide +kernel
theorem dX3_init_35 : decode cX3_init 35 = .ok (.getfield 13, 3) := by decide +kernel
theorem dX3_init_38 : decode cX3_init 38 = .ok (.iload_n 1, 1) := by decide +kernel
theorem dX3_init_39 : decode cX3_init 39 = .ok (.new 11, 3) := by decide +kernel
theorem dX3_init_42 : decode cX3_init 42 = .ok (.dup, 1) := by decide +kernel
theorem dX3_init_43 : decode cX3_init 43 = .ok (.invokespecial 24, 3) := by decide +kernel
theorem dX3_init_46 : decode cX3_init 46 = .ok (.aastore, 1) := by decide +kernel
theorem dX3_init_47 : decode cX3_init 47 = .ok (.iinc 1 1, 3) := by decide +kernel
theorem dX3_init_50 : decode cX3_init 50 = .ok (.goto (-25), 3) := by decide +kernel
theorem dX3_init_53 : decode cX3_init 53 = .ok (.return_, 1) := by decide +kernel
theorem dX3_count_0 : decode cX3_count 0 = .ok (.aload_n 0, 1) := by decide +kernel
theorem dX3_count_1 : decode cX3_count 1 = .ok (.getfield 21, 3) := by decide +kernel
theorem dX3_count_4 : decode cX3_count 4 = .ok (.ireturn, 1) := by decide +kernel
theorem dX3_prepare_0 : decode cX3_prepare 0 = .ok (.aload_n 0, 1) := by decide +kernel
theorem dX3_prepare_1 : decode cX3_prepare 1 = .ok (.getfield 17, 3) := by decide +kernel
theorem dX3_prepare_4 : decode cX3_prepare 4 = .ok (.ifCond .lt 40, 3) := by decide +kernel
theorem dX3_prepare_7 : decode cX3_prepare 7 = .ok (.aload_n 0, 1) := by decide +kernel
theorem dX3_prepare_8 : decode cX3_prepare 8 = .ok (.getfield 17, 3) := by decide +kernel
theorem dX3_prepare_11 : decode cX3_prepare 11 = .ok (.aload_n 0, 1) := by decide +kernel
theorem dX3_prepare_12 : decode cX3_prepare 12 = .ok (.getfield 13, 3) := by decide +kernel
theorem dX3_prepare_15 : decode cX3_prepare 15 = .ok (.arraylength, 1) := by decide +kernel
theorem dX3_prepare_16 : decode cX3_prepare 16 = .ok (.if_icmp .ge 28, 3) := by decide +kernel
theorem dX3_prepare_19 : decode cX3_prepare 19 = .ok (.aload_n 0, 1) := by decide +kernel
theorem dX3_prepare_20 : decode cX3_prepare 20 = .ok (.getfield 13, 3) := by decide +kernel
theorem dX3_prepare_23 : decode cX3_prepare 23 = .ok (.aload_n 0, 1) := by decide +kernel
theorem dX3_prepare_24 : decode cX3_prepare 24 = .ok (.getfield 17, 3) := by decide +kernel
theorem dX3_prepare_27 : decode cX3_prepare 27 = .ok (.aaload, 1) := by decide +kernel
theorem dX3_prepare_28 : decode cX3_prepare 28 = .ok (.ifnull 16, 3) := by decide +kernel
theorem dX3_prepare_31 : decode cX3_prepare 31 = .ok (.aload_n 0, 1) := by decide +kernel
theorem dX3_prepare_32 : decode cX3_prepare 32 = .ok (.getfield 13, 3) := by decide +kernel
theorem dX3_prepare_35 : decode cX3_prepare 35 = .ok (.aload_n 0, 1) := by decide +kernel
theorem dX3_prepare_36 : decode cX3_prepare 36 = .ok (.getfield 17, 3) := by decide +kernel
theorem dX3_prepare_39 : decode cX3_prepare 39 = .ok (.aaload, 1) := by decide +kernel
theorem dX3_prepare_40 : decode cX3_prepare 40 = .ok (.aload_n 1, 1) := by decide +kernel
theorem dX3_prepare_41 : decode cX3_prepare 41 = .ok (.invokevirtual 25, 3) := by decide +kernel
theorem dX3_prepare_44 : decode cX3_prepare 44 = .ok (.return_, 1) := by decide +kernel
theorem dX3_commit_0 : decode cX3_commit 0 = .ok (.aload_n 0, 1) := by decide +kernel
theorem dX3_commit_1 : decode cX3_commit 1 = .ok (.aload_n 0, 1) := by decide +kernel
theorem dX3_commit_2 : decode cX3_commit 2 = .ok (.getfield 17, 3) := by decide +kernel
theorem dX3_commit_5 : decode cX3_commit 5 = .ok (.iconst 1, 1) := by decide +kernel
theorem dX3_commit_6 : decode cX3_commit 6 = .ok (.iadd, 1) := by decide +kernel
theorem dX3_commit_7 : decode cX3_commit 7 = .ok (.bipush 9, 2) := by decide +kernel
theorem dX3_commit_9 : decode cX3_commit 9 = .ok (.if_icmp .ge 12, 3) := by decide +kernel
theorem dX3_commit_12 : decode cX3_commit 12 = .ok (.aload_n 0, 1) := by decide +kernel
theorem dX3_commit_13 : decode cX3_commit 13 = .ok (.getfield 17, 3) := by decide +kernel
theorem dX3_commit_16 : decode cX3_commit 16 = .ok (.iconst 1, 1) := by decide +kernel
theorem dX3_commit_17 : decode cX3_commit 17 = .ok (.iadd, 1) := by decide +kernel
theorem dX3_commit_18 : decode cX3_commit 18 = .ok (.goto 4, 3) := by decide +kernel
theorem dX3_commit_21 : decode cX3_commit 21 = .ok (.iconst 0, 1) := by decide +kernel
theorem dX3_commit_22 : decode cX3_commit 22 = .ok (.putfield 17, 3) := by decide +kernel
theorem dX3_commit_25 : decode cX3_commit 25 = .ok (.aload_n 0, 1) := by decide +kernel
theorem dX3_commit_26 : decode cX3_commit 26 = .ok (.aload_n 0, 1) := by decide +kernel
theorem dX3_commit_27 : decode cX3_commit 27 = .ok (.getfield 21, 3) := by decide +kernel
theorem dX3_commit_30 : decode cX3_commit 30 = .ok (.bipush 8, 2) := by decide +kernel
theorem dX3_commit_32 : decode cX3_commit 32 = .ok (.if_icmp .ge 12, 3) := by decide +kernel
theorem dX3_commit_35 : decode cX3_commit 35 = .ok (.aload_n 0, 1) := by decide +kernel
theorem dX3_commit_36 : decode cX3_commit 36 = .ok (.getfield 21, 3) := by decide +kernel
theorem dX3_commit_39 : decode cX3_commit 39 = .ok (.iconst 1, 1) := by decide +kernel
theorem dX3_commit_40 : decode cX3_commit 40 = .ok (.iadd, 1) := by decide +kernel
theorem dX3_commit_41 : decode cX3_commit 41 = .ok (.goto 5, 3) := by decide +kernel
theorem dX3_commit_44 : decode cX3_commit 44 = .ok (.bipush 8, 2) := by decide +kernel
theorem dX3_commit_46 : decode cX3_commit 46 = .ok (.putfield 21, 3) := by decide +kernel
theorem dX3_commit_49 : decode cX3_commit 49 = .ok (.return_, 1) := by decide +kernel
theorem dX3_abandon_0 : decode cX3_abandon 0 = .ok (.aload_n 0, 1) := by decide +kernel
theorem dX3_abandon_1 : decode cX3_abandon 1 = .ok (.getfield 17, 3) := by decide +kernel
theorem dX3_abandon_4 : decode cX3_abandon 4 = .ok (.ifCond .lt 40, 3) := by decide +kernel
theorem dX3_abandon_7 : decode cX3_abandon 7 = .ok (.aload_n 0, 1) := by decide +kernel
theorem dX3_abandon_8 : decode cX3_abandon 8 = .ok (.getfield 17, 3) := by decide +kernel
theorem dX3_abandon_11 : decode cX3_abandon 11 = .ok (.aload_n 0, 1) := by decide +kernel
theorem dX3_abandon_12 : decode cX3_abandon 12 = .ok (.getfield 13, 3) := by decide +kernel
theorem dX3_abandon_15 : decode cX3_abandon 15 = .ok (.arraylength, 1) := by decide +kernel
theorem dX3_abandon_16 : decode cX3_abandon 16 = .ok (.if_icmp .ge 28, 3) := by decide +kernel
theorem dX3_abandon_19 : decode cX3_abandon 19 = .ok (.aload_n 0, 1) := by decide +kernel
theorem dX3_abandon_20 : decode cX3_abandon 20 = .ok (.getfield 13, 3) := by decide +kernel
theorem dX3_abandon_23 : decode cX3_abandon 23 = .ok (.aload_n 0, 1) := by decide +kernel
theorem dX3_abandon_24 : decode cX3_abandon 24 = .ok (.getfield 17, 3) := by decide +kernel
theorem dX3_abandon_27 : decode cX3_abandon 27 = .ok (.aaload, 1) := by decide +kernel
theorem dX3_abandon_28 : decode cX3_abandon 28 = .ok (.ifnull 16, 3) := by decide +kernel
theorem dX3_abandon_31 : decode cX3_abandon 31 = .ok (.aload_n 1, 1) := by decide +kernel
theorem dX3_abandon_32 : decode cX3_abandon 32 = .ok (.aload_n 0, 1) := by decide +kernel
theorem dX3_abandon_33 : decode cX3_abandon 33 = .ok (.getfield 13, 3) := by decide +kernel
theorem dX3_abandon_36 : decode cX3_abandon 36 = .ok (.aload_n 0, 1) := by decide +kernel
theorem dX3_abandon_37 : decode cX3_abandon 37 = .ok (.getfield 17, 3) := by decide +kernel
theorem dX3_abandon_40 : decode cX3_abandon 40 = .ok (.aaload, 1) := by decide +kernel
theorem dX3_abandon_41 : decode cX3_abandon 41 = .ok (.invokevirtual 25, 3) := by decide +kernel
theorem dX3_abandon_44 : decode cX3_abandon 44 = .ok (.return_, 1) := by decide +kernel
theorem dX3_takeBack_0 : decode cX3_takeBack 0 = .ok (.aload_n 0, 1) := by decide +kernel
theorem dX3_takeBack_1 : decode cX3_takeBack 1 = .ok (.aload_n 0, 1) := by decide +kernel
theorem dX3_takeBack_2 : decode cX3_takeBack 2 = .ok (.getfield 17, 3) := by decide +kernel
theorem dX3_takeBack_5 : decode cX3_takeBack 5 = .ok (.ifCond .le 12, 3) := by decide +kernel
theorem dX3_takeBack_8 : decode cX3_takeBack 8 = .ok (.aload_n 0, 1) := by decide +kernel
theorem dX3_takeBack_9 : decode cX3_takeBack 9 = .ok (.getfield 17, 3) := by decide +kernel
theorem dX3_takeBack_12 : decode cX3_takeBack 12 = .ok (.iconst 1, 1) := by decide +kernel
theorem dX3_takeBack_13 : decode cX3_takeBack 13 = .ok (.isub, 1) := by decide +kernel
theorem dX3_takeBack_14 : decode cX3_takeBack 14 = .ok (.goto 5, 3) := by decide +kernel
theorem dX3_takeBack_17 : decode cX3_takeBack 17 = .ok (.bipush 8, 2) := by decide +kernel
theorem dX3_takeBack_19 : decode cX3_takeBack 19 = .ok (.putfield 17, 3) := by decide +kernel
theorem dX3_takeBack_22 : decode cX3_takeBack 22 = .ok (.aload_n 0, 1) := by decide +kernel
theorem dX3_takeBack_23 : decode cX3_takeBack 23 = .ok (.dup, 1) := by decide +kernel
theorem dX3_takeBack_24 : decode cX3_takeBack 24 = .ok (.getfield 21, 3) := by decide +kernel
theorem dX3_takeBack_27 : decode cX3_takeBack 27 = .ok (.iconst 1, 1) := by decide +kernel
theorem dX3_takeBack_28 : decode cX3_takeBack 28 = .ok (.isub, 1) := by decide +kernel
theorem dX3_takeBack_29 : decode cX3_takeBack 29 = .ok (.putfield 21, 3) := by decide +kernel
theorem dX3_takeBack_32 : decode cX3_takeBack 32 = .ok (.aload_n 0, 1) := by decide +kernel
theorem dX3_takeBack_33 : decode cX3_takeBack 33 = .ok (.aload_n 1, 1) := by decide +kernel
theorem dX3_takeBack_34 : decode cX3_takeBack 34 = .ok (.invokevirtual 29, 3) := by decide +kernel
theorem dX3_takeBack_37 : decode cX3_takeBack 37 = .ok (.return_, 1) := by decide +kernel
theorem dX3_forget_0 : decode cX3_forget 0 = .ok (.aload_n 0, 1) := by decide +kernel
theorem dX3_forget_1 : decode cX3_forget 1 = .ok (.iconst 0, 1) := by decide +kernel
theorem dX3_forget_2 : decode cX3_forget 2 = .ok (.putfield 21, 3) := by decide +kernel
theorem dX3_forget_5 : decode cX3_forget 5 = .ok (.return_, 1) := by decide +kernel
theorem dX4_init_0 : decode cX4_init 0 = .ok (.aload_n 0, 1) := by decide +kernel
theorem dX4_init_1 : decode cX4_init 1 = .ok (.invokespecial 3, 3) := by decide +kernel
theorem dX4_init_4 : decode cX4_init 4 = .ok (.aload_n 0, 1) := by decide +kernel
theorem dX4_init_5 : decode cX4_init 5 = .ok (.sipush 1005, 3) := by decide +kernel
theorem dX4_init_8 : decode cX4_init 8 = .ok (.newarray .int, 2) := by decide +kernel
theorem dX4_init_10 : decode cX4_init 10 = .ok (.putfield 9, 3) := by decide +kernel
theorem dX4_init_13 : decode cX4_init 13 = .ok (.aload_n 0, 1) := by decide +kernel
theorem dX4_init_14 : decode cX4_init 14 = .ok (.new 15, 3) := by decide +kernel
theorem dX4_init_17 : decode cX4_init 17 = .ok (.dup, 1) := by decide +kernel
theorem dX4_init_18 : decode cX4_init 18 = .ok (.bipush 12, 2) := by decide +kernel
theorem dX4_init_20 : decode cX4_init 20 = .ok (.invokespecial 17, 3) := by decide +kernel
theorem dX4_init_23 : decode cX4_init 23 = .ok (.putfield 20, 3) := by decide +kernel
theorem dX4_init_26 : decode cX4_init 26 = .ok (.return_, 1) := by decide +kernel
theorem dX4_byTable_0 : decode cX4_byTable 0 = .ok (.aload_n 0, 1) := by decide +kernel
theorem dX4_byTable_1 : decode cX4_byTable 1 = .ok (.aload_n 1, 1) := by decide +kernel
theorem dX4_byTable_2 : decode cX4_byTable 2 = .ok (.getfield 24, 3) := by decide +kernel
theorem dX4_byTable_5 : decode cX4_byTable 5 = .ok (.aload_n 1, 1) := by decide +kernel
theorem dX4_byTable_6 : decode cX4_byTable 6 = .ok (.getfield 30, 3) := by decide +kernel
theorem dX4_byTable_9 : decode cX4_byTable 9 = .ok (.iload_n 2, 1) := by decide +kernel
theorem dX4_byTable_10 : decode cX4_byTable 10 = .ok (.invokevirtual 34, 3) := by decide +kernel
theorem dX4_byTable_13 : decode cX4_byTable 13 = .ok (.invokevirtual 40, 3) := by decide +kernel
theorem dX4_byTable_16 : decode cX4_byTable 16 = .ok (.aload_n 1, 1) := by decide +kernel
theorem dX4_byTable_17 : decode cX4_byTable 17 = .ok (.iload_n 2, 1) := by decide +kernel
theorem dX4_byTable_18 : decode cX4_byTable 18 = .ok (.invokestatic 44, 3) := by decide +kernel
theorem dX4_byTable_21 : decode cX4_byTable 21 = .ok (.istore_n 3, 1) := by decide +kernel
theorem dX4_byTable_22 : decode cX4_byTable 22 = .ok (.iload_n 3, 1) := by decide +kernel
theorem dX4_byTable_23 : decode cX4_byTable 23 = .ok (.ifCond .lt 12, 3) := by decide +kernel
theorem dX4_byTable_26 : decode cX4_byTable 26 = .ok (.iload_n 3, 1) := by decide +kernel
theorem dX4_byTable_27 : decode cX4_byTable 27 = .ok (.aload_n 0, 1) := by decide +kernel
theorem dX4_byTable_28 : decode cX4_byTable 28 = .ok (.getfield 9, 3) := by decide +kernel
theorem dX4_byTable_31 : decode cX4_byTable 31 = .ok (.arraylength, 1) := by decide +kernel
theorem dX4_byTable_32 : decode cX4_byTable 32 = .ok (.if_icmp .lt 5, 3) := by decide +kernel
theorem dX4_byTable_35 : decode cX4_byTable 35 = .ok (.iconst 0, 1) := by decide +kernel
theorem dX4_byTable_36 : decode cX4_byTable 36 = .ok (.ireturn, 1) := by decide +kernel
theorem dX4_byTable_37 : decode cX4_byTable 37 = .ok (.iconst 0, 1) := by decide +kernel
theorem dX4_byTable_38 : decode cX4_byTable 38 = .ok (.istore 4, 2) := by decide +kernel
theorem dX4_byTable_40 : decode cX4_byTable 40 = .ok (.iload 4, 2) := by decide +kernel
theorem dX4_byTable_42 : decode cX4_byTable 42 = .ok (.iload_n 3, 1) := by decide +kernel
theorem dX4_byTable_43 : decode cX4_byTable 43 = .ok (.if_icmp .gt 17, 3) := by decide +kernel
theorem dX4_byTable_46 : decode cX4_byTable 46 = .ok (.aload_n 0, 1) := by decide +kernel
theorem dX4_byTable_47 : decode cX4_byTable 47 = .ok (.getfield 9, 3) := by decide +kernel
theorem dX4_byTable_50 : decode cX4_byTable 50 = .ok (.iload 4, 2) := by decide +kernel
theorem dX4_byTable_52 : decode cX4_byTable 52 = .ok (.iconst 0, 1) := by decide +kernel
theorem dX4_byTable_53 : decode cX4_byTable 53 = .ok (.iastore, 1) := by decide +kernel
theorem dX4_byTable_54 : decode cX4_byTable 54 = .ok (.iinc 4 1, 3) := by decide +kernel
theorem dX4_byTable_57 : decode cX4_byTable 57 = .ok (.goto (-17), 3) := by decide +kernel
theorem dX4_byTable_60 : decode cX4_byTable 60 = .ok (.iconst 0, 1) := by decide +kernel
theorem dX4_byTable_61 : decode cX4_byTable 61 = .ok (.istore 4, 2) := by decide +kernel
theorem dX4_byTable_63 : decode cX4_byTable 63 = .ok (.iload 4, 2) := by decide +kernel
theorem dX4_byTable_65 : decode cX4_byTable 65 = .ok (.aload_n 0, 1) := by decide +kernel
theorem dX4_byTable_66 : decode cX4_byTable 66 = .ok (.getfield 20, 3) := by decide +kernel
theorem dX4_byTable_69 : decode cX4_byTable 69 = .ok (.invokevirtual 48, 3) := by decide +kernel
theorem dX4_byTable_72 : decode cX4_byTable 72 = .ok (.if_icmp .ge 27, 3) := by decide +kernel
theorem dX4_byTable_75 : decode cX4_byTable 75 = .ok (.aload_n 0, 1) := by decide +kernel
theorem dX4_byTable_76 : decode cX4_byTable 76 = .ok (.aload_n 0, 1) := by decide +kernel
theorem dX4_byTable_77 : decode cX4_byTable 77 = .ok (.getfield 20, 3) := by decide +kernel
theorem dX4_byTable_80 : decode cX4_byTable 80 = .ok (.iload 4, 2) := by decide +kernel
theorem dX4_byTable_82 : decode cX4_byTable 82 = .ok (.invokevirtual 52, 3) := by decide +kernel
theorem dX4_byTable_85 : decode cX4_byTable 85 = .ok (.aload_n 1, 1) := by decide +kernel
theorem dX4_byTable_86 : decode cX4_byTable 86 = .ok (.getfield 56, 3) := by decide +kernel
theorem dX4_byTable_89 : decode cX4_byTable 89 = .ok (.iload_n 3, 1) := by decide +kernel
theorem dX4_byTable_90 : decode cX4_byTable 90 = .ok (.invokevirtual 60, 3) := by decide +kernel
theorem dX4_byTable_93 : decode cX4_byTable 93 = .ok (.iinc 4 1, 3) := by decide +kernel
theorem dX4_byTable_96 : decode cX4_byTable 96 = .ok (.goto (-33), 3) := by decide +kernel
theorem dX4_byTable_99 : decode cX4_byTable 99 = .ok (.aload_n 0, 1) := by decide +kernel
theorem dX4_byTable_100 : decode cX4_byTable 100 = .ok (.getfield 9, 3) := by decide +kernel
theorem dX4_byTable_103 : decode cX4_byTable 103 = .ok (.iload_n 3, 1) := by decide +kernel
theorem dX4_byTable_104 : decode cX4_byTable 104 = .ok (.iaload, 1) := by decide +kernel
theorem dX4_byTable_105 : decode cX4_byTable 105 = .ok (.ireturn, 1) := by decide +kernel
theorem dX4_byRecursion_0 : decode cX4_byRecursion 0 = .ok (.aload_n 0, 1) := by decide +kernel
theorem dX4_byRecursion_1 : decode cX4_byRecursion 1 = .ok (.aload_n 1, 1) := by decide +kernel
theorem dX4_byRecursion_2 : decode cX4_byRecursion 2 = .ok (.getfield 24, 3) := by decide +kernel
theorem dX4_byRecursion_5 : decode cX4_byRecursion 5 = .ok (.aload_n 1, 1) := by decide +kernel
theorem dX4_byRecursion_6 : decode cX4_byRecursion 6 = .ok (.getfield 30, 3) := by decide +kernel
theorem dX4_byRecursion_9 : decode cX4_byRecursion 9 = .ok (.iload_n 2, 1) := by decide +kernel
theorem dX4_byRecursion_10 : decode cX4_byRecursion 10 = .ok (.invokevirtual 34, 3) := by decide +kernel
theorem dX4_byRecursion_13 : decode cX4_byRecursion 13 = .ok (.invokevirtual 40, 3) := by decide +kernel
theorem dX4_byRecursion_16 : decode cX4_byRecursion 16 = .ok (.aload_n 0, 1) := by decide +kernel
theorem dX4_byRecursion_17 : decode cX4_byRecursion 17 = .ok (.getfield 20, 3) := by decide +kernel
theorem dX4_byRecursion_20 : decode cX4_byRecursion 20 = .ok (.iconst 0, 1) := by decide +kernel
theorem dX4_byRecursion_21 : decode cX4_byRecursion 21 = .ok (.aload_n 0, 1) := by decide +kernel
theorem dX4_byRecursion_22 : decode cX4_byRecursion 22 = .ok (.getfield 20, 3) := by decide +kernel
theorem dX4_byRecursion_25 : decode cX4_byRecursion 25 = .ok (.invokevirtual 64, 3) := by decide +kernel
theorem dX4_byRecursion_28 : decode cX4_byRecursion 28 = .ok (.aload_n 1, 1) := by decide +kernel
theorem dX4_byRecursion_29 : decode cX4_byRecursion 29 = .ok (.getfield 56, 3) := by decide +kernel
theorem dX4_byRecursion_32 : decode cX4_byRecursion 32 = .ok (.aload_n 1, 1) := by decide +kernel
theorem dX4_byRecursion_33 : decode cX4_byRecursion 33 = .ok (.iload_n 2, 1) := by decide +kernel
theorem dX4_byRecursion_34 : decode cX4_byRecursion 34 = .ok (.invokestatic 44, 3) := by decide +kernel
theorem dX4_byRecursion_37 : decode cX4_byRecursion 37 = .ok (.invokestatic 67, 3) := by decide +kernel
theorem dX4_byRecursion_40 : decode cX4_byRecursion 40 = .ok (.ireturn, 1) := by decide +kernel
theorem dX4_gatherPieces_0 : decode cX4_gatherPieces 0 = .ok (.aload_n 0, 1) := by decide +kernel
theorem dX4_gatherPieces_1 : decode cX4_gatherPieces 1 = .ok (.getfield 20, 3) := by decide +kernel
theorem dX4_gatherPieces_4 : decode cX4_gatherPieces 4 = .ok (.invokevirtual 71, 3) := by decide +kernel
theorem dX4_gatherPieces_7 : decode cX4_gatherPieces 7 = .ok (.iconst 0, 1) := by decide +kernel
theorem dX4_gatherPieces_8 : decode cX4_gatherPieces 8 = .ok (.istore_n 3, 1) := by decide +kernel
theorem dX4_gatherPieces_9 : decode cX4_gatherPieces 9 = .ok (.iload_n 3, 1) := by decide +kernel
theorem dX4_gatherPieces_10 : decode cX4_gatherPieces 10 = .ok (.aload_n 1, 1) := by decide +kernel
theorem dX4_gatherPieces_11 : decode cX4_gatherPieces 11 = .ok (.invokevirtual 74, 3) := by decide +kernel
theorem dX4_gatherPieces_14 : decode cX4_gatherPieces 14 = .ok (.if_icmp .ge 30, 3) := by decide +kernel
theorem dX4_gatherPieces_17 : decode cX4_gatherPieces 17 = .ok (.aload_n 1, 1) := by decide +kernel
theorem dX4_gatherPieces_18 : decode cX4_gatherPieces 18 = .ok (.iload_n 3, 1) := by decide +kernel
theorem dX4_gatherPieces_19 : decode cX4_gatherPieces 19 = .ok (.invokevirtual 79, 3) := by decide +kernel
theorem dX4_gatherPieces_22 : decode cX4_gatherPieces 22 = .ok (.iload_n 2, 1) := by decide +kernel
theorem dX4_gatherPieces_23 : decode cX4_gatherPieces 23 = .ok (.if_icmp .ne 15, 3) := by decide +kernel
theorem dX4_gatherPieces_26 : decode cX4_gatherPieces 26 = .ok (.aload_n 0, 1) := by decide +kernel
theorem dX4_gatherPieces_27 : decode cX4_gatherPieces 27 = .ok (.getfield 20, 3) := by decide +kernel
theorem dX4_gatherPieces_30 : decode cX4_gatherPieces 30 = .ok (.aload_n 1, 1) := by decide +kernel
theorem dX4_gatherPieces_31 : decode cX4_gatherPieces 31 = .ok (.iload_n 3, 1) := by decide +kernel
theorem dX4_gatherPieces_32 : decode cX4_gatherPieces 32 = .ok (.invokevirtual 80, 3) := by decide +kernel
theorem dX4_gatherPieces_35 : decode cX4_gatherPieces 35 = .ok (.invokevirtual 83, 3) := by decide +kernel
theorem dX4_gatherPieces_38 : decode cX4_gatherPieces 38 = .ok (.iinc 3 1, 3) := by decide +kernel
theorem dX4_gatherPieces_41 : decode cX4_gatherPieces 41 = .ok (.goto (-32), 3) := by decide +kernel
theorem dX4_gatherPieces_44 : decode cX4_gatherPieces 44 = .ok (.return_, 1) := by decide +kernel
theorem dX4_roomOf_0 : decode cX4_roomOf 0 = .ok (.aload_n 0, 1) := by decide +kernel
theorem dX4_roomOf_1 : decode cX4_roomOf 1 = .ok (.getfield 30, 3) := by decide +kernel
theorem dX4_roomOf_4 : decode cX4_roomOf 4 = .ok (.iload_n 1, 1) := by decide +kernel
theorem dX4_roomOf_5 : decode cX4_roomOf 5 = .ok (.invokevirtual 86, 3) := by decide +kernel
theorem dX4_roomOf_8 : decode cX4_roomOf 8 = .ok (.aload_n 0, 1) := by decide +kernel
theorem dX4_roomOf_9 : decode cX4_roomOf 9 = .ok (.getfield 56, 3) := by decide +kernel
theorem dX4_roomOf_12 : decode cX4_roomOf 12 = .ok (.iadd, 1) := by decide +kernel
theorem dX4_roomOf_13 : decode cX4_roomOf 13 = .ok (.ireturn, 1) := by decide +kernel
theorem dX4_enterPiece_0 : decode cX4_enterPiece 0 = .ok (.iload_n 1, 1) := by decide +kernel
theorem dX4_enterPiece_1 : decode cX4_enterPiece 1 = .ok (.iload_n 2, 1) := by decide +kernel
theorem dX4_enterPiece_2 : decode cX4_enterPiece 2 = .ok (.iadd, 1) := by decide +kernel
theorem dX4_enterPiece_3 : decode cX4_enterPiece 3 = .ok (.istore 4, 2) := by decide +kernel
theorem dX4_enterPiece_5 : decode cX4_enterPiece 5 = .ok (.iload 4, 2) := by decide +kernel
theorem dX4_enterPiece_7 : decode cX4_enterPiece 7 = .ok (.ifCond .lt 12, 3) := by decide +kernel
theorem dX4_enterPiece_10 : decode cX4_enterPiece 10 = .ok (.iload_n 3, 1) := by decide +kernel
theorem dX4_enterPiece_11 : decode cX4_enterPiece 11 = .ok (.aload_n 0, 1) := by decide +kernel
theorem dX4_enterPiece_12 : decode cX4_enterPiece 12 = .ok (.getfield 9, 3) := by decide +kernel
theorem dX4_enterPiece_15 : decode cX4_enterPiece 15 = .ok (.arraylength, 1) := by decide +kernel
theorem dX4_enterPiece_16 : decode cX4_enterPiece 16 = .ok (.if_icmp .lt 4, 3) := by decide +kernel
theorem dX4_enterPiece_19 : decode cX4_enterPiece 19 = .ok (.return_, 1) := by decide +kernel
theorem dX4_enterPiece_20 : decode cX4_enterPiece 20 = .ok (.iload_n 3, 1) := by decide +kernel
theorem dX4_enterPiece_21 : decode cX4_enterPiece 21 = .ok (.istore 5, 2) := by decide +kernel
theorem dX4_enterPiece_23 : decode cX4_enterPiece 23 = .ok (.iload 5, 2) := by decide +kernel
theorem dX4_enterPiece_25 : decode cX4_enterPiece 25 = .ok (.iload 4, 2) := by decide +kernel
theorem dX4_enterPiece_27 : decode cX4_enterPiece 27 = .ok (.if_icmp .lt 44, 3) := by decide +kernel
theorem dX4_enterPiece_30 : decode cX4_enterPiece 30 = .ok (.aload_n 0, 1) := by decide +kernel
theorem dX4_enterPiece_31 : decode cX4_enterPiece 31 = .ok (.getfield 9, 3) := by decide +kernel
theorem dX4_enterPiece_34 : decode cX4_enterPiece 34 = .ok (.iload 5, 2) := by decide +kernel
theorem dX4_enterPiece_36 : decode cX4_enterPiece 36 = .ok (.iload 4, 2) := by decide +kernel
theorem dX4_enterPiece_38 : decode cX4_enterPiece 38 = .ok (.isub, 1) := by decide +kernel
theorem dX4_enterPiece_39 : decode cX4_enterPiece 39 = .ok (.iaload, 1) := by decide +kernel
theorem dX4_enterPiece_40 : decode cX4_enterPiece 40 = .ok (.iload_n 1, 1) := by decide +kernel
theorem dX4_enterPiece_41 : decode cX4_enterPiece 41 = .ok (.iadd, 1) := by decide +kernel
theorem dX4_enterPiece_42 : decode cX4_enterPiece 42 = .ok (.istore 6, 2) := by decide +kernel
theorem dX4_enterPiece_44 : decode cX4_enterPiece 44 = .ok (.iload 6, 2) := by decide +kernel
theorem dX4_enterPiece_46 : decode cX4_enterPiece 46 = .ok (.aload_n 0, 1) := by decide +kernel
theorem dX4_enterPiece_47 : decode cX4_enterPiece 47 = .ok (.getfield 9, 3) := by decide +kernel
theorem dX4_enterPiece_50 : decode cX4_enterPiece 50 = .ok (.iload 5, 2) := by decide +kernel
theorem dX4_enterPiece_52 : decode cX4_enterPiece 52 = .ok (.iaload, 1) := by decide +kernel
theorem dX4_enterPiece_53 : decode cX4_enterPiece 53 = .ok (.if_icmp .le 12, 3) := by decide +kernel
theorem dX4_enterPiece_56 : decode cX4_enterPiece 56 = .ok (.aload_n 0, 1) := by decide +kernel
theorem dX4_enterPiece_57 : decode cX4_enterPiece 57 = .ok (.getfield 9, 3) := by decide +kernel
theorem dX4_enterPiece_60 : decode cX4_enterPiece 60 = .ok (.iload 5, 2) := by decide +kernel
theorem dX4_enterPiece_62 : decode cX4_enterPiece 62 = .ok (.iload 6, 2) := by decide +kernel
theorem dX4_enterPiece_64 : decode cX4_enterPiece 64 = .ok (.iastore, 1) := by decide +kernel
theorem dX4_enterPiece_65 : decode cX4_enterPiece 65 = .ok (.iinc 5 (-1), 3) := by decide +kernel
theorem dX4_enterPiece_68 : decode cX4_enterPiece 68 = .ok (.goto (-45), 3) := by decide +kernel
theorem dX4_enterPiece_71 : decode cX4_enterPiece 71 = .ok (.return_, 1) := by decide +kernel
theorem dX4_takeOrLeave_0 : decode cX4_takeOrLeave 0 = .ok (.iload_n 1, 1) := by decide +kernel
theorem dX4_takeOrLeave_1 : decode cX4_takeOrLeave 1 = .ok (.aload_n 0, 1) := by decide +kernel
theorem dX4_takeOrLeave_2 : decode cX4_takeOrLeave 2 = .ok (.invokevirtual 48, 3) := by decide +kernel
theorem dX4_takeOrLeave_5 : decode cX4_takeOrLeave 5 = .ok (.if_icmp .ge 9, 3) := by decide +kernel
theorem dX4_takeOrLeave_8 : decode cX4_takeOrLeave 8 = .ok (.iload_n 1, 1) := by decide +kernel
theorem dX4_takeOrLeave_9 : decode cX4_takeOrLeave 9 = .ok (.bipush 12, 2) := by decide +kernel
theorem dX4_takeOrLeave_11 : decode cX4_takeOrLeave 11 = .ok (.if_icmp .lt 5, 3) := by decide +kernel
theorem dX4_takeOrLeave_14 : decode cX4_takeOrLeave 14 = .ok (.iconst 0, 1) := by decide +kernel
theorem dX4_takeOrLeave_15 : decode cX4_takeOrLeave 15 = .ok (.ireturn, 1) := by decide +kernel
theorem dX4_takeOrLeave_16 : decode cX4_takeOrLeave 16 = .ok (.aload_n 0, 1) := by decide +kernel
theorem dX4_takeOrLeave_17 : decode cX4_takeOrLeave 17 = .ok (.iload_n 1, 1) := by decide +kernel
theorem dX4_takeOrLeave_18 : decode cX4_takeOrLeave 18 = .ok (.invokevirtual 52, 3) := by decide +kernel
theorem dX4_takeOrLeave_21 : decode cX4_takeOrLeave 21 = .ok (.istore 5, 2) := by decide +kernel
theorem dX4_takeOrLeave_23 : decode cX4_takeOrLeave 23 = .ok (.iload_n 2, 1) := by decide +kernel
theorem dX4_takeOrLeave_24 : decode cX4_takeOrLeave 24 = .ok (.iload 5, 2) := by decide +kernel
theorem dX4_takeOrLeave_26 : decode cX4_takeOrLeave 26 = .ok (.isub, 1) := by decide +kernel
theorem dX4_takeOrLeave_27 : decode cX4_takeOrLeave 27 = .ok (.istore 6, 2) := by decide +kernel
theorem dX4_takeOrLeave_29 : decode cX4_takeOrLeave 29 = .ok (.iconst 0, 1) := by decide +kernel
theorem dX4_takeOrLeave_30 : decode cX4_takeOrLeave 30 = .ok (.istore 7, 2) := by decide +kernel
theorem dX4_takeOrLeave_32 : decode cX4_takeOrLeave 32 = .ok (.iload 5, 2) := by decide +kernel
theorem dX4_takeOrLeave_34 : decode cX4_takeOrLeave 34 = .ok (.iload_n 3, 1) := by decide +kernel
theorem dX4_takeOrLeave_35 : decode cX4_takeOrLeave 35 = .ok (.iadd, 1) := by decide +kernel
theorem dX4_takeOrLeave_36 : decode cX4_takeOrLeave 36 = .ok (.iload 4, 2) := by decide +kernel
theorem dX4_takeOrLeave_38 : decode cX4_takeOrLeave 38 = .ok (.if_icmp .gt 25, 3) := by decide +kernel
theorem dX4_takeOrLeave_41 : decode cX4_takeOrLeave 41 = .ok (.iload 5, 2) := by decide +kernel
theorem dX4_takeOrLeave_43 : decode cX4_takeOrLeave 43 = .ok (.aload_n 0, 1) := by decide +kernel
theorem dX4_takeOrLeave_44 : decode cX4_takeOrLeave 44 = .ok (.iload_n 1, 1) := by decide +kernel
theorem dX4_takeOrLeave_45 : decode cX4_takeOrLeave 45 = .ok (.iconst 1, 1) := by decide +kernel
theorem dX4_takeOrLeave_46 : decode cX4_takeOrLeave 46 = .ok (.iadd, 1) := by decide +kernel
theorem dX4_takeOrLeave_47 : decode cX4_takeOrLeave 47 = .ok (.iload 6, 2) := by decide +kernel
theorem dX4_takeOrLeave_49 : decode cX4_takeOrLeave 49 = .ok (.iload_n 3, 1) := by decide +kernel
theorem dX4_takeOrLeave_50 : decode cX4_takeOrLeave 50 = .ok (.iload 4, 2) := by decide +kernel
theorem dX4_takeOrLeave_52 : decode cX4_takeOrLeave 52 = .ok (.iload 5, 2) := by decide +kernel
theorem dX4_takeOrLeave_54 : decode cX4_takeOrLeave 54 = .ok (.isub, 1) := by decide +kernel
theorem dX4_takeOrLeave_55 : decode cX4_takeOrLeave 55 = .ok (.iload_n 3, 1) := by decide +kernel
theorem dX4_takeOrLeave_56 : decode cX4_takeOrLeave 56 = .ok (.isub, 1) := by decide +kernel
theorem dX4_takeOrLeave_57 : decode cX4_takeOrLeave 57 = .ok (.invokestatic 67, 3) := by decide +kernel
theorem dX4_takeOrLeave_60 : decode cX4_takeOrLeave 60 = .ok (.iadd, 1) := by decide +kernel
theorem dX4_takeOrLeave_61 : decode cX4_takeOrLeave 61 = .ok (.istore 7, 2) := by decide +kernel
theorem dX4_takeOrLeave_63 : decode cX4_takeOrLeave 63 = .ok (.iload 7, 2) := by decide +kernel
theorem dX4_takeOrLeave_65 : decode cX4_takeOrLeave 65 = .ok (.iload 6, 2) := by decide +kernel
theorem dX4_takeOrLeave_67 : decode cX4_takeOrLeave 67 = .ok (.if_icmp .lt 6, 3) := by decide +kernel
theorem dX4_takeOrLeave_70 : decode cX4_takeOrLeave 70 = .ok (.iload 7, 2) := by decide +kernel
theorem dX4_takeOrLeave_72 : decode cX4_takeOrLeave 72 = .ok (.ireturn, 1) := by decide +kernel
theorem dX4_takeOrLeave_73 : decode cX4_takeOrLeave 73 = .ok (.aload_n 0, 1) := by decide +kernel
theorem dX4_takeOrLeave_74 : decode cX4_takeOrLeave 74 = .ok (.iload_n 1, 1) := by decide +kernel
theorem dX4_takeOrLeave_75 : decode cX4_takeOrLeave 75 = .ok (.iconst 1, 1) := by decide +kernel
theorem dX4_takeOrLeave_76 : decode cX4_takeOrLeave 76 = .ok (.iadd, 1) := by decide +kernel
theorem dX4_takeOrLeave_77 : decode cX4_takeOrLeave 77 = .ok (.iload 6, 2) := by decide +kernel
theorem dX4_takeOrLeave_79 : decode cX4_takeOrLeave 79 = .ok (.iload_n 3, 1) := by decide +kernel
theorem dX4_takeOrLeave_80 : decode cX4_takeOrLeave 80 = .ok (.iload 4, 2) := by decide +kernel
theorem dX4_takeOrLeave_82 : decode cX4_takeOrLeave 82 = .ok (.invokestatic 67, 3) := by decide +kernel
theorem dX4_takeOrLeave_85 : decode cX4_takeOrLeave 85 = .ok (.istore 8, 2) := by decide +kernel
theorem dX4_takeOrLeave_87 : decode cX4_takeOrLeave 87 = .ok (.iload 7, 2) := by decide +kernel
theorem dX4_takeOrLeave_89 : decode cX4_takeOrLeave 89 = .ok (.iload 8, 2) := by decide +kernel
theorem dX4_takeOrLeave_91 : decode cX4_takeOrLeave 91 = .ok (.if_icmp .le 8, 3) := by decide +kernel
theorem dX4_takeOrLeave_94 : decode cX4_takeOrLeave 94 = .ok (.iload 7, 2) := by decide +kernel
theorem dX4_takeOrLeave_96 : decode cX4_takeOrLeave 96 = .ok (.goto 5, 3) := by decide +kernel
theorem dX4_takeOrLeave_99 : decode cX4_takeOrLeave 99 = .ok (.iload 8, 2) := by decide +kernel
theorem dX4_takeOrLeave_101 : decode cX4_takeOrLeave 101 = .ok (.ireturn, 1) := by decide +kernel
theorem dX5_init_0 : decode cX5_init 0 = .ok (.aload_n 0, 1) := by decide +kernel
theorem dX5_init_1 : decode cX5_init 1 = .ok (.invokespecial 3, 3) := by decide +kernel
theorem dX5_init_4 : decode cX5_init 4 = .ok (.aload_n 0, 1) := by decide +kernel
theorem dX5_init_5 : decode cX5_init 5 = .ok (.new 9, 3) := by decide +kernel
theorem dX5_init_8 : decode cX5_init 8 = .ok (.dup, 1) := by decide +kernel
theorem dX5_init_9 : decode cX5_init 9 = .ok (.bipush 12, 2) := by decide +kernel
theorem dX5_init_11 : decode cX5_init 11 = .ok (.invokespecial 11, 3) := by decide +kernel
theorem dX5_init_14 : decode cX5_init 14 = .ok (.putfield 14, 3) := by decide +kernel
theorem dX5_init_17 : decode cX5_init 17 = .ok (.aload_n 0, 1) := by decide +kernel
theorem dX5_init_18 : decode cX5_init 18 = .ok (.new 9, 3) := by decide +kernel
theorem dX5_init_21 : decode cX5_init 21 = .ok (.dup, 1) := by decide +kernel
theorem dX5_init_22 : decode cX5_init 22 = .ok (.bipush 12, 2) := by decide +kernel
theorem dX5_init_24 : decode cX5_init 24 = .ok (.invokespecial 11, 3) := by decide +kernel
theorem dX5_init_27 : decode cX5_init 27 = .ok (.putfield 20, 3) := by decide +kernel
theorem dX5_init_30 : decode cX5_init 30 = .ok (.aload_n 0, 1) := by decide +kernel
theorem dX5_init_31 : decode cX5_init 31 = .ok (.new 9, 3) := by decide +kernel
theorem dX5_init_34 : decode cX5_init 34 = .ok (.dup, 1) := by decide +kernel
theorem dX5_init_35 : decode cX5_init 35 = .ok (.bipush 12, 2) := by decide +kernel
theorem dX5_init_37 : decode cX5_init 37 = .ok (.invokespecial 11, 3) := by decide +kernel
theorem dX5_init_40 : decode cX5_init 40 = .ok (.putfield 23, 3) := by decide +kernel
theorem dX5_init_43 : decode cX5_init 43 = .ok (.aload_n 0, 1) := by decide +kernel
theorem dX5_init_44 : decode cX5_init 44 = .ok (.new 9, 3) := by decide +kernel
theorem dX5_init_47 : decode cX5_init 47 = .ok (.dup, 1) := by decide +kernel
theorem dX5_init_48 : decode cX5_init 48 = .ok (.bipush 12, 2) := by decide +kernel
theorem dX5_init_50 : decode cX5_init 50 = .ok (.invokespecial 11, 3) := by decide +kernel
theorem dX5_init_53 : decode cX5_init 53 = .ok (.putfield 26, 3) := by decide +kernel
theorem dX5_init_56 : decode cX5_init 56 = .ok (.aload_n 0, 1) := by decide +kernel
theorem dX5_init_57 : decode cX5_init 57 = .ok (.iconst 0, 1) := by decide +kernel
theorem dX5_init_58 : decode cX5_init 58 = .ok (.putfield 29, 3) := by decide +kernel
theorem dX5_init_61 : decode cX5_init 61 = .ok (.return_, 1) := by decide +kernel
theorem dX5_copyFrom_0 : decode cX5_copyFrom 0 = .ok (.aload_n 0, 1) := by decide +kernel
theorem dX5_copyFrom_1 : decode cX5_copyFrom 1 = .ok (.getfield 14, 3) := by decide +kernel
theorem dX5_copyFrom_4 : decode cX5_copyFrom 4 = .ok (.aload_n 1, 1) := by decide +kernel
theorem dX5_copyFrom_5 : decode cX5_copyFrom 5 = .ok (.getfield 14, 3) := by decide +kernel
theorem dX5_copyFrom_8 : decode cX5_copyFrom 8 = .ok (.invokevirtual 33, 3) := by decide +kernel
theorem dX5_copyFrom_11 : decode cX5_copyFrom 11 = .ok (.aload_n 0, 1) := by decide +kernel
theorem dX5_copyFrom_12 : decode cX5_copyFrom 12 = .ok (.getfield 20, 3) := by decide +kernel
theorem dX5_copyFrom_15 : decode cX5_copyFrom 15 = .ok (.aload_n 1, 1) := by decide +kernel
theorem dX5_copyFrom_16 : decode cX5_copyFrom 16 = .ok (.getfield 20, 3) := by decide +kernel
theorem dX5_copyFrom_19 : decode cX5_copyFrom 19 = .ok (.invokevirtual 33, 3) := by decide +kernel
theorem dX5_copyFrom_22 : decode cX5_copyFrom 22 = .ok (.aload_n 0, 1) := by decide +kernel
theorem dX5_copyFrom_23 : decode cX5_copyFrom 23 = .ok (.getfield 23, 3) := by decide +kernel
theorem dX5_copyFrom_26 : decode cX5_copyFrom 26 = .ok (.aload_n 1, 1) := by decide +kernel
theorem dX5_copyFrom_27 : decode cX5_copyFrom 27 = .ok (.getfield 23, 3) := by decide +kernel
theorem dX5_copyFrom_30 : decode cX5_copyFrom 30 = .ok (.invokevirtual 33, 3) := by decide +kernel
theorem dX5_copyFrom_33 : decode cX5_copyFrom 33 = .ok (.aload_n 0, 1) := by decide +kernel
theorem dX5_copyFrom_34 : decode cX5_copyFrom 34 = .ok (.getfield 26, 3) := by decide +kernel
theorem dX5_copyFrom_37 : decode cX5_copyFrom 37 = .ok (.aload_n 1, 1) := by decide +kernel
theorem dX5_copyFrom_38 : decode cX5_copyFrom 38 = .ok (.getfield 26, 3) := by decide +kernel
theorem dX5_copyFrom_41 : decode cX5_copyFrom 41 = .ok (.invokevirtual 33, 3) := by decide +kernel
theorem dX5_copyFrom_44 : decode cX5_copyFrom 44 = .ok (.aload_n 0, 1) := by decide +kernel
theorem dX5_copyFrom_45 : decode cX5_copyFrom 45 = .ok (.aload_n 1, 1) := by decide +kernel
theorem dX5_copyFrom_46 : decode cX5_copyFrom 46 = .ok (.getfield 29, 3) := by decide +kernel
theorem dX5_copyFrom_49 : decode cX5_copyFrom 49 = .ok (.putfield 29, 3) := by decide +kernel
theorem dX5_copyFrom_52 : decode cX5_copyFrom 52 = .ok (.return_, 1) := by decide +kernel
theorem dX5_count_0 : decode cX5_count 0 = .ok (.aload_n 0, 1) := by decide +kernel
theorem dX5_count_1 : decode cX5_count 1 = .ok (.getfield 14, 3) := by decide +kernel
theorem dX5_count_4 : decode cX5_count 4 = .ok (.invokevirtual 37, 3) := by decide +kernel
theorem dX5_count_7 : decode cX5_count 7 = .ok (.ireturn, 1) := by decide +kernel
theorem dX5_positionOf_0 : decode cX5_positionOf 0 = .ok (.aload_n 0, 1) := by decide +kernel
theorem dX5_positionOf_1 : decode cX5_positionOf 1 = .ok (.getfield 14, 3) := by decide +kernel
theorem dX5_positionOf_4 : decode cX5_positionOf 4 = .ok (.iload_n 1, 1) := by decide +kernel
theorem dX5_positionOf_5 : decode cX5_positionOf 5 = .ok (.invokevirtual 41, 3) := by decide +kernel
theorem dX5_positionOf_8 : decode cX5_positionOf 8 = .ok (.ireturn, 1) := by decide +kernel
theorem dX5_numberAt_0 : decode cX5_numberAt 0 = .ok (.aload_n 0, 1) := by decide +kernel
theorem dX5_numberAt_1 : decode cX5_numberAt 1 = .ok (.getfield 14, 3) := by decide +kernel
theorem dX5_numberAt_4 : decode cX5_numberAt 4 = .ok (.iload_n 1, 1) := by decide +kernel
theorem dX5_numberAt_5 : decode cX5_numberAt 5 = .ok (.invokevirtual 45, 3) := by decide +kernel
theorem dX5_numberAt_8 : decode cX5_numberAt 8 = .ok (.ireturn, 1) := by decide +kernel
theorem dX5_materialAt_0 : decode cX5_materialAt 0 = .ok (.aload_n 0, 1) := by decide +kernel
theorem dX5_materialAt_1 : decode cX5_materialAt 1 = .ok (.getfield 20, 3) := by decide +kernel
theorem dX5_materialAt_4 : decode cX5_materialAt 4 = .ok (.iload_n 1, 1) := by decide +kernel
theorem dX5_materialAt_5 : decode cX5_materialAt 5 = .ok (.invokevirtual 45, 3) := by decide +kernel
theorem dX5_materialAt_8 : decode cX5_materialAt 8 = .ok (.i2c, 1) := by decide +kernel
theorem dX5_materialAt_9 : decode cX5_materialAt 9 = .ok (.ireturn, 1) := by decide +kernel
theorem dX5_lengthAt_0 : decode cX5_lengthAt 0 = .ok (.aload_n 0, 1) := by decide +kernel
theorem dX5_lengthAt_1 : decode cX5_lengthAt 1 = .ok (.getfield 23, 3) := by decide +kernel
theorem dX5_lengthAt_4 : decode cX5_lengthAt 4 = .ok (.iload_n 1, 1) := by decide +kernel
theorem dX5_lengthAt_5 : decode cX5_lengthAt 5 = .ok (.invokevirtual 45, 3) := by decide +kernel
theorem dX5_lengthAt_8 : decode cX5_lengthAt 8 = .ok (.ireturn, 1) := by decide +kernel
theorem dX5_dueAt_0 : decode cX5_dueAt 0 = .ok (.aload_n 0, 1) := by decide +kernel
theorem dX5_dueAt_1 : decode cX5_dueAt 1 = .ok (.getfield 26, 3) := by decide +kernel
theorem dX5_dueAt_4 : decode cX5_dueAt 4 = .ok (.iload_n 1, 1) := by decide +kernel
theorem dX5_dueAt_5 : decode cX5_dueAt 5 = .ok (.invokevirtual 45, 3) := by decide +kernel
theorem dX5_dueAt_8 : decode cX5_dueAt 8 = .ok (.ireturn, 1) := by decide +kernel
theorem dX5_add_0 : decode cX5_add 0 = .ok (.iconst 0, 1) := by decide +kernel
theorem dX5_add_1 : decode cX5_add 1 = .ok (.istore 4, 2) := by decide +kernel
theorem dX5_add_3 : decode cX5_add 3 = .ok (.iload 4, 2) := by decide +kernel
theorem dX5_add_5 : decode cX5_add 5 = .ok (.aload_n 0, 1) := by decide +kernel
theorem dX5_add_6 : decode cX5_add 6 = .ok (.invokevirtual 48, 3) := by decide +kernel
theorem dX5_add_9 : decode cX5_add 9 = .ok (.if_icmp .ge 22, 3) := by decide +kernel
theorem dX5_add_12 : decode cX5_add 12 = .ok (.aload_n 0, 1) := by decide +kernel
theorem dX5_add_13 : decode cX5_add 13 = .ok (.getfield 26, 3) := by decide +kernel
theorem dX5_add_16 : decode cX5_add 16 = .ok (.iload 4, 2) := by decide +kernel
theorem dX5_add_18 : decode cX5_add 18 = .ok (.invokevirtual 45, 3) := by decide +kernel
theorem dX5_add_21 : decode cX5_add 21 = .ok (.iload_n 3, 1) := by decide +kernel
theorem dX5_add_22 : decode cX5_add 22 = .ok (.if_icmp .gt 9, 3) := by decide +kernel
theorem dX5_add_25 : decode cX5_add 25 = .ok (.iinc 4 1, 3) := by decide +kernel
theorem dX5_add_28 : decode cX5_add 28 = .ok (.goto (-25), 3) := by decide +kernel
theorem dX5_add_31 : decode cX5_add 31 = .ok (.aload_n 0, 1) := by decide +kernel
theorem dX5_add_32 : decode cX5_add 32 = .ok (.getfield 29, 3) := by decide +kernel
theorem dX5_add_35 : decode cX5_add 35 = .ok (.istore 5, 2) := by decide +kernel
theorem dX5_add_37 : decode cX5_add 37 = .ok (.aload_n 0, 1) := by decide +kernel
theorem dX5_add_38 : decode cX5_add 38 = .ok (.getfield 14, 3) := by decide +kernel
theorem dX5_add_41 : decode cX5_add 41 = .ok (.iload 4, 2) := by decide +kernel
theorem dX5_add_43 : decode cX5_add 43 = .ok (.iload 5, 2) := by decide +kernel
theorem dX5_add_45 : decode cX5_add 45 = .ok (.invokevirtual 51, 3) := by decide +kernel
theorem dX5_add_48 : decode cX5_add 48 = .ok (.aload_n 0, 1) := by decide +kernel
theorem dX5_add_49 : decode cX5_add 49 = .ok (.getfield 20, 3) := by decide +kernel
theorem dX5_add_52 : decode cX5_add 52 = .ok (.iload 4, 2) := by decide +kernel
theorem dX5_add_54 : decode cX5_add 54 = .ok (.iload_n 1, 1) := by decide +kernel
theorem dX5_add_55 : decode cX5_add 55 = .ok (.invokevirtual 51, 3) := by decide +kernel
theorem dX5_add_58 : decode cX5_add 58 = .ok (.aload_n 0, 1) := by decide +kernel
theorem dX5_add_59 : decode cX5_add 59 = .ok (.getfield 23, 3) := by decide +kernel
theorem dX5_add_62 : decode cX5_add 62 = .ok (.iload 4, 2) := by decide +kernel
theorem dX5_add_64 : decode cX5_add 64 = .ok (.iload_n 2, 1) := by decide +kernel
theorem dX5_add_65 : decode cX5_add 65 = .ok (.invokevirtual 51, 3) := by decide +kernel
theorem dX5_add_68 : decode cX5_add 68 = .ok (.aload_n 0, 1) := by decide +kernel
theorem dX5_add_69 : decode cX5_add 69 = .ok (.getfield 26, 3) := by decide +kernel
theorem dX5_add_72 : decode cX5_add 72 = .ok (.iload 4, 2) := by decide +kernel
theorem dX5_add_74 : decode cX5_add 74 = .ok (.iload_n 3, 1) := by decide +kernel
theorem dX5_add_75 : decode cX5_add 75 = .ok (.invokevirtual 51, 3) := by decide +kernel
theorem dX5_add_78 : decode cX5_add 78 = .ok (.aload_n 0, 1) := by decide +kernel
theorem dX5_add_79 : decode cX5_add 79 = .ok (.dup, 1) := by decide +kernel
theorem dX5_add_80 : decode cX5_add 80 = .ok (.getfield 29, 3) := by decide +kernel
theorem dX5_add_83 : decode cX5_add 83 = .ok (.iconst 1, 1) := by decide +kernel
theorem dX5_add_84 : decode cX5_add 84 = .ok (.iadd, 1) := by decide +kernel
theorem dX5_add_85 : decode cX5_add 85 = .ok (.putfield 29, 3) := by decide +kernel
theorem dX5_add_88 : decode cX5_add 88 = .ok (.iload 5, 2) := by decide +kernel
theorem dX5_add_90 : decode cX5_add 90 = .ok (.ireturn, 1) := by decide +kernel
theorem dX5_removeAt_0 : decode cX5_removeAt 0 = .ok (.aload_n 0, 1) := by decide +kernel
theorem dX5_removeAt_1 : decode cX5_removeAt 1 = .ok (.getfield 14, 3) := by decide +kernel
theorem dX5_removeAt_4 : decode cX5_removeAt 4 = .ok (.iload_n 1, 1) := by decide +kernel
theorem dX5_removeAt_5 : decode cX5_removeAt 5 = .ok (.invokevirtual 55, 3) := by decide +kernel
theorem dX5_removeAt_8 : decode cX5_removeAt 8 = .ok (.aload_n 0, 1) := by decide +kernel
theorem dX5_removeAt_9 : decode cX5_removeAt 9 = .ok (.getfield 20, 3) := by decide +kernel
theorem dX5_removeAt_12 : decode cX5_removeAt 12 = .ok (.iload_n 1, 1) := by decide +kernel
theorem dX5_removeAt_13 : decode cX5_removeAt 13 = .ok (.invokevirtual 55, 3) := by decide +kernel
theorem dX5_removeAt_16 : decode cX5_removeAt 16 = .ok (.aload_n 0, 1) := by decide +kernel
theorem dX5_removeAt_17 : decode cX5_removeAt 17 = .ok (.getfield 23, 3) := by decide +kernel
theorem dX5_removeAt_20 : decode cX5_removeAt 20 = .ok (.iload_n 1, 1) := by decide +kernel
theorem dX5_removeAt_21 : decode cX5_removeAt 21 = .ok (.invokevirtual 55, 3) := by decide +kernel
theorem dX5_removeAt_24 : decode cX5_removeAt 24 = .ok (.aload_n 0, 1) := by decide +kernel
theorem dX5_removeAt_25 : decode cX5_removeAt 25 = .ok (.getfield 26, 3) := by decide +kernel
theorem dX5_removeAt_28 : decode cX5_removeAt 28 = .ok (.iload_n 1, 1) := by decide +kernel
theorem dX5_removeAt_29 : decode cX5_removeAt 29 = .ok (.invokevirtual 55, 3) := by decide +kernel
theorem dX5_removeAt_32 : decode cX5_removeAt 32 = .ok (.return_, 1) := by decide +kernel
theorem dX5_isSorted_0 : decode cX5_isSorted 0 = .ok (.iconst 1, 1) := by decide +kernel
theorem dX5_isSorted_1 : decode cX5_isSorted 1 = .ok (.istore_n 1, 1) := by decide +kernel
theorem dX5_isSorted_2 : decode cX5_isSorted 2 = .ok (.iload_n 1, 1) := by decide +kernel
theorem dX5_isSorted_3 : decode cX5_isSorted 3 = .ok (.aload_n 0, 1) := by decide +kernel
theorem dX5_isSorted_4 : decode cX5_isSorted 4 = .ok (.invokevirtual 48, 3) := by decide +kernel
theorem dX5_isSorted_7 : decode cX5_isSorted 7 = .ok (.if_icmp .ge 94, 3) := by decide +kernel
theorem dX5_isSorted_10 : decode cX5_isSorted 10 = .ok (.aload_n 0, 1) := by decide +kernel
theorem dX5_isSorted_11 : decode cX5_isSorted 11 = .ok (.getfield 26, 3) := by decide +kernel
theorem dX5_isSorted_14 : decode cX5_isSorted 14 = .ok (.iload_n 1, 1) := by decide +kernel
theorem dX5_isSorted_15 : decode cX5_isSorted 15 = .ok (.iconst 1, 1) := by decide +kernel
theorem dX5_isSorted_16 : decode cX5_isSorted 16 = .ok (.isub, 1) := by decide +kernel
theorem dX5_isSorted_17 : decode cX5_isSorted 17 = .ok (.invokevirtual 45, 3) := by decide +kernel
theorem dX5_isSorted_20 : decode cX5_isSorted 20 = .ok (.aload_n 0, 1) := by decide +kernel
theorem dX5_isSorted_21 : decode cX5_isSorted 21 = .ok (.getfield 26, 3) := by decide +kernel
theorem dX5_isSorted_24 : decode cX5_isSorted 24 = .ok (.iload_n 1, 1) := by decide +kernel
theorem dX5_isSorted_25 : decode cX5_isSorted 25 = .ok (.invokevirtual 45, 3) := by decide +kernel
theorem dX5_isSorted_28 : decode cX5_isSorted 28 = .ok (.if_icmp .ge 7, 3) := by decide +kernel
theorem dX5_isSorted_31 : decode cX5_isSorted 31 = .ok (.iconst 1, 1) := by decide +kernel
theorem dX5_isSorted_32 : decode cX5_isSorted 32 = .ok (.goto 4, 3) := by decide +kernel
theorem dX5_isSorted_35 : decode cX5_isSorted 35 = .ok (.iconst 0, 1) := by decide +kernel
theorem dX5_isSorted_36 : decode cX5_isSorted 36 = .ok (.istore_n 2, 1) := by decide +kernel
theorem dX5_isSorted_37 : decode cX5_isSorted 37 = .ok (.aload_n 0, 1) := by decide +kernel
theorem dX5_isSorted_38 : decode cX5_isSorted 38 = .ok (.getfield 26, 3) := by decide +kernel
theorem dX5_isSorted_41 : decode cX5_isSorted 41 = .ok (.iload_n 1, 1) := by decide +kernel
theorem dX5_isSorted_42 : decode cX5_isSorted 42 = .ok (.iconst 1, 1) := by decide +kernel
theorem dX5_isSorted_43 : decode cX5_isSorted 43 = .ok (.isub, 1) := by decide +kernel
theorem dX5_isSorted_44 : decode cX5_isSorted 44 = .ok (.invokevirtual 45, 3) := by decide +kernel
theorem dX5_isSorted_47 : decode cX5_isSorted 47 = .ok (.aload_n 0, 1) := by decide +kernel
theorem dX5_isSorted_48 : decode cX5_isSorted 48 = .ok (.getfield 26, 3) := by decide +kernel
theorem dX5_isSorted_51 : decode cX5_isSorted 51 = .ok (.iload_n 1, 1) := by decide +kernel
theorem dX5_isSorted_52 : decode cX5_isSorted 52 = .ok (.invokevirtual 45, 3) := by decide +kernel
theorem dX5_isSorted_55 : decode cX5_isSorted 55 = .ok (.if_icmp .ne 7, 3) := by decide +kernel
theorem dX5_isSorted_58 : decode cX5_isSorted 58 = .ok (.iconst 1, 1) := by decide +kernel
theorem dX5_isSorted_59 : decode cX5_isSorted 59 = .ok (.goto 4, 3) := by decide +kernel
theorem dX5_isSorted_62 : decode cX5_isSorted 62 = .ok (.iconst 0, 1) := by decide +kernel
theorem dX5_isSorted_63 : decode cX5_isSorted 63 = .ok (.istore_n 3, 1) := by decide +kernel
theorem dX5_isSorted_64 : decode cX5_isSorted 64 = .ok (.iload_n 2, 1) := by decide +kernel
theorem dX5_isSorted_65 : decode cX5_isSorted 65 = .ok (.ifCond .ne 30, 3) := by decide +kernel
theorem dX5_isSorted_68 : decode cX5_isSorted 68 = .ok (.iload_n 3, 1) := by decide +kernel
theorem dX5_isSorted_69 : decode cX5_isSorted 69 = .ok (.ifCond .eq 24, 3) := by decide +kernel
theorem dX5_isSorted_72 : decode cX5_isSorted 72 = .ok (.aload_n 0, 1) := by decide +kernel
theorem dX5_isSorted_73 : decode cX5_isSorted 73 = .ok (.getfield 14, 3) := by decide +kernel
theorem dX5_isSorted_76 : decode cX5_isSorted 76 = .ok (.iload_n 1, 1) := by decide +kernel
theorem dX5_isSorted_77 : decode cX5_isSorted 77 = .ok (.iconst 1, 1) := by decide +kernel
theorem dX5_isSorted_78 : decode cX5_isSorted 78 = .ok (.isub, 1) := by decide +kernel
theorem dX5_isSorted_79 : decode cX5_isSorted 79 = .ok (.invokevirtual 45, 3) := by decide +kernel
theorem dX5_isSorted_82 : decode cX5_isSorted 82 = .ok (.aload_n 0, 1) := by decide +kernel
theorem dX5_isSorted_83 : decode cX5_isSorted 83 = .ok (.getfield 14, 3) := by decide +kernel
theorem dX5_isSorted_86 : decode cX5_isSorted 86 = .ok (.iload_n 1, 1) := by decide +kernel
theorem dX5_isSorted_87 : decode cX5_isSorted 87 = .ok (.invokevirtual 45, 3) := by decide +kernel
theorem dX5_isSorted_90 : decode cX5_isSorted 90 = .ok (.if_icmp .lt 5, 3) := by decide +kernel
theorem dX5_isSorted_93 : decode cX5_isSorted 93 = .ok (.iconst 0, 1) := by decide +kernel
theorem dX5_isSorted_94 : decode cX5_isSorted 94 = .ok (.ireturn, 1) := by decide +kernel
theorem dX5_isSorted_95 : decode cX5_isSorted 95 = .ok (.iinc 1 1, 3) := by decide +kernel
theorem dX5_isSorted_98 : decode cX5_isSorted 98 = .ok (.goto (-96), 3) := by decide +kernel
theorem dX5_isSorted_101 : decode cX5_isSorted 101 = .ok (.iconst 1, 1) := by decide +kernel
theorem dX5_isSorted_102 : decode cX5_isSorted 102 = .ok (.ireturn, 1) := by decide +kernel
theorem dX6_init_0 : decode cX6_init 0 = .ok (.aload_n 0, 1) := by decide +kernel
theorem dX6_init_1 : decode cX6_init 1 = .ok (.invokespecial 3, 3) := by decide +kernel
theorem dX6_init_4 : decode cX6_init 4 = .ok (.aload_n 0, 1) := by decide +kernel
theorem dX6_init_5 : decode cX6_init 5 = .ok (.bipush 60, 2) := by decide +kernel
theorem dX6_init_7 : decode cX6_init 7 = .ok (.newarray .char, 2) := by decide +kernel
theorem dX6_init_9 : decode cX6_init 9 = .ok (.putfield 9, 3) := by decide +kernel
theorem dX6_init_12 : decode cX6_init 12 = .ok (.aload_n 0, 1) := by decide +kernel
theorem dX6_init_13 : decode cX6_init 13 = .ok (.bipush 12, 2) := by decide +kernel
theorem dX6_init_15 : decode cX6_init 15 = .ok (.anewarray 15, 3) := by decide +kernel
theorem dX6_init_18 : decode cX6_init 18 = .ok (.putfield 17, 3) := by decide +kernel
theorem dX6_init_21 : decode cX6_init 21 = .ok (.aload_n 0, 1) := by decide +kernel
theorem dX6_init_22 : decode cX6_init 22 = .ok (.iconst 0, 1) := by decide +kernel
theorem dX6_init_23 : decode cX6_init 23 = .ok (.putfield 21, 3) := by decide +kernel
theorem dX6_init_26 : decode cX6_init 26 = .ok (.aload_n 0, 1) := by decide +kernel
theorem dX6_init_27 : decode cX6_init 27 = .ok (.iconst 0, 1) := by decide +kernel
theorem dX6_init_28 : decode cX6_init 28 = .ok (.putfield 25, 3) := by decide +kernel
theorem dX6_init_31 : decode cX6_init 31 = .ok (.aload_n 0, 1) := by decide +kernel
theorem dX6_init_32 : decode cX6_init 32 = .ok (.iconst 0, 1) := by decide +kernel
theorem dX6_init_33 : decode cX6_init 33 = .ok (.putfield 28, 3) := by decide +kernel
theorem dX6_init_36 : decode cX6_init 36 = .ok (.iconst 0, 1) := by decide +kernel
theorem dX6_init_37 : decode cX6_init 37 = .ok (.istore_n 1, 1) := by decide +kernel
theorem dX6_init_38 : decode cX6_init 38 = .ok (.iload_n 1, 1) := by decide +kernel
theorem dX6_init_39 : decode cX6_init 39 = .ok (.aload_n 0, 1) := by decide +kernel
theorem dX6_init_40 : decode cX6_init 40 = .ok (.getfield 17, 3) := by decide +kernel
theorem dX6_init_43 : decode cX6_init 43 = .ok (.arraylength, 1) := by decide +kernel
theorem dX6_init_44 : decode cX6_init 44 = .ok (.if_icmp .ge 22, 3) := by decide +kernel
theorem dX6_init_47 : decode cX6_init 47 = .ok (.aload_n 0, 1) := by decide +kernel
theorem dX6_init_48 : decode cX6_init 48 = .ok (.getfield 17, 3) := by decide +kernel
theorem dX6_init_51 : decode cX6_init 51 = .ok (.iload_n 1, 1) := by decide +kernel
theorem dX6_init_52 : decode cX6_init 52 = .ok (.new 15, 3) := by decide +kernel
theorem dX6_init_55 : decode cX6_init 55 = .ok (.dup, 1) := by decide +kernel
theorem dX6_init_56 : decode cX6_init 56 = .ok (.invokespecial 31, 3) := by decide +kernel
theorem dX6_init_59 : decode cX6_init 59 = .ok (.aastore, 1) := by decide +kernel
theorem dX6_init_60 : decode cX6_init 60 = .ok (.iinc 1 1, 3) := by decide +kernel
theorem dX6_init_63 : decode cX6_init 63 = .ok (.goto (-25), 3) := by decide +kernel
theorem dX6_init_66 : decode cX6_init 66 = .ok (.return_, 1) := by decide +kernel
theorem dX6_isFull_0 : decode cX6_isFull 0 = .ok (.aload_n 0, 1) := by decide +kernel
theorem dX6_isFull_1 : decode cX6_isFull 1 = .ok (.getfield 21, 3) := by decide +kernel
theorem dX6_isFull_4 : decode cX6_isFull 4 = .ok (.aload_n 0, 1) := by decide +kernel
theorem dX6_isFull_5 : decode cX6_isFull 5 = .ok (.getfield 9, 3) := by decide +kernel
theorem dX6_isFull_8 : decode cX6_isFull 8 = .ok (.arraylength, 1) := by decide +kernel
theorem dX6_isFull_9 : decode cX6_isFull 9 = .ok (.if_icmp .lt 7, 3) := by decide +kernel
theorem dX6_isFull_12 : decode cX6_isFull 12 = .ok (.iconst 1, 1) := by decide +kernel
theorem dX6_isFull_13 : decode cX6_isFull 13 = .ok (.goto 4, 3) := by decide +kernel
theorem dX6_isFull_16 : decode cX6_isFull 16 = .ok (.iconst 0, 1) := by decide +kernel
theorem dX6_isFull_17 : decode cX6_isFull 17 = .ok (.ireturn, 1) := by decide +kernel
theorem dX6_append_0 : decode cX6_append 0 = .ok (.aload_n 0, 1) := by decide +kernel
theorem dX6_append_1 : decode cX6_append 1 = .ok (.getfield 21, 3) := by decide +kernel
theorem dX6_append_4 : decode cX6_append 4 = .ok (.ifCond .lt 35, 3) := by decide +kernel
theorem dX6_append_7 : decode cX6_append 7 = .ok (.aload_n 0, 1) := by decide +kernel
theorem dX6_append_8 : decode cX6_append 8 = .ok (.getfield 21, 3) := by decide +kernel
theorem dX6_append_11 : decode cX6_append 11 = .ok (.aload_n 0, 1) := by decide +kernel
theorem dX6_append_12 : decode cX6_append 12 = .ok (.getfield 9, 3) := by decide +kernel
theorem dX6_append_15 : decode cX6_append 15 = .ok (.arraylength, 1) := by decide +kernel
theorem dX6_append_16 : decode cX6_append 16 = .ok (.if_icmp .ge 23, 3) := by decide +kernel
theorem dX6_append_19 : decode cX6_append 19 = .ok (.aload_n 0, 1) := by decide +kernel
theorem dX6_append_20 : decode cX6_append 20 = .ok (.getfield 9, 3) := by decide +kernel
theorem dX6_append_23 : decode cX6_append 23 = .ok (.aload_n 0, 1) := by decide +kernel
theorem dX6_append_24 : decode cX6_append 24 = .ok (.getfield 21, 3) := by decide +kernel
theorem dX6_append_27 : decode cX6_append 27 = .ok (.iload_n 1, 1) := by decide +kernel
theorem dX6_append_28 : decode cX6_append 28 = .ok (.castore, 1) := by decide +kernel
theorem dX6_append_29 : decode cX6_append 29 = .ok (.aload_n 0, 1) := by decide +kernel
theorem dX6_append_30 : decode cX6_append 30 = .ok (.dup, 1) := by decide +kernel
theorem dX6_append_31 : decode cX6_append 31 = .ok (.getfield 21, 3) := by decide +kernel
theorem dX6_append_34 : decode cX6_append 34 = .ok (.iconst 1, 1) := by decide +kernel
theorem dX6_append_35 : decode cX6_append 35 = .ok (.iadd, 1) := by decide +kernel
theorem dX6_append_36 : decode cX6_append 36 = .ok (.putfield 21, 3) := by decide +kernel
theorem dX6_append_39 : decode cX6_append 39 = .ok (.aload_n 0, 1) := by decide +kernel
theorem dX6_append_40 : decode cX6_append 40 = .ok (.getfield 21, 3) := by decide +kernel
theorem dX6_append_43 : decode cX6_append 43 = .ok (.ireturn, 1) := by decide +kernel
theorem dX6_count_0 : decode cX6_count 0 = .ok (.aload_n 0, 1) := by decide +kernel
theorem dX6_count_1 : decode cX6_count 1 = .ok (.getfield 28, 3) := by decide +kernel
theorem dX6_count_4 : decode cX6_count 4 = .ok (.ireturn, 1) := by decide +kernel
theorem dX6_commandAt_0 : decode cX6_commandAt 0 = .ok (.iload_n 1, 1) := by decide +kernel
theorem dX6_commandAt_1 : decode cX6_commandAt 1 = .ok (.ifCond .lt 29, 3) := by decide +kernel
theorem dX6_commandAt_4 : decode cX6_commandAt 4 = .ok (.iload_n 1, 1) := by decide +kernel
theorem dX6_commandAt_5 : decode cX6_commandAt 5 = .ok (.aload_n 0, 1) := by decide +kernel
theorem dX6_commandAt_6 : decode cX6_commandAt 6 = .ok (.getfield 28, 3) := by decide +kernel
theorem dX6_commandAt_9 : decode cX6_commandAt 9 = .ok (.if_icmp .ge 21, 3) := by decide +kernel
theorem dX6_commandAt_12 : decode cX6_commandAt 12 = .ok (.iload_n 1, 1) := by decide +kernel
theorem dX6_commandAt_13 : decode cX6_commandAt 13 = .ok (.aload_n 0, 1) := by decide +kernel
theorem dX6_commandAt_14 : decode cX6_commandAt 14 = .ok (.getfield 17, 3) := by decide +kernel
theorem dX6_commandAt_17 : decode cX6_commandAt 17 = .ok (.arraylength, 1) := by decide +kernel
theorem dX6_commandAt_18 : decode cX6_commandAt 18 = .ok (.if_icmp .ge 12, 3) := by decide +kernel
theorem dX6_commandAt_21 : decode cX6_commandAt 21 = .ok (.aload_n 0, 1) := by decide +kernel
theorem dX6_commandAt_22 : decode cX6_commandAt 22 = .ok (.getfield 17, 3) := by decide +kernel
theorem dX6_commandAt_25 : decode cX6_commandAt 25 = .ok (.iload_n 1, 1) := by decide +kernel
theorem dX6_commandAt_26 : decode cX6_commandAt 26 = .ok (.aaload, 1) := by decide +kernel
theorem dX6_commandAt_27 : decode cX6_commandAt 27 = .ok (.goto 4, 3) := by decide +kernel
theorem dX6_commandAt_30 : decode cX6_commandAt 30 = .ok (.aconst_null, 1) := by decide +kernel
theorem dX6_commandAt_31 : decode cX6_commandAt 31 = .ok (.areturn, 1) := by decide +kernel
theorem dX6_parse_0 : decode cX6_parse 0 = .ok (.aload_n 0, 1) := by decide +kernel
theorem dX6_parse_1 : decode cX6_parse 1 = .ok (.iconst 0, 1) := by decide +kernel
theorem dX6_parse_2 : decode cX6_parse 2 = .ok (.putfield 25, 3) := by decide +kernel
theorem dX6_parse_5 : decode cX6_parse 5 = .ok (.aload_n 0, 1) := by decide +kernel
theorem dX6_parse_6 : decode cX6_parse 6 = .ok (.iconst 0, 1) := by decide +kernel
theorem dX6_parse_7 : decode cX6_parse 7 = .ok (.putfield 28, 3) := by decide +kernel
theorem dX6_parse_10 : decode cX6_parse 10 = .ok (.aload_n 0, 1) := by decide +kernel
theorem dX6_parse_11 : decode cX6_parse 11 = .ok (.invokevirtual 32, 3) := by decide +kernel
theorem dX6_parse_14 : decode cX6_parse 14 = .ok (.istore_n 1, 1) := by decide +kernel
theorem dX6_parse_15 : decode cX6_parse 15 = .ok (.aload_n 0, 1) := by decide +kernel
theorem dX6_parse_16 : decode cX6_parse 16 = .ok (.iconst 0, 1) := by decide +kernel
theorem dX6_parse_17 : decode cX6_parse 17 = .ok (.putfield 21, 3) := by decide +kernel
theorem dX6_parse_20 : decode cX6_parse 20 = .ok (.iload_n 1, 1) := by decide +kernel
theorem dX6_parse_21 : decode cX6_parse 21 = .ok (.ifCond .eq 7, 3) := by decide +kernel
theorem dX6_parse_24 : decode cX6_parse 24 = .ok (.iconst (-1), 1) := by decide +kernel
theorem dX6_parse_25 : decode cX6_parse 25 = .ok (.goto 7, 3) := by decide +kernel
theorem dX6_parse_28 : decode cX6_parse 28 = .ok (.aload_n 0, 1) := by decide +kernel
theorem dX6_parse_29 : decode cX6_parse 29 = .ok (.getfield 25, 3) := by decide +kernel
theorem dX6_parse_32 : decode cX6_parse 32 = .ok (.ireturn, 1) := by decide +kernel
theorem dX6_parseCommands_0 : decode cX6_parseCommands 0 = .ok (.iconst 0, 1) := by decide +kernel
theorem dX6_parseCommands_1 : decode cX6_parseCommands 1 = .ok (.istore_n 1, 1) := by decide +kernel
theorem dX6_parseCommands_2 : decode cX6_parseCommands 2 = .ok (.iload_n 1, 1) := by decide +kernel
theorem dX6_parseCommands_3 : decode cX6_parseCommands 3 = .ok (.aload_n 0, 1) := by decide +kernel
theorem dX6_parseCommands_4 : decode cX6_parseCommands 4 = .ok (.getfield 17, 3) := by decide +kernel
theorem dX6_parseCommands_7 : decode cX6_parseCommands 7 = .ok (.arraylength, 1) := by decide +kernel
theorem dX6_parseCommands_8 : decode cX6_parseCommands 8 = .ok (.if_icmp .ge 58, 3) := by decide +kernel
theorem dX6_parseCommands_11 : decode cX6_parseCommands 11 = .ok (.aload_n 0, 1) := by decide +kernel
theorem dX6_parseCommands_12 : decode cX6_parseCommands 12 = .ok (.aload_n 0, 1) := by decide +kernel
theorem dX6_parseCommands_13 : decode cX6_parseCommands 13 = .ok (.getfield 17, 3) := by decide +kernel
theorem dX6_parseCommands_16 : decode cX6_parseCommands 16 = .ok (.iload_n 1, 1) := by decide +kernel
theorem dX6_parseCommands_17 : decode cX6_parseCommands 17 = .ok (.aaload, 1) := by decide +kernel
theorem dX6_parseCommands_18 : decode cX6_parseCommands 18 = .ok (.invokevirtual 36, 3) := by decide +kernel
theorem dX6_parseCommands_21 : decode cX6_parseCommands 21 = .ok (.ifCond .ne 5, 3) := by decide +kernel
theorem dX6_parseCommands_24 : decode cX6_parseCommands 24 = .ok (.iconst 0, 1) := by decide +kernel
theorem dX6_parseCommands_25 : decode cX6_parseCommands 25 = .ok (.ireturn, 1) := by decide +kernel
theorem dX6_parseCommands_26 : decode cX6_parseCommands 26 = .ok (.aload_n 0, 1) := by decide +kernel
theorem dX6_parseCommands_27 : decode cX6_parseCommands 27 = .ok (.dup, 1) := by decide +kernel
theorem dX6_parseCommands_28 : decode cX6_parseCommands 28 = .ok (.getfield 28, 3) := by decide +kernel
theorem dX6_parseCommands_31 : decode cX6_parseCommands 31 = .ok (.iconst 1, 1) := by decide +kernel
theorem dX6_parseCommands_32 : decode cX6_parseCommands 32 = .ok (.iadd, 1) := by decide +kernel
theorem dX6_parseCommands_33 : decode cX6_parseCommands 33 = .ok (.putfield 28, 3) := by decide +kernel
theorem dX6_parseCommands_36 : decode cX6_parseCommands 36 = .ok (.aload_n 0, 1) := by decide +kernel
theorem dX6_parseCommands_37 : decode cX6_parseCommands 37 = .ok (.getfield 25, 3) := by decide +kernel
theorem dX6_parseCommands_40 : decode cX6_parseCommands 40 = .ok (.aload_n 0, 1) := by decide +kernel
theorem dX6_parseCommands_41 : decode cX6_parseCommands 41 = .ok (.getfield 21, 3) := by decide +kernel
theorem dX6_parseCommands_44 : decode cX6_parseCommands 44 = .ok (.if_icmp .lt 5, 3) := by decide +kernel
theorem dX6_parseCommands_47 : decode cX6_parseCommands 47 = .ok (.iconst 1, 1) := by decide +kernel
theorem dX6_parseCommands_48 : decode cX6_parseCommands 48 = .ok (.ireturn, 1) := by decide +kernel
theorem dX6_parseCommands_49 : decode cX6_parseCommands 49 = .ok (.aload_n 0, 1) := by decide +kernel
theorem dX6_parseCommands_50 : decode cX6_parseCommands 50 = .ok (.bipush 59, 2) := by decide +kernel
theorem dX6_parseCommands_52 : decode cX6_parseCommands 52 = .ok (.invokevirtual 40, 3) := by decide +kernel
theorem dX6_parseCommands_55 : decode cX6_parseCommands 55 = .ok (.ifCond .ne 5, 3) := by decide +kernel
theorem dX6_parseCommands_58 : decode cX6_parseCommands 58 = .ok (.iconst 0, 1) := by decide +kernel
theorem dX6_parseCommands_59 : decode cX6_parseCommands 59 = .ok (.ireturn, 1) := by decide +kernel
theorem dX6_parseCommands_60 : decode cX6_parseCommands 60 = .ok (.iinc 1 1, 3) := by decide +kernel
theorem dX6_parseCommands_63 : decode cX6_parseCommands 63 = .ok (.goto (-61), 3) := by decide +kernel
theorem dX6_parseCommands_66 : decode cX6_parseCommands 66 = .ok (.iconst 0, 1) := by decide +kernel
theorem dX6_parseCommands_67 : decode cX6_parseCommands 67 = .ok (.ireturn, 1) := by decide +kernel
theorem dX6_parseCommand_0 : decode cX6_parseCommand 0 = .ok (.aload_n 0, 1) := by decide +kernel
theorem dX6_parseCommand_1 : decode cX6_parseCommand 1 = .ok (.invokevirtual 44, 3) := by decide +kernel
theorem dX6_parseCommand_4 : decode cX6_parseCommand 4 = .ok (.astore_n 2, 1) := by decide +kernel
theorem dX6_parseCommand_5 : decode cX6_parseCommand 5 = .ok (.aload_n 2, 1) := by decide +kernel
theorem dX6_parseCommand_6 : decode cX6_parseCommand 6 = .ok (.ifnull 7, 3) := by decide +kernel
theorem dX6_parseCommand_9 : decode cX6_parseCommand 9 = .ok (.aload_n 1, 1) := by decide +kernel
theorem dX6_parseCommand_10 : decode cX6_parseCommand 10 = .ok (.ifnonnull 5, 3) := by decide +kernel
theorem dX6_parseCommand_13 : decode cX6_parseCommand 13 = .ok (.iconst 0, 1) := by decide +kernel
theorem dX6_parseCommand_14 : decode cX6_parseCommand 14 = .ok (.ireturn, 1) := by decide +kernel
theorem dX6_parseCommand_15 : decode cX6_parseCommand 15 = .ok (.aload_n 1, 1) := by decide +kernel
theorem dX6_parseCommand_16 : decode cX6_parseCommand 16 = .ok (.aload_n 2, 1) := by decide +kernel
theorem dX6_parseCommand_17 : decode cX6_parseCommand 17 = .ok (.invokevirtual 48, 3) := by decide +kernel
theorem dX6_parseCommand_20 : decode cX6_parseCommand 20 = .ok (.iconst 0, 1) := by decide +kernel
theorem dX6_parseCommand_21 : decode cX6_parseCommand 21 = .ok (.istore_n 3, 1) := by decide +kernel
theorem dX6_parseCommand_22 : decode cX6_parseCommand 22 = .ok (.iload_n 3, 1) := by decide +kernel
theorem dX6_parseCommand_23 : decode cX6_parseCommand 23 = .ok (.aload_n 2, 1) := by decide +kernel
theorem dX6_parseCommand_24 : decode cX6_parseCommand 24 = .ok (.getfield 52, 3) := by decide +kernel
theorem dX6_parseCommand_27 : decode cX6_parseCommand 27 = .ok (.invokevirtual 58, 3) := by decide +kernel
theorem dX6_parseCommand_30 : decode cX6_parseCommand 30 = .ok (.if_icmp .ge 27, 3) := by decide +kernel
theorem dX6_parseCommand_33 : decode cX6_parseCommand 33 = .ok (.aload_n 0, 1) := by decide +kernel
theorem dX6_parseCommand_34 : decode cX6_parseCommand 34 = .ok (.aload_n 2, 1) := by decide +kernel
theorem dX6_parseCommand_35 : decode cX6_parseCommand 35 = .ok (.getfield 52, 3) := by decide +kernel
theorem dX6_parseCommand_38 : decode cX6_parseCommand 38 = .ok (.iload_n 3, 1) := by decide +kernel
theorem dX6_parseCommand_39 : decode cX6_parseCommand 39 = .ok (.invokevirtual 63, 3) := by decide +kernel
theorem dX6_parseCommand_42 : decode cX6_parseCommand 42 = .ok (.aload_n 1, 1) := by decide +kernel
theorem dX6_parseCommand_43 : decode cX6_parseCommand 43 = .ok (.invokevirtual 67, 3) := by decide +kernel
theorem dX6_parseCommand_46 : decode cX6_parseCommand 46 = .ok (.ifCond .ne 5, 3) := by decide +kernel
theorem dX6_parseCommand_49 : decode cX6_parseCommand 49 = .ok (.iconst 0, 1) := by decide +kernel
theorem dX6_parseCommand_50 : decode cX6_parseCommand 50 = .ok (.ireturn, 1) := by decide +kernel
theorem dX6_parseCommand_51 : decode cX6_parseCommand 51 = .ok (.iinc 3 1, 3) := by decide +kernel
theorem dX6_parseCommand_54 : decode cX6_parseCommand 54 = .ok (.goto (-32), 3) := by decide +kernel
theorem dX6_parseCommand_57 : decode cX6_parseCommand 57 = .ok (.iconst 1, 1) := by decide +kernel
theorem dX6_parseCommand_58 : decode cX6_parseCommand 58 = .ok (.ireturn, 1) := by decide +kernel
theorem dX6_parseVerb_0 : decode cX6_parseVerb 0 = .ok (.iconst 0, 1) := by decide +kernel
theorem dX6_parseVerb_1 : decode cX6_parseVerb 1 = .ok (.istore_n 1, 1) := by decide +kernel
theorem dX6_parseVerb_2 : decode cX6_parseVerb 2 = .ok (.iconst 0, 1) := by decide +kernel
theorem dX6_parseVerb_3 : decode cX6_parseVerb 3 = .ok (.istore_n 2, 1) := by decide +kernel
theorem dX6_parseVerb_4 : decode cX6_parseVerb 4 = .ok (.iload_n 2, 1) := by decide +kernel
theorem dX6_parseVerb_5 : decode cX6_parseVerb 5 = .ok (.getstatic 71, 3) := by decide +kernel
theorem dX6_parseVerb_8 : decode cX6_parseVerb 8 = .ok (.arraylength, 1) := by decide +kernel
theorem dX6_parseVerb_9 : decode cX6_parseVerb 9 = .ok (.if_icmp .ge 64, 3) := by decide +kernel
theorem dX6_parseVerb_12 : decode cX6_parseVerb 12 = .ok (.aload_n 0, 1) := by decide +kernel
theorem dX6_parseVerb_13 : decode cX6_parseVerb 13 = .ok (.getstatic 71, 3) := by decide +kernel
theorem dX6_parseVerb_16 : decode cX6_parseVerb 16 = .ok (.iload_n 2, 1) := by decide +kernel
theorem dX6_parseVerb_17 : decode cX6_parseVerb 17 = .ok (.aaload, 1) := by decide +kernel
theorem dX6_parseVerb_18 : decode cX6_parseVerb 18 = .ok (.getfield 75, 3) := by decide +kernel
theorem dX6_parseVerb_21 : decode cX6_parseVerb 21 = .ok (.invokevirtual 78, 3) := by decide +kernel
theorem dX6_parseVerb_24 : decode cX6_parseVerb 24 = .ok (.istore_n 3, 1) := by decide +kernel
theorem dX6_parseVerb_25 : decode cX6_parseVerb 25 = .ok (.iload_n 3, 1) := by decide +kernel
theorem dX6_parseVerb_26 : decode cX6_parseVerb 26 = .ok (.getstatic 71, 3) := by decide +kernel
theorem dX6_parseVerb_29 : decode cX6_parseVerb 29 = .ok (.iload_n 2, 1) := by decide +kernel
theorem dX6_parseVerb_30 : decode cX6_parseVerb 30 = .ok (.aaload, 1) := by decide +kernel
theorem dX6_parseVerb_31 : decode cX6_parseVerb 31 = .ok (.getfield 75, 3) := by decide +kernel
theorem dX6_parseVerb_34 : decode cX6_parseVerb 34 = .ok (.invokevirtual 58, 3) := by decide +kernel
theorem dX6_parseVerb_37 : decode cX6_parseVerb 37 = .ok (.if_icmp .ne 19, 3) := by decide +kernel
theorem dX6_parseVerb_40 : decode cX6_parseVerb 40 = .ok (.aload_n 0, 1) := by decide +kernel
theorem dX6_parseVerb_41 : decode cX6_parseVerb 41 = .ok (.dup, 1) := by decide +kernel
theorem dX6_parseVerb_42 : decode cX6_parseVerb 42 = .ok (.getfield 25, 3) := by decide +kernel
theorem dX6_parseVerb_45 : decode cX6_parseVerb 45 = .ok (.iload_n 3, 1) := by decide +kernel
theorem dX6_parseVerb_46 : decode cX6_parseVerb 46 = .ok (.iadd, 1) := by decide +kernel
theorem dX6_parseVerb_47 : decode cX6_parseVerb 47 = .ok (.putfield 25, 3) := by decide +kernel
theorem dX6_parseVerb_50 : decode cX6_parseVerb 50 = .ok (.getstatic 71, 3) := by decide +kernel
theorem dX6_parseVerb_53 : decode cX6_parseVerb 53 = .ok (.iload_n 2, 1) := by decide +kernel
theorem dX6_parseVerb_54 : decode cX6_parseVerb 54 = .ok (.aaload, 1) := by decide +kernel
theorem dX6_parseVerb_55 : decode cX6_parseVerb 55 = .ok (.areturn, 1) := by decide +kernel
theorem dX6_parseVerb_56 : decode cX6_parseVerb 56 = .ok (.iload_n 3, 1) := by decide +kernel
theorem dX6_parseVerb_57 : decode cX6_parseVerb 57 = .ok (.iload_n 1, 1) := by decide +kernel
theorem dX6_parseVerb_58 : decode cX6_parseVerb 58 = .ok (.if_icmp .le 7, 3) := by decide +kernel
theorem dX6_parseVerb_61 : decode cX6_parseVerb 61 = .ok (.iload_n 3, 1) := by decide +kernel
theorem dX6_parseVerb_62 : decode cX6_parseVerb 62 = .ok (.goto 4, 3) := by decide +kernel
theorem dX6_parseVerb_65 : decode cX6_parseVerb 65 = .ok (.iload_n 1, 1) := by decide +kernel
theorem dX6_parseVerb_66 : decode cX6_parseVerb 66 = .ok (.istore_n 1, 1) := by decide +kernel
theorem dX6_parseVerb_67 : decode cX6_parseVerb 67 = .ok (.iinc 2 1, 3) := by decide +kernel
theorem dX6_parseVerb_70 : decode cX6_parseVerb 70 = .ok (.goto (-66), 3) := by decide +kernel
theorem dX6_parseVerb_73 : decode cX6_parseVerb 73 = .ok (.aload_n 0, 1) := by decide +kernel
theorem dX6_parseVerb_74 : decode cX6_parseVerb 74 = .ok (.dup, 1) := by decide +kernel
theorem dX6_parseVerb_75 : decode cX6_parseVerb 75 = .ok (.getfield 25, 3) := by decide +kernel
theorem dX6_parseVerb_78 : decode cX6_parseVerb 78 = .ok (.iload_n 1, 1) := by decide +kernel
theorem dX6_parseVerb_79 : decode cX6_parseVerb 79 = .ok (.iadd, 1) := by decide +kernel
theorem dX6_parseVerb_80 : decode cX6_parseVerb 80 = .ok (.putfield 25, 3) := by decide +kernel
theorem dX6_parseVerb_83 : decode cX6_parseVerb 83 = .ok (.aconst_null, 1) := by decide +kernel
theorem dX6_parseVerb_84 : decode cX6_parseVerb 84 = .ok (.areturn, 1) := by decide +kernel
theorem dX6_matchingSigns_0 : decode cX6_matchingSigns 0 = .ok (.iconst 0, 1) := by decide +kernel
theorem dX6_matchingSigns_1 : decode cX6_matchingSigns 1 = .ok (.istore_n 2, 1) := by decide +kernel
theorem dX6_matchingSigns_2 : decode cX6_matchingSigns 2 = .ok (.iload_n 2, 1) := by decide +kernel
theorem dX6_matchingSigns_3 : decode cX6_matchingSigns 3 = .ok (.aload_n 1, 1) := by decide +kernel
theorem dX6_matchingSigns_4 : decode cX6_matchingSigns 4 = .ok (.invokevirtual 58, 3) := by decide +kernel
theorem dX6_matchingSigns_7 : decode cX6_matchingSigns 7 = .ok (.if_icmp .ge 27, 3) := by decide +kernel
theorem dX6_matchingSigns_10 : decode cX6_matchingSigns 10 = .ok (.aload_n 0, 1) := by decide +kernel
theorem dX6_matchingSigns_11 : decode cX6_matchingSigns 11 = .ok (.aload_n 0, 1) := by decide +kernel
theorem dX6_matchingSigns_12 : decode cX6_matchingSigns 12 = .ok (.getfield 25, 3) := by decide +kernel
theorem dX6_matchingSigns_15 : decode cX6_matchingSigns 15 = .ok (.iload_n 2, 1) := by decide +kernel
theorem dX6_matchingSigns_16 : decode cX6_matchingSigns 16 = .ok (.iadd, 1) := by decide +kernel
theorem dX6_matchingSigns_17 : decode cX6_matchingSigns 17 = .ok (.aload_n 1, 1) := by decide +kernel
theorem dX6_matchingSigns_18 : decode cX6_matchingSigns 18 = .ok (.iload_n 2, 1) := by decide +kernel
theorem dX6_matchingSigns_19 : decode cX6_matchingSigns 19 = .ok (.invokevirtual 63, 3) := by decide +kernel
theorem dX6_matchingSigns_22 : decode cX6_matchingSigns 22 = .ok (.invokevirtual 82, 3) := by decide +kernel
theorem dX6_matchingSigns_25 : decode cX6_matchingSigns 25 = .ok (.ifCond .eq 9, 3) := by decide +kernel
theorem dX6_matchingSigns_28 : decode cX6_matchingSigns 28 = .ok (.iinc 2 1, 3) := by decide +kernel
theorem dX6_matchingSigns_31 : decode cX6_matchingSigns 31 = .ok (.goto (-29), 3) := by decide +kernel
theorem dX6_matchingSigns_34 : decode cX6_matchingSigns 34 = .ok (.iload_n 2, 1) := by decide +kernel
theorem dX6_matchingSigns_35 : decode cX6_matchingSigns 35 = .ok (.ireturn, 1) := by decide +kernel
theorem dX6_parsePart_0 : decode cX6_parsePart 0 = .ok (.iload_n 1, 1) := by decide +kernel
theorem dX6_parsePart_1 : decode cX6_parsePart 1 = .ok (.lookupswitch 105 #[(100, 91), (109, 43), (110, 98), (114, 67)], 43) := by decide +kernel
theorem dX6_parsePart_44 : decode cX6_parsePart 44 = .ok (.aload_n 0, 1) := by decide +kernel
theorem dX6_parsePart_45 : decode cX6_parsePart 45 = .ok (.invokevirtual 86, 3) := by decide +kernel
theorem dX6_parsePart_48 : decode cX6_parsePart 48 = .ok (.invokestatic 90, 3) := by decide +kernel
theorem dX6_parsePart_51 : decode cX6_parsePart 51 = .ok (.ifCond .eq 15, 3) := by decide +kernel
theorem dX6_parsePart_54 : decode cX6_parsePart 54 = .ok (.aload_n 0, 1) := by decide +kernel
theorem dX6_parsePart_55 : decode cX6_parsePart 55 = .ok (.aload_n 2, 1) := by decide +kernel
theorem dX6_parsePart_56 : decode cX6_parsePart 56 = .ok (.invokevirtual 93, 3) := by decide +kernel
theorem dX6_parsePart_59 : decode cX6_parsePart 59 = .ok (.ifCond .eq 7, 3) := by decide +kernel
theorem dX6_parsePart_62 : decode cX6_parsePart 62 = .ok (.iconst 1, 1) := by decide +kernel
theorem dX6_parsePart_63 : decode cX6_parsePart 63 = .ok (.goto 4, 3) := by decide +kernel
theorem dX6_parsePart_66 : decode cX6_parsePart 66 = .ok (.iconst 0, 1) := by decide +kernel
theorem dX6_parsePart_67 : decode cX6_parsePart 67 = .ok (.ireturn, 1) := by decide +kernel
theorem dX6_parsePart_68 : decode cX6_parsePart 68 = .ok (.aload_n 0, 1) := by decide +kernel
theorem dX6_parsePart_69 : decode cX6_parsePart 69 = .ok (.invokevirtual 86, 3) := by decide +kernel
theorem dX6_parsePart_72 : decode cX6_parsePart 72 = .ok (.invokestatic 96, 3) := by decide +kernel
theorem dX6_parsePart_75 : decode cX6_parsePart 75 = .ok (.ifCond .eq 15, 3) := by decide +kernel
theorem dX6_parsePart_78 : decode cX6_parsePart 78 = .ok (.aload_n 0, 1) := by decide +kernel
theorem dX6_parsePart_79 : decode cX6_parsePart 79 = .ok (.aload_n 2, 1) := by decide +kernel
theorem dX6_parsePart_80 : decode cX6_parsePart 80 = .ok (.invokevirtual 93, 3) := by decide +kernel
theorem dX6_parsePart_83 : decode cX6_parsePart 83 = .ok (.ifCond .eq 7, 3) := by decide +kernel
theorem dX6_parsePart_86 : decode cX6_parsePart 86 = .ok (.iconst 1, 1) := by decide +kernel
theorem dX6_parsePart_87 : decode cX6_parsePart 87 = .ok (.goto 4, 3) := by decide +kernel
theorem dX6_parsePart_90 : decode cX6_parsePart 90 = .ok (.iconst 0, 1) := by decide +kernel
theorem dX6_parsePart_91 : decode cX6_parsePart 91 = .ok (.ireturn, 1) := by decide +kernel
theorem dX6_parsePart_92 : decode cX6_parsePart 92 = .ok (.aload_n 0, 1) := by decide +kernel
theorem dX6_parsePart_93 : decode cX6_parsePart 93 = .ok (.iconst 1, 1) := by decide +kernel
theorem dX6_parsePart_94 : decode cX6_parsePart 94 = .ok (.aload_n 2, 1) := by decide +kernel
theorem dX6_parsePart_95 : decode cX6_parsePart 95 = .ok (.invokevirtual 99, 3) := by decide +kernel
theorem dX6_parsePart_98 : decode cX6_parsePart 98 = .ok (.ireturn, 1) := by decide +kernel
theorem dX6_parsePart_99 : decode cX6_parsePart 99 = .ok (.aload_n 0, 1) := by decide +kernel
theorem dX6_parsePart_100 : decode cX6_parsePart 100 = .ok (.iconst 3, 1) := by decide +kernel
theorem dX6_parsePart_101 : decode cX6_parsePart 101 = .ok (.aload_n 2, 1) := by decide +kernel
theorem dX6_parsePart_102 : decode cX6_parsePart 102 = .ok (.invokevirtual 99, 3) := by decide +kernel
theorem dX6_parsePart_105 : decode cX6_parsePart 105 = .ok (.ireturn, 1) := by decide +kernel
theorem dX6_parsePart_106 : decode cX6_parsePart 106 = .ok (.aload_n 0, 1) := by decide +kernel
theorem dX6_parsePart_107 : decode cX6_parsePart 107 = .ok (.iload_n 1, 1) := by decide +kernel
theorem dX6_parsePart_108 : decode cX6_parsePart 108 = .ok (.invokevirtual 40, 3) := by decide +kernel
theorem dX6_parsePart_111 : decode cX6_parsePart 111 = .ok (.ireturn, 1) := by decide +kernel
theorem dX6_takeLetter_0 : decode cX6_takeLetter 0 = .ok (.aload_n 1, 1) := by decide +kernel
theorem dX6_takeLetter_1 : decode cX6_takeLetter 1 = .ok (.aload_n 0, 1) := by decide +kernel
theorem dX6_takeLetter_2 : decode cX6_takeLetter 2 = .ok (.invokevirtual 86, 3) := by decide +kernel
theorem dX6_takeLetter_5 : decode cX6_takeLetter 5 = .ok (.invokevirtual 103, 3) := by decide +kernel
theorem dX6_takeLetter_8 : decode cX6_takeLetter 8 = .ok (.aload_n 0, 1) := by decide +kernel
theorem dX6_takeLetter_9 : decode cX6_takeLetter 9 = .ok (.dup, 1) := by decide +kernel
theorem dX6_takeLetter_10 : decode cX6_takeLetter 10 = .ok (.getfield 25, 3) := by decide +kernel
theorem dX6_takeLetter_13 : decode cX6_takeLetter 13 = .ok (.iconst 1, 1) := by decide +kernel
theorem dX6_takeLetter_14 : decode cX6_takeLetter 14 = .ok (.iadd, 1) := by decide +kernel
theorem dX6_takeLetter_15 : decode cX6_takeLetter 15 = .ok (.putfield 25, 3) := by decide +kernel
theorem dX6_takeLetter_18 : decode cX6_takeLetter 18 = .ok (.iconst 1, 1) := by decide +kernel
theorem dX6_takeLetter_19 : decode cX6_takeLetter 19 = .ok (.ireturn, 1) := by decide +kernel
theorem dX6_takeNumber_0 : decode cX6_takeNumber 0 = .ok (.iconst 0, 1) := by decide +kernel
theorem dX6_takeNumber_1 : decode cX6_takeNumber 1 = .ok (.istore_n 3, 1) := by decide +kernel
theorem dX6_takeNumber_2 : decode cX6_takeNumber 2 = .ok (.iconst 0, 1) := by decide +kernel
theorem dX6_takeNumber_3 : decode cX6_takeNumber 3 = .ok (.istore 4, 2) := by decide +kernel
theorem dX6_takeNumber_5 : decode cX6_takeNumber 5 = .ok (.iload 4, 2) := by decide +kernel
theorem dX6_takeNumber_7 : decode cX6_takeNumber 7 = .ok (.iload_n 1, 1) := by decide +kernel
theorem dX6_takeNumber_8 : decode cX6_takeNumber 8 = .ok (.if_icmp .ge 42, 3) := by decide +kernel
theorem dX6_takeNumber_11 : decode cX6_takeNumber 11 = .ok (.aload_n 0, 1) := by decide +kernel
theorem dX6_takeNumber_12 : decode cX6_takeNumber 12 = .ok (.invokevirtual 86, 3) := by decide +kernel
theorem dX6_takeNumber_15 : decode cX6_takeNumber 15 = .ok (.invokestatic 107, 3) := by decide +kernel
theorem dX6_takeNumber_18 : decode cX6_takeNumber 18 = .ok (.ifCond .eq 32, 3) := by decide +kernel
theorem dX6_takeNumber_21 : decode cX6_takeNumber 21 = .ok (.bipush 10, 2) := by decide +kernel
theorem dX6_takeNumber_23 : decode cX6_takeNumber 23 = .ok (.iload_n 3, 1) := by decide +kernel
theorem dX6_takeNumber_24 : decode cX6_takeNumber 24 = .ok (.imul, 1) := by decide +kernel
theorem dX6_takeNumber_25 : decode cX6_takeNumber 25 = .ok (.aload_n 0, 1) := by decide +kernel
theorem dX6_takeNumber_26 : decode cX6_takeNumber 26 = .ok (.invokevirtual 86, 3) := by decide +kernel
theorem dX6_takeNumber_29 : decode cX6_takeNumber 29 = .ok (.bipush 48, 2) := by decide +kernel
theorem dX6_takeNumber_31 : decode cX6_takeNumber 31 = .ok (.isub, 1) := by decide +kernel
theorem dX6_takeNumber_32 : decode cX6_takeNumber 32 = .ok (.iadd, 1) := by decide +kernel
theorem dX6_takeNumber_33 : decode cX6_takeNumber 33 = .ok (.istore_n 3, 1) := by decide +kernel
theorem dX6_takeNumber_34 : decode cX6_takeNumber 34 = .ok (.aload_n 0, 1) := by decide +kernel
theorem dX6_takeNumber_35 : decode cX6_takeNumber 35 = .ok (.dup, 1) := by decide +kernel
theorem dX6_takeNumber_36 : decode cX6_takeNumber 36 = .ok (.getfield 25, 3) := by decide +kernel
theorem dX6_takeNumber_39 : decode cX6_takeNumber 39 = .ok (.iconst 1, 1) := by decide +kernel
theorem dX6_takeNumber_40 : decode cX6_takeNumber 40 = .ok (.iadd, 1) := by decide +kernel
theorem dX6_takeNumber_41 : decode cX6_takeNumber 41 = .ok (.putfield 25, 3) := by decide +kernel
theorem dX6_takeNumber_44 : decode cX6_takeNumber 44 = .ok (.iinc 4 1, 3) := by decide +kernel
theorem dX6_takeNumber_47 : decode cX6_takeNumber 47 = .ok (.goto (-42), 3) := by decide +kernel
theorem dX6_takeNumber_50 : decode cX6_takeNumber 50 = .ok (.aload_n 2, 1) := by decide +kernel
theorem dX6_takeNumber_51 : decode cX6_takeNumber 51 = .ok (.iload_n 3, 1) := by decide +kernel
theorem dX6_takeNumber_52 : decode cX6_takeNumber 52 = .ok (.invokevirtual 110, 3) := by decide +kernel
theorem dX6_takeNumber_55 : decode cX6_takeNumber 55 = .ok (.iload 4, 2) := by decide +kernel
theorem dX6_takeNumber_57 : decode cX6_takeNumber 57 = .ok (.ifCond .le 7, 3) := by decide +kernel
theorem dX6_takeNumber_60 : decode cX6_takeNumber 60 = .ok (.iconst 1, 1) := by decide +kernel
theorem dX6_takeNumber_61 : decode cX6_takeNumber 61 = .ok (.goto 4, 3) := by decide +kernel
theorem dX6_takeNumber_64 : decode cX6_takeNumber 64 = .ok (.iconst 0, 1) := by decide +kernel
theorem dX6_takeNumber_65 : decode cX6_takeNumber 65 = .ok (.ireturn, 1) := by decide +kernel
theorem dX6_skip_0 : decode cX6_skip 0 = .ok (.aload_n 0, 1) := by decide +kernel
theorem dX6_skip_1 : decode cX6_skip 1 = .ok (.aload_n 0, 1) := by decide +kernel
theorem dX6_skip_2 : decode cX6_skip 2 = .ok (.getfield 25, 3) := by decide +kernel
theorem dX6_skip_5 : decode cX6_skip 5 = .ok (.iload_n 1, 1) := by decide +kernel
theorem dX6_skip_6 : decode cX6_skip 6 = .ok (.invokevirtual 82, 3) := by decide +kernel
theorem dX6_skip_9 : decode cX6_skip 9 = .ok (.ifCond .ne 5, 3) := by decide +kernel
theorem dX6_skip_12 : decode cX6_skip 12 = .ok (.iconst 0, 1) := by decide +kernel
theorem dX6_skip_13 : decode cX6_skip 13 = .ok (.ireturn, 1) := by decide +kernel
theorem dX6_skip_14 : decode cX6_skip 14 = .ok (.aload_n 0, 1) := by decide +kernel
theorem dX6_skip_15 : decode cX6_skip 15 = .ok (.dup, 1) := by decide +kernel
theorem dX6_skip_16 : decode cX6_skip 16 = .ok (.getfield 25, 3) := by decide +kernel
theorem dX6_skip_19 : decode cX6_skip 19 = .ok (.iconst 1, 1) := by decide +kernel
theorem dX6_skip_20 : decode cX6_skip 20 = .ok (.iadd, 1) := by decide +kernel
theorem dX6_skip_21 : decode cX6_skip 21 = .ok (.putfield 25, 3) := by decide +kernel
theorem dX6_skip_24 : decode cX6_skip 24 = .ok (.iconst 1, 1) := by decide +kernel
theorem dX6_skip_25 : decode cX6_skip 25 = .ok (.ireturn, 1) := by decide +kernel
theorem dX6_isAt_0 : decode cX6_isAt 0 = .ok (.iload_n 1, 1) := by decide +kernel
theorem dX6_isAt_1 : decode cX6_isAt 1 = .ok (.ifCond .lt 34, 3) := by decide +kernel
theorem dX6_isAt_4 : decode cX6_isAt 4 = .ok (.iload_n 1, 1) := by decide +kernel
theorem dX6_isAt_5 : decode cX6_isAt 5 = .ok (.aload_n 0, 1) := by decide +kernel
theorem dX6_isAt_6 : decode cX6_isAt 6 = .ok (.getfield 21, 3) := by decide +kernel
theorem dX6_isAt_9 : decode cX6_isAt 9 = .ok (.if_icmp .ge 26, 3) := by decide +kernel
theorem dX6_isAt_12 : decode cX6_isAt 12 = .ok (.iload_n 1, 1) := by decide +kernel
theorem dX6_isAt_13 : decode cX6_isAt 13 = .ok (.aload_n 0, 1) := by decide +kernel
theorem dX6_isAt_14 : decode cX6_isAt 14 = .ok (.getfield 9, 3) := by decide +kernel
theorem dX6_isAt_17 : decode cX6_isAt 17 = .ok (.arraylength, 1) := by decide +kernel
theorem dX6_isAt_18 : decode cX6_isAt 18 = .ok (.if_icmp .ge 17, 3) := by decide +kernel
theorem dX6_isAt_21 : decode cX6_isAt 21 = .ok (.aload_n 0, 1) := by decide +kernel
theorem dX6_isAt_22 : decode cX6_isAt 22 = .ok (.getfield 9, 3) := by decide +kernel
theorem dX6_isAt_25 : decode cX6_isAt 25 = .ok (.iload_n 1, 1) := by decide +kernel
theorem dX6_isAt_26 : decode cX6_isAt 26 = .ok (.caload, 1) := by decide +kernel
theorem dX6_isAt_27 : decode cX6_isAt 27 = .ok (.iload_n 2, 1) := by decide +kernel
theorem dX6_isAt_28 : decode cX6_isAt 28 = .ok (.if_icmp .ne 7, 3) := by decide +kernel
theorem dX6_isAt_31 : decode cX6_isAt 31 = .ok (.iconst 1, 1) := by decide +kernel
theorem dX6_isAt_32 : decode cX6_isAt 32 = .ok (.goto 4, 3) := by decide +kernel
theorem dX6_isAt_35 : decode cX6_isAt 35 = .ok (.iconst 0, 1) := by decide +kernel
theorem dX6_isAt_36 : decode cX6_isAt 36 = .ok (.ireturn, 1) := by decide +kernel
theorem dX6_current_0 : decode cX6_current 0 = .ok (.aload_n 0, 1) := by decide +kernel
theorem dX6_current_1 : decode cX6_current 1 = .ok (.getfield 25, 3) := by decide +kernel
theorem dX6_current_4 : decode cX6_current 4 = .ok (.ifCond .lt 38, 3) := by decide +kernel
theorem dX6_current_7 : decode cX6_current 7 = .ok (.aload_n 0, 1) := by decide +kernel
theorem dX6_current_8 : decode cX6_current 8 = .ok (.getfield 25, 3) := by decide +kernel
theorem dX6_current_11 : decode cX6_current 11 = .ok (.aload_n 0, 1) := by decide +kernel
theorem dX6_current_12 : decode cX6_current 12 = .ok (.getfield 21, 3) := by decide +kernel
theorem dX6_current_15 : decode cX6_current 15 = .ok (.if_icmp .ge 27, 3) := by decide +kernel
theorem dX6_current_18 : decode cX6_current 18 = .ok (.aload_n 0, 1) := by decide +kernel
theorem dX6_current_19 : decode cX6_current 19 = .ok (.getfield 25, 3) := by decide +kernel
theorem dX6_current_22 : decode cX6_current 22 = .ok (.aload_n 0, 1) := by decide +kernel
theorem dX6_current_23 : decode cX6_current 23 = .ok (.getfield 9, 3) := by decide +kernel
theorem dX6_current_26 : decode cX6_current 26 = .ok (.arraylength, 1) := by decide +kernel
theorem dX6_current_27 : decode cX6_current 27 = .ok (.if_icmp .ge 15, 3) := by decide +kernel
theorem dX6_current_30 : decode cX6_current 30 = .ok (.aload_n 0, 1) := by decide +kernel
theorem dX6_current_31 : decode cX6_current 31 = .ok (.getfield 9, 3) := by decide +kernel
theorem dX6_current_34 : decode cX6_current 34 = .ok (.aload_n 0, 1) := by decide +kernel
theorem dX6_current_35 : decode cX6_current 35 = .ok (.getfield 25, 3) := by decide +kernel
theorem dX6_current_38 : decode cX6_current 38 = .ok (.caload, 1) := by decide +kernel
theorem dX6_current_39 : decode cX6_current 39 = .ok (.goto 4, 3) := by decide +kernel
theorem dX6_current_42 : decode cX6_current 42 = .ok (.iconst 0, 1) := by decide +kernel
theorem dX6_current_43 : decode cX6_current 43 = .ok (.ireturn, 1) := by decide +kernel
theorem dX7_init_0 : decode cX7_init 0 = .ok (.aload_n 0, 1) := by decide +kernel
theorem dX7_init_1 : decode cX7_init 1 = .ok (.invokespecial 3, 3) := by decide +kernel
theorem dX7_init_4 : decode cX7_init 4 = .ok (.aload_n 0, 1) := by decide +kernel
theorem dX7_init_5 : decode cX7_init 5 = .ok (.iload_n 1, 1) := by decide +kernel
theorem dX7_init_6 : decode cX7_init 6 = .ok (.ifCond .ge 7, 3) := by decide +kernel
theorem dX7_init_9 : decode cX7_init 9 = .ok (.iconst 0, 1) := by decide +kernel
theorem dX7_init_10 : decode cX7_init 10 = .ok (.goto 4, 3) := by decide +kernel
theorem dX7_init_13 : decode cX7_init 13 = .ok (.iload_n 1, 1) := by decide +kernel
theorem dX7_init_14 : decode cX7_init 14 = .ok (.newarray .int, 2) := by decide +kernel
theorem dX7_init_16 : decode cX7_init 16 = .ok (.putfield 9, 3) := by decide +kernel
theorem dX7_init_19 : decode cX7_init 19 = .ok (.aload_n 0, 1) := by decide +kernel
theorem dX7_init_20 : decode cX7_init 20 = .ok (.iconst 0, 1) := by decide +kernel
theorem dX7_init_21 : decode cX7_init 21 = .ok (.putfield 15, 3) := by decide +kernel
theorem dX7_init_24 : decode cX7_init 24 = .ok (.return_, 1) := by decide +kernel
theorem dX7_ofZeros_0 : decode cX7_ofZeros 0 = .ok (.new 10, 3) := by decide +kernel
theorem dX7_ofZeros_3 : decode cX7_ofZeros 3 = .ok (.dup, 1) := by decide +kernel
theorem dX7_ofZeros_4 : decode cX7_ofZeros 4 = .ok (.iload_n 0, 1) := by decide +kernel
theorem dX7_ofZeros_5 : decode cX7_ofZeros 5 = .ok (.invokespecial 19, 3) := by decide +kernel
theorem dX7_ofZeros_8 : decode cX7_ofZeros 8 = .ok (.astore_n 1, 1) := by decide +kernel
theorem dX7_ofZeros_9 : decode cX7_ofZeros 9 = .ok (.aload_n 1, 1) := by decide +kernel
theorem dX7_ofZeros_10 : decode cX7_ofZeros 10 = .ok (.aload_n 1, 1) := by decide +kernel
theorem dX7_ofZeros_11 : decode cX7_ofZeros 11 = .ok (.getfield 9, 3) := by decide +kernel
theorem dX7_ofZeros_14 : decode cX7_ofZeros 14 = .ok (.arraylength, 1) := by decide +kernel
theorem dX7_ofZeros_15 : decode cX7_ofZeros 15 = .ok (.putfield 15, 3) := by decide +kernel
theorem dX7_ofZeros_18 : decode cX7_ofZeros 18 = .ok (.aload_n 1, 1) := by decide +kernel
theorem dX7_ofZeros_19 : decode cX7_ofZeros 19 = .ok (.areturn, 1) := by decide +kernel
theorem dX7_size_0 : decode cX7_size 0 = .ok (.aload_n 0, 1) := by decide +kernel
theorem dX7_size_1 : decode cX7_size 1 = .ok (.getfield 15, 3) := by decide +kernel
theorem dX7_size_4 : decode cX7_size 4 = .ok (.ireturn, 1) := by decide +kernel
theorem dX7_get_0 : decode cX7_get 0 = .ok (.iload_n 1, 1) := by decide +kernel
theorem dX7_get_1 : decode cX7_get 1 = .ok (.ifCond .lt 29, 3) := by decide +kernel
theorem dX7_get_4 : decode cX7_get 4 = .ok (.iload_n 1, 1) := by decide +kernel
theorem dX7_get_5 : decode cX7_get 5 = .ok (.aload_n 0, 1) := by decide +kernel
theorem dX7_get_6 : decode cX7_get 6 = .ok (.getfield 15, 3) := by decide +kernel
theorem dX7_get_9 : decode cX7_get 9 = .ok (.if_icmp .ge 21, 3) := by decide +kernel
theorem dX7_get_12 : decode cX7_get 12 = .ok (.iload_n 1, 1) := by decide +kernel
theorem dX7_get_13 : decode cX7_get 13 = .ok (.aload_n 0, 1) := by decide +kernel
theorem dX7_get_14 : decode cX7_get 14 = .ok (.getfield 9, 3) := by decide +kernel
theorem dX7_get_17 : decode cX7_get 17 = .ok (.arraylength, 1) := by decide +kernel
theorem dX7_get_18 : decode cX7_get 18 = .ok (.if_icmp .ge 12, 3) := by decide +kernel
theorem dX7_get_21 : decode cX7_get 21 = .ok (.aload_n 0, 1) := by decide +kernel
theorem dX7_get_22 : decode cX7_get 22 = .ok (.getfield 9, 3) := by decide +kernel
theorem dX7_get_25 : decode cX7_get 25 = .ok (.iload_n 1, 1) := by decide +kernel
theorem dX7_get_26 : decode cX7_get 26 = .ok (.iaload, 1) := by decide +kernel
theorem dX7_get_27 : decode cX7_get 27 = .ok (.goto 4, 3) := by decide +kernel
theorem dX7_get_30 : decode cX7_get 30 = .ok (.iconst 0, 1) := by decide +kernel
theorem dX7_get_31 : decode cX7_get 31 = .ok (.ireturn, 1) := by decide +kernel
theorem dX7_increase_0 : decode cX7_increase 0 = .ok (.iload_n 1, 1) := by decide +kernel
theorem dX7_increase_1 : decode cX7_increase 1 = .ok (.ifCond .lt 30, 3) := by decide +kernel
theorem dX7_increase_4 : decode cX7_increase 4 = .ok (.iload_n 1, 1) := by decide +kernel
theorem dX7_increase_5 : decode cX7_increase 5 = .ok (.aload_n 0, 1) := by decide +kernel
theorem dX7_increase_6 : decode cX7_increase 6 = .ok (.getfield 15, 3) := by decide +kernel
theorem dX7_increase_9 : decode cX7_increase 9 = .ok (.if_icmp .ge 22, 3) := by decide +kernel
theorem dX7_increase_12 : decode cX7_increase 12 = .ok (.iload_n 1, 1) := by decide +kernel
theorem dX7_increase_13 : decode cX7_increase 13 = .ok (.aload_n 0, 1) := by decide +kernel
theorem dX7_increase_14 : decode cX7_increase 14 = .ok (.getfield 9, 3) := by decide +kernel
theorem dX7_increase_17 : decode cX7_increase 17 = .ok (.arraylength, 1) := by decide +kernel
theorem dX7_increase_18 : decode cX7_increase 18 = .ok (.if_icmp .ge 13, 3) := by decide +kernel
theorem dX7_increase_21 : decode cX7_increase 21 = .ok (.aload_n 0, 1) := by decide +kernel
theorem dX7_increase_22 : decode cX7_increase 22 = .ok (.getfield 9, 3) := by decide +kernel
theorem dX7_increase_25 : decode cX7_increase 25 = .ok (.iload_n 1, 1) := by decide +kernel
theorem dX7_increase_26 : decode cX7_increase 26 = .ok (.dup2, 1) := by decide +kernel
theorem dX7_increase_27 : decode cX7_increase 27 = .ok (.iaload, 1) := by decide +kernel
theorem dX7_increase_28 : decode cX7_increase 28 = .ok (.iload_n 2, 1) := by decide +kernel
theorem dX7_increase_29 : decode cX7_increase 29 = .ok (.iadd, 1) := by decide +kernel
theorem dX7_increase_30 : decode cX7_increase 30 = .ok (.iastore, 1) := by decide +kernel
theorem dX7_increase_31 : decode cX7_increase 31 = .ok (.return_, 1) := by decide +kernel
theorem dX7_set_0 : decode cX7_set 0 = .ok (.iload_n 1, 1) := by decide +kernel
theorem dX7_set_1 : decode cX7_set 1 = .ok (.ifCond .lt 27, 3) := by decide +kernel
theorem dX7_set_4 : decode cX7_set 4 = .ok (.iload_n 1, 1) := by decide +kernel
theorem dX7_set_5 : decode cX7_set 5 = .ok (.aload_n 0, 1) := by decide +kernel
theorem dX7_set_6 : decode cX7_set 6 = .ok (.getfield 15, 3) := by decide +kernel
theorem dX7_set_9 : decode cX7_set 9 = .ok (.if_icmp .ge 19, 3) := by decide +kernel
theorem dX7_set_12 : decode cX7_set 12 = .ok (.iload_n 1, 1) := by decide +kernel
theorem dX7_set_13 : decode cX7_set 13 = .ok (.aload_n 0, 1) := by decide +kernel
theorem dX7_set_14 : decode cX7_set 14 = .ok (.getfield 9, 3) := by decide +kernel
theorem dX7_set_17 : decode cX7_set 17 = .ok (.arraylength, 1) := by decide +kernel
theorem dX7_set_18 : decode cX7_set 18 = .ok (.if_icmp .ge 10, 3) := by decide +kernel
theorem dX7_set_21 : decode cX7_set 21 = .ok (.aload_n 0, 1) := by decide +kernel
theorem dX7_set_22 : decode cX7_set 22 = .ok (.getfield 9, 3) := by decide +kernel
theorem dX7_set_25 : decode cX7_set 25 = .ok (.iload_n 1, 1) := by decide +kernel
theorem dX7_set_26 : decode cX7_set 26 = .ok (.iload_n 2, 1) := by decide +kernel
theorem dX7_set_27 : decode cX7_set 27 = .ok (.iastore, 1) := by decide +kernel
theorem dX7_set_28 : decode cX7_set 28 = .ok (.return_, 1) := by decide +kernel
theorem dX7_add_0 : decode cX7_add 0 = .ok (.aload_n 0, 1) := by decide +kernel
theorem dX7_add_1 : decode cX7_add 1 = .ok (.getfield 15, 3) := by decide +kernel
theorem dX7_add_4 : decode cX7_add 4 = .ok (.ifCond .lt 35, 3) := by decide +kernel
theorem dX7_add_7 : decode cX7_add 7 = .ok (.aload_n 0, 1) := by decide +kernel
theorem dX7_add_8 : decode cX7_add 8 = .ok (.getfield 15, 3) := by decide +kernel
theorem dX7_add_11 : decode cX7_add 11 = .ok (.aload_n 0, 1) := by decide +kernel
theorem dX7_add_12 : decode cX7_add 12 = .ok (.getfield 9, 3) := by decide +kernel
theorem dX7_add_15 : decode cX7_add 15 = .ok (.arraylength, 1) := by decide +kernel
theorem dX7_add_16 : decode cX7_add 16 = .ok (.if_icmp .ge 23, 3) := by decide +kernel
theorem dX7_add_19 : decode cX7_add 19 = .ok (.aload_n 0, 1) := by decide +kernel
theorem dX7_add_20 : decode cX7_add 20 = .ok (.getfield 9, 3) := by decide +kernel
theorem dX7_add_23 : decode cX7_add 23 = .ok (.aload_n 0, 1) := by decide +kernel
theorem dX7_add_24 : decode cX7_add 24 = .ok (.getfield 15, 3) := by decide +kernel
theorem dX7_add_27 : decode cX7_add 27 = .ok (.iload_n 1, 1) := by decide +kernel
theorem dX7_add_28 : decode cX7_add 28 = .ok (.iastore, 1) := by decide +kernel
theorem dX7_add_29 : decode cX7_add 29 = .ok (.aload_n 0, 1) := by decide +kernel
theorem dX7_add_30 : decode cX7_add 30 = .ok (.dup, 1) := by decide +kernel
theorem dX7_add_31 : decode cX7_add 31 = .ok (.getfield 15, 3) := by decide +kernel
theorem dX7_add_34 : decode cX7_add 34 = .ok (.iconst 1, 1) := by decide +kernel
theorem dX7_add_35 : decode cX7_add 35 = .ok (.iadd, 1) := by decide +kernel
theorem dX7_add_36 : decode cX7_add 36 = .ok (.putfield 15, 3) := by decide +kernel
theorem dX7_add_39 : decode cX7_add 39 = .ok (.return_, 1) := by decide +kernel
theorem dX7_insert_0 : decode cX7_insert 0 = .ok (.iload_n 1, 1) := by decide +kernel
theorem dX7_insert_1 : decode cX7_insert 1 = .ok (.ifCond .lt 23, 3) := by decide +kernel
theorem dX7_insert_4 : decode cX7_insert 4 = .ok (.iload_n 1, 1) := by decide +kernel
theorem dX7_insert_5 : decode cX7_insert 5 = .ok (.aload_n 0, 1) := by decide +kernel
theorem dX7_insert_6 : decode cX7_insert 6 = .ok (.getfield 15, 3) := by decide +kernel
theorem dX7_insert_9 : decode cX7_insert 9 = .ok (.if_icmp .gt 15, 3) := by decide +kernel
theorem dX7_insert_12 : decode cX7_insert 12 = .ok (.aload_n 0, 1) := by decide +kernel
theorem dX7_insert_13 : decode cX7_insert 13 = .ok (.getfield 15, 3) := by decide +kernel
theorem dX7_insert_16 : decode cX7_insert 16 = .ok (.aload_n 0, 1) := by decide +kernel
theorem dX7_insert_17 : decode cX7_insert 17 = .ok (.getfield 9, 3) := by decide +kernel
theorem dX7_insert_20 : decode cX7_insert 20 = .ok (.arraylength, 1) := by decide +kernel
theorem dX7_insert_21 : decode cX7_insert 21 = .ok (.if_icmp .lt 4, 3) := by decide +kernel
theorem dX7_insert_24 : decode cX7_insert 24 = .ok (.return_, 1) := by decide +kernel
theorem dX7_insert_25 : decode cX7_insert 25 = .ok (.aload_n 0, 1) := by decide +kernel
theorem dX7_insert_26 : decode cX7_insert 26 = .ok (.getfield 15, 3) := by decide +kernel
theorem dX7_insert_29 : decode cX7_insert 29 = .ok (.istore_n 3, 1) := by decide +kernel
theorem dX7_insert_30 : decode cX7_insert 30 = .ok (.iload_n 3, 1) := by decide +kernel
theorem dX7_insert_31 : decode cX7_insert 31 = .ok (.iload_n 1, 1) := by decide +kernel
theorem dX7_insert_32 : decode cX7_insert 32 = .ok (.if_icmp .le 23, 3) := by decide +kernel
theorem dX7_insert_35 : decode cX7_insert 35 = .ok (.aload_n 0, 1) := by decide +kernel
theorem dX7_insert_36 : decode cX7_insert 36 = .ok (.getfield 9, 3) := by decide +kernel
theorem dX7_insert_39 : decode cX7_insert 39 = .ok (.iload_n 3, 1) := by decide +kernel
theorem dX7_insert_40 : decode cX7_insert 40 = .ok (.aload_n 0, 1) := by decide +kernel
theorem dX7_insert_41 : decode cX7_insert 41 = .ok (.getfield 9, 3) := by decide +kernel
theorem dX7_insert_44 : decode cX7_insert 44 = .ok (.iload_n 3, 1) := by decide +kernel
theorem dX7_insert_45 : decode cX7_insert 45 = .ok (.iconst 1, 1) := by decide +kernel
theorem dX7_insert_46 : decode cX7_insert 46 = .ok (.isub, 1) := by decide +kernel
theorem dX7_insert_47 : decode cX7_insert 47 = .ok (.iaload, 1) := by decide +kernel
theorem dX7_insert_48 : decode cX7_insert 48 = .ok (.iastore, 1) := by decide +kernel
theorem dX7_insert_49 : decode cX7_insert 49 = .ok (.iinc 3 (-1), 3) := by decide +kernel
theorem dX7_insert_52 : decode cX7_insert 52 = .ok (.goto (-22), 3) := by decide +kernel
theorem dX7_insert_55 : decode cX7_insert 55 = .ok (.aload_n 0, 1) := by decide +kernel
theorem dX7_insert_56 : decode cX7_insert 56 = .ok (.getfield 9, 3) := by decide +kernel
theorem dX7_insert_59 : decode cX7_insert 59 = .ok (.iload_n 1, 1) := by decide +kernel
theorem dX7_insert_60 : decode cX7_insert 60 = .ok (.iload_n 2, 1) := by decide +kernel
theorem dX7_insert_61 : decode cX7_insert 61 = .ok (.iastore, 1) := by decide +kernel
theorem dX7_insert_62 : decode cX7_insert 62 = .ok (.aload_n 0, 1) := by decide +kernel
theorem dX7_insert_63 : decode cX7_insert 63 = .ok (.dup, 1) := by decide +kernel
theorem dX7_insert_64 : decode cX7_insert 64 = .ok (.getfield 15, 3) := by decide +kernel
theorem dX7_insert_67 : decode cX7_insert 67 = .ok (.iconst 1, 1) := by decide +kernel
theorem dX7_insert_68 : decode cX7_insert 68 = .ok (.iadd, 1) := by decide +kernel
theorem dX7_insert_69 : decode cX7_insert 69 = .ok (.putfield 15, 3) := by decide +kernel
theorem dX7_insert_72 : decode cX7_insert 72 = .ok (.return_, 1) := by decide +kernel
theorem dX7_removeAt_0 : decode cX7_removeAt 0 = .ok (.iload_n 1, 1) := by decide +kernel
theorem dX7_removeAt_1 : decode cX7_removeAt 1 = .ok (.ifCond .lt 23, 3) := by decide +kernel
theorem dX7_removeAt_4 : decode cX7_removeAt 4 = .ok (.iload_n 1, 1) := by decide +kernel
theorem dX7_removeAt_5 : decode cX7_removeAt 5 = .ok (.aload_n 0, 1) := by decide +kernel
theorem dX7_removeAt_6 : decode cX7_removeAt 6 = .ok (.getfield 15, 3) := by decide +kernel
theorem dX7_removeAt_9 : decode cX7_removeAt 9 = .ok (.if_icmp .ge 15, 3) := by decide +kernel
theorem dX7_removeAt_12 : decode cX7_removeAt 12 = .ok (.aload_n 0, 1) := by decide +kernel
theorem dX7_removeAt_13 : decode cX7_removeAt 13 = .ok (.getfield 15, 3) := by decide +kernel
theorem dX7_removeAt_16 : decode cX7_removeAt 16 = .ok (.aload_n 0, 1) := by decide +kernel
theorem dX7_removeAt_17 : decode cX7_removeAt 17 = .ok (.getfield 9, 3) := by decide +kernel
theorem dX7_removeAt_20 : decode cX7_removeAt 20 = .ok (.arraylength, 1) := by decide +kernel
theorem dX7_removeAt_21 : decode cX7_removeAt 21 = .ok (.if_icmp .le 4, 3) := by decide +kernel
theorem dX7_removeAt_24 : decode cX7_removeAt 24 = .ok (.return_, 1) := by decide +kernel
theorem dX7_removeAt_25 : decode cX7_removeAt 25 = .ok (.iload_n 1, 1) := by decide +kernel
theorem dX7_removeAt_26 : decode cX7_removeAt 26 = .ok (.iconst 1, 1) := by decide +kernel
theorem dX7_removeAt_27 : decode cX7_removeAt 27 = .ok (.iadd, 1) := by decide +kernel
theorem dX7_removeAt_28 : decode cX7_removeAt 28 = .ok (.istore_n 2, 1) := by decide +kernel
theorem dX7_removeAt_29 : decode cX7_removeAt 29 = .ok (.iload_n 2, 1) := by decide +kernel
theorem dX7_removeAt_30 : decode cX7_removeAt 30 = .ok (.aload_n 0, 1) := by decide +kernel
theorem dX7_removeAt_31 : decode cX7_removeAt 31 = .ok (.getfield 15, 3) := by decide +kernel
theorem dX7_removeAt_34 : decode cX7_removeAt 34 = .ok (.if_icmp .ge 23, 3) := by decide +kernel
theorem dX7_removeAt_37 : decode cX7_removeAt 37 = .ok (.aload_n 0, 1) := by decide +kernel
theorem dX7_removeAt_38 : decode cX7_removeAt 38 = .ok (.getfield 9, 3) := by decide +kernel
theorem dX7_removeAt_41 : decode cX7_removeAt 41 = .ok (.iload_n 2, 1) := by decide +kernel
theorem dX7_removeAt_42 : decode cX7_removeAt 42 = .ok (.iconst 1, 1) := by decide +kernel
theorem dX7_removeAt_43 : decode cX7_removeAt 43 = .ok (.isub, 1) := by decide +kernel
theorem dX7_removeAt_44 : decode cX7_removeAt 44 = .ok (.aload_n 0, 1) := by decide +kernel
theorem dX7_removeAt_45 : decode cX7_removeAt 45 = .ok (.getfield 9, 3) := by decide +kernel
theorem dX7_removeAt_48 : decode cX7_removeAt 48 = .ok (.iload_n 2, 1) := by decide +kernel
theorem dX7_removeAt_49 : decode cX7_removeAt 49 = .ok (.iaload, 1) := by decide +kernel
theorem dX7_removeAt_50 : decode cX7_removeAt 50 = .ok (.iastore, 1) := by decide +kernel
theorem dX7_removeAt_51 : decode cX7_removeAt 51 = .ok (.iinc 2 1, 3) := by decide +kernel
theorem dX7_removeAt_54 : decode cX7_removeAt 54 = .ok (.goto (-25), 3) := by decide +kernel
theorem dX7_removeAt_57 : decode cX7_removeAt 57 = .ok (.aload_n 0, 1) := by decide +kernel
theorem dX7_removeAt_58 : decode cX7_removeAt 58 = .ok (.dup, 1) := by decide +kernel
theorem dX7_removeAt_59 : decode cX7_removeAt 59 = .ok (.getfield 15, 3) := by decide +kernel
theorem dX7_removeAt_62 : decode cX7_removeAt 62 = .ok (.iconst 1, 1) := by decide +kernel
theorem dX7_removeAt_63 : decode cX7_removeAt 63 = .ok (.isub, 1) := by decide +kernel
theorem dX7_removeAt_64 : decode cX7_removeAt 64 = .ok (.putfield 15, 3) := by decide +kernel
theorem dX7_removeAt_67 : decode cX7_removeAt 67 = .ok (.return_, 1) := by decide +kernel
theorem dX7_clear_0 : decode cX7_clear 0 = .ok (.aload_n 0, 1) := by decide +kernel
theorem dX7_clear_1 : decode cX7_clear 1 = .ok (.iconst 0, 1) := by decide +kernel
theorem dX7_clear_2 : decode cX7_clear 2 = .ok (.putfield 15, 3) := by decide +kernel
theorem dX7_clear_5 : decode cX7_clear 5 = .ok (.return_, 1) := by decide +kernel
theorem dX7_indexOf_0 : decode cX7_indexOf 0 = .ok (.iconst 0, 1) := by decide +kernel
theorem dX7_indexOf_1 : decode cX7_indexOf 1 = .ok (.istore_n 2, 1) := by decide +kernel
theorem dX7_indexOf_2 : decode cX7_indexOf 2 = .ok (.iload_n 2, 1) := by decide +kernel
theorem dX7_indexOf_3 : decode cX7_indexOf 3 = .ok (.aload_n 0, 1) := by decide +kernel
theorem dX7_indexOf_4 : decode cX7_indexOf 4 = .ok (.getfield 15, 3) := by decide +kernel
theorem dX7_indexOf_7 : decode cX7_indexOf 7 = .ok (.if_icmp .ge 30, 3) := by decide +kernel
theorem dX7_indexOf_10 : decode cX7_indexOf 10 = .ok (.iload_n 2, 1) := by decide +kernel
theorem dX7_indexOf_11 : decode cX7_indexOf 11 = .ok (.aload_n 0, 1) := by decide +kernel
theorem dX7_indexOf_12 : decode cX7_indexOf 12 = .ok (.getfield 9, 3) := by decide +kernel
theorem dX7_indexOf_15 : decode cX7_indexOf 15 = .ok (.arraylength, 1) := by decide +kernel
theorem dX7_indexOf_16 : decode cX7_indexOf 16 = .ok (.if_icmp .ge 21, 3) := by decide +kernel
theorem dX7_indexOf_19 : decode cX7_indexOf 19 = .ok (.aload_n 0, 1) := by decide +kernel
theorem dX7_indexOf_20 : decode cX7_indexOf 20 = .ok (.getfield 9, 3) := by decide +kernel
theorem dX7_indexOf_23 : decode cX7_indexOf 23 = .ok (.iload_n 2, 1) := by decide +kernel
theorem dX7_indexOf_24 : decode cX7_indexOf 24 = .ok (.iaload, 1) := by decide +kernel
theorem dX7_indexOf_25 : decode cX7_indexOf 25 = .ok (.iload_n 1, 1) := by decide +kernel
theorem dX7_indexOf_26 : decode cX7_indexOf 26 = .ok (.if_icmp .ne 5, 3) := by decide +kernel
theorem dX7_indexOf_29 : decode cX7_indexOf 29 = .ok (.iload_n 2, 1) := by decide +kernel
theorem dX7_indexOf_30 : decode cX7_indexOf 30 = .ok (.ireturn, 1) := by decide +kernel
theorem dX7_indexOf_31 : decode cX7_indexOf 31 = .ok (.iinc 2 1, 3) := by decide +kernel
theorem dX7_indexOf_34 : decode cX7_indexOf 34 = .ok (.goto (-32), 3) := by decide +kernel
theorem dX7_indexOf_37 : decode cX7_indexOf 37 = .ok (.iconst (-1), 1) := by decide +kernel
theorem dX7_indexOf_38 : decode cX7_indexOf 38 = .ok (.ireturn, 1) := by decide +kernel
theorem dX7_sum_0 : decode cX7_sum 0 = .ok (.iconst 0, 1) := by decide +kernel
theorem dX7_sum_1 : decode cX7_sum 1 = .ok (.istore_n 1, 1) := by decide +kernel
theorem dX7_sum_2 : decode cX7_sum 2 = .ok (.iconst 0, 1) := by decide +kernel
theorem dX7_sum_3 : decode cX7_sum 3 = .ok (.istore_n 2, 1) := by decide +kernel
theorem dX7_sum_4 : decode cX7_sum 4 = .ok (.iload_n 2, 1) := by decide +kernel
theorem dX7_sum_5 : decode cX7_sum 5 = .ok (.aload_n 0, 1) := by decide +kernel
theorem dX7_sum_6 : decode cX7_sum 6 = .ok (.getfield 15, 3) := by decide +kernel
theorem dX7_sum_9 : decode cX7_sum 9 = .ok (.if_icmp .ge 27, 3) := by decide +kernel
theorem dX7_sum_12 : decode cX7_sum 12 = .ok (.iload_n 2, 1) := by decide +kernel
theorem dX7_sum_13 : decode cX7_sum 13 = .ok (.aload_n 0, 1) := by decide +kernel
theorem dX7_sum_14 : decode cX7_sum 14 = .ok (.getfield 9, 3) := by decide +kernel
theorem dX7_sum_17 : decode cX7_sum 17 = .ok (.arraylength, 1) := by decide +kernel
theorem dX7_sum_18 : decode cX7_sum 18 = .ok (.if_icmp .ge 18, 3) := by decide +kernel
theorem dX7_sum_21 : decode cX7_sum 21 = .ok (.iload_n 1, 1) := by decide +kernel
theorem dX7_sum_22 : decode cX7_sum 22 = .ok (.aload_n 0, 1) := by decide +kernel
theorem dX7_sum_23 : decode cX7_sum 23 = .ok (.getfield 9, 3) := by decide +kernel
theorem dX7_sum_26 : decode cX7_sum 26 = .ok (.iload_n 2, 1) := by decide +kernel
theorem dX7_sum_27 : decode cX7_sum 27 = .ok (.iaload, 1) := by decide +kernel
theorem dX7_sum_28 : decode cX7_sum 28 = .ok (.iadd, 1) := by decide +kernel
theorem dX7_sum_29 : decode cX7_sum 29 = .ok (.istore_n 1, 1) := by decide +kernel
theorem dX7_sum_30 : decode cX7_sum 30 = .ok (.iinc 2 1, 3) := by decide +kernel
theorem dX7_sum_33 : decode cX7_sum 33 = .ok (.goto (-29), 3) := by decide +kernel
theorem dX7_sum_36 : decode cX7_sum 36 = .ok (.iload_n 1, 1) := by decide +kernel
theorem dX7_sum_37 : decode cX7_sum 37 = .ok (.ireturn, 1) := by decide +kernel
theorem dX7_copyFrom_0 : decode cX7_copyFrom 0 = .ok (.aload_n 1, 1) := by decide +kernel
theorem dX7_copyFrom_1 : decode cX7_copyFrom 1 = .ok (.getfield 15, 3) := by decide +kernel
theorem dX7_copyFrom_4 : decode cX7_copyFrom 4 = .ok (.istore_n 2, 1) := by decide +kernel
theorem dX7_copyFrom_5 : decode cX7_copyFrom 5 = .ok (.iload_n 2, 1) := by decide +kernel
theorem dX7_copyFrom_6 : decode cX7_copyFrom 6 = .ok (.aload_n 1, 1) := by decide +kernel
theorem dX7_copyFrom_7 : decode cX7_copyFrom 7 = .ok (.getfield 9, 3) := by decide +kernel
theorem dX7_copyFrom_10 : decode cX7_copyFrom 10 = .ok (.arraylength, 1) := by decide +kernel
theorem dX7_copyFrom_11 : decode cX7_copyFrom 11 = .ok (.if_icmp .gt 12, 3) := by decide +kernel
theorem dX7_copyFrom_14 : decode cX7_copyFrom 14 = .ok (.iload_n 2, 1) := by decide +kernel
theorem dX7_copyFrom_15 : decode cX7_copyFrom 15 = .ok (.aload_n 0, 1) := by decide +kernel
theorem dX7_copyFrom_16 : decode cX7_copyFrom 16 = .ok (.getfield 9, 3) := by decide +kernel
theorem dX7_copyFrom_19 : decode cX7_copyFrom 19 = .ok (.arraylength, 1) := by decide +kernel
theorem dX7_copyFrom_20 : decode cX7_copyFrom 20 = .ok (.if_icmp .le 4, 3) := by decide +kernel
theorem dX7_copyFrom_23 : decode cX7_copyFrom 23 = .ok (.return_, 1) := by decide +kernel
theorem dX7_copyFrom_24 : decode cX7_copyFrom 24 = .ok (.iconst 0, 1) := by decide +kernel
theorem dX7_copyFrom_25 : decode cX7_copyFrom 25 = .ok (.istore_n 3, 1) := by decide +kernel
theorem dX7_copyFrom_26 : decode cX7_copyFrom 26 = .ok (.iload_n 3, 1) := by decide +kernel
theorem dX7_copyFrom_27 : decode cX7_copyFrom 27 = .ok (.iload_n 2, 1) := by decide +kernel
theorem dX7_copyFrom_28 : decode cX7_copyFrom 28 = .ok (.if_icmp .ge 21, 3) := by decide +kernel
theorem dX7_copyFrom_31 : decode cX7_copyFrom 31 = .ok (.aload_n 0, 1) := by decide +kernel
theorem dX7_copyFrom_32 : decode cX7_copyFrom 32 = .ok (.getfield 9, 3) := by decide +kernel
theorem dX7_copyFrom_35 : decode cX7_copyFrom 35 = .ok (.iload_n 3, 1) := by decide +kernel
theorem dX7_copyFrom_36 : decode cX7_copyFrom 36 = .ok (.aload_n 1, 1) := by decide +kernel
theorem dX7_copyFrom_37 : decode cX7_copyFrom 37 = .ok (.getfield 9, 3) := by decide +kernel
theorem dX7_copyFrom_40 : decode cX7_copyFrom 40 = .ok (.iload_n 3, 1) := by decide +kernel
theorem dX7_copyFrom_41 : decode cX7_copyFrom 41 = .ok (.iaload, 1) := by decide +kernel
theorem dX7_copyFrom_42 : decode cX7_copyFrom 42 = .ok (.iastore, 1) := by decide +kernel
theorem dX7_copyFrom_43 : decode cX7_copyFrom 43 = .ok (.iinc 3 1, 3) := by decide +kernel
theorem dX7_copyFrom_46 : decode cX7_copyFrom 46 = .ok (.goto (-20), 3) := by decide +kernel
theorem dX7_copyFrom_49 : decode cX7_copyFrom 49 = .ok (.aload_n 0, 1) := by decide +kernel
theorem dX7_copyFrom_50 : decode cX7_copyFrom 50 = .ok (.iload_n 2, 1) := by decide +kernel
theorem dX7_copyFrom_51 : decode cX7_copyFrom 51 = .ok (.putfield 15, 3) := by decide +kernel
theorem dX7_copyFrom_54 : decode cX7_copyFrom 54 = .ok (.return_, 1) := by decide +kernel
theorem dX8_init_0 : decode cX8_init 0 = .ok (.aload_n 0, 1) := by decide +kernel
theorem dX8_init_1 : decode cX8_init 1 = .ok (.invokespecial 3, 3) := by decide +kernel
theorem dX8_init_4 : decode cX8_init 4 = .ok (.aload_n 0, 1) := by decide +kernel
theorem dX8_init_5 : decode cX8_init 5 = .ok (.new 9, 3) := by decide +kernel
theorem dX8_init_8 : decode cX8_init 8 = .ok (.dup, 1) := by decide +kernel
theorem dX8_init_9 : decode cX8_init 9 = .ok (.bipush 40, 2) := by decide +kernel
theorem dX8_init_11 : decode cX8_init 11 = .ok (.invokespecial 11, 3) := by decide +kernel
theorem dX8_init_14 : decode cX8_init 14 = .ok (.putfield 14, 3) := by decide +kernel
theorem dX8_init_17 : decode cX8_init 17 = .ok (.aload_n 0, 1) := by decide +kernel
theorem dX8_init_18 : decode cX8_init 18 = .ok (.new 9, 3) := by decide +kernel
theorem dX8_init_21 : decode cX8_init 21 = .ok (.dup, 1) := by decide +kernel
theorem dX8_init_22 : decode cX8_init 22 = .ok (.bipush 40, 2) := by decide +kernel
theorem dX8_init_24 : decode cX8_init 24 = .ok (.invokespecial 11, 3) := by decide +kernel
theorem dX8_init_27 : decode cX8_init 27 = .ok (.putfield 20, 3) := by decide +kernel
theorem dX8_init_30 : decode cX8_init 30 = .ok (.aload_n 0, 1) := by decide +kernel
theorem dX8_init_31 : decode cX8_init 31 = .ok (.bipush 6, 2) := by decide +kernel
theorem dX8_init_33 : decode cX8_init 33 = .ok (.invokestatic 23, 3) := by decide +kernel
theorem dX8_init_36 : decode cX8_init 36 = .ok (.putfield 27, 3) := by decide +kernel
theorem dX8_init_39 : decode cX8_init 39 = .ok (.return_, 1) := by decide +kernel
theorem dX8_copyFrom_0 : decode cX8_copyFrom 0 = .ok (.aload_n 0, 1) := by decide +kernel
theorem dX8_copyFrom_1 : decode cX8_copyFrom 1 = .ok (.getfield 14, 3) := by decide +kernel
theorem dX8_copyFrom_4 : decode cX8_copyFrom 4 = .ok (.aload_n 1, 1) := by decide +kernel
theorem dX8_copyFrom_5 : decode cX8_copyFrom 5 = .ok (.getfield 14, 3) := by decide +kernel
theorem dX8_copyFrom_8 : decode cX8_copyFrom 8 = .ok (.invokevirtual 30, 3) := by decide +kernel
theorem dX8_copyFrom_11 : decode cX8_copyFrom 11 = .ok (.aload_n 0, 1) := by decide +kernel
theorem dX8_copyFrom_12 : decode cX8_copyFrom 12 = .ok (.getfield 20, 3) := by decide +kernel
theorem dX8_copyFrom_15 : decode cX8_copyFrom 15 = .ok (.aload_n 1, 1) := by decide +kernel
theorem dX8_copyFrom_16 : decode cX8_copyFrom 16 = .ok (.getfield 20, 3) := by decide +kernel
theorem dX8_copyFrom_19 : decode cX8_copyFrom 19 = .ok (.invokevirtual 30, 3) := by decide +kernel
theorem dX8_copyFrom_22 : decode cX8_copyFrom 22 = .ok (.aload_n 0, 1) := by decide +kernel
theorem dX8_copyFrom_23 : decode cX8_copyFrom 23 = .ok (.getfield 27, 3) := by decide +kernel
theorem dX8_copyFrom_26 : decode cX8_copyFrom 26 = .ok (.aload_n 1, 1) := by decide +kernel
theorem dX8_copyFrom_27 : decode cX8_copyFrom 27 = .ok (.getfield 27, 3) := by decide +kernel
theorem dX8_copyFrom_30 : decode cX8_copyFrom 30 = .ok (.invokevirtual 30, 3) := by decide +kernel
theorem dX8_copyFrom_33 : decode cX8_copyFrom 33 = .ok (.return_, 1) := by decide +kernel
theorem dX8_lengthAt_0 : decode cX8_lengthAt 0 = .ok (.aload_n 0, 1) := by decide +kernel
theorem dX8_lengthAt_1 : decode cX8_lengthAt 1 = .ok (.getfield 20, 3) := by decide +kernel
theorem dX8_lengthAt_4 : decode cX8_lengthAt 4 = .ok (.iload_n 1, 1) := by decide +kernel
theorem dX8_lengthAt_5 : decode cX8_lengthAt 5 = .ok (.invokevirtual 34, 3) := by decide +kernel
theorem dX8_lengthAt_8 : decode cX8_lengthAt 8 = .ok (.ireturn, 1) := by decide +kernel
theorem dX8_thrownOf_0 : decode cX8_thrownOf 0 = .ok (.aload_n 0, 1) := by decide +kernel
theorem dX8_thrownOf_1 : decode cX8_thrownOf 1 = .ok (.getfield 27, 3) := by decide +kernel
theorem dX8_thrownOf_4 : decode cX8_thrownOf 4 = .ok (.iload_n 1, 1) := by decide +kernel
theorem dX8_thrownOf_5 : decode cX8_thrownOf 5 = .ok (.invokestatic 38, 3) := by decide +kernel
theorem dX8_thrownOf_8 : decode cX8_thrownOf 8 = .ok (.invokevirtual 34, 3) := by decide +kernel
theorem dX8_thrownOf_11 : decode cX8_thrownOf 11 = .ok (.ireturn, 1) := by decide +kernel
theorem dX8_countOf_0 : decode cX8_countOf 0 = .ok (.iconst 0, 1) := by decide +kernel
theorem dX8_countOf_1 : decode cX8_countOf 1 = .ok (.istore_n 2, 1) := by decide +kernel
theorem dX8_countOf_2 : decode cX8_countOf 2 = .ok (.iconst 0, 1) := by decide +kernel
theorem dX8_countOf_3 : decode cX8_countOf 3 = .ok (.istore_n 3, 1) := by decide +kernel
theorem dX8_countOf_4 : decode cX8_countOf 4 = .ok (.iload_n 3, 1) := by decide +kernel
theorem dX8_countOf_5 : decode cX8_countOf 5 = .ok (.aload_n 0, 1) := by decide +kernel
theorem dX8_countOf_6 : decode cX8_countOf 6 = .ok (.getfield 20, 3) := by decide +kernel
theorem dX8_countOf_9 : decode cX8_countOf 9 = .ok (.invokevirtual 42, 3) := by decide +kernel
theorem dX8_countOf_12 : decode cX8_countOf 12 = .ok (.if_icmp .ge 24, 3) := by decide +kernel
theorem dX8_countOf_15 : decode cX8_countOf 15 = .ok (.aload_n 0, 1) := by decide +kernel
theorem dX8_countOf_16 : decode cX8_countOf 16 = .ok (.getfield 14, 3) := by decide +kernel
theorem dX8_countOf_19 : decode cX8_countOf 19 = .ok (.iload_n 3, 1) := by decide +kernel
theorem dX8_countOf_20 : decode cX8_countOf 20 = .ok (.invokevirtual 34, 3) := by decide +kernel
theorem dX8_countOf_23 : decode cX8_countOf 23 = .ok (.iload_n 1, 1) := by decide +kernel
theorem dX8_countOf_24 : decode cX8_countOf 24 = .ok (.if_icmp .ne 6, 3) := by decide +kernel
theorem dX8_countOf_27 : decode cX8_countOf 27 = .ok (.iinc 2 1, 3) := by decide +kernel
theorem dX8_countOf_30 : decode cX8_countOf 30 = .ok (.iinc 3 1, 3) := by decide +kernel
theorem dX8_countOf_33 : decode cX8_countOf 33 = .ok (.goto (-29), 3) := by decide +kernel
theorem dX8_countOf_36 : decode cX8_countOf 36 = .ok (.iload_n 2, 1) := by decide +kernel
theorem dX8_countOf_37 : decode cX8_countOf 37 = .ok (.ireturn, 1) := by decide +kernel
theorem dX8_sumOf_0 : decode cX8_sumOf 0 = .ok (.iconst 0, 1) := by decide +kernel
theorem dX8_sumOf_1 : decode cX8_sumOf 1 = .ok (.istore_n 2, 1) := by decide +kernel
theorem dX8_sumOf_2 : decode cX8_sumOf 2 = .ok (.iconst 0, 1) := by decide +kernel
theorem dX8_sumOf_3 : decode cX8_sumOf 3 = .ok (.istore_n 3, 1) := by decide +kernel
theorem dX8_sumOf_4 : decode cX8_sumOf 4 = .ok (.iload_n 3, 1) := by decide +kernel
theorem dX8_sumOf_5 : decode cX8_sumOf 5 = .ok (.aload_n 0, 1) := by decide +kernel
theorem dX8_sumOf_6 : decode cX8_sumOf 6 = .ok (.getfield 20, 3) := by decide +kernel
theorem dX8_sumOf_9 : decode cX8_sumOf 9 = .ok (.invokevirtual 42, 3) := by decide +kernel
theorem dX8_sumOf_12 : decode cX8_sumOf 12 = .ok (.if_icmp .ge 32, 3) := by decide +kernel
theorem dX8_sumOf_15 : decode cX8_sumOf 15 = .ok (.aload_n 0, 1) := by decide +kernel
theorem dX8_sumOf_16 : decode cX8_sumOf 16 = .ok (.getfield 14, 3) := by decide +kernel
theorem dX8_sumOf_19 : decode cX8_sumOf 19 = .ok (.iload_n 3, 1) := by decide +kernel
theorem dX8_sumOf_20 : decode cX8_sumOf 20 = .ok (.invokevirtual 34, 3) := by decide +kernel
theorem dX8_sumOf_23 : decode cX8_sumOf 23 = .ok (.iload_n 1, 1) := by decide +kernel
theorem dX8_sumOf_24 : decode cX8_sumOf 24 = .ok (.if_icmp .ne 14, 3) := by decide +kernel
theorem dX8_sumOf_27 : decode cX8_sumOf 27 = .ok (.iload_n 2, 1) := by decide +kernel
theorem dX8_sumOf_28 : decode cX8_sumOf 28 = .ok (.aload_n 0, 1) := by decide +kernel
theorem dX8_sumOf_29 : decode cX8_sumOf 29 = .ok (.getfield 20, 3) := by decide +kernel
theorem dX8_sumOf_32 : decode cX8_sumOf 32 = .ok (.iload_n 3, 1) := by decide +kernel
theorem dX8_sumOf_33 : decode cX8_sumOf 33 = .ok (.invokevirtual 34, 3) := by decide +kernel
theorem dX8_sumOf_36 : decode cX8_sumOf 36 = .ok (.iadd, 1) := by decide +kernel
theorem dX8_sumOf_37 : decode cX8_sumOf 37 = .ok (.istore_n 2, 1) := by decide +kernel
theorem dX8_sumOf_38 : decode cX8_sumOf 38 = .ok (.iinc 3 1, 3) := by decide +kernel
theorem dX8_sumOf_41 : decode cX8_sumOf 41 = .ok (.goto (-37), 3) := by decide +kernel
theorem dX8_sumOf_44 : decode cX8_sumOf 44 = .ok (.iload_n 2, 1) := by decide +kernel
theorem dX8_sumOf_45 : decode cX8_sumOf 45 = .ok (.ireturn, 1) := by decide +kernel
theorem dX8_indexOfRank_0 : decode cX8_indexOfRank 0 = .ok (.iconst 0, 1) := by decide +kernel
theorem dX8_indexOfRank_1 : decode cX8_indexOfRank 1 = .ok (.istore_n 3, 1) := by decide +kernel
theorem dX8_indexOfRank_2 : decode cX8_indexOfRank 2 = .ok (.iconst 0, 1) := by decide +kernel
theorem dX8_indexOfRank_3 : decode cX8_indexOfRank 3 = .ok (.istore 4, 2) := by decide +kernel
theorem dX8_indexOfRank_5 : decode cX8_indexOfRank 5 = .ok (.iload 4, 2) := by decide +kernel
theorem dX8_indexOfRank_7 : decode cX8_indexOfRank 7 = .ok (.aload_n 0, 1) := by decide +kernel
theorem dX8_indexOfRank_8 : decode cX8_indexOfRank 8 = .ok (.getfield 20, 3) := by decide +kernel
theorem dX8_indexOfRank_11 : decode cX8_indexOfRank 11 = .ok (.invokevirtual 42, 3) := by decide +kernel
theorem dX8_indexOfRank_14 : decode cX8_indexOfRank 14 = .ok (.if_icmp .ge 33, 3) := by decide +kernel
theorem dX8_indexOfRank_17 : decode cX8_indexOfRank 17 = .ok (.aload_n 0, 1) := by decide +kernel
theorem dX8_indexOfRank_18 : decode cX8_indexOfRank 18 = .ok (.getfield 14, 3) := by decide +kernel
theorem dX8_indexOfRank_21 : decode cX8_indexOfRank 21 = .ok (.iload 4, 2) := by decide +kernel
theorem dX8_indexOfRank_23 : decode cX8_indexOfRank 23 = .ok (.invokevirtual 34, 3) := by decide +kernel
theorem dX8_indexOfRank_26 : decode cX8_indexOfRank 26 = .ok (.iload_n 1, 1) := by decide +kernel
theorem dX8_indexOfRank_27 : decode cX8_indexOfRank 27 = .ok (.if_icmp .ne 14, 3) := by decide +kernel
theorem dX8_indexOfRank_30 : decode cX8_indexOfRank 30 = .ok (.iload_n 3, 1) := by decide +kernel
theorem dX8_indexOfRank_31 : decode cX8_indexOfRank 31 = .ok (.iload_n 2, 1) := by decide +kernel
theorem dX8_indexOfRank_32 : decode cX8_indexOfRank 32 = .ok (.if_icmp .ne 6, 3) := by decide +kernel
theorem dX8_indexOfRank_35 : decode cX8_indexOfRank 35 = .ok (.iload 4, 2) := by decide +kernel
theorem dX8_indexOfRank_37 : decode cX8_indexOfRank 37 = .ok (.ireturn, 1) := by decide +kernel
theorem dX8_indexOfRank_38 : decode cX8_indexOfRank 38 = .ok (.iinc 3 1, 3) := by decide +kernel
theorem dX8_indexOfRank_41 : decode cX8_indexOfRank 41 = .ok (.iinc 4 1, 3) := by decide +kernel
theorem dX8_indexOfRank_44 : decode cX8_indexOfRank 44 = .ok (.goto (-39), 3) := by decide +kernel
theorem dX8_indexOfRank_47 : decode cX8_indexOfRank 47 = .ok (.iconst (-1), 1) := by decide +kernel
theorem dX8_indexOfRank_48 : decode cX8_indexOfRank 48 = .ok (.ireturn, 1) := by decide +kernel
theorem dX8_shortestFor_0 : decode cX8_shortestFor 0 = .ok (.iconst 0, 1) := by decide +kernel
theorem dX8_shortestFor_1 : decode cX8_shortestFor 1 = .ok (.istore_n 3, 1) := by decide +kernel
theorem dX8_shortestFor_2 : decode cX8_shortestFor 2 = .ok (.iload_n 3, 1) := by decide +kernel
theorem dX8_shortestFor_3 : decode cX8_shortestFor 3 = .ok (.aload_n 0, 1) := by decide +kernel
theorem dX8_shortestFor_4 : decode cX8_shortestFor 4 = .ok (.getfield 20, 3) := by decide +kernel
theorem dX8_shortestFor_7 : decode cX8_shortestFor 7 = .ok (.invokevirtual 42, 3) := by decide +kernel
theorem dX8_shortestFor_10 : decode cX8_shortestFor 10 = .ok (.if_icmp .ge 35, 3) := by decide +kernel
theorem dX8_shortestFor_13 : decode cX8_shortestFor 13 = .ok (.aload_n 0, 1) := by decide +kernel
theorem dX8_shortestFor_14 : decode cX8_shortestFor 14 = .ok (.getfield 14, 3) := by decide +kernel
theorem dX8_shortestFor_17 : decode cX8_shortestFor 17 = .ok (.iload_n 3, 1) := by decide +kernel
theorem dX8_shortestFor_18 : decode cX8_shortestFor 18 = .ok (.invokevirtual 34, 3) := by decide +kernel
theorem dX8_shortestFor_21 : decode cX8_shortestFor 21 = .ok (.iload_n 1, 1) := by decide +kernel
theorem dX8_shortestFor_22 : decode cX8_shortestFor 22 = .ok (.if_icmp .ne 17, 3) := by decide +kernel
theorem dX8_shortestFor_25 : decode cX8_shortestFor 25 = .ok (.aload_n 0, 1) := by decide +kernel
theorem dX8_shortestFor_26 : decode cX8_shortestFor 26 = .ok (.getfield 20, 3) := by decide +kernel
theorem dX8_shortestFor_29 : decode cX8_shortestFor 29 = .ok (.iload_n 3, 1) := by decide +kernel
theorem dX8_shortestFor_30 : decode cX8_shortestFor 30 = .ok (.invokevirtual 34, 3) := by decide +kernel
theorem dX8_shortestFor_33 : decode cX8_shortestFor 33 = .ok (.iload_n 2, 1) := by decide +kernel
theorem dX8_shortestFor_34 : decode cX8_shortestFor 34 = .ok (.if_icmp .lt 5, 3) := by decide +kernel
theorem dX8_shortestFor_37 : decode cX8_shortestFor 37 = .ok (.iload_n 3, 1) := by decide +kernel
theorem dX8_shortestFor_38 : decode cX8_shortestFor 38 = .ok (.ireturn, 1) := by decide +kernel
theorem dX8_shortestFor_39 : decode cX8_shortestFor 39 = .ok (.iinc 3 1, 3) := by decide +kernel
theorem dX8_shortestFor_42 : decode cX8_shortestFor 42 = .ok (.goto (-40), 3) := by decide +kernel
theorem dX8_shortestFor_45 : decode cX8_shortestFor 45 = .ok (.iconst (-1), 1) := by decide +kernel
theorem dX8_shortestFor_46 : decode cX8_shortestFor 46 = .ok (.ireturn, 1) := by decide +kernel
theorem dX8_keepOrThrow_0 : decode cX8_keepOrThrow 0 = .ok (.aload_n 0, 1) := by decide +kernel
theorem dX8_keepOrThrow_1 : decode cX8_keepOrThrow 1 = .ok (.getfield 20, 3) := by decide +kernel
theorem dX8_keepOrThrow_4 : decode cX8_keepOrThrow 4 = .ok (.invokevirtual 42, 3) := by decide +kernel
theorem dX8_keepOrThrow_7 : decode cX8_keepOrThrow 7 = .ok (.bipush 40, 2) := by decide +kernel
theorem dX8_keepOrThrow_9 : decode cX8_keepOrThrow 9 = .ok (.if_icmp .lt 16, 3) := by decide +kernel
theorem dX8_keepOrThrow_12 : decode cX8_keepOrThrow 12 = .ok (.aload_n 0, 1) := by decide +kernel
theorem dX8_keepOrThrow_13 : decode cX8_keepOrThrow 13 = .ok (.getfield 27, 3) := by decide +kernel
theorem dX8_keepOrThrow_16 : decode cX8_keepOrThrow 16 = .ok (.iload_n 1, 1) := by decide +kernel
theorem dX8_keepOrThrow_17 : decode cX8_keepOrThrow 17 = .ok (.invokestatic 38, 3) := by decide +kernel
theorem dX8_keepOrThrow_20 : decode cX8_keepOrThrow 20 = .ok (.iload_n 2, 1) := by decide +kernel
theorem dX8_keepOrThrow_21 : decode cX8_keepOrThrow 21 = .ok (.invokevirtual 46, 3) := by decide +kernel
theorem dX8_keepOrThrow_24 : decode cX8_keepOrThrow 24 = .ok (.return_, 1) := by decide +kernel
theorem dX8_keepOrThrow_25 : decode cX8_keepOrThrow 25 = .ok (.iconst 0, 1) := by decide +kernel
theorem dX8_keepOrThrow_26 : decode cX8_keepOrThrow 26 = .ok (.istore_n 3, 1) := by decide +kernel
theorem dX8_keepOrThrow_27 : decode cX8_keepOrThrow 27 = .ok (.iload_n 3, 1) := by decide +kernel
theorem dX8_keepOrThrow_28 : decode cX8_keepOrThrow 28 = .ok (.aload_n 0, 1) := by decide +kernel
theorem dX8_keepOrThrow_29 : decode cX8_keepOrThrow 29 = .ok (.getfield 20, 3) := by decide +kernel
theorem dX8_keepOrThrow_32 : decode cX8_keepOrThrow 32 = .ok (.invokevirtual 42, 3) := by decide +kernel
theorem dX8_keepOrThrow_35 : decode cX8_keepOrThrow 35 = .ok (.if_icmp .ge 21, 3) := by decide +kernel
theorem dX8_keepOrThrow_38 : decode cX8_keepOrThrow 38 = .ok (.aload_n 0, 1) := by decide +kernel
theorem dX8_keepOrThrow_39 : decode cX8_keepOrThrow 39 = .ok (.getfield 20, 3) := by decide +kernel
theorem dX8_keepOrThrow_42 : decode cX8_keepOrThrow 42 = .ok (.iload_n 3, 1) := by decide +kernel
theorem dX8_keepOrThrow_43 : decode cX8_keepOrThrow 43 = .ok (.invokevirtual 34, 3) := by decide +kernel
theorem dX8_keepOrThrow_46 : decode cX8_keepOrThrow 46 = .ok (.iload_n 2, 1) := by decide +kernel
theorem dX8_keepOrThrow_47 : decode cX8_keepOrThrow 47 = .ok (.if_icmp .ge 9, 3) := by decide +kernel
theorem dX8_keepOrThrow_50 : decode cX8_keepOrThrow 50 = .ok (.iinc 3 1, 3) := by decide +kernel
theorem dX8_keepOrThrow_53 : decode cX8_keepOrThrow 53 = .ok (.goto (-26), 3) := by decide +kernel
theorem dX8_keepOrThrow_56 : decode cX8_keepOrThrow 56 = .ok (.aload_n 0, 1) := by decide +kernel
theorem dX8_keepOrThrow_57 : decode cX8_keepOrThrow 57 = .ok (.getfield 14, 3) := by decide +kernel
theorem dX8_keepOrThrow_60 : decode cX8_keepOrThrow 60 = .ok (.iload_n 3, 1) := by decide +kernel
theorem dX8_keepOrThrow_61 : decode cX8_keepOrThrow 61 = .ok (.iload_n 1, 1) := by decide +kernel
theorem dX8_keepOrThrow_62 : decode cX8_keepOrThrow 62 = .ok (.invokevirtual 50, 3) := by decide +kernel
theorem dX8_keepOrThrow_65 : decode cX8_keepOrThrow 65 = .ok (.aload_n 0, 1) := by decide +kernel
theorem dX8_keepOrThrow_66 : decode cX8_keepOrThrow 66 = .ok (.getfield 20, 3) := by decide +kernel
theorem dX8_keepOrThrow_69 : decode cX8_keepOrThrow 69 = .ok (.iload_n 3, 1) := by decide +kernel
theorem dX8_keepOrThrow_70 : decode cX8_keepOrThrow 70 = .ok (.iload_n 2, 1) := by decide +kernel
theorem dX8_keepOrThrow_71 : decode cX8_keepOrThrow 71 = .ok (.invokevirtual 50, 3) := by decide +kernel
theorem dX8_keepOrThrow_74 : decode cX8_keepOrThrow 74 = .ok (.return_, 1) := by decide +kernel
theorem dX8_removeAt_0 : decode cX8_removeAt 0 = .ok (.aload_n 0, 1) := by decide +kernel
theorem dX8_removeAt_1 : decode cX8_removeAt 1 = .ok (.getfield 14, 3) := by decide +kernel
theorem dX8_removeAt_4 : decode cX8_removeAt 4 = .ok (.iload_n 1, 1) := by decide +kernel
theorem dX8_removeAt_5 : decode cX8_removeAt 5 = .ok (.invokevirtual 53, 3) := by decide +kernel
theorem dX8_removeAt_8 : decode cX8_removeAt 8 = .ok (.aload_n 0, 1) := by decide +kernel
theorem dX8_removeAt_9 : decode cX8_removeAt 9 = .ok (.getfield 20, 3) := by decide +kernel
theorem dX8_removeAt_12 : decode cX8_removeAt 12 = .ok (.iload_n 1, 1) := by decide +kernel
theorem dX8_removeAt_13 : decode cX8_removeAt 13 = .ok (.invokevirtual 53, 3) := by decide +kernel
theorem dX8_removeAt_16 : decode cX8_removeAt 16 = .ok (.return_, 1) := by decide +kernel
theorem dX8_throwAll_0 : decode cX8_throwAll 0 = .ok (.aload_n 0, 1) := by decide +kernel
theorem dX8_throwAll_1 : decode cX8_throwAll 1 = .ok (.iload_n 1, 1) := by decide +kernel
theorem dX8_throwAll_2 : decode cX8_throwAll 2 = .ok (.invokevirtual 56, 3) := by decide +kernel
theorem dX8_throwAll_5 : decode cX8_throwAll 5 = .ok (.istore_n 2, 1) := by decide +kernel
theorem dX8_throwAll_6 : decode cX8_throwAll 6 = .ok (.aload_n 0, 1) := by decide +kernel
theorem dX8_throwAll_7 : decode cX8_throwAll 7 = .ok (.getfield 20, 3) := by decide +kernel
theorem dX8_throwAll_10 : decode cX8_throwAll 10 = .ok (.invokevirtual 42, 3) := by decide +kernel
theorem dX8_throwAll_13 : decode cX8_throwAll 13 = .ok (.iconst 1, 1) := by decide +kernel
theorem dX8_throwAll_14 : decode cX8_throwAll 14 = .ok (.isub, 1) := by decide +kernel
theorem dX8_throwAll_15 : decode cX8_throwAll 15 = .ok (.istore_n 3, 1) := by decide +kernel
theorem dX8_throwAll_16 : decode cX8_throwAll 16 = .ok (.iload_n 3, 1) := by decide +kernel
theorem dX8_throwAll_17 : decode cX8_throwAll 17 = .ok (.ifCond .lt 26, 3) := by decide +kernel
theorem dX8_throwAll_20 : decode cX8_throwAll 20 = .ok (.aload_n 0, 1) := by decide +kernel
theorem dX8_throwAll_21 : decode cX8_throwAll 21 = .ok (.getfield 14, 3) := by decide +kernel
theorem dX8_throwAll_24 : decode cX8_throwAll 24 = .ok (.iload_n 3, 1) := by decide +kernel
theorem dX8_throwAll_25 : decode cX8_throwAll 25 = .ok (.invokevirtual 34, 3) := by decide +kernel
theorem dX8_throwAll_28 : decode cX8_throwAll 28 = .ok (.iload_n 1, 1) := by decide +kernel
theorem dX8_throwAll_29 : decode cX8_throwAll 29 = .ok (.if_icmp .ne 8, 3) := by decide +kernel
theorem dX8_throwAll_32 : decode cX8_throwAll 32 = .ok (.aload_n 0, 1) := by decide +kernel
theorem dX8_throwAll_33 : decode cX8_throwAll 33 = .ok (.iload_n 3, 1) := by decide +kernel
theorem dX8_throwAll_34 : decode cX8_throwAll 34 = .ok (.invokevirtual 59, 3) := by decide +kernel
theorem dX8_throwAll_37 : decode cX8_throwAll 37 = .ok (.iinc 3 (-1), 3) := by decide +kernel
theorem dX8_throwAll_40 : decode cX8_throwAll 40 = .ok (.goto (-24), 3) := by decide +kernel
theorem dX8_throwAll_43 : decode cX8_throwAll 43 = .ok (.aload_n 0, 1) := by decide +kernel
theorem dX8_throwAll_44 : decode cX8_throwAll 44 = .ok (.getfield 27, 3) := by decide +kernel
theorem dX8_throwAll_47 : decode cX8_throwAll 47 = .ok (.iload_n 1, 1) := by decide +kernel
theorem dX8_throwAll_48 : decode cX8_throwAll 48 = .ok (.invokestatic 38, 3) := by decide +kernel
theorem dX8_throwAll_51 : decode cX8_throwAll 51 = .ok (.iload_n 2, 1) := by decide +kernel
theorem dX8_throwAll_52 : decode cX8_throwAll 52 = .ok (.invokevirtual 46, 3) := by decide +kernel
theorem dX8_throwAll_55 : decode cX8_throwAll 55 = .ok (.iload_n 2, 1) := by decide +kernel
theorem dX8_throwAll_56 : decode cX8_throwAll 56 = .ok (.ireturn, 1) := by decide +kernel
theorem dX9_init_0 : decode cX9_init 0 = .ok (.aload_n 0, 1) := by decide +kernel
theorem dX9_init_1 : decode cX9_init 1 = .ok (.invokespecial 3, 3) := by decide +kernel
theorem dX9_init_4 : decode cX9_init 4 = .ok (.aload_n 0, 1) := by decide +kernel
theorem dX9_init_5 : decode cX9_init 5 = .ok (.new 9, 3) := by decide +kernel
theorem dX9_init_8 : decode cX9_init 8 = .ok (.dup, 1) := by decide +kernel
theorem dX9_init_9 : decode cX9_init 9 = .ok (.bipush 10, 2) := by decide +kernel
theorem dX9_init_11 : decode cX9_init 11 = .ok (.invokespecial 11, 3) := by decide +kernel
theorem dX9_init_14 : decode cX9_init 14 = .ok (.putfield 14, 3) := by decide +kernel
theorem dX9_init_17 : decode cX9_init 17 = .ok (.aload_n 0, 1) := by decide +kernel
theorem dX9_init_18 : decode cX9_init 18 = .ok (.new 9, 3) := by decide +kernel
theorem dX9_init_21 : decode cX9_init 21 = .ok (.dup, 1) := by decide +kernel
theorem dX9_init_22 : decode cX9_init 22 = .ok (.bipush 10, 2) := by decide +kernel
theorem dX9_init_24 : decode cX9_init 24 = .ok (.invokespecial 11, 3) := by decide +kernel
theorem dX9_init_27 : decode cX9_init 27 = .ok (.putfield 20, 3) := by decide +kernel
theorem dX9_init_30 : decode cX9_init 30 = .ok (.aload_n 0, 1) := by decide +kernel
theorem dX9_init_31 : decode cX9_init 31 = .ok (.new 9, 3) := by decide +kernel
theorem dX9_init_34 : decode cX9_init 34 = .ok (.dup, 1) := by decide +kernel
theorem dX9_init_35 : decode cX9_init 35 = .ok (.bipush 10, 2) := by decide +kernel
theorem dX9_init_37 : decode cX9_init 37 = .ok (.invokespecial 11, 3) := by decide +kernel
theorem dX9_init_40 : decode cX9_init 40 = .ok (.putfield 23, 3) := by decide +kernel
theorem dX9_init_43 : decode cX9_init 43 = .ok (.aload_n 0, 1) := by decide +kernel
theorem dX9_init_44 : decode cX9_init 44 = .ok (.new 9, 3) := by decide +kernel
theorem dX9_init_47 : decode cX9_init 47 = .ok (.dup, 1) := by decide +kernel
theorem dX9_init_48 : decode cX9_init 48 = .ok (.bipush 10, 2) := by decide +kernel
theorem dX9_init_50 : decode cX9_init 50 = .ok (.invokespecial 11, 3) := by decide +kernel
theorem dX9_init_53 : decode cX9_init 53 = .ok (.putfield 26, 3) := by decide +kernel
theorem dX9_init_56 : decode cX9_init 56 = .ok (.aload_n 0, 1) := by decide +kernel
theorem dX9_init_57 : decode cX9_init 57 = .ok (.iconst 0, 1) := by decide +kernel
theorem dX9_init_58 : decode cX9_init 58 = .ok (.putfield 29, 3) := by decide +kernel
theorem dX9_init_61 : decode cX9_init 61 = .ok (.return_, 1) := by decide +kernel
theorem dX9_copyFrom_0 : decode cX9_copyFrom 0 = .ok (.aload_n 0, 1) := by decide +kernel
theorem dX9_copyFrom_1 : decode cX9_copyFrom 1 = .ok (.getfield 14, 3) := by decide +kernel
theorem dX9_copyFrom_4 : decode cX9_copyFrom 4 = .ok (.aload_n 1, 1) := by decide +kernel
theorem dX9_copyFrom_5 : decode cX9_copyFrom 5 = .ok (.getfield 14, 3) := by decide +kernel
theorem dX9_copyFrom_8 : decode cX9_copyFrom 8 = .ok (.invokevirtual 33, 3) := by decide +kernel
theorem dX9_copyFrom_11 : decode cX9_copyFrom 11 = .ok (.aload_n 0, 1) := by decide +kernel
theorem dX9_copyFrom_12 : decode cX9_copyFrom 12 = .ok (.getfield 20, 3) := by decide +kernel
theorem dX9_copyFrom_15 : decode cX9_copyFrom 15 = .ok (.aload_n 1, 1) := by decide +kernel
theorem dX9_copyFrom_16 : decode cX9_copyFrom 16 = .ok (.getfield 20, 3) := by decide +kernel
theorem dX9_copyFrom_19 : decode cX9_copyFrom 19 = .ok (.invokevirtual 33, 3) := by decide +kernel
theorem dX9_copyFrom_22 : decode cX9_copyFrom 22 = .ok (.aload_n 0, 1) := by decide +kernel
theorem dX9_copyFrom_23 : decode cX9_copyFrom 23 = .ok (.getfield 23, 3) := by decide +kernel
theorem dX9_copyFrom_26 : decode cX9_copyFrom 26 = .ok (.aload_n 1, 1) := by decide +kernel
theorem dX9_copyFrom_27 : decode cX9_copyFrom 27 = .ok (.getfield 23, 3) := by decide +kernel
theorem dX9_copyFrom_30 : decode cX9_copyFrom 30 = .ok (.invokevirtual 33, 3) := by decide +kernel
theorem dX9_copyFrom_33 : decode cX9_copyFrom 33 = .ok (.aload_n 0, 1) := by decide +kernel
theorem dX9_copyFrom_34 : decode cX9_copyFrom 34 = .ok (.getfield 26, 3) := by decide +kernel
theorem dX9_copyFrom_37 : decode cX9_copyFrom 37 = .ok (.aload_n 1, 1) := by decide +kernel
theorem dX9_copyFrom_38 : decode cX9_copyFrom 38 = .ok (.getfield 26, 3) := by decide +kernel
theorem dX9_copyFrom_41 : decode cX9_copyFrom 41 = .ok (.invokevirtual 33, 3) := by decide +kernel
theorem dX9_copyFrom_44 : decode cX9_copyFrom 44 = .ok (.aload_n 0, 1) := by decide +kernel
theorem dX9_copyFrom_45 : decode cX9_copyFrom 45 = .ok (.aload_n 1, 1) := by decide +kernel
theorem dX9_copyFrom_46 : decode cX9_copyFrom 46 = .ok (.getfield 29, 3) := by decide +kernel
theorem dX9_copyFrom_49 : decode cX9_copyFrom 49 = .ok (.putfield 29, 3) := by decide +kernel
theorem dX9_copyFrom_52 : decode cX9_copyFrom 52 = .ok (.return_, 1) := by decide +kernel
theorem dX9_count_0 : decode cX9_count 0 = .ok (.aload_n 0, 1) := by decide +kernel
theorem dX9_count_1 : decode cX9_count 1 = .ok (.getfield 14, 3) := by decide +kernel
theorem dX9_count_4 : decode cX9_count 4 = .ok (.invokevirtual 37, 3) := by decide +kernel
theorem dX9_count_7 : decode cX9_count 7 = .ok (.ireturn, 1) := by decide +kernel
theorem dX9_indexOf_0 : decode cX9_indexOf 0 = .ok (.aload_n 0, 1) := by decide +kernel
theorem dX9_indexOf_1 : decode cX9_indexOf 1 = .ok (.getfield 14, 3) := by decide +kernel
theorem dX9_indexOf_4 : decode cX9_indexOf 4 = .ok (.iload_n 1, 1) := by decide +kernel
theorem dX9_indexOf_5 : decode cX9_indexOf 5 = .ok (.invokevirtual 41, 3) := by decide +kernel
theorem dX9_indexOf_8 : decode cX9_indexOf 8 = .ok (.ireturn, 1) := by decide +kernel
theorem dX9_numberAt_0 : decode cX9_numberAt 0 = .ok (.aload_n 0, 1) := by decide +kernel
theorem dX9_numberAt_1 : decode cX9_numberAt 1 = .ok (.getfield 14, 3) := by decide +kernel
theorem dX9_numberAt_4 : decode cX9_numberAt 4 = .ok (.iload_n 1, 1) := by decide +kernel
theorem dX9_numberAt_5 : decode cX9_numberAt 5 = .ok (.invokevirtual 45, 3) := by decide +kernel
theorem dX9_numberAt_8 : decode cX9_numberAt 8 = .ok (.ireturn, 1) := by decide +kernel
theorem dX9_materialAt_0 : decode cX9_materialAt 0 = .ok (.aload_n 0, 1) := by decide +kernel
theorem dX9_materialAt_1 : decode cX9_materialAt 1 = .ok (.getfield 20, 3) := by decide +kernel
theorem dX9_materialAt_4 : decode cX9_materialAt 4 = .ok (.iload_n 1, 1) := by decide +kernel
theorem dX9_materialAt_5 : decode cX9_materialAt 5 = .ok (.invokevirtual 45, 3) := by decide +kernel
theorem dX9_materialAt_8 : decode cX9_materialAt 8 = .ok (.i2c, 1) := by decide +kernel
theorem dX9_materialAt_9 : decode cX9_materialAt 9 = .ok (.ireturn, 1) := by decide +kernel
theorem dX9_lengthAt_0 : decode cX9_lengthAt 0 = .ok (.aload_n 0, 1) := by decide +kernel
theorem dX9_lengthAt_1 : decode cX9_lengthAt 1 = .ok (.getfield 23, 3) := by decide +kernel
theorem dX9_lengthAt_4 : decode cX9_lengthAt 4 = .ok (.iload_n 1, 1) := by decide +kernel
theorem dX9_lengthAt_5 : decode cX9_lengthAt 5 = .ok (.invokevirtual 45, 3) := by decide +kernel
theorem dX9_lengthAt_8 : decode cX9_lengthAt 8 = .ok (.ireturn, 1) := by decide +kernel
theorem dX9_cutCountAt_0 : decode cX9_cutCountAt 0 = .ok (.aload_n 0, 1) := by decide +kernel
theorem dX9_cutCountAt_1 : decode cX9_cutCountAt 1 = .ok (.getfield 26, 3) := by decide +kernel
theorem dX9_cutCountAt_4 : decode cX9_cutCountAt 4 = .ok (.iload_n 1, 1) := by decide +kernel
theorem dX9_cutCountAt_5 : decode cX9_cutCountAt 5 = .ok (.invokevirtual 45, 3) := by decide +kernel
theorem dX9_cutCountAt_8 : decode cX9_cutCountAt 8 = .ok (.ireturn, 1) := by decide +kernel
theorem dX9_sumOfLengths_0 : decode cX9_sumOfLengths 0 = .ok (.aload_n 0, 1) := by decide +kernel
theorem dX9_sumOfLengths_1 : decode cX9_sumOfLengths 1 = .ok (.getfield 23, 3) := by decide +kernel
theorem dX9_sumOfLengths_4 : decode cX9_sumOfLengths 4 = .ok (.invokevirtual 48, 3) := by decide +kernel
theorem dX9_sumOfLengths_7 : decode cX9_sumOfLengths 7 = .ok (.ireturn, 1) := by decide +kernel
theorem dX9_sumOf_0 : decode cX9_sumOf 0 = .ok (.iconst 0, 1) := by decide +kernel
theorem dX9_sumOf_1 : decode cX9_sumOf 1 = .ok (.istore_n 2, 1) := by decide +kernel
theorem dX9_sumOf_2 : decode cX9_sumOf 2 = .ok (.iconst 0, 1) := by decide +kernel
theorem dX9_sumOf_3 : decode cX9_sumOf 3 = .ok (.istore_n 3, 1) := by decide +kernel
theorem dX9_sumOf_4 : decode cX9_sumOf 4 = .ok (.iload_n 3, 1) := by decide +kernel
theorem dX9_sumOf_5 : decode cX9_sumOf 5 = .ok (.aload_n 0, 1) := by decide +kernel
theorem dX9_sumOf_6 : decode cX9_sumOf 6 = .ok (.invokevirtual 51, 3) := by decide +kernel
theorem dX9_sumOf_9 : decode cX9_sumOf 9 = .ok (.if_icmp .ge 32, 3) := by decide +kernel
theorem dX9_sumOf_12 : decode cX9_sumOf 12 = .ok (.aload_n 0, 1) := by decide +kernel
theorem dX9_sumOf_13 : decode cX9_sumOf 13 = .ok (.getfield 20, 3) := by decide +kernel
theorem dX9_sumOf_16 : decode cX9_sumOf 16 = .ok (.iload_n 3, 1) := by decide +kernel
theorem dX9_sumOf_17 : decode cX9_sumOf 17 = .ok (.invokevirtual 45, 3) := by decide +kernel
theorem dX9_sumOf_20 : decode cX9_sumOf 20 = .ok (.iload_n 1, 1) := by decide +kernel
theorem dX9_sumOf_21 : decode cX9_sumOf 21 = .ok (.if_icmp .ne 14, 3) := by decide +kernel
theorem dX9_sumOf_24 : decode cX9_sumOf 24 = .ok (.iload_n 2, 1) := by decide +kernel
theorem dX9_sumOf_25 : decode cX9_sumOf 25 = .ok (.aload_n 0, 1) := by decide +kernel
theorem dX9_sumOf_26 : decode cX9_sumOf 26 = .ok (.getfield 23, 3) := by decide +kernel
theorem dX9_sumOf_29 : decode cX9_sumOf 29 = .ok (.iload_n 3, 1) := by decide +kernel
theorem dX9_sumOf_30 : decode cX9_sumOf 30 = .ok (.invokevirtual 45, 3) := by decide +kernel
theorem dX9_sumOf_33 : decode cX9_sumOf 33 = .ok (.iadd, 1) := by decide +kernel
theorem dX9_sumOf_34 : decode cX9_sumOf 34 = .ok (.istore_n 2, 1) := by decide +kernel
theorem dX9_sumOf_35 : decode cX9_sumOf 35 = .ok (.iinc 3 1, 3) := by decide +kernel
theorem dX9_sumOf_38 : decode cX9_sumOf 38 = .ok (.goto (-34), 3) := by decide +kernel
theorem dX9_sumOf_41 : decode cX9_sumOf 41 = .ok (.iload_n 2, 1) := by decide +kernel
theorem dX9_sumOf_42 : decode cX9_sumOf 42 = .ok (.ireturn, 1) := by decide +kernel
theorem dX9_add_0 : decode cX9_add 0 = .ok (.aload_n 0, 1) := by decide +kernel
theorem dX9_add_1 : decode cX9_add 1 = .ok (.getfield 29, 3) := by decide +kernel
theorem dX9_add_4 : decode cX9_add 4 = .ok (.istore_n 3, 1) := by decide +kernel
theorem dX9_add_5 : decode cX9_add 5 = .ok (.aload_n 0, 1) := by decide +kernel
theorem dX9_add_6 : decode cX9_add 6 = .ok (.getfield 14, 3) := by decide +kernel
theorem dX9_add_9 : decode cX9_add 9 = .ok (.iload_n 3, 1) := by decide +kernel
theorem dX9_add_10 : decode cX9_add 10 = .ok (.invokevirtual 54, 3) := by decide +kernel
theorem dX9_add_13 : decode cX9_add 13 = .ok (.aload_n 0, 1) := by decide +kernel
theorem dX9_add_14 : decode cX9_add 14 = .ok (.getfield 20, 3) := by decide +kernel
theorem dX9_add_17 : decode cX9_add 17 = .ok (.iload_n 1, 1) := by decide +kernel
theorem dX9_add_18 : decode cX9_add 18 = .ok (.invokevirtual 54, 3) := by decide +kernel
theorem dX9_add_21 : decode cX9_add 21 = .ok (.aload_n 0, 1) := by decide +kernel
theorem dX9_add_22 : decode cX9_add 22 = .ok (.getfield 23, 3) := by decide +kernel
theorem dX9_add_25 : decode cX9_add 25 = .ok (.iload_n 2, 1) := by decide +kernel
theorem dX9_add_26 : decode cX9_add 26 = .ok (.invokevirtual 54, 3) := by decide +kernel
theorem dX9_add_29 : decode cX9_add 29 = .ok (.aload_n 0, 1) := by decide +kernel
theorem dX9_add_30 : decode cX9_add 30 = .ok (.getfield 26, 3) := by decide +kernel
theorem dX9_add_33 : decode cX9_add 33 = .ok (.iconst 0, 1) := by decide +kernel
theorem dX9_add_34 : decode cX9_add 34 = .ok (.invokevirtual 54, 3) := by decide +kernel
theorem dX9_add_37 : decode cX9_add 37 = .ok (.aload_n 0, 1) := by decide +kernel
theorem dX9_add_38 : decode cX9_add 38 = .ok (.dup, 1) := by decide +kernel
theorem dX9_add_39 : decode cX9_add 39 = .ok (.getfield 29, 3) := by decide +kernel
theorem dX9_add_42 : decode cX9_add 42 = .ok (.iconst 1, 1) := by decide +kernel
theorem dX9_add_43 : decode cX9_add 43 = .ok (.iadd, 1) := by decide +kernel
theorem dX9_add_44 : decode cX9_add 44 = .ok (.putfield 29, 3) := by decide +kernel
theorem dX9_add_47 : decode cX9_add 47 = .ok (.iload_n 3, 1) := by decide +kernel
theorem dX9_add_48 : decode cX9_add 48 = .ok (.ireturn, 1) := by decide +kernel
theorem dX9_shorten_0 : decode cX9_shorten 0 = .ok (.aload_n 0, 1) := by decide +kernel
theorem dX9_shorten_1 : decode cX9_shorten 1 = .ok (.getfield 23, 3) := by decide +kernel
theorem dX9_shorten_4 : decode cX9_shorten 4 = .ok (.iload_n 1, 1) := by decide +kernel
theorem dX9_shorten_5 : decode cX9_shorten 5 = .ok (.iload_n 2, 1) := by decide +kernel
theorem dX9_shorten_6 : decode cX9_shorten 6 = .ok (.invokevirtual 57, 3) := by decide +kernel
theorem dX9_shorten_9 : decode cX9_shorten 9 = .ok (.aload_n 0, 1) := by decide +kernel
theorem dX9_shorten_10 : decode cX9_shorten 10 = .ok (.getfield 26, 3) := by decide +kernel
theorem dX9_shorten_13 : decode cX9_shorten 13 = .ok (.iload_n 1, 1) := by decide +kernel
theorem dX9_shorten_14 : decode cX9_shorten 14 = .ok (.iconst 1, 1) := by decide +kernel
theorem dX9_shorten_15 : decode cX9_shorten 15 = .ok (.invokevirtual 61, 3) := by decide +kernel
theorem dX9_shorten_18 : decode cX9_shorten 18 = .ok (.return_, 1) := by decide +kernel
theorem dX9_removeAt_0 : decode cX9_removeAt 0 = .ok (.aload_n 0, 1) := by decide +kernel
theorem dX9_removeAt_1 : decode cX9_removeAt 1 = .ok (.getfield 14, 3) := by decide +kernel
theorem dX9_removeAt_4 : decode cX9_removeAt 4 = .ok (.iload_n 1, 1) := by decide +kernel
theorem dX9_removeAt_5 : decode cX9_removeAt 5 = .ok (.invokevirtual 64, 3) := by decide +kernel
theorem dX9_removeAt_8 : decode cX9_removeAt 8 = .ok (.aload_n 0, 1) := by decide +kernel
theorem dX9_removeAt_9 : decode cX9_removeAt 9 = .ok (.getfield 20, 3) := by decide +kernel
theorem dX9_removeAt_12 : decode cX9_removeAt 12 = .ok (.iload_n 1, 1) := by decide +kernel
theorem dX9_removeAt_13 : decode cX9_removeAt 13 = .ok (.invokevirtual 64, 3) := by decide +kernel
theorem dX9_removeAt_16 : decode cX9_removeAt 16 = .ok (.aload_n 0, 1) := by decide +kernel
theorem dX9_removeAt_17 : decode cX9_removeAt 17 = .ok (.getfield 23, 3) := by decide +kernel
theorem dX9_removeAt_20 : decode cX9_removeAt 20 = .ok (.iload_n 1, 1) := by decide +kernel
theorem dX9_removeAt_21 : decode cX9_removeAt 21 = .ok (.invokevirtual 64, 3) := by decide +kernel
theorem dX9_removeAt_24 : decode cX9_removeAt 24 = .ok (.aload_n 0, 1) := by decide +kernel
theorem dX9_removeAt_25 : decode cX9_removeAt 25 = .ok (.getfield 26, 3) := by decide +kernel
theorem dX9_removeAt_28 : decode cX9_removeAt 28 = .ok (.iload_n 1, 1) := by decide +kernel
theorem dX9_removeAt_29 : decode cX9_removeAt 29 = .ok (.invokevirtual 64, 3) := by decide +kernel
theorem dX9_removeAt_32 : decode cX9_removeAt 32 = .ok (.return_, 1) := by decide +kernel
theorem dX9_choose_0 : decode cX9_choose 0 = .ok (.iconst (-1), 1) := by decide +kernel
theorem dX9_choose_1 : decode cX9_choose 1 = .ok (.istore 4, 2) := by decide +kernel
theorem dX9_choose_3 : decode cX9_choose 3 = .ok (.iconst 0, 1) := by decide +kernel
theorem dX9_choose_4 : decode cX9_choose 4 = .ok (.istore 5, 2) := by decide +kernel
theorem dX9_choose_6 : decode cX9_choose 6 = .ok (.iload 5, 2) := by decide +kernel
theorem dX9_choose_8 : decode cX9_choose 8 = .ok (.aload_n 0, 1) := by decide +kernel
theorem dX9_choose_9 : decode cX9_choose 9 = .ok (.getfield 23, 3) := by decide +kernel
theorem dX9_choose_12 : decode cX9_choose 12 = .ok (.invokevirtual 37, 3) := by decide +kernel
theorem dX9_choose_15 : decode cX9_choose 15 = .ok (.if_icmp .ge 82, 3) := by decide +kernel
theorem dX9_choose_18 : decode cX9_choose 18 = .ok (.aload_n 0, 1) := by decide +kernel
theorem dX9_choose_19 : decode cX9_choose 19 = .ok (.getfield 20, 3) := by decide +kernel
theorem dX9_choose_22 : decode cX9_choose 22 = .ok (.iload 5, 2) := by decide +kernel
theorem dX9_choose_24 : decode cX9_choose 24 = .ok (.invokevirtual 45, 3) := by decide +kernel
theorem dX9_choose_27 : decode cX9_choose 27 = .ok (.iload_n 1, 1) := by decide +kernel
theorem dX9_choose_28 : decode cX9_choose 28 = .ok (.if_icmp .ne 20, 3) := by decide +kernel
theorem dX9_choose_31 : decode cX9_choose 31 = .ok (.aload_n 0, 1) := by decide +kernel
theorem dX9_choose_32 : decode cX9_choose 32 = .ok (.getfield 23, 3) := by decide +kernel
theorem dX9_choose_35 : decode cX9_choose 35 = .ok (.iload 5, 2) := by decide +kernel
theorem dX9_choose_37 : decode cX9_choose 37 = .ok (.invokevirtual 45, 3) := by decide +kernel
theorem dX9_choose_40 : decode cX9_choose 40 = .ok (.iload_n 2, 1) := by decide +kernel
theorem dX9_choose_41 : decode cX9_choose 41 = .ok (.if_icmp .lt 7, 3) := by decide +kernel
theorem dX9_choose_44 : decode cX9_choose 44 = .ok (.iconst 1, 1) := by decide +kernel
theorem dX9_choose_45 : decode cX9_choose 45 = .ok (.goto 4, 3) := by decide +kernel
theorem dX9_choose_48 : decode cX9_choose 48 = .ok (.iconst 0, 1) := by decide +kernel
theorem dX9_choose_49 : decode cX9_choose 49 = .ok (.istore 6, 2) := by decide +kernel
theorem dX9_choose_51 : decode cX9_choose 51 = .ok (.iload 6, 2) := by decide +kernel
theorem dX9_choose_53 : decode cX9_choose 53 = .ok (.ifCond .eq 38, 3) := by decide +kernel
theorem dX9_choose_56 : decode cX9_choose 56 = .ok (.iload 4, 2) := by decide +kernel
theorem dX9_choose_58 : decode cX9_choose 58 = .ok (.iconst (-1), 1) := by decide +kernel
theorem dX9_choose_59 : decode cX9_choose 59 = .ok (.if_icmp .eq 28, 3) := by decide +kernel
theorem dX9_choose_62 : decode cX9_choose 62 = .ok (.aload_n 0, 1) := by decide +kernel
theorem dX9_choose_63 : decode cX9_choose 63 = .ok (.getfield 23, 3) := by decide +kernel
theorem dX9_choose_66 : decode cX9_choose 66 = .ok (.iload 5, 2) := by decide +kernel
theorem dX9_choose_68 : decode cX9_choose 68 = .ok (.invokevirtual 45, 3) := by decide +kernel
theorem dX9_choose_71 : decode cX9_choose 71 = .ok (.aload_n 0, 1) := by decide +kernel
theorem dX9_choose_72 : decode cX9_choose 72 = .ok (.getfield 23, 3) := by decide +kernel
theorem dX9_choose_75 : decode cX9_choose 75 = .ok (.iload 4, 2) := by decide +kernel
theorem dX9_choose_77 : decode cX9_choose 77 = .ok (.invokevirtual 45, 3) := by decide +kernel
theorem dX9_choose_80 : decode cX9_choose 80 = .ok (.iload_n 3, 1) := by decide +kernel
theorem dX9_choose_81 : decode cX9_choose 81 = .ok (.invokestatic 67, 3) := by decide +kernel
theorem dX9_choose_84 : decode cX9_choose 84 = .ok (.ifCond .eq 7, 3) := by decide +kernel
theorem dX9_choose_87 : decode cX9_choose 87 = .ok (.iload 5, 2) := by decide +kernel
theorem dX9_choose_89 : decode cX9_choose 89 = .ok (.istore 4, 2) := by decide +kernel
theorem dX9_choose_91 : decode cX9_choose 91 = .ok (.iinc 5 1, 3) := by decide +kernel
theorem dX9_choose_94 : decode cX9_choose 94 = .ok (.goto (-88), 3) := by decide +kernel
theorem dX9_choose_97 : decode cX9_choose 97 = .ok (.iload 4, 2) := by decide +kernel
theorem dX9_choose_99 : decode cX9_choose 99 = .ok (.ireturn, 1) := by decide +kernel
theorem dX9_isPreferred_0 : decode cX9_isPreferred 0 = .ok (.iload_n 2, 1) := by decide +kernel
theorem dX9_isPreferred_1 : decode cX9_isPreferred 1 = .ok (.bipush 98, 2) := by decide +kernel
theorem dX9_isPreferred_3 : decode cX9_isPreferred 3 = .ok (.if_icmp .ne 14, 3) := by decide +kernel
theorem dX9_isPreferred_6 : decode cX9_isPreferred 6 = .ok (.iload_n 0, 1) := by decide +kernel
theorem dX9_isPreferred_7 : decode cX9_isPreferred 7 = .ok (.iload_n 1, 1) := by decide +kernel
theorem dX9_isPreferred_8 : decode cX9_isPreferred 8 = .ok (.if_icmp .ge 7, 3) := by decide +kernel
theorem dX9_isPreferred_11 : decode cX9_isPreferred 11 = .ok (.iconst 1, 1) := by decide +kernel
theorem dX9_isPreferred_12 : decode cX9_isPreferred 12 = .ok (.goto 4, 3) := by decide +kernel
theorem dX9_isPreferred_15 : decode cX9_isPreferred 15 = .ok (.iconst 0, 1) := by decide +kernel
theorem dX9_isPreferred_16 : decode cX9_isPreferred 16 = .ok (.ireturn, 1) := by decide +kernel
theorem dX9_isPreferred_17 : decode cX9_isPreferred 17 = .ok (.iload_n 2, 1) := by decide +kernel
theorem dX9_isPreferred_18 : decode cX9_isPreferred 18 = .ok (.bipush 119, 2) := by decide +kernel
theorem dX9_isPreferred_20 : decode cX9_isPreferred 20 = .ok (.if_icmp .ne 12, 3) := by decide +kernel
theorem dX9_isPreferred_23 : decode cX9_isPreferred 23 = .ok (.iload_n 0, 1) := by decide +kernel
theorem dX9_isPreferred_24 : decode cX9_isPreferred 24 = .ok (.iload_n 1, 1) := by decide +kernel
theorem dX9_isPreferred_25 : decode cX9_isPreferred 25 = .ok (.if_icmp .le 7, 3) := by decide +kernel
theorem dX9_isPreferred_28 : decode cX9_isPreferred 28 = .ok (.iconst 1, 1) := by decide +kernel
theorem dX9_isPreferred_29 : decode cX9_isPreferred 29 = .ok (.goto 4, 3) := by decide +kernel
theorem dX9_isPreferred_32 : decode cX9_isPreferred 32 = .ok (.iconst 0, 1) := by decide +kernel
theorem dX9_isPreferred_33 : decode cX9_isPreferred 33 = .ok (.ireturn, 1) := by decide +kernel
theorem dX9_indexOfRank_0 : decode cX9_indexOfRank 0 = .ok (.iconst 0, 1) := by decide +kernel
theorem dX9_indexOfRank_1 : decode cX9_indexOfRank 1 = .ok (.istore_n 2, 1) := by decide +kernel
theorem dX9_indexOfRank_2 : decode cX9_indexOfRank 2 = .ok (.iload_n 2, 1) := by decide +kernel
theorem dX9_indexOfRank_3 : decode cX9_indexOfRank 3 = .ok (.aload_n 0, 1) := by decide +kernel
theorem dX9_indexOfRank_4 : decode cX9_indexOfRank 4 = .ok (.invokevirtual 51, 3) := by decide +kernel
theorem dX9_indexOfRank_7 : decode cX9_indexOfRank 7 = .ok (.if_icmp .ge 20, 3) := by decide +kernel
theorem dX9_indexOfRank_10 : decode cX9_indexOfRank 10 = .ok (.aload_n 0, 1) := by decide +kernel
theorem dX9_indexOfRank_11 : decode cX9_indexOfRank 11 = .ok (.iload_n 2, 1) := by decide +kernel
theorem dX9_indexOfRank_12 : decode cX9_indexOfRank 12 = .ok (.invokevirtual 71, 3) := by decide +kernel
theorem dX9_indexOfRank_15 : decode cX9_indexOfRank 15 = .ok (.iload_n 1, 1) := by decide +kernel
theorem dX9_indexOfRank_16 : decode cX9_indexOfRank 16 = .ok (.if_icmp .ne 5, 3) := by decide +kernel
theorem dX9_indexOfRank_19 : decode cX9_indexOfRank 19 = .ok (.iload_n 2, 1) := by decide +kernel
theorem dX9_indexOfRank_20 : decode cX9_indexOfRank 20 = .ok (.ireturn, 1) := by decide +kernel
theorem dX9_indexOfRank_21 : decode cX9_indexOfRank 21 = .ok (.iinc 2 1, 3) := by decide +kernel
theorem dX9_indexOfRank_24 : decode cX9_indexOfRank 24 = .ok (.goto (-22), 3) := by decide +kernel
theorem dX9_indexOfRank_27 : decode cX9_indexOfRank 27 = .ok (.iconst (-1), 1) := by decide +kernel
theorem dX9_indexOfRank_28 : decode cX9_indexOfRank 28 = .ok (.ireturn, 1) := by decide +kernel
theorem dX9_rankOf_0 : decode cX9_rankOf 0 = .ok (.iconst 0, 1) := by decide +kernel
theorem dX9_rankOf_1 : decode cX9_rankOf 1 = .ok (.istore_n 2, 1) := by decide +kernel
theorem dX9_rankOf_2 : decode cX9_rankOf 2 = .ok (.iconst 0, 1) := by decide +kernel
theorem dX9_rankOf_3 : decode cX9_rankOf 3 = .ok (.istore_n 3, 1) := by decide +kernel
theorem dX9_rankOf_4 : decode cX9_rankOf 4 = .ok (.iload_n 3, 1) := by decide +kernel
theorem dX9_rankOf_5 : decode cX9_rankOf 5 = .ok (.aload_n 0, 1) := by decide +kernel
theorem dX9_rankOf_6 : decode cX9_rankOf 6 = .ok (.invokevirtual 51, 3) := by decide +kernel
theorem dX9_rankOf_9 : decode cX9_rankOf 9 = .ok (.if_icmp .ge 21, 3) := by decide +kernel
theorem dX9_rankOf_12 : decode cX9_rankOf 12 = .ok (.aload_n 0, 1) := by decide +kernel
theorem dX9_rankOf_13 : decode cX9_rankOf 13 = .ok (.iload_n 3, 1) := by decide +kernel
theorem dX9_rankOf_14 : decode cX9_rankOf 14 = .ok (.iload_n 1, 1) := by decide +kernel
theorem dX9_rankOf_15 : decode cX9_rankOf 15 = .ok (.invokevirtual 74, 3) := by decide +kernel
theorem dX9_rankOf_18 : decode cX9_rankOf 18 = .ok (.ifCond .eq 6, 3) := by decide +kernel
theorem dX9_rankOf_21 : decode cX9_rankOf 21 = .ok (.iinc 2 1, 3) := by decide +kernel
theorem dX9_rankOf_24 : decode cX9_rankOf 24 = .ok (.iinc 3 1, 3) := by decide +kernel
theorem dX9_rankOf_27 : decode cX9_rankOf 27 = .ok (.goto (-23), 3) := by decide +kernel
theorem dX9_rankOf_30 : decode cX9_rankOf 30 = .ok (.iload_n 2, 1) := by decide +kernel
theorem dX9_rankOf_31 : decode cX9_rankOf 31 = .ok (.ireturn, 1) := by decide +kernel
theorem dX9_isBefore_0 : decode cX9_isBefore 0 = .ok (.aload_n 0, 1) := by decide +kernel
theorem dX9_isBefore_1 : decode cX9_isBefore 1 = .ok (.getfield 23, 3) := by decide +kernel
theorem dX9_isBefore_4 : decode cX9_isBefore 4 = .ok (.iload_n 1, 1) := by decide +kernel
theorem dX9_isBefore_5 : decode cX9_isBefore 5 = .ok (.invokevirtual 45, 3) := by decide +kernel
theorem dX9_isBefore_8 : decode cX9_isBefore 8 = .ok (.aload_n 0, 1) := by decide +kernel
theorem dX9_isBefore_9 : decode cX9_isBefore 9 = .ok (.getfield 23, 3) := by decide +kernel
theorem dX9_isBefore_12 : decode cX9_isBefore 12 = .ok (.iload_n 2, 1) := by decide +kernel
theorem dX9_isBefore_13 : decode cX9_isBefore 13 = .ok (.invokevirtual 45, 3) := by decide +kernel
theorem dX9_isBefore_16 : decode cX9_isBefore 16 = .ok (.if_icmp .eq 28, 3) := by decide +kernel
theorem dX9_isBefore_19 : decode cX9_isBefore 19 = .ok (.aload_n 0, 1) := by decide +kernel
theorem dX9_isBefore_20 : decode cX9_isBefore 20 = .ok (.getfield 23, 3) := by decide +kernel
theorem dX9_isBefore_23 : decode cX9_isBefore 23 = .ok (.iload_n 1, 1) := by decide +kernel
theorem dX9_isBefore_24 : decode cX9_isBefore 24 = .ok (.invokevirtual 45, 3) := by decide +kernel
theorem dX9_isBefore_27 : decode cX9_isBefore 27 = .ok (.aload_n 0, 1) := by decide +kernel
theorem dX9_isBefore_28 : decode cX9_isBefore 28 = .ok (.getfield 23, 3) := by decide +kernel
theorem dX9_isBefore_31 : decode cX9_isBefore 31 = .ok (.iload_n 2, 1) := by decide +kernel
theorem dX9_isBefore_32 : decode cX9_isBefore 32 = .ok (.invokevirtual 45, 3) := by decide +kernel
theorem dX9_isBefore_35 : decode cX9_isBefore 35 = .ok (.if_icmp .le 7, 3) := by decide +kernel
theorem dX9_isBefore_38 : decode cX9_isBefore 38 = .ok (.iconst 1, 1) := by decide +kernel
theorem dX9_isBefore_39 : decode cX9_isBefore 39 = .ok (.goto 4, 3) := by decide +kernel
theorem dX9_isBefore_42 : decode cX9_isBefore 42 = .ok (.iconst 0, 1) := by decide +kernel
theorem dX9_isBefore_43 : decode cX9_isBefore 43 = .ok (.ireturn, 1) := by decide +kernel
theorem dX9_isBefore_44 : decode cX9_isBefore 44 = .ok (.aload_n 0, 1) := by decide +kernel
theorem dX9_isBefore_45 : decode cX9_isBefore 45 = .ok (.getfield 20, 3) := by decide +kernel
theorem dX9_isBefore_48 : decode cX9_isBefore 48 = .ok (.iload_n 1, 1) := by decide +kernel
theorem dX9_isBefore_49 : decode cX9_isBefore 49 = .ok (.invokevirtual 45, 3) := by decide +kernel
theorem dX9_isBefore_52 : decode cX9_isBefore 52 = .ok (.aload_n 0, 1) := by decide +kernel
theorem dX9_isBefore_53 : decode cX9_isBefore 53 = .ok (.getfield 20, 3) := by decide +kernel
theorem dX9_isBefore_56 : decode cX9_isBefore 56 = .ok (.iload_n 2, 1) := by decide +kernel
theorem dX9_isBefore_57 : decode cX9_isBefore 57 = .ok (.invokevirtual 45, 3) := by decide +kernel
theorem dX9_isBefore_60 : decode cX9_isBefore 60 = .ok (.if_icmp .eq 28, 3) := by decide +kernel
theorem dX9_isBefore_63 : decode cX9_isBefore 63 = .ok (.aload_n 0, 1) := by decide +kernel
theorem dX9_isBefore_64 : decode cX9_isBefore 64 = .ok (.getfield 20, 3) := by decide +kernel
theorem dX9_isBefore_67 : decode cX9_isBefore 67 = .ok (.iload_n 1, 1) := by decide +kernel
theorem dX9_isBefore_68 : decode cX9_isBefore 68 = .ok (.invokevirtual 45, 3) := by decide +kernel
theorem dX9_isBefore_71 : decode cX9_isBefore 71 = .ok (.aload_n 0, 1) := by decide +kernel
theorem dX9_isBefore_72 : decode cX9_isBefore 72 = .ok (.getfield 20, 3) := by decide +kernel
theorem dX9_isBefore_75 : decode cX9_isBefore 75 = .ok (.iload_n 2, 1) := by decide +kernel
theorem dX9_isBefore_76 : decode cX9_isBefore 76 = .ok (.invokevirtual 45, 3) := by decide +kernel
theorem dX9_isBefore_79 : decode cX9_isBefore 79 = .ok (.if_icmp .ge 7, 3) := by decide +kernel
theorem dX9_isBefore_82 : decode cX9_isBefore 82 = .ok (.iconst 1, 1) := by decide +kernel
theorem dX9_isBefore_83 : decode cX9_isBefore 83 = .ok (.goto 4, 3) := by decide +kernel
theorem dX9_isBefore_86 : decode cX9_isBefore 86 = .ok (.iconst 0, 1) := by decide +kernel
theorem dX9_isBefore_87 : decode cX9_isBefore 87 = .ok (.ireturn, 1) := by decide +kernel
theorem dX9_isBefore_88 : decode cX9_isBefore 88 = .ok (.aload_n 0, 1) := by decide +kernel
theorem dX9_isBefore_89 : decode cX9_isBefore 89 = .ok (.getfield 14, 3) := by decide +kernel
theorem dX9_isBefore_92 : decode cX9_isBefore 92 = .ok (.iload_n 1, 1) := by decide +kernel
theorem dX9_isBefore_93 : decode cX9_isBefore 93 = .ok (.invokevirtual 45, 3) := by decide +kernel
theorem dX9_isBefore_96 : decode cX9_isBefore 96 = .ok (.aload_n 0, 1) := by decide +kernel
theorem dX9_isBefore_97 : decode cX9_isBefore 97 = .ok (.getfield 14, 3) := by decide +kernel
theorem dX9_isBefore_100 : decode cX9_isBefore 100 = .ok (.iload_n 2, 1) := by decide +kernel
theorem dX9_isBefore_101 : decode cX9_isBefore 101 = .ok (.invokevirtual 45, 3) := by decide +kernel
theorem dX9_isBefore_104 : decode cX9_isBefore 104 = .ok (.if_icmp .ge 7, 3) := by decide +kernel
theorem dX9_isBefore_107 : decode cX9_isBefore 107 = .ok (.iconst 1, 1) := by decide +kernel
theorem dX9_isBefore_108 : decode cX9_isBefore 108 = .ok (.goto 4, 3) := by decide +kernel
theorem dX9_isBefore_111 : decode cX9_isBefore 111 = .ok (.iconst 0, 1) := by decide +kernel
theorem dX9_isBefore_112 : decode cX9_isBefore 112 = .ok (.ireturn, 1) := by decide +kernel
theorem dX11_init_0 : decode cX11_init 0 = .ok (.aload_n 0, 1) := by decide +kernel
theorem dX11_init_1 : decode cX11_init 1 = .ok (.invokespecial 3, 3) := by decide +kernel
theorem dX11_init_4 : decode cX11_init 4 = .ok (.aload_n 0, 1) := by decide +kernel
theorem dX11_init_5 : decode cX11_init 5 = .ok (.new 9, 3) := by decide +kernel
theorem dX11_init_8 : decode cX11_init 8 = .ok (.dup, 1) := by decide +kernel
theorem dX11_init_9 : decode cX11_init 9 = .ok (.invokespecial 11, 3) := by decide +kernel
theorem dX11_init_12 : decode cX11_init 12 = .ok (.putfield 12, 3) := by decide +kernel
theorem dX11_init_15 : decode cX11_init 15 = .ok (.aload_n 0, 1) := by decide +kernel
theorem dX11_init_16 : decode cX11_init 16 = .ok (.new 18, 3) := by decide +kernel
theorem dX11_init_19 : decode cX11_init 19 = .ok (.dup, 1) := by decide +kernel
theorem dX11_init_20 : decode cX11_init 20 = .ok (.invokespecial 20, 3) := by decide +kernel
theorem dX11_init_23 : decode cX11_init 23 = .ok (.putfield 21, 3) := by decide +kernel
theorem dX11_init_26 : decode cX11_init 26 = .ok (.aload_n 0, 1) := by decide +kernel
theorem dX11_init_27 : decode cX11_init 27 = .ok (.new 25, 3) := by decide +kernel
theorem dX11_init_30 : decode cX11_init 30 = .ok (.dup, 1) := by decide +kernel
theorem dX11_init_31 : decode cX11_init 31 = .ok (.invokespecial 27, 3) := by decide +kernel
theorem dX11_init_34 : decode cX11_init 34 = .ok (.putfield 28, 3) := by decide +kernel
theorem dX11_init_37 : decode cX11_init 37 = .ok (.aload_n 0, 1) := by decide +kernel
theorem dX11_init_38 : decode cX11_init 38 = .ok (.new 32, 3) := by decide +kernel
theorem dX11_init_41 : decode cX11_init 41 = .ok (.dup, 1) := by decide +kernel
theorem dX11_init_42 : decode cX11_init 42 = .ok (.invokespecial 34, 3) := by decide +kernel
theorem dX11_init_45 : decode cX11_init 45 = .ok (.putfield 35, 3) := by decide +kernel
theorem dX11_init_48 : decode cX11_init 48 = .ok (.aload_n 0, 1) := by decide +kernel
theorem dX11_init_49 : decode cX11_init 49 = .ok (.iconst 1, 1) := by decide +kernel
theorem dX11_init_50 : decode cX11_init 50 = .ok (.putfield 39, 3) := by decide +kernel
theorem dX11_init_53 : decode cX11_init 53 = .ok (.aload_n 0, 1) := by decide +kernel
theorem dX11_init_54 : decode cX11_init 54 = .ok (.iconst 5, 1) := by decide +kernel
theorem dX11_init_55 : decode cX11_init 55 = .ok (.putfield 43, 3) := by decide +kernel
theorem dX11_init_58 : decode cX11_init 58 = .ok (.aload_n 0, 1) := by decide +kernel
theorem dX11_init_59 : decode cX11_init 59 = .ok (.bipush 98, 2) := by decide +kernel
theorem dX11_init_61 : decode cX11_init 61 = .ok (.putfield 46, 3) := by decide +kernel
theorem dX11_init_64 : decode cX11_init 64 = .ok (.return_, 1) := by decide +kernel
theorem dX11_copyFrom_0 : decode cX11_copyFrom 0 = .ok (.aload_n 0, 1) := by decide +kernel
theorem dX11_copyFrom_1 : decode cX11_copyFrom 1 = .ok (.getfield 12, 3) := by decide +kernel
theorem dX11_copyFrom_4 : decode cX11_copyFrom 4 = .ok (.aload_n 1, 1) := by decide +kernel
theorem dX11_copyFrom_5 : decode cX11_copyFrom 5 = .ok (.getfield 12, 3) := by decide +kernel
theorem dX11_copyFrom_8 : decode cX11_copyFrom 8 = .ok (.invokevirtual 50, 3) := by decide +kernel
theorem dX11_copyFrom_11 : decode cX11_copyFrom 11 = .ok (.aload_n 0, 1) := by decide +kernel
theorem dX11_copyFrom_12 : decode cX11_copyFrom 12 = .ok (.getfield 21, 3) := by decide +kernel
theorem dX11_copyFrom_15 : decode cX11_copyFrom 15 = .ok (.aload_n 1, 1) := by decide +kernel
theorem dX11_copyFrom_16 : decode cX11_copyFrom 16 = .ok (.getfield 21, 3) := by decide +kernel
theorem dX11_copyFrom_19 : decode cX11_copyFrom 19 = .ok (.invokevirtual 54, 3) := by decide +kernel
theorem dX11_copyFrom_22 : decode cX11_copyFrom 22 = .ok (.aload_n 0, 1) := by decide +kernel
theorem dX11_copyFrom_23 : decode cX11_copyFrom 23 = .ok (.getfield 28, 3) := by decide +kernel
theorem dX11_copyFrom_26 : decode cX11_copyFrom 26 = .ok (.aload_n 1, 1) := by decide +kernel
theorem dX11_copyFrom_27 : decode cX11_copyFrom 27 = .ok (.getfield 28, 3) := by decide +kernel
theorem dX11_copyFrom_30 : decode cX11_copyFrom 30 = .ok (.invokevirtual 57, 3) := by decide +kernel
theorem dX11_copyFrom_33 : decode cX11_copyFrom 33 = .ok (.aload_n 0, 1) := by decide +kernel
theorem dX11_copyFrom_34 : decode cX11_copyFrom 34 = .ok (.getfield 35, 3) := by decide +kernel
theorem dX11_copyFrom_37 : decode cX11_copyFrom 37 = .ok (.aload_n 1, 1) := by decide +kernel
theorem dX11_copyFrom_38 : decode cX11_copyFrom 38 = .ok (.getfield 35, 3) := by decide +kernel
theorem dX11_copyFrom_41 : decode cX11_copyFrom 41 = .ok (.invokevirtual 60, 3) := by decide +kernel
theorem dX11_copyFrom_44 : decode cX11_copyFrom 44 = .ok (.aload_n 0, 1) := by decide +kernel
theorem dX11_copyFrom_45 : decode cX11_copyFrom 45 = .ok (.aload_n 1, 1) := by decide +kernel
theorem dX11_copyFrom_46 : decode cX11_copyFrom 46 = .ok (.getfield 39, 3) := by decide +kernel
theorem dX11_copyFrom_49 : decode cX11_copyFrom 49 = .ok (.putfield 39, 3) := by decide +kernel
theorem dX11_copyFrom_52 : decode cX11_copyFrom 52 = .ok (.aload_n 0, 1) := by decide +kernel
theorem dX11_copyFrom_53 : decode cX11_copyFrom 53 = .ok (.aload_n 1, 1) := by decide +kernel
theorem dX11_copyFrom_54 : decode cX11_copyFrom 54 = .ok (.getfield 43, 3) := by decide +kernel
theorem dX11_copyFrom_57 : decode cX11_copyFrom 57 = .ok (.putfield 43, 3) := by decide +kernel
theorem dX11_copyFrom_60 : decode cX11_copyFrom 60 = .ok (.aload_n 0, 1) := by decide +kernel
theorem dX11_copyFrom_61 : decode cX11_copyFrom 61 = .ok (.aload_n 1, 1) := by decide +kernel
theorem dX11_copyFrom_62 : decode cX11_copyFrom 62 = .ok (.getfield 46, 3) := by decide +kernel
theorem dX11_copyFrom_65 : decode cX11_copyFrom 65 = .ok (.putfield 46, 3) := by decide +kernel
theorem dX11_copyFrom_68 : decode cX11_copyFrom 68 = .ok (.return_, 1) := by decide +kernel
theorem dX11_existingSpool_0 : decode cX11_existingSpool 0 = .ok (.aload_n 0, 1) := by decide +kernel
theorem dX11_existingSpool_1 : decode cX11_existingSpool 1 = .ok (.getfield 12, 3) := by decide +kernel
theorem dX11_existingSpool_4 : decode cX11_existingSpool 4 = .ok (.iload_n 1, 1) := by decide +kernel
theorem dX11_existingSpool_5 : decode cX11_existingSpool 5 = .ok (.invokevirtual 63, 3) := by decide +kernel
theorem dX11_existingSpool_8 : decode cX11_existingSpool 8 = .ok (.istore_n 2, 1) := by decide +kernel
theorem dX11_existingSpool_9 : decode cX11_existingSpool 9 = .ok (.iload_n 2, 1) := by decide +kernel
theorem dX11_existingSpool_10 : decode cX11_existingSpool 10 = .ok (.iconst (-1), 1) := by decide +kernel
theorem dX11_existingSpool_11 : decode cX11_existingSpool 11 = .ok (.if_icmp .ne 13, 3) := by decide +kernel
theorem dX11_existingSpool_14 : decode cX11_existingSpool 14 = .ok (.new 67, 3) := by decide +kernel
theorem dX11_existingSpool_17 : decode cX11_existingSpool 17 = .ok (.dup, 1) := by decide +kernel
theorem dX11_existingSpool_18 : decode cX11_existingSpool 18 = .ok (.ldc 69, 2) := by decide +kernel
theorem dX11_existingSpool_20 : decode cX11_existingSpool 20 = .ok (.invokespecial 71, 3) := by decide +kernel
theorem dX11_existingSpool_23 : decode cX11_existingSpool 23 = .ok (.athrow, 1) := by decide +kernel
theorem dX11_existingSpool_24 : decode cX11_existingSpool 24 = .ok (.iload_n 2, 1) := by decide +kernel
theorem dX11_existingSpool_25 : decode cX11_existingSpool 25 = .ok (.ireturn, 1) := by decide +kernel
theorem dX11_openOrder_0 : decode cX11_openOrder 0 = .ok (.aload_n 0, 1) := by decide +kernel
theorem dX11_openOrder_1 : decode cX11_openOrder 1 = .ok (.getfield 28, 3) := by decide +kernel
theorem dX11_openOrder_4 : decode cX11_openOrder 4 = .ok (.iload_n 1, 1) := by decide +kernel
theorem dX11_openOrder_5 : decode cX11_openOrder 5 = .ok (.invokevirtual 74, 3) := by decide +kernel
theorem dX11_openOrder_8 : decode cX11_openOrder 8 = .ok (.istore_n 2, 1) := by decide +kernel
theorem dX11_openOrder_9 : decode cX11_openOrder 9 = .ok (.iload_n 2, 1) := by decide +kernel
theorem dX11_openOrder_10 : decode cX11_openOrder 10 = .ok (.iconst (-1), 1) := by decide +kernel
theorem dX11_openOrder_11 : decode cX11_openOrder 11 = .ok (.if_icmp .ne 13, 3) := by decide +kernel
theorem dX11_openOrder_14 : decode cX11_openOrder 14 = .ok (.new 67, 3) := by decide +kernel
theorem dX11_openOrder_17 : decode cX11_openOrder 17 = .ok (.dup, 1) := by decide +kernel
theorem dX11_openOrder_18 : decode cX11_openOrder 18 = .ok (.ldc 77, 2) := by decide +kernel
theorem dX11_openOrder_20 : decode cX11_openOrder 20 = .ok (.invokespecial 71, 3) := by decide +kernel
theorem dX11_openOrder_23 : decode cX11_openOrder 23 = .ok (.athrow, 1) := by decide +kernel
theorem dX11_openOrder_24 : decode cX11_openOrder 24 = .ok (.iload_n 2, 1) := by decide +kernel
theorem dX11_openOrder_25 : decode cX11_openOrder 25 = .ok (.ireturn, 1) := by decide +kernel
theorem dX11_windSpool_0 : decode cX11_windSpool 0 = .ok (.iload_n 1, 1) := by decide +kernel
theorem dX11_windSpool_1 : decode cX11_windSpool 1 = .ok (.invokestatic 79, 3) := by decide +kernel
theorem dX11_windSpool_4 : decode cX11_windSpool 4 = .ok (.iload_n 2, 1) := by decide +kernel
theorem dX11_windSpool_5 : decode cX11_windSpool 5 = .ok (.bipush 10, 2) := by decide +kernel
theorem dX11_windSpool_7 : decode cX11_windSpool 7 = .ok (.if_icmp .lt 10, 3) := by decide +kernel
theorem dX11_windSpool_10 : decode cX11_windSpool 10 = .ok (.iload_n 2, 1) := by decide +kernel
theorem dX11_windSpool_11 : decode cX11_windSpool 11 = .ok (.sipush 999, 3) := by decide +kernel
theorem dX11_windSpool_14 : decode cX11_windSpool 14 = .ok (.if_icmp .le 13, 3) := by decide +kernel
theorem dX11_windSpool_17 : decode cX11_windSpool 17 = .ok (.new 83, 3) := by decide +kernel
theorem dX11_windSpool_20 : decode cX11_windSpool 20 = .ok (.dup, 1) := by decide +kernel
theorem dX11_windSpool_21 : decode cX11_windSpool 21 = .ok (.ldc 85, 2) := by decide +kernel
theorem dX11_windSpool_23 : decode cX11_windSpool 23 = .ok (.invokespecial 87, 3) := by decide +kernel
theorem dX11_windSpool_26 : decode cX11_windSpool 26 = .ok (.athrow, 1) := by decide +kernel
theorem dX11_windSpool_27 : decode cX11_windSpool 27 = .ok (.aload_n 0, 1) := by decide +kernel
theorem dX11_windSpool_28 : decode cX11_windSpool 28 = .ok (.getfield 12, 3) := by decide +kernel
theorem dX11_windSpool_31 : decode cX11_windSpool 31 = .ok (.invokevirtual 88, 3) := by decide +kernel
theorem dX11_windSpool_34 : decode cX11_windSpool 34 = .ok (.bipush 10, 2) := by decide +kernel
theorem dX11_windSpool_36 : decode cX11_windSpool 36 = .ok (.if_icmp .lt 13, 3) := by decide +kernel
theorem dX11_windSpool_39 : decode cX11_windSpool 39 = .ok (.new 92, 3) := by decide +kernel
theorem dX11_windSpool_42 : decode cX11_windSpool 42 = .ok (.dup, 1) := by decide +kernel
theorem dX11_windSpool_43 : decode cX11_windSpool 43 = .ok (.ldc 94, 2) := by decide +kernel
theorem dX11_windSpool_45 : decode cX11_windSpool 45 = .ok (.invokespecial 96, 3) := by decide +kernel
theorem dX11_windSpool_48 : decode cX11_windSpool 48 = .ok (.athrow, 1) := by decide +kernel
theorem dX11_windSpool_49 : decode cX11_windSpool 49 = .ok (.aload_n 0, 1) := by decide +kernel
theorem dX11_windSpool_50 : decode cX11_windSpool 50 = .ok (.getfield 35, 3) := by decide +kernel
theorem dX11_windSpool_53 : decode cX11_windSpool 53 = .ok (.getfield 97, 3) := by decide +kernel
theorem dX11_windSpool_56 : decode cX11_windSpool 56 = .ok (.iload_n 1, 1) := by decide +kernel
theorem dX11_windSpool_57 : decode cX11_windSpool 57 = .ok (.invokestatic 101, 3) := by decide +kernel
theorem dX11_windSpool_60 : decode cX11_windSpool 60 = .ok (.iload_n 2, 1) := by decide +kernel
theorem dX11_windSpool_61 : decode cX11_windSpool 61 = .ok (.invokevirtual 105, 3) := by decide +kernel
theorem dX11_windSpool_64 : decode cX11_windSpool 64 = .ok (.aload_n 0, 1) := by decide +kernel
theorem dX11_windSpool_65 : decode cX11_windSpool 65 = .ok (.getfield 12, 3) := by decide +kernel
theorem dX11_windSpool_68 : decode cX11_windSpool 68 = .ok (.iload_n 1, 1) := by decide +kernel
theorem dX11_windSpool_69 : decode cX11_windSpool 69 = .ok (.iload_n 2, 1) := by decide +kernel
theorem dX11_windSpool_70 : decode cX11_windSpool 70 = .ok (.invokevirtual 111, 3) := by decide +kernel
theorem dX11_windSpool_73 : decode cX11_windSpool 73 = .ok (.ireturn, 1) := by decide +kernel
theorem dX11_retireSpool_0 : decode cX11_retireSpool 0 = .ok (.aload_n 0, 1) := by decide +kernel
theorem dX11_retireSpool_1 : decode cX11_retireSpool 1 = .ok (.iload_n 1, 1) := by decide +kernel
theorem dX11_retireSpool_2 : decode cX11_retireSpool 2 = .ok (.invokevirtual 115, 3) := by decide +kernel
theorem dX11_retireSpool_5 : decode cX11_retireSpool 5 = .ok (.istore_n 2, 1) := by decide +kernel
theorem dX11_retireSpool_6 : decode cX11_retireSpool 6 = .ok (.aload_n 0, 1) := by decide +kernel
theorem dX11_retireSpool_7 : decode cX11_retireSpool 7 = .ok (.getfield 12, 3) := by decide +kernel
theorem dX11_retireSpool_10 : decode cX11_retireSpool 10 = .ok (.iload_n 2, 1) := by decide +kernel
theorem dX11_retireSpool_11 : decode cX11_retireSpool 11 = .ok (.invokevirtual 118, 3) := by decide +kernel
theorem dX11_retireSpool_14 : decode cX11_retireSpool 14 = .ok (.istore_n 3, 1) := by decide +kernel
theorem dX11_retireSpool_15 : decode cX11_retireSpool 15 = .ok (.aload_n 0, 1) := by decide +kernel
theorem dX11_retireSpool_16 : decode cX11_retireSpool 16 = .ok (.getfield 21, 3) := by decide +kernel
theorem dX11_retireSpool_19 : decode cX11_retireSpool 19 = .ok (.aload_n 0, 1) := by decide +kernel
theorem dX11_retireSpool_20 : decode cX11_retireSpool 20 = .ok (.getfield 12, 3) := by decide +kernel
theorem dX11_retireSpool_23 : decode cX11_retireSpool 23 = .ok (.iload_n 2, 1) := by decide +kernel
theorem dX11_retireSpool_24 : decode cX11_retireSpool 24 = .ok (.invokevirtual 121, 3) := by decide +kernel
theorem dX11_retireSpool_27 : decode cX11_retireSpool 27 = .ok (.iload_n 3, 1) := by decide +kernel
theorem dX11_retireSpool_28 : decode cX11_retireSpool 28 = .ok (.invokevirtual 125, 3) := by decide +kernel
theorem dX11_retireSpool_31 : decode cX11_retireSpool 31 = .ok (.aload_n 0, 1) := by decide +kernel
theorem dX11_retireSpool_32 : decode cX11_retireSpool 32 = .ok (.getfield 12, 3) := by decide +kernel
theorem dX11_retireSpool_35 : decode cX11_retireSpool 35 = .ok (.iload_n 2, 1) := by decide +kernel
theorem dX11_retireSpool_36 : decode cX11_retireSpool 36 = .ok (.invokevirtual 129, 3) := by decide +kernel
theorem dX11_retireSpool_39 : decode cX11_retireSpool 39 = .ok (.iload_n 3, 1) := by decide +kernel
theorem dX11_retireSpool_40 : decode cX11_retireSpool 40 = .ok (.ireturn, 1) := by decide +kernel
theorem dX11_clearScraps_0 : decode cX11_clearScraps 0 = .ok (.iload_n 1, 1) := by decide +kernel
theorem dX11_clearScraps_1 : decode cX11_clearScraps 1 = .ok (.invokestatic 79, 3) := by decide +kernel
theorem dX11_clearScraps_4 : decode cX11_clearScraps 4 = .ok (.aload_n 0, 1) := by decide +kernel
theorem dX11_clearScraps_5 : decode cX11_clearScraps 5 = .ok (.getfield 21, 3) := by decide +kernel
theorem dX11_clearScraps_8 : decode cX11_clearScraps 8 = .ok (.iload_n 1, 1) := by decide +kernel
theorem dX11_clearScraps_9 : decode cX11_clearScraps 9 = .ok (.invokevirtual 133, 3) := by decide +kernel
theorem dX11_clearScraps_12 : decode cX11_clearScraps 12 = .ok (.ireturn, 1) := by decide +kernel
theorem dX11_takeOrder_0 : decode cX11_takeOrder 0 = .ok (.iload_n 1, 1) := by decide +kernel
theorem dX11_takeOrder_1 : decode cX11_takeOrder 1 = .ok (.invokestatic 79, 3) := by decide +kernel
theorem dX11_takeOrder_4 : decode cX11_takeOrder 4 = .ok (.iload_n 2, 1) := by decide +kernel
theorem dX11_takeOrder_5 : decode cX11_takeOrder 5 = .ok (.iconst 1, 1) := by decide +kernel
theorem dX11_takeOrder_6 : decode cX11_takeOrder 6 = .ok (.if_icmp .lt 10, 3) := by decide +kernel
theorem dX11_takeOrder_9 : decode cX11_takeOrder 9 = .ok (.iload_n 2, 1) := by decide +kernel
theorem dX11_takeOrder_10 : decode cX11_takeOrder 10 = .ok (.sipush 200, 3) := by decide +kernel
theorem dX11_takeOrder_13 : decode cX11_takeOrder 13 = .ok (.if_icmp .le 13, 3) := by decide +kernel
theorem dX11_takeOrder_16 : decode cX11_takeOrder 16 = .ok (.new 83, 3) := by decide +kernel
theorem dX11_takeOrder_19 : decode cX11_takeOrder 19 = .ok (.dup, 1) := by decide +kernel
theorem dX11_takeOrder_20 : decode cX11_takeOrder 20 = .ok (.ldc 85, 2) := by decide +kernel
theorem dX11_takeOrder_22 : decode cX11_takeOrder 22 = .ok (.invokespecial 87, 3) := by decide +kernel
theorem dX11_takeOrder_25 : decode cX11_takeOrder 25 = .ok (.athrow, 1) := by decide +kernel
theorem dX11_takeOrder_26 : decode cX11_takeOrder 26 = .ok (.iload_n 3, 1) := by decide +kernel
theorem dX11_takeOrder_27 : decode cX11_takeOrder 27 = .ok (.invokestatic 136, 3) := by decide +kernel
theorem dX11_takeOrder_30 : decode cX11_takeOrder 30 = .ok (.aload_n 0, 1) := by decide +kernel
theorem dX11_takeOrder_31 : decode cX11_takeOrder 31 = .ok (.getfield 28, 3) := by decide +kernel
theorem dX11_takeOrder_34 : decode cX11_takeOrder 34 = .ok (.invokevirtual 139, 3) := by decide +kernel
theorem dX11_takeOrder_37 : decode cX11_takeOrder 37 = .ok (.bipush 12, 2) := by decide +kernel
theorem dX11_takeOrder_39 : decode cX11_takeOrder 39 = .ok (.if_icmp .lt 13, 3) := by decide +kernel
theorem dX11_takeOrder_42 : decode cX11_takeOrder 42 = .ok (.new 92, 3) := by decide +kernel
theorem dX11_takeOrder_45 : decode cX11_takeOrder 45 = .ok (.dup, 1) := by decide +kernel
theorem dX11_takeOrder_46 : decode cX11_takeOrder 46 = .ok (.ldc 140, 2) := by decide +kernel
theorem dX11_takeOrder_48 : decode cX11_takeOrder 48 = .ok (.invokespecial 96, 3) := by decide +kernel
theorem dX11_takeOrder_51 : decode cX11_takeOrder 51 = .ok (.athrow, 1) := by decide +kernel
theorem dX11_takeOrder_52 : decode cX11_takeOrder 52 = .ok (.aload_n 0, 1) := by decide +kernel
theorem dX11_takeOrder_53 : decode cX11_takeOrder 53 = .ok (.getfield 28, 3) := by decide +kernel
theorem dX11_takeOrder_56 : decode cX11_takeOrder 56 = .ok (.iload_n 1, 1) := by decide +kernel
theorem dX11_takeOrder_57 : decode cX11_takeOrder 57 = .ok (.iload_n 2, 1) := by decide +kernel
theorem dX11_takeOrder_58 : decode cX11_takeOrder 58 = .ok (.iload_n 3, 1) := by decide +kernel
theorem dX11_takeOrder_59 : decode cX11_takeOrder 59 = .ok (.invokevirtual 142, 3) := by decide +kernel
theorem dX11_takeOrder_62 : decode cX11_takeOrder 62 = .ok (.ireturn, 1) := by decide +kernel
theorem dX11_cancelOrder_0 : decode cX11_cancelOrder 0 = .ok (.aload_n 0, 1) := by decide +kernel
theorem dX11_cancelOrder_1 : decode cX11_cancelOrder 1 = .ok (.iload_n 1, 1) := by decide +kernel
theorem dX11_cancelOrder_2 : decode cX11_cancelOrder 2 = .ok (.invokevirtual 145, 3) := by decide +kernel
theorem dX11_cancelOrder_5 : decode cX11_cancelOrder 5 = .ok (.istore_n 2, 1) := by decide +kernel
theorem dX11_cancelOrder_6 : decode cX11_cancelOrder 6 = .ok (.aload_n 0, 1) := by decide +kernel
theorem dX11_cancelOrder_7 : decode cX11_cancelOrder 7 = .ok (.getfield 28, 3) := by decide +kernel
theorem dX11_cancelOrder_10 : decode cX11_cancelOrder 10 = .ok (.iload_n 2, 1) := by decide +kernel
theorem dX11_cancelOrder_11 : decode cX11_cancelOrder 11 = .ok (.invokevirtual 148, 3) := by decide +kernel
theorem dX11_cancelOrder_14 : decode cX11_cancelOrder 14 = .ok (.iload_n 2, 1) := by decide +kernel
theorem dX11_cancelOrder_15 : decode cX11_cancelOrder 15 = .ok (.ireturn, 1) := by decide +kernel
theorem dX11_fillOrder_0 : decode cX11_fillOrder 0 = .ok (.aload_n 0, 1) := by decide +kernel
theorem dX11_fillOrder_1 : decode cX11_fillOrder 1 = .ok (.iload_n 1, 1) := by decide +kernel
theorem dX11_fillOrder_2 : decode cX11_fillOrder 2 = .ok (.invokevirtual 145, 3) := by decide +kernel
theorem dX11_fillOrder_5 : decode cX11_fillOrder 5 = .ok (.istore_n 2, 1) := by decide +kernel
theorem dX11_fillOrder_6 : decode cX11_fillOrder 6 = .ok (.aload_n 0, 1) := by decide +kernel
theorem dX11_fillOrder_7 : decode cX11_fillOrder 7 = .ok (.iload_n 2, 1) := by decide +kernel
theorem dX11_fillOrder_8 : decode cX11_fillOrder 8 = .ok (.invokevirtual 149, 3) := by decide +kernel
theorem dX11_fillOrder_11 : decode cX11_fillOrder 11 = .ok (.ifCond .ne 13, 3) := by decide +kernel
theorem dX11_fillOrder_14 : decode cX11_fillOrder 14 = .ok (.new 153, 3) := by decide +kernel
theorem dX11_fillOrder_17 : decode cX11_fillOrder 17 = .ok (.dup, 1) := by decide +kernel
theorem dX11_fillOrder_18 : decode cX11_fillOrder 18 = .ok (.ldc 155, 2) := by decide +kernel
theorem dX11_fillOrder_20 : decode cX11_fillOrder 20 = .ok (.invokespecial 157, 3) := by decide +kernel
theorem dX11_fillOrder_23 : decode cX11_fillOrder 23 = .ok (.athrow, 1) := by decide +kernel
theorem dX11_fillOrder_24 : decode cX11_fillOrder 24 = .ok (.aload_n 0, 1) := by decide +kernel
theorem dX11_fillOrder_25 : decode cX11_fillOrder 25 = .ok (.iload_n 2, 1) := by decide +kernel
theorem dX11_fillOrder_26 : decode cX11_fillOrder 26 = .ok (.invokevirtual 158, 3) := by decide +kernel
theorem dX11_fillOrder_29 : decode cX11_fillOrder 29 = .ok (.ireturn, 1) := by decide +kernel
theorem dX11_fillUntil_0 : decode cX11_fillUntil 0 = .ok (.iload_n 1, 1) := by decide +kernel
theorem dX11_fillUntil_1 : decode cX11_fillUntil 1 = .ok (.invokestatic 136, 3) := by decide +kernel
theorem dX11_fillUntil_4 : decode cX11_fillUntil 4 = .ok (.aload_n 0, 1) := by decide +kernel
theorem dX11_fillUntil_5 : decode cX11_fillUntil 5 = .ok (.getfield 28, 3) := by decide +kernel
theorem dX11_fillUntil_8 : decode cX11_fillUntil 8 = .ok (.invokevirtual 139, 3) := by decide +kernel
theorem dX11_fillUntil_11 : decode cX11_fillUntil 11 = .ok (.istore_n 2, 1) := by decide +kernel
theorem dX11_fillUntil_12 : decode cX11_fillUntil 12 = .ok (.iconst 0, 1) := by decide +kernel
theorem dX11_fillUntil_13 : decode cX11_fillUntil 13 = .ok (.istore_n 3, 1) := by decide +kernel
theorem dX11_fillUntil_14 : decode cX11_fillUntil 14 = .ok (.iconst 0, 1) := by decide +kernel
theorem dX11_fillUntil_15 : decode cX11_fillUntil 15 = .ok (.istore 4, 2) := by decide +kernel
theorem dX11_fillUntil_17 : decode cX11_fillUntil 17 = .ok (.iload 4, 2) := by decide +kernel
theorem dX11_fillUntil_19 : decode cX11_fillUntil 19 = .ok (.iload_n 2, 1) := by decide +kernel
theorem dX11_fillUntil_20 : decode cX11_fillUntil 20 = .ok (.if_icmp .ge 41, 3) := by decide +kernel
theorem dX11_fillUntil_23 : decode cX11_fillUntil 23 = .ok (.aload_n 0, 1) := by decide +kernel
theorem dX11_fillUntil_24 : decode cX11_fillUntil 24 = .ok (.getfield 28, 3) := by decide +kernel
theorem dX11_fillUntil_27 : decode cX11_fillUntil 27 = .ok (.iload_n 3, 1) := by decide +kernel
theorem dX11_fillUntil_28 : decode cX11_fillUntil 28 = .ok (.invokevirtual 161, 3) := by decide +kernel
theorem dX11_fillUntil_31 : decode cX11_fillUntil 31 = .ok (.iload_n 1, 1) := by decide +kernel
theorem dX11_fillUntil_32 : decode cX11_fillUntil 32 = .ok (.if_icmp .gt 20, 3) := by decide +kernel
theorem dX11_fillUntil_35 : decode cX11_fillUntil 35 = .ok (.aload_n 0, 1) := by decide +kernel
theorem dX11_fillUntil_36 : decode cX11_fillUntil 36 = .ok (.iload_n 3, 1) := by decide +kernel
theorem dX11_fillUntil_37 : decode cX11_fillUntil 37 = .ok (.invokevirtual 149, 3) := by decide +kernel
theorem dX11_fillUntil_40 : decode cX11_fillUntil 40 = .ok (.ifCond .eq 12, 3) := by decide +kernel
theorem dX11_fillUntil_43 : decode cX11_fillUntil 43 = .ok (.aload_n 0, 1) := by decide +kernel
theorem dX11_fillUntil_44 : decode cX11_fillUntil 44 = .ok (.iload_n 3, 1) := by decide +kernel
theorem dX11_fillUntil_45 : decode cX11_fillUntil 45 = .ok (.invokevirtual 158, 3) := by decide +kernel
theorem dX11_fillUntil_48 : decode cX11_fillUntil 48 = .ok (.pop, 1) := by decide +kernel
theorem dX11_fillUntil_49 : decode cX11_fillUntil 49 = .ok (.goto 6, 3) := by decide +kernel
theorem dX11_fillUntil_52 : decode cX11_fillUntil 52 = .ok (.iinc 3 1, 3) := by decide +kernel
theorem dX11_fillUntil_55 : decode cX11_fillUntil 55 = .ok (.iinc 4 1, 3) := by decide +kernel
theorem dX11_fillUntil_58 : decode cX11_fillUntil 58 = .ok (.goto (-41), 3) := by decide +kernel
theorem dX11_fillUntil_61 : decode cX11_fillUntil 61 = .ok (.iload_n 2, 1) := by decide +kernel
theorem dX11_fillUntil_62 : decode cX11_fillUntil 62 = .ok (.aload_n 0, 1) := by decide +kernel
theorem dX11_fillUntil_63 : decode cX11_fillUntil 63 = .ok (.getfield 28, 3) := by decide +kernel
theorem dX11_fillUntil_66 : decode cX11_fillUntil 66 = .ok (.invokevirtual 139, 3) := by decide +kernel
theorem dX11_fillUntil_69 : decode cX11_fillUntil 69 = .ok (.isub, 1) := by decide +kernel
theorem dX11_fillUntil_70 : decode cX11_fillUntil 70 = .ok (.ireturn, 1) := by decide +kernel
theorem dX11_changeKerf_0 : decode cX11_changeKerf 0 = .ok (.iload_n 1, 1) := by decide +kernel
theorem dX11_changeKerf_1 : decode cX11_changeKerf 1 = .ok (.ifCond .lt 8, 3) := by decide +kernel
theorem dX11_changeKerf_4 : decode cX11_changeKerf 4 = .ok (.iload_n 1, 1) := by decide +kernel
theorem dX11_changeKerf_5 : decode cX11_changeKerf 5 = .ok (.iconst 5, 1) := by decide +kernel
theorem dX11_changeKerf_6 : decode cX11_changeKerf 6 = .ok (.if_icmp .le 13, 3) := by decide +kernel
theorem dX11_changeKerf_9 : decode cX11_changeKerf 9 = .ok (.new 83, 3) := by decide +kernel
theorem dX11_changeKerf_12 : decode cX11_changeKerf 12 = .ok (.dup, 1) := by decide +kernel
theorem dX11_changeKerf_13 : decode cX11_changeKerf 13 = .ok (.ldc 164, 2) := by decide +kernel
theorem dX11_changeKerf_15 : decode cX11_changeKerf 15 = .ok (.invokespecial 87, 3) := by decide +kernel
theorem dX11_changeKerf_18 : decode cX11_changeKerf 18 = .ok (.athrow, 1) := by decide +kernel
theorem dX11_changeKerf_19 : decode cX11_changeKerf 19 = .ok (.aload_n 0, 1) := by decide +kernel
theorem dX11_changeKerf_20 : decode cX11_changeKerf 20 = .ok (.getfield 39, 3) := by decide +kernel
theorem dX11_changeKerf_23 : decode cX11_changeKerf 23 = .ok (.istore_n 2, 1) := by decide +kernel
theorem dX11_changeKerf_24 : decode cX11_changeKerf 24 = .ok (.aload_n 0, 1) := by decide +kernel
theorem dX11_changeKerf_25 : decode cX11_changeKerf 25 = .ok (.iload_n 1, 1) := by decide +kernel
theorem dX11_changeKerf_26 : decode cX11_changeKerf 26 = .ok (.putfield 39, 3) := by decide +kernel
theorem dX11_changeKerf_29 : decode cX11_changeKerf 29 = .ok (.iload_n 2, 1) := by decide +kernel
theorem dX11_changeKerf_30 : decode cX11_changeKerf 30 = .ok (.ireturn, 1) := by decide +kernel
theorem dX11_changeScrapLimit_0 : decode cX11_changeScrapLimit 0 = .ok (.iload_n 1, 1) := by decide +kernel
theorem dX11_changeScrapLimit_1 : decode cX11_changeScrapLimit 1 = .ok (.iconst 1, 1) := by decide +kernel
theorem dX11_changeScrapLimit_2 : decode cX11_changeScrapLimit 2 = .ok (.if_icmp .lt 9, 3) := by decide +kernel
theorem dX11_changeScrapLimit_5 : decode cX11_changeScrapLimit 5 = .ok (.iload_n 1, 1) := by decide +kernel
theorem dX11_changeScrapLimit_6 : decode cX11_changeScrapLimit 6 = .ok (.bipush 50, 2) := by decide +kernel
theorem dX11_changeScrapLimit_8 : decode cX11_changeScrapLimit 8 = .ok (.if_icmp .le 13, 3) := by decide +kernel
theorem dX11_changeScrapLimit_11 : decode cX11_changeScrapLimit 11 = .ok (.new 83, 3) := by decide +kernel
theorem dX11_changeScrapLimit_14 : decode cX11_changeScrapLimit 14 = .ok (.dup, 1) := by decide +kernel
theorem dX11_changeScrapLimit_15 : decode cX11_changeScrapLimit 15 = .ok (.ldc 166, 2) := by decide +kernel
theorem dX11_changeScrapLimit_17 : decode cX11_changeScrapLimit 17 = .ok (.invokespecial 87, 3) := by decide +kernel
theorem dX11_changeScrapLimit_20 : decode cX11_changeScrapLimit 20 = .ok (.athrow, 1) := by decide +kernel
theorem dX11_changeScrapLimit_21 : decode cX11_changeScrapLimit 21 = .ok (.aload_n 0, 1) := by decide +kernel
theorem dX11_changeScrapLimit_22 : decode cX11_changeScrapLimit 22 = .ok (.getfield 43, 3) := by decide +kernel
theorem dX11_changeScrapLimit_25 : decode cX11_changeScrapLimit 25 = .ok (.istore_n 2, 1) := by decide +kernel
theorem dX11_changeScrapLimit_26 : decode cX11_changeScrapLimit 26 = .ok (.aload_n 0, 1) := by decide +kernel
theorem dX11_changeScrapLimit_27 : decode cX11_changeScrapLimit 27 = .ok (.iload_n 1, 1) := by decide +kernel
theorem dX11_changeScrapLimit_28 : decode cX11_changeScrapLimit 28 = .ok (.putfield 43, 3) := by decide +kernel
theorem dX11_changeScrapLimit_31 : decode cX11_changeScrapLimit 31 = .ok (.iload_n 2, 1) := by decide +kernel
theorem dX11_changeScrapLimit_32 : decode cX11_changeScrapLimit 32 = .ok (.ireturn, 1) := by decide +kernel
theorem dX11_changeRule_0 : decode cX11_changeRule 0 = .ok (.iload_n 1, 1) := by decide +kernel
theorem dX11_changeRule_1 : decode cX11_changeRule 1 = .ok (.invokestatic 168, 3) := by decide +kernel
theorem dX11_changeRule_4 : decode cX11_changeRule 4 = .ok (.ifCond .ne 13, 3) := by decide +kernel
theorem dX11_changeRule_7 : decode cX11_changeRule 7 = .ok (.new 83, 3) := by decide +kernel
theorem dX11_changeRule_10 : decode cX11_changeRule 10 = .ok (.dup, 1) := by decide +kernel
theorem dX11_changeRule_11 : decode cX11_changeRule 11 = .ok (.ldc 172, 2) := by decide +kernel
theorem dX11_changeRule_13 : decode cX11_changeRule 13 = .ok (.invokespecial 87, 3) := by decide +kernel
theorem dX11_changeRule_16 : decode cX11_changeRule 16 = .ok (.athrow, 1) := by decide +kernel
theorem dX11_changeRule_17 : decode cX11_changeRule 17 = .ok (.aload_n 0, 1) := by decide +kernel
theorem dX11_changeRule_18 : decode cX11_changeRule 18 = .ok (.getfield 46, 3) := by decide +kernel
theorem dX11_changeRule_21 : decode cX11_changeRule 21 = .ok (.istore_n 2, 1) := by decide +kernel
theorem dX11_changeRule_22 : decode cX11_changeRule 22 = .ok (.aload_n 0, 1) := by decide +kernel
theorem dX11_changeRule_23 : decode cX11_changeRule 23 = .ok (.iload_n 1, 1) := by decide +kernel
theorem dX11_changeRule_24 : decode cX11_changeRule 24 = .ok (.putfield 46, 3) := by decide +kernel
theorem dX11_changeRule_27 : decode cX11_changeRule 27 = .ok (.iload_n 2, 1) := by decide +kernel
theorem dX11_changeRule_28 : decode cX11_changeRule 28 = .ok (.ireturn, 1) := by decide +kernel
theorem dX11_execute_0 : decode cX11_execute 0 = .ok (.getstatic 174, 3) := by decide +kernel
theorem dX11_execute_3 : decode cX11_execute 3 = .ok (.aload_n 1, 1) := by decide +kernel
theorem dX11_execute_4 : decode cX11_execute 4 = .ok (.getfield 180, 3) := by decide +kernel
theorem dX11_execute_7 : decode cX11_execute 7 = .ok (.invokevirtual 186, 3) := by decide +kernel
theorem dX11_execute_10 : decode cX11_execute 10 = .ok (.iaload, 1) := by decide +kernel
theorem dX11_execute_11 : decode cX11_execute 11 = .ok (.tableswitch 182 1 10 #[53, 69, 89, 101, 113, 125, 137, 149, 161, 173], 53) := by decide +kernel
theorem dX11_execute_64 : decode cX11_execute 64 = .ok (.aload_n 0, 1) := by decide +kernel
theorem dX11_execute_65 : decode cX11_execute 65 = .ok (.aload_n 1, 1) := by decide +kernel
theorem dX11_execute_66 : decode cX11_execute 66 = .ok (.getfield 191, 3) := by decide +kernel
theorem dX11_execute_69 : decode cX11_execute 69 = .ok (.aload_n 1, 1) := by decide +kernel
theorem dX11_execute_70 : decode cX11_execute 70 = .ok (.getfield 194, 3) := by decide +kernel
theorem dX11_execute_73 : decode cX11_execute 73 = .ok (.invokevirtual 197, 3) := by decide +kernel
theorem dX11_execute_76 : decode cX11_execute 76 = .ok (.pop, 1) := by decide +kernel
theorem dX11_execute_77 : decode cX11_execute 77 = .ok (.goto 116, 3) := by decide +kernel
theorem dX11_execute_80 : decode cX11_execute 80 = .ok (.aload_n 0, 1) := by decide +kernel
theorem dX11_execute_81 : decode cX11_execute 81 = .ok (.aload_n 1, 1) := by decide +kernel
theorem dX11_execute_82 : decode cX11_execute 82 = .ok (.getfield 191, 3) := by decide +kernel
theorem dX11_execute_85 : decode cX11_execute 85 = .ok (.aload_n 1, 1) := by decide +kernel
theorem dX11_execute_86 : decode cX11_execute 86 = .ok (.getfield 194, 3) := by decide +kernel
theorem dX11_execute_89 : decode cX11_execute 89 = .ok (.aload_n 1, 1) := by decide +kernel
theorem dX11_execute_90 : decode cX11_execute 90 = .ok (.getfield 200, 3) := by decide +kernel
theorem dX11_execute_93 : decode cX11_execute 93 = .ok (.invokevirtual 203, 3) := by decide +kernel
theorem dX11_execute_96 : decode cX11_execute 96 = .ok (.pop, 1) := by decide +kernel
theorem dX11_execute_97 : decode cX11_execute 97 = .ok (.goto 96, 3) := by decide +kernel
theorem dX11_execute_100 : decode cX11_execute 100 = .ok (.aload_n 0, 1) := by decide +kernel
theorem dX11_execute_101 : decode cX11_execute 101 = .ok (.aload_n 1, 1) := by decide +kernel
theorem dX11_execute_102 : decode cX11_execute 102 = .ok (.getfield 194, 3) := by decide +kernel
theorem dX11_execute_105 : decode cX11_execute 105 = .ok (.invokevirtual 206, 3) := by decide +kernel
theorem dX11_execute_108 : decode cX11_execute 108 = .ok (.pop, 1) := by decide +kernel
theorem dX11_execute_109 : decode cX11_execute 109 = .ok (.goto 84, 3) := by decide +kernel
theorem dX11_execute_112 : decode cX11_execute 112 = .ok (.aload_n 0, 1) := by decide +kernel
theorem dX11_execute_113 : decode cX11_execute 113 = .ok (.aload_n 1, 1) := by decide +kernel
theorem dX11_execute_114 : decode cX11_execute 114 = .ok (.getfield 194, 3) := by decide +kernel
theorem dX11_execute_117 : decode cX11_execute 117 = .ok (.invokevirtual 209, 3) := by decide +kernel
theorem dX11_execute_120 : decode cX11_execute 120 = .ok (.pop, 1) := by decide +kernel
theorem dX11_execute_121 : decode cX11_execute 121 = .ok (.goto 72, 3) := by decide +kernel
theorem dX11_execute_124 : decode cX11_execute 124 = .ok (.aload_n 0, 1) := by decide +kernel
theorem dX11_execute_125 : decode cX11_execute 125 = .ok (.aload_n 1, 1) := by decide +kernel
theorem dX11_execute_126 : decode cX11_execute 126 = .ok (.getfield 194, 3) := by decide +kernel
theorem dX11_execute_129 : decode cX11_execute 129 = .ok (.invokevirtual 212, 3) := by decide +kernel
theorem dX11_execute_132 : decode cX11_execute 132 = .ok (.pop, 1) := by decide +kernel
theorem dX11_execute_133 : decode cX11_execute 133 = .ok (.goto 60, 3) := by decide +kernel
theorem dX11_execute_136 : decode cX11_execute 136 = .ok (.aload_n 0, 1) := by decide +kernel
theorem dX11_execute_137 : decode cX11_execute 137 = .ok (.aload_n 1, 1) := by decide +kernel
theorem dX11_execute_138 : decode cX11_execute 138 = .ok (.getfield 194, 3) := by decide +kernel
theorem dX11_execute_141 : decode cX11_execute 141 = .ok (.invokevirtual 215, 3) := by decide +kernel
theorem dX11_execute_144 : decode cX11_execute 144 = .ok (.pop, 1) := by decide +kernel
theorem dX11_execute_145 : decode cX11_execute 145 = .ok (.goto 48, 3) := by decide +kernel
theorem dX11_execute_148 : decode cX11_execute 148 = .ok (.aload_n 0, 1) := by decide +kernel
theorem dX11_execute_149 : decode cX11_execute 149 = .ok (.aload_n 1, 1) := by decide +kernel
theorem dX11_execute_150 : decode cX11_execute 150 = .ok (.getfield 191, 3) := by decide +kernel
theorem dX11_execute_153 : decode cX11_execute 153 = .ok (.invokevirtual 218, 3) := by decide +kernel
theorem dX11_execute_156 : decode cX11_execute 156 = .ok (.pop, 1) := by decide +kernel
theorem dX11_execute_157 : decode cX11_execute 157 = .ok (.goto 36, 3) := by decide +kernel
theorem dX11_execute_160 : decode cX11_execute 160 = .ok (.aload_n 0, 1) := by decide +kernel
theorem dX11_execute_161 : decode cX11_execute 161 = .ok (.aload_n 1, 1) := by decide +kernel
theorem dX11_execute_162 : decode cX11_execute 162 = .ok (.getfield 194, 3) := by decide +kernel
theorem dX11_execute_165 : decode cX11_execute 165 = .ok (.invokevirtual 221, 3) := by decide +kernel
theorem dX11_execute_168 : decode cX11_execute 168 = .ok (.pop, 1) := by decide +kernel
theorem dX11_execute_169 : decode cX11_execute 169 = .ok (.goto 24, 3) := by decide +kernel
theorem dX11_execute_172 : decode cX11_execute 172 = .ok (.aload_n 0, 1) := by decide +kernel
theorem dX11_execute_173 : decode cX11_execute 173 = .ok (.aload_n 1, 1) := by decide +kernel
theorem dX11_execute_174 : decode cX11_execute 174 = .ok (.getfield 194, 3) := by decide +kernel
theorem dX11_execute_177 : decode cX11_execute 177 = .ok (.invokevirtual 224, 3) := by decide +kernel
theorem dX11_execute_180 : decode cX11_execute 180 = .ok (.pop, 1) := by decide +kernel
theorem dX11_execute_181 : decode cX11_execute 181 = .ok (.goto 12, 3) := by decide +kernel
theorem dX11_execute_184 : decode cX11_execute 184 = .ok (.aload_n 0, 1) := by decide +kernel
theorem dX11_execute_185 : decode cX11_execute 185 = .ok (.aload_n 1, 1) := by decide +kernel
theorem dX11_execute_186 : decode cX11_execute 186 = .ok (.getfield 191, 3) := by decide +kernel
theorem dX11_execute_189 : decode cX11_execute 189 = .ok (.invokevirtual 227, 3) := by decide +kernel
theorem dX11_execute_192 : decode cX11_execute 192 = .ok (.pop, 1) := by decide +kernel
theorem dX11_execute_193 : decode cX11_execute 193 = .ok (.return_, 1) := by decide +kernel
theorem dX11_isFillable_0 : decode cX11_isFillable 0 = .ok (.aload_n 0, 1) := by decide +kernel
theorem dX11_isFillable_1 : decode cX11_isFillable 1 = .ok (.getfield 28, 3) := by decide +kernel
theorem dX11_isFillable_4 : decode cX11_isFillable 4 = .ok (.iload_n 1, 1) := by decide +kernel
theorem dX11_isFillable_5 : decode cX11_isFillable 5 = .ok (.invokevirtual 231, 3) := by decide +kernel
theorem dX11_isFillable_8 : decode cX11_isFillable 8 = .ok (.istore_n 2, 1) := by decide +kernel
theorem dX11_isFillable_9 : decode cX11_isFillable 9 = .ok (.aload_n 0, 1) := by decide +kernel
theorem dX11_isFillable_10 : decode cX11_isFillable 10 = .ok (.getfield 28, 3) := by decide +kernel
theorem dX11_isFillable_13 : decode cX11_isFillable 13 = .ok (.iload_n 1, 1) := by decide +kernel
theorem dX11_isFillable_14 : decode cX11_isFillable 14 = .ok (.invokevirtual 232, 3) := by decide +kernel
theorem dX11_isFillable_17 : decode cX11_isFillable 17 = .ok (.istore_n 3, 1) := by decide +kernel
theorem dX11_isFillable_18 : decode cX11_isFillable 18 = .ok (.aload_n 0, 1) := by decide +kernel
theorem dX11_isFillable_19 : decode cX11_isFillable 19 = .ok (.getfield 21, 3) := by decide +kernel
theorem dX11_isFillable_22 : decode cX11_isFillable 22 = .ok (.iload_n 2, 1) := by decide +kernel
theorem dX11_isFillable_23 : decode cX11_isFillable 23 = .ok (.iload_n 3, 1) := by decide +kernel
theorem dX11_isFillable_24 : decode cX11_isFillable 24 = .ok (.invokevirtual 233, 3) := by decide +kernel
theorem dX11_isFillable_27 : decode cX11_isFillable 27 = .ok (.iconst (-1), 1) := by decide +kernel
theorem dX11_isFillable_28 : decode cX11_isFillable 28 = .ok (.if_icmp .ne 20, 3) := by decide +kernel
theorem dX11_isFillable_31 : decode cX11_isFillable 31 = .ok (.aload_n 0, 1) := by decide +kernel
theorem dX11_isFillable_32 : decode cX11_isFillable 32 = .ok (.getfield 12, 3) := by decide +kernel
theorem dX11_isFillable_35 : decode cX11_isFillable 35 = .ok (.iload_n 2, 1) := by decide +kernel
theorem dX11_isFillable_36 : decode cX11_isFillable 36 = .ok (.iload_n 3, 1) := by decide +kernel
theorem dX11_isFillable_37 : decode cX11_isFillable 37 = .ok (.aload_n 0, 1) := by decide +kernel
theorem dX11_isFillable_38 : decode cX11_isFillable 38 = .ok (.getfield 46, 3) := by decide +kernel
theorem dX11_isFillable_41 : decode cX11_isFillable 41 = .ok (.invokevirtual 236, 3) := by decide +kernel
theorem dX11_isFillable_44 : decode cX11_isFillable 44 = .ok (.iconst (-1), 1) := by decide +kernel
theorem dX11_isFillable_45 : decode cX11_isFillable 45 = .ok (.if_icmp .eq 7, 3) := by decide +kernel
theorem dX11_isFillable_48 : decode cX11_isFillable 48 = .ok (.iconst 1, 1) := by decide +kernel
theorem dX11_isFillable_49 : decode cX11_isFillable 49 = .ok (.goto 4, 3) := by decide +kernel
theorem dX11_isFillable_52 : decode cX11_isFillable 52 = .ok (.iconst 0, 1) := by decide +kernel
theorem dX11_isFillable_53 : decode cX11_isFillable 53 = .ok (.ireturn, 1) := by decide +kernel
theorem dX11_scrapFor_0 : decode cX11_scrapFor 0 = .ok (.aload_n 0, 1) := by decide +kernel
theorem dX11_scrapFor_1 : decode cX11_scrapFor 1 = .ok (.getfield 21, 3) := by decide +kernel
theorem dX11_scrapFor_4 : decode cX11_scrapFor 4 = .ok (.aload_n 0, 1) := by decide +kernel
theorem dX11_scrapFor_5 : decode cX11_scrapFor 5 = .ok (.getfield 28, 3) := by decide +kernel
theorem dX11_scrapFor_8 : decode cX11_scrapFor 8 = .ok (.iload_n 1, 1) := by decide +kernel
theorem dX11_scrapFor_9 : decode cX11_scrapFor 9 = .ok (.invokevirtual 231, 3) := by decide +kernel
theorem dX11_scrapFor_12 : decode cX11_scrapFor 12 = .ok (.aload_n 0, 1) := by decide +kernel
theorem dX11_scrapFor_13 : decode cX11_scrapFor 13 = .ok (.getfield 28, 3) := by decide +kernel
theorem dX11_scrapFor_16 : decode cX11_scrapFor 16 = .ok (.iload_n 1, 1) := by decide +kernel
theorem dX11_scrapFor_17 : decode cX11_scrapFor 17 = .ok (.invokevirtual 232, 3) := by decide +kernel
theorem dX11_scrapFor_20 : decode cX11_scrapFor 20 = .ok (.invokevirtual 233, 3) := by decide +kernel
theorem dX11_scrapFor_23 : decode cX11_scrapFor 23 = .ok (.ireturn, 1) := by decide +kernel
theorem dX11_spoolFor_0 : decode cX11_spoolFor 0 = .ok (.aload_n 0, 1) := by decide +kernel
theorem dX11_spoolFor_1 : decode cX11_spoolFor 1 = .ok (.getfield 12, 3) := by decide +kernel
theorem dX11_spoolFor_4 : decode cX11_spoolFor 4 = .ok (.aload_n 0, 1) := by decide +kernel
theorem dX11_spoolFor_5 : decode cX11_spoolFor 5 = .ok (.getfield 28, 3) := by decide +kernel
theorem dX11_spoolFor_8 : decode cX11_spoolFor 8 = .ok (.iload_n 1, 1) := by decide +kernel
theorem dX11_spoolFor_9 : decode cX11_spoolFor 9 = .ok (.invokevirtual 231, 3) := by decide +kernel
theorem dX11_spoolFor_12 : decode cX11_spoolFor 12 = .ok (.aload_n 0, 1) := by decide +kernel
theorem dX11_spoolFor_13 : decode cX11_spoolFor 13 = .ok (.getfield 28, 3) := by decide +kernel
theorem dX11_spoolFor_16 : decode cX11_spoolFor 16 = .ok (.iload_n 1, 1) := by decide +kernel
theorem dX11_spoolFor_17 : decode cX11_spoolFor 17 = .ok (.invokevirtual 232, 3) := by decide +kernel
theorem dX11_spoolFor_20 : decode cX11_spoolFor 20 = .ok (.aload_n 0, 1) := by decide +kernel
theorem dX11_spoolFor_21 : decode cX11_spoolFor 21 = .ok (.getfield 46, 3) := by decide +kernel
theorem dX11_spoolFor_24 : decode cX11_spoolFor 24 = .ok (.invokevirtual 236, 3) := by decide +kernel
theorem dX11_spoolFor_27 : decode cX11_spoolFor 27 = .ok (.ireturn, 1) := by decide +kernel
theorem dX11_sumOfParts_0 : decode cX11_sumOfParts 0 = .ok (.iload_n 1, 1) := by decide +kernel
theorem dX11_sumOfParts_1 : decode cX11_sumOfParts 1 = .ok (.invokestatic 101, 3) := by decide +kernel
theorem dX11_sumOfParts_4 : decode cX11_sumOfParts 4 = .ok (.istore_n 2, 1) := by decide +kernel
theorem dX11_sumOfParts_5 : decode cX11_sumOfParts 5 = .ok (.aload_n 0, 1) := by decide +kernel
theorem dX11_sumOfParts_6 : decode cX11_sumOfParts 6 = .ok (.getfield 12, 3) := by decide +kernel
theorem dX11_sumOfParts_9 : decode cX11_sumOfParts 9 = .ok (.iload_n 1, 1) := by decide +kernel
theorem dX11_sumOfParts_10 : decode cX11_sumOfParts 10 = .ok (.invokevirtual 240, 3) := by decide +kernel
theorem dX11_sumOfParts_13 : decode cX11_sumOfParts 13 = .ok (.aload_n 0, 1) := by decide +kernel
theorem dX11_sumOfParts_14 : decode cX11_sumOfParts 14 = .ok (.getfield 21, 3) := by decide +kernel
theorem dX11_sumOfParts_17 : decode cX11_sumOfParts 17 = .ok (.iload_n 1, 1) := by decide +kernel
theorem dX11_sumOfParts_18 : decode cX11_sumOfParts 18 = .ok (.invokevirtual 243, 3) := by decide +kernel
theorem dX11_sumOfParts_21 : decode cX11_sumOfParts 21 = .ok (.iadd, 1) := by decide +kernel
theorem dX11_sumOfParts_22 : decode cX11_sumOfParts 22 = .ok (.istore_n 3, 1) := by decide +kernel
theorem dX11_sumOfParts_23 : decode cX11_sumOfParts 23 = .ok (.aload_n 0, 1) := by decide +kernel
theorem dX11_sumOfParts_24 : decode cX11_sumOfParts 24 = .ok (.getfield 35, 3) := by decide +kernel
theorem dX11_sumOfParts_27 : decode cX11_sumOfParts 27 = .ok (.getfield 244, 3) := by decide +kernel
theorem dX11_sumOfParts_30 : decode cX11_sumOfParts 30 = .ok (.iload_n 2, 1) := by decide +kernel
theorem dX11_sumOfParts_31 : decode cX11_sumOfParts 31 = .ok (.invokevirtual 247, 3) := by decide +kernel
theorem dX11_sumOfParts_34 : decode cX11_sumOfParts 34 = .ok (.aload_n 0, 1) := by decide +kernel
theorem dX11_sumOfParts_35 : decode cX11_sumOfParts 35 = .ok (.getfield 35, 3) := by decide +kernel
theorem dX11_sumOfParts_38 : decode cX11_sumOfParts 38 = .ok (.getfield 250, 3) := by decide +kernel
theorem dX11_sumOfParts_41 : decode cX11_sumOfParts 41 = .ok (.iload_n 2, 1) := by decide +kernel
theorem dX11_sumOfParts_42 : decode cX11_sumOfParts 42 = .ok (.invokevirtual 247, 3) := by decide +kernel
theorem dX11_sumOfParts_45 : decode cX11_sumOfParts 45 = .ok (.iadd, 1) := by decide +kernel
theorem dX11_sumOfParts_46 : decode cX11_sumOfParts 46 = .ok (.aload_n 0, 1) := by decide +kernel
theorem dX11_sumOfParts_47 : decode cX11_sumOfParts 47 = .ok (.getfield 21, 3) := by decide +kernel
theorem dX11_sumOfParts_50 : decode cX11_sumOfParts 50 = .ok (.iload_n 1, 1) := by decide +kernel
theorem dX11_sumOfParts_51 : decode cX11_sumOfParts 51 = .ok (.invokevirtual 253, 3) := by decide +kernel
theorem dX11_sumOfParts_54 : decode cX11_sumOfParts 54 = .ok (.iadd, 1) := by decide +kernel
theorem dX11_sumOfParts_55 : decode cX11_sumOfParts 55 = .ok (.istore 4, 2) := by decide +kernel
theorem dX11_sumOfParts_57 : decode cX11_sumOfParts 57 = .ok (.iload_n 3, 1) := by decide +kernel
theorem dX11_sumOfParts_58 : decode cX11_sumOfParts 58 = .ok (.iload 4, 2) := by decide +kernel
theorem dX11_sumOfParts_60 : decode cX11_sumOfParts 60 = .ok (.iadd, 1) := by decide +kernel
theorem dX11_sumOfParts_61 : decode cX11_sumOfParts 61 = .ok (.ireturn, 1) := by decide +kernel
theorem dX11_fillAt_0 : decode cX11_fillAt 0 = .ok (.aload_n 0, 1) := by decide +kernel
theorem dX11_fillAt_1 : decode cX11_fillAt 1 = .ok (.getfield 28, 3) := by decide +kernel
theorem dX11_fillAt_4 : decode cX11_fillAt 4 = .ok (.iload_n 1, 1) := by decide +kernel
theorem dX11_fillAt_5 : decode cX11_fillAt 5 = .ok (.invokevirtual 231, 3) := by decide +kernel
theorem dX11_fillAt_8 : decode cX11_fillAt 8 = .ok (.istore_n 2, 1) := by decide +kernel
theorem dX11_fillAt_9 : decode cX11_fillAt 9 = .ok (.aload_n 0, 1) := by decide +kernel
theorem dX11_fillAt_10 : decode cX11_fillAt 10 = .ok (.getfield 28, 3) := by decide +kernel
theorem dX11_fillAt_13 : decode cX11_fillAt 13 = .ok (.iload_n 1, 1) := by decide +kernel
theorem dX11_fillAt_14 : decode cX11_fillAt 14 = .ok (.invokevirtual 232, 3) := by decide +kernel
theorem dX11_fillAt_17 : decode cX11_fillAt 17 = .ok (.istore_n 3, 1) := by decide +kernel
theorem dX11_fillAt_18 : decode cX11_fillAt 18 = .ok (.aload_n 0, 1) := by decide +kernel
theorem dX11_fillAt_19 : decode cX11_fillAt 19 = .ok (.getfield 21, 3) := by decide +kernel
theorem dX11_fillAt_22 : decode cX11_fillAt 22 = .ok (.iload_n 2, 1) := by decide +kernel
theorem dX11_fillAt_23 : decode cX11_fillAt 23 = .ok (.iload_n 3, 1) := by decide +kernel
theorem dX11_fillAt_24 : decode cX11_fillAt 24 = .ok (.invokevirtual 233, 3) := by decide +kernel
theorem dX11_fillAt_27 : decode cX11_fillAt 27 = .ok (.istore 4, 2) := by decide +kernel
theorem dX11_fillAt_29 : decode cX11_fillAt 29 = .ok (.iconst (-1), 1) := by decide +kernel
theorem dX11_fillAt_30 : decode cX11_fillAt 30 = .ok (.istore 5, 2) := by decide +kernel
theorem dX11_fillAt_32 : decode cX11_fillAt 32 = .ok (.iload 4, 2) := by decide +kernel
theorem dX11_fillAt_34 : decode cX11_fillAt 34 = .ok (.iconst (-1), 1) := by decide +kernel
theorem dX11_fillAt_35 : decode cX11_fillAt 35 = .ok (.if_icmp .eq 14, 3) := by decide +kernel
theorem dX11_fillAt_38 : decode cX11_fillAt 38 = .ok (.aload_n 0, 1) := by decide +kernel
theorem dX11_fillAt_39 : decode cX11_fillAt 39 = .ok (.iload 4, 2) := by decide +kernel
theorem dX11_fillAt_41 : decode cX11_fillAt 41 = .ok (.iload_n 2, 1) := by decide +kernel
theorem dX11_fillAt_42 : decode cX11_fillAt 42 = .ok (.iload_n 3, 1) := by decide +kernel
theorem dX11_fillAt_43 : decode cX11_fillAt 43 = .ok (.invokevirtual 256, 3) := by decide +kernel
theorem dX11_fillAt_46 : decode cX11_fillAt 46 = .ok (.goto 37, 3) := by decide +kernel
theorem dX11_fillAt_49 : decode cX11_fillAt 49 = .ok (.aload_n 0, 1) := by decide +kernel
theorem dX11_fillAt_50 : decode cX11_fillAt 50 = .ok (.getfield 12, 3) := by decide +kernel
theorem dX11_fillAt_53 : decode cX11_fillAt 53 = .ok (.iload_n 2, 1) := by decide +kernel
theorem dX11_fillAt_54 : decode cX11_fillAt 54 = .ok (.iload_n 3, 1) := by decide +kernel
theorem dX11_fillAt_55 : decode cX11_fillAt 55 = .ok (.aload_n 0, 1) := by decide +kernel
theorem dX11_fillAt_56 : decode cX11_fillAt 56 = .ok (.getfield 46, 3) := by decide +kernel
theorem dX11_fillAt_59 : decode cX11_fillAt 59 = .ok (.invokevirtual 236, 3) := by decide +kernel
theorem dX11_fillAt_62 : decode cX11_fillAt 62 = .ok (.istore 6, 2) := by decide +kernel
theorem dX11_fillAt_64 : decode cX11_fillAt 64 = .ok (.aload_n 0, 1) := by decide +kernel
theorem dX11_fillAt_65 : decode cX11_fillAt 65 = .ok (.getfield 12, 3) := by decide +kernel
theorem dX11_fillAt_68 : decode cX11_fillAt 68 = .ok (.iload 6, 2) := by decide +kernel
theorem dX11_fillAt_70 : decode cX11_fillAt 70 = .ok (.invokevirtual 260, 3) := by decide +kernel
theorem dX11_fillAt_73 : decode cX11_fillAt 73 = .ok (.istore 5, 2) := by decide +kernel
theorem dX11_fillAt_75 : decode cX11_fillAt 75 = .ok (.aload_n 0, 1) := by decide +kernel
theorem dX11_fillAt_76 : decode cX11_fillAt 76 = .ok (.iload 6, 2) := by decide +kernel
theorem dX11_fillAt_78 : decode cX11_fillAt 78 = .ok (.iload_n 2, 1) := by decide +kernel
theorem dX11_fillAt_79 : decode cX11_fillAt 79 = .ok (.iload_n 3, 1) := by decide +kernel
theorem dX11_fillAt_80 : decode cX11_fillAt 80 = .ok (.invokevirtual 263, 3) := by decide +kernel
theorem dX11_fillAt_83 : decode cX11_fillAt 83 = .ok (.aload_n 0, 1) := by decide +kernel
theorem dX11_fillAt_84 : decode cX11_fillAt 84 = .ok (.getfield 35, 3) := by decide +kernel
theorem dX11_fillAt_87 : decode cX11_fillAt 87 = .ok (.getfield 244, 3) := by decide +kernel
theorem dX11_fillAt_90 : decode cX11_fillAt 90 = .ok (.iload_n 2, 1) := by decide +kernel
theorem dX11_fillAt_91 : decode cX11_fillAt 91 = .ok (.invokestatic 101, 3) := by decide +kernel
theorem dX11_fillAt_94 : decode cX11_fillAt 94 = .ok (.iload_n 3, 1) := by decide +kernel
theorem dX11_fillAt_95 : decode cX11_fillAt 95 = .ok (.invokevirtual 105, 3) := by decide +kernel
theorem dX11_fillAt_98 : decode cX11_fillAt 98 = .ok (.aload_n 0, 1) := by decide +kernel
theorem dX11_fillAt_99 : decode cX11_fillAt 99 = .ok (.getfield 35, 3) := by decide +kernel
theorem dX11_fillAt_102 : decode cX11_fillAt 102 = .ok (.dup, 1) := by decide +kernel
theorem dX11_fillAt_103 : decode cX11_fillAt 103 = .ok (.getfield 266, 3) := by decide +kernel
theorem dX11_fillAt_106 : decode cX11_fillAt 106 = .ok (.iconst 1, 1) := by decide +kernel
theorem dX11_fillAt_107 : decode cX11_fillAt 107 = .ok (.iadd, 1) := by decide +kernel
theorem dX11_fillAt_108 : decode cX11_fillAt 108 = .ok (.putfield 266, 3) := by decide +kernel
theorem dX11_fillAt_111 : decode cX11_fillAt 111 = .ok (.aload_n 0, 1) := by decide +kernel
theorem dX11_fillAt_112 : decode cX11_fillAt 112 = .ok (.getfield 28, 3) := by decide +kernel
theorem dX11_fillAt_115 : decode cX11_fillAt 115 = .ok (.iload_n 1, 1) := by decide +kernel
theorem dX11_fillAt_116 : decode cX11_fillAt 116 = .ok (.invokevirtual 148, 3) := by decide +kernel
theorem dX11_fillAt_119 : decode cX11_fillAt 119 = .ok (.iload 5, 2) := by decide +kernel
theorem dX11_fillAt_121 : decode cX11_fillAt 121 = .ok (.ireturn, 1) := by decide +kernel
theorem dX11_cutScrap_0 : decode cX11_cutScrap 0 = .ok (.aload_n 0, 1) := by decide +kernel
theorem dX11_cutScrap_1 : decode cX11_cutScrap 1 = .ok (.iload_n 2, 1) := by decide +kernel
theorem dX11_cutScrap_2 : decode cX11_cutScrap 2 = .ok (.aload_n 0, 1) := by decide +kernel
theorem dX11_cutScrap_3 : decode cX11_cutScrap 3 = .ok (.getfield 21, 3) := by decide +kernel
theorem dX11_cutScrap_6 : decode cX11_cutScrap 6 = .ok (.iload_n 1, 1) := by decide +kernel
theorem dX11_cutScrap_7 : decode cX11_cutScrap 7 = .ok (.invokevirtual 269, 3) := by decide +kernel
theorem dX11_cutScrap_10 : decode cX11_cutScrap 10 = .ok (.iload_n 3, 1) := by decide +kernel
theorem dX11_cutScrap_11 : decode cX11_cutScrap 11 = .ok (.isub, 1) := by decide +kernel
theorem dX11_cutScrap_12 : decode cX11_cutScrap 12 = .ok (.invokevirtual 270, 3) := by decide +kernel
theorem dX11_cutScrap_15 : decode cX11_cutScrap 15 = .ok (.istore 4, 2) := by decide +kernel
theorem dX11_cutScrap_17 : decode cX11_cutScrap 17 = .ok (.aload_n 0, 1) := by decide +kernel
theorem dX11_cutScrap_18 : decode cX11_cutScrap 18 = .ok (.getfield 21, 3) := by decide +kernel
theorem dX11_cutScrap_21 : decode cX11_cutScrap 21 = .ok (.iload_n 1, 1) := by decide +kernel
theorem dX11_cutScrap_22 : decode cX11_cutScrap 22 = .ok (.invokevirtual 273, 3) := by decide +kernel
theorem dX11_cutScrap_25 : decode cX11_cutScrap 25 = .ok (.iload 4, 2) := by decide +kernel
theorem dX11_cutScrap_27 : decode cX11_cutScrap 27 = .ok (.ifCond .le 13, 3) := by decide +kernel
theorem dX11_cutScrap_30 : decode cX11_cutScrap 30 = .ok (.aload_n 0, 1) := by decide +kernel
theorem dX11_cutScrap_31 : decode cX11_cutScrap 31 = .ok (.getfield 21, 3) := by decide +kernel
theorem dX11_cutScrap_34 : decode cX11_cutScrap 34 = .ok (.iload_n 2, 1) := by decide +kernel
theorem dX11_cutScrap_35 : decode cX11_cutScrap 35 = .ok (.iload 4, 2) := by decide +kernel
theorem dX11_cutScrap_37 : decode cX11_cutScrap 37 = .ok (.invokevirtual 125, 3) := by decide +kernel
theorem dX11_cutScrap_40 : decode cX11_cutScrap 40 = .ok (.return_, 1) := by decide +kernel
theorem dX11_cutSpool_0 : decode cX11_cutSpool 0 = .ok (.aload_n 0, 1) := by decide +kernel
theorem dX11_cutSpool_1 : decode cX11_cutSpool 1 = .ok (.iload_n 2, 1) := by decide +kernel
theorem dX11_cutSpool_2 : decode cX11_cutSpool 2 = .ok (.aload_n 0, 1) := by decide +kernel
theorem dX11_cutSpool_3 : decode cX11_cutSpool 3 = .ok (.getfield 12, 3) := by decide +kernel
theorem dX11_cutSpool_6 : decode cX11_cutSpool 6 = .ok (.iload_n 1, 1) := by decide +kernel
theorem dX11_cutSpool_7 : decode cX11_cutSpool 7 = .ok (.invokevirtual 118, 3) := by decide +kernel
theorem dX11_cutSpool_10 : decode cX11_cutSpool 10 = .ok (.iload_n 3, 1) := by decide +kernel
theorem dX11_cutSpool_11 : decode cX11_cutSpool 11 = .ok (.isub, 1) := by decide +kernel
theorem dX11_cutSpool_12 : decode cX11_cutSpool 12 = .ok (.invokevirtual 270, 3) := by decide +kernel
theorem dX11_cutSpool_15 : decode cX11_cutSpool 15 = .ok (.istore 4, 2) := by decide +kernel
theorem dX11_cutSpool_17 : decode cX11_cutSpool 17 = .ok (.iload 4, 2) := by decide +kernel
theorem dX11_cutSpool_19 : decode cX11_cutSpool 19 = .ok (.aload_n 0, 1) := by decide +kernel
theorem dX11_cutSpool_20 : decode cX11_cutSpool 20 = .ok (.getfield 43, 3) := by decide +kernel
theorem dX11_cutSpool_23 : decode cX11_cutSpool 23 = .ok (.if_icmp .lt 14, 3) := by decide +kernel
theorem dX11_cutSpool_26 : decode cX11_cutSpool 26 = .ok (.aload_n 0, 1) := by decide +kernel
theorem dX11_cutSpool_27 : decode cX11_cutSpool 27 = .ok (.getfield 12, 3) := by decide +kernel
theorem dX11_cutSpool_30 : decode cX11_cutSpool 30 = .ok (.iload_n 1, 1) := by decide +kernel
theorem dX11_cutSpool_31 : decode cX11_cutSpool 31 = .ok (.iload 4, 2) := by decide +kernel
theorem dX11_cutSpool_33 : decode cX11_cutSpool 33 = .ok (.invokevirtual 274, 3) := by decide +kernel
theorem dX11_cutSpool_36 : decode cX11_cutSpool 36 = .ok (.return_, 1) := by decide +kernel
theorem dX11_cutSpool_37 : decode cX11_cutSpool 37 = .ok (.aload_n 0, 1) := by decide +kernel
theorem dX11_cutSpool_38 : decode cX11_cutSpool 38 = .ok (.getfield 12, 3) := by decide +kernel
theorem dX11_cutSpool_41 : decode cX11_cutSpool 41 = .ok (.iload_n 1, 1) := by decide +kernel
theorem dX11_cutSpool_42 : decode cX11_cutSpool 42 = .ok (.invokevirtual 129, 3) := by decide +kernel
theorem dX11_cutSpool_45 : decode cX11_cutSpool 45 = .ok (.iload 4, 2) := by decide +kernel
theorem dX11_cutSpool_47 : decode cX11_cutSpool 47 = .ok (.ifCond .le 13, 3) := by decide +kernel
theorem dX11_cutSpool_50 : decode cX11_cutSpool 50 = .ok (.aload_n 0, 1) := by decide +kernel
theorem dX11_cutSpool_51 : decode cX11_cutSpool 51 = .ok (.getfield 21, 3) := by decide +kernel
theorem dX11_cutSpool_54 : decode cX11_cutSpool 54 = .ok (.iload_n 2, 1) := by decide +kernel
theorem dX11_cutSpool_55 : decode cX11_cutSpool 55 = .ok (.iload 4, 2) := by decide +kernel
theorem dX11_cutSpool_57 : decode cX11_cutSpool 57 = .ok (.invokevirtual 125, 3) := by decide +kernel
theorem dX11_cutSpool_60 : decode cX11_cutSpool 60 = .ok (.return_, 1) := by decide +kernel
theorem dX11_lose_0 : decode cX11_lose 0 = .ok (.iload_n 2, 1) := by decide +kernel
theorem dX11_lose_1 : decode cX11_lose 1 = .ok (.aload_n 0, 1) := by decide +kernel
theorem dX11_lose_2 : decode cX11_lose 2 = .ok (.getfield 39, 3) := by decide +kernel
theorem dX11_lose_5 : decode cX11_lose 5 = .ok (.if_icmp .ge 7, 3) := by decide +kernel
theorem dX11_lose_8 : decode cX11_lose 8 = .ok (.iload_n 2, 1) := by decide +kernel
theorem dX11_lose_9 : decode cX11_lose 9 = .ok (.goto 7, 3) := by decide +kernel
theorem dX11_lose_12 : decode cX11_lose 12 = .ok (.aload_n 0, 1) := by decide +kernel
theorem dX11_lose_13 : decode cX11_lose 13 = .ok (.getfield 39, 3) := by decide +kernel
theorem dX11_lose_16 : decode cX11_lose 16 = .ok (.istore_n 3, 1) := by decide +kernel
theorem dX11_lose_17 : decode cX11_lose 17 = .ok (.aload_n 0, 1) := by decide +kernel
theorem dX11_lose_18 : decode cX11_lose 18 = .ok (.getfield 35, 3) := by decide +kernel
theorem dX11_lose_21 : decode cX11_lose 21 = .ok (.getfield 250, 3) := by decide +kernel
theorem dX11_lose_24 : decode cX11_lose 24 = .ok (.iload_n 1, 1) := by decide +kernel
theorem dX11_lose_25 : decode cX11_lose 25 = .ok (.invokestatic 101, 3) := by decide +kernel
theorem dX11_lose_28 : decode cX11_lose 28 = .ok (.iload_n 3, 1) := by decide +kernel
theorem dX11_lose_29 : decode cX11_lose 29 = .ok (.invokevirtual 105, 3) := by decide +kernel
theorem dX11_lose_32 : decode cX11_lose 32 = .ok (.iload_n 2, 1) := by decide +kernel
theorem dX11_lose_33 : decode cX11_lose 33 = .ok (.iload_n 3, 1) := by decide +kernel
theorem dX11_lose_34 : decode cX11_lose 34 = .ok (.isub, 1) := by decide +kernel
theorem dX11_lose_35 : decode cX11_lose 35 = .ok (.ireturn, 1) := by decide +kernel
theorem dX11_requireDay_0 : decode cX11_requireDay 0 = .ok (.iload_n 0, 1) := by decide +kernel
theorem dX11_requireDay_1 : decode cX11_requireDay 1 = .ok (.iconst 1, 1) := by decide +kernel
theorem dX11_requireDay_2 : decode cX11_requireDay 2 = .ok (.if_icmp .lt 9, 3) := by decide +kernel
theorem dX11_requireDay_5 : decode cX11_requireDay 5 = .ok (.iload_n 0, 1) := by decide +kernel
theorem dX11_requireDay_6 : decode cX11_requireDay 6 = .ok (.bipush 99, 2) := by decide +kernel
theorem dX11_requireDay_8 : decode cX11_requireDay 8 = .ok (.if_icmp .le 14, 3) := by decide +kernel
theorem dX11_requireDay_11 : decode cX11_requireDay 11 = .ok (.new 83, 3) := by decide +kernel
theorem dX11_requireDay_14 : decode cX11_requireDay 14 = .ok (.dup, 1) := by decide +kernel
theorem dX11_requireDay_15 : decode cX11_requireDay 15 = .ok (.ldc_w 277, 3) := by decide +kernel
theorem dX11_requireDay_18 : decode cX11_requireDay 18 = .ok (.invokespecial 87, 3) := by decide +kernel
theorem dX11_requireDay_21 : decode cX11_requireDay 21 = .ok (.athrow, 1) := by decide +kernel
theorem dX11_requireDay_22 : decode cX11_requireDay 22 = .ok (.return_, 1) := by decide +kernel
theorem dX12_init_0 : decode cX12_init 0 = .ok (.aload_n 0, 1) := by decide +kernel
theorem dX12_init_1 : decode cX12_init 1 = .ok (.invokespecial 1, 3) := by decide +kernel
theorem dX12_init_4 : decode cX12_init 4 = .ok (.aload_n 0, 1) := by decide +kernel
theorem dX12_init_5 : decode cX12_init 5 = .ok (.new 7, 3) := by decide +kernel
theorem dX12_init_8 : decode cX12_init 8 = .ok (.dup, 1) := by decide +kernel
theorem dX12_init_9 : decode cX12_init 9 = .ok (.invokespecial 9, 3) := by decide +kernel
theorem dX12_init_12 : decode cX12_init 12 = .ok (.putfield 10, 3) := by decide +kernel
theorem dX12_init_15 : decode cX12_init 15 = .ok (.aload_n 0, 1) := by decide +kernel
theorem dX12_init_16 : decode cX12_init 16 = .ok (.new 7, 3) := by decide +kernel
theorem dX12_init_19 : decode cX12_init 19 = .ok (.dup, 1) := by decide +kernel
theorem dX12_init_20 : decode cX12_init 20 = .ok (.invokespecial 9, 3) := by decide +kernel
theorem dX12_init_23 : decode cX12_init 23 = .ok (.putfield 16, 3) := by decide +kernel
theorem dX12_init_26 : decode cX12_init 26 = .ok (.aload_n 0, 1) := by decide +kernel
theorem dX12_init_27 : decode cX12_init 27 = .ok (.new 19, 3) := by decide +kernel
theorem dX12_init_30 : decode cX12_init 30 = .ok (.dup, 1) := by decide +kernel
theorem dX12_init_31 : decode cX12_init 31 = .ok (.invokespecial 21, 3) := by decide +kernel
theorem dX12_init_34 : decode cX12_init 34 = .ok (.putfield 22, 3) := by decide +kernel
theorem dX12_init_37 : decode cX12_init 37 = .ok (.aload_n 0, 1) := by decide +kernel
theorem dX12_init_38 : decode cX12_init 38 = .ok (.new 26, 3) := by decide +kernel
theorem dX12_init_41 : decode cX12_init 41 = .ok (.dup, 1) := by decide +kernel
theorem dX12_init_42 : decode cX12_init 42 = .ok (.invokespecial 28, 3) := by decide +kernel
theorem dX12_init_45 : decode cX12_init 45 = .ok (.putfield 29, 3) := by decide +kernel
theorem dX12_init_48 : decode cX12_init 48 = .ok (.aload_n 0, 1) := by decide +kernel
theorem dX12_init_49 : decode cX12_init 49 = .ok (.new 33, 3) := by decide +kernel
theorem dX12_init_52 : decode cX12_init 52 = .ok (.dup, 1) := by decide +kernel
theorem dX12_init_53 : decode cX12_init 53 = .ok (.invokespecial 35, 3) := by decide +kernel
theorem dX12_init_56 : decode cX12_init 56 = .ok (.putfield 36, 3) := by decide +kernel
theorem dX12_init_59 : decode cX12_init 59 = .ok (.aload_n 0, 1) := by decide +kernel
theorem dX12_init_60 : decode cX12_init 60 = .ok (.new 40, 3) := by decide +kernel
theorem dX12_init_63 : decode cX12_init 63 = .ok (.dup, 1) := by decide +kernel
theorem dX12_init_64 : decode cX12_init 64 = .ok (.invokespecial 42, 3) := by decide +kernel
theorem dX12_init_67 : decode cX12_init 67 = .ok (.putfield 43, 3) := by decide +kernel
theorem dX12_init_70 : decode cX12_init 70 = .ok (.aload_n 0, 1) := by decide +kernel
theorem dX12_init_71 : decode cX12_init 71 = .ok (.iconst 0, 1) := by decide +kernel
theorem dX12_init_72 : decode cX12_init 72 = .ok (.putfield 47, 3) := by decide +kernel
theorem dX12_init_75 : decode cX12_init 75 = .ok (.aload_n 0, 1) := by decide +kernel
theorem dX12_init_76 : decode cX12_init 76 = .ok (.iconst (-1), 1) := by decide +kernel
theorem dX12_init_77 : decode cX12_init 77 = .ok (.putfield 51, 3) := by decide +kernel
theorem dX12_init_80 : decode cX12_init 80 = .ok (.aload_n 0, 1) := by decide +kernel
theorem dX12_init_81 : decode cX12_init 81 = .ok (.iconst (-1), 1) := by decide +kernel
theorem dX12_init_82 : decode cX12_init 82 = .ok (.putfield 55, 3) := by decide +kernel
theorem dX12_init_85 : decode cX12_init 85 = .ok (.return_, 1) := by decide +kernel
theorem dX12_addSpool_0 : decode cX12_addSpool 0 = .ok (.aload_n 0, 1) := by decide +kernel
theorem dX12_addSpool_1 : decode cX12_addSpool 1 = .ok (.getfield 22, 3) := by decide +kernel
theorem dX12_addSpool_4 : decode cX12_addSpool 4 = .ok (.aload_n 0, 1) := by decide +kernel
theorem dX12_addSpool_5 : decode cX12_addSpool 5 = .ok (.getfield 10, 3) := by decide +kernel
theorem dX12_addSpool_8 : decode cX12_addSpool 8 = .ok (.invokevirtual 58, 3) := by decide +kernel
theorem dX12_addSpool_11 : decode cX12_addSpool 11 = .ok (.aload_n 0, 1) := by decide +kernel
theorem dX12_addSpool_12 : decode cX12_addSpool 12 = .ok (.getfield 10, 3) := by decide +kernel
theorem dX12_addSpool_15 : decode cX12_addSpool 15 = .ok (.iload_n 1, 1) := by decide +kernel
theorem dX12_addSpool_16 : decode cX12_addSpool 16 = .ok (.iload_n 2, 1) := by decide +kernel
theorem dX12_addSpool_17 : decode cX12_addSpool 17 = .ok (.invokevirtual 62, 3) := by decide +kernel
theorem dX12_addSpool_20 : decode cX12_addSpool 20 = .ok (.istore_n 3, 1) := by decide +kernel
theorem dX12_addSpool_21 : decode cX12_addSpool 21 = .ok (.aload_n 0, 1) := by decide +kernel
theorem dX12_addSpool_22 : decode cX12_addSpool 22 = .ok (.getfield 22, 3) := by decide +kernel
theorem dX12_addSpool_25 : decode cX12_addSpool 25 = .ok (.invokevirtual 66, 3) := by decide +kernel
theorem dX12_addSpool_28 : decode cX12_addSpool 28 = .ok (.iload_n 3, 1) := by decide +kernel
theorem dX12_addSpool_29 : decode cX12_addSpool 29 = .ok (.ireturn, 1) := by decide +kernel
theorem dX12_retire_0 : decode cX12_retire 0 = .ok (.aload_n 0, 1) := by decide +kernel
theorem dX12_retire_1 : decode cX12_retire 1 = .ok (.getfield 22, 3) := by decide +kernel
theorem dX12_retire_4 : decode cX12_retire 4 = .ok (.aload_n 0, 1) := by decide +kernel
theorem dX12_retire_5 : decode cX12_retire 5 = .ok (.getfield 10, 3) := by decide +kernel
theorem dX12_retire_8 : decode cX12_retire 8 = .ok (.invokevirtual 58, 3) := by decide +kernel
theorem dX12_retire_11 : decode cX12_retire 11 = .ok (.aload_n 0, 1) := by decide +kernel
theorem dX12_retire_12 : decode cX12_retire 12 = .ok (.getfield 10, 3) := by decide +kernel
theorem dX12_retire_15 : decode cX12_retire 15 = .ok (.iload_n 1, 1) := by decide +kernel
theorem dX12_retire_16 : decode cX12_retire 16 = .ok (.invokevirtual 69, 3) := by decide +kernel
theorem dX12_retire_19 : decode cX12_retire 19 = .ok (.istore_n 2, 1) := by decide +kernel
theorem dX12_retire_20 : decode cX12_retire 20 = .ok (.aload_n 0, 1) := by decide +kernel
theorem dX12_retire_21 : decode cX12_retire 21 = .ok (.getfield 22, 3) := by decide +kernel
theorem dX12_retire_24 : decode cX12_retire 24 = .ok (.invokevirtual 66, 3) := by decide +kernel
theorem dX12_retire_27 : decode cX12_retire 27 = .ok (.iload_n 2, 1) := by decide +kernel
theorem dX12_retire_28 : decode cX12_retire 28 = .ok (.ireturn, 1) := by decide +kernel
theorem dX12_throwScraps_0 : decode cX12_throwScraps 0 = .ok (.aload_n 0, 1) := by decide +kernel
theorem dX12_throwScraps_1 : decode cX12_throwScraps 1 = .ok (.getfield 22, 3) := by decide +kernel
theorem dX12_throwScraps_4 : decode cX12_throwScraps 4 = .ok (.aload_n 0, 1) := by decide +kernel
theorem dX12_throwScraps_5 : decode cX12_throwScraps 5 = .ok (.getfield 10, 3) := by decide +kernel
theorem dX12_throwScraps_8 : decode cX12_throwScraps 8 = .ok (.invokevirtual 58, 3) := by decide +kernel
theorem dX12_throwScraps_11 : decode cX12_throwScraps 11 = .ok (.aload_n 0, 1) := by decide +kernel
theorem dX12_throwScraps_12 : decode cX12_throwScraps 12 = .ok (.getfield 10, 3) := by decide +kernel
theorem dX12_throwScraps_15 : decode cX12_throwScraps 15 = .ok (.iload_n 1, 1) := by decide +kernel
theorem dX12_throwScraps_16 : decode cX12_throwScraps 16 = .ok (.invokevirtual 73, 3) := by decide +kernel
theorem dX12_throwScraps_19 : decode cX12_throwScraps 19 = .ok (.istore_n 2, 1) := by decide +kernel
theorem dX12_throwScraps_20 : decode cX12_throwScraps 20 = .ok (.aload_n 0, 1) := by decide +kernel
theorem dX12_throwScraps_21 : decode cX12_throwScraps 21 = .ok (.getfield 22, 3) := by decide +kernel
theorem dX12_throwScraps_24 : decode cX12_throwScraps 24 = .ok (.invokevirtual 66, 3) := by decide +kernel
theorem dX12_throwScraps_27 : decode cX12_throwScraps 27 = .ok (.iload_n 2, 1) := by decide +kernel
theorem dX12_throwScraps_28 : decode cX12_throwScraps 28 = .ok (.ireturn, 1) := by decide +kernel
theorem dX12_addOrder_0 : decode cX12_addOrder 0 = .ok (.aload_n 0, 1) := by decide +kernel
theorem dX12_addOrder_1 : decode cX12_addOrder 1 = .ok (.getfield 22, 3) := by decide +kernel
theorem dX12_addOrder_4 : decode cX12_addOrder 4 = .ok (.aload_n 0, 1) := by decide +kernel
theorem dX12_addOrder_5 : decode cX12_addOrder 5 = .ok (.getfield 10, 3) := by decide +kernel
theorem dX12_addOrder_8 : decode cX12_addOrder 8 = .ok (.invokevirtual 58, 3) := by decide +kernel
theorem dX12_addOrder_11 : decode cX12_addOrder 11 = .ok (.aload_n 0, 1) := by decide +kernel
theorem dX12_addOrder_12 : decode cX12_addOrder 12 = .ok (.getfield 10, 3) := by decide +kernel
theorem dX12_addOrder_15 : decode cX12_addOrder 15 = .ok (.iload_n 1, 1) := by decide +kernel
theorem dX12_addOrder_16 : decode cX12_addOrder 16 = .ok (.iload_n 2, 1) := by decide +kernel
theorem dX12_addOrder_17 : decode cX12_addOrder 17 = .ok (.iload_n 3, 1) := by decide +kernel
theorem dX12_addOrder_18 : decode cX12_addOrder 18 = .ok (.invokevirtual 77, 3) := by decide +kernel
theorem dX12_addOrder_21 : decode cX12_addOrder 21 = .ok (.istore 4, 2) := by decide +kernel
theorem dX12_addOrder_23 : decode cX12_addOrder 23 = .ok (.aload_n 0, 1) := by decide +kernel
theorem dX12_addOrder_24 : decode cX12_addOrder 24 = .ok (.getfield 22, 3) := by decide +kernel
theorem dX12_addOrder_27 : decode cX12_addOrder 27 = .ok (.invokevirtual 66, 3) := by decide +kernel
theorem dX12_addOrder_30 : decode cX12_addOrder 30 = .ok (.iload 4, 2) := by decide +kernel
theorem dX12_addOrder_32 : decode cX12_addOrder 32 = .ok (.ireturn, 1) := by decide +kernel
theorem dX12_cancel_0 : decode cX12_cancel 0 = .ok (.aload_n 0, 1) := by decide +kernel
theorem dX12_cancel_1 : decode cX12_cancel 1 = .ok (.getfield 22, 3) := by decide +kernel
theorem dX12_cancel_4 : decode cX12_cancel 4 = .ok (.aload_n 0, 1) := by decide +kernel
theorem dX12_cancel_5 : decode cX12_cancel 5 = .ok (.getfield 10, 3) := by decide +kernel
theorem dX12_cancel_8 : decode cX12_cancel 8 = .ok (.invokevirtual 58, 3) := by decide +kernel
theorem dX12_cancel_11 : decode cX12_cancel 11 = .ok (.aload_n 0, 1) := by decide +kernel
theorem dX12_cancel_12 : decode cX12_cancel 12 = .ok (.getfield 10, 3) := by decide +kernel
theorem dX12_cancel_15 : decode cX12_cancel 15 = .ok (.iload_n 1, 1) := by decide +kernel
theorem dX12_cancel_16 : decode cX12_cancel 16 = .ok (.invokevirtual 81, 3) := by decide +kernel
theorem dX12_cancel_19 : decode cX12_cancel 19 = .ok (.istore_n 2, 1) := by decide +kernel
theorem dX12_cancel_20 : decode cX12_cancel 20 = .ok (.aload_n 0, 1) := by decide +kernel
theorem dX12_cancel_21 : decode cX12_cancel 21 = .ok (.getfield 22, 3) := by decide +kernel
theorem dX12_cancel_24 : decode cX12_cancel 24 = .ok (.invokevirtual 66, 3) := by decide +kernel
theorem dX12_cancel_27 : decode cX12_cancel 27 = .ok (.iload_n 2, 1) := by decide +kernel
theorem dX12_cancel_28 : decode cX12_cancel 28 = .ok (.ireturn, 1) := by decide +kernel
theorem dX12_fill_0 : decode cX12_fill 0 = .ok (.aload_n 0, 1) := by decide +kernel
theorem dX12_fill_1 : decode cX12_fill 1 = .ok (.getfield 22, 3) := by decide +kernel
theorem dX12_fill_4 : decode cX12_fill 4 = .ok (.aload_n 0, 1) := by decide +kernel
theorem dX12_fill_5 : decode cX12_fill 5 = .ok (.getfield 10, 3) := by decide +kernel
theorem dX12_fill_8 : decode cX12_fill 8 = .ok (.invokevirtual 58, 3) := by decide +kernel
theorem dX12_fill_11 : decode cX12_fill 11 = .ok (.aload_n 0, 1) := by decide +kernel
theorem dX12_fill_12 : decode cX12_fill 12 = .ok (.getfield 10, 3) := by decide +kernel
theorem dX12_fill_15 : decode cX12_fill 15 = .ok (.iload_n 1, 1) := by decide +kernel
theorem dX12_fill_16 : decode cX12_fill 16 = .ok (.invokevirtual 84, 3) := by decide +kernel
theorem dX12_fill_19 : decode cX12_fill 19 = .ok (.istore_n 2, 1) := by decide +kernel
theorem dX12_fill_20 : decode cX12_fill 20 = .ok (.aload_n 0, 1) := by decide +kernel
theorem dX12_fill_21 : decode cX12_fill 21 = .ok (.getfield 22, 3) := by decide +kernel
theorem dX12_fill_24 : decode cX12_fill 24 = .ok (.invokevirtual 66, 3) := by decide +kernel
theorem dX12_fill_27 : decode cX12_fill 27 = .ok (.iload_n 2, 1) := by decide +kernel
theorem dX12_fill_28 : decode cX12_fill 28 = .ok (.ireturn, 1) := by decide +kernel
theorem dX12_fillDue_0 : decode cX12_fillDue 0 = .ok (.aload_n 0, 1) := by decide +kernel
theorem dX12_fillDue_1 : decode cX12_fillDue 1 = .ok (.getfield 22, 3) := by decide +kernel
theorem dX12_fillDue_4 : decode cX12_fillDue 4 = .ok (.aload_n 0, 1) := by decide +kernel
theorem dX12_fillDue_5 : decode cX12_fillDue 5 = .ok (.getfield 10, 3) := by decide +kernel
theorem dX12_fillDue_8 : decode cX12_fillDue 8 = .ok (.invokevirtual 58, 3) := by decide +kernel
theorem dX12_fillDue_11 : decode cX12_fillDue 11 = .ok (.aload_n 0, 1) := by decide +kernel
theorem dX12_fillDue_12 : decode cX12_fillDue 12 = .ok (.getfield 10, 3) := by decide +kernel
theorem dX12_fillDue_15 : decode cX12_fillDue 15 = .ok (.iload_n 1, 1) := by decide +kernel
theorem dX12_fillDue_16 : decode cX12_fillDue 16 = .ok (.invokevirtual 87, 3) := by decide +kernel
theorem dX12_fillDue_19 : decode cX12_fillDue 19 = .ok (.istore_n 2, 1) := by decide +kernel
theorem dX12_fillDue_20 : decode cX12_fillDue 20 = .ok (.aload_n 0, 1) := by decide +kernel
theorem dX12_fillDue_21 : decode cX12_fillDue 21 = .ok (.getfield 22, 3) := by decide +kernel
theorem dX12_fillDue_24 : decode cX12_fillDue 24 = .ok (.invokevirtual 66, 3) := by decide +kernel
theorem dX12_fillDue_27 : decode cX12_fillDue 27 = .ok (.iload_n 2, 1) := by decide +kernel
theorem dX12_fillDue_28 : decode cX12_fillDue 28 = .ok (.ireturn, 1) := by decide +kernel
theorem dX12_setKerf_0 : decode cX12_setKerf 0 = .ok (.aload_n 0, 1) := by decide +kernel
theorem dX12_setKerf_1 : decode cX12_setKerf 1 = .ok (.getfield 22, 3) := by decide +kernel
theorem dX12_setKerf_4 : decode cX12_setKerf 4 = .ok (.aload_n 0, 1) := by decide +kernel
theorem dX12_setKerf_5 : decode cX12_setKerf 5 = .ok (.getfield 10, 3) := by decide +kernel
theorem dX12_setKerf_8 : decode cX12_setKerf 8 = .ok (.invokevirtual 58, 3) := by decide +kernel
theorem dX12_setKerf_11 : decode cX12_setKerf 11 = .ok (.aload_n 0, 1) := by decide +kernel
theorem dX12_setKerf_12 : decode cX12_setKerf 12 = .ok (.getfield 10, 3) := by decide +kernel
theorem dX12_setKerf_15 : decode cX12_setKerf 15 = .ok (.iload_n 1, 1) := by decide +kernel
theorem dX12_setKerf_16 : decode cX12_setKerf 16 = .ok (.invokevirtual 90, 3) := by decide +kernel
theorem dX12_setKerf_19 : decode cX12_setKerf 19 = .ok (.istore_n 2, 1) := by decide +kernel
theorem dX12_setKerf_20 : decode cX12_setKerf 20 = .ok (.aload_n 0, 1) := by decide +kernel
theorem dX12_setKerf_21 : decode cX12_setKerf 21 = .ok (.getfield 22, 3) := by decide +kernel
theorem dX12_setKerf_24 : decode cX12_setKerf 24 = .ok (.invokevirtual 66, 3) := by decide +kernel
theorem dX12_setKerf_27 : decode cX12_setKerf 27 = .ok (.iload_n 2, 1) := by decide +kernel
theorem dX12_setKerf_28 : decode cX12_setKerf 28 = .ok (.ireturn, 1) := by decide +kernel
theorem dX12_setScrapLimit_0 : decode cX12_setScrapLimit 0 = .ok (.aload_n 0, 1) := by decide +kernel
theorem dX12_setScrapLimit_1 : decode cX12_setScrapLimit 1 = .ok (.getfield 22, 3) := by decide +kernel
theorem dX12_setScrapLimit_4 : decode cX12_setScrapLimit 4 = .ok (.aload_n 0, 1) := by decide +kernel
theorem dX12_setScrapLimit_5 : decode cX12_setScrapLimit 5 = .ok (.getfield 10, 3) := by decide +kernel
theorem dX12_setScrapLimit_8 : decode cX12_setScrapLimit 8 = .ok (.invokevirtual 58, 3) := by decide +kernel
theorem dX12_setScrapLimit_11 : decode cX12_setScrapLimit 11 = .ok (.aload_n 0, 1) := by decide +kernel
theorem dX12_setScrapLimit_12 : decode cX12_setScrapLimit 12 = .ok (.getfield 10, 3) := by decide +kernel
theorem dX12_setScrapLimit_15 : decode cX12_setScrapLimit 15 = .ok (.iload_n 1, 1) := by decide +kernel
theorem dX12_setScrapLimit_16 : decode cX12_setScrapLimit 16 = .ok (.invokevirtual 93, 3) := by decide +kernel
theorem dX12_setScrapLimit_19 : decode cX12_setScrapLimit 19 = .ok (.istore_n 2, 1) := by decide +kernel
theorem dX12_setScrapLimit_20 : decode cX12_setScrapLimit 20 = .ok (.aload_n 0, 1) := by decide +kernel
theorem dX12_setScrapLimit_21 : decode cX12_setScrapLimit 21 = .ok (.getfield 22, 3) := by decide +kernel
theorem dX12_setScrapLimit_24 : decode cX12_setScrapLimit 24 = .ok (.invokevirtual 66, 3) := by decide +kernel
theorem dX12_setScrapLimit_27 : decode cX12_setScrapLimit 27 = .ok (.iload_n 2, 1) := by decide +kernel
theorem dX12_setScrapLimit_28 : decode cX12_setScrapLimit 28 = .ok (.ireturn, 1) := by decide +kernel
theorem dX12_setRule_0 : decode cX12_setRule 0 = .ok (.aload_n 0, 1) := by decide +kernel
theorem dX12_setRule_1 : decode cX12_setRule 1 = .ok (.getfield 22, 3) := by decide +kernel
theorem dX12_setRule_4 : decode cX12_setRule 4 = .ok (.aload_n 0, 1) := by decide +kernel
theorem dX12_setRule_5 : decode cX12_setRule 5 = .ok (.getfield 10, 3) := by decide +kernel
theorem dX12_setRule_8 : decode cX12_setRule 8 = .ok (.invokevirtual 58, 3) := by decide +kernel
theorem dX12_setRule_11 : decode cX12_setRule 11 = .ok (.aload_n 0, 1) := by decide +kernel
theorem dX12_setRule_12 : decode cX12_setRule 12 = .ok (.getfield 10, 3) := by decide +kernel
theorem dX12_setRule_15 : decode cX12_setRule 15 = .ok (.iload_n 1, 1) := by decide +kernel
theorem dX12_setRule_16 : decode cX12_setRule 16 = .ok (.invokevirtual 96, 3) := by decide +kernel
theorem dX12_setRule_19 : decode cX12_setRule 19 = .ok (.istore_n 2, 1) := by decide +kernel
theorem dX12_setRule_20 : decode cX12_setRule 20 = .ok (.aload_n 0, 1) := by decide +kernel
theorem dX12_setRule_21 : decode cX12_setRule 21 = .ok (.getfield 22, 3) := by decide +kernel
theorem dX12_setRule_24 : decode cX12_setRule 24 = .ok (.invokevirtual 66, 3) := by decide +kernel
theorem dX12_setRule_27 : decode cX12_setRule 27 = .ok (.iload_n 2, 1) := by decide +kernel
theorem dX12_setRule_28 : decode cX12_setRule 28 = .ok (.ireturn, 1) := by decide +kernel
theorem dX12_kerf_0 : decode cX12_kerf 0 = .ok (.aload_n 0, 1) := by decide +kernel
theorem dX12_kerf_1 : decode cX12_kerf 1 = .ok (.getfield 10, 3) := by decide +kernel
theorem dX12_kerf_4 : decode cX12_kerf 4 = .ok (.getfield 100, 3) := by decide +kernel
theorem dX12_kerf_7 : decode cX12_kerf 7 = .ok (.ireturn, 1) := by decide +kernel
theorem dX12_scrapLimit_0 : decode cX12_scrapLimit 0 = .ok (.aload_n 0, 1) := by decide +kernel
theorem dX12_scrapLimit_1 : decode cX12_scrapLimit 1 = .ok (.getfield 10, 3) := by decide +kernel
theorem dX12_scrapLimit_4 : decode cX12_scrapLimit 4 = .ok (.getfield 103, 3) := by decide +kernel
theorem dX12_scrapLimit_7 : decode cX12_scrapLimit 7 = .ok (.ireturn, 1) := by decide +kernel
theorem dX12_rule_0 : decode cX12_rule 0 = .ok (.aload_n 0, 1) := by decide +kernel
theorem dX12_rule_1 : decode cX12_rule 1 = .ok (.getfield 10, 3) := by decide +kernel
theorem dX12_rule_4 : decode cX12_rule 4 = .ok (.getfield 106, 3) := by decide +kernel
theorem dX12_rule_7 : decode cX12_rule 7 = .ok (.ireturn, 1) := by decide +kernel
theorem dX12_spools_0 : decode cX12_spools 0 = .ok (.aload_n 0, 1) := by decide +kernel
theorem dX12_spools_1 : decode cX12_spools 1 = .ok (.getfield 10, 3) := by decide +kernel
theorem dX12_spools_4 : decode cX12_spools 4 = .ok (.getfield 110, 3) := by decide +kernel
theorem dX12_spools_7 : decode cX12_spools 7 = .ok (.invokevirtual 114, 3) := by decide +kernel
theorem dX12_spools_10 : decode cX12_spools 10 = .ok (.ireturn, 1) := by decide +kernel
theorem dX12_hasSpool_0 : decode cX12_hasSpool 0 = .ok (.aload_n 0, 1) := by decide +kernel
theorem dX12_hasSpool_1 : decode cX12_hasSpool 1 = .ok (.getfield 10, 3) := by decide +kernel
theorem dX12_hasSpool_4 : decode cX12_hasSpool 4 = .ok (.getfield 110, 3) := by decide +kernel
theorem dX12_hasSpool_7 : decode cX12_hasSpool 7 = .ok (.iload_n 1, 1) := by decide +kernel
theorem dX12_hasSpool_8 : decode cX12_hasSpool 8 = .ok (.invokevirtual 120, 3) := by decide +kernel
theorem dX12_hasSpool_11 : decode cX12_hasSpool 11 = .ok (.iconst (-1), 1) := by decide +kernel
theorem dX12_hasSpool_12 : decode cX12_hasSpool 12 = .ok (.if_icmp .eq 7, 3) := by decide +kernel
theorem dX12_hasSpool_15 : decode cX12_hasSpool 15 = .ok (.iconst 1, 1) := by decide +kernel
theorem dX12_hasSpool_16 : decode cX12_hasSpool 16 = .ok (.goto 4, 3) := by decide +kernel
theorem dX12_hasSpool_19 : decode cX12_hasSpool 19 = .ok (.iconst 0, 1) := by decide +kernel
theorem dX12_hasSpool_20 : decode cX12_hasSpool 20 = .ok (.ireturn, 1) := by decide +kernel
theorem dX12_material_0 : decode cX12_material 0 = .ok (.aload_n 0, 1) := by decide +kernel
theorem dX12_material_1 : decode cX12_material 1 = .ok (.getfield 10, 3) := by decide +kernel
theorem dX12_material_4 : decode cX12_material 4 = .ok (.getfield 110, 3) := by decide +kernel
theorem dX12_material_7 : decode cX12_material 7 = .ok (.aload_n 0, 1) := by decide +kernel
theorem dX12_material_8 : decode cX12_material 8 = .ok (.getfield 10, 3) := by decide +kernel
theorem dX12_material_11 : decode cX12_material 11 = .ok (.iload_n 1, 1) := by decide +kernel
theorem dX12_material_12 : decode cX12_material 12 = .ok (.invokevirtual 123, 3) := by decide +kernel
theorem dX12_material_15 : decode cX12_material 15 = .ok (.invokevirtual 126, 3) := by decide +kernel
theorem dX12_material_18 : decode cX12_material 18 = .ok (.ireturn, 1) := by decide +kernel
theorem dX12_remaining_0 : decode cX12_remaining 0 = .ok (.aload_n 0, 1) := by decide +kernel
theorem dX12_remaining_1 : decode cX12_remaining 1 = .ok (.getfield 10, 3) := by decide +kernel
theorem dX12_remaining_4 : decode cX12_remaining 4 = .ok (.getfield 110, 3) := by decide +kernel
theorem dX12_remaining_7 : decode cX12_remaining 7 = .ok (.aload_n 0, 1) := by decide +kernel
theorem dX12_remaining_8 : decode cX12_remaining 8 = .ok (.getfield 10, 3) := by decide +kernel
theorem dX12_remaining_11 : decode cX12_remaining 11 = .ok (.iload_n 1, 1) := by decide +kernel
theorem dX12_remaining_12 : decode cX12_remaining 12 = .ok (.invokevirtual 123, 3) := by decide +kernel
theorem dX12_remaining_15 : decode cX12_remaining 15 = .ok (.invokevirtual 130, 3) := by decide +kernel
theorem dX12_remaining_18 : decode cX12_remaining 18 = .ok (.ireturn, 1) := by decide +kernel
theorem dX12_cuts_0 : decode cX12_cuts 0 = .ok (.aload_n 0, 1) := by decide +kernel
theorem dX12_cuts_1 : decode cX12_cuts 1 = .ok (.getfield 10, 3) := by decide +kernel
theorem dX12_cuts_4 : decode cX12_cuts 4 = .ok (.getfield 110, 3) := by decide +kernel
theorem dX12_cuts_7 : decode cX12_cuts 7 = .ok (.aload_n 0, 1) := by decide +kernel
theorem dX12_cuts_8 : decode cX12_cuts 8 = .ok (.getfield 10, 3) := by decide +kernel
theorem dX12_cuts_11 : decode cX12_cuts 11 = .ok (.iload_n 1, 1) := by decide +kernel
theorem dX12_cuts_12 : decode cX12_cuts 12 = .ok (.invokevirtual 123, 3) := by decide +kernel
theorem dX12_cuts_15 : decode cX12_cuts 15 = .ok (.invokevirtual 133, 3) := by decide +kernel
theorem dX12_cuts_18 : decode cX12_cuts 18 = .ok (.ireturn, 1) := by decide +kernel
theorem dX12_spoolByLength_0 : decode cX12_spoolByLength 0 = .ok (.aload_n 0, 1) := by decide +kernel
theorem dX12_spoolByLength_1 : decode cX12_spoolByLength 1 = .ok (.getfield 10, 3) := by decide +kernel
theorem dX12_spoolByLength_4 : decode cX12_spoolByLength 4 = .ok (.getfield 110, 3) := by decide +kernel
theorem dX12_spoolByLength_7 : decode cX12_spoolByLength 7 = .ok (.iload_n 1, 1) := by decide +kernel
theorem dX12_spoolByLength_8 : decode cX12_spoolByLength 8 = .ok (.invokevirtual 136, 3) := by decide +kernel
theorem dX12_spoolByLength_11 : decode cX12_spoolByLength 11 = .ok (.istore_n 2, 1) := by decide +kernel
theorem dX12_spoolByLength_12 : decode cX12_spoolByLength 12 = .ok (.iload_n 2, 1) := by decide +kernel
theorem dX12_spoolByLength_13 : decode cX12_spoolByLength 13 = .ok (.iconst (-1), 1) := by decide +kernel
theorem dX12_spoolByLength_14 : decode cX12_spoolByLength 14 = .ok (.if_icmp .ne 13, 3) := by decide +kernel
theorem dX12_spoolByLength_17 : decode cX12_spoolByLength 17 = .ok (.new 139, 3) := by decide +kernel
theorem dX12_spoolByLength_20 : decode cX12_spoolByLength 20 = .ok (.dup, 1) := by decide +kernel
theorem dX12_spoolByLength_21 : decode cX12_spoolByLength 21 = .ok (.ldc 141, 2) := by decide +kernel
theorem dX12_spoolByLength_23 : decode cX12_spoolByLength 23 = .ok (.invokespecial 143, 3) := by decide +kernel
theorem dX12_spoolByLength_26 : decode cX12_spoolByLength 26 = .ok (.athrow, 1) := by decide +kernel
theorem dX12_spoolByLength_27 : decode cX12_spoolByLength 27 = .ok (.aload_n 0, 1) := by decide +kernel
theorem dX12_spoolByLength_28 : decode cX12_spoolByLength 28 = .ok (.getfield 10, 3) := by decide +kernel
theorem dX12_spoolByLength_31 : decode cX12_spoolByLength 31 = .ok (.getfield 110, 3) := by decide +kernel
theorem dX12_spoolByLength_34 : decode cX12_spoolByLength 34 = .ok (.iload_n 2, 1) := by decide +kernel
theorem dX12_spoolByLength_35 : decode cX12_spoolByLength 35 = .ok (.invokevirtual 146, 3) := by decide +kernel
theorem dX12_spoolByLength_38 : decode cX12_spoolByLength 38 = .ok (.ireturn, 1) := by decide +kernel
theorem dX12_scraps_0 : decode cX12_scraps 0 = .ok (.iload_n 1, 1) := by decide +kernel
theorem dX12_scraps_1 : decode cX12_scraps 1 = .ok (.invokestatic 149, 3) := by decide +kernel
theorem dX12_scraps_4 : decode cX12_scraps 4 = .ok (.aload_n 0, 1) := by decide +kernel
theorem dX12_scraps_5 : decode cX12_scraps 5 = .ok (.getfield 10, 3) := by decide +kernel
theorem dX12_scraps_8 : decode cX12_scraps 8 = .ok (.getfield 153, 3) := by decide +kernel
theorem dX12_scraps_11 : decode cX12_scraps 11 = .ok (.iload_n 1, 1) := by decide +kernel
theorem dX12_scraps_12 : decode cX12_scraps 12 = .ok (.invokevirtual 157, 3) := by decide +kernel
theorem dX12_scraps_15 : decode cX12_scraps 15 = .ok (.ireturn, 1) := by decide +kernel
theorem dX12_scrap_0 : decode cX12_scrap 0 = .ok (.iload_n 1, 1) := by decide +kernel
theorem dX12_scrap_1 : decode cX12_scrap 1 = .ok (.invokestatic 149, 3) := by decide +kernel
theorem dX12_scrap_4 : decode cX12_scrap 4 = .ok (.aload_n 0, 1) := by decide +kernel
theorem dX12_scrap_5 : decode cX12_scrap 5 = .ok (.getfield 10, 3) := by decide +kernel
theorem dX12_scrap_8 : decode cX12_scrap 8 = .ok (.getfield 153, 3) := by decide +kernel
theorem dX12_scrap_11 : decode cX12_scrap 11 = .ok (.iload_n 1, 1) := by decide +kernel
theorem dX12_scrap_12 : decode cX12_scrap 12 = .ok (.iload_n 2, 1) := by decide +kernel
theorem dX12_scrap_13 : decode cX12_scrap 13 = .ok (.invokevirtual 162, 3) := by decide +kernel
theorem dX12_scrap_16 : decode cX12_scrap 16 = .ok (.istore_n 3, 1) := by decide +kernel
theorem dX12_scrap_17 : decode cX12_scrap 17 = .ok (.iload_n 3, 1) := by decide +kernel
theorem dX12_scrap_18 : decode cX12_scrap 18 = .ok (.iconst (-1), 1) := by decide +kernel
theorem dX12_scrap_19 : decode cX12_scrap 19 = .ok (.if_icmp .ne 13, 3) := by decide +kernel
theorem dX12_scrap_22 : decode cX12_scrap 22 = .ok (.new 139, 3) := by decide +kernel
theorem dX12_scrap_25 : decode cX12_scrap 25 = .ok (.dup, 1) := by decide +kernel
theorem dX12_scrap_26 : decode cX12_scrap 26 = .ok (.ldc 141, 2) := by decide +kernel
theorem dX12_scrap_28 : decode cX12_scrap 28 = .ok (.invokespecial 143, 3) := by decide +kernel
theorem dX12_scrap_31 : decode cX12_scrap 31 = .ok (.athrow, 1) := by decide +kernel
theorem dX12_scrap_32 : decode cX12_scrap 32 = .ok (.aload_n 0, 1) := by decide +kernel
theorem dX12_scrap_33 : decode cX12_scrap 33 = .ok (.getfield 10, 3) := by decide +kernel
theorem dX12_scrap_36 : decode cX12_scrap 36 = .ok (.getfield 153, 3) := by decide +kernel
theorem dX12_scrap_39 : decode cX12_scrap 39 = .ok (.iload_n 3, 1) := by decide +kernel
theorem dX12_scrap_40 : decode cX12_scrap 40 = .ok (.invokevirtual 164, 3) := by decide +kernel
theorem dX12_scrap_43 : decode cX12_scrap 43 = .ok (.ireturn, 1) := by decide +kernel
theorem dX12_bestLoad_0 : decode cX12_bestLoad 0 = .ok (.aload_n 0, 1) := by decide +kernel
theorem dX12_bestLoad_1 : decode cX12_bestLoad 1 = .ok (.getfield 29, 3) := by decide +kernel
theorem dX12_bestLoad_4 : decode cX12_bestLoad 4 = .ok (.aload_n 0, 1) := by decide +kernel
theorem dX12_bestLoad_5 : decode cX12_bestLoad 5 = .ok (.getfield 10, 3) := by decide +kernel
theorem dX12_bestLoad_8 : decode cX12_bestLoad 8 = .ok (.aload_n 0, 1) := by decide +kernel
theorem dX12_bestLoad_9 : decode cX12_bestLoad 9 = .ok (.getfield 10, 3) := by decide +kernel
theorem dX12_bestLoad_12 : decode cX12_bestLoad 12 = .ok (.iload_n 1, 1) := by decide +kernel
theorem dX12_bestLoad_13 : decode cX12_bestLoad 13 = .ok (.invokevirtual 123, 3) := by decide +kernel
theorem dX12_bestLoad_16 : decode cX12_bestLoad 16 = .ok (.invokevirtual 165, 3) := by decide +kernel
theorem dX12_bestLoad_19 : decode cX12_bestLoad 19 = .ok (.ireturn, 1) := by decide +kernel
theorem dX12_bestLoadByRecursion_0 : decode cX12_bestLoadByRecursion 0 = .ok (.aload_n 0, 1) := by decide +kernel
theorem dX12_bestLoadByRecursion_1 : decode cX12_bestLoadByRecursion 1 = .ok (.getfield 29, 3) := by decide +kernel
theorem dX12_bestLoadByRecursion_4 : decode cX12_bestLoadByRecursion 4 = .ok (.aload_n 0, 1) := by decide +kernel
theorem dX12_bestLoadByRecursion_5 : decode cX12_bestLoadByRecursion 5 = .ok (.getfield 10, 3) := by decide +kernel
theorem dX12_bestLoadByRecursion_8 : decode cX12_bestLoadByRecursion 8 = .ok (.aload_n 0, 1) := by decide +kernel
theorem dX12_bestLoadByRecursion_9 : decode cX12_bestLoadByRecursion 9 = .ok (.getfield 10, 3) := by decide +kernel
theorem dX12_bestLoadByRecursion_12 : decode cX12_bestLoadByRecursion 12 = .ok (.iload_n 1, 1) := by decide +kernel
theorem dX12_bestLoadByRecursion_13 : decode cX12_bestLoadByRecursion 13 = .ok (.invokevirtual 123, 3) := by decide +kernel
theorem dX12_bestLoadByRecursion_16 : decode cX12_bestLoadByRecursion 16 = .ok (.invokevirtual 169, 3) := by decide +kernel
theorem dX12_bestLoadByRecursion_19 : decode cX12_bestLoadByRecursion 19 = .ok (.ireturn, 1) := by decide +kernel
theorem dX12_orders_0 : decode cX12_orders 0 = .ok (.aload_n 0, 1) := by decide +kernel
theorem dX12_orders_1 : decode cX12_orders 1 = .ok (.getfield 10, 3) := by decide +kernel
theorem dX12_orders_4 : decode cX12_orders 4 = .ok (.getfield 172, 3) := by decide +kernel
theorem dX12_orders_7 : decode cX12_orders 7 = .ok (.invokevirtual 176, 3) := by decide +kernel
theorem dX12_orders_10 : decode cX12_orders 10 = .ok (.ireturn, 1) := by decide +kernel
theorem dX12_isOpen_0 : decode cX12_isOpen 0 = .ok (.aload_n 0, 1) := by decide +kernel
theorem dX12_isOpen_1 : decode cX12_isOpen 1 = .ok (.getfield 10, 3) := by decide +kernel
theorem dX12_isOpen_4 : decode cX12_isOpen 4 = .ok (.getfield 172, 3) := by decide +kernel
theorem dX12_isOpen_7 : decode cX12_isOpen 7 = .ok (.iload_n 1, 1) := by decide +kernel
theorem dX12_isOpen_8 : decode cX12_isOpen 8 = .ok (.invokevirtual 179, 3) := by decide +kernel
theorem dX12_isOpen_11 : decode cX12_isOpen 11 = .ok (.iconst (-1), 1) := by decide +kernel
theorem dX12_isOpen_12 : decode cX12_isOpen 12 = .ok (.if_icmp .eq 7, 3) := by decide +kernel
theorem dX12_isOpen_15 : decode cX12_isOpen 15 = .ok (.iconst 1, 1) := by decide +kernel
theorem dX12_isOpen_16 : decode cX12_isOpen 16 = .ok (.goto 4, 3) := by decide +kernel
theorem dX12_isOpen_19 : decode cX12_isOpen 19 = .ok (.iconst 0, 1) := by decide +kernel
theorem dX12_isOpen_20 : decode cX12_isOpen 20 = .ok (.ireturn, 1) := by decide +kernel
theorem dX12_orderMaterial_0 : decode cX12_orderMaterial 0 = .ok (.aload_n 0, 1) := by decide +kernel
theorem dX12_orderMaterial_1 : decode cX12_orderMaterial 1 = .ok (.getfield 10, 3) := by decide +kernel
theorem dX12_orderMaterial_4 : decode cX12_orderMaterial 4 = .ok (.getfield 172, 3) := by decide +kernel
theorem dX12_orderMaterial_7 : decode cX12_orderMaterial 7 = .ok (.aload_n 0, 1) := by decide +kernel
theorem dX12_orderMaterial_8 : decode cX12_orderMaterial 8 = .ok (.getfield 10, 3) := by decide +kernel
theorem dX12_orderMaterial_11 : decode cX12_orderMaterial 11 = .ok (.iload_n 1, 1) := by decide +kernel
theorem dX12_orderMaterial_12 : decode cX12_orderMaterial 12 = .ok (.invokevirtual 182, 3) := by decide +kernel
theorem dX12_orderMaterial_15 : decode cX12_orderMaterial 15 = .ok (.invokevirtual 185, 3) := by decide +kernel
theorem dX12_orderMaterial_18 : decode cX12_orderMaterial 18 = .ok (.ireturn, 1) := by decide +kernel
theorem dX12_orderLength_0 : decode cX12_orderLength 0 = .ok (.aload_n 0, 1) := by decide +kernel
theorem dX12_orderLength_1 : decode cX12_orderLength 1 = .ok (.getfield 10, 3) := by decide +kernel
theorem dX12_orderLength_4 : decode cX12_orderLength 4 = .ok (.getfield 172, 3) := by decide +kernel
theorem dX12_orderLength_7 : decode cX12_orderLength 7 = .ok (.aload_n 0, 1) := by decide +kernel
theorem dX12_orderLength_8 : decode cX12_orderLength 8 = .ok (.getfield 10, 3) := by decide +kernel
theorem dX12_orderLength_11 : decode cX12_orderLength 11 = .ok (.iload_n 1, 1) := by decide +kernel
theorem dX12_orderLength_12 : decode cX12_orderLength 12 = .ok (.invokevirtual 182, 3) := by decide +kernel
theorem dX12_orderLength_15 : decode cX12_orderLength 15 = .ok (.invokevirtual 186, 3) := by decide +kernel
theorem dX12_orderLength_18 : decode cX12_orderLength 18 = .ok (.ireturn, 1) := by decide +kernel
theorem dX12_due_0 : decode cX12_due 0 = .ok (.aload_n 0, 1) := by decide +kernel
theorem dX12_due_1 : decode cX12_due 1 = .ok (.getfield 10, 3) := by decide +kernel
theorem dX12_due_4 : decode cX12_due 4 = .ok (.getfield 172, 3) := by decide +kernel
theorem dX12_due_7 : decode cX12_due 7 = .ok (.aload_n 0, 1) := by decide +kernel
theorem dX12_due_8 : decode cX12_due 8 = .ok (.getfield 10, 3) := by decide +kernel
theorem dX12_due_11 : decode cX12_due 11 = .ok (.iload_n 1, 1) := by decide +kernel
theorem dX12_due_12 : decode cX12_due 12 = .ok (.invokevirtual 182, 3) := by decide +kernel
theorem dX12_due_15 : decode cX12_due 15 = .ok (.invokevirtual 187, 3) := by decide +kernel
theorem dX12_due_18 : decode cX12_due 18 = .ok (.ireturn, 1) := by decide +kernel
theorem dX12_orderAt_0 : decode cX12_orderAt 0 = .ok (.iload_n 1, 1) := by decide +kernel
theorem dX12_orderAt_1 : decode cX12_orderAt 1 = .ok (.ifCond .lt 17, 3) := by decide +kernel
theorem dX12_orderAt_4 : decode cX12_orderAt 4 = .ok (.iload_n 1, 1) := by decide +kernel
theorem dX12_orderAt_5 : decode cX12_orderAt 5 = .ok (.aload_n 0, 1) := by decide +kernel
theorem dX12_orderAt_6 : decode cX12_orderAt 6 = .ok (.getfield 10, 3) := by decide +kernel
theorem dX12_orderAt_9 : decode cX12_orderAt 9 = .ok (.getfield 172, 3) := by decide +kernel
theorem dX12_orderAt_12 : decode cX12_orderAt 12 = .ok (.invokevirtual 176, 3) := by decide +kernel
theorem dX12_orderAt_15 : decode cX12_orderAt 15 = .ok (.if_icmp .lt 13, 3) := by decide +kernel
theorem dX12_orderAt_18 : decode cX12_orderAt 18 = .ok (.new 139, 3) := by decide +kernel
theorem dX12_orderAt_21 : decode cX12_orderAt 21 = .ok (.dup, 1) := by decide +kernel
theorem dX12_orderAt_22 : decode cX12_orderAt 22 = .ok (.ldc 190, 2) := by decide +kernel
theorem dX12_orderAt_24 : decode cX12_orderAt 24 = .ok (.invokespecial 143, 3) := by decide +kernel
theorem dX12_orderAt_27 : decode cX12_orderAt 27 = .ok (.athrow, 1) := by decide +kernel
theorem dX12_orderAt_28 : decode cX12_orderAt 28 = .ok (.aload_n 0, 1) := by decide +kernel
theorem dX12_orderAt_29 : decode cX12_orderAt 29 = .ok (.getfield 10, 3) := by decide +kernel
theorem dX12_orderAt_32 : decode cX12_orderAt 32 = .ok (.getfield 172, 3) := by decide +kernel
theorem dX12_orderAt_35 : decode cX12_orderAt 35 = .ok (.iload_n 1, 1) := by decide +kernel
theorem dX12_orderAt_36 : decode cX12_orderAt 36 = .ok (.invokevirtual 192, 3) := by decide +kernel
theorem dX12_orderAt_39 : decode cX12_orderAt 39 = .ok (.ireturn, 1) := by decide +kernel
theorem dX12_canFill_0 : decode cX12_canFill 0 = .ok (.aload_n 0, 1) := by decide +kernel
theorem dX12_canFill_1 : decode cX12_canFill 1 = .ok (.getfield 10, 3) := by decide +kernel
theorem dX12_canFill_4 : decode cX12_canFill 4 = .ok (.aload_n 0, 1) := by decide +kernel
theorem dX12_canFill_5 : decode cX12_canFill 5 = .ok (.getfield 10, 3) := by decide +kernel
theorem dX12_canFill_8 : decode cX12_canFill 8 = .ok (.iload_n 1, 1) := by decide +kernel
theorem dX12_canFill_9 : decode cX12_canFill 9 = .ok (.invokevirtual 182, 3) := by decide +kernel
theorem dX12_canFill_12 : decode cX12_canFill 12 = .ok (.invokevirtual 193, 3) := by decide +kernel
theorem dX12_canFill_15 : decode cX12_canFill 15 = .ok (.ireturn, 1) := by decide +kernel
theorem dX12_chosenScrap_0 : decode cX12_chosenScrap 0 = .ok (.aload_n 0, 1) := by decide +kernel
theorem dX12_chosenScrap_1 : decode cX12_chosenScrap 1 = .ok (.getfield 10, 3) := by decide +kernel
theorem dX12_chosenScrap_4 : decode cX12_chosenScrap 4 = .ok (.aload_n 0, 1) := by decide +kernel
theorem dX12_chosenScrap_5 : decode cX12_chosenScrap 5 = .ok (.getfield 10, 3) := by decide +kernel
theorem dX12_chosenScrap_8 : decode cX12_chosenScrap 8 = .ok (.iload_n 1, 1) := by decide +kernel
theorem dX12_chosenScrap_9 : decode cX12_chosenScrap 9 = .ok (.invokevirtual 182, 3) := by decide +kernel
theorem dX12_chosenScrap_12 : decode cX12_chosenScrap 12 = .ok (.invokevirtual 197, 3) := by decide +kernel
theorem dX12_chosenScrap_15 : decode cX12_chosenScrap 15 = .ok (.istore_n 2, 1) := by decide +kernel
theorem dX12_chosenScrap_16 : decode cX12_chosenScrap 16 = .ok (.iload_n 2, 1) := by decide +kernel
theorem dX12_chosenScrap_17 : decode cX12_chosenScrap 17 = .ok (.iconst (-1), 1) := by decide +kernel
theorem dX12_chosenScrap_18 : decode cX12_chosenScrap 18 = .ok (.if_icmp .ne 13, 3) := by decide +kernel
theorem dX12_chosenScrap_21 : decode cX12_chosenScrap 21 = .ok (.new 139, 3) := by decide +kernel
theorem dX12_chosenScrap_24 : decode cX12_chosenScrap 24 = .ok (.dup, 1) := by decide +kernel
theorem dX12_chosenScrap_25 : decode cX12_chosenScrap 25 = .ok (.ldc 200, 2) := by decide +kernel
theorem dX12_chosenScrap_27 : decode cX12_chosenScrap 27 = .ok (.invokespecial 143, 3) := by decide +kernel
theorem dX12_chosenScrap_30 : decode cX12_chosenScrap 30 = .ok (.athrow, 1) := by decide +kernel
theorem dX12_chosenScrap_31 : decode cX12_chosenScrap 31 = .ok (.aload_n 0, 1) := by decide +kernel
theorem dX12_chosenScrap_32 : decode cX12_chosenScrap 32 = .ok (.getfield 10, 3) := by decide +kernel
theorem dX12_chosenScrap_35 : decode cX12_chosenScrap 35 = .ok (.getfield 153, 3) := by decide +kernel
theorem dX12_chosenScrap_38 : decode cX12_chosenScrap 38 = .ok (.iload_n 2, 1) := by decide +kernel
theorem dX12_chosenScrap_39 : decode cX12_chosenScrap 39 = .ok (.invokevirtual 164, 3) := by decide +kernel
theorem dX12_chosenScrap_42 : decode cX12_chosenScrap 42 = .ok (.ireturn, 1) := by decide +kernel
theorem dX12_chosenSpool_0 : decode cX12_chosenSpool 0 = .ok (.aload_n 0, 1) := by decide +kernel
theorem dX12_chosenSpool_1 : decode cX12_chosenSpool 1 = .ok (.getfield 10, 3) := by decide +kernel
theorem dX12_chosenSpool_4 : decode cX12_chosenSpool 4 = .ok (.iload_n 1, 1) := by decide +kernel
theorem dX12_chosenSpool_5 : decode cX12_chosenSpool 5 = .ok (.invokevirtual 182, 3) := by decide +kernel
theorem dX12_chosenSpool_8 : decode cX12_chosenSpool 8 = .ok (.istore_n 2, 1) := by decide +kernel
theorem dX12_chosenSpool_9 : decode cX12_chosenSpool 9 = .ok (.aload_n 0, 1) := by decide +kernel
theorem dX12_chosenSpool_10 : decode cX12_chosenSpool 10 = .ok (.getfield 10, 3) := by decide +kernel
theorem dX12_chosenSpool_13 : decode cX12_chosenSpool 13 = .ok (.iload_n 2, 1) := by decide +kernel
theorem dX12_chosenSpool_14 : decode cX12_chosenSpool 14 = .ok (.invokevirtual 197, 3) := by decide +kernel
theorem dX12_chosenSpool_17 : decode cX12_chosenSpool 17 = .ok (.iconst (-1), 1) := by decide +kernel
theorem dX12_chosenSpool_18 : decode cX12_chosenSpool 18 = .ok (.if_icmp .ne 14, 3) := by decide +kernel
theorem dX12_chosenSpool_21 : decode cX12_chosenSpool 21 = .ok (.aload_n 0, 1) := by decide +kernel
theorem dX12_chosenSpool_22 : decode cX12_chosenSpool 22 = .ok (.getfield 10, 3) := by decide +kernel
theorem dX12_chosenSpool_25 : decode cX12_chosenSpool 25 = .ok (.iload_n 2, 1) := by decide +kernel
theorem dX12_chosenSpool_26 : decode cX12_chosenSpool 26 = .ok (.invokevirtual 202, 3) := by decide +kernel
theorem dX12_chosenSpool_29 : decode cX12_chosenSpool 29 = .ok (.goto 4, 3) := by decide +kernel
theorem dX12_chosenSpool_32 : decode cX12_chosenSpool 32 = .ok (.iconst (-1), 1) := by decide +kernel
theorem dX12_chosenSpool_33 : decode cX12_chosenSpool 33 = .ok (.istore_n 3, 1) := by decide +kernel
theorem dX12_chosenSpool_34 : decode cX12_chosenSpool 34 = .ok (.iload_n 3, 1) := by decide +kernel
theorem dX12_chosenSpool_35 : decode cX12_chosenSpool 35 = .ok (.iconst (-1), 1) := by decide +kernel
theorem dX12_chosenSpool_36 : decode cX12_chosenSpool 36 = .ok (.if_icmp .ne 13, 3) := by decide +kernel
theorem dX12_chosenSpool_39 : decode cX12_chosenSpool 39 = .ok (.new 139, 3) := by decide +kernel
theorem dX12_chosenSpool_42 : decode cX12_chosenSpool 42 = .ok (.dup, 1) := by decide +kernel
theorem dX12_chosenSpool_43 : decode cX12_chosenSpool 43 = .ok (.ldc 205, 2) := by decide +kernel
theorem dX12_chosenSpool_45 : decode cX12_chosenSpool 45 = .ok (.invokespecial 143, 3) := by decide +kernel
theorem dX12_chosenSpool_48 : decode cX12_chosenSpool 48 = .ok (.athrow, 1) := by decide +kernel
theorem dX12_chosenSpool_49 : decode cX12_chosenSpool 49 = .ok (.aload_n 0, 1) := by decide +kernel
theorem dX12_chosenSpool_50 : decode cX12_chosenSpool 50 = .ok (.getfield 10, 3) := by decide +kernel
theorem dX12_chosenSpool_53 : decode cX12_chosenSpool 53 = .ok (.getfield 110, 3) := by decide +kernel
theorem dX12_chosenSpool_56 : decode cX12_chosenSpool 56 = .ok (.iload_n 3, 1) := by decide +kernel
theorem dX12_chosenSpool_57 : decode cX12_chosenSpool 57 = .ok (.invokevirtual 146, 3) := by decide +kernel
theorem dX12_chosenSpool_60 : decode cX12_chosenSpool 60 = .ok (.ireturn, 1) := by decide +kernel
theorem dX12_wound_0 : decode cX12_wound 0 = .ok (.iload_n 1, 1) := by decide +kernel
theorem dX12_wound_1 : decode cX12_wound 1 = .ok (.invokestatic 149, 3) := by decide +kernel
theorem dX12_wound_4 : decode cX12_wound 4 = .ok (.aload_n 0, 1) := by decide +kernel
theorem dX12_wound_5 : decode cX12_wound 5 = .ok (.getfield 10, 3) := by decide +kernel
theorem dX12_wound_8 : decode cX12_wound 8 = .ok (.getfield 207, 3) := by decide +kernel
theorem dX12_wound_11 : decode cX12_wound 11 = .ok (.getfield 211, 3) := by decide +kernel
theorem dX12_wound_14 : decode cX12_wound 14 = .ok (.iload_n 1, 1) := by decide +kernel
theorem dX12_wound_15 : decode cX12_wound 15 = .ok (.invokestatic 217, 3) := by decide +kernel
theorem dX12_wound_18 : decode cX12_wound 18 = .ok (.invokevirtual 220, 3) := by decide +kernel
theorem dX12_wound_21 : decode cX12_wound 21 = .ok (.ireturn, 1) := by decide +kernel
theorem dX12_woundByParts_0 : decode cX12_woundByParts 0 = .ok (.iload_n 1, 1) := by decide +kernel
theorem dX12_woundByParts_1 : decode cX12_woundByParts 1 = .ok (.invokestatic 149, 3) := by decide +kernel
theorem dX12_woundByParts_4 : decode cX12_woundByParts 4 = .ok (.aload_n 0, 1) := by decide +kernel
theorem dX12_woundByParts_5 : decode cX12_woundByParts 5 = .ok (.getfield 10, 3) := by decide +kernel
theorem dX12_woundByParts_8 : decode cX12_woundByParts 8 = .ok (.iload_n 1, 1) := by decide +kernel
theorem dX12_woundByParts_9 : decode cX12_woundByParts 9 = .ok (.invokevirtual 225, 3) := by decide +kernel
theorem dX12_woundByParts_12 : decode cX12_woundByParts 12 = .ok (.ireturn, 1) := by decide +kernel
theorem dX12_delivered_0 : decode cX12_delivered 0 = .ok (.iload_n 1, 1) := by decide +kernel
theorem dX12_delivered_1 : decode cX12_delivered 1 = .ok (.invokestatic 149, 3) := by decide +kernel
theorem dX12_delivered_4 : decode cX12_delivered 4 = .ok (.aload_n 0, 1) := by decide +kernel
theorem dX12_delivered_5 : decode cX12_delivered 5 = .ok (.getfield 10, 3) := by decide +kernel
theorem dX12_delivered_8 : decode cX12_delivered 8 = .ok (.getfield 207, 3) := by decide +kernel
theorem dX12_delivered_11 : decode cX12_delivered 11 = .ok (.getfield 228, 3) := by decide +kernel
theorem dX12_delivered_14 : decode cX12_delivered 14 = .ok (.iload_n 1, 1) := by decide +kernel
theorem dX12_delivered_15 : decode cX12_delivered 15 = .ok (.invokestatic 217, 3) := by decide +kernel
theorem dX12_delivered_18 : decode cX12_delivered 18 = .ok (.invokevirtual 220, 3) := by decide +kernel
theorem dX12_delivered_21 : decode cX12_delivered 21 = .ok (.ireturn, 1) := by decide +kernel
theorem dX12_losses_0 : decode cX12_losses 0 = .ok (.iload_n 1, 1) := by decide +kernel
theorem dX12_losses_1 : decode cX12_losses 1 = .ok (.invokestatic 149, 3) := by decide +kernel
theorem dX12_losses_4 : decode cX12_losses 4 = .ok (.aload_n 0, 1) := by decide +kernel
theorem dX12_losses_5 : decode cX12_losses 5 = .ok (.getfield 10, 3) := by decide +kernel
theorem dX12_losses_8 : decode cX12_losses 8 = .ok (.getfield 207, 3) := by decide +kernel
theorem dX12_losses_11 : decode cX12_losses 11 = .ok (.getfield 231, 3) := by decide +kernel
theorem dX12_losses_14 : decode cX12_losses 14 = .ok (.iload_n 1, 1) := by decide +kernel
theorem dX12_losses_15 : decode cX12_losses 15 = .ok (.invokestatic 217, 3) := by decide +kernel
theorem dX12_losses_18 : decode cX12_losses 18 = .ok (.invokevirtual 220, 3) := by decide +kernel
theorem dX12_losses_21 : decode cX12_losses 21 = .ok (.ireturn, 1) := by decide +kernel
theorem dX12_filled_0 : decode cX12_filled 0 = .ok (.aload_n 0, 1) := by decide +kernel
theorem dX12_filled_1 : decode cX12_filled 1 = .ok (.getfield 10, 3) := by decide +kernel
theorem dX12_filled_4 : decode cX12_filled 4 = .ok (.getfield 207, 3) := by decide +kernel
theorem dX12_filled_7 : decode cX12_filled 7 = .ok (.getfield 234, 3) := by decide +kernel
theorem dX12_filled_10 : decode cX12_filled 10 = .ok (.ireturn, 1) := by decide +kernel
theorem dX12_totalDelivered_0 : decode cX12_totalDelivered 0 = .ok (.aload_n 0, 1) := by decide +kernel
theorem dX12_totalDelivered_1 : decode cX12_totalDelivered 1 = .ok (.getfield 10, 3) := by decide +kernel
theorem dX12_totalDelivered_4 : decode cX12_totalDelivered 4 = .ok (.getfield 207, 3) := by decide +kernel
theorem dX12_totalDelivered_7 : decode cX12_totalDelivered 7 = .ok (.getfield 228, 3) := by decide +kernel
theorem dX12_totalDelivered_10 : decode cX12_totalDelivered 10 = .ok (.invokevirtual 237, 3) := by decide +kernel
theorem dX12_totalDelivered_13 : decode cX12_totalDelivered 13 = .ok (.i2l, 1) := by decide +kernel
theorem dX12_totalDelivered_14 : decode cX12_totalDelivered 14 = .ok (.lreturn, 1) := by decide +kernel
theorem dX12_meanRemaining_0 : decode cX12_meanRemaining 0 = .ok (.aload_n 0, 1) := by decide +kernel
theorem dX12_meanRemaining_1 : decode cX12_meanRemaining 1 = .ok (.getfield 10, 3) := by decide +kernel
theorem dX12_meanRemaining_4 : decode cX12_meanRemaining 4 = .ok (.getfield 110, 3) := by decide +kernel
theorem dX12_meanRemaining_7 : decode cX12_meanRemaining 7 = .ok (.invokevirtual 114, 3) := by decide +kernel
theorem dX12_meanRemaining_10 : decode cX12_meanRemaining 10 = .ok (.istore_n 1, 1) := by decide +kernel
theorem dX12_meanRemaining_11 : decode cX12_meanRemaining 11 = .ok (.iload_n 1, 1) := by decide +kernel
theorem dX12_meanRemaining_12 : decode cX12_meanRemaining 12 = .ok (.ifCond .gt 13, 3) := by decide +kernel
theorem dX12_meanRemaining_15 : decode cX12_meanRemaining 15 = .ok (.new 240, 3) := by decide +kernel
theorem dX12_meanRemaining_18 : decode cX12_meanRemaining 18 = .ok (.dup, 1) := by decide +kernel
theorem dX12_meanRemaining_19 : decode cX12_meanRemaining 19 = .ok (.ldc 242, 2) := by decide +kernel
theorem dX12_meanRemaining_21 : decode cX12_meanRemaining 21 = .ok (.invokespecial 244, 3) := by decide +kernel
theorem dX12_meanRemaining_24 : decode cX12_meanRemaining 24 = .ok (.athrow, 1) := by decide +kernel
theorem dX12_meanRemaining_25 : decode cX12_meanRemaining 25 = .ok (.aload_n 0, 1) := by decide +kernel
theorem dX12_meanRemaining_26 : decode cX12_meanRemaining 26 = .ok (.getfield 10, 3) := by decide +kernel
theorem dX12_meanRemaining_29 : decode cX12_meanRemaining 29 = .ok (.getfield 110, 3) := by decide +kernel
theorem dX12_meanRemaining_32 : decode cX12_meanRemaining 32 = .ok (.invokevirtual 245, 3) := by decide +kernel
theorem dX12_meanRemaining_35 : decode cX12_meanRemaining 35 = .ok (.i2d, 1) := by decide +kernel
theorem dX12_meanRemaining_36 : decode cX12_meanRemaining 36 = .ok (.iload_n 1, 1) := by decide +kernel
theorem dX12_meanRemaining_37 : decode cX12_meanRemaining 37 = .ok (.i2d, 1) := by decide +kernel
theorem dX12_meanRemaining_38 : decode cX12_meanRemaining 38 = .ok (.ddiv, 1) := by decide +kernel
theorem dX12_meanRemaining_39 : decode cX12_meanRemaining 39 = .ok (.dreturn, 1) := by decide +kernel
theorem dX12_lossRate_0 : decode cX12_lossRate 0 = .ok (.aload_n 0, 1) := by decide +kernel
theorem dX12_lossRate_1 : decode cX12_lossRate 1 = .ok (.getfield 10, 3) := by decide +kernel
theorem dX12_lossRate_4 : decode cX12_lossRate 4 = .ok (.getfield 207, 3) := by decide +kernel
theorem dX12_lossRate_7 : decode cX12_lossRate 7 = .ok (.getfield 228, 3) := by decide +kernel
theorem dX12_lossRate_10 : decode cX12_lossRate 10 = .ok (.invokevirtual 237, 3) := by decide +kernel
theorem dX12_lossRate_13 : decode cX12_lossRate 13 = .ok (.i2l, 1) := by decide +kernel
theorem dX12_lossRate_14 : decode cX12_lossRate 14 = .ok (.lstore_n 1, 1) := by decide +kernel
theorem dX12_lossRate_15 : decode cX12_lossRate 15 = .ok (.lload_n 1, 1) := by decide +kernel
theorem dX12_lossRate_16 : decode cX12_lossRate 16 = .ok (.lconst 0, 1) := by decide +kernel
theorem dX12_lossRate_17 : decode cX12_lossRate 17 = .ok (.lcmp, 1) := by decide +kernel
theorem dX12_lossRate_18 : decode cX12_lossRate 18 = .ok (.ifCond .gt 13, 3) := by decide +kernel
theorem dX12_lossRate_21 : decode cX12_lossRate 21 = .ok (.new 240, 3) := by decide +kernel
theorem dX12_lossRate_24 : decode cX12_lossRate 24 = .ok (.dup, 1) := by decide +kernel
theorem dX12_lossRate_25 : decode cX12_lossRate 25 = .ok (.ldc 248, 2) := by decide +kernel
theorem dX12_lossRate_27 : decode cX12_lossRate 27 = .ok (.invokespecial 244, 3) := by decide +kernel
theorem dX12_lossRate_30 : decode cX12_lossRate 30 = .ok (.athrow, 1) := by decide +kernel
theorem dX12_lossRate_31 : decode cX12_lossRate 31 = .ok (.aload_n 0, 1) := by decide +kernel
theorem dX12_lossRate_32 : decode cX12_lossRate 32 = .ok (.getfield 10, 3) := by decide +kernel
theorem dX12_lossRate_35 : decode cX12_lossRate 35 = .ok (.getfield 207, 3) := by decide +kernel
theorem dX12_lossRate_38 : decode cX12_lossRate 38 = .ok (.getfield 231, 3) := by decide +kernel
theorem dX12_lossRate_41 : decode cX12_lossRate 41 = .ok (.invokevirtual 237, 3) := by decide +kernel
theorem dX12_lossRate_44 : decode cX12_lossRate 44 = .ok (.i2f, 1) := by decide +kernel
theorem dX12_lossRate_45 : decode cX12_lossRate 45 = .ok (.lload_n 1, 1) := by decide +kernel
theorem dX12_lossRate_46 : decode cX12_lossRate 46 = .ok (.l2f, 1) := by decide +kernel
theorem dX12_lossRate_47 : decode cX12_lossRate 47 = .ok (.fdiv, 1) := by decide +kernel
theorem dX12_lossRate_48 : decode cX12_lossRate 48 = .ok (.freturn, 1) := by decide +kernel
theorem dX12_isConsistent_0 : decode cX12_isConsistent 0 = .ok (.aload_n 0, 1) := by decide +kernel
theorem dX12_isConsistent_1 : decode cX12_isConsistent 1 = .ok (.invokevirtual 250, 3) := by decide +kernel
theorem dX12_isConsistent_4 : decode cX12_isConsistent 4 = .ok (.ifCond .eq 27, 3) := by decide +kernel
theorem dX12_isConsistent_7 : decode cX12_isConsistent 7 = .ok (.aload_n 0, 1) := by decide +kernel
theorem dX12_isConsistent_8 : decode cX12_isConsistent 8 = .ok (.invokevirtual 254, 3) := by decide +kernel
theorem dX12_isConsistent_11 : decode cX12_isConsistent 11 = .ok (.ifCond .eq 20, 3) := by decide +kernel
theorem dX12_isConsistent_14 : decode cX12_isConsistent 14 = .ok (.aload_n 0, 1) := by decide +kernel
theorem dX12_isConsistent_15 : decode cX12_isConsistent 15 = .ok (.getfield 10, 3) := by decide +kernel
theorem dX12_isConsistent_18 : decode cX12_isConsistent 18 = .ok (.getfield 172, 3) := by decide +kernel
theorem dX12_isConsistent_21 : decode cX12_isConsistent 21 = .ok (.invokevirtual 257, 3) := by decide +kernel
theorem dX12_isConsistent_24 : decode cX12_isConsistent 24 = .ok (.ifCond .eq 7, 3) := by decide +kernel
theorem dX12_isConsistent_27 : decode cX12_isConsistent 27 = .ok (.iconst 1, 1) := by decide +kernel
theorem dX12_isConsistent_28 : decode cX12_isConsistent 28 = .ok (.goto 4, 3) := by decide +kernel
theorem dX12_isConsistent_31 : decode cX12_isConsistent 31 = .ok (.iconst 0, 1) := by decide +kernel
theorem dX12_isConsistent_32 : decode cX12_isConsistent 32 = .ok (.ireturn, 1) := by decide +kernel
theorem dX12_writeSpool_0 : decode cX12_writeSpool 0 = .ok (.aload_n 0, 1) := by decide +kernel
theorem dX12_writeSpool_1 : decode cX12_writeSpool 1 = .ok (.getfield 10, 3) := by decide +kernel
theorem dX12_writeSpool_4 : decode cX12_writeSpool 4 = .ok (.iload_n 1, 1) := by decide +kernel
theorem dX12_writeSpool_5 : decode cX12_writeSpool 5 = .ok (.invokevirtual 123, 3) := by decide +kernel
theorem dX12_writeSpool_8 : decode cX12_writeSpool 8 = .ok (.istore_n 2, 1) := by decide +kernel
theorem dX12_writeSpool_9 : decode cX12_writeSpool 9 = .ok (.aload_n 0, 1) := by decide +kernel
theorem dX12_writeSpool_10 : decode cX12_writeSpool 10 = .ok (.getfield 43, 3) := by decide +kernel
theorem dX12_writeSpool_13 : decode cX12_writeSpool 13 = .ok (.iconst 0, 1) := by decide +kernel
theorem dX12_writeSpool_14 : decode cX12_writeSpool 14 = .ok (.invokevirtual 260, 3) := by decide +kernel
theorem dX12_writeSpool_17 : decode cX12_writeSpool 17 = .ok (.aload_n 0, 1) := by decide +kernel
theorem dX12_writeSpool_18 : decode cX12_writeSpool 18 = .ok (.getfield 43, 3) := by decide +kernel
theorem dX12_writeSpool_21 : decode cX12_writeSpool 21 = .ok (.iload_n 1, 1) := by decide +kernel
theorem dX12_writeSpool_22 : decode cX12_writeSpool 22 = .ok (.invokevirtual 264, 3) := by decide +kernel
theorem dX12_writeSpool_25 : decode cX12_writeSpool 25 = .ok (.pop, 1) := by decide +kernel
theorem dX12_writeSpool_26 : decode cX12_writeSpool 26 = .ok (.aload_n 0, 1) := by decide +kernel
theorem dX12_writeSpool_27 : decode cX12_writeSpool 27 = .ok (.getfield 43, 3) := by decide +kernel
theorem dX12_writeSpool_30 : decode cX12_writeSpool 30 = .ok (.aload_n 0, 1) := by decide +kernel
theorem dX12_writeSpool_31 : decode cX12_writeSpool 31 = .ok (.getfield 10, 3) := by decide +kernel
theorem dX12_writeSpool_34 : decode cX12_writeSpool 34 = .ok (.getfield 110, 3) := by decide +kernel
theorem dX12_writeSpool_37 : decode cX12_writeSpool 37 = .ok (.iload_n 2, 1) := by decide +kernel
theorem dX12_writeSpool_38 : decode cX12_writeSpool 38 = .ok (.invokevirtual 126, 3) := by decide +kernel
theorem dX12_writeSpool_41 : decode cX12_writeSpool 41 = .ok (.invokevirtual 268, 3) := by decide +kernel
theorem dX12_writeSpool_44 : decode cX12_writeSpool 44 = .ok (.pop, 1) := by decide +kernel
theorem dX12_writeSpool_45 : decode cX12_writeSpool 45 = .ok (.aload_n 0, 1) := by decide +kernel
theorem dX12_writeSpool_46 : decode cX12_writeSpool 46 = .ok (.getfield 43, 3) := by decide +kernel
theorem dX12_writeSpool_49 : decode cX12_writeSpool 49 = .ok (.bipush 58, 2) := by decide +kernel
theorem dX12_writeSpool_51 : decode cX12_writeSpool 51 = .ok (.invokevirtual 268, 3) := by decide +kernel
theorem dX12_writeSpool_54 : decode cX12_writeSpool 54 = .ok (.pop, 1) := by decide +kernel
theorem dX12_writeSpool_55 : decode cX12_writeSpool 55 = .ok (.aload_n 0, 1) := by decide +kernel
theorem dX12_writeSpool_56 : decode cX12_writeSpool 56 = .ok (.getfield 43, 3) := by decide +kernel
theorem dX12_writeSpool_59 : decode cX12_writeSpool 59 = .ok (.aload_n 0, 1) := by decide +kernel
theorem dX12_writeSpool_60 : decode cX12_writeSpool 60 = .ok (.getfield 10, 3) := by decide +kernel
theorem dX12_writeSpool_63 : decode cX12_writeSpool 63 = .ok (.getfield 110, 3) := by decide +kernel
theorem dX12_writeSpool_66 : decode cX12_writeSpool 66 = .ok (.iload_n 2, 1) := by decide +kernel
theorem dX12_writeSpool_67 : decode cX12_writeSpool 67 = .ok (.invokevirtual 130, 3) := by decide +kernel
theorem dX12_writeSpool_70 : decode cX12_writeSpool 70 = .ok (.invokevirtual 264, 3) := by decide +kernel
theorem dX12_writeSpool_73 : decode cX12_writeSpool 73 = .ok (.pop, 1) := by decide +kernel
theorem dX12_writeSpool_74 : decode cX12_writeSpool 74 = .ok (.aload_n 0, 1) := by decide +kernel
theorem dX12_writeSpool_75 : decode cX12_writeSpool 75 = .ok (.getfield 43, 3) := by decide +kernel
theorem dX12_writeSpool_78 : decode cX12_writeSpool 78 = .ok (.bipush 47, 2) := by decide +kernel
theorem dX12_writeSpool_80 : decode cX12_writeSpool 80 = .ok (.invokevirtual 268, 3) := by decide +kernel
theorem dX12_writeSpool_83 : decode cX12_writeSpool 83 = .ok (.pop, 1) := by decide +kernel
theorem dX12_writeSpool_84 : decode cX12_writeSpool 84 = .ok (.aload_n 0, 1) := by decide +kernel
theorem dX12_writeSpool_85 : decode cX12_writeSpool 85 = .ok (.getfield 43, 3) := by decide +kernel
theorem dX12_writeSpool_88 : decode cX12_writeSpool 88 = .ok (.aload_n 0, 1) := by decide +kernel
theorem dX12_writeSpool_89 : decode cX12_writeSpool 89 = .ok (.getfield 10, 3) := by decide +kernel
theorem dX12_writeSpool_92 : decode cX12_writeSpool 92 = .ok (.getfield 110, 3) := by decide +kernel
theorem dX12_writeSpool_95 : decode cX12_writeSpool 95 = .ok (.iload_n 2, 1) := by decide +kernel
theorem dX12_writeSpool_96 : decode cX12_writeSpool 96 = .ok (.invokevirtual 133, 3) := by decide +kernel
theorem dX12_writeSpool_99 : decode cX12_writeSpool 99 = .ok (.invokevirtual 264, 3) := by decide +kernel
theorem dX12_writeSpool_102 : decode cX12_writeSpool 102 = .ok (.pop, 1) := by decide +kernel
theorem dX12_writeSpool_103 : decode cX12_writeSpool 103 = .ok (.aload_n 0, 1) := by decide +kernel
theorem dX12_writeSpool_104 : decode cX12_writeSpool 104 = .ok (.getfield 43, 3) := by decide +kernel
theorem dX12_writeSpool_107 : decode cX12_writeSpool 107 = .ok (.invokevirtual 271, 3) := by decide +kernel
theorem dX12_writeSpool_110 : decode cX12_writeSpool 110 = .ok (.ireturn, 1) := by decide +kernel
theorem dX12_writeOrders_0 : decode cX12_writeOrders 0 = .ok (.aload_n 0, 1) := by decide +kernel
theorem dX12_writeOrders_1 : decode cX12_writeOrders 1 = .ok (.getfield 43, 3) := by decide +kernel
theorem dX12_writeOrders_4 : decode cX12_writeOrders 4 = .ok (.iconst 0, 1) := by decide +kernel
theorem dX12_writeOrders_5 : decode cX12_writeOrders 5 = .ok (.invokevirtual 260, 3) := by decide +kernel
theorem dX12_writeOrders_8 : decode cX12_writeOrders 8 = .ok (.iconst 0, 1) := by decide +kernel
theorem dX12_writeOrders_9 : decode cX12_writeOrders 9 = .ok (.istore_n 1, 1) := by decide +kernel
theorem dX12_writeOrders_10 : decode cX12_writeOrders 10 = .ok (.iload_n 1, 1) := by decide +kernel
theorem dX12_writeOrders_11 : decode cX12_writeOrders 11 = .ok (.aload_n 0, 1) := by decide +kernel
theorem dX12_writeOrders_12 : decode cX12_writeOrders 12 = .ok (.getfield 10, 3) := by decide +kernel
theorem dX12_writeOrders_15 : decode cX12_writeOrders 15 = .ok (.getfield 172, 3) := by decide +kernel
theorem dX12_writeOrders_18 : decode cX12_writeOrders 18 = .ok (.invokevirtual 176, 3) := by decide +kernel
theorem dX12_writeOrders_21 : decode cX12_writeOrders 21 = .ok (.if_icmp .ge 109, 3) := by decide +kernel
theorem dX12_writeOrders_24 : decode cX12_writeOrders 24 = .ok (.iload_n 1, 1) := by decide +kernel
theorem dX12_writeOrders_25 : decode cX12_writeOrders 25 = .ok (.ifCond .le 13, 3) := by decide +kernel
theorem dX12_writeOrders_28 : decode cX12_writeOrders 28 = .ok (.aload_n 0, 1) := by decide +kernel
theorem dX12_writeOrders_29 : decode cX12_writeOrders 29 = .ok (.getfield 43, 3) := by decide +kernel
theorem dX12_writeOrders_32 : decode cX12_writeOrders 32 = .ok (.bipush 32, 2) := by decide +kernel
theorem dX12_writeOrders_34 : decode cX12_writeOrders 34 = .ok (.invokevirtual 268, 3) := by decide +kernel
theorem dX12_writeOrders_37 : decode cX12_writeOrders 37 = .ok (.pop, 1) := by decide +kernel
theorem dX12_writeOrders_38 : decode cX12_writeOrders 38 = .ok (.aload_n 0, 1) := by decide +kernel
theorem dX12_writeOrders_39 : decode cX12_writeOrders 39 = .ok (.getfield 43, 3) := by decide +kernel
theorem dX12_writeOrders_42 : decode cX12_writeOrders 42 = .ok (.aload_n 0, 1) := by decide +kernel
theorem dX12_writeOrders_43 : decode cX12_writeOrders 43 = .ok (.getfield 10, 3) := by decide +kernel
theorem dX12_writeOrders_46 : decode cX12_writeOrders 46 = .ok (.getfield 172, 3) := by decide +kernel
theorem dX12_writeOrders_49 : decode cX12_writeOrders 49 = .ok (.iload_n 1, 1) := by decide +kernel
theorem dX12_writeOrders_50 : decode cX12_writeOrders 50 = .ok (.invokevirtual 192, 3) := by decide +kernel
theorem dX12_writeOrders_53 : decode cX12_writeOrders 53 = .ok (.invokevirtual 264, 3) := by decide +kernel
theorem dX12_writeOrders_56 : decode cX12_writeOrders 56 = .ok (.pop, 1) := by decide +kernel
theorem dX12_writeOrders_57 : decode cX12_writeOrders 57 = .ok (.aload_n 0, 1) := by decide +kernel
theorem dX12_writeOrders_58 : decode cX12_writeOrders 58 = .ok (.getfield 43, 3) := by decide +kernel
theorem dX12_writeOrders_61 : decode cX12_writeOrders 61 = .ok (.aload_n 0, 1) := by decide +kernel
theorem dX12_writeOrders_62 : decode cX12_writeOrders 62 = .ok (.getfield 10, 3) := by decide +kernel
theorem dX12_writeOrders_65 : decode cX12_writeOrders 65 = .ok (.getfield 172, 3) := by decide +kernel
theorem dX12_writeOrders_68 : decode cX12_writeOrders 68 = .ok (.iload_n 1, 1) := by decide +kernel
theorem dX12_writeOrders_69 : decode cX12_writeOrders 69 = .ok (.invokevirtual 185, 3) := by decide +kernel
theorem dX12_writeOrders_72 : decode cX12_writeOrders 72 = .ok (.invokevirtual 268, 3) := by decide +kernel
theorem dX12_writeOrders_75 : decode cX12_writeOrders 75 = .ok (.pop, 1) := by decide +kernel
theorem dX12_writeOrders_76 : decode cX12_writeOrders 76 = .ok (.aload_n 0, 1) := by decide +kernel
theorem dX12_writeOrders_77 : decode cX12_writeOrders 77 = .ok (.getfield 43, 3) := by decide +kernel
theorem dX12_writeOrders_80 : decode cX12_writeOrders 80 = .ok (.aload_n 0, 1) := by decide +kernel
theorem dX12_writeOrders_81 : decode cX12_writeOrders 81 = .ok (.getfield 10, 3) := by decide +kernel
theorem dX12_writeOrders_84 : decode cX12_writeOrders 84 = .ok (.getfield 172, 3) := by decide +kernel
theorem dX12_writeOrders_87 : decode cX12_writeOrders 87 = .ok (.iload_n 1, 1) := by decide +kernel
theorem dX12_writeOrders_88 : decode cX12_writeOrders 88 = .ok (.invokevirtual 186, 3) := by decide +kernel
theorem dX12_writeOrders_91 : decode cX12_writeOrders 91 = .ok (.invokevirtual 264, 3) := by decide +kernel
theorem dX12_writeOrders_94 : decode cX12_writeOrders 94 = .ok (.pop, 1) := by decide +kernel
theorem dX12_writeOrders_95 : decode cX12_writeOrders 95 = .ok (.aload_n 0, 1) := by decide +kernel
theorem dX12_writeOrders_96 : decode cX12_writeOrders 96 = .ok (.getfield 43, 3) := by decide +kernel
theorem dX12_writeOrders_99 : decode cX12_writeOrders 99 = .ok (.bipush 64, 2) := by decide +kernel
theorem dX12_writeOrders_101 : decode cX12_writeOrders 101 = .ok (.invokevirtual 268, 3) := by decide +kernel
theorem dX12_writeOrders_104 : decode cX12_writeOrders 104 = .ok (.pop, 1) := by decide +kernel
theorem dX12_writeOrders_105 : decode cX12_writeOrders 105 = .ok (.aload_n 0, 1) := by decide +kernel
theorem dX12_writeOrders_106 : decode cX12_writeOrders 106 = .ok (.getfield 43, 3) := by decide +kernel
theorem dX12_writeOrders_109 : decode cX12_writeOrders 109 = .ok (.aload_n 0, 1) := by decide +kernel
theorem dX12_writeOrders_110 : decode cX12_writeOrders 110 = .ok (.getfield 10, 3) := by decide +kernel
theorem dX12_writeOrders_113 : decode cX12_writeOrders 113 = .ok (.getfield 172, 3) := by decide +kernel
theorem dX12_writeOrders_116 : decode cX12_writeOrders 116 = .ok (.iload_n 1, 1) := by decide +kernel
theorem dX12_writeOrders_117 : decode cX12_writeOrders 117 = .ok (.invokevirtual 187, 3) := by decide +kernel
theorem dX12_writeOrders_120 : decode cX12_writeOrders 120 = .ok (.invokevirtual 264, 3) := by decide +kernel
theorem dX12_writeOrders_123 : decode cX12_writeOrders 123 = .ok (.pop, 1) := by decide +kernel
theorem dX12_writeOrders_124 : decode cX12_writeOrders 124 = .ok (.iinc 1 1, 3) := by decide +kernel
theorem dX12_writeOrders_127 : decode cX12_writeOrders 127 = .ok (.goto (-117), 3) := by decide +kernel
theorem dX12_writeOrders_130 : decode cX12_writeOrders 130 = .ok (.aload_n 0, 1) := by decide +kernel
theorem dX12_writeOrders_131 : decode cX12_writeOrders 131 = .ok (.getfield 43, 3) := by decide +kernel
theorem dX12_writeOrders_134 : decode cX12_writeOrders 134 = .ok (.invokevirtual 271, 3) := by decide +kernel
theorem dX12_writeOrders_137 : decode cX12_writeOrders 137 = .ok (.ireturn, 1) := by decide +kernel
theorem dX12_charAt_0 : decode cX12_charAt 0 = .ok (.iload_n 1, 1) := by decide +kernel
theorem dX12_charAt_1 : decode cX12_charAt 1 = .ok (.ifCond .lt 14, 3) := by decide +kernel
theorem dX12_charAt_4 : decode cX12_charAt 4 = .ok (.iload_n 1, 1) := by decide +kernel
theorem dX12_charAt_5 : decode cX12_charAt 5 = .ok (.aload_n 0, 1) := by decide +kernel
theorem dX12_charAt_6 : decode cX12_charAt 6 = .ok (.getfield 43, 3) := by decide +kernel
theorem dX12_charAt_9 : decode cX12_charAt 9 = .ok (.invokevirtual 271, 3) := by decide +kernel
theorem dX12_charAt_12 : decode cX12_charAt 12 = .ok (.if_icmp .lt 14, 3) := by decide +kernel
theorem dX12_charAt_15 : decode cX12_charAt 15 = .ok (.new 274, 3) := by decide +kernel
theorem dX12_charAt_18 : decode cX12_charAt 18 = .ok (.dup, 1) := by decide +kernel
theorem dX12_charAt_19 : decode cX12_charAt 19 = .ok (.ldc_w 276, 3) := by decide +kernel
theorem dX12_charAt_22 : decode cX12_charAt 22 = .ok (.invokespecial 278, 3) := by decide +kernel
theorem dX12_charAt_25 : decode cX12_charAt 25 = .ok (.athrow, 1) := by decide +kernel
theorem dX12_charAt_26 : decode cX12_charAt 26 = .ok (.aload_n 0, 1) := by decide +kernel
theorem dX12_charAt_27 : decode cX12_charAt 27 = .ok (.getfield 43, 3) := by decide +kernel
theorem dX12_charAt_30 : decode cX12_charAt 30 = .ok (.iload_n 1, 1) := by decide +kernel
theorem dX12_charAt_31 : decode cX12_charAt 31 = .ok (.invokevirtual 279, 3) := by decide +kernel
theorem dX12_charAt_34 : decode cX12_charAt 34 = .ok (.ireturn, 1) := by decide +kernel
theorem dX12_type_0 : decode cX12_type 0 = .ok (.aload_n 0, 1) := by decide +kernel
theorem dX12_type_1 : decode cX12_type 1 = .ok (.getfield 36, 3) := by decide +kernel
theorem dX12_type_4 : decode cX12_type 4 = .ok (.invokevirtual 282, 3) := by decide +kernel
theorem dX12_type_7 : decode cX12_type 7 = .ok (.ifCond .eq 14, 3) := by decide +kernel
theorem dX12_type_10 : decode cX12_type 10 = .ok (.new 285, 3) := by decide +kernel
theorem dX12_type_13 : decode cX12_type 13 = .ok (.dup, 1) := by decide +kernel
theorem dX12_type_14 : decode cX12_type 14 = .ok (.ldc_w 287, 3) := by decide +kernel
theorem dX12_type_17 : decode cX12_type 17 = .ok (.invokespecial 289, 3) := by decide +kernel
theorem dX12_type_20 : decode cX12_type 20 = .ok (.athrow, 1) := by decide +kernel
theorem dX12_type_21 : decode cX12_type 21 = .ok (.aload_n 0, 1) := by decide +kernel
theorem dX12_type_22 : decode cX12_type 22 = .ok (.getfield 36, 3) := by decide +kernel
theorem dX12_type_25 : decode cX12_type 25 = .ok (.iload_n 1, 1) := by decide +kernel
theorem dX12_type_26 : decode cX12_type 26 = .ok (.invokevirtual 290, 3) := by decide +kernel
theorem dX12_type_29 : decode cX12_type 29 = .ok (.ireturn, 1) := by decide +kernel
theorem dX12_run_0 : decode cX12_run 0 = .ok (.aload_n 0, 1) := by decide +kernel
theorem dX12_run_1 : decode cX12_run 1 = .ok (.getfield 36, 3) := by decide +kernel
theorem dX12_run_4 : decode cX12_run 4 = .ok (.invokevirtual 292, 3) := by decide +kernel
theorem dX12_run_7 : decode cX12_run 7 = .ok (.istore_n 1, 1) := by decide +kernel
theorem dX12_run_8 : decode cX12_run 8 = .ok (.iload_n 1, 1) := by decide +kernel
theorem dX12_run_9 : decode cX12_run 9 = .ok (.iconst (-1), 1) := by decide +kernel
theorem dX12_run_10 : decode cX12_run 10 = .ok (.if_icmp .eq 19, 3) := by decide +kernel
theorem dX12_run_13 : decode cX12_run 13 = .ok (.aload_n 0, 1) := by decide +kernel
theorem dX12_run_14 : decode cX12_run 14 = .ok (.iload_n 1, 1) := by decide +kernel
theorem dX12_run_15 : decode cX12_run 15 = .ok (.putfield 51, 3) := by decide +kernel
theorem dX12_run_18 : decode cX12_run 18 = .ok (.new 295, 3) := by decide +kernel
theorem dX12_run_21 : decode cX12_run 21 = .ok (.dup, 1) := by decide +kernel
theorem dX12_run_22 : decode cX12_run 22 = .ok (.ldc_w 297, 3) := by decide +kernel
theorem dX12_run_25 : decode cX12_run 25 = .ok (.invokespecial 299, 3) := by decide +kernel
theorem dX12_run_28 : decode cX12_run 28 = .ok (.athrow, 1) := by decide +kernel
theorem dX12_run_29 : decode cX12_run 29 = .ok (.aload_n 0, 1) := by decide +kernel
theorem dX12_run_30 : decode cX12_run 30 = .ok (.getfield 22, 3) := by decide +kernel
theorem dX12_run_33 : decode cX12_run 33 = .ok (.aload_n 0, 1) := by decide +kernel
theorem dX12_run_34 : decode cX12_run 34 = .ok (.getfield 10, 3) := by decide +kernel
theorem dX12_run_37 : decode cX12_run 37 = .ok (.invokevirtual 58, 3) := by decide +kernel
theorem dX12_run_40 : decode cX12_run 40 = .ok (.iconst 0, 1) := by decide +kernel
theorem dX12_run_41 : decode cX12_run 41 = .ok (.istore_n 2, 1) := by decide +kernel
theorem dX12_run_42 : decode cX12_run 42 = .ok (.iload_n 2, 1) := by decide +kernel
theorem dX12_run_43 : decode cX12_run 43 = .ok (.aload_n 0, 1) := by decide +kernel
theorem dX12_run_44 : decode cX12_run 44 = .ok (.getfield 36, 3) := by decide +kernel
theorem dX12_run_47 : decode cX12_run 47 = .ok (.invokevirtual 300, 3) := by decide +kernel
theorem dX12_run_50 : decode cX12_run 50 = .ok (.if_icmp .ge 51, 3) := by decide +kernel
theorem dX12_run_53 : decode cX12_run 53 = .ok (.aload_n 0, 1) := by decide +kernel
theorem dX12_run_54 : decode cX12_run 54 = .ok (.aload_n 0, 1) := by decide +kernel
theorem dX12_run_55 : decode cX12_run 55 = .ok (.getfield 36, 3) := by decide +kernel
theorem dX12_run_58 : decode cX12_run 58 = .ok (.iload_n 2, 1) := by decide +kernel
theorem dX12_run_59 : decode cX12_run 59 = .ok (.invokevirtual 301, 3) := by decide +kernel
theorem dX12_run_62 : decode cX12_run 62 = .ok (.invokevirtual 305, 3) := by decide +kernel
theorem dX12_run_65 : decode cX12_run 65 = .ok (.ifCond .ne 30, 3) := by decide +kernel
theorem dX12_run_68 : decode cX12_run 68 = .ok (.aload_n 0, 1) := by decide +kernel
theorem dX12_run_69 : decode cX12_run 69 = .ok (.getfield 22, 3) := by decide +kernel
theorem dX12_run_72 : decode cX12_run 72 = .ok (.aload_n 0, 1) := by decide +kernel
theorem dX12_run_73 : decode cX12_run 73 = .ok (.getfield 10, 3) := by decide +kernel
theorem dX12_run_76 : decode cX12_run 76 = .ok (.invokevirtual 309, 3) := by decide +kernel
theorem dX12_run_79 : decode cX12_run 79 = .ok (.aload_n 0, 1) := by decide +kernel
theorem dX12_run_80 : decode cX12_run 80 = .ok (.iload_n 2, 1) := by decide +kernel
theorem dX12_run_81 : decode cX12_run 81 = .ok (.putfield 55, 3) := by decide +kernel
theorem dX12_run_84 : decode cX12_run 84 = .ok (.new 312, 3) := by decide +kernel
theorem dX12_run_87 : decode cX12_run 87 = .ok (.dup, 1) := by decide +kernel
theorem dX12_run_88 : decode cX12_run 88 = .ok (.ldc_w 314, 3) := by decide +kernel
theorem dX12_run_91 : decode cX12_run 91 = .ok (.invokespecial 316, 3) := by decide +kernel
theorem dX12_run_94 : decode cX12_run 94 = .ok (.athrow, 1) := by decide +kernel
theorem dX12_run_95 : decode cX12_run 95 = .ok (.iinc 2 1, 3) := by decide +kernel
theorem dX12_run_98 : decode cX12_run 98 = .ok (.goto (-56), 3) := by decide +kernel
theorem dX12_run_101 : decode cX12_run 101 = .ok (.aload_n 0, 1) := by decide +kernel
theorem dX12_run_102 : decode cX12_run 102 = .ok (.getfield 22, 3) := by decide +kernel
theorem dX12_run_105 : decode cX12_run 105 = .ok (.invokevirtual 66, 3) := by decide +kernel
theorem dX12_run_108 : decode cX12_run 108 = .ok (.aload_n 0, 1) := by decide +kernel
theorem dX12_run_109 : decode cX12_run 109 = .ok (.getfield 36, 3) := by decide +kernel
theorem dX12_run_112 : decode cX12_run 112 = .ok (.invokevirtual 300, 3) := by decide +kernel
theorem dX12_run_115 : decode cX12_run 115 = .ok (.ireturn, 1) := by decide +kernel
theorem dX12_errorPosition_0 : decode cX12_errorPosition 0 = .ok (.aload_n 0, 1) := by decide +kernel
theorem dX12_errorPosition_1 : decode cX12_errorPosition 1 = .ok (.getfield 51, 3) := by decide +kernel
theorem dX12_errorPosition_4 : decode cX12_errorPosition 4 = .ok (.iconst (-1), 1) := by decide +kernel
theorem dX12_errorPosition_5 : decode cX12_errorPosition 5 = .ok (.if_icmp .ne 14, 3) := by decide +kernel
theorem dX12_errorPosition_8 : decode cX12_errorPosition 8 = .ok (.new 139, 3) := by decide +kernel
theorem dX12_errorPosition_11 : decode cX12_errorPosition 11 = .ok (.dup, 1) := by decide +kernel
theorem dX12_errorPosition_12 : decode cX12_errorPosition 12 = .ok (.ldc_w 317, 3) := by decide +kernel
theorem dX12_errorPosition_15 : decode cX12_errorPosition 15 = .ok (.invokespecial 143, 3) := by decide +kernel
theorem dX12_errorPosition_18 : decode cX12_errorPosition 18 = .ok (.athrow, 1) := by decide +kernel
theorem dX12_errorPosition_19 : decode cX12_errorPosition 19 = .ok (.aload_n 0, 1) := by decide +kernel
theorem dX12_errorPosition_20 : decode cX12_errorPosition 20 = .ok (.getfield 51, 3) := by decide +kernel
theorem dX12_errorPosition_23 : decode cX12_errorPosition 23 = .ok (.ireturn, 1) := by decide +kernel
theorem dX12_failedCommand_0 : decode cX12_failedCommand 0 = .ok (.aload_n 0, 1) := by decide +kernel
theorem dX12_failedCommand_1 : decode cX12_failedCommand 1 = .ok (.getfield 55, 3) := by decide +kernel
theorem dX12_failedCommand_4 : decode cX12_failedCommand 4 = .ok (.iconst (-1), 1) := by decide +kernel
theorem dX12_failedCommand_5 : decode cX12_failedCommand 5 = .ok (.if_icmp .ne 14, 3) := by decide +kernel
theorem dX12_failedCommand_8 : decode cX12_failedCommand 8 = .ok (.new 139, 3) := by decide +kernel
theorem dX12_failedCommand_11 : decode cX12_failedCommand 11 = .ok (.dup, 1) := by decide +kernel
theorem dX12_failedCommand_12 : decode cX12_failedCommand 12 = .ok (.ldc_w 319, 3) := by decide +kernel
theorem dX12_failedCommand_15 : decode cX12_failedCommand 15 = .ok (.invokespecial 143, 3) := by decide +kernel
theorem dX12_failedCommand_18 : decode cX12_failedCommand 18 = .ok (.athrow, 1) := by decide +kernel
theorem dX12_failedCommand_19 : decode cX12_failedCommand 19 = .ok (.aload_n 0, 1) := by decide +kernel
theorem dX12_failedCommand_20 : decode cX12_failedCommand 20 = .ok (.getfield 55, 3) := by decide +kernel
theorem dX12_failedCommand_23 : decode cX12_failedCommand 23 = .ok (.ireturn, 1) := by decide +kernel
theorem dX12_undo_0 : decode cX12_undo 0 = .ok (.aload_n 0, 1) := by decide +kernel
theorem dX12_undo_1 : decode cX12_undo 1 = .ok (.getfield 22, 3) := by decide +kernel
theorem dX12_undo_4 : decode cX12_undo 4 = .ok (.invokevirtual 321, 3) := by decide +kernel
theorem dX12_undo_7 : decode cX12_undo 7 = .ok (.ifCond .gt 14, 3) := by decide +kernel
theorem dX12_undo_10 : decode cX12_undo 10 = .ok (.new 285, 3) := by decide +kernel
theorem dX12_undo_13 : decode cX12_undo 13 = .ok (.dup, 1) := by decide +kernel
theorem dX12_undo_14 : decode cX12_undo 14 = .ok (.ldc_w 322, 3) := by decide +kernel
theorem dX12_undo_17 : decode cX12_undo 17 = .ok (.invokespecial 289, 3) := by decide +kernel
theorem dX12_undo_20 : decode cX12_undo 20 = .ok (.athrow, 1) := by decide +kernel
theorem dX12_undo_21 : decode cX12_undo 21 = .ok (.aload_n 0, 1) := by decide +kernel
theorem dX12_undo_22 : decode cX12_undo 22 = .ok (.getfield 22, 3) := by decide +kernel
theorem dX12_undo_25 : decode cX12_undo 25 = .ok (.aload_n 0, 1) := by decide +kernel
theorem dX12_undo_26 : decode cX12_undo 26 = .ok (.getfield 10, 3) := by decide +kernel
theorem dX12_undo_29 : decode cX12_undo 29 = .ok (.invokevirtual 324, 3) := by decide +kernel
theorem dX12_undo_32 : decode cX12_undo 32 = .ok (.aload_n 0, 1) := by decide +kernel
theorem dX12_undo_33 : decode cX12_undo 33 = .ok (.getfield 22, 3) := by decide +kernel
theorem dX12_undo_36 : decode cX12_undo 36 = .ok (.invokevirtual 321, 3) := by decide +kernel
theorem dX12_undo_39 : decode cX12_undo 39 = .ok (.ireturn, 1) := by decide +kernel
theorem dX12_save_0 : decode cX12_save 0 = .ok (.aload_n 0, 1) := by decide +kernel
theorem dX12_save_1 : decode cX12_save 1 = .ok (.getfield 16, 3) := by decide +kernel
theorem dX12_save_4 : decode cX12_save 4 = .ok (.aload_n 0, 1) := by decide +kernel
theorem dX12_save_5 : decode cX12_save 5 = .ok (.getfield 10, 3) := by decide +kernel
theorem dX12_save_8 : decode cX12_save 8 = .ok (.invokevirtual 327, 3) := by decide +kernel
theorem dX12_save_11 : decode cX12_save 11 = .ok (.aload_n 0, 1) := by decide +kernel
theorem dX12_save_12 : decode cX12_save 12 = .ok (.iconst 1, 1) := by decide +kernel
theorem dX12_save_13 : decode cX12_save 13 = .ok (.putfield 47, 3) := by decide +kernel
theorem dX12_save_16 : decode cX12_save 16 = .ok (.aload_n 0, 1) := by decide +kernel
theorem dX12_save_17 : decode cX12_save 17 = .ok (.getfield 10, 3) := by decide +kernel
theorem dX12_save_20 : decode cX12_save 20 = .ok (.getfield 110, 3) := by decide +kernel
theorem dX12_save_23 : decode cX12_save 23 = .ok (.invokevirtual 114, 3) := by decide +kernel
theorem dX12_save_26 : decode cX12_save 26 = .ok (.ireturn, 1) := by decide +kernel
theorem dX12_restore_0 : decode cX12_restore 0 = .ok (.aload_n 0, 1) := by decide +kernel
theorem dX12_restore_1 : decode cX12_restore 1 = .ok (.getfield 47, 3) := by decide +kernel
theorem dX12_restore_4 : decode cX12_restore 4 = .ok (.ifCond .ne 14, 3) := by decide +kernel
theorem dX12_restore_7 : decode cX12_restore 7 = .ok (.new 285, 3) := by decide +kernel
theorem dX12_restore_10 : decode cX12_restore 10 = .ok (.dup, 1) := by decide +kernel
theorem dX12_restore_11 : decode cX12_restore 11 = .ok (.ldc_w 330, 3) := by decide +kernel
theorem dX12_restore_14 : decode cX12_restore 14 = .ok (.invokespecial 289, 3) := by decide +kernel
theorem dX12_restore_17 : decode cX12_restore 17 = .ok (.athrow, 1) := by decide +kernel
theorem dX12_restore_18 : decode cX12_restore 18 = .ok (.aload_n 0, 1) := by decide +kernel
theorem dX12_restore_19 : decode cX12_restore 19 = .ok (.getfield 10, 3) := by decide +kernel
theorem dX12_restore_22 : decode cX12_restore 22 = .ok (.aload_n 0, 1) := by decide +kernel
theorem dX12_restore_23 : decode cX12_restore 23 = .ok (.getfield 16, 3) := by decide +kernel
theorem dX12_restore_26 : decode cX12_restore 26 = .ok (.invokevirtual 327, 3) := by decide +kernel
theorem dX12_restore_29 : decode cX12_restore 29 = .ok (.aload_n 0, 1) := by decide +kernel
theorem dX12_restore_30 : decode cX12_restore 30 = .ok (.getfield 22, 3) := by decide +kernel
theorem dX12_restore_33 : decode cX12_restore 33 = .ok (.invokevirtual 332, 3) := by decide +kernel
theorem dX12_restore_36 : decode cX12_restore 36 = .ok (.aload_n 0, 1) := by decide +kernel
theorem dX12_restore_37 : decode cX12_restore 37 = .ok (.getfield 10, 3) := by decide +kernel
theorem dX12_restore_40 : decode cX12_restore 40 = .ok (.getfield 110, 3) := by decide +kernel
theorem dX12_restore_43 : decode cX12_restore 43 = .ok (.invokevirtual 114, 3) := by decide +kernel
theorem dX12_restore_46 : decode cX12_restore 46 = .ok (.ireturn, 1) := by decide +kernel
theorem dX12_loadsAgree_0 : decode cX12_loadsAgree 0 = .ok (.iconst 0, 1) := by decide +kernel
theorem dX12_loadsAgree_1 : decode cX12_loadsAgree 1 = .ok (.istore_n 1, 1) := by decide +kernel
theorem dX12_loadsAgree_2 : decode cX12_loadsAgree 2 = .ok (.iload_n 1, 1) := by decide +kernel
theorem dX12_loadsAgree_3 : decode cX12_loadsAgree 3 = .ok (.aload_n 0, 1) := by decide +kernel
theorem dX12_loadsAgree_4 : decode cX12_loadsAgree 4 = .ok (.getfield 10, 3) := by decide +kernel
theorem dX12_loadsAgree_7 : decode cX12_loadsAgree 7 = .ok (.getfield 110, 3) := by decide +kernel
theorem dX12_loadsAgree_10 : decode cX12_loadsAgree 10 = .ok (.invokevirtual 114, 3) := by decide +kernel
theorem dX12_loadsAgree_13 : decode cX12_loadsAgree 13 = .ok (.if_icmp .ge 38, 3) := by decide +kernel
theorem dX12_loadsAgree_16 : decode cX12_loadsAgree 16 = .ok (.aload_n 0, 1) := by decide +kernel
theorem dX12_loadsAgree_17 : decode cX12_loadsAgree 17 = .ok (.getfield 29, 3) := by decide +kernel
theorem dX12_loadsAgree_20 : decode cX12_loadsAgree 20 = .ok (.aload_n 0, 1) := by decide +kernel
theorem dX12_loadsAgree_21 : decode cX12_loadsAgree 21 = .ok (.getfield 10, 3) := by decide +kernel
theorem dX12_loadsAgree_24 : decode cX12_loadsAgree 24 = .ok (.iload_n 1, 1) := by decide +kernel
theorem dX12_loadsAgree_25 : decode cX12_loadsAgree 25 = .ok (.invokevirtual 165, 3) := by decide +kernel
theorem dX12_loadsAgree_28 : decode cX12_loadsAgree 28 = .ok (.aload_n 0, 1) := by decide +kernel
theorem dX12_loadsAgree_29 : decode cX12_loadsAgree 29 = .ok (.getfield 29, 3) := by decide +kernel
theorem dX12_loadsAgree_32 : decode cX12_loadsAgree 32 = .ok (.aload_n 0, 1) := by decide +kernel
theorem dX12_loadsAgree_33 : decode cX12_loadsAgree 33 = .ok (.getfield 10, 3) := by decide +kernel
theorem dX12_loadsAgree_36 : decode cX12_loadsAgree 36 = .ok (.iload_n 1, 1) := by decide +kernel
theorem dX12_loadsAgree_37 : decode cX12_loadsAgree 37 = .ok (.invokevirtual 169, 3) := by decide +kernel
theorem dX12_loadsAgree_40 : decode cX12_loadsAgree 40 = .ok (.if_icmp .eq 5, 3) := by decide +kernel
theorem dX12_loadsAgree_43 : decode cX12_loadsAgree 43 = .ok (.iconst 0, 1) := by decide +kernel
theorem dX12_loadsAgree_44 : decode cX12_loadsAgree 44 = .ok (.ireturn, 1) := by decide +kernel
theorem dX12_loadsAgree_45 : decode cX12_loadsAgree 45 = .ok (.iinc 1 1, 3) := by decide +kernel
theorem dX12_loadsAgree_48 : decode cX12_loadsAgree 48 = .ok (.goto (-46), 3) := by decide +kernel
theorem dX12_loadsAgree_51 : decode cX12_loadsAgree 51 = .ok (.iconst 1, 1) := by decide +kernel
theorem dX12_loadsAgree_52 : decode cX12_loadsAgree 52 = .ok (.ireturn, 1) := by decide +kernel
theorem dX12_accountsAgree_0 : decode cX12_accountsAgree 0 = .ok (.iconst 0, 1) := by decide +kernel
theorem dX12_accountsAgree_1 : decode cX12_accountsAgree 1 = .ok (.istore_n 1, 1) := by decide +kernel
theorem dX12_accountsAgree_2 : decode cX12_accountsAgree 2 = .ok (.iload_n 1, 1) := by decide +kernel
theorem dX12_accountsAgree_3 : decode cX12_accountsAgree 3 = .ok (.bipush 6, 2) := by decide +kernel
theorem dX12_accountsAgree_5 : decode cX12_accountsAgree 5 = .ok (.if_icmp .ge 42, 3) := by decide +kernel
theorem dX12_accountsAgree_8 : decode cX12_accountsAgree 8 = .ok (.bipush 97, 2) := by decide +kernel
theorem dX12_accountsAgree_10 : decode cX12_accountsAgree 10 = .ok (.iload_n 1, 1) := by decide +kernel
theorem dX12_accountsAgree_11 : decode cX12_accountsAgree 11 = .ok (.iadd, 1) := by decide +kernel
theorem dX12_accountsAgree_12 : decode cX12_accountsAgree 12 = .ok (.i2c, 1) := by decide +kernel
theorem dX12_accountsAgree_13 : decode cX12_accountsAgree 13 = .ok (.istore_n 2, 1) := by decide +kernel
theorem dX12_accountsAgree_14 : decode cX12_accountsAgree 14 = .ok (.aload_n 0, 1) := by decide +kernel
theorem dX12_accountsAgree_15 : decode cX12_accountsAgree 15 = .ok (.getfield 10, 3) := by decide +kernel
theorem dX12_accountsAgree_18 : decode cX12_accountsAgree 18 = .ok (.getfield 207, 3) := by decide +kernel
theorem dX12_accountsAgree_21 : decode cX12_accountsAgree 21 = .ok (.getfield 211, 3) := by decide +kernel
theorem dX12_accountsAgree_24 : decode cX12_accountsAgree 24 = .ok (.iload_n 1, 1) := by decide +kernel
theorem dX12_accountsAgree_25 : decode cX12_accountsAgree 25 = .ok (.invokevirtual 220, 3) := by decide +kernel
theorem dX12_accountsAgree_28 : decode cX12_accountsAgree 28 = .ok (.aload_n 0, 1) := by decide +kernel
theorem dX12_accountsAgree_29 : decode cX12_accountsAgree 29 = .ok (.getfield 10, 3) := by decide +kernel
theorem dX12_accountsAgree_32 : decode cX12_accountsAgree 32 = .ok (.iload_n 2, 1) := by decide +kernel
theorem dX12_accountsAgree_33 : decode cX12_accountsAgree 33 = .ok (.invokevirtual 225, 3) := by decide +kernel
theorem dX12_accountsAgree_36 : decode cX12_accountsAgree 36 = .ok (.if_icmp .eq 5, 3) := by decide +kernel
theorem dX12_accountsAgree_39 : decode cX12_accountsAgree 39 = .ok (.iconst 0, 1) := by decide +kernel
theorem dX12_accountsAgree_40 : decode cX12_accountsAgree 40 = .ok (.ireturn, 1) := by decide +kernel
theorem dX12_accountsAgree_41 : decode cX12_accountsAgree 41 = .ok (.iinc 1 1, 3) := by decide +kernel
theorem dX12_accountsAgree_44 : decode cX12_accountsAgree 44 = .ok (.goto (-42), 3) := by decide +kernel
theorem dX12_accountsAgree_47 : decode cX12_accountsAgree 47 = .ok (.iconst 1, 1) := by decide +kernel
theorem dX12_accountsAgree_48 : decode cX12_accountsAgree 48 = .ok (.ireturn, 1) := by decide +kernel
theorem dX12_succeeds_0 : decode cX12_succeeds 0 = .ok (.aload_n 1, 1) := by decide +kernel
theorem dX12_succeeds_1 : decode cX12_succeeds 1 = .ok (.ifnull 10, 3) := by decide +kernel
theorem dX12_succeeds_4 : decode cX12_succeeds 4 = .ok (.aload_n 1, 1) := by decide +kernel
theorem dX12_succeeds_5 : decode cX12_succeeds 5 = .ok (.getfield 335, 3) := by decide +kernel
theorem dX12_succeeds_8 : decode cX12_succeeds 8 = .ok (.ifnonnull 5, 3) := by decide +kernel
theorem dX12_succeeds_11 : decode cX12_succeeds 11 = .ok (.iconst 0, 1) := by decide +kernel
theorem dX12_succeeds_12 : decode cX12_succeeds 12 = .ok (.ireturn, 1) := by decide +kernel
theorem dX12_succeeds_13 : decode cX12_succeeds 13 = .ok (.aload_n 0, 1) := by decide +kernel
theorem dX12_succeeds_14 : decode cX12_succeeds 14 = .ok (.getfield 10, 3) := by decide +kernel
theorem dX12_succeeds_17 : decode cX12_succeeds 17 = .ok (.aload_n 1, 1) := by decide +kernel
theorem dX12_succeeds_18 : decode cX12_succeeds 18 = .ok (.invokevirtual 341, 3) := by decide +kernel
theorem dX12_succeeds_21 : decode cX12_succeeds 21 = .ok (.iconst 1, 1) := by decide +kernel
theorem dX12_succeeds_22 : decode cX12_succeeds 22 = .ok (.ireturn, 1) := by decide +kernel
theorem dX12_succeeds_23 : decode cX12_succeeds 23 = .ok (.astore_n 2, 1) := by decide +kernel
theorem dX12_succeeds_24 : decode cX12_succeeds 24 = .ok (.iconst 0, 1) := by decide +kernel
theorem dX12_succeeds_25 : decode cX12_succeeds 25 = .ok (.ireturn, 1) := by decide +kernel
theorem dX12_succeeds_26 : decode cX12_succeeds 26 = .ok (.astore_n 2, 1) := by decide +kernel
theorem dX12_succeeds_27 : decode cX12_succeeds 27 = .ok (.iconst 0, 1) := by decide +kernel
theorem dX12_succeeds_28 : decode cX12_succeeds 28 = .ok (.ireturn, 1) := by decide +kernel
theorem dX12_succeeds_29 : decode cX12_succeeds 29 = .ok (.astore_n 2, 1) := by decide +kernel
theorem dX12_succeeds_30 : decode cX12_succeeds 30 = .ok (.iconst 0, 1) := by decide +kernel
theorem dX12_succeeds_31 : decode cX12_succeeds 31 = .ok (.ireturn, 1) := by decide +kernel
theorem dX12_succeeds_32 : decode cX12_succeeds 32 = .ok (.astore_n 2, 1) := by decide +kernel
theorem dX12_succeeds_33 : decode cX12_succeeds 33 = .ok (.iconst 0, 1) := by decide +kernel
theorem dX12_succeeds_34 : decode cX12_succeeds 34 = .ok (.ireturn, 1) := by decide +kernel
theorem dX12_isMaterial_0 : decode cX12_isMaterial 0 = .ok (.iload_n 0, 1) := by decide +kernel
theorem dX12_isMaterial_1 : decode cX12_isMaterial 1 = .ok (.bipush 97, 2) := by decide +kernel
theorem dX12_isMaterial_3 : decode cX12_isMaterial 3 = .ok (.if_icmp .lt 13, 3) := by decide +kernel
theorem dX12_isMaterial_6 : decode cX12_isMaterial 6 = .ok (.iload_n 0, 1) := by decide +kernel
theorem dX12_isMaterial_7 : decode cX12_isMaterial 7 = .ok (.bipush 102, 2) := by decide +kernel
theorem dX12_isMaterial_9 : decode cX12_isMaterial 9 = .ok (.if_icmp .gt 7, 3) := by decide +kernel
theorem dX12_isMaterial_12 : decode cX12_isMaterial 12 = .ok (.iconst 1, 1) := by decide +kernel
theorem dX12_isMaterial_13 : decode cX12_isMaterial 13 = .ok (.goto 4, 3) := by decide +kernel
theorem dX12_isMaterial_16 : decode cX12_isMaterial 16 = .ok (.iconst 0, 1) := by decide +kernel
theorem dX12_isMaterial_17 : decode cX12_isMaterial 17 = .ok (.ireturn, 1) := by decide +kernel
theorem dX12_isRule_0 : decode cX12_isRule 0 = .ok (.iload_n 0, 1) := by decide +kernel
theorem dX12_isRule_1 : decode cX12_isRule 1 = .ok (.bipush 98, 2) := by decide +kernel
theorem dX12_isRule_3 : decode cX12_isRule 3 = .ok (.if_icmp .eq 15, 3) := by decide +kernel
theorem dX12_isRule_6 : decode cX12_isRule 6 = .ok (.iload_n 0, 1) := by decide +kernel
theorem dX12_isRule_7 : decode cX12_isRule 7 = .ok (.bipush 119, 2) := by decide +kernel
theorem dX12_isRule_9 : decode cX12_isRule 9 = .ok (.if_icmp .eq 9, 3) := by decide +kernel
theorem dX12_isRule_12 : decode cX12_isRule 12 = .ok (.iload_n 0, 1) := by decide +kernel
theorem dX12_isRule_13 : decode cX12_isRule 13 = .ok (.bipush 102, 2) := by decide +kernel
theorem dX12_isRule_15 : decode cX12_isRule 15 = .ok (.if_icmp .ne 7, 3) := by decide +kernel
theorem dX12_isRule_18 : decode cX12_isRule 18 = .ok (.iconst 1, 1) := by decide +kernel
theorem dX12_isRule_19 : decode cX12_isRule 19 = .ok (.goto 4, 3) := by decide +kernel
theorem dX12_isRule_22 : decode cX12_isRule 22 = .ok (.iconst 0, 1) := by decide +kernel
theorem dX12_isRule_23 : decode cX12_isRule 23 = .ok (.ireturn, 1) := by decide +kernel
theorem dX12_isDigit_0 : decode cX12_isDigit 0 = .ok (.iload_n 0, 1) := by decide +kernel
theorem dX12_isDigit_1 : decode cX12_isDigit 1 = .ok (.bipush 48, 2) := by decide +kernel
theorem dX12_isDigit_3 : decode cX12_isDigit 3 = .ok (.if_icmp .lt 13, 3) := by decide +kernel
theorem dX12_isDigit_6 : decode cX12_isDigit 6 = .ok (.iload_n 0, 1) := by decide +kernel
theorem dX12_isDigit_7 : decode cX12_isDigit 7 = .ok (.bipush 57, 2) := by decide +kernel
theorem dX12_isDigit_9 : decode cX12_isDigit 9 = .ok (.if_icmp .gt 7, 3) := by decide +kernel
theorem dX12_isDigit_12 : decode cX12_isDigit 12 = .ok (.iconst 1, 1) := by decide +kernel
theorem dX12_isDigit_13 : decode cX12_isDigit 13 = .ok (.goto 4, 3) := by decide +kernel
theorem dX12_isDigit_16 : decode cX12_isDigit 16 = .ok (.iconst 0, 1) := by decide +kernel
theorem dX12_isDigit_17 : decode cX12_isDigit 17 = .ok (.ireturn, 1) := by decide +kernel
theorem dX12_requireMaterial_0 : decode cX12_requireMaterial 0 = .ok (.iload_n 0, 1) := by decide +kernel
theorem dX12_requireMaterial_1 : decode cX12_requireMaterial 1 = .ok (.invokestatic 345, 3) := by decide +kernel
theorem dX12_requireMaterial_4 : decode cX12_requireMaterial 4 = .ok (.ifCond .ne 14, 3) := by decide +kernel
theorem dX12_requireMaterial_7 : decode cX12_requireMaterial 7 = .ok (.new 295, 3) := by decide +kernel
theorem dX12_requireMaterial_10 : decode cX12_requireMaterial 10 = .ok (.dup, 1) := by decide +kernel
theorem dX12_requireMaterial_11 : decode cX12_requireMaterial 11 = .ok (.ldc_w 349, 3) := by decide +kernel
theorem dX12_requireMaterial_14 : decode cX12_requireMaterial 14 = .ok (.invokespecial 299, 3) := by decide +kernel
theorem dX12_requireMaterial_17 : decode cX12_requireMaterial 17 = .ok (.athrow, 1) := by decide +kernel
theorem dX12_requireMaterial_18 : decode cX12_requireMaterial 18 = .ok (.return_, 1) := by decide +kernel
theorem dX12_placeOf_0 : decode cX12_placeOf 0 = .ok (.iload_n 0, 1) := by decide +kernel
theorem dX12_placeOf_1 : decode cX12_placeOf 1 = .ok (.bipush 97, 2) := by decide +kernel
theorem dX12_placeOf_3 : decode cX12_placeOf 3 = .ok (.isub, 1) := by decide +kernel
theorem dX12_placeOf_4 : decode cX12_placeOf 4 = .ok (.ireturn, 1) := by decide +kernel
