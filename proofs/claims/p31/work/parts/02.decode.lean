theorem dX0_init_0 : decode cX0_init 0 = .ok (.aload_n 0, 1) := by decide +kernel
theorem dX0_init_1 : decode cX0_init 1 = .ok (.invokespecial 3, 3) := by decide +kernel
theorem dX0_init_4 : decode cX0_init 4 = .ok (.aload_n 0, 1) := by decide +kernel
theorem dX0_init_5 : decode cX0_init 5 = .ok (.bipush 80, 2) := by decide +kernel
theorem dX0_init_7 : decode cX0_init 7 = .ok (.newarray .char, 2) := by decide +kernel
theorem dX0_init_9 : decode cX0_init 9 = .ok (.putfield 9, 3) := by decide +kernel
theorem dX0_init_12 : decode cX0_init 12 = .ok (.return_, 1) := by decide +kernel
theorem dX1_init_0 : decode cX1_init 0 = .ok (.aload_n 0, 1) := by decide +kernel
theorem dX1_init_1 : decode cX1_init 1 = .ok (.invokespecial 3, 3) := by decide +kernel
theorem dX1_init_4 : decode cX1_init 4 = .ok (.aload_n 0, 1) := by decide +kernel
theorem dX1_init_5 : decode cX1_init 5 = .ok (.bipush 6, 2) := by decide +kernel
theorem dX1_init_7 : decode cX1_init 7 = .ok (.anewarray 9, 3) := by decide +kernel
theorem dX1_init_10 : decode cX1_init 10 = .ok (.putfield 11, 3) := by decide +kernel
theorem dX1_init_13 : decode cX1_init 13 = .ok (.iconst 0, 1) := by decide +kernel
theorem dX1_init_14 : decode cX1_init 14 = .ok (.istore_n 1, 1) := by decide +kernel
theorem dX1_init_15 : decode cX1_init 15 = .ok (.iload_n 1, 1) := by decide +kernel
theorem dX1_init_16 : decode cX1_init 16 = .ok (.bipush 6, 2) := by decide +kernel
theorem dX1_init_18 : decode cX1_init 18 = .ok (.if_icmp .ge 22, 3) := by decide +kernel
theorem dX1_init_21 : decode cX1_init 21 = .ok (.aload_n 0, 1) := by decide +kernel
theorem dX1_init_22 : decode cX1_init 22 = .ok (.getfield 11, 3) := by decide +kernel
theorem dX1_init_25 : decode cX1_init 25 = .ok (.iload_n 1, 1) := by decide +kernel
theorem dX1_init_26 : decode cX1_init 26 = .ok (.new 9, 3) := by decide +kernel
theorem dX1_init_29 : decode cX1_init 29 = .ok (.dup, 1) := by decide +kernel
theorem dX1_init_30 : decode cX1_init 30 = .ok (.invokespecial 17, 3) := by decide +kernel
theorem dX1_init_33 : decode cX1_init 33 = .ok (.aastore, 1) := by decide +kernel
theorem dX1_init_34 : decode cX1_init 34 = .ok (.iinc 1 1, 3) := by decide +kernel
theorem dX1_init_37 : decode cX1_init 37 = .ok (.goto (-22), 3) := by decide +kernel
theorem dX1_init_40 : decode cX1_init 40 = .ok (.return_, 1) := by decide +kernel
theorem dX1_keep_0 : decode cX1_keep 0 = .ok (.aload_n 0, 1) := by decide +kernel
theorem dX1_keep_1 : decode cX1_keep 1 = .ok (.getfield 18, 3) := by decide +kernel
theorem dX1_keep_4 : decode cX1_keep 4 = .ok (.bipush 6, 2) := by decide +kernel
theorem dX1_keep_6 : decode cX1_keep 6 = .ok (.invokestatic 22, 3) := by decide +kernel
theorem dX1_keep_9 : decode cX1_keep 9 = .ok (.ifCond .ne 4, 3) := by decide +kernel
theorem dX1_keep_12 : decode cX1_keep 12 = .ok (.return_, 1) := by decide +kernel
theorem dX1_keep_13 : decode cX1_keep 13 = .ok (.aload_n 0, 1) := by decide +kernel
theorem dX1_keep_14 : decode cX1_keep 14 = .ok (.getfield 11, 3) := by decide +kernel
theorem dX1_keep_17 : decode cX1_keep 17 = .ok (.aload_n 0, 1) := by decide +kernel
theorem dX1_keep_18 : decode cX1_keep 18 = .ok (.getfield 18, 3) := by decide +kernel
theorem dX1_keep_21 : decode cX1_keep 21 = .ok (.aaload, 1) := by decide +kernel
theorem dX1_keep_22 : decode cX1_keep 22 = .ok (.aload_n 1, 1) := by decide +kernel
theorem dX1_keep_23 : decode cX1_keep 23 = .ok (.invokevirtual 26, 3) := by decide +kernel
theorem dX1_keep_26 : decode cX1_keep 26 = .ok (.aload_n 0, 1) := by decide +kernel
theorem dX1_keep_27 : decode cX1_keep 27 = .ok (.aload_n 0, 1) := by decide +kernel
theorem dX1_keep_28 : decode cX1_keep 28 = .ok (.getfield 18, 3) := by decide +kernel
theorem dX1_keep_31 : decode cX1_keep 31 = .ok (.iconst 1, 1) := by decide +kernel
theorem dX1_keep_32 : decode cX1_keep 32 = .ok (.iadd, 1) := by decide +kernel
theorem dX1_keep_33 : decode cX1_keep 33 = .ok (.bipush 6, 2) := by decide +kernel
theorem dX1_keep_35 : decode cX1_keep 35 = .ok (.irem, 1) := by decide +kernel
theorem dX1_keep_36 : decode cX1_keep 36 = .ok (.putfield 18, 3) := by decide +kernel
theorem dX1_keep_39 : decode cX1_keep 39 = .ok (.aload_n 0, 1) := by decide +kernel
theorem dX1_keep_40 : decode cX1_keep 40 = .ok (.bipush 6, 2) := by decide +kernel
theorem dX1_keep_42 : decode cX1_keep 42 = .ok (.aload_n 0, 1) := by decide +kernel
theorem dX1_keep_43 : decode cX1_keep 43 = .ok (.getfield 30, 3) := by decide +kernel
theorem dX1_keep_46 : decode cX1_keep 46 = .ok (.iconst 1, 1) := by decide +kernel
theorem dX1_keep_47 : decode cX1_keep 47 = .ok (.iadd, 1) := by decide +kernel
theorem dX1_keep_48 : decode cX1_keep 48 = .ok (.invokestatic 33, 3) := by decide +kernel
theorem dX1_keep_51 : decode cX1_keep 51 = .ok (.putfield 30, 3) := by decide +kernel
theorem dX1_keep_54 : decode cX1_keep 54 = .ok (.return_, 1) := by decide +kernel
theorem dX2_init_0 : decode cX2_init 0 = .ok (.aload_n 0, 1) := by decide +kernel
theorem dX2_init_1 : decode cX2_init 1 = .ok (.invokespecial 3, 3) := by decide +kernel
theorem dX2_init_4 : decode cX2_init 4 = .ok (.aload_n 0, 1) := by decide +kernel
theorem dX2_init_5 : decode cX2_init 5 = .ok (.bipush 84, 2) := by decide +kernel
theorem dX2_init_7 : decode cX2_init 7 = .ok (.newarray .int, 2) := by decide +kernel
theorem dX2_init_9 : decode cX2_init 9 = .ok (.putfield 9, 3) := by decide +kernel
theorem dX2_init_12 : decode cX2_init 12 = .ok (.return_, 1) := by decide +kernel
theorem dX2_copyFrom_0 : decode cX2_copyFrom 0 = .ok (.aload_n 1, 1) := by decide +kernel
theorem dX2_copyFrom_1 : decode cX2_copyFrom 1 = .ok (.getfield 9, 3) := by decide +kernel
theorem dX2_copyFrom_4 : decode cX2_copyFrom 4 = .ok (.iconst 0, 1) := by decide +kernel
theorem dX2_copyFrom_5 : decode cX2_copyFrom 5 = .ok (.aload_n 0, 1) := by decide +kernel
theorem dX2_copyFrom_6 : decode cX2_copyFrom 6 = .ok (.getfield 9, 3) := by decide +kernel
theorem dX2_copyFrom_9 : decode cX2_copyFrom 9 = .ok (.iconst 0, 1) := by decide +kernel
theorem dX2_copyFrom_10 : decode cX2_copyFrom 10 = .ok (.bipush 84, 2) := by decide +kernel
theorem dX2_copyFrom_12 : decode cX2_copyFrom 12 = .ok (.invokestatic 15, 3) := by decide +kernel
theorem dX2_copyFrom_15 : decode cX2_copyFrom 15 = .ok (.aload_n 0, 1) := by decide +kernel
theorem dX2_copyFrom_16 : decode cX2_copyFrom 16 = .ok (.aload_n 1, 1) := by decide +kernel
theorem dX2_copyFrom_17 : decode cX2_copyFrom 17 = .ok (.getfield 21, 3) := by decide +kernel
theorem dX2_copyFrom_20 : decode cX2_copyFrom 20 = .ok (.putfield 21, 3) := by decide +kernel
theorem dX2_copyFrom_23 : decode cX2_copyFrom 23 = .ok (.aload_n 0, 1) := by decide +kernel
theorem dX2_copyFrom_24 : decode cX2_copyFrom 24 = .ok (.aload_n 1, 1) := by decide +kernel
theorem dX2_copyFrom_25 : decode cX2_copyFrom 25 = .ok (.getfield 25, 3) := by decide +kernel
theorem dX2_copyFrom_28 : decode cX2_copyFrom 28 = .ok (.putfield 25, 3) := by decide +kernel
theorem dX2_copyFrom_31 : decode cX2_copyFrom 31 = .ok (.aload_n 0, 1) := by decide +kernel
theorem dX2_copyFrom_32 : decode cX2_copyFrom 32 = .ok (.aload_n 1, 1) := by decide +kernel
theorem dX2_copyFrom_33 : decode cX2_copyFrom 33 = .ok (.getfield 29, 3) := by decide +kernel
theorem dX2_copyFrom_36 : decode cX2_copyFrom 36 = .ok (.putfield 29, 3) := by decide +kernel
theorem dX2_copyFrom_39 : decode cX2_copyFrom 39 = .ok (.return_, 1) := by decide +kernel
theorem dX2_arrive_0 : decode cX2_arrive 0 = .ok (.aload_n 0, 1) := by decide +kernel
theorem dX2_arrive_1 : decode cX2_arrive 1 = .ok (.iconst 1, 1) := by decide +kernel
theorem dX2_arrive_2 : decode cX2_arrive 2 = .ok (.putfield 21, 3) := by decide +kernel
theorem dX2_arrive_5 : decode cX2_arrive 5 = .ok (.aload_n 0, 1) := by decide +kernel
theorem dX2_arrive_6 : decode cX2_arrive 6 = .ok (.aconst_null, 1) := by decide +kernel
theorem dX2_arrive_7 : decode cX2_arrive 7 = .ok (.iconst 0, 1) := by decide +kernel
theorem dX2_arrive_8 : decode cX2_arrive 8 = .ok (.invokevirtual 32, 3) := by decide +kernel
theorem dX2_arrive_11 : decode cX2_arrive 11 = .ok (.return_, 1) := by decide +kernel
theorem dX2_leave_0 : decode cX2_leave 0 = .ok (.aload_n 0, 1) := by decide +kernel
theorem dX2_leave_1 : decode cX2_leave 1 = .ok (.iconst 0, 1) := by decide +kernel
theorem dX2_leave_2 : decode cX2_leave 2 = .ok (.putfield 21, 3) := by decide +kernel
theorem dX2_leave_5 : decode cX2_leave 5 = .ok (.return_, 1) := by decide +kernel
theorem dX2_beginLife_0 : decode cX2_beginLife 0 = .ok (.aload_n 0, 1) := by decide +kernel
theorem dX2_beginLife_1 : decode cX2_beginLife 1 = .ok (.iconst 0, 1) := by decide +kernel
theorem dX2_beginLife_2 : decode cX2_beginLife 2 = .ok (.putfield 25, 3) := by decide +kernel
theorem dX2_beginLife_5 : decode cX2_beginLife 5 = .ok (.aload_n 0, 1) := by decide +kernel
theorem dX2_beginLife_6 : decode cX2_beginLife 6 = .ok (.iconst 0, 1) := by decide +kernel
theorem dX2_beginLife_7 : decode cX2_beginLife 7 = .ok (.putfield 29, 3) := by decide +kernel
theorem dX2_beginLife_10 : decode cX2_beginLife 10 = .ok (.iconst 0, 1) := by decide +kernel
theorem dX2_beginLife_11 : decode cX2_beginLife 11 = .ok (.istore_n 3, 1) := by decide +kernel
theorem dX2_beginLife_12 : decode cX2_beginLife 12 = .ok (.iload_n 3, 1) := by decide +kernel
theorem dX2_beginLife_13 : decode cX2_beginLife 13 = .ok (.bipush 6, 2) := by decide +kernel
theorem dX2_beginLife_15 : decode cX2_beginLife 15 = .ok (.if_icmp .ge 56, 3) := by decide +kernel
theorem dX2_beginLife_18 : decode cX2_beginLife 18 = .ok (.iconst 0, 1) := by decide +kernel
theorem dX2_beginLife_19 : decode cX2_beginLife 19 = .ok (.istore 4, 2) := by decide +kernel
theorem dX2_beginLife_21 : decode cX2_beginLife 21 = .ok (.iload 4, 2) := by decide +kernel
theorem dX2_beginLife_23 : decode cX2_beginLife 23 = .ok (.bipush 14, 2) := by decide +kernel
theorem dX2_beginLife_25 : decode cX2_beginLife 25 = .ok (.if_icmp .ge 40, 3) := by decide +kernel
theorem dX2_beginLife_28 : decode cX2_beginLife 28 = .ok (.aload_n 1, 1) := by decide +kernel
theorem dX2_beginLife_29 : decode cX2_beginLife 29 = .ok (.ifnonnull 7, 3) := by decide +kernel
theorem dX2_beginLife_32 : decode cX2_beginLife 32 = .ok (.iconst 0, 1) := by decide +kernel
theorem dX2_beginLife_33 : decode cX2_beginLife 33 = .ok (.goto 15, 3) := by decide +kernel
theorem dX2_beginLife_36 : decode cX2_beginLife 36 = .ok (.aload_n 1, 1) := by decide +kernel
theorem dX2_beginLife_37 : decode cX2_beginLife 37 = .ok (.iload_n 3, 1) := by decide +kernel
theorem dX2_beginLife_38 : decode cX2_beginLife 38 = .ok (.iload 4, 2) := by decide +kernel
theorem dX2_beginLife_40 : decode cX2_beginLife 40 = .ok (.invokevirtual 36, 3) := by decide +kernel
theorem dX2_beginLife_43 : decode cX2_beginLife 43 = .ok (.iload_n 2, 1) := by decide +kernel
theorem dX2_beginLife_44 : decode cX2_beginLife 44 = .ok (.imul, 1) := by decide +kernel
theorem dX2_beginLife_45 : decode cX2_beginLife 45 = .ok (.bipush 100, 2) := by decide +kernel
theorem dX2_beginLife_47 : decode cX2_beginLife 47 = .ok (.idiv, 1) := by decide +kernel
theorem dX2_beginLife_48 : decode cX2_beginLife 48 = .ok (.istore 5, 2) := by decide +kernel
theorem dX2_beginLife_50 : decode cX2_beginLife 50 = .ok (.aload_n 0, 1) := by decide +kernel
theorem dX2_beginLife_51 : decode cX2_beginLife 51 = .ok (.iload_n 3, 1) := by decide +kernel
theorem dX2_beginLife_52 : decode cX2_beginLife 52 = .ok (.iload 4, 2) := by decide +kernel
theorem dX2_beginLife_54 : decode cX2_beginLife 54 = .ok (.iload 5, 2) := by decide +kernel
theorem dX2_beginLife_56 : decode cX2_beginLife 56 = .ok (.invokevirtual 40, 3) := by decide +kernel
theorem dX2_beginLife_59 : decode cX2_beginLife 59 = .ok (.iinc 4 1, 3) := by decide +kernel
theorem dX2_beginLife_62 : decode cX2_beginLife 62 = .ok (.goto (-41), 3) := by decide +kernel
theorem dX2_beginLife_65 : decode cX2_beginLife 65 = .ok (.iinc 3 1, 3) := by decide +kernel
theorem dX2_beginLife_68 : decode cX2_beginLife 68 = .ok (.goto (-56), 3) := by decide +kernel
theorem dX2_beginLife_71 : decode cX2_beginLife 71 = .ok (.return_, 1) := by decide +kernel
theorem dX2_weightOf_0 : decode cX2_weightOf 0 = .ok (.iload_n 1, 1) := by decide +kernel
theorem dX2_weightOf_1 : decode cX2_weightOf 1 = .ok (.invokestatic 44, 3) := by decide +kernel
theorem dX2_weightOf_4 : decode cX2_weightOf 4 = .ok (.ifCond .eq 24, 3) := by decide +kernel
theorem dX2_weightOf_7 : decode cX2_weightOf 7 = .ok (.iload_n 2, 1) := by decide +kernel
theorem dX2_weightOf_8 : decode cX2_weightOf 8 = .ok (.invokestatic 48, 3) := by decide +kernel
theorem dX2_weightOf_11 : decode cX2_weightOf 11 = .ok (.ifCond .eq 17, 3) := by decide +kernel
theorem dX2_weightOf_14 : decode cX2_weightOf 14 = .ok (.aload_n 0, 1) := by decide +kernel
theorem dX2_weightOf_15 : decode cX2_weightOf 15 = .ok (.getfield 9, 3) := by decide +kernel
theorem dX2_weightOf_18 : decode cX2_weightOf 18 = .ok (.iload_n 1, 1) := by decide +kernel
theorem dX2_weightOf_19 : decode cX2_weightOf 19 = .ok (.bipush 14, 2) := by decide +kernel
theorem dX2_weightOf_21 : decode cX2_weightOf 21 = .ok (.imul, 1) := by decide +kernel
theorem dX2_weightOf_22 : decode cX2_weightOf 22 = .ok (.iload_n 2, 1) := by decide +kernel
theorem dX2_weightOf_23 : decode cX2_weightOf 23 = .ok (.iadd, 1) := by decide +kernel
theorem dX2_weightOf_24 : decode cX2_weightOf 24 = .ok (.iaload, 1) := by decide +kernel
theorem dX2_weightOf_25 : decode cX2_weightOf 25 = .ok (.goto 4, 3) := by decide +kernel
theorem dX2_weightOf_28 : decode cX2_weightOf 28 = .ok (.iconst 0, 1) := by decide +kernel
theorem dX2_weightOf_29 : decode cX2_weightOf 29 = .ok (.ireturn, 1) := by decide +kernel
theorem dX2_putWeight_0 : decode cX2_putWeight 0 = .ok (.iload_n 1, 1) := by decide +kernel
theorem dX2_putWeight_1 : decode cX2_putWeight 1 = .ok (.invokestatic 44, 3) := by decide +kernel
theorem dX2_putWeight_4 : decode cX2_putWeight 4 = .ok (.ifCond .eq 31, 3) := by decide +kernel
theorem dX2_putWeight_7 : decode cX2_putWeight 7 = .ok (.iload_n 2, 1) := by decide +kernel
theorem dX2_putWeight_8 : decode cX2_putWeight 8 = .ok (.invokestatic 48, 3) := by decide +kernel
theorem dX2_putWeight_11 : decode cX2_putWeight 11 = .ok (.ifCond .eq 24, 3) := by decide +kernel
theorem dX2_putWeight_14 : decode cX2_putWeight 14 = .ok (.aload_n 0, 1) := by decide +kernel
theorem dX2_putWeight_15 : decode cX2_putWeight 15 = .ok (.getfield 9, 3) := by decide +kernel
theorem dX2_putWeight_18 : decode cX2_putWeight 18 = .ok (.iload_n 1, 1) := by decide +kernel
theorem dX2_putWeight_19 : decode cX2_putWeight 19 = .ok (.bipush 14, 2) := by decide +kernel
theorem dX2_putWeight_21 : decode cX2_putWeight 21 = .ok (.imul, 1) := by decide +kernel
theorem dX2_putWeight_22 : decode cX2_putWeight 22 = .ok (.iload_n 2, 1) := by decide +kernel
theorem dX2_putWeight_23 : decode cX2_putWeight 23 = .ok (.iadd, 1) := by decide +kernel
theorem dX2_putWeight_24 : decode cX2_putWeight 24 = .ok (.iconst 0, 1) := by decide +kernel
theorem dX2_putWeight_25 : decode cX2_putWeight 25 = .ok (.bipush 99, 2) := by decide +kernel
theorem dX2_putWeight_27 : decode cX2_putWeight 27 = .ok (.iload_n 3, 1) := by decide +kernel
theorem dX2_putWeight_28 : decode cX2_putWeight 28 = .ok (.invokestatic 51, 3) := by decide +kernel
theorem dX2_putWeight_31 : decode cX2_putWeight 31 = .ok (.invokestatic 56, 3) := by decide +kernel
theorem dX2_putWeight_34 : decode cX2_putWeight 34 = .ok (.iastore, 1) := by decide +kernel
theorem dX2_putWeight_35 : decode cX2_putWeight 35 = .ok (.return_, 1) := by decide +kernel
theorem dX2_changeWeight_0 : decode cX2_changeWeight 0 = .ok (.aload_n 0, 1) := by decide +kernel
theorem dX2_changeWeight_1 : decode cX2_changeWeight 1 = .ok (.iload_n 1, 1) := by decide +kernel
theorem dX2_changeWeight_2 : decode cX2_changeWeight 2 = .ok (.iload_n 2, 1) := by decide +kernel
theorem dX2_changeWeight_3 : decode cX2_changeWeight 3 = .ok (.aload_n 0, 1) := by decide +kernel
theorem dX2_changeWeight_4 : decode cX2_changeWeight 4 = .ok (.iload_n 1, 1) := by decide +kernel
theorem dX2_changeWeight_5 : decode cX2_changeWeight 5 = .ok (.iload_n 2, 1) := by decide +kernel
theorem dX2_changeWeight_6 : decode cX2_changeWeight 6 = .ok (.invokevirtual 36, 3) := by decide +kernel
theorem dX2_changeWeight_9 : decode cX2_changeWeight 9 = .ok (.iload_n 3, 1) := by decide +kernel
theorem dX2_changeWeight_10 : decode cX2_changeWeight 10 = .ok (.iadd, 1) := by decide +kernel
theorem dX2_changeWeight_11 : decode cX2_changeWeight 11 = .ok (.invokevirtual 40, 3) := by decide +kernel
theorem dX2_changeWeight_14 : decode cX2_changeWeight 14 = .ok (.return_, 1) := by decide +kernel
theorem dX2_wordFor_0 : decode cX2_wordFor 0 = .ok (.bipush (-6), 2) := by decide +kernel
theorem dX2_wordFor_2 : decode cX2_wordFor 2 = .ok (.istore_n 2, 1) := by decide +kernel
theorem dX2_wordFor_3 : decode cX2_wordFor 3 = .ok (.iconst 0, 1) := by decide +kernel
theorem dX2_wordFor_4 : decode cX2_wordFor 4 = .ok (.istore_n 3, 1) := by decide +kernel
theorem dX2_wordFor_5 : decode cX2_wordFor 5 = .ok (.iconst 0, 1) := by decide +kernel
theorem dX2_wordFor_6 : decode cX2_wordFor 6 = .ok (.istore 4, 2) := by decide +kernel
theorem dX2_wordFor_8 : decode cX2_wordFor 8 = .ok (.iload 4, 2) := by decide +kernel
theorem dX2_wordFor_10 : decode cX2_wordFor 10 = .ok (.bipush 14, 2) := by decide +kernel
theorem dX2_wordFor_12 : decode cX2_wordFor 12 = .ok (.if_icmp .ge 30, 3) := by decide +kernel
theorem dX2_wordFor_15 : decode cX2_wordFor 15 = .ok (.aload_n 0, 1) := by decide +kernel
theorem dX2_wordFor_16 : decode cX2_wordFor 16 = .ok (.iload_n 1, 1) := by decide +kernel
theorem dX2_wordFor_17 : decode cX2_wordFor 17 = .ok (.iload 4, 2) := by decide +kernel
theorem dX2_wordFor_19 : decode cX2_wordFor 19 = .ok (.invokevirtual 36, 3) := by decide +kernel
theorem dX2_wordFor_22 : decode cX2_wordFor 22 = .ok (.istore 5, 2) := by decide +kernel
theorem dX2_wordFor_24 : decode cX2_wordFor 24 = .ok (.iload 5, 2) := by decide +kernel
theorem dX2_wordFor_26 : decode cX2_wordFor 26 = .ok (.iload_n 3, 1) := by decide +kernel
theorem dX2_wordFor_27 : decode cX2_wordFor 27 = .ok (.if_icmp .le 9, 3) := by decide +kernel
theorem dX2_wordFor_30 : decode cX2_wordFor 30 = .ok (.iload 5, 2) := by decide +kernel
theorem dX2_wordFor_32 : decode cX2_wordFor 32 = .ok (.istore_n 3, 1) := by decide +kernel
theorem dX2_wordFor_33 : decode cX2_wordFor 33 = .ok (.iload 4, 2) := by decide +kernel
theorem dX2_wordFor_35 : decode cX2_wordFor 35 = .ok (.istore_n 2, 1) := by decide +kernel
theorem dX2_wordFor_36 : decode cX2_wordFor 36 = .ok (.iinc 4 1, 3) := by decide +kernel
theorem dX2_wordFor_39 : decode cX2_wordFor 39 = .ok (.goto (-31), 3) := by decide +kernel
theorem dX2_wordFor_42 : decode cX2_wordFor 42 = .ok (.iload_n 2, 1) := by decide +kernel
theorem dX2_wordFor_43 : decode cX2_wordFor 43 = .ok (.ireturn, 1) := by decide +kernel
theorem dX2_meaningOf_0 : decode cX2_meaningOf 0 = .ok (.bipush (-6), 2) := by decide +kernel
theorem dX2_meaningOf_2 : decode cX2_meaningOf 2 = .ok (.istore_n 2, 1) := by decide +kernel
theorem dX2_meaningOf_3 : decode cX2_meaningOf 3 = .ok (.iconst 0, 1) := by decide +kernel
theorem dX2_meaningOf_4 : decode cX2_meaningOf 4 = .ok (.istore_n 3, 1) := by decide +kernel
theorem dX2_meaningOf_5 : decode cX2_meaningOf 5 = .ok (.iconst 0, 1) := by decide +kernel
theorem dX2_meaningOf_6 : decode cX2_meaningOf 6 = .ok (.istore 4, 2) := by decide +kernel
theorem dX2_meaningOf_8 : decode cX2_meaningOf 8 = .ok (.iload 4, 2) := by decide +kernel
theorem dX2_meaningOf_10 : decode cX2_meaningOf 10 = .ok (.bipush 6, 2) := by decide +kernel
theorem dX2_meaningOf_12 : decode cX2_meaningOf 12 = .ok (.if_icmp .ge 30, 3) := by decide +kernel
theorem dX2_meaningOf_15 : decode cX2_meaningOf 15 = .ok (.aload_n 0, 1) := by decide +kernel
theorem dX2_meaningOf_16 : decode cX2_meaningOf 16 = .ok (.iload 4, 2) := by decide +kernel
theorem dX2_meaningOf_18 : decode cX2_meaningOf 18 = .ok (.iload_n 1, 1) := by decide +kernel
theorem dX2_meaningOf_19 : decode cX2_meaningOf 19 = .ok (.invokevirtual 36, 3) := by decide +kernel
theorem dX2_meaningOf_22 : decode cX2_meaningOf 22 = .ok (.istore 5, 2) := by decide +kernel
theorem dX2_meaningOf_24 : decode cX2_meaningOf 24 = .ok (.iload 5, 2) := by decide +kernel
theorem dX2_meaningOf_26 : decode cX2_meaningOf 26 = .ok (.iload_n 3, 1) := by decide +kernel
theorem dX2_meaningOf_27 : decode cX2_meaningOf 27 = .ok (.if_icmp .le 9, 3) := by decide +kernel
theorem dX2_meaningOf_30 : decode cX2_meaningOf 30 = .ok (.iload 5, 2) := by decide +kernel
theorem dX2_meaningOf_32 : decode cX2_meaningOf 32 = .ok (.istore_n 3, 1) := by decide +kernel
theorem dX2_meaningOf_33 : decode cX2_meaningOf 33 = .ok (.iload 4, 2) := by decide +kernel
theorem dX2_meaningOf_35 : decode cX2_meaningOf 35 = .ok (.istore_n 2, 1) := by decide +kernel
theorem dX2_meaningOf_36 : decode cX2_meaningOf 36 = .ok (.iinc 4 1, 3) := by decide +kernel
theorem dX2_meaningOf_39 : decode cX2_meaningOf 39 = .ok (.goto (-31), 3) := by decide +kernel
theorem dX2_meaningOf_42 : decode cX2_meaningOf 42 = .ok (.iload_n 2, 1) := by decide +kernel
theorem dX2_meaningOf_43 : decode cX2_meaningOf 43 = .ok (.ireturn, 1) := by decide +kernel
theorem dX2_learnsWith_0 : decode cX2_learnsWith 0 = .ok (.iconst 1, 1) := by decide +kernel
theorem dX2_learnsWith_1 : decode cX2_learnsWith 1 = .ok (.iload_n 1, 1) := by decide +kernel
theorem dX2_learnsWith_2 : decode cX2_learnsWith 2 = .ok (.aload_n 0, 1) := by decide +kernel
theorem dX2_learnsWith_3 : decode cX2_learnsWith 3 = .ok (.getfield 25, 3) := by decide +kernel
theorem dX2_learnsWith_6 : decode cX2_learnsWith 6 = .ok (.bipush 20, 2) := by decide +kernel
theorem dX2_learnsWith_8 : decode cX2_learnsWith 8 = .ok (.idiv, 1) := by decide +kernel
theorem dX2_learnsWith_9 : decode cX2_learnsWith 9 = .ok (.isub, 1) := by decide +kernel
theorem dX2_learnsWith_10 : decode cX2_learnsWith 10 = .ok (.invokestatic 56, 3) := by decide +kernel
theorem dX2_learnsWith_13 : decode cX2_learnsWith 13 = .ok (.ireturn, 1) := by decide +kernel
theorem dX2_prefer_0 : decode cX2_prefer 0 = .ok (.aload_n 0, 1) := by decide +kernel
theorem dX2_prefer_1 : decode cX2_prefer 1 = .ok (.iload_n 1, 1) := by decide +kernel
theorem dX2_prefer_2 : decode cX2_prefer 2 = .ok (.iload_n 2, 1) := by decide +kernel
theorem dX2_prefer_3 : decode cX2_prefer 3 = .ok (.aload_n 0, 1) := by decide +kernel
theorem dX2_prefer_4 : decode cX2_prefer 4 = .ok (.iload_n 3, 1) := by decide +kernel
theorem dX2_prefer_5 : decode cX2_prefer 5 = .ok (.invokevirtual 59, 3) := by decide +kernel
theorem dX2_prefer_8 : decode cX2_prefer 8 = .ok (.invokevirtual 63, 3) := by decide +kernel
theorem dX2_prefer_11 : decode cX2_prefer 11 = .ok (.iconst 0, 1) := by decide +kernel
theorem dX2_prefer_12 : decode cX2_prefer 12 = .ok (.istore 5, 2) := by decide +kernel
theorem dX2_prefer_14 : decode cX2_prefer 14 = .ok (.iload 5, 2) := by decide +kernel
theorem dX2_prefer_16 : decode cX2_prefer 16 = .ok (.bipush 14, 2) := by decide +kernel
theorem dX2_prefer_18 : decode cX2_prefer 18 = .ok (.if_icmp .ge 25, 3) := by decide +kernel
theorem dX2_prefer_21 : decode cX2_prefer 21 = .ok (.iload 5, 2) := by decide +kernel
theorem dX2_prefer_23 : decode cX2_prefer 23 = .ok (.iload_n 2, 1) := by decide +kernel
theorem dX2_prefer_24 : decode cX2_prefer 24 = .ok (.if_icmp .eq 13, 3) := by decide +kernel
theorem dX2_prefer_27 : decode cX2_prefer 27 = .ok (.aload_n 0, 1) := by decide +kernel
theorem dX2_prefer_28 : decode cX2_prefer 28 = .ok (.iload_n 1, 1) := by decide +kernel
theorem dX2_prefer_29 : decode cX2_prefer 29 = .ok (.iload 5, 2) := by decide +kernel
theorem dX2_prefer_31 : decode cX2_prefer 31 = .ok (.iload 4, 2) := by decide +kernel
theorem dX2_prefer_33 : decode cX2_prefer 33 = .ok (.ineg, 1) := by decide +kernel
theorem dX2_prefer_34 : decode cX2_prefer 34 = .ok (.invokevirtual 63, 3) := by decide +kernel
theorem dX2_prefer_37 : decode cX2_prefer 37 = .ok (.iinc 5 1, 3) := by decide +kernel
theorem dX2_prefer_40 : decode cX2_prefer 40 = .ok (.goto (-26), 3) := by decide +kernel
theorem dX2_prefer_43 : decode cX2_prefer 43 = .ok (.return_, 1) := by decide +kernel
theorem dX2_forgetOtherMeanings_0 : decode cX2_forgetOtherMeanings 0 = .ok (.iconst 0, 1) := by decide +kernel
theorem dX2_forgetOtherMeanings_1 : decode cX2_forgetOtherMeanings 1 = .ok (.istore 4, 2) := by decide +kernel
theorem dX2_forgetOtherMeanings_3 : decode cX2_forgetOtherMeanings 3 = .ok (.iload 4, 2) := by decide +kernel
theorem dX2_forgetOtherMeanings_5 : decode cX2_forgetOtherMeanings 5 = .ok (.bipush 6, 2) := by decide +kernel
theorem dX2_forgetOtherMeanings_7 : decode cX2_forgetOtherMeanings 7 = .ok (.if_icmp .ge 24, 3) := by decide +kernel
theorem dX2_forgetOtherMeanings_10 : decode cX2_forgetOtherMeanings 10 = .ok (.iload 4, 2) := by decide +kernel
theorem dX2_forgetOtherMeanings_12 : decode cX2_forgetOtherMeanings 12 = .ok (.iload_n 1, 1) := by decide +kernel
theorem dX2_forgetOtherMeanings_13 : decode cX2_forgetOtherMeanings 13 = .ok (.if_icmp .eq 12, 3) := by decide +kernel
theorem dX2_forgetOtherMeanings_16 : decode cX2_forgetOtherMeanings 16 = .ok (.aload_n 0, 1) := by decide +kernel
theorem dX2_forgetOtherMeanings_17 : decode cX2_forgetOtherMeanings 17 = .ok (.iload 4, 2) := by decide +kernel
theorem dX2_forgetOtherMeanings_19 : decode cX2_forgetOtherMeanings 19 = .ok (.iload_n 2, 1) := by decide +kernel
theorem dX2_forgetOtherMeanings_20 : decode cX2_forgetOtherMeanings 20 = .ok (.iload_n 3, 1) := by decide +kernel
theorem dX2_forgetOtherMeanings_21 : decode cX2_forgetOtherMeanings 21 = .ok (.ineg, 1) := by decide +kernel
theorem dX2_forgetOtherMeanings_22 : decode cX2_forgetOtherMeanings 22 = .ok (.invokevirtual 63, 3) := by decide +kernel
theorem dX2_forgetOtherMeanings_25 : decode cX2_forgetOtherMeanings 25 = .ok (.iinc 4 1, 3) := by decide +kernel
theorem dX2_forgetOtherMeanings_28 : decode cX2_forgetOtherMeanings 28 = .ok (.goto (-25), 3) := by decide +kernel
theorem dX2_forgetOtherMeanings_31 : decode cX2_forgetOtherMeanings 31 = .ok (.return_, 1) := by decide +kernel
theorem dX2_sumOfWeights_0 : decode cX2_sumOfWeights 0 = .ok (.iconst 0, 1) := by decide +kernel
theorem dX2_sumOfWeights_1 : decode cX2_sumOfWeights 1 = .ok (.istore_n 1, 1) := by decide +kernel
theorem dX2_sumOfWeights_2 : decode cX2_sumOfWeights 2 = .ok (.aload_n 0, 1) := by decide +kernel
theorem dX2_sumOfWeights_3 : decode cX2_sumOfWeights 3 = .ok (.getfield 9, 3) := by decide +kernel
theorem dX2_sumOfWeights_6 : decode cX2_sumOfWeights 6 = .ok (.astore_n 2, 1) := by decide +kernel
theorem dX2_sumOfWeights_7 : decode cX2_sumOfWeights 7 = .ok (.aload_n 2, 1) := by decide +kernel
theorem dX2_sumOfWeights_8 : decode cX2_sumOfWeights 8 = .ok (.arraylength, 1) := by decide +kernel
theorem dX2_sumOfWeights_9 : decode cX2_sumOfWeights 9 = .ok (.istore_n 3, 1) := by decide +kernel
theorem dX2_sumOfWeights_10 : decode cX2_sumOfWeights 10 = .ok (.iconst 0, 1) := by decide +kernel
theorem dX2_sumOfWeights_11 : decode cX2_sumOfWeights 11 = .ok (.istore 4, 2) := by decide +kernel
theorem dX2_sumOfWeights_13 : decode cX2_sumOfWeights 13 = .ok (.iload 4, 2) := by decide +kernel
theorem dX2_sumOfWeights_15 : decode cX2_sumOfWeights 15 = .ok (.iload_n 3, 1) := by decide +kernel
theorem dX2_sumOfWeights_16 : decode cX2_sumOfWeights 16 = .ok (.if_icmp .ge 20, 3) := by decide +kernel
theorem dX2_sumOfWeights_19 : decode cX2_sumOfWeights 19 = .ok (.aload_n 2, 1) := by decide +kernel
theorem dX2_sumOfWeights_20 : decode cX2_sumOfWeights 20 = .ok (.iload 4, 2) := by decide +kernel
theorem dX2_sumOfWeights_22 : decode cX2_sumOfWeights 22 = .ok (.iaload, 1) := by decide +kernel
theorem dX2_sumOfWeights_23 : decode cX2_sumOfWeights 23 = .ok (.istore 5, 2) := by decide +kernel
theorem dX2_sumOfWeights_25 : decode cX2_sumOfWeights 25 = .ok (.iload_n 1, 1) := by decide +kernel
theorem dX2_sumOfWeights_26 : decode cX2_sumOfWeights 26 = .ok (.iload 5, 2) := by decide +kernel
theorem dX2_sumOfWeights_28 : decode cX2_sumOfWeights 28 = .ok (.iadd, 1) := by decide +kernel
theorem dX2_sumOfWeights_29 : decode cX2_sumOfWeights 29 = .ok (.istore_n 1, 1) := by decide +kernel
theorem dX2_sumOfWeights_30 : decode cX2_sumOfWeights 30 = .ok (.iinc 4 1, 3) := by decide +kernel
theorem dX2_sumOfWeights_33 : decode cX2_sumOfWeights 33 = .ok (.goto (-20), 3) := by decide +kernel
theorem dX2_sumOfWeights_36 : decode cX2_sumOfWeights 36 = .ok (.iload_n 1, 1) := by decide +kernel
theorem dX2_sumOfWeights_37 : decode cX2_sumOfWeights 37 = .ok (.ireturn, 1) := by decide +kernel
theorem dX2_countWords_0 : decode cX2_countWords 0 = .ok (.iconst 0, 1) := by decide +kernel
theorem dX2_countWords_1 : decode cX2_countWords 1 = .ok (.istore_n 1, 1) := by decide +kernel
theorem dX2_countWords_2 : decode cX2_countWords 2 = .ok (.iconst 0, 1) := by decide +kernel
theorem dX2_countWords_3 : decode cX2_countWords 3 = .ok (.istore_n 2, 1) := by decide +kernel
theorem dX2_countWords_4 : decode cX2_countWords 4 = .ok (.iload_n 2, 1) := by decide +kernel
theorem dX2_countWords_5 : decode cX2_countWords 5 = .ok (.bipush 6, 2) := by decide +kernel
theorem dX2_countWords_7 : decode cX2_countWords 7 = .ok (.if_icmp .ge 22, 3) := by decide +kernel
theorem dX2_countWords_10 : decode cX2_countWords 10 = .ok (.aload_n 0, 1) := by decide +kernel
theorem dX2_countWords_11 : decode cX2_countWords 11 = .ok (.iload_n 2, 1) := by decide +kernel
theorem dX2_countWords_12 : decode cX2_countWords 12 = .ok (.invokevirtual 66, 3) := by decide +kernel
theorem dX2_countWords_15 : decode cX2_countWords 15 = .ok (.bipush (-6), 2) := by decide +kernel
theorem dX2_countWords_17 : decode cX2_countWords 17 = .ok (.if_icmp .eq 6, 3) := by decide +kernel
theorem dX2_countWords_20 : decode cX2_countWords 20 = .ok (.iinc 1 1, 3) := by decide +kernel
theorem dX2_countWords_23 : decode cX2_countWords 23 = .ok (.iinc 2 1, 3) := by decide +kernel
theorem dX2_countWords_26 : decode cX2_countWords 26 = .ok (.goto (-22), 3) := by decide +kernel
theorem dX2_countWords_29 : decode cX2_countWords 29 = .ok (.iload_n 1, 1) := by decide +kernel
theorem dX2_countWords_30 : decode cX2_countWords 30 = .ok (.ireturn, 1) := by decide +kernel
theorem dX2_countConfusions_0 : decode cX2_countConfusions 0 = .ok (.iconst 0, 1) := by decide +kernel
theorem dX2_countConfusions_1 : decode cX2_countConfusions 1 = .ok (.istore_n 1, 1) := by decide +kernel
theorem dX2_countConfusions_2 : decode cX2_countConfusions 2 = .ok (.iconst 0, 1) := by decide +kernel
theorem dX2_countConfusions_3 : decode cX2_countConfusions 3 = .ok (.istore_n 2, 1) := by decide +kernel
theorem dX2_countConfusions_4 : decode cX2_countConfusions 4 = .ok (.iload_n 2, 1) := by decide +kernel
theorem dX2_countConfusions_5 : decode cX2_countConfusions 5 = .ok (.bipush 6, 2) := by decide +kernel
theorem dX2_countConfusions_7 : decode cX2_countConfusions 7 = .ok (.if_icmp .ge 52, 3) := by decide +kernel
theorem dX2_countConfusions_10 : decode cX2_countConfusions 10 = .ok (.aload_n 0, 1) := by decide +kernel
theorem dX2_countConfusions_11 : decode cX2_countConfusions 11 = .ok (.iload_n 2, 1) := by decide +kernel
theorem dX2_countConfusions_12 : decode cX2_countConfusions 12 = .ok (.invokevirtual 66, 3) := by decide +kernel
theorem dX2_countConfusions_15 : decode cX2_countConfusions 15 = .ok (.istore_n 3, 1) := by decide +kernel
theorem dX2_countConfusions_16 : decode cX2_countConfusions 16 = .ok (.iload_n 2, 1) := by decide +kernel
theorem dX2_countConfusions_17 : decode cX2_countConfusions 17 = .ok (.iconst 1, 1) := by decide +kernel
theorem dX2_countConfusions_18 : decode cX2_countConfusions 18 = .ok (.iadd, 1) := by decide +kernel
theorem dX2_countConfusions_19 : decode cX2_countConfusions 19 = .ok (.istore 4, 2) := by decide +kernel
theorem dX2_countConfusions_21 : decode cX2_countConfusions 21 = .ok (.iload 4, 2) := by decide +kernel
theorem dX2_countConfusions_23 : decode cX2_countConfusions 23 = .ok (.bipush 6, 2) := by decide +kernel
theorem dX2_countConfusions_25 : decode cX2_countConfusions 25 = .ok (.if_icmp .ge 28, 3) := by decide +kernel
theorem dX2_countConfusions_28 : decode cX2_countConfusions 28 = .ok (.iload_n 3, 1) := by decide +kernel
theorem dX2_countConfusions_29 : decode cX2_countConfusions 29 = .ok (.bipush (-6), 2) := by decide +kernel
theorem dX2_countConfusions_31 : decode cX2_countConfusions 31 = .ok (.if_icmp .eq 16, 3) := by decide +kernel
theorem dX2_countConfusions_34 : decode cX2_countConfusions 34 = .ok (.iload_n 3, 1) := by decide +kernel
theorem dX2_countConfusions_35 : decode cX2_countConfusions 35 = .ok (.aload_n 0, 1) := by decide +kernel
theorem dX2_countConfusions_36 : decode cX2_countConfusions 36 = .ok (.iload 4, 2) := by decide +kernel
theorem dX2_countConfusions_38 : decode cX2_countConfusions 38 = .ok (.invokevirtual 66, 3) := by decide +kernel
theorem dX2_countConfusions_41 : decode cX2_countConfusions 41 = .ok (.if_icmp .ne 6, 3) := by decide +kernel
theorem dX2_countConfusions_44 : decode cX2_countConfusions 44 = .ok (.iinc 1 1, 3) := by decide +kernel
theorem dX2_countConfusions_47 : decode cX2_countConfusions 47 = .ok (.iinc 4 1, 3) := by decide +kernel
theorem dX2_countConfusions_50 : decode cX2_countConfusions 50 = .ok (.goto (-29), 3) := by decide +kernel
theorem dX2_countConfusions_53 : decode cX2_countConfusions 53 = .ok (.iinc 2 1, 3) := by decide +kernel
theorem dX2_countConfusions_56 : decode cX2_countConfusions 56 = .ok (.goto (-52), 3) := by decide +kernel
theorem dX2_countConfusions_59 : decode cX2_countConfusions 59 = .ok (.iload_n 1, 1) := by decide +kernel
theorem dX2_countConfusions_60 : decode cX2_countConfusions 60 = .ok (.ireturn, 1) := by decide +kernel
theorem dX3_init_0 : decode cX3_init 0 = .ok (.aload_n 0, 1) := by decide +kernel
theorem dX3_init_1 : decode cX3_init 1 = .ok (.invokespecial 3, 3) := by decide +kernel
theorem dX3_init_4 : decode cX3_init 4 = .ok (.aload_n 0, 1) := by decide +kernel
theorem dX3_init_5 : decode cX3_init 5 = .ok (.bipush 8, 2) := by decide +kernel
theorem dX3_init_7 : decode cX3_init 7 = .ok (.anewarray 9, 3) := by decide +kernel
theorem dX3_init_10 : decode cX3_init 10 = .ok (.putfield 11, 3) := by decide +kernel
theorem dX3_init_13 : decode cX3_init 13 = .ok (.iconst 0, 1) := by decide +kernel
theorem dX3_init_14 : decode cX3_init 14 = .ok (.istore_n 1, 1) := by decide +kernel
theorem dX3_init_15 : decode cX3_init 15 = .ok (.iload_n 1, 1) := by decide +kernel
theorem dX3_init_16 : decode cX3_init 16 = .ok (.bipush 8, 2) := by decide +kernel
theorem dX3_init_18 : decode cX3_init 18 = .ok (.if_icmp .ge 22, 3) := by decide +kernel
theorem dX3_init_21 : decode cX3_init 21 = .ok (.aload_n 0, 1) := by decide +kernel
theorem dX3_init_22 : decode cX3_init 22 = .ok (.getfield 11, 3) := by decide +kernel
theorem dX3_init_25 : decode cX3_init 25 = .ok (.iload_n 1, 1) := by decide +kernel
theorem dX3_init_26 : decode cX3_init 26 = .ok (.new 9, 3) := by decide +kernel
theorem dX3_init_29 : decode cX3_init 29 = .ok (.dup, 1) := by decide +kernel
theorem dX3_init_30 : decode cX3_init 30 = .ok (.invokespecial 17, 3) := by decide +kernel
theorem dX3_init_33 : decode cX3_init 33 = .ok (.aastore, 1) := by decide +kernel
theorem dX3_init_34 : decode cX3_init 34 = .ok (.iinc 1 1, 3) := by decide +kernel
theorem dX3_init_37 : decode cX3_init 37 = .ok (.goto (-22), 3) := by decide +kernel
theorem dX3_init_40 : decode cX3_init 40 = .ok (.aload_n 0, 1) := by decide +kernel
theorem dX3_init_41 : decode cX3_init 41 = .ok (.iconst 4, 1) := by decide +kernel
theorem dX3_init_42 : decode cX3_init 42 = .ok (.newarray .int, 2) := by decide +kernel
theorem dX3_init_44 : decode cX3_init 44 = .ok (.putfield 18, 3) := by decide +kernel
theorem dX3_init_47 : decode cX3_init 47 = .ok (.aload_n 0, 1) := by decide +kernel
theorem dX3_init_48 : decode cX3_init 48 = .ok (.bipush 14, 2) := by decide +kernel
theorem dX3_init_50 : decode cX3_init 50 = .ok (.newarray .int, 2) := by decide +kernel
theorem dX3_init_52 : decode cX3_init 52 = .ok (.putfield 22, 3) := by decide +kernel
theorem dX3_init_55 : decode cX3_init 55 = .ok (.aload_n 0, 1) := by decide +kernel
theorem dX3_init_56 : decode cX3_init 56 = .ok (.getfield 18, 3) := by decide +kernel
theorem dX3_init_59 : decode cX3_init 59 = .ok (.iconst 0, 1) := by decide +kernel
theorem dX3_init_60 : decode cX3_init 60 = .ok (.iconst 4, 1) := by decide +kernel
theorem dX3_init_61 : decode cX3_init 61 = .ok (.iastore, 1) := by decide +kernel
theorem dX3_init_62 : decode cX3_init 62 = .ok (.aload_n 0, 1) := by decide +kernel
theorem dX3_init_63 : decode cX3_init 63 = .ok (.getfield 18, 3) := by decide +kernel
theorem dX3_init_66 : decode cX3_init 66 = .ok (.iconst 1, 1) := by decide +kernel
theorem dX3_init_67 : decode cX3_init 67 = .ok (.iconst 1, 1) := by decide +kernel
theorem dX3_init_68 : decode cX3_init 68 = .ok (.iastore, 1) := by decide +kernel
theorem dX3_init_69 : decode cX3_init 69 = .ok (.aload_n 0, 1) := by decide +kernel
theorem dX3_init_70 : decode cX3_init 70 = .ok (.getfield 18, 3) := by decide +kernel
theorem dX3_init_73 : decode cX3_init 73 = .ok (.iconst 2, 1) := by decide +kernel
theorem dX3_init_74 : decode cX3_init 74 = .ok (.bipush 60, 2) := by decide +kernel
theorem dX3_init_76 : decode cX3_init 76 = .ok (.iastore, 1) := by decide +kernel
theorem dX3_init_77 : decode cX3_init 77 = .ok (.aload_n 0, 1) := by decide +kernel
theorem dX3_init_78 : decode cX3_init 78 = .ok (.getfield 18, 3) := by decide +kernel
theorem dX3_init_81 : decode cX3_init 81 = .ok (.iconst 3, 1) := by decide +kernel
theorem dX3_init_82 : decode cX3_init 82 = .ok (.bipush 50, 2) := by decide +kernel
theorem dX3_init_84 : decode cX3_init 84 = .ok (.iastore, 1) := by decide +kernel
theorem dX3_init_85 : decode cX3_init 85 = .ok (.aload_n 0, 1) := by decide +kernel
theorem dX3_init_86 : decode cX3_init 86 = .ok (.iconst 1, 1) := by decide +kernel
theorem dX3_init_87 : decode cX3_init 87 = .ok (.putfield 25, 3) := by decide +kernel
theorem dX3_init_90 : decode cX3_init 90 = .ok (.return_, 1) := by decide +kernel
theorem dX3_copyFrom_0 : decode cX3_copyFrom 0 = .ok (.iconst 0, 1) := by decide +kernel
theorem dX3_copyFrom_1 : decode cX3_copyFrom 1 = .ok (.istore_n 2, 1) := by decide +kernel
theorem dX3_copyFrom_2 : decode cX3_copyFrom 2 = .ok (.iload_n 2, 1) := by decide +kernel
theorem dX3_copyFrom_3 : decode cX3_copyFrom 3 = .ok (.bipush 8, 2) := by decide +kernel
theorem dX3_copyFrom_5 : decode cX3_copyFrom 5 = .ok (.if_icmp .ge 24, 3) := by decide +kernel
theorem dX3_copyFrom_8 : decode cX3_copyFrom 8 = .ok (.aload_n 0, 1) := by decide +kernel
theorem dX3_copyFrom_9 : decode cX3_copyFrom 9 = .ok (.getfield 11, 3) := by decide +kernel
theorem dX3_copyFrom_12 : decode cX3_copyFrom 12 = .ok (.iload_n 2, 1) := by decide +kernel
theorem dX3_copyFrom_13 : decode cX3_copyFrom 13 = .ok (.aaload, 1) := by decide +kernel
theorem dX3_copyFrom_14 : decode cX3_copyFrom 14 = .ok (.aload_n 1, 1) := by decide +kernel
theorem dX3_copyFrom_15 : decode cX3_copyFrom 15 = .ok (.getfield 11, 3) := by decide +kernel
theorem dX3_copyFrom_18 : decode cX3_copyFrom 18 = .ok (.iload_n 2, 1) := by decide +kernel
theorem dX3_copyFrom_19 : decode cX3_copyFrom 19 = .ok (.aaload, 1) := by decide +kernel
theorem dX3_copyFrom_20 : decode cX3_copyFrom 20 = .ok (.invokevirtual 29, 3) := by decide +kernel
theorem dX3_copyFrom_23 : decode cX3_copyFrom 23 = .ok (.iinc 2 1, 3) := by decide +kernel
theorem dX3_copyFrom_26 : decode cX3_copyFrom 26 = .ok (.goto (-24), 3) := by decide +kernel
theorem dX3_copyFrom_29 : decode cX3_copyFrom 29 = .ok (.aload_n 1, 1) := by decide +kernel
theorem dX3_copyFrom_30 : decode cX3_copyFrom 30 = .ok (.getfield 18, 3) := by decide +kernel
theorem dX3_copyFrom_33 : decode cX3_copyFrom 33 = .ok (.iconst 0, 1) := by decide +kernel
theorem dX3_copyFrom_34 : decode cX3_copyFrom 34 = .ok (.aload_n 0, 1) := by decide +kernel
theorem dX3_copyFrom_35 : decode cX3_copyFrom 35 = .ok (.getfield 18, 3) := by decide +kernel
theorem dX3_copyFrom_38 : decode cX3_copyFrom 38 = .ok (.iconst 0, 1) := by decide +kernel
theorem dX3_copyFrom_39 : decode cX3_copyFrom 39 = .ok (.iconst 4, 1) := by decide +kernel
theorem dX3_copyFrom_40 : decode cX3_copyFrom 40 = .ok (.invokestatic 33, 3) := by decide +kernel
theorem dX3_copyFrom_43 : decode cX3_copyFrom 43 = .ok (.aload_n 0, 1) := by decide +kernel
theorem dX3_copyFrom_44 : decode cX3_copyFrom 44 = .ok (.aload_n 1, 1) := by decide +kernel
theorem dX3_copyFrom_45 : decode cX3_copyFrom 45 = .ok (.getfield 25, 3) := by decide +kernel
theorem dX3_copyFrom_48 : decode cX3_copyFrom 48 = .ok (.putfield 25, 3) := by decide +kernel
theorem dX3_copyFrom_51 : decode cX3_copyFrom 51 = .ok (.aload_n 0, 1) := by decide +kernel
theorem dX3_copyFrom_52 : decode cX3_copyFrom 52 = .ok (.aload_n 1, 1) := by decide +kernel
theorem dX3_copyFrom_53 : decode cX3_copyFrom 53 = .ok (.getfield 39, 3) := by decide +kernel
theorem dX3_copyFrom_56 : decode cX3_copyFrom 56 = .ok (.putfield 39, 3) := by decide +kernel
theorem dX3_copyFrom_59 : decode cX3_copyFrom 59 = .ok (.aload_n 0, 1) := by decide +kernel
theorem dX3_copyFrom_60 : decode cX3_copyFrom 60 = .ok (.aload_n 1, 1) := by decide +kernel
theorem dX3_copyFrom_61 : decode cX3_copyFrom 61 = .ok (.getfield 42, 3) := by decide +kernel
theorem dX3_copyFrom_64 : decode cX3_copyFrom 64 = .ok (.putfield 42, 3) := by decide +kernel
theorem dX3_copyFrom_67 : decode cX3_copyFrom 67 = .ok (.aload_n 0, 1) := by decide +kernel
theorem dX3_copyFrom_68 : decode cX3_copyFrom 68 = .ok (.aload_n 1, 1) := by decide +kernel
theorem dX3_copyFrom_69 : decode cX3_copyFrom 69 = .ok (.getfield 45, 3) := by decide +kernel
theorem dX3_copyFrom_72 : decode cX3_copyFrom 72 = .ok (.putfield 45, 3) := by decide +kernel
theorem dX3_copyFrom_75 : decode cX3_copyFrom 75 = .ok (.aload_n 0, 1) := by decide +kernel
theorem dX3_copyFrom_76 : decode cX3_copyFrom 76 = .ok (.aload_n 1, 1) := by decide +kernel
theorem dX3_copyFrom_77 : decode cX3_copyFrom 77 = .ok (.getfield 48, 3) := by decide +kernel
theorem dX3_copyFrom_80 : decode cX3_copyFrom 80 = .ok (.putfield 48, 3) := by decide +kernel
theorem dX3_copyFrom_83 : decode cX3_copyFrom 83 = .ok (.return_, 1) := by decide +kernel
theorem dX3_find_0 : decode cX3_find 0 = .ok (.iload_n 1, 1) := by decide +kernel
theorem dX3_find_1 : decode cX3_find 1 = .ok (.bipush 8, 2) := by decide +kernel
theorem dX3_find_3 : decode cX3_find 3 = .ok (.invokestatic 51, 3) := by decide +kernel
theorem dX3_find_6 : decode cX3_find 6 = .ok (.ifCond .eq 24, 3) := by decide +kernel
theorem dX3_find_9 : decode cX3_find 9 = .ok (.aload_n 0, 1) := by decide +kernel
theorem dX3_find_10 : decode cX3_find 10 = .ok (.getfield 11, 3) := by decide +kernel
theorem dX3_find_13 : decode cX3_find 13 = .ok (.iload_n 1, 1) := by decide +kernel
theorem dX3_find_14 : decode cX3_find 14 = .ok (.aaload, 1) := by decide +kernel
theorem dX3_find_15 : decode cX3_find 15 = .ok (.getfield 55, 3) := by decide +kernel
theorem dX3_find_18 : decode cX3_find 18 = .ok (.ifCond .eq 12, 3) := by decide +kernel
theorem dX3_find_21 : decode cX3_find 21 = .ok (.aload_n 0, 1) := by decide +kernel
theorem dX3_find_22 : decode cX3_find 22 = .ok (.getfield 11, 3) := by decide +kernel
theorem dX3_find_25 : decode cX3_find 25 = .ok (.iload_n 1, 1) := by decide +kernel
theorem dX3_find_26 : decode cX3_find 26 = .ok (.aaload, 1) := by decide +kernel
theorem dX3_find_27 : decode cX3_find 27 = .ok (.goto 4, 3) := by decide +kernel
theorem dX3_find_30 : decode cX3_find 30 = .ok (.aconst_null, 1) := by decide +kernel
theorem dX3_find_31 : decode cX3_find 31 = .ok (.areturn, 1) := by decide +kernel
theorem dX3_lowestFree_0 : decode cX3_lowestFree 0 = .ok (.iconst 0, 1) := by decide +kernel
theorem dX3_lowestFree_1 : decode cX3_lowestFree 1 = .ok (.istore_n 1, 1) := by decide +kernel
theorem dX3_lowestFree_2 : decode cX3_lowestFree 2 = .ok (.iload_n 1, 1) := by decide +kernel
theorem dX3_lowestFree_3 : decode cX3_lowestFree 3 = .ok (.bipush 8, 2) := by decide +kernel
theorem dX3_lowestFree_5 : decode cX3_lowestFree 5 = .ok (.if_icmp .ge 23, 3) := by decide +kernel
theorem dX3_lowestFree_8 : decode cX3_lowestFree 8 = .ok (.aload_n 0, 1) := by decide +kernel
theorem dX3_lowestFree_9 : decode cX3_lowestFree 9 = .ok (.getfield 11, 3) := by decide +kernel
theorem dX3_lowestFree_12 : decode cX3_lowestFree 12 = .ok (.iload_n 1, 1) := by decide +kernel
theorem dX3_lowestFree_13 : decode cX3_lowestFree 13 = .ok (.aaload, 1) := by decide +kernel
theorem dX3_lowestFree_14 : decode cX3_lowestFree 14 = .ok (.getfield 55, 3) := by decide +kernel
theorem dX3_lowestFree_17 : decode cX3_lowestFree 17 = .ok (.ifCond .ne 5, 3) := by decide +kernel
theorem dX3_lowestFree_20 : decode cX3_lowestFree 20 = .ok (.iload_n 1, 1) := by decide +kernel
theorem dX3_lowestFree_21 : decode cX3_lowestFree 21 = .ok (.ireturn, 1) := by decide +kernel
theorem dX3_lowestFree_22 : decode cX3_lowestFree 22 = .ok (.iinc 1 1, 3) := by decide +kernel
theorem dX3_lowestFree_25 : decode cX3_lowestFree 25 = .ok (.goto (-23), 3) := by decide +kernel
theorem dX3_lowestFree_28 : decode cX3_lowestFree 28 = .ok (.bipush (-6), 2) := by decide +kernel
theorem dX3_lowestFree_30 : decode cX3_lowestFree 30 = .ok (.ireturn, 1) := by decide +kernel
theorem dX3_welcome_0 : decode cX3_welcome 0 = .ok (.iload_n 1, 1) := by decide +kernel
theorem dX3_welcome_1 : decode cX3_welcome 1 = .ok (.bipush 8, 2) := by decide +kernel
theorem dX3_welcome_3 : decode cX3_welcome 3 = .ok (.invokestatic 51, 3) := by decide +kernel
theorem dX3_welcome_6 : decode cX3_welcome 6 = .ok (.ifCond .eq 12, 3) := by decide +kernel
theorem dX3_welcome_9 : decode cX3_welcome 9 = .ok (.aload_n 0, 1) := by decide +kernel
theorem dX3_welcome_10 : decode cX3_welcome 10 = .ok (.getfield 11, 3) := by decide +kernel
theorem dX3_welcome_13 : decode cX3_welcome 13 = .ok (.iload_n 1, 1) := by decide +kernel
theorem dX3_welcome_14 : decode cX3_welcome 14 = .ok (.aaload, 1) := by decide +kernel
theorem dX3_welcome_15 : decode cX3_welcome 15 = .ok (.invokevirtual 59, 3) := by decide +kernel
theorem dX3_welcome_18 : decode cX3_welcome 18 = .ok (.return_, 1) := by decide +kernel
theorem dX3_settingAt_0 : decode cX3_settingAt 0 = .ok (.iload_n 1, 1) := by decide +kernel
theorem dX3_settingAt_1 : decode cX3_settingAt 1 = .ok (.iconst 4, 1) := by decide +kernel
theorem dX3_settingAt_2 : decode cX3_settingAt 2 = .ok (.invokestatic 51, 3) := by decide +kernel
theorem dX3_settingAt_5 : decode cX3_settingAt 5 = .ok (.ifCond .eq 12, 3) := by decide +kernel
theorem dX3_settingAt_8 : decode cX3_settingAt 8 = .ok (.aload_n 0, 1) := by decide +kernel
theorem dX3_settingAt_9 : decode cX3_settingAt 9 = .ok (.getfield 18, 3) := by decide +kernel
theorem dX3_settingAt_12 : decode cX3_settingAt 12 = .ok (.iload_n 1, 1) := by decide +kernel
theorem dX3_settingAt_13 : decode cX3_settingAt 13 = .ok (.iaload, 1) := by decide +kernel
theorem dX3_settingAt_14 : decode cX3_settingAt 14 = .ok (.goto 4, 3) := by decide +kernel
theorem dX3_settingAt_17 : decode cX3_settingAt 17 = .ok (.iconst 0, 1) := by decide +kernel
theorem dX3_settingAt_18 : decode cX3_settingAt 18 = .ok (.ireturn, 1) := by decide +kernel
theorem dX3_putSetting_0 : decode cX3_putSetting 0 = .ok (.iload_n 1, 1) := by decide +kernel
theorem dX3_putSetting_1 : decode cX3_putSetting 1 = .ok (.iconst 4, 1) := by decide +kernel
theorem dX3_putSetting_2 : decode cX3_putSetting 2 = .ok (.invokestatic 51, 3) := by decide +kernel
theorem dX3_putSetting_5 : decode cX3_putSetting 5 = .ok (.ifCond .eq 10, 3) := by decide +kernel
theorem dX3_putSetting_8 : decode cX3_putSetting 8 = .ok (.aload_n 0, 1) := by decide +kernel
theorem dX3_putSetting_9 : decode cX3_putSetting 9 = .ok (.getfield 18, 3) := by decide +kernel
theorem dX3_putSetting_12 : decode cX3_putSetting 12 = .ok (.iload_n 1, 1) := by decide +kernel
theorem dX3_putSetting_13 : decode cX3_putSetting 13 = .ok (.iload_n 2, 1) := by decide +kernel
theorem dX3_putSetting_14 : decode cX3_putSetting 14 = .ok (.iastore, 1) := by decide +kernel
theorem dX3_putSetting_15 : decode cX3_putSetting 15 = .ok (.return_, 1) := by decide +kernel
theorem dX3_draw_0 : decode cX3_draw 0 = .ok (.aload_n 0, 1) := by decide +kernel
theorem dX3_draw_1 : decode cX3_draw 1 = .ok (.sipush 25173, 3) := by decide +kernel
theorem dX3_draw_4 : decode cX3_draw 4 = .ok (.aload_n 0, 1) := by decide +kernel
theorem dX3_draw_5 : decode cX3_draw 5 = .ok (.getfield 25, 3) := by decide +kernel
theorem dX3_draw_8 : decode cX3_draw 8 = .ok (.imul, 1) := by decide +kernel
theorem dX3_draw_9 : decode cX3_draw 9 = .ok (.sipush 13849, 3) := by decide +kernel
theorem dX3_draw_12 : decode cX3_draw 12 = .ok (.iadd, 1) := by decide +kernel
theorem dX3_draw_13 : decode cX3_draw 13 = .ok (.ldc 62, 2) := by decide +kernel
theorem dX3_draw_15 : decode cX3_draw 15 = .ok (.irem, 1) := by decide +kernel
theorem dX3_draw_16 : decode cX3_draw 16 = .ok (.putfield 25, 3) := by decide +kernel
theorem dX3_draw_19 : decode cX3_draw 19 = .ok (.iload_n 1, 1) := by decide +kernel
theorem dX3_draw_20 : decode cX3_draw 20 = .ok (.iconst 1, 1) := by decide +kernel
theorem dX3_draw_21 : decode cX3_draw 21 = .ok (.if_icmp .ge 7, 3) := by decide +kernel
theorem dX3_draw_24 : decode cX3_draw 24 = .ok (.iconst 0, 1) := by decide +kernel
theorem dX3_draw_25 : decode cX3_draw 25 = .ok (.goto 12, 3) := by decide +kernel
theorem dX3_draw_28 : decode cX3_draw 28 = .ok (.aload_n 0, 1) := by decide +kernel
theorem dX3_draw_29 : decode cX3_draw 29 = .ok (.getfield 25, 3) := by decide +kernel
theorem dX3_draw_32 : decode cX3_draw 32 = .ok (.bipush 16, 2) := by decide +kernel
theorem dX3_draw_34 : decode cX3_draw 34 = .ok (.idiv, 1) := by decide +kernel
theorem dX3_draw_35 : decode cX3_draw 35 = .ok (.iload_n 1, 1) := by decide +kernel
theorem dX3_draw_36 : decode cX3_draw 36 = .ok (.irem, 1) := by decide +kernel
theorem dX3_draw_37 : decode cX3_draw 37 = .ok (.ireturn, 1) := by decide +kernel
theorem dX3_countSpeakers_0 : decode cX3_countSpeakers 0 = .ok (.iconst 0, 1) := by decide +kernel
theorem dX3_countSpeakers_1 : decode cX3_countSpeakers 1 = .ok (.istore_n 1, 1) := by decide +kernel
theorem dX3_countSpeakers_2 : decode cX3_countSpeakers 2 = .ok (.iconst 0, 1) := by decide +kernel
theorem dX3_countSpeakers_3 : decode cX3_countSpeakers 3 = .ok (.istore_n 2, 1) := by decide +kernel
theorem dX3_countSpeakers_4 : decode cX3_countSpeakers 4 = .ok (.iload_n 2, 1) := by decide +kernel
theorem dX3_countSpeakers_5 : decode cX3_countSpeakers 5 = .ok (.bipush 8, 2) := by decide +kernel
theorem dX3_countSpeakers_7 : decode cX3_countSpeakers 7 = .ok (.if_icmp .ge 24, 3) := by decide +kernel
theorem dX3_countSpeakers_10 : decode cX3_countSpeakers 10 = .ok (.aload_n 0, 1) := by decide +kernel
theorem dX3_countSpeakers_11 : decode cX3_countSpeakers 11 = .ok (.getfield 11, 3) := by decide +kernel
theorem dX3_countSpeakers_14 : decode cX3_countSpeakers 14 = .ok (.iload_n 2, 1) := by decide +kernel
theorem dX3_countSpeakers_15 : decode cX3_countSpeakers 15 = .ok (.aaload, 1) := by decide +kernel
theorem dX3_countSpeakers_16 : decode cX3_countSpeakers 16 = .ok (.getfield 55, 3) := by decide +kernel
theorem dX3_countSpeakers_19 : decode cX3_countSpeakers 19 = .ok (.ifCond .eq 6, 3) := by decide +kernel
theorem dX3_countSpeakers_22 : decode cX3_countSpeakers 22 = .ok (.iinc 1 1, 3) := by decide +kernel
theorem dX3_countSpeakers_25 : decode cX3_countSpeakers 25 = .ok (.iinc 2 1, 3) := by decide +kernel
theorem dX3_countSpeakers_28 : decode cX3_countSpeakers 28 = .ok (.goto (-24), 3) := by decide +kernel
theorem dX3_countSpeakers_31 : decode cX3_countSpeakers 31 = .ok (.iload_n 1, 1) := by decide +kernel
theorem dX3_countSpeakers_32 : decode cX3_countSpeakers 32 = .ok (.ireturn, 1) := by decide +kernel
theorem dX3_holdMeeting_0 : decode cX3_holdMeeting 0 = .ok (.aload_n 1, 1) := by decide +kernel
theorem dX3_holdMeeting_1 : decode cX3_holdMeeting 1 = .ok (.iload_n 3, 1) := by decide +kernel
theorem dX3_holdMeeting_2 : decode cX3_holdMeeting 2 = .ok (.invokevirtual 63, 3) := by decide +kernel
theorem dX3_holdMeeting_5 : decode cX3_holdMeeting 5 = .ok (.istore 4, 2) := by decide +kernel
theorem dX3_holdMeeting_7 : decode cX3_holdMeeting 7 = .ok (.iload 4, 2) := by decide +kernel
theorem dX3_holdMeeting_9 : decode cX3_holdMeeting 9 = .ok (.bipush (-6), 2) := by decide +kernel
theorem dX3_holdMeeting_11 : decode cX3_holdMeeting 11 = .ok (.if_icmp .ne 11, 3) := by decide +kernel
theorem dX3_holdMeeting_14 : decode cX3_holdMeeting 14 = .ok (.aload_n 0, 1) := by decide +kernel
theorem dX3_holdMeeting_15 : decode cX3_holdMeeting 15 = .ok (.bipush 14, 2) := by decide +kernel
theorem dX3_holdMeeting_17 : decode cX3_holdMeeting 17 = .ok (.invokevirtual 67, 3) := by decide +kernel
theorem dX3_holdMeeting_20 : decode cX3_holdMeeting 20 = .ok (.istore 4, 2) := by decide +kernel
theorem dX3_holdMeeting_22 : decode cX3_holdMeeting 22 = .ok (.aload_n 2, 1) := by decide +kernel
theorem dX3_holdMeeting_23 : decode cX3_holdMeeting 23 = .ok (.iload 4, 2) := by decide +kernel
theorem dX3_holdMeeting_25 : decode cX3_holdMeeting 25 = .ok (.invokevirtual 70, 3) := by decide +kernel
theorem dX3_holdMeeting_28 : decode cX3_holdMeeting 28 = .ok (.istore 5, 2) := by decide +kernel
theorem dX3_holdMeeting_30 : decode cX3_holdMeeting 30 = .ok (.iload 5, 2) := by decide +kernel
theorem dX3_holdMeeting_32 : decode cX3_holdMeeting 32 = .ok (.bipush (-6), 2) := by decide +kernel
theorem dX3_holdMeeting_34 : decode cX3_holdMeeting 34 = .ok (.if_icmp .ne 11, 3) := by decide +kernel
theorem dX3_holdMeeting_37 : decode cX3_holdMeeting 37 = .ok (.aload_n 0, 1) := by decide +kernel
theorem dX3_holdMeeting_38 : decode cX3_holdMeeting 38 = .ok (.bipush 6, 2) := by decide +kernel
theorem dX3_holdMeeting_40 : decode cX3_holdMeeting 40 = .ok (.invokevirtual 67, 3) := by decide +kernel
theorem dX3_holdMeeting_43 : decode cX3_holdMeeting 43 = .ok (.istore 5, 2) := by decide +kernel
theorem dX3_holdMeeting_45 : decode cX3_holdMeeting 45 = .ok (.aload_n 0, 1) := by decide +kernel
theorem dX3_holdMeeting_46 : decode cX3_holdMeeting 46 = .ok (.dup, 1) := by decide +kernel
theorem dX3_holdMeeting_47 : decode cX3_holdMeeting 47 = .ok (.getfield 39, 3) := by decide +kernel
theorem dX3_holdMeeting_50 : decode cX3_holdMeeting 50 = .ok (.iconst 1, 1) := by decide +kernel
theorem dX3_holdMeeting_51 : decode cX3_holdMeeting 51 = .ok (.iadd, 1) := by decide +kernel
theorem dX3_holdMeeting_52 : decode cX3_holdMeeting 52 = .ok (.putfield 39, 3) := by decide +kernel
theorem dX3_holdMeeting_55 : decode cX3_holdMeeting 55 = .ok (.aload_n 1, 1) := by decide +kernel
theorem dX3_holdMeeting_56 : decode cX3_holdMeeting 56 = .ok (.dup, 1) := by decide +kernel
theorem dX3_holdMeeting_57 : decode cX3_holdMeeting 57 = .ok (.getfield 73, 3) := by decide +kernel
theorem dX3_holdMeeting_60 : decode cX3_holdMeeting 60 = .ok (.iconst 1, 1) := by decide +kernel
theorem dX3_holdMeeting_61 : decode cX3_holdMeeting 61 = .ok (.iadd, 1) := by decide +kernel
theorem dX3_holdMeeting_62 : decode cX3_holdMeeting 62 = .ok (.putfield 73, 3) := by decide +kernel
theorem dX3_holdMeeting_65 : decode cX3_holdMeeting 65 = .ok (.aload_n 2, 1) := by decide +kernel
theorem dX3_holdMeeting_66 : decode cX3_holdMeeting 66 = .ok (.dup, 1) := by decide +kernel
theorem dX3_holdMeeting_67 : decode cX3_holdMeeting 67 = .ok (.getfield 73, 3) := by decide +kernel
theorem dX3_holdMeeting_70 : decode cX3_holdMeeting 70 = .ok (.iconst 1, 1) := by decide +kernel
theorem dX3_holdMeeting_71 : decode cX3_holdMeeting 71 = .ok (.iadd, 1) := by decide +kernel
theorem dX3_holdMeeting_72 : decode cX3_holdMeeting 72 = .ok (.putfield 73, 3) := by decide +kernel
theorem dX3_holdMeeting_75 : decode cX3_holdMeeting 75 = .ok (.aload_n 0, 1) := by decide +kernel
theorem dX3_holdMeeting_76 : decode cX3_holdMeeting 76 = .ok (.getfield 18, 3) := by decide +kernel
theorem dX3_holdMeeting_79 : decode cX3_holdMeeting 79 = .ok (.iconst 1, 1) := by decide +kernel
theorem dX3_holdMeeting_80 : decode cX3_holdMeeting 80 = .ok (.iaload, 1) := by decide +kernel
theorem dX3_holdMeeting_81 : decode cX3_holdMeeting 81 = .ok (.istore 6, 2) := by decide +kernel
theorem dX3_holdMeeting_83 : decode cX3_holdMeeting 83 = .ok (.iload 5, 2) := by decide +kernel
theorem dX3_holdMeeting_85 : decode cX3_holdMeeting 85 = .ok (.iload_n 3, 1) := by decide +kernel
theorem dX3_holdMeeting_86 : decode cX3_holdMeeting 86 = .ok (.if_icmp .ne 55, 3) := by decide +kernel
theorem dX3_holdMeeting_89 : decode cX3_holdMeeting 89 = .ok (.aload_n 0, 1) := by decide +kernel
theorem dX3_holdMeeting_90 : decode cX3_holdMeeting 90 = .ok (.dup, 1) := by decide +kernel
theorem dX3_holdMeeting_91 : decode cX3_holdMeeting 91 = .ok (.getfield 42, 3) := by decide +kernel
theorem dX3_holdMeeting_94 : decode cX3_holdMeeting 94 = .ok (.iconst 1, 1) := by decide +kernel
theorem dX3_holdMeeting_95 : decode cX3_holdMeeting 95 = .ok (.iadd, 1) := by decide +kernel
theorem dX3_holdMeeting_96 : decode cX3_holdMeeting 96 = .ok (.putfield 42, 3) := by decide +kernel
theorem dX3_holdMeeting_99 : decode cX3_holdMeeting 99 = .ok (.aload_n 1, 1) := by decide +kernel
theorem dX3_holdMeeting_100 : decode cX3_holdMeeting 100 = .ok (.iload_n 3, 1) := by decide +kernel
theorem dX3_holdMeeting_101 : decode cX3_holdMeeting 101 = .ok (.iload 4, 2) := by decide +kernel
theorem dX3_holdMeeting_103 : decode cX3_holdMeeting 103 = .ok (.aload_n 0, 1) := by decide +kernel
theorem dX3_holdMeeting_104 : decode cX3_holdMeeting 104 = .ok (.getfield 18, 3) := by decide +kernel
theorem dX3_holdMeeting_107 : decode cX3_holdMeeting 107 = .ok (.iconst 0, 1) := by decide +kernel
theorem dX3_holdMeeting_108 : decode cX3_holdMeeting 108 = .ok (.iaload, 1) := by decide +kernel
theorem dX3_holdMeeting_109 : decode cX3_holdMeeting 109 = .ok (.iload 6, 2) := by decide +kernel
theorem dX3_holdMeeting_111 : decode cX3_holdMeeting 111 = .ok (.invokevirtual 74, 3) := by decide +kernel
theorem dX3_holdMeeting_114 : decode cX3_holdMeeting 114 = .ok (.aload_n 2, 1) := by decide +kernel
theorem dX3_holdMeeting_115 : decode cX3_holdMeeting 115 = .ok (.iload_n 3, 1) := by decide +kernel
theorem dX3_holdMeeting_116 : decode cX3_holdMeeting 116 = .ok (.iload 4, 2) := by decide +kernel
theorem dX3_holdMeeting_118 : decode cX3_holdMeeting 118 = .ok (.aload_n 0, 1) := by decide +kernel
theorem dX3_holdMeeting_119 : decode cX3_holdMeeting 119 = .ok (.getfield 18, 3) := by decide +kernel
theorem dX3_holdMeeting_122 : decode cX3_holdMeeting 122 = .ok (.iconst 0, 1) := by decide +kernel
theorem dX3_holdMeeting_123 : decode cX3_holdMeeting 123 = .ok (.iaload, 1) := by decide +kernel
theorem dX3_holdMeeting_124 : decode cX3_holdMeeting 124 = .ok (.iload 6, 2) := by decide +kernel
theorem dX3_holdMeeting_126 : decode cX3_holdMeeting 126 = .ok (.invokevirtual 74, 3) := by decide +kernel
theorem dX3_holdMeeting_129 : decode cX3_holdMeeting 129 = .ok (.aload_n 2, 1) := by decide +kernel
theorem dX3_holdMeeting_130 : decode cX3_holdMeeting 130 = .ok (.iload_n 3, 1) := by decide +kernel
theorem dX3_holdMeeting_131 : decode cX3_holdMeeting 131 = .ok (.iload 4, 2) := by decide +kernel
theorem dX3_holdMeeting_133 : decode cX3_holdMeeting 133 = .ok (.iload 6, 2) := by decide +kernel
theorem dX3_holdMeeting_135 : decode cX3_holdMeeting 135 = .ok (.invokevirtual 78, 3) := by decide +kernel
theorem dX3_holdMeeting_138 : decode cX3_holdMeeting 138 = .ok (.goto 32, 3) := by decide +kernel
theorem dX3_holdMeeting_141 : decode cX3_holdMeeting 141 = .ok (.aload_n 1, 1) := by decide +kernel
theorem dX3_holdMeeting_142 : decode cX3_holdMeeting 142 = .ok (.iload_n 3, 1) := by decide +kernel
theorem dX3_holdMeeting_143 : decode cX3_holdMeeting 143 = .ok (.iload 4, 2) := by decide +kernel
theorem dX3_holdMeeting_145 : decode cX3_holdMeeting 145 = .ok (.iload 6, 2) := by decide +kernel
theorem dX3_holdMeeting_147 : decode cX3_holdMeeting 147 = .ok (.ineg, 1) := by decide +kernel
theorem dX3_holdMeeting_148 : decode cX3_holdMeeting 148 = .ok (.invokevirtual 82, 3) := by decide +kernel
theorem dX3_holdMeeting_151 : decode cX3_holdMeeting 151 = .ok (.aload_n 2, 1) := by decide +kernel
theorem dX3_holdMeeting_152 : decode cX3_holdMeeting 152 = .ok (.iload_n 3, 1) := by decide +kernel
theorem dX3_holdMeeting_153 : decode cX3_holdMeeting 153 = .ok (.iload 4, 2) := by decide +kernel
theorem dX3_holdMeeting_155 : decode cX3_holdMeeting 155 = .ok (.iconst 1, 1) := by decide +kernel
theorem dX3_holdMeeting_156 : decode cX3_holdMeeting 156 = .ok (.invokevirtual 82, 3) := by decide +kernel
theorem dX3_holdMeeting_159 : decode cX3_holdMeeting 159 = .ok (.aload_n 2, 1) := by decide +kernel
theorem dX3_holdMeeting_160 : decode cX3_holdMeeting 160 = .ok (.iload 5, 2) := by decide +kernel
theorem dX3_holdMeeting_162 : decode cX3_holdMeeting 162 = .ok (.iload 4, 2) := by decide +kernel
theorem dX3_holdMeeting_164 : decode cX3_holdMeeting 164 = .ok (.iload 6, 2) := by decide +kernel
theorem dX3_holdMeeting_166 : decode cX3_holdMeeting 166 = .ok (.ineg, 1) := by decide +kernel
theorem dX3_holdMeeting_167 : decode cX3_holdMeeting 167 = .ok (.invokevirtual 82, 3) := by decide +kernel
theorem dX3_holdMeeting_170 : decode cX3_holdMeeting 170 = .ok (.bipush 10, 2) := by decide +kernel
theorem dX3_holdMeeting_172 : decode cX3_holdMeeting 172 = .ok (.iload 4, 2) := by decide +kernel
theorem dX3_holdMeeting_174 : decode cX3_holdMeeting 174 = .ok (.imul, 1) := by decide +kernel
theorem dX3_holdMeeting_175 : decode cX3_holdMeeting 175 = .ok (.iload 5, 2) := by decide +kernel
theorem dX3_holdMeeting_177 : decode cX3_holdMeeting 177 = .ok (.iadd, 1) := by decide +kernel
theorem dX3_holdMeeting_178 : decode cX3_holdMeeting 178 = .ok (.ireturn, 1) := by decide +kernel
theorem dX3_passYears_0 : decode cX3_passYears 0 = .ok (.aload_n 0, 1) := by decide +kernel
theorem dX3_passYears_1 : decode cX3_passYears 1 = .ok (.getfield 45, 3) := by decide +kernel
theorem dX3_passYears_4 : decode cX3_passYears 4 = .ok (.istore_n 2, 1) := by decide +kernel
theorem dX3_passYears_5 : decode cX3_passYears 5 = .ok (.iconst 0, 1) := by decide +kernel
theorem dX3_passYears_6 : decode cX3_passYears 6 = .ok (.istore_n 3, 1) := by decide +kernel
theorem dX3_passYears_7 : decode cX3_passYears 7 = .ok (.iload_n 3, 1) := by decide +kernel
theorem dX3_passYears_8 : decode cX3_passYears 8 = .ok (.iload_n 1, 1) := by decide +kernel
theorem dX3_passYears_9 : decode cX3_passYears 9 = .ok (.if_icmp .ge 13, 3) := by decide +kernel
theorem dX3_passYears_12 : decode cX3_passYears 12 = .ok (.aload_n 0, 1) := by decide +kernel
theorem dX3_passYears_13 : decode cX3_passYears 13 = .ok (.invokevirtual 101, 3) := by decide +kernel
theorem dX3_passYears_16 : decode cX3_passYears 16 = .ok (.iinc 3 1, 3) := by decide +kernel
theorem dX3_passYears_19 : decode cX3_passYears 19 = .ok (.goto (-12), 3) := by decide +kernel
theorem dX3_passYears_22 : decode cX3_passYears 22 = .ok (.aload_n 0, 1) := by decide +kernel
theorem dX3_passYears_23 : decode cX3_passYears 23 = .ok (.getfield 45, 3) := by decide +kernel
theorem dX3_passYears_26 : decode cX3_passYears 26 = .ok (.iload_n 2, 1) := by decide +kernel
theorem dX3_passYears_27 : decode cX3_passYears 27 = .ok (.isub, 1) := by decide +kernel
theorem dX3_passYears_28 : decode cX3_passYears 28 = .ok (.ireturn, 1) := by decide +kernel
theorem dX3_passYear_0 : decode cX3_passYear 0 = .ok (.aload_n 0, 1) := by decide +kernel
theorem dX3_passYear_1 : decode cX3_passYear 1 = .ok (.dup, 1) := by decide +kernel
theorem dX3_passYear_2 : decode cX3_passYear 2 = .ok (.getfield 48, 3) := by decide +kernel
theorem dX3_passYear_5 : decode cX3_passYear 5 = .ok (.iconst 1, 1) := by decide +kernel
theorem dX3_passYear_6 : decode cX3_passYear 6 = .ok (.iadd, 1) := by decide +kernel
theorem dX3_passYear_7 : decode cX3_passYear 7 = .ok (.putfield 48, 3) := by decide +kernel
theorem dX3_passYear_10 : decode cX3_passYear 10 = .ok (.iconst 0, 1) := by decide +kernel
theorem dX3_passYear_11 : decode cX3_passYear 11 = .ok (.istore_n 1, 1) := by decide +kernel
theorem dX3_passYear_12 : decode cX3_passYear 12 = .ok (.iload_n 1, 1) := by decide +kernel
theorem dX3_passYear_13 : decode cX3_passYear 13 = .ok (.bipush 8, 2) := by decide +kernel
theorem dX3_passYear_15 : decode cX3_passYear 15 = .ok (.if_icmp .ge 36, 3) := by decide +kernel
theorem dX3_passYear_18 : decode cX3_passYear 18 = .ok (.aload_n 0, 1) := by decide +kernel
theorem dX3_passYear_19 : decode cX3_passYear 19 = .ok (.getfield 11, 3) := by decide +kernel
theorem dX3_passYear_22 : decode cX3_passYear 22 = .ok (.iload_n 1, 1) := by decide +kernel
theorem dX3_passYear_23 : decode cX3_passYear 23 = .ok (.aaload, 1) := by decide +kernel
theorem dX3_passYear_24 : decode cX3_passYear 24 = .ok (.getfield 55, 3) := by decide +kernel
theorem dX3_passYear_27 : decode cX3_passYear 27 = .ok (.ifCond .eq 18, 3) := by decide +kernel
theorem dX3_passYear_30 : decode cX3_passYear 30 = .ok (.aload_n 0, 1) := by decide +kernel
theorem dX3_passYear_31 : decode cX3_passYear 31 = .ok (.getfield 11, 3) := by decide +kernel
theorem dX3_passYear_34 : decode cX3_passYear 34 = .ok (.iload_n 1, 1) := by decide +kernel
theorem dX3_passYear_35 : decode cX3_passYear 35 = .ok (.aaload, 1) := by decide +kernel
theorem dX3_passYear_36 : decode cX3_passYear 36 = .ok (.dup, 1) := by decide +kernel
theorem dX3_passYear_37 : decode cX3_passYear 37 = .ok (.getfield 104, 3) := by decide +kernel
theorem dX3_passYear_40 : decode cX3_passYear 40 = .ok (.iconst 1, 1) := by decide +kernel
theorem dX3_passYear_41 : decode cX3_passYear 41 = .ok (.iadd, 1) := by decide +kernel
theorem dX3_passYear_42 : decode cX3_passYear 42 = .ok (.putfield 104, 3) := by decide +kernel
theorem dX3_passYear_45 : decode cX3_passYear 45 = .ok (.iinc 1 1, 3) := by decide +kernel
theorem dX3_passYear_48 : decode cX3_passYear 48 = .ok (.goto (-36), 3) := by decide +kernel
theorem dX3_passYear_51 : decode cX3_passYear 51 = .ok (.iconst 0, 1) := by decide +kernel
theorem dX3_passYear_52 : decode cX3_passYear 52 = .ok (.istore_n 1, 1) := by decide +kernel
theorem dX3_passYear_53 : decode cX3_passYear 53 = .ok (.iload_n 1, 1) := by decide +kernel
theorem dX3_passYear_54 : decode cX3_passYear 54 = .ok (.bipush 8, 2) := by decide +kernel
theorem dX3_passYear_56 : decode cX3_passYear 56 = .ok (.if_icmp .ge 61, 3) := by decide +kernel
theorem dX3_passYear_59 : decode cX3_passYear 59 = .ok (.aload_n 0, 1) := by decide +kernel
theorem dX3_passYear_60 : decode cX3_passYear 60 = .ok (.getfield 11, 3) := by decide +kernel
theorem dX3_passYear_63 : decode cX3_passYear 63 = .ok (.iload_n 1, 1) := by decide +kernel
theorem dX3_passYear_64 : decode cX3_passYear 64 = .ok (.aaload, 1) := by decide +kernel
theorem dX3_passYear_65 : decode cX3_passYear 65 = .ok (.astore_n 2, 1) := by decide +kernel
theorem dX3_passYear_66 : decode cX3_passYear 66 = .ok (.aload_n 2, 1) := by decide +kernel
theorem dX3_passYear_67 : decode cX3_passYear 67 = .ok (.getfield 55, 3) := by decide +kernel
theorem dX3_passYear_70 : decode cX3_passYear 70 = .ok (.ifCond .eq 41, 3) := by decide +kernel
theorem dX3_passYear_73 : decode cX3_passYear 73 = .ok (.aload_n 2, 1) := by decide +kernel
theorem dX3_passYear_74 : decode cX3_passYear 74 = .ok (.getfield 104, 3) := by decide +kernel
theorem dX3_passYear_77 : decode cX3_passYear 77 = .ok (.aload_n 0, 1) := by decide +kernel
theorem dX3_passYear_78 : decode cX3_passYear 78 = .ok (.getfield 18, 3) := by decide +kernel
theorem dX3_passYear_81 : decode cX3_passYear 81 = .ok (.iconst 2, 1) := by decide +kernel
theorem dX3_passYear_82 : decode cX3_passYear 82 = .ok (.iaload, 1) := by decide +kernel
theorem dX3_passYear_83 : decode cX3_passYear 83 = .ok (.if_icmp .le 28, 3) := by decide +kernel
theorem dX3_passYear_86 : decode cX3_passYear 86 = .ok (.aload_n 2, 1) := by decide +kernel
theorem dX3_passYear_87 : decode cX3_passYear 87 = .ok (.aload_n 0, 1) := by decide +kernel
theorem dX3_passYear_88 : decode cX3_passYear 88 = .ok (.iload_n 1, 1) := by decide +kernel
theorem dX3_passYear_89 : decode cX3_passYear 89 = .ok (.invokevirtual 105, 3) := by decide +kernel
theorem dX3_passYear_92 : decode cX3_passYear 92 = .ok (.aload_n 0, 1) := by decide +kernel
theorem dX3_passYear_93 : decode cX3_passYear 93 = .ok (.getfield 18, 3) := by decide +kernel
theorem dX3_passYear_96 : decode cX3_passYear 96 = .ok (.iconst 3, 1) := by decide +kernel
theorem dX3_passYear_97 : decode cX3_passYear 97 = .ok (.iaload, 1) := by decide +kernel
theorem dX3_passYear_98 : decode cX3_passYear 98 = .ok (.invokevirtual 108, 3) := by decide +kernel
theorem dX3_passYear_101 : decode cX3_passYear 101 = .ok (.aload_n 0, 1) := by decide +kernel
theorem dX3_passYear_102 : decode cX3_passYear 102 = .ok (.dup, 1) := by decide +kernel
theorem dX3_passYear_103 : decode cX3_passYear 103 = .ok (.getfield 45, 3) := by decide +kernel
theorem dX3_passYear_106 : decode cX3_passYear 106 = .ok (.iconst 1, 1) := by decide +kernel
theorem dX3_passYear_107 : decode cX3_passYear 107 = .ok (.iadd, 1) := by decide +kernel
theorem dX3_passYear_108 : decode cX3_passYear 108 = .ok (.putfield 45, 3) := by decide +kernel
theorem dX3_passYear_111 : decode cX3_passYear 111 = .ok (.iinc 1 1, 3) := by decide +kernel
theorem dX3_passYear_114 : decode cX3_passYear 114 = .ok (.goto (-61), 3) := by decide +kernel
theorem dX3_passYear_117 : decode cX3_passYear 117 = .ok (.return_, 1) := by decide +kernel
theorem dX3_teacherFor_0 : decode cX3_teacherFor 0 = .ok (.aconst_null, 1) := by decide +kernel
theorem dX3_teacherFor_1 : decode cX3_teacherFor 1 = .ok (.astore_n 2, 1) := by decide +kernel
theorem dX3_teacherFor_2 : decode cX3_teacherFor 2 = .ok (.iconst 0, 1) := by decide +kernel
theorem dX3_teacherFor_3 : decode cX3_teacherFor 3 = .ok (.istore_n 3, 1) := by decide +kernel
theorem dX3_teacherFor_4 : decode cX3_teacherFor 4 = .ok (.iload_n 3, 1) := by decide +kernel
theorem dX3_teacherFor_5 : decode cX3_teacherFor 5 = .ok (.bipush 8, 2) := by decide +kernel
theorem dX3_teacherFor_7 : decode cX3_teacherFor 7 = .ok (.if_icmp .ge 66, 3) := by decide +kernel
theorem dX3_teacherFor_10 : decode cX3_teacherFor 10 = .ok (.aload_n 0, 1) := by decide +kernel
theorem dX3_teacherFor_11 : decode cX3_teacherFor 11 = .ok (.getfield 11, 3) := by decide +kernel
theorem dX3_teacherFor_14 : decode cX3_teacherFor 14 = .ok (.iload_n 3, 1) := by decide +kernel
theorem dX3_teacherFor_15 : decode cX3_teacherFor 15 = .ok (.aaload, 1) := by decide +kernel
theorem dX3_teacherFor_16 : decode cX3_teacherFor 16 = .ok (.astore 4, 2) := by decide +kernel
theorem dX3_teacherFor_18 : decode cX3_teacherFor 18 = .ok (.iload_n 3, 1) := by decide +kernel
theorem dX3_teacherFor_19 : decode cX3_teacherFor 19 = .ok (.iload_n 1, 1) := by decide +kernel
theorem dX3_teacherFor_20 : decode cX3_teacherFor 20 = .ok (.if_icmp .eq 47, 3) := by decide +kernel
theorem dX3_teacherFor_23 : decode cX3_teacherFor 23 = .ok (.aload 4, 2) := by decide +kernel
theorem dX3_teacherFor_25 : decode cX3_teacherFor 25 = .ok (.getfield 55, 3) := by decide +kernel
theorem dX3_teacherFor_28 : decode cX3_teacherFor 28 = .ok (.ifCond .eq 39, 3) := by decide +kernel
theorem dX3_teacherFor_31 : decode cX3_teacherFor 31 = .ok (.aload 4, 2) := by decide +kernel
theorem dX3_teacherFor_33 : decode cX3_teacherFor 33 = .ok (.getfield 104, 3) := by decide +kernel
theorem dX3_teacherFor_36 : decode cX3_teacherFor 36 = .ok (.aload_n 0, 1) := by decide +kernel
theorem dX3_teacherFor_37 : decode cX3_teacherFor 37 = .ok (.getfield 18, 3) := by decide +kernel
theorem dX3_teacherFor_40 : decode cX3_teacherFor 40 = .ok (.iconst 2, 1) := by decide +kernel
theorem dX3_teacherFor_41 : decode cX3_teacherFor 41 = .ok (.iaload, 1) := by decide +kernel
theorem dX3_teacherFor_42 : decode cX3_teacherFor 42 = .ok (.if_icmp .le 6, 3) := by decide +kernel
theorem dX3_teacherFor_45 : decode cX3_teacherFor 45 = .ok (.goto 22, 3) := by decide +kernel
theorem dX3_teacherFor_48 : decode cX3_teacherFor 48 = .ok (.aload_n 2, 1) := by decide +kernel
theorem dX3_teacherFor_49 : decode cX3_teacherFor 49 = .ok (.ifnull 15, 3) := by decide +kernel
theorem dX3_teacherFor_52 : decode cX3_teacherFor 52 = .ok (.aload 4, 2) := by decide +kernel
theorem dX3_teacherFor_54 : decode cX3_teacherFor 54 = .ok (.getfield 104, 3) := by decide +kernel
theorem dX3_teacherFor_57 : decode cX3_teacherFor 57 = .ok (.aload_n 2, 1) := by decide +kernel
theorem dX3_teacherFor_58 : decode cX3_teacherFor 58 = .ok (.getfield 104, 3) := by decide +kernel
theorem dX3_teacherFor_61 : decode cX3_teacherFor 61 = .ok (.if_icmp .ge 6, 3) := by decide +kernel
theorem dX3_teacherFor_64 : decode cX3_teacherFor 64 = .ok (.aload 4, 2) := by decide +kernel
theorem dX3_teacherFor_66 : decode cX3_teacherFor 66 = .ok (.astore_n 2, 1) := by decide +kernel
theorem dX3_teacherFor_67 : decode cX3_teacherFor 67 = .ok (.iinc 3 1, 3) := by decide +kernel
theorem dX3_teacherFor_70 : decode cX3_teacherFor 70 = .ok (.goto (-66), 3) := by decide +kernel
theorem dX3_teacherFor_73 : decode cX3_teacherFor 73 = .ok (.aload_n 2, 1) := by decide +kernel
theorem dX3_teacherFor_74 : decode cX3_teacherFor 74 = .ok (.areturn, 1) := by decide +kernel
theorem dX3_numberOf_0 : decode cX3_numberOf 0 = .ok (.iload_n 1, 1) := by decide +kernel
theorem dX3_numberOf_1 : decode cX3_numberOf 1 = .ok (.tableswitch 69 0 5 #[39, 44, 49, 54, 59, 64], 39) := by decide +kernel
theorem dX3_numberOf_40 : decode cX3_numberOf 40 = .ok (.aload_n 0, 1) := by decide +kernel
theorem dX3_numberOf_41 : decode cX3_numberOf 41 = .ok (.invokevirtual 85, 3) := by decide +kernel
theorem dX3_numberOf_44 : decode cX3_numberOf 44 = .ok (.ireturn, 1) := by decide +kernel
theorem dX3_numberOf_45 : decode cX3_numberOf 45 = .ok (.aload_n 0, 1) := by decide +kernel
theorem dX3_numberOf_46 : decode cX3_numberOf 46 = .ok (.getfield 25, 3) := by decide +kernel
theorem dX3_numberOf_49 : decode cX3_numberOf 49 = .ok (.ireturn, 1) := by decide +kernel
theorem dX3_numberOf_50 : decode cX3_numberOf 50 = .ok (.aload_n 0, 1) := by decide +kernel
theorem dX3_numberOf_51 : decode cX3_numberOf 51 = .ok (.getfield 39, 3) := by decide +kernel
theorem dX3_numberOf_54 : decode cX3_numberOf 54 = .ok (.ireturn, 1) := by decide +kernel
theorem dX3_numberOf_55 : decode cX3_numberOf 55 = .ok (.aload_n 0, 1) := by decide +kernel
theorem dX3_numberOf_56 : decode cX3_numberOf 56 = .ok (.getfield 42, 3) := by decide +kernel
theorem dX3_numberOf_59 : decode cX3_numberOf 59 = .ok (.ireturn, 1) := by decide +kernel
theorem dX3_numberOf_60 : decode cX3_numberOf 60 = .ok (.aload_n 0, 1) := by decide +kernel
theorem dX3_numberOf_61 : decode cX3_numberOf 61 = .ok (.getfield 45, 3) := by decide +kernel
theorem dX3_numberOf_64 : decode cX3_numberOf 64 = .ok (.ireturn, 1) := by decide +kernel
theorem dX3_numberOf_65 : decode cX3_numberOf 65 = .ok (.aload_n 0, 1) := by decide +kernel
theorem dX3_numberOf_66 : decode cX3_numberOf 66 = .ok (.getfield 48, 3) := by decide +kernel
theorem dX3_numberOf_69 : decode cX3_numberOf 69 = .ok (.ireturn, 1) := by decide +kernel
theorem dX3_numberOf_70 : decode cX3_numberOf 70 = .ok (.aload_n 0, 1) := by decide +kernel
theorem dX3_numberOf_71 : decode cX3_numberOf 71 = .ok (.invokevirtual 112, 3) := by decide +kernel
theorem dX3_numberOf_74 : decode cX3_numberOf 74 = .ok (.ireturn, 1) := by decide +kernel
theorem dX3_numberOfSpeaker_0 : decode cX3_numberOfSpeaker 0 = .ok (.iload_n 2, 1) := by decide +kernel
theorem dX3_numberOfSpeaker_1 : decode cX3_numberOfSpeaker 1 = .ok (.tableswitch 57 0 3 #[31, 36, 47, 52], 31) := by decide +kernel
theorem dX3_numberOfSpeaker_32 : decode cX3_numberOfSpeaker 32 = .ok (.aload_n 1, 1) := by decide +kernel
theorem dX3_numberOfSpeaker_33 : decode cX3_numberOfSpeaker 33 = .ok (.getfield 104, 3) := by decide +kernel
theorem dX3_numberOfSpeaker_36 : decode cX3_numberOfSpeaker 36 = .ok (.ireturn, 1) := by decide +kernel
theorem dX3_numberOfSpeaker_37 : decode cX3_numberOfSpeaker 37 = .ok (.aload_n 1, 1) := by decide +kernel
theorem dX3_numberOfSpeaker_38 : decode cX3_numberOfSpeaker 38 = .ok (.aload_n 0, 1) := by decide +kernel
theorem dX3_numberOfSpeaker_39 : decode cX3_numberOfSpeaker 39 = .ok (.getfield 18, 3) := by decide +kernel
theorem dX3_numberOfSpeaker_42 : decode cX3_numberOfSpeaker 42 = .ok (.iconst 0, 1) := by decide +kernel
theorem dX3_numberOfSpeaker_43 : decode cX3_numberOfSpeaker 43 = .ok (.iaload, 1) := by decide +kernel
theorem dX3_numberOfSpeaker_44 : decode cX3_numberOfSpeaker 44 = .ok (.invokevirtual 115, 3) := by decide +kernel
theorem dX3_numberOfSpeaker_47 : decode cX3_numberOfSpeaker 47 = .ok (.ireturn, 1) := by decide +kernel
theorem dX3_numberOfSpeaker_48 : decode cX3_numberOfSpeaker 48 = .ok (.aload_n 1, 1) := by decide +kernel
theorem dX3_numberOfSpeaker_49 : decode cX3_numberOfSpeaker 49 = .ok (.invokevirtual 118, 3) := by decide +kernel
theorem dX3_numberOfSpeaker_52 : decode cX3_numberOfSpeaker 52 = .ok (.ireturn, 1) := by decide +kernel
theorem dX3_numberOfSpeaker_53 : decode cX3_numberOfSpeaker 53 = .ok (.aload_n 1, 1) := by decide +kernel
theorem dX3_numberOfSpeaker_54 : decode cX3_numberOfSpeaker 54 = .ok (.invokevirtual 121, 3) := by decide +kernel
theorem dX3_numberOfSpeaker_57 : decode cX3_numberOfSpeaker 57 = .ok (.ireturn, 1) := by decide +kernel
theorem dX3_numberOfSpeaker_58 : decode cX3_numberOfSpeaker 58 = .ok (.aload_n 1, 1) := by decide +kernel
theorem dX3_numberOfSpeaker_59 : decode cX3_numberOfSpeaker 59 = .ok (.getfield 73, 3) := by decide +kernel
theorem dX3_numberOfSpeaker_62 : decode cX3_numberOfSpeaker 62 = .ok (.ireturn, 1) := by decide +kernel
theorem dX3_sumOfWeights_0 : decode cX3_sumOfWeights 0 = .ok (.iconst 0, 1) := by decide +kernel
theorem dX3_sumOfWeights_1 : decode cX3_sumOfWeights 1 = .ok (.istore_n 1, 1) := by decide +kernel
theorem dX3_sumOfWeights_2 : decode cX3_sumOfWeights 2 = .ok (.iconst 0, 1) := by decide +kernel
theorem dX3_sumOfWeights_3 : decode cX3_sumOfWeights 3 = .ok (.istore_n 2, 1) := by decide +kernel
theorem dX3_sumOfWeights_4 : decode cX3_sumOfWeights 4 = .ok (.iload_n 2, 1) := by decide +kernel
theorem dX3_sumOfWeights_5 : decode cX3_sumOfWeights 5 = .ok (.bipush 8, 2) := by decide +kernel
theorem dX3_sumOfWeights_7 : decode cX3_sumOfWeights 7 = .ok (.if_icmp .ge 33, 3) := by decide +kernel
theorem dX3_sumOfWeights_10 : decode cX3_sumOfWeights 10 = .ok (.aload_n 0, 1) := by decide +kernel
theorem dX3_sumOfWeights_11 : decode cX3_sumOfWeights 11 = .ok (.getfield 11, 3) := by decide +kernel
theorem dX3_sumOfWeights_14 : decode cX3_sumOfWeights 14 = .ok (.iload_n 2, 1) := by decide +kernel
theorem dX3_sumOfWeights_15 : decode cX3_sumOfWeights 15 = .ok (.aaload, 1) := by decide +kernel
theorem dX3_sumOfWeights_16 : decode cX3_sumOfWeights 16 = .ok (.getfield 55, 3) := by decide +kernel
theorem dX3_sumOfWeights_19 : decode cX3_sumOfWeights 19 = .ok (.ifCond .eq 15, 3) := by decide +kernel
theorem dX3_sumOfWeights_22 : decode cX3_sumOfWeights 22 = .ok (.iload_n 1, 1) := by decide +kernel
theorem dX3_sumOfWeights_23 : decode cX3_sumOfWeights 23 = .ok (.aload_n 0, 1) := by decide +kernel
theorem dX3_sumOfWeights_24 : decode cX3_sumOfWeights 24 = .ok (.getfield 11, 3) := by decide +kernel
theorem dX3_sumOfWeights_27 : decode cX3_sumOfWeights 27 = .ok (.iload_n 2, 1) := by decide +kernel
theorem dX3_sumOfWeights_28 : decode cX3_sumOfWeights 28 = .ok (.aaload, 1) := by decide +kernel
theorem dX3_sumOfWeights_29 : decode cX3_sumOfWeights 29 = .ok (.invokevirtual 124, 3) := by decide +kernel
theorem dX3_sumOfWeights_32 : decode cX3_sumOfWeights 32 = .ok (.iadd, 1) := by decide +kernel
theorem dX3_sumOfWeights_33 : decode cX3_sumOfWeights 33 = .ok (.istore_n 1, 1) := by decide +kernel
theorem dX3_sumOfWeights_34 : decode cX3_sumOfWeights 34 = .ok (.iinc 2 1, 3) := by decide +kernel
theorem dX3_sumOfWeights_37 : decode cX3_sumOfWeights 37 = .ok (.goto (-33), 3) := by decide +kernel
theorem dX3_sumOfWeights_40 : decode cX3_sumOfWeights 40 = .ok (.iload_n 1, 1) := by decide +kernel
theorem dX3_sumOfWeights_41 : decode cX3_sumOfWeights 41 = .ok (.ireturn, 1) := by decide +kernel
theorem dX3_commonWord_0 : decode cX3_commonWord 0 = .ok (.aload_n 0, 1) := by decide +kernel
theorem dX3_commonWord_1 : decode cX3_commonWord 1 = .ok (.iload_n 1, 1) := by decide +kernel
theorem dX3_commonWord_2 : decode cX3_commonWord 2 = .ok (.invokevirtual 125, 3) := by decide +kernel
theorem dX3_commonWord_5 : decode cX3_commonWord 5 = .ok (.bipush (-6), 2) := by decide +kernel
theorem dX3_commonWord_7 : decode cX3_commonWord 7 = .ok (.istore_n 2, 1) := by decide +kernel
theorem dX3_commonWord_8 : decode cX3_commonWord 8 = .ok (.iconst 0, 1) := by decide +kernel
theorem dX3_commonWord_9 : decode cX3_commonWord 9 = .ok (.istore_n 3, 1) := by decide +kernel
theorem dX3_commonWord_10 : decode cX3_commonWord 10 = .ok (.iconst 0, 1) := by decide +kernel
theorem dX3_commonWord_11 : decode cX3_commonWord 11 = .ok (.istore 4, 2) := by decide +kernel
theorem dX3_commonWord_13 : decode cX3_commonWord 13 = .ok (.iload 4, 2) := by decide +kernel
theorem dX3_commonWord_15 : decode cX3_commonWord 15 = .ok (.bipush 14, 2) := by decide +kernel
theorem dX3_commonWord_17 : decode cX3_commonWord 17 = .ok (.if_icmp .ge 31, 3) := by decide +kernel
theorem dX3_commonWord_20 : decode cX3_commonWord 20 = .ok (.aload_n 0, 1) := by decide +kernel
theorem dX3_commonWord_21 : decode cX3_commonWord 21 = .ok (.getfield 22, 3) := by decide +kernel
theorem dX3_commonWord_24 : decode cX3_commonWord 24 = .ok (.iload 4, 2) := by decide +kernel
theorem dX3_commonWord_26 : decode cX3_commonWord 26 = .ok (.iaload, 1) := by decide +kernel
theorem dX3_commonWord_27 : decode cX3_commonWord 27 = .ok (.iload_n 3, 1) := by decide +kernel
theorem dX3_commonWord_28 : decode cX3_commonWord 28 = .ok (.if_icmp .le 14, 3) := by decide +kernel
theorem dX3_commonWord_31 : decode cX3_commonWord 31 = .ok (.aload_n 0, 1) := by decide +kernel
theorem dX3_commonWord_32 : decode cX3_commonWord 32 = .ok (.getfield 22, 3) := by decide +kernel
theorem dX3_commonWord_35 : decode cX3_commonWord 35 = .ok (.iload 4, 2) := by decide +kernel
theorem dX3_commonWord_37 : decode cX3_commonWord 37 = .ok (.iaload, 1) := by decide +kernel
theorem dX3_commonWord_38 : decode cX3_commonWord 38 = .ok (.istore_n 3, 1) := by decide +kernel
theorem dX3_commonWord_39 : decode cX3_commonWord 39 = .ok (.iload 4, 2) := by decide +kernel
theorem dX3_commonWord_41 : decode cX3_commonWord 41 = .ok (.istore_n 2, 1) := by decide +kernel
theorem dX3_commonWord_42 : decode cX3_commonWord 42 = .ok (.iinc 4 1, 3) := by decide +kernel
theorem dX3_commonWord_45 : decode cX3_commonWord 45 = .ok (.goto (-32), 3) := by decide +kernel
theorem dX3_commonWord_48 : decode cX3_commonWord 48 = .ok (.iload_n 2, 1) := by decide +kernel
theorem dX3_commonWord_49 : decode cX3_commonWord 49 = .ok (.ireturn, 1) := by decide +kernel
theorem dX3_countUsers_0 : decode cX3_countUsers 0 = .ok (.iconst 0, 1) := by decide +kernel
theorem dX3_countUsers_1 : decode cX3_countUsers 1 = .ok (.istore_n 2, 1) := by decide +kernel
theorem dX3_countUsers_2 : decode cX3_countUsers 2 = .ok (.iload_n 2, 1) := by decide +kernel
theorem dX3_countUsers_3 : decode cX3_countUsers 3 = .ok (.bipush 14, 2) := by decide +kernel
theorem dX3_countUsers_5 : decode cX3_countUsers 5 = .ok (.if_icmp .ge 16, 3) := by decide +kernel
theorem dX3_countUsers_8 : decode cX3_countUsers 8 = .ok (.aload_n 0, 1) := by decide +kernel
theorem dX3_countUsers_9 : decode cX3_countUsers 9 = .ok (.getfield 22, 3) := by decide +kernel
theorem dX3_countUsers_12 : decode cX3_countUsers 12 = .ok (.iload_n 2, 1) := by decide +kernel
theorem dX3_countUsers_13 : decode cX3_countUsers 13 = .ok (.iconst 0, 1) := by decide +kernel
theorem dX3_countUsers_14 : decode cX3_countUsers 14 = .ok (.iastore, 1) := by decide +kernel
theorem dX3_countUsers_15 : decode cX3_countUsers 15 = .ok (.iinc 2 1, 3) := by decide +kernel
theorem dX3_countUsers_18 : decode cX3_countUsers 18 = .ok (.goto (-16), 3) := by decide +kernel
theorem dX3_countUsers_21 : decode cX3_countUsers 21 = .ok (.iconst 0, 1) := by decide +kernel
theorem dX3_countUsers_22 : decode cX3_countUsers 22 = .ok (.istore_n 2, 1) := by decide +kernel
theorem dX3_countUsers_23 : decode cX3_countUsers 23 = .ok (.iload_n 2, 1) := by decide +kernel
theorem dX3_countUsers_24 : decode cX3_countUsers 24 = .ok (.bipush 8, 2) := by decide +kernel
theorem dX3_countUsers_26 : decode cX3_countUsers 26 = .ok (.if_icmp .ge 54, 3) := by decide +kernel
theorem dX3_countUsers_29 : decode cX3_countUsers 29 = .ok (.aload_n 0, 1) := by decide +kernel
theorem dX3_countUsers_30 : decode cX3_countUsers 30 = .ok (.getfield 11, 3) := by decide +kernel
theorem dX3_countUsers_33 : decode cX3_countUsers 33 = .ok (.iload_n 2, 1) := by decide +kernel
theorem dX3_countUsers_34 : decode cX3_countUsers 34 = .ok (.aaload, 1) := by decide +kernel
theorem dX3_countUsers_35 : decode cX3_countUsers 35 = .ok (.getfield 55, 3) := by decide +kernel
theorem dX3_countUsers_38 : decode cX3_countUsers 38 = .ok (.ifCond .eq 16, 3) := by decide +kernel
theorem dX3_countUsers_41 : decode cX3_countUsers 41 = .ok (.aload_n 0, 1) := by decide +kernel
theorem dX3_countUsers_42 : decode cX3_countUsers 42 = .ok (.getfield 11, 3) := by decide +kernel
theorem dX3_countUsers_45 : decode cX3_countUsers 45 = .ok (.iload_n 2, 1) := by decide +kernel
theorem dX3_countUsers_46 : decode cX3_countUsers 46 = .ok (.aaload, 1) := by decide +kernel
theorem dX3_countUsers_47 : decode cX3_countUsers 47 = .ok (.iload_n 1, 1) := by decide +kernel
theorem dX3_countUsers_48 : decode cX3_countUsers 48 = .ok (.invokevirtual 63, 3) := by decide +kernel
theorem dX3_countUsers_51 : decode cX3_countUsers 51 = .ok (.goto 5, 3) := by decide +kernel
theorem dX3_countUsers_54 : decode cX3_countUsers 54 = .ok (.bipush (-6), 2) := by decide +kernel
theorem dX3_countUsers_56 : decode cX3_countUsers 56 = .ok (.istore_n 3, 1) := by decide +kernel
theorem dX3_countUsers_57 : decode cX3_countUsers 57 = .ok (.iload_n 3, 1) := by decide +kernel
theorem dX3_countUsers_58 : decode cX3_countUsers 58 = .ok (.invokestatic 129, 3) := by decide +kernel
theorem dX3_countUsers_61 : decode cX3_countUsers 61 = .ok (.ifCond .eq 13, 3) := by decide +kernel
theorem dX3_countUsers_64 : decode cX3_countUsers 64 = .ok (.aload_n 0, 1) := by decide +kernel
theorem dX3_countUsers_65 : decode cX3_countUsers 65 = .ok (.getfield 22, 3) := by decide +kernel
theorem dX3_countUsers_68 : decode cX3_countUsers 68 = .ok (.iload_n 3, 1) := by decide +kernel
theorem dX3_countUsers_69 : decode cX3_countUsers 69 = .ok (.dup2, 1) := by decide +kernel
theorem dX3_countUsers_70 : decode cX3_countUsers 70 = .ok (.iaload, 1) := by decide +kernel
theorem dX3_countUsers_71 : decode cX3_countUsers 71 = .ok (.iconst 1, 1) := by decide +kernel
theorem dX3_countUsers_72 : decode cX3_countUsers 72 = .ok (.iadd, 1) := by decide +kernel
theorem dX3_countUsers_73 : decode cX3_countUsers 73 = .ok (.iastore, 1) := by decide +kernel
theorem dX3_countUsers_74 : decode cX3_countUsers 74 = .ok (.iinc 2 1, 3) := by decide +kernel
theorem dX3_countUsers_77 : decode cX3_countUsers 77 = .ok (.goto (-54), 3) := by decide +kernel
theorem dX3_countUsers_80 : decode cX3_countUsers 80 = .ok (.return_, 1) := by decide +kernel
theorem dX4_init_0 : decode cX4_init 0 = .ok (.aload_n 0, 1) := by decide +kernel
theorem dX4_init_1 : decode cX4_init 1 = .ok (.invokespecial 1, 3) := by decide +kernel
theorem dX4_init_4 : decode cX4_init 4 = .ok (.aload_n 0, 1) := by decide +kernel
theorem dX4_init_5 : decode cX4_init 5 = .ok (.new 7, 3) := by decide +kernel
theorem dX4_init_8 : decode cX4_init 8 = .ok (.dup, 1) := by decide +kernel
theorem dX4_init_9 : decode cX4_init 9 = .ok (.invokespecial 9, 3) := by decide +kernel
theorem dX4_init_12 : decode cX4_init 12 = .ok (.putfield 10, 3) := by decide +kernel
theorem dX4_init_15 : decode cX4_init 15 = .ok (.aload_n 0, 1) := by decide +kernel
theorem dX4_init_16 : decode cX4_init 16 = .ok (.new 7, 3) := by decide +kernel
theorem dX4_init_19 : decode cX4_init 19 = .ok (.dup, 1) := by decide +kernel
theorem dX4_init_20 : decode cX4_init 20 = .ok (.invokespecial 9, 3) := by decide +kernel
theorem dX4_init_23 : decode cX4_init 23 = .ok (.putfield 16, 3) := by decide +kernel
theorem dX4_init_26 : decode cX4_init 26 = .ok (.aload_n 0, 1) := by decide +kernel
theorem dX4_init_27 : decode cX4_init 27 = .ok (.new 19, 3) := by decide +kernel
theorem dX4_init_30 : decode cX4_init 30 = .ok (.dup, 1) := by decide +kernel
theorem dX4_init_31 : decode cX4_init 31 = .ok (.invokespecial 21, 3) := by decide +kernel
theorem dX4_init_34 : decode cX4_init 34 = .ok (.putfield 22, 3) := by decide +kernel
theorem dX4_init_37 : decode cX4_init 37 = .ok (.aload_n 0, 1) := by decide +kernel
theorem dX4_init_38 : decode cX4_init 38 = .ok (.new 26, 3) := by decide +kernel
theorem dX4_init_41 : decode cX4_init 41 = .ok (.dup, 1) := by decide +kernel
theorem dX4_init_42 : decode cX4_init 42 = .ok (.invokespecial 28, 3) := by decide +kernel
theorem dX4_init_45 : decode cX4_init 45 = .ok (.putfield 29, 3) := by decide +kernel
theorem dX4_init_48 : decode cX4_init 48 = .ok (.return_, 1) := by decide +kernel
theorem dX4_come_0 : decode cX4_come 0 = .ok (.aload_n 0, 1) := by decide +kernel
theorem dX4_come_1 : decode cX4_come 1 = .ok (.getfield 10, 3) := by decide +kernel
theorem dX4_come_4 : decode cX4_come 4 = .ok (.invokevirtual 33, 3) := by decide +kernel
theorem dX4_come_7 : decode cX4_come 7 = .ok (.istore_n 1, 1) := by decide +kernel
theorem dX4_come_8 : decode cX4_come 8 = .ok (.iload_n 1, 1) := by decide +kernel
theorem dX4_come_9 : decode cX4_come 9 = .ok (.bipush (-6), 2) := by decide +kernel
theorem dX4_come_11 : decode cX4_come 11 = .ok (.if_icmp .ne 6, 3) := by decide +kernel
theorem dX4_come_14 : decode cX4_come 14 = .ok (.bipush (-4), 2) := by decide +kernel
theorem dX4_come_16 : decode cX4_come 16 = .ok (.ireturn, 1) := by decide +kernel
theorem dX4_come_17 : decode cX4_come 17 = .ok (.aload_n 0, 1) := by decide +kernel
theorem dX4_come_18 : decode cX4_come 18 = .ok (.getfield 22, 3) := by decide +kernel
theorem dX4_come_21 : decode cX4_come 21 = .ok (.aload_n 0, 1) := by decide +kernel
theorem dX4_come_22 : decode cX4_come 22 = .ok (.getfield 10, 3) := by decide +kernel
theorem dX4_come_25 : decode cX4_come 25 = .ok (.invokevirtual 37, 3) := by decide +kernel
theorem dX4_come_28 : decode cX4_come 28 = .ok (.aload_n 0, 1) := by decide +kernel
theorem dX4_come_29 : decode cX4_come 29 = .ok (.getfield 10, 3) := by decide +kernel
theorem dX4_come_32 : decode cX4_come 32 = .ok (.iload_n 1, 1) := by decide +kernel
theorem dX4_come_33 : decode cX4_come 33 = .ok (.invokevirtual 41, 3) := by decide +kernel
theorem dX4_come_36 : decode cX4_come 36 = .ok (.iload_n 1, 1) := by decide +kernel
theorem dX4_come_37 : decode cX4_come 37 = .ok (.ireturn, 1) := by decide +kernel
theorem dX4_go_0 : decode cX4_go 0 = .ok (.aload_n 0, 1) := by decide +kernel
theorem dX4_go_1 : decode cX4_go 1 = .ok (.getfield 10, 3) := by decide +kernel
theorem dX4_go_4 : decode cX4_go 4 = .ok (.iload_n 1, 1) := by decide +kernel
theorem dX4_go_5 : decode cX4_go 5 = .ok (.invokevirtual 45, 3) := by decide +kernel
theorem dX4_go_8 : decode cX4_go 8 = .ok (.astore_n 2, 1) := by decide +kernel
theorem dX4_go_9 : decode cX4_go 9 = .ok (.aload_n 2, 1) := by decide +kernel
theorem dX4_go_10 : decode cX4_go 10 = .ok (.ifnonnull 5, 3) := by decide +kernel
theorem dX4_go_13 : decode cX4_go 13 = .ok (.iconst (-1), 1) := by decide +kernel
theorem dX4_go_14 : decode cX4_go 14 = .ok (.ireturn, 1) := by decide +kernel
theorem dX4_go_15 : decode cX4_go 15 = .ok (.aload_n 0, 1) := by decide +kernel
theorem dX4_go_16 : decode cX4_go 16 = .ok (.getfield 22, 3) := by decide +kernel
theorem dX4_go_19 : decode cX4_go 19 = .ok (.aload_n 0, 1) := by decide +kernel
theorem dX4_go_20 : decode cX4_go 20 = .ok (.getfield 10, 3) := by decide +kernel
theorem dX4_go_23 : decode cX4_go 23 = .ok (.invokevirtual 37, 3) := by decide +kernel
theorem dX4_go_26 : decode cX4_go 26 = .ok (.aload_n 2, 1) := by decide +kernel
theorem dX4_go_27 : decode cX4_go 27 = .ok (.invokevirtual 49, 3) := by decide +kernel
theorem dX4_go_30 : decode cX4_go 30 = .ok (.aload_n 0, 1) := by decide +kernel
theorem dX4_go_31 : decode cX4_go 31 = .ok (.getfield 10, 3) := by decide +kernel
theorem dX4_go_34 : decode cX4_go 34 = .ok (.invokevirtual 54, 3) := by decide +kernel
theorem dX4_go_37 : decode cX4_go 37 = .ok (.ireturn, 1) := by decide +kernel
theorem dX4_set_0 : decode cX4_set 0 = .ok (.iload_n 1, 1) := by decide +kernel
theorem dX4_set_1 : decode cX4_set 1 = .ok (.iconst 4, 1) := by decide +kernel
theorem dX4_set_2 : decode cX4_set 2 = .ok (.invokestatic 57, 3) := by decide +kernel
theorem dX4_set_5 : decode cX4_set 5 = .ok (.ifCond .ne 5, 3) := by decide +kernel
theorem dX4_set_8 : decode cX4_set 8 = .ok (.iconst (-1), 1) := by decide +kernel
theorem dX4_set_9 : decode cX4_set 9 = .ok (.ireturn, 1) := by decide +kernel
theorem dX4_set_10 : decode cX4_set 10 = .ok (.iload_n 2, 1) := by decide +kernel
theorem dX4_set_11 : decode cX4_set 11 = .ok (.iload_n 1, 1) := by decide +kernel
theorem dX4_set_12 : decode cX4_set 12 = .ok (.invokestatic 61, 3) := by decide +kernel
theorem dX4_set_15 : decode cX4_set 15 = .ok (.if_icmp .lt 11, 3) := by decide +kernel
theorem dX4_set_18 : decode cX4_set 18 = .ok (.iload_n 2, 1) := by decide +kernel
theorem dX4_set_19 : decode cX4_set 19 = .ok (.iload_n 1, 1) := by decide +kernel
theorem dX4_set_20 : decode cX4_set 20 = .ok (.invokestatic 65, 3) := by decide +kernel
theorem dX4_set_23 : decode cX4_set 23 = .ok (.if_icmp .le 6, 3) := by decide +kernel
theorem dX4_set_26 : decode cX4_set 26 = .ok (.bipush (-2), 2) := by decide +kernel
theorem dX4_set_28 : decode cX4_set 28 = .ok (.ireturn, 1) := by decide +kernel
theorem dX4_set_29 : decode cX4_set 29 = .ok (.aload_n 0, 1) := by decide +kernel
theorem dX4_set_30 : decode cX4_set 30 = .ok (.getfield 10, 3) := by decide +kernel
theorem dX4_set_33 : decode cX4_set 33 = .ok (.iload_n 1, 1) := by decide +kernel
theorem dX4_set_34 : decode cX4_set 34 = .ok (.invokevirtual 68, 3) := by decide +kernel
theorem dX4_set_37 : decode cX4_set 37 = .ok (.istore_n 3, 1) := by decide +kernel
theorem dX4_set_38 : decode cX4_set 38 = .ok (.aload_n 0, 1) := by decide +kernel
theorem dX4_set_39 : decode cX4_set 39 = .ok (.getfield 22, 3) := by decide +kernel
theorem dX4_set_42 : decode cX4_set 42 = .ok (.aload_n 0, 1) := by decide +kernel
theorem dX4_set_43 : decode cX4_set 43 = .ok (.getfield 10, 3) := by decide +kernel
theorem dX4_set_46 : decode cX4_set 46 = .ok (.invokevirtual 37, 3) := by decide +kernel
theorem dX4_set_49 : decode cX4_set 49 = .ok (.aload_n 0, 1) := by decide +kernel
theorem dX4_set_50 : decode cX4_set 50 = .ok (.getfield 10, 3) := by decide +kernel
theorem dX4_set_53 : decode cX4_set 53 = .ok (.iload_n 1, 1) := by decide +kernel
theorem dX4_set_54 : decode cX4_set 54 = .ok (.iload_n 2, 1) := by decide +kernel
theorem dX4_set_55 : decode cX4_set 55 = .ok (.invokevirtual 71, 3) := by decide +kernel
theorem dX4_set_58 : decode cX4_set 58 = .ok (.iload_n 3, 1) := by decide +kernel
theorem dX4_set_59 : decode cX4_set 59 = .ok (.ireturn, 1) := by decide +kernel
theorem dX4_setSeed_0 : decode cX4_setSeed 0 = .ok (.iload_n 1, 1) := by decide +kernel
theorem dX4_setSeed_1 : decode cX4_setSeed 1 = .ok (.ifCond .lt 9, 3) := by decide +kernel
theorem dX4_setSeed_4 : decode cX4_setSeed 4 = .ok (.iload_n 1, 1) := by decide +kernel
theorem dX4_setSeed_5 : decode cX4_setSeed 5 = .ok (.ldc 75, 2) := by decide +kernel
theorem dX4_setSeed_7 : decode cX4_setSeed 7 = .ok (.if_icmp .le 6, 3) := by decide +kernel
theorem dX4_setSeed_10 : decode cX4_setSeed 10 = .ok (.bipush (-2), 2) := by decide +kernel
theorem dX4_setSeed_12 : decode cX4_setSeed 12 = .ok (.ireturn, 1) := by decide +kernel
theorem dX4_setSeed_13 : decode cX4_setSeed 13 = .ok (.aload_n 0, 1) := by decide +kernel
theorem dX4_setSeed_14 : decode cX4_setSeed 14 = .ok (.getfield 10, 3) := by decide +kernel
theorem dX4_setSeed_17 : decode cX4_setSeed 17 = .ok (.getfield 76, 3) := by decide +kernel
theorem dX4_setSeed_20 : decode cX4_setSeed 20 = .ok (.istore_n 2, 1) := by decide +kernel
theorem dX4_setSeed_21 : decode cX4_setSeed 21 = .ok (.aload_n 0, 1) := by decide +kernel
theorem dX4_setSeed_22 : decode cX4_setSeed 22 = .ok (.getfield 22, 3) := by decide +kernel
theorem dX4_setSeed_25 : decode cX4_setSeed 25 = .ok (.aload_n 0, 1) := by decide +kernel
theorem dX4_setSeed_26 : decode cX4_setSeed 26 = .ok (.getfield 10, 3) := by decide +kernel
theorem dX4_setSeed_29 : decode cX4_setSeed 29 = .ok (.invokevirtual 37, 3) := by decide +kernel
theorem dX4_setSeed_32 : decode cX4_setSeed 32 = .ok (.aload_n 0, 1) := by decide +kernel
theorem dX4_setSeed_33 : decode cX4_setSeed 33 = .ok (.getfield 10, 3) := by decide +kernel
theorem dX4_setSeed_36 : decode cX4_setSeed 36 = .ok (.iload_n 1, 1) := by decide +kernel
theorem dX4_setSeed_37 : decode cX4_setSeed 37 = .ok (.putfield 76, 3) := by decide +kernel
theorem dX4_setSeed_40 : decode cX4_setSeed 40 = .ok (.iload_n 2, 1) := by decide +kernel
theorem dX4_setSeed_41 : decode cX4_setSeed 41 = .ok (.ireturn, 1) := by decide +kernel
theorem dX4_teach_0 : decode cX4_teach 0 = .ok (.aload_n 0, 1) := by decide +kernel
theorem dX4_teach_1 : decode cX4_teach 1 = .ok (.getfield 10, 3) := by decide +kernel
theorem dX4_teach_4 : decode cX4_teach 4 = .ok (.iload_n 1, 1) := by decide +kernel
theorem dX4_teach_5 : decode cX4_teach 5 = .ok (.invokevirtual 45, 3) := by decide +kernel
theorem dX4_teach_8 : decode cX4_teach 8 = .ok (.astore 5, 2) := by decide +kernel
theorem dX4_teach_10 : decode cX4_teach 10 = .ok (.aload 5, 2) := by decide +kernel
theorem dX4_teach_12 : decode cX4_teach 12 = .ok (.ifnull 17, 3) := by decide +kernel
theorem dX4_teach_15 : decode cX4_teach 15 = .ok (.iload_n 2, 1) := by decide +kernel
theorem dX4_teach_16 : decode cX4_teach 16 = .ok (.invokestatic 80, 3) := by decide +kernel
theorem dX4_teach_19 : decode cX4_teach 19 = .ok (.ifCond .eq 10, 3) := by decide +kernel
theorem dX4_teach_22 : decode cX4_teach 22 = .ok (.iload_n 3, 1) := by decide +kernel
theorem dX4_teach_23 : decode cX4_teach 23 = .ok (.invokestatic 84, 3) := by decide +kernel
theorem dX4_teach_26 : decode cX4_teach 26 = .ok (.ifCond .ne 5, 3) := by decide +kernel
theorem dX4_teach_29 : decode cX4_teach 29 = .ok (.iconst (-1), 1) := by decide +kernel
theorem dX4_teach_30 : decode cX4_teach 30 = .ok (.ireturn, 1) := by decide +kernel
theorem dX4_teach_31 : decode cX4_teach 31 = .ok (.iload 4, 2) := by decide +kernel
theorem dX4_teach_33 : decode cX4_teach 33 = .ok (.ifCond .lt 10, 3) := by decide +kernel
theorem dX4_teach_36 : decode cX4_teach 36 = .ok (.iload 4, 2) := by decide +kernel
theorem dX4_teach_38 : decode cX4_teach 38 = .ok (.bipush 99, 2) := by decide +kernel
theorem dX4_teach_40 : decode cX4_teach 40 = .ok (.if_icmp .le 6, 3) := by decide +kernel
theorem dX4_teach_43 : decode cX4_teach 43 = .ok (.bipush (-2), 2) := by decide +kernel
theorem dX4_teach_45 : decode cX4_teach 45 = .ok (.ireturn, 1) := by decide +kernel
theorem dX4_teach_46 : decode cX4_teach 46 = .ok (.aload 5, 2) := by decide +kernel
theorem dX4_teach_48 : decode cX4_teach 48 = .ok (.iload_n 2, 1) := by decide +kernel
theorem dX4_teach_49 : decode cX4_teach 49 = .ok (.iload_n 3, 1) := by decide +kernel
theorem dX4_teach_50 : decode cX4_teach 50 = .ok (.invokevirtual 87, 3) := by decide +kernel
theorem dX4_teach_53 : decode cX4_teach 53 = .ok (.istore 6, 2) := by decide +kernel
theorem dX4_teach_55 : decode cX4_teach 55 = .ok (.aload_n 0, 1) := by decide +kernel
theorem dX4_teach_56 : decode cX4_teach 56 = .ok (.getfield 22, 3) := by decide +kernel
theorem dX4_teach_59 : decode cX4_teach 59 = .ok (.aload_n 0, 1) := by decide +kernel
theorem dX4_teach_60 : decode cX4_teach 60 = .ok (.getfield 10, 3) := by decide +kernel
theorem dX4_teach_63 : decode cX4_teach 63 = .ok (.invokevirtual 37, 3) := by decide +kernel
theorem dX4_teach_66 : decode cX4_teach 66 = .ok (.aload 5, 2) := by decide +kernel
theorem dX4_teach_68 : decode cX4_teach 68 = .ok (.iload_n 2, 1) := by decide +kernel
theorem dX4_teach_69 : decode cX4_teach 69 = .ok (.iload_n 3, 1) := by decide +kernel
theorem dX4_teach_70 : decode cX4_teach 70 = .ok (.iload 4, 2) := by decide +kernel
theorem dX4_teach_72 : decode cX4_teach 72 = .ok (.invokevirtual 91, 3) := by decide +kernel
theorem dX4_teach_75 : decode cX4_teach 75 = .ok (.iload 6, 2) := by decide +kernel
theorem dX4_teach_77 : decode cX4_teach 77 = .ok (.ireturn, 1) := by decide +kernel
theorem dX4_setAge_0 : decode cX4_setAge 0 = .ok (.aload_n 0, 1) := by decide +kernel
theorem dX4_setAge_1 : decode cX4_setAge 1 = .ok (.getfield 10, 3) := by decide +kernel
theorem dX4_setAge_4 : decode cX4_setAge 4 = .ok (.iload_n 1, 1) := by decide +kernel
theorem dX4_setAge_5 : decode cX4_setAge 5 = .ok (.invokevirtual 45, 3) := by decide +kernel
theorem dX4_setAge_8 : decode cX4_setAge 8 = .ok (.astore_n 3, 1) := by decide +kernel
theorem dX4_setAge_9 : decode cX4_setAge 9 = .ok (.aload_n 3, 1) := by decide +kernel
theorem dX4_setAge_10 : decode cX4_setAge 10 = .ok (.ifnonnull 5, 3) := by decide +kernel
theorem dX4_setAge_13 : decode cX4_setAge 13 = .ok (.iconst (-1), 1) := by decide +kernel
theorem dX4_setAge_14 : decode cX4_setAge 14 = .ok (.ireturn, 1) := by decide +kernel
theorem dX4_setAge_15 : decode cX4_setAge 15 = .ok (.iload_n 2, 1) := by decide +kernel
theorem dX4_setAge_16 : decode cX4_setAge 16 = .ok (.ifCond .lt 9, 3) := by decide +kernel
theorem dX4_setAge_19 : decode cX4_setAge 19 = .ok (.iload_n 2, 1) := by decide +kernel
theorem dX4_setAge_20 : decode cX4_setAge 20 = .ok (.bipush 99, 2) := by decide +kernel
theorem dX4_setAge_22 : decode cX4_setAge 22 = .ok (.if_icmp .le 6, 3) := by decide +kernel
theorem dX4_setAge_25 : decode cX4_setAge 25 = .ok (.bipush (-2), 2) := by decide +kernel
theorem dX4_setAge_27 : decode cX4_setAge 27 = .ok (.ireturn, 1) := by decide +kernel
theorem dX4_setAge_28 : decode cX4_setAge 28 = .ok (.aload_n 3, 1) := by decide +kernel
theorem dX4_setAge_29 : decode cX4_setAge 29 = .ok (.getfield 95, 3) := by decide +kernel
theorem dX4_setAge_32 : decode cX4_setAge 32 = .ok (.istore 4, 2) := by decide +kernel
theorem dX4_setAge_34 : decode cX4_setAge 34 = .ok (.aload_n 0, 1) := by decide +kernel
theorem dX4_setAge_35 : decode cX4_setAge 35 = .ok (.getfield 22, 3) := by decide +kernel
theorem dX4_setAge_38 : decode cX4_setAge 38 = .ok (.aload_n 0, 1) := by decide +kernel
theorem dX4_setAge_39 : decode cX4_setAge 39 = .ok (.getfield 10, 3) := by decide +kernel
theorem dX4_setAge_42 : decode cX4_setAge 42 = .ok (.invokevirtual 37, 3) := by decide +kernel
theorem dX4_setAge_45 : decode cX4_setAge 45 = .ok (.aload_n 3, 1) := by decide +kernel
theorem dX4_setAge_46 : decode cX4_setAge 46 = .ok (.iload_n 2, 1) := by decide +kernel
theorem dX4_setAge_47 : decode cX4_setAge 47 = .ok (.putfield 95, 3) := by decide +kernel
theorem dX4_setAge_50 : decode cX4_setAge 50 = .ok (.iload 4, 2) := by decide +kernel
theorem dX4_setAge_52 : decode cX4_setAge 52 = .ok (.ireturn, 1) := by decide +kernel
theorem dX4_meet_0 : decode cX4_meet 0 = .ok (.aload_n 0, 1) := by decide +kernel
theorem dX4_meet_1 : decode cX4_meet 1 = .ok (.getfield 10, 3) := by decide +kernel
theorem dX4_meet_4 : decode cX4_meet 4 = .ok (.iload_n 1, 1) := by decide +kernel
theorem dX4_meet_5 : decode cX4_meet 5 = .ok (.invokevirtual 45, 3) := by decide +kernel
theorem dX4_meet_8 : decode cX4_meet 8 = .ok (.astore 4, 2) := by decide +kernel
theorem dX4_meet_10 : decode cX4_meet 10 = .ok (.aload_n 0, 1) := by decide +kernel
theorem dX4_meet_11 : decode cX4_meet 11 = .ok (.getfield 10, 3) := by decide +kernel
theorem dX4_meet_14 : decode cX4_meet 14 = .ok (.iload_n 2, 1) := by decide +kernel
theorem dX4_meet_15 : decode cX4_meet 15 = .ok (.invokevirtual 45, 3) := by decide +kernel
theorem dX4_meet_18 : decode cX4_meet 18 = .ok (.astore 5, 2) := by decide +kernel
theorem dX4_meet_20 : decode cX4_meet 20 = .ok (.aload 4, 2) := by decide +kernel
theorem dX4_meet_22 : decode cX4_meet 22 = .ok (.ifnull 15, 3) := by decide +kernel
theorem dX4_meet_25 : decode cX4_meet 25 = .ok (.aload 5, 2) := by decide +kernel
theorem dX4_meet_27 : decode cX4_meet 27 = .ok (.ifnull 10, 3) := by decide +kernel
theorem dX4_meet_30 : decode cX4_meet 30 = .ok (.iload_n 3, 1) := by decide +kernel
theorem dX4_meet_31 : decode cX4_meet 31 = .ok (.invokestatic 80, 3) := by decide +kernel
theorem dX4_meet_34 : decode cX4_meet 34 = .ok (.ifCond .ne 5, 3) := by decide +kernel
theorem dX4_meet_37 : decode cX4_meet 37 = .ok (.iconst (-1), 1) := by decide +kernel
theorem dX4_meet_38 : decode cX4_meet 38 = .ok (.ireturn, 1) := by decide +kernel
theorem dX4_meet_39 : decode cX4_meet 39 = .ok (.iload_n 1, 1) := by decide +kernel
theorem dX4_meet_40 : decode cX4_meet 40 = .ok (.iload_n 2, 1) := by decide +kernel
theorem dX4_meet_41 : decode cX4_meet 41 = .ok (.if_icmp .ne 6, 3) := by decide +kernel
theorem dX4_meet_44 : decode cX4_meet 44 = .ok (.bipush (-3), 2) := by decide +kernel
theorem dX4_meet_46 : decode cX4_meet 46 = .ok (.ireturn, 1) := by decide +kernel
theorem dX4_meet_47 : decode cX4_meet 47 = .ok (.aload_n 0, 1) := by decide +kernel
theorem dX4_meet_48 : decode cX4_meet 48 = .ok (.getfield 22, 3) := by decide +kernel
theorem dX4_meet_51 : decode cX4_meet 51 = .ok (.aload_n 0, 1) := by decide +kernel
theorem dX4_meet_52 : decode cX4_meet 52 = .ok (.getfield 10, 3) := by decide +kernel
theorem dX4_meet_55 : decode cX4_meet 55 = .ok (.invokevirtual 37, 3) := by decide +kernel
theorem dX4_meet_58 : decode cX4_meet 58 = .ok (.aload_n 0, 1) := by decide +kernel
theorem dX4_meet_59 : decode cX4_meet 59 = .ok (.getfield 10, 3) := by decide +kernel
theorem dX4_meet_62 : decode cX4_meet 62 = .ok (.aload 4, 2) := by decide +kernel
theorem dX4_meet_64 : decode cX4_meet 64 = .ok (.aload 5, 2) := by decide +kernel
theorem dX4_meet_66 : decode cX4_meet 66 = .ok (.iload_n 3, 1) := by decide +kernel
theorem dX4_meet_67 : decode cX4_meet 67 = .ok (.invokevirtual 98, 3) := by decide +kernel
theorem dX4_meet_70 : decode cX4_meet 70 = .ok (.ireturn, 1) := by decide +kernel
theorem dX4_age_0 : decode cX4_age 0 = .ok (.iload_n 1, 1) := by decide +kernel
theorem dX4_age_1 : decode cX4_age 1 = .ok (.iconst 1, 1) := by decide +kernel
theorem dX4_age_2 : decode cX4_age 2 = .ok (.if_icmp .lt 9, 3) := by decide +kernel
theorem dX4_age_5 : decode cX4_age 5 = .ok (.iload_n 1, 1) := by decide +kernel
theorem dX4_age_6 : decode cX4_age 6 = .ok (.bipush 99, 2) := by decide +kernel
theorem dX4_age_8 : decode cX4_age 8 = .ok (.if_icmp .le 6, 3) := by decide +kernel
theorem dX4_age_11 : decode cX4_age 11 = .ok (.bipush (-2), 2) := by decide +kernel
theorem dX4_age_13 : decode cX4_age 13 = .ok (.ireturn, 1) := by decide +kernel
theorem dX4_age_14 : decode cX4_age 14 = .ok (.aload_n 0, 1) := by decide +kernel
theorem dX4_age_15 : decode cX4_age 15 = .ok (.getfield 22, 3) := by decide +kernel
theorem dX4_age_18 : decode cX4_age 18 = .ok (.aload_n 0, 1) := by decide +kernel
theorem dX4_age_19 : decode cX4_age 19 = .ok (.getfield 10, 3) := by decide +kernel
theorem dX4_age_22 : decode cX4_age 22 = .ok (.invokevirtual 37, 3) := by decide +kernel
theorem dX4_age_25 : decode cX4_age 25 = .ok (.aload_n 0, 1) := by decide +kernel
theorem dX4_age_26 : decode cX4_age 26 = .ok (.getfield 10, 3) := by decide +kernel
theorem dX4_age_29 : decode cX4_age 29 = .ok (.iload_n 1, 1) := by decide +kernel
theorem dX4_age_30 : decode cX4_age 30 = .ok (.invokevirtual 108, 3) := by decide +kernel
theorem dX4_age_33 : decode cX4_age 33 = .ok (.ireturn, 1) := by decide +kernel
theorem dX4_count_0 : decode cX4_count 0 = .ok (.iload_n 1, 1) := by decide +kernel
theorem dX4_count_1 : decode cX4_count 1 = .ok (.bipush 7, 2) := by decide +kernel
theorem dX4_count_3 : decode cX4_count 3 = .ok (.invokestatic 57, 3) := by decide +kernel
theorem dX4_count_6 : decode cX4_count 6 = .ok (.ifCond .eq 14, 3) := by decide +kernel
theorem dX4_count_9 : decode cX4_count 9 = .ok (.aload_n 0, 1) := by decide +kernel
theorem dX4_count_10 : decode cX4_count 10 = .ok (.getfield 10, 3) := by decide +kernel
theorem dX4_count_13 : decode cX4_count 13 = .ok (.iload_n 1, 1) := by decide +kernel
theorem dX4_count_14 : decode cX4_count 14 = .ok (.invokevirtual 111, 3) := by decide +kernel
theorem dX4_count_17 : decode cX4_count 17 = .ok (.goto 5, 3) := by decide +kernel
theorem dX4_count_20 : decode cX4_count 20 = .ok (.bipush (-2), 2) := by decide +kernel
theorem dX4_count_22 : decode cX4_count 22 = .ok (.ireturn, 1) := by decide +kernel
theorem dX4_setting_0 : decode cX4_setting 0 = .ok (.iload_n 1, 1) := by decide +kernel
theorem dX4_setting_1 : decode cX4_setting 1 = .ok (.iconst 4, 1) := by decide +kernel
theorem dX4_setting_2 : decode cX4_setting 2 = .ok (.invokestatic 57, 3) := by decide +kernel
theorem dX4_setting_5 : decode cX4_setting 5 = .ok (.ifCond .eq 14, 3) := by decide +kernel
theorem dX4_setting_8 : decode cX4_setting 8 = .ok (.aload_n 0, 1) := by decide +kernel
theorem dX4_setting_9 : decode cX4_setting 9 = .ok (.getfield 10, 3) := by decide +kernel
theorem dX4_setting_12 : decode cX4_setting 12 = .ok (.iload_n 1, 1) := by decide +kernel
theorem dX4_setting_13 : decode cX4_setting 13 = .ok (.invokevirtual 68, 3) := by decide +kernel
theorem dX4_setting_16 : decode cX4_setting 16 = .ok (.goto 4, 3) := by decide +kernel
theorem dX4_setting_19 : decode cX4_setting 19 = .ok (.iconst (-1), 1) := by decide +kernel
theorem dX4_setting_20 : decode cX4_setting 20 = .ok (.ireturn, 1) := by decide +kernel
theorem dX4_weight_0 : decode cX4_weight 0 = .ok (.aload_n 0, 1) := by decide +kernel
theorem dX4_weight_1 : decode cX4_weight 1 = .ok (.getfield 10, 3) := by decide +kernel
theorem dX4_weight_4 : decode cX4_weight 4 = .ok (.iload_n 1, 1) := by decide +kernel
theorem dX4_weight_5 : decode cX4_weight 5 = .ok (.invokevirtual 45, 3) := by decide +kernel
theorem dX4_weight_8 : decode cX4_weight 8 = .ok (.astore 4, 2) := by decide +kernel
theorem dX4_weight_10 : decode cX4_weight 10 = .ok (.aload 4, 2) := by decide +kernel
theorem dX4_weight_12 : decode cX4_weight 12 = .ok (.ifnull 17, 3) := by decide +kernel
theorem dX4_weight_15 : decode cX4_weight 15 = .ok (.iload_n 2, 1) := by decide +kernel
theorem dX4_weight_16 : decode cX4_weight 16 = .ok (.invokestatic 80, 3) := by decide +kernel
theorem dX4_weight_19 : decode cX4_weight 19 = .ok (.ifCond .eq 10, 3) := by decide +kernel
theorem dX4_weight_22 : decode cX4_weight 22 = .ok (.iload_n 3, 1) := by decide +kernel
theorem dX4_weight_23 : decode cX4_weight 23 = .ok (.invokestatic 84, 3) := by decide +kernel
theorem dX4_weight_26 : decode cX4_weight 26 = .ok (.ifCond .ne 5, 3) := by decide +kernel
theorem dX4_weight_29 : decode cX4_weight 29 = .ok (.iconst (-1), 1) := by decide +kernel
theorem dX4_weight_30 : decode cX4_weight 30 = .ok (.ireturn, 1) := by decide +kernel
theorem dX4_weight_31 : decode cX4_weight 31 = .ok (.aload 4, 2) := by decide +kernel
theorem dX4_weight_33 : decode cX4_weight 33 = .ok (.iload_n 2, 1) := by decide +kernel
theorem dX4_weight_34 : decode cX4_weight 34 = .ok (.iload_n 3, 1) := by decide +kernel
theorem dX4_weight_35 : decode cX4_weight 35 = .ok (.invokevirtual 87, 3) := by decide +kernel
theorem dX4_weight_38 : decode cX4_weight 38 = .ok (.ireturn, 1) := by decide +kernel
theorem dX4_speaker_0 : decode cX4_speaker 0 = .ok (.aload_n 0, 1) := by decide +kernel
theorem dX4_speaker_1 : decode cX4_speaker 1 = .ok (.getfield 10, 3) := by decide +kernel
theorem dX4_speaker_4 : decode cX4_speaker 4 = .ok (.iload_n 1, 1) := by decide +kernel
theorem dX4_speaker_5 : decode cX4_speaker 5 = .ok (.invokevirtual 45, 3) := by decide +kernel
theorem dX4_speaker_8 : decode cX4_speaker 8 = .ok (.astore_n 3, 1) := by decide +kernel
theorem dX4_speaker_9 : decode cX4_speaker 9 = .ok (.aload_n 3, 1) := by decide +kernel
theorem dX4_speaker_10 : decode cX4_speaker 10 = .ok (.ifnonnull 5, 3) := by decide +kernel
theorem dX4_speaker_13 : decode cX4_speaker 13 = .ok (.iconst (-1), 1) := by decide +kernel
theorem dX4_speaker_14 : decode cX4_speaker 14 = .ok (.ireturn, 1) := by decide +kernel
theorem dX4_speaker_15 : decode cX4_speaker 15 = .ok (.iload_n 2, 1) := by decide +kernel
theorem dX4_speaker_16 : decode cX4_speaker 16 = .ok (.iconst 5, 1) := by decide +kernel
theorem dX4_speaker_17 : decode cX4_speaker 17 = .ok (.invokestatic 57, 3) := by decide +kernel
theorem dX4_speaker_20 : decode cX4_speaker 20 = .ok (.ifCond .eq 15, 3) := by decide +kernel
theorem dX4_speaker_23 : decode cX4_speaker 23 = .ok (.aload_n 0, 1) := by decide +kernel
theorem dX4_speaker_24 : decode cX4_speaker 24 = .ok (.getfield 10, 3) := by decide +kernel
theorem dX4_speaker_27 : decode cX4_speaker 27 = .ok (.aload_n 3, 1) := by decide +kernel
theorem dX4_speaker_28 : decode cX4_speaker 28 = .ok (.iload_n 2, 1) := by decide +kernel
theorem dX4_speaker_29 : decode cX4_speaker 29 = .ok (.invokevirtual 114, 3) := by decide +kernel
theorem dX4_speaker_32 : decode cX4_speaker 32 = .ok (.goto 5, 3) := by decide +kernel
theorem dX4_speaker_35 : decode cX4_speaker 35 = .ok (.bipush (-2), 2) := by decide +kernel
theorem dX4_speaker_37 : decode cX4_speaker 37 = .ok (.ireturn, 1) := by decide +kernel
theorem dX4_wordOf_0 : decode cX4_wordOf 0 = .ok (.aload_n 0, 1) := by decide +kernel
theorem dX4_wordOf_1 : decode cX4_wordOf 1 = .ok (.getfield 10, 3) := by decide +kernel
theorem dX4_wordOf_4 : decode cX4_wordOf 4 = .ok (.iload_n 1, 1) := by decide +kernel
theorem dX4_wordOf_5 : decode cX4_wordOf 5 = .ok (.invokevirtual 45, 3) := by decide +kernel
theorem dX4_wordOf_8 : decode cX4_wordOf 8 = .ok (.astore_n 3, 1) := by decide +kernel
theorem dX4_wordOf_9 : decode cX4_wordOf 9 = .ok (.aload_n 3, 1) := by decide +kernel
theorem dX4_wordOf_10 : decode cX4_wordOf 10 = .ok (.ifnull 10, 3) := by decide +kernel
theorem dX4_wordOf_13 : decode cX4_wordOf 13 = .ok (.iload_n 2, 1) := by decide +kernel
theorem dX4_wordOf_14 : decode cX4_wordOf 14 = .ok (.invokestatic 80, 3) := by decide +kernel
theorem dX4_wordOf_17 : decode cX4_wordOf 17 = .ok (.ifCond .ne 5, 3) := by decide +kernel
theorem dX4_wordOf_20 : decode cX4_wordOf 20 = .ok (.iconst (-1), 1) := by decide +kernel
theorem dX4_wordOf_21 : decode cX4_wordOf 21 = .ok (.ireturn, 1) := by decide +kernel
theorem dX4_wordOf_22 : decode cX4_wordOf 22 = .ok (.aload_n 3, 1) := by decide +kernel
theorem dX4_wordOf_23 : decode cX4_wordOf 23 = .ok (.iload_n 2, 1) := by decide +kernel
theorem dX4_wordOf_24 : decode cX4_wordOf 24 = .ok (.invokevirtual 118, 3) := by decide +kernel
theorem dX4_wordOf_27 : decode cX4_wordOf 27 = .ok (.ireturn, 1) := by decide +kernel
theorem dX4_hears_0 : decode cX4_hears 0 = .ok (.aload_n 0, 1) := by decide +kernel
theorem dX4_hears_1 : decode cX4_hears 1 = .ok (.getfield 10, 3) := by decide +kernel
theorem dX4_hears_4 : decode cX4_hears 4 = .ok (.iload_n 1, 1) := by decide +kernel
theorem dX4_hears_5 : decode cX4_hears 5 = .ok (.invokevirtual 45, 3) := by decide +kernel
theorem dX4_hears_8 : decode cX4_hears 8 = .ok (.astore_n 3, 1) := by decide +kernel
theorem dX4_hears_9 : decode cX4_hears 9 = .ok (.aload_n 3, 1) := by decide +kernel
theorem dX4_hears_10 : decode cX4_hears 10 = .ok (.ifnull 10, 3) := by decide +kernel
theorem dX4_hears_13 : decode cX4_hears 13 = .ok (.iload_n 2, 1) := by decide +kernel
theorem dX4_hears_14 : decode cX4_hears 14 = .ok (.invokestatic 84, 3) := by decide +kernel
theorem dX4_hears_17 : decode cX4_hears 17 = .ok (.ifCond .ne 5, 3) := by decide +kernel
theorem dX4_hears_20 : decode cX4_hears 20 = .ok (.iconst (-1), 1) := by decide +kernel
theorem dX4_hears_21 : decode cX4_hears 21 = .ok (.ireturn, 1) := by decide +kernel
theorem dX4_hears_22 : decode cX4_hears 22 = .ok (.aload_n 3, 1) := by decide +kernel
theorem dX4_hears_23 : decode cX4_hears 23 = .ok (.iload_n 2, 1) := by decide +kernel
theorem dX4_hears_24 : decode cX4_hears 24 = .ok (.invokevirtual 121, 3) := by decide +kernel
theorem dX4_hears_27 : decode cX4_hears 27 = .ok (.ireturn, 1) := by decide +kernel
theorem dX4_agreement_0 : decode cX4_agreement 0 = .ok (.aload_n 0, 1) := by decide +kernel
theorem dX4_agreement_1 : decode cX4_agreement 1 = .ok (.getfield 10, 3) := by decide +kernel
theorem dX4_agreement_4 : decode cX4_agreement 4 = .ok (.iload_n 1, 1) := by decide +kernel
theorem dX4_agreement_5 : decode cX4_agreement 5 = .ok (.invokevirtual 45, 3) := by decide +kernel
theorem dX4_agreement_8 : decode cX4_agreement 8 = .ok (.astore 4, 2) := by decide +kernel
theorem dX4_agreement_10 : decode cX4_agreement 10 = .ok (.aload_n 0, 1) := by decide +kernel
theorem dX4_agreement_11 : decode cX4_agreement 11 = .ok (.getfield 10, 3) := by decide +kernel
theorem dX4_agreement_14 : decode cX4_agreement 14 = .ok (.iload_n 2, 1) := by decide +kernel
theorem dX4_agreement_15 : decode cX4_agreement 15 = .ok (.invokevirtual 45, 3) := by decide +kernel
theorem dX4_agreement_18 : decode cX4_agreement 18 = .ok (.astore 5, 2) := by decide +kernel
theorem dX4_agreement_20 : decode cX4_agreement 20 = .ok (.aload 4, 2) := by decide +kernel
theorem dX4_agreement_22 : decode cX4_agreement 22 = .ok (.ifnull 8, 3) := by decide +kernel
theorem dX4_agreement_25 : decode cX4_agreement 25 = .ok (.aload 5, 2) := by decide +kernel
theorem dX4_agreement_27 : decode cX4_agreement 27 = .ok (.ifnonnull 5, 3) := by decide +kernel
theorem dX4_agreement_30 : decode cX4_agreement 30 = .ok (.iconst (-1), 1) := by decide +kernel
theorem dX4_agreement_31 : decode cX4_agreement 31 = .ok (.ireturn, 1) := by decide +kernel
theorem dX4_agreement_32 : decode cX4_agreement 32 = .ok (.iload_n 3, 1) := by decide +kernel
theorem dX4_agreement_33 : decode cX4_agreement 33 = .ok (.ifCond .ne 11, 3) := by decide +kernel
theorem dX4_agreement_36 : decode cX4_agreement 36 = .ok (.aload 4, 2) := by decide +kernel
theorem dX4_agreement_38 : decode cX4_agreement 38 = .ok (.aload 5, 2) := by decide +kernel
theorem dX4_agreement_40 : decode cX4_agreement 40 = .ok (.invokestatic 130, 3) := by decide +kernel
theorem dX4_agreement_43 : decode cX4_agreement 43 = .ok (.ireturn, 1) := by decide +kernel
theorem dX4_agreement_44 : decode cX4_agreement 44 = .ok (.iload_n 3, 1) := by decide +kernel
theorem dX4_agreement_45 : decode cX4_agreement 45 = .ok (.iconst 1, 1) := by decide +kernel
theorem dX4_agreement_46 : decode cX4_agreement 46 = .ok (.if_icmp .ne 13, 3) := by decide +kernel
theorem dX4_agreement_49 : decode cX4_agreement 49 = .ok (.aload 4, 2) := by decide +kernel
theorem dX4_agreement_51 : decode cX4_agreement 51 = .ok (.aload 5, 2) := by decide +kernel
theorem dX4_agreement_53 : decode cX4_agreement 53 = .ok (.invokestatic 134, 3) := by decide +kernel
theorem dX4_agreement_56 : decode cX4_agreement 56 = .ok (.goto 5, 3) := by decide +kernel
theorem dX4_agreement_59 : decode cX4_agreement 59 = .ok (.bipush (-2), 2) := by decide +kernel
theorem dX4_agreement_61 : decode cX4_agreement 61 = .ok (.ireturn, 1) := by decide +kernel
theorem dX4_understanding_0 : decode cX4_understanding 0 = .ok (.aload_n 0, 1) := by decide +kernel
theorem dX4_understanding_1 : decode cX4_understanding 1 = .ok (.getfield 10, 3) := by decide +kernel
theorem dX4_understanding_4 : decode cX4_understanding 4 = .ok (.iload_n 1, 1) := by decide +kernel
theorem dX4_understanding_5 : decode cX4_understanding 5 = .ok (.invokevirtual 45, 3) := by decide +kernel
theorem dX4_understanding_8 : decode cX4_understanding 8 = .ok (.astore_n 3, 1) := by decide +kernel
theorem dX4_understanding_9 : decode cX4_understanding 9 = .ok (.aload_n 0, 1) := by decide +kernel
theorem dX4_understanding_10 : decode cX4_understanding 10 = .ok (.getfield 10, 3) := by decide +kernel
theorem dX4_understanding_13 : decode cX4_understanding 13 = .ok (.iload_n 2, 1) := by decide +kernel
theorem dX4_understanding_14 : decode cX4_understanding 14 = .ok (.invokevirtual 45, 3) := by decide +kernel
theorem dX4_understanding_17 : decode cX4_understanding 17 = .ok (.astore 4, 2) := by decide +kernel
theorem dX4_understanding_19 : decode cX4_understanding 19 = .ok (.aload_n 3, 1) := by decide +kernel
theorem dX4_understanding_20 : decode cX4_understanding 20 = .ok (.ifnull 8, 3) := by decide +kernel
theorem dX4_understanding_23 : decode cX4_understanding 23 = .ok (.aload 4, 2) := by decide +kernel
theorem dX4_understanding_25 : decode cX4_understanding 25 = .ok (.ifnonnull 5, 3) := by decide +kernel
theorem dX4_understanding_28 : decode cX4_understanding 28 = .ok (.iconst (-1), 1) := by decide +kernel
theorem dX4_understanding_29 : decode cX4_understanding 29 = .ok (.ireturn, 1) := by decide +kernel
theorem dX4_understanding_30 : decode cX4_understanding 30 = .ok (.aload_n 3, 1) := by decide +kernel
theorem dX4_understanding_31 : decode cX4_understanding 31 = .ok (.aload 4, 2) := by decide +kernel
theorem dX4_understanding_33 : decode cX4_understanding 33 = .ok (.invokestatic 137, 3) := by decide +kernel
theorem dX4_understanding_36 : decode cX4_understanding 36 = .ok (.ireturn, 1) := by decide +kernel
theorem dX4_common_0 : decode cX4_common 0 = .ok (.iload_n 1, 1) := by decide +kernel
theorem dX4_common_1 : decode cX4_common 1 = .ok (.invokestatic 80, 3) := by decide +kernel
theorem dX4_common_4 : decode cX4_common 4 = .ok (.ifCond .eq 14, 3) := by decide +kernel
theorem dX4_common_7 : decode cX4_common 7 = .ok (.aload_n 0, 1) := by decide +kernel
theorem dX4_common_8 : decode cX4_common 8 = .ok (.getfield 10, 3) := by decide +kernel
theorem dX4_common_11 : decode cX4_common 11 = .ok (.iload_n 1, 1) := by decide +kernel
theorem dX4_common_12 : decode cX4_common 12 = .ok (.invokevirtual 140, 3) := by decide +kernel
theorem dX4_common_15 : decode cX4_common 15 = .ok (.goto 4, 3) := by decide +kernel
theorem dX4_common_18 : decode cX4_common 18 = .ok (.iconst (-1), 1) := by decide +kernel
theorem dX4_common_19 : decode cX4_common 19 = .ok (.ireturn, 1) := by decide +kernel
theorem dX4_ifMet_0 : decode cX4_ifMet 0 = .ok (.aload_n 0, 1) := by decide +kernel
theorem dX4_ifMet_1 : decode cX4_ifMet 1 = .ok (.getfield 10, 3) := by decide +kernel
theorem dX4_ifMet_4 : decode cX4_ifMet 4 = .ok (.iload_n 1, 1) := by decide +kernel
theorem dX4_ifMet_5 : decode cX4_ifMet 5 = .ok (.invokevirtual 45, 3) := by decide +kernel
theorem dX4_ifMet_8 : decode cX4_ifMet 8 = .ok (.ifnull 21, 3) := by decide +kernel
theorem dX4_ifMet_11 : decode cX4_ifMet 11 = .ok (.aload_n 0, 1) := by decide +kernel
theorem dX4_ifMet_12 : decode cX4_ifMet 12 = .ok (.getfield 10, 3) := by decide +kernel
theorem dX4_ifMet_15 : decode cX4_ifMet 15 = .ok (.iload_n 2, 1) := by decide +kernel
theorem dX4_ifMet_16 : decode cX4_ifMet 16 = .ok (.invokevirtual 45, 3) := by decide +kernel
theorem dX4_ifMet_19 : decode cX4_ifMet 19 = .ok (.ifnull 10, 3) := by decide +kernel
theorem dX4_ifMet_22 : decode cX4_ifMet 22 = .ok (.iload_n 3, 1) := by decide +kernel
theorem dX4_ifMet_23 : decode cX4_ifMet 23 = .ok (.invokestatic 80, 3) := by decide +kernel
theorem dX4_ifMet_26 : decode cX4_ifMet 26 = .ok (.ifCond .ne 5, 3) := by decide +kernel
theorem dX4_ifMet_29 : decode cX4_ifMet 29 = .ok (.iconst (-1), 1) := by decide +kernel
theorem dX4_ifMet_30 : decode cX4_ifMet 30 = .ok (.ireturn, 1) := by decide +kernel
theorem dX4_ifMet_31 : decode cX4_ifMet 31 = .ok (.iload 4, 2) := by decide +kernel
theorem dX4_ifMet_33 : decode cX4_ifMet 33 = .ok (.iconst 4, 1) := by decide +kernel
theorem dX4_ifMet_34 : decode cX4_ifMet 34 = .ok (.invokestatic 57, 3) := by decide +kernel
theorem dX4_ifMet_37 : decode cX4_ifMet 37 = .ok (.ifCond .ne 6, 3) := by decide +kernel
theorem dX4_ifMet_40 : decode cX4_ifMet 40 = .ok (.bipush (-2), 2) := by decide +kernel
theorem dX4_ifMet_42 : decode cX4_ifMet 42 = .ok (.ireturn, 1) := by decide +kernel
theorem dX4_ifMet_43 : decode cX4_ifMet 43 = .ok (.iload_n 1, 1) := by decide +kernel
theorem dX4_ifMet_44 : decode cX4_ifMet 44 = .ok (.iload_n 2, 1) := by decide +kernel
theorem dX4_ifMet_45 : decode cX4_ifMet 45 = .ok (.if_icmp .ne 6, 3) := by decide +kernel
theorem dX4_ifMet_48 : decode cX4_ifMet 48 = .ok (.bipush (-3), 2) := by decide +kernel
theorem dX4_ifMet_50 : decode cX4_ifMet 50 = .ok (.ireturn, 1) := by decide +kernel
theorem dX4_ifMet_51 : decode cX4_ifMet 51 = .ok (.aload_n 0, 1) := by decide +kernel
theorem dX4_ifMet_52 : decode cX4_ifMet 52 = .ok (.getfield 16, 3) := by decide +kernel
theorem dX4_ifMet_55 : decode cX4_ifMet 55 = .ok (.aload_n 0, 1) := by decide +kernel
theorem dX4_ifMet_56 : decode cX4_ifMet 56 = .ok (.getfield 10, 3) := by decide +kernel
theorem dX4_ifMet_59 : decode cX4_ifMet 59 = .ok (.invokevirtual 143, 3) := by decide +kernel
theorem dX4_ifMet_62 : decode cX4_ifMet 62 = .ok (.aload_n 0, 1) := by decide +kernel
theorem dX4_ifMet_63 : decode cX4_ifMet 63 = .ok (.getfield 16, 3) := by decide +kernel
theorem dX4_ifMet_66 : decode cX4_ifMet 66 = .ok (.iload_n 1, 1) := by decide +kernel
theorem dX4_ifMet_67 : decode cX4_ifMet 67 = .ok (.invokevirtual 45, 3) := by decide +kernel
theorem dX4_ifMet_70 : decode cX4_ifMet 70 = .ok (.astore 5, 2) := by decide +kernel
theorem dX4_ifMet_72 : decode cX4_ifMet 72 = .ok (.aload_n 0, 1) := by decide +kernel
theorem dX4_ifMet_73 : decode cX4_ifMet 73 = .ok (.getfield 16, 3) := by decide +kernel
theorem dX4_ifMet_76 : decode cX4_ifMet 76 = .ok (.iload_n 2, 1) := by decide +kernel
theorem dX4_ifMet_77 : decode cX4_ifMet 77 = .ok (.invokevirtual 45, 3) := by decide +kernel
theorem dX4_ifMet_80 : decode cX4_ifMet 80 = .ok (.astore 6, 2) := by decide +kernel
theorem dX4_ifMet_82 : decode cX4_ifMet 82 = .ok (.aload 5, 2) := by decide +kernel
theorem dX4_ifMet_84 : decode cX4_ifMet 84 = .ok (.ifnull 8, 3) := by decide +kernel
theorem dX4_ifMet_87 : decode cX4_ifMet 87 = .ok (.aload 6, 2) := by decide +kernel
theorem dX4_ifMet_89 : decode cX4_ifMet 89 = .ok (.ifnonnull 5, 3) := by decide +kernel
theorem dX4_ifMet_92 : decode cX4_ifMet 92 = .ok (.iconst (-1), 1) := by decide +kernel
theorem dX4_ifMet_93 : decode cX4_ifMet 93 = .ok (.ireturn, 1) := by decide +kernel
theorem dX4_ifMet_94 : decode cX4_ifMet 94 = .ok (.aload_n 0, 1) := by decide +kernel
theorem dX4_ifMet_95 : decode cX4_ifMet 95 = .ok (.getfield 16, 3) := by decide +kernel
theorem dX4_ifMet_98 : decode cX4_ifMet 98 = .ok (.aload 5, 2) := by decide +kernel
theorem dX4_ifMet_100 : decode cX4_ifMet 100 = .ok (.aload 6, 2) := by decide +kernel
theorem dX4_ifMet_102 : decode cX4_ifMet 102 = .ok (.iload_n 3, 1) := by decide +kernel
theorem dX4_ifMet_103 : decode cX4_ifMet 103 = .ok (.invokevirtual 98, 3) := by decide +kernel
theorem dX4_ifMet_106 : decode cX4_ifMet 106 = .ok (.istore 7, 2) := by decide +kernel
theorem dX4_ifMet_108 : decode cX4_ifMet 108 = .ok (.iload 4, 2) := by decide +kernel
theorem dX4_ifMet_110 : decode cX4_ifMet 110 = .ok (.tableswitch 53 0 2 #[26, 32, 38], 26) := by decide +kernel
theorem dX4_ifMet_136 : decode cX4_ifMet 136 = .ok (.iload 7, 2) := by decide +kernel
theorem dX4_ifMet_138 : decode cX4_ifMet 138 = .ok (.bipush 10, 2) := by decide +kernel
theorem dX4_ifMet_140 : decode cX4_ifMet 140 = .ok (.idiv, 1) := by decide +kernel
theorem dX4_ifMet_141 : decode cX4_ifMet 141 = .ok (.ireturn, 1) := by decide +kernel
theorem dX4_ifMet_142 : decode cX4_ifMet 142 = .ok (.iload 7, 2) := by decide +kernel
theorem dX4_ifMet_144 : decode cX4_ifMet 144 = .ok (.bipush 10, 2) := by decide +kernel
theorem dX4_ifMet_146 : decode cX4_ifMet 146 = .ok (.irem, 1) := by decide +kernel
theorem dX4_ifMet_147 : decode cX4_ifMet 147 = .ok (.ireturn, 1) := by decide +kernel
theorem dX4_ifMet_148 : decode cX4_ifMet 148 = .ok (.iload 7, 2) := by decide +kernel
theorem dX4_ifMet_150 : decode cX4_ifMet 150 = .ok (.bipush 10, 2) := by decide +kernel
theorem dX4_ifMet_152 : decode cX4_ifMet 152 = .ok (.irem, 1) := by decide +kernel
theorem dX4_ifMet_153 : decode cX4_ifMet 153 = .ok (.iload_n 3, 1) := by decide +kernel
theorem dX4_ifMet_154 : decode cX4_ifMet 154 = .ok (.if_icmp .ne 7, 3) := by decide +kernel
theorem dX4_ifMet_157 : decode cX4_ifMet 157 = .ok (.iconst 1, 1) := by decide +kernel
theorem dX4_ifMet_158 : decode cX4_ifMet 158 = .ok (.goto 4, 3) := by decide +kernel
theorem dX4_ifMet_161 : decode cX4_ifMet 161 = .ok (.iconst 0, 1) := by decide +kernel
theorem dX4_ifMet_162 : decode cX4_ifMet 162 = .ok (.ireturn, 1) := by decide +kernel
theorem dX4_ifMet_163 : decode cX4_ifMet 163 = .ok (.aload 5, 2) := by decide +kernel
theorem dX4_ifMet_165 : decode cX4_ifMet 165 = .ok (.aload 6, 2) := by decide +kernel
theorem dX4_ifMet_167 : decode cX4_ifMet 167 = .ok (.invokestatic 130, 3) := by decide +kernel
theorem dX4_ifMet_170 : decode cX4_ifMet 170 = .ok (.ireturn, 1) := by decide +kernel
theorem dX4_bestSayer_0 : decode cX4_bestSayer 0 = .ok (.aload_n 0, 1) := by decide +kernel
theorem dX4_bestSayer_1 : decode cX4_bestSayer 1 = .ok (.getfield 10, 3) := by decide +kernel
theorem dX4_bestSayer_4 : decode cX4_bestSayer 4 = .ok (.iload_n 1, 1) := by decide +kernel
theorem dX4_bestSayer_5 : decode cX4_bestSayer 5 = .ok (.invokevirtual 45, 3) := by decide +kernel
theorem dX4_bestSayer_8 : decode cX4_bestSayer 8 = .ok (.astore_n 2, 1) := by decide +kernel
theorem dX4_bestSayer_9 : decode cX4_bestSayer 9 = .ok (.aload_n 2, 1) := by decide +kernel
theorem dX4_bestSayer_10 : decode cX4_bestSayer 10 = .ok (.ifnonnull 5, 3) := by decide +kernel
theorem dX4_bestSayer_13 : decode cX4_bestSayer 13 = .ok (.iconst (-1), 1) := by decide +kernel
theorem dX4_bestSayer_14 : decode cX4_bestSayer 14 = .ok (.ireturn, 1) := by decide +kernel
theorem dX4_bestSayer_15 : decode cX4_bestSayer 15 = .ok (.bipush (-6), 2) := by decide +kernel
theorem dX4_bestSayer_17 : decode cX4_bestSayer 17 = .ok (.istore_n 3, 1) := by decide +kernel
theorem dX4_bestSayer_18 : decode cX4_bestSayer 18 = .ok (.iconst (-1), 1) := by decide +kernel
theorem dX4_bestSayer_19 : decode cX4_bestSayer 19 = .ok (.istore 4, 2) := by decide +kernel
theorem dX4_bestSayer_21 : decode cX4_bestSayer 21 = .ok (.iconst 0, 1) := by decide +kernel
theorem dX4_bestSayer_22 : decode cX4_bestSayer 22 = .ok (.istore 5, 2) := by decide +kernel
theorem dX4_bestSayer_24 : decode cX4_bestSayer 24 = .ok (.iload 5, 2) := by decide +kernel
theorem dX4_bestSayer_26 : decode cX4_bestSayer 26 = .ok (.bipush 8, 2) := by decide +kernel
theorem dX4_bestSayer_28 : decode cX4_bestSayer 28 = .ok (.if_icmp .ge 56, 3) := by decide +kernel
theorem dX4_bestSayer_31 : decode cX4_bestSayer 31 = .ok (.aload_n 0, 1) := by decide +kernel
theorem dX4_bestSayer_32 : decode cX4_bestSayer 32 = .ok (.getfield 10, 3) := by decide +kernel
theorem dX4_bestSayer_35 : decode cX4_bestSayer 35 = .ok (.iload 5, 2) := by decide +kernel
theorem dX4_bestSayer_37 : decode cX4_bestSayer 37 = .ok (.invokevirtual 45, 3) := by decide +kernel
theorem dX4_bestSayer_40 : decode cX4_bestSayer 40 = .ok (.astore 6, 2) := by decide +kernel
theorem dX4_bestSayer_42 : decode cX4_bestSayer 42 = .ok (.aload 6, 2) := by decide +kernel
theorem dX4_bestSayer_44 : decode cX4_bestSayer 44 = .ok (.ifnull 34, 3) := by decide +kernel
theorem dX4_bestSayer_47 : decode cX4_bestSayer 47 = .ok (.iload 5, 2) := by decide +kernel
theorem dX4_bestSayer_49 : decode cX4_bestSayer 49 = .ok (.iload_n 1, 1) := by decide +kernel
theorem dX4_bestSayer_50 : decode cX4_bestSayer 50 = .ok (.if_icmp .ne 6, 3) := by decide +kernel
theorem dX4_bestSayer_53 : decode cX4_bestSayer 53 = .ok (.goto 25, 3) := by decide +kernel
theorem dX4_bestSayer_56 : decode cX4_bestSayer 56 = .ok (.aload 6, 2) := by decide +kernel
theorem dX4_bestSayer_58 : decode cX4_bestSayer 58 = .ok (.aload_n 2, 1) := by decide +kernel
theorem dX4_bestSayer_59 : decode cX4_bestSayer 59 = .ok (.invokestatic 137, 3) := by decide +kernel
theorem dX4_bestSayer_62 : decode cX4_bestSayer 62 = .ok (.istore 7, 2) := by decide +kernel
theorem dX4_bestSayer_64 : decode cX4_bestSayer 64 = .ok (.iload 7, 2) := by decide +kernel
theorem dX4_bestSayer_66 : decode cX4_bestSayer 66 = .ok (.iload 4, 2) := by decide +kernel
theorem dX4_bestSayer_68 : decode cX4_bestSayer 68 = .ok (.if_icmp .le 10, 3) := by decide +kernel
theorem dX4_bestSayer_71 : decode cX4_bestSayer 71 = .ok (.iload 7, 2) := by decide +kernel
theorem dX4_bestSayer_73 : decode cX4_bestSayer 73 = .ok (.istore 4, 2) := by decide +kernel
theorem dX4_bestSayer_75 : decode cX4_bestSayer 75 = .ok (.iload 5, 2) := by decide +kernel
theorem dX4_bestSayer_77 : decode cX4_bestSayer 77 = .ok (.istore_n 3, 1) := by decide +kernel
theorem dX4_bestSayer_78 : decode cX4_bestSayer 78 = .ok (.iinc 5 1, 3) := by decide +kernel
theorem dX4_bestSayer_81 : decode cX4_bestSayer 81 = .ok (.goto (-57), 3) := by decide +kernel
theorem dX4_bestSayer_84 : decode cX4_bestSayer 84 = .ok (.iload_n 3, 1) := by decide +kernel
theorem dX4_bestSayer_85 : decode cX4_bestSayer 85 = .ok (.ireturn, 1) := by decide +kernel
theorem dX4_agreementByMeanings_0 : decode cX4_agreementByMeanings 0 = .ok (.iconst 0, 1) := by decide +kernel
theorem dX4_agreementByMeanings_1 : decode cX4_agreementByMeanings 1 = .ok (.istore_n 2, 1) := by decide +kernel
theorem dX4_agreementByMeanings_2 : decode cX4_agreementByMeanings 2 = .ok (.iconst 0, 1) := by decide +kernel
theorem dX4_agreementByMeanings_3 : decode cX4_agreementByMeanings 3 = .ok (.istore_n 3, 1) := by decide +kernel
theorem dX4_agreementByMeanings_4 : decode cX4_agreementByMeanings 4 = .ok (.iload_n 3, 1) := by decide +kernel
theorem dX4_agreementByMeanings_5 : decode cX4_agreementByMeanings 5 = .ok (.bipush 6, 2) := by decide +kernel
theorem dX4_agreementByMeanings_7 : decode cX4_agreementByMeanings 7 = .ok (.if_icmp .ge 36, 3) := by decide +kernel
theorem dX4_agreementByMeanings_10 : decode cX4_agreementByMeanings 10 = .ok (.aload_n 0, 1) := by decide +kernel
theorem dX4_agreementByMeanings_11 : decode cX4_agreementByMeanings 11 = .ok (.iload_n 3, 1) := by decide +kernel
theorem dX4_agreementByMeanings_12 : decode cX4_agreementByMeanings 12 = .ok (.invokevirtual 118, 3) := by decide +kernel
theorem dX4_agreementByMeanings_15 : decode cX4_agreementByMeanings 15 = .ok (.istore 4, 2) := by decide +kernel
theorem dX4_agreementByMeanings_17 : decode cX4_agreementByMeanings 17 = .ok (.iload 4, 2) := by decide +kernel
theorem dX4_agreementByMeanings_19 : decode cX4_agreementByMeanings 19 = .ok (.bipush (-6), 2) := by decide +kernel
theorem dX4_agreementByMeanings_21 : decode cX4_agreementByMeanings 21 = .ok (.if_icmp .eq 16, 3) := by decide +kernel
theorem dX4_agreementByMeanings_24 : decode cX4_agreementByMeanings 24 = .ok (.iload 4, 2) := by decide +kernel
theorem dX4_agreementByMeanings_26 : decode cX4_agreementByMeanings 26 = .ok (.aload_n 1, 1) := by decide +kernel
theorem dX4_agreementByMeanings_27 : decode cX4_agreementByMeanings 27 = .ok (.iload_n 3, 1) := by decide +kernel
theorem dX4_agreementByMeanings_28 : decode cX4_agreementByMeanings 28 = .ok (.invokevirtual 118, 3) := by decide +kernel
theorem dX4_agreementByMeanings_31 : decode cX4_agreementByMeanings 31 = .ok (.if_icmp .ne 6, 3) := by decide +kernel
theorem dX4_agreementByMeanings_34 : decode cX4_agreementByMeanings 34 = .ok (.iinc 2 1, 3) := by decide +kernel
theorem dX4_agreementByMeanings_37 : decode cX4_agreementByMeanings 37 = .ok (.iinc 3 1, 3) := by decide +kernel
theorem dX4_agreementByMeanings_40 : decode cX4_agreementByMeanings 40 = .ok (.goto (-36), 3) := by decide +kernel
theorem dX4_agreementByMeanings_43 : decode cX4_agreementByMeanings 43 = .ok (.iload_n 2, 1) := by decide +kernel
theorem dX4_agreementByMeanings_44 : decode cX4_agreementByMeanings 44 = .ok (.ireturn, 1) := by decide +kernel
theorem dX4_agreementByWords_0 : decode cX4_agreementByWords 0 = .ok (.iconst 0, 1) := by decide +kernel
theorem dX4_agreementByWords_1 : decode cX4_agreementByWords 1 = .ok (.istore_n 2, 1) := by decide +kernel
theorem dX4_agreementByWords_2 : decode cX4_agreementByWords 2 = .ok (.iconst 0, 1) := by decide +kernel
theorem dX4_agreementByWords_3 : decode cX4_agreementByWords 3 = .ok (.istore_n 3, 1) := by decide +kernel
theorem dX4_agreementByWords_4 : decode cX4_agreementByWords 4 = .ok (.iload_n 3, 1) := by decide +kernel
theorem dX4_agreementByWords_5 : decode cX4_agreementByWords 5 = .ok (.bipush 14, 2) := by decide +kernel
theorem dX4_agreementByWords_7 : decode cX4_agreementByWords 7 = .ok (.if_icmp .ge 48, 3) := by decide +kernel
theorem dX4_agreementByWords_10 : decode cX4_agreementByWords 10 = .ok (.iconst 0, 1) := by decide +kernel
theorem dX4_agreementByWords_11 : decode cX4_agreementByWords 11 = .ok (.istore 4, 2) := by decide +kernel
theorem dX4_agreementByWords_13 : decode cX4_agreementByWords 13 = .ok (.iload 4, 2) := by decide +kernel
theorem dX4_agreementByWords_15 : decode cX4_agreementByWords 15 = .ok (.bipush 6, 2) := by decide +kernel
theorem dX4_agreementByWords_17 : decode cX4_agreementByWords 17 = .ok (.if_icmp .ge 32, 3) := by decide +kernel
theorem dX4_agreementByWords_20 : decode cX4_agreementByWords 20 = .ok (.aload_n 0, 1) := by decide +kernel
theorem dX4_agreementByWords_21 : decode cX4_agreementByWords 21 = .ok (.iload 4, 2) := by decide +kernel
theorem dX4_agreementByWords_23 : decode cX4_agreementByWords 23 = .ok (.invokevirtual 118, 3) := by decide +kernel
theorem dX4_agreementByWords_26 : decode cX4_agreementByWords 26 = .ok (.iload_n 3, 1) := by decide +kernel
theorem dX4_agreementByWords_27 : decode cX4_agreementByWords 27 = .ok (.if_icmp .ne 16, 3) := by decide +kernel
theorem dX4_agreementByWords_30 : decode cX4_agreementByWords 30 = .ok (.aload_n 1, 1) := by decide +kernel
theorem dX4_agreementByWords_31 : decode cX4_agreementByWords 31 = .ok (.iload 4, 2) := by decide +kernel
theorem dX4_agreementByWords_33 : decode cX4_agreementByWords 33 = .ok (.invokevirtual 118, 3) := by decide +kernel
theorem dX4_agreementByWords_36 : decode cX4_agreementByWords 36 = .ok (.iload_n 3, 1) := by decide +kernel
theorem dX4_agreementByWords_37 : decode cX4_agreementByWords 37 = .ok (.if_icmp .ne 6, 3) := by decide +kernel
theorem dX4_agreementByWords_40 : decode cX4_agreementByWords 40 = .ok (.iinc 2 1, 3) := by decide +kernel
theorem dX4_agreementByWords_43 : decode cX4_agreementByWords 43 = .ok (.iinc 4 1, 3) := by decide +kernel
theorem dX4_agreementByWords_46 : decode cX4_agreementByWords 46 = .ok (.goto (-33), 3) := by decide +kernel
theorem dX4_agreementByWords_49 : decode cX4_agreementByWords 49 = .ok (.iinc 3 1, 3) := by decide +kernel
theorem dX4_agreementByWords_52 : decode cX4_agreementByWords 52 = .ok (.goto (-48), 3) := by decide +kernel
theorem dX4_agreementByWords_55 : decode cX4_agreementByWords 55 = .ok (.iload_n 2, 1) := by decide +kernel
theorem dX4_agreementByWords_56 : decode cX4_agreementByWords 56 = .ok (.ireturn, 1) := by decide +kernel
theorem dX4_understandingOf_0 : decode cX4_understandingOf 0 = .ok (.iconst 0, 1) := by decide +kernel
theorem dX4_understandingOf_1 : decode cX4_understandingOf 1 = .ok (.istore_n 2, 1) := by decide +kernel
theorem dX4_understandingOf_2 : decode cX4_understandingOf 2 = .ok (.iconst 0, 1) := by decide +kernel
theorem dX4_understandingOf_3 : decode cX4_understandingOf 3 = .ok (.istore_n 3, 1) := by decide +kernel
theorem dX4_understandingOf_4 : decode cX4_understandingOf 4 = .ok (.iload_n 3, 1) := by decide +kernel
theorem dX4_understandingOf_5 : decode cX4_understandingOf 5 = .ok (.bipush 6, 2) := by decide +kernel
theorem dX4_understandingOf_7 : decode cX4_understandingOf 7 = .ok (.if_icmp .ge 36, 3) := by decide +kernel
theorem dX4_understandingOf_10 : decode cX4_understandingOf 10 = .ok (.aload_n 0, 1) := by decide +kernel
theorem dX4_understandingOf_11 : decode cX4_understandingOf 11 = .ok (.iload_n 3, 1) := by decide +kernel
theorem dX4_understandingOf_12 : decode cX4_understandingOf 12 = .ok (.invokevirtual 118, 3) := by decide +kernel
theorem dX4_understandingOf_15 : decode cX4_understandingOf 15 = .ok (.istore 4, 2) := by decide +kernel
theorem dX4_understandingOf_17 : decode cX4_understandingOf 17 = .ok (.iload 4, 2) := by decide +kernel
theorem dX4_understandingOf_19 : decode cX4_understandingOf 19 = .ok (.bipush (-6), 2) := by decide +kernel
theorem dX4_understandingOf_21 : decode cX4_understandingOf 21 = .ok (.if_icmp .eq 16, 3) := by decide +kernel
theorem dX4_understandingOf_24 : decode cX4_understandingOf 24 = .ok (.aload_n 1, 1) := by decide +kernel
theorem dX4_understandingOf_25 : decode cX4_understandingOf 25 = .ok (.iload 4, 2) := by decide +kernel
theorem dX4_understandingOf_27 : decode cX4_understandingOf 27 = .ok (.invokevirtual 121, 3) := by decide +kernel
theorem dX4_understandingOf_30 : decode cX4_understandingOf 30 = .ok (.iload_n 3, 1) := by decide +kernel
theorem dX4_understandingOf_31 : decode cX4_understandingOf 31 = .ok (.if_icmp .ne 6, 3) := by decide +kernel
theorem dX4_understandingOf_34 : decode cX4_understandingOf 34 = .ok (.iinc 2 1, 3) := by decide +kernel
theorem dX4_understandingOf_37 : decode cX4_understandingOf 37 = .ok (.iinc 3 1, 3) := by decide +kernel
theorem dX4_understandingOf_40 : decode cX4_understandingOf 40 = .ok (.goto (-36), 3) := by decide +kernel
theorem dX4_understandingOf_43 : decode cX4_understandingOf 43 = .ok (.iload_n 2, 1) := by decide +kernel
theorem dX4_understandingOf_44 : decode cX4_understandingOf 44 = .ok (.ireturn, 1) := by decide +kernel
theorem dX4_isBelow_0 : decode cX4_isBelow 0 = .ok (.iload_n 0, 1) := by decide +kernel
theorem dX4_isBelow_1 : decode cX4_isBelow 1 = .ok (.ifCond .lt 12, 3) := by decide +kernel
theorem dX4_isBelow_4 : decode cX4_isBelow 4 = .ok (.iload_n 0, 1) := by decide +kernel
theorem dX4_isBelow_5 : decode cX4_isBelow 5 = .ok (.iload_n 1, 1) := by decide +kernel
theorem dX4_isBelow_6 : decode cX4_isBelow 6 = .ok (.if_icmp .ge 7, 3) := by decide +kernel
theorem dX4_isBelow_9 : decode cX4_isBelow 9 = .ok (.iconst 1, 1) := by decide +kernel
theorem dX4_isBelow_10 : decode cX4_isBelow 10 = .ok (.goto 4, 3) := by decide +kernel
theorem dX4_isBelow_13 : decode cX4_isBelow 13 = .ok (.iconst 0, 1) := by decide +kernel
theorem dX4_isBelow_14 : decode cX4_isBelow 14 = .ok (.ireturn, 1) := by decide +kernel
theorem dX4_isMeaning_0 : decode cX4_isMeaning 0 = .ok (.iload_n 0, 1) := by decide +kernel
theorem dX4_isMeaning_1 : decode cX4_isMeaning 1 = .ok (.ifCond .lt 13, 3) := by decide +kernel
theorem dX4_isMeaning_4 : decode cX4_isMeaning 4 = .ok (.iload_n 0, 1) := by decide +kernel
theorem dX4_isMeaning_5 : decode cX4_isMeaning 5 = .ok (.bipush 6, 2) := by decide +kernel
theorem dX4_isMeaning_7 : decode cX4_isMeaning 7 = .ok (.if_icmp .ge 7, 3) := by decide +kernel
theorem dX4_isMeaning_10 : decode cX4_isMeaning 10 = .ok (.iconst 1, 1) := by decide +kernel
theorem dX4_isMeaning_11 : decode cX4_isMeaning 11 = .ok (.goto 4, 3) := by decide +kernel
theorem dX4_isMeaning_14 : decode cX4_isMeaning 14 = .ok (.iconst 0, 1) := by decide +kernel
theorem dX4_isMeaning_15 : decode cX4_isMeaning 15 = .ok (.ireturn, 1) := by decide +kernel
theorem dX4_isWord_0 : decode cX4_isWord 0 = .ok (.iload_n 0, 1) := by decide +kernel
theorem dX4_isWord_1 : decode cX4_isWord 1 = .ok (.ifCond .lt 13, 3) := by decide +kernel
theorem dX4_isWord_4 : decode cX4_isWord 4 = .ok (.iload_n 0, 1) := by decide +kernel
theorem dX4_isWord_5 : decode cX4_isWord 5 = .ok (.bipush 14, 2) := by decide +kernel
theorem dX4_isWord_7 : decode cX4_isWord 7 = .ok (.if_icmp .ge 7, 3) := by decide +kernel
theorem dX4_isWord_10 : decode cX4_isWord 10 = .ok (.iconst 1, 1) := by decide +kernel
theorem dX4_isWord_11 : decode cX4_isWord 11 = .ok (.goto 4, 3) := by decide +kernel
theorem dX4_isWord_14 : decode cX4_isWord 14 = .ok (.iconst 0, 1) := by decide +kernel
theorem dX4_isWord_15 : decode cX4_isWord 15 = .ok (.ireturn, 1) := by decide +kernel
theorem dX4_leastOf_0 : decode cX4_leastOf 0 = .ok (.iload_n 0, 1) := by decide +kernel
theorem dX4_leastOf_1 : decode cX4_leastOf 1 = .ok (.lookupswitch 31 #[(0, 27), (2, 29)], 27) := by decide +kernel
theorem dX4_leastOf_28 : decode cX4_leastOf 28 = .ok (.iconst 1, 1) := by decide +kernel
theorem dX4_leastOf_29 : decode cX4_leastOf 29 = .ok (.ireturn, 1) := by decide +kernel
theorem dX4_leastOf_30 : decode cX4_leastOf 30 = .ok (.iconst 5, 1) := by decide +kernel
theorem dX4_leastOf_31 : decode cX4_leastOf 31 = .ok (.ireturn, 1) := by decide +kernel
theorem dX4_leastOf_32 : decode cX4_leastOf 32 = .ok (.iconst 0, 1) := by decide +kernel
theorem dX4_leastOf_33 : decode cX4_leastOf 33 = .ok (.ireturn, 1) := by decide +kernel
theorem dX4_mostOf_0 : decode cX4_mostOf 0 = .ok (.iload_n 0, 1) := by decide +kernel
theorem dX4_mostOf_1 : decode cX4_mostOf 1 = .ok (.lookupswitch 33 #[(2, 27), (3, 30)], 27) := by decide +kernel
theorem dX4_mostOf_28 : decode cX4_mostOf 28 = .ok (.bipush 99, 2) := by decide +kernel
theorem dX4_mostOf_30 : decode cX4_mostOf 30 = .ok (.ireturn, 1) := by decide +kernel
theorem dX4_mostOf_31 : decode cX4_mostOf 31 = .ok (.bipush 100, 2) := by decide +kernel
theorem dX4_mostOf_33 : decode cX4_mostOf 33 = .ok (.ireturn, 1) := by decide +kernel
theorem dX4_mostOf_34 : decode cX4_mostOf 34 = .ok (.bipush 9, 2) := by decide +kernel
theorem dX4_mostOf_36 : decode cX4_mostOf 36 = .ok (.ireturn, 1) := by decide +kernel
theorem dL_cell_0 : decode cL_cell 0 = .ok (.iload_n 1, 1) := by decide +kernel
theorem dL_cell_1 : decode cL_cell 1 = .ok (.aload_n 0, 1) := by decide +kernel
theorem dL_cell_2 : decode cL_cell 2 = .ok (.arraylength, 1) := by decide +kernel
theorem dL_cell_3 : decode cL_cell 3 = .ok (.if_icmp .ge 9, 3) := by decide +kernel
theorem dL_cell_6 : decode cL_cell 6 = .ok (.aload_n 0, 1) := by decide +kernel
theorem dL_cell_7 : decode cL_cell 7 = .ok (.iload_n 1, 1) := by decide +kernel
theorem dL_cell_8 : decode cL_cell 8 = .ok (.iaload, 1) := by decide +kernel
theorem dL_cell_9 : decode cL_cell 9 = .ok (.goto 12, 3) := by decide +kernel
theorem dL_cell_12 : decode cL_cell 12 = .ok (.ldc 7, 2) := by decide +kernel
theorem dL_cell_14 : decode cL_cell 14 = .ok (.iload_n 1, 1) := by decide +kernel
theorem dL_cell_15 : decode cL_cell 15 = .ok (.iconst 1, 1) := by decide +kernel
theorem dL_cell_16 : decode cL_cell 16 = .ok (.iadd, 1) := by decide +kernel
theorem dL_cell_17 : decode cL_cell 17 = .ok (.imul, 1) := by decide +kernel
theorem dL_cell_18 : decode cL_cell 18 = .ok (.ldc 8, 2) := by decide +kernel
theorem dL_cell_20 : decode cL_cell 20 = .ok (.iadd, 1) := by decide +kernel
theorem dL_cell_21 : decode cL_cell 21 = .ok (.ireturn, 1) := by decide +kernel
theorem dL_low_0 : decode cL_low 0 = .ok (.iload_n 0, 1) := by decide +kernel
theorem dL_low_1 : decode cL_low 1 = .ok (.ldc 9, 2) := by decide +kernel
theorem dL_low_3 : decode cL_low 3 = .ok (.iand, 1) := by decide +kernel
theorem dL_low_4 : decode cL_low 4 = .ok (.iload_n 1, 1) := by decide +kernel
theorem dL_low_5 : decode cL_low 5 = .ok (.irem, 1) := by decide +kernel
theorem dL_low_6 : decode cL_low 6 = .ok (.ireturn, 1) := by decide +kernel
theorem dL_row_0 : decode cL_row 0 = .ok (.iload_n 0, 1) := by decide +kernel
theorem dL_row_1 : decode cL_row 1 = .ok (.ifCond .ne 7, 3) := by decide +kernel
theorem dL_row_4 : decode cL_row 4 = .ok (.aload_n 1, 1) := by decide +kernel
theorem dL_row_5 : decode cL_row 5 = .ok (.goto 23, 3) := by decide +kernel
theorem dL_row_8 : decode cL_row 8 = .ok (.iload_n 0, 1) := by decide +kernel
theorem dL_row_9 : decode cL_row 9 = .ok (.iconst 1, 1) := by decide +kernel
theorem dL_row_10 : decode cL_row 10 = .ok (.if_icmp .ne 7, 3) := by decide +kernel
theorem dL_row_13 : decode cL_row 13 = .ok (.aload_n 2, 1) := by decide +kernel
theorem dL_row_14 : decode cL_row 14 = .ok (.goto 14, 3) := by decide +kernel
theorem dL_row_17 : decode cL_row 17 = .ok (.iload_n 0, 1) := by decide +kernel
theorem dL_row_18 : decode cL_row 18 = .ok (.iconst 2, 1) := by decide +kernel
theorem dL_row_19 : decode cL_row 19 = .ok (.if_icmp .ne 7, 3) := by decide +kernel
theorem dL_row_22 : decode cL_row 22 = .ok (.aload_n 3, 1) := by decide +kernel
theorem dL_row_23 : decode cL_row 23 = .ok (.goto 5, 3) := by decide +kernel
theorem dL_row_26 : decode cL_row 26 = .ok (.aload 4, 2) := by decide +kernel
theorem dL_row_28 : decode cL_row 28 = .ok (.areturn, 1) := by decide +kernel
theorem dL_draw_0 : decode cL_draw 0 = .ok (.aload_n 1, 1) := by decide +kernel
theorem dL_draw_1 : decode cL_draw 1 = .ok (.iconst 0, 1) := by decide +kernel
theorem dL_draw_2 : decode cL_draw 2 = .ok (.ldc2_w 10, 3) := by decide +kernel
theorem dL_draw_5 : decode cL_draw 5 = .ok (.aload_n 1, 1) := by decide +kernel
theorem dL_draw_6 : decode cL_draw 6 = .ok (.iconst 0, 1) := by decide +kernel
theorem dL_draw_7 : decode cL_draw 7 = .ok (.iaload, 1) := by decide +kernel
theorem dL_draw_8 : decode cL_draw 8 = .ok (.i2l, 1) := by decide +kernel
theorem dL_draw_9 : decode cL_draw 9 = .ok (.lmul, 1) := by decide +kernel
theorem dL_draw_10 : decode cL_draw 10 = .ok (.ldc2_w 12, 3) := by decide +kernel
theorem dL_draw_13 : decode cL_draw 13 = .ok (.ladd, 1) := by decide +kernel
theorem dL_draw_14 : decode cL_draw 14 = .ok (.ldc2_w 14, 3) := by decide +kernel
theorem dL_draw_17 : decode cL_draw 17 = .ok (.land, 1) := by decide +kernel
theorem dL_draw_18 : decode cL_draw 18 = .ok (.l2i, 1) := by decide +kernel
theorem dL_draw_19 : decode cL_draw 19 = .ok (.iastore, 1) := by decide +kernel
theorem dL_draw_20 : decode cL_draw 20 = .ok (.aload_n 1, 1) := by decide +kernel
theorem dL_draw_21 : decode cL_draw 21 = .ok (.iconst 0, 1) := by decide +kernel
theorem dL_draw_22 : decode cL_draw 22 = .ok (.iaload, 1) := by decide +kernel
theorem dL_draw_23 : decode cL_draw 23 = .ok (.iconst 4, 1) := by decide +kernel
theorem dL_draw_24 : decode cL_draw 24 = .ok (.ishr, 1) := by decide +kernel
theorem dL_draw_25 : decode cL_draw 25 = .ok (.iload_n 0, 1) := by decide +kernel
theorem dL_draw_26 : decode cL_draw 26 = .ok (.irem, 1) := by decide +kernel
theorem dL_draw_27 : decode cL_draw 27 = .ok (.ireturn, 1) := by decide +kernel
theorem dL_word_0 : decode cL_word 0 = .ok (.bipush (-6), 2) := by decide +kernel
theorem dL_word_2 : decode cL_word 2 = .ok (.istore_n 2, 1) := by decide +kernel
theorem dL_word_3 : decode cL_word 3 = .ok (.bipush 9, 2) := by decide +kernel
theorem dL_word_5 : decode cL_word 5 = .ok (.istore_n 3, 1) := by decide +kernel
theorem dL_word_6 : decode cL_word 6 = .ok (.iload_n 3, 1) := by decide +kernel
theorem dL_word_7 : decode cL_word 7 = .ok (.ifCond .lt 45, 3) := by decide +kernel
theorem dL_word_10 : decode cL_word 10 = .ok (.aload_n 1, 1) := by decide +kernel
theorem dL_word_11 : decode cL_word 11 = .ok (.bipush 10, 2) := by decide +kernel
theorem dL_word_13 : decode cL_word 13 = .ok (.iload_n 0, 1) := by decide +kernel
theorem dL_word_14 : decode cL_word 14 = .ok (.imul, 1) := by decide +kernel
theorem dL_word_15 : decode cL_word 15 = .ok (.iload_n 3, 1) := by decide +kernel
theorem dL_word_16 : decode cL_word 16 = .ok (.iadd, 1) := by decide +kernel
theorem dL_word_17 : decode cL_word 17 = .ok (.iaload, 1) := by decide +kernel
theorem dL_word_18 : decode cL_word 18 = .ok (.ifCond .le 28, 3) := by decide +kernel
theorem dL_word_21 : decode cL_word 21 = .ok (.iload_n 2, 1) := by decide +kernel
theorem dL_word_22 : decode cL_word 22 = .ok (.ifCond .lt 22, 3) := by decide +kernel
theorem dL_word_25 : decode cL_word 25 = .ok (.aload_n 1, 1) := by decide +kernel
theorem dL_word_26 : decode cL_word 26 = .ok (.bipush 10, 2) := by decide +kernel
theorem dL_word_28 : decode cL_word 28 = .ok (.iload_n 0, 1) := by decide +kernel
theorem dL_word_29 : decode cL_word 29 = .ok (.imul, 1) := by decide +kernel
theorem dL_word_30 : decode cL_word 30 = .ok (.iload_n 3, 1) := by decide +kernel
theorem dL_word_31 : decode cL_word 31 = .ok (.iadd, 1) := by decide +kernel
theorem dL_word_32 : decode cL_word 32 = .ok (.iaload, 1) := by decide +kernel
theorem dL_word_33 : decode cL_word 33 = .ok (.aload_n 1, 1) := by decide +kernel
theorem dL_word_34 : decode cL_word 34 = .ok (.bipush 10, 2) := by decide +kernel
theorem dL_word_36 : decode cL_word 36 = .ok (.iload_n 0, 1) := by decide +kernel
theorem dL_word_37 : decode cL_word 37 = .ok (.imul, 1) := by decide +kernel
theorem dL_word_38 : decode cL_word 38 = .ok (.iload_n 2, 1) := by decide +kernel
theorem dL_word_39 : decode cL_word 39 = .ok (.iadd, 1) := by decide +kernel
theorem dL_word_40 : decode cL_word 40 = .ok (.iaload, 1) := by decide +kernel
theorem dL_word_41 : decode cL_word 41 = .ok (.if_icmp .lt 5, 3) := by decide +kernel
theorem dL_word_44 : decode cL_word 44 = .ok (.iload_n 3, 1) := by decide +kernel
theorem dL_word_45 : decode cL_word 45 = .ok (.istore_n 2, 1) := by decide +kernel
theorem dL_word_46 : decode cL_word 46 = .ok (.iinc 3 (-1), 3) := by decide +kernel
theorem dL_word_49 : decode cL_word 49 = .ok (.goto (-43), 3) := by decide +kernel
theorem dL_word_52 : decode cL_word 52 = .ok (.iload_n 2, 1) := by decide +kernel
theorem dL_word_53 : decode cL_word 53 = .ok (.ireturn, 1) := by decide +kernel
theorem dL_heard_0 : decode cL_heard 0 = .ok (.bipush (-6), 2) := by decide +kernel
theorem dL_heard_2 : decode cL_heard 2 = .ok (.istore_n 2, 1) := by decide +kernel
theorem dL_heard_3 : decode cL_heard 3 = .ok (.iconst 5, 1) := by decide +kernel
theorem dL_heard_4 : decode cL_heard 4 = .ok (.istore_n 3, 1) := by decide +kernel
theorem dL_heard_5 : decode cL_heard 5 = .ok (.iload_n 3, 1) := by decide +kernel
theorem dL_heard_6 : decode cL_heard 6 = .ok (.ifCond .lt 51, 3) := by decide +kernel
theorem dL_heard_9 : decode cL_heard 9 = .ok (.iload_n 0, 1) := by decide +kernel
theorem dL_heard_10 : decode cL_heard 10 = .ok (.bipush 10, 2) := by decide +kernel
theorem dL_heard_12 : decode cL_heard 12 = .ok (.if_icmp .ge 45, 3) := by decide +kernel
theorem dL_heard_15 : decode cL_heard 15 = .ok (.aload_n 1, 1) := by decide +kernel
theorem dL_heard_16 : decode cL_heard 16 = .ok (.bipush 10, 2) := by decide +kernel
theorem dL_heard_18 : decode cL_heard 18 = .ok (.iload_n 3, 1) := by decide +kernel
theorem dL_heard_19 : decode cL_heard 19 = .ok (.imul, 1) := by decide +kernel
theorem dL_heard_20 : decode cL_heard 20 = .ok (.iload_n 0, 1) := by decide +kernel
theorem dL_heard_21 : decode cL_heard 21 = .ok (.iadd, 1) := by decide +kernel
theorem dL_heard_22 : decode cL_heard 22 = .ok (.iaload, 1) := by decide +kernel
theorem dL_heard_23 : decode cL_heard 23 = .ok (.ifCond .le 28, 3) := by decide +kernel
theorem dL_heard_26 : decode cL_heard 26 = .ok (.iload_n 2, 1) := by decide +kernel
theorem dL_heard_27 : decode cL_heard 27 = .ok (.ifCond .lt 22, 3) := by decide +kernel
theorem dL_heard_30 : decode cL_heard 30 = .ok (.aload_n 1, 1) := by decide +kernel
theorem dL_heard_31 : decode cL_heard 31 = .ok (.bipush 10, 2) := by decide +kernel
theorem dL_heard_33 : decode cL_heard 33 = .ok (.iload_n 3, 1) := by decide +kernel
theorem dL_heard_34 : decode cL_heard 34 = .ok (.imul, 1) := by decide +kernel
theorem dL_heard_35 : decode cL_heard 35 = .ok (.iload_n 0, 1) := by decide +kernel
theorem dL_heard_36 : decode cL_heard 36 = .ok (.iadd, 1) := by decide +kernel
theorem dL_heard_37 : decode cL_heard 37 = .ok (.iaload, 1) := by decide +kernel
theorem dL_heard_38 : decode cL_heard 38 = .ok (.aload_n 1, 1) := by decide +kernel
theorem dL_heard_39 : decode cL_heard 39 = .ok (.bipush 10, 2) := by decide +kernel
theorem dL_heard_41 : decode cL_heard 41 = .ok (.iload_n 2, 1) := by decide +kernel
theorem dL_heard_42 : decode cL_heard 42 = .ok (.imul, 1) := by decide +kernel
theorem dL_heard_43 : decode cL_heard 43 = .ok (.iload_n 0, 1) := by decide +kernel
theorem dL_heard_44 : decode cL_heard 44 = .ok (.iadd, 1) := by decide +kernel
theorem dL_heard_45 : decode cL_heard 45 = .ok (.iaload, 1) := by decide +kernel
theorem dL_heard_46 : decode cL_heard 46 = .ok (.if_icmp .lt 5, 3) := by decide +kernel
theorem dL_heard_49 : decode cL_heard 49 = .ok (.iload_n 3, 1) := by decide +kernel
theorem dL_heard_50 : decode cL_heard 50 = .ok (.istore_n 2, 1) := by decide +kernel
theorem dL_heard_51 : decode cL_heard 51 = .ok (.iinc 3 (-1), 3) := by decide +kernel
theorem dL_heard_54 : decode cL_heard 54 = .ok (.goto (-49), 3) := by decide +kernel
theorem dL_heard_57 : decode cL_heard 57 = .ok (.iload_n 2, 1) := by decide +kernel
theorem dL_heard_58 : decode cL_heard 58 = .ok (.ireturn, 1) := by decide +kernel
theorem dL_add_0 : decode cL_add 0 = .ok (.aload_n 3, 1) := by decide +kernel
theorem dL_add_1 : decode cL_add 1 = .ok (.bipush 10, 2) := by decide +kernel
theorem dL_add_3 : decode cL_add 3 = .ok (.iload_n 0, 1) := by decide +kernel
theorem dL_add_4 : decode cL_add 4 = .ok (.imul, 1) := by decide +kernel
theorem dL_add_5 : decode cL_add 5 = .ok (.iload_n 1, 1) := by decide +kernel
theorem dL_add_6 : decode cL_add 6 = .ok (.iadd, 1) := by decide +kernel
theorem dL_add_7 : decode cL_add 7 = .ok (.iaload, 1) := by decide +kernel
theorem dL_add_8 : decode cL_add 8 = .ok (.iload_n 2, 1) := by decide +kernel
theorem dL_add_9 : decode cL_add 9 = .ok (.iadd, 1) := by decide +kernel
theorem dL_add_10 : decode cL_add 10 = .ok (.istore 4, 2) := by decide +kernel
theorem dL_add_12 : decode cL_add 12 = .ok (.aload_n 3, 1) := by decide +kernel
theorem dL_add_13 : decode cL_add 13 = .ok (.bipush 10, 2) := by decide +kernel
theorem dL_add_15 : decode cL_add 15 = .ok (.iload_n 0, 1) := by decide +kernel
theorem dL_add_16 : decode cL_add 16 = .ok (.imul, 1) := by decide +kernel
theorem dL_add_17 : decode cL_add 17 = .ok (.iload_n 1, 1) := by decide +kernel
theorem dL_add_18 : decode cL_add 18 = .ok (.iadd, 1) := by decide +kernel
theorem dL_add_19 : decode cL_add 19 = .ok (.iload 4, 2) := by decide +kernel
theorem dL_add_21 : decode cL_add 21 = .ok (.ifCond .ge 7, 3) := by decide +kernel
theorem dL_add_24 : decode cL_add 24 = .ok (.iconst 0, 1) := by decide +kernel
theorem dL_add_25 : decode cL_add 25 = .ok (.goto 17, 3) := by decide +kernel
theorem dL_add_28 : decode cL_add 28 = .ok (.iload 4, 2) := by decide +kernel
theorem dL_add_30 : decode cL_add 30 = .ok (.bipush 99, 2) := by decide +kernel
theorem dL_add_32 : decode cL_add 32 = .ok (.if_icmp .le 8, 3) := by decide +kernel
theorem dL_add_35 : decode cL_add 35 = .ok (.bipush 99, 2) := by decide +kernel
theorem dL_add_37 : decode cL_add 37 = .ok (.goto 5, 3) := by decide +kernel
theorem dL_add_40 : decode cL_add 40 = .ok (.iload 4, 2) := by decide +kernel
theorem dL_add_42 : decode cL_add 42 = .ok (.iastore, 1) := by decide +kernel
theorem dL_add_43 : decode cL_add 43 = .ok (.return_, 1) := by decide +kernel
theorem dL_learns_0 : decode cL_learns 0 = .ok (.aload_n 1, 1) := by decide +kernel
theorem dL_learns_1 : decode cL_learns 1 = .ok (.iconst 5, 1) := by decide +kernel
theorem dL_learns_2 : decode cL_learns 2 = .ok (.iaload, 1) := by decide +kernel
theorem dL_learns_3 : decode cL_learns 3 = .ok (.aload_n 1, 1) := by decide +kernel
theorem dL_learns_4 : decode cL_learns 4 = .ok (.bipush 9, 2) := by decide +kernel
theorem dL_learns_6 : decode cL_learns 6 = .ok (.iload_n 0, 1) := by decide +kernel
theorem dL_learns_7 : decode cL_learns 7 = .ok (.iadd, 1) := by decide +kernel
theorem dL_learns_8 : decode cL_learns 8 = .ok (.iaload, 1) := by decide +kernel
theorem dL_learns_9 : decode cL_learns 9 = .ok (.bipush 20, 2) := by decide +kernel
theorem dL_learns_11 : decode cL_learns 11 = .ok (.idiv, 1) := by decide +kernel
theorem dL_learns_12 : decode cL_learns 12 = .ok (.isub, 1) := by decide +kernel
theorem dL_learns_13 : decode cL_learns 13 = .ok (.istore_n 2, 1) := by decide +kernel
theorem dL_learns_14 : decode cL_learns 14 = .ok (.iload_n 2, 1) := by decide +kernel
theorem dL_learns_15 : decode cL_learns 15 = .ok (.iconst 1, 1) := by decide +kernel
theorem dL_learns_16 : decode cL_learns 16 = .ok (.if_icmp .le 7, 3) := by decide +kernel
theorem dL_learns_19 : decode cL_learns 19 = .ok (.iload_n 2, 1) := by decide +kernel
theorem dL_learns_20 : decode cL_learns 20 = .ok (.goto 4, 3) := by decide +kernel
theorem dL_learns_23 : decode cL_learns 23 = .ok (.iconst 1, 1) := by decide +kernel
theorem dL_learns_24 : decode cL_learns 24 = .ok (.ireturn, 1) := by decide +kernel
theorem dL_meet_0 : decode cL_meet 0 = .ok (.iload_n 2, 1) := by decide +kernel
theorem dL_meet_1 : decode cL_meet 1 = .ok (.aload 4, 2) := by decide +kernel
theorem dL_meet_3 : decode cL_meet 3 = .ok (.invokestatic 16, 3) := by decide +kernel
theorem dL_meet_6 : decode cL_meet 6 = .ok (.istore 6, 2) := by decide +kernel
theorem dL_meet_8 : decode cL_meet 8 = .ok (.iload 6, 2) := by decide +kernel
theorem dL_meet_10 : decode cL_meet 10 = .ok (.aload 5, 2) := by decide +kernel
theorem dL_meet_12 : decode cL_meet 12 = .ok (.invokestatic 22, 3) := by decide +kernel
theorem dL_meet_15 : decode cL_meet 15 = .ok (.istore 7, 2) := by decide +kernel
theorem dL_meet_17 : decode cL_meet 17 = .ok (.iload 7, 2) := by decide +kernel
theorem dL_meet_19 : decode cL_meet 19 = .ok (.ifCond .ge 11, 3) := by decide +kernel
theorem dL_meet_22 : decode cL_meet 22 = .ok (.bipush 6, 2) := by decide +kernel
theorem dL_meet_24 : decode cL_meet 24 = .ok (.aload_n 3, 1) := by decide +kernel
theorem dL_meet_25 : decode cL_meet 25 = .ok (.invokestatic 25, 3) := by decide +kernel
theorem dL_meet_28 : decode cL_meet 28 = .ok (.istore 7, 2) := by decide +kernel
theorem dL_meet_30 : decode cL_meet 30 = .ok (.iload 7, 2) := by decide +kernel
theorem dL_meet_32 : decode cL_meet 32 = .ok (.iload_n 2, 1) := by decide +kernel
theorem dL_meet_33 : decode cL_meet 33 = .ok (.if_icmp .ne 121, 3) := by decide +kernel
theorem dL_meet_36 : decode cL_meet 36 = .ok (.iconst 0, 1) := by decide +kernel
theorem dL_meet_37 : decode cL_meet 37 = .ok (.istore 8, 2) := by decide +kernel
theorem dL_meet_39 : decode cL_meet 39 = .ok (.iload 8, 2) := by decide +kernel
theorem dL_meet_41 : decode cL_meet 41 = .ok (.bipush 10, 2) := by decide +kernel
theorem dL_meet_43 : decode cL_meet 43 = .ok (.if_icmp .ge 65, 3) := by decide +kernel
theorem dL_meet_46 : decode cL_meet 46 = .ok (.iload_n 2, 1) := by decide +kernel
theorem dL_meet_47 : decode cL_meet 47 = .ok (.iload 8, 2) := by decide +kernel
theorem dL_meet_49 : decode cL_meet 49 = .ok (.iload 8, 2) := by decide +kernel
theorem dL_meet_51 : decode cL_meet 51 = .ok (.iload 6, 2) := by decide +kernel
theorem dL_meet_53 : decode cL_meet 53 = .ok (.if_icmp .ne 11, 3) := by decide +kernel
theorem dL_meet_56 : decode cL_meet 56 = .ok (.iload_n 0, 1) := by decide +kernel
theorem dL_meet_57 : decode cL_meet 57 = .ok (.aload_n 3, 1) := by decide +kernel
theorem dL_meet_58 : decode cL_meet 58 = .ok (.invokestatic 28, 3) := by decide +kernel
theorem dL_meet_61 : decode cL_meet 61 = .ok (.goto 8, 3) := by decide +kernel
theorem dL_meet_64 : decode cL_meet 64 = .ok (.aload_n 3, 1) := by decide +kernel
theorem dL_meet_65 : decode cL_meet 65 = .ok (.bipush 6, 2) := by decide +kernel
theorem dL_meet_67 : decode cL_meet 67 = .ok (.iaload, 1) := by decide +kernel
theorem dL_meet_68 : decode cL_meet 68 = .ok (.ineg, 1) := by decide +kernel
theorem dL_meet_69 : decode cL_meet 69 = .ok (.aload 4, 2) := by decide +kernel
theorem dL_meet_71 : decode cL_meet 71 = .ok (.invokestatic 31, 3) := by decide +kernel
theorem dL_meet_74 : decode cL_meet 74 = .ok (.iload_n 2, 1) := by decide +kernel
theorem dL_meet_75 : decode cL_meet 75 = .ok (.iload 8, 2) := by decide +kernel
theorem dL_meet_77 : decode cL_meet 77 = .ok (.iload 8, 2) := by decide +kernel
theorem dL_meet_79 : decode cL_meet 79 = .ok (.iload 6, 2) := by decide +kernel
theorem dL_meet_81 : decode cL_meet 81 = .ok (.if_icmp .ne 11, 3) := by decide +kernel
theorem dL_meet_84 : decode cL_meet 84 = .ok (.iload_n 1, 1) := by decide +kernel
theorem dL_meet_85 : decode cL_meet 85 = .ok (.aload_n 3, 1) := by decide +kernel
theorem dL_meet_86 : decode cL_meet 86 = .ok (.invokestatic 28, 3) := by decide +kernel
theorem dL_meet_89 : decode cL_meet 89 = .ok (.goto 8, 3) := by decide +kernel
theorem dL_meet_92 : decode cL_meet 92 = .ok (.aload_n 3, 1) := by decide +kernel
theorem dL_meet_93 : decode cL_meet 93 = .ok (.bipush 6, 2) := by decide +kernel
theorem dL_meet_95 : decode cL_meet 95 = .ok (.iaload, 1) := by decide +kernel
theorem dL_meet_96 : decode cL_meet 96 = .ok (.ineg, 1) := by decide +kernel
theorem dL_meet_97 : decode cL_meet 97 = .ok (.aload 5, 2) := by decide +kernel
theorem dL_meet_99 : decode cL_meet 99 = .ok (.invokestatic 31, 3) := by decide +kernel
theorem dL_meet_102 : decode cL_meet 102 = .ok (.iinc 8 1, 3) := by decide +kernel
theorem dL_meet_105 : decode cL_meet 105 = .ok (.goto (-66), 3) := by decide +kernel
theorem dL_meet_108 : decode cL_meet 108 = .ok (.iconst 0, 1) := by decide +kernel
theorem dL_meet_109 : decode cL_meet 109 = .ok (.istore 8, 2) := by decide +kernel
theorem dL_meet_111 : decode cL_meet 111 = .ok (.iload 8, 2) := by decide +kernel
theorem dL_meet_113 : decode cL_meet 113 = .ok (.bipush 6, 2) := by decide +kernel
theorem dL_meet_115 : decode cL_meet 115 = .ok (.if_icmp .ge 29, 3) := by decide +kernel
theorem dL_meet_118 : decode cL_meet 118 = .ok (.iload 8, 2) := by decide +kernel
theorem dL_meet_120 : decode cL_meet 120 = .ok (.iload_n 2, 1) := by decide +kernel
theorem dL_meet_121 : decode cL_meet 121 = .ok (.if_icmp .eq 17, 3) := by decide +kernel
theorem dL_meet_124 : decode cL_meet 124 = .ok (.iload 8, 2) := by decide +kernel
theorem dL_meet_126 : decode cL_meet 126 = .ok (.iload 6, 2) := by decide +kernel
theorem dL_meet_128 : decode cL_meet 128 = .ok (.aload_n 3, 1) := by decide +kernel
theorem dL_meet_129 : decode cL_meet 129 = .ok (.bipush 6, 2) := by decide +kernel
theorem dL_meet_131 : decode cL_meet 131 = .ok (.iaload, 1) := by decide +kernel
theorem dL_meet_132 : decode cL_meet 132 = .ok (.ineg, 1) := by decide +kernel
theorem dL_meet_133 : decode cL_meet 133 = .ok (.aload 5, 2) := by decide +kernel
theorem dL_meet_135 : decode cL_meet 135 = .ok (.invokestatic 31, 3) := by decide +kernel
theorem dL_meet_138 : decode cL_meet 138 = .ok (.iinc 8 1, 3) := by decide +kernel
theorem dL_meet_141 : decode cL_meet 141 = .ok (.goto (-30), 3) := by decide +kernel
theorem dL_meet_144 : decode cL_meet 144 = .ok (.aload_n 3, 1) := by decide +kernel
theorem dL_meet_145 : decode cL_meet 145 = .ok (.iconst 2, 1) := by decide +kernel
theorem dL_meet_146 : decode cL_meet 146 = .ok (.dup2, 1) := by decide +kernel
theorem dL_meet_147 : decode cL_meet 147 = .ok (.iaload, 1) := by decide +kernel
theorem dL_meet_148 : decode cL_meet 148 = .ok (.iconst 1, 1) := by decide +kernel
theorem dL_meet_149 : decode cL_meet 149 = .ok (.iadd, 1) := by decide +kernel
theorem dL_meet_150 : decode cL_meet 150 = .ok (.iastore, 1) := by decide +kernel
theorem dL_meet_151 : decode cL_meet 151 = .ok (.goto 39, 3) := by decide +kernel
theorem dL_meet_154 : decode cL_meet 154 = .ok (.iload_n 2, 1) := by decide +kernel
theorem dL_meet_155 : decode cL_meet 155 = .ok (.iload 6, 2) := by decide +kernel
theorem dL_meet_157 : decode cL_meet 157 = .ok (.aload_n 3, 1) := by decide +kernel
theorem dL_meet_158 : decode cL_meet 158 = .ok (.bipush 6, 2) := by decide +kernel
theorem dL_meet_160 : decode cL_meet 160 = .ok (.iaload, 1) := by decide +kernel
theorem dL_meet_161 : decode cL_meet 161 = .ok (.ineg, 1) := by decide +kernel
theorem dL_meet_162 : decode cL_meet 162 = .ok (.aload 4, 2) := by decide +kernel
theorem dL_meet_164 : decode cL_meet 164 = .ok (.invokestatic 31, 3) := by decide +kernel
theorem dL_meet_167 : decode cL_meet 167 = .ok (.iload_n 2, 1) := by decide +kernel
theorem dL_meet_168 : decode cL_meet 168 = .ok (.iload 6, 2) := by decide +kernel
theorem dL_meet_170 : decode cL_meet 170 = .ok (.iconst 1, 1) := by decide +kernel
theorem dL_meet_171 : decode cL_meet 171 = .ok (.aload 5, 2) := by decide +kernel
theorem dL_meet_173 : decode cL_meet 173 = .ok (.invokestatic 31, 3) := by decide +kernel
theorem dL_meet_176 : decode cL_meet 176 = .ok (.iload 7, 2) := by decide +kernel
theorem dL_meet_178 : decode cL_meet 178 = .ok (.iload 6, 2) := by decide +kernel
theorem dL_meet_180 : decode cL_meet 180 = .ok (.aload_n 3, 1) := by decide +kernel
theorem dL_meet_181 : decode cL_meet 181 = .ok (.bipush 6, 2) := by decide +kernel
theorem dL_meet_183 : decode cL_meet 183 = .ok (.iaload, 1) := by decide +kernel
theorem dL_meet_184 : decode cL_meet 184 = .ok (.ineg, 1) := by decide +kernel
theorem dL_meet_185 : decode cL_meet 185 = .ok (.aload 5, 2) := by decide +kernel
theorem dL_meet_187 : decode cL_meet 187 = .ok (.invokestatic 31, 3) := by decide +kernel
theorem dL_meet_190 : decode cL_meet 190 = .ok (.aload_n 3, 1) := by decide +kernel
theorem dL_meet_191 : decode cL_meet 191 = .ok (.iconst 1, 1) := by decide +kernel
theorem dL_meet_192 : decode cL_meet 192 = .ok (.dup2, 1) := by decide +kernel
theorem dL_meet_193 : decode cL_meet 193 = .ok (.iaload, 1) := by decide +kernel
theorem dL_meet_194 : decode cL_meet 194 = .ok (.iconst 1, 1) := by decide +kernel
theorem dL_meet_195 : decode cL_meet 195 = .ok (.iadd, 1) := by decide +kernel
theorem dL_meet_196 : decode cL_meet 196 = .ok (.iastore, 1) := by decide +kernel
theorem dL_meet_197 : decode cL_meet 197 = .ok (.aload_n 3, 1) := by decide +kernel
theorem dL_meet_198 : decode cL_meet 198 = .ok (.bipush 13, 2) := by decide +kernel
theorem dL_meet_200 : decode cL_meet 200 = .ok (.iload_n 0, 1) := by decide +kernel
theorem dL_meet_201 : decode cL_meet 201 = .ok (.iadd, 1) := by decide +kernel
theorem dL_meet_202 : decode cL_meet 202 = .ok (.dup2, 1) := by decide +kernel
theorem dL_meet_203 : decode cL_meet 203 = .ok (.iaload, 1) := by decide +kernel
theorem dL_meet_204 : decode cL_meet 204 = .ok (.iconst 1, 1) := by decide +kernel
theorem dL_meet_205 : decode cL_meet 205 = .ok (.iadd, 1) := by decide +kernel
theorem dL_meet_206 : decode cL_meet 206 = .ok (.iastore, 1) := by decide +kernel
theorem dL_meet_207 : decode cL_meet 207 = .ok (.aload_n 3, 1) := by decide +kernel
theorem dL_meet_208 : decode cL_meet 208 = .ok (.bipush 13, 2) := by decide +kernel
theorem dL_meet_210 : decode cL_meet 210 = .ok (.iload_n 1, 1) := by decide +kernel
theorem dL_meet_211 : decode cL_meet 211 = .ok (.iadd, 1) := by decide +kernel
theorem dL_meet_212 : decode cL_meet 212 = .ok (.dup2, 1) := by decide +kernel
theorem dL_meet_213 : decode cL_meet 213 = .ok (.iaload, 1) := by decide +kernel
theorem dL_meet_214 : decode cL_meet 214 = .ok (.iconst 1, 1) := by decide +kernel
theorem dL_meet_215 : decode cL_meet 215 = .ok (.iadd, 1) := by decide +kernel
theorem dL_meet_216 : decode cL_meet 216 = .ok (.iastore, 1) := by decide +kernel
theorem dL_meet_217 : decode cL_meet 217 = .ok (.bipush 10, 2) := by decide +kernel
theorem dL_meet_219 : decode cL_meet 219 = .ok (.iload 6, 2) := by decide +kernel
theorem dL_meet_221 : decode cL_meet 221 = .ok (.imul, 1) := by decide +kernel
theorem dL_meet_222 : decode cL_meet 222 = .ok (.iload 7, 2) := by decide +kernel
theorem dL_meet_224 : decode cL_meet 224 = .ok (.iadd, 1) := by decide +kernel
theorem dL_meet_225 : decode cL_meet 225 = .ok (.ireturn, 1) := by decide +kernel
theorem dL_same_0 : decode cL_same 0 = .ok (.iconst 0, 1) := by decide +kernel
theorem dL_same_1 : decode cL_same 1 = .ok (.istore 6, 2) := by decide +kernel
theorem dL_same_3 : decode cL_same 3 = .ok (.iconst 0, 1) := by decide +kernel
theorem dL_same_4 : decode cL_same 4 = .ok (.istore 7, 2) := by decide +kernel
theorem dL_same_6 : decode cL_same 6 = .ok (.iconst 0, 1) := by decide +kernel
theorem dL_same_7 : decode cL_same 7 = .ok (.istore 8, 2) := by decide +kernel
theorem dL_same_9 : decode cL_same 9 = .ok (.iload 8, 2) := by decide +kernel
theorem dL_same_11 : decode cL_same 11 = .ok (.iconst 4, 1) := by decide +kernel
theorem dL_same_12 : decode cL_same 12 = .ok (.if_icmp .ge 606, 3) := by decide +kernel
theorem dL_same_15 : decode cL_same 15 = .ok (.iload 8, 2) := by decide +kernel
theorem dL_same_17 : decode cL_same 17 = .ok (.aload_n 2, 1) := by decide +kernel
theorem dL_same_18 : decode cL_same 18 = .ok (.aload_n 3, 1) := by decide +kernel
theorem dL_same_19 : decode cL_same 19 = .ok (.aload 4, 2) := by decide +kernel
theorem dL_same_21 : decode cL_same 21 = .ok (.aload 5, 2) := by decide +kernel
theorem dL_same_23 : decode cL_same 23 = .ok (.invokestatic 35, 3) := by decide +kernel
theorem dL_same_26 : decode cL_same 26 = .ok (.astore 9, 2) := by decide +kernel
theorem dL_same_28 : decode cL_same 28 = .ok (.aload_n 1, 1) := by decide +kernel
theorem dL_same_29 : decode cL_same 29 = .ok (.bipush 9, 2) := by decide +kernel
theorem dL_same_31 : decode cL_same 31 = .ok (.iload 8, 2) := by decide +kernel
theorem dL_same_33 : decode cL_same 33 = .ok (.iadd, 1) := by decide +kernel
theorem dL_same_34 : decode cL_same 34 = .ok (.iaload, 1) := by decide +kernel
theorem dL_same_35 : decode cL_same 35 = .ok (.ifCond .ge 27, 3) := by decide +kernel
theorem dL_same_38 : decode cL_same 38 = .ok (.aload_n 0, 1) := by decide +kernel
theorem dL_same_39 : decode cL_same 39 = .ok (.iload 8, 2) := by decide +kernel
theorem dL_same_41 : decode cL_same 41 = .ok (.iconst 0, 1) := by decide +kernel
theorem dL_same_42 : decode cL_same 42 = .ok (.invokevirtual 39, 3) := by decide +kernel
theorem dL_same_45 : decode cL_same 45 = .ok (.iconst (-1), 1) := by decide +kernel
theorem dL_same_46 : decode cL_same 46 = .ok (.if_icmp .ne 14, 3) := by decide +kernel
theorem dL_same_49 : decode cL_same 49 = .ok (.aload_n 0, 1) := by decide +kernel
theorem dL_same_50 : decode cL_same 50 = .ok (.iload 8, 2) := by decide +kernel
theorem dL_same_52 : decode cL_same 52 = .ok (.iconst 0, 1) := by decide +kernel
theorem dL_same_53 : decode cL_same 53 = .ok (.invokevirtual 45, 3) := by decide +kernel
theorem dL_same_56 : decode cL_same 56 = .ok (.iconst (-1), 1) := by decide +kernel
theorem dL_same_57 : decode cL_same 57 = .ok (.if_icmp .eq 555, 3) := by decide +kernel
theorem dL_same_60 : decode cL_same 60 = .ok (.iconst 0, 1) := by decide +kernel
theorem dL_same_61 : decode cL_same 61 = .ok (.ireturn, 1) := by decide +kernel
theorem dL_same_62 : decode cL_same 62 = .ok (.iinc 6 1, 3) := by decide +kernel
theorem dL_same_65 : decode cL_same 65 = .ok (.iconst 0, 1) := by decide +kernel
theorem dL_same_66 : decode cL_same 66 = .ok (.istore 10, 2) := by decide +kernel
theorem dL_same_68 : decode cL_same 68 = .ok (.iconst 0, 1) := by decide +kernel
theorem dL_same_69 : decode cL_same 69 = .ok (.istore 11, 2) := by decide +kernel
theorem dL_same_71 : decode cL_same 71 = .ok (.iconst 0, 1) := by decide +kernel
theorem dL_same_72 : decode cL_same 72 = .ok (.istore 12, 2) := by decide +kernel
theorem dL_same_74 : decode cL_same 74 = .ok (.iload 12, 2) := by decide +kernel
theorem dL_same_76 : decode cL_same 76 = .ok (.bipush 6, 2) := by decide +kernel
theorem dL_same_78 : decode cL_same 78 = .ok (.if_icmp .ge 171, 3) := by decide +kernel
theorem dL_same_81 : decode cL_same 81 = .ok (.iload 12, 2) := by decide +kernel
theorem dL_same_83 : decode cL_same 83 = .ok (.aload 9, 2) := by decide +kernel
theorem dL_same_85 : decode cL_same 85 = .ok (.invokestatic 16, 3) := by decide +kernel
theorem dL_same_88 : decode cL_same 88 = .ok (.istore 13, 2) := by decide +kernel
theorem dL_same_90 : decode cL_same 90 = .ok (.iload 10, 2) := by decide +kernel
theorem dL_same_92 : decode cL_same 92 = .ok (.iload 13, 2) := by decide +kernel
theorem dL_same_94 : decode cL_same 94 = .ok (.ifCond .ge 7, 3) := by decide +kernel
theorem dL_same_97 : decode cL_same 97 = .ok (.iconst 0, 1) := by decide +kernel
theorem dL_same_98 : decode cL_same 98 = .ok (.goto 4, 3) := by decide +kernel
theorem dL_same_101 : decode cL_same 101 = .ok (.iconst 1, 1) := by decide +kernel
theorem dL_same_102 : decode cL_same 102 = .ok (.iadd, 1) := by decide +kernel
theorem dL_same_103 : decode cL_same 103 = .ok (.istore 10, 2) := by decide +kernel
theorem dL_same_105 : decode cL_same 105 = .ok (.iconst 0, 1) := by decide +kernel
theorem dL_same_106 : decode cL_same 106 = .ok (.istore 14, 2) := by decide +kernel
theorem dL_same_108 : decode cL_same 108 = .ok (.iload 14, 2) := by decide +kernel
theorem dL_same_110 : decode cL_same 110 = .ok (.iload 12, 2) := by decide +kernel
theorem dL_same_112 : decode cL_same 112 = .ok (.if_icmp .ge 36, 3) := by decide +kernel
theorem dL_same_115 : decode cL_same 115 = .ok (.iload 11, 2) := by decide +kernel
theorem dL_same_117 : decode cL_same 117 = .ok (.iload 13, 2) := by decide +kernel
theorem dL_same_119 : decode cL_same 119 = .ok (.ifCond .lt 19, 3) := by decide +kernel
theorem dL_same_122 : decode cL_same 122 = .ok (.iload 14, 2) := by decide +kernel
theorem dL_same_124 : decode cL_same 124 = .ok (.aload 9, 2) := by decide +kernel
theorem dL_same_126 : decode cL_same 126 = .ok (.invokestatic 16, 3) := by decide +kernel
theorem dL_same_129 : decode cL_same 129 = .ok (.iload 13, 2) := by decide +kernel
theorem dL_same_131 : decode cL_same 131 = .ok (.if_icmp .ne 7, 3) := by decide +kernel
theorem dL_same_134 : decode cL_same 134 = .ok (.iconst 1, 1) := by decide +kernel
theorem dL_same_135 : decode cL_same 135 = .ok (.goto 4, 3) := by decide +kernel
theorem dL_same_138 : decode cL_same 138 = .ok (.iconst 0, 1) := by decide +kernel
theorem dL_same_139 : decode cL_same 139 = .ok (.iadd, 1) := by decide +kernel
theorem dL_same_140 : decode cL_same 140 = .ok (.istore 11, 2) := by decide +kernel
theorem dL_same_142 : decode cL_same 142 = .ok (.iinc 14 1, 3) := by decide +kernel
theorem dL_same_145 : decode cL_same 145 = .ok (.goto (-37), 3) := by decide +kernel
theorem dL_same_148 : decode cL_same 148 = .ok (.aload_n 0, 1) := by decide +kernel
theorem dL_same_149 : decode cL_same 149 = .ok (.iload 8, 2) := by decide +kernel
theorem dL_same_151 : decode cL_same 151 = .ok (.iload 12, 2) := by decide +kernel
theorem dL_same_153 : decode cL_same 153 = .ok (.invokevirtual 45, 3) := by decide +kernel
theorem dL_same_156 : decode cL_same 156 = .ok (.iload 13, 2) := by decide +kernel
theorem dL_same_158 : decode cL_same 158 = .ok (.if_icmp .eq 5, 3) := by decide +kernel
theorem dL_same_161 : decode cL_same 161 = .ok (.iconst 0, 1) := by decide +kernel
theorem dL_same_162 : decode cL_same 162 = .ok (.ireturn, 1) := by decide +kernel
theorem dL_same_163 : decode cL_same 163 = .ok (.iconst 0, 1) := by decide +kernel
theorem dL_same_164 : decode cL_same 164 = .ok (.istore 14, 2) := by decide +kernel
theorem dL_same_166 : decode cL_same 166 = .ok (.iload 14, 2) := by decide +kernel
theorem dL_same_168 : decode cL_same 168 = .ok (.bipush 14, 2) := by decide +kernel
theorem dL_same_170 : decode cL_same 170 = .ok (.if_icmp .ge 73, 3) := by decide +kernel
theorem dL_same_173 : decode cL_same 173 = .ok (.iload 7, 2) := by decide +kernel
theorem dL_same_175 : decode cL_same 175 = .ok (.iload 14, 2) := by decide +kernel
theorem dL_same_177 : decode cL_same 177 = .ok (.bipush 10, 2) := by decide +kernel
theorem dL_same_179 : decode cL_same 179 = .ok (.if_icmp .ge 17, 3) := by decide +kernel
theorem dL_same_182 : decode cL_same 182 = .ok (.aload 9, 2) := by decide +kernel
theorem dL_same_184 : decode cL_same 184 = .ok (.bipush 10, 2) := by decide +kernel
theorem dL_same_186 : decode cL_same 186 = .ok (.iload 12, 2) := by decide +kernel
theorem dL_same_188 : decode cL_same 188 = .ok (.imul, 1) := by decide +kernel
theorem dL_same_189 : decode cL_same 189 = .ok (.iload 14, 2) := by decide +kernel
theorem dL_same_191 : decode cL_same 191 = .ok (.iadd, 1) := by decide +kernel
theorem dL_same_192 : decode cL_same 192 = .ok (.iaload, 1) := by decide +kernel
theorem dL_same_193 : decode cL_same 193 = .ok (.goto 4, 3) := by decide +kernel
theorem dL_same_196 : decode cL_same 196 = .ok (.iconst 0, 1) := by decide +kernel
theorem dL_same_197 : decode cL_same 197 = .ok (.iadd, 1) := by decide +kernel
theorem dL_same_198 : decode cL_same 198 = .ok (.istore 7, 2) := by decide +kernel
theorem dL_same_200 : decode cL_same 200 = .ok (.aload_n 0, 1) := by decide +kernel
theorem dL_same_201 : decode cL_same 201 = .ok (.iload 8, 2) := by decide +kernel
theorem dL_same_203 : decode cL_same 203 = .ok (.iload 12, 2) := by decide +kernel
theorem dL_same_205 : decode cL_same 205 = .ok (.iload 14, 2) := by decide +kernel
theorem dL_same_207 : decode cL_same 207 = .ok (.invokevirtual 48, 3) := by decide +kernel
theorem dL_same_210 : decode cL_same 210 = .ok (.iload 14, 2) := by decide +kernel
theorem dL_same_212 : decode cL_same 212 = .ok (.bipush 10, 2) := by decide +kernel
theorem dL_same_214 : decode cL_same 214 = .ok (.if_icmp .ge 17, 3) := by decide +kernel
theorem dL_same_217 : decode cL_same 217 = .ok (.aload 9, 2) := by decide +kernel
theorem dL_same_219 : decode cL_same 219 = .ok (.bipush 10, 2) := by decide +kernel
theorem dL_same_221 : decode cL_same 221 = .ok (.iload 12, 2) := by decide +kernel
theorem dL_same_223 : decode cL_same 223 = .ok (.imul, 1) := by decide +kernel
theorem dL_same_224 : decode cL_same 224 = .ok (.iload 14, 2) := by decide +kernel
theorem dL_same_226 : decode cL_same 226 = .ok (.iadd, 1) := by decide +kernel
theorem dL_same_227 : decode cL_same 227 = .ok (.iaload, 1) := by decide +kernel
theorem dL_same_228 : decode cL_same 228 = .ok (.goto 4, 3) := by decide +kernel
theorem dL_same_231 : decode cL_same 231 = .ok (.iconst 0, 1) := by decide +kernel
theorem dL_same_232 : decode cL_same 232 = .ok (.if_icmp .eq 5, 3) := by decide +kernel
theorem dL_same_235 : decode cL_same 235 = .ok (.iconst 0, 1) := by decide +kernel
theorem dL_same_236 : decode cL_same 236 = .ok (.ireturn, 1) := by decide +kernel
theorem dL_same_237 : decode cL_same 237 = .ok (.iinc 14 1, 3) := by decide +kernel
theorem dL_same_240 : decode cL_same 240 = .ok (.goto (-74), 3) := by decide +kernel
theorem dL_same_243 : decode cL_same 243 = .ok (.iinc 12 1, 3) := by decide +kernel
theorem dL_same_246 : decode cL_same 246 = .ok (.goto (-172), 3) := by decide +kernel
theorem dL_same_249 : decode cL_same 249 = .ok (.iconst 0, 1) := by decide +kernel
theorem dL_same_250 : decode cL_same 250 = .ok (.istore 12, 2) := by decide +kernel
theorem dL_same_252 : decode cL_same 252 = .ok (.iload 12, 2) := by decide +kernel
theorem dL_same_254 : decode cL_same 254 = .ok (.bipush 14, 2) := by decide +kernel
theorem dL_same_256 : decode cL_same 256 = .ok (.if_icmp .ge 29, 3) := by decide +kernel
theorem dL_same_259 : decode cL_same 259 = .ok (.aload_n 0, 1) := by decide +kernel
theorem dL_same_260 : decode cL_same 260 = .ok (.iload 8, 2) := by decide +kernel
theorem dL_same_262 : decode cL_same 262 = .ok (.iload 12, 2) := by decide +kernel
theorem dL_same_264 : decode cL_same 264 = .ok (.invokevirtual 52, 3) := by decide +kernel
theorem dL_same_267 : decode cL_same 267 = .ok (.iload 12, 2) := by decide +kernel
theorem dL_same_269 : decode cL_same 269 = .ok (.aload 9, 2) := by decide +kernel
theorem dL_same_271 : decode cL_same 271 = .ok (.invokestatic 22, 3) := by decide +kernel
theorem dL_same_274 : decode cL_same 274 = .ok (.if_icmp .eq 5, 3) := by decide +kernel
theorem dL_same_277 : decode cL_same 277 = .ok (.iconst 0, 1) := by decide +kernel
theorem dL_same_278 : decode cL_same 278 = .ok (.ireturn, 1) := by decide +kernel
theorem dL_same_279 : decode cL_same 279 = .ok (.iinc 12 1, 3) := by decide +kernel
theorem dL_same_282 : decode cL_same 282 = .ok (.goto (-30), 3) := by decide +kernel
theorem dL_same_285 : decode cL_same 285 = .ok (.aload_n 0, 1) := by decide +kernel
theorem dL_same_286 : decode cL_same 286 = .ok (.iload 8, 2) := by decide +kernel
theorem dL_same_288 : decode cL_same 288 = .ok (.iconst 0, 1) := by decide +kernel
theorem dL_same_289 : decode cL_same 289 = .ok (.invokevirtual 39, 3) := by decide +kernel
theorem dL_same_292 : decode cL_same 292 = .ok (.aload_n 1, 1) := by decide +kernel
theorem dL_same_293 : decode cL_same 293 = .ok (.bipush 9, 2) := by decide +kernel
theorem dL_same_295 : decode cL_same 295 = .ok (.iload 8, 2) := by decide +kernel
theorem dL_same_297 : decode cL_same 297 = .ok (.iadd, 1) := by decide +kernel
theorem dL_same_298 : decode cL_same 298 = .ok (.iaload, 1) := by decide +kernel
theorem dL_same_299 : decode cL_same 299 = .ok (.if_icmp .ne 60, 3) := by decide +kernel
theorem dL_same_302 : decode cL_same 302 = .ok (.aload_n 0, 1) := by decide +kernel
theorem dL_same_303 : decode cL_same 303 = .ok (.iload 8, 2) := by decide +kernel
theorem dL_same_305 : decode cL_same 305 = .ok (.iconst 1, 1) := by decide +kernel
theorem dL_same_306 : decode cL_same 306 = .ok (.invokevirtual 39, 3) := by decide +kernel
theorem dL_same_309 : decode cL_same 309 = .ok (.iload 8, 2) := by decide +kernel
theorem dL_same_311 : decode cL_same 311 = .ok (.aload_n 1, 1) := by decide +kernel
theorem dL_same_312 : decode cL_same 312 = .ok (.invokestatic 28, 3) := by decide +kernel
theorem dL_same_315 : decode cL_same 315 = .ok (.if_icmp .ne 44, 3) := by decide +kernel
theorem dL_same_318 : decode cL_same 318 = .ok (.aload_n 0, 1) := by decide +kernel
theorem dL_same_319 : decode cL_same 319 = .ok (.iload 8, 2) := by decide +kernel
theorem dL_same_321 : decode cL_same 321 = .ok (.iconst 2, 1) := by decide +kernel
theorem dL_same_322 : decode cL_same 322 = .ok (.invokevirtual 39, 3) := by decide +kernel
theorem dL_same_325 : decode cL_same 325 = .ok (.iload 10, 2) := by decide +kernel
theorem dL_same_327 : decode cL_same 327 = .ok (.if_icmp .ne 32, 3) := by decide +kernel
theorem dL_same_330 : decode cL_same 330 = .ok (.aload_n 0, 1) := by decide +kernel
theorem dL_same_331 : decode cL_same 331 = .ok (.iload 8, 2) := by decide +kernel
theorem dL_same_333 : decode cL_same 333 = .ok (.iconst 3, 1) := by decide +kernel
theorem dL_same_334 : decode cL_same 334 = .ok (.invokevirtual 39, 3) := by decide +kernel
theorem dL_same_337 : decode cL_same 337 = .ok (.iload 11, 2) := by decide +kernel
theorem dL_same_339 : decode cL_same 339 = .ok (.if_icmp .ne 20, 3) := by decide +kernel
theorem dL_same_342 : decode cL_same 342 = .ok (.aload_n 0, 1) := by decide +kernel
theorem dL_same_343 : decode cL_same 343 = .ok (.iload 8, 2) := by decide +kernel
theorem dL_same_345 : decode cL_same 345 = .ok (.iconst 4, 1) := by decide +kernel
theorem dL_same_346 : decode cL_same 346 = .ok (.invokevirtual 39, 3) := by decide +kernel
theorem dL_same_349 : decode cL_same 349 = .ok (.aload_n 1, 1) := by decide +kernel
theorem dL_same_350 : decode cL_same 350 = .ok (.bipush 13, 2) := by decide +kernel
theorem dL_same_352 : decode cL_same 352 = .ok (.iload 8, 2) := by decide +kernel
theorem dL_same_354 : decode cL_same 354 = .ok (.iadd, 1) := by decide +kernel
theorem dL_same_355 : decode cL_same 355 = .ok (.iaload, 1) := by decide +kernel
theorem dL_same_356 : decode cL_same 356 = .ok (.if_icmp .eq 5, 3) := by decide +kernel
theorem dL_same_359 : decode cL_same 359 = .ok (.iconst 0, 1) := by decide +kernel
theorem dL_same_360 : decode cL_same 360 = .ok (.ireturn, 1) := by decide +kernel
theorem dL_same_361 : decode cL_same 361 = .ok (.bipush (-6), 2) := by decide +kernel
theorem dL_same_363 : decode cL_same 363 = .ok (.istore 12, 2) := by decide +kernel
theorem dL_same_365 : decode cL_same 365 = .ok (.iconst (-1), 1) := by decide +kernel
theorem dL_same_366 : decode cL_same 366 = .ok (.istore 13, 2) := by decide +kernel
theorem dL_same_368 : decode cL_same 368 = .ok (.iconst 0, 1) := by decide +kernel
theorem dL_same_369 : decode cL_same 369 = .ok (.istore 14, 2) := by decide +kernel
theorem dL_same_371 : decode cL_same 371 = .ok (.iload 14, 2) := by decide +kernel
theorem dL_same_373 : decode cL_same 373 = .ok (.iconst 4, 1) := by decide +kernel
theorem dL_same_374 : decode cL_same 374 = .ok (.if_icmp .ge 225, 3) := by decide +kernel
theorem dL_same_377 : decode cL_same 377 = .ok (.aload_n 1, 1) := by decide +kernel
theorem dL_same_378 : decode cL_same 378 = .ok (.bipush 9, 2) := by decide +kernel
theorem dL_same_380 : decode cL_same 380 = .ok (.iload 14, 2) := by decide +kernel
theorem dL_same_382 : decode cL_same 382 = .ok (.iadd, 1) := by decide +kernel
theorem dL_same_383 : decode cL_same 383 = .ok (.iaload, 1) := by decide +kernel
theorem dL_same_384 : decode cL_same 384 = .ok (.ifCond .ge 6, 3) := by decide +kernel
theorem dL_same_387 : decode cL_same 387 = .ok (.goto 206, 3) := by decide +kernel
theorem dL_same_390 : decode cL_same 390 = .ok (.iload 14, 2) := by decide +kernel
theorem dL_same_392 : decode cL_same 392 = .ok (.aload_n 2, 1) := by decide +kernel
theorem dL_same_393 : decode cL_same 393 = .ok (.aload_n 3, 1) := by decide +kernel
theorem dL_same_394 : decode cL_same 394 = .ok (.aload 4, 2) := by decide +kernel
theorem dL_same_396 : decode cL_same 396 = .ok (.aload 5, 2) := by decide +kernel
theorem dL_same_398 : decode cL_same 398 = .ok (.invokestatic 35, 3) := by decide +kernel
theorem dL_same_401 : decode cL_same 401 = .ok (.astore 15, 2) := by decide +kernel
theorem dL_same_403 : decode cL_same 403 = .ok (.iconst 0, 1) := by decide +kernel
theorem dL_same_404 : decode cL_same 404 = .ok (.istore 16, 2) := by decide +kernel
theorem dL_same_406 : decode cL_same 406 = .ok (.iconst 0, 1) := by decide +kernel
theorem dL_same_407 : decode cL_same 407 = .ok (.istore 17, 2) := by decide +kernel
theorem dL_same_409 : decode cL_same 409 = .ok (.iconst 0, 1) := by decide +kernel
theorem dL_same_410 : decode cL_same 410 = .ok (.istore 18, 2) := by decide +kernel
theorem dL_same_412 : decode cL_same 412 = .ok (.iconst 0, 1) := by decide +kernel
theorem dL_same_413 : decode cL_same 413 = .ok (.istore 19, 2) := by decide +kernel
theorem dL_same_415 : decode cL_same 415 = .ok (.iload 19, 2) := by decide +kernel
theorem dL_same_417 : decode cL_same 417 = .ok (.bipush 6, 2) := by decide +kernel
theorem dL_same_419 : decode cL_same 419 = .ok (.if_icmp .ge 109, 3) := by decide +kernel
theorem dL_same_422 : decode cL_same 422 = .ok (.iload 19, 2) := by decide +kernel
theorem dL_same_424 : decode cL_same 424 = .ok (.aload 9, 2) := by decide +kernel
theorem dL_same_426 : decode cL_same 426 = .ok (.invokestatic 16, 3) := by decide +kernel
theorem dL_same_429 : decode cL_same 429 = .ok (.istore 20, 2) := by decide +kernel
theorem dL_same_431 : decode cL_same 431 = .ok (.iload 16, 2) := by decide +kernel
theorem dL_same_433 : decode cL_same 433 = .ok (.iload 20, 2) := by decide +kernel
theorem dL_same_435 : decode cL_same 435 = .ok (.ifCond .lt 19, 3) := by decide +kernel
theorem dL_same_438 : decode cL_same 438 = .ok (.iload 19, 2) := by decide +kernel
theorem dL_same_440 : decode cL_same 440 = .ok (.aload 15, 2) := by decide +kernel
theorem dL_same_442 : decode cL_same 442 = .ok (.invokestatic 16, 3) := by decide +kernel
theorem dL_same_445 : decode cL_same 445 = .ok (.iload 20, 2) := by decide +kernel
theorem dL_same_447 : decode cL_same 447 = .ok (.if_icmp .ne 7, 3) := by decide +kernel
theorem dL_same_450 : decode cL_same 450 = .ok (.iconst 1, 1) := by decide +kernel
theorem dL_same_451 : decode cL_same 451 = .ok (.goto 4, 3) := by decide +kernel
theorem dL_same_454 : decode cL_same 454 = .ok (.iconst 0, 1) := by decide +kernel
theorem dL_same_455 : decode cL_same 455 = .ok (.iadd, 1) := by decide +kernel
theorem dL_same_456 : decode cL_same 456 = .ok (.istore 16, 2) := by decide +kernel
theorem dL_same_458 : decode cL_same 458 = .ok (.iload 17, 2) := by decide +kernel
theorem dL_same_460 : decode cL_same 460 = .ok (.iload 20, 2) := by decide +kernel
theorem dL_same_462 : decode cL_same 462 = .ok (.ifCond .lt 19, 3) := by decide +kernel
theorem dL_same_465 : decode cL_same 465 = .ok (.iload 20, 2) := by decide +kernel
theorem dL_same_467 : decode cL_same 467 = .ok (.aload 15, 2) := by decide +kernel
theorem dL_same_469 : decode cL_same 469 = .ok (.invokestatic 22, 3) := by decide +kernel
theorem dL_same_472 : decode cL_same 472 = .ok (.iload 19, 2) := by decide +kernel
theorem dL_same_474 : decode cL_same 474 = .ok (.if_icmp .ne 7, 3) := by decide +kernel
theorem dL_same_477 : decode cL_same 477 = .ok (.iconst 1, 1) := by decide +kernel
theorem dL_same_478 : decode cL_same 478 = .ok (.goto 4, 3) := by decide +kernel
theorem dL_same_481 : decode cL_same 481 = .ok (.iconst 0, 1) := by decide +kernel
theorem dL_same_482 : decode cL_same 482 = .ok (.iadd, 1) := by decide +kernel
theorem dL_same_483 : decode cL_same 483 = .ok (.istore 17, 2) := by decide +kernel
theorem dL_same_485 : decode cL_same 485 = .ok (.iload 18, 2) := by decide +kernel
theorem dL_same_487 : decode cL_same 487 = .ok (.iload 19, 2) := by decide +kernel
theorem dL_same_489 : decode cL_same 489 = .ok (.aload 15, 2) := by decide +kernel
theorem dL_same_491 : decode cL_same 491 = .ok (.invokestatic 16, 3) := by decide +kernel
theorem dL_same_494 : decode cL_same 494 = .ok (.ifCond .lt 24, 3) := by decide +kernel
theorem dL_same_497 : decode cL_same 497 = .ok (.iload 19, 2) := by decide +kernel
theorem dL_same_499 : decode cL_same 499 = .ok (.aload 15, 2) := by decide +kernel
theorem dL_same_501 : decode cL_same 501 = .ok (.invokestatic 16, 3) := by decide +kernel
theorem dL_same_504 : decode cL_same 504 = .ok (.aload 9, 2) := by decide +kernel
theorem dL_same_506 : decode cL_same 506 = .ok (.invokestatic 22, 3) := by decide +kernel
theorem dL_same_509 : decode cL_same 509 = .ok (.iload 19, 2) := by decide +kernel
theorem dL_same_511 : decode cL_same 511 = .ok (.if_icmp .ne 7, 3) := by decide +kernel
theorem dL_same_514 : decode cL_same 514 = .ok (.iconst 1, 1) := by decide +kernel
theorem dL_same_515 : decode cL_same 515 = .ok (.goto 4, 3) := by decide +kernel
theorem dL_same_518 : decode cL_same 518 = .ok (.iconst 0, 1) := by decide +kernel
theorem dL_same_519 : decode cL_same 519 = .ok (.iadd, 1) := by decide +kernel
theorem dL_same_520 : decode cL_same 520 = .ok (.istore 18, 2) := by decide +kernel
theorem dL_same_522 : decode cL_same 522 = .ok (.iinc 19 1, 3) := by decide +kernel
theorem dL_same_525 : decode cL_same 525 = .ok (.goto (-110), 3) := by decide +kernel
theorem dL_same_528 : decode cL_same 528 = .ok (.aload_n 0, 1) := by decide +kernel
theorem dL_same_529 : decode cL_same 529 = .ok (.iload 8, 2) := by decide +kernel
theorem dL_same_531 : decode cL_same 531 = .ok (.iload 14, 2) := by decide +kernel
theorem dL_same_533 : decode cL_same 533 = .ok (.iconst 0, 1) := by decide +kernel
theorem dL_same_534 : decode cL_same 534 = .ok (.invokevirtual 55, 3) := by decide +kernel
theorem dL_same_537 : decode cL_same 537 = .ok (.iload 16, 2) := by decide +kernel
theorem dL_same_539 : decode cL_same 539 = .ok (.if_icmp .ne 30, 3) := by decide +kernel
theorem dL_same_542 : decode cL_same 542 = .ok (.aload_n 0, 1) := by decide +kernel
theorem dL_same_543 : decode cL_same 543 = .ok (.iload 8, 2) := by decide +kernel
theorem dL_same_545 : decode cL_same 545 = .ok (.iload 14, 2) := by decide +kernel
theorem dL_same_547 : decode cL_same 547 = .ok (.iconst 1, 1) := by decide +kernel
theorem dL_same_548 : decode cL_same 548 = .ok (.invokevirtual 55, 3) := by decide +kernel
theorem dL_same_551 : decode cL_same 551 = .ok (.iload 16, 2) := by decide +kernel
theorem dL_same_553 : decode cL_same 553 = .ok (.if_icmp .ne 16, 3) := by decide +kernel
theorem dL_same_556 : decode cL_same 556 = .ok (.aload_n 0, 1) := by decide +kernel
theorem dL_same_557 : decode cL_same 557 = .ok (.iload 8, 2) := by decide +kernel
theorem dL_same_559 : decode cL_same 559 = .ok (.iload 14, 2) := by decide +kernel
theorem dL_same_561 : decode cL_same 561 = .ok (.invokevirtual 58, 3) := by decide +kernel
theorem dL_same_564 : decode cL_same 564 = .ok (.iload 17, 2) := by decide +kernel
theorem dL_same_566 : decode cL_same 566 = .ok (.if_icmp .eq 5, 3) := by decide +kernel
theorem dL_same_569 : decode cL_same 569 = .ok (.iconst 0, 1) := by decide +kernel
theorem dL_same_570 : decode cL_same 570 = .ok (.ireturn, 1) := by decide +kernel
theorem dL_same_571 : decode cL_same 571 = .ok (.iload 14, 2) := by decide +kernel
theorem dL_same_573 : decode cL_same 573 = .ok (.iload 8, 2) := by decide +kernel
theorem dL_same_575 : decode cL_same 575 = .ok (.if_icmp .eq 18, 3) := by decide +kernel
theorem dL_same_578 : decode cL_same 578 = .ok (.iload 18, 2) := by decide +kernel
theorem dL_same_580 : decode cL_same 580 = .ok (.iload 13, 2) := by decide +kernel
theorem dL_same_582 : decode cL_same 582 = .ok (.if_icmp .le 11, 3) := by decide +kernel
theorem dL_same_585 : decode cL_same 585 = .ok (.iload 18, 2) := by decide +kernel
theorem dL_same_587 : decode cL_same 587 = .ok (.istore 13, 2) := by decide +kernel
theorem dL_same_589 : decode cL_same 589 = .ok (.iload 14, 2) := by decide +kernel
theorem dL_same_591 : decode cL_same 591 = .ok (.istore 12, 2) := by decide +kernel
theorem dL_same_593 : decode cL_same 593 = .ok (.iinc 14 1, 3) := by decide +kernel
theorem dL_same_596 : decode cL_same 596 = .ok (.goto (-225), 3) := by decide +kernel
theorem dL_same_599 : decode cL_same 599 = .ok (.aload_n 0, 1) := by decide +kernel
theorem dL_same_600 : decode cL_same 600 = .ok (.iload 8, 2) := by decide +kernel
theorem dL_same_602 : decode cL_same 602 = .ok (.invokevirtual 61, 3) := by decide +kernel
theorem dL_same_605 : decode cL_same 605 = .ok (.iload 12, 2) := by decide +kernel
theorem dL_same_607 : decode cL_same 607 = .ok (.if_icmp .eq 5, 3) := by decide +kernel
theorem dL_same_610 : decode cL_same 610 = .ok (.iconst 0, 1) := by decide +kernel
theorem dL_same_611 : decode cL_same 611 = .ok (.ireturn, 1) := by decide +kernel
theorem dL_same_612 : decode cL_same 612 = .ok (.iinc 8 1, 3) := by decide +kernel
theorem dL_same_615 : decode cL_same 615 = .ok (.goto (-606), 3) := by decide +kernel
theorem dL_same_618 : decode cL_same 618 = .ok (.iconst 0, 1) := by decide +kernel
theorem dL_same_619 : decode cL_same 619 = .ok (.istore 8, 2) := by decide +kernel
theorem dL_same_621 : decode cL_same 621 = .ok (.iload 8, 2) := by decide +kernel
theorem dL_same_623 : decode cL_same 623 = .ok (.bipush 6, 2) := by decide +kernel
theorem dL_same_625 : decode cL_same 625 = .ok (.if_icmp .ge 144, 3) := by decide +kernel
theorem dL_same_628 : decode cL_same 628 = .ok (.bipush 10, 2) := by decide +kernel
theorem dL_same_630 : decode cL_same 630 = .ok (.newarray .int, 2) := by decide +kernel
theorem dL_same_632 : decode cL_same 632 = .ok (.astore 9, 2) := by decide +kernel
theorem dL_same_634 : decode cL_same 634 = .ok (.bipush (-6), 2) := by decide +kernel
theorem dL_same_636 : decode cL_same 636 = .ok (.istore 10, 2) := by decide +kernel
theorem dL_same_638 : decode cL_same 638 = .ok (.iconst 0, 1) := by decide +kernel
theorem dL_same_639 : decode cL_same 639 = .ok (.istore 11, 2) := by decide +kernel
theorem dL_same_641 : decode cL_same 641 = .ok (.iload 11, 2) := by decide +kernel
theorem dL_same_643 : decode cL_same 643 = .ok (.iconst 4, 1) := by decide +kernel
theorem dL_same_644 : decode cL_same 644 = .ok (.if_icmp .ge 61, 3) := by decide +kernel
theorem dL_same_647 : decode cL_same 647 = .ok (.aload_n 1, 1) := by decide +kernel
theorem dL_same_648 : decode cL_same 648 = .ok (.bipush 9, 2) := by decide +kernel
theorem dL_same_650 : decode cL_same 650 = .ok (.iload 11, 2) := by decide +kernel
theorem dL_same_652 : decode cL_same 652 = .ok (.iadd, 1) := by decide +kernel
theorem dL_same_653 : decode cL_same 653 = .ok (.iaload, 1) := by decide +kernel
theorem dL_same_654 : decode cL_same 654 = .ok (.ifCond .lt 45, 3) := by decide +kernel
theorem dL_same_657 : decode cL_same 657 = .ok (.iload 8, 2) := by decide +kernel
theorem dL_same_659 : decode cL_same 659 = .ok (.iload 11, 2) := by decide +kernel
theorem dL_same_661 : decode cL_same 661 = .ok (.aload_n 2, 1) := by decide +kernel
theorem dL_same_662 : decode cL_same 662 = .ok (.aload_n 3, 1) := by decide +kernel
theorem dL_same_663 : decode cL_same 663 = .ok (.aload 4, 2) := by decide +kernel
theorem dL_same_665 : decode cL_same 665 = .ok (.aload 5, 2) := by decide +kernel
theorem dL_same_667 : decode cL_same 667 = .ok (.invokestatic 35, 3) := by decide +kernel
theorem dL_same_670 : decode cL_same 670 = .ok (.invokestatic 16, 3) := by decide +kernel
theorem dL_same_673 : decode cL_same 673 = .ok (.ifCond .lt 26, 3) := by decide +kernel
theorem dL_same_676 : decode cL_same 676 = .ok (.aload 9, 2) := by decide +kernel
theorem dL_same_678 : decode cL_same 678 = .ok (.iload 8, 2) := by decide +kernel
theorem dL_same_680 : decode cL_same 680 = .ok (.iload 11, 2) := by decide +kernel
theorem dL_same_682 : decode cL_same 682 = .ok (.aload_n 2, 1) := by decide +kernel
theorem dL_same_683 : decode cL_same 683 = .ok (.aload_n 3, 1) := by decide +kernel
theorem dL_same_684 : decode cL_same 684 = .ok (.aload 4, 2) := by decide +kernel
theorem dL_same_686 : decode cL_same 686 = .ok (.aload 5, 2) := by decide +kernel
theorem dL_same_688 : decode cL_same 688 = .ok (.invokestatic 35, 3) := by decide +kernel
theorem dL_same_691 : decode cL_same 691 = .ok (.invokestatic 16, 3) := by decide +kernel
theorem dL_same_694 : decode cL_same 694 = .ok (.dup2, 1) := by decide +kernel
theorem dL_same_695 : decode cL_same 695 = .ok (.iaload, 1) := by decide +kernel
theorem dL_same_696 : decode cL_same 696 = .ok (.iconst 1, 1) := by decide +kernel
theorem dL_same_697 : decode cL_same 697 = .ok (.iadd, 1) := by decide +kernel
theorem dL_same_698 : decode cL_same 698 = .ok (.iastore, 1) := by decide +kernel
theorem dL_same_699 : decode cL_same 699 = .ok (.iinc 11 1, 3) := by decide +kernel
theorem dL_same_702 : decode cL_same 702 = .ok (.goto (-61), 3) := by decide +kernel
theorem dL_same_705 : decode cL_same 705 = .ok (.bipush 9, 2) := by decide +kernel
theorem dL_same_707 : decode cL_same 707 = .ok (.istore 11, 2) := by decide +kernel
theorem dL_same_709 : decode cL_same 709 = .ok (.iload 11, 2) := by decide +kernel
theorem dL_same_711 : decode cL_same 711 = .ok (.ifCond .lt 39, 3) := by decide +kernel
theorem dL_same_714 : decode cL_same 714 = .ok (.aload 9, 2) := by decide +kernel
theorem dL_same_716 : decode cL_same 716 = .ok (.iload 11, 2) := by decide +kernel
theorem dL_same_718 : decode cL_same 718 = .ok (.iaload, 1) := by decide +kernel
theorem dL_same_719 : decode cL_same 719 = .ok (.ifCond .le 25, 3) := by decide +kernel
theorem dL_same_722 : decode cL_same 722 = .ok (.iload 10, 2) := by decide +kernel
theorem dL_same_724 : decode cL_same 724 = .ok (.ifCond .lt 16, 3) := by decide +kernel
theorem dL_same_727 : decode cL_same 727 = .ok (.aload 9, 2) := by decide +kernel
theorem dL_same_729 : decode cL_same 729 = .ok (.iload 11, 2) := by decide +kernel
theorem dL_same_731 : decode cL_same 731 = .ok (.iaload, 1) := by decide +kernel
theorem dL_same_732 : decode cL_same 732 = .ok (.aload 9, 2) := by decide +kernel
theorem dL_same_734 : decode cL_same 734 = .ok (.iload 10, 2) := by decide +kernel
theorem dL_same_736 : decode cL_same 736 = .ok (.iaload, 1) := by decide +kernel
theorem dL_same_737 : decode cL_same 737 = .ok (.if_icmp .lt 7, 3) := by decide +kernel
theorem dL_same_740 : decode cL_same 740 = .ok (.iload 11, 2) := by decide +kernel
theorem dL_same_742 : decode cL_same 742 = .ok (.istore 10, 2) := by decide +kernel
theorem dL_same_744 : decode cL_same 744 = .ok (.iinc 11 (-1), 3) := by decide +kernel
theorem dL_same_747 : decode cL_same 747 = .ok (.goto (-38), 3) := by decide +kernel
theorem dL_same_750 : decode cL_same 750 = .ok (.aload_n 0, 1) := by decide +kernel
theorem dL_same_751 : decode cL_same 751 = .ok (.iload 8, 2) := by decide +kernel
theorem dL_same_753 : decode cL_same 753 = .ok (.invokevirtual 65, 3) := by decide +kernel
theorem dL_same_756 : decode cL_same 756 = .ok (.iload 10, 2) := by decide +kernel
theorem dL_same_758 : decode cL_same 758 = .ok (.if_icmp .eq 5, 3) := by decide +kernel
theorem dL_same_761 : decode cL_same 761 = .ok (.iconst 0, 1) := by decide +kernel
theorem dL_same_762 : decode cL_same 762 = .ok (.ireturn, 1) := by decide +kernel
theorem dL_same_763 : decode cL_same 763 = .ok (.iinc 8 1, 3) := by decide +kernel
theorem dL_same_766 : decode cL_same 766 = .ok (.goto (-145), 3) := by decide +kernel
theorem dL_same_769 : decode cL_same 769 = .ok (.aload_n 0, 1) := by decide +kernel
theorem dL_same_770 : decode cL_same 770 = .ok (.iconst 0, 1) := by decide +kernel
theorem dL_same_771 : decode cL_same 771 = .ok (.invokevirtual 68, 3) := by decide +kernel
theorem dL_same_774 : decode cL_same 774 = .ok (.iload 6, 2) := by decide +kernel
theorem dL_same_776 : decode cL_same 776 = .ok (.if_icmp .ne 120, 3) := by decide +kernel
theorem dL_same_779 : decode cL_same 779 = .ok (.aload_n 0, 1) := by decide +kernel
theorem dL_same_780 : decode cL_same 780 = .ok (.iconst 1, 1) := by decide +kernel
theorem dL_same_781 : decode cL_same 781 = .ok (.invokevirtual 68, 3) := by decide +kernel
theorem dL_same_784 : decode cL_same 784 = .ok (.aload_n 1, 1) := by decide +kernel
theorem dL_same_785 : decode cL_same 785 = .ok (.iconst 0, 1) := by decide +kernel
theorem dL_same_786 : decode cL_same 786 = .ok (.iaload, 1) := by decide +kernel
theorem dL_same_787 : decode cL_same 787 = .ok (.if_icmp .ne 109, 3) := by decide +kernel
theorem dL_same_790 : decode cL_same 790 = .ok (.aload_n 0, 1) := by decide +kernel
theorem dL_same_791 : decode cL_same 791 = .ok (.iconst 2, 1) := by decide +kernel
theorem dL_same_792 : decode cL_same 792 = .ok (.invokevirtual 68, 3) := by decide +kernel
theorem dL_same_795 : decode cL_same 795 = .ok (.aload_n 1, 1) := by decide +kernel
theorem dL_same_796 : decode cL_same 796 = .ok (.iconst 1, 1) := by decide +kernel
theorem dL_same_797 : decode cL_same 797 = .ok (.iaload, 1) := by decide +kernel
theorem dL_same_798 : decode cL_same 798 = .ok (.if_icmp .ne 98, 3) := by decide +kernel
theorem dL_same_801 : decode cL_same 801 = .ok (.aload_n 0, 1) := by decide +kernel
theorem dL_same_802 : decode cL_same 802 = .ok (.iconst 3, 1) := by decide +kernel
theorem dL_same_803 : decode cL_same 803 = .ok (.invokevirtual 68, 3) := by decide +kernel
theorem dL_same_806 : decode cL_same 806 = .ok (.aload_n 1, 1) := by decide +kernel
theorem dL_same_807 : decode cL_same 807 = .ok (.iconst 2, 1) := by decide +kernel
theorem dL_same_808 : decode cL_same 808 = .ok (.iaload, 1) := by decide +kernel
theorem dL_same_809 : decode cL_same 809 = .ok (.if_icmp .ne 87, 3) := by decide +kernel
theorem dL_same_812 : decode cL_same 812 = .ok (.aload_n 0, 1) := by decide +kernel
theorem dL_same_813 : decode cL_same 813 = .ok (.iconst 4, 1) := by decide +kernel
theorem dL_same_814 : decode cL_same 814 = .ok (.invokevirtual 68, 3) := by decide +kernel
theorem dL_same_817 : decode cL_same 817 = .ok (.aload_n 1, 1) := by decide +kernel
theorem dL_same_818 : decode cL_same 818 = .ok (.iconst 3, 1) := by decide +kernel
theorem dL_same_819 : decode cL_same 819 = .ok (.iaload, 1) := by decide +kernel
theorem dL_same_820 : decode cL_same 820 = .ok (.if_icmp .ne 76, 3) := by decide +kernel
theorem dL_same_823 : decode cL_same 823 = .ok (.aload_n 0, 1) := by decide +kernel
theorem dL_same_824 : decode cL_same 824 = .ok (.iconst 5, 1) := by decide +kernel
theorem dL_same_825 : decode cL_same 825 = .ok (.invokevirtual 68, 3) := by decide +kernel
theorem dL_same_828 : decode cL_same 828 = .ok (.aload_n 1, 1) := by decide +kernel
theorem dL_same_829 : decode cL_same 829 = .ok (.iconst 4, 1) := by decide +kernel
theorem dL_same_830 : decode cL_same 830 = .ok (.iaload, 1) := by decide +kernel
theorem dL_same_831 : decode cL_same 831 = .ok (.if_icmp .ne 65, 3) := by decide +kernel
theorem dL_same_834 : decode cL_same 834 = .ok (.aload_n 0, 1) := by decide +kernel
theorem dL_same_835 : decode cL_same 835 = .ok (.bipush 6, 2) := by decide +kernel
theorem dL_same_837 : decode cL_same 837 = .ok (.invokevirtual 68, 3) := by decide +kernel
theorem dL_same_840 : decode cL_same 840 = .ok (.iload 7, 2) := by decide +kernel
theorem dL_same_842 : decode cL_same 842 = .ok (.if_icmp .ne 54, 3) := by decide +kernel
theorem dL_same_845 : decode cL_same 845 = .ok (.aload_n 0, 1) := by decide +kernel
theorem dL_same_846 : decode cL_same 846 = .ok (.iconst 0, 1) := by decide +kernel
theorem dL_same_847 : decode cL_same 847 = .ok (.invokevirtual 71, 3) := by decide +kernel
theorem dL_same_850 : decode cL_same 850 = .ok (.aload_n 1, 1) := by decide +kernel
theorem dL_same_851 : decode cL_same 851 = .ok (.iconst 5, 1) := by decide +kernel
theorem dL_same_852 : decode cL_same 852 = .ok (.iaload, 1) := by decide +kernel
theorem dL_same_853 : decode cL_same 853 = .ok (.if_icmp .ne 43, 3) := by decide +kernel
theorem dL_same_856 : decode cL_same 856 = .ok (.aload_n 0, 1) := by decide +kernel
theorem dL_same_857 : decode cL_same 857 = .ok (.iconst 1, 1) := by decide +kernel
theorem dL_same_858 : decode cL_same 858 = .ok (.invokevirtual 71, 3) := by decide +kernel
theorem dL_same_861 : decode cL_same 861 = .ok (.aload_n 1, 1) := by decide +kernel
theorem dL_same_862 : decode cL_same 862 = .ok (.bipush 6, 2) := by decide +kernel
theorem dL_same_864 : decode cL_same 864 = .ok (.iaload, 1) := by decide +kernel
theorem dL_same_865 : decode cL_same 865 = .ok (.if_icmp .ne 31, 3) := by decide +kernel
theorem dL_same_868 : decode cL_same 868 = .ok (.aload_n 0, 1) := by decide +kernel
theorem dL_same_869 : decode cL_same 869 = .ok (.iconst 2, 1) := by decide +kernel
theorem dL_same_870 : decode cL_same 870 = .ok (.invokevirtual 71, 3) := by decide +kernel
theorem dL_same_873 : decode cL_same 873 = .ok (.aload_n 1, 1) := by decide +kernel
theorem dL_same_874 : decode cL_same 874 = .ok (.bipush 7, 2) := by decide +kernel
theorem dL_same_876 : decode cL_same 876 = .ok (.iaload, 1) := by decide +kernel
theorem dL_same_877 : decode cL_same 877 = .ok (.if_icmp .ne 19, 3) := by decide +kernel
theorem dL_same_880 : decode cL_same 880 = .ok (.aload_n 0, 1) := by decide +kernel
theorem dL_same_881 : decode cL_same 881 = .ok (.iconst 3, 1) := by decide +kernel
theorem dL_same_882 : decode cL_same 882 = .ok (.invokevirtual 71, 3) := by decide +kernel
theorem dL_same_885 : decode cL_same 885 = .ok (.aload_n 1, 1) := by decide +kernel
theorem dL_same_886 : decode cL_same 886 = .ok (.bipush 8, 2) := by decide +kernel
theorem dL_same_888 : decode cL_same 888 = .ok (.iaload, 1) := by decide +kernel
theorem dL_same_889 : decode cL_same 889 = .ok (.if_icmp .ne 7, 3) := by decide +kernel
theorem dL_same_892 : decode cL_same 892 = .ok (.iconst 1, 1) := by decide +kernel
theorem dL_same_893 : decode cL_same 893 = .ok (.goto 4, 3) := by decide +kernel
theorem dL_same_896 : decode cL_same 896 = .ok (.iconst 0, 1) := by decide +kernel
theorem dL_same_897 : decode cL_same 897 = .ok (.ireturn, 1) := by decide +kernel
theorem dL_law_0 : decode cL_law 0 = .ok (.new 40, 3) := by decide +kernel
theorem dL_law_3 : decode cL_law 3 = .ok (.dup, 1) := by decide +kernel
theorem dL_law_4 : decode cL_law 4 = .ok (.invokespecial 74, 3) := by decide +kernel
theorem dL_law_7 : decode cL_law 7 = .ok (.astore_n 1, 1) := by decide +kernel
theorem dL_law_8 : decode cL_law 8 = .ok (.bipush 17, 2) := by decide +kernel
theorem dL_law_10 : decode cL_law 10 = .ok (.newarray .int, 2) := by decide +kernel
theorem dL_law_12 : decode cL_law 12 = .ok (.astore_n 2, 1) := by decide +kernel
theorem dL_law_13 : decode cL_law 13 = .ok (.bipush 60, 2) := by decide +kernel
theorem dL_law_15 : decode cL_law 15 = .ok (.newarray .int, 2) := by decide +kernel
theorem dL_law_17 : decode cL_law 17 = .ok (.astore_n 3, 1) := by decide +kernel
theorem dL_law_18 : decode cL_law 18 = .ok (.bipush 60, 2) := by decide +kernel
theorem dL_law_20 : decode cL_law 20 = .ok (.newarray .int, 2) := by decide +kernel
theorem dL_law_22 : decode cL_law 22 = .ok (.astore 4, 2) := by decide +kernel
theorem dL_law_24 : decode cL_law 24 = .ok (.bipush 60, 2) := by decide +kernel
theorem dL_law_26 : decode cL_law 26 = .ok (.newarray .int, 2) := by decide +kernel
theorem dL_law_28 : decode cL_law 28 = .ok (.astore 5, 2) := by decide +kernel
theorem dL_law_30 : decode cL_law 30 = .ok (.bipush 60, 2) := by decide +kernel
theorem dL_law_32 : decode cL_law 32 = .ok (.newarray .int, 2) := by decide +kernel
theorem dL_law_34 : decode cL_law 34 = .ok (.astore 6, 2) := by decide +kernel
theorem dL_law_36 : decode cL_law 36 = .ok (.aload_n 2, 1) := by decide +kernel
theorem dL_law_37 : decode cL_law 37 = .ok (.iconst 0, 1) := by decide +kernel
theorem dL_law_38 : decode cL_law 38 = .ok (.iconst 1, 1) := by decide +kernel
theorem dL_law_39 : decode cL_law 39 = .ok (.iastore, 1) := by decide +kernel
theorem dL_law_40 : decode cL_law 40 = .ok (.aload_n 2, 1) := by decide +kernel
theorem dL_law_41 : decode cL_law 41 = .ok (.iconst 5, 1) := by decide +kernel
theorem dL_law_42 : decode cL_law 42 = .ok (.iconst 4, 1) := by decide +kernel
theorem dL_law_43 : decode cL_law 43 = .ok (.iastore, 1) := by decide +kernel
theorem dL_law_44 : decode cL_law 44 = .ok (.aload_n 2, 1) := by decide +kernel
theorem dL_law_45 : decode cL_law 45 = .ok (.bipush 6, 2) := by decide +kernel
theorem dL_law_47 : decode cL_law 47 = .ok (.iconst 1, 1) := by decide +kernel
theorem dL_law_48 : decode cL_law 48 = .ok (.iastore, 1) := by decide +kernel
theorem dL_law_49 : decode cL_law 49 = .ok (.aload_n 2, 1) := by decide +kernel
theorem dL_law_50 : decode cL_law 50 = .ok (.bipush 7, 2) := by decide +kernel
theorem dL_law_52 : decode cL_law 52 = .ok (.bipush 60, 2) := by decide +kernel
theorem dL_law_54 : decode cL_law 54 = .ok (.iastore, 1) := by decide +kernel
theorem dL_law_55 : decode cL_law 55 = .ok (.aload_n 2, 1) := by decide +kernel
theorem dL_law_56 : decode cL_law 56 = .ok (.bipush 8, 2) := by decide +kernel
theorem dL_law_58 : decode cL_law 58 = .ok (.bipush 50, 2) := by decide +kernel
theorem dL_law_60 : decode cL_law 60 = .ok (.iastore, 1) := by decide +kernel
theorem dL_law_61 : decode cL_law 61 = .ok (.bipush 9, 2) := by decide +kernel
theorem dL_law_63 : decode cL_law 63 = .ok (.istore 7, 2) := by decide +kernel
theorem dL_law_65 : decode cL_law 65 = .ok (.iload 7, 2) := by decide +kernel
theorem dL_law_67 : decode cL_law 67 = .ok (.bipush 13, 2) := by decide +kernel
theorem dL_law_69 : decode cL_law 69 = .ok (.if_icmp .ge 14, 3) := by decide +kernel
theorem dL_law_72 : decode cL_law 72 = .ok (.aload_n 2, 1) := by decide +kernel
theorem dL_law_73 : decode cL_law 73 = .ok (.iload 7, 2) := by decide +kernel
theorem dL_law_75 : decode cL_law 75 = .ok (.iconst (-1), 1) := by decide +kernel
theorem dL_law_76 : decode cL_law 76 = .ok (.iastore, 1) := by decide +kernel
theorem dL_law_77 : decode cL_law 77 = .ok (.iinc 7 1, 3) := by decide +kernel
theorem dL_law_80 : decode cL_law 80 = .ok (.goto (-15), 3) := by decide +kernel
theorem dL_law_83 : decode cL_law 83 = .ok (.iconst 0, 1) := by decide +kernel
theorem dL_law_84 : decode cL_law 84 = .ok (.istore 7, 2) := by decide +kernel
theorem dL_law_86 : decode cL_law 86 = .ok (.iload 7, 2) := by decide +kernel
theorem dL_law_88 : decode cL_law 88 = .ok (.bipush 46, 2) := by decide +kernel
theorem dL_law_90 : decode cL_law 90 = .ok (.if_icmp .ge 1266, 3) := by decide +kernel
theorem dL_law_93 : decode cL_law 93 = .ok (.aload_n 0, 1) := by decide +kernel
theorem dL_law_94 : decode cL_law 94 = .ok (.iconst 2, 1) := by decide +kernel
theorem dL_law_95 : decode cL_law 95 = .ok (.iload 7, 2) := by decide +kernel
theorem dL_law_97 : decode cL_law 97 = .ok (.imul, 1) := by decide +kernel
theorem dL_law_98 : decode cL_law 98 = .ok (.invokestatic 75, 3) := by decide +kernel
theorem dL_law_101 : decode cL_law 101 = .ok (.istore 8, 2) := by decide +kernel
theorem dL_law_103 : decode cL_law 103 = .ok (.aload_n 0, 1) := by decide +kernel
theorem dL_law_104 : decode cL_law 104 = .ok (.iconst 2, 1) := by decide +kernel
theorem dL_law_105 : decode cL_law 105 = .ok (.iload 7, 2) := by decide +kernel
theorem dL_law_107 : decode cL_law 107 = .ok (.imul, 1) := by decide +kernel
theorem dL_law_108 : decode cL_law 108 = .ok (.iconst 1, 1) := by decide +kernel
theorem dL_law_109 : decode cL_law 109 = .ok (.iadd, 1) := by decide +kernel
theorem dL_law_110 : decode cL_law 110 = .ok (.invokestatic 75, 3) := by decide +kernel
theorem dL_law_113 : decode cL_law 113 = .ok (.istore 9, 2) := by decide +kernel
theorem dL_law_115 : decode cL_law 115 = .ok (.iload 7, 2) := by decide +kernel
theorem dL_law_117 : decode cL_law 117 = .ok (.iconst 3, 1) := by decide +kernel
theorem dL_law_118 : decode cL_law 118 = .ok (.if_icmp .ge 7, 3) := by decide +kernel
theorem dL_law_121 : decode cL_law 121 = .ok (.iconst 0, 1) := by decide +kernel
theorem dL_law_122 : decode cL_law 122 = .ok (.goto 22, 3) := by decide +kernel
theorem dL_law_125 : decode cL_law 125 = .ok (.iload 7, 2) := by decide +kernel
theorem dL_law_127 : decode cL_law 127 = .ok (.bipush 9, 2) := by decide +kernel
theorem dL_law_129 : decode cL_law 129 = .ok (.if_icmp .ge 8, 3) := by decide +kernel
theorem dL_law_132 : decode cL_law 132 = .ok (.bipush 6, 2) := by decide +kernel
theorem dL_law_134 : decode cL_law 134 = .ok (.goto 10, 3) := by decide +kernel
theorem dL_law_137 : decode cL_law 137 = .ok (.iload 8, 2) := by decide +kernel
theorem dL_law_139 : decode cL_law 139 = .ok (.bipush 22, 2) := by decide +kernel
theorem dL_law_141 : decode cL_law 141 = .ok (.invokestatic 79, 3) := by decide +kernel
theorem dL_law_144 : decode cL_law 144 = .ok (.istore 10, 2) := by decide +kernel
theorem dL_law_146 : decode cL_law 146 = .ok (.iload 9, 2) := by decide +kernel
theorem dL_law_148 : decode cL_law 148 = .ok (.iconst 4, 1) := by decide +kernel
theorem dL_law_149 : decode cL_law 149 = .ok (.invokestatic 79, 3) := by decide +kernel
theorem dL_law_152 : decode cL_law 152 = .ok (.istore 11, 2) := by decide +kernel
theorem dL_law_154 : decode cL_law 154 = .ok (.iload 9, 2) := by decide +kernel
theorem dL_law_156 : decode cL_law 156 = .ok (.iconst 2, 1) := by decide +kernel
theorem dL_law_157 : decode cL_law 157 = .ok (.ishr, 1) := by decide +kernel
theorem dL_law_158 : decode cL_law 158 = .ok (.iconst 4, 1) := by decide +kernel
theorem dL_law_159 : decode cL_law 159 = .ok (.invokestatic 79, 3) := by decide +kernel
theorem dL_law_162 : decode cL_law 162 = .ok (.istore 12, 2) := by decide +kernel
theorem dL_law_164 : decode cL_law 164 = .ok (.iload 9, 2) := by decide +kernel
theorem dL_law_166 : decode cL_law 166 = .ok (.iconst 4, 1) := by decide +kernel
theorem dL_law_167 : decode cL_law 167 = .ok (.ishr, 1) := by decide +kernel
theorem dL_law_168 : decode cL_law 168 = .ok (.bipush 6, 2) := by decide +kernel
theorem dL_law_170 : decode cL_law 170 = .ok (.invokestatic 79, 3) := by decide +kernel
theorem dL_law_173 : decode cL_law 173 = .ok (.istore 13, 2) := by decide +kernel
theorem dL_law_175 : decode cL_law 175 = .ok (.iload 9, 2) := by decide +kernel
theorem dL_law_177 : decode cL_law 177 = .ok (.bipush 7, 2) := by decide +kernel
theorem dL_law_179 : decode cL_law 179 = .ok (.ishr, 1) := by decide +kernel
theorem dL_law_180 : decode cL_law 180 = .ok (.iload 8, 2) := by decide +kernel
theorem dL_law_182 : decode cL_law 182 = .ok (.iconst 5, 1) := by decide +kernel
theorem dL_law_183 : decode cL_law 183 = .ok (.ishr, 1) := by decide +kernel
theorem dL_law_184 : decode cL_law 184 = .ok (.iconst 3, 1) := by decide +kernel
theorem dL_law_185 : decode cL_law 185 = .ok (.invokestatic 79, 3) := by decide +kernel
theorem dL_law_188 : decode cL_law 188 = .ok (.ifCond .ne 8, 3) := by decide +kernel
theorem dL_law_191 : decode cL_law 191 = .ok (.bipush 10, 2) := by decide +kernel
theorem dL_law_193 : decode cL_law 193 = .ok (.goto 4, 3) := by decide +kernel
theorem dL_law_196 : decode cL_law 196 = .ok (.iconst 4, 1) := by decide +kernel
theorem dL_law_197 : decode cL_law 197 = .ok (.invokestatic 79, 3) := by decide +kernel
theorem dL_law_200 : decode cL_law 200 = .ok (.istore 14, 2) := by decide +kernel
theorem dL_law_202 : decode cL_law 202 = .ok (.aload_n 2, 1) := by decide +kernel
theorem dL_law_203 : decode cL_law 203 = .ok (.bipush 9, 2) := by decide +kernel
theorem dL_law_205 : decode cL_law 205 = .ok (.iload 11, 2) := by decide +kernel
theorem dL_law_207 : decode cL_law 207 = .ok (.iadd, 1) := by decide +kernel
theorem dL_law_208 : decode cL_law 208 = .ok (.iaload, 1) := by decide +kernel
theorem dL_law_209 : decode cL_law 209 = .ok (.ifCond .lt 7, 3) := by decide +kernel
theorem dL_law_212 : decode cL_law 212 = .ok (.iconst 1, 1) := by decide +kernel
theorem dL_law_213 : decode cL_law 213 = .ok (.goto 4, 3) := by decide +kernel
theorem dL_law_216 : decode cL_law 216 = .ok (.iconst 0, 1) := by decide +kernel
theorem dL_law_217 : decode cL_law 217 = .ok (.istore 15, 2) := by decide +kernel
theorem dL_law_219 : decode cL_law 219 = .ok (.iload 15, 2) := by decide +kernel
theorem dL_law_221 : decode cL_law 221 = .ok (.ifCond .eq 17, 3) := by decide +kernel
theorem dL_law_224 : decode cL_law 224 = .ok (.aload_n 2, 1) := by decide +kernel
theorem dL_law_225 : decode cL_law 225 = .ok (.bipush 9, 2) := by decide +kernel
theorem dL_law_227 : decode cL_law 227 = .ok (.iload 12, 2) := by decide +kernel
theorem dL_law_229 : decode cL_law 229 = .ok (.iadd, 1) := by decide +kernel
theorem dL_law_230 : decode cL_law 230 = .ok (.iaload, 1) := by decide +kernel
theorem dL_law_231 : decode cL_law 231 = .ok (.ifCond .lt 7, 3) := by decide +kernel
theorem dL_law_234 : decode cL_law 234 = .ok (.iconst 1, 1) := by decide +kernel
theorem dL_law_235 : decode cL_law 235 = .ok (.goto 4, 3) := by decide +kernel
theorem dL_law_238 : decode cL_law 238 = .ok (.iconst 0, 1) := by decide +kernel
theorem dL_law_239 : decode cL_law 239 = .ok (.istore 16, 2) := by decide +kernel
theorem dL_law_241 : decode cL_law 241 = .ok (.iload 11, 2) := by decide +kernel
theorem dL_law_243 : decode cL_law 243 = .ok (.aload_n 3, 1) := by decide +kernel
theorem dL_law_244 : decode cL_law 244 = .ok (.aload 4, 2) := by decide +kernel
theorem dL_law_246 : decode cL_law 246 = .ok (.aload 5, 2) := by decide +kernel
theorem dL_law_248 : decode cL_law 248 = .ok (.aload 6, 2) := by decide +kernel
theorem dL_law_250 : decode cL_law 250 = .ok (.invokestatic 35, 3) := by decide +kernel
theorem dL_law_253 : decode cL_law 253 = .ok (.astore 17, 2) := by decide +kernel
theorem dL_law_255 : decode cL_law 255 = .ok (.iload 12, 2) := by decide +kernel
theorem dL_law_257 : decode cL_law 257 = .ok (.aload_n 3, 1) := by decide +kernel
theorem dL_law_258 : decode cL_law 258 = .ok (.aload 4, 2) := by decide +kernel
theorem dL_law_260 : decode cL_law 260 = .ok (.aload 5, 2) := by decide +kernel
theorem dL_law_262 : decode cL_law 262 = .ok (.aload 6, 2) := by decide +kernel
theorem dL_law_264 : decode cL_law 264 = .ok (.invokestatic 35, 3) := by decide +kernel
theorem dL_law_267 : decode cL_law 267 = .ok (.astore 18, 2) := by decide +kernel
theorem dL_law_269 : decode cL_law 269 = .ok (.iload 10, 2) := by decide +kernel
theorem dL_law_271 : decode cL_law 271 = .ok (.ifCond .ne 67, 3) := by decide +kernel
theorem dL_law_274 : decode cL_law 274 = .ok (.iconst 0, 1) := by decide +kernel
theorem dL_law_275 : decode cL_law 275 = .ok (.istore 19, 2) := by decide +kernel
theorem dL_law_277 : decode cL_law 277 = .ok (.iload 19, 2) := by decide +kernel
theorem dL_law_279 : decode cL_law 279 = .ok (.iconst 4, 1) := by decide +kernel
theorem dL_law_280 : decode cL_law 280 = .ok (.if_icmp .ge 19, 3) := by decide +kernel
theorem dL_law_283 : decode cL_law 283 = .ok (.aload_n 2, 1) := by decide +kernel
theorem dL_law_284 : decode cL_law 284 = .ok (.bipush 9, 2) := by decide +kernel
theorem dL_law_286 : decode cL_law 286 = .ok (.iload 19, 2) := by decide +kernel
theorem dL_law_288 : decode cL_law 288 = .ok (.iadd, 1) := by decide +kernel
theorem dL_law_289 : decode cL_law 289 = .ok (.iaload, 1) := by decide +kernel
theorem dL_law_290 : decode cL_law 290 = .ok (.ifCond .lt 9, 3) := by decide +kernel
theorem dL_law_293 : decode cL_law 293 = .ok (.iinc 19 1, 3) := by decide +kernel
theorem dL_law_296 : decode cL_law 296 = .ok (.goto (-19), 3) := by decide +kernel
theorem dL_law_299 : decode cL_law 299 = .ok (.iload 19, 2) := by decide +kernel
theorem dL_law_301 : decode cL_law 301 = .ok (.iconst 4, 1) := by decide +kernel
theorem dL_law_302 : decode cL_law 302 = .ok (.if_icmp .ne 6, 3) := by decide +kernel
theorem dL_law_305 : decode cL_law 305 = .ok (.goto 1045, 3) := by decide +kernel
theorem dL_law_308 : decode cL_law 308 = .ok (.aload_n 1, 1) := by decide +kernel
theorem dL_law_309 : decode cL_law 309 = .ok (.invokevirtual 82, 3) := by decide +kernel
theorem dL_law_312 : decode cL_law 312 = .ok (.iload 19, 2) := by decide +kernel
theorem dL_law_314 : decode cL_law 314 = .ok (.if_icmp .eq 5, 3) := by decide +kernel
theorem dL_law_317 : decode cL_law 317 = .ok (.iconst 0, 1) := by decide +kernel
theorem dL_law_318 : decode cL_law 318 = .ok (.ireturn, 1) := by decide +kernel
theorem dL_law_319 : decode cL_law 319 = .ok (.aload_n 2, 1) := by decide +kernel
theorem dL_law_320 : decode cL_law 320 = .ok (.bipush 9, 2) := by decide +kernel
theorem dL_law_322 : decode cL_law 322 = .ok (.iload 19, 2) := by decide +kernel
theorem dL_law_324 : decode cL_law 324 = .ok (.iadd, 1) := by decide +kernel
theorem dL_law_325 : decode cL_law 325 = .ok (.iconst 0, 1) := by decide +kernel
theorem dL_law_326 : decode cL_law 326 = .ok (.iastore, 1) := by decide +kernel
theorem dL_law_327 : decode cL_law 327 = .ok (.aload_n 2, 1) := by decide +kernel
theorem dL_law_328 : decode cL_law 328 = .ok (.bipush 13, 2) := by decide +kernel
theorem dL_law_330 : decode cL_law 330 = .ok (.iload 19, 2) := by decide +kernel
theorem dL_law_332 : decode cL_law 332 = .ok (.iadd, 1) := by decide +kernel
theorem dL_law_333 : decode cL_law 333 = .ok (.iconst 0, 1) := by decide +kernel
theorem dL_law_334 : decode cL_law 334 = .ok (.iastore, 1) := by decide +kernel
theorem dL_law_335 : decode cL_law 335 = .ok (.goto 998, 3) := by decide +kernel
theorem dL_law_338 : decode cL_law 338 = .ok (.iload 10, 2) := by decide +kernel
theorem dL_law_340 : decode cL_law 340 = .ok (.iconst 1, 1) := by decide +kernel
theorem dL_law_341 : decode cL_law 341 = .ok (.if_icmp .ne 110, 3) := by decide +kernel
theorem dL_law_344 : decode cL_law 344 = .ok (.iconst (-1), 1) := by decide +kernel
theorem dL_law_345 : decode cL_law 345 = .ok (.istore 19, 2) := by decide +kernel
theorem dL_law_347 : decode cL_law 347 = .ok (.bipush 9, 2) := by decide +kernel
theorem dL_law_349 : decode cL_law 349 = .ok (.istore 20, 2) := by decide +kernel
theorem dL_law_351 : decode cL_law 351 = .ok (.iload 20, 2) := by decide +kernel
theorem dL_law_353 : decode cL_law 353 = .ok (.bipush 13, 2) := by decide +kernel
theorem dL_law_355 : decode cL_law 355 = .ok (.if_icmp .ge 26, 3) := by decide +kernel
theorem dL_law_358 : decode cL_law 358 = .ok (.iload 19, 2) := by decide +kernel
theorem dL_law_360 : decode cL_law 360 = .ok (.aload_n 2, 1) := by decide +kernel
theorem dL_law_361 : decode cL_law 361 = .ok (.iload 20, 2) := by decide +kernel
theorem dL_law_363 : decode cL_law 363 = .ok (.iaload, 1) := by decide +kernel
theorem dL_law_364 : decode cL_law 364 = .ok (.ifCond .lt 7, 3) := by decide +kernel
theorem dL_law_367 : decode cL_law 367 = .ok (.iconst 1, 1) := by decide +kernel
theorem dL_law_368 : decode cL_law 368 = .ok (.goto 4, 3) := by decide +kernel
theorem dL_law_371 : decode cL_law 371 = .ok (.iconst 0, 1) := by decide +kernel
theorem dL_law_372 : decode cL_law 372 = .ok (.iadd, 1) := by decide +kernel
theorem dL_law_373 : decode cL_law 373 = .ok (.istore 19, 2) := by decide +kernel
theorem dL_law_375 : decode cL_law 375 = .ok (.iinc 20 1, 3) := by decide +kernel
theorem dL_law_378 : decode cL_law 378 = .ok (.goto (-27), 3) := by decide +kernel
theorem dL_law_381 : decode cL_law 381 = .ok (.iload 9, 2) := by decide +kernel
theorem dL_law_383 : decode cL_law 383 = .ok (.bipush 6, 2) := by decide +kernel
theorem dL_law_385 : decode cL_law 385 = .ok (.ishr, 1) := by decide +kernel
theorem dL_law_386 : decode cL_law 386 = .ok (.iconst 3, 1) := by decide +kernel
theorem dL_law_387 : decode cL_law 387 = .ok (.invokestatic 79, 3) := by decide +kernel
theorem dL_law_390 : decode cL_law 390 = .ok (.ifCond .le 6, 3) := by decide +kernel
theorem dL_law_393 : decode cL_law 393 = .ok (.goto 957, 3) := by decide +kernel
theorem dL_law_396 : decode cL_law 396 = .ok (.aload_n 1, 1) := by decide +kernel
theorem dL_law_397 : decode cL_law 397 = .ok (.iload 11, 2) := by decide +kernel
theorem dL_law_399 : decode cL_law 399 = .ok (.invokevirtual 86, 3) := by decide +kernel
theorem dL_law_402 : decode cL_law 402 = .ok (.iload 15, 2) := by decide +kernel
theorem dL_law_404 : decode cL_law 404 = .ok (.ifCond .eq 8, 3) := by decide +kernel
theorem dL_law_407 : decode cL_law 407 = .ok (.iload 19, 2) := by decide +kernel
theorem dL_law_409 : decode cL_law 409 = .ok (.goto 4, 3) := by decide +kernel
theorem dL_law_412 : decode cL_law 412 = .ok (.iconst (-1), 1) := by decide +kernel
theorem dL_law_413 : decode cL_law 413 = .ok (.if_icmp .eq 5, 3) := by decide +kernel
theorem dL_law_416 : decode cL_law 416 = .ok (.iconst 0, 1) := by decide +kernel
theorem dL_law_417 : decode cL_law 417 = .ok (.ireturn, 1) := by decide +kernel
theorem dL_law_418 : decode cL_law 418 = .ok (.aload_n 2, 1) := by decide +kernel
theorem dL_law_419 : decode cL_law 419 = .ok (.bipush 9, 2) := by decide +kernel
theorem dL_law_421 : decode cL_law 421 = .ok (.iload 11, 2) := by decide +kernel
theorem dL_law_423 : decode cL_law 423 = .ok (.iadd, 1) := by decide +kernel
theorem dL_law_424 : decode cL_law 424 = .ok (.iconst (-1), 1) := by decide +kernel
theorem dL_law_425 : decode cL_law 425 = .ok (.iastore, 1) := by decide +kernel
theorem dL_law_426 : decode cL_law 426 = .ok (.iconst 0, 1) := by decide +kernel
theorem dL_law_427 : decode cL_law 427 = .ok (.istore 20, 2) := by decide +kernel
theorem dL_law_429 : decode cL_law 429 = .ok (.iload 20, 2) := by decide +kernel
theorem dL_law_431 : decode cL_law 431 = .ok (.bipush 60, 2) := by decide +kernel
theorem dL_law_433 : decode cL_law 433 = .ok (.if_icmp .ge 15, 3) := by decide +kernel
theorem dL_law_436 : decode cL_law 436 = .ok (.aload 17, 2) := by decide +kernel
theorem dL_law_438 : decode cL_law 438 = .ok (.iload 20, 2) := by decide +kernel
theorem dL_law_440 : decode cL_law 440 = .ok (.iconst 0, 1) := by decide +kernel
theorem dL_law_441 : decode cL_law 441 = .ok (.iastore, 1) := by decide +kernel
theorem dL_law_442 : decode cL_law 442 = .ok (.iinc 20 1, 3) := by decide +kernel
theorem dL_law_445 : decode cL_law 445 = .ok (.goto (-16), 3) := by decide +kernel
theorem dL_law_448 : decode cL_law 448 = .ok (.goto 885, 3) := by decide +kernel
theorem dL_law_451 : decode cL_law 451 = .ok (.iload 10, 2) := by decide +kernel
theorem dL_law_453 : decode cL_law 453 = .ok (.iconst 2, 1) := by decide +kernel
theorem dL_law_454 : decode cL_law 454 = .ok (.if_icmp .ne 109, 3) := by decide +kernel
theorem dL_law_457 : decode cL_law 457 = .ok (.iload 9, 2) := by decide +kernel
theorem dL_law_459 : decode cL_law 459 = .ok (.iconst 4, 1) := by decide +kernel
theorem dL_law_460 : decode cL_law 460 = .ok (.invokestatic 79, 3) := by decide +kernel
theorem dL_law_463 : decode cL_law 463 = .ok (.istore 19, 2) := by decide +kernel
theorem dL_law_465 : decode cL_law 465 = .ok (.iload 19, 2) := by decide +kernel
theorem dL_law_467 : decode cL_law 467 = .ok (.ifCond .ne 17, 3) := by decide +kernel
theorem dL_law_470 : decode cL_law 470 = .ok (.iconst 1, 1) := by decide +kernel
theorem dL_law_471 : decode cL_law 471 = .ok (.iload 9, 2) := by decide +kernel
theorem dL_law_473 : decode cL_law 473 = .ok (.iconst 3, 1) := by decide +kernel
theorem dL_law_474 : decode cL_law 474 = .ok (.ishr, 1) := by decide +kernel
theorem dL_law_475 : decode cL_law 475 = .ok (.bipush 9, 2) := by decide +kernel
theorem dL_law_477 : decode cL_law 477 = .ok (.invokestatic 79, 3) := by decide +kernel
theorem dL_law_480 : decode cL_law 480 = .ok (.iadd, 1) := by decide +kernel
theorem dL_law_481 : decode cL_law 481 = .ok (.goto 50, 3) := by decide +kernel
theorem dL_law_484 : decode cL_law 484 = .ok (.iload 19, 2) := by decide +kernel
theorem dL_law_486 : decode cL_law 486 = .ok (.iconst 1, 1) := by decide +kernel
theorem dL_law_487 : decode cL_law 487 = .ok (.if_icmp .ne 15, 3) := by decide +kernel
theorem dL_law_490 : decode cL_law 490 = .ok (.iload 9, 2) := by decide +kernel
theorem dL_law_492 : decode cL_law 492 = .ok (.iconst 3, 1) := by decide +kernel
theorem dL_law_493 : decode cL_law 493 = .ok (.ishr, 1) := by decide +kernel
theorem dL_law_494 : decode cL_law 494 = .ok (.bipush 10, 2) := by decide +kernel
theorem dL_law_496 : decode cL_law 496 = .ok (.invokestatic 79, 3) := by decide +kernel
theorem dL_law_499 : decode cL_law 499 = .ok (.goto 32, 3) := by decide +kernel
theorem dL_law_502 : decode cL_law 502 = .ok (.iload 19, 2) := by decide +kernel
theorem dL_law_504 : decode cL_law 504 = .ok (.iconst 2, 1) := by decide +kernel
theorem dL_law_505 : decode cL_law 505 = .ok (.if_icmp .ne 17, 3) := by decide +kernel
theorem dL_law_508 : decode cL_law 508 = .ok (.iconst 5, 1) := by decide +kernel
theorem dL_law_509 : decode cL_law 509 = .ok (.iload 9, 2) := by decide +kernel
theorem dL_law_511 : decode cL_law 511 = .ok (.iconst 3, 1) := by decide +kernel
theorem dL_law_512 : decode cL_law 512 = .ok (.ishr, 1) := by decide +kernel
theorem dL_law_513 : decode cL_law 513 = .ok (.bipush 95, 2) := by decide +kernel
theorem dL_law_515 : decode cL_law 515 = .ok (.invokestatic 79, 3) := by decide +kernel
theorem dL_law_518 : decode cL_law 518 = .ok (.iadd, 1) := by decide +kernel
theorem dL_law_519 : decode cL_law 519 = .ok (.goto 12, 3) := by decide +kernel
theorem dL_law_522 : decode cL_law 522 = .ok (.iload 9, 2) := by decide +kernel
theorem dL_law_524 : decode cL_law 524 = .ok (.iconst 3, 1) := by decide +kernel
theorem dL_law_525 : decode cL_law 525 = .ok (.ishr, 1) := by decide +kernel
theorem dL_law_526 : decode cL_law 526 = .ok (.bipush 101, 2) := by decide +kernel
theorem dL_law_528 : decode cL_law 528 = .ok (.invokestatic 79, 3) := by decide +kernel
theorem dL_law_531 : decode cL_law 531 = .ok (.istore 20, 2) := by decide +kernel
theorem dL_law_533 : decode cL_law 533 = .ok (.aload_n 1, 1) := by decide +kernel
theorem dL_law_534 : decode cL_law 534 = .ok (.iload 19, 2) := by decide +kernel
theorem dL_law_536 : decode cL_law 536 = .ok (.iload 20, 2) := by decide +kernel
theorem dL_law_538 : decode cL_law 538 = .ok (.invokevirtual 89, 3) := by decide +kernel
theorem dL_law_541 : decode cL_law 541 = .ok (.aload_n 2, 1) := by decide +kernel
theorem dL_law_542 : decode cL_law 542 = .ok (.iconst 5, 1) := by decide +kernel
theorem dL_law_543 : decode cL_law 543 = .ok (.iload 19, 2) := by decide +kernel
theorem dL_law_545 : decode cL_law 545 = .ok (.iadd, 1) := by decide +kernel
theorem dL_law_546 : decode cL_law 546 = .ok (.iaload, 1) := by decide +kernel
theorem dL_law_547 : decode cL_law 547 = .ok (.if_icmp .eq 5, 3) := by decide +kernel
theorem dL_law_550 : decode cL_law 550 = .ok (.iconst 0, 1) := by decide +kernel
theorem dL_law_551 : decode cL_law 551 = .ok (.ireturn, 1) := by decide +kernel
theorem dL_law_552 : decode cL_law 552 = .ok (.aload_n 2, 1) := by decide +kernel
theorem dL_law_553 : decode cL_law 553 = .ok (.iconst 5, 1) := by decide +kernel
theorem dL_law_554 : decode cL_law 554 = .ok (.iload 19, 2) := by decide +kernel
theorem dL_law_556 : decode cL_law 556 = .ok (.iadd, 1) := by decide +kernel
theorem dL_law_557 : decode cL_law 557 = .ok (.iload 20, 2) := by decide +kernel
theorem dL_law_559 : decode cL_law 559 = .ok (.iastore, 1) := by decide +kernel
theorem dL_law_560 : decode cL_law 560 = .ok (.goto 773, 3) := by decide +kernel
theorem dL_law_563 : decode cL_law 563 = .ok (.iload 10, 2) := by decide +kernel
theorem dL_law_565 : decode cL_law 565 = .ok (.iconst 3, 1) := by decide +kernel
theorem dL_law_566 : decode cL_law 566 = .ok (.if_icmp .ne 34, 3) := by decide +kernel
theorem dL_law_569 : decode cL_law 569 = .ok (.iload 9, 2) := by decide +kernel
theorem dL_law_571 : decode cL_law 571 = .ok (.ldc 92, 2) := by decide +kernel
theorem dL_law_573 : decode cL_law 573 = .ok (.invokestatic 79, 3) := by decide +kernel
theorem dL_law_576 : decode cL_law 576 = .ok (.istore 19, 2) := by decide +kernel
theorem dL_law_578 : decode cL_law 578 = .ok (.aload_n 1, 1) := by decide +kernel
theorem dL_law_579 : decode cL_law 579 = .ok (.iload 19, 2) := by decide +kernel
theorem dL_law_581 : decode cL_law 581 = .ok (.invokevirtual 93, 3) := by decide +kernel
theorem dL_law_584 : decode cL_law 584 = .ok (.aload_n 2, 1) := by decide +kernel
theorem dL_law_585 : decode cL_law 585 = .ok (.iconst 0, 1) := by decide +kernel
theorem dL_law_586 : decode cL_law 586 = .ok (.iaload, 1) := by decide +kernel
theorem dL_law_587 : decode cL_law 587 = .ok (.if_icmp .eq 5, 3) := by decide +kernel
theorem dL_law_590 : decode cL_law 590 = .ok (.iconst 0, 1) := by decide +kernel
theorem dL_law_591 : decode cL_law 591 = .ok (.ireturn, 1) := by decide +kernel
theorem dL_law_592 : decode cL_law 592 = .ok (.aload_n 2, 1) := by decide +kernel
theorem dL_law_593 : decode cL_law 593 = .ok (.iconst 0, 1) := by decide +kernel
theorem dL_law_594 : decode cL_law 594 = .ok (.iload 19, 2) := by decide +kernel
theorem dL_law_596 : decode cL_law 596 = .ok (.iastore, 1) := by decide +kernel
theorem dL_law_597 : decode cL_law 597 = .ok (.goto 736, 3) := by decide +kernel
theorem dL_law_600 : decode cL_law 600 = .ok (.iload 10, 2) := by decide +kernel
theorem dL_law_602 : decode cL_law 602 = .ok (.iconst 4, 1) := by decide +kernel
theorem dL_law_603 : decode cL_law 603 = .ok (.if_icmp .ne 64, 3) := by decide +kernel
theorem dL_law_606 : decode cL_law 606 = .ok (.iload 9, 2) := by decide +kernel
theorem dL_law_608 : decode cL_law 608 = .ok (.iconst 3, 1) := by decide +kernel
theorem dL_law_609 : decode cL_law 609 = .ok (.ishr, 1) := by decide +kernel
theorem dL_law_610 : decode cL_law 610 = .ok (.bipush 100, 2) := by decide +kernel
theorem dL_law_612 : decode cL_law 612 = .ok (.invokestatic 79, 3) := by decide +kernel
theorem dL_law_615 : decode cL_law 615 = .ok (.istore 19, 2) := by decide +kernel
theorem dL_law_617 : decode cL_law 617 = .ok (.aload_n 1, 1) := by decide +kernel
theorem dL_law_618 : decode cL_law 618 = .ok (.iload 11, 2) := by decide +kernel
theorem dL_law_620 : decode cL_law 620 = .ok (.iload 19, 2) := by decide +kernel
theorem dL_law_622 : decode cL_law 622 = .ok (.invokevirtual 96, 3) := by decide +kernel
theorem dL_law_625 : decode cL_law 625 = .ok (.iload 15, 2) := by decide +kernel
theorem dL_law_627 : decode cL_law 627 = .ok (.ifCond .eq 13, 3) := by decide +kernel
theorem dL_law_630 : decode cL_law 630 = .ok (.aload_n 2, 1) := by decide +kernel
theorem dL_law_631 : decode cL_law 631 = .ok (.bipush 9, 2) := by decide +kernel
theorem dL_law_633 : decode cL_law 633 = .ok (.iload 11, 2) := by decide +kernel
theorem dL_law_635 : decode cL_law 635 = .ok (.iadd, 1) := by decide +kernel
theorem dL_law_636 : decode cL_law 636 = .ok (.iaload, 1) := by decide +kernel
theorem dL_law_637 : decode cL_law 637 = .ok (.goto 4, 3) := by decide +kernel
theorem dL_law_640 : decode cL_law 640 = .ok (.iconst (-1), 1) := by decide +kernel
theorem dL_law_641 : decode cL_law 641 = .ok (.if_icmp .eq 5, 3) := by decide +kernel
theorem dL_law_644 : decode cL_law 644 = .ok (.iconst 0, 1) := by decide +kernel
theorem dL_law_645 : decode cL_law 645 = .ok (.ireturn, 1) := by decide +kernel
theorem dL_law_646 : decode cL_law 646 = .ok (.aload_n 2, 1) := by decide +kernel
theorem dL_law_647 : decode cL_law 647 = .ok (.bipush 9, 2) := by decide +kernel
theorem dL_law_649 : decode cL_law 649 = .ok (.iload 11, 2) := by decide +kernel
theorem dL_law_651 : decode cL_law 651 = .ok (.iadd, 1) := by decide +kernel
theorem dL_law_652 : decode cL_law 652 = .ok (.iload 15, 2) := by decide +kernel
theorem dL_law_654 : decode cL_law 654 = .ok (.ifCond .eq 8, 3) := by decide +kernel
theorem dL_law_657 : decode cL_law 657 = .ok (.iload 19, 2) := by decide +kernel
theorem dL_law_659 : decode cL_law 659 = .ok (.goto 4, 3) := by decide +kernel
theorem dL_law_662 : decode cL_law 662 = .ok (.iconst (-1), 1) := by decide +kernel
theorem dL_law_663 : decode cL_law 663 = .ok (.iastore, 1) := by decide +kernel
theorem dL_law_664 : decode cL_law 664 = .ok (.goto 669, 3) := by decide +kernel
theorem dL_law_667 : decode cL_law 667 = .ok (.iload 10, 2) := by decide +kernel
theorem dL_law_669 : decode cL_law 669 = .ok (.bipush 10, 2) := by decide +kernel
theorem dL_law_671 : decode cL_law 671 = .ok (.if_icmp .ge 102, 3) := by decide +kernel
theorem dL_law_674 : decode cL_law 674 = .ok (.iload 8, 2) := by decide +kernel
theorem dL_law_676 : decode cL_law 676 = .ok (.bipush 6, 2) := by decide +kernel
theorem dL_law_678 : decode cL_law 678 = .ok (.ishr, 1) := by decide +kernel
theorem dL_law_679 : decode cL_law 679 = .ok (.iconst 3, 1) := by decide +kernel
theorem dL_law_680 : decode cL_law 680 = .ok (.invokestatic 79, 3) := by decide +kernel
theorem dL_law_683 : decode cL_law 683 = .ok (.ifCond .ne 16, 3) := by decide +kernel
theorem dL_law_686 : decode cL_law 686 = .ok (.iload 8, 2) := by decide +kernel
theorem dL_law_688 : decode cL_law 688 = .ok (.bipush 8, 2) := by decide +kernel
theorem dL_law_690 : decode cL_law 690 = .ok (.ishr, 1) := by decide +kernel
theorem dL_law_691 : decode cL_law 691 = .ok (.bipush 100, 2) := by decide +kernel
theorem dL_law_693 : decode cL_law 693 = .ok (.invokestatic 79, 3) := by decide +kernel
theorem dL_law_696 : decode cL_law 696 = .ok (.goto 13, 3) := by decide +kernel
theorem dL_law_699 : decode cL_law 699 = .ok (.iload 8, 2) := by decide +kernel
theorem dL_law_701 : decode cL_law 701 = .ok (.bipush 8, 2) := by decide +kernel
theorem dL_law_703 : decode cL_law 703 = .ok (.ishr, 1) := by decide +kernel
theorem dL_law_704 : decode cL_law 704 = .ok (.bipush 12, 2) := by decide +kernel
theorem dL_law_706 : decode cL_law 706 = .ok (.invokestatic 79, 3) := by decide +kernel
theorem dL_law_709 : decode cL_law 709 = .ok (.istore 19, 2) := by decide +kernel
theorem dL_law_711 : decode cL_law 711 = .ok (.aload_n 1, 1) := by decide +kernel
theorem dL_law_712 : decode cL_law 712 = .ok (.iload 11, 2) := by decide +kernel
theorem dL_law_714 : decode cL_law 714 = .ok (.iload 13, 2) := by decide +kernel
theorem dL_law_716 : decode cL_law 716 = .ok (.iload 14, 2) := by decide +kernel
theorem dL_law_718 : decode cL_law 718 = .ok (.iload 19, 2) := by decide +kernel
theorem dL_law_720 : decode cL_law 720 = .ok (.invokevirtual 99, 3) := by decide +kernel
theorem dL_law_723 : decode cL_law 723 = .ok (.iload 15, 2) := by decide +kernel
theorem dL_law_725 : decode cL_law 725 = .ok (.ifCond .eq 17, 3) := by decide +kernel
theorem dL_law_728 : decode cL_law 728 = .ok (.aload 17, 2) := by decide +kernel
theorem dL_law_730 : decode cL_law 730 = .ok (.bipush 10, 2) := by decide +kernel
theorem dL_law_732 : decode cL_law 732 = .ok (.iload 13, 2) := by decide +kernel
theorem dL_law_734 : decode cL_law 734 = .ok (.imul, 1) := by decide +kernel
theorem dL_law_735 : decode cL_law 735 = .ok (.iload 14, 2) := by decide +kernel
theorem dL_law_737 : decode cL_law 737 = .ok (.iadd, 1) := by decide +kernel
theorem dL_law_738 : decode cL_law 738 = .ok (.iaload, 1) := by decide +kernel
theorem dL_law_739 : decode cL_law 739 = .ok (.goto 4, 3) := by decide +kernel
theorem dL_law_742 : decode cL_law 742 = .ok (.iconst (-1), 1) := by decide +kernel
theorem dL_law_743 : decode cL_law 743 = .ok (.if_icmp .eq 5, 3) := by decide +kernel
theorem dL_law_746 : decode cL_law 746 = .ok (.iconst 0, 1) := by decide +kernel
theorem dL_law_747 : decode cL_law 747 = .ok (.ireturn, 1) := by decide +kernel
theorem dL_law_748 : decode cL_law 748 = .ok (.aload 17, 2) := by decide +kernel
theorem dL_law_750 : decode cL_law 750 = .ok (.bipush 10, 2) := by decide +kernel
theorem dL_law_752 : decode cL_law 752 = .ok (.iload 13, 2) := by decide +kernel
theorem dL_law_754 : decode cL_law 754 = .ok (.imul, 1) := by decide +kernel
theorem dL_law_755 : decode cL_law 755 = .ok (.iload 14, 2) := by decide +kernel
theorem dL_law_757 : decode cL_law 757 = .ok (.iadd, 1) := by decide +kernel
theorem dL_law_758 : decode cL_law 758 = .ok (.iload 15, 2) := by decide +kernel
theorem dL_law_760 : decode cL_law 760 = .ok (.ifCond .eq 8, 3) := by decide +kernel
theorem dL_law_763 : decode cL_law 763 = .ok (.iload 19, 2) := by decide +kernel
theorem dL_law_765 : decode cL_law 765 = .ok (.goto 4, 3) := by decide +kernel
theorem dL_law_768 : decode cL_law 768 = .ok (.iconst 0, 1) := by decide +kernel
theorem dL_law_769 : decode cL_law 769 = .ok (.iastore, 1) := by decide +kernel
theorem dL_law_770 : decode cL_law 770 = .ok (.goto 563, 3) := by decide +kernel
theorem dL_law_773 : decode cL_law 773 = .ok (.iload 10, 2) := by decide +kernel
theorem dL_law_775 : decode cL_law 775 = .ok (.bipush 19, 2) := by decide +kernel
theorem dL_law_777 : decode cL_law 777 = .ok (.if_icmp .ge 234, 3) := by decide +kernel
theorem dL_law_780 : decode cL_law 780 = .ok (.iload 16, 2) := by decide +kernel
theorem dL_law_782 : decode cL_law 782 = .ok (.ifCond .eq 23, 3) := by decide +kernel
theorem dL_law_785 : decode cL_law 785 = .ok (.iload 11, 2) := by decide +kernel
theorem dL_law_787 : decode cL_law 787 = .ok (.iload 12, 2) := by decide +kernel
theorem dL_law_789 : decode cL_law 789 = .ok (.if_icmp .eq 16, 3) := by decide +kernel
theorem dL_law_792 : decode cL_law 792 = .ok (.iload 13, 2) := by decide +kernel
theorem dL_law_794 : decode cL_law 794 = .ok (.aload 17, 2) := by decide +kernel
theorem dL_law_796 : decode cL_law 796 = .ok (.invokestatic 16, 3) := by decide +kernel
theorem dL_law_799 : decode cL_law 799 = .ok (.ifCond .ge 6, 3) := by decide +kernel
theorem dL_law_802 : decode cL_law 802 = .ok (.goto 548, 3) := by decide +kernel
theorem dL_law_805 : decode cL_law 805 = .ok (.iload 16, 2) := by decide +kernel
theorem dL_law_807 : decode cL_law 807 = .ok (.ifCond .ne 7, 3) := by decide +kernel
theorem dL_law_810 : decode cL_law 810 = .ok (.iconst (-1), 1) := by decide +kernel
theorem dL_law_811 : decode cL_law 811 = .ok (.goto 16, 3) := by decide +kernel
theorem dL_law_814 : decode cL_law 814 = .ok (.iload 11, 2) := by decide +kernel
theorem dL_law_816 : decode cL_law 816 = .ok (.iload 12, 2) := by decide +kernel
theorem dL_law_818 : decode cL_law 818 = .ok (.if_icmp .ne 8, 3) := by decide +kernel
theorem dL_law_821 : decode cL_law 821 = .ok (.bipush (-3), 2) := by decide +kernel
theorem dL_law_823 : decode cL_law 823 = .ok (.goto 4, 3) := by decide +kernel
theorem dL_law_826 : decode cL_law 826 = .ok (.iconst 0, 1) := by decide +kernel
theorem dL_law_827 : decode cL_law 827 = .ok (.istore 19, 2) := by decide +kernel
theorem dL_law_829 : decode cL_law 829 = .ok (.aload_n 1, 1) := by decide +kernel
theorem dL_law_830 : decode cL_law 830 = .ok (.iload 11, 2) := by decide +kernel
theorem dL_law_832 : decode cL_law 832 = .ok (.iload 12, 2) := by decide +kernel
theorem dL_law_834 : decode cL_law 834 = .ok (.iload 13, 2) := by decide +kernel
theorem dL_law_836 : decode cL_law 836 = .ok (.iconst 0, 1) := by decide +kernel
theorem dL_law_837 : decode cL_law 837 = .ok (.invokevirtual 103, 3) := by decide +kernel
theorem dL_law_840 : decode cL_law 840 = .ok (.istore 20, 2) := by decide +kernel
theorem dL_law_842 : decode cL_law 842 = .ok (.aload_n 1, 1) := by decide +kernel
theorem dL_law_843 : decode cL_law 843 = .ok (.iload 11, 2) := by decide +kernel
theorem dL_law_845 : decode cL_law 845 = .ok (.iload 12, 2) := by decide +kernel
theorem dL_law_847 : decode cL_law 847 = .ok (.iload 13, 2) := by decide +kernel
theorem dL_law_849 : decode cL_law 849 = .ok (.iconst 1, 1) := by decide +kernel
theorem dL_law_850 : decode cL_law 850 = .ok (.invokevirtual 103, 3) := by decide +kernel
theorem dL_law_853 : decode cL_law 853 = .ok (.istore 21, 2) := by decide +kernel
theorem dL_law_855 : decode cL_law 855 = .ok (.aload_n 1, 1) := by decide +kernel
theorem dL_law_856 : decode cL_law 856 = .ok (.iload 11, 2) := by decide +kernel
theorem dL_law_858 : decode cL_law 858 = .ok (.iload 12, 2) := by decide +kernel
theorem dL_law_860 : decode cL_law 860 = .ok (.iload 13, 2) := by decide +kernel
theorem dL_law_862 : decode cL_law 862 = .ok (.iconst 2, 1) := by decide +kernel
theorem dL_law_863 : decode cL_law 863 = .ok (.invokevirtual 103, 3) := by decide +kernel
theorem dL_law_866 : decode cL_law 866 = .ok (.istore 22, 2) := by decide +kernel
theorem dL_law_868 : decode cL_law 868 = .ok (.aload_n 1, 1) := by decide +kernel
theorem dL_law_869 : decode cL_law 869 = .ok (.iload 11, 2) := by decide +kernel
theorem dL_law_871 : decode cL_law 871 = .ok (.iload 12, 2) := by decide +kernel
theorem dL_law_873 : decode cL_law 873 = .ok (.iload 13, 2) := by decide +kernel
theorem dL_law_875 : decode cL_law 875 = .ok (.iconst 3, 1) := by decide +kernel
theorem dL_law_876 : decode cL_law 876 = .ok (.invokevirtual 103, 3) := by decide +kernel
theorem dL_law_879 : decode cL_law 879 = .ok (.istore 23, 2) := by decide +kernel
theorem dL_law_881 : decode cL_law 881 = .ok (.iload 19, 2) := by decide +kernel
theorem dL_law_883 : decode cL_law 883 = .ok (.ifCond .ne 19, 3) := by decide +kernel
theorem dL_law_886 : decode cL_law 886 = .ok (.iload 11, 2) := by decide +kernel
theorem dL_law_888 : decode cL_law 888 = .ok (.iload 12, 2) := by decide +kernel
theorem dL_law_890 : decode cL_law 890 = .ok (.iload 13, 2) := by decide +kernel
theorem dL_law_892 : decode cL_law 892 = .ok (.aload_n 2, 1) := by decide +kernel
theorem dL_law_893 : decode cL_law 893 = .ok (.aload 17, 2) := by decide +kernel
theorem dL_law_895 : decode cL_law 895 = .ok (.aload 18, 2) := by decide +kernel
theorem dL_law_897 : decode cL_law 897 = .ok (.invokestatic 106, 3) := by decide +kernel
theorem dL_law_900 : decode cL_law 900 = .ok (.istore 19, 2) := by decide +kernel
theorem dL_law_902 : decode cL_law 902 = .ok (.aload_n 1, 1) := by decide +kernel
theorem dL_law_903 : decode cL_law 903 = .ok (.iload 11, 2) := by decide +kernel
theorem dL_law_905 : decode cL_law 905 = .ok (.iload 12, 2) := by decide +kernel
theorem dL_law_907 : decode cL_law 907 = .ok (.iload 13, 2) := by decide +kernel
theorem dL_law_909 : decode cL_law 909 = .ok (.invokevirtual 110, 3) := by decide +kernel
theorem dL_law_912 : decode cL_law 912 = .ok (.iload 19, 2) := by decide +kernel
theorem dL_law_914 : decode cL_law 914 = .ok (.if_icmp .eq 5, 3) := by decide +kernel
theorem dL_law_917 : decode cL_law 917 = .ok (.iconst 0, 1) := by decide +kernel
theorem dL_law_918 : decode cL_law 918 = .ok (.ireturn, 1) := by decide +kernel
theorem dL_law_919 : decode cL_law 919 = .ok (.iload 19, 2) := by decide +kernel
theorem dL_law_921 : decode cL_law 921 = .ok (.ifCond .ge 34, 3) := by decide +kernel
theorem dL_law_924 : decode cL_law 924 = .ok (.iload 20, 2) := by decide +kernel
theorem dL_law_926 : decode cL_law 926 = .ok (.iload 19, 2) := by decide +kernel
theorem dL_law_928 : decode cL_law 928 = .ok (.if_icmp .ne 78, 3) := by decide +kernel
theorem dL_law_931 : decode cL_law 931 = .ok (.iload 21, 2) := by decide +kernel
theorem dL_law_933 : decode cL_law 933 = .ok (.iload 19, 2) := by decide +kernel
theorem dL_law_935 : decode cL_law 935 = .ok (.if_icmp .ne 71, 3) := by decide +kernel
theorem dL_law_938 : decode cL_law 938 = .ok (.iload 22, 2) := by decide +kernel
theorem dL_law_940 : decode cL_law 940 = .ok (.iload 19, 2) := by decide +kernel
theorem dL_law_942 : decode cL_law 942 = .ok (.if_icmp .ne 64, 3) := by decide +kernel
theorem dL_law_945 : decode cL_law 945 = .ok (.iload 23, 2) := by decide +kernel
theorem dL_law_947 : decode cL_law 947 = .ok (.iload 19, 2) := by decide +kernel
theorem dL_law_949 : decode cL_law 949 = .ok (.if_icmp .eq 59, 3) := by decide +kernel
theorem dL_law_952 : decode cL_law 952 = .ok (.goto 54, 3) := by decide +kernel
theorem dL_law_955 : decode cL_law 955 = .ok (.iload 20, 2) := by decide +kernel
theorem dL_law_957 : decode cL_law 957 = .ok (.iload 19, 2) := by decide +kernel
theorem dL_law_959 : decode cL_law 959 = .ok (.bipush 10, 2) := by decide +kernel
theorem dL_law_961 : decode cL_law 961 = .ok (.idiv, 1) := by decide +kernel
theorem dL_law_962 : decode cL_law 962 = .ok (.if_icmp .ne 44, 3) := by decide +kernel
theorem dL_law_965 : decode cL_law 965 = .ok (.iload 21, 2) := by decide +kernel
theorem dL_law_967 : decode cL_law 967 = .ok (.iload 19, 2) := by decide +kernel
theorem dL_law_969 : decode cL_law 969 = .ok (.bipush 10, 2) := by decide +kernel
theorem dL_law_971 : decode cL_law 971 = .ok (.irem, 1) := by decide +kernel
theorem dL_law_972 : decode cL_law 972 = .ok (.if_icmp .ne 34, 3) := by decide +kernel
theorem dL_law_975 : decode cL_law 975 = .ok (.iload 22, 2) := by decide +kernel
theorem dL_law_977 : decode cL_law 977 = .ok (.iload 21, 2) := by decide +kernel
theorem dL_law_979 : decode cL_law 979 = .ok (.iload 13, 2) := by decide +kernel
theorem dL_law_981 : decode cL_law 981 = .ok (.if_icmp .ne 7, 3) := by decide +kernel
theorem dL_law_984 : decode cL_law 984 = .ok (.iconst 1, 1) := by decide +kernel
theorem dL_law_985 : decode cL_law 985 = .ok (.goto 4, 3) := by decide +kernel
theorem dL_law_988 : decode cL_law 988 = .ok (.iconst 0, 1) := by decide +kernel
theorem dL_law_989 : decode cL_law 989 = .ok (.if_icmp .ne 17, 3) := by decide +kernel
theorem dL_law_992 : decode cL_law 992 = .ok (.iload 23, 2) := by decide +kernel
theorem dL_law_994 : decode cL_law 994 = .ok (.aload_n 1, 1) := by decide +kernel
theorem dL_law_995 : decode cL_law 995 = .ok (.iload 11, 2) := by decide +kernel
theorem dL_law_997 : decode cL_law 997 = .ok (.iload 12, 2) := by decide +kernel
theorem dL_law_999 : decode cL_law 999 = .ok (.iconst 0, 1) := by decide +kernel
theorem dL_law_1000 : decode cL_law 1000 = .ok (.invokevirtual 55, 3) := by decide +kernel
theorem dL_law_1003 : decode cL_law 1003 = .ok (.if_icmp .eq 5, 3) := by decide +kernel
theorem dL_law_1006 : decode cL_law 1006 = .ok (.iconst 0, 1) := by decide +kernel
theorem dL_law_1007 : decode cL_law 1007 = .ok (.ireturn, 1) := by decide +kernel
theorem dL_law_1008 : decode cL_law 1008 = .ok (.goto 325, 3) := by decide +kernel
theorem dL_law_1011 : decode cL_law 1011 = .ok (.iconst 1, 1) := by decide +kernel
theorem dL_law_1012 : decode cL_law 1012 = .ok (.iload 9, 2) := by decide +kernel
theorem dL_law_1014 : decode cL_law 1014 = .ok (.iload 8, 2) := by decide +kernel
theorem dL_law_1016 : decode cL_law 1016 = .ok (.bipush 6, 2) := by decide +kernel
theorem dL_law_1018 : decode cL_law 1018 = .ok (.ishr, 1) := by decide +kernel
theorem dL_law_1019 : decode cL_law 1019 = .ok (.iconst 3, 1) := by decide +kernel
theorem dL_law_1020 : decode cL_law 1020 = .ok (.invokestatic 79, 3) := by decide +kernel
theorem dL_law_1023 : decode cL_law 1023 = .ok (.ifCond .ne 8, 3) := by decide +kernel
theorem dL_law_1026 : decode cL_law 1026 = .ok (.bipush 99, 2) := by decide +kernel
theorem dL_law_1028 : decode cL_law 1028 = .ok (.goto 5, 3) := by decide +kernel
theorem dL_law_1031 : decode cL_law 1031 = .ok (.bipush 12, 2) := by decide +kernel
theorem dL_law_1033 : decode cL_law 1033 = .ok (.invokestatic 79, 3) := by decide +kernel
theorem dL_law_1036 : decode cL_law 1036 = .ok (.iadd, 1) := by decide +kernel
theorem dL_law_1037 : decode cL_law 1037 = .ok (.istore 19, 2) := by decide +kernel
theorem dL_law_1039 : decode cL_law 1039 = .ok (.iconst 0, 1) := by decide +kernel
theorem dL_law_1040 : decode cL_law 1040 = .ok (.istore 20, 2) := by decide +kernel
theorem dL_law_1042 : decode cL_law 1042 = .ok (.iconst 0, 1) := by decide +kernel
theorem dL_law_1043 : decode cL_law 1043 = .ok (.istore 21, 2) := by decide +kernel
theorem dL_law_1045 : decode cL_law 1045 = .ok (.iload 21, 2) := by decide +kernel
theorem dL_law_1047 : decode cL_law 1047 = .ok (.iload 19, 2) := by decide +kernel
theorem dL_law_1049 : decode cL_law 1049 = .ok (.if_icmp .ge 255, 3) := by decide +kernel
theorem dL_law_1052 : decode cL_law 1052 = .ok (.iconst 0, 1) := by decide +kernel
theorem dL_law_1053 : decode cL_law 1053 = .ok (.istore 22, 2) := by decide +kernel
theorem dL_law_1055 : decode cL_law 1055 = .ok (.iload 22, 2) := by decide +kernel
theorem dL_law_1057 : decode cL_law 1057 = .ok (.iconst 4, 1) := by decide +kernel
theorem dL_law_1058 : decode cL_law 1058 = .ok (.if_icmp .ge 34, 3) := by decide +kernel
theorem dL_law_1061 : decode cL_law 1061 = .ok (.aload_n 2, 1) := by decide +kernel
theorem dL_law_1062 : decode cL_law 1062 = .ok (.bipush 9, 2) := by decide +kernel
theorem dL_law_1064 : decode cL_law 1064 = .ok (.iload 22, 2) := by decide +kernel
theorem dL_law_1066 : decode cL_law 1066 = .ok (.iadd, 1) := by decide +kernel
theorem dL_law_1067 : decode cL_law 1067 = .ok (.dup2, 1) := by decide +kernel
theorem dL_law_1068 : decode cL_law 1068 = .ok (.iaload, 1) := by decide +kernel
theorem dL_law_1069 : decode cL_law 1069 = .ok (.aload_n 2, 1) := by decide +kernel
theorem dL_law_1070 : decode cL_law 1070 = .ok (.bipush 9, 2) := by decide +kernel
theorem dL_law_1072 : decode cL_law 1072 = .ok (.iload 22, 2) := by decide +kernel
theorem dL_law_1074 : decode cL_law 1074 = .ok (.iadd, 1) := by decide +kernel
theorem dL_law_1075 : decode cL_law 1075 = .ok (.iaload, 1) := by decide +kernel
theorem dL_law_1076 : decode cL_law 1076 = .ok (.ifCond .ge 7, 3) := by decide +kernel
theorem dL_law_1079 : decode cL_law 1079 = .ok (.iconst 0, 1) := by decide +kernel
theorem dL_law_1080 : decode cL_law 1080 = .ok (.goto 4, 3) := by decide +kernel
theorem dL_law_1083 : decode cL_law 1083 = .ok (.iconst 1, 1) := by decide +kernel
theorem dL_law_1084 : decode cL_law 1084 = .ok (.iadd, 1) := by decide +kernel
theorem dL_law_1085 : decode cL_law 1085 = .ok (.iastore, 1) := by decide +kernel
theorem dL_law_1086 : decode cL_law 1086 = .ok (.iinc 22 1, 3) := by decide +kernel
theorem dL_law_1089 : decode cL_law 1089 = .ok (.goto (-34), 3) := by decide +kernel
theorem dL_law_1092 : decode cL_law 1092 = .ok (.iconst 0, 1) := by decide +kernel
theorem dL_law_1093 : decode cL_law 1093 = .ok (.istore 22, 2) := by decide +kernel
theorem dL_law_1095 : decode cL_law 1095 = .ok (.iload 22, 2) := by decide +kernel
theorem dL_law_1097 : decode cL_law 1097 = .ok (.iconst 4, 1) := by decide +kernel
theorem dL_law_1098 : decode cL_law 1098 = .ok (.if_icmp .ge 200, 3) := by decide +kernel
theorem dL_law_1101 : decode cL_law 1101 = .ok (.aload_n 2, 1) := by decide +kernel
theorem dL_law_1102 : decode cL_law 1102 = .ok (.bipush 9, 2) := by decide +kernel
theorem dL_law_1104 : decode cL_law 1104 = .ok (.iload 22, 2) := by decide +kernel
theorem dL_law_1106 : decode cL_law 1106 = .ok (.iadd, 1) := by decide +kernel
theorem dL_law_1107 : decode cL_law 1107 = .ok (.iaload, 1) := by decide +kernel
theorem dL_law_1108 : decode cL_law 1108 = .ok (.aload_n 2, 1) := by decide +kernel
theorem dL_law_1109 : decode cL_law 1109 = .ok (.bipush 7, 2) := by decide +kernel
theorem dL_law_1111 : decode cL_law 1111 = .ok (.iaload, 1) := by decide +kernel
theorem dL_law_1112 : decode cL_law 1112 = .ok (.if_icmp .gt 6, 3) := by decide +kernel
theorem dL_law_1115 : decode cL_law 1115 = .ok (.goto 177, 3) := by decide +kernel
theorem dL_law_1118 : decode cL_law 1118 = .ok (.iconst (-1), 1) := by decide +kernel
theorem dL_law_1119 : decode cL_law 1119 = .ok (.istore 23, 2) := by decide +kernel
theorem dL_law_1121 : decode cL_law 1121 = .ok (.iconst 3, 1) := by decide +kernel
theorem dL_law_1122 : decode cL_law 1122 = .ok (.istore 24, 2) := by decide +kernel
theorem dL_law_1124 : decode cL_law 1124 = .ok (.iload 24, 2) := by decide +kernel
theorem dL_law_1126 : decode cL_law 1126 = .ok (.ifCond .lt 66, 3) := by decide +kernel
theorem dL_law_1129 : decode cL_law 1129 = .ok (.iload 24, 2) := by decide +kernel
theorem dL_law_1131 : decode cL_law 1131 = .ok (.iload 22, 2) := by decide +kernel
theorem dL_law_1133 : decode cL_law 1133 = .ok (.if_icmp .eq 53, 3) := by decide +kernel
theorem dL_law_1136 : decode cL_law 1136 = .ok (.aload_n 2, 1) := by decide +kernel
theorem dL_law_1137 : decode cL_law 1137 = .ok (.bipush 9, 2) := by decide +kernel
theorem dL_law_1139 : decode cL_law 1139 = .ok (.iload 24, 2) := by decide +kernel
theorem dL_law_1141 : decode cL_law 1141 = .ok (.iadd, 1) := by decide +kernel
theorem dL_law_1142 : decode cL_law 1142 = .ok (.iaload, 1) := by decide +kernel
theorem dL_law_1143 : decode cL_law 1143 = .ok (.ifCond .lt 43, 3) := by decide +kernel
theorem dL_law_1146 : decode cL_law 1146 = .ok (.aload_n 2, 1) := by decide +kernel
theorem dL_law_1147 : decode cL_law 1147 = .ok (.bipush 9, 2) := by decide +kernel
theorem dL_law_1149 : decode cL_law 1149 = .ok (.iload 24, 2) := by decide +kernel
theorem dL_law_1151 : decode cL_law 1151 = .ok (.iadd, 1) := by decide +kernel
theorem dL_law_1152 : decode cL_law 1152 = .ok (.iaload, 1) := by decide +kernel
theorem dL_law_1153 : decode cL_law 1153 = .ok (.aload_n 2, 1) := by decide +kernel
theorem dL_law_1154 : decode cL_law 1154 = .ok (.bipush 7, 2) := by decide +kernel
theorem dL_law_1156 : decode cL_law 1156 = .ok (.iaload, 1) := by decide +kernel
theorem dL_law_1157 : decode cL_law 1157 = .ok (.if_icmp .gt 29, 3) := by decide +kernel
theorem dL_law_1160 : decode cL_law 1160 = .ok (.iload 23, 2) := by decide +kernel
theorem dL_law_1162 : decode cL_law 1162 = .ok (.ifCond .lt 20, 3) := by decide +kernel
theorem dL_law_1165 : decode cL_law 1165 = .ok (.aload_n 2, 1) := by decide +kernel
theorem dL_law_1166 : decode cL_law 1166 = .ok (.bipush 9, 2) := by decide +kernel
theorem dL_law_1168 : decode cL_law 1168 = .ok (.iload 24, 2) := by decide +kernel
theorem dL_law_1170 : decode cL_law 1170 = .ok (.iadd, 1) := by decide +kernel
theorem dL_law_1171 : decode cL_law 1171 = .ok (.iaload, 1) := by decide +kernel
theorem dL_law_1172 : decode cL_law 1172 = .ok (.aload_n 2, 1) := by decide +kernel
theorem dL_law_1173 : decode cL_law 1173 = .ok (.bipush 9, 2) := by decide +kernel
theorem dL_law_1175 : decode cL_law 1175 = .ok (.iload 23, 2) := by decide +kernel
theorem dL_law_1177 : decode cL_law 1177 = .ok (.iadd, 1) := by decide +kernel
theorem dL_law_1178 : decode cL_law 1178 = .ok (.iaload, 1) := by decide +kernel
theorem dL_law_1179 : decode cL_law 1179 = .ok (.if_icmp .gt 7, 3) := by decide +kernel
theorem dL_law_1182 : decode cL_law 1182 = .ok (.iload 24, 2) := by decide +kernel
theorem dL_law_1184 : decode cL_law 1184 = .ok (.istore 23, 2) := by decide +kernel
theorem dL_law_1186 : decode cL_law 1186 = .ok (.iinc 24 (-1), 3) := by decide +kernel
theorem dL_law_1189 : decode cL_law 1189 = .ok (.goto (-65), 3) := by decide +kernel
theorem dL_law_1192 : decode cL_law 1192 = .ok (.iload 22, 2) := by decide +kernel
theorem dL_law_1194 : decode cL_law 1194 = .ok (.aload_n 3, 1) := by decide +kernel
theorem dL_law_1195 : decode cL_law 1195 = .ok (.aload 4, 2) := by decide +kernel
theorem dL_law_1197 : decode cL_law 1197 = .ok (.aload 5, 2) := by decide +kernel
theorem dL_law_1199 : decode cL_law 1199 = .ok (.aload 6, 2) := by decide +kernel
theorem dL_law_1201 : decode cL_law 1201 = .ok (.invokestatic 35, 3) := by decide +kernel
theorem dL_law_1204 : decode cL_law 1204 = .ok (.astore 24, 2) := by decide +kernel
theorem dL_law_1206 : decode cL_law 1206 = .ok (.iload 23, 2) := by decide +kernel
theorem dL_law_1208 : decode cL_law 1208 = .ok (.ifCond .ge 8, 3) := by decide +kernel
theorem dL_law_1211 : decode cL_law 1211 = .ok (.aload 24, 2) := by decide +kernel
theorem dL_law_1213 : decode cL_law 1213 = .ok (.goto 15, 3) := by decide +kernel
theorem dL_law_1216 : decode cL_law 1216 = .ok (.iload 23, 2) := by decide +kernel
theorem dL_law_1218 : decode cL_law 1218 = .ok (.aload_n 3, 1) := by decide +kernel
theorem dL_law_1219 : decode cL_law 1219 = .ok (.aload 4, 2) := by decide +kernel
theorem dL_law_1221 : decode cL_law 1221 = .ok (.aload 5, 2) := by decide +kernel
theorem dL_law_1223 : decode cL_law 1223 = .ok (.aload 6, 2) := by decide +kernel
theorem dL_law_1225 : decode cL_law 1225 = .ok (.invokestatic 35, 3) := by decide +kernel
theorem dL_law_1228 : decode cL_law 1228 = .ok (.astore 25, 2) := by decide +kernel
theorem dL_law_1230 : decode cL_law 1230 = .ok (.iconst 0, 1) := by decide +kernel
theorem dL_law_1231 : decode cL_law 1231 = .ok (.istore 26, 2) := by decide +kernel
theorem dL_law_1233 : decode cL_law 1233 = .ok (.iload 26, 2) := by decide +kernel
theorem dL_law_1235 : decode cL_law 1235 = .ok (.bipush 60, 2) := by decide +kernel
theorem dL_law_1237 : decode cL_law 1237 = .ok (.if_icmp .ge 36, 3) := by decide +kernel
theorem dL_law_1240 : decode cL_law 1240 = .ok (.aload 24, 2) := by decide +kernel
theorem dL_law_1242 : decode cL_law 1242 = .ok (.iload 26, 2) := by decide +kernel
theorem dL_law_1244 : decode cL_law 1244 = .ok (.iload 23, 2) := by decide +kernel
theorem dL_law_1246 : decode cL_law 1246 = .ok (.ifCond .ge 7, 3) := by decide +kernel
theorem dL_law_1249 : decode cL_law 1249 = .ok (.iconst 0, 1) := by decide +kernel
theorem dL_law_1250 : decode cL_law 1250 = .ok (.goto 16, 3) := by decide +kernel
theorem dL_law_1253 : decode cL_law 1253 = .ok (.aload 25, 2) := by decide +kernel
theorem dL_law_1255 : decode cL_law 1255 = .ok (.iload 26, 2) := by decide +kernel
theorem dL_law_1257 : decode cL_law 1257 = .ok (.iaload, 1) := by decide +kernel
theorem dL_law_1258 : decode cL_law 1258 = .ok (.aload_n 2, 1) := by decide +kernel
theorem dL_law_1259 : decode cL_law 1259 = .ok (.bipush 8, 2) := by decide +kernel
theorem dL_law_1261 : decode cL_law 1261 = .ok (.iaload, 1) := by decide +kernel
theorem dL_law_1262 : decode cL_law 1262 = .ok (.imul, 1) := by decide +kernel
theorem dL_law_1263 : decode cL_law 1263 = .ok (.bipush 100, 2) := by decide +kernel
theorem dL_law_1265 : decode cL_law 1265 = .ok (.idiv, 1) := by decide +kernel
theorem dL_law_1266 : decode cL_law 1266 = .ok (.iastore, 1) := by decide +kernel
theorem dL_law_1267 : decode cL_law 1267 = .ok (.iinc 26 1, 3) := by decide +kernel
theorem dL_law_1270 : decode cL_law 1270 = .ok (.goto (-37), 3) := by decide +kernel
theorem dL_law_1273 : decode cL_law 1273 = .ok (.aload_n 2, 1) := by decide +kernel
theorem dL_law_1274 : decode cL_law 1274 = .ok (.bipush 9, 2) := by decide +kernel
theorem dL_law_1276 : decode cL_law 1276 = .ok (.iload 22, 2) := by decide +kernel
theorem dL_law_1278 : decode cL_law 1278 = .ok (.iadd, 1) := by decide +kernel
theorem dL_law_1279 : decode cL_law 1279 = .ok (.iconst 0, 1) := by decide +kernel
theorem dL_law_1280 : decode cL_law 1280 = .ok (.iastore, 1) := by decide +kernel
theorem dL_law_1281 : decode cL_law 1281 = .ok (.aload_n 2, 1) := by decide +kernel
theorem dL_law_1282 : decode cL_law 1282 = .ok (.bipush 13, 2) := by decide +kernel
theorem dL_law_1284 : decode cL_law 1284 = .ok (.iload 22, 2) := by decide +kernel
theorem dL_law_1286 : decode cL_law 1286 = .ok (.iadd, 1) := by decide +kernel
theorem dL_law_1287 : decode cL_law 1287 = .ok (.iconst 0, 1) := by decide +kernel
theorem dL_law_1288 : decode cL_law 1288 = .ok (.iastore, 1) := by decide +kernel
theorem dL_law_1289 : decode cL_law 1289 = .ok (.iinc 20 1, 3) := by decide +kernel
theorem dL_law_1292 : decode cL_law 1292 = .ok (.iinc 22 1, 3) := by decide +kernel
theorem dL_law_1295 : decode cL_law 1295 = .ok (.goto (-200), 3) := by decide +kernel
theorem dL_law_1298 : decode cL_law 1298 = .ok (.iinc 21 1, 3) := by decide +kernel
theorem dL_law_1301 : decode cL_law 1301 = .ok (.goto (-256), 3) := by decide +kernel
theorem dL_law_1304 : decode cL_law 1304 = .ok (.aload_n 2, 1) := by decide +kernel
theorem dL_law_1305 : decode cL_law 1305 = .ok (.iconst 3, 1) := by decide +kernel
theorem dL_law_1306 : decode cL_law 1306 = .ok (.dup2, 1) := by decide +kernel
theorem dL_law_1307 : decode cL_law 1307 = .ok (.iaload, 1) := by decide +kernel
theorem dL_law_1308 : decode cL_law 1308 = .ok (.iload 20, 2) := by decide +kernel
theorem dL_law_1310 : decode cL_law 1310 = .ok (.iadd, 1) := by decide +kernel
theorem dL_law_1311 : decode cL_law 1311 = .ok (.iastore, 1) := by decide +kernel
theorem dL_law_1312 : decode cL_law 1312 = .ok (.aload_n 2, 1) := by decide +kernel
theorem dL_law_1313 : decode cL_law 1313 = .ok (.iconst 4, 1) := by decide +kernel
theorem dL_law_1314 : decode cL_law 1314 = .ok (.dup2, 1) := by decide +kernel
theorem dL_law_1315 : decode cL_law 1315 = .ok (.iaload, 1) := by decide +kernel
theorem dL_law_1316 : decode cL_law 1316 = .ok (.iload 19, 2) := by decide +kernel
theorem dL_law_1318 : decode cL_law 1318 = .ok (.iadd, 1) := by decide +kernel
theorem dL_law_1319 : decode cL_law 1319 = .ok (.iastore, 1) := by decide +kernel
theorem dL_law_1320 : decode cL_law 1320 = .ok (.aload_n 1, 1) := by decide +kernel
theorem dL_law_1321 : decode cL_law 1321 = .ok (.iload 19, 2) := by decide +kernel
theorem dL_law_1323 : decode cL_law 1323 = .ok (.invokevirtual 112, 3) := by decide +kernel
theorem dL_law_1326 : decode cL_law 1326 = .ok (.iload 20, 2) := by decide +kernel
theorem dL_law_1328 : decode cL_law 1328 = .ok (.if_icmp .eq 5, 3) := by decide +kernel
theorem dL_law_1331 : decode cL_law 1331 = .ok (.iconst 0, 1) := by decide +kernel
theorem dL_law_1332 : decode cL_law 1332 = .ok (.ireturn, 1) := by decide +kernel
theorem dL_law_1333 : decode cL_law 1333 = .ok (.aload_n 1, 1) := by decide +kernel
theorem dL_law_1334 : decode cL_law 1334 = .ok (.aload_n 2, 1) := by decide +kernel
theorem dL_law_1335 : decode cL_law 1335 = .ok (.aload_n 3, 1) := by decide +kernel
theorem dL_law_1336 : decode cL_law 1336 = .ok (.aload 4, 2) := by decide +kernel
theorem dL_law_1338 : decode cL_law 1338 = .ok (.aload 5, 2) := by decide +kernel
theorem dL_law_1340 : decode cL_law 1340 = .ok (.aload 6, 2) := by decide +kernel
theorem dL_law_1342 : decode cL_law 1342 = .ok (.invokestatic 115, 3) := by decide +kernel
theorem dL_law_1345 : decode cL_law 1345 = .ok (.ifCond .ne 5, 3) := by decide +kernel
theorem dL_law_1348 : decode cL_law 1348 = .ok (.iconst 0, 1) := by decide +kernel
theorem dL_law_1349 : decode cL_law 1349 = .ok (.ireturn, 1) := by decide +kernel
theorem dL_law_1350 : decode cL_law 1350 = .ok (.iinc 7 1, 3) := by decide +kernel
theorem dL_law_1353 : decode cL_law 1353 = .ok (.goto (-1267), 3) := by decide +kernel
theorem dL_law_1356 : decode cL_law 1356 = .ok (.iconst 1, 1) := by decide +kernel
theorem dL_law_1357 : decode cL_law 1357 = .ok (.ireturn, 1) := by decide +kernel
