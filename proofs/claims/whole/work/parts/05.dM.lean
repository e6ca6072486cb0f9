theorem dX4_init_0 : decode cX4_init 0 = .ok (.aload_n 0, 1) := by decide +kernel
theorem dX4_init_1 : decode cX4_init 1 = .ok (.invokespecial 1, 3) := by decide +kernel
theorem dX4_init_4 : decode cX4_init 4 = .ok (.aload_n 0, 1) := by decide +kernel
theorem dX4_init_5 : decode cX4_init 5 = .ok (.sipush 2256, 3) := by decide +kernel
theorem dX4_init_8 : decode cX4_init 8 = .ok (.newarray .int, 2) := by decide +kernel
theorem dX4_init_10 : decode cX4_init 10 = .ok (.putfield 7, 3) := by decide +kernel
theorem dX4_init_13 : decode cX4_init 13 = .ok (.aload_n 0, 1) := by decide +kernel
theorem dX4_init_14 : decode cX4_init 14 = .ok (.bipush 60, 2) := by decide +kernel
theorem dX4_init_16 : decode cX4_init 16 = .ok (.newarray .int, 2) := by decide +kernel
theorem dX4_init_18 : decode cX4_init 18 = .ok (.putfield 13, 3) := by decide +kernel
theorem dX4_init_21 : decode cX4_init 21 = .ok (.aload_n 0, 1) := by decide +kernel
theorem dX4_init_22 : decode cX4_init 22 = .ok (.getfield 7, 3) := by decide +kernel
theorem dX4_init_25 : decode cX4_init 25 = .ok (.iconst 0, 1) := by decide +kernel
theorem dX4_init_26 : decode cX4_init 26 = .ok (.bipush 63, 2) := by decide +kernel
theorem dX4_init_28 : decode cX4_init 28 = .ok (.iastore, 1) := by decide +kernel
theorem dX4_init_29 : decode cX4_init 29 = .ok (.aload_n 0, 1) := by decide +kernel
theorem dX4_init_30 : decode cX4_init 30 = .ok (.getfield 7, 3) := by decide +kernel
theorem dX4_init_33 : decode cX4_init 33 = .ok (.iconst 2, 1) := by decide +kernel
theorem dX4_init_34 : decode cX4_init 34 = .ok (.iconst 3, 1) := by decide +kernel
theorem dX4_init_35 : decode cX4_init 35 = .ok (.iastore, 1) := by decide +kernel
theorem dX4_init_36 : decode cX4_init 36 = .ok (.return_, 1) := by decide +kernel
theorem dX4_thrown_0 : decode cX4_thrown 0 = .ok (.aload_n 0, 1) := by decide +kernel
theorem dX4_thrown_1 : decode cX4_thrown 1 = .ok (.getfield 16, 3) := by decide +kernel
theorem dX4_thrown_4 : decode cX4_thrown 4 = .ok (.ireturn, 1) := by decide +kernel
theorem dX4_in_0 : decode cX4_in 0 = .ok (.iload_n 0, 1) := by decide +kernel
theorem dX4_in_1 : decode cX4_in 1 = .ok (.iload_n 1, 1) := by decide +kernel
theorem dX4_in_2 : decode cX4_in 2 = .ok (.if_icmp .lt 12, 3) := by decide +kernel
theorem dX4_in_5 : decode cX4_in 5 = .ok (.iload_n 0, 1) := by decide +kernel
theorem dX4_in_6 : decode cX4_in 6 = .ok (.iload_n 2, 1) := by decide +kernel
theorem dX4_in_7 : decode cX4_in 7 = .ok (.if_icmp .gt 7, 3) := by decide +kernel
theorem dX4_in_10 : decode cX4_in 10 = .ok (.iconst 1, 1) := by decide +kernel
theorem dX4_in_11 : decode cX4_in 11 = .ok (.goto 4, 3) := by decide +kernel
theorem dX4_in_14 : decode cX4_in 14 = .ok (.iconst 0, 1) := by decide +kernel
theorem dX4_in_15 : decode cX4_in 15 = .ok (.ireturn, 1) := by decide +kernel
theorem dX4_holds_0 : decode cX4_holds 0 = .ok (.aload_n 0, 1) := by decide +kernel
theorem dX4_holds_1 : decode cX4_holds 1 = .ok (.iload_n 1, 1) := by decide +kernel
theorem dX4_holds_2 : decode cX4_holds 2 = .ok (.putfield 16, 3) := by decide +kernel
theorem dX4_holds_5 : decode cX4_holds 5 = .ok (.iload_n 1, 1) := by decide +kernel
theorem dX4_holds_6 : decode cX4_holds 6 = .ok (.ifCond .ne 7, 3) := by decide +kernel
theorem dX4_holds_9 : decode cX4_holds 9 = .ok (.iconst 1, 1) := by decide +kernel
theorem dX4_holds_10 : decode cX4_holds 10 = .ok (.goto 4, 3) := by decide +kernel
theorem dX4_holds_13 : decode cX4_holds 13 = .ok (.iconst 0, 1) := by decide +kernel
theorem dX4_holds_14 : decode cX4_holds 14 = .ok (.ireturn, 1) := by decide +kernel
theorem dX4_isSite_0 : decode cX4_isSite 0 = .ok (.iload_n 0, 1) := by decide +kernel
theorem dX4_isSite_1 : decode cX4_isSite 1 = .ok (.iconst 0, 1) := by decide +kernel
theorem dX4_isSite_2 : decode cX4_isSite 2 = .ok (.iconst 5, 1) := by decide +kernel
theorem dX4_isSite_3 : decode cX4_isSite 3 = .ok (.invokestatic 20, 3) := by decide +kernel
theorem dX4_isSite_6 : decode cX4_isSite 6 = .ok (.ireturn, 1) := by decide +kernel
theorem dX4_isDeal_0 : decode cX4_isDeal 0 = .ok (.iload_n 1, 1) := by decide +kernel
theorem dX4_isDeal_1 : decode cX4_isDeal 1 = .ok (.iconst 0, 1) := by decide +kernel
theorem dX4_isDeal_2 : decode cX4_isDeal 2 = .ok (.aload_n 0, 1) := by decide +kernel
theorem dX4_isDeal_3 : decode cX4_isDeal 3 = .ok (.getfield 7, 3) := by decide +kernel
theorem dX4_isDeal_6 : decode cX4_isDeal 6 = .ok (.iconst 3, 1) := by decide +kernel
theorem dX4_isDeal_7 : decode cX4_isDeal 7 = .ok (.iaload, 1) := by decide +kernel
theorem dX4_isDeal_8 : decode cX4_isDeal 8 = .ok (.iconst 1, 1) := by decide +kernel
theorem dX4_isDeal_9 : decode cX4_isDeal 9 = .ok (.isub, 1) := by decide +kernel
theorem dX4_isDeal_10 : decode cX4_isDeal 10 = .ok (.invokestatic 20, 3) := by decide +kernel
theorem dX4_isDeal_13 : decode cX4_isDeal 13 = .ok (.ireturn, 1) := by decide +kernel
theorem dX4_of_0 : decode cX4_of 0 = .ok (.aload_n 0, 1) := by decide +kernel
theorem dX4_of_1 : decode cX4_of 1 = .ok (.getfield 7, 3) := by decide +kernel
theorem dX4_of_4 : decode cX4_of 4 = .ok (.iload_n 1, 1) := by decide +kernel
theorem dX4_of_5 : decode cX4_of 5 = .ok (.iconst 4, 1) := by decide +kernel
theorem dX4_of_6 : decode cX4_of 6 = .ok (.iadd, 1) := by decide +kernel
theorem dX4_of_7 : decode cX4_of 7 = .ok (.iconst 4, 1) := by decide +kernel
theorem dX4_of_8 : decode cX4_of 8 = .ok (.iload_n 2, 1) := by decide +kernel
theorem dX4_of_9 : decode cX4_of 9 = .ok (.imul, 1) := by decide +kernel
theorem dX4_of_10 : decode cX4_of 10 = .ok (.iadd, 1) := by decide +kernel
theorem dX4_of_11 : decode cX4_of 11 = .ok (.iload_n 3, 1) := by decide +kernel
theorem dX4_of_12 : decode cX4_of 12 = .ok (.iadd, 1) := by decide +kernel
theorem dX4_of_13 : decode cX4_of 13 = .ok (.iaload, 1) := by decide +kernel
theorem dX4_of_14 : decode cX4_of 14 = .ok (.ireturn, 1) := by decide +kernel
theorem dX4_isUpNow_0 : decode cX4_isUpNow 0 = .ok (.aload_n 0, 1) := by decide +kernel
theorem dX4_isUpNow_1 : decode cX4_isUpNow 1 = .ok (.getfield 7, 3) := by decide +kernel
theorem dX4_isUpNow_4 : decode cX4_isUpNow 4 = .ok (.iload_n 1, 1) := by decide +kernel
theorem dX4_isUpNow_5 : decode cX4_isUpNow 5 = .ok (.iconst 0, 1) := by decide +kernel
theorem dX4_isUpNow_6 : decode cX4_isUpNow 6 = .ok (.iadd, 1) := by decide +kernel
theorem dX4_isUpNow_7 : decode cX4_isUpNow 7 = .ok (.iaload, 1) := by decide +kernel
theorem dX4_isUpNow_8 : decode cX4_isUpNow 8 = .ok (.iload_n 2, 1) := by decide +kernel
theorem dX4_isUpNow_9 : decode cX4_isUpNow 9 = .ok (.ishr, 1) := by decide +kernel
theorem dX4_isUpNow_10 : decode cX4_isUpNow 10 = .ok (.iconst 1, 1) := by decide +kernel
theorem dX4_isUpNow_11 : decode cX4_isUpNow 11 = .ok (.iand, 1) := by decide +kernel
theorem dX4_isUpNow_12 : decode cX4_isUpNow 12 = .ok (.iconst 1, 1) := by decide +kernel
theorem dX4_isUpNow_13 : decode cX4_isUpNow 13 = .ok (.if_icmp .ne 7, 3) := by decide +kernel
theorem dX4_isUpNow_16 : decode cX4_isUpNow 16 = .ok (.iconst 1, 1) := by decide +kernel
theorem dX4_isUpNow_17 : decode cX4_isUpNow 17 = .ok (.goto 4, 3) := by decide +kernel
theorem dX4_isUpNow_20 : decode cX4_isUpNow 20 = .ok (.iconst 0, 1) := by decide +kernel
theorem dX4_isUpNow_21 : decode cX4_isUpNow 21 = .ok (.ireturn, 1) := by decide +kernel
theorem dX4_isMember_0 : decode cX4_isMember 0 = .ok (.aload_n 0, 1) := by decide +kernel
theorem dX4_isMember_1 : decode cX4_isMember 1 = .ok (.iload_n 1, 1) := by decide +kernel
theorem dX4_isMember_2 : decode cX4_isMember 2 = .ok (.iload_n 2, 1) := by decide +kernel
theorem dX4_isMember_3 : decode cX4_isMember 3 = .ok (.iconst 1, 1) := by decide +kernel
theorem dX4_isMember_4 : decode cX4_isMember 4 = .ok (.invokevirtual 24, 3) := by decide +kernel
theorem dX4_isMember_7 : decode cX4_isMember 7 = .ok (.iload_n 3, 1) := by decide +kernel
theorem dX4_isMember_8 : decode cX4_isMember 8 = .ok (.ishr, 1) := by decide +kernel
theorem dX4_isMember_9 : decode cX4_isMember 9 = .ok (.iconst 1, 1) := by decide +kernel
theorem dX4_isMember_10 : decode cX4_isMember 10 = .ok (.iand, 1) := by decide +kernel
theorem dX4_isMember_11 : decode cX4_isMember 11 = .ok (.iconst 1, 1) := by decide +kernel
theorem dX4_isMember_12 : decode cX4_isMember 12 = .ok (.if_icmp .ne 7, 3) := by decide +kernel
theorem dX4_isMember_15 : decode cX4_isMember 15 = .ok (.iconst 1, 1) := by decide +kernel
theorem dX4_isMember_16 : decode cX4_isMember 16 = .ok (.goto 4, 3) := by decide +kernel
theorem dX4_isMember_19 : decode cX4_isMember 19 = .ok (.iconst 0, 1) := by decide +kernel
theorem dX4_isMember_20 : decode cX4_isMember 20 = .ok (.ireturn, 1) := by decide +kernel
theorem dX4_stateOf_0 : decode cX4_stateOf 0 = .ok (.aload_n 0, 1) := by decide +kernel
theorem dX4_stateOf_1 : decode cX4_stateOf 1 = .ok (.iload_n 1, 1) := by decide +kernel
theorem dX4_stateOf_2 : decode cX4_stateOf 2 = .ok (.iload_n 2, 1) := by decide +kernel
theorem dX4_stateOf_3 : decode cX4_stateOf 3 = .ok (.iload_n 3, 1) := by decide +kernel
theorem dX4_stateOf_4 : decode cX4_stateOf 4 = .ok (.invokevirtual 28, 3) := by decide +kernel
theorem dX4_stateOf_7 : decode cX4_stateOf 7 = .ok (.ifCond .eq 22, 3) := by decide +kernel
theorem dX4_stateOf_10 : decode cX4_stateOf 10 = .ok (.aload_n 0, 1) := by decide +kernel
theorem dX4_stateOf_11 : decode cX4_stateOf 11 = .ok (.getfield 7, 3) := by decide +kernel
theorem dX4_stateOf_14 : decode cX4_stateOf 14 = .ok (.iload_n 1, 1) := by decide +kernel
theorem dX4_stateOf_15 : decode cX4_stateOf 15 = .ok (.bipush 36, 2) := by decide +kernel
theorem dX4_stateOf_17 : decode cX4_stateOf 17 = .ok (.iadd, 1) := by decide +kernel
theorem dX4_stateOf_18 : decode cX4_stateOf 18 = .ok (.bipush 6, 2) := by decide +kernel
theorem dX4_stateOf_20 : decode cX4_stateOf 20 = .ok (.iload_n 2, 1) := by decide +kernel
theorem dX4_stateOf_21 : decode cX4_stateOf 21 = .ok (.imul, 1) := by decide +kernel
theorem dX4_stateOf_22 : decode cX4_stateOf 22 = .ok (.iadd, 1) := by decide +kernel
theorem dX4_stateOf_23 : decode cX4_stateOf 23 = .ok (.iload_n 3, 1) := by decide +kernel
theorem dX4_stateOf_24 : decode cX4_stateOf 24 = .ok (.iadd, 1) := by decide +kernel
theorem dX4_stateOf_25 : decode cX4_stateOf 25 = .ok (.iaload, 1) := by decide +kernel
theorem dX4_stateOf_26 : decode cX4_stateOf 26 = .ok (.goto 4, 3) := by decide +kernel
theorem dX4_stateOf_29 : decode cX4_stateOf 29 = .ok (.iconst (-1), 1) := by decide +kernel
theorem dX4_stateOf_30 : decode cX4_stateOf 30 = .ok (.ireturn, 1) := by decide +kernel
theorem dX4_logs_0 : decode cX4_logs 0 = .ok (.iload_n 1, 1) := by decide +kernel
theorem dX4_logs_1 : decode cX4_logs 1 = .ok (.sipush 132, 3) := by decide +kernel
theorem dX4_logs_4 : decode cX4_logs 4 = .ok (.iadd, 1) := by decide +kernel
theorem dX4_logs_5 : decode cX4_logs 5 = .ok (.bipush 25, 2) := by decide +kernel
theorem dX4_logs_7 : decode cX4_logs 7 = .ok (.iload_n 2, 1) := by decide +kernel
theorem dX4_logs_8 : decode cX4_logs 8 = .ok (.imul, 1) := by decide +kernel
theorem dX4_logs_9 : decode cX4_logs 9 = .ok (.iadd, 1) := by decide +kernel
theorem dX4_logs_10 : decode cX4_logs 10 = .ok (.istore 4, 2) := by decide +kernel
theorem dX4_logs_12 : decode cX4_logs 12 = .ok (.aload_n 0, 1) := by decide +kernel
theorem dX4_logs_13 : decode cX4_logs 13 = .ok (.getfield 7, 3) := by decide +kernel
theorem dX4_logs_16 : decode cX4_logs 16 = .ok (.iload 4, 2) := by decide +kernel
theorem dX4_logs_18 : decode cX4_logs 18 = .ok (.dup2, 1) := by decide +kernel
theorem dX4_logs_19 : decode cX4_logs 19 = .ok (.iaload, 1) := by decide +kernel
theorem dX4_logs_20 : decode cX4_logs 20 = .ok (.iconst 1, 1) := by decide +kernel
theorem dX4_logs_21 : decode cX4_logs 21 = .ok (.iadd, 1) := by decide +kernel
theorem dX4_logs_22 : decode cX4_logs 22 = .ok (.iastore, 1) := by decide +kernel
theorem dX4_logs_23 : decode cX4_logs 23 = .ok (.aload_n 0, 1) := by decide +kernel
theorem dX4_logs_24 : decode cX4_logs 24 = .ok (.getfield 7, 3) := by decide +kernel
theorem dX4_logs_27 : decode cX4_logs 27 = .ok (.iload 4, 2) := by decide +kernel
theorem dX4_logs_29 : decode cX4_logs 29 = .ok (.aload_n 0, 1) := by decide +kernel
theorem dX4_logs_30 : decode cX4_logs 30 = .ok (.getfield 7, 3) := by decide +kernel
theorem dX4_logs_33 : decode cX4_logs 33 = .ok (.iload 4, 2) := by decide +kernel
theorem dX4_logs_35 : decode cX4_logs 35 = .ok (.iaload, 1) := by decide +kernel
theorem dX4_logs_36 : decode cX4_logs 36 = .ok (.iadd, 1) := by decide +kernel
theorem dX4_logs_37 : decode cX4_logs 37 = .ok (.iload_n 3, 1) := by decide +kernel
theorem dX4_logs_38 : decode cX4_logs 38 = .ok (.iastore, 1) := by decide +kernel
theorem dX4_logs_39 : decode cX4_logs 39 = .ok (.return_, 1) := by decide +kernel
theorem dX4_gets_0 : decode cX4_gets 0 = .ok (.aload_n 0, 1) := by decide +kernel
theorem dX4_gets_1 : decode cX4_gets 1 = .ok (.getfield 7, 3) := by decide +kernel
theorem dX4_gets_4 : decode cX4_gets 4 = .ok (.iload_n 1, 1) := by decide +kernel
theorem dX4_gets_5 : decode cX4_gets 5 = .ok (.bipush 36, 2) := by decide +kernel
theorem dX4_gets_7 : decode cX4_gets 7 = .ok (.iadd, 1) := by decide +kernel
theorem dX4_gets_8 : decode cX4_gets 8 = .ok (.bipush 6, 2) := by decide +kernel
theorem dX4_gets_10 : decode cX4_gets 10 = .ok (.iload_n 2, 1) := by decide +kernel
theorem dX4_gets_11 : decode cX4_gets 11 = .ok (.imul, 1) := by decide +kernel
theorem dX4_gets_12 : decode cX4_gets 12 = .ok (.iadd, 1) := by decide +kernel
theorem dX4_gets_13 : decode cX4_gets 13 = .ok (.iload_n 3, 1) := by decide +kernel
theorem dX4_gets_14 : decode cX4_gets 14 = .ok (.iadd, 1) := by decide +kernel
theorem dX4_gets_15 : decode cX4_gets 15 = .ok (.iload 4, 2) := by decide +kernel
theorem dX4_gets_17 : decode cX4_gets 17 = .ok (.iastore, 1) := by decide +kernel
theorem dX4_gets_18 : decode cX4_gets 18 = .ok (.aload_n 0, 1) := by decide +kernel
theorem dX4_gets_19 : decode cX4_gets 19 = .ok (.getfield 7, 3) := by decide +kernel
theorem dX4_gets_22 : decode cX4_gets 22 = .ok (.iload_n 1, 1) := by decide +kernel
theorem dX4_gets_23 : decode cX4_gets 23 = .ok (.bipush 84, 2) := by decide +kernel
theorem dX4_gets_25 : decode cX4_gets 25 = .ok (.iadd, 1) := by decide +kernel
theorem dX4_gets_26 : decode cX4_gets 26 = .ok (.bipush 6, 2) := by decide +kernel
theorem dX4_gets_28 : decode cX4_gets 28 = .ok (.iload_n 2, 1) := by decide +kernel
theorem dX4_gets_29 : decode cX4_gets 29 = .ok (.imul, 1) := by decide +kernel
theorem dX4_gets_30 : decode cX4_gets 30 = .ok (.iadd, 1) := by decide +kernel
theorem dX4_gets_31 : decode cX4_gets 31 = .ok (.iload_n 3, 1) := by decide +kernel
theorem dX4_gets_32 : decode cX4_gets 32 = .ok (.iadd, 1) := by decide +kernel
theorem dX4_gets_33 : decode cX4_gets 33 = .ok (.iload 4, 2) := by decide +kernel
theorem dX4_gets_35 : decode cX4_gets 35 = .ok (.iconst 1, 1) := by decide +kernel
theorem dX4_gets_36 : decode cX4_gets 36 = .ok (.if_icmp .ne 14, 3) := by decide +kernel
theorem dX4_gets_39 : decode cX4_gets 39 = .ok (.aload_n 0, 1) := by decide +kernel
theorem dX4_gets_40 : decode cX4_gets 40 = .ok (.getfield 7, 3) := by decide +kernel
theorem dX4_gets_43 : decode cX4_gets 43 = .ok (.iload_n 1, 1) := by decide +kernel
theorem dX4_gets_44 : decode cX4_gets 44 = .ok (.iconst 2, 1) := by decide +kernel
theorem dX4_gets_45 : decode cX4_gets 45 = .ok (.iadd, 1) := by decide +kernel
theorem dX4_gets_46 : decode cX4_gets 46 = .ok (.iaload, 1) := by decide +kernel
theorem dX4_gets_47 : decode cX4_gets 47 = .ok (.goto 4, 3) := by decide +kernel
theorem dX4_gets_50 : decode cX4_gets 50 = .ok (.iconst 0, 1) := by decide +kernel
theorem dX4_gets_51 : decode cX4_gets 51 = .ok (.iastore, 1) := by decide +kernel
theorem dX4_gets_52 : decode cX4_gets 52 = .ok (.aload_n 0, 1) := by decide +kernel
theorem dX4_gets_53 : decode cX4_gets 53 = .ok (.iload_n 1, 1) := by decide +kernel
theorem dX4_gets_54 : decode cX4_gets 54 = .ok (.iload_n 3, 1) := by decide +kernel
theorem dX4_gets_55 : decode cX4_gets 55 = .ok (.bipush 10, 2) := by decide +kernel
theorem dX4_gets_57 : decode cX4_gets 57 = .ok (.iload_n 2, 1) := by decide +kernel
theorem dX4_gets_58 : decode cX4_gets 58 = .ok (.imul, 1) := by decide +kernel
theorem dX4_gets_59 : decode cX4_gets 59 = .ok (.iload 4, 2) := by decide +kernel
theorem dX4_gets_61 : decode cX4_gets 61 = .ok (.iadd, 1) := by decide +kernel
theorem dX4_gets_62 : decode cX4_gets 62 = .ok (.invokevirtual 31, 3) := by decide +kernel
theorem dX4_gets_65 : decode cX4_gets 65 = .ok (.return_, 1) := by decide +kernel
theorem dX4_decides_0 : decode cX4_decides 0 = .ok (.aload_n 0, 1) := by decide +kernel
theorem dX4_decides_1 : decode cX4_decides 1 = .ok (.getfield 7, 3) := by decide +kernel
theorem dX4_decides_4 : decode cX4_decides 4 = .ok (.iload_n 1, 1) := by decide +kernel
theorem dX4_decides_5 : decode cX4_decides 5 = .ok (.iconst 4, 1) := by decide +kernel
theorem dX4_decides_6 : decode cX4_decides 6 = .ok (.iadd, 1) := by decide +kernel
theorem dX4_decides_7 : decode cX4_decides 7 = .ok (.iconst 4, 1) := by decide +kernel
theorem dX4_decides_8 : decode cX4_decides 8 = .ok (.iload_n 2, 1) := by decide +kernel
theorem dX4_decides_9 : decode cX4_decides 9 = .ok (.imul, 1) := by decide +kernel
theorem dX4_decides_10 : decode cX4_decides 10 = .ok (.iadd, 1) := by decide +kernel
theorem dX4_decides_11 : decode cX4_decides 11 = .ok (.iconst 3, 1) := by decide +kernel
theorem dX4_decides_12 : decode cX4_decides 12 = .ok (.iadd, 1) := by decide +kernel
theorem dX4_decides_13 : decode cX4_decides 13 = .ok (.iload_n 3, 1) := by decide +kernel
theorem dX4_decides_14 : decode cX4_decides 14 = .ok (.iastore, 1) := by decide +kernel
theorem dX4_decides_15 : decode cX4_decides 15 = .ok (.aload_n 0, 1) := by decide +kernel
theorem dX4_decides_16 : decode cX4_decides 16 = .ok (.iload_n 1, 1) := by decide +kernel
theorem dX4_decides_17 : decode cX4_decides 17 = .ok (.aload_n 0, 1) := by decide +kernel
theorem dX4_decides_18 : decode cX4_decides 18 = .ok (.iload_n 1, 1) := by decide +kernel
theorem dX4_decides_19 : decode cX4_decides 19 = .ok (.iload_n 2, 1) := by decide +kernel
theorem dX4_decides_20 : decode cX4_decides 20 = .ok (.iconst 0, 1) := by decide +kernel
theorem dX4_decides_21 : decode cX4_decides 21 = .ok (.invokevirtual 24, 3) := by decide +kernel
theorem dX4_decides_24 : decode cX4_decides 24 = .ok (.bipush 10, 2) := by decide +kernel
theorem dX4_decides_26 : decode cX4_decides 26 = .ok (.iload_n 2, 1) := by decide +kernel
theorem dX4_decides_27 : decode cX4_decides 27 = .ok (.imul, 1) := by decide +kernel
theorem dX4_decides_28 : decode cX4_decides 28 = .ok (.iload_n 3, 1) := by decide +kernel
theorem dX4_decides_29 : decode cX4_decides 29 = .ok (.iadd, 1) := by decide +kernel
theorem dX4_decides_30 : decode cX4_decides 30 = .ok (.iconst 3, 1) := by decide +kernel
theorem dX4_decides_31 : decode cX4_decides 31 = .ok (.iadd, 1) := by decide +kernel
theorem dX4_decides_32 : decode cX4_decides 32 = .ok (.invokevirtual 31, 3) := by decide +kernel
theorem dX4_decides_35 : decode cX4_decides 35 = .ok (.return_, 1) := by decide +kernel
theorem dX4_heldBy_0 : decode cX4_heldBy 0 = .ok (.iconst 0, 1) := by decide +kernel
theorem dX4_heldBy_1 : decode cX4_heldBy 1 = .ok (.istore_n 3, 1) := by decide +kernel
theorem dX4_heldBy_2 : decode cX4_heldBy 2 = .ok (.iconst 0, 1) := by decide +kernel
theorem dX4_heldBy_3 : decode cX4_heldBy 3 = .ok (.istore 4, 2) := by decide +kernel
theorem dX4_heldBy_5 : decode cX4_heldBy 5 = .ok (.iload 4, 2) := by decide +kernel
theorem dX4_heldBy_7 : decode cX4_heldBy 7 = .ok (.aload_n 0, 1) := by decide +kernel
theorem dX4_heldBy_8 : decode cX4_heldBy 8 = .ok (.getfield 7, 3) := by decide +kernel
theorem dX4_heldBy_11 : decode cX4_heldBy 11 = .ok (.iload_n 1, 1) := by decide +kernel
theorem dX4_heldBy_12 : decode cX4_heldBy 12 = .ok (.iconst 3, 1) := by decide +kernel
theorem dX4_heldBy_13 : decode cX4_heldBy 13 = .ok (.iadd, 1) := by decide +kernel
theorem dX4_heldBy_14 : decode cX4_heldBy 14 = .ok (.iaload, 1) := by decide +kernel
theorem dX4_heldBy_15 : decode cX4_heldBy 15 = .ok (.if_icmp .ge 38, 3) := by decide +kernel
theorem dX4_heldBy_18 : decode cX4_heldBy 18 = .ok (.iload_n 3, 1) := by decide +kernel
theorem dX4_heldBy_19 : decode cX4_heldBy 19 = .ok (.aload_n 0, 1) := by decide +kernel
theorem dX4_heldBy_20 : decode cX4_heldBy 20 = .ok (.iload_n 1, 1) := by decide +kernel
theorem dX4_heldBy_21 : decode cX4_heldBy 21 = .ok (.iload 4, 2) := by decide +kernel
theorem dX4_heldBy_23 : decode cX4_heldBy 23 = .ok (.iload_n 2, 1) := by decide +kernel
theorem dX4_heldBy_24 : decode cX4_heldBy 24 = .ok (.invokevirtual 35, 3) := by decide +kernel
theorem dX4_heldBy_27 : decode cX4_heldBy 27 = .ok (.iconst 1, 1) := by decide +kernel
theorem dX4_heldBy_28 : decode cX4_heldBy 28 = .ok (.if_icmp .ne 16, 3) := by decide +kernel
theorem dX4_heldBy_31 : decode cX4_heldBy 31 = .ok (.iconst 1, 1) := by decide +kernel
theorem dX4_heldBy_32 : decode cX4_heldBy 32 = .ok (.aload_n 0, 1) := by decide +kernel
theorem dX4_heldBy_33 : decode cX4_heldBy 33 = .ok (.iload_n 1, 1) := by decide +kernel
theorem dX4_heldBy_34 : decode cX4_heldBy 34 = .ok (.iload 4, 2) := by decide +kernel
theorem dX4_heldBy_36 : decode cX4_heldBy 36 = .ok (.iconst 2, 1) := by decide +kernel
theorem dX4_heldBy_37 : decode cX4_heldBy 37 = .ok (.invokevirtual 24, 3) := by decide +kernel
theorem dX4_heldBy_40 : decode cX4_heldBy 40 = .ok (.ishl, 1) := by decide +kernel
theorem dX4_heldBy_41 : decode cX4_heldBy 41 = .ok (.goto 4, 3) := by decide +kernel
theorem dX4_heldBy_44 : decode cX4_heldBy 44 = .ok (.iconst 0, 1) := by decide +kernel
theorem dX4_heldBy_45 : decode cX4_heldBy 45 = .ok (.ior, 1) := by decide +kernel
theorem dX4_heldBy_46 : decode cX4_heldBy 46 = .ok (.istore_n 3, 1) := by decide +kernel
theorem dX4_heldBy_47 : decode cX4_heldBy 47 = .ok (.iinc 4 1, 3) := by decide +kernel
theorem dX4_heldBy_50 : decode cX4_heldBy 50 = .ok (.goto (-45), 3) := by decide +kernel
theorem dX4_heldBy_53 : decode cX4_heldBy 53 = .ok (.iload_n 3, 1) := by decide +kernel
theorem dX4_heldBy_54 : decode cX4_heldBy 54 = .ok (.ireturn, 1) := by decide +kernel
theorem dX4_isHeld_0 : decode cX4_isHeld 0 = .ok (.aload_n 0, 1) := by decide +kernel
theorem dX4_isHeld_1 : decode cX4_isHeld 1 = .ok (.iload_n 1, 1) := by decide +kernel
theorem dX4_isHeld_2 : decode cX4_isHeld 2 = .ok (.iload_n 3, 1) := by decide +kernel
theorem dX4_isHeld_3 : decode cX4_isHeld 3 = .ok (.invokevirtual 38, 3) := by decide +kernel
theorem dX4_isHeld_6 : decode cX4_isHeld 6 = .ok (.aload_n 0, 1) := by decide +kernel
theorem dX4_isHeld_7 : decode cX4_isHeld 7 = .ok (.iload_n 1, 1) := by decide +kernel
theorem dX4_isHeld_8 : decode cX4_isHeld 8 = .ok (.iload_n 2, 1) := by decide +kernel
theorem dX4_isHeld_9 : decode cX4_isHeld 9 = .ok (.iconst 2, 1) := by decide +kernel
theorem dX4_isHeld_10 : decode cX4_isHeld 10 = .ok (.invokevirtual 24, 3) := by decide +kernel
theorem dX4_isHeld_13 : decode cX4_isHeld 13 = .ok (.ishr, 1) := by decide +kernel
theorem dX4_isHeld_14 : decode cX4_isHeld 14 = .ok (.iconst 1, 1) := by decide +kernel
theorem dX4_isHeld_15 : decode cX4_isHeld 15 = .ok (.iand, 1) := by decide +kernel
theorem dX4_isHeld_16 : decode cX4_isHeld 16 = .ok (.iconst 1, 1) := by decide +kernel
theorem dX4_isHeld_17 : decode cX4_isHeld 17 = .ok (.if_icmp .ne 7, 3) := by decide +kernel
theorem dX4_isHeld_20 : decode cX4_isHeld 20 = .ok (.iconst 1, 1) := by decide +kernel
theorem dX4_isHeld_21 : decode cX4_isHeld 21 = .ok (.goto 4, 3) := by decide +kernel
theorem dX4_isHeld_24 : decode cX4_isHeld 24 = .ok (.iconst 0, 1) := by decide +kernel
theorem dX4_isHeld_25 : decode cX4_isHeld 25 = .ok (.ireturn, 1) := by decide +kernel
theorem dX4_votes_0 : decode cX4_votes 0 = .ok (.aload_n 0, 1) := by decide +kernel
theorem dX4_votes_1 : decode cX4_votes 1 = .ok (.iconst 0, 1) := by decide +kernel
theorem dX4_votes_2 : decode cX4_votes 2 = .ok (.iload_n 1, 1) := by decide +kernel
theorem dX4_votes_3 : decode cX4_votes 3 = .ok (.iload_n 2, 1) := by decide +kernel
theorem dX4_votes_4 : decode cX4_votes 4 = .ok (.iload_n 3, 1) := by decide +kernel
theorem dX4_votes_5 : decode cX4_votes 5 = .ok (.ifCond .eq 17, 3) := by decide +kernel
theorem dX4_votes_8 : decode cX4_votes 8 = .ok (.aload_n 0, 1) := by decide +kernel
theorem dX4_votes_9 : decode cX4_votes 9 = .ok (.iconst 0, 1) := by decide +kernel
theorem dX4_votes_10 : decode cX4_votes 10 = .ok (.iload_n 1, 1) := by decide +kernel
theorem dX4_votes_11 : decode cX4_votes 11 = .ok (.iload_n 2, 1) := by decide +kernel
theorem dX4_votes_12 : decode cX4_votes 12 = .ok (.invokevirtual 42, 3) := by decide +kernel
theorem dX4_votes_15 : decode cX4_votes 15 = .ok (.ifCond .ne 7, 3) := by decide +kernel
theorem dX4_votes_18 : decode cX4_votes 18 = .ok (.iconst 1, 1) := by decide +kernel
theorem dX4_votes_19 : decode cX4_votes 19 = .ok (.goto 4, 3) := by decide +kernel
theorem dX4_votes_22 : decode cX4_votes 22 = .ok (.iconst 3, 1) := by decide +kernel
theorem dX4_votes_23 : decode cX4_votes 23 = .ok (.invokevirtual 45, 3) := by decide +kernel
theorem dX4_votes_26 : decode cX4_votes 26 = .ok (.return_, 1) := by decide +kernel
theorem dX4_verdict_0 : decode cX4_verdict 0 = .ok (.iconst 1, 1) := by decide +kernel
theorem dX4_verdict_1 : decode cX4_verdict 1 = .ok (.istore_n 2, 1) := by decide +kernel
theorem dX4_verdict_2 : decode cX4_verdict 2 = .ok (.iconst 0, 1) := by decide +kernel
theorem dX4_verdict_3 : decode cX4_verdict 3 = .ok (.istore_n 3, 1) := by decide +kernel
theorem dX4_verdict_4 : decode cX4_verdict 4 = .ok (.iload_n 3, 1) := by decide +kernel
theorem dX4_verdict_5 : decode cX4_verdict 5 = .ok (.bipush 6, 2) := by decide +kernel
theorem dX4_verdict_7 : decode cX4_verdict 7 = .ok (.if_icmp .ge 40, 3) := by decide +kernel
theorem dX4_verdict_10 : decode cX4_verdict 10 = .ok (.iload_n 2, 1) := by decide +kernel
theorem dX4_verdict_11 : decode cX4_verdict 11 = .ok (.ifCond .eq 28, 3) := by decide +kernel
theorem dX4_verdict_14 : decode cX4_verdict 14 = .ok (.aload_n 0, 1) := by decide +kernel
theorem dX4_verdict_15 : decode cX4_verdict 15 = .ok (.iconst 0, 1) := by decide +kernel
theorem dX4_verdict_16 : decode cX4_verdict 16 = .ok (.iload_n 1, 1) := by decide +kernel
theorem dX4_verdict_17 : decode cX4_verdict 17 = .ok (.iload_n 3, 1) := by decide +kernel
theorem dX4_verdict_18 : decode cX4_verdict 18 = .ok (.invokevirtual 28, 3) := by decide +kernel
theorem dX4_verdict_21 : decode cX4_verdict 21 = .ok (.ifCond .eq 14, 3) := by decide +kernel
theorem dX4_verdict_24 : decode cX4_verdict 24 = .ok (.aload_n 0, 1) := by decide +kernel
theorem dX4_verdict_25 : decode cX4_verdict 25 = .ok (.iconst 0, 1) := by decide +kernel
theorem dX4_verdict_26 : decode cX4_verdict 26 = .ok (.iload_n 1, 1) := by decide +kernel
theorem dX4_verdict_27 : decode cX4_verdict 27 = .ok (.iload_n 3, 1) := by decide +kernel
theorem dX4_verdict_28 : decode cX4_verdict 28 = .ok (.invokevirtual 35, 3) := by decide +kernel
theorem dX4_verdict_31 : decode cX4_verdict 31 = .ok (.iconst 1, 1) := by decide +kernel
theorem dX4_verdict_32 : decode cX4_verdict 32 = .ok (.if_icmp .ne 7, 3) := by decide +kernel
theorem dX4_verdict_35 : decode cX4_verdict 35 = .ok (.iconst 1, 1) := by decide +kernel
theorem dX4_verdict_36 : decode cX4_verdict 36 = .ok (.goto 4, 3) := by decide +kernel
theorem dX4_verdict_39 : decode cX4_verdict 39 = .ok (.iconst 0, 1) := by decide +kernel
theorem dX4_verdict_40 : decode cX4_verdict 40 = .ok (.istore_n 2, 1) := by decide +kernel
theorem dX4_verdict_41 : decode cX4_verdict 41 = .ok (.iinc 3 1, 3) := by decide +kernel
theorem dX4_verdict_44 : decode cX4_verdict 44 = .ok (.goto (-40), 3) := by decide +kernel
theorem dX4_verdict_47 : decode cX4_verdict 47 = .ok (.iload_n 2, 1) := by decide +kernel
theorem dX4_verdict_48 : decode cX4_verdict 48 = .ok (.ifCond .eq 7, 3) := by decide +kernel
theorem dX4_verdict_51 : decode cX4_verdict 51 = .ok (.iconst 2, 1) := by decide +kernel
theorem dX4_verdict_52 : decode cX4_verdict 52 = .ok (.goto 4, 3) := by decide +kernel
theorem dX4_verdict_55 : decode cX4_verdict 55 = .ok (.iconst 3, 1) := by decide +kernel
theorem dX4_verdict_56 : decode cX4_verdict 56 = .ok (.ireturn, 1) := by decide +kernel
theorem dX4_tells_0 : decode cX4_tells 0 = .ok (.aload_n 0, 1) := by decide +kernel
theorem dX4_tells_1 : decode cX4_tells 1 = .ok (.iload_n 1, 1) := by decide +kernel
theorem dX4_tells_2 : decode cX4_tells 2 = .ok (.iload_n 2, 1) := by decide +kernel
theorem dX4_tells_3 : decode cX4_tells 3 = .ok (.iload_n 3, 1) := by decide +kernel
theorem dX4_tells_4 : decode cX4_tells 4 = .ok (.invokevirtual 35, 3) := by decide +kernel
theorem dX4_tells_7 : decode cX4_tells 7 = .ok (.istore 4, 2) := by decide +kernel
theorem dX4_tells_9 : decode cX4_tells 9 = .ok (.aload_n 0, 1) := by decide +kernel
theorem dX4_tells_10 : decode cX4_tells 10 = .ok (.iload_n 1, 1) := by decide +kernel
theorem dX4_tells_11 : decode cX4_tells 11 = .ok (.iload_n 2, 1) := by decide +kernel
theorem dX4_tells_12 : decode cX4_tells 12 = .ok (.iconst 3, 1) := by decide +kernel
theorem dX4_tells_13 : decode cX4_tells 13 = .ok (.invokevirtual 24, 3) := by decide +kernel
theorem dX4_tells_16 : decode cX4_tells 16 = .ok (.istore 5, 2) := by decide +kernel
theorem dX4_tells_18 : decode cX4_tells 18 = .ok (.iload 4, 2) := by decide +kernel
theorem dX4_tells_20 : decode cX4_tells 20 = .ok (.iconst 1, 1) := by decide +kernel
theorem dX4_tells_21 : decode cX4_tells 21 = .ok (.if_icmp .eq 14, 3) := by decide +kernel
theorem dX4_tells_24 : decode cX4_tells 24 = .ok (.iload 4, 2) := by decide +kernel
theorem dX4_tells_26 : decode cX4_tells 26 = .ok (.ifCond .ne 18, 3) := by decide +kernel
theorem dX4_tells_29 : decode cX4_tells 29 = .ok (.iload 5, 2) := by decide +kernel
theorem dX4_tells_31 : decode cX4_tells 31 = .ok (.iconst 3, 1) := by decide +kernel
theorem dX4_tells_32 : decode cX4_tells 32 = .ok (.if_icmp .ne 12, 3) := by decide +kernel
theorem dX4_tells_35 : decode cX4_tells 35 = .ok (.aload_n 0, 1) := by decide +kernel
theorem dX4_tells_36 : decode cX4_tells 36 = .ok (.iload_n 1, 1) := by decide +kernel
theorem dX4_tells_37 : decode cX4_tells 37 = .ok (.iload_n 2, 1) := by decide +kernel
theorem dX4_tells_38 : decode cX4_tells 38 = .ok (.iload_n 3, 1) := by decide +kernel
theorem dX4_tells_39 : decode cX4_tells 39 = .ok (.iload 5, 2) := by decide +kernel
theorem dX4_tells_41 : decode cX4_tells 41 = .ok (.invokevirtual 45, 3) := by decide +kernel
theorem dX4_tells_44 : decode cX4_tells 44 = .ok (.return_, 1) := by decide +kernel
theorem dX4_helps_0 : decode cX4_helps 0 = .ok (.aload_n 0, 1) := by decide +kernel
theorem dX4_helps_1 : decode cX4_helps 1 = .ok (.iload_n 1, 1) := by decide +kernel
theorem dX4_helps_2 : decode cX4_helps 2 = .ok (.iload_n 2, 1) := by decide +kernel
theorem dX4_helps_3 : decode cX4_helps 3 = .ok (.iconst 0, 1) := by decide +kernel
theorem dX4_helps_4 : decode cX4_helps 4 = .ok (.invokevirtual 24, 3) := by decide +kernel
theorem dX4_helps_7 : decode cX4_helps 7 = .ok (.iload_n 3, 1) := by decide +kernel
theorem dX4_helps_8 : decode cX4_helps 8 = .ok (.if_icmp .eq 24, 3) := by decide +kernel
theorem dX4_helps_11 : decode cX4_helps 11 = .ok (.aload_n 0, 1) := by decide +kernel
theorem dX4_helps_12 : decode cX4_helps 12 = .ok (.iload_n 1, 1) := by decide +kernel
theorem dX4_helps_13 : decode cX4_helps 13 = .ok (.iload_n 2, 1) := by decide +kernel
theorem dX4_helps_14 : decode cX4_helps 14 = .ok (.iload_n 3, 1) := by decide +kernel
theorem dX4_helps_15 : decode cX4_helps 15 = .ok (.invokevirtual 28, 3) := by decide +kernel
theorem dX4_helps_18 : decode cX4_helps 18 = .ok (.ifCond .eq 18, 3) := by decide +kernel
theorem dX4_helps_21 : decode cX4_helps 21 = .ok (.aload_n 0, 1) := by decide +kernel
theorem dX4_helps_22 : decode cX4_helps 22 = .ok (.iload_n 1, 1) := by decide +kernel
theorem dX4_helps_23 : decode cX4_helps 23 = .ok (.iload_n 2, 1) := by decide +kernel
theorem dX4_helps_24 : decode cX4_helps 24 = .ok (.iload_n 3, 1) := by decide +kernel
theorem dX4_helps_25 : decode cX4_helps 25 = .ok (.invokevirtual 35, 3) := by decide +kernel
theorem dX4_helps_28 : decode cX4_helps 28 = .ok (.iconst 1, 1) := by decide +kernel
theorem dX4_helps_29 : decode cX4_helps 29 = .ok (.if_icmp .eq 7, 3) := by decide +kernel
theorem dX4_helps_32 : decode cX4_helps 32 = .ok (.iconst 1, 1) := by decide +kernel
theorem dX4_helps_33 : decode cX4_helps 33 = .ok (.goto 4, 3) := by decide +kernel
theorem dX4_helps_36 : decode cX4_helps 36 = .ok (.iconst 0, 1) := by decide +kernel
theorem dX4_helps_37 : decode cX4_helps 37 = .ok (.ireturn, 1) := by decide +kernel
theorem dX4_asks_0 : decode cX4_asks 0 = .ok (.aload_n 0, 1) := by decide +kernel
theorem dX4_asks_1 : decode cX4_asks 1 = .ok (.getfield 7, 3) := by decide +kernel
theorem dX4_asks_4 : decode cX4_asks 4 = .ok (.iload_n 1, 1) := by decide +kernel
theorem dX4_asks_5 : decode cX4_asks 5 = .ok (.iconst 1, 1) := by decide +kernel
theorem dX4_asks_6 : decode cX4_asks 6 = .ok (.iadd, 1) := by decide +kernel
theorem dX4_asks_7 : decode cX4_asks 7 = .ok (.dup2, 1) := by decide +kernel
theorem dX4_asks_8 : decode cX4_asks 8 = .ok (.iaload, 1) := by decide +kernel
theorem dX4_asks_9 : decode cX4_asks 9 = .ok (.iconst 1, 1) := by decide +kernel
theorem dX4_asks_10 : decode cX4_asks 10 = .ok (.iadd, 1) := by decide +kernel
theorem dX4_asks_11 : decode cX4_asks 11 = .ok (.iastore, 1) := by decide +kernel
theorem dX4_asks_12 : decode cX4_asks 12 = .ok (.aload_n 0, 1) := by decide +kernel
theorem dX4_asks_13 : decode cX4_asks 13 = .ok (.iload_n 1, 1) := by decide +kernel
theorem dX4_asks_14 : decode cX4_asks 14 = .ok (.iload_n 2, 1) := by decide +kernel
theorem dX4_asks_15 : decode cX4_asks 15 = .ok (.iconst 0, 1) := by decide +kernel
theorem dX4_asks_16 : decode cX4_asks 16 = .ok (.invokevirtual 24, 3) := by decide +kernel
theorem dX4_asks_19 : decode cX4_asks 19 = .ok (.iload 4, 2) := by decide +kernel
theorem dX4_asks_21 : decode cX4_asks 21 = .ok (.if_icmp .ne 30, 3) := by decide +kernel
theorem dX4_asks_24 : decode cX4_asks 24 = .ok (.aload_n 0, 1) := by decide +kernel
theorem dX4_asks_25 : decode cX4_asks 25 = .ok (.iload_n 1, 1) := by decide +kernel
theorem dX4_asks_26 : decode cX4_asks 26 = .ok (.iload_n 2, 1) := by decide +kernel
theorem dX4_asks_27 : decode cX4_asks 27 = .ok (.iconst 3, 1) := by decide +kernel
theorem dX4_asks_28 : decode cX4_asks 28 = .ok (.invokevirtual 24, 3) := by decide +kernel
theorem dX4_asks_31 : decode cX4_asks 31 = .ok (.ifCond .ne 10, 3) := by decide +kernel
theorem dX4_asks_34 : decode cX4_asks 34 = .ok (.aload_n 0, 1) := by decide +kernel
theorem dX4_asks_35 : decode cX4_asks 35 = .ok (.iload_n 1, 1) := by decide +kernel
theorem dX4_asks_36 : decode cX4_asks 36 = .ok (.iload_n 2, 1) := by decide +kernel
theorem dX4_asks_37 : decode cX4_asks 37 = .ok (.iconst 3, 1) := by decide +kernel
theorem dX4_asks_38 : decode cX4_asks 38 = .ok (.invokevirtual 49, 3) := by decide +kernel
theorem dX4_asks_41 : decode cX4_asks 41 = .ok (.aload_n 0, 1) := by decide +kernel
theorem dX4_asks_42 : decode cX4_asks 42 = .ok (.iload_n 1, 1) := by decide +kernel
theorem dX4_asks_43 : decode cX4_asks 43 = .ok (.iload_n 2, 1) := by decide +kernel
theorem dX4_asks_44 : decode cX4_asks 44 = .ok (.iload_n 3, 1) := by decide +kernel
theorem dX4_asks_45 : decode cX4_asks 45 = .ok (.invokevirtual 52, 3) := by decide +kernel
theorem dX4_asks_48 : decode cX4_asks 48 = .ok (.goto 49, 3) := by decide +kernel
theorem dX4_asks_51 : decode cX4_asks 51 = .ok (.aload_n 0, 1) := by decide +kernel
theorem dX4_asks_52 : decode cX4_asks 52 = .ok (.iload_n 1, 1) := by decide +kernel
theorem dX4_asks_53 : decode cX4_asks 53 = .ok (.iload_n 2, 1) := by decide +kernel
theorem dX4_asks_54 : decode cX4_asks 54 = .ok (.iload 4, 2) := by decide +kernel
theorem dX4_asks_56 : decode cX4_asks 56 = .ok (.invokevirtual 55, 3) := by decide +kernel
theorem dX4_asks_59 : decode cX4_asks 59 = .ok (.ifCond .eq 38, 3) := by decide +kernel
theorem dX4_asks_62 : decode cX4_asks 62 = .ok (.aload_n 0, 1) := by decide +kernel
theorem dX4_asks_63 : decode cX4_asks 63 = .ok (.iload_n 1, 1) := by decide +kernel
theorem dX4_asks_64 : decode cX4_asks 64 = .ok (.iload_n 2, 1) := by decide +kernel
theorem dX4_asks_65 : decode cX4_asks 65 = .ok (.iload 4, 2) := by decide +kernel
theorem dX4_asks_67 : decode cX4_asks 67 = .ok (.invokevirtual 35, 3) := by decide +kernel
theorem dX4_asks_70 : decode cX4_asks 70 = .ok (.ifCond .ne 12, 3) := by decide +kernel
theorem dX4_asks_73 : decode cX4_asks 73 = .ok (.aload_n 0, 1) := by decide +kernel
theorem dX4_asks_74 : decode cX4_asks 74 = .ok (.iload_n 1, 1) := by decide +kernel
theorem dX4_asks_75 : decode cX4_asks 75 = .ok (.iload_n 2, 1) := by decide +kernel
theorem dX4_asks_76 : decode cX4_asks 76 = .ok (.iload 4, 2) := by decide +kernel
theorem dX4_asks_78 : decode cX4_asks 78 = .ok (.iconst 3, 1) := by decide +kernel
theorem dX4_asks_79 : decode cX4_asks 79 = .ok (.invokevirtual 45, 3) := by decide +kernel
theorem dX4_asks_82 : decode cX4_asks 82 = .ok (.aload_n 0, 1) := by decide +kernel
theorem dX4_asks_83 : decode cX4_asks 83 = .ok (.iload_n 1, 1) := by decide +kernel
theorem dX4_asks_84 : decode cX4_asks 84 = .ok (.iload_n 2, 1) := by decide +kernel
theorem dX4_asks_85 : decode cX4_asks 85 = .ok (.iload_n 3, 1) := by decide +kernel
theorem dX4_asks_86 : decode cX4_asks 86 = .ok (.aload_n 0, 1) := by decide +kernel
theorem dX4_asks_87 : decode cX4_asks 87 = .ok (.iload_n 1, 1) := by decide +kernel
theorem dX4_asks_88 : decode cX4_asks 88 = .ok (.iload_n 2, 1) := by decide +kernel
theorem dX4_asks_89 : decode cX4_asks 89 = .ok (.iload 4, 2) := by decide +kernel
theorem dX4_asks_91 : decode cX4_asks 91 = .ok (.invokevirtual 35, 3) := by decide +kernel
theorem dX4_asks_94 : decode cX4_asks 94 = .ok (.invokevirtual 45, 3) := by decide +kernel
theorem dX4_asks_97 : decode cX4_asks 97 = .ok (.return_, 1) := by decide +kernel
theorem dX4_asksAll_0 : decode cX4_asksAll 0 = .ok (.iconst 0, 1) := by decide +kernel
theorem dX4_asksAll_1 : decode cX4_asksAll 1 = .ok (.istore 4, 2) := by decide +kernel
theorem dX4_asksAll_3 : decode cX4_asksAll 3 = .ok (.iload 4, 2) := by decide +kernel
theorem dX4_asksAll_5 : decode cX4_asksAll 5 = .ok (.bipush 6, 2) := by decide +kernel
theorem dX4_asksAll_7 : decode cX4_asksAll 7 = .ok (.if_icmp .ge 45, 3) := by decide +kernel
theorem dX4_asksAll_10 : decode cX4_asksAll 10 = .ok (.aload_n 0, 1) := by decide +kernel
theorem dX4_asksAll_11 : decode cX4_asksAll 11 = .ok (.iload_n 1, 1) := by decide +kernel
theorem dX4_asksAll_12 : decode cX4_asksAll 12 = .ok (.iload_n 2, 1) := by decide +kernel
theorem dX4_asksAll_13 : decode cX4_asksAll 13 = .ok (.iload_n 3, 1) := by decide +kernel
theorem dX4_asksAll_14 : decode cX4_asksAll 14 = .ok (.invokevirtual 35, 3) := by decide +kernel
theorem dX4_asksAll_17 : decode cX4_asksAll 17 = .ok (.iconst 1, 1) := by decide +kernel
theorem dX4_asksAll_18 : decode cX4_asksAll 18 = .ok (.if_icmp .ne 34, 3) := by decide +kernel
theorem dX4_asksAll_21 : decode cX4_asksAll 21 = .ok (.iload 4, 2) := by decide +kernel
theorem dX4_asksAll_23 : decode cX4_asksAll 23 = .ok (.iload_n 3, 1) := by decide +kernel
theorem dX4_asksAll_24 : decode cX4_asksAll 24 = .ok (.if_icmp .eq 22, 3) := by decide +kernel
theorem dX4_asksAll_27 : decode cX4_asksAll 27 = .ok (.aload_n 0, 1) := by decide +kernel
theorem dX4_asksAll_28 : decode cX4_asksAll 28 = .ok (.iload_n 1, 1) := by decide +kernel
theorem dX4_asksAll_29 : decode cX4_asksAll 29 = .ok (.iload 4, 2) := by decide +kernel
theorem dX4_asksAll_31 : decode cX4_asksAll 31 = .ok (.invokevirtual 58, 3) := by decide +kernel
theorem dX4_asksAll_34 : decode cX4_asksAll 34 = .ok (.ifCond .eq 12, 3) := by decide +kernel
theorem dX4_asksAll_37 : decode cX4_asksAll 37 = .ok (.aload_n 0, 1) := by decide +kernel
theorem dX4_asksAll_38 : decode cX4_asksAll 38 = .ok (.iload_n 1, 1) := by decide +kernel
theorem dX4_asksAll_39 : decode cX4_asksAll 39 = .ok (.iload_n 2, 1) := by decide +kernel
theorem dX4_asksAll_40 : decode cX4_asksAll 40 = .ok (.iload_n 3, 1) := by decide +kernel
theorem dX4_asksAll_41 : decode cX4_asksAll 41 = .ok (.iload 4, 2) := by decide +kernel
theorem dX4_asksAll_43 : decode cX4_asksAll 43 = .ok (.invokevirtual 62, 3) := by decide +kernel
theorem dX4_asksAll_46 : decode cX4_asksAll 46 = .ok (.iinc 4 1, 3) := by decide +kernel
theorem dX4_asksAll_49 : decode cX4_asksAll 49 = .ok (.goto (-46), 3) := by decide +kernel
theorem dX4_asksAll_52 : decode cX4_asksAll 52 = .ok (.aload_n 0, 1) := by decide +kernel
theorem dX4_asksAll_53 : decode cX4_asksAll 53 = .ok (.getfield 7, 3) := by decide +kernel
theorem dX4_asksAll_56 : decode cX4_asksAll 56 = .ok (.iload_n 1, 1) := by decide +kernel
theorem dX4_asksAll_57 : decode cX4_asksAll 57 = .ok (.bipush 84, 2) := by decide +kernel
theorem dX4_asksAll_59 : decode cX4_asksAll 59 = .ok (.iadd, 1) := by decide +kernel
theorem dX4_asksAll_60 : decode cX4_asksAll 60 = .ok (.bipush 6, 2) := by decide +kernel
theorem dX4_asksAll_62 : decode cX4_asksAll 62 = .ok (.iload_n 2, 1) := by decide +kernel
theorem dX4_asksAll_63 : decode cX4_asksAll 63 = .ok (.imul, 1) := by decide +kernel
theorem dX4_asksAll_64 : decode cX4_asksAll 64 = .ok (.iadd, 1) := by decide +kernel
theorem dX4_asksAll_65 : decode cX4_asksAll 65 = .ok (.iload_n 3, 1) := by decide +kernel
theorem dX4_asksAll_66 : decode cX4_asksAll 66 = .ok (.iadd, 1) := by decide +kernel
theorem dX4_asksAll_67 : decode cX4_asksAll 67 = .ok (.aload_n 0, 1) := by decide +kernel
theorem dX4_asksAll_68 : decode cX4_asksAll 68 = .ok (.iload_n 1, 1) := by decide +kernel
theorem dX4_asksAll_69 : decode cX4_asksAll 69 = .ok (.iload_n 2, 1) := by decide +kernel
theorem dX4_asksAll_70 : decode cX4_asksAll 70 = .ok (.iload_n 3, 1) := by decide +kernel
theorem dX4_asksAll_71 : decode cX4_asksAll 71 = .ok (.invokevirtual 35, 3) := by decide +kernel
theorem dX4_asksAll_74 : decode cX4_asksAll 74 = .ok (.iconst 1, 1) := by decide +kernel
theorem dX4_asksAll_75 : decode cX4_asksAll 75 = .ok (.if_icmp .ne 14, 3) := by decide +kernel
theorem dX4_asksAll_78 : decode cX4_asksAll 78 = .ok (.aload_n 0, 1) := by decide +kernel
theorem dX4_asksAll_79 : decode cX4_asksAll 79 = .ok (.getfield 7, 3) := by decide +kernel
theorem dX4_asksAll_82 : decode cX4_asksAll 82 = .ok (.iload_n 1, 1) := by decide +kernel
theorem dX4_asksAll_83 : decode cX4_asksAll 83 = .ok (.iconst 2, 1) := by decide +kernel
theorem dX4_asksAll_84 : decode cX4_asksAll 84 = .ok (.iadd, 1) := by decide +kernel
theorem dX4_asksAll_85 : decode cX4_asksAll 85 = .ok (.iaload, 1) := by decide +kernel
theorem dX4_asksAll_86 : decode cX4_asksAll 86 = .ok (.goto 4, 3) := by decide +kernel
theorem dX4_asksAll_89 : decode cX4_asksAll 89 = .ok (.iconst 0, 1) := by decide +kernel
theorem dX4_asksAll_90 : decode cX4_asksAll 90 = .ok (.iastore, 1) := by decide +kernel
theorem dX4_asksAll_91 : decode cX4_asksAll 91 = .ok (.return_, 1) := by decide +kernel
theorem dX4_ticks_0 : decode cX4_ticks 0 = .ok (.iconst 0, 1) := by decide +kernel
theorem dX4_ticks_1 : decode cX4_ticks 1 = .ok (.istore_n 2, 1) := by decide +kernel
theorem dX4_ticks_2 : decode cX4_ticks 2 = .ok (.iload_n 2, 1) := by decide +kernel
theorem dX4_ticks_3 : decode cX4_ticks 3 = .ok (.bipush 6, 2) := by decide +kernel
theorem dX4_ticks_5 : decode cX4_ticks 5 = .ok (.aload_n 0, 1) := by decide +kernel
theorem dX4_ticks_6 : decode cX4_ticks 6 = .ok (.getfield 7, 3) := by decide +kernel
theorem dX4_ticks_9 : decode cX4_ticks 9 = .ok (.iload_n 1, 1) := by decide +kernel
theorem dX4_ticks_10 : decode cX4_ticks 10 = .ok (.iconst 3, 1) := by decide +kernel
theorem dX4_ticks_11 : decode cX4_ticks 11 = .ok (.iadd, 1) := by decide +kernel
theorem dX4_ticks_12 : decode cX4_ticks 12 = .ok (.iaload, 1) := by decide +kernel
theorem dX4_ticks_13 : decode cX4_ticks 13 = .ok (.imul, 1) := by decide +kernel
theorem dX4_ticks_14 : decode cX4_ticks 14 = .ok (.if_icmp .ge 79, 3) := by decide +kernel
theorem dX4_ticks_17 : decode cX4_ticks 17 = .ok (.iload_n 2, 1) := by decide +kernel
theorem dX4_ticks_18 : decode cX4_ticks 18 = .ok (.bipush 6, 2) := by decide +kernel
theorem dX4_ticks_20 : decode cX4_ticks 20 = .ok (.idiv, 1) := by decide +kernel
theorem dX4_ticks_21 : decode cX4_ticks 21 = .ok (.istore_n 3, 1) := by decide +kernel
theorem dX4_ticks_22 : decode cX4_ticks 22 = .ok (.iload_n 2, 1) := by decide +kernel
theorem dX4_ticks_23 : decode cX4_ticks 23 = .ok (.bipush 6, 2) := by decide +kernel
theorem dX4_ticks_25 : decode cX4_ticks 25 = .ok (.irem, 1) := by decide +kernel
theorem dX4_ticks_26 : decode cX4_ticks 26 = .ok (.istore 4, 2) := by decide +kernel
theorem dX4_ticks_28 : decode cX4_ticks 28 = .ok (.aload_n 0, 1) := by decide +kernel
theorem dX4_ticks_29 : decode cX4_ticks 29 = .ok (.iload_n 1, 1) := by decide +kernel
theorem dX4_ticks_30 : decode cX4_ticks 30 = .ok (.iload 4, 2) := by decide +kernel
theorem dX4_ticks_32 : decode cX4_ticks 32 = .ok (.invokevirtual 58, 3) := by decide +kernel
theorem dX4_ticks_35 : decode cX4_ticks 35 = .ok (.ifCond .eq 52, 3) := by decide +kernel
theorem dX4_ticks_38 : decode cX4_ticks 38 = .ok (.aload_n 0, 1) := by decide +kernel
theorem dX4_ticks_39 : decode cX4_ticks 39 = .ok (.iload_n 1, 1) := by decide +kernel
theorem dX4_ticks_40 : decode cX4_ticks 40 = .ok (.iload_n 3, 1) := by decide +kernel
theorem dX4_ticks_41 : decode cX4_ticks 41 = .ok (.iload 4, 2) := by decide +kernel
theorem dX4_ticks_43 : decode cX4_ticks 43 = .ok (.invokevirtual 35, 3) := by decide +kernel
theorem dX4_ticks_46 : decode cX4_ticks 46 = .ok (.iconst 1, 1) := by decide +kernel
theorem dX4_ticks_47 : decode cX4_ticks 47 = .ok (.if_icmp .ne 40, 3) := by decide +kernel
theorem dX4_ticks_50 : decode cX4_ticks 50 = .ok (.aload_n 0, 1) := by decide +kernel
theorem dX4_ticks_51 : decode cX4_ticks 51 = .ok (.getfield 7, 3) := by decide +kernel
theorem dX4_ticks_54 : decode cX4_ticks 54 = .ok (.iload_n 1, 1) := by decide +kernel
theorem dX4_ticks_55 : decode cX4_ticks 55 = .ok (.bipush 84, 2) := by decide +kernel
theorem dX4_ticks_57 : decode cX4_ticks 57 = .ok (.iadd, 1) := by decide +kernel
theorem dX4_ticks_58 : decode cX4_ticks 58 = .ok (.iload_n 2, 1) := by decide +kernel
theorem dX4_ticks_59 : decode cX4_ticks 59 = .ok (.iadd, 1) := by decide +kernel
theorem dX4_ticks_60 : decode cX4_ticks 60 = .ok (.dup2, 1) := by decide +kernel
theorem dX4_ticks_61 : decode cX4_ticks 61 = .ok (.iaload, 1) := by decide +kernel
theorem dX4_ticks_62 : decode cX4_ticks 62 = .ok (.iconst 1, 1) := by decide +kernel
theorem dX4_ticks_63 : decode cX4_ticks 63 = .ok (.isub, 1) := by decide +kernel
theorem dX4_ticks_64 : decode cX4_ticks 64 = .ok (.iastore, 1) := by decide +kernel
theorem dX4_ticks_65 : decode cX4_ticks 65 = .ok (.aload_n 0, 1) := by decide +kernel
theorem dX4_ticks_66 : decode cX4_ticks 66 = .ok (.getfield 7, 3) := by decide +kernel
theorem dX4_ticks_69 : decode cX4_ticks 69 = .ok (.iload_n 1, 1) := by decide +kernel
theorem dX4_ticks_70 : decode cX4_ticks 70 = .ok (.bipush 84, 2) := by decide +kernel
theorem dX4_ticks_72 : decode cX4_ticks 72 = .ok (.iadd, 1) := by decide +kernel
theorem dX4_ticks_73 : decode cX4_ticks 73 = .ok (.iload_n 2, 1) := by decide +kernel
theorem dX4_ticks_74 : decode cX4_ticks 74 = .ok (.iadd, 1) := by decide +kernel
theorem dX4_ticks_75 : decode cX4_ticks 75 = .ok (.iaload, 1) := by decide +kernel
theorem dX4_ticks_76 : decode cX4_ticks 76 = .ok (.ifCond .ne 11, 3) := by decide +kernel
theorem dX4_ticks_79 : decode cX4_ticks 79 = .ok (.aload_n 0, 1) := by decide +kernel
theorem dX4_ticks_80 : decode cX4_ticks 80 = .ok (.iload_n 1, 1) := by decide +kernel
theorem dX4_ticks_81 : decode cX4_ticks 81 = .ok (.iload_n 3, 1) := by decide +kernel
theorem dX4_ticks_82 : decode cX4_ticks 82 = .ok (.iload 4, 2) := by decide +kernel
theorem dX4_ticks_84 : decode cX4_ticks 84 = .ok (.invokevirtual 65, 3) := by decide +kernel
theorem dX4_ticks_87 : decode cX4_ticks 87 = .ok (.iinc 2 1, 3) := by decide +kernel
theorem dX4_ticks_90 : decode cX4_ticks 90 = .ok (.goto (-88), 3) := by decide +kernel
theorem dX4_ticks_93 : decode cX4_ticks 93 = .ok (.return_, 1) := by decide +kernel
theorem dX4_ended_0 : decode cX4_ended 0 = .ok (.iconst 0, 1) := by decide +kernel
theorem dX4_ended_1 : decode cX4_ended 1 = .ok (.istore_n 2, 1) := by decide +kernel
theorem dX4_ended_2 : decode cX4_ended 2 = .ok (.iconst 0, 1) := by decide +kernel
theorem dX4_ended_3 : decode cX4_ended 3 = .ok (.istore_n 3, 1) := by decide +kernel
theorem dX4_ended_4 : decode cX4_ended 4 = .ok (.iload_n 3, 1) := by decide +kernel
theorem dX4_ended_5 : decode cX4_ended 5 = .ok (.bipush 6, 2) := by decide +kernel
theorem dX4_ended_7 : decode cX4_ended 7 = .ok (.aload_n 0, 1) := by decide +kernel
theorem dX4_ended_8 : decode cX4_ended 8 = .ok (.getfield 7, 3) := by decide +kernel
theorem dX4_ended_11 : decode cX4_ended 11 = .ok (.iload_n 1, 1) := by decide +kernel
theorem dX4_ended_12 : decode cX4_ended 12 = .ok (.iconst 3, 1) := by decide +kernel
theorem dX4_ended_13 : decode cX4_ended 13 = .ok (.iadd, 1) := by decide +kernel
theorem dX4_ended_14 : decode cX4_ended 14 = .ok (.iaload, 1) := by decide +kernel
theorem dX4_ended_15 : decode cX4_ended 15 = .ok (.imul, 1) := by decide +kernel
theorem dX4_ended_16 : decode cX4_ended 16 = .ok (.if_icmp .ge 34, 3) := by decide +kernel
theorem dX4_ended_19 : decode cX4_ended 19 = .ok (.iload_n 2, 1) := by decide +kernel
theorem dX4_ended_20 : decode cX4_ended 20 = .ok (.aload_n 0, 1) := by decide +kernel
theorem dX4_ended_21 : decode cX4_ended 21 = .ok (.iload_n 1, 1) := by decide +kernel
theorem dX4_ended_22 : decode cX4_ended 22 = .ok (.iload_n 3, 1) := by decide +kernel
theorem dX4_ended_23 : decode cX4_ended 23 = .ok (.bipush 6, 2) := by decide +kernel
theorem dX4_ended_25 : decode cX4_ended 25 = .ok (.idiv, 1) := by decide +kernel
theorem dX4_ended_26 : decode cX4_ended 26 = .ok (.iload_n 3, 1) := by decide +kernel
theorem dX4_ended_27 : decode cX4_ended 27 = .ok (.bipush 6, 2) := by decide +kernel
theorem dX4_ended_29 : decode cX4_ended 29 = .ok (.irem, 1) := by decide +kernel
theorem dX4_ended_30 : decode cX4_ended 30 = .ok (.invokevirtual 35, 3) := by decide +kernel
theorem dX4_ended_33 : decode cX4_ended 33 = .ok (.iconst 2, 1) := by decide +kernel
theorem dX4_ended_34 : decode cX4_ended 34 = .ok (.if_icmp .lt 7, 3) := by decide +kernel
theorem dX4_ended_37 : decode cX4_ended 37 = .ok (.iconst 1, 1) := by decide +kernel
theorem dX4_ended_38 : decode cX4_ended 38 = .ok (.goto 4, 3) := by decide +kernel
theorem dX4_ended_41 : decode cX4_ended 41 = .ok (.iconst 0, 1) := by decide +kernel
theorem dX4_ended_42 : decode cX4_ended 42 = .ok (.iadd, 1) := by decide +kernel
theorem dX4_ended_43 : decode cX4_ended 43 = .ok (.istore_n 2, 1) := by decide +kernel
theorem dX4_ended_44 : decode cX4_ended 44 = .ok (.iinc 3 1, 3) := by decide +kernel
theorem dX4_ended_47 : decode cX4_ended 47 = .ok (.goto (-43), 3) := by decide +kernel
theorem dX4_ended_50 : decode cX4_ended 50 = .ok (.iload_n 2, 1) := by decide +kernel
theorem dX4_ended_51 : decode cX4_ended 51 = .ok (.ireturn, 1) := by decide +kernel
theorem dX4_passes_0 : decode cX4_passes 0 = .ok (.aload_n 0, 1) := by decide +kernel
theorem dX4_passes_1 : decode cX4_passes 1 = .ok (.iconst 0, 1) := by decide +kernel
theorem dX4_passes_2 : decode cX4_passes 2 = .ok (.invokevirtual 68, 3) := by decide +kernel
theorem dX4_passes_5 : decode cX4_passes 5 = .ok (.istore_n 2, 1) := by decide +kernel
theorem dX4_passes_6 : decode cX4_passes 6 = .ok (.iconst 0, 1) := by decide +kernel
theorem dX4_passes_7 : decode cX4_passes 7 = .ok (.istore_n 3, 1) := by decide +kernel
theorem dX4_passes_8 : decode cX4_passes 8 = .ok (.iload_n 3, 1) := by decide +kernel
theorem dX4_passes_9 : decode cX4_passes 9 = .ok (.iload_n 1, 1) := by decide +kernel
theorem dX4_passes_10 : decode cX4_passes 10 = .ok (.if_icmp .ge 14, 3) := by decide +kernel
theorem dX4_passes_13 : decode cX4_passes 13 = .ok (.aload_n 0, 1) := by decide +kernel
theorem dX4_passes_14 : decode cX4_passes 14 = .ok (.iconst 0, 1) := by decide +kernel
theorem dX4_passes_15 : decode cX4_passes 15 = .ok (.invokevirtual 72, 3) := by decide +kernel
theorem dX4_passes_18 : decode cX4_passes 18 = .ok (.iinc 3 1, 3) := by decide +kernel
theorem dX4_passes_21 : decode cX4_passes 21 = .ok (.goto (-13), 3) := by decide +kernel
theorem dX4_passes_24 : decode cX4_passes 24 = .ok (.aload_n 0, 1) := by decide +kernel
theorem dX4_passes_25 : decode cX4_passes 25 = .ok (.iconst 0, 1) := by decide +kernel
theorem dX4_passes_26 : decode cX4_passes 26 = .ok (.invokevirtual 68, 3) := by decide +kernel
theorem dX4_passes_29 : decode cX4_passes 29 = .ok (.iload_n 2, 1) := by decide +kernel
theorem dX4_passes_30 : decode cX4_passes 30 = .ok (.isub, 1) := by decide +kernel
theorem dX4_passes_31 : decode cX4_passes 31 = .ok (.ireturn, 1) := by decide +kernel
theorem dX4_inDoubt_0 : decode cX4_inDoubt 0 = .ok (.iconst 0, 1) := by decide +kernel
theorem dX4_inDoubt_1 : decode cX4_inDoubt 1 = .ok (.istore_n 2, 1) := by decide +kernel
theorem dX4_inDoubt_2 : decode cX4_inDoubt 2 = .ok (.iconst 0, 1) := by decide +kernel
theorem dX4_inDoubt_3 : decode cX4_inDoubt 3 = .ok (.istore_n 3, 1) := by decide +kernel
theorem dX4_inDoubt_4 : decode cX4_inDoubt 4 = .ok (.iload_n 3, 1) := by decide +kernel
theorem dX4_inDoubt_5 : decode cX4_inDoubt 5 = .ok (.aload_n 0, 1) := by decide +kernel
theorem dX4_inDoubt_6 : decode cX4_inDoubt 6 = .ok (.getfield 7, 3) := by decide +kernel
theorem dX4_inDoubt_9 : decode cX4_inDoubt 9 = .ok (.iconst 3, 1) := by decide +kernel
theorem dX4_inDoubt_10 : decode cX4_inDoubt 10 = .ok (.iaload, 1) := by decide +kernel
theorem dX4_inDoubt_11 : decode cX4_inDoubt 11 = .ok (.if_icmp .ge 28, 3) := by decide +kernel
theorem dX4_inDoubt_14 : decode cX4_inDoubt 14 = .ok (.iload_n 2, 1) := by decide +kernel
theorem dX4_inDoubt_15 : decode cX4_inDoubt 15 = .ok (.aload_n 0, 1) := by decide +kernel
theorem dX4_inDoubt_16 : decode cX4_inDoubt 16 = .ok (.iconst 0, 1) := by decide +kernel
theorem dX4_inDoubt_17 : decode cX4_inDoubt 17 = .ok (.iload_n 3, 1) := by decide +kernel
theorem dX4_inDoubt_18 : decode cX4_inDoubt 18 = .ok (.iload_n 1, 1) := by decide +kernel
theorem dX4_inDoubt_19 : decode cX4_inDoubt 19 = .ok (.invokevirtual 35, 3) := by decide +kernel
theorem dX4_inDoubt_22 : decode cX4_inDoubt 22 = .ok (.iconst 1, 1) := by decide +kernel
theorem dX4_inDoubt_23 : decode cX4_inDoubt 23 = .ok (.if_icmp .ne 7, 3) := by decide +kernel
theorem dX4_inDoubt_26 : decode cX4_inDoubt 26 = .ok (.iconst 1, 1) := by decide +kernel
theorem dX4_inDoubt_27 : decode cX4_inDoubt 27 = .ok (.goto 4, 3) := by decide +kernel
theorem dX4_inDoubt_30 : decode cX4_inDoubt 30 = .ok (.iconst 0, 1) := by decide +kernel
theorem dX4_inDoubt_31 : decode cX4_inDoubt 31 = .ok (.iadd, 1) := by decide +kernel
theorem dX4_inDoubt_32 : decode cX4_inDoubt 32 = .ok (.istore_n 2, 1) := by decide +kernel
theorem dX4_inDoubt_33 : decode cX4_inDoubt 33 = .ok (.iinc 3 1, 3) := by decide +kernel
theorem dX4_inDoubt_36 : decode cX4_inDoubt 36 = .ok (.goto (-32), 3) := by decide +kernel
theorem dX4_inDoubt_39 : decode cX4_inDoubt 39 = .ok (.iload_n 2, 1) := by decide +kernel
theorem dX4_inDoubt_40 : decode cX4_inDoubt 40 = .ok (.ireturn, 1) := by decide +kernel
theorem dX4_comes_0 : decode cX4_comes 0 = .ok (.aload_n 0, 1) := by decide +kernel
theorem dX4_comes_1 : decode cX4_comes 1 = .ok (.getfield 7, 3) := by decide +kernel
theorem dX4_comes_4 : decode cX4_comes 4 = .ok (.sipush 132, 3) := by decide +kernel
theorem dX4_comes_7 : decode cX4_comes 7 = .ok (.bipush 25, 2) := by decide +kernel
theorem dX4_comes_9 : decode cX4_comes 9 = .ok (.iload_n 1, 1) := by decide +kernel
theorem dX4_comes_10 : decode cX4_comes 10 = .ok (.imul, 1) := by decide +kernel
theorem dX4_comes_11 : decode cX4_comes 11 = .ok (.iadd, 1) := by decide +kernel
theorem dX4_comes_12 : decode cX4_comes 12 = .ok (.iaload, 1) := by decide +kernel
theorem dX4_comes_13 : decode cX4_comes 13 = .ok (.istore_n 2, 1) := by decide +kernel
theorem dX4_comes_14 : decode cX4_comes 14 = .ok (.aload_n 0, 1) := by decide +kernel
theorem dX4_comes_15 : decode cX4_comes 15 = .ok (.getfield 7, 3) := by decide +kernel
theorem dX4_comes_18 : decode cX4_comes 18 = .ok (.iconst 0, 1) := by decide +kernel
theorem dX4_comes_19 : decode cX4_comes 19 = .ok (.dup2, 1) := by decide +kernel
theorem dX4_comes_20 : decode cX4_comes 20 = .ok (.iaload, 1) := by decide +kernel
theorem dX4_comes_21 : decode cX4_comes 21 = .ok (.iconst 1, 1) := by decide +kernel
theorem dX4_comes_22 : decode cX4_comes 22 = .ok (.iload_n 1, 1) := by decide +kernel
theorem dX4_comes_23 : decode cX4_comes 23 = .ok (.ishl, 1) := by decide +kernel
theorem dX4_comes_24 : decode cX4_comes 24 = .ok (.ior, 1) := by decide +kernel
theorem dX4_comes_25 : decode cX4_comes 25 = .ok (.iastore, 1) := by decide +kernel
theorem dX4_comes_26 : decode cX4_comes 26 = .ok (.iconst 0, 1) := by decide +kernel
theorem dX4_comes_27 : decode cX4_comes 27 = .ok (.istore_n 3, 1) := by decide +kernel
theorem dX4_comes_28 : decode cX4_comes 28 = .ok (.iload_n 3, 1) := by decide +kernel
theorem dX4_comes_29 : decode cX4_comes 29 = .ok (.aload_n 0, 1) := by decide +kernel
theorem dX4_comes_30 : decode cX4_comes 30 = .ok (.getfield 7, 3) := by decide +kernel
theorem dX4_comes_33 : decode cX4_comes 33 = .ok (.iconst 3, 1) := by decide +kernel
theorem dX4_comes_34 : decode cX4_comes 34 = .ok (.iaload, 1) := by decide +kernel
theorem dX4_comes_35 : decode cX4_comes 35 = .ok (.if_icmp .ge 55, 3) := by decide +kernel
theorem dX4_comes_38 : decode cX4_comes 38 = .ok (.aload_n 0, 1) := by decide +kernel
theorem dX4_comes_39 : decode cX4_comes 39 = .ok (.iconst 0, 1) := by decide +kernel
theorem dX4_comes_40 : decode cX4_comes 40 = .ok (.iload_n 3, 1) := by decide +kernel
theorem dX4_comes_41 : decode cX4_comes 41 = .ok (.iload_n 1, 1) := by decide +kernel
theorem dX4_comes_42 : decode cX4_comes 42 = .ok (.invokevirtual 35, 3) := by decide +kernel
theorem dX4_comes_45 : decode cX4_comes 45 = .ok (.ifCond .ne 11, 3) := by decide +kernel
theorem dX4_comes_48 : decode cX4_comes 48 = .ok (.aload_n 0, 1) := by decide +kernel
theorem dX4_comes_49 : decode cX4_comes 49 = .ok (.iconst 0, 1) := by decide +kernel
theorem dX4_comes_50 : decode cX4_comes 50 = .ok (.iload_n 3, 1) := by decide +kernel
theorem dX4_comes_51 : decode cX4_comes 51 = .ok (.iload_n 1, 1) := by decide +kernel
theorem dX4_comes_52 : decode cX4_comes 52 = .ok (.iconst 3, 1) := by decide +kernel
theorem dX4_comes_53 : decode cX4_comes 53 = .ok (.invokevirtual 45, 3) := by decide +kernel
theorem dX4_comes_56 : decode cX4_comes 56 = .ok (.aload_n 0, 1) := by decide +kernel
theorem dX4_comes_57 : decode cX4_comes 57 = .ok (.iconst 0, 1) := by decide +kernel
theorem dX4_comes_58 : decode cX4_comes 58 = .ok (.iload_n 3, 1) := by decide +kernel
theorem dX4_comes_59 : decode cX4_comes 59 = .ok (.iconst 0, 1) := by decide +kernel
theorem dX4_comes_60 : decode cX4_comes 60 = .ok (.invokevirtual 24, 3) := by decide +kernel
theorem dX4_comes_63 : decode cX4_comes 63 = .ok (.iload_n 1, 1) := by decide +kernel
theorem dX4_comes_64 : decode cX4_comes 64 = .ok (.if_icmp .ne 20, 3) := by decide +kernel
theorem dX4_comes_67 : decode cX4_comes 67 = .ok (.aload_n 0, 1) := by decide +kernel
theorem dX4_comes_68 : decode cX4_comes 68 = .ok (.iconst 0, 1) := by decide +kernel
theorem dX4_comes_69 : decode cX4_comes 69 = .ok (.iload_n 3, 1) := by decide +kernel
theorem dX4_comes_70 : decode cX4_comes 70 = .ok (.iconst 3, 1) := by decide +kernel
theorem dX4_comes_71 : decode cX4_comes 71 = .ok (.invokevirtual 24, 3) := by decide +kernel
theorem dX4_comes_74 : decode cX4_comes 74 = .ok (.ifCond .ne 10, 3) := by decide +kernel
theorem dX4_comes_77 : decode cX4_comes 77 = .ok (.aload_n 0, 1) := by decide +kernel
theorem dX4_comes_78 : decode cX4_comes 78 = .ok (.iconst 0, 1) := by decide +kernel
theorem dX4_comes_79 : decode cX4_comes 79 = .ok (.iload_n 3, 1) := by decide +kernel
theorem dX4_comes_80 : decode cX4_comes 80 = .ok (.iconst 3, 1) := by decide +kernel
theorem dX4_comes_81 : decode cX4_comes 81 = .ok (.invokevirtual 49, 3) := by decide +kernel
theorem dX4_comes_84 : decode cX4_comes 84 = .ok (.iinc 3 1, 3) := by decide +kernel
theorem dX4_comes_87 : decode cX4_comes 87 = .ok (.goto (-59), 3) := by decide +kernel
theorem dX4_comes_90 : decode cX4_comes 90 = .ok (.aload_n 0, 1) := by decide +kernel
theorem dX4_comes_91 : decode cX4_comes 91 = .ok (.getfield 7, 3) := by decide +kernel
theorem dX4_comes_94 : decode cX4_comes 94 = .ok (.sipush 132, 3) := by decide +kernel
theorem dX4_comes_97 : decode cX4_comes 97 = .ok (.bipush 25, 2) := by decide +kernel
theorem dX4_comes_99 : decode cX4_comes 99 = .ok (.iload_n 1, 1) := by decide +kernel
theorem dX4_comes_100 : decode cX4_comes 100 = .ok (.imul, 1) := by decide +kernel
theorem dX4_comes_101 : decode cX4_comes 101 = .ok (.iadd, 1) := by decide +kernel
theorem dX4_comes_102 : decode cX4_comes 102 = .ok (.iaload, 1) := by decide +kernel
theorem dX4_comes_103 : decode cX4_comes 103 = .ok (.iload_n 2, 1) := by decide +kernel
theorem dX4_comes_104 : decode cX4_comes 104 = .ok (.isub, 1) := by decide +kernel
theorem dX4_comes_105 : decode cX4_comes 105 = .ok (.ireturn, 1) := by decide +kernel
theorem dX4_canVote_0 : decode cX4_canVote 0 = .ok (.aload_n 0, 1) := by decide +kernel
theorem dX4_canVote_1 : decode cX4_canVote 1 = .ok (.iconst 0, 1) := by decide +kernel
theorem dX4_canVote_2 : decode cX4_canVote 2 = .ok (.iload_n 2, 1) := by decide +kernel
theorem dX4_canVote_3 : decode cX4_canVote 3 = .ok (.invokevirtual 58, 3) := by decide +kernel
theorem dX4_canVote_6 : decode cX4_canVote 6 = .ok (.ifCond .eq 17, 3) := by decide +kernel
theorem dX4_canVote_9 : decode cX4_canVote 9 = .ok (.aload_n 0, 1) := by decide +kernel
theorem dX4_canVote_10 : decode cX4_canVote 10 = .ok (.iconst 0, 1) := by decide +kernel
theorem dX4_canVote_11 : decode cX4_canVote 11 = .ok (.iload_n 1, 1) := by decide +kernel
theorem dX4_canVote_12 : decode cX4_canVote 12 = .ok (.iload_n 2, 1) := by decide +kernel
theorem dX4_canVote_13 : decode cX4_canVote 13 = .ok (.invokevirtual 35, 3) := by decide +kernel
theorem dX4_canVote_16 : decode cX4_canVote 16 = .ok (.ifCond .ne 7, 3) := by decide +kernel
theorem dX4_canVote_19 : decode cX4_canVote 19 = .ok (.iconst 1, 1) := by decide +kernel
theorem dX4_canVote_20 : decode cX4_canVote 20 = .ok (.goto 4, 3) := by decide +kernel
theorem dX4_canVote_23 : decode cX4_canVote 23 = .ok (.iconst 0, 1) := by decide +kernel
theorem dX4_canVote_24 : decode cX4_canVote 24 = .ok (.ireturn, 1) := by decide +kernel
theorem dX4_canDecide_0 : decode cX4_canDecide 0 = .ok (.aload_n 0, 1) := by decide +kernel
theorem dX4_canDecide_1 : decode cX4_canDecide 1 = .ok (.iconst 0, 1) := by decide +kernel
theorem dX4_canDecide_2 : decode cX4_canDecide 2 = .ok (.aload_n 0, 1) := by decide +kernel
theorem dX4_canDecide_3 : decode cX4_canDecide 3 = .ok (.iconst 0, 1) := by decide +kernel
theorem dX4_canDecide_4 : decode cX4_canDecide 4 = .ok (.iload_n 1, 1) := by decide +kernel
theorem dX4_canDecide_5 : decode cX4_canDecide 5 = .ok (.iconst 0, 1) := by decide +kernel
theorem dX4_canDecide_6 : decode cX4_canDecide 6 = .ok (.invokevirtual 24, 3) := by decide +kernel
theorem dX4_canDecide_9 : decode cX4_canDecide 9 = .ok (.invokevirtual 58, 3) := by decide +kernel
theorem dX4_canDecide_12 : decode cX4_canDecide 12 = .ok (.ifCond .eq 17, 3) := by decide +kernel
theorem dX4_canDecide_15 : decode cX4_canDecide 15 = .ok (.aload_n 0, 1) := by decide +kernel
theorem dX4_canDecide_16 : decode cX4_canDecide 16 = .ok (.iconst 0, 1) := by decide +kernel
theorem dX4_canDecide_17 : decode cX4_canDecide 17 = .ok (.iload_n 1, 1) := by decide +kernel
theorem dX4_canDecide_18 : decode cX4_canDecide 18 = .ok (.iconst 3, 1) := by decide +kernel
theorem dX4_canDecide_19 : decode cX4_canDecide 19 = .ok (.invokevirtual 24, 3) := by decide +kernel
theorem dX4_canDecide_22 : decode cX4_canDecide 22 = .ok (.ifCond .ne 7, 3) := by decide +kernel
theorem dX4_canDecide_25 : decode cX4_canDecide 25 = .ok (.iconst 1, 1) := by decide +kernel
theorem dX4_canDecide_26 : decode cX4_canDecide 26 = .ok (.goto 4, 3) := by decide +kernel
theorem dX4_canDecide_29 : decode cX4_canDecide 29 = .ok (.iconst 0, 1) := by decide +kernel
theorem dX4_canDecide_30 : decode cX4_canDecide 30 = .ok (.ireturn, 1) := by decide +kernel
theorem dX4_canTell_0 : decode cX4_canTell 0 = .ok (.aload_n 0, 1) := by decide +kernel
theorem dX4_canTell_1 : decode cX4_canTell 1 = .ok (.iconst 0, 1) := by decide +kernel
theorem dX4_canTell_2 : decode cX4_canTell 2 = .ok (.iload_n 1, 1) := by decide +kernel
theorem dX4_canTell_3 : decode cX4_canTell 3 = .ok (.iload_n 2, 1) := by decide +kernel
theorem dX4_canTell_4 : decode cX4_canTell 4 = .ok (.invokevirtual 28, 3) := by decide +kernel
theorem dX4_canTell_7 : decode cX4_canTell 7 = .ok (.ifCond .eq 41, 3) := by decide +kernel
theorem dX4_canTell_10 : decode cX4_canTell 10 = .ok (.aload_n 0, 1) := by decide +kernel
theorem dX4_canTell_11 : decode cX4_canTell 11 = .ok (.iconst 0, 1) := by decide +kernel
theorem dX4_canTell_12 : decode cX4_canTell 12 = .ok (.iload_n 2, 1) := by decide +kernel
theorem dX4_canTell_13 : decode cX4_canTell 13 = .ok (.invokevirtual 58, 3) := by decide +kernel
theorem dX4_canTell_16 : decode cX4_canTell 16 = .ok (.ifCond .eq 32, 3) := by decide +kernel
theorem dX4_canTell_19 : decode cX4_canTell 19 = .ok (.aload_n 0, 1) := by decide +kernel
theorem dX4_canTell_20 : decode cX4_canTell 20 = .ok (.iconst 0, 1) := by decide +kernel
theorem dX4_canTell_21 : decode cX4_canTell 21 = .ok (.aload_n 0, 1) := by decide +kernel
theorem dX4_canTell_22 : decode cX4_canTell 22 = .ok (.iconst 0, 1) := by decide +kernel
theorem dX4_canTell_23 : decode cX4_canTell 23 = .ok (.iload_n 1, 1) := by decide +kernel
theorem dX4_canTell_24 : decode cX4_canTell 24 = .ok (.iconst 0, 1) := by decide +kernel
theorem dX4_canTell_25 : decode cX4_canTell 25 = .ok (.invokevirtual 24, 3) := by decide +kernel
theorem dX4_canTell_28 : decode cX4_canTell 28 = .ok (.invokevirtual 58, 3) := by decide +kernel
theorem dX4_canTell_31 : decode cX4_canTell 31 = .ok (.ifCond .eq 17, 3) := by decide +kernel
theorem dX4_canTell_34 : decode cX4_canTell 34 = .ok (.aload_n 0, 1) := by decide +kernel
theorem dX4_canTell_35 : decode cX4_canTell 35 = .ok (.iconst 0, 1) := by decide +kernel
theorem dX4_canTell_36 : decode cX4_canTell 36 = .ok (.iload_n 1, 1) := by decide +kernel
theorem dX4_canTell_37 : decode cX4_canTell 37 = .ok (.iconst 3, 1) := by decide +kernel
theorem dX4_canTell_38 : decode cX4_canTell 38 = .ok (.invokevirtual 24, 3) := by decide +kernel
theorem dX4_canTell_41 : decode cX4_canTell 41 = .ok (.ifCond .eq 7, 3) := by decide +kernel
theorem dX4_canTell_44 : decode cX4_canTell 44 = .ok (.iconst 1, 1) := by decide +kernel
theorem dX4_canTell_45 : decode cX4_canTell 45 = .ok (.goto 4, 3) := by decide +kernel
theorem dX4_canTell_48 : decode cX4_canTell 48 = .ok (.iconst 0, 1) := by decide +kernel
theorem dX4_canTell_49 : decode cX4_canTell 49 = .ok (.ireturn, 1) := by decide +kernel
theorem dX4_canAsk_0 : decode cX4_canAsk 0 = .ok (.aload_n 0, 1) := by decide +kernel
theorem dX4_canAsk_1 : decode cX4_canAsk 1 = .ok (.iconst 0, 1) := by decide +kernel
theorem dX4_canAsk_2 : decode cX4_canAsk 2 = .ok (.iload_n 2, 1) := by decide +kernel
theorem dX4_canAsk_3 : decode cX4_canAsk 3 = .ok (.invokevirtual 58, 3) := by decide +kernel
theorem dX4_canAsk_6 : decode cX4_canAsk 6 = .ok (.ifCond .eq 27, 3) := by decide +kernel
theorem dX4_canAsk_9 : decode cX4_canAsk 9 = .ok (.aload_n 0, 1) := by decide +kernel
theorem dX4_canAsk_10 : decode cX4_canAsk 10 = .ok (.iconst 0, 1) := by decide +kernel
theorem dX4_canAsk_11 : decode cX4_canAsk 11 = .ok (.iload_n 3, 1) := by decide +kernel
theorem dX4_canAsk_12 : decode cX4_canAsk 12 = .ok (.invokevirtual 58, 3) := by decide +kernel
theorem dX4_canAsk_15 : decode cX4_canAsk 15 = .ok (.ifCond .eq 18, 3) := by decide +kernel
theorem dX4_canAsk_18 : decode cX4_canAsk 18 = .ok (.aload_n 0, 1) := by decide +kernel
theorem dX4_canAsk_19 : decode cX4_canAsk 19 = .ok (.iconst 0, 1) := by decide +kernel
theorem dX4_canAsk_20 : decode cX4_canAsk 20 = .ok (.iload_n 1, 1) := by decide +kernel
theorem dX4_canAsk_21 : decode cX4_canAsk 21 = .ok (.iload_n 2, 1) := by decide +kernel
theorem dX4_canAsk_22 : decode cX4_canAsk 22 = .ok (.invokevirtual 35, 3) := by decide +kernel
theorem dX4_canAsk_25 : decode cX4_canAsk 25 = .ok (.iconst 1, 1) := by decide +kernel
theorem dX4_canAsk_26 : decode cX4_canAsk 26 = .ok (.if_icmp .ne 7, 3) := by decide +kernel
theorem dX4_canAsk_29 : decode cX4_canAsk 29 = .ok (.iconst 1, 1) := by decide +kernel
theorem dX4_canAsk_30 : decode cX4_canAsk 30 = .ok (.goto 4, 3) := by decide +kernel
theorem dX4_canAsk_33 : decode cX4_canAsk 33 = .ok (.iconst 0, 1) := by decide +kernel
theorem dX4_canAsk_34 : decode cX4_canAsk 34 = .ok (.ireturn, 1) := by decide +kernel
theorem dX4_copies_0 : decode cX4_copies 0 = .ok (.iconst 0, 1) := by decide +kernel
theorem dX4_copies_1 : decode cX4_copies 1 = .ok (.istore_n 3, 1) := by decide +kernel
theorem dX4_copies_2 : decode cX4_copies 2 = .ok (.iload_n 3, 1) := by decide +kernel
theorem dX4_copies_3 : decode cX4_copies 3 = .ok (.sipush 282, 3) := by decide +kernel
theorem dX4_copies_6 : decode cX4_copies 6 = .ok (.if_icmp .ge 33, 3) := by decide +kernel
theorem dX4_copies_9 : decode cX4_copies 9 = .ok (.aload_n 0, 1) := by decide +kernel
theorem dX4_copies_10 : decode cX4_copies 10 = .ok (.getfield 7, 3) := by decide +kernel
theorem dX4_copies_13 : decode cX4_copies 13 = .ok (.sipush 282, 3) := by decide +kernel
theorem dX4_copies_16 : decode cX4_copies 16 = .ok (.iload_n 2, 1) := by decide +kernel
theorem dX4_copies_17 : decode cX4_copies 17 = .ok (.imul, 1) := by decide +kernel
theorem dX4_copies_18 : decode cX4_copies 18 = .ok (.iload_n 3, 1) := by decide +kernel
theorem dX4_copies_19 : decode cX4_copies 19 = .ok (.iadd, 1) := by decide +kernel
theorem dX4_copies_20 : decode cX4_copies 20 = .ok (.aload_n 0, 1) := by decide +kernel
theorem dX4_copies_21 : decode cX4_copies 21 = .ok (.getfield 7, 3) := by decide +kernel
theorem dX4_copies_24 : decode cX4_copies 24 = .ok (.sipush 282, 3) := by decide +kernel
theorem dX4_copies_27 : decode cX4_copies 27 = .ok (.iload_n 1, 1) := by decide +kernel
theorem dX4_copies_28 : decode cX4_copies 28 = .ok (.imul, 1) := by decide +kernel
theorem dX4_copies_29 : decode cX4_copies 29 = .ok (.iload_n 3, 1) := by decide +kernel
theorem dX4_copies_30 : decode cX4_copies 30 = .ok (.iadd, 1) := by decide +kernel
theorem dX4_copies_31 : decode cX4_copies 31 = .ok (.iaload, 1) := by decide +kernel
theorem dX4_copies_32 : decode cX4_copies 32 = .ok (.iastore, 1) := by decide +kernel
theorem dX4_copies_33 : decode cX4_copies 33 = .ok (.iinc 3 1, 3) := by decide +kernel
theorem dX4_copies_36 : decode cX4_copies 36 = .ok (.goto (-34), 3) := by decide +kernel
theorem dX4_copies_39 : decode cX4_copies 39 = .ok (.return_, 1) := by decide +kernel
theorem dX4_save_0 : decode cX4_save 0 = .ok (.iconst 1, 1) := by decide +kernel
theorem dX4_save_1 : decode cX4_save 1 = .ok (.istore_n 1, 1) := by decide +kernel
theorem dX4_save_2 : decode cX4_save 2 = .ok (.iload_n 1, 1) := by decide +kernel
theorem dX4_save_3 : decode cX4_save 3 = .ok (.bipush 6, 2) := by decide +kernel
theorem dX4_save_5 : decode cX4_save 5 = .ok (.if_icmp .ge 26, 3) := by decide +kernel
theorem dX4_save_8 : decode cX4_save 8 = .ok (.aload_n 0, 1) := by decide +kernel
theorem dX4_save_9 : decode cX4_save 9 = .ok (.getfield 76, 3) := by decide +kernel
theorem dX4_save_12 : decode cX4_save 12 = .ok (.bipush 6, 2) := by decide +kernel
theorem dX4_save_14 : decode cX4_save 14 = .ok (.if_icmp .ne 17, 3) := by decide +kernel
theorem dX4_save_17 : decode cX4_save 17 = .ok (.aload_n 0, 1) := by decide +kernel
theorem dX4_save_18 : decode cX4_save 18 = .ok (.iload_n 1, 1) := by decide +kernel
theorem dX4_save_19 : decode cX4_save 19 = .ok (.iconst 1, 1) := by decide +kernel
theorem dX4_save_20 : decode cX4_save 20 = .ok (.iadd, 1) := by decide +kernel
theorem dX4_save_21 : decode cX4_save 21 = .ok (.iload_n 1, 1) := by decide +kernel
theorem dX4_save_22 : decode cX4_save 22 = .ok (.invokevirtual 79, 3) := by decide +kernel
theorem dX4_save_25 : decode cX4_save 25 = .ok (.iinc 1 1, 3) := by decide +kernel
theorem dX4_save_28 : decode cX4_save 28 = .ok (.goto (-26), 3) := by decide +kernel
theorem dX4_save_31 : decode cX4_save 31 = .ok (.aload_n 0, 1) := by decide +kernel
theorem dX4_save_32 : decode cX4_save 32 = .ok (.dup, 1) := by decide +kernel
theorem dX4_save_33 : decode cX4_save 33 = .ok (.getfield 76, 3) := by decide +kernel
theorem dX4_save_36 : decode cX4_save 36 = .ok (.aload_n 0, 1) := by decide +kernel
theorem dX4_save_37 : decode cX4_save 37 = .ok (.getfield 76, 3) := by decide +kernel
theorem dX4_save_40 : decode cX4_save 40 = .ok (.bipush 6, 2) := by decide +kernel
theorem dX4_save_42 : decode cX4_save 42 = .ok (.if_icmp .ge 7, 3) := by decide +kernel
theorem dX4_save_45 : decode cX4_save 45 = .ok (.iconst 1, 1) := by decide +kernel
theorem dX4_save_46 : decode cX4_save 46 = .ok (.goto 4, 3) := by decide +kernel
theorem dX4_save_49 : decode cX4_save 49 = .ok (.iconst 0, 1) := by decide +kernel
theorem dX4_save_50 : decode cX4_save 50 = .ok (.iadd, 1) := by decide +kernel
theorem dX4_save_51 : decode cX4_save 51 = .ok (.putfield 76, 3) := by decide +kernel
theorem dX4_save_54 : decode cX4_save 54 = .ok (.aload_n 0, 1) := by decide +kernel
theorem dX4_save_55 : decode cX4_save 55 = .ok (.iconst 0, 1) := by decide +kernel
theorem dX4_save_56 : decode cX4_save 56 = .ok (.aload_n 0, 1) := by decide +kernel
theorem dX4_save_57 : decode cX4_save 57 = .ok (.getfield 76, 3) := by decide +kernel
theorem dX4_save_60 : decode cX4_save 60 = .ok (.invokevirtual 79, 3) := by decide +kernel
theorem dX4_save_63 : decode cX4_save 63 = .ok (.return_, 1) := by decide +kernel
theorem dX4_bits_0 : decode cX4_bits 0 = .ok (.iconst 0, 1) := by decide +kernel
theorem dX4_bits_1 : decode cX4_bits 1 = .ok (.istore_n 1, 1) := by decide +kernel
theorem dX4_bits_2 : decode cX4_bits 2 = .ok (.iconst 0, 1) := by decide +kernel
theorem dX4_bits_3 : decode cX4_bits 3 = .ok (.istore_n 2, 1) := by decide +kernel
theorem dX4_bits_4 : decode cX4_bits 4 = .ok (.iload_n 2, 1) := by decide +kernel
theorem dX4_bits_5 : decode cX4_bits 5 = .ok (.bipush 6, 2) := by decide +kernel
theorem dX4_bits_7 : decode cX4_bits 7 = .ok (.if_icmp .ge 17, 3) := by decide +kernel
theorem dX4_bits_10 : decode cX4_bits 10 = .ok (.iload_n 1, 1) := by decide +kernel
theorem dX4_bits_11 : decode cX4_bits 11 = .ok (.iload_n 0, 1) := by decide +kernel
theorem dX4_bits_12 : decode cX4_bits 12 = .ok (.iload_n 2, 1) := by decide +kernel
theorem dX4_bits_13 : decode cX4_bits 13 = .ok (.ishr, 1) := by decide +kernel
theorem dX4_bits_14 : decode cX4_bits 14 = .ok (.iconst 1, 1) := by decide +kernel
theorem dX4_bits_15 : decode cX4_bits 15 = .ok (.iand, 1) := by decide +kernel
theorem dX4_bits_16 : decode cX4_bits 16 = .ok (.iadd, 1) := by decide +kernel
theorem dX4_bits_17 : decode cX4_bits 17 = .ok (.istore_n 1, 1) := by decide +kernel
theorem dX4_bits_18 : decode cX4_bits 18 = .ok (.iinc 2 1, 3) := by decide +kernel
theorem dX4_bits_21 : decode cX4_bits 21 = .ok (.goto (-17), 3) := by decide +kernel
theorem dX4_bits_24 : decode cX4_bits 24 = .ok (.iload_n 1, 1) := by decide +kernel
theorem dX4_bits_25 : decode cX4_bits 25 = .ok (.ireturn, 1) := by decide +kernel
theorem dX4_begin_0 : decode cX4_begin 0 = .ok (.iload_n 2, 1) := by decide +kernel
theorem dX4_begin_1 : decode cX4_begin 1 = .ok (.iconst 1, 1) := by decide +kernel
theorem dX4_begin_2 : decode cX4_begin 2 = .ok (.bipush 63, 2) := by decide +kernel
theorem dX4_begin_4 : decode cX4_begin 4 = .ok (.invokestatic 20, 3) := by decide +kernel
theorem dX4_begin_7 : decode cX4_begin 7 = .ok (.ifCond .eq 25, 3) := by decide +kernel
theorem dX4_begin_10 : decode cX4_begin 10 = .ok (.iload_n 2, 1) := by decide +kernel
theorem dX4_begin_11 : decode cX4_begin 11 = .ok (.invokestatic 83, 3) := by decide +kernel
theorem dX4_begin_14 : decode cX4_begin 14 = .ok (.iconst 2, 1) := by decide +kernel
theorem dX4_begin_15 : decode cX4_begin 15 = .ok (.if_icmp .lt 17, 3) := by decide +kernel
theorem dX4_begin_18 : decode cX4_begin 18 = .ok (.iload_n 3, 1) := by decide +kernel
theorem dX4_begin_19 : decode cX4_begin 19 = .ok (.iconst 0, 1) := by decide +kernel
theorem dX4_begin_20 : decode cX4_begin 20 = .ok (.bipush 9, 2) := by decide +kernel
theorem dX4_begin_22 : decode cX4_begin 22 = .ok (.invokestatic 20, 3) := by decide +kernel
theorem dX4_begin_25 : decode cX4_begin 25 = .ok (.ifCond .eq 7, 3) := by decide +kernel
theorem dX4_begin_28 : decode cX4_begin 28 = .ok (.iconst 1, 1) := by decide +kernel
theorem dX4_begin_29 : decode cX4_begin 29 = .ok (.goto 4, 3) := by decide +kernel
theorem dX4_begin_32 : decode cX4_begin 32 = .ok (.iconst 0, 1) := by decide +kernel
theorem dX4_begin_33 : decode cX4_begin 33 = .ok (.istore 4, 2) := by decide +kernel
theorem dX4_begin_35 : decode cX4_begin 35 = .ok (.iload_n 1, 1) := by decide +kernel
theorem dX4_begin_36 : decode cX4_begin 36 = .ok (.invokestatic 86, 3) := by decide +kernel
theorem dX4_begin_39 : decode cX4_begin 39 = .ok (.ifCond .eq 43, 3) := by decide +kernel
theorem dX4_begin_42 : decode cX4_begin 42 = .ok (.iload 4, 2) := by decide +kernel
theorem dX4_begin_44 : decode cX4_begin 44 = .ok (.ifCond .eq 38, 3) := by decide +kernel
theorem dX4_begin_47 : decode cX4_begin 47 = .ok (.aload_n 0, 1) := by decide +kernel
theorem dX4_begin_48 : decode cX4_begin 48 = .ok (.getfield 7, 3) := by decide +kernel
theorem dX4_begin_51 : decode cX4_begin 51 = .ok (.iconst 3, 1) := by decide +kernel
theorem dX4_begin_52 : decode cX4_begin 52 = .ok (.iaload, 1) := by decide +kernel
theorem dX4_begin_53 : decode cX4_begin 53 = .ok (.bipush 8, 2) := by decide +kernel
theorem dX4_begin_55 : decode cX4_begin 55 = .ok (.if_icmp .ge 27, 3) := by decide +kernel
theorem dX4_begin_58 : decode cX4_begin 58 = .ok (.aload_n 0, 1) := by decide +kernel
theorem dX4_begin_59 : decode cX4_begin 59 = .ok (.getfield 7, 3) := by decide +kernel
theorem dX4_begin_62 : decode cX4_begin 62 = .ok (.iconst 0, 1) := by decide +kernel
theorem dX4_begin_63 : decode cX4_begin 63 = .ok (.iaload, 1) := by decide +kernel
theorem dX4_begin_64 : decode cX4_begin 64 = .ok (.iload_n 2, 1) := by decide +kernel
theorem dX4_begin_65 : decode cX4_begin 65 = .ok (.iconst 1, 1) := by decide +kernel
theorem dX4_begin_66 : decode cX4_begin 66 = .ok (.iload_n 1, 1) := by decide +kernel
theorem dX4_begin_67 : decode cX4_begin 67 = .ok (.ishl, 1) := by decide +kernel
theorem dX4_begin_68 : decode cX4_begin 68 = .ok (.ior, 1) := by decide +kernel
theorem dX4_begin_69 : decode cX4_begin 69 = .ok (.iand, 1) := by decide +kernel
theorem dX4_begin_70 : decode cX4_begin 70 = .ok (.iload_n 2, 1) := by decide +kernel
theorem dX4_begin_71 : decode cX4_begin 71 = .ok (.iconst 1, 1) := by decide +kernel
theorem dX4_begin_72 : decode cX4_begin 72 = .ok (.iload_n 1, 1) := by decide +kernel
theorem dX4_begin_73 : decode cX4_begin 73 = .ok (.ishl, 1) := by decide +kernel
theorem dX4_begin_74 : decode cX4_begin 74 = .ok (.ior, 1) := by decide +kernel
theorem dX4_begin_75 : decode cX4_begin 75 = .ok (.if_icmp .ne 7, 3) := by decide +kernel
theorem dX4_begin_78 : decode cX4_begin 78 = .ok (.iconst 1, 1) := by decide +kernel
theorem dX4_begin_79 : decode cX4_begin 79 = .ok (.goto 4, 3) := by decide +kernel
theorem dX4_begin_82 : decode cX4_begin 82 = .ok (.iconst 0, 1) := by decide +kernel
theorem dX4_begin_83 : decode cX4_begin 83 = .ok (.istore 5, 2) := by decide +kernel
theorem dX4_begin_85 : decode cX4_begin 85 = .ok (.aload_n 0, 1) := by decide +kernel
theorem dX4_begin_86 : decode cX4_begin 86 = .ok (.iload_n 1, 1) := by decide +kernel
theorem dX4_begin_87 : decode cX4_begin 87 = .ok (.invokestatic 86, 3) := by decide +kernel
theorem dX4_begin_90 : decode cX4_begin 90 = .ok (.ifCond .ne 7, 3) := by decide +kernel
theorem dX4_begin_93 : decode cX4_begin 93 = .ok (.iconst 1, 1) := by decide +kernel
theorem dX4_begin_94 : decode cX4_begin 94 = .ok (.goto 22, 3) := by decide +kernel
theorem dX4_begin_97 : decode cX4_begin 97 = .ok (.iload 4, 2) := by decide +kernel
theorem dX4_begin_99 : decode cX4_begin 99 = .ok (.ifCond .ne 7, 3) := by decide +kernel
theorem dX4_begin_102 : decode cX4_begin 102 = .ok (.iconst 2, 1) := by decide +kernel
theorem dX4_begin_103 : decode cX4_begin 103 = .ok (.goto 13, 3) := by decide +kernel
theorem dX4_begin_106 : decode cX4_begin 106 = .ok (.iload 5, 2) := by decide +kernel
theorem dX4_begin_108 : decode cX4_begin 108 = .ok (.ifCond .ne 7, 3) := by decide +kernel
theorem dX4_begin_111 : decode cX4_begin 111 = .ok (.iconst 3, 1) := by decide +kernel
theorem dX4_begin_112 : decode cX4_begin 112 = .ok (.goto 4, 3) := by decide +kernel
theorem dX4_begin_115 : decode cX4_begin 115 = .ok (.iconst 0, 1) := by decide +kernel
theorem dX4_begin_116 : decode cX4_begin 116 = .ok (.invokevirtual 90, 3) := by decide +kernel
theorem dX4_begin_119 : decode cX4_begin 119 = .ok (.ifCond .ne 5, 3) := by decide +kernel
theorem dX4_begin_122 : decode cX4_begin 122 = .ok (.iconst 0, 1) := by decide +kernel
theorem dX4_begin_123 : decode cX4_begin 123 = .ok (.ireturn, 1) := by decide +kernel
theorem dX4_begin_124 : decode cX4_begin 124 = .ok (.aload_n 0, 1) := by decide +kernel
theorem dX4_begin_125 : decode cX4_begin 125 = .ok (.invokevirtual 93, 3) := by decide +kernel
theorem dX4_begin_128 : decode cX4_begin 128 = .ok (.iconst 4, 1) := by decide +kernel
theorem dX4_begin_129 : decode cX4_begin 129 = .ok (.iconst 4, 1) := by decide +kernel
theorem dX4_begin_130 : decode cX4_begin 130 = .ok (.aload_n 0, 1) := by decide +kernel
theorem dX4_begin_131 : decode cX4_begin 131 = .ok (.getfield 7, 3) := by decide +kernel
theorem dX4_begin_134 : decode cX4_begin 134 = .ok (.iconst 3, 1) := by decide +kernel
theorem dX4_begin_135 : decode cX4_begin 135 = .ok (.iaload, 1) := by decide +kernel
theorem dX4_begin_136 : decode cX4_begin 136 = .ok (.imul, 1) := by decide +kernel
theorem dX4_begin_137 : decode cX4_begin 137 = .ok (.iadd, 1) := by decide +kernel
theorem dX4_begin_138 : decode cX4_begin 138 = .ok (.istore 6, 2) := by decide +kernel
theorem dX4_begin_140 : decode cX4_begin 140 = .ok (.aload_n 0, 1) := by decide +kernel
theorem dX4_begin_141 : decode cX4_begin 141 = .ok (.getfield 7, 3) := by decide +kernel
theorem dX4_begin_144 : decode cX4_begin 144 = .ok (.iload 6, 2) := by decide +kernel
theorem dX4_begin_146 : decode cX4_begin 146 = .ok (.iconst 0, 1) := by decide +kernel
theorem dX4_begin_147 : decode cX4_begin 147 = .ok (.iadd, 1) := by decide +kernel
theorem dX4_begin_148 : decode cX4_begin 148 = .ok (.iload_n 1, 1) := by decide +kernel
theorem dX4_begin_149 : decode cX4_begin 149 = .ok (.iastore, 1) := by decide +kernel
theorem dX4_begin_150 : decode cX4_begin 150 = .ok (.aload_n 0, 1) := by decide +kernel
theorem dX4_begin_151 : decode cX4_begin 151 = .ok (.getfield 7, 3) := by decide +kernel
theorem dX4_begin_154 : decode cX4_begin 154 = .ok (.iload 6, 2) := by decide +kernel
theorem dX4_begin_156 : decode cX4_begin 156 = .ok (.iconst 1, 1) := by decide +kernel
theorem dX4_begin_157 : decode cX4_begin 157 = .ok (.iadd, 1) := by decide +kernel
theorem dX4_begin_158 : decode cX4_begin 158 = .ok (.iload_n 2, 1) := by decide +kernel
theorem dX4_begin_159 : decode cX4_begin 159 = .ok (.iastore, 1) := by decide +kernel
theorem dX4_begin_160 : decode cX4_begin 160 = .ok (.aload_n 0, 1) := by decide +kernel
theorem dX4_begin_161 : decode cX4_begin 161 = .ok (.getfield 7, 3) := by decide +kernel
theorem dX4_begin_164 : decode cX4_begin 164 = .ok (.iload 6, 2) := by decide +kernel
theorem dX4_begin_166 : decode cX4_begin 166 = .ok (.iconst 2, 1) := by decide +kernel
theorem dX4_begin_167 : decode cX4_begin 167 = .ok (.iadd, 1) := by decide +kernel
theorem dX4_begin_168 : decode cX4_begin 168 = .ok (.iload_n 3, 1) := by decide +kernel
theorem dX4_begin_169 : decode cX4_begin 169 = .ok (.iastore, 1) := by decide +kernel
theorem dX4_begin_170 : decode cX4_begin 170 = .ok (.aload_n 0, 1) := by decide +kernel
theorem dX4_begin_171 : decode cX4_begin 171 = .ok (.getfield 7, 3) := by decide +kernel
theorem dX4_begin_174 : decode cX4_begin 174 = .ok (.iload 6, 2) := by decide +kernel
theorem dX4_begin_176 : decode cX4_begin 176 = .ok (.iconst 3, 1) := by decide +kernel
theorem dX4_begin_177 : decode cX4_begin 177 = .ok (.iadd, 1) := by decide +kernel
theorem dX4_begin_178 : decode cX4_begin 178 = .ok (.iconst 0, 1) := by decide +kernel
theorem dX4_begin_179 : decode cX4_begin 179 = .ok (.iastore, 1) := by decide +kernel
theorem dX4_begin_180 : decode cX4_begin 180 = .ok (.aload_n 0, 1) := by decide +kernel
theorem dX4_begin_181 : decode cX4_begin 181 = .ok (.getfield 7, 3) := by decide +kernel
theorem dX4_begin_184 : decode cX4_begin 184 = .ok (.iconst 3, 1) := by decide +kernel
theorem dX4_begin_185 : decode cX4_begin 185 = .ok (.dup2, 1) := by decide +kernel
theorem dX4_begin_186 : decode cX4_begin 186 = .ok (.iaload, 1) := by decide +kernel
theorem dX4_begin_187 : decode cX4_begin 187 = .ok (.iconst 1, 1) := by decide +kernel
theorem dX4_begin_188 : decode cX4_begin 188 = .ok (.iadd, 1) := by decide +kernel
theorem dX4_begin_189 : decode cX4_begin 189 = .ok (.iastore, 1) := by decide +kernel
theorem dX4_begin_190 : decode cX4_begin 190 = .ok (.aload_n 0, 1) := by decide +kernel
theorem dX4_begin_191 : decode cX4_begin 191 = .ok (.getfield 7, 3) := by decide +kernel
theorem dX4_begin_194 : decode cX4_begin 194 = .ok (.iconst 3, 1) := by decide +kernel
theorem dX4_begin_195 : decode cX4_begin 195 = .ok (.iaload, 1) := by decide +kernel
theorem dX4_begin_196 : decode cX4_begin 196 = .ok (.iconst 1, 1) := by decide +kernel
theorem dX4_begin_197 : decode cX4_begin 197 = .ok (.isub, 1) := by decide +kernel
theorem dX4_begin_198 : decode cX4_begin 198 = .ok (.ireturn, 1) := by decide +kernel
theorem dX4_vote_0 : decode cX4_vote 0 = .ok (.aload_n 0, 1) := by decide +kernel
theorem dX4_vote_1 : decode cX4_vote 1 = .ok (.iload_n 1, 1) := by decide +kernel
theorem dX4_vote_2 : decode cX4_vote 2 = .ok (.invokevirtual 96, 3) := by decide +kernel
theorem dX4_vote_5 : decode cX4_vote 5 = .ok (.ifCond .eq 14, 3) := by decide +kernel
theorem dX4_vote_8 : decode cX4_vote 8 = .ok (.iload_n 2, 1) := by decide +kernel
theorem dX4_vote_9 : decode cX4_vote 9 = .ok (.invokestatic 86, 3) := by decide +kernel
theorem dX4_vote_12 : decode cX4_vote 12 = .ok (.ifCond .eq 7, 3) := by decide +kernel
theorem dX4_vote_15 : decode cX4_vote 15 = .ok (.iconst 1, 1) := by decide +kernel
theorem dX4_vote_16 : decode cX4_vote 16 = .ok (.goto 4, 3) := by decide +kernel
theorem dX4_vote_19 : decode cX4_vote 19 = .ok (.iconst 0, 1) := by decide +kernel
theorem dX4_vote_20 : decode cX4_vote 20 = .ok (.istore 4, 2) := by decide +kernel
theorem dX4_vote_22 : decode cX4_vote 22 = .ok (.aload_n 0, 1) := by decide +kernel
theorem dX4_vote_23 : decode cX4_vote 23 = .ok (.iload 4, 2) := by decide +kernel
theorem dX4_vote_25 : decode cX4_vote 25 = .ok (.ifCond .ne 7, 3) := by decide +kernel
theorem dX4_vote_28 : decode cX4_vote 28 = .ok (.iconst 1, 1) := by decide +kernel
theorem dX4_vote_29 : decode cX4_vote 29 = .ok (.goto 17, 3) := by decide +kernel
theorem dX4_vote_32 : decode cX4_vote 32 = .ok (.aload_n 0, 1) := by decide +kernel
theorem dX4_vote_33 : decode cX4_vote 33 = .ok (.iload_n 1, 1) := by decide +kernel
theorem dX4_vote_34 : decode cX4_vote 34 = .ok (.iload_n 2, 1) := by decide +kernel
theorem dX4_vote_35 : decode cX4_vote 35 = .ok (.invokevirtual 99, 3) := by decide +kernel
theorem dX4_vote_38 : decode cX4_vote 38 = .ok (.ifCond .ne 7, 3) := by decide +kernel
theorem dX4_vote_41 : decode cX4_vote 41 = .ok (.iconst 2, 1) := by decide +kernel
theorem dX4_vote_42 : decode cX4_vote 42 = .ok (.goto 4, 3) := by decide +kernel
theorem dX4_vote_45 : decode cX4_vote 45 = .ok (.iconst 0, 1) := by decide +kernel
theorem dX4_vote_46 : decode cX4_vote 46 = .ok (.invokevirtual 90, 3) := by decide +kernel
theorem dX4_vote_49 : decode cX4_vote 49 = .ok (.ifCond .ne 5, 3) := by decide +kernel
theorem dX4_vote_52 : decode cX4_vote 52 = .ok (.iconst 0, 1) := by decide +kernel
theorem dX4_vote_53 : decode cX4_vote 53 = .ok (.ireturn, 1) := by decide +kernel
theorem dX4_vote_54 : decode cX4_vote 54 = .ok (.aload_n 0, 1) := by decide +kernel
theorem dX4_vote_55 : decode cX4_vote 55 = .ok (.invokevirtual 93, 3) := by decide +kernel
theorem dX4_vote_58 : decode cX4_vote 58 = .ok (.aload_n 0, 1) := by decide +kernel
theorem dX4_vote_59 : decode cX4_vote 59 = .ok (.iload_n 1, 1) := by decide +kernel
theorem dX4_vote_60 : decode cX4_vote 60 = .ok (.iload_n 2, 1) := by decide +kernel
theorem dX4_vote_61 : decode cX4_vote 61 = .ok (.iload_n 3, 1) := by decide +kernel
theorem dX4_vote_62 : decode cX4_vote 62 = .ok (.invokevirtual 102, 3) := by decide +kernel
theorem dX4_vote_65 : decode cX4_vote 65 = .ok (.aload_n 0, 1) := by decide +kernel
theorem dX4_vote_66 : decode cX4_vote 66 = .ok (.iconst 0, 1) := by decide +kernel
theorem dX4_vote_67 : decode cX4_vote 67 = .ok (.iload_n 1, 1) := by decide +kernel
theorem dX4_vote_68 : decode cX4_vote 68 = .ok (.iload_n 2, 1) := by decide +kernel
theorem dX4_vote_69 : decode cX4_vote 69 = .ok (.invokevirtual 35, 3) := by decide +kernel
theorem dX4_vote_72 : decode cX4_vote 72 = .ok (.ireturn, 1) := by decide +kernel
theorem dX4_decide_0 : decode cX4_decide 0 = .ok (.aload_n 0, 1) := by decide +kernel
theorem dX4_decide_1 : decode cX4_decide 1 = .ok (.iload_n 1, 1) := by decide +kernel
theorem dX4_decide_2 : decode cX4_decide 2 = .ok (.invokevirtual 96, 3) := by decide +kernel
theorem dX4_decide_5 : decode cX4_decide 5 = .ok (.istore_n 2, 1) := by decide +kernel
theorem dX4_decide_6 : decode cX4_decide 6 = .ok (.aload_n 0, 1) := by decide +kernel
theorem dX4_decide_7 : decode cX4_decide 7 = .ok (.iload_n 2, 1) := by decide +kernel
theorem dX4_decide_8 : decode cX4_decide 8 = .ok (.ifCond .ne 7, 3) := by decide +kernel
theorem dX4_decide_11 : decode cX4_decide 11 = .ok (.iconst 1, 1) := by decide +kernel
theorem dX4_decide_12 : decode cX4_decide 12 = .ok (.goto 16, 3) := by decide +kernel
theorem dX4_decide_15 : decode cX4_decide 15 = .ok (.aload_n 0, 1) := by decide +kernel
theorem dX4_decide_16 : decode cX4_decide 16 = .ok (.iload_n 1, 1) := by decide +kernel
theorem dX4_decide_17 : decode cX4_decide 17 = .ok (.invokevirtual 106, 3) := by decide +kernel
theorem dX4_decide_20 : decode cX4_decide 20 = .ok (.ifCond .ne 7, 3) := by decide +kernel
theorem dX4_decide_23 : decode cX4_decide 23 = .ok (.iconst 2, 1) := by decide +kernel
theorem dX4_decide_24 : decode cX4_decide 24 = .ok (.goto 4, 3) := by decide +kernel
theorem dX4_decide_27 : decode cX4_decide 27 = .ok (.iconst 0, 1) := by decide +kernel
theorem dX4_decide_28 : decode cX4_decide 28 = .ok (.invokevirtual 90, 3) := by decide +kernel
theorem dX4_decide_31 : decode cX4_decide 31 = .ok (.ifCond .ne 5, 3) := by decide +kernel
theorem dX4_decide_34 : decode cX4_decide 34 = .ok (.iconst 0, 1) := by decide +kernel
theorem dX4_decide_35 : decode cX4_decide 35 = .ok (.ireturn, 1) := by decide +kernel
theorem dX4_decide_36 : decode cX4_decide 36 = .ok (.aload_n 0, 1) := by decide +kernel
theorem dX4_decide_37 : decode cX4_decide 37 = .ok (.invokevirtual 93, 3) := by decide +kernel
theorem dX4_decide_40 : decode cX4_decide 40 = .ok (.aload_n 0, 1) := by decide +kernel
theorem dX4_decide_41 : decode cX4_decide 41 = .ok (.iconst 0, 1) := by decide +kernel
theorem dX4_decide_42 : decode cX4_decide 42 = .ok (.iload_n 1, 1) := by decide +kernel
theorem dX4_decide_43 : decode cX4_decide 43 = .ok (.aload_n 0, 1) := by decide +kernel
theorem dX4_decide_44 : decode cX4_decide 44 = .ok (.iload_n 1, 1) := by decide +kernel
theorem dX4_decide_45 : decode cX4_decide 45 = .ok (.invokevirtual 109, 3) := by decide +kernel
theorem dX4_decide_48 : decode cX4_decide 48 = .ok (.invokevirtual 49, 3) := by decide +kernel
theorem dX4_decide_51 : decode cX4_decide 51 = .ok (.aload_n 0, 1) := by decide +kernel
theorem dX4_decide_52 : decode cX4_decide 52 = .ok (.iconst 0, 1) := by decide +kernel
theorem dX4_decide_53 : decode cX4_decide 53 = .ok (.iload_n 1, 1) := by decide +kernel
theorem dX4_decide_54 : decode cX4_decide 54 = .ok (.iconst 3, 1) := by decide +kernel
theorem dX4_decide_55 : decode cX4_decide 55 = .ok (.invokevirtual 24, 3) := by decide +kernel
theorem dX4_decide_58 : decode cX4_decide 58 = .ok (.ireturn, 1) := by decide +kernel
theorem dX4_tell_0 : decode cX4_tell 0 = .ok (.aload_n 0, 1) := by decide +kernel
theorem dX4_tell_1 : decode cX4_tell 1 = .ok (.iload_n 1, 1) := by decide +kernel
theorem dX4_tell_2 : decode cX4_tell 2 = .ok (.invokevirtual 96, 3) := by decide +kernel
theorem dX4_tell_5 : decode cX4_tell 5 = .ok (.ifCond .eq 14, 3) := by decide +kernel
theorem dX4_tell_8 : decode cX4_tell 8 = .ok (.iload_n 2, 1) := by decide +kernel
theorem dX4_tell_9 : decode cX4_tell 9 = .ok (.invokestatic 86, 3) := by decide +kernel
theorem dX4_tell_12 : decode cX4_tell 12 = .ok (.ifCond .eq 7, 3) := by decide +kernel
theorem dX4_tell_15 : decode cX4_tell 15 = .ok (.iconst 1, 1) := by decide +kernel
theorem dX4_tell_16 : decode cX4_tell 16 = .ok (.goto 4, 3) := by decide +kernel
theorem dX4_tell_19 : decode cX4_tell 19 = .ok (.iconst 0, 1) := by decide +kernel
theorem dX4_tell_20 : decode cX4_tell 20 = .ok (.istore_n 3, 1) := by decide +kernel
theorem dX4_tell_21 : decode cX4_tell 21 = .ok (.aload_n 0, 1) := by decide +kernel
theorem dX4_tell_22 : decode cX4_tell 22 = .ok (.iload_n 3, 1) := by decide +kernel
theorem dX4_tell_23 : decode cX4_tell 23 = .ok (.ifCond .ne 7, 3) := by decide +kernel
theorem dX4_tell_26 : decode cX4_tell 26 = .ok (.iconst 1, 1) := by decide +kernel
theorem dX4_tell_27 : decode cX4_tell 27 = .ok (.goto 17, 3) := by decide +kernel
theorem dX4_tell_30 : decode cX4_tell 30 = .ok (.aload_n 0, 1) := by decide +kernel
theorem dX4_tell_31 : decode cX4_tell 31 = .ok (.iload_n 1, 1) := by decide +kernel
theorem dX4_tell_32 : decode cX4_tell 32 = .ok (.iload_n 2, 1) := by decide +kernel
theorem dX4_tell_33 : decode cX4_tell 33 = .ok (.invokevirtual 112, 3) := by decide +kernel
theorem dX4_tell_36 : decode cX4_tell 36 = .ok (.ifCond .ne 7, 3) := by decide +kernel
theorem dX4_tell_39 : decode cX4_tell 39 = .ok (.iconst 2, 1) := by decide +kernel
theorem dX4_tell_40 : decode cX4_tell 40 = .ok (.goto 4, 3) := by decide +kernel
theorem dX4_tell_43 : decode cX4_tell 43 = .ok (.iconst 0, 1) := by decide +kernel
theorem dX4_tell_44 : decode cX4_tell 44 = .ok (.invokevirtual 90, 3) := by decide +kernel
theorem dX4_tell_47 : decode cX4_tell 47 = .ok (.ifCond .ne 5, 3) := by decide +kernel
theorem dX4_tell_50 : decode cX4_tell 50 = .ok (.iconst 0, 1) := by decide +kernel
theorem dX4_tell_51 : decode cX4_tell 51 = .ok (.ireturn, 1) := by decide +kernel
theorem dX4_tell_52 : decode cX4_tell 52 = .ok (.aload_n 0, 1) := by decide +kernel
theorem dX4_tell_53 : decode cX4_tell 53 = .ok (.invokevirtual 93, 3) := by decide +kernel
theorem dX4_tell_56 : decode cX4_tell 56 = .ok (.aload_n 0, 1) := by decide +kernel
theorem dX4_tell_57 : decode cX4_tell 57 = .ok (.iconst 0, 1) := by decide +kernel
theorem dX4_tell_58 : decode cX4_tell 58 = .ok (.iload_n 1, 1) := by decide +kernel
theorem dX4_tell_59 : decode cX4_tell 59 = .ok (.iload_n 2, 1) := by decide +kernel
theorem dX4_tell_60 : decode cX4_tell 60 = .ok (.invokevirtual 52, 3) := by decide +kernel
theorem dX4_tell_63 : decode cX4_tell 63 = .ok (.aload_n 0, 1) := by decide +kernel
theorem dX4_tell_64 : decode cX4_tell 64 = .ok (.iconst 0, 1) := by decide +kernel
theorem dX4_tell_65 : decode cX4_tell 65 = .ok (.iload_n 1, 1) := by decide +kernel
theorem dX4_tell_66 : decode cX4_tell 66 = .ok (.iload_n 2, 1) := by decide +kernel
theorem dX4_tell_67 : decode cX4_tell 67 = .ok (.invokevirtual 35, 3) := by decide +kernel
theorem dX4_tell_70 : decode cX4_tell 70 = .ok (.ireturn, 1) := by decide +kernel
theorem dX4_ask_0 : decode cX4_ask 0 = .ok (.aload_n 0, 1) := by decide +kernel
theorem dX4_ask_1 : decode cX4_ask 1 = .ok (.iload_n 1, 1) := by decide +kernel
theorem dX4_ask_2 : decode cX4_ask 2 = .ok (.invokevirtual 96, 3) := by decide +kernel
theorem dX4_ask_5 : decode cX4_ask 5 = .ok (.ifCond .eq 21, 3) := by decide +kernel
theorem dX4_ask_8 : decode cX4_ask 8 = .ok (.iload_n 2, 1) := by decide +kernel
theorem dX4_ask_9 : decode cX4_ask 9 = .ok (.invokestatic 86, 3) := by decide +kernel
theorem dX4_ask_12 : decode cX4_ask 12 = .ok (.ifCond .eq 14, 3) := by decide +kernel
theorem dX4_ask_15 : decode cX4_ask 15 = .ok (.iload_n 3, 1) := by decide +kernel
theorem dX4_ask_16 : decode cX4_ask 16 = .ok (.invokestatic 86, 3) := by decide +kernel
theorem dX4_ask_19 : decode cX4_ask 19 = .ok (.ifCond .eq 7, 3) := by decide +kernel
theorem dX4_ask_22 : decode cX4_ask 22 = .ok (.iconst 1, 1) := by decide +kernel
theorem dX4_ask_23 : decode cX4_ask 23 = .ok (.goto 4, 3) := by decide +kernel
theorem dX4_ask_26 : decode cX4_ask 26 = .ok (.iconst 0, 1) := by decide +kernel
theorem dX4_ask_27 : decode cX4_ask 27 = .ok (.istore 4, 2) := by decide +kernel
theorem dX4_ask_29 : decode cX4_ask 29 = .ok (.aload_n 0, 1) := by decide +kernel
theorem dX4_ask_30 : decode cX4_ask 30 = .ok (.iload 4, 2) := by decide +kernel
theorem dX4_ask_32 : decode cX4_ask 32 = .ok (.ifCond .ne 7, 3) := by decide +kernel
theorem dX4_ask_35 : decode cX4_ask 35 = .ok (.iconst 1, 1) := by decide +kernel
theorem dX4_ask_36 : decode cX4_ask 36 = .ok (.goto 27, 3) := by decide +kernel
theorem dX4_ask_39 : decode cX4_ask 39 = .ok (.iload_n 2, 1) := by decide +kernel
theorem dX4_ask_40 : decode cX4_ask 40 = .ok (.iload_n 3, 1) := by decide +kernel
theorem dX4_ask_41 : decode cX4_ask 41 = .ok (.if_icmp .ne 7, 3) := by decide +kernel
theorem dX4_ask_44 : decode cX4_ask 44 = .ok (.iconst 2, 1) := by decide +kernel
theorem dX4_ask_45 : decode cX4_ask 45 = .ok (.goto 18, 3) := by decide +kernel
theorem dX4_ask_48 : decode cX4_ask 48 = .ok (.aload_n 0, 1) := by decide +kernel
theorem dX4_ask_49 : decode cX4_ask 49 = .ok (.iload_n 1, 1) := by decide +kernel
theorem dX4_ask_50 : decode cX4_ask 50 = .ok (.iload_n 2, 1) := by decide +kernel
theorem dX4_ask_51 : decode cX4_ask 51 = .ok (.iload_n 3, 1) := by decide +kernel
theorem dX4_ask_52 : decode cX4_ask 52 = .ok (.invokevirtual 115, 3) := by decide +kernel
theorem dX4_ask_55 : decode cX4_ask 55 = .ok (.ifCond .ne 7, 3) := by decide +kernel
theorem dX4_ask_58 : decode cX4_ask 58 = .ok (.iconst 3, 1) := by decide +kernel
theorem dX4_ask_59 : decode cX4_ask 59 = .ok (.goto 4, 3) := by decide +kernel
theorem dX4_ask_62 : decode cX4_ask 62 = .ok (.iconst 0, 1) := by decide +kernel
theorem dX4_ask_63 : decode cX4_ask 63 = .ok (.invokevirtual 90, 3) := by decide +kernel
theorem dX4_ask_66 : decode cX4_ask 66 = .ok (.ifCond .ne 5, 3) := by decide +kernel
theorem dX4_ask_69 : decode cX4_ask 69 = .ok (.iconst 0, 1) := by decide +kernel
theorem dX4_ask_70 : decode cX4_ask 70 = .ok (.ireturn, 1) := by decide +kernel
theorem dX4_ask_71 : decode cX4_ask 71 = .ok (.aload_n 0, 1) := by decide +kernel
theorem dX4_ask_72 : decode cX4_ask 72 = .ok (.invokevirtual 93, 3) := by decide +kernel
theorem dX4_ask_75 : decode cX4_ask 75 = .ok (.aload_n 0, 1) := by decide +kernel
theorem dX4_ask_76 : decode cX4_ask 76 = .ok (.iconst 0, 1) := by decide +kernel
theorem dX4_ask_77 : decode cX4_ask 77 = .ok (.iload_n 1, 1) := by decide +kernel
theorem dX4_ask_78 : decode cX4_ask 78 = .ok (.iload_n 2, 1) := by decide +kernel
theorem dX4_ask_79 : decode cX4_ask 79 = .ok (.iload_n 3, 1) := by decide +kernel
theorem dX4_ask_80 : decode cX4_ask 80 = .ok (.invokevirtual 62, 3) := by decide +kernel
theorem dX4_ask_83 : decode cX4_ask 83 = .ok (.aload_n 0, 1) := by decide +kernel
theorem dX4_ask_84 : decode cX4_ask 84 = .ok (.iconst 0, 1) := by decide +kernel
theorem dX4_ask_85 : decode cX4_ask 85 = .ok (.iload_n 1, 1) := by decide +kernel
theorem dX4_ask_86 : decode cX4_ask 86 = .ok (.iload_n 2, 1) := by decide +kernel
theorem dX4_ask_87 : decode cX4_ask 87 = .ok (.invokevirtual 35, 3) := by decide +kernel
theorem dX4_ask_90 : decode cX4_ask 90 = .ok (.ireturn, 1) := by decide +kernel
theorem dX4_fallSilent_0 : decode cX4_fallSilent 0 = .ok (.iload_n 1, 1) := by decide +kernel
theorem dX4_fallSilent_1 : decode cX4_fallSilent 1 = .ok (.invokestatic 86, 3) := by decide +kernel
theorem dX4_fallSilent_4 : decode cX4_fallSilent 4 = .ok (.istore_n 2, 1) := by decide +kernel
theorem dX4_fallSilent_5 : decode cX4_fallSilent 5 = .ok (.aload_n 0, 1) := by decide +kernel
theorem dX4_fallSilent_6 : decode cX4_fallSilent 6 = .ok (.iload_n 2, 1) := by decide +kernel
theorem dX4_fallSilent_7 : decode cX4_fallSilent 7 = .ok (.ifCond .ne 7, 3) := by decide +kernel
theorem dX4_fallSilent_10 : decode cX4_fallSilent 10 = .ok (.iconst 1, 1) := by decide +kernel
theorem dX4_fallSilent_11 : decode cX4_fallSilent 11 = .ok (.goto 17, 3) := by decide +kernel
theorem dX4_fallSilent_14 : decode cX4_fallSilent 14 = .ok (.aload_n 0, 1) := by decide +kernel
theorem dX4_fallSilent_15 : decode cX4_fallSilent 15 = .ok (.iconst 0, 1) := by decide +kernel
theorem dX4_fallSilent_16 : decode cX4_fallSilent 16 = .ok (.iload_n 1, 1) := by decide +kernel
theorem dX4_fallSilent_17 : decode cX4_fallSilent 17 = .ok (.invokevirtual 58, 3) := by decide +kernel
theorem dX4_fallSilent_20 : decode cX4_fallSilent 20 = .ok (.ifCond .ne 7, 3) := by decide +kernel
theorem dX4_fallSilent_23 : decode cX4_fallSilent 23 = .ok (.iconst 2, 1) := by decide +kernel
theorem dX4_fallSilent_24 : decode cX4_fallSilent 24 = .ok (.goto 4, 3) := by decide +kernel
theorem dX4_fallSilent_27 : decode cX4_fallSilent 27 = .ok (.iconst 0, 1) := by decide +kernel
theorem dX4_fallSilent_28 : decode cX4_fallSilent 28 = .ok (.invokevirtual 90, 3) := by decide +kernel
theorem dX4_fallSilent_31 : decode cX4_fallSilent 31 = .ok (.ifCond .ne 5, 3) := by decide +kernel
theorem dX4_fallSilent_34 : decode cX4_fallSilent 34 = .ok (.iconst 0, 1) := by decide +kernel
theorem dX4_fallSilent_35 : decode cX4_fallSilent 35 = .ok (.ireturn, 1) := by decide +kernel
theorem dX4_fallSilent_36 : decode cX4_fallSilent 36 = .ok (.aload_n 0, 1) := by decide +kernel
theorem dX4_fallSilent_37 : decode cX4_fallSilent 37 = .ok (.invokevirtual 93, 3) := by decide +kernel
theorem dX4_fallSilent_40 : decode cX4_fallSilent 40 = .ok (.aload_n 0, 1) := by decide +kernel
theorem dX4_fallSilent_41 : decode cX4_fallSilent 41 = .ok (.getfield 7, 3) := by decide +kernel
theorem dX4_fallSilent_44 : decode cX4_fallSilent 44 = .ok (.iconst 0, 1) := by decide +kernel
theorem dX4_fallSilent_45 : decode cX4_fallSilent 45 = .ok (.dup2, 1) := by decide +kernel
theorem dX4_fallSilent_46 : decode cX4_fallSilent 46 = .ok (.iaload, 1) := by decide +kernel
theorem dX4_fallSilent_47 : decode cX4_fallSilent 47 = .ok (.iconst 1, 1) := by decide +kernel
theorem dX4_fallSilent_48 : decode cX4_fallSilent 48 = .ok (.iload_n 1, 1) := by decide +kernel
theorem dX4_fallSilent_49 : decode cX4_fallSilent 49 = .ok (.ishl, 1) := by decide +kernel
theorem dX4_fallSilent_50 : decode cX4_fallSilent 50 = .ok (.iconst (-1), 1) := by decide +kernel
theorem dX4_fallSilent_51 : decode cX4_fallSilent 51 = .ok (.ixor, 1) := by decide +kernel
theorem dX4_fallSilent_52 : decode cX4_fallSilent 52 = .ok (.iand, 1) := by decide +kernel
theorem dX4_fallSilent_53 : decode cX4_fallSilent 53 = .ok (.iastore, 1) := by decide +kernel
theorem dX4_fallSilent_54 : decode cX4_fallSilent 54 = .ok (.aload_n 0, 1) := by decide +kernel
theorem dX4_fallSilent_55 : decode cX4_fallSilent 55 = .ok (.iload_n 1, 1) := by decide +kernel
theorem dX4_fallSilent_56 : decode cX4_fallSilent 56 = .ok (.invokevirtual 118, 3) := by decide +kernel
theorem dX4_fallSilent_59 : decode cX4_fallSilent 59 = .ok (.ireturn, 1) := by decide +kernel
theorem dX4_comeBack_0 : decode cX4_comeBack 0 = .ok (.iload_n 1, 1) := by decide +kernel
theorem dX4_comeBack_1 : decode cX4_comeBack 1 = .ok (.invokestatic 86, 3) := by decide +kernel
theorem dX4_comeBack_4 : decode cX4_comeBack 4 = .ok (.istore_n 2, 1) := by decide +kernel
theorem dX4_comeBack_5 : decode cX4_comeBack 5 = .ok (.aload_n 0, 1) := by decide +kernel
theorem dX4_comeBack_6 : decode cX4_comeBack 6 = .ok (.iload_n 2, 1) := by decide +kernel
theorem dX4_comeBack_7 : decode cX4_comeBack 7 = .ok (.ifCond .ne 7, 3) := by decide +kernel
theorem dX4_comeBack_10 : decode cX4_comeBack 10 = .ok (.iconst 1, 1) := by decide +kernel
theorem dX4_comeBack_11 : decode cX4_comeBack 11 = .ok (.goto 17, 3) := by decide +kernel
theorem dX4_comeBack_14 : decode cX4_comeBack 14 = .ok (.aload_n 0, 1) := by decide +kernel
theorem dX4_comeBack_15 : decode cX4_comeBack 15 = .ok (.iconst 0, 1) := by decide +kernel
theorem dX4_comeBack_16 : decode cX4_comeBack 16 = .ok (.iload_n 1, 1) := by decide +kernel
theorem dX4_comeBack_17 : decode cX4_comeBack 17 = .ok (.invokevirtual 58, 3) := by decide +kernel
theorem dX4_comeBack_20 : decode cX4_comeBack 20 = .ok (.ifCond .eq 7, 3) := by decide +kernel
theorem dX4_comeBack_23 : decode cX4_comeBack 23 = .ok (.iconst 2, 1) := by decide +kernel
theorem dX4_comeBack_24 : decode cX4_comeBack 24 = .ok (.goto 4, 3) := by decide +kernel
theorem dX4_comeBack_27 : decode cX4_comeBack 27 = .ok (.iconst 0, 1) := by decide +kernel
theorem dX4_comeBack_28 : decode cX4_comeBack 28 = .ok (.invokevirtual 90, 3) := by decide +kernel
theorem dX4_comeBack_31 : decode cX4_comeBack 31 = .ok (.ifCond .ne 5, 3) := by decide +kernel
theorem dX4_comeBack_34 : decode cX4_comeBack 34 = .ok (.iconst 0, 1) := by decide +kernel
theorem dX4_comeBack_35 : decode cX4_comeBack 35 = .ok (.ireturn, 1) := by decide +kernel
theorem dX4_comeBack_36 : decode cX4_comeBack 36 = .ok (.aload_n 0, 1) := by decide +kernel
theorem dX4_comeBack_37 : decode cX4_comeBack 37 = .ok (.invokevirtual 93, 3) := by decide +kernel
theorem dX4_comeBack_40 : decode cX4_comeBack 40 = .ok (.aload_n 0, 1) := by decide +kernel
theorem dX4_comeBack_41 : decode cX4_comeBack 41 = .ok (.iload_n 1, 1) := by decide +kernel
theorem dX4_comeBack_42 : decode cX4_comeBack 42 = .ok (.invokevirtual 121, 3) := by decide +kernel
theorem dX4_comeBack_45 : decode cX4_comeBack 45 = .ok (.ireturn, 1) := by decide +kernel
theorem dX4_pass_0 : decode cX4_pass 0 = .ok (.aload_n 0, 1) := by decide +kernel
theorem dX4_pass_1 : decode cX4_pass 1 = .ok (.iload_n 1, 1) := by decide +kernel
theorem dX4_pass_2 : decode cX4_pass 2 = .ok (.iconst 1, 1) := by decide +kernel
theorem dX4_pass_3 : decode cX4_pass 3 = .ok (.bipush 20, 2) := by decide +kernel
theorem dX4_pass_5 : decode cX4_pass 5 = .ok (.invokestatic 20, 3) := by decide +kernel
theorem dX4_pass_8 : decode cX4_pass 8 = .ok (.ifCond .eq 7, 3) := by decide +kernel
theorem dX4_pass_11 : decode cX4_pass 11 = .ok (.iconst 0, 1) := by decide +kernel
theorem dX4_pass_12 : decode cX4_pass 12 = .ok (.goto 4, 3) := by decide +kernel
theorem dX4_pass_15 : decode cX4_pass 15 = .ok (.iconst 1, 1) := by decide +kernel
theorem dX4_pass_16 : decode cX4_pass 16 = .ok (.invokevirtual 90, 3) := by decide +kernel
theorem dX4_pass_19 : decode cX4_pass 19 = .ok (.ifCond .ne 5, 3) := by decide +kernel
theorem dX4_pass_22 : decode cX4_pass 22 = .ok (.iconst 0, 1) := by decide +kernel
theorem dX4_pass_23 : decode cX4_pass 23 = .ok (.ireturn, 1) := by decide +kernel
theorem dX4_pass_24 : decode cX4_pass 24 = .ok (.aload_n 0, 1) := by decide +kernel
theorem dX4_pass_25 : decode cX4_pass 25 = .ok (.invokevirtual 93, 3) := by decide +kernel
theorem dX4_pass_28 : decode cX4_pass 28 = .ok (.aload_n 0, 1) := by decide +kernel
theorem dX4_pass_29 : decode cX4_pass 29 = .ok (.iload_n 1, 1) := by decide +kernel
theorem dX4_pass_30 : decode cX4_pass 30 = .ok (.invokevirtual 124, 3) := by decide +kernel
theorem dX4_pass_33 : decode cX4_pass 33 = .ok (.ireturn, 1) := by decide +kernel
theorem dX4_setPatience_0 : decode cX4_setPatience 0 = .ok (.aload_n 0, 1) := by decide +kernel
theorem dX4_setPatience_1 : decode cX4_setPatience 1 = .ok (.iload_n 1, 1) := by decide +kernel
theorem dX4_setPatience_2 : decode cX4_setPatience 2 = .ok (.iconst 1, 1) := by decide +kernel
theorem dX4_setPatience_3 : decode cX4_setPatience 3 = .ok (.bipush 20, 2) := by decide +kernel
theorem dX4_setPatience_5 : decode cX4_setPatience 5 = .ok (.invokestatic 20, 3) := by decide +kernel
theorem dX4_setPatience_8 : decode cX4_setPatience 8 = .ok (.ifCond .eq 7, 3) := by decide +kernel
theorem dX4_setPatience_11 : decode cX4_setPatience 11 = .ok (.iconst 0, 1) := by decide +kernel
theorem dX4_setPatience_12 : decode cX4_setPatience 12 = .ok (.goto 4, 3) := by decide +kernel
theorem dX4_setPatience_15 : decode cX4_setPatience 15 = .ok (.iconst 1, 1) := by decide +kernel
theorem dX4_setPatience_16 : decode cX4_setPatience 16 = .ok (.invokevirtual 90, 3) := by decide +kernel
theorem dX4_setPatience_19 : decode cX4_setPatience 19 = .ok (.ifCond .ne 5, 3) := by decide +kernel
theorem dX4_setPatience_22 : decode cX4_setPatience 22 = .ok (.iconst 0, 1) := by decide +kernel
theorem dX4_setPatience_23 : decode cX4_setPatience 23 = .ok (.ireturn, 1) := by decide +kernel
theorem dX4_setPatience_24 : decode cX4_setPatience 24 = .ok (.aload_n 0, 1) := by decide +kernel
theorem dX4_setPatience_25 : decode cX4_setPatience 25 = .ok (.invokevirtual 93, 3) := by decide +kernel
theorem dX4_setPatience_28 : decode cX4_setPatience 28 = .ok (.aload_n 0, 1) := by decide +kernel
theorem dX4_setPatience_29 : decode cX4_setPatience 29 = .ok (.getfield 7, 3) := by decide +kernel
theorem dX4_setPatience_32 : decode cX4_setPatience 32 = .ok (.iconst 2, 1) := by decide +kernel
theorem dX4_setPatience_33 : decode cX4_setPatience 33 = .ok (.iaload, 1) := by decide +kernel
theorem dX4_setPatience_34 : decode cX4_setPatience 34 = .ok (.istore_n 2, 1) := by decide +kernel
theorem dX4_setPatience_35 : decode cX4_setPatience 35 = .ok (.aload_n 0, 1) := by decide +kernel
theorem dX4_setPatience_36 : decode cX4_setPatience 36 = .ok (.getfield 7, 3) := by decide +kernel
theorem dX4_setPatience_39 : decode cX4_setPatience 39 = .ok (.iconst 2, 1) := by decide +kernel
theorem dX4_setPatience_40 : decode cX4_setPatience 40 = .ok (.iload_n 1, 1) := by decide +kernel
theorem dX4_setPatience_41 : decode cX4_setPatience 41 = .ok (.iastore, 1) := by decide +kernel
theorem dX4_setPatience_42 : decode cX4_setPatience 42 = .ok (.iload_n 2, 1) := by decide +kernel
theorem dX4_setPatience_43 : decode cX4_setPatience 43 = .ok (.ireturn, 1) := by decide +kernel
theorem dX4_deals_0 : decode cX4_deals 0 = .ok (.aload_n 0, 1) := by decide +kernel
theorem dX4_deals_1 : decode cX4_deals 1 = .ok (.iconst 0, 1) := by decide +kernel
theorem dX4_deals_2 : decode cX4_deals 2 = .ok (.putfield 16, 3) := by decide +kernel
theorem dX4_deals_5 : decode cX4_deals 5 = .ok (.aload_n 0, 1) := by decide +kernel
theorem dX4_deals_6 : decode cX4_deals 6 = .ok (.getfield 7, 3) := by decide +kernel
theorem dX4_deals_9 : decode cX4_deals 9 = .ok (.iconst 3, 1) := by decide +kernel
theorem dX4_deals_10 : decode cX4_deals 10 = .ok (.iaload, 1) := by decide +kernel
theorem dX4_deals_11 : decode cX4_deals 11 = .ok (.ireturn, 1) := by decide +kernel
theorem dX4_isUp_0 : decode cX4_isUp 0 = .ok (.aload_n 0, 1) := by decide +kernel
theorem dX4_isUp_1 : decode cX4_isUp 1 = .ok (.iload_n 1, 1) := by decide +kernel
theorem dX4_isUp_2 : decode cX4_isUp 2 = .ok (.invokestatic 86, 3) := by decide +kernel
theorem dX4_isUp_5 : decode cX4_isUp 5 = .ok (.ifCond .eq 7, 3) := by decide +kernel
theorem dX4_isUp_8 : decode cX4_isUp 8 = .ok (.iconst 0, 1) := by decide +kernel
theorem dX4_isUp_9 : decode cX4_isUp 9 = .ok (.goto 4, 3) := by decide +kernel
theorem dX4_isUp_12 : decode cX4_isUp 12 = .ok (.iconst 1, 1) := by decide +kernel
theorem dX4_isUp_13 : decode cX4_isUp 13 = .ok (.invokevirtual 90, 3) := by decide +kernel
theorem dX4_isUp_16 : decode cX4_isUp 16 = .ok (.ifCond .eq 16, 3) := by decide +kernel
theorem dX4_isUp_19 : decode cX4_isUp 19 = .ok (.aload_n 0, 1) := by decide +kernel
theorem dX4_isUp_20 : decode cX4_isUp 20 = .ok (.iconst 0, 1) := by decide +kernel
theorem dX4_isUp_21 : decode cX4_isUp 21 = .ok (.iload_n 1, 1) := by decide +kernel
theorem dX4_isUp_22 : decode cX4_isUp 22 = .ok (.invokevirtual 58, 3) := by decide +kernel
theorem dX4_isUp_25 : decode cX4_isUp 25 = .ok (.ifCond .eq 7, 3) := by decide +kernel
theorem dX4_isUp_28 : decode cX4_isUp 28 = .ok (.iconst 1, 1) := by decide +kernel
theorem dX4_isUp_29 : decode cX4_isUp 29 = .ok (.goto 4, 3) := by decide +kernel
theorem dX4_isUp_32 : decode cX4_isUp 32 = .ok (.iconst 0, 1) := by decide +kernel
theorem dX4_isUp_33 : decode cX4_isUp 33 = .ok (.ireturn, 1) := by decide +kernel
theorem dX4_state_0 : decode cX4_state 0 = .ok (.aload_n 0, 1) := by decide +kernel
theorem dX4_state_1 : decode cX4_state 1 = .ok (.aload_n 0, 1) := by decide +kernel
theorem dX4_state_2 : decode cX4_state 2 = .ok (.iload_n 1, 1) := by decide +kernel
theorem dX4_state_3 : decode cX4_state 3 = .ok (.invokevirtual 96, 3) := by decide +kernel
theorem dX4_state_6 : decode cX4_state 6 = .ok (.ifCond .eq 14, 3) := by decide +kernel
theorem dX4_state_9 : decode cX4_state 9 = .ok (.iload_n 2, 1) := by decide +kernel
theorem dX4_state_10 : decode cX4_state 10 = .ok (.invokestatic 86, 3) := by decide +kernel
theorem dX4_state_13 : decode cX4_state 13 = .ok (.ifCond .eq 7, 3) := by decide +kernel
theorem dX4_state_16 : decode cX4_state 16 = .ok (.iconst 0, 1) := by decide +kernel
theorem dX4_state_17 : decode cX4_state 17 = .ok (.goto 4, 3) := by decide +kernel
theorem dX4_state_20 : decode cX4_state 20 = .ok (.iconst 1, 1) := by decide +kernel
theorem dX4_state_21 : decode cX4_state 21 = .ok (.invokevirtual 90, 3) := by decide +kernel
theorem dX4_state_24 : decode cX4_state 24 = .ok (.ifCond .eq 13, 3) := by decide +kernel
theorem dX4_state_27 : decode cX4_state 27 = .ok (.aload_n 0, 1) := by decide +kernel
theorem dX4_state_28 : decode cX4_state 28 = .ok (.iconst 0, 1) := by decide +kernel
theorem dX4_state_29 : decode cX4_state 29 = .ok (.iload_n 1, 1) := by decide +kernel
theorem dX4_state_30 : decode cX4_state 30 = .ok (.iload_n 2, 1) := by decide +kernel
theorem dX4_state_31 : decode cX4_state 31 = .ok (.invokevirtual 35, 3) := by decide +kernel
theorem dX4_state_34 : decode cX4_state 34 = .ok (.goto 4, 3) := by decide +kernel
theorem dX4_state_37 : decode cX4_state 37 = .ok (.iconst 0, 1) := by decide +kernel
theorem dX4_state_38 : decode cX4_state 38 = .ok (.ireturn, 1) := by decide +kernel
theorem dX4_decision_0 : decode cX4_decision 0 = .ok (.aload_n 0, 1) := by decide +kernel
theorem dX4_decision_1 : decode cX4_decision 1 = .ok (.aload_n 0, 1) := by decide +kernel
theorem dX4_decision_2 : decode cX4_decision 2 = .ok (.iload_n 1, 1) := by decide +kernel
theorem dX4_decision_3 : decode cX4_decision 3 = .ok (.invokevirtual 96, 3) := by decide +kernel
theorem dX4_decision_6 : decode cX4_decision 6 = .ok (.ifCond .eq 7, 3) := by decide +kernel
theorem dX4_decision_9 : decode cX4_decision 9 = .ok (.iconst 0, 1) := by decide +kernel
theorem dX4_decision_10 : decode cX4_decision 10 = .ok (.goto 4, 3) := by decide +kernel
theorem dX4_decision_13 : decode cX4_decision 13 = .ok (.iconst 1, 1) := by decide +kernel
theorem dX4_decision_14 : decode cX4_decision 14 = .ok (.invokevirtual 90, 3) := by decide +kernel
theorem dX4_decision_17 : decode cX4_decision 17 = .ok (.ifCond .eq 13, 3) := by decide +kernel
theorem dX4_decision_20 : decode cX4_decision 20 = .ok (.aload_n 0, 1) := by decide +kernel
theorem dX4_decision_21 : decode cX4_decision 21 = .ok (.iconst 0, 1) := by decide +kernel
theorem dX4_decision_22 : decode cX4_decision 22 = .ok (.iload_n 1, 1) := by decide +kernel
theorem dX4_decision_23 : decode cX4_decision 23 = .ok (.iconst 3, 1) := by decide +kernel
theorem dX4_decision_24 : decode cX4_decision 24 = .ok (.invokevirtual 24, 3) := by decide +kernel
theorem dX4_decision_27 : decode cX4_decision 27 = .ok (.goto 4, 3) := by decide +kernel
theorem dX4_decision_30 : decode cX4_decision 30 = .ok (.iconst 0, 1) := by decide +kernel
theorem dX4_decision_31 : decode cX4_decision 31 = .ok (.ireturn, 1) := by decide +kernel
theorem dX4_leader_0 : decode cX4_leader 0 = .ok (.aload_n 0, 1) := by decide +kernel
theorem dX4_leader_1 : decode cX4_leader 1 = .ok (.aload_n 0, 1) := by decide +kernel
theorem dX4_leader_2 : decode cX4_leader 2 = .ok (.iload_n 1, 1) := by decide +kernel
theorem dX4_leader_3 : decode cX4_leader 3 = .ok (.invokevirtual 96, 3) := by decide +kernel
theorem dX4_leader_6 : decode cX4_leader 6 = .ok (.ifCond .eq 7, 3) := by decide +kernel
theorem dX4_leader_9 : decode cX4_leader 9 = .ok (.iconst 0, 1) := by decide +kernel
theorem dX4_leader_10 : decode cX4_leader 10 = .ok (.goto 4, 3) := by decide +kernel
theorem dX4_leader_13 : decode cX4_leader 13 = .ok (.iconst 1, 1) := by decide +kernel
theorem dX4_leader_14 : decode cX4_leader 14 = .ok (.invokevirtual 90, 3) := by decide +kernel
theorem dX4_leader_17 : decode cX4_leader 17 = .ok (.ifCond .eq 13, 3) := by decide +kernel
theorem dX4_leader_20 : decode cX4_leader 20 = .ok (.aload_n 0, 1) := by decide +kernel
theorem dX4_leader_21 : decode cX4_leader 21 = .ok (.iconst 0, 1) := by decide +kernel
theorem dX4_leader_22 : decode cX4_leader 22 = .ok (.iload_n 1, 1) := by decide +kernel
theorem dX4_leader_23 : decode cX4_leader 23 = .ok (.iconst 0, 1) := by decide +kernel
theorem dX4_leader_24 : decode cX4_leader 24 = .ok (.invokevirtual 24, 3) := by decide +kernel
theorem dX4_leader_27 : decode cX4_leader 27 = .ok (.goto 4, 3) := by decide +kernel
theorem dX4_leader_30 : decode cX4_leader 30 = .ok (.iconst 0, 1) := by decide +kernel
theorem dX4_leader_31 : decode cX4_leader 31 = .ok (.ireturn, 1) := by decide +kernel
theorem dX4_patienceOf_0 : decode cX4_patienceOf 0 = .ok (.aload_n 0, 1) := by decide +kernel
theorem dX4_patienceOf_1 : decode cX4_patienceOf 1 = .ok (.iconst 0, 1) := by decide +kernel
theorem dX4_patienceOf_2 : decode cX4_patienceOf 2 = .ok (.iload_n 1, 1) := by decide +kernel
theorem dX4_patienceOf_3 : decode cX4_patienceOf 3 = .ok (.iload_n 2, 1) := by decide +kernel
theorem dX4_patienceOf_4 : decode cX4_patienceOf 4 = .ok (.invokevirtual 35, 3) := by decide +kernel
theorem dX4_patienceOf_7 : decode cX4_patienceOf 7 = .ok (.iconst 1, 1) := by decide +kernel
theorem dX4_patienceOf_8 : decode cX4_patienceOf 8 = .ok (.if_icmp .ne 20, 3) := by decide +kernel
theorem dX4_patienceOf_11 : decode cX4_patienceOf 11 = .ok (.aload_n 0, 1) := by decide +kernel
theorem dX4_patienceOf_12 : decode cX4_patienceOf 12 = .ok (.getfield 7, 3) := by decide +kernel
theorem dX4_patienceOf_15 : decode cX4_patienceOf 15 = .ok (.bipush 84, 2) := by decide +kernel
theorem dX4_patienceOf_17 : decode cX4_patienceOf 17 = .ok (.bipush 6, 2) := by decide +kernel
theorem dX4_patienceOf_19 : decode cX4_patienceOf 19 = .ok (.iload_n 1, 1) := by decide +kernel
theorem dX4_patienceOf_20 : decode cX4_patienceOf 20 = .ok (.imul, 1) := by decide +kernel
theorem dX4_patienceOf_21 : decode cX4_patienceOf 21 = .ok (.iadd, 1) := by decide +kernel
theorem dX4_patienceOf_22 : decode cX4_patienceOf 22 = .ok (.iload_n 2, 1) := by decide +kernel
theorem dX4_patienceOf_23 : decode cX4_patienceOf 23 = .ok (.iadd, 1) := by decide +kernel
theorem dX4_patienceOf_24 : decode cX4_patienceOf 24 = .ok (.iaload, 1) := by decide +kernel
theorem dX4_patienceOf_25 : decode cX4_patienceOf 25 = .ok (.goto 4, 3) := by decide +kernel
theorem dX4_patienceOf_28 : decode cX4_patienceOf 28 = .ok (.iconst (-1), 1) := by decide +kernel
theorem dX4_patienceOf_29 : decode cX4_patienceOf 29 = .ok (.ireturn, 1) := by decide +kernel
theorem dX4_patience_0 : decode cX4_patience 0 = .ok (.aload_n 0, 1) := by decide +kernel
theorem dX4_patience_1 : decode cX4_patience 1 = .ok (.aload_n 0, 1) := by decide +kernel
theorem dX4_patience_2 : decode cX4_patience 2 = .ok (.iload_n 1, 1) := by decide +kernel
theorem dX4_patience_3 : decode cX4_patience 3 = .ok (.invokevirtual 96, 3) := by decide +kernel
theorem dX4_patience_6 : decode cX4_patience 6 = .ok (.ifCond .eq 14, 3) := by decide +kernel
theorem dX4_patience_9 : decode cX4_patience 9 = .ok (.iload_n 2, 1) := by decide +kernel
theorem dX4_patience_10 : decode cX4_patience 10 = .ok (.invokestatic 86, 3) := by decide +kernel
theorem dX4_patience_13 : decode cX4_patience 13 = .ok (.ifCond .eq 7, 3) := by decide +kernel
theorem dX4_patience_16 : decode cX4_patience 16 = .ok (.iconst 0, 1) := by decide +kernel
theorem dX4_patience_17 : decode cX4_patience 17 = .ok (.goto 4, 3) := by decide +kernel
theorem dX4_patience_20 : decode cX4_patience 20 = .ok (.iconst 1, 1) := by decide +kernel
theorem dX4_patience_21 : decode cX4_patience 21 = .ok (.invokevirtual 90, 3) := by decide +kernel
theorem dX4_patience_24 : decode cX4_patience 24 = .ok (.ifCond .eq 12, 3) := by decide +kernel
theorem dX4_patience_27 : decode cX4_patience 27 = .ok (.aload_n 0, 1) := by decide +kernel
theorem dX4_patience_28 : decode cX4_patience 28 = .ok (.iload_n 1, 1) := by decide +kernel
theorem dX4_patience_29 : decode cX4_patience 29 = .ok (.iload_n 2, 1) := by decide +kernel
theorem dX4_patience_30 : decode cX4_patience 30 = .ok (.invokevirtual 127, 3) := by decide +kernel
theorem dX4_patience_33 : decode cX4_patience 33 = .ok (.goto 4, 3) := by decide +kernel
theorem dX4_patience_36 : decode cX4_patience 36 = .ok (.iconst 0, 1) := by decide +kernel
theorem dX4_patience_37 : decode cX4_patience 37 = .ok (.ireturn, 1) := by decide +kernel
theorem dX4_openDeals_0 : decode cX4_openDeals 0 = .ok (.iconst 0, 1) := by decide +kernel
theorem dX4_openDeals_1 : decode cX4_openDeals 1 = .ok (.istore_n 1, 1) := by decide +kernel
theorem dX4_openDeals_2 : decode cX4_openDeals 2 = .ok (.iconst 0, 1) := by decide +kernel
theorem dX4_openDeals_3 : decode cX4_openDeals 3 = .ok (.istore_n 2, 1) := by decide +kernel
theorem dX4_openDeals_4 : decode cX4_openDeals 4 = .ok (.iload_n 2, 1) := by decide +kernel
theorem dX4_openDeals_5 : decode cX4_openDeals 5 = .ok (.aload_n 0, 1) := by decide +kernel
theorem dX4_openDeals_6 : decode cX4_openDeals 6 = .ok (.getfield 7, 3) := by decide +kernel
theorem dX4_openDeals_9 : decode cX4_openDeals 9 = .ok (.iconst 3, 1) := by decide +kernel
theorem dX4_openDeals_10 : decode cX4_openDeals 10 = .ok (.iaload, 1) := by decide +kernel
theorem dX4_openDeals_11 : decode cX4_openDeals 11 = .ok (.if_icmp .ge 65, 3) := by decide +kernel
theorem dX4_openDeals_14 : decode cX4_openDeals 14 = .ok (.iconst 0, 1) := by decide +kernel
theorem dX4_openDeals_15 : decode cX4_openDeals 15 = .ok (.istore_n 3, 1) := by decide +kernel
theorem dX4_openDeals_16 : decode cX4_openDeals 16 = .ok (.iconst 0, 1) := by decide +kernel
theorem dX4_openDeals_17 : decode cX4_openDeals 17 = .ok (.istore 4, 2) := by decide +kernel
theorem dX4_openDeals_19 : decode cX4_openDeals 19 = .ok (.iload 4, 2) := by decide +kernel
theorem dX4_openDeals_21 : decode cX4_openDeals 21 = .ok (.bipush 6, 2) := by decide +kernel
theorem dX4_openDeals_23 : decode cX4_openDeals 23 = .ok (.if_icmp .ge 35, 3) := by decide +kernel
theorem dX4_openDeals_26 : decode cX4_openDeals 26 = .ok (.iload_n 3, 1) := by decide +kernel
theorem dX4_openDeals_27 : decode cX4_openDeals 27 = .ok (.ifCond .ne 19, 3) := by decide +kernel
theorem dX4_openDeals_30 : decode cX4_openDeals 30 = .ok (.aload_n 0, 1) := by decide +kernel
theorem dX4_openDeals_31 : decode cX4_openDeals 31 = .ok (.iconst 0, 1) := by decide +kernel
theorem dX4_openDeals_32 : decode cX4_openDeals 32 = .ok (.iload_n 2, 1) := by decide +kernel
theorem dX4_openDeals_33 : decode cX4_openDeals 33 = .ok (.iload 4, 2) := by decide +kernel
theorem dX4_openDeals_35 : decode cX4_openDeals 35 = .ok (.invokevirtual 35, 3) := by decide +kernel
theorem dX4_openDeals_38 : decode cX4_openDeals 38 = .ok (.iconst 0, 1) := by decide +kernel
theorem dX4_openDeals_39 : decode cX4_openDeals 39 = .ok (.iconst 1, 1) := by decide +kernel
theorem dX4_openDeals_40 : decode cX4_openDeals 40 = .ok (.invokestatic 20, 3) := by decide +kernel
theorem dX4_openDeals_43 : decode cX4_openDeals 43 = .ok (.ifCond .eq 7, 3) := by decide +kernel
theorem dX4_openDeals_46 : decode cX4_openDeals 46 = .ok (.iconst 1, 1) := by decide +kernel
theorem dX4_openDeals_47 : decode cX4_openDeals 47 = .ok (.goto 4, 3) := by decide +kernel
theorem dX4_openDeals_50 : decode cX4_openDeals 50 = .ok (.iconst 0, 1) := by decide +kernel
theorem dX4_openDeals_51 : decode cX4_openDeals 51 = .ok (.istore_n 3, 1) := by decide +kernel
theorem dX4_openDeals_52 : decode cX4_openDeals 52 = .ok (.iinc 4 1, 3) := by decide +kernel
theorem dX4_openDeals_55 : decode cX4_openDeals 55 = .ok (.goto (-36), 3) := by decide +kernel
theorem dX4_openDeals_58 : decode cX4_openDeals 58 = .ok (.iload_n 1, 1) := by decide +kernel
theorem dX4_openDeals_59 : decode cX4_openDeals 59 = .ok (.iload_n 3, 1) := by decide +kernel
theorem dX4_openDeals_60 : decode cX4_openDeals 60 = .ok (.ifCond .eq 7, 3) := by decide +kernel
theorem dX4_openDeals_63 : decode cX4_openDeals 63 = .ok (.iconst 1, 1) := by decide +kernel
theorem dX4_openDeals_64 : decode cX4_openDeals 64 = .ok (.goto 4, 3) := by decide +kernel
theorem dX4_openDeals_67 : decode cX4_openDeals 67 = .ok (.iconst 0, 1) := by decide +kernel
theorem dX4_openDeals_68 : decode cX4_openDeals 68 = .ok (.iadd, 1) := by decide +kernel
theorem dX4_openDeals_69 : decode cX4_openDeals 69 = .ok (.istore_n 1, 1) := by decide +kernel
theorem dX4_openDeals_70 : decode cX4_openDeals 70 = .ok (.iinc 2 1, 3) := by decide +kernel
theorem dX4_openDeals_73 : decode cX4_openDeals 73 = .ok (.goto (-69), 3) := by decide +kernel
theorem dX4_openDeals_76 : decode cX4_openDeals 76 = .ok (.iload_n 1, 1) := by decide +kernel
theorem dX4_openDeals_77 : decode cX4_openDeals 77 = .ok (.ireturn, 1) := by decide +kernel
theorem dX4_open_0 : decode cX4_open 0 = .ok (.aload_n 0, 1) := by decide +kernel
theorem dX4_open_1 : decode cX4_open 1 = .ok (.iconst 0, 1) := by decide +kernel
theorem dX4_open_2 : decode cX4_open 2 = .ok (.putfield 16, 3) := by decide +kernel
theorem dX4_open_5 : decode cX4_open 5 = .ok (.aload_n 0, 1) := by decide +kernel
theorem dX4_open_6 : decode cX4_open 6 = .ok (.invokevirtual 130, 3) := by decide +kernel
theorem dX4_open_9 : decode cX4_open 9 = .ok (.ireturn, 1) := by decide +kernel
theorem dX4_helperOf_0 : decode cX4_helperOf 0 = .ok (.aload_n 0, 1) := by decide +kernel
theorem dX4_helperOf_1 : decode cX4_helperOf 1 = .ok (.iconst 0, 1) := by decide +kernel
theorem dX4_helperOf_2 : decode cX4_helperOf 2 = .ok (.iload_n 2, 1) := by decide +kernel
theorem dX4_helperOf_3 : decode cX4_helperOf 3 = .ok (.invokevirtual 58, 3) := by decide +kernel
theorem dX4_helperOf_6 : decode cX4_helperOf 6 = .ok (.ifCond .eq 14, 3) := by decide +kernel
theorem dX4_helperOf_9 : decode cX4_helperOf 9 = .ok (.aload_n 0, 1) := by decide +kernel
theorem dX4_helperOf_10 : decode cX4_helperOf 10 = .ok (.iconst 0, 1) := by decide +kernel
theorem dX4_helperOf_11 : decode cX4_helperOf 11 = .ok (.iload_n 1, 1) := by decide +kernel
theorem dX4_helperOf_12 : decode cX4_helperOf 12 = .ok (.iload_n 2, 1) := by decide +kernel
theorem dX4_helperOf_13 : decode cX4_helperOf 13 = .ok (.invokevirtual 35, 3) := by decide +kernel
theorem dX4_helperOf_16 : decode cX4_helperOf 16 = .ok (.iconst 1, 1) := by decide +kernel
theorem dX4_helperOf_17 : decode cX4_helperOf 17 = .ok (.if_icmp .eq 5, 3) := by decide +kernel
theorem dX4_helperOf_20 : decode cX4_helperOf 20 = .ok (.iconst (-1), 1) := by decide +kernel
theorem dX4_helperOf_21 : decode cX4_helperOf 21 = .ok (.ireturn, 1) := by decide +kernel
theorem dX4_helperOf_22 : decode cX4_helperOf 22 = .ok (.iconst 0, 1) := by decide +kernel
theorem dX4_helperOf_23 : decode cX4_helperOf 23 = .ok (.istore_n 3, 1) := by decide +kernel
theorem dX4_helperOf_24 : decode cX4_helperOf 24 = .ok (.iload_n 3, 1) := by decide +kernel
theorem dX4_helperOf_25 : decode cX4_helperOf 25 = .ok (.bipush 6, 2) := by decide +kernel
theorem dX4_helperOf_27 : decode cX4_helperOf 27 = .ok (.if_icmp .ge 35, 3) := by decide +kernel
theorem dX4_helperOf_30 : decode cX4_helperOf 30 = .ok (.iload_n 3, 1) := by decide +kernel
theorem dX4_helperOf_31 : decode cX4_helperOf 31 = .ok (.iload_n 2, 1) := by decide +kernel
theorem dX4_helperOf_32 : decode cX4_helperOf 32 = .ok (.if_icmp .eq 24, 3) := by decide +kernel
theorem dX4_helperOf_35 : decode cX4_helperOf 35 = .ok (.aload_n 0, 1) := by decide +kernel
theorem dX4_helperOf_36 : decode cX4_helperOf 36 = .ok (.iconst 0, 1) := by decide +kernel
theorem dX4_helperOf_37 : decode cX4_helperOf 37 = .ok (.iload_n 3, 1) := by decide +kernel
theorem dX4_helperOf_38 : decode cX4_helperOf 38 = .ok (.invokevirtual 58, 3) := by decide +kernel
theorem dX4_helperOf_41 : decode cX4_helperOf 41 = .ok (.ifCond .eq 15, 3) := by decide +kernel
theorem dX4_helperOf_44 : decode cX4_helperOf 44 = .ok (.aload_n 0, 1) := by decide +kernel
theorem dX4_helperOf_45 : decode cX4_helperOf 45 = .ok (.iconst 0, 1) := by decide +kernel
theorem dX4_helperOf_46 : decode cX4_helperOf 46 = .ok (.iload_n 1, 1) := by decide +kernel
theorem dX4_helperOf_47 : decode cX4_helperOf 47 = .ok (.iload_n 3, 1) := by decide +kernel
theorem dX4_helperOf_48 : decode cX4_helperOf 48 = .ok (.invokevirtual 55, 3) := by decide +kernel
theorem dX4_helperOf_51 : decode cX4_helperOf 51 = .ok (.ifCond .eq 5, 3) := by decide +kernel
theorem dX4_helperOf_54 : decode cX4_helperOf 54 = .ok (.iload_n 3, 1) := by decide +kernel
theorem dX4_helperOf_55 : decode cX4_helperOf 55 = .ok (.ireturn, 1) := by decide +kernel
theorem dX4_helperOf_56 : decode cX4_helperOf 56 = .ok (.iinc 3 1, 3) := by decide +kernel
theorem dX4_helperOf_59 : decode cX4_helperOf 59 = .ok (.goto (-35), 3) := by decide +kernel
theorem dX4_helperOf_62 : decode cX4_helperOf 62 = .ok (.iconst (-1), 1) := by decide +kernel
theorem dX4_helperOf_63 : decode cX4_helperOf 63 = .ok (.ireturn, 1) := by decide +kernel
theorem dX4_stuckDeals_0 : decode cX4_stuckDeals 0 = .ok (.iconst 0, 1) := by decide +kernel
theorem dX4_stuckDeals_1 : decode cX4_stuckDeals 1 = .ok (.istore_n 1, 1) := by decide +kernel
theorem dX4_stuckDeals_2 : decode cX4_stuckDeals 2 = .ok (.iconst 0, 1) := by decide +kernel
theorem dX4_stuckDeals_3 : decode cX4_stuckDeals 3 = .ok (.istore_n 2, 1) := by decide +kernel
theorem dX4_stuckDeals_4 : decode cX4_stuckDeals 4 = .ok (.iload_n 2, 1) := by decide +kernel
theorem dX4_stuckDeals_5 : decode cX4_stuckDeals 5 = .ok (.aload_n 0, 1) := by decide +kernel
theorem dX4_stuckDeals_6 : decode cX4_stuckDeals 6 = .ok (.getfield 7, 3) := by decide +kernel
theorem dX4_stuckDeals_9 : decode cX4_stuckDeals 9 = .ok (.iconst 3, 1) := by decide +kernel
theorem dX4_stuckDeals_10 : decode cX4_stuckDeals 10 = .ok (.iaload, 1) := by decide +kernel
theorem dX4_stuckDeals_11 : decode cX4_stuckDeals 11 = .ok (.if_icmp .ge 102, 3) := by decide +kernel
theorem dX4_stuckDeals_14 : decode cX4_stuckDeals 14 = .ok (.iconst 0, 1) := by decide +kernel
theorem dX4_stuckDeals_15 : decode cX4_stuckDeals 15 = .ok (.istore_n 3, 1) := by decide +kernel
theorem dX4_stuckDeals_16 : decode cX4_stuckDeals 16 = .ok (.iconst 0, 1) := by decide +kernel
theorem dX4_stuckDeals_17 : decode cX4_stuckDeals 17 = .ok (.istore 4, 2) := by decide +kernel
theorem dX4_stuckDeals_19 : decode cX4_stuckDeals 19 = .ok (.iconst 0, 1) := by decide +kernel
theorem dX4_stuckDeals_20 : decode cX4_stuckDeals 20 = .ok (.istore 5, 2) := by decide +kernel
theorem dX4_stuckDeals_22 : decode cX4_stuckDeals 22 = .ok (.iload 5, 2) := by decide +kernel
theorem dX4_stuckDeals_24 : decode cX4_stuckDeals 24 = .ok (.bipush 6, 2) := by decide +kernel
theorem dX4_stuckDeals_26 : decode cX4_stuckDeals 26 = .ok (.if_icmp .ge 64, 3) := by decide +kernel
theorem dX4_stuckDeals_29 : decode cX4_stuckDeals 29 = .ok (.iload_n 3, 1) := by decide +kernel
theorem dX4_stuckDeals_30 : decode cX4_stuckDeals 30 = .ok (.ifCond .ne 25, 3) := by decide +kernel
theorem dX4_stuckDeals_33 : decode cX4_stuckDeals 33 = .ok (.aload_n 0, 1) := by decide +kernel
theorem dX4_stuckDeals_34 : decode cX4_stuckDeals 34 = .ok (.iconst 0, 1) := by decide +kernel
theorem dX4_stuckDeals_35 : decode cX4_stuckDeals 35 = .ok (.iload 5, 2) := by decide +kernel
theorem dX4_stuckDeals_37 : decode cX4_stuckDeals 37 = .ok (.invokevirtual 58, 3) := by decide +kernel
theorem dX4_stuckDeals_40 : decode cX4_stuckDeals 40 = .ok (.ifCond .eq 19, 3) := by decide +kernel
theorem dX4_stuckDeals_43 : decode cX4_stuckDeals 43 = .ok (.aload_n 0, 1) := by decide +kernel
theorem dX4_stuckDeals_44 : decode cX4_stuckDeals 44 = .ok (.iconst 0, 1) := by decide +kernel
theorem dX4_stuckDeals_45 : decode cX4_stuckDeals 45 = .ok (.iload_n 2, 1) := by decide +kernel
theorem dX4_stuckDeals_46 : decode cX4_stuckDeals 46 = .ok (.iload 5, 2) := by decide +kernel
theorem dX4_stuckDeals_48 : decode cX4_stuckDeals 48 = .ok (.invokevirtual 35, 3) := by decide +kernel
theorem dX4_stuckDeals_51 : decode cX4_stuckDeals 51 = .ok (.iconst 1, 1) := by decide +kernel
theorem dX4_stuckDeals_52 : decode cX4_stuckDeals 52 = .ok (.if_icmp .ne 7, 3) := by decide +kernel
theorem dX4_stuckDeals_55 : decode cX4_stuckDeals 55 = .ok (.iconst 1, 1) := by decide +kernel
theorem dX4_stuckDeals_56 : decode cX4_stuckDeals 56 = .ok (.goto 4, 3) := by decide +kernel
theorem dX4_stuckDeals_59 : decode cX4_stuckDeals 59 = .ok (.iconst 0, 1) := by decide +kernel
theorem dX4_stuckDeals_60 : decode cX4_stuckDeals 60 = .ok (.istore_n 3, 1) := by decide +kernel
theorem dX4_stuckDeals_61 : decode cX4_stuckDeals 61 = .ok (.iload 4, 2) := by decide +kernel
theorem dX4_stuckDeals_63 : decode cX4_stuckDeals 63 = .ok (.ifCond .ne 14, 3) := by decide +kernel
theorem dX4_stuckDeals_66 : decode cX4_stuckDeals 66 = .ok (.aload_n 0, 1) := by decide +kernel
theorem dX4_stuckDeals_67 : decode cX4_stuckDeals 67 = .ok (.iload_n 2, 1) := by decide +kernel
theorem dX4_stuckDeals_68 : decode cX4_stuckDeals 68 = .ok (.iload 5, 2) := by decide +kernel
theorem dX4_stuckDeals_70 : decode cX4_stuckDeals 70 = .ok (.invokevirtual 134, 3) := by decide +kernel
theorem dX4_stuckDeals_73 : decode cX4_stuckDeals 73 = .ok (.iconst (-1), 1) := by decide +kernel
theorem dX4_stuckDeals_74 : decode cX4_stuckDeals 74 = .ok (.if_icmp .eq 7, 3) := by decide +kernel
theorem dX4_stuckDeals_77 : decode cX4_stuckDeals 77 = .ok (.iconst 1, 1) := by decide +kernel
theorem dX4_stuckDeals_78 : decode cX4_stuckDeals 78 = .ok (.goto 4, 3) := by decide +kernel
theorem dX4_stuckDeals_81 : decode cX4_stuckDeals 81 = .ok (.iconst 0, 1) := by decide +kernel
theorem dX4_stuckDeals_82 : decode cX4_stuckDeals 82 = .ok (.istore 4, 2) := by decide +kernel
theorem dX4_stuckDeals_84 : decode cX4_stuckDeals 84 = .ok (.iinc 5 1, 3) := by decide +kernel
theorem dX4_stuckDeals_87 : decode cX4_stuckDeals 87 = .ok (.goto (-65), 3) := by decide +kernel
theorem dX4_stuckDeals_90 : decode cX4_stuckDeals 90 = .ok (.iload_n 1, 1) := by decide +kernel
theorem dX4_stuckDeals_91 : decode cX4_stuckDeals 91 = .ok (.iload_n 3, 1) := by decide +kernel
theorem dX4_stuckDeals_92 : decode cX4_stuckDeals 92 = .ok (.ifCond .eq 12, 3) := by decide +kernel
theorem dX4_stuckDeals_95 : decode cX4_stuckDeals 95 = .ok (.iload 4, 2) := by decide +kernel
theorem dX4_stuckDeals_97 : decode cX4_stuckDeals 97 = .ok (.ifCond .ne 7, 3) := by decide +kernel
theorem dX4_stuckDeals_100 : decode cX4_stuckDeals 100 = .ok (.iconst 1, 1) := by decide +kernel
theorem dX4_stuckDeals_101 : decode cX4_stuckDeals 101 = .ok (.goto 4, 3) := by decide +kernel
theorem dX4_stuckDeals_104 : decode cX4_stuckDeals 104 = .ok (.iconst 0, 1) := by decide +kernel
theorem dX4_stuckDeals_105 : decode cX4_stuckDeals 105 = .ok (.iadd, 1) := by decide +kernel
theorem dX4_stuckDeals_106 : decode cX4_stuckDeals 106 = .ok (.istore_n 1, 1) := by decide +kernel
theorem dX4_stuckDeals_107 : decode cX4_stuckDeals 107 = .ok (.iinc 2 1, 3) := by decide +kernel
theorem dX4_stuckDeals_110 : decode cX4_stuckDeals 110 = .ok (.goto (-106), 3) := by decide +kernel
theorem dX4_stuckDeals_113 : decode cX4_stuckDeals 113 = .ok (.iload_n 1, 1) := by decide +kernel
theorem dX4_stuckDeals_114 : decode cX4_stuckDeals 114 = .ok (.ireturn, 1) := by decide +kernel
theorem dX4_stuck_0 : decode cX4_stuck 0 = .ok (.aload_n 0, 1) := by decide +kernel
theorem dX4_stuck_1 : decode cX4_stuck 1 = .ok (.iconst 0, 1) := by decide +kernel
theorem dX4_stuck_2 : decode cX4_stuck 2 = .ok (.putfield 16, 3) := by decide +kernel
theorem dX4_stuck_5 : decode cX4_stuck 5 = .ok (.aload_n 0, 1) := by decide +kernel
theorem dX4_stuck_6 : decode cX4_stuck 6 = .ok (.invokevirtual 137, 3) := by decide +kernel
theorem dX4_stuck_9 : decode cX4_stuck 9 = .ok (.ireturn, 1) := by decide +kernel
theorem dX4_logLength_0 : decode cX4_logLength 0 = .ok (.aload_n 0, 1) := by decide +kernel
theorem dX4_logLength_1 : decode cX4_logLength 1 = .ok (.iload_n 1, 1) := by decide +kernel
theorem dX4_logLength_2 : decode cX4_logLength 2 = .ok (.invokestatic 86, 3) := by decide +kernel
theorem dX4_logLength_5 : decode cX4_logLength 5 = .ok (.ifCond .eq 7, 3) := by decide +kernel
theorem dX4_logLength_8 : decode cX4_logLength 8 = .ok (.iconst 0, 1) := by decide +kernel
theorem dX4_logLength_9 : decode cX4_logLength 9 = .ok (.goto 4, 3) := by decide +kernel
theorem dX4_logLength_12 : decode cX4_logLength 12 = .ok (.iconst 1, 1) := by decide +kernel
theorem dX4_logLength_13 : decode cX4_logLength 13 = .ok (.invokevirtual 90, 3) := by decide +kernel
theorem dX4_logLength_16 : decode cX4_logLength 16 = .ok (.ifCond .eq 19, 3) := by decide +kernel
theorem dX4_logLength_19 : decode cX4_logLength 19 = .ok (.aload_n 0, 1) := by decide +kernel
theorem dX4_logLength_20 : decode cX4_logLength 20 = .ok (.getfield 7, 3) := by decide +kernel
theorem dX4_logLength_23 : decode cX4_logLength 23 = .ok (.sipush 132, 3) := by decide +kernel
theorem dX4_logLength_26 : decode cX4_logLength 26 = .ok (.bipush 25, 2) := by decide +kernel
theorem dX4_logLength_28 : decode cX4_logLength 28 = .ok (.iload_n 1, 1) := by decide +kernel
theorem dX4_logLength_29 : decode cX4_logLength 29 = .ok (.imul, 1) := by decide +kernel
theorem dX4_logLength_30 : decode cX4_logLength 30 = .ok (.iadd, 1) := by decide +kernel
theorem dX4_logLength_31 : decode cX4_logLength 31 = .ok (.iaload, 1) := by decide +kernel
theorem dX4_logLength_32 : decode cX4_logLength 32 = .ok (.goto 4, 3) := by decide +kernel
theorem dX4_logLength_35 : decode cX4_logLength 35 = .ok (.iconst 0, 1) := by decide +kernel
theorem dX4_logLength_36 : decode cX4_logLength 36 = .ok (.ireturn, 1) := by decide +kernel
theorem dX4_log_0 : decode cX4_log 0 = .ok (.aload_n 0, 1) := by decide +kernel
theorem dX4_log_1 : decode cX4_log 1 = .ok (.iload_n 1, 1) := by decide +kernel
theorem dX4_log_2 : decode cX4_log 2 = .ok (.invokestatic 86, 3) := by decide +kernel
theorem dX4_log_5 : decode cX4_log 5 = .ok (.ifCond .eq 11, 3) := by decide +kernel
theorem dX4_log_8 : decode cX4_log 8 = .ok (.iload_n 2, 1) := by decide +kernel
theorem dX4_log_9 : decode cX4_log 9 = .ok (.ifCond .lt 7, 3) := by decide +kernel
theorem dX4_log_12 : decode cX4_log 12 = .ok (.iconst 0, 1) := by decide +kernel
theorem dX4_log_13 : decode cX4_log 13 = .ok (.goto 4, 3) := by decide +kernel
theorem dX4_log_16 : decode cX4_log 16 = .ok (.iconst 1, 1) := by decide +kernel
theorem dX4_log_17 : decode cX4_log 17 = .ok (.invokevirtual 90, 3) := by decide +kernel
theorem dX4_log_20 : decode cX4_log 20 = .ok (.ifCond .ne 5, 3) := by decide +kernel
theorem dX4_log_23 : decode cX4_log 23 = .ok (.iconst 0, 1) := by decide +kernel
theorem dX4_log_24 : decode cX4_log 24 = .ok (.ireturn, 1) := by decide +kernel
theorem dX4_log_25 : decode cX4_log 25 = .ok (.iload_n 2, 1) := by decide +kernel
theorem dX4_log_26 : decode cX4_log 26 = .ok (.aload_n 0, 1) := by decide +kernel
theorem dX4_log_27 : decode cX4_log 27 = .ok (.getfield 7, 3) := by decide +kernel
theorem dX4_log_30 : decode cX4_log 30 = .ok (.sipush 132, 3) := by decide +kernel
theorem dX4_log_33 : decode cX4_log 33 = .ok (.bipush 25, 2) := by decide +kernel
theorem dX4_log_35 : decode cX4_log 35 = .ok (.iload_n 1, 1) := by decide +kernel
theorem dX4_log_36 : decode cX4_log 36 = .ok (.imul, 1) := by decide +kernel
theorem dX4_log_37 : decode cX4_log 37 = .ok (.iadd, 1) := by decide +kernel
theorem dX4_log_38 : decode cX4_log 38 = .ok (.iaload, 1) := by decide +kernel
theorem dX4_log_39 : decode cX4_log 39 = .ok (.if_icmp .ge 23, 3) := by decide +kernel
theorem dX4_log_42 : decode cX4_log 42 = .ok (.aload_n 0, 1) := by decide +kernel
theorem dX4_log_43 : decode cX4_log 43 = .ok (.getfield 7, 3) := by decide +kernel
theorem dX4_log_46 : decode cX4_log 46 = .ok (.sipush 132, 3) := by decide +kernel
theorem dX4_log_49 : decode cX4_log 49 = .ok (.bipush 25, 2) := by decide +kernel
theorem dX4_log_51 : decode cX4_log 51 = .ok (.iload_n 1, 1) := by decide +kernel
theorem dX4_log_52 : decode cX4_log 52 = .ok (.imul, 1) := by decide +kernel
theorem dX4_log_53 : decode cX4_log 53 = .ok (.iadd, 1) := by decide +kernel
theorem dX4_log_54 : decode cX4_log 54 = .ok (.iconst 1, 1) := by decide +kernel
theorem dX4_log_55 : decode cX4_log 55 = .ok (.iadd, 1) := by decide +kernel
theorem dX4_log_56 : decode cX4_log 56 = .ok (.iload_n 2, 1) := by decide +kernel
theorem dX4_log_57 : decode cX4_log 57 = .ok (.iadd, 1) := by decide +kernel
theorem dX4_log_58 : decode cX4_log 58 = .ok (.iaload, 1) := by decide +kernel
theorem dX4_log_59 : decode cX4_log 59 = .ok (.goto 4, 3) := by decide +kernel
theorem dX4_log_62 : decode cX4_log 62 = .ok (.iconst (-1), 1) := by decide +kernel
theorem dX4_log_63 : decode cX4_log 63 = .ok (.ireturn, 1) := by decide +kernel
theorem dX4_held_0 : decode cX4_held 0 = .ok (.aload_n 0, 1) := by decide +kernel
theorem dX4_held_1 : decode cX4_held 1 = .ok (.iload_n 1, 1) := by decide +kernel
theorem dX4_held_2 : decode cX4_held 2 = .ok (.invokestatic 86, 3) := by decide +kernel
theorem dX4_held_5 : decode cX4_held 5 = .ok (.ifCond .eq 7, 3) := by decide +kernel
theorem dX4_held_8 : decode cX4_held 8 = .ok (.iconst 0, 1) := by decide +kernel
theorem dX4_held_9 : decode cX4_held 9 = .ok (.goto 4, 3) := by decide +kernel
theorem dX4_held_12 : decode cX4_held 12 = .ok (.iconst 1, 1) := by decide +kernel
theorem dX4_held_13 : decode cX4_held 13 = .ok (.invokevirtual 90, 3) := by decide +kernel
theorem dX4_held_16 : decode cX4_held 16 = .ok (.ifCond .eq 12, 3) := by decide +kernel
theorem dX4_held_19 : decode cX4_held 19 = .ok (.aload_n 0, 1) := by decide +kernel
theorem dX4_held_20 : decode cX4_held 20 = .ok (.iconst 0, 1) := by decide +kernel
theorem dX4_held_21 : decode cX4_held 21 = .ok (.iload_n 1, 1) := by decide +kernel
theorem dX4_held_22 : decode cX4_held 22 = .ok (.invokevirtual 38, 3) := by decide +kernel
theorem dX4_held_25 : decode cX4_held 25 = .ok (.goto 4, 3) := by decide +kernel
theorem dX4_held_28 : decode cX4_held 28 = .ok (.iconst 0, 1) := by decide +kernel
theorem dX4_held_29 : decode cX4_held 29 = .ok (.ireturn, 1) := by decide +kernel
theorem dX4_asked_0 : decode cX4_asked 0 = .ok (.aload_n 0, 1) := by decide +kernel
theorem dX4_asked_1 : decode cX4_asked 1 = .ok (.iconst 0, 1) := by decide +kernel
theorem dX4_asked_2 : decode cX4_asked 2 = .ok (.putfield 16, 3) := by decide +kernel
theorem dX4_asked_5 : decode cX4_asked 5 = .ok (.aload_n 0, 1) := by decide +kernel
theorem dX4_asked_6 : decode cX4_asked 6 = .ok (.getfield 7, 3) := by decide +kernel
theorem dX4_asked_9 : decode cX4_asked 9 = .ok (.iconst 1, 1) := by decide +kernel
theorem dX4_asked_10 : decode cX4_asked 10 = .ok (.iaload, 1) := by decide +kernel
theorem dX4_asked_11 : decode cX4_asked 11 = .ok (.ireturn, 1) := by decide +kernel
theorem dX4_doubtShare_0 : decode cX4_doubtShare 0 = .ok (.aload_n 0, 1) := by decide +kernel
theorem dX4_doubtShare_1 : decode cX4_doubtShare 1 = .ok (.iconst 0, 1) := by decide +kernel
theorem dX4_doubtShare_2 : decode cX4_doubtShare 2 = .ok (.putfield 16, 3) := by decide +kernel
theorem dX4_doubtShare_5 : decode cX4_doubtShare 5 = .ok (.iconst 0, 1) := by decide +kernel
theorem dX4_doubtShare_6 : decode cX4_doubtShare 6 = .ok (.istore_n 1, 1) := by decide +kernel
theorem dX4_doubtShare_7 : decode cX4_doubtShare 7 = .ok (.iconst 0, 1) := by decide +kernel
theorem dX4_doubtShare_8 : decode cX4_doubtShare 8 = .ok (.istore_n 2, 1) := by decide +kernel
theorem dX4_doubtShare_9 : decode cX4_doubtShare 9 = .ok (.iconst 0, 1) := by decide +kernel
theorem dX4_doubtShare_10 : decode cX4_doubtShare 10 = .ok (.istore_n 3, 1) := by decide +kernel
theorem dX4_doubtShare_11 : decode cX4_doubtShare 11 = .ok (.iload_n 3, 1) := by decide +kernel
theorem dX4_doubtShare_12 : decode cX4_doubtShare 12 = .ok (.bipush 6, 2) := by decide +kernel
theorem dX4_doubtShare_14 : decode cX4_doubtShare 14 = .ok (.aload_n 0, 1) := by decide +kernel
theorem dX4_doubtShare_15 : decode cX4_doubtShare 15 = .ok (.getfield 7, 3) := by decide +kernel
theorem dX4_doubtShare_18 : decode cX4_doubtShare 18 = .ok (.iconst 3, 1) := by decide +kernel
theorem dX4_doubtShare_19 : decode cX4_doubtShare 19 = .ok (.iaload, 1) := by decide +kernel
theorem dX4_doubtShare_20 : decode cX4_doubtShare 20 = .ok (.imul, 1) := by decide +kernel
theorem dX4_doubtShare_21 : decode cX4_doubtShare 21 = .ok (.if_icmp .ge 58, 3) := by decide +kernel
theorem dX4_doubtShare_24 : decode cX4_doubtShare 24 = .ok (.iload_n 1, 1) := by decide +kernel
theorem dX4_doubtShare_25 : decode cX4_doubtShare 25 = .ok (.aload_n 0, 1) := by decide +kernel
theorem dX4_doubtShare_26 : decode cX4_doubtShare 26 = .ok (.iconst 0, 1) := by decide +kernel
theorem dX4_doubtShare_27 : decode cX4_doubtShare 27 = .ok (.iload_n 3, 1) := by decide +kernel
theorem dX4_doubtShare_28 : decode cX4_doubtShare 28 = .ok (.bipush 6, 2) := by decide +kernel
theorem dX4_doubtShare_30 : decode cX4_doubtShare 30 = .ok (.idiv, 1) := by decide +kernel
theorem dX4_doubtShare_31 : decode cX4_doubtShare 31 = .ok (.iload_n 3, 1) := by decide +kernel
theorem dX4_doubtShare_32 : decode cX4_doubtShare 32 = .ok (.bipush 6, 2) := by decide +kernel
theorem dX4_doubtShare_34 : decode cX4_doubtShare 34 = .ok (.irem, 1) := by decide +kernel
theorem dX4_doubtShare_35 : decode cX4_doubtShare 35 = .ok (.invokevirtual 28, 3) := by decide +kernel
theorem dX4_doubtShare_38 : decode cX4_doubtShare 38 = .ok (.ifCond .eq 7, 3) := by decide +kernel
theorem dX4_doubtShare_41 : decode cX4_doubtShare 41 = .ok (.iconst 1, 1) := by decide +kernel
theorem dX4_doubtShare_42 : decode cX4_doubtShare 42 = .ok (.goto 4, 3) := by decide +kernel
theorem dX4_doubtShare_45 : decode cX4_doubtShare 45 = .ok (.iconst 0, 1) := by decide +kernel
theorem dX4_doubtShare_46 : decode cX4_doubtShare 46 = .ok (.iadd, 1) := by decide +kernel
theorem dX4_doubtShare_47 : decode cX4_doubtShare 47 = .ok (.istore_n 1, 1) := by decide +kernel
theorem dX4_doubtShare_48 : decode cX4_doubtShare 48 = .ok (.iload_n 2, 1) := by decide +kernel
theorem dX4_doubtShare_49 : decode cX4_doubtShare 49 = .ok (.aload_n 0, 1) := by decide +kernel
theorem dX4_doubtShare_50 : decode cX4_doubtShare 50 = .ok (.iconst 0, 1) := by decide +kernel
theorem dX4_doubtShare_51 : decode cX4_doubtShare 51 = .ok (.iload_n 3, 1) := by decide +kernel
theorem dX4_doubtShare_52 : decode cX4_doubtShare 52 = .ok (.bipush 6, 2) := by decide +kernel
theorem dX4_doubtShare_54 : decode cX4_doubtShare 54 = .ok (.idiv, 1) := by decide +kernel
theorem dX4_doubtShare_55 : decode cX4_doubtShare 55 = .ok (.iload_n 3, 1) := by decide +kernel
theorem dX4_doubtShare_56 : decode cX4_doubtShare 56 = .ok (.bipush 6, 2) := by decide +kernel
theorem dX4_doubtShare_58 : decode cX4_doubtShare 58 = .ok (.irem, 1) := by decide +kernel
theorem dX4_doubtShare_59 : decode cX4_doubtShare 59 = .ok (.invokevirtual 35, 3) := by decide +kernel
theorem dX4_doubtShare_62 : decode cX4_doubtShare 62 = .ok (.iconst 1, 1) := by decide +kernel
theorem dX4_doubtShare_63 : decode cX4_doubtShare 63 = .ok (.if_icmp .ne 7, 3) := by decide +kernel
theorem dX4_doubtShare_66 : decode cX4_doubtShare 66 = .ok (.iconst 1, 1) := by decide +kernel
theorem dX4_doubtShare_67 : decode cX4_doubtShare 67 = .ok (.goto 4, 3) := by decide +kernel
theorem dX4_doubtShare_70 : decode cX4_doubtShare 70 = .ok (.iconst 0, 1) := by decide +kernel
theorem dX4_doubtShare_71 : decode cX4_doubtShare 71 = .ok (.iadd, 1) := by decide +kernel
theorem dX4_doubtShare_72 : decode cX4_doubtShare 72 = .ok (.istore_n 2, 1) := by decide +kernel
theorem dX4_doubtShare_73 : decode cX4_doubtShare 73 = .ok (.iinc 3 1, 3) := by decide +kernel
theorem dX4_doubtShare_76 : decode cX4_doubtShare 76 = .ok (.goto (-65), 3) := by decide +kernel
theorem dX4_doubtShare_79 : decode cX4_doubtShare 79 = .ok (.iload_n 1, 1) := by decide +kernel
theorem dX4_doubtShare_80 : decode cX4_doubtShare 80 = .ok (.ifCond .ne 7, 3) := by decide +kernel
theorem dX4_doubtShare_83 : decode cX4_doubtShare 83 = .ok (.dconst 0, 1) := by decide +kernel
theorem dX4_doubtShare_84 : decode cX4_doubtShare 84 = .ok (.goto 8, 3) := by decide +kernel
theorem dX4_doubtShare_87 : decode cX4_doubtShare 87 = .ok (.iload_n 2, 1) := by decide +kernel
theorem dX4_doubtShare_88 : decode cX4_doubtShare 88 = .ok (.i2d, 1) := by decide +kernel
theorem dX4_doubtShare_89 : decode cX4_doubtShare 89 = .ok (.iload_n 1, 1) := by decide +kernel
theorem dX4_doubtShare_90 : decode cX4_doubtShare 90 = .ok (.i2d, 1) := by decide +kernel
theorem dX4_doubtShare_91 : decode cX4_doubtShare 91 = .ok (.ddiv, 1) := by decide +kernel
theorem dX4_doubtShare_92 : decode cX4_doubtShare 92 = .ok (.dreturn, 1) := by decide +kernel
theorem dX4_reason_0 : decode cX4_reason 0 = .ok (.aload_n 0, 1) := by decide +kernel
theorem dX4_reason_1 : decode cX4_reason 1 = .ok (.aload_n 0, 1) := by decide +kernel
theorem dX4_reason_2 : decode cX4_reason 2 = .ok (.iload_n 1, 1) := by decide +kernel
theorem dX4_reason_3 : decode cX4_reason 3 = .ok (.invokevirtual 96, 3) := by decide +kernel
theorem dX4_reason_6 : decode cX4_reason 6 = .ok (.ifCond .eq 14, 3) := by decide +kernel
theorem dX4_reason_9 : decode cX4_reason 9 = .ok (.iload_n 2, 1) := by decide +kernel
theorem dX4_reason_10 : decode cX4_reason 10 = .ok (.invokestatic 86, 3) := by decide +kernel
theorem dX4_reason_13 : decode cX4_reason 13 = .ok (.ifCond .eq 7, 3) := by decide +kernel
theorem dX4_reason_16 : decode cX4_reason 16 = .ok (.iconst 0, 1) := by decide +kernel
theorem dX4_reason_17 : decode cX4_reason 17 = .ok (.goto 4, 3) := by decide +kernel
theorem dX4_reason_20 : decode cX4_reason 20 = .ok (.iconst 1, 1) := by decide +kernel
theorem dX4_reason_21 : decode cX4_reason 21 = .ok (.invokevirtual 90, 3) := by decide +kernel
theorem dX4_reason_24 : decode cX4_reason 24 = .ok (.ifCond .ne 5, 3) := by decide +kernel
theorem dX4_reason_27 : decode cX4_reason 27 = .ok (.iconst 0, 1) := by decide +kernel
theorem dX4_reason_28 : decode cX4_reason 28 = .ok (.ireturn, 1) := by decide +kernel
theorem dX4_reason_29 : decode cX4_reason 29 = .ok (.aload_n 0, 1) := by decide +kernel
theorem dX4_reason_30 : decode cX4_reason 30 = .ok (.iconst 0, 1) := by decide +kernel
theorem dX4_reason_31 : decode cX4_reason 31 = .ok (.iload_n 1, 1) := by decide +kernel
theorem dX4_reason_32 : decode cX4_reason 32 = .ok (.iload_n 2, 1) := by decide +kernel
theorem dX4_reason_33 : decode cX4_reason 33 = .ok (.invokevirtual 28, 3) := by decide +kernel
theorem dX4_reason_36 : decode cX4_reason 36 = .ok (.ifCond .ne 5, 3) := by decide +kernel
theorem dX4_reason_39 : decode cX4_reason 39 = .ok (.iconst 1, 1) := by decide +kernel
theorem dX4_reason_40 : decode cX4_reason 40 = .ok (.ireturn, 1) := by decide +kernel
theorem dX4_reason_41 : decode cX4_reason 41 = .ok (.aload_n 0, 1) := by decide +kernel
theorem dX4_reason_42 : decode cX4_reason 42 = .ok (.iconst 0, 1) := by decide +kernel
theorem dX4_reason_43 : decode cX4_reason 43 = .ok (.iload_n 2, 1) := by decide +kernel
theorem dX4_reason_44 : decode cX4_reason 44 = .ok (.invokevirtual 58, 3) := by decide +kernel
theorem dX4_reason_47 : decode cX4_reason 47 = .ok (.ifCond .ne 5, 3) := by decide +kernel
theorem dX4_reason_50 : decode cX4_reason 50 = .ok (.iconst 2, 1) := by decide +kernel
theorem dX4_reason_51 : decode cX4_reason 51 = .ok (.ireturn, 1) := by decide +kernel
theorem dX4_reason_52 : decode cX4_reason 52 = .ok (.aload_n 0, 1) := by decide +kernel
theorem dX4_reason_53 : decode cX4_reason 53 = .ok (.iconst 0, 1) := by decide +kernel
theorem dX4_reason_54 : decode cX4_reason 54 = .ok (.iload_n 1, 1) := by decide +kernel
theorem dX4_reason_55 : decode cX4_reason 55 = .ok (.iload_n 2, 1) := by decide +kernel
theorem dX4_reason_56 : decode cX4_reason 56 = .ok (.invokevirtual 35, 3) := by decide +kernel
theorem dX4_reason_59 : decode cX4_reason 59 = .ok (.ifCond .eq 7, 3) := by decide +kernel
theorem dX4_reason_62 : decode cX4_reason 62 = .ok (.iconst 3, 1) := by decide +kernel
theorem dX4_reason_63 : decode cX4_reason 63 = .ok (.goto 18, 3) := by decide +kernel
theorem dX4_reason_66 : decode cX4_reason 66 = .ok (.aload_n 0, 1) := by decide +kernel
theorem dX4_reason_67 : decode cX4_reason 67 = .ok (.iconst 0, 1) := by decide +kernel
theorem dX4_reason_68 : decode cX4_reason 68 = .ok (.iload_n 1, 1) := by decide +kernel
theorem dX4_reason_69 : decode cX4_reason 69 = .ok (.iload_n 2, 1) := by decide +kernel
theorem dX4_reason_70 : decode cX4_reason 70 = .ok (.invokevirtual 42, 3) := by decide +kernel
theorem dX4_reason_73 : decode cX4_reason 73 = .ok (.ifCond .eq 7, 3) := by decide +kernel
theorem dX4_reason_76 : decode cX4_reason 76 = .ok (.iconst 4, 1) := by decide +kernel
theorem dX4_reason_77 : decode cX4_reason 77 = .ok (.goto 4, 3) := by decide +kernel
theorem dX4_reason_80 : decode cX4_reason 80 = .ok (.iconst 0, 1) := by decide +kernel
theorem dX4_reason_81 : decode cX4_reason 81 = .ok (.ireturn, 1) := by decide +kernel
theorem dX4_helper_0 : decode cX4_helper 0 = .ok (.aload_n 0, 1) := by decide +kernel
theorem dX4_helper_1 : decode cX4_helper 1 = .ok (.aload_n 0, 1) := by decide +kernel
theorem dX4_helper_2 : decode cX4_helper 2 = .ok (.iload_n 1, 1) := by decide +kernel
theorem dX4_helper_3 : decode cX4_helper 3 = .ok (.invokevirtual 96, 3) := by decide +kernel
theorem dX4_helper_6 : decode cX4_helper 6 = .ok (.ifCond .eq 14, 3) := by decide +kernel
theorem dX4_helper_9 : decode cX4_helper 9 = .ok (.iload_n 2, 1) := by decide +kernel
theorem dX4_helper_10 : decode cX4_helper 10 = .ok (.invokestatic 86, 3) := by decide +kernel
theorem dX4_helper_13 : decode cX4_helper 13 = .ok (.ifCond .eq 7, 3) := by decide +kernel
theorem dX4_helper_16 : decode cX4_helper 16 = .ok (.iconst 0, 1) := by decide +kernel
theorem dX4_helper_17 : decode cX4_helper 17 = .ok (.goto 4, 3) := by decide +kernel
theorem dX4_helper_20 : decode cX4_helper 20 = .ok (.iconst 1, 1) := by decide +kernel
theorem dX4_helper_21 : decode cX4_helper 21 = .ok (.invokevirtual 90, 3) := by decide +kernel
theorem dX4_helper_24 : decode cX4_helper 24 = .ok (.ifCond .eq 12, 3) := by decide +kernel
theorem dX4_helper_27 : decode cX4_helper 27 = .ok (.aload_n 0, 1) := by decide +kernel
theorem dX4_helper_28 : decode cX4_helper 28 = .ok (.iload_n 1, 1) := by decide +kernel
theorem dX4_helper_29 : decode cX4_helper 29 = .ok (.iload_n 2, 1) := by decide +kernel
theorem dX4_helper_30 : decode cX4_helper 30 = .ok (.invokevirtual 134, 3) := by decide +kernel
theorem dX4_helper_33 : decode cX4_helper 33 = .ok (.goto 4, 3) := by decide +kernel
theorem dX4_helper_36 : decode cX4_helper 36 = .ok (.iconst 0, 1) := by decide +kernel
theorem dX4_helper_37 : decode cX4_helper 37 = .ok (.ireturn, 1) := by decide +kernel
theorem dX4_ticksToEnd_0 : decode cX4_ticksToEnd 0 = .ok (.aload_n 0, 1) := by decide +kernel
theorem dX4_ticksToEnd_1 : decode cX4_ticksToEnd 1 = .ok (.aload_n 0, 1) := by decide +kernel
theorem dX4_ticksToEnd_2 : decode cX4_ticksToEnd 2 = .ok (.iload_n 1, 1) := by decide +kernel
theorem dX4_ticksToEnd_3 : decode cX4_ticksToEnd 3 = .ok (.invokevirtual 96, 3) := by decide +kernel
theorem dX4_ticksToEnd_6 : decode cX4_ticksToEnd 6 = .ok (.ifCond .eq 14, 3) := by decide +kernel
theorem dX4_ticksToEnd_9 : decode cX4_ticksToEnd 9 = .ok (.iload_n 2, 1) := by decide +kernel
theorem dX4_ticksToEnd_10 : decode cX4_ticksToEnd 10 = .ok (.invokestatic 86, 3) := by decide +kernel
theorem dX4_ticksToEnd_13 : decode cX4_ticksToEnd 13 = .ok (.ifCond .eq 7, 3) := by decide +kernel
theorem dX4_ticksToEnd_16 : decode cX4_ticksToEnd 16 = .ok (.iconst 0, 1) := by decide +kernel
theorem dX4_ticksToEnd_17 : decode cX4_ticksToEnd 17 = .ok (.goto 4, 3) := by decide +kernel
theorem dX4_ticksToEnd_20 : decode cX4_ticksToEnd 20 = .ok (.iconst 1, 1) := by decide +kernel
theorem dX4_ticksToEnd_21 : decode cX4_ticksToEnd 21 = .ok (.invokevirtual 90, 3) := by decide +kernel
theorem dX4_ticksToEnd_24 : decode cX4_ticksToEnd 24 = .ok (.ifCond .ne 5, 3) := by decide +kernel
theorem dX4_ticksToEnd_27 : decode cX4_ticksToEnd 27 = .ok (.iconst 0, 1) := by decide +kernel
theorem dX4_ticksToEnd_28 : decode cX4_ticksToEnd 28 = .ok (.ireturn, 1) := by decide +kernel
theorem dX4_ticksToEnd_29 : decode cX4_ticksToEnd 29 = .ok (.aload_n 0, 1) := by decide +kernel
theorem dX4_ticksToEnd_30 : decode cX4_ticksToEnd 30 = .ok (.iconst 0, 1) := by decide +kernel
theorem dX4_ticksToEnd_31 : decode cX4_ticksToEnd 31 = .ok (.iload_n 1, 1) := by decide +kernel
theorem dX4_ticksToEnd_32 : decode cX4_ticksToEnd 32 = .ok (.iload_n 2, 1) := by decide +kernel
theorem dX4_ticksToEnd_33 : decode cX4_ticksToEnd 33 = .ok (.invokevirtual 28, 3) := by decide +kernel
theorem dX4_ticksToEnd_36 : decode cX4_ticksToEnd 36 = .ok (.ifCond .ne 5, 3) := by decide +kernel
theorem dX4_ticksToEnd_39 : decode cX4_ticksToEnd 39 = .ok (.iconst (-1), 1) := by decide +kernel
theorem dX4_ticksToEnd_40 : decode cX4_ticksToEnd 40 = .ok (.ireturn, 1) := by decide +kernel
theorem dX4_ticksToEnd_41 : decode cX4_ticksToEnd 41 = .ok (.aload_n 0, 1) := by decide +kernel
theorem dX4_ticksToEnd_42 : decode cX4_ticksToEnd 42 = .ok (.iconst 0, 1) := by decide +kernel
theorem dX4_ticksToEnd_43 : decode cX4_ticksToEnd 43 = .ok (.bipush 7, 2) := by decide +kernel
theorem dX4_ticksToEnd_45 : decode cX4_ticksToEnd 45 = .ok (.invokevirtual 79, 3) := by decide +kernel
theorem dX4_ticksToEnd_48 : decode cX4_ticksToEnd 48 = .ok (.iconst 0, 1) := by decide +kernel
theorem dX4_ticksToEnd_49 : decode cX4_ticksToEnd 49 = .ok (.istore_n 3, 1) := by decide +kernel
theorem dX4_ticksToEnd_50 : decode cX4_ticksToEnd 50 = .ok (.iload_n 3, 1) := by decide +kernel
theorem dX4_ticksToEnd_51 : decode cX4_ticksToEnd 51 = .ok (.bipush 40, 2) := by decide +kernel
theorem dX4_ticksToEnd_53 : decode cX4_ticksToEnd 53 = .ok (.if_icmp .gt 31, 3) := by decide +kernel
theorem dX4_ticksToEnd_56 : decode cX4_ticksToEnd 56 = .ok (.aload_n 0, 1) := by decide +kernel
theorem dX4_ticksToEnd_57 : decode cX4_ticksToEnd 57 = .ok (.sipush 1974, 3) := by decide +kernel
theorem dX4_ticksToEnd_60 : decode cX4_ticksToEnd 60 = .ok (.iload_n 1, 1) := by decide +kernel
theorem dX4_ticksToEnd_61 : decode cX4_ticksToEnd 61 = .ok (.iload_n 2, 1) := by decide +kernel
theorem dX4_ticksToEnd_62 : decode cX4_ticksToEnd 62 = .ok (.invokevirtual 35, 3) := by decide +kernel
theorem dX4_ticksToEnd_65 : decode cX4_ticksToEnd 65 = .ok (.iconst 2, 1) := by decide +kernel
theorem dX4_ticksToEnd_66 : decode cX4_ticksToEnd 66 = .ok (.if_icmp .lt 5, 3) := by decide +kernel
theorem dX4_ticksToEnd_69 : decode cX4_ticksToEnd 69 = .ok (.iload_n 3, 1) := by decide +kernel
theorem dX4_ticksToEnd_70 : decode cX4_ticksToEnd 70 = .ok (.ireturn, 1) := by decide +kernel
theorem dX4_ticksToEnd_71 : decode cX4_ticksToEnd 71 = .ok (.aload_n 0, 1) := by decide +kernel
theorem dX4_ticksToEnd_72 : decode cX4_ticksToEnd 72 = .ok (.sipush 1974, 3) := by decide +kernel
theorem dX4_ticksToEnd_75 : decode cX4_ticksToEnd 75 = .ok (.invokevirtual 72, 3) := by decide +kernel
theorem dX4_ticksToEnd_78 : decode cX4_ticksToEnd 78 = .ok (.iinc 3 1, 3) := by decide +kernel
theorem dX4_ticksToEnd_81 : decode cX4_ticksToEnd 81 = .ok (.goto (-31), 3) := by decide +kernel
theorem dX4_ticksToEnd_84 : decode cX4_ticksToEnd 84 = .ok (.iconst (-1), 1) := by decide +kernel
theorem dX4_ticksToEnd_85 : decode cX4_ticksToEnd 85 = .ok (.ireturn, 1) := by decide +kernel
theorem dX4_append_0 : decode cX4_append 0 = .ok (.aload_n 0, 1) := by decide +kernel
theorem dX4_append_1 : decode cX4_append 1 = .ok (.iload_n 1, 1) := by decide +kernel
theorem dX4_append_2 : decode cX4_append 2 = .ok (.bipush 33, 2) := by decide +kernel
theorem dX4_append_4 : decode cX4_append 4 = .ok (.bipush 126, 2) := by decide +kernel
theorem dX4_append_6 : decode cX4_append 6 = .ok (.invokestatic 20, 3) := by decide +kernel
theorem dX4_append_9 : decode cX4_append 9 = .ok (.ifCond .ne 7, 3) := by decide +kernel
theorem dX4_append_12 : decode cX4_append 12 = .ok (.iconst 1, 1) := by decide +kernel
theorem dX4_append_13 : decode cX4_append 13 = .ok (.goto 17, 3) := by decide +kernel
theorem dX4_append_16 : decode cX4_append 16 = .ok (.aload_n 0, 1) := by decide +kernel
theorem dX4_append_17 : decode cX4_append 17 = .ok (.getfield 140, 3) := by decide +kernel
theorem dX4_append_20 : decode cX4_append 20 = .ok (.bipush 60, 2) := by decide +kernel
theorem dX4_append_22 : decode cX4_append 22 = .ok (.if_icmp .ne 7, 3) := by decide +kernel
theorem dX4_append_25 : decode cX4_append 25 = .ok (.iconst 2, 1) := by decide +kernel
theorem dX4_append_26 : decode cX4_append 26 = .ok (.goto 4, 3) := by decide +kernel
theorem dX4_append_29 : decode cX4_append 29 = .ok (.iconst 0, 1) := by decide +kernel
theorem dX4_append_30 : decode cX4_append 30 = .ok (.invokevirtual 90, 3) := by decide +kernel
theorem dX4_append_33 : decode cX4_append 33 = .ok (.ifCond .ne 5, 3) := by decide +kernel
theorem dX4_append_36 : decode cX4_append 36 = .ok (.iconst 0, 1) := by decide +kernel
theorem dX4_append_37 : decode cX4_append 37 = .ok (.ireturn, 1) := by decide +kernel
theorem dX4_append_38 : decode cX4_append 38 = .ok (.aload_n 0, 1) := by decide +kernel
theorem dX4_append_39 : decode cX4_append 39 = .ok (.getfield 13, 3) := by decide +kernel
theorem dX4_append_42 : decode cX4_append 42 = .ok (.aload_n 0, 1) := by decide +kernel
theorem dX4_append_43 : decode cX4_append 43 = .ok (.getfield 140, 3) := by decide +kernel
theorem dX4_append_46 : decode cX4_append 46 = .ok (.iload_n 1, 1) := by decide +kernel
theorem dX4_append_47 : decode cX4_append 47 = .ok (.iastore, 1) := by decide +kernel
theorem dX4_append_48 : decode cX4_append 48 = .ok (.aload_n 0, 1) := by decide +kernel
theorem dX4_append_49 : decode cX4_append 49 = .ok (.dup, 1) := by decide +kernel
theorem dX4_append_50 : decode cX4_append 50 = .ok (.getfield 140, 3) := by decide +kernel
theorem dX4_append_53 : decode cX4_append 53 = .ok (.iconst 1, 1) := by decide +kernel
theorem dX4_append_54 : decode cX4_append 54 = .ok (.iadd, 1) := by decide +kernel
theorem dX4_append_55 : decode cX4_append 55 = .ok (.putfield 140, 3) := by decide +kernel
theorem dX4_append_58 : decode cX4_append 58 = .ok (.aload_n 0, 1) := by decide +kernel
theorem dX4_append_59 : decode cX4_append 59 = .ok (.getfield 140, 3) := by decide +kernel
theorem dX4_append_62 : decode cX4_append 62 = .ok (.ireturn, 1) := by decide +kernel
theorem dX4_clearText_0 : decode cX4_clearText 0 = .ok (.aload_n 0, 1) := by decide +kernel
theorem dX4_clearText_1 : decode cX4_clearText 1 = .ok (.iconst 0, 1) := by decide +kernel
theorem dX4_clearText_2 : decode cX4_clearText 2 = .ok (.putfield 16, 3) := by decide +kernel
theorem dX4_clearText_5 : decode cX4_clearText 5 = .ok (.aload_n 0, 1) := by decide +kernel
theorem dX4_clearText_6 : decode cX4_clearText 6 = .ok (.getfield 140, 3) := by decide +kernel
theorem dX4_clearText_9 : decode cX4_clearText 9 = .ok (.istore_n 1, 1) := by decide +kernel
theorem dX4_clearText_10 : decode cX4_clearText 10 = .ok (.aload_n 0, 1) := by decide +kernel
theorem dX4_clearText_11 : decode cX4_clearText 11 = .ok (.iconst 0, 1) := by decide +kernel
theorem dX4_clearText_12 : decode cX4_clearText 12 = .ok (.putfield 140, 3) := by decide +kernel
theorem dX4_clearText_15 : decode cX4_clearText 15 = .ok (.iload_n 1, 1) := by decide +kernel
theorem dX4_clearText_16 : decode cX4_clearText 16 = .ok (.ireturn, 1) := by decide +kernel
theorem dX4_sign_0 : decode cX4_sign 0 = .ok (.aload_n 0, 1) := by decide +kernel
theorem dX4_sign_1 : decode cX4_sign 1 = .ok (.getfield 143, 3) := by decide +kernel
theorem dX4_sign_4 : decode cX4_sign 4 = .ok (.aload_n 0, 1) := by decide +kernel
theorem dX4_sign_5 : decode cX4_sign 5 = .ok (.getfield 140, 3) := by decide +kernel
theorem dX4_sign_8 : decode cX4_sign 8 = .ok (.if_icmp .ge 15, 3) := by decide +kernel
theorem dX4_sign_11 : decode cX4_sign 11 = .ok (.aload_n 0, 1) := by decide +kernel
theorem dX4_sign_12 : decode cX4_sign 12 = .ok (.getfield 13, 3) := by decide +kernel
theorem dX4_sign_15 : decode cX4_sign 15 = .ok (.aload_n 0, 1) := by decide +kernel
theorem dX4_sign_16 : decode cX4_sign 16 = .ok (.getfield 143, 3) := by decide +kernel
theorem dX4_sign_19 : decode cX4_sign 19 = .ok (.iaload, 1) := by decide +kernel
theorem dX4_sign_20 : decode cX4_sign 20 = .ok (.goto 4, 3) := by decide +kernel
theorem dX4_sign_23 : decode cX4_sign 23 = .ok (.iconst 0, 1) := by decide +kernel
theorem dX4_sign_24 : decode cX4_sign 24 = .ok (.ireturn, 1) := by decide +kernel
theorem dX4_takes_0 : decode cX4_takes 0 = .ok (.aload_n 0, 1) := by decide +kernel
theorem dX4_takes_1 : decode cX4_takes 1 = .ok (.invokevirtual 146, 3) := by decide +kernel
theorem dX4_takes_4 : decode cX4_takes 4 = .ok (.iload_n 1, 1) := by decide +kernel
theorem dX4_takes_5 : decode cX4_takes 5 = .ok (.if_icmp .ne 7, 3) := by decide +kernel
theorem dX4_takes_8 : decode cX4_takes 8 = .ok (.iconst 1, 1) := by decide +kernel
theorem dX4_takes_9 : decode cX4_takes 9 = .ok (.goto 4, 3) := by decide +kernel
theorem dX4_takes_12 : decode cX4_takes 12 = .ok (.iconst 0, 1) := by decide +kernel
theorem dX4_takes_13 : decode cX4_takes 13 = .ok (.istore_n 2, 1) := by decide +kernel
theorem dX4_takes_14 : decode cX4_takes 14 = .ok (.aload_n 0, 1) := by decide +kernel
theorem dX4_takes_15 : decode cX4_takes 15 = .ok (.dup, 1) := by decide +kernel
theorem dX4_takes_16 : decode cX4_takes 16 = .ok (.getfield 143, 3) := by decide +kernel
theorem dX4_takes_19 : decode cX4_takes 19 = .ok (.iload_n 2, 1) := by decide +kernel
theorem dX4_takes_20 : decode cX4_takes 20 = .ok (.ifCond .eq 7, 3) := by decide +kernel
theorem dX4_takes_23 : decode cX4_takes 23 = .ok (.iconst 1, 1) := by decide +kernel
theorem dX4_takes_24 : decode cX4_takes 24 = .ok (.goto 4, 3) := by decide +kernel
theorem dX4_takes_27 : decode cX4_takes 27 = .ok (.iconst 0, 1) := by decide +kernel
theorem dX4_takes_28 : decode cX4_takes 28 = .ok (.iadd, 1) := by decide +kernel
theorem dX4_takes_29 : decode cX4_takes 29 = .ok (.putfield 143, 3) := by decide +kernel
theorem dX4_takes_32 : decode cX4_takes 32 = .ok (.iload_n 2, 1) := by decide +kernel
theorem dX4_takes_33 : decode cX4_takes 33 = .ok (.ireturn, 1) := by decide +kernel
theorem dX4_digit_0 : decode cX4_digit 0 = .ok (.aload_n 0, 1) := by decide +kernel
theorem dX4_digit_1 : decode cX4_digit 1 = .ok (.invokevirtual 146, 3) := by decide +kernel
theorem dX4_digit_4 : decode cX4_digit 4 = .ok (.bipush 48, 2) := by decide +kernel
theorem dX4_digit_6 : decode cX4_digit 6 = .ok (.bipush 48, 2) := by decide +kernel
theorem dX4_digit_8 : decode cX4_digit 8 = .ok (.iload_n 1, 1) := by decide +kernel
theorem dX4_digit_9 : decode cX4_digit 9 = .ok (.iadd, 1) := by decide +kernel
theorem dX4_digit_10 : decode cX4_digit 10 = .ok (.invokestatic 20, 3) := by decide +kernel
theorem dX4_digit_13 : decode cX4_digit 13 = .ok (.ifCond .eq 13, 3) := by decide +kernel
theorem dX4_digit_16 : decode cX4_digit 16 = .ok (.aload_n 0, 1) := by decide +kernel
theorem dX4_digit_17 : decode cX4_digit 17 = .ok (.invokevirtual 146, 3) := by decide +kernel
theorem dX4_digit_20 : decode cX4_digit 20 = .ok (.bipush 48, 2) := by decide +kernel
theorem dX4_digit_22 : decode cX4_digit 22 = .ok (.isub, 1) := by decide +kernel
theorem dX4_digit_23 : decode cX4_digit 23 = .ok (.goto 4, 3) := by decide +kernel
theorem dX4_digit_26 : decode cX4_digit 26 = .ok (.iconst (-1), 1) := by decide +kernel
theorem dX4_digit_27 : decode cX4_digit 27 = .ok (.istore_n 2, 1) := by decide +kernel
theorem dX4_digit_28 : decode cX4_digit 28 = .ok (.aload_n 0, 1) := by decide +kernel
theorem dX4_digit_29 : decode cX4_digit 29 = .ok (.dup, 1) := by decide +kernel
theorem dX4_digit_30 : decode cX4_digit 30 = .ok (.getfield 143, 3) := by decide +kernel
theorem dX4_digit_33 : decode cX4_digit 33 = .ok (.iload_n 2, 1) := by decide +kernel
theorem dX4_digit_34 : decode cX4_digit 34 = .ok (.iconst (-1), 1) := by decide +kernel
theorem dX4_digit_35 : decode cX4_digit 35 = .ok (.if_icmp .ne 7, 3) := by decide +kernel
theorem dX4_digit_38 : decode cX4_digit 38 = .ok (.iconst 0, 1) := by decide +kernel
theorem dX4_digit_39 : decode cX4_digit 39 = .ok (.goto 4, 3) := by decide +kernel
theorem dX4_digit_42 : decode cX4_digit 42 = .ok (.iconst 1, 1) := by decide +kernel
theorem dX4_digit_43 : decode cX4_digit 43 = .ok (.iadd, 1) := by decide +kernel
theorem dX4_digit_44 : decode cX4_digit 44 = .ok (.putfield 143, 3) := by decide +kernel
theorem dX4_digit_47 : decode cX4_digit 47 = .ok (.iload_n 2, 1) := by decide +kernel
theorem dX4_digit_48 : decode cX4_digit 48 = .ok (.ireturn, 1) := by decide +kernel
theorem dX4_readsTicks_0 : decode cX4_readsTicks 0 = .ok (.aload_n 0, 1) := by decide +kernel
theorem dX4_readsTicks_1 : decode cX4_readsTicks 1 = .ok (.invokevirtual 146, 3) := by decide +kernel
theorem dX4_readsTicks_4 : decode cX4_readsTicks 4 = .ok (.bipush 49, 2) := by decide +kernel
theorem dX4_readsTicks_6 : decode cX4_readsTicks 6 = .ok (.bipush 57, 2) := by decide +kernel
theorem dX4_readsTicks_8 : decode cX4_readsTicks 8 = .ok (.invokestatic 20, 3) := by decide +kernel
theorem dX4_readsTicks_11 : decode cX4_readsTicks 11 = .ok (.ifCond .ne 5, 3) := by decide +kernel
theorem dX4_readsTicks_14 : decode cX4_readsTicks 14 = .ok (.iconst 0, 1) := by decide +kernel
theorem dX4_readsTicks_15 : decode cX4_readsTicks 15 = .ok (.ireturn, 1) := by decide +kernel
theorem dX4_readsTicks_16 : decode cX4_readsTicks 16 = .ok (.aload_n 0, 1) := by decide +kernel
theorem dX4_readsTicks_17 : decode cX4_readsTicks 17 = .ok (.aload_n 0, 1) := by decide +kernel
theorem dX4_readsTicks_18 : decode cX4_readsTicks 18 = .ok (.bipush 9, 2) := by decide +kernel
theorem dX4_readsTicks_20 : decode cX4_readsTicks 20 = .ok (.invokevirtual 149, 3) := by decide +kernel
theorem dX4_readsTicks_23 : decode cX4_readsTicks 23 = .ok (.putfield 152, 3) := by decide +kernel
theorem dX4_readsTicks_26 : decode cX4_readsTicks 26 = .ok (.aload_n 0, 1) := by decide +kernel
theorem dX4_readsTicks_27 : decode cX4_readsTicks 27 = .ok (.invokevirtual 146, 3) := by decide +kernel
theorem dX4_readsTicks_30 : decode cX4_readsTicks 30 = .ok (.bipush 48, 2) := by decide +kernel
theorem dX4_readsTicks_32 : decode cX4_readsTicks 32 = .ok (.bipush 57, 2) := by decide +kernel
theorem dX4_readsTicks_34 : decode cX4_readsTicks 34 = .ok (.invokestatic 20, 3) := by decide +kernel
theorem dX4_readsTicks_37 : decode cX4_readsTicks 37 = .ok (.ifCond .eq 41, 3) := by decide +kernel
theorem dX4_readsTicks_40 : decode cX4_readsTicks 40 = .ok (.bipush 10, 2) := by decide +kernel
theorem dX4_readsTicks_42 : decode cX4_readsTicks 42 = .ok (.aload_n 0, 1) := by decide +kernel
theorem dX4_readsTicks_43 : decode cX4_readsTicks 43 = .ok (.getfield 152, 3) := by decide +kernel
theorem dX4_readsTicks_46 : decode cX4_readsTicks 46 = .ok (.imul, 1) := by decide +kernel
theorem dX4_readsTicks_47 : decode cX4_readsTicks 47 = .ok (.aload_n 0, 1) := by decide +kernel
theorem dX4_readsTicks_48 : decode cX4_readsTicks 48 = .ok (.invokevirtual 146, 3) := by decide +kernel
theorem dX4_readsTicks_51 : decode cX4_readsTicks 51 = .ok (.iadd, 1) := by decide +kernel
theorem dX4_readsTicks_52 : decode cX4_readsTicks 52 = .ok (.bipush 48, 2) := by decide +kernel
theorem dX4_readsTicks_54 : decode cX4_readsTicks 54 = .ok (.isub, 1) := by decide +kernel
theorem dX4_readsTicks_55 : decode cX4_readsTicks 55 = .ok (.bipush 20, 2) := by decide +kernel
theorem dX4_readsTicks_57 : decode cX4_readsTicks 57 = .ok (.if_icmp .gt 21, 3) := by decide +kernel
theorem dX4_readsTicks_60 : decode cX4_readsTicks 60 = .ok (.aload_n 0, 1) := by decide +kernel
theorem dX4_readsTicks_61 : decode cX4_readsTicks 61 = .ok (.bipush 10, 2) := by decide +kernel
theorem dX4_readsTicks_63 : decode cX4_readsTicks 63 = .ok (.aload_n 0, 1) := by decide +kernel
theorem dX4_readsTicks_64 : decode cX4_readsTicks 64 = .ok (.getfield 152, 3) := by decide +kernel
theorem dX4_readsTicks_67 : decode cX4_readsTicks 67 = .ok (.imul, 1) := by decide +kernel
theorem dX4_readsTicks_68 : decode cX4_readsTicks 68 = .ok (.aload_n 0, 1) := by decide +kernel
theorem dX4_readsTicks_69 : decode cX4_readsTicks 69 = .ok (.bipush 9, 2) := by decide +kernel
theorem dX4_readsTicks_71 : decode cX4_readsTicks 71 = .ok (.invokevirtual 149, 3) := by decide +kernel
theorem dX4_readsTicks_74 : decode cX4_readsTicks 74 = .ok (.iadd, 1) := by decide +kernel
theorem dX4_readsTicks_75 : decode cX4_readsTicks 75 = .ok (.putfield 152, 3) := by decide +kernel
theorem dX4_readsTicks_78 : decode cX4_readsTicks 78 = .ok (.iconst 1, 1) := by decide +kernel
theorem dX4_readsTicks_79 : decode cX4_readsTicks 79 = .ok (.ireturn, 1) := by decide +kernel
theorem dX4_readsAction_0 : decode cX4_readsAction 0 = .ok (.aload_n 0, 1) := by decide +kernel
theorem dX4_readsAction_1 : decode cX4_readsAction 1 = .ok (.aload_n 0, 1) := by decide +kernel
theorem dX4_readsAction_2 : decode cX4_readsAction 2 = .ok (.invokevirtual 146, 3) := by decide +kernel
theorem dX4_readsAction_5 : decode cX4_readsAction 5 = .ok (.putfield 155, 3) := by decide +kernel
theorem dX4_readsAction_8 : decode cX4_readsAction 8 = .ok (.aload_n 0, 1) := by decide +kernel
theorem dX4_readsAction_9 : decode cX4_readsAction 9 = .ok (.bipush 116, 2) := by decide +kernel
theorem dX4_readsAction_11 : decode cX4_readsAction 11 = .ok (.invokevirtual 158, 3) := by decide +kernel
theorem dX4_readsAction_14 : decode cX4_readsAction 14 = .ok (.ifCond .eq 8, 3) := by decide +kernel
theorem dX4_readsAction_17 : decode cX4_readsAction 17 = .ok (.aload_n 0, 1) := by decide +kernel
theorem dX4_readsAction_18 : decode cX4_readsAction 18 = .ok (.invokevirtual 161, 3) := by decide +kernel
theorem dX4_readsAction_21 : decode cX4_readsAction 21 = .ok (.ireturn, 1) := by decide +kernel
theorem dX4_readsAction_22 : decode cX4_readsAction 22 = .ok (.aload_n 0, 1) := by decide +kernel
theorem dX4_readsAction_23 : decode cX4_readsAction 23 = .ok (.bipush 120, 2) := by decide +kernel
theorem dX4_readsAction_25 : decode cX4_readsAction 25 = .ok (.invokevirtual 158, 3) := by decide +kernel
theorem dX4_readsAction_28 : decode cX4_readsAction 28 = .ok (.ifCond .ne 12, 3) := by decide +kernel
theorem dX4_readsAction_31 : decode cX4_readsAction 31 = .ok (.aload_n 0, 1) := by decide +kernel
theorem dX4_readsAction_32 : decode cX4_readsAction 32 = .ok (.bipush 117, 2) := by decide +kernel
theorem dX4_readsAction_34 : decode cX4_readsAction 34 = .ok (.invokevirtual 158, 3) := by decide +kernel
theorem dX4_readsAction_37 : decode cX4_readsAction 37 = .ok (.ifCond .eq 26, 3) := by decide +kernel
theorem dX4_readsAction_40 : decode cX4_readsAction 40 = .ok (.aload_n 0, 1) := by decide +kernel
theorem dX4_readsAction_41 : decode cX4_readsAction 41 = .ok (.aload_n 0, 1) := by decide +kernel
theorem dX4_readsAction_42 : decode cX4_readsAction 42 = .ok (.iconst 5, 1) := by decide +kernel
theorem dX4_readsAction_43 : decode cX4_readsAction 43 = .ok (.invokevirtual 149, 3) := by decide +kernel
theorem dX4_readsAction_46 : decode cX4_readsAction 46 = .ok (.putfield 152, 3) := by decide +kernel
theorem dX4_readsAction_49 : decode cX4_readsAction 49 = .ok (.aload_n 0, 1) := by decide +kernel
theorem dX4_readsAction_50 : decode cX4_readsAction 50 = .ok (.getfield 152, 3) := by decide +kernel
theorem dX4_readsAction_53 : decode cX4_readsAction 53 = .ok (.iconst (-1), 1) := by decide +kernel
theorem dX4_readsAction_54 : decode cX4_readsAction 54 = .ok (.if_icmp .eq 7, 3) := by decide +kernel
theorem dX4_readsAction_57 : decode cX4_readsAction 57 = .ok (.iconst 1, 1) := by decide +kernel
theorem dX4_readsAction_58 : decode cX4_readsAction 58 = .ok (.goto 4, 3) := by decide +kernel
theorem dX4_readsAction_61 : decode cX4_readsAction 61 = .ok (.iconst 0, 1) := by decide +kernel
theorem dX4_readsAction_62 : decode cX4_readsAction 62 = .ok (.ireturn, 1) := by decide +kernel
theorem dX4_readsAction_63 : decode cX4_readsAction 63 = .ok (.aload_n 0, 1) := by decide +kernel
theorem dX4_readsAction_64 : decode cX4_readsAction 64 = .ok (.bipush 121, 2) := by decide +kernel
theorem dX4_readsAction_66 : decode cX4_readsAction 66 = .ok (.invokevirtual 158, 3) := by decide +kernel
theorem dX4_readsAction_69 : decode cX4_readsAction 69 = .ok (.ifCond .ne 41, 3) := by decide +kernel
theorem dX4_readsAction_72 : decode cX4_readsAction 72 = .ok (.aload_n 0, 1) := by decide +kernel
theorem dX4_readsAction_73 : decode cX4_readsAction 73 = .ok (.bipush 110, 2) := by decide +kernel
theorem dX4_readsAction_75 : decode cX4_readsAction 75 = .ok (.invokevirtual 158, 3) := by decide +kernel
theorem dX4_readsAction_78 : decode cX4_readsAction 78 = .ok (.ifCond .ne 32, 3) := by decide +kernel
theorem dX4_readsAction_81 : decode cX4_readsAction 81 = .ok (.aload_n 0, 1) := by decide +kernel
theorem dX4_readsAction_82 : decode cX4_readsAction 82 = .ok (.bipush 100, 2) := by decide +kernel
theorem dX4_readsAction_84 : decode cX4_readsAction 84 = .ok (.invokevirtual 158, 3) := by decide +kernel
theorem dX4_readsAction_87 : decode cX4_readsAction 87 = .ok (.ifCond .ne 23, 3) := by decide +kernel
theorem dX4_readsAction_90 : decode cX4_readsAction 90 = .ok (.aload_n 0, 1) := by decide +kernel
theorem dX4_readsAction_91 : decode cX4_readsAction 91 = .ok (.bipush 103, 2) := by decide +kernel
theorem dX4_readsAction_93 : decode cX4_readsAction 93 = .ok (.invokevirtual 158, 3) := by decide +kernel
theorem dX4_readsAction_96 : decode cX4_readsAction 96 = .ok (.ifCond .ne 14, 3) := by decide +kernel
theorem dX4_readsAction_99 : decode cX4_readsAction 99 = .ok (.aload_n 0, 1) := by decide +kernel
theorem dX4_readsAction_100 : decode cX4_readsAction 100 = .ok (.bipush 97, 2) := by decide +kernel
theorem dX4_readsAction_102 : decode cX4_readsAction 102 = .ok (.invokevirtual 158, 3) := by decide +kernel
theorem dX4_readsAction_105 : decode cX4_readsAction 105 = .ok (.ifCond .ne 5, 3) := by decide +kernel
theorem dX4_readsAction_108 : decode cX4_readsAction 108 = .ok (.iconst 0, 1) := by decide +kernel
theorem dX4_readsAction_109 : decode cX4_readsAction 109 = .ok (.ireturn, 1) := by decide +kernel
theorem dX4_readsAction_110 : decode cX4_readsAction 110 = .ok (.aload_n 0, 1) := by decide +kernel
theorem dX4_readsAction_111 : decode cX4_readsAction 111 = .ok (.aload_n 0, 1) := by decide +kernel
theorem dX4_readsAction_112 : decode cX4_readsAction 112 = .ok (.bipush 7, 2) := by decide +kernel
theorem dX4_readsAction_114 : decode cX4_readsAction 114 = .ok (.invokevirtual 149, 3) := by decide +kernel
theorem dX4_readsAction_117 : decode cX4_readsAction 117 = .ok (.putfield 152, 3) := by decide +kernel
theorem dX4_readsAction_120 : decode cX4_readsAction 120 = .ok (.aload_n 0, 1) := by decide +kernel
theorem dX4_readsAction_121 : decode cX4_readsAction 121 = .ok (.getfield 152, 3) := by decide +kernel
theorem dX4_readsAction_124 : decode cX4_readsAction 124 = .ok (.iconst (-1), 1) := by decide +kernel
theorem dX4_readsAction_125 : decode cX4_readsAction 125 = .ok (.if_icmp .eq 12, 3) := by decide +kernel
theorem dX4_readsAction_128 : decode cX4_readsAction 128 = .ok (.aload_n 0, 1) := by decide +kernel
theorem dX4_readsAction_129 : decode cX4_readsAction 129 = .ok (.getfield 155, 3) := by decide +kernel
theorem dX4_readsAction_132 : decode cX4_readsAction 132 = .ok (.bipush 100, 2) := by decide +kernel
theorem dX4_readsAction_134 : decode cX4_readsAction 134 = .ok (.if_icmp .ne 17, 3) := by decide +kernel
theorem dX4_readsAction_137 : decode cX4_readsAction 137 = .ok (.aload_n 0, 1) := by decide +kernel
theorem dX4_readsAction_138 : decode cX4_readsAction 138 = .ok (.getfield 152, 3) := by decide +kernel
theorem dX4_readsAction_141 : decode cX4_readsAction 141 = .ok (.iconst (-1), 1) := by decide +kernel
theorem dX4_readsAction_142 : decode cX4_readsAction 142 = .ok (.if_icmp .eq 7, 3) := by decide +kernel
theorem dX4_readsAction_145 : decode cX4_readsAction 145 = .ok (.iconst 1, 1) := by decide +kernel
theorem dX4_readsAction_146 : decode cX4_readsAction 146 = .ok (.goto 4, 3) := by decide +kernel
theorem dX4_readsAction_149 : decode cX4_readsAction 149 = .ok (.iconst 0, 1) := by decide +kernel
theorem dX4_readsAction_150 : decode cX4_readsAction 150 = .ok (.ireturn, 1) := by decide +kernel
theorem dX4_readsAction_151 : decode cX4_readsAction 151 = .ok (.aload_n 0, 1) := by decide +kernel
theorem dX4_readsAction_152 : decode cX4_readsAction 152 = .ok (.aload_n 0, 1) := by decide +kernel
theorem dX4_readsAction_153 : decode cX4_readsAction 153 = .ok (.iconst 5, 1) := by decide +kernel
theorem dX4_readsAction_154 : decode cX4_readsAction 154 = .ok (.invokevirtual 149, 3) := by decide +kernel
theorem dX4_readsAction_157 : decode cX4_readsAction 157 = .ok (.putfield 165, 3) := by decide +kernel
theorem dX4_readsAction_160 : decode cX4_readsAction 160 = .ok (.aload_n 0, 1) := by decide +kernel
theorem dX4_readsAction_161 : decode cX4_readsAction 161 = .ok (.getfield 165, 3) := by decide +kernel
theorem dX4_readsAction_164 : decode cX4_readsAction 164 = .ok (.iconst (-1), 1) := by decide +kernel
theorem dX4_readsAction_165 : decode cX4_readsAction 165 = .ok (.if_icmp .eq 12, 3) := by decide +kernel
theorem dX4_readsAction_168 : decode cX4_readsAction 168 = .ok (.aload_n 0, 1) := by decide +kernel
theorem dX4_readsAction_169 : decode cX4_readsAction 169 = .ok (.getfield 155, 3) := by decide +kernel
theorem dX4_readsAction_172 : decode cX4_readsAction 172 = .ok (.bipush 97, 2) := by decide +kernel
theorem dX4_readsAction_174 : decode cX4_readsAction 174 = .ok (.if_icmp .eq 17, 3) := by decide +kernel
theorem dX4_readsAction_177 : decode cX4_readsAction 177 = .ok (.aload_n 0, 1) := by decide +kernel
theorem dX4_readsAction_178 : decode cX4_readsAction 178 = .ok (.getfield 165, 3) := by decide +kernel
theorem dX4_readsAction_181 : decode cX4_readsAction 181 = .ok (.iconst (-1), 1) := by decide +kernel
theorem dX4_readsAction_182 : decode cX4_readsAction 182 = .ok (.if_icmp .eq 7, 3) := by decide +kernel
theorem dX4_readsAction_185 : decode cX4_readsAction 185 = .ok (.iconst 1, 1) := by decide +kernel
theorem dX4_readsAction_186 : decode cX4_readsAction 186 = .ok (.goto 4, 3) := by decide +kernel
theorem dX4_readsAction_189 : decode cX4_readsAction 189 = .ok (.iconst 0, 1) := by decide +kernel
theorem dX4_readsAction_190 : decode cX4_readsAction 190 = .ok (.ireturn, 1) := by decide +kernel
theorem dX4_readsAction_191 : decode cX4_readsAction 191 = .ok (.aload_n 0, 1) := by decide +kernel
theorem dX4_readsAction_192 : decode cX4_readsAction 192 = .ok (.aload_n 0, 1) := by decide +kernel
theorem dX4_readsAction_193 : decode cX4_readsAction 193 = .ok (.invokevirtual 146, 3) := by decide +kernel
theorem dX4_readsAction_196 : decode cX4_readsAction 196 = .ok (.bipush 48, 2) := by decide +kernel
theorem dX4_readsAction_198 : decode cX4_readsAction 198 = .ok (.isub, 1) := by decide +kernel
theorem dX4_readsAction_199 : decode cX4_readsAction 199 = .ok (.aload_n 0, 1) := by decide +kernel
theorem dX4_readsAction_200 : decode cX4_readsAction 200 = .ok (.getfield 165, 3) := by decide +kernel
theorem dX4_readsAction_203 : decode cX4_readsAction 203 = .ok (.if_icmp .ne 7, 3) := by decide +kernel
theorem dX4_readsAction_206 : decode cX4_readsAction 206 = .ok (.iconst (-1), 1) := by decide +kernel
theorem dX4_readsAction_207 : decode cX4_readsAction 207 = .ok (.goto 8, 3) := by decide +kernel
theorem dX4_readsAction_210 : decode cX4_readsAction 210 = .ok (.aload_n 0, 1) := by decide +kernel
theorem dX4_readsAction_211 : decode cX4_readsAction 211 = .ok (.iconst 5, 1) := by decide +kernel
theorem dX4_readsAction_212 : decode cX4_readsAction 212 = .ok (.invokevirtual 149, 3) := by decide +kernel
theorem dX4_readsAction_215 : decode cX4_readsAction 215 = .ok (.putfield 168, 3) := by decide +kernel
theorem dX4_readsAction_218 : decode cX4_readsAction 218 = .ok (.aload_n 0, 1) := by decide +kernel
theorem dX4_readsAction_219 : decode cX4_readsAction 219 = .ok (.getfield 168, 3) := by decide +kernel
theorem dX4_readsAction_222 : decode cX4_readsAction 222 = .ok (.iconst (-1), 1) := by decide +kernel
theorem dX4_readsAction_223 : decode cX4_readsAction 223 = .ok (.if_icmp .eq 7, 3) := by decide +kernel
theorem dX4_readsAction_226 : decode cX4_readsAction 226 = .ok (.iconst 1, 1) := by decide +kernel
theorem dX4_readsAction_227 : decode cX4_readsAction 227 = .ok (.goto 4, 3) := by decide +kernel
theorem dX4_readsAction_230 : decode cX4_readsAction 230 = .ok (.iconst 0, 1) := by decide +kernel
theorem dX4_readsAction_231 : decode cX4_readsAction 231 = .ok (.ireturn, 1) := by decide +kernel
theorem dX4_areActions_0 : decode cX4_areActions 0 = .ok (.aload_n 0, 1) := by decide +kernel
theorem dX4_areActions_1 : decode cX4_areActions 1 = .ok (.iconst 0, 1) := by decide +kernel
theorem dX4_areActions_2 : decode cX4_areActions 2 = .ok (.putfield 143, 3) := by decide +kernel
theorem dX4_areActions_5 : decode cX4_areActions 5 = .ok (.aload_n 0, 1) := by decide +kernel
theorem dX4_areActions_6 : decode cX4_areActions 6 = .ok (.invokevirtual 171, 3) := by decide +kernel
theorem dX4_areActions_9 : decode cX4_areActions 9 = .ok (.ifCond .eq 27, 3) := by decide +kernel
theorem dX4_areActions_12 : decode cX4_areActions 12 = .ok (.aload_n 0, 1) := by decide +kernel
theorem dX4_areActions_13 : decode cX4_areActions 13 = .ok (.getfield 143, 3) := by decide +kernel
theorem dX4_areActions_16 : decode cX4_areActions 16 = .ok (.aload_n 0, 1) := by decide +kernel
theorem dX4_areActions_17 : decode cX4_areActions 17 = .ok (.getfield 140, 3) := by decide +kernel
theorem dX4_areActions_20 : decode cX4_areActions 20 = .ok (.if_icmp .ne 5, 3) := by decide +kernel
theorem dX4_areActions_23 : decode cX4_areActions 23 = .ok (.iconst 1, 1) := by decide +kernel
theorem dX4_areActions_24 : decode cX4_areActions 24 = .ok (.ireturn, 1) := by decide +kernel
theorem dX4_areActions_25 : decode cX4_areActions 25 = .ok (.aload_n 0, 1) := by decide +kernel
theorem dX4_areActions_26 : decode cX4_areActions 26 = .ok (.bipush 59, 2) := by decide +kernel
theorem dX4_areActions_28 : decode cX4_areActions 28 = .ok (.invokevirtual 158, 3) := by decide +kernel
theorem dX4_areActions_31 : decode cX4_areActions 31 = .ok (.ifCond .ne (-26), 3) := by decide +kernel
theorem dX4_areActions_34 : decode cX4_areActions 34 = .ok (.iconst 0, 1) := by decide +kernel
theorem dX4_areActions_35 : decode cX4_areActions 35 = .ok (.ireturn, 1) := by decide +kernel
theorem dX4_areActions_36 : decode cX4_areActions 36 = .ok (.iconst 0, 1) := by decide +kernel
theorem dX4_areActions_37 : decode cX4_areActions 37 = .ok (.ireturn, 1) := by decide +kernel
theorem dX4_firstError_0 : decode cX4_firstError 0 = .ok (.aload_n 0, 1) := by decide +kernel
theorem dX4_firstError_1 : decode cX4_firstError 1 = .ok (.iconst 0, 1) := by decide +kernel
theorem dX4_firstError_2 : decode cX4_firstError 2 = .ok (.putfield 16, 3) := by decide +kernel
theorem dX4_firstError_5 : decode cX4_firstError 5 = .ok (.aload_n 0, 1) := by decide +kernel
theorem dX4_firstError_6 : decode cX4_firstError 6 = .ok (.invokevirtual 174, 3) := by decide +kernel
theorem dX4_firstError_9 : decode cX4_firstError 9 = .ok (.pop, 1) := by decide +kernel
theorem dX4_firstError_10 : decode cX4_firstError 10 = .ok (.aload_n 0, 1) := by decide +kernel
theorem dX4_firstError_11 : decode cX4_firstError 11 = .ok (.getfield 143, 3) := by decide +kernel
theorem dX4_firstError_14 : decode cX4_firstError 14 = .ok (.ireturn, 1) := by decide +kernel
theorem dX4_can_0 : decode cX4_can 0 = .ok (.aload_n 0, 1) := by decide +kernel
theorem dX4_can_1 : decode cX4_can 1 = .ok (.getfield 155, 3) := by decide +kernel
theorem dX4_can_4 : decode cX4_can 4 = .ok (.lookupswitch 186 #[(97, 150), (100, 90), (103, 118), (116, 60), (117, 72), (120, 62)], 60) := by decide +kernel
theorem dX4_can_64 : decode cX4_can 64 = .ok (.iconst 1, 1) := by decide +kernel
theorem dX4_can_65 : decode cX4_can 65 = .ok (.ireturn, 1) := by decide +kernel
theorem dX4_can_66 : decode cX4_can 66 = .ok (.aload_n 0, 1) := by decide +kernel
theorem dX4_can_67 : decode cX4_can 67 = .ok (.iconst 0, 1) := by decide +kernel
theorem dX4_can_68 : decode cX4_can 68 = .ok (.aload_n 0, 1) := by decide +kernel
theorem dX4_can_69 : decode cX4_can 69 = .ok (.getfield 152, 3) := by decide +kernel
theorem dX4_can_72 : decode cX4_can 72 = .ok (.invokevirtual 58, 3) := by decide +kernel
theorem dX4_can_75 : decode cX4_can 75 = .ok (.ireturn, 1) := by decide +kernel
theorem dX4_can_76 : decode cX4_can 76 = .ok (.aload_n 0, 1) := by decide +kernel
theorem dX4_can_77 : decode cX4_can 77 = .ok (.iconst 0, 1) := by decide +kernel
theorem dX4_can_78 : decode cX4_can 78 = .ok (.aload_n 0, 1) := by decide +kernel
theorem dX4_can_79 : decode cX4_can 79 = .ok (.getfield 152, 3) := by decide +kernel
theorem dX4_can_82 : decode cX4_can 82 = .ok (.invokevirtual 58, 3) := by decide +kernel
theorem dX4_can_85 : decode cX4_can 85 = .ok (.ifCond .ne 7, 3) := by decide +kernel
theorem dX4_can_88 : decode cX4_can 88 = .ok (.iconst 1, 1) := by decide +kernel
theorem dX4_can_89 : decode cX4_can 89 = .ok (.goto 4, 3) := by decide +kernel
theorem dX4_can_92 : decode cX4_can 92 = .ok (.iconst 0, 1) := by decide +kernel
theorem dX4_can_93 : decode cX4_can 93 = .ok (.ireturn, 1) := by decide +kernel
theorem dX4_can_94 : decode cX4_can 94 = .ok (.aload_n 0, 1) := by decide +kernel
theorem dX4_can_95 : decode cX4_can 95 = .ok (.aload_n 0, 1) := by decide +kernel
theorem dX4_can_96 : decode cX4_can 96 = .ok (.getfield 152, 3) := by decide +kernel
theorem dX4_can_99 : decode cX4_can 99 = .ok (.invokevirtual 96, 3) := by decide +kernel
theorem dX4_can_102 : decode cX4_can 102 = .ok (.ifCond .eq 18, 3) := by decide +kernel
theorem dX4_can_105 : decode cX4_can 105 = .ok (.aload_n 0, 1) := by decide +kernel
theorem dX4_can_106 : decode cX4_can 106 = .ok (.aload_n 0, 1) := by decide +kernel
theorem dX4_can_107 : decode cX4_can 107 = .ok (.getfield 152, 3) := by decide +kernel
theorem dX4_can_110 : decode cX4_can 110 = .ok (.invokevirtual 106, 3) := by decide +kernel
theorem dX4_can_113 : decode cX4_can 113 = .ok (.ifCond .eq 7, 3) := by decide +kernel
theorem dX4_can_116 : decode cX4_can 116 = .ok (.iconst 1, 1) := by decide +kernel
theorem dX4_can_117 : decode cX4_can 117 = .ok (.goto 4, 3) := by decide +kernel
theorem dX4_can_120 : decode cX4_can 120 = .ok (.iconst 0, 1) := by decide +kernel
theorem dX4_can_121 : decode cX4_can 121 = .ok (.ireturn, 1) := by decide +kernel
theorem dX4_can_122 : decode cX4_can 122 = .ok (.aload_n 0, 1) := by decide +kernel
theorem dX4_can_123 : decode cX4_can 123 = .ok (.aload_n 0, 1) := by decide +kernel
theorem dX4_can_124 : decode cX4_can 124 = .ok (.getfield 152, 3) := by decide +kernel
theorem dX4_can_127 : decode cX4_can 127 = .ok (.invokevirtual 96, 3) := by decide +kernel
theorem dX4_can_130 : decode cX4_can 130 = .ok (.ifCond .eq 22, 3) := by decide +kernel
theorem dX4_can_133 : decode cX4_can 133 = .ok (.aload_n 0, 1) := by decide +kernel
theorem dX4_can_134 : decode cX4_can 134 = .ok (.aload_n 0, 1) := by decide +kernel
theorem dX4_can_135 : decode cX4_can 135 = .ok (.getfield 152, 3) := by decide +kernel
theorem dX4_can_138 : decode cX4_can 138 = .ok (.aload_n 0, 1) := by decide +kernel
theorem dX4_can_139 : decode cX4_can 139 = .ok (.getfield 165, 3) := by decide +kernel
theorem dX4_can_142 : decode cX4_can 142 = .ok (.invokevirtual 112, 3) := by decide +kernel
theorem dX4_can_145 : decode cX4_can 145 = .ok (.ifCond .eq 7, 3) := by decide +kernel
theorem dX4_can_148 : decode cX4_can 148 = .ok (.iconst 1, 1) := by decide +kernel
theorem dX4_can_149 : decode cX4_can 149 = .ok (.goto 4, 3) := by decide +kernel
theorem dX4_can_152 : decode cX4_can 152 = .ok (.iconst 0, 1) := by decide +kernel
theorem dX4_can_153 : decode cX4_can 153 = .ok (.ireturn, 1) := by decide +kernel
theorem dX4_can_154 : decode cX4_can 154 = .ok (.aload_n 0, 1) := by decide +kernel
theorem dX4_can_155 : decode cX4_can 155 = .ok (.aload_n 0, 1) := by decide +kernel
theorem dX4_can_156 : decode cX4_can 156 = .ok (.getfield 152, 3) := by decide +kernel
theorem dX4_can_159 : decode cX4_can 159 = .ok (.invokevirtual 96, 3) := by decide +kernel
theorem dX4_can_162 : decode cX4_can 162 = .ok (.ifCond .eq 26, 3) := by decide +kernel
theorem dX4_can_165 : decode cX4_can 165 = .ok (.aload_n 0, 1) := by decide +kernel
theorem dX4_can_166 : decode cX4_can 166 = .ok (.aload_n 0, 1) := by decide +kernel
theorem dX4_can_167 : decode cX4_can 167 = .ok (.getfield 152, 3) := by decide +kernel
theorem dX4_can_170 : decode cX4_can 170 = .ok (.aload_n 0, 1) := by decide +kernel
theorem dX4_can_171 : decode cX4_can 171 = .ok (.getfield 165, 3) := by decide +kernel
theorem dX4_can_174 : decode cX4_can 174 = .ok (.aload_n 0, 1) := by decide +kernel
theorem dX4_can_175 : decode cX4_can 175 = .ok (.getfield 168, 3) := by decide +kernel
theorem dX4_can_178 : decode cX4_can 178 = .ok (.invokevirtual 115, 3) := by decide +kernel
theorem dX4_can_181 : decode cX4_can 181 = .ok (.ifCond .eq 7, 3) := by decide +kernel
theorem dX4_can_184 : decode cX4_can 184 = .ok (.iconst 1, 1) := by decide +kernel
theorem dX4_can_185 : decode cX4_can 185 = .ok (.goto 4, 3) := by decide +kernel
theorem dX4_can_188 : decode cX4_can 188 = .ok (.iconst 0, 1) := by decide +kernel
theorem dX4_can_189 : decode cX4_can 189 = .ok (.ireturn, 1) := by decide +kernel
theorem dX4_can_190 : decode cX4_can 190 = .ok (.aload_n 0, 1) := by decide +kernel
theorem dX4_can_191 : decode cX4_can 191 = .ok (.aload_n 0, 1) := by decide +kernel
theorem dX4_can_192 : decode cX4_can 192 = .ok (.getfield 152, 3) := by decide +kernel
theorem dX4_can_195 : decode cX4_can 195 = .ok (.invokevirtual 96, 3) := by decide +kernel
theorem dX4_can_198 : decode cX4_can 198 = .ok (.ifCond .eq 22, 3) := by decide +kernel
theorem dX4_can_201 : decode cX4_can 201 = .ok (.aload_n 0, 1) := by decide +kernel
theorem dX4_can_202 : decode cX4_can 202 = .ok (.aload_n 0, 1) := by decide +kernel
theorem dX4_can_203 : decode cX4_can 203 = .ok (.getfield 152, 3) := by decide +kernel
theorem dX4_can_206 : decode cX4_can 206 = .ok (.aload_n 0, 1) := by decide +kernel
theorem dX4_can_207 : decode cX4_can 207 = .ok (.getfield 165, 3) := by decide +kernel
theorem dX4_can_210 : decode cX4_can 210 = .ok (.invokevirtual 99, 3) := by decide +kernel
theorem dX4_can_213 : decode cX4_can 213 = .ok (.ifCond .eq 7, 3) := by decide +kernel
theorem dX4_can_216 : decode cX4_can 216 = .ok (.iconst 1, 1) := by decide +kernel
theorem dX4_can_217 : decode cX4_can 217 = .ok (.goto 4, 3) := by decide +kernel
theorem dX4_can_220 : decode cX4_can 220 = .ok (.iconst 0, 1) := by decide +kernel
theorem dX4_can_221 : decode cX4_can 221 = .ok (.ireturn, 1) := by decide +kernel
theorem dX4_does_0 : decode cX4_does 0 = .ok (.aload_n 0, 1) := by decide +kernel
theorem dX4_does_1 : decode cX4_does 1 = .ok (.getfield 155, 3) := by decide +kernel
theorem dX4_does_4 : decode cX4_does 4 = .ok (.lookupswitch 160 #[(97, 140), (100, 104), (103, 124), (116, 60), (117, 92), (120, 72)], 60) := by decide +kernel
theorem dX4_does_64 : decode cX4_does 64 = .ok (.aload_n 0, 1) := by decide +kernel
theorem dX4_does_65 : decode cX4_does 65 = .ok (.aload_n 0, 1) := by decide +kernel
theorem dX4_does_66 : decode cX4_does 66 = .ok (.getfield 152, 3) := by decide +kernel
theorem dX4_does_69 : decode cX4_does 69 = .ok (.invokevirtual 124, 3) := by decide +kernel
theorem dX4_does_72 : decode cX4_does 72 = .ok (.pop, 1) := by decide +kernel
theorem dX4_does_73 : decode cX4_does 73 = .ok (.goto 117, 3) := by decide +kernel
theorem dX4_does_76 : decode cX4_does 76 = .ok (.aload_n 0, 1) := by decide +kernel
theorem dX4_does_77 : decode cX4_does 77 = .ok (.getfield 7, 3) := by decide +kernel
theorem dX4_does_80 : decode cX4_does 80 = .ok (.iconst 0, 1) := by decide +kernel
theorem dX4_does_81 : decode cX4_does 81 = .ok (.dup2, 1) := by decide +kernel
theorem dX4_does_82 : decode cX4_does 82 = .ok (.iaload, 1) := by decide +kernel
theorem dX4_does_83 : decode cX4_does 83 = .ok (.iconst 1, 1) := by decide +kernel
theorem dX4_does_84 : decode cX4_does 84 = .ok (.aload_n 0, 1) := by decide +kernel
theorem dX4_does_85 : decode cX4_does 85 = .ok (.getfield 152, 3) := by decide +kernel
theorem dX4_does_88 : decode cX4_does 88 = .ok (.ishl, 1) := by decide +kernel
theorem dX4_does_89 : decode cX4_does 89 = .ok (.iconst (-1), 1) := by decide +kernel
theorem dX4_does_90 : decode cX4_does 90 = .ok (.ixor, 1) := by decide +kernel
theorem dX4_does_91 : decode cX4_does 91 = .ok (.iand, 1) := by decide +kernel
theorem dX4_does_92 : decode cX4_does 92 = .ok (.iastore, 1) := by decide +kernel
theorem dX4_does_93 : decode cX4_does 93 = .ok (.goto 97, 3) := by decide +kernel
theorem dX4_does_96 : decode cX4_does 96 = .ok (.aload_n 0, 1) := by decide +kernel
theorem dX4_does_97 : decode cX4_does 97 = .ok (.aload_n 0, 1) := by decide +kernel
theorem dX4_does_98 : decode cX4_does 98 = .ok (.getfield 152, 3) := by decide +kernel
theorem dX4_does_101 : decode cX4_does 101 = .ok (.invokevirtual 121, 3) := by decide +kernel
theorem dX4_does_104 : decode cX4_does 104 = .ok (.pop, 1) := by decide +kernel
theorem dX4_does_105 : decode cX4_does 105 = .ok (.goto 85, 3) := by decide +kernel
theorem dX4_does_108 : decode cX4_does 108 = .ok (.aload_n 0, 1) := by decide +kernel
theorem dX4_does_109 : decode cX4_does 109 = .ok (.iconst 0, 1) := by decide +kernel
theorem dX4_does_110 : decode cX4_does 110 = .ok (.aload_n 0, 1) := by decide +kernel
theorem dX4_does_111 : decode cX4_does 111 = .ok (.getfield 152, 3) := by decide +kernel
theorem dX4_does_114 : decode cX4_does 114 = .ok (.aload_n 0, 1) := by decide +kernel
theorem dX4_does_115 : decode cX4_does 115 = .ok (.aload_n 0, 1) := by decide +kernel
theorem dX4_does_116 : decode cX4_does 116 = .ok (.getfield 152, 3) := by decide +kernel
theorem dX4_does_119 : decode cX4_does 119 = .ok (.invokevirtual 109, 3) := by decide +kernel
theorem dX4_does_122 : decode cX4_does 122 = .ok (.invokevirtual 49, 3) := by decide +kernel
theorem dX4_does_125 : decode cX4_does 125 = .ok (.goto 65, 3) := by decide +kernel
theorem dX4_does_128 : decode cX4_does 128 = .ok (.aload_n 0, 1) := by decide +kernel
theorem dX4_does_129 : decode cX4_does 129 = .ok (.iconst 0, 1) := by decide +kernel
theorem dX4_does_130 : decode cX4_does 130 = .ok (.aload_n 0, 1) := by decide +kernel
theorem dX4_does_131 : decode cX4_does 131 = .ok (.getfield 152, 3) := by decide +kernel
theorem dX4_does_134 : decode cX4_does 134 = .ok (.aload_n 0, 1) := by decide +kernel
theorem dX4_does_135 : decode cX4_does 135 = .ok (.getfield 165, 3) := by decide +kernel
theorem dX4_does_138 : decode cX4_does 138 = .ok (.invokevirtual 52, 3) := by decide +kernel
theorem dX4_does_141 : decode cX4_does 141 = .ok (.goto 49, 3) := by decide +kernel
theorem dX4_does_144 : decode cX4_does 144 = .ok (.aload_n 0, 1) := by decide +kernel
theorem dX4_does_145 : decode cX4_does 145 = .ok (.iconst 0, 1) := by decide +kernel
theorem dX4_does_146 : decode cX4_does 146 = .ok (.aload_n 0, 1) := by decide +kernel
theorem dX4_does_147 : decode cX4_does 147 = .ok (.getfield 152, 3) := by decide +kernel
theorem dX4_does_150 : decode cX4_does 150 = .ok (.aload_n 0, 1) := by decide +kernel
theorem dX4_does_151 : decode cX4_does 151 = .ok (.getfield 165, 3) := by decide +kernel
theorem dX4_does_154 : decode cX4_does 154 = .ok (.aload_n 0, 1) := by decide +kernel
theorem dX4_does_155 : decode cX4_does 155 = .ok (.getfield 168, 3) := by decide +kernel
theorem dX4_does_158 : decode cX4_does 158 = .ok (.invokevirtual 62, 3) := by decide +kernel
theorem dX4_does_161 : decode cX4_does 161 = .ok (.goto 29, 3) := by decide +kernel
theorem dX4_does_164 : decode cX4_does 164 = .ok (.aload_n 0, 1) := by decide +kernel
theorem dX4_does_165 : decode cX4_does 165 = .ok (.aload_n 0, 1) := by decide +kernel
theorem dX4_does_166 : decode cX4_does 166 = .ok (.getfield 152, 3) := by decide +kernel
theorem dX4_does_169 : decode cX4_does 169 = .ok (.aload_n 0, 1) := by decide +kernel
theorem dX4_does_170 : decode cX4_does 170 = .ok (.getfield 165, 3) := by decide +kernel
theorem dX4_does_173 : decode cX4_does 173 = .ok (.aload_n 0, 1) := by decide +kernel
theorem dX4_does_174 : decode cX4_does 174 = .ok (.getfield 155, 3) := by decide +kernel
theorem dX4_does_177 : decode cX4_does 177 = .ok (.bipush 121, 2) := by decide +kernel
theorem dX4_does_179 : decode cX4_does 179 = .ok (.if_icmp .ne 7, 3) := by decide +kernel
theorem dX4_does_182 : decode cX4_does 182 = .ok (.iconst 1, 1) := by decide +kernel
theorem dX4_does_183 : decode cX4_does 183 = .ok (.goto 4, 3) := by decide +kernel
theorem dX4_does_186 : decode cX4_does 186 = .ok (.iconst 0, 1) := by decide +kernel
theorem dX4_does_187 : decode cX4_does 187 = .ok (.invokevirtual 102, 3) := by decide +kernel
theorem dX4_does_190 : decode cX4_does 190 = .ok (.return_, 1) := by decide +kernel
theorem dX4_run_0 : decode cX4_run 0 = .ok (.aload_n 0, 1) := by decide +kernel
theorem dX4_run_1 : decode cX4_run 1 = .ok (.aload_n 0, 1) := by decide +kernel
theorem dX4_run_2 : decode cX4_run 2 = .ok (.invokevirtual 174, 3) := by decide +kernel
theorem dX4_run_5 : decode cX4_run 5 = .ok (.ifCond .eq 7, 3) := by decide +kernel
theorem dX4_run_8 : decode cX4_run 8 = .ok (.iconst 0, 1) := by decide +kernel
theorem dX4_run_9 : decode cX4_run 9 = .ok (.goto 4, 3) := by decide +kernel
theorem dX4_run_12 : decode cX4_run 12 = .ok (.iconst 1, 1) := by decide +kernel
theorem dX4_run_13 : decode cX4_run 13 = .ok (.invokevirtual 90, 3) := by decide +kernel
theorem dX4_run_16 : decode cX4_run 16 = .ok (.ifCond .ne 5, 3) := by decide +kernel
theorem dX4_run_19 : decode cX4_run 19 = .ok (.iconst 0, 1) := by decide +kernel
theorem dX4_run_20 : decode cX4_run 20 = .ok (.ireturn, 1) := by decide +kernel
theorem dX4_run_21 : decode cX4_run 21 = .ok (.aload_n 0, 1) := by decide +kernel
theorem dX4_run_22 : decode cX4_run 22 = .ok (.invokevirtual 93, 3) := by decide +kernel
theorem dX4_run_25 : decode cX4_run 25 = .ok (.aload_n 0, 1) := by decide +kernel
theorem dX4_run_26 : decode cX4_run 26 = .ok (.iconst 0, 1) := by decide +kernel
theorem dX4_run_27 : decode cX4_run 27 = .ok (.putfield 143, 3) := by decide +kernel
theorem dX4_run_30 : decode cX4_run 30 = .ok (.iconst 0, 1) := by decide +kernel
theorem dX4_run_31 : decode cX4_run 31 = .ok (.istore_n 1, 1) := by decide +kernel
theorem dX4_run_32 : decode cX4_run 32 = .ok (.aload_n 0, 1) := by decide +kernel
theorem dX4_run_33 : decode cX4_run 33 = .ok (.invokevirtual 171, 3) := by decide +kernel
theorem dX4_run_36 : decode cX4_run 36 = .ok (.ifCond .eq 27, 3) := by decide +kernel
theorem dX4_run_39 : decode cX4_run 39 = .ok (.aload_n 0, 1) := by decide +kernel
theorem dX4_run_40 : decode cX4_run 40 = .ok (.invokevirtual 177, 3) := by decide +kernel
theorem dX4_run_43 : decode cX4_run 43 = .ok (.ifCond .eq 20, 3) := by decide +kernel
theorem dX4_run_46 : decode cX4_run 46 = .ok (.aload_n 0, 1) := by decide +kernel
theorem dX4_run_47 : decode cX4_run 47 = .ok (.invokevirtual 180, 3) := by decide +kernel
theorem dX4_run_50 : decode cX4_run 50 = .ok (.iinc 1 1, 3) := by decide +kernel
theorem dX4_run_53 : decode cX4_run 53 = .ok (.aload_n 0, 1) := by decide +kernel
theorem dX4_run_54 : decode cX4_run 54 = .ok (.bipush 59, 2) := by decide +kernel
theorem dX4_run_56 : decode cX4_run 56 = .ok (.invokevirtual 158, 3) := by decide +kernel
theorem dX4_run_59 : decode cX4_run 59 = .ok (.pop, 1) := by decide +kernel
theorem dX4_run_60 : decode cX4_run 60 = .ok (.goto (-28), 3) := by decide +kernel
theorem dX4_run_63 : decode cX4_run 63 = .ok (.aload_n 0, 1) := by decide +kernel
theorem dX4_run_64 : decode cX4_run 64 = .ok (.iconst 0, 1) := by decide +kernel
theorem dX4_run_65 : decode cX4_run 65 = .ok (.putfield 140, 3) := by decide +kernel
theorem dX4_run_68 : decode cX4_run 68 = .ok (.iload_n 1, 1) := by decide +kernel
theorem dX4_run_69 : decode cX4_run 69 = .ok (.ireturn, 1) := by decide +kernel
theorem dX4_undo_0 : decode cX4_undo 0 = .ok (.aload_n 0, 1) := by decide +kernel
theorem dX4_undo_1 : decode cX4_undo 1 = .ok (.aload_n 0, 1) := by decide +kernel
theorem dX4_undo_2 : decode cX4_undo 2 = .ok (.getfield 76, 3) := by decide +kernel
theorem dX4_undo_5 : decode cX4_undo 5 = .ok (.ifCond .le 7, 3) := by decide +kernel
theorem dX4_undo_8 : decode cX4_undo 8 = .ok (.iconst 0, 1) := by decide +kernel
theorem dX4_undo_9 : decode cX4_undo 9 = .ok (.goto 4, 3) := by decide +kernel
theorem dX4_undo_12 : decode cX4_undo 12 = .ok (.iconst 1, 1) := by decide +kernel
theorem dX4_undo_13 : decode cX4_undo 13 = .ok (.invokevirtual 90, 3) := by decide +kernel
theorem dX4_undo_16 : decode cX4_undo 16 = .ok (.ifCond .ne 5, 3) := by decide +kernel
theorem dX4_undo_19 : decode cX4_undo 19 = .ok (.iconst 0, 1) := by decide +kernel
theorem dX4_undo_20 : decode cX4_undo 20 = .ok (.ireturn, 1) := by decide +kernel
theorem dX4_undo_21 : decode cX4_undo 21 = .ok (.aload_n 0, 1) := by decide +kernel
theorem dX4_undo_22 : decode cX4_undo 22 = .ok (.aload_n 0, 1) := by decide +kernel
theorem dX4_undo_23 : decode cX4_undo 23 = .ok (.getfield 76, 3) := by decide +kernel
theorem dX4_undo_26 : decode cX4_undo 26 = .ok (.iconst 0, 1) := by decide +kernel
theorem dX4_undo_27 : decode cX4_undo 27 = .ok (.invokevirtual 79, 3) := by decide +kernel
theorem dX4_undo_30 : decode cX4_undo 30 = .ok (.aload_n 0, 1) := by decide +kernel
theorem dX4_undo_31 : decode cX4_undo 31 = .ok (.dup, 1) := by decide +kernel
theorem dX4_undo_32 : decode cX4_undo 32 = .ok (.getfield 76, 3) := by decide +kernel
theorem dX4_undo_35 : decode cX4_undo 35 = .ok (.iconst 1, 1) := by decide +kernel
theorem dX4_undo_36 : decode cX4_undo 36 = .ok (.isub, 1) := by decide +kernel
theorem dX4_undo_37 : decode cX4_undo 37 = .ok (.putfield 76, 3) := by decide +kernel
theorem dX4_undo_40 : decode cX4_undo 40 = .ok (.aload_n 0, 1) := by decide +kernel
theorem dX4_undo_41 : decode cX4_undo 41 = .ok (.getfield 76, 3) := by decide +kernel
theorem dX4_undo_44 : decode cX4_undo 44 = .ok (.ireturn, 1) := by decide +kernel
theorem dX4_savedStates_0 : decode cX4_savedStates 0 = .ok (.aload_n 0, 1) := by decide +kernel
theorem dX4_savedStates_1 : decode cX4_savedStates 1 = .ok (.iconst 0, 1) := by decide +kernel
theorem dX4_savedStates_2 : decode cX4_savedStates 2 = .ok (.putfield 16, 3) := by decide +kernel
theorem dX4_savedStates_5 : decode cX4_savedStates 5 = .ok (.aload_n 0, 1) := by decide +kernel
theorem dX4_savedStates_6 : decode cX4_savedStates 6 = .ok (.getfield 76, 3) := by decide +kernel
theorem dX4_savedStates_9 : decode cX4_savedStates 9 = .ok (.ireturn, 1) := by decide +kernel
theorem dX4_mix_0 : decode cX4_mix 0 = .ok (.aload_n 0, 1) := by decide +kernel
theorem dX4_mix_1 : decode cX4_mix 1 = .ok (.ldc2_w 183, 3) := by decide +kernel
theorem dX4_mix_4 : decode cX4_mix 4 = .ok (.aload_n 0, 1) := by decide +kernel
theorem dX4_mix_5 : decode cX4_mix 5 = .ok (.getfield 185, 3) := by decide +kernel
theorem dX4_mix_8 : decode cX4_mix 8 = .ok (.lmul, 1) := by decide +kernel
theorem dX4_mix_9 : decode cX4_mix 9 = .ok (.lload_n 1, 1) := by decide +kernel
theorem dX4_mix_10 : decode cX4_mix 10 = .ok (.ladd, 1) := by decide +kernel
theorem dX4_mix_11 : decode cX4_mix 11 = .ok (.putfield 185, 3) := by decide +kernel
theorem dX4_mix_14 : decode cX4_mix 14 = .ok (.return_, 1) := by decide +kernel
theorem dX4_digest_0 : decode cX4_digest 0 = .ok (.aload_n 0, 1) := by decide +kernel
theorem dX4_digest_1 : decode cX4_digest 1 = .ok (.iconst 0, 1) := by decide +kernel
theorem dX4_digest_2 : decode cX4_digest 2 = .ok (.putfield 16, 3) := by decide +kernel
theorem dX4_digest_5 : decode cX4_digest 5 = .ok (.aload_n 0, 1) := by decide +kernel
theorem dX4_digest_6 : decode cX4_digest 6 = .ok (.ldc2_w 189, 3) := by decide +kernel
theorem dX4_digest_9 : decode cX4_digest 9 = .ok (.putfield 185, 3) := by decide +kernel
theorem dX4_digest_12 : decode cX4_digest 12 = .ok (.aload_n 0, 1) := by decide +kernel
theorem dX4_digest_13 : decode cX4_digest 13 = .ok (.aload_n 0, 1) := by decide +kernel
theorem dX4_digest_14 : decode cX4_digest 14 = .ok (.getfield 7, 3) := by decide +kernel
theorem dX4_digest_17 : decode cX4_digest 17 = .ok (.iconst 3, 1) := by decide +kernel
theorem dX4_digest_18 : decode cX4_digest 18 = .ok (.iaload, 1) := by decide +kernel
theorem dX4_digest_19 : decode cX4_digest 19 = .ok (.i2l, 1) := by decide +kernel
theorem dX4_digest_20 : decode cX4_digest 20 = .ok (.invokevirtual 191, 3) := by decide +kernel
theorem dX4_digest_23 : decode cX4_digest 23 = .ok (.aload_n 0, 1) := by decide +kernel
theorem dX4_digest_24 : decode cX4_digest 24 = .ok (.aload_n 0, 1) := by decide +kernel
theorem dX4_digest_25 : decode cX4_digest 25 = .ok (.invokevirtual 130, 3) := by decide +kernel
theorem dX4_digest_28 : decode cX4_digest 28 = .ok (.i2l, 1) := by decide +kernel
theorem dX4_digest_29 : decode cX4_digest 29 = .ok (.invokevirtual 191, 3) := by decide +kernel
theorem dX4_digest_32 : decode cX4_digest 32 = .ok (.aload_n 0, 1) := by decide +kernel
theorem dX4_digest_33 : decode cX4_digest 33 = .ok (.aload_n 0, 1) := by decide +kernel
theorem dX4_digest_34 : decode cX4_digest 34 = .ok (.invokevirtual 137, 3) := by decide +kernel
theorem dX4_digest_37 : decode cX4_digest 37 = .ok (.i2l, 1) := by decide +kernel
theorem dX4_digest_38 : decode cX4_digest 38 = .ok (.invokevirtual 191, 3) := by decide +kernel
theorem dX4_digest_41 : decode cX4_digest 41 = .ok (.aload_n 0, 1) := by decide +kernel
theorem dX4_digest_42 : decode cX4_digest 42 = .ok (.aload_n 0, 1) := by decide +kernel
theorem dX4_digest_43 : decode cX4_digest 43 = .ok (.getfield 7, 3) := by decide +kernel
theorem dX4_digest_46 : decode cX4_digest 46 = .ok (.iconst 1, 1) := by decide +kernel
theorem dX4_digest_47 : decode cX4_digest 47 = .ok (.iaload, 1) := by decide +kernel
theorem dX4_digest_48 : decode cX4_digest 48 = .ok (.i2l, 1) := by decide +kernel
theorem dX4_digest_49 : decode cX4_digest 49 = .ok (.invokevirtual 191, 3) := by decide +kernel
theorem dX4_digest_52 : decode cX4_digest 52 = .ok (.iconst 0, 1) := by decide +kernel
theorem dX4_digest_53 : decode cX4_digest 53 = .ok (.istore_n 1, 1) := by decide +kernel
theorem dX4_digest_54 : decode cX4_digest 54 = .ok (.iload_n 1, 1) := by decide +kernel
theorem dX4_digest_55 : decode cX4_digest 55 = .ok (.bipush 6, 2) := by decide +kernel
theorem dX4_digest_57 : decode cX4_digest 57 = .ok (.if_icmp .ge 83, 3) := by decide +kernel
theorem dX4_digest_60 : decode cX4_digest 60 = .ok (.aload_n 0, 1) := by decide +kernel
theorem dX4_digest_61 : decode cX4_digest 61 = .ok (.aload_n 0, 1) := by decide +kernel
theorem dX4_digest_62 : decode cX4_digest 62 = .ok (.iconst 0, 1) := by decide +kernel
theorem dX4_digest_63 : decode cX4_digest 63 = .ok (.iload_n 1, 1) := by decide +kernel
theorem dX4_digest_64 : decode cX4_digest 64 = .ok (.invokevirtual 58, 3) := by decide +kernel
theorem dX4_digest_67 : decode cX4_digest 67 = .ok (.ifCond .eq 7, 3) := by decide +kernel
theorem dX4_digest_70 : decode cX4_digest 70 = .ok (.lconst 1, 1) := by decide +kernel
theorem dX4_digest_71 : decode cX4_digest 71 = .ok (.goto 4, 3) := by decide +kernel
theorem dX4_digest_74 : decode cX4_digest 74 = .ok (.lconst 0, 1) := by decide +kernel
theorem dX4_digest_75 : decode cX4_digest 75 = .ok (.invokevirtual 191, 3) := by decide +kernel
theorem dX4_digest_78 : decode cX4_digest 78 = .ok (.aload_n 0, 1) := by decide +kernel
theorem dX4_digest_79 : decode cX4_digest 79 = .ok (.aload_n 0, 1) := by decide +kernel
theorem dX4_digest_80 : decode cX4_digest 80 = .ok (.iconst 0, 1) := by decide +kernel
theorem dX4_digest_81 : decode cX4_digest 81 = .ok (.iload_n 1, 1) := by decide +kernel
theorem dX4_digest_82 : decode cX4_digest 82 = .ok (.invokevirtual 38, 3) := by decide +kernel
theorem dX4_digest_85 : decode cX4_digest 85 = .ok (.i2l, 1) := by decide +kernel
theorem dX4_digest_86 : decode cX4_digest 86 = .ok (.invokevirtual 191, 3) := by decide +kernel
theorem dX4_digest_89 : decode cX4_digest 89 = .ok (.iconst 0, 1) := by decide +kernel
theorem dX4_digest_90 : decode cX4_digest 90 = .ok (.istore_n 2, 1) := by decide +kernel
theorem dX4_digest_91 : decode cX4_digest 91 = .ok (.iload_n 2, 1) := by decide +kernel
theorem dX4_digest_92 : decode cX4_digest 92 = .ok (.aload_n 0, 1) := by decide +kernel
theorem dX4_digest_93 : decode cX4_digest 93 = .ok (.getfield 7, 3) := by decide +kernel
theorem dX4_digest_96 : decode cX4_digest 96 = .ok (.sipush 132, 3) := by decide +kernel
theorem dX4_digest_99 : decode cX4_digest 99 = .ok (.bipush 25, 2) := by decide +kernel
theorem dX4_digest_101 : decode cX4_digest 101 = .ok (.iload_n 1, 1) := by decide +kernel
theorem dX4_digest_102 : decode cX4_digest 102 = .ok (.imul, 1) := by decide +kernel
theorem dX4_digest_103 : decode cX4_digest 103 = .ok (.iadd, 1) := by decide +kernel
theorem dX4_digest_104 : decode cX4_digest 104 = .ok (.iaload, 1) := by decide +kernel
theorem dX4_digest_105 : decode cX4_digest 105 = .ok (.if_icmp .gt 29, 3) := by decide +kernel
theorem dX4_digest_108 : decode cX4_digest 108 = .ok (.aload_n 0, 1) := by decide +kernel
theorem dX4_digest_109 : decode cX4_digest 109 = .ok (.aload_n 0, 1) := by decide +kernel
theorem dX4_digest_110 : decode cX4_digest 110 = .ok (.getfield 7, 3) := by decide +kernel
theorem dX4_digest_113 : decode cX4_digest 113 = .ok (.sipush 132, 3) := by decide +kernel
theorem dX4_digest_116 : decode cX4_digest 116 = .ok (.bipush 25, 2) := by decide +kernel
theorem dX4_digest_118 : decode cX4_digest 118 = .ok (.iload_n 1, 1) := by decide +kernel
theorem dX4_digest_119 : decode cX4_digest 119 = .ok (.imul, 1) := by decide +kernel
theorem dX4_digest_120 : decode cX4_digest 120 = .ok (.iadd, 1) := by decide +kernel
theorem dX4_digest_121 : decode cX4_digest 121 = .ok (.iload_n 2, 1) := by decide +kernel
theorem dX4_digest_122 : decode cX4_digest 122 = .ok (.iadd, 1) := by decide +kernel
theorem dX4_digest_123 : decode cX4_digest 123 = .ok (.iaload, 1) := by decide +kernel
theorem dX4_digest_124 : decode cX4_digest 124 = .ok (.i2l, 1) := by decide +kernel
theorem dX4_digest_125 : decode cX4_digest 125 = .ok (.invokevirtual 191, 3) := by decide +kernel
theorem dX4_digest_128 : decode cX4_digest 128 = .ok (.iinc 2 1, 3) := by decide +kernel
theorem dX4_digest_131 : decode cX4_digest 131 = .ok (.goto (-40), 3) := by decide +kernel
theorem dX4_digest_134 : decode cX4_digest 134 = .ok (.iinc 1 1, 3) := by decide +kernel
theorem dX4_digest_137 : decode cX4_digest 137 = .ok (.goto (-83), 3) := by decide +kernel
theorem dX4_digest_140 : decode cX4_digest 140 = .ok (.iconst 0, 1) := by decide +kernel
theorem dX4_digest_141 : decode cX4_digest 141 = .ok (.istore_n 1, 1) := by decide +kernel
theorem dX4_digest_142 : decode cX4_digest 142 = .ok (.iload_n 1, 1) := by decide +kernel
theorem dX4_digest_143 : decode cX4_digest 143 = .ok (.aload_n 0, 1) := by decide +kernel
theorem dX4_digest_144 : decode cX4_digest 144 = .ok (.getfield 7, 3) := by decide +kernel
theorem dX4_digest_147 : decode cX4_digest 147 = .ok (.iconst 3, 1) := by decide +kernel
theorem dX4_digest_148 : decode cX4_digest 148 = .ok (.iaload, 1) := by decide +kernel
theorem dX4_digest_149 : decode cX4_digest 149 = .ok (.if_icmp .ge 81, 3) := by decide +kernel
theorem dX4_digest_152 : decode cX4_digest 152 = .ok (.aload_n 0, 1) := by decide +kernel
theorem dX4_digest_153 : decode cX4_digest 153 = .ok (.aload_n 0, 1) := by decide +kernel
theorem dX4_digest_154 : decode cX4_digest 154 = .ok (.iconst 0, 1) := by decide +kernel
theorem dX4_digest_155 : decode cX4_digest 155 = .ok (.iload_n 1, 1) := by decide +kernel
theorem dX4_digest_156 : decode cX4_digest 156 = .ok (.iconst 0, 1) := by decide +kernel
theorem dX4_digest_157 : decode cX4_digest 157 = .ok (.invokevirtual 24, 3) := by decide +kernel
theorem dX4_digest_160 : decode cX4_digest 160 = .ok (.i2l, 1) := by decide +kernel
theorem dX4_digest_161 : decode cX4_digest 161 = .ok (.invokevirtual 191, 3) := by decide +kernel
theorem dX4_digest_164 : decode cX4_digest 164 = .ok (.aload_n 0, 1) := by decide +kernel
theorem dX4_digest_165 : decode cX4_digest 165 = .ok (.aload_n 0, 1) := by decide +kernel
theorem dX4_digest_166 : decode cX4_digest 166 = .ok (.iconst 0, 1) := by decide +kernel
theorem dX4_digest_167 : decode cX4_digest 167 = .ok (.iload_n 1, 1) := by decide +kernel
theorem dX4_digest_168 : decode cX4_digest 168 = .ok (.iconst 3, 1) := by decide +kernel
theorem dX4_digest_169 : decode cX4_digest 169 = .ok (.invokevirtual 24, 3) := by decide +kernel
theorem dX4_digest_172 : decode cX4_digest 172 = .ok (.i2l, 1) := by decide +kernel
theorem dX4_digest_173 : decode cX4_digest 173 = .ok (.invokevirtual 191, 3) := by decide +kernel
theorem dX4_digest_176 : decode cX4_digest 176 = .ok (.iconst 0, 1) := by decide +kernel
theorem dX4_digest_177 : decode cX4_digest 177 = .ok (.istore_n 2, 1) := by decide +kernel
theorem dX4_digest_178 : decode cX4_digest 178 = .ok (.iload_n 2, 1) := by decide +kernel
theorem dX4_digest_179 : decode cX4_digest 179 = .ok (.bipush 6, 2) := by decide +kernel
theorem dX4_digest_181 : decode cX4_digest 181 = .ok (.if_icmp .ge 43, 3) := by decide +kernel
theorem dX4_digest_184 : decode cX4_digest 184 = .ok (.aload_n 0, 1) := by decide +kernel
theorem dX4_digest_185 : decode cX4_digest 185 = .ok (.aload_n 0, 1) := by decide +kernel
theorem dX4_digest_186 : decode cX4_digest 186 = .ok (.iconst 0, 1) := by decide +kernel
theorem dX4_digest_187 : decode cX4_digest 187 = .ok (.iload_n 1, 1) := by decide +kernel
theorem dX4_digest_188 : decode cX4_digest 188 = .ok (.iload_n 2, 1) := by decide +kernel
theorem dX4_digest_189 : decode cX4_digest 189 = .ok (.invokevirtual 35, 3) := by decide +kernel
theorem dX4_digest_192 : decode cX4_digest 192 = .ok (.i2l, 1) := by decide +kernel
theorem dX4_digest_193 : decode cX4_digest 193 = .ok (.invokevirtual 191, 3) := by decide +kernel
theorem dX4_digest_196 : decode cX4_digest 196 = .ok (.aload_n 0, 1) := by decide +kernel
theorem dX4_digest_197 : decode cX4_digest 197 = .ok (.aload_n 0, 1) := by decide +kernel
theorem dX4_digest_198 : decode cX4_digest 198 = .ok (.iload_n 1, 1) := by decide +kernel
theorem dX4_digest_199 : decode cX4_digest 199 = .ok (.iload_n 2, 1) := by decide +kernel
theorem dX4_digest_200 : decode cX4_digest 200 = .ok (.invokevirtual 127, 3) := by decide +kernel
theorem dX4_digest_203 : decode cX4_digest 203 = .ok (.i2l, 1) := by decide +kernel
theorem dX4_digest_204 : decode cX4_digest 204 = .ok (.invokevirtual 191, 3) := by decide +kernel
theorem dX4_digest_207 : decode cX4_digest 207 = .ok (.aload_n 0, 1) := by decide +kernel
theorem dX4_digest_208 : decode cX4_digest 208 = .ok (.aload_n 0, 1) := by decide +kernel
theorem dX4_digest_209 : decode cX4_digest 209 = .ok (.iload_n 1, 1) := by decide +kernel
theorem dX4_digest_210 : decode cX4_digest 210 = .ok (.iload_n 2, 1) := by decide +kernel
theorem dX4_digest_211 : decode cX4_digest 211 = .ok (.invokevirtual 134, 3) := by decide +kernel
theorem dX4_digest_214 : decode cX4_digest 214 = .ok (.i2l, 1) := by decide +kernel
theorem dX4_digest_215 : decode cX4_digest 215 = .ok (.invokevirtual 191, 3) := by decide +kernel
theorem dX4_digest_218 : decode cX4_digest 218 = .ok (.iinc 2 1, 3) := by decide +kernel
theorem dX4_digest_221 : decode cX4_digest 221 = .ok (.goto (-43), 3) := by decide +kernel
theorem dX4_digest_224 : decode cX4_digest 224 = .ok (.iinc 1 1, 3) := by decide +kernel
theorem dX4_digest_227 : decode cX4_digest 227 = .ok (.goto (-85), 3) := by decide +kernel
theorem dX4_digest_230 : decode cX4_digest 230 = .ok (.aload_n 0, 1) := by decide +kernel
theorem dX4_digest_231 : decode cX4_digest 231 = .ok (.getfield 185, 3) := by decide +kernel
theorem dX4_digest_234 : decode cX4_digest 234 = .ok (.lreturn, 1) := by decide +kernel
