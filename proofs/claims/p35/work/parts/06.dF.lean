theorem dX3_init_0 : decode cX3_init 0 = .ok (.aload_n 0, 1) := by decide +kernel
theorem dX3_init_1 : decode cX3_init 1 = .ok (.invokespecial 3, 3) := by decide +kernel
theorem dX3_init_4 : decode cX3_init 4 = .ok (.aload_n 0, 1) := by decide +kernel
theorem dX3_init_5 : decode cX3_init 5 = .ok (.new 9, 3) := by decide +kernel
theorem dX3_init_8 : decode cX3_init 8 = .ok (.dup, 1) := by decide +kernel
theorem dX3_init_9 : decode cX3_init 9 = .ok (.invokespecial 11, 3) := by decide +kernel
theorem dX3_init_12 : decode cX3_init 12 = .ok (.putfield 12, 3) := by decide +kernel
theorem dX3_init_15 : decode cX3_init 15 = .ok (.aload_n 0, 1) := by decide +kernel
theorem dX3_init_16 : decode cX3_init 16 = .ok (.new 9, 3) := by decide +kernel
theorem dX3_init_19 : decode cX3_init 19 = .ok (.dup, 1) := by decide +kernel
theorem dX3_init_20 : decode cX3_init 20 = .ok (.invokespecial 11, 3) := by decide +kernel
theorem dX3_init_23 : decode cX3_init 23 = .ok (.putfield 16, 3) := by decide +kernel
theorem dX3_init_26 : decode cX3_init 26 = .ok (.aload_n 0, 1) := by decide +kernel
theorem dX3_init_27 : decode cX3_init 27 = .ok (.new 19, 3) := by decide +kernel
theorem dX3_init_30 : decode cX3_init 30 = .ok (.dup, 1) := by decide +kernel
theorem dX3_init_31 : decode cX3_init 31 = .ok (.invokespecial 21, 3) := by decide +kernel
theorem dX3_init_34 : decode cX3_init 34 = .ok (.putfield 22, 3) := by decide +kernel
theorem dX3_init_37 : decode cX3_init 37 = .ok (.aload_n 0, 1) := by decide +kernel
theorem dX3_init_38 : decode cX3_init 38 = .ok (.new 26, 3) := by decide +kernel
theorem dX3_init_41 : decode cX3_init 41 = .ok (.dup, 1) := by decide +kernel
theorem dX3_init_42 : decode cX3_init 42 = .ok (.invokespecial 28, 3) := by decide +kernel
theorem dX3_init_45 : decode cX3_init 45 = .ok (.putfield 29, 3) := by decide +kernel
theorem dX3_init_48 : decode cX3_init 48 = .ok (.return_, 1) := by decide +kernel
theorem dX3_begin_0 : decode cX3_begin 0 = .ok (.iload_n 1, 1) := by decide +kernel
theorem dX3_begin_1 : decode cX3_begin 1 = .ok (.invokestatic 33, 3) := by decide +kernel
theorem dX3_begin_4 : decode cX3_begin 4 = .ok (.iload_n 2, 1) := by decide +kernel
theorem dX3_begin_5 : decode cX3_begin 5 = .ok (.iconst 1, 1) := by decide +kernel
theorem dX3_begin_6 : decode cX3_begin 6 = .ok (.if_icmp .lt 17, 3) := by decide +kernel
theorem dX3_begin_9 : decode cX3_begin 9 = .ok (.iload_n 2, 1) := by decide +kernel
theorem dX3_begin_10 : decode cX3_begin 10 = .ok (.bipush 63, 2) := by decide +kernel
theorem dX3_begin_12 : decode cX3_begin 12 = .ok (.if_icmp .gt 11, 3) := by decide +kernel
theorem dX3_begin_15 : decode cX3_begin 15 = .ok (.iload_n 2, 1) := by decide +kernel
theorem dX3_begin_16 : decode cX3_begin 16 = .ok (.invokestatic 37, 3) := by decide +kernel
theorem dX3_begin_19 : decode cX3_begin 19 = .ok (.iconst 2, 1) := by decide +kernel
theorem dX3_begin_20 : decode cX3_begin 20 = .ok (.if_icmp .ge 13, 3) := by decide +kernel
theorem dX3_begin_23 : decode cX3_begin 23 = .ok (.new 43, 3) := by decide +kernel
theorem dX3_begin_26 : decode cX3_begin 26 = .ok (.dup, 1) := by decide +kernel
theorem dX3_begin_27 : decode cX3_begin 27 = .ok (.ldc 45, 2) := by decide +kernel
theorem dX3_begin_29 : decode cX3_begin 29 = .ok (.invokespecial 47, 3) := by decide +kernel
theorem dX3_begin_32 : decode cX3_begin 32 = .ok (.athrow, 1) := by decide +kernel
theorem dX3_begin_33 : decode cX3_begin 33 = .ok (.iload_n 3, 1) := by decide +kernel
theorem dX3_begin_34 : decode cX3_begin 34 = .ok (.ifCond .lt 9, 3) := by decide +kernel
theorem dX3_begin_37 : decode cX3_begin 37 = .ok (.iload_n 3, 1) := by decide +kernel
theorem dX3_begin_38 : decode cX3_begin 38 = .ok (.bipush 10, 2) := by decide +kernel
theorem dX3_begin_40 : decode cX3_begin 40 = .ok (.if_icmp .lt 13, 3) := by decide +kernel
theorem dX3_begin_43 : decode cX3_begin 43 = .ok (.new 43, 3) := by decide +kernel
theorem dX3_begin_46 : decode cX3_begin 46 = .ok (.dup, 1) := by decide +kernel
theorem dX3_begin_47 : decode cX3_begin 47 = .ok (.ldc 50, 2) := by decide +kernel
theorem dX3_begin_49 : decode cX3_begin 49 = .ok (.invokespecial 47, 3) := by decide +kernel
theorem dX3_begin_52 : decode cX3_begin 52 = .ok (.athrow, 1) := by decide +kernel
theorem dX3_begin_53 : decode cX3_begin 53 = .ok (.aload_n 0, 1) := by decide +kernel
theorem dX3_begin_54 : decode cX3_begin 54 = .ok (.getfield 12, 3) := by decide +kernel
theorem dX3_begin_57 : decode cX3_begin 57 = .ok (.iload_n 1, 1) := by decide +kernel
theorem dX3_begin_58 : decode cX3_begin 58 = .ok (.iload_n 2, 1) := by decide +kernel
theorem dX3_begin_59 : decode cX3_begin 59 = .ok (.invokevirtual 52, 3) := by decide +kernel
theorem dX3_begin_62 : decode cX3_begin 62 = .ok (.ifCond .ne 13, 3) := by decide +kernel
theorem dX3_begin_65 : decode cX3_begin 65 = .ok (.new 56, 3) := by decide +kernel
theorem dX3_begin_68 : decode cX3_begin 68 = .ok (.dup, 1) := by decide +kernel
theorem dX3_begin_69 : decode cX3_begin 69 = .ok (.ldc 58, 2) := by decide +kernel
theorem dX3_begin_71 : decode cX3_begin 71 = .ok (.invokespecial 60, 3) := by decide +kernel
theorem dX3_begin_74 : decode cX3_begin 74 = .ok (.athrow, 1) := by decide +kernel
theorem dX3_begin_75 : decode cX3_begin 75 = .ok (.aload_n 0, 1) := by decide +kernel
theorem dX3_begin_76 : decode cX3_begin 76 = .ok (.getfield 22, 3) := by decide +kernel
theorem dX3_begin_79 : decode cX3_begin 79 = .ok (.aload_n 0, 1) := by decide +kernel
theorem dX3_begin_80 : decode cX3_begin 80 = .ok (.getfield 12, 3) := by decide +kernel
theorem dX3_begin_83 : decode cX3_begin 83 = .ok (.invokevirtual 61, 3) := by decide +kernel
theorem dX3_begin_86 : decode cX3_begin 86 = .ok (.aload_n 0, 1) := by decide +kernel
theorem dX3_begin_87 : decode cX3_begin 87 = .ok (.getfield 12, 3) := by decide +kernel
theorem dX3_begin_90 : decode cX3_begin 90 = .ok (.iload_n 1, 1) := by decide +kernel
theorem dX3_begin_91 : decode cX3_begin 91 = .ok (.iload_n 2, 1) := by decide +kernel
theorem dX3_begin_92 : decode cX3_begin 92 = .ok (.iload_n 3, 1) := by decide +kernel
theorem dX3_begin_93 : decode cX3_begin 93 = .ok (.invokevirtual 65, 3) := by decide +kernel
theorem dX3_begin_96 : decode cX3_begin 96 = .ok (.ireturn, 1) := by decide +kernel
theorem dX3_vote_0 : decode cX3_vote 0 = .ok (.aload_n 0, 1) := by decide +kernel
theorem dX3_vote_1 : decode cX3_vote 1 = .ok (.iload_n 1, 1) := by decide +kernel
theorem dX3_vote_2 : decode cX3_vote 2 = .ok (.iload_n 2, 1) := by decide +kernel
theorem dX3_vote_3 : decode cX3_vote 3 = .ok (.invokevirtual 69, 3) := by decide +kernel
theorem dX3_vote_6 : decode cX3_vote 6 = .ok (.aload_n 0, 1) := by decide +kernel
theorem dX3_vote_7 : decode cX3_vote 7 = .ok (.getfield 12, 3) := by decide +kernel
theorem dX3_vote_10 : decode cX3_vote 10 = .ok (.iload_n 1, 1) := by decide +kernel
theorem dX3_vote_11 : decode cX3_vote 11 = .ok (.iload_n 2, 1) := by decide +kernel
theorem dX3_vote_12 : decode cX3_vote 12 = .ok (.invokevirtual 73, 3) := by decide +kernel
theorem dX3_vote_15 : decode cX3_vote 15 = .ok (.ifCond .ne 13, 3) := by decide +kernel
theorem dX3_vote_18 : decode cX3_vote 18 = .ok (.new 56, 3) := by decide +kernel
theorem dX3_vote_21 : decode cX3_vote 21 = .ok (.dup, 1) := by decide +kernel
theorem dX3_vote_22 : decode cX3_vote 22 = .ok (.ldc 76, 2) := by decide +kernel
theorem dX3_vote_24 : decode cX3_vote 24 = .ok (.invokespecial 60, 3) := by decide +kernel
theorem dX3_vote_27 : decode cX3_vote 27 = .ok (.athrow, 1) := by decide +kernel
theorem dX3_vote_28 : decode cX3_vote 28 = .ok (.aload_n 0, 1) := by decide +kernel
theorem dX3_vote_29 : decode cX3_vote 29 = .ok (.getfield 22, 3) := by decide +kernel
theorem dX3_vote_32 : decode cX3_vote 32 = .ok (.aload_n 0, 1) := by decide +kernel
theorem dX3_vote_33 : decode cX3_vote 33 = .ok (.getfield 12, 3) := by decide +kernel
theorem dX3_vote_36 : decode cX3_vote 36 = .ok (.invokevirtual 61, 3) := by decide +kernel
theorem dX3_vote_39 : decode cX3_vote 39 = .ok (.aload_n 0, 1) := by decide +kernel
theorem dX3_vote_40 : decode cX3_vote 40 = .ok (.getfield 12, 3) := by decide +kernel
theorem dX3_vote_43 : decode cX3_vote 43 = .ok (.iload_n 1, 1) := by decide +kernel
theorem dX3_vote_44 : decode cX3_vote 44 = .ok (.iload_n 2, 1) := by decide +kernel
theorem dX3_vote_45 : decode cX3_vote 45 = .ok (.iload_n 3, 1) := by decide +kernel
theorem dX3_vote_46 : decode cX3_vote 46 = .ok (.invokevirtual 78, 3) := by decide +kernel
theorem dX3_vote_49 : decode cX3_vote 49 = .ok (.ireturn, 1) := by decide +kernel
theorem dX3_decide_0 : decode cX3_decide 0 = .ok (.aload_n 0, 1) := by decide +kernel
theorem dX3_decide_1 : decode cX3_decide 1 = .ok (.iload_n 1, 1) := by decide +kernel
theorem dX3_decide_2 : decode cX3_decide 2 = .ok (.invokevirtual 82, 3) := by decide +kernel
theorem dX3_decide_5 : decode cX3_decide 5 = .ok (.aload_n 0, 1) := by decide +kernel
theorem dX3_decide_6 : decode cX3_decide 6 = .ok (.getfield 12, 3) := by decide +kernel
theorem dX3_decide_9 : decode cX3_decide 9 = .ok (.iload_n 1, 1) := by decide +kernel
theorem dX3_decide_10 : decode cX3_decide 10 = .ok (.invokevirtual 85, 3) := by decide +kernel
theorem dX3_decide_13 : decode cX3_decide 13 = .ok (.ifCond .ne 13, 3) := by decide +kernel
theorem dX3_decide_16 : decode cX3_decide 16 = .ok (.new 56, 3) := by decide +kernel
theorem dX3_decide_19 : decode cX3_decide 19 = .ok (.dup, 1) := by decide +kernel
theorem dX3_decide_20 : decode cX3_decide 20 = .ok (.ldc 89, 2) := by decide +kernel
theorem dX3_decide_22 : decode cX3_decide 22 = .ok (.invokespecial 60, 3) := by decide +kernel
theorem dX3_decide_25 : decode cX3_decide 25 = .ok (.athrow, 1) := by decide +kernel
theorem dX3_decide_26 : decode cX3_decide 26 = .ok (.aload_n 0, 1) := by decide +kernel
theorem dX3_decide_27 : decode cX3_decide 27 = .ok (.getfield 22, 3) := by decide +kernel
theorem dX3_decide_30 : decode cX3_decide 30 = .ok (.aload_n 0, 1) := by decide +kernel
theorem dX3_decide_31 : decode cX3_decide 31 = .ok (.getfield 12, 3) := by decide +kernel
theorem dX3_decide_34 : decode cX3_decide 34 = .ok (.invokevirtual 61, 3) := by decide +kernel
theorem dX3_decide_37 : decode cX3_decide 37 = .ok (.aload_n 0, 1) := by decide +kernel
theorem dX3_decide_38 : decode cX3_decide 38 = .ok (.getfield 12, 3) := by decide +kernel
theorem dX3_decide_41 : decode cX3_decide 41 = .ok (.iload_n 1, 1) := by decide +kernel
theorem dX3_decide_42 : decode cX3_decide 42 = .ok (.invokevirtual 91, 3) := by decide +kernel
theorem dX3_decide_45 : decode cX3_decide 45 = .ok (.ireturn, 1) := by decide +kernel
theorem dX3_tell_0 : decode cX3_tell 0 = .ok (.aload_n 0, 1) := by decide +kernel
theorem dX3_tell_1 : decode cX3_tell 1 = .ok (.iload_n 1, 1) := by decide +kernel
theorem dX3_tell_2 : decode cX3_tell 2 = .ok (.iload_n 2, 1) := by decide +kernel
theorem dX3_tell_3 : decode cX3_tell 3 = .ok (.invokevirtual 69, 3) := by decide +kernel
theorem dX3_tell_6 : decode cX3_tell 6 = .ok (.aload_n 0, 1) := by decide +kernel
theorem dX3_tell_7 : decode cX3_tell 7 = .ok (.getfield 12, 3) := by decide +kernel
theorem dX3_tell_10 : decode cX3_tell 10 = .ok (.iload_n 1, 1) := by decide +kernel
theorem dX3_tell_11 : decode cX3_tell 11 = .ok (.iload_n 2, 1) := by decide +kernel
theorem dX3_tell_12 : decode cX3_tell 12 = .ok (.invokevirtual 94, 3) := by decide +kernel
theorem dX3_tell_15 : decode cX3_tell 15 = .ok (.ifCond .ne 13, 3) := by decide +kernel
theorem dX3_tell_18 : decode cX3_tell 18 = .ok (.new 56, 3) := by decide +kernel
theorem dX3_tell_21 : decode cX3_tell 21 = .ok (.dup, 1) := by decide +kernel
theorem dX3_tell_22 : decode cX3_tell 22 = .ok (.ldc 97, 2) := by decide +kernel
theorem dX3_tell_24 : decode cX3_tell 24 = .ok (.invokespecial 60, 3) := by decide +kernel
theorem dX3_tell_27 : decode cX3_tell 27 = .ok (.athrow, 1) := by decide +kernel
theorem dX3_tell_28 : decode cX3_tell 28 = .ok (.aload_n 0, 1) := by decide +kernel
theorem dX3_tell_29 : decode cX3_tell 29 = .ok (.getfield 22, 3) := by decide +kernel
theorem dX3_tell_32 : decode cX3_tell 32 = .ok (.aload_n 0, 1) := by decide +kernel
theorem dX3_tell_33 : decode cX3_tell 33 = .ok (.getfield 12, 3) := by decide +kernel
theorem dX3_tell_36 : decode cX3_tell 36 = .ok (.invokevirtual 61, 3) := by decide +kernel
theorem dX3_tell_39 : decode cX3_tell 39 = .ok (.aload_n 0, 1) := by decide +kernel
theorem dX3_tell_40 : decode cX3_tell 40 = .ok (.getfield 12, 3) := by decide +kernel
theorem dX3_tell_43 : decode cX3_tell 43 = .ok (.iload_n 1, 1) := by decide +kernel
theorem dX3_tell_44 : decode cX3_tell 44 = .ok (.iload_n 2, 1) := by decide +kernel
theorem dX3_tell_45 : decode cX3_tell 45 = .ok (.invokevirtual 99, 3) := by decide +kernel
theorem dX3_tell_48 : decode cX3_tell 48 = .ok (.ireturn, 1) := by decide +kernel
theorem dX3_ask_0 : decode cX3_ask 0 = .ok (.aload_n 0, 1) := by decide +kernel
theorem dX3_ask_1 : decode cX3_ask 1 = .ok (.iload_n 1, 1) := by decide +kernel
theorem dX3_ask_2 : decode cX3_ask 2 = .ok (.iload_n 2, 1) := by decide +kernel
theorem dX3_ask_3 : decode cX3_ask 3 = .ok (.invokevirtual 69, 3) := by decide +kernel
theorem dX3_ask_6 : decode cX3_ask 6 = .ok (.iload_n 3, 1) := by decide +kernel
theorem dX3_ask_7 : decode cX3_ask 7 = .ok (.invokestatic 33, 3) := by decide +kernel
theorem dX3_ask_10 : decode cX3_ask 10 = .ok (.iload_n 2, 1) := by decide +kernel
theorem dX3_ask_11 : decode cX3_ask 11 = .ok (.iload_n 3, 1) := by decide +kernel
theorem dX3_ask_12 : decode cX3_ask 12 = .ok (.if_icmp .ne 13, 3) := by decide +kernel
theorem dX3_ask_15 : decode cX3_ask 15 = .ok (.new 43, 3) := by decide +kernel
theorem dX3_ask_18 : decode cX3_ask 18 = .ok (.dup, 1) := by decide +kernel
theorem dX3_ask_19 : decode cX3_ask 19 = .ok (.ldc 103, 2) := by decide +kernel
theorem dX3_ask_21 : decode cX3_ask 21 = .ok (.invokespecial 47, 3) := by decide +kernel
theorem dX3_ask_24 : decode cX3_ask 24 = .ok (.athrow, 1) := by decide +kernel
theorem dX3_ask_25 : decode cX3_ask 25 = .ok (.aload_n 0, 1) := by decide +kernel
theorem dX3_ask_26 : decode cX3_ask 26 = .ok (.getfield 12, 3) := by decide +kernel
theorem dX3_ask_29 : decode cX3_ask 29 = .ok (.iload_n 1, 1) := by decide +kernel
theorem dX3_ask_30 : decode cX3_ask 30 = .ok (.iload_n 2, 1) := by decide +kernel
theorem dX3_ask_31 : decode cX3_ask 31 = .ok (.iload_n 3, 1) := by decide +kernel
theorem dX3_ask_32 : decode cX3_ask 32 = .ok (.invokevirtual 105, 3) := by decide +kernel
theorem dX3_ask_35 : decode cX3_ask 35 = .ok (.ifCond .ne 13, 3) := by decide +kernel
theorem dX3_ask_38 : decode cX3_ask 38 = .ok (.new 56, 3) := by decide +kernel
theorem dX3_ask_41 : decode cX3_ask 41 = .ok (.dup, 1) := by decide +kernel
theorem dX3_ask_42 : decode cX3_ask 42 = .ok (.ldc 109, 2) := by decide +kernel
theorem dX3_ask_44 : decode cX3_ask 44 = .ok (.invokespecial 60, 3) := by decide +kernel
theorem dX3_ask_47 : decode cX3_ask 47 = .ok (.athrow, 1) := by decide +kernel
theorem dX3_ask_48 : decode cX3_ask 48 = .ok (.aload_n 0, 1) := by decide +kernel
theorem dX3_ask_49 : decode cX3_ask 49 = .ok (.getfield 22, 3) := by decide +kernel
theorem dX3_ask_52 : decode cX3_ask 52 = .ok (.aload_n 0, 1) := by decide +kernel
theorem dX3_ask_53 : decode cX3_ask 53 = .ok (.getfield 12, 3) := by decide +kernel
theorem dX3_ask_56 : decode cX3_ask 56 = .ok (.invokevirtual 61, 3) := by decide +kernel
theorem dX3_ask_59 : decode cX3_ask 59 = .ok (.aload_n 0, 1) := by decide +kernel
theorem dX3_ask_60 : decode cX3_ask 60 = .ok (.getfield 12, 3) := by decide +kernel
theorem dX3_ask_63 : decode cX3_ask 63 = .ok (.iload_n 1, 1) := by decide +kernel
theorem dX3_ask_64 : decode cX3_ask 64 = .ok (.iload_n 2, 1) := by decide +kernel
theorem dX3_ask_65 : decode cX3_ask 65 = .ok (.iload_n 3, 1) := by decide +kernel
theorem dX3_ask_66 : decode cX3_ask 66 = .ok (.invokevirtual 111, 3) := by decide +kernel
theorem dX3_ask_69 : decode cX3_ask 69 = .ok (.ireturn, 1) := by decide +kernel
theorem dX3_fallSilent_0 : decode cX3_fallSilent 0 = .ok (.iload_n 1, 1) := by decide +kernel
theorem dX3_fallSilent_1 : decode cX3_fallSilent 1 = .ok (.invokestatic 33, 3) := by decide +kernel
theorem dX3_fallSilent_4 : decode cX3_fallSilent 4 = .ok (.aload_n 0, 1) := by decide +kernel
theorem dX3_fallSilent_5 : decode cX3_fallSilent 5 = .ok (.getfield 12, 3) := by decide +kernel
theorem dX3_fallSilent_8 : decode cX3_fallSilent 8 = .ok (.iload_n 1, 1) := by decide +kernel
theorem dX3_fallSilent_9 : decode cX3_fallSilent 9 = .ok (.invokevirtual 114, 3) := by decide +kernel
theorem dX3_fallSilent_12 : decode cX3_fallSilent 12 = .ok (.ifCond .ne 13, 3) := by decide +kernel
theorem dX3_fallSilent_15 : decode cX3_fallSilent 15 = .ok (.new 56, 3) := by decide +kernel
theorem dX3_fallSilent_18 : decode cX3_fallSilent 18 = .ok (.dup, 1) := by decide +kernel
theorem dX3_fallSilent_19 : decode cX3_fallSilent 19 = .ok (.ldc 117, 2) := by decide +kernel
theorem dX3_fallSilent_21 : decode cX3_fallSilent 21 = .ok (.invokespecial 60, 3) := by decide +kernel
theorem dX3_fallSilent_24 : decode cX3_fallSilent 24 = .ok (.athrow, 1) := by decide +kernel
theorem dX3_fallSilent_25 : decode cX3_fallSilent 25 = .ok (.aload_n 0, 1) := by decide +kernel
theorem dX3_fallSilent_26 : decode cX3_fallSilent 26 = .ok (.getfield 22, 3) := by decide +kernel
theorem dX3_fallSilent_29 : decode cX3_fallSilent 29 = .ok (.aload_n 0, 1) := by decide +kernel
theorem dX3_fallSilent_30 : decode cX3_fallSilent 30 = .ok (.getfield 12, 3) := by decide +kernel
theorem dX3_fallSilent_33 : decode cX3_fallSilent 33 = .ok (.invokevirtual 61, 3) := by decide +kernel
theorem dX3_fallSilent_36 : decode cX3_fallSilent 36 = .ok (.aload_n 0, 1) := by decide +kernel
theorem dX3_fallSilent_37 : decode cX3_fallSilent 37 = .ok (.getfield 12, 3) := by decide +kernel
theorem dX3_fallSilent_40 : decode cX3_fallSilent 40 = .ok (.iload_n 1, 1) := by decide +kernel
theorem dX3_fallSilent_41 : decode cX3_fallSilent 41 = .ok (.invokevirtual 119, 3) := by decide +kernel
theorem dX3_fallSilent_44 : decode cX3_fallSilent 44 = .ok (.ireturn, 1) := by decide +kernel
theorem dX3_comeBack_0 : decode cX3_comeBack 0 = .ok (.iload_n 1, 1) := by decide +kernel
theorem dX3_comeBack_1 : decode cX3_comeBack 1 = .ok (.invokestatic 33, 3) := by decide +kernel
theorem dX3_comeBack_4 : decode cX3_comeBack 4 = .ok (.aload_n 0, 1) := by decide +kernel
theorem dX3_comeBack_5 : decode cX3_comeBack 5 = .ok (.getfield 12, 3) := by decide +kernel
theorem dX3_comeBack_8 : decode cX3_comeBack 8 = .ok (.iload_n 1, 1) := by decide +kernel
theorem dX3_comeBack_9 : decode cX3_comeBack 9 = .ok (.invokevirtual 114, 3) := by decide +kernel
theorem dX3_comeBack_12 : decode cX3_comeBack 12 = .ok (.ifCond .eq 13, 3) := by decide +kernel
theorem dX3_comeBack_15 : decode cX3_comeBack 15 = .ok (.new 56, 3) := by decide +kernel
theorem dX3_comeBack_18 : decode cX3_comeBack 18 = .ok (.dup, 1) := by decide +kernel
theorem dX3_comeBack_19 : decode cX3_comeBack 19 = .ok (.ldc 122, 2) := by decide +kernel
theorem dX3_comeBack_21 : decode cX3_comeBack 21 = .ok (.invokespecial 60, 3) := by decide +kernel
theorem dX3_comeBack_24 : decode cX3_comeBack 24 = .ok (.athrow, 1) := by decide +kernel
theorem dX3_comeBack_25 : decode cX3_comeBack 25 = .ok (.aload_n 0, 1) := by decide +kernel
theorem dX3_comeBack_26 : decode cX3_comeBack 26 = .ok (.getfield 22, 3) := by decide +kernel
theorem dX3_comeBack_29 : decode cX3_comeBack 29 = .ok (.aload_n 0, 1) := by decide +kernel
theorem dX3_comeBack_30 : decode cX3_comeBack 30 = .ok (.getfield 12, 3) := by decide +kernel
theorem dX3_comeBack_33 : decode cX3_comeBack 33 = .ok (.invokevirtual 61, 3) := by decide +kernel
theorem dX3_comeBack_36 : decode cX3_comeBack 36 = .ok (.aload_n 0, 1) := by decide +kernel
theorem dX3_comeBack_37 : decode cX3_comeBack 37 = .ok (.getfield 12, 3) := by decide +kernel
theorem dX3_comeBack_40 : decode cX3_comeBack 40 = .ok (.iload_n 1, 1) := by decide +kernel
theorem dX3_comeBack_41 : decode cX3_comeBack 41 = .ok (.invokevirtual 124, 3) := by decide +kernel
theorem dX3_comeBack_44 : decode cX3_comeBack 44 = .ok (.ireturn, 1) := by decide +kernel
theorem dX3_pass_0 : decode cX3_pass 0 = .ok (.iload_n 1, 1) := by decide +kernel
theorem dX3_pass_1 : decode cX3_pass 1 = .ok (.iconst 1, 1) := by decide +kernel
theorem dX3_pass_2 : decode cX3_pass 2 = .ok (.if_icmp .lt 9, 3) := by decide +kernel
theorem dX3_pass_5 : decode cX3_pass 5 = .ok (.iload_n 1, 1) := by decide +kernel
theorem dX3_pass_6 : decode cX3_pass 6 = .ok (.bipush 20, 2) := by decide +kernel
theorem dX3_pass_8 : decode cX3_pass 8 = .ok (.if_icmp .le 13, 3) := by decide +kernel
theorem dX3_pass_11 : decode cX3_pass 11 = .ok (.new 43, 3) := by decide +kernel
theorem dX3_pass_14 : decode cX3_pass 14 = .ok (.dup, 1) := by decide +kernel
theorem dX3_pass_15 : decode cX3_pass 15 = .ok (.ldc 127, 2) := by decide +kernel
theorem dX3_pass_17 : decode cX3_pass 17 = .ok (.invokespecial 47, 3) := by decide +kernel
theorem dX3_pass_20 : decode cX3_pass 20 = .ok (.athrow, 1) := by decide +kernel
theorem dX3_pass_21 : decode cX3_pass 21 = .ok (.aload_n 0, 1) := by decide +kernel
theorem dX3_pass_22 : decode cX3_pass 22 = .ok (.getfield 22, 3) := by decide +kernel
theorem dX3_pass_25 : decode cX3_pass 25 = .ok (.aload_n 0, 1) := by decide +kernel
theorem dX3_pass_26 : decode cX3_pass 26 = .ok (.getfield 12, 3) := by decide +kernel
theorem dX3_pass_29 : decode cX3_pass 29 = .ok (.invokevirtual 61, 3) := by decide +kernel
theorem dX3_pass_32 : decode cX3_pass 32 = .ok (.aload_n 0, 1) := by decide +kernel
theorem dX3_pass_33 : decode cX3_pass 33 = .ok (.getfield 12, 3) := by decide +kernel
theorem dX3_pass_36 : decode cX3_pass 36 = .ok (.iload_n 1, 1) := by decide +kernel
theorem dX3_pass_37 : decode cX3_pass 37 = .ok (.invokevirtual 129, 3) := by decide +kernel
theorem dX3_pass_40 : decode cX3_pass 40 = .ok (.ireturn, 1) := by decide +kernel
theorem dX3_setPatience_0 : decode cX3_setPatience 0 = .ok (.iload_n 1, 1) := by decide +kernel
theorem dX3_setPatience_1 : decode cX3_setPatience 1 = .ok (.iconst 1, 1) := by decide +kernel
theorem dX3_setPatience_2 : decode cX3_setPatience 2 = .ok (.if_icmp .lt 9, 3) := by decide +kernel
theorem dX3_setPatience_5 : decode cX3_setPatience 5 = .ok (.iload_n 1, 1) := by decide +kernel
theorem dX3_setPatience_6 : decode cX3_setPatience 6 = .ok (.bipush 20, 2) := by decide +kernel
theorem dX3_setPatience_8 : decode cX3_setPatience 8 = .ok (.if_icmp .le 13, 3) := by decide +kernel
theorem dX3_setPatience_11 : decode cX3_setPatience 11 = .ok (.new 43, 3) := by decide +kernel
theorem dX3_setPatience_14 : decode cX3_setPatience 14 = .ok (.dup, 1) := by decide +kernel
theorem dX3_setPatience_15 : decode cX3_setPatience 15 = .ok (.ldc 132, 2) := by decide +kernel
theorem dX3_setPatience_17 : decode cX3_setPatience 17 = .ok (.invokespecial 47, 3) := by decide +kernel
theorem dX3_setPatience_20 : decode cX3_setPatience 20 = .ok (.athrow, 1) := by decide +kernel
theorem dX3_setPatience_21 : decode cX3_setPatience 21 = .ok (.aload_n 0, 1) := by decide +kernel
theorem dX3_setPatience_22 : decode cX3_setPatience 22 = .ok (.getfield 22, 3) := by decide +kernel
theorem dX3_setPatience_25 : decode cX3_setPatience 25 = .ok (.aload_n 0, 1) := by decide +kernel
theorem dX3_setPatience_26 : decode cX3_setPatience 26 = .ok (.getfield 12, 3) := by decide +kernel
theorem dX3_setPatience_29 : decode cX3_setPatience 29 = .ok (.invokevirtual 61, 3) := by decide +kernel
theorem dX3_setPatience_32 : decode cX3_setPatience 32 = .ok (.aload_n 0, 1) := by decide +kernel
theorem dX3_setPatience_33 : decode cX3_setPatience 33 = .ok (.getfield 12, 3) := by decide +kernel
theorem dX3_setPatience_36 : decode cX3_setPatience 36 = .ok (.iload_n 1, 1) := by decide +kernel
theorem dX3_setPatience_37 : decode cX3_setPatience 37 = .ok (.invokevirtual 134, 3) := by decide +kernel
theorem dX3_setPatience_40 : decode cX3_setPatience 40 = .ok (.ireturn, 1) := by decide +kernel
theorem dX3_deals_0 : decode cX3_deals 0 = .ok (.aload_n 0, 1) := by decide +kernel
theorem dX3_deals_1 : decode cX3_deals 1 = .ok (.getfield 12, 3) := by decide +kernel
theorem dX3_deals_4 : decode cX3_deals 4 = .ok (.invokevirtual 137, 3) := by decide +kernel
theorem dX3_deals_7 : decode cX3_deals 7 = .ok (.ireturn, 1) := by decide +kernel
theorem dX3_isUp_0 : decode cX3_isUp 0 = .ok (.iload_n 1, 1) := by decide +kernel
theorem dX3_isUp_1 : decode cX3_isUp 1 = .ok (.invokestatic 33, 3) := by decide +kernel
theorem dX3_isUp_4 : decode cX3_isUp 4 = .ok (.aload_n 0, 1) := by decide +kernel
theorem dX3_isUp_5 : decode cX3_isUp 5 = .ok (.getfield 12, 3) := by decide +kernel
theorem dX3_isUp_8 : decode cX3_isUp 8 = .ok (.iload_n 1, 1) := by decide +kernel
theorem dX3_isUp_9 : decode cX3_isUp 9 = .ok (.invokevirtual 114, 3) := by decide +kernel
theorem dX3_isUp_12 : decode cX3_isUp 12 = .ok (.ireturn, 1) := by decide +kernel
theorem dX3_state_0 : decode cX3_state 0 = .ok (.aload_n 0, 1) := by decide +kernel
theorem dX3_state_1 : decode cX3_state 1 = .ok (.iload_n 1, 1) := by decide +kernel
theorem dX3_state_2 : decode cX3_state 2 = .ok (.iload_n 2, 1) := by decide +kernel
theorem dX3_state_3 : decode cX3_state 3 = .ok (.invokevirtual 69, 3) := by decide +kernel
theorem dX3_state_6 : decode cX3_state 6 = .ok (.aload_n 0, 1) := by decide +kernel
theorem dX3_state_7 : decode cX3_state 7 = .ok (.getfield 12, 3) := by decide +kernel
theorem dX3_state_10 : decode cX3_state 10 = .ok (.iload_n 1, 1) := by decide +kernel
theorem dX3_state_11 : decode cX3_state 11 = .ok (.iload_n 2, 1) := by decide +kernel
theorem dX3_state_12 : decode cX3_state 12 = .ok (.invokevirtual 141, 3) := by decide +kernel
theorem dX3_state_15 : decode cX3_state 15 = .ok (.ireturn, 1) := by decide +kernel
theorem dX3_decision_0 : decode cX3_decision 0 = .ok (.aload_n 0, 1) := by decide +kernel
theorem dX3_decision_1 : decode cX3_decision 1 = .ok (.iload_n 1, 1) := by decide +kernel
theorem dX3_decision_2 : decode cX3_decision 2 = .ok (.invokevirtual 82, 3) := by decide +kernel
theorem dX3_decision_5 : decode cX3_decision 5 = .ok (.aload_n 0, 1) := by decide +kernel
theorem dX3_decision_6 : decode cX3_decision 6 = .ok (.getfield 12, 3) := by decide +kernel
theorem dX3_decision_9 : decode cX3_decision 9 = .ok (.iload_n 1, 1) := by decide +kernel
theorem dX3_decision_10 : decode cX3_decision 10 = .ok (.invokevirtual 144, 3) := by decide +kernel
theorem dX3_decision_13 : decode cX3_decision 13 = .ok (.ireturn, 1) := by decide +kernel
theorem dX3_leader_0 : decode cX3_leader 0 = .ok (.aload_n 0, 1) := by decide +kernel
theorem dX3_leader_1 : decode cX3_leader 1 = .ok (.iload_n 1, 1) := by decide +kernel
theorem dX3_leader_2 : decode cX3_leader 2 = .ok (.invokevirtual 82, 3) := by decide +kernel
theorem dX3_leader_5 : decode cX3_leader 5 = .ok (.aload_n 0, 1) := by decide +kernel
theorem dX3_leader_6 : decode cX3_leader 6 = .ok (.getfield 12, 3) := by decide +kernel
theorem dX3_leader_9 : decode cX3_leader 9 = .ok (.iload_n 1, 1) := by decide +kernel
theorem dX3_leader_10 : decode cX3_leader 10 = .ok (.invokevirtual 147, 3) := by decide +kernel
theorem dX3_leader_13 : decode cX3_leader 13 = .ok (.ireturn, 1) := by decide +kernel
theorem dX3_patience_0 : decode cX3_patience 0 = .ok (.aload_n 0, 1) := by decide +kernel
theorem dX3_patience_1 : decode cX3_patience 1 = .ok (.iload_n 1, 1) := by decide +kernel
theorem dX3_patience_2 : decode cX3_patience 2 = .ok (.iload_n 2, 1) := by decide +kernel
theorem dX3_patience_3 : decode cX3_patience 3 = .ok (.invokevirtual 69, 3) := by decide +kernel
theorem dX3_patience_6 : decode cX3_patience 6 = .ok (.aload_n 0, 1) := by decide +kernel
theorem dX3_patience_7 : decode cX3_patience 7 = .ok (.getfield 12, 3) := by decide +kernel
theorem dX3_patience_10 : decode cX3_patience 10 = .ok (.iload_n 1, 1) := by decide +kernel
theorem dX3_patience_11 : decode cX3_patience 11 = .ok (.iload_n 2, 1) := by decide +kernel
theorem dX3_patience_12 : decode cX3_patience 12 = .ok (.invokevirtual 150, 3) := by decide +kernel
theorem dX3_patience_15 : decode cX3_patience 15 = .ok (.ireturn, 1) := by decide +kernel
theorem dX3_open_0 : decode cX3_open 0 = .ok (.aload_n 0, 1) := by decide +kernel
theorem dX3_open_1 : decode cX3_open 1 = .ok (.getfield 12, 3) := by decide +kernel
theorem dX3_open_4 : decode cX3_open 4 = .ok (.invokevirtual 153, 3) := by decide +kernel
theorem dX3_open_7 : decode cX3_open 7 = .ok (.ireturn, 1) := by decide +kernel
theorem dX3_stuck_0 : decode cX3_stuck 0 = .ok (.aload_n 0, 1) := by decide +kernel
theorem dX3_stuck_1 : decode cX3_stuck 1 = .ok (.getfield 12, 3) := by decide +kernel
theorem dX3_stuck_4 : decode cX3_stuck 4 = .ok (.invokevirtual 156, 3) := by decide +kernel
theorem dX3_stuck_7 : decode cX3_stuck 7 = .ok (.ireturn, 1) := by decide +kernel
theorem dX3_logLength_0 : decode cX3_logLength 0 = .ok (.iload_n 1, 1) := by decide +kernel
theorem dX3_logLength_1 : decode cX3_logLength 1 = .ok (.invokestatic 33, 3) := by decide +kernel
theorem dX3_logLength_4 : decode cX3_logLength 4 = .ok (.aload_n 0, 1) := by decide +kernel
theorem dX3_logLength_5 : decode cX3_logLength 5 = .ok (.getfield 12, 3) := by decide +kernel
theorem dX3_logLength_8 : decode cX3_logLength 8 = .ok (.iload_n 1, 1) := by decide +kernel
theorem dX3_logLength_9 : decode cX3_logLength 9 = .ok (.invokevirtual 159, 3) := by decide +kernel
theorem dX3_logLength_12 : decode cX3_logLength 12 = .ok (.ireturn, 1) := by decide +kernel
theorem dX3_log_0 : decode cX3_log 0 = .ok (.iload_n 1, 1) := by decide +kernel
theorem dX3_log_1 : decode cX3_log 1 = .ok (.invokestatic 33, 3) := by decide +kernel
theorem dX3_log_4 : decode cX3_log 4 = .ok (.iload_n 2, 1) := by decide +kernel
theorem dX3_log_5 : decode cX3_log 5 = .ok (.ifCond .ge 13, 3) := by decide +kernel
theorem dX3_log_8 : decode cX3_log 8 = .ok (.new 162, 3) := by decide +kernel
theorem dX3_log_11 : decode cX3_log 11 = .ok (.dup, 1) := by decide +kernel
theorem dX3_log_12 : decode cX3_log 12 = .ok (.ldc 164, 2) := by decide +kernel
theorem dX3_log_14 : decode cX3_log 14 = .ok (.invokespecial 166, 3) := by decide +kernel
theorem dX3_log_17 : decode cX3_log 17 = .ok (.athrow, 1) := by decide +kernel
theorem dX3_log_18 : decode cX3_log 18 = .ok (.aload_n 0, 1) := by decide +kernel
theorem dX3_log_19 : decode cX3_log 19 = .ok (.getfield 12, 3) := by decide +kernel
theorem dX3_log_22 : decode cX3_log 22 = .ok (.iload_n 1, 1) := by decide +kernel
theorem dX3_log_23 : decode cX3_log 23 = .ok (.iload_n 2, 1) := by decide +kernel
theorem dX3_log_24 : decode cX3_log 24 = .ok (.invokevirtual 167, 3) := by decide +kernel
theorem dX3_log_27 : decode cX3_log 27 = .ok (.ireturn, 1) := by decide +kernel
theorem dX3_held_0 : decode cX3_held 0 = .ok (.iload_n 1, 1) := by decide +kernel
theorem dX3_held_1 : decode cX3_held 1 = .ok (.invokestatic 33, 3) := by decide +kernel
theorem dX3_held_4 : decode cX3_held 4 = .ok (.aload_n 0, 1) := by decide +kernel
theorem dX3_held_5 : decode cX3_held 5 = .ok (.getfield 12, 3) := by decide +kernel
theorem dX3_held_8 : decode cX3_held 8 = .ok (.iload_n 1, 1) := by decide +kernel
theorem dX3_held_9 : decode cX3_held 9 = .ok (.invokevirtual 170, 3) := by decide +kernel
theorem dX3_held_12 : decode cX3_held 12 = .ok (.ireturn, 1) := by decide +kernel
theorem dX3_doubtShare_0 : decode cX3_doubtShare 0 = .ok (.aload_n 0, 1) := by decide +kernel
theorem dX3_doubtShare_1 : decode cX3_doubtShare 1 = .ok (.getfield 12, 3) := by decide +kernel
theorem dX3_doubtShare_4 : decode cX3_doubtShare 4 = .ok (.invokevirtual 176, 3) := by decide +kernel
theorem dX3_doubtShare_7 : decode cX3_doubtShare 7 = .ok (.istore_n 1, 1) := by decide +kernel
theorem dX3_doubtShare_8 : decode cX3_doubtShare 8 = .ok (.iload_n 1, 1) := by decide +kernel
theorem dX3_doubtShare_9 : decode cX3_doubtShare 9 = .ok (.ifCond .le 18, 3) := by decide +kernel
theorem dX3_doubtShare_12 : decode cX3_doubtShare 12 = .ok (.aload_n 0, 1) := by decide +kernel
theorem dX3_doubtShare_13 : decode cX3_doubtShare 13 = .ok (.getfield 12, 3) := by decide +kernel
theorem dX3_doubtShare_16 : decode cX3_doubtShare 16 = .ok (.iconst 1, 1) := by decide +kernel
theorem dX3_doubtShare_17 : decode cX3_doubtShare 17 = .ok (.invokevirtual 179, 3) := by decide +kernel
theorem dX3_doubtShare_20 : decode cX3_doubtShare 20 = .ok (.i2d, 1) := by decide +kernel
theorem dX3_doubtShare_21 : decode cX3_doubtShare 21 = .ok (.iload_n 1, 1) := by decide +kernel
theorem dX3_doubtShare_22 : decode cX3_doubtShare 22 = .ok (.i2d, 1) := by decide +kernel
theorem dX3_doubtShare_23 : decode cX3_doubtShare 23 = .ok (.ddiv, 1) := by decide +kernel
theorem dX3_doubtShare_24 : decode cX3_doubtShare 24 = .ok (.goto 4, 3) := by decide +kernel
theorem dX3_doubtShare_27 : decode cX3_doubtShare 27 = .ok (.dconst 0, 1) := by decide +kernel
theorem dX3_doubtShare_28 : decode cX3_doubtShare 28 = .ok (.dreturn, 1) := by decide +kernel
theorem dX3_reason_0 : decode cX3_reason 0 = .ok (.aload_n 0, 1) := by decide +kernel
theorem dX3_reason_1 : decode cX3_reason 1 = .ok (.iload_n 1, 1) := by decide +kernel
theorem dX3_reason_2 : decode cX3_reason 2 = .ok (.iload_n 2, 1) := by decide +kernel
theorem dX3_reason_3 : decode cX3_reason 3 = .ok (.invokevirtual 69, 3) := by decide +kernel
theorem dX3_reason_6 : decode cX3_reason 6 = .ok (.aload_n 0, 1) := by decide +kernel
theorem dX3_reason_7 : decode cX3_reason 7 = .ok (.getfield 12, 3) := by decide +kernel
theorem dX3_reason_10 : decode cX3_reason 10 = .ok (.iload_n 1, 1) := by decide +kernel
theorem dX3_reason_11 : decode cX3_reason 11 = .ok (.iload_n 2, 1) := by decide +kernel
theorem dX3_reason_12 : decode cX3_reason 12 = .ok (.invokevirtual 182, 3) := by decide +kernel
theorem dX3_reason_15 : decode cX3_reason 15 = .ok (.ireturn, 1) := by decide +kernel
theorem dX3_helper_0 : decode cX3_helper 0 = .ok (.aload_n 0, 1) := by decide +kernel
theorem dX3_helper_1 : decode cX3_helper 1 = .ok (.iload_n 1, 1) := by decide +kernel
theorem dX3_helper_2 : decode cX3_helper 2 = .ok (.iload_n 2, 1) := by decide +kernel
theorem dX3_helper_3 : decode cX3_helper 3 = .ok (.invokevirtual 69, 3) := by decide +kernel
theorem dX3_helper_6 : decode cX3_helper 6 = .ok (.aload_n 0, 1) := by decide +kernel
theorem dX3_helper_7 : decode cX3_helper 7 = .ok (.getfield 12, 3) := by decide +kernel
theorem dX3_helper_10 : decode cX3_helper 10 = .ok (.iload_n 1, 1) := by decide +kernel
theorem dX3_helper_11 : decode cX3_helper 11 = .ok (.iload_n 2, 1) := by decide +kernel
theorem dX3_helper_12 : decode cX3_helper 12 = .ok (.invokevirtual 185, 3) := by decide +kernel
theorem dX3_helper_15 : decode cX3_helper 15 = .ok (.ireturn, 1) := by decide +kernel
theorem dX3_ticksToEnd_0 : decode cX3_ticksToEnd 0 = .ok (.aload_n 0, 1) := by decide +kernel
theorem dX3_ticksToEnd_1 : decode cX3_ticksToEnd 1 = .ok (.iload_n 1, 1) := by decide +kernel
theorem dX3_ticksToEnd_2 : decode cX3_ticksToEnd 2 = .ok (.iload_n 2, 1) := by decide +kernel
theorem dX3_ticksToEnd_3 : decode cX3_ticksToEnd 3 = .ok (.invokevirtual 69, 3) := by decide +kernel
theorem dX3_ticksToEnd_6 : decode cX3_ticksToEnd 6 = .ok (.aload_n 0, 1) := by decide +kernel
theorem dX3_ticksToEnd_7 : decode cX3_ticksToEnd 7 = .ok (.getfield 16, 3) := by decide +kernel
theorem dX3_ticksToEnd_10 : decode cX3_ticksToEnd 10 = .ok (.aload_n 0, 1) := by decide +kernel
theorem dX3_ticksToEnd_11 : decode cX3_ticksToEnd 11 = .ok (.getfield 12, 3) := by decide +kernel
theorem dX3_ticksToEnd_14 : decode cX3_ticksToEnd 14 = .ok (.invokevirtual 188, 3) := by decide +kernel
theorem dX3_ticksToEnd_17 : decode cX3_ticksToEnd 17 = .ok (.iconst 0, 1) := by decide +kernel
theorem dX3_ticksToEnd_18 : decode cX3_ticksToEnd 18 = .ok (.istore_n 3, 1) := by decide +kernel
theorem dX3_ticksToEnd_19 : decode cX3_ticksToEnd 19 = .ok (.iload_n 3, 1) := by decide +kernel
theorem dX3_ticksToEnd_20 : decode cX3_ticksToEnd 20 = .ok (.bipush 40, 2) := by decide +kernel
theorem dX3_ticksToEnd_22 : decode cX3_ticksToEnd 22 = .ok (.if_icmp .gt 31, 3) := by decide +kernel
theorem dX3_ticksToEnd_25 : decode cX3_ticksToEnd 25 = .ok (.aload_n 0, 1) := by decide +kernel
theorem dX3_ticksToEnd_26 : decode cX3_ticksToEnd 26 = .ok (.getfield 16, 3) := by decide +kernel
theorem dX3_ticksToEnd_29 : decode cX3_ticksToEnd 29 = .ok (.iload_n 1, 1) := by decide +kernel
theorem dX3_ticksToEnd_30 : decode cX3_ticksToEnd 30 = .ok (.iload_n 2, 1) := by decide +kernel
theorem dX3_ticksToEnd_31 : decode cX3_ticksToEnd 31 = .ok (.invokevirtual 191, 3) := by decide +kernel
theorem dX3_ticksToEnd_34 : decode cX3_ticksToEnd 34 = .ok (.ifCond .eq 5, 3) := by decide +kernel
theorem dX3_ticksToEnd_37 : decode cX3_ticksToEnd 37 = .ok (.iload_n 3, 1) := by decide +kernel
theorem dX3_ticksToEnd_38 : decode cX3_ticksToEnd 38 = .ok (.ireturn, 1) := by decide +kernel
theorem dX3_ticksToEnd_39 : decode cX3_ticksToEnd 39 = .ok (.aload_n 0, 1) := by decide +kernel
theorem dX3_ticksToEnd_40 : decode cX3_ticksToEnd 40 = .ok (.getfield 16, 3) := by decide +kernel
theorem dX3_ticksToEnd_43 : decode cX3_ticksToEnd 43 = .ok (.iload_n 1, 1) := by decide +kernel
theorem dX3_ticksToEnd_44 : decode cX3_ticksToEnd 44 = .ok (.invokevirtual 194, 3) := by decide +kernel
theorem dX3_ticksToEnd_47 : decode cX3_ticksToEnd 47 = .ok (.iinc 3 1, 3) := by decide +kernel
theorem dX3_ticksToEnd_50 : decode cX3_ticksToEnd 50 = .ok (.goto (-31), 3) := by decide +kernel
theorem dX3_ticksToEnd_53 : decode cX3_ticksToEnd 53 = .ok (.iconst (-1), 1) := by decide +kernel
theorem dX3_ticksToEnd_54 : decode cX3_ticksToEnd 54 = .ok (.ireturn, 1) := by decide +kernel
theorem dX3_undo_0 : decode cX3_undo 0 = .ok (.aload_n 0, 1) := by decide +kernel
theorem dX3_undo_1 : decode cX3_undo 1 = .ok (.getfield 22, 3) := by decide +kernel
theorem dX3_undo_4 : decode cX3_undo 4 = .ok (.invokevirtual 228, 3) := by decide +kernel
theorem dX3_undo_7 : decode cX3_undo 7 = .ok (.ifCond .ne 13, 3) := by decide +kernel
theorem dX3_undo_10 : decode cX3_undo 10 = .ok (.new 56, 3) := by decide +kernel
theorem dX3_undo_13 : decode cX3_undo 13 = .ok (.dup, 1) := by decide +kernel
theorem dX3_undo_14 : decode cX3_undo 14 = .ok (.ldc 229, 2) := by decide +kernel
theorem dX3_undo_16 : decode cX3_undo 16 = .ok (.invokespecial 60, 3) := by decide +kernel
theorem dX3_undo_19 : decode cX3_undo 19 = .ok (.athrow, 1) := by decide +kernel
theorem dX3_undo_20 : decode cX3_undo 20 = .ok (.aload_n 0, 1) := by decide +kernel
theorem dX3_undo_21 : decode cX3_undo 21 = .ok (.getfield 22, 3) := by decide +kernel
theorem dX3_undo_24 : decode cX3_undo 24 = .ok (.aload_n 0, 1) := by decide +kernel
theorem dX3_undo_25 : decode cX3_undo 25 = .ok (.getfield 12, 3) := by decide +kernel
theorem dX3_undo_28 : decode cX3_undo 28 = .ok (.invokevirtual 231, 3) := by decide +kernel
theorem dX3_undo_31 : decode cX3_undo 31 = .ok (.aload_n 0, 1) := by decide +kernel
theorem dX3_undo_32 : decode cX3_undo 32 = .ok (.getfield 22, 3) := by decide +kernel
theorem dX3_undo_35 : decode cX3_undo 35 = .ok (.invokevirtual 228, 3) := by decide +kernel
theorem dX3_undo_38 : decode cX3_undo 38 = .ok (.ireturn, 1) := by decide +kernel
theorem dX3_savedStates_0 : decode cX3_savedStates 0 = .ok (.aload_n 0, 1) := by decide +kernel
theorem dX3_savedStates_1 : decode cX3_savedStates 1 = .ok (.getfield 22, 3) := by decide +kernel
theorem dX3_savedStates_4 : decode cX3_savedStates 4 = .ok (.invokevirtual 228, 3) := by decide +kernel
theorem dX3_savedStates_7 : decode cX3_savedStates 7 = .ok (.ireturn, 1) := by decide +kernel
theorem dX3_digest_0 : decode cX3_digest 0 = .ok (.aload_n 0, 1) := by decide +kernel
theorem dX3_digest_1 : decode cX3_digest 1 = .ok (.getfield 12, 3) := by decide +kernel
theorem dX3_digest_4 : decode cX3_digest 4 = .ok (.invokevirtual 234, 3) := by decide +kernel
theorem dX3_digest_7 : decode cX3_digest 7 = .ok (.lreturn, 1) := by decide +kernel
theorem dX3_checkDeal_0 : decode cX3_checkDeal 0 = .ok (.aload_n 0, 1) := by decide +kernel
theorem dX3_checkDeal_1 : decode cX3_checkDeal 1 = .ok (.getfield 12, 3) := by decide +kernel
theorem dX3_checkDeal_4 : decode cX3_checkDeal 4 = .ok (.iload_n 1, 1) := by decide +kernel
theorem dX3_checkDeal_5 : decode cX3_checkDeal 5 = .ok (.invokevirtual 247, 3) := by decide +kernel
theorem dX3_checkDeal_8 : decode cX3_checkDeal 8 = .ok (.ifCond .ne 13, 3) := by decide +kernel
theorem dX3_checkDeal_11 : decode cX3_checkDeal 11 = .ok (.new 162, 3) := by decide +kernel
theorem dX3_checkDeal_14 : decode cX3_checkDeal 14 = .ok (.dup, 1) := by decide +kernel
theorem dX3_checkDeal_15 : decode cX3_checkDeal 15 = .ok (.ldc 250, 2) := by decide +kernel
theorem dX3_checkDeal_17 : decode cX3_checkDeal 17 = .ok (.invokespecial 166, 3) := by decide +kernel
theorem dX3_checkDeal_20 : decode cX3_checkDeal 20 = .ok (.athrow, 1) := by decide +kernel
theorem dX3_checkDeal_21 : decode cX3_checkDeal 21 = .ok (.return_, 1) := by decide +kernel
theorem dX3_checkDealAndSite_0 : decode cX3_checkDealAndSite 0 = .ok (.aload_n 0, 1) := by decide +kernel
theorem dX3_checkDealAndSite_1 : decode cX3_checkDealAndSite 1 = .ok (.iload_n 1, 1) := by decide +kernel
theorem dX3_checkDealAndSite_2 : decode cX3_checkDealAndSite 2 = .ok (.invokevirtual 82, 3) := by decide +kernel
theorem dX3_checkDealAndSite_5 : decode cX3_checkDealAndSite 5 = .ok (.iload_n 2, 1) := by decide +kernel
theorem dX3_checkDealAndSite_6 : decode cX3_checkDealAndSite 6 = .ok (.invokestatic 33, 3) := by decide +kernel
theorem dX3_checkDealAndSite_9 : decode cX3_checkDealAndSite 9 = .ok (.return_, 1) := by decide +kernel
theorem dX3_checkSite_0 : decode cX3_checkSite 0 = .ok (.iload_n 0, 1) := by decide +kernel
theorem dX3_checkSite_1 : decode cX3_checkSite 1 = .ok (.invokestatic 252, 3) := by decide +kernel
theorem dX3_checkSite_4 : decode cX3_checkSite 4 = .ok (.ifCond .ne 13, 3) := by decide +kernel
theorem dX3_checkSite_7 : decode cX3_checkSite 7 = .ok (.new 162, 3) := by decide +kernel
theorem dX3_checkSite_10 : decode cX3_checkSite 10 = .ok (.dup, 1) := by decide +kernel
theorem dX3_checkSite_11 : decode cX3_checkSite 11 = .ok (.ldc 255, 2) := by decide +kernel
theorem dX3_checkSite_13 : decode cX3_checkSite 13 = .ok (.invokespecial 166, 3) := by decide +kernel
theorem dX3_checkSite_16 : decode cX3_checkSite 16 = .ok (.athrow, 1) := by decide +kernel
theorem dX3_checkSite_17 : decode cX3_checkSite 17 = .ok (.return_, 1) := by decide +kernel
theorem dX3_isSite_0 : decode cX3_isSite 0 = .ok (.iload_n 0, 1) := by decide +kernel
theorem dX3_isSite_1 : decode cX3_isSite 1 = .ok (.ifCond .lt 13, 3) := by decide +kernel
theorem dX3_isSite_4 : decode cX3_isSite 4 = .ok (.iload_n 0, 1) := by decide +kernel
theorem dX3_isSite_5 : decode cX3_isSite 5 = .ok (.bipush 6, 2) := by decide +kernel
theorem dX3_isSite_7 : decode cX3_isSite 7 = .ok (.if_icmp .ge 7, 3) := by decide +kernel
theorem dX3_isSite_10 : decode cX3_isSite 10 = .ok (.iconst 1, 1) := by decide +kernel
theorem dX3_isSite_11 : decode cX3_isSite 11 = .ok (.goto 4, 3) := by decide +kernel
theorem dX3_isSite_14 : decode cX3_isSite 14 = .ok (.iconst 0, 1) := by decide +kernel
theorem dX3_isSite_15 : decode cX3_isSite 15 = .ok (.ireturn, 1) := by decide +kernel
theorem dJ6_bitCount_0f7a4_0 : decode cJ6_bitCount_0f7a4 0 = .ok (.iload_n 0, 1) := by decide +kernel
theorem dJ6_bitCount_0f7a4_1 : decode cJ6_bitCount_0f7a4 1 = .ok (.iload_n 0, 1) := by decide +kernel
theorem dJ6_bitCount_0f7a4_2 : decode cJ6_bitCount_0f7a4 2 = .ok (.iconst 1, 1) := by decide +kernel
theorem dJ6_bitCount_0f7a4_3 : decode cJ6_bitCount_0f7a4 3 = .ok (.iushr, 1) := by decide +kernel
theorem dJ6_bitCount_0f7a4_4 : decode cJ6_bitCount_0f7a4 4 = .ok (.ldc_w 265, 3) := by decide +kernel
theorem dJ6_bitCount_0f7a4_7 : decode cJ6_bitCount_0f7a4 7 = .ok (.iand, 1) := by decide +kernel
theorem dJ6_bitCount_0f7a4_8 : decode cJ6_bitCount_0f7a4 8 = .ok (.isub, 1) := by decide +kernel
theorem dJ6_bitCount_0f7a4_9 : decode cJ6_bitCount_0f7a4 9 = .ok (.istore_n 0, 1) := by decide +kernel
theorem dJ6_bitCount_0f7a4_10 : decode cJ6_bitCount_0f7a4 10 = .ok (.iload_n 0, 1) := by decide +kernel
theorem dJ6_bitCount_0f7a4_11 : decode cJ6_bitCount_0f7a4 11 = .ok (.ldc_w 266, 3) := by decide +kernel
theorem dJ6_bitCount_0f7a4_14 : decode cJ6_bitCount_0f7a4 14 = .ok (.iand, 1) := by decide +kernel
theorem dJ6_bitCount_0f7a4_15 : decode cJ6_bitCount_0f7a4 15 = .ok (.iload_n 0, 1) := by decide +kernel
theorem dJ6_bitCount_0f7a4_16 : decode cJ6_bitCount_0f7a4 16 = .ok (.iconst 2, 1) := by decide +kernel
theorem dJ6_bitCount_0f7a4_17 : decode cJ6_bitCount_0f7a4 17 = .ok (.iushr, 1) := by decide +kernel
theorem dJ6_bitCount_0f7a4_18 : decode cJ6_bitCount_0f7a4 18 = .ok (.ldc_w 266, 3) := by decide +kernel
theorem dJ6_bitCount_0f7a4_21 : decode cJ6_bitCount_0f7a4 21 = .ok (.iand, 1) := by decide +kernel
theorem dJ6_bitCount_0f7a4_22 : decode cJ6_bitCount_0f7a4 22 = .ok (.iadd, 1) := by decide +kernel
theorem dJ6_bitCount_0f7a4_23 : decode cJ6_bitCount_0f7a4 23 = .ok (.istore_n 0, 1) := by decide +kernel
theorem dJ6_bitCount_0f7a4_24 : decode cJ6_bitCount_0f7a4 24 = .ok (.iload_n 0, 1) := by decide +kernel
theorem dJ6_bitCount_0f7a4_25 : decode cJ6_bitCount_0f7a4 25 = .ok (.iload_n 0, 1) := by decide +kernel
theorem dJ6_bitCount_0f7a4_26 : decode cJ6_bitCount_0f7a4 26 = .ok (.iconst 4, 1) := by decide +kernel
theorem dJ6_bitCount_0f7a4_27 : decode cJ6_bitCount_0f7a4 27 = .ok (.iushr, 1) := by decide +kernel
theorem dJ6_bitCount_0f7a4_28 : decode cJ6_bitCount_0f7a4 28 = .ok (.iadd, 1) := by decide +kernel
theorem dJ6_bitCount_0f7a4_29 : decode cJ6_bitCount_0f7a4 29 = .ok (.ldc_w 267, 3) := by decide +kernel
theorem dJ6_bitCount_0f7a4_32 : decode cJ6_bitCount_0f7a4 32 = .ok (.iand, 1) := by decide +kernel
theorem dJ6_bitCount_0f7a4_33 : decode cJ6_bitCount_0f7a4 33 = .ok (.istore_n 0, 1) := by decide +kernel
theorem dJ6_bitCount_0f7a4_34 : decode cJ6_bitCount_0f7a4 34 = .ok (.iload_n 0, 1) := by decide +kernel
theorem dJ6_bitCount_0f7a4_35 : decode cJ6_bitCount_0f7a4 35 = .ok (.iload_n 0, 1) := by decide +kernel
theorem dJ6_bitCount_0f7a4_36 : decode cJ6_bitCount_0f7a4 36 = .ok (.bipush 8, 2) := by decide +kernel
theorem dJ6_bitCount_0f7a4_38 : decode cJ6_bitCount_0f7a4 38 = .ok (.iushr, 1) := by decide +kernel
theorem dJ6_bitCount_0f7a4_39 : decode cJ6_bitCount_0f7a4 39 = .ok (.iadd, 1) := by decide +kernel
theorem dJ6_bitCount_0f7a4_40 : decode cJ6_bitCount_0f7a4 40 = .ok (.istore_n 0, 1) := by decide +kernel
theorem dJ6_bitCount_0f7a4_41 : decode cJ6_bitCount_0f7a4 41 = .ok (.iload_n 0, 1) := by decide +kernel
theorem dJ6_bitCount_0f7a4_42 : decode cJ6_bitCount_0f7a4 42 = .ok (.iload_n 0, 1) := by decide +kernel
theorem dJ6_bitCount_0f7a4_43 : decode cJ6_bitCount_0f7a4 43 = .ok (.bipush 16, 2) := by decide +kernel
theorem dJ6_bitCount_0f7a4_45 : decode cJ6_bitCount_0f7a4 45 = .ok (.iushr, 1) := by decide +kernel
theorem dJ6_bitCount_0f7a4_46 : decode cJ6_bitCount_0f7a4 46 = .ok (.iadd, 1) := by decide +kernel
theorem dJ6_bitCount_0f7a4_47 : decode cJ6_bitCount_0f7a4 47 = .ok (.istore_n 0, 1) := by decide +kernel
theorem dJ6_bitCount_0f7a4_48 : decode cJ6_bitCount_0f7a4 48 = .ok (.iload_n 0, 1) := by decide +kernel
theorem dJ6_bitCount_0f7a4_49 : decode cJ6_bitCount_0f7a4 49 = .ok (.bipush 63, 2) := by decide +kernel
theorem dJ6_bitCount_0f7a4_51 : decode cJ6_bitCount_0f7a4 51 = .ok (.iand, 1) := by decide +kernel
theorem dJ6_bitCount_0f7a4_52 : decode cJ6_bitCount_0f7a4 52 = .ok (.ireturn, 1) := by decide +kernel
theorem dJ9_min_7cf53_0 : decode cJ9_min_7cf53 0 = .ok (.iload_n 0, 1) := by decide +kernel
theorem dJ9_min_7cf53_1 : decode cJ9_min_7cf53 1 = .ok (.iload_n 1, 1) := by decide +kernel
theorem dJ9_min_7cf53_2 : decode cJ9_min_7cf53 2 = .ok (.if_icmp .gt 7, 3) := by decide +kernel
theorem dJ9_min_7cf53_5 : decode cJ9_min_7cf53 5 = .ok (.iload_n 0, 1) := by decide +kernel
theorem dJ9_min_7cf53_6 : decode cJ9_min_7cf53 6 = .ok (.goto 4, 3) := by decide +kernel
theorem dJ9_min_7cf53_9 : decode cJ9_min_7cf53 9 = .ok (.iload_n 1, 1) := by decide +kernel
theorem dJ9_min_7cf53_10 : decode cJ9_min_7cf53 10 = .ok (.ireturn, 1) := by decide +kernel
