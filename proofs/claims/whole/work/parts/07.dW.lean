theorem dL_begin_0 : decode cL_begin 0 = .ok (.aload 4, 2) := by decide +kernel
theorem dL_begin_2 : decode cL_begin 2 = .ok (.iconst 0, 1) := by decide +kernel
theorem dL_begin_3 : decode cL_begin 3 = .ok (.aload_n 0, 1) := by decide +kernel
theorem dL_begin_4 : decode cL_begin 4 = .ok (.iload_n 1, 1) := by decide +kernel
theorem dL_begin_5 : decode cL_begin 5 = .ok (.iload_n 2, 1) := by decide +kernel
theorem dL_begin_6 : decode cL_begin 6 = .ok (.iload_n 3, 1) := by decide +kernel
theorem dL_begin_7 : decode cL_begin 7 = .ok (.invokevirtual 7, 3) := by decide +kernel
theorem dL_begin_10 : decode cL_begin 10 = .ok (.i2l, 1) := by decide +kernel
theorem dL_begin_11 : decode cL_begin 11 = .ok (.lastore, 1) := by decide +kernel
theorem dL_begin_12 : decode cL_begin 12 = .ok (.goto 15, 3) := by decide +kernel
theorem dL_begin_15 : decode cL_begin 15 = .ok (.astore 5, 2) := by decide +kernel
theorem dL_begin_17 : decode cL_begin 17 = .ok (.iconst 1, 1) := by decide +kernel
theorem dL_begin_18 : decode cL_begin 18 = .ok (.ireturn, 1) := by decide +kernel
theorem dL_begin_19 : decode cL_begin 19 = .ok (.astore 5, 2) := by decide +kernel
theorem dL_begin_21 : decode cL_begin 21 = .ok (.iconst 2, 1) := by decide +kernel
theorem dL_begin_22 : decode cL_begin 22 = .ok (.ireturn, 1) := by decide +kernel
theorem dL_begin_23 : decode cL_begin 23 = .ok (.astore 5, 2) := by decide +kernel
theorem dL_begin_25 : decode cL_begin 25 = .ok (.iconst 3, 1) := by decide +kernel
theorem dL_begin_26 : decode cL_begin 26 = .ok (.ireturn, 1) := by decide +kernel
theorem dL_begin_27 : decode cL_begin 27 = .ok (.iconst 0, 1) := by decide +kernel
theorem dL_begin_28 : decode cL_begin 28 = .ok (.ireturn, 1) := by decide +kernel
theorem dL_vote_0 : decode cL_vote 0 = .ok (.aload 4, 2) := by decide +kernel
theorem dL_vote_2 : decode cL_vote 2 = .ok (.iconst 0, 1) := by decide +kernel
theorem dL_vote_3 : decode cL_vote 3 = .ok (.aload_n 0, 1) := by decide +kernel
theorem dL_vote_4 : decode cL_vote 4 = .ok (.iload_n 1, 1) := by decide +kernel
theorem dL_vote_5 : decode cL_vote 5 = .ok (.iload_n 2, 1) := by decide +kernel
theorem dL_vote_6 : decode cL_vote 6 = .ok (.iload_n 3, 1) := by decide +kernel
theorem dL_vote_7 : decode cL_vote 7 = .ok (.invokevirtual 19, 3) := by decide +kernel
theorem dL_vote_10 : decode cL_vote 10 = .ok (.i2l, 1) := by decide +kernel
theorem dL_vote_11 : decode cL_vote 11 = .ok (.lastore, 1) := by decide +kernel
theorem dL_vote_12 : decode cL_vote 12 = .ok (.goto 11, 3) := by decide +kernel
theorem dL_vote_15 : decode cL_vote 15 = .ok (.astore 5, 2) := by decide +kernel
theorem dL_vote_17 : decode cL_vote 17 = .ok (.iconst 1, 1) := by decide +kernel
theorem dL_vote_18 : decode cL_vote 18 = .ok (.ireturn, 1) := by decide +kernel
theorem dL_vote_19 : decode cL_vote 19 = .ok (.astore 5, 2) := by decide +kernel
theorem dL_vote_21 : decode cL_vote 21 = .ok (.iconst 2, 1) := by decide +kernel
theorem dL_vote_22 : decode cL_vote 22 = .ok (.ireturn, 1) := by decide +kernel
theorem dL_vote_23 : decode cL_vote 23 = .ok (.iconst 0, 1) := by decide +kernel
theorem dL_vote_24 : decode cL_vote 24 = .ok (.ireturn, 1) := by decide +kernel
theorem dL_decide_0 : decode cL_decide 0 = .ok (.aload_n 2, 1) := by decide +kernel
theorem dL_decide_1 : decode cL_decide 1 = .ok (.iconst 0, 1) := by decide +kernel
theorem dL_decide_2 : decode cL_decide 2 = .ok (.aload_n 0, 1) := by decide +kernel
theorem dL_decide_3 : decode cL_decide 3 = .ok (.iload_n 1, 1) := by decide +kernel
theorem dL_decide_4 : decode cL_decide 4 = .ok (.invokevirtual 23, 3) := by decide +kernel
theorem dL_decide_7 : decode cL_decide 7 = .ok (.i2l, 1) := by decide +kernel
theorem dL_decide_8 : decode cL_decide 8 = .ok (.lastore, 1) := by decide +kernel
theorem dL_decide_9 : decode cL_decide 9 = .ok (.goto 9, 3) := by decide +kernel
theorem dL_decide_12 : decode cL_decide 12 = .ok (.astore_n 3, 1) := by decide +kernel
theorem dL_decide_13 : decode cL_decide 13 = .ok (.iconst 1, 1) := by decide +kernel
theorem dL_decide_14 : decode cL_decide 14 = .ok (.ireturn, 1) := by decide +kernel
theorem dL_decide_15 : decode cL_decide 15 = .ok (.astore_n 3, 1) := by decide +kernel
theorem dL_decide_16 : decode cL_decide 16 = .ok (.iconst 2, 1) := by decide +kernel
theorem dL_decide_17 : decode cL_decide 17 = .ok (.ireturn, 1) := by decide +kernel
theorem dL_decide_18 : decode cL_decide 18 = .ok (.iconst 0, 1) := by decide +kernel
theorem dL_decide_19 : decode cL_decide 19 = .ok (.ireturn, 1) := by decide +kernel
theorem dL_tell_0 : decode cL_tell 0 = .ok (.aload_n 3, 1) := by decide +kernel
theorem dL_tell_1 : decode cL_tell 1 = .ok (.iconst 0, 1) := by decide +kernel
theorem dL_tell_2 : decode cL_tell 2 = .ok (.aload_n 0, 1) := by decide +kernel
theorem dL_tell_3 : decode cL_tell 3 = .ok (.iload_n 1, 1) := by decide +kernel
theorem dL_tell_4 : decode cL_tell 4 = .ok (.iload_n 2, 1) := by decide +kernel
theorem dL_tell_5 : decode cL_tell 5 = .ok (.invokevirtual 27, 3) := by decide +kernel
theorem dL_tell_8 : decode cL_tell 8 = .ok (.i2l, 1) := by decide +kernel
theorem dL_tell_9 : decode cL_tell 9 = .ok (.lastore, 1) := by decide +kernel
theorem dL_tell_10 : decode cL_tell 10 = .ok (.goto 11, 3) := by decide +kernel
theorem dL_tell_13 : decode cL_tell 13 = .ok (.astore 4, 2) := by decide +kernel
theorem dL_tell_15 : decode cL_tell 15 = .ok (.iconst 1, 1) := by decide +kernel
theorem dL_tell_16 : decode cL_tell 16 = .ok (.ireturn, 1) := by decide +kernel
theorem dL_tell_17 : decode cL_tell 17 = .ok (.astore 4, 2) := by decide +kernel
theorem dL_tell_19 : decode cL_tell 19 = .ok (.iconst 2, 1) := by decide +kernel
theorem dL_tell_20 : decode cL_tell 20 = .ok (.ireturn, 1) := by decide +kernel
theorem dL_tell_21 : decode cL_tell 21 = .ok (.iconst 0, 1) := by decide +kernel
theorem dL_tell_22 : decode cL_tell 22 = .ok (.ireturn, 1) := by decide +kernel
theorem dL_ask_0 : decode cL_ask 0 = .ok (.aload 4, 2) := by decide +kernel
theorem dL_ask_2 : decode cL_ask 2 = .ok (.iconst 0, 1) := by decide +kernel
theorem dL_ask_3 : decode cL_ask 3 = .ok (.aload_n 0, 1) := by decide +kernel
theorem dL_ask_4 : decode cL_ask 4 = .ok (.iload_n 1, 1) := by decide +kernel
theorem dL_ask_5 : decode cL_ask 5 = .ok (.iload_n 2, 1) := by decide +kernel
theorem dL_ask_6 : decode cL_ask 6 = .ok (.iload_n 3, 1) := by decide +kernel
theorem dL_ask_7 : decode cL_ask 7 = .ok (.invokevirtual 31, 3) := by decide +kernel
theorem dL_ask_10 : decode cL_ask 10 = .ok (.i2l, 1) := by decide +kernel
theorem dL_ask_11 : decode cL_ask 11 = .ok (.lastore, 1) := by decide +kernel
theorem dL_ask_12 : decode cL_ask 12 = .ok (.goto 15, 3) := by decide +kernel
theorem dL_ask_15 : decode cL_ask 15 = .ok (.astore 5, 2) := by decide +kernel
theorem dL_ask_17 : decode cL_ask 17 = .ok (.iconst 1, 1) := by decide +kernel
theorem dL_ask_18 : decode cL_ask 18 = .ok (.ireturn, 1) := by decide +kernel
theorem dL_ask_19 : decode cL_ask 19 = .ok (.astore 5, 2) := by decide +kernel
theorem dL_ask_21 : decode cL_ask 21 = .ok (.iconst 2, 1) := by decide +kernel
theorem dL_ask_22 : decode cL_ask 22 = .ok (.ireturn, 1) := by decide +kernel
theorem dL_ask_23 : decode cL_ask 23 = .ok (.astore 5, 2) := by decide +kernel
theorem dL_ask_25 : decode cL_ask 25 = .ok (.iconst 3, 1) := by decide +kernel
theorem dL_ask_26 : decode cL_ask 26 = .ok (.ireturn, 1) := by decide +kernel
theorem dL_ask_27 : decode cL_ask 27 = .ok (.iconst 0, 1) := by decide +kernel
theorem dL_ask_28 : decode cL_ask 28 = .ok (.ireturn, 1) := by decide +kernel
theorem dL_fallSilent_0 : decode cL_fallSilent 0 = .ok (.aload_n 2, 1) := by decide +kernel
theorem dL_fallSilent_1 : decode cL_fallSilent 1 = .ok (.iconst 0, 1) := by decide +kernel
theorem dL_fallSilent_2 : decode cL_fallSilent 2 = .ok (.aload_n 0, 1) := by decide +kernel
theorem dL_fallSilent_3 : decode cL_fallSilent 3 = .ok (.iload_n 1, 1) := by decide +kernel
theorem dL_fallSilent_4 : decode cL_fallSilent 4 = .ok (.invokevirtual 34, 3) := by decide +kernel
theorem dL_fallSilent_7 : decode cL_fallSilent 7 = .ok (.i2l, 1) := by decide +kernel
theorem dL_fallSilent_8 : decode cL_fallSilent 8 = .ok (.lastore, 1) := by decide +kernel
theorem dL_fallSilent_9 : decode cL_fallSilent 9 = .ok (.goto 9, 3) := by decide +kernel
theorem dL_fallSilent_12 : decode cL_fallSilent 12 = .ok (.astore_n 3, 1) := by decide +kernel
theorem dL_fallSilent_13 : decode cL_fallSilent 13 = .ok (.iconst 1, 1) := by decide +kernel
theorem dL_fallSilent_14 : decode cL_fallSilent 14 = .ok (.ireturn, 1) := by decide +kernel
theorem dL_fallSilent_15 : decode cL_fallSilent 15 = .ok (.astore_n 3, 1) := by decide +kernel
theorem dL_fallSilent_16 : decode cL_fallSilent 16 = .ok (.iconst 2, 1) := by decide +kernel
theorem dL_fallSilent_17 : decode cL_fallSilent 17 = .ok (.ireturn, 1) := by decide +kernel
theorem dL_fallSilent_18 : decode cL_fallSilent 18 = .ok (.iconst 0, 1) := by decide +kernel
theorem dL_fallSilent_19 : decode cL_fallSilent 19 = .ok (.ireturn, 1) := by decide +kernel
theorem dL_comeBack_0 : decode cL_comeBack 0 = .ok (.aload_n 2, 1) := by decide +kernel
theorem dL_comeBack_1 : decode cL_comeBack 1 = .ok (.iconst 0, 1) := by decide +kernel
theorem dL_comeBack_2 : decode cL_comeBack 2 = .ok (.aload_n 0, 1) := by decide +kernel
theorem dL_comeBack_3 : decode cL_comeBack 3 = .ok (.iload_n 1, 1) := by decide +kernel
theorem dL_comeBack_4 : decode cL_comeBack 4 = .ok (.invokevirtual 37, 3) := by decide +kernel
theorem dL_comeBack_7 : decode cL_comeBack 7 = .ok (.i2l, 1) := by decide +kernel
theorem dL_comeBack_8 : decode cL_comeBack 8 = .ok (.lastore, 1) := by decide +kernel
theorem dL_comeBack_9 : decode cL_comeBack 9 = .ok (.goto 9, 3) := by decide +kernel
theorem dL_comeBack_12 : decode cL_comeBack 12 = .ok (.astore_n 3, 1) := by decide +kernel
theorem dL_comeBack_13 : decode cL_comeBack 13 = .ok (.iconst 1, 1) := by decide +kernel
theorem dL_comeBack_14 : decode cL_comeBack 14 = .ok (.ireturn, 1) := by decide +kernel
theorem dL_comeBack_15 : decode cL_comeBack 15 = .ok (.astore_n 3, 1) := by decide +kernel
theorem dL_comeBack_16 : decode cL_comeBack 16 = .ok (.iconst 2, 1) := by decide +kernel
theorem dL_comeBack_17 : decode cL_comeBack 17 = .ok (.ireturn, 1) := by decide +kernel
theorem dL_comeBack_18 : decode cL_comeBack 18 = .ok (.iconst 0, 1) := by decide +kernel
theorem dL_comeBack_19 : decode cL_comeBack 19 = .ok (.ireturn, 1) := by decide +kernel
theorem dL_pass_0 : decode cL_pass 0 = .ok (.aload_n 2, 1) := by decide +kernel
theorem dL_pass_1 : decode cL_pass 1 = .ok (.iconst 0, 1) := by decide +kernel
theorem dL_pass_2 : decode cL_pass 2 = .ok (.aload_n 0, 1) := by decide +kernel
theorem dL_pass_3 : decode cL_pass 3 = .ok (.iload_n 1, 1) := by decide +kernel
theorem dL_pass_4 : decode cL_pass 4 = .ok (.invokevirtual 40, 3) := by decide +kernel
theorem dL_pass_7 : decode cL_pass 7 = .ok (.i2l, 1) := by decide +kernel
theorem dL_pass_8 : decode cL_pass 8 = .ok (.lastore, 1) := by decide +kernel
theorem dL_pass_9 : decode cL_pass 9 = .ok (.goto 6, 3) := by decide +kernel
theorem dL_pass_12 : decode cL_pass 12 = .ok (.astore_n 3, 1) := by decide +kernel
theorem dL_pass_13 : decode cL_pass 13 = .ok (.iconst 1, 1) := by decide +kernel
theorem dL_pass_14 : decode cL_pass 14 = .ok (.ireturn, 1) := by decide +kernel
theorem dL_pass_15 : decode cL_pass 15 = .ok (.iconst 0, 1) := by decide +kernel
theorem dL_pass_16 : decode cL_pass 16 = .ok (.ireturn, 1) := by decide +kernel
theorem dL_setPatience_0 : decode cL_setPatience 0 = .ok (.aload_n 2, 1) := by decide +kernel
theorem dL_setPatience_1 : decode cL_setPatience 1 = .ok (.iconst 0, 1) := by decide +kernel
theorem dL_setPatience_2 : decode cL_setPatience 2 = .ok (.aload_n 0, 1) := by decide +kernel
theorem dL_setPatience_3 : decode cL_setPatience 3 = .ok (.iload_n 1, 1) := by decide +kernel
theorem dL_setPatience_4 : decode cL_setPatience 4 = .ok (.invokevirtual 43, 3) := by decide +kernel
theorem dL_setPatience_7 : decode cL_setPatience 7 = .ok (.i2l, 1) := by decide +kernel
theorem dL_setPatience_8 : decode cL_setPatience 8 = .ok (.lastore, 1) := by decide +kernel
theorem dL_setPatience_9 : decode cL_setPatience 9 = .ok (.goto 6, 3) := by decide +kernel
theorem dL_setPatience_12 : decode cL_setPatience 12 = .ok (.astore_n 3, 1) := by decide +kernel
theorem dL_setPatience_13 : decode cL_setPatience 13 = .ok (.iconst 1, 1) := by decide +kernel
theorem dL_setPatience_14 : decode cL_setPatience 14 = .ok (.ireturn, 1) := by decide +kernel
theorem dL_setPatience_15 : decode cL_setPatience 15 = .ok (.iconst 0, 1) := by decide +kernel
theorem dL_setPatience_16 : decode cL_setPatience 16 = .ok (.ireturn, 1) := by decide +kernel
theorem dL_isUp_0 : decode cL_isUp 0 = .ok (.aload_n 2, 1) := by decide +kernel
theorem dL_isUp_1 : decode cL_isUp 1 = .ok (.iconst 0, 1) := by decide +kernel
theorem dL_isUp_2 : decode cL_isUp 2 = .ok (.aload_n 0, 1) := by decide +kernel
theorem dL_isUp_3 : decode cL_isUp 3 = .ok (.iload_n 1, 1) := by decide +kernel
theorem dL_isUp_4 : decode cL_isUp 4 = .ok (.invokevirtual 46, 3) := by decide +kernel
theorem dL_isUp_7 : decode cL_isUp 7 = .ok (.ifCond .eq 7, 3) := by decide +kernel
theorem dL_isUp_10 : decode cL_isUp 10 = .ok (.lconst 1, 1) := by decide +kernel
theorem dL_isUp_11 : decode cL_isUp 11 = .ok (.goto 4, 3) := by decide +kernel
theorem dL_isUp_14 : decode cL_isUp 14 = .ok (.lconst 0, 1) := by decide +kernel
theorem dL_isUp_15 : decode cL_isUp 15 = .ok (.lastore, 1) := by decide +kernel
theorem dL_isUp_16 : decode cL_isUp 16 = .ok (.goto 6, 3) := by decide +kernel
theorem dL_isUp_19 : decode cL_isUp 19 = .ok (.astore_n 3, 1) := by decide +kernel
theorem dL_isUp_20 : decode cL_isUp 20 = .ok (.iconst 1, 1) := by decide +kernel
theorem dL_isUp_21 : decode cL_isUp 21 = .ok (.ireturn, 1) := by decide +kernel
theorem dL_isUp_22 : decode cL_isUp 22 = .ok (.iconst 0, 1) := by decide +kernel
theorem dL_isUp_23 : decode cL_isUp 23 = .ok (.ireturn, 1) := by decide +kernel
theorem dL_state_0 : decode cL_state 0 = .ok (.aload_n 3, 1) := by decide +kernel
theorem dL_state_1 : decode cL_state 1 = .ok (.iconst 0, 1) := by decide +kernel
theorem dL_state_2 : decode cL_state 2 = .ok (.aload_n 0, 1) := by decide +kernel
theorem dL_state_3 : decode cL_state 3 = .ok (.iload_n 1, 1) := by decide +kernel
theorem dL_state_4 : decode cL_state 4 = .ok (.iload_n 2, 1) := by decide +kernel
theorem dL_state_5 : decode cL_state 5 = .ok (.invokevirtual 50, 3) := by decide +kernel
theorem dL_state_8 : decode cL_state 8 = .ok (.i2l, 1) := by decide +kernel
theorem dL_state_9 : decode cL_state 9 = .ok (.lastore, 1) := by decide +kernel
theorem dL_state_10 : decode cL_state 10 = .ok (.goto 7, 3) := by decide +kernel
theorem dL_state_13 : decode cL_state 13 = .ok (.astore 4, 2) := by decide +kernel
theorem dL_state_15 : decode cL_state 15 = .ok (.iconst 1, 1) := by decide +kernel
theorem dL_state_16 : decode cL_state 16 = .ok (.ireturn, 1) := by decide +kernel
theorem dL_state_17 : decode cL_state 17 = .ok (.iconst 0, 1) := by decide +kernel
theorem dL_state_18 : decode cL_state 18 = .ok (.ireturn, 1) := by decide +kernel
theorem dL_decision_0 : decode cL_decision 0 = .ok (.aload_n 2, 1) := by decide +kernel
theorem dL_decision_1 : decode cL_decision 1 = .ok (.iconst 0, 1) := by decide +kernel
theorem dL_decision_2 : decode cL_decision 2 = .ok (.aload_n 0, 1) := by decide +kernel
theorem dL_decision_3 : decode cL_decision 3 = .ok (.iload_n 1, 1) := by decide +kernel
theorem dL_decision_4 : decode cL_decision 4 = .ok (.invokevirtual 53, 3) := by decide +kernel
theorem dL_decision_7 : decode cL_decision 7 = .ok (.i2l, 1) := by decide +kernel
theorem dL_decision_8 : decode cL_decision 8 = .ok (.lastore, 1) := by decide +kernel
theorem dL_decision_9 : decode cL_decision 9 = .ok (.goto 6, 3) := by decide +kernel
theorem dL_decision_12 : decode cL_decision 12 = .ok (.astore_n 3, 1) := by decide +kernel
theorem dL_decision_13 : decode cL_decision 13 = .ok (.iconst 1, 1) := by decide +kernel
theorem dL_decision_14 : decode cL_decision 14 = .ok (.ireturn, 1) := by decide +kernel
theorem dL_decision_15 : decode cL_decision 15 = .ok (.iconst 0, 1) := by decide +kernel
theorem dL_decision_16 : decode cL_decision 16 = .ok (.ireturn, 1) := by decide +kernel
theorem dL_leader_0 : decode cL_leader 0 = .ok (.aload_n 2, 1) := by decide +kernel
theorem dL_leader_1 : decode cL_leader 1 = .ok (.iconst 0, 1) := by decide +kernel
theorem dL_leader_2 : decode cL_leader 2 = .ok (.aload_n 0, 1) := by decide +kernel
theorem dL_leader_3 : decode cL_leader 3 = .ok (.iload_n 1, 1) := by decide +kernel
theorem dL_leader_4 : decode cL_leader 4 = .ok (.invokevirtual 56, 3) := by decide +kernel
theorem dL_leader_7 : decode cL_leader 7 = .ok (.i2l, 1) := by decide +kernel
theorem dL_leader_8 : decode cL_leader 8 = .ok (.lastore, 1) := by decide +kernel
theorem dL_leader_9 : decode cL_leader 9 = .ok (.goto 6, 3) := by decide +kernel
theorem dL_leader_12 : decode cL_leader 12 = .ok (.astore_n 3, 1) := by decide +kernel
theorem dL_leader_13 : decode cL_leader 13 = .ok (.iconst 1, 1) := by decide +kernel
theorem dL_leader_14 : decode cL_leader 14 = .ok (.ireturn, 1) := by decide +kernel
theorem dL_leader_15 : decode cL_leader 15 = .ok (.iconst 0, 1) := by decide +kernel
theorem dL_leader_16 : decode cL_leader 16 = .ok (.ireturn, 1) := by decide +kernel
theorem dL_patience_0 : decode cL_patience 0 = .ok (.aload_n 3, 1) := by decide +kernel
theorem dL_patience_1 : decode cL_patience 1 = .ok (.iconst 0, 1) := by decide +kernel
theorem dL_patience_2 : decode cL_patience 2 = .ok (.aload_n 0, 1) := by decide +kernel
theorem dL_patience_3 : decode cL_patience 3 = .ok (.iload_n 1, 1) := by decide +kernel
theorem dL_patience_4 : decode cL_patience 4 = .ok (.iload_n 2, 1) := by decide +kernel
theorem dL_patience_5 : decode cL_patience 5 = .ok (.invokevirtual 59, 3) := by decide +kernel
theorem dL_patience_8 : decode cL_patience 8 = .ok (.i2l, 1) := by decide +kernel
theorem dL_patience_9 : decode cL_patience 9 = .ok (.lastore, 1) := by decide +kernel
theorem dL_patience_10 : decode cL_patience 10 = .ok (.goto 7, 3) := by decide +kernel
theorem dL_patience_13 : decode cL_patience 13 = .ok (.astore 4, 2) := by decide +kernel
theorem dL_patience_15 : decode cL_patience 15 = .ok (.iconst 1, 1) := by decide +kernel
theorem dL_patience_16 : decode cL_patience 16 = .ok (.ireturn, 1) := by decide +kernel
theorem dL_patience_17 : decode cL_patience 17 = .ok (.iconst 0, 1) := by decide +kernel
theorem dL_patience_18 : decode cL_patience 18 = .ok (.ireturn, 1) := by decide +kernel
theorem dL_logLength_0 : decode cL_logLength 0 = .ok (.aload_n 2, 1) := by decide +kernel
theorem dL_logLength_1 : decode cL_logLength 1 = .ok (.iconst 0, 1) := by decide +kernel
theorem dL_logLength_2 : decode cL_logLength 2 = .ok (.aload_n 0, 1) := by decide +kernel
theorem dL_logLength_3 : decode cL_logLength 3 = .ok (.iload_n 1, 1) := by decide +kernel
theorem dL_logLength_4 : decode cL_logLength 4 = .ok (.invokevirtual 62, 3) := by decide +kernel
theorem dL_logLength_7 : decode cL_logLength 7 = .ok (.i2l, 1) := by decide +kernel
theorem dL_logLength_8 : decode cL_logLength 8 = .ok (.lastore, 1) := by decide +kernel
theorem dL_logLength_9 : decode cL_logLength 9 = .ok (.goto 6, 3) := by decide +kernel
theorem dL_logLength_12 : decode cL_logLength 12 = .ok (.astore_n 3, 1) := by decide +kernel
theorem dL_logLength_13 : decode cL_logLength 13 = .ok (.iconst 1, 1) := by decide +kernel
theorem dL_logLength_14 : decode cL_logLength 14 = .ok (.ireturn, 1) := by decide +kernel
theorem dL_logLength_15 : decode cL_logLength 15 = .ok (.iconst 0, 1) := by decide +kernel
theorem dL_logLength_16 : decode cL_logLength 16 = .ok (.ireturn, 1) := by decide +kernel
theorem dL_log_0 : decode cL_log 0 = .ok (.aload_n 3, 1) := by decide +kernel
theorem dL_log_1 : decode cL_log 1 = .ok (.iconst 0, 1) := by decide +kernel
theorem dL_log_2 : decode cL_log 2 = .ok (.aload_n 0, 1) := by decide +kernel
theorem dL_log_3 : decode cL_log 3 = .ok (.iload_n 1, 1) := by decide +kernel
theorem dL_log_4 : decode cL_log 4 = .ok (.iload_n 2, 1) := by decide +kernel
theorem dL_log_5 : decode cL_log 5 = .ok (.invokevirtual 65, 3) := by decide +kernel
theorem dL_log_8 : decode cL_log 8 = .ok (.i2l, 1) := by decide +kernel
theorem dL_log_9 : decode cL_log 9 = .ok (.lastore, 1) := by decide +kernel
theorem dL_log_10 : decode cL_log 10 = .ok (.goto 7, 3) := by decide +kernel
theorem dL_log_13 : decode cL_log 13 = .ok (.astore 4, 2) := by decide +kernel
theorem dL_log_15 : decode cL_log 15 = .ok (.iconst 1, 1) := by decide +kernel
theorem dL_log_16 : decode cL_log 16 = .ok (.ireturn, 1) := by decide +kernel
theorem dL_log_17 : decode cL_log 17 = .ok (.iconst 0, 1) := by decide +kernel
theorem dL_log_18 : decode cL_log 18 = .ok (.ireturn, 1) := by decide +kernel
theorem dL_held_0 : decode cL_held 0 = .ok (.aload_n 2, 1) := by decide +kernel
theorem dL_held_1 : decode cL_held 1 = .ok (.iconst 0, 1) := by decide +kernel
theorem dL_held_2 : decode cL_held 2 = .ok (.aload_n 0, 1) := by decide +kernel
theorem dL_held_3 : decode cL_held 3 = .ok (.iload_n 1, 1) := by decide +kernel
theorem dL_held_4 : decode cL_held 4 = .ok (.invokevirtual 68, 3) := by decide +kernel
theorem dL_held_7 : decode cL_held 7 = .ok (.i2l, 1) := by decide +kernel
theorem dL_held_8 : decode cL_held 8 = .ok (.lastore, 1) := by decide +kernel
theorem dL_held_9 : decode cL_held 9 = .ok (.goto 6, 3) := by decide +kernel
theorem dL_held_12 : decode cL_held 12 = .ok (.astore_n 3, 1) := by decide +kernel
theorem dL_held_13 : decode cL_held 13 = .ok (.iconst 1, 1) := by decide +kernel
theorem dL_held_14 : decode cL_held 14 = .ok (.ireturn, 1) := by decide +kernel
theorem dL_held_15 : decode cL_held 15 = .ok (.iconst 0, 1) := by decide +kernel
theorem dL_held_16 : decode cL_held 16 = .ok (.ireturn, 1) := by decide +kernel
theorem dL_reason_0 : decode cL_reason 0 = .ok (.aload_n 3, 1) := by decide +kernel
theorem dL_reason_1 : decode cL_reason 1 = .ok (.iconst 0, 1) := by decide +kernel
theorem dL_reason_2 : decode cL_reason 2 = .ok (.aload_n 0, 1) := by decide +kernel
theorem dL_reason_3 : decode cL_reason 3 = .ok (.iload_n 1, 1) := by decide +kernel
theorem dL_reason_4 : decode cL_reason 4 = .ok (.iload_n 2, 1) := by decide +kernel
theorem dL_reason_5 : decode cL_reason 5 = .ok (.invokevirtual 71, 3) := by decide +kernel
theorem dL_reason_8 : decode cL_reason 8 = .ok (.i2l, 1) := by decide +kernel
theorem dL_reason_9 : decode cL_reason 9 = .ok (.lastore, 1) := by decide +kernel
theorem dL_reason_10 : decode cL_reason 10 = .ok (.goto 7, 3) := by decide +kernel
theorem dL_reason_13 : decode cL_reason 13 = .ok (.astore 4, 2) := by decide +kernel
theorem dL_reason_15 : decode cL_reason 15 = .ok (.iconst 1, 1) := by decide +kernel
theorem dL_reason_16 : decode cL_reason 16 = .ok (.ireturn, 1) := by decide +kernel
theorem dL_reason_17 : decode cL_reason 17 = .ok (.iconst 0, 1) := by decide +kernel
theorem dL_reason_18 : decode cL_reason 18 = .ok (.ireturn, 1) := by decide +kernel
theorem dL_helper_0 : decode cL_helper 0 = .ok (.aload_n 3, 1) := by decide +kernel
theorem dL_helper_1 : decode cL_helper 1 = .ok (.iconst 0, 1) := by decide +kernel
theorem dL_helper_2 : decode cL_helper 2 = .ok (.aload_n 0, 1) := by decide +kernel
theorem dL_helper_3 : decode cL_helper 3 = .ok (.iload_n 1, 1) := by decide +kernel
theorem dL_helper_4 : decode cL_helper 4 = .ok (.iload_n 2, 1) := by decide +kernel
theorem dL_helper_5 : decode cL_helper 5 = .ok (.invokevirtual 74, 3) := by decide +kernel
theorem dL_helper_8 : decode cL_helper 8 = .ok (.i2l, 1) := by decide +kernel
theorem dL_helper_9 : decode cL_helper 9 = .ok (.lastore, 1) := by decide +kernel
theorem dL_helper_10 : decode cL_helper 10 = .ok (.goto 7, 3) := by decide +kernel
theorem dL_helper_13 : decode cL_helper 13 = .ok (.astore 4, 2) := by decide +kernel
theorem dL_helper_15 : decode cL_helper 15 = .ok (.iconst 1, 1) := by decide +kernel
theorem dL_helper_16 : decode cL_helper 16 = .ok (.ireturn, 1) := by decide +kernel
theorem dL_helper_17 : decode cL_helper 17 = .ok (.iconst 0, 1) := by decide +kernel
theorem dL_helper_18 : decode cL_helper 18 = .ok (.ireturn, 1) := by decide +kernel
theorem dL_ticksToEnd_0 : decode cL_ticksToEnd 0 = .ok (.aload_n 3, 1) := by decide +kernel
theorem dL_ticksToEnd_1 : decode cL_ticksToEnd 1 = .ok (.iconst 0, 1) := by decide +kernel
theorem dL_ticksToEnd_2 : decode cL_ticksToEnd 2 = .ok (.aload_n 0, 1) := by decide +kernel
theorem dL_ticksToEnd_3 : decode cL_ticksToEnd 3 = .ok (.iload_n 1, 1) := by decide +kernel
theorem dL_ticksToEnd_4 : decode cL_ticksToEnd 4 = .ok (.iload_n 2, 1) := by decide +kernel
theorem dL_ticksToEnd_5 : decode cL_ticksToEnd 5 = .ok (.invokevirtual 77, 3) := by decide +kernel
theorem dL_ticksToEnd_8 : decode cL_ticksToEnd 8 = .ok (.i2l, 1) := by decide +kernel
theorem dL_ticksToEnd_9 : decode cL_ticksToEnd 9 = .ok (.lastore, 1) := by decide +kernel
theorem dL_ticksToEnd_10 : decode cL_ticksToEnd 10 = .ok (.goto 7, 3) := by decide +kernel
theorem dL_ticksToEnd_13 : decode cL_ticksToEnd 13 = .ok (.astore 4, 2) := by decide +kernel
theorem dL_ticksToEnd_15 : decode cL_ticksToEnd 15 = .ok (.iconst 1, 1) := by decide +kernel
theorem dL_ticksToEnd_16 : decode cL_ticksToEnd 16 = .ok (.ireturn, 1) := by decide +kernel
theorem dL_ticksToEnd_17 : decode cL_ticksToEnd 17 = .ok (.iconst 0, 1) := by decide +kernel
theorem dL_ticksToEnd_18 : decode cL_ticksToEnd 18 = .ok (.ireturn, 1) := by decide +kernel
theorem dL_append_0 : decode cL_append 0 = .ok (.aload_n 2, 1) := by decide +kernel
theorem dL_append_1 : decode cL_append 1 = .ok (.iconst 0, 1) := by decide +kernel
theorem dL_append_2 : decode cL_append 2 = .ok (.aload_n 0, 1) := by decide +kernel
theorem dL_append_3 : decode cL_append 3 = .ok (.iload_n 1, 1) := by decide +kernel
theorem dL_append_4 : decode cL_append 4 = .ok (.invokevirtual 80, 3) := by decide +kernel
theorem dL_append_7 : decode cL_append 7 = .ok (.i2l, 1) := by decide +kernel
theorem dL_append_8 : decode cL_append 8 = .ok (.lastore, 1) := by decide +kernel
theorem dL_append_9 : decode cL_append 9 = .ok (.goto 9, 3) := by decide +kernel
theorem dL_append_12 : decode cL_append 12 = .ok (.astore_n 3, 1) := by decide +kernel
theorem dL_append_13 : decode cL_append 13 = .ok (.iconst 1, 1) := by decide +kernel
theorem dL_append_14 : decode cL_append 14 = .ok (.ireturn, 1) := by decide +kernel
theorem dL_append_15 : decode cL_append 15 = .ok (.astore_n 3, 1) := by decide +kernel
theorem dL_append_16 : decode cL_append 16 = .ok (.iconst 2, 1) := by decide +kernel
theorem dL_append_17 : decode cL_append 17 = .ok (.ireturn, 1) := by decide +kernel
theorem dL_append_18 : decode cL_append 18 = .ok (.iconst 0, 1) := by decide +kernel
theorem dL_append_19 : decode cL_append 19 = .ok (.ireturn, 1) := by decide +kernel
theorem dL_run_0 : decode cL_run 0 = .ok (.aload_n 1, 1) := by decide +kernel
theorem dL_run_1 : decode cL_run 1 = .ok (.iconst 0, 1) := by decide +kernel
theorem dL_run_2 : decode cL_run 2 = .ok (.aload_n 0, 1) := by decide +kernel
theorem dL_run_3 : decode cL_run 3 = .ok (.invokevirtual 83, 3) := by decide +kernel
theorem dL_run_6 : decode cL_run 6 = .ok (.i2l, 1) := by decide +kernel
theorem dL_run_7 : decode cL_run 7 = .ok (.lastore, 1) := by decide +kernel
theorem dL_run_8 : decode cL_run 8 = .ok (.goto 6, 3) := by decide +kernel
theorem dL_run_11 : decode cL_run 11 = .ok (.astore_n 2, 1) := by decide +kernel
theorem dL_run_12 : decode cL_run 12 = .ok (.iconst 1, 1) := by decide +kernel
theorem dL_run_13 : decode cL_run 13 = .ok (.ireturn, 1) := by decide +kernel
theorem dL_run_14 : decode cL_run 14 = .ok (.iconst 0, 1) := by decide +kernel
theorem dL_run_15 : decode cL_run 15 = .ok (.ireturn, 1) := by decide +kernel
theorem dL_undo_0 : decode cL_undo 0 = .ok (.aload_n 1, 1) := by decide +kernel
theorem dL_undo_1 : decode cL_undo 1 = .ok (.iconst 0, 1) := by decide +kernel
theorem dL_undo_2 : decode cL_undo 2 = .ok (.aload_n 0, 1) := by decide +kernel
theorem dL_undo_3 : decode cL_undo 3 = .ok (.invokevirtual 87, 3) := by decide +kernel
theorem dL_undo_6 : decode cL_undo 6 = .ok (.i2l, 1) := by decide +kernel
theorem dL_undo_7 : decode cL_undo 7 = .ok (.lastore, 1) := by decide +kernel
theorem dL_undo_8 : decode cL_undo 8 = .ok (.goto 6, 3) := by decide +kernel
theorem dL_undo_11 : decode cL_undo 11 = .ok (.astore_n 2, 1) := by decide +kernel
theorem dL_undo_12 : decode cL_undo 12 = .ok (.iconst 1, 1) := by decide +kernel
theorem dL_undo_13 : decode cL_undo 13 = .ok (.ireturn, 1) := by decide +kernel
theorem dL_undo_14 : decode cL_undo 14 = .ok (.iconst 0, 1) := by decide +kernel
theorem dL_undo_15 : decode cL_undo 15 = .ok (.ireturn, 1) := by decide +kernel
